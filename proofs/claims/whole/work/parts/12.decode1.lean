theorem d_Mo_valueAt_119 : decode b_Mo_valueAt 119 = .ok (.istore 6, 2) := by decide +kernel
theorem d_Mo_valueAt_121 : decode b_Mo_valueAt 121 = .ok (.iinc 7 1, 3) := by decide +kernel
theorem d_Mo_valueAt_124 : decode b_Mo_valueAt 124 = .ok (.goto (-85), 3) := by decide +kernel
theorem d_Mo_valueAt_127 : decode b_Mo_valueAt 127 = .ok (.aload_n 0, 1) := by decide +kernel
theorem d_Mo_valueAt_128 : decode b_Mo_valueAt 128 = .ok (.getfield 44, 3) := by decide +kernel
theorem d_Mo_valueAt_131 : decode b_Mo_valueAt 131 = .ok (.iload_n 3, 1) := by decide +kernel
theorem d_Mo_valueAt_132 : decode b_Mo_valueAt 132 = .ok (.bipush 61, 2) := by decide +kernel
theorem d_Mo_valueAt_134 : decode b_Mo_valueAt 134 = .ok (.imul, 1) := by decide +kernel
theorem d_Mo_valueAt_135 : decode b_Mo_valueAt 135 = .ok (.bipush 30, 2) := by decide +kernel
theorem d_Mo_valueAt_137 : decode b_Mo_valueAt 137 = .ok (.iadd, 1) := by decide +kernel
theorem d_Mo_valueAt_138 : decode b_Mo_valueAt 138 = .ok (.iload 5, 2) := by decide +kernel
theorem d_Mo_valueAt_140 : decode b_Mo_valueAt 140 = .ok (.iadd, 1) := by decide +kernel
theorem d_Mo_valueAt_141 : decode b_Mo_valueAt 141 = .ok (.aload_n 0, 1) := by decide +kernel
theorem d_Mo_valueAt_142 : decode b_Mo_valueAt 142 = .ok (.iload_n 3, 1) := by decide +kernel
theorem d_Mo_valueAt_143 : decode b_Mo_valueAt 143 = .ok (.iload 6, 2) := by decide +kernel
theorem d_Mo_valueAt_145 : decode b_Mo_valueAt 145 = .ok (.invokevirtual 88, 3) := by decide +kernel
theorem d_Mo_valueAt_148 : decode b_Mo_valueAt 148 = .ok (.iastore, 1) := by decide +kernel
theorem d_Mo_valueAt_149 : decode b_Mo_valueAt 149 = .ok (.iinc 5 1, 3) := by decide +kernel
theorem d_Mo_valueAt_152 : decode b_Mo_valueAt 152 = .ok (.goto (-133), 3) := by decide +kernel
theorem d_Mo_valueAt_155 : decode b_Mo_valueAt 155 = .ok (.iinc 3 1, 3) := by decide +kernel
theorem d_Mo_valueAt_158 : decode b_Mo_valueAt 158 = .ok (.goto (-156), 3) := by decide +kernel
theorem d_Mo_valueAt_161 : decode b_Mo_valueAt 161 = .ok (.aload_n 0, 1) := by decide +kernel
theorem d_Mo_valueAt_162 : decode b_Mo_valueAt 162 = .ok (.getfield 44, 3) := by decide +kernel
theorem d_Mo_valueAt_165 : decode b_Mo_valueAt 165 = .ok (.iload_n 1, 1) := by decide +kernel
theorem d_Mo_valueAt_166 : decode b_Mo_valueAt 166 = .ok (.bipush 61, 2) := by decide +kernel
theorem d_Mo_valueAt_168 : decode b_Mo_valueAt 168 = .ok (.imul, 1) := by decide +kernel
theorem d_Mo_valueAt_169 : decode b_Mo_valueAt 169 = .ok (.bipush 30, 2) := by decide +kernel
theorem d_Mo_valueAt_171 : decode b_Mo_valueAt 171 = .ok (.iadd, 1) := by decide +kernel
theorem d_Mo_valueAt_172 : decode b_Mo_valueAt 172 = .ok (.iaload, 1) := by decide +kernel
theorem d_Mo_valueAt_173 : decode b_Mo_valueAt 173 = .ok (.ireturn, 1) := by decide +kernel
theorem d_Mo_at_0 : decode b_Mo_at 0 = .ok (.aload_n 0, 1) := by decide +kernel
theorem d_Mo_at_1 : decode b_Mo_at 1 = .ok (.iload_n 1, 1) := by decide +kernel
theorem d_Mo_at_2 : decode b_Mo_at 2 = .ok (.invokevirtual 78, 3) := by decide +kernel
theorem d_Mo_at_5 : decode b_Mo_at 5 = .ok (.ifCond .ne 15, 3) := by decide +kernel
theorem d_Mo_at_8 : decode b_Mo_at 8 = .ok (.iload_n 2, 1) := by decide +kernel
theorem d_Mo_at_9 : decode b_Mo_at 9 = .ok (.bipush (-100), 2) := by decide +kernel
theorem d_Mo_at_11 : decode b_Mo_at 11 = .ok (.if_icmp .lt 9, 3) := by decide +kernel
theorem d_Mo_at_14 : decode b_Mo_at 14 = .ok (.iload_n 2, 1) := by decide +kernel
theorem d_Mo_at_15 : decode b_Mo_at 15 = .ok (.bipush 100, 2) := by decide +kernel
theorem d_Mo_at_17 : decode b_Mo_at 17 = .ok (.if_icmp .le 7, 3) := by decide +kernel
theorem d_Mo_at_20 : decode b_Mo_at 20 = .ok (.ldc2_w 92, 3) := by decide +kernel
theorem d_Mo_at_23 : decode b_Mo_at 23 = .ok (.lreturn, 1) := by decide +kernel
theorem d_Mo_at_24 : decode b_Mo_at 24 = .ok (.iconst 0, 1) := by decide +kernel
theorem d_Mo_at_25 : decode b_Mo_at 25 = .ok (.istore_n 3, 1) := by decide +kernel
theorem d_Mo_at_26 : decode b_Mo_at 26 = .ok (.iload_n 3, 1) := by decide +kernel
theorem d_Mo_at_27 : decode b_Mo_at 27 = .ok (.iload_n 1, 1) := by decide +kernel
theorem d_Mo_at_28 : decode b_Mo_at 28 = .ok (.if_icmp .gt 73, 3) := by decide +kernel
theorem d_Mo_at_31 : decode b_Mo_at 31 = .ok (.aload_n 0, 1) := by decide +kernel
theorem d_Mo_at_32 : decode b_Mo_at 32 = .ok (.getfield 57, 3) := by decide +kernel
theorem d_Mo_at_35 : decode b_Mo_at 35 = .ok (.iload_n 3, 1) := by decide +kernel
theorem d_Mo_at_36 : decode b_Mo_at 36 = .ok (.lconst 1, 1) := by decide +kernel
theorem d_Mo_at_37 : decode b_Mo_at 37 = .ok (.lastore, 1) := by decide +kernel
theorem d_Mo_at_38 : decode b_Mo_at 38 = .ok (.iload_n 3, 1) := by decide +kernel
theorem d_Mo_at_39 : decode b_Mo_at 39 = .ok (.iconst 4, 1) := by decide +kernel
theorem d_Mo_at_40 : decode b_Mo_at 40 = .ok (.imul, 1) := by decide +kernel
theorem d_Mo_at_41 : decode b_Mo_at 41 = .ok (.istore 4, 2) := by decide +kernel
theorem d_Mo_at_43 : decode b_Mo_at 43 = .ok (.iload 4, 2) := by decide +kernel
theorem d_Mo_at_45 : decode b_Mo_at 45 = .ok (.iload_n 3, 1) := by decide +kernel
theorem d_Mo_at_46 : decode b_Mo_at 46 = .ok (.iconst 4, 1) := by decide +kernel
theorem d_Mo_at_47 : decode b_Mo_at 47 = .ok (.imul, 1) := by decide +kernel
theorem d_Mo_at_48 : decode b_Mo_at 48 = .ok (.aload_n 0, 1) := by decide +kernel
theorem d_Mo_at_49 : decode b_Mo_at 49 = .ok (.getfield 31, 3) := by decide +kernel
theorem d_Mo_at_52 : decode b_Mo_at 52 = .ok (.iload_n 3, 1) := by decide +kernel
theorem d_Mo_at_53 : decode b_Mo_at 53 = .ok (.iaload, 1) := by decide +kernel
theorem d_Mo_at_54 : decode b_Mo_at 54 = .ok (.iadd, 1) := by decide +kernel
theorem d_Mo_at_55 : decode b_Mo_at 55 = .ok (.if_icmp .ge 40, 3) := by decide +kernel
theorem d_Mo_at_58 : decode b_Mo_at 58 = .ok (.aload_n 0, 1) := by decide +kernel
theorem d_Mo_at_59 : decode b_Mo_at 59 = .ok (.getfield 22, 3) := by decide +kernel
theorem d_Mo_at_62 : decode b_Mo_at 62 = .ok (.iload 4, 2) := by decide +kernel
theorem d_Mo_at_64 : decode b_Mo_at 64 = .ok (.iaload, 1) := by decide +kernel
theorem d_Mo_at_65 : decode b_Mo_at 65 = .ok (.ifCond .lt 24, 3) := by decide +kernel
theorem d_Mo_at_68 : decode b_Mo_at 68 = .ok (.aload_n 0, 1) := by decide +kernel
theorem d_Mo_at_69 : decode b_Mo_at 69 = .ok (.getfield 57, 3) := by decide +kernel
theorem d_Mo_at_72 : decode b_Mo_at 72 = .ok (.iload_n 3, 1) := by decide +kernel
theorem d_Mo_at_73 : decode b_Mo_at 73 = .ok (.dup2, 1) := by decide +kernel
theorem d_Mo_at_74 : decode b_Mo_at 74 = .ok (.laload, 1) := by decide +kernel
theorem d_Mo_at_75 : decode b_Mo_at 75 = .ok (.aload_n 0, 1) := by decide +kernel
theorem d_Mo_at_76 : decode b_Mo_at 76 = .ok (.getfield 57, 3) := by decide +kernel
theorem d_Mo_at_79 : decode b_Mo_at 79 = .ok (.aload_n 0, 1) := by decide +kernel
theorem d_Mo_at_80 : decode b_Mo_at 80 = .ok (.getfield 22, 3) := by decide +kernel
theorem d_Mo_at_83 : decode b_Mo_at 83 = .ok (.iload 4, 2) := by decide +kernel
theorem d_Mo_at_85 : decode b_Mo_at 85 = .ok (.iaload, 1) := by decide +kernel
theorem d_Mo_at_86 : decode b_Mo_at 86 = .ok (.laload, 1) := by decide +kernel
theorem d_Mo_at_87 : decode b_Mo_at 87 = .ok (.ladd, 1) := by decide +kernel
theorem d_Mo_at_88 : decode b_Mo_at 88 = .ok (.lastore, 1) := by decide +kernel
theorem d_Mo_at_89 : decode b_Mo_at 89 = .ok (.iinc 4 1, 3) := by decide +kernel
theorem d_Mo_at_92 : decode b_Mo_at 92 = .ok (.goto (-49), 3) := by decide +kernel
theorem d_Mo_at_95 : decode b_Mo_at 95 = .ok (.iinc 3 1, 3) := by decide +kernel
theorem d_Mo_at_98 : decode b_Mo_at 98 = .ok (.goto (-72), 3) := by decide +kernel
theorem d_Mo_at_101 : decode b_Mo_at 101 = .ok (.aload_n 0, 1) := by decide +kernel
theorem d_Mo_at_102 : decode b_Mo_at 102 = .ok (.getfield 57, 3) := by decide +kernel
theorem d_Mo_at_105 : decode b_Mo_at 105 = .ok (.iload_n 1, 1) := by decide +kernel
theorem d_Mo_at_106 : decode b_Mo_at 106 = .ok (.laload, 1) := by decide +kernel
theorem d_Mo_at_107 : decode b_Mo_at 107 = .ok (.ldc2_w 94, 3) := by decide +kernel
theorem d_Mo_at_110 : decode b_Mo_at 110 = .ok (.lcmp, 1) := by decide +kernel
theorem d_Mo_at_111 : decode b_Mo_at 111 = .ok (.ifCond .le 9, 3) := by decide +kernel
theorem d_Mo_at_114 : decode b_Mo_at 114 = .ok (.ldc2_w 92, 3) := by decide +kernel
theorem d_Mo_at_117 : decode b_Mo_at 117 = .ok (.goto 10, 3) := by decide +kernel
theorem d_Mo_at_120 : decode b_Mo_at 120 = .ok (.aload_n 0, 1) := by decide +kernel
theorem d_Mo_at_121 : decode b_Mo_at 121 = .ok (.iload_n 1, 1) := by decide +kernel
theorem d_Mo_at_122 : decode b_Mo_at 122 = .ok (.iload_n 2, 1) := by decide +kernel
theorem d_Mo_at_123 : decode b_Mo_at 123 = .ok (.invokevirtual 96, 3) := by decide +kernel
theorem d_Mo_at_126 : decode b_Mo_at 126 = .ok (.i2l, 1) := by decide +kernel
theorem d_Mo_at_127 : decode b_Mo_at 127 = .ok (.lreturn, 1) := by decide +kernel
theorem d_Mo_need_0 : decode b_Mo_need 0 = .ok (.iconst 0, 1) := by decide +kernel
theorem d_Mo_need_1 : decode b_Mo_need 1 = .ok (.istore_n 3, 1) := by decide +kernel
theorem d_Mo_need_2 : decode b_Mo_need 2 = .ok (.iload_n 3, 1) := by decide +kernel
theorem d_Mo_need_3 : decode b_Mo_need 3 = .ok (.bipush 8, 2) := by decide +kernel
theorem d_Mo_need_5 : decode b_Mo_need 5 = .ok (.if_icmp .ge 28, 3) := by decide +kernel
theorem d_Mo_need_8 : decode b_Mo_need 8 = .ok (.aload_n 0, 1) := by decide +kernel
theorem d_Mo_need_9 : decode b_Mo_need 9 = .ok (.getfield 47, 3) := by decide +kernel
theorem d_Mo_need_12 : decode b_Mo_need 12 = .ok (.iload_n 3, 1) := by decide +kernel
theorem d_Mo_need_13 : decode b_Mo_need 13 = .ok (.iload_n 3, 1) := by decide +kernel
theorem d_Mo_need_14 : decode b_Mo_need 14 = .ok (.aload_n 0, 1) := by decide +kernel
theorem d_Mo_need_15 : decode b_Mo_need 15 = .ok (.getfield 38, 3) := by decide +kernel
theorem d_Mo_need_18 : decode b_Mo_need 18 = .ok (.if_icmp .ne 7, 3) := by decide +kernel
theorem d_Mo_need_21 : decode b_Mo_need 21 = .ok (.iconst 1, 1) := by decide +kernel
theorem d_Mo_need_22 : decode b_Mo_need 22 = .ok (.goto 4, 3) := by decide +kernel
theorem d_Mo_need_25 : decode b_Mo_need 25 = .ok (.iconst 0, 1) := by decide +kernel
theorem d_Mo_need_26 : decode b_Mo_need 26 = .ok (.bastore, 1) := by decide +kernel
theorem d_Mo_need_27 : decode b_Mo_need 27 = .ok (.iinc 3 1, 3) := by decide +kernel
theorem d_Mo_need_30 : decode b_Mo_need 30 = .ok (.goto (-28), 3) := by decide +kernel
theorem d_Mo_need_33 : decode b_Mo_need 33 = .ok (.aload_n 0, 1) := by decide +kernel
theorem d_Mo_need_34 : decode b_Mo_need 34 = .ok (.getfield 51, 3) := by decide +kernel
theorem d_Mo_need_37 : decode b_Mo_need 37 = .ok (.aload_n 0, 1) := by decide +kernel
theorem d_Mo_need_38 : decode b_Mo_need 38 = .ok (.getfield 38, 3) := by decide +kernel
theorem d_Mo_need_41 : decode b_Mo_need 41 = .ok (.iload_n 1, 1) := by decide +kernel
theorem d_Mo_need_42 : decode b_Mo_need 42 = .ok (.iastore, 1) := by decide +kernel
theorem d_Mo_need_43 : decode b_Mo_need 43 = .ok (.aload_n 0, 1) := by decide +kernel
theorem d_Mo_need_44 : decode b_Mo_need 44 = .ok (.getfield 54, 3) := by decide +kernel
theorem d_Mo_need_47 : decode b_Mo_need 47 = .ok (.aload_n 0, 1) := by decide +kernel
theorem d_Mo_need_48 : decode b_Mo_need 48 = .ok (.getfield 38, 3) := by decide +kernel
theorem d_Mo_need_51 : decode b_Mo_need 51 = .ok (.iload_n 2, 1) := by decide +kernel
theorem d_Mo_need_52 : decode b_Mo_need 52 = .ok (.iastore, 1) := by decide +kernel
theorem d_Mo_need_53 : decode b_Mo_need 53 = .ok (.aload_n 0, 1) := by decide +kernel
theorem d_Mo_need_54 : decode b_Mo_need 54 = .ok (.getfield 38, 3) := by decide +kernel
theorem d_Mo_need_57 : decode b_Mo_need 57 = .ok (.istore_n 3, 1) := by decide +kernel
theorem d_Mo_need_58 : decode b_Mo_need 58 = .ok (.iload_n 3, 1) := by decide +kernel
theorem d_Mo_need_59 : decode b_Mo_need 59 = .ok (.ifCond .lt 61, 3) := by decide +kernel
theorem d_Mo_need_62 : decode b_Mo_need 62 = .ok (.iload_n 3, 1) := by decide +kernel
theorem d_Mo_need_63 : decode b_Mo_need 63 = .ok (.iconst 4, 1) := by decide +kernel
theorem d_Mo_need_64 : decode b_Mo_need 64 = .ok (.imul, 1) := by decide +kernel
theorem d_Mo_need_65 : decode b_Mo_need 65 = .ok (.istore 4, 2) := by decide +kernel
theorem d_Mo_need_67 : decode b_Mo_need 67 = .ok (.iload 4, 2) := by decide +kernel
theorem d_Mo_need_69 : decode b_Mo_need 69 = .ok (.iload_n 3, 1) := by decide +kernel
theorem d_Mo_need_70 : decode b_Mo_need 70 = .ok (.iconst 4, 1) := by decide +kernel
theorem d_Mo_need_71 : decode b_Mo_need 71 = .ok (.imul, 1) := by decide +kernel
theorem d_Mo_need_72 : decode b_Mo_need 72 = .ok (.aload_n 0, 1) := by decide +kernel
theorem d_Mo_need_73 : decode b_Mo_need 73 = .ok (.getfield 31, 3) := by decide +kernel
theorem d_Mo_need_76 : decode b_Mo_need 76 = .ok (.iload_n 3, 1) := by decide +kernel
theorem d_Mo_need_77 : decode b_Mo_need 77 = .ok (.iaload, 1) := by decide +kernel
theorem d_Mo_need_78 : decode b_Mo_need 78 = .ok (.iadd, 1) := by decide +kernel
theorem d_Mo_need_79 : decode b_Mo_need 79 = .ok (.if_icmp .ge 35, 3) := by decide +kernel
theorem d_Mo_need_82 : decode b_Mo_need 82 = .ok (.aload_n 0, 1) := by decide +kernel
theorem d_Mo_need_83 : decode b_Mo_need 83 = .ok (.getfield 47, 3) := by decide +kernel
theorem d_Mo_need_86 : decode b_Mo_need 86 = .ok (.iload_n 3, 1) := by decide +kernel
theorem d_Mo_need_87 : decode b_Mo_need 87 = .ok (.baload, 1) := by decide +kernel
theorem d_Mo_need_88 : decode b_Mo_need 88 = .ok (.ifCond .eq 20, 3) := by decide +kernel
theorem d_Mo_need_91 : decode b_Mo_need 91 = .ok (.aload_n 0, 1) := by decide +kernel
theorem d_Mo_need_92 : decode b_Mo_need 92 = .ok (.getfield 22, 3) := by decide +kernel
theorem d_Mo_need_95 : decode b_Mo_need 95 = .ok (.iload 4, 2) := by decide +kernel
theorem d_Mo_need_97 : decode b_Mo_need 97 = .ok (.iaload, 1) := by decide +kernel
theorem d_Mo_need_98 : decode b_Mo_need 98 = .ok (.ifCond .lt 10, 3) := by decide +kernel
theorem d_Mo_need_101 : decode b_Mo_need 101 = .ok (.aload_n 0, 1) := by decide +kernel
theorem d_Mo_need_102 : decode b_Mo_need 102 = .ok (.iload_n 3, 1) := by decide +kernel
theorem d_Mo_need_103 : decode b_Mo_need 103 = .ok (.iload 4, 2) := by decide +kernel
theorem d_Mo_need_105 : decode b_Mo_need 105 = .ok (.invokevirtual 99, 3) := by decide +kernel
theorem d_Mo_need_108 : decode b_Mo_need 108 = .ok (.iinc 4 1, 3) := by decide +kernel
theorem d_Mo_need_111 : decode b_Mo_need 111 = .ok (.goto (-44), 3) := by decide +kernel
theorem d_Mo_need_114 : decode b_Mo_need 114 = .ok (.iinc 3 (-1), 3) := by decide +kernel
theorem d_Mo_need_117 : decode b_Mo_need 117 = .ok (.goto (-59), 3) := by decide +kernel
theorem d_Mo_need_120 : decode b_Mo_need 120 = .ok (.return_, 1) := by decide +kernel
theorem d_Mo_spread_0 : decode b_Mo_spread 0 = .ok (.aload_n 0, 1) := by decide +kernel
theorem d_Mo_spread_1 : decode b_Mo_spread 1 = .ok (.getfield 22, 3) := by decide +kernel
theorem d_Mo_spread_4 : decode b_Mo_spread 4 = .ok (.iload_n 2, 1) := by decide +kernel
theorem d_Mo_spread_5 : decode b_Mo_spread 5 = .ok (.iaload, 1) := by decide +kernel
theorem d_Mo_spread_6 : decode b_Mo_spread 6 = .ok (.istore_n 3, 1) := by decide +kernel
theorem d_Mo_spread_7 : decode b_Mo_spread 7 = .ok (.aload_n 0, 1) := by decide +kernel
theorem d_Mo_spread_8 : decode b_Mo_spread 8 = .ok (.getfield 51, 3) := by decide +kernel
theorem d_Mo_spread_11 : decode b_Mo_spread 11 = .ok (.iload_n 1, 1) := by decide +kernel
theorem d_Mo_spread_12 : decode b_Mo_spread 12 = .ok (.iaload, 1) := by decide +kernel
theorem d_Mo_spread_13 : decode b_Mo_spread 13 = .ok (.aload_n 0, 1) := by decide +kernel
theorem d_Mo_spread_14 : decode b_Mo_spread 14 = .ok (.getfield 25, 3) := by decide +kernel
theorem d_Mo_spread_17 : decode b_Mo_spread 17 = .ok (.iload_n 2, 1) := by decide +kernel
theorem d_Mo_spread_18 : decode b_Mo_spread 18 = .ok (.iaload, 1) := by decide +kernel
theorem d_Mo_spread_19 : decode b_Mo_spread 19 = .ok (.iadd, 1) := by decide +kernel
theorem d_Mo_spread_20 : decode b_Mo_spread 20 = .ok (.istore 4, 2) := by decide +kernel
theorem d_Mo_spread_22 : decode b_Mo_spread 22 = .ok (.aload_n 0, 1) := by decide +kernel
theorem d_Mo_spread_23 : decode b_Mo_spread 23 = .ok (.getfield 54, 3) := by decide +kernel
theorem d_Mo_spread_26 : decode b_Mo_spread 26 = .ok (.iload_n 1, 1) := by decide +kernel
theorem d_Mo_spread_27 : decode b_Mo_spread 27 = .ok (.iaload, 1) := by decide +kernel
theorem d_Mo_spread_28 : decode b_Mo_spread 28 = .ok (.aload_n 0, 1) := by decide +kernel
theorem d_Mo_spread_29 : decode b_Mo_spread 29 = .ok (.getfield 25, 3) := by decide +kernel
theorem d_Mo_spread_32 : decode b_Mo_spread 32 = .ok (.iload_n 2, 1) := by decide +kernel
theorem d_Mo_spread_33 : decode b_Mo_spread 33 = .ok (.iaload, 1) := by decide +kernel
theorem d_Mo_spread_34 : decode b_Mo_spread 34 = .ok (.iadd, 1) := by decide +kernel
theorem d_Mo_spread_35 : decode b_Mo_spread 35 = .ok (.istore 5, 2) := by decide +kernel
theorem d_Mo_spread_37 : decode b_Mo_spread 37 = .ok (.aload_n 0, 1) := by decide +kernel
theorem d_Mo_spread_38 : decode b_Mo_spread 38 = .ok (.getfield 47, 3) := by decide +kernel
theorem d_Mo_spread_41 : decode b_Mo_spread 41 = .ok (.iload_n 3, 1) := by decide +kernel
theorem d_Mo_spread_42 : decode b_Mo_spread 42 = .ok (.baload, 1) := by decide +kernel
theorem d_Mo_spread_43 : decode b_Mo_spread 43 = .ok (.ifCond .eq 14, 3) := by decide +kernel
theorem d_Mo_spread_46 : decode b_Mo_spread 46 = .ok (.iload 4, 2) := by decide +kernel
theorem d_Mo_spread_48 : decode b_Mo_spread 48 = .ok (.aload_n 0, 1) := by decide +kernel
theorem d_Mo_spread_49 : decode b_Mo_spread 49 = .ok (.getfield 51, 3) := by decide +kernel
theorem d_Mo_spread_52 : decode b_Mo_spread 52 = .ok (.iload_n 3, 1) := by decide +kernel
theorem d_Mo_spread_53 : decode b_Mo_spread 53 = .ok (.iaload, 1) := by decide +kernel
theorem d_Mo_spread_54 : decode b_Mo_spread 54 = .ok (.if_icmp .ge 11, 3) := by decide +kernel
theorem d_Mo_spread_57 : decode b_Mo_spread 57 = .ok (.aload_n 0, 1) := by decide +kernel
theorem d_Mo_spread_58 : decode b_Mo_spread 58 = .ok (.getfield 51, 3) := by decide +kernel
theorem d_Mo_spread_61 : decode b_Mo_spread 61 = .ok (.iload_n 3, 1) := by decide +kernel
theorem d_Mo_spread_62 : decode b_Mo_spread 62 = .ok (.iload 4, 2) := by decide +kernel
theorem d_Mo_spread_64 : decode b_Mo_spread 64 = .ok (.iastore, 1) := by decide +kernel
theorem d_Mo_spread_65 : decode b_Mo_spread 65 = .ok (.aload_n 0, 1) := by decide +kernel
theorem d_Mo_spread_66 : decode b_Mo_spread 66 = .ok (.getfield 47, 3) := by decide +kernel
theorem d_Mo_spread_69 : decode b_Mo_spread 69 = .ok (.iload_n 3, 1) := by decide +kernel
theorem d_Mo_spread_70 : decode b_Mo_spread 70 = .ok (.baload, 1) := by decide +kernel
theorem d_Mo_spread_71 : decode b_Mo_spread 71 = .ok (.ifCond .eq 14, 3) := by decide +kernel
theorem d_Mo_spread_74 : decode b_Mo_spread 74 = .ok (.iload 5, 2) := by decide +kernel
theorem d_Mo_spread_76 : decode b_Mo_spread 76 = .ok (.aload_n 0, 1) := by decide +kernel
theorem d_Mo_spread_77 : decode b_Mo_spread 77 = .ok (.getfield 54, 3) := by decide +kernel
theorem d_Mo_spread_80 : decode b_Mo_spread 80 = .ok (.iload_n 3, 1) := by decide +kernel
theorem d_Mo_spread_81 : decode b_Mo_spread 81 = .ok (.iaload, 1) := by decide +kernel
theorem d_Mo_spread_82 : decode b_Mo_spread 82 = .ok (.if_icmp .le 11, 3) := by decide +kernel
theorem d_Mo_spread_85 : decode b_Mo_spread 85 = .ok (.aload_n 0, 1) := by decide +kernel
theorem d_Mo_spread_86 : decode b_Mo_spread 86 = .ok (.getfield 54, 3) := by decide +kernel
theorem d_Mo_spread_89 : decode b_Mo_spread 89 = .ok (.iload_n 3, 1) := by decide +kernel
theorem d_Mo_spread_90 : decode b_Mo_spread 90 = .ok (.iload 5, 2) := by decide +kernel
theorem d_Mo_spread_92 : decode b_Mo_spread 92 = .ok (.iastore, 1) := by decide +kernel
theorem d_Mo_spread_93 : decode b_Mo_spread 93 = .ok (.aload_n 0, 1) := by decide +kernel
theorem d_Mo_spread_94 : decode b_Mo_spread 94 = .ok (.getfield 47, 3) := by decide +kernel
theorem d_Mo_spread_97 : decode b_Mo_spread 97 = .ok (.iload_n 3, 1) := by decide +kernel
theorem d_Mo_spread_98 : decode b_Mo_spread 98 = .ok (.iconst 1, 1) := by decide +kernel
theorem d_Mo_spread_99 : decode b_Mo_spread 99 = .ok (.bastore, 1) := by decide +kernel
theorem d_Mo_spread_100 : decode b_Mo_spread 100 = .ok (.return_, 1) := by decide +kernel
theorem d_Mo_tiles_0 : decode b_Mo_tiles 0 = .ok (.aload_n 0, 1) := by decide +kernel
theorem d_Mo_tiles_1 : decode b_Mo_tiles 1 = .ok (.getfield 82, 3) := by decide +kernel
theorem d_Mo_tiles_4 : decode b_Mo_tiles 4 = .ok (.aload_n 0, 1) := by decide +kernel
theorem d_Mo_tiles_5 : decode b_Mo_tiles 5 = .ok (.getfield 34, 3) := by decide +kernel
theorem d_Mo_tiles_8 : decode b_Mo_tiles 8 = .ok (.iadd, 1) := by decide +kernel
theorem d_Mo_tiles_9 : decode b_Mo_tiles 9 = .ok (.iconst 1, 1) := by decide +kernel
theorem d_Mo_tiles_10 : decode b_Mo_tiles 10 = .ok (.isub, 1) := by decide +kernel
theorem d_Mo_tiles_11 : decode b_Mo_tiles 11 = .ok (.aload_n 0, 1) := by decide +kernel
theorem d_Mo_tiles_12 : decode b_Mo_tiles 12 = .ok (.getfield 34, 3) := by decide +kernel
theorem d_Mo_tiles_15 : decode b_Mo_tiles 15 = .ok (.idiv, 1) := by decide +kernel
theorem d_Mo_tiles_16 : decode b_Mo_tiles 16 = .ok (.ireturn, 1) := by decide +kernel
theorem d_Mo_needTile_0 : decode b_Mo_needTile 0 = .ok (.aload_n 0, 1) := by decide +kernel
theorem d_Mo_needTile_1 : decode b_Mo_needTile 1 = .ok (.iload_n 1, 1) := by decide +kernel
theorem d_Mo_needTile_2 : decode b_Mo_needTile 2 = .ok (.aload_n 0, 1) := by decide +kernel
theorem d_Mo_needTile_3 : decode b_Mo_needTile 3 = .ok (.getfield 34, 3) := by decide +kernel
theorem d_Mo_needTile_6 : decode b_Mo_needTile 6 = .ok (.imul, 1) := by decide +kernel
theorem d_Mo_needTile_7 : decode b_Mo_needTile 7 = .ok (.iload_n 1, 1) := by decide +kernel
theorem d_Mo_needTile_8 : decode b_Mo_needTile 8 = .ok (.aload_n 0, 1) := by decide +kernel
theorem d_Mo_needTile_9 : decode b_Mo_needTile 9 = .ok (.getfield 34, 3) := by decide +kernel
theorem d_Mo_needTile_12 : decode b_Mo_needTile 12 = .ok (.imul, 1) := by decide +kernel
theorem d_Mo_needTile_13 : decode b_Mo_needTile 13 = .ok (.aload_n 0, 1) := by decide +kernel
theorem d_Mo_needTile_14 : decode b_Mo_needTile 14 = .ok (.getfield 34, 3) := by decide +kernel
theorem d_Mo_needTile_17 : decode b_Mo_needTile 17 = .ok (.iadd, 1) := by decide +kernel
theorem d_Mo_needTile_18 : decode b_Mo_needTile 18 = .ok (.aload_n 0, 1) := by decide +kernel
theorem d_Mo_needTile_19 : decode b_Mo_needTile 19 = .ok (.getfield 82, 3) := by decide +kernel
theorem d_Mo_needTile_22 : decode b_Mo_needTile 22 = .ok (.if_icmp .ge 19, 3) := by decide +kernel
theorem d_Mo_needTile_25 : decode b_Mo_needTile 25 = .ok (.iload_n 1, 1) := by decide +kernel
theorem d_Mo_needTile_26 : decode b_Mo_needTile 26 = .ok (.aload_n 0, 1) := by decide +kernel
theorem d_Mo_needTile_27 : decode b_Mo_needTile 27 = .ok (.getfield 34, 3) := by decide +kernel
theorem d_Mo_needTile_30 : decode b_Mo_needTile 30 = .ok (.imul, 1) := by decide +kernel
theorem d_Mo_needTile_31 : decode b_Mo_needTile 31 = .ok (.aload_n 0, 1) := by decide +kernel
theorem d_Mo_needTile_32 : decode b_Mo_needTile 32 = .ok (.getfield 34, 3) := by decide +kernel
theorem d_Mo_needTile_35 : decode b_Mo_needTile 35 = .ok (.iadd, 1) := by decide +kernel
theorem d_Mo_needTile_36 : decode b_Mo_needTile 36 = .ok (.iconst 1, 1) := by decide +kernel
theorem d_Mo_needTile_37 : decode b_Mo_needTile 37 = .ok (.isub, 1) := by decide +kernel
theorem d_Mo_needTile_38 : decode b_Mo_needTile 38 = .ok (.goto 9, 3) := by decide +kernel
theorem d_Mo_needTile_41 : decode b_Mo_needTile 41 = .ok (.aload_n 0, 1) := by decide +kernel
theorem d_Mo_needTile_42 : decode b_Mo_needTile 42 = .ok (.getfield 82, 3) := by decide +kernel
theorem d_Mo_needTile_45 : decode b_Mo_needTile 45 = .ok (.iconst 1, 1) := by decide +kernel
theorem d_Mo_needTile_46 : decode b_Mo_needTile 46 = .ok (.isub, 1) := by decide +kernel
theorem d_Mo_needTile_47 : decode b_Mo_needTile 47 = .ok (.invokevirtual 103, 3) := by decide +kernel
theorem d_Mo_needTile_50 : decode b_Mo_needTile 50 = .ok (.return_, 1) := by decide +kernel
theorem d_Mo_kept_0 : decode b_Mo_kept 0 = .ok (.aload_n 0, 1) := by decide +kernel
theorem d_Mo_kept_1 : decode b_Mo_kept 1 = .ok (.getfield 47, 3) := by decide +kernel
theorem d_Mo_kept_4 : decode b_Mo_kept 4 = .ok (.iload_n 1, 1) := by decide +kernel
theorem d_Mo_kept_5 : decode b_Mo_kept 5 = .ok (.baload, 1) := by decide +kernel
theorem d_Mo_kept_6 : decode b_Mo_kept 6 = .ok (.ifCond .eq 25, 3) := by decide +kernel
theorem d_Mo_kept_9 : decode b_Mo_kept 9 = .ok (.iload_n 1, 1) := by decide +kernel
theorem d_Mo_kept_10 : decode b_Mo_kept 10 = .ok (.aload_n 0, 1) := by decide +kernel
theorem d_Mo_kept_11 : decode b_Mo_kept 11 = .ok (.getfield 38, 3) := by decide +kernel
theorem d_Mo_kept_14 : decode b_Mo_kept 14 = .ok (.if_icmp .eq 17, 3) := by decide +kernel
theorem d_Mo_kept_17 : decode b_Mo_kept 17 = .ok (.aload_n 0, 1) := by decide +kernel
theorem d_Mo_kept_18 : decode b_Mo_kept 18 = .ok (.getfield 19, 3) := by decide +kernel
theorem d_Mo_kept_21 : decode b_Mo_kept 21 = .ok (.iload_n 1, 1) := by decide +kernel
theorem d_Mo_kept_22 : decode b_Mo_kept 22 = .ok (.iaload, 1) := by decide +kernel
theorem d_Mo_kept_23 : decode b_Mo_kept 23 = .ok (.iload_n 2, 1) := by decide +kernel
theorem d_Mo_kept_24 : decode b_Mo_kept 24 = .ok (.if_icmp .ne 7, 3) := by decide +kernel
theorem d_Mo_kept_27 : decode b_Mo_kept 27 = .ok (.iconst 1, 1) := by decide +kernel
theorem d_Mo_kept_28 : decode b_Mo_kept 28 = .ok (.goto 4, 3) := by decide +kernel
theorem d_Mo_kept_31 : decode b_Mo_kept 31 = .ok (.iconst 0, 1) := by decide +kernel
theorem d_Mo_kept_32 : decode b_Mo_kept 32 = .ok (.ireturn, 1) := by decide +kernel
theorem d_Mo_total_0 : decode b_Mo_total 0 = .ok (.iconst 0, 1) := by decide +kernel
theorem d_Mo_total_1 : decode b_Mo_total 1 = .ok (.istore_n 1, 1) := by decide +kernel
theorem d_Mo_total_2 : decode b_Mo_total 2 = .ok (.iload_n 1, 1) := by decide +kernel
theorem d_Mo_total_3 : decode b_Mo_total 3 = .ok (.bipush 8, 2) := by decide +kernel
theorem d_Mo_total_5 : decode b_Mo_total 5 = .ok (.if_icmp .ge 16, 3) := by decide +kernel
theorem d_Mo_total_8 : decode b_Mo_total 8 = .ok (.aload_n 0, 1) := by decide +kernel
theorem d_Mo_total_9 : decode b_Mo_total 9 = .ok (.getfield 57, 3) := by decide +kernel
theorem d_Mo_total_12 : decode b_Mo_total 12 = .ok (.iload_n 1, 1) := by decide +kernel
theorem d_Mo_total_13 : decode b_Mo_total 13 = .ok (.lconst 0, 1) := by decide +kernel
theorem d_Mo_total_14 : decode b_Mo_total 14 = .ok (.lastore, 1) := by decide +kernel
theorem d_Mo_total_15 : decode b_Mo_total 15 = .ok (.iinc 1 1, 3) := by decide +kernel
theorem d_Mo_total_18 : decode b_Mo_total 18 = .ok (.goto (-16), 3) := by decide +kernel
theorem d_Mo_total_21 : decode b_Mo_total 21 = .ok (.aload_n 0, 1) := by decide +kernel
theorem d_Mo_total_22 : decode b_Mo_total 22 = .ok (.getfield 57, 3) := by decide +kernel
theorem d_Mo_total_25 : decode b_Mo_total 25 = .ok (.aload_n 0, 1) := by decide +kernel
theorem d_Mo_total_26 : decode b_Mo_total 26 = .ok (.getfield 38, 3) := by decide +kernel
theorem d_Mo_total_29 : decode b_Mo_total 29 = .ok (.aload_n 0, 1) := by decide +kernel
theorem d_Mo_total_30 : decode b_Mo_total 30 = .ok (.getfield 82, 3) := by decide +kernel
theorem d_Mo_total_33 : decode b_Mo_total 33 = .ok (.i2l, 1) := by decide +kernel
theorem d_Mo_total_34 : decode b_Mo_total 34 = .ok (.lastore, 1) := by decide +kernel
theorem d_Mo_total_35 : decode b_Mo_total 35 = .ok (.aload_n 0, 1) := by decide +kernel
theorem d_Mo_total_36 : decode b_Mo_total 36 = .ok (.iconst 0, 1) := by decide +kernel
theorem d_Mo_total_37 : decode b_Mo_total 37 = .ok (.aload_n 0, 1) := by decide +kernel
theorem d_Mo_total_38 : decode b_Mo_total 38 = .ok (.getfield 82, 3) := by decide +kernel
theorem d_Mo_total_41 : decode b_Mo_total 41 = .ok (.iconst 1, 1) := by decide +kernel
theorem d_Mo_total_42 : decode b_Mo_total 42 = .ok (.isub, 1) := by decide +kernel
theorem d_Mo_total_43 : decode b_Mo_total 43 = .ok (.invokevirtual 103, 3) := by decide +kernel
theorem d_Mo_total_46 : decode b_Mo_total 46 = .ok (.iconst 0, 1) := by decide +kernel
theorem d_Mo_total_47 : decode b_Mo_total 47 = .ok (.istore_n 1, 1) := by decide +kernel
theorem d_Mo_total_48 : decode b_Mo_total 48 = .ok (.iload_n 1, 1) := by decide +kernel
theorem d_Mo_total_49 : decode b_Mo_total 49 = .ok (.aload_n 0, 1) := by decide +kernel
theorem d_Mo_total_50 : decode b_Mo_total 50 = .ok (.getfield 38, 3) := by decide +kernel
theorem d_Mo_total_53 : decode b_Mo_total 53 = .ok (.if_icmp .ge 40, 3) := by decide +kernel
theorem d_Mo_total_56 : decode b_Mo_total 56 = .ok (.aload_n 0, 1) := by decide +kernel
theorem d_Mo_total_57 : decode b_Mo_total 57 = .ok (.iload_n 1, 1) := by decide +kernel
theorem d_Mo_total_58 : decode b_Mo_total 58 = .ok (.iconst 1, 1) := by decide +kernel
theorem d_Mo_total_59 : decode b_Mo_total 59 = .ok (.invokevirtual 106, 3) := by decide +kernel
theorem d_Mo_total_62 : decode b_Mo_total 62 = .ok (.ifCond .eq 25, 3) := by decide +kernel
theorem d_Mo_total_65 : decode b_Mo_total 65 = .ok (.aload_n 0, 1) := by decide +kernel
theorem d_Mo_total_66 : decode b_Mo_total 66 = .ok (.getfield 57, 3) := by decide +kernel
theorem d_Mo_total_69 : decode b_Mo_total 69 = .ok (.iload_n 1, 1) := by decide +kernel
theorem d_Mo_total_70 : decode b_Mo_total 70 = .ok (.aload_n 0, 1) := by decide +kernel
theorem d_Mo_total_71 : decode b_Mo_total 71 = .ok (.getfield 54, 3) := by decide +kernel
theorem d_Mo_total_74 : decode b_Mo_total 74 = .ok (.iload_n 1, 1) := by decide +kernel
theorem d_Mo_total_75 : decode b_Mo_total 75 = .ok (.iaload, 1) := by decide +kernel
theorem d_Mo_total_76 : decode b_Mo_total 76 = .ok (.aload_n 0, 1) := by decide +kernel
theorem d_Mo_total_77 : decode b_Mo_total 77 = .ok (.getfield 51, 3) := by decide +kernel
theorem d_Mo_total_80 : decode b_Mo_total 80 = .ok (.iload_n 1, 1) := by decide +kernel
theorem d_Mo_total_81 : decode b_Mo_total 81 = .ok (.iaload, 1) := by decide +kernel
theorem d_Mo_total_82 : decode b_Mo_total 82 = .ok (.isub, 1) := by decide +kernel
theorem d_Mo_total_83 : decode b_Mo_total 83 = .ok (.iconst 1, 1) := by decide +kernel
theorem d_Mo_total_84 : decode b_Mo_total 84 = .ok (.iadd, 1) := by decide +kernel
theorem d_Mo_total_85 : decode b_Mo_total 85 = .ok (.i2l, 1) := by decide +kernel
theorem d_Mo_total_86 : decode b_Mo_total 86 = .ok (.lastore, 1) := by decide +kernel
theorem d_Mo_total_87 : decode b_Mo_total 87 = .ok (.iinc 1 1, 3) := by decide +kernel
theorem d_Mo_total_90 : decode b_Mo_total 90 = .ok (.goto (-42), 3) := by decide +kernel
theorem d_Mo_total_93 : decode b_Mo_total 93 = .ok (.iconst 0, 1) := by decide +kernel
theorem d_Mo_total_94 : decode b_Mo_total 94 = .ok (.istore_n 1, 1) := by decide +kernel
theorem d_Mo_total_95 : decode b_Mo_total 95 = .ok (.iload_n 1, 1) := by decide +kernel
theorem d_Mo_total_96 : decode b_Mo_total 96 = .ok (.aload_n 0, 1) := by decide +kernel
theorem d_Mo_total_97 : decode b_Mo_total 97 = .ok (.invokevirtual 110, 3) := by decide +kernel
theorem d_Mo_total_100 : decode b_Mo_total 100 = .ok (.if_icmp .ge 64, 3) := by decide +kernel
theorem d_Mo_total_103 : decode b_Mo_total 103 = .ok (.aload_n 0, 1) := by decide +kernel
theorem d_Mo_total_104 : decode b_Mo_total 104 = .ok (.iload_n 1, 1) := by decide +kernel
theorem d_Mo_total_105 : decode b_Mo_total 105 = .ok (.invokevirtual 114, 3) := by decide +kernel
theorem d_Mo_total_108 : decode b_Mo_total 108 = .ok (.iconst 0, 1) := by decide +kernel
theorem d_Mo_total_109 : decode b_Mo_total 109 = .ok (.istore_n 2, 1) := by decide +kernel
theorem d_Mo_total_110 : decode b_Mo_total 110 = .ok (.iload_n 2, 1) := by decide +kernel
theorem d_Mo_total_111 : decode b_Mo_total 111 = .ok (.aload_n 0, 1) := by decide +kernel
theorem d_Mo_total_112 : decode b_Mo_total 112 = .ok (.getfield 38, 3) := by decide +kernel
theorem d_Mo_total_115 : decode b_Mo_total 115 = .ok (.if_icmp .ge 43, 3) := by decide +kernel
theorem d_Mo_total_118 : decode b_Mo_total 118 = .ok (.aload_n 0, 1) := by decide +kernel
theorem d_Mo_total_119 : decode b_Mo_total 119 = .ok (.iload_n 2, 1) := by decide +kernel
theorem d_Mo_total_120 : decode b_Mo_total 120 = .ok (.iconst 2, 1) := by decide +kernel
theorem d_Mo_total_121 : decode b_Mo_total 121 = .ok (.invokevirtual 106, 3) := by decide +kernel
theorem d_Mo_total_124 : decode b_Mo_total 124 = .ok (.ifCond .eq 28, 3) := by decide +kernel
theorem d_Mo_total_127 : decode b_Mo_total 127 = .ok (.aload_n 0, 1) := by decide +kernel
theorem d_Mo_total_128 : decode b_Mo_total 128 = .ok (.getfield 57, 3) := by decide +kernel
theorem d_Mo_total_131 : decode b_Mo_total 131 = .ok (.iload_n 2, 1) := by decide +kernel
theorem d_Mo_total_132 : decode b_Mo_total 132 = .ok (.dup2, 1) := by decide +kernel
theorem d_Mo_total_133 : decode b_Mo_total 133 = .ok (.laload, 1) := by decide +kernel
theorem d_Mo_total_134 : decode b_Mo_total 134 = .ok (.aload_n 0, 1) := by decide +kernel
theorem d_Mo_total_135 : decode b_Mo_total 135 = .ok (.getfield 54, 3) := by decide +kernel
theorem d_Mo_total_138 : decode b_Mo_total 138 = .ok (.iload_n 2, 1) := by decide +kernel
theorem d_Mo_total_139 : decode b_Mo_total 139 = .ok (.iaload, 1) := by decide +kernel
theorem d_Mo_total_140 : decode b_Mo_total 140 = .ok (.aload_n 0, 1) := by decide +kernel
theorem d_Mo_total_141 : decode b_Mo_total 141 = .ok (.getfield 51, 3) := by decide +kernel
theorem d_Mo_total_144 : decode b_Mo_total 144 = .ok (.iload_n 2, 1) := by decide +kernel
theorem d_Mo_total_145 : decode b_Mo_total 145 = .ok (.iaload, 1) := by decide +kernel
theorem d_Mo_total_146 : decode b_Mo_total 146 = .ok (.isub, 1) := by decide +kernel
theorem d_Mo_total_147 : decode b_Mo_total 147 = .ok (.iconst 1, 1) := by decide +kernel
theorem d_Mo_total_148 : decode b_Mo_total 148 = .ok (.iadd, 1) := by decide +kernel
theorem d_Mo_total_149 : decode b_Mo_total 149 = .ok (.i2l, 1) := by decide +kernel
theorem d_Mo_total_150 : decode b_Mo_total 150 = .ok (.ladd, 1) := by decide +kernel
theorem d_Mo_total_151 : decode b_Mo_total 151 = .ok (.lastore, 1) := by decide +kernel
theorem d_Mo_total_152 : decode b_Mo_total 152 = .ok (.iinc 2 1, 3) := by decide +kernel
theorem d_Mo_total_155 : decode b_Mo_total 155 = .ok (.goto (-45), 3) := by decide +kernel
theorem d_Mo_total_158 : decode b_Mo_total 158 = .ok (.iinc 1 1, 3) := by decide +kernel
theorem d_Mo_total_161 : decode b_Mo_total 161 = .ok (.goto (-66), 3) := by decide +kernel
theorem d_Mo_total_164 : decode b_Mo_total 164 = .ok (.lconst 0, 1) := by decide +kernel
theorem d_Mo_total_165 : decode b_Mo_total 165 = .ok (.lstore_n 1, 1) := by decide +kernel
theorem d_Mo_total_166 : decode b_Mo_total 166 = .ok (.aload_n 0, 1) := by decide +kernel
theorem d_Mo_total_167 : decode b_Mo_total 167 = .ok (.getfield 38, 3) := by decide +kernel
theorem d_Mo_total_170 : decode b_Mo_total 170 = .ok (.istore_n 3, 1) := by decide +kernel
