theorem d_Mo_init_0 : decode b_Mo_init 0 = .ok (.aload_n 0, 1) := by decide +kernel
theorem d_Mo_init_1 : decode b_Mo_init 1 = .ok (.invokespecial 1, 3) := by decide +kernel
theorem d_Mo_init_4 : decode b_Mo_init 4 = .ok (.aload_n 0, 1) := by decide +kernel
theorem d_Mo_init_5 : decode b_Mo_init 5 = .ok (.bipush 24, 2) := by decide +kernel
theorem d_Mo_init_7 : decode b_Mo_init 7 = .ok (.newarray .int, 2) := by decide +kernel
theorem d_Mo_init_9 : decode b_Mo_init 9 = .ok (.putfield 7, 3) := by decide +kernel
theorem d_Mo_init_12 : decode b_Mo_init 12 = .ok (.aload_n 0, 1) := by decide +kernel
theorem d_Mo_init_13 : decode b_Mo_init 13 = .ok (.bipush 8, 2) := by decide +kernel
theorem d_Mo_init_15 : decode b_Mo_init 15 = .ok (.newarray .int, 2) := by decide +kernel
theorem d_Mo_init_17 : decode b_Mo_init 17 = .ok (.putfield 13, 3) := by decide +kernel
theorem d_Mo_init_20 : decode b_Mo_init 20 = .ok (.aload_n 0, 1) := by decide +kernel
theorem d_Mo_init_21 : decode b_Mo_init 21 = .ok (.bipush 8, 2) := by decide +kernel
theorem d_Mo_init_23 : decode b_Mo_init 23 = .ok (.newarray .int, 2) := by decide +kernel
theorem d_Mo_init_25 : decode b_Mo_init 25 = .ok (.putfield 16, 3) := by decide +kernel
theorem d_Mo_init_28 : decode b_Mo_init 28 = .ok (.aload_n 0, 1) := by decide +kernel
theorem d_Mo_init_29 : decode b_Mo_init 29 = .ok (.bipush 8, 2) := by decide +kernel
theorem d_Mo_init_31 : decode b_Mo_init 31 = .ok (.newarray .int, 2) := by decide +kernel
theorem d_Mo_init_33 : decode b_Mo_init 33 = .ok (.putfield 19, 3) := by decide +kernel
theorem d_Mo_init_36 : decode b_Mo_init 36 = .ok (.aload_n 0, 1) := by decide +kernel
theorem d_Mo_init_37 : decode b_Mo_init 37 = .ok (.bipush 32, 2) := by decide +kernel
theorem d_Mo_init_39 : decode b_Mo_init 39 = .ok (.newarray .int, 2) := by decide +kernel
theorem d_Mo_init_41 : decode b_Mo_init 41 = .ok (.putfield 22, 3) := by decide +kernel
theorem d_Mo_init_44 : decode b_Mo_init 44 = .ok (.aload_n 0, 1) := by decide +kernel
theorem d_Mo_init_45 : decode b_Mo_init 45 = .ok (.bipush 32, 2) := by decide +kernel
theorem d_Mo_init_47 : decode b_Mo_init 47 = .ok (.newarray .int, 2) := by decide +kernel
theorem d_Mo_init_49 : decode b_Mo_init 49 = .ok (.putfield 25, 3) := by decide +kernel
theorem d_Mo_init_52 : decode b_Mo_init 52 = .ok (.aload_n 0, 1) := by decide +kernel
theorem d_Mo_init_53 : decode b_Mo_init 53 = .ok (.bipush 32, 2) := by decide +kernel
theorem d_Mo_init_55 : decode b_Mo_init 55 = .ok (.newarray .int, 2) := by decide +kernel
theorem d_Mo_init_57 : decode b_Mo_init 57 = .ok (.putfield 28, 3) := by decide +kernel
theorem d_Mo_init_60 : decode b_Mo_init 60 = .ok (.aload_n 0, 1) := by decide +kernel
theorem d_Mo_init_61 : decode b_Mo_init 61 = .ok (.bipush 8, 2) := by decide +kernel
theorem d_Mo_init_63 : decode b_Mo_init 63 = .ok (.newarray .int, 2) := by decide +kernel
theorem d_Mo_init_65 : decode b_Mo_init 65 = .ok (.putfield 31, 3) := by decide +kernel
theorem d_Mo_init_68 : decode b_Mo_init 68 = .ok (.aload_n 0, 1) := by decide +kernel
theorem d_Mo_init_69 : decode b_Mo_init 69 = .ok (.iconst 4, 1) := by decide +kernel
theorem d_Mo_init_70 : decode b_Mo_init 70 = .ok (.putfield 34, 3) := by decide +kernel
theorem d_Mo_init_73 : decode b_Mo_init 73 = .ok (.aload_n 0, 1) := by decide +kernel
theorem d_Mo_init_74 : decode b_Mo_init 74 = .ok (.iconst (-1), 1) := by decide +kernel
theorem d_Mo_init_75 : decode b_Mo_init 75 = .ok (.putfield 38, 3) := by decide +kernel
theorem d_Mo_init_78 : decode b_Mo_init 78 = .ok (.aload_n 0, 1) := by decide +kernel
theorem d_Mo_init_79 : decode b_Mo_init 79 = .ok (.bipush 32, 2) := by decide +kernel
theorem d_Mo_init_81 : decode b_Mo_init 81 = .ok (.newarray .int, 2) := by decide +kernel
theorem d_Mo_init_83 : decode b_Mo_init 83 = .ok (.putfield 41, 3) := by decide +kernel
theorem d_Mo_init_86 : decode b_Mo_init 86 = .ok (.aload_n 0, 1) := by decide +kernel
theorem d_Mo_init_87 : decode b_Mo_init 87 = .ok (.sipush 488, 3) := by decide +kernel
theorem d_Mo_init_90 : decode b_Mo_init 90 = .ok (.newarray .int, 2) := by decide +kernel
theorem d_Mo_init_92 : decode b_Mo_init 92 = .ok (.putfield 44, 3) := by decide +kernel
theorem d_Mo_init_95 : decode b_Mo_init 95 = .ok (.aload_n 0, 1) := by decide +kernel
theorem d_Mo_init_96 : decode b_Mo_init 96 = .ok (.bipush 8, 2) := by decide +kernel
theorem d_Mo_init_98 : decode b_Mo_init 98 = .ok (.newarray .boolean, 2) := by decide +kernel
theorem d_Mo_init_100 : decode b_Mo_init 100 = .ok (.putfield 47, 3) := by decide +kernel
theorem d_Mo_init_103 : decode b_Mo_init 103 = .ok (.aload_n 0, 1) := by decide +kernel
theorem d_Mo_init_104 : decode b_Mo_init 104 = .ok (.bipush 8, 2) := by decide +kernel
theorem d_Mo_init_106 : decode b_Mo_init 106 = .ok (.newarray .int, 2) := by decide +kernel
theorem d_Mo_init_108 : decode b_Mo_init 108 = .ok (.putfield 51, 3) := by decide +kernel
theorem d_Mo_init_111 : decode b_Mo_init 111 = .ok (.aload_n 0, 1) := by decide +kernel
theorem d_Mo_init_112 : decode b_Mo_init 112 = .ok (.bipush 8, 2) := by decide +kernel
theorem d_Mo_init_114 : decode b_Mo_init 114 = .ok (.newarray .int, 2) := by decide +kernel
theorem d_Mo_init_116 : decode b_Mo_init 116 = .ok (.putfield 54, 3) := by decide +kernel
theorem d_Mo_init_119 : decode b_Mo_init 119 = .ok (.aload_n 0, 1) := by decide +kernel
theorem d_Mo_init_120 : decode b_Mo_init 120 = .ok (.bipush 8, 2) := by decide +kernel
theorem d_Mo_init_122 : decode b_Mo_init 122 = .ok (.newarray .long, 2) := by decide +kernel
theorem d_Mo_init_124 : decode b_Mo_init 124 = .ok (.putfield 57, 3) := by decide +kernel
theorem d_Mo_init_127 : decode b_Mo_init 127 = .ok (.aload_n 0, 1) := by decide +kernel
theorem d_Mo_init_128 : decode b_Mo_init 128 = .ok (.iload_n 1, 1) := by decide +kernel
theorem d_Mo_init_129 : decode b_Mo_init 129 = .ok (.iconst 1, 1) := by decide +kernel
theorem d_Mo_init_130 : decode b_Mo_init 130 = .ok (.if_icmp .ge 7, 3) := by decide +kernel
theorem d_Mo_init_133 : decode b_Mo_init 133 = .ok (.iconst 1, 1) := by decide +kernel
theorem d_Mo_init_134 : decode b_Mo_init 134 = .ok (.goto 15, 3) := by decide +kernel
theorem d_Mo_init_137 : decode b_Mo_init 137 = .ok (.iload_n 1, 1) := by decide +kernel
theorem d_Mo_init_138 : decode b_Mo_init 138 = .ok (.bipush 24, 2) := by decide +kernel
theorem d_Mo_init_140 : decode b_Mo_init 140 = .ok (.if_icmp .le 8, 3) := by decide +kernel
theorem d_Mo_init_143 : decode b_Mo_init 143 = .ok (.bipush 24, 2) := by decide +kernel
theorem d_Mo_init_145 : decode b_Mo_init 145 = .ok (.goto 4, 3) := by decide +kernel
theorem d_Mo_init_148 : decode b_Mo_init 148 = .ok (.iload_n 1, 1) := by decide +kernel
theorem d_Mo_init_149 : decode b_Mo_init 149 = .ok (.putfield 61, 3) := by decide +kernel
theorem d_Mo_init_152 : decode b_Mo_init 152 = .ok (.return_, 1) := by decide +kernel
theorem d_Mo_no_0 : decode b_Mo_no 0 = .ok (.iload_n 1, 1) := by decide +kernel
theorem d_Mo_no_1 : decode b_Mo_no 1 = .ok (.ifCond .lt 11, 3) := by decide +kernel
theorem d_Mo_no_4 : decode b_Mo_no 4 = .ok (.iload_n 1, 1) := by decide +kernel
theorem d_Mo_no_5 : decode b_Mo_no 5 = .ok (.aload_n 0, 1) := by decide +kernel
theorem d_Mo_no_6 : decode b_Mo_no 6 = .ok (.getfield 64, 3) := by decide +kernel
theorem d_Mo_no_9 : decode b_Mo_no 9 = .ok (.if_icmp .lt 7, 3) := by decide +kernel
theorem d_Mo_no_12 : decode b_Mo_no 12 = .ok (.iconst 1, 1) := by decide +kernel
theorem d_Mo_no_13 : decode b_Mo_no 13 = .ok (.goto 4, 3) := by decide +kernel
theorem d_Mo_no_16 : decode b_Mo_no 16 = .ok (.iconst 0, 1) := by decide +kernel
theorem d_Mo_no_17 : decode b_Mo_no 17 = .ok (.ireturn, 1) := by decide +kernel
theorem d_Mo_changed_0 : decode b_Mo_changed 0 = .ok (.aload_n 0, 1) := by decide +kernel
theorem d_Mo_changed_1 : decode b_Mo_changed 1 = .ok (.iconst 0, 1) := by decide +kernel
theorem d_Mo_changed_2 : decode b_Mo_changed 2 = .ok (.putfield 67, 3) := by decide +kernel
theorem d_Mo_changed_5 : decode b_Mo_changed 5 = .ok (.aload_n 0, 1) := by decide +kernel
theorem d_Mo_changed_6 : decode b_Mo_changed 6 = .ok (.iconst 0, 1) := by decide +kernel
theorem d_Mo_changed_7 : decode b_Mo_changed 7 = .ok (.putfield 71, 3) := by decide +kernel
theorem d_Mo_changed_10 : decode b_Mo_changed 10 = .ok (.iload_n 1, 1) := by decide +kernel
theorem d_Mo_changed_11 : decode b_Mo_changed 11 = .ok (.ireturn, 1) := by decide +kernel
theorem d_Mo_input_0 : decode b_Mo_input 0 = .ok (.iload_n 1, 1) := by decide +kernel
theorem d_Mo_input_1 : decode b_Mo_input 1 = .ok (.ifCond .lt 11, 3) := by decide +kernel
theorem d_Mo_input_4 : decode b_Mo_input 4 = .ok (.iload_n 1, 1) := by decide +kernel
theorem d_Mo_input_5 : decode b_Mo_input 5 = .ok (.aload_n 0, 1) := by decide +kernel
theorem d_Mo_input_6 : decode b_Mo_input 6 = .ok (.getfield 61, 3) := by decide +kernel
theorem d_Mo_input_9 : decode b_Mo_input 9 = .ok (.if_icmp .lt 5, 3) := by decide +kernel
theorem d_Mo_input_12 : decode b_Mo_input 12 = .ok (.iconst (-1), 1) := by decide +kernel
theorem d_Mo_input_13 : decode b_Mo_input 13 = .ok (.ireturn, 1) := by decide +kernel
theorem d_Mo_input_14 : decode b_Mo_input 14 = .ok (.aload_n 0, 1) := by decide +kernel
theorem d_Mo_input_15 : decode b_Mo_input 15 = .ok (.getfield 7, 3) := by decide +kernel
theorem d_Mo_input_18 : decode b_Mo_input 18 = .ok (.iload_n 1, 1) := by decide +kernel
theorem d_Mo_input_19 : decode b_Mo_input 19 = .ok (.iload_n 2, 1) := by decide +kernel
theorem d_Mo_input_20 : decode b_Mo_input 20 = .ok (.iastore, 1) := by decide +kernel
theorem d_Mo_input_21 : decode b_Mo_input 21 = .ok (.aload_n 0, 1) := by decide +kernel
theorem d_Mo_input_22 : decode b_Mo_input 22 = .ok (.iconst 0, 1) := by decide +kernel
theorem d_Mo_input_23 : decode b_Mo_input 23 = .ok (.invokevirtual 74, 3) := by decide +kernel
theorem d_Mo_input_26 : decode b_Mo_input 26 = .ok (.ireturn, 1) := by decide +kernel
theorem d_Mo_stage_0 : decode b_Mo_stage 0 = .ok (.iload_n 2, 1) := by decide +kernel
theorem d_Mo_stage_1 : decode b_Mo_stage 1 = .ok (.ifCond .lt 8, 3) := by decide +kernel
theorem d_Mo_stage_4 : decode b_Mo_stage 4 = .ok (.iload_n 2, 1) := by decide +kernel
theorem d_Mo_stage_5 : decode b_Mo_stage 5 = .ok (.iconst 3, 1) := by decide +kernel
theorem d_Mo_stage_6 : decode b_Mo_stage 6 = .ok (.if_icmp .le 5, 3) := by decide +kernel
theorem d_Mo_stage_9 : decode b_Mo_stage 9 = .ok (.iconst (-1), 1) := by decide +kernel
theorem d_Mo_stage_10 : decode b_Mo_stage 10 = .ok (.ireturn, 1) := by decide +kernel
theorem d_Mo_stage_11 : decode b_Mo_stage 11 = .ok (.aload_n 0, 1) := by decide +kernel
theorem d_Mo_stage_12 : decode b_Mo_stage 12 = .ok (.getfield 64, 3) := by decide +kernel
theorem d_Mo_stage_15 : decode b_Mo_stage 15 = .ok (.bipush 8, 2) := by decide +kernel
theorem d_Mo_stage_17 : decode b_Mo_stage 17 = .ok (.if_icmp .ne 6, 3) := by decide +kernel
theorem d_Mo_stage_20 : decode b_Mo_stage 20 = .ok (.bipush (-2), 2) := by decide +kernel
theorem d_Mo_stage_22 : decode b_Mo_stage 22 = .ok (.ireturn, 1) := by decide +kernel
theorem d_Mo_stage_23 : decode b_Mo_stage 23 = .ok (.aload_n 0, 1) := by decide +kernel
theorem d_Mo_stage_24 : decode b_Mo_stage 24 = .ok (.getfield 13, 3) := by decide +kernel
theorem d_Mo_stage_27 : decode b_Mo_stage 27 = .ok (.aload_n 0, 1) := by decide +kernel
theorem d_Mo_stage_28 : decode b_Mo_stage 28 = .ok (.getfield 64, 3) := by decide +kernel
theorem d_Mo_stage_31 : decode b_Mo_stage 31 = .ok (.iload_n 1, 1) := by decide +kernel
theorem d_Mo_stage_32 : decode b_Mo_stage 32 = .ok (.iastore, 1) := by decide +kernel
theorem d_Mo_stage_33 : decode b_Mo_stage 33 = .ok (.aload_n 0, 1) := by decide +kernel
theorem d_Mo_stage_34 : decode b_Mo_stage 34 = .ok (.getfield 16, 3) := by decide +kernel
theorem d_Mo_stage_37 : decode b_Mo_stage 37 = .ok (.aload_n 0, 1) := by decide +kernel
theorem d_Mo_stage_38 : decode b_Mo_stage 38 = .ok (.getfield 64, 3) := by decide +kernel
theorem d_Mo_stage_41 : decode b_Mo_stage 41 = .ok (.iload_n 2, 1) := by decide +kernel
theorem d_Mo_stage_42 : decode b_Mo_stage 42 = .ok (.iastore, 1) := by decide +kernel
theorem d_Mo_stage_43 : decode b_Mo_stage 43 = .ok (.aload_n 0, 1) := by decide +kernel
theorem d_Mo_stage_44 : decode b_Mo_stage 44 = .ok (.dup, 1) := by decide +kernel
theorem d_Mo_stage_45 : decode b_Mo_stage 45 = .ok (.getfield 64, 3) := by decide +kernel
theorem d_Mo_stage_48 : decode b_Mo_stage 48 = .ok (.iconst 1, 1) := by decide +kernel
theorem d_Mo_stage_49 : decode b_Mo_stage 49 = .ok (.iadd, 1) := by decide +kernel
theorem d_Mo_stage_50 : decode b_Mo_stage 50 = .ok (.putfield 64, 3) := by decide +kernel
theorem d_Mo_stage_53 : decode b_Mo_stage 53 = .ok (.aload_n 0, 1) := by decide +kernel
theorem d_Mo_stage_54 : decode b_Mo_stage 54 = .ok (.aload_n 0, 1) := by decide +kernel
theorem d_Mo_stage_55 : decode b_Mo_stage 55 = .ok (.getfield 64, 3) := by decide +kernel
theorem d_Mo_stage_58 : decode b_Mo_stage 58 = .ok (.iconst 1, 1) := by decide +kernel
theorem d_Mo_stage_59 : decode b_Mo_stage 59 = .ok (.isub, 1) := by decide +kernel
theorem d_Mo_stage_60 : decode b_Mo_stage 60 = .ok (.invokevirtual 74, 3) := by decide +kernel
theorem d_Mo_stage_63 : decode b_Mo_stage 63 = .ok (.ireturn, 1) := by decide +kernel
theorem d_Mo_tap_0 : decode b_Mo_tap 0 = .ok (.aload_n 0, 1) := by decide +kernel
theorem d_Mo_tap_1 : decode b_Mo_tap 1 = .ok (.iload_n 1, 1) := by decide +kernel
theorem d_Mo_tap_2 : decode b_Mo_tap 2 = .ok (.invokevirtual 78, 3) := by decide +kernel
theorem d_Mo_tap_5 : decode b_Mo_tap 5 = .ok (.ifCond .ne 24, 3) := by decide +kernel
theorem d_Mo_tap_8 : decode b_Mo_tap 8 = .ok (.iload_n 2, 1) := by decide +kernel
theorem d_Mo_tap_9 : decode b_Mo_tap 9 = .ok (.iconst (-1), 1) := by decide +kernel
theorem d_Mo_tap_10 : decode b_Mo_tap 10 = .ok (.if_icmp .lt 19, 3) := by decide +kernel
theorem d_Mo_tap_13 : decode b_Mo_tap 13 = .ok (.iload_n 2, 1) := by decide +kernel
theorem d_Mo_tap_14 : decode b_Mo_tap 14 = .ok (.iload_n 1, 1) := by decide +kernel
theorem d_Mo_tap_15 : decode b_Mo_tap 15 = .ok (.if_icmp .ge 14, 3) := by decide +kernel
theorem d_Mo_tap_18 : decode b_Mo_tap 18 = .ok (.iload_n 3, 1) := by decide +kernel
theorem d_Mo_tap_19 : decode b_Mo_tap 19 = .ok (.bipush (-4), 2) := by decide +kernel
theorem d_Mo_tap_21 : decode b_Mo_tap 21 = .ok (.if_icmp .lt 8, 3) := by decide +kernel
theorem d_Mo_tap_24 : decode b_Mo_tap 24 = .ok (.iload_n 3, 1) := by decide +kernel
theorem d_Mo_tap_25 : decode b_Mo_tap 25 = .ok (.iconst 4, 1) := by decide +kernel
theorem d_Mo_tap_26 : decode b_Mo_tap 26 = .ok (.if_icmp .le 5, 3) := by decide +kernel
theorem d_Mo_tap_29 : decode b_Mo_tap 29 = .ok (.iconst (-1), 1) := by decide +kernel
theorem d_Mo_tap_30 : decode b_Mo_tap 30 = .ok (.ireturn, 1) := by decide +kernel
theorem d_Mo_tap_31 : decode b_Mo_tap 31 = .ok (.aload_n 0, 1) := by decide +kernel
theorem d_Mo_tap_32 : decode b_Mo_tap 32 = .ok (.getfield 31, 3) := by decide +kernel
theorem d_Mo_tap_35 : decode b_Mo_tap 35 = .ok (.iload_n 1, 1) := by decide +kernel
theorem d_Mo_tap_36 : decode b_Mo_tap 36 = .ok (.iaload, 1) := by decide +kernel
theorem d_Mo_tap_37 : decode b_Mo_tap 37 = .ok (.iconst 4, 1) := by decide +kernel
theorem d_Mo_tap_38 : decode b_Mo_tap 38 = .ok (.if_icmp .ne 6, 3) := by decide +kernel
theorem d_Mo_tap_41 : decode b_Mo_tap 41 = .ok (.bipush (-2), 2) := by decide +kernel
theorem d_Mo_tap_43 : decode b_Mo_tap 43 = .ok (.ireturn, 1) := by decide +kernel
theorem d_Mo_tap_44 : decode b_Mo_tap 44 = .ok (.iload_n 1, 1) := by decide +kernel
theorem d_Mo_tap_45 : decode b_Mo_tap 45 = .ok (.iconst 4, 1) := by decide +kernel
theorem d_Mo_tap_46 : decode b_Mo_tap 46 = .ok (.imul, 1) := by decide +kernel
theorem d_Mo_tap_47 : decode b_Mo_tap 47 = .ok (.aload_n 0, 1) := by decide +kernel
theorem d_Mo_tap_48 : decode b_Mo_tap 48 = .ok (.getfield 31, 3) := by decide +kernel
theorem d_Mo_tap_51 : decode b_Mo_tap 51 = .ok (.iload_n 1, 1) := by decide +kernel
theorem d_Mo_tap_52 : decode b_Mo_tap 52 = .ok (.iaload, 1) := by decide +kernel
theorem d_Mo_tap_53 : decode b_Mo_tap 53 = .ok (.iadd, 1) := by decide +kernel
theorem d_Mo_tap_54 : decode b_Mo_tap 54 = .ok (.istore 5, 2) := by decide +kernel
theorem d_Mo_tap_56 : decode b_Mo_tap 56 = .ok (.aload_n 0, 1) := by decide +kernel
theorem d_Mo_tap_57 : decode b_Mo_tap 57 = .ok (.getfield 22, 3) := by decide +kernel
theorem d_Mo_tap_60 : decode b_Mo_tap 60 = .ok (.iload 5, 2) := by decide +kernel
theorem d_Mo_tap_62 : decode b_Mo_tap 62 = .ok (.iload_n 2, 1) := by decide +kernel
theorem d_Mo_tap_63 : decode b_Mo_tap 63 = .ok (.iastore, 1) := by decide +kernel
theorem d_Mo_tap_64 : decode b_Mo_tap 64 = .ok (.aload_n 0, 1) := by decide +kernel
theorem d_Mo_tap_65 : decode b_Mo_tap 65 = .ok (.getfield 25, 3) := by decide +kernel
theorem d_Mo_tap_68 : decode b_Mo_tap 68 = .ok (.iload 5, 2) := by decide +kernel
theorem d_Mo_tap_70 : decode b_Mo_tap 70 = .ok (.iload_n 3, 1) := by decide +kernel
theorem d_Mo_tap_71 : decode b_Mo_tap 71 = .ok (.iastore, 1) := by decide +kernel
theorem d_Mo_tap_72 : decode b_Mo_tap 72 = .ok (.aload_n 0, 1) := by decide +kernel
theorem d_Mo_tap_73 : decode b_Mo_tap 73 = .ok (.getfield 28, 3) := by decide +kernel
theorem d_Mo_tap_76 : decode b_Mo_tap 76 = .ok (.iload 5, 2) := by decide +kernel
theorem d_Mo_tap_78 : decode b_Mo_tap 78 = .ok (.iload 4, 2) := by decide +kernel
theorem d_Mo_tap_80 : decode b_Mo_tap 80 = .ok (.iastore, 1) := by decide +kernel
theorem d_Mo_tap_81 : decode b_Mo_tap 81 = .ok (.aload_n 0, 1) := by decide +kernel
theorem d_Mo_tap_82 : decode b_Mo_tap 82 = .ok (.getfield 31, 3) := by decide +kernel
theorem d_Mo_tap_85 : decode b_Mo_tap 85 = .ok (.iload_n 1, 1) := by decide +kernel
theorem d_Mo_tap_86 : decode b_Mo_tap 86 = .ok (.dup2, 1) := by decide +kernel
theorem d_Mo_tap_87 : decode b_Mo_tap 87 = .ok (.iaload, 1) := by decide +kernel
theorem d_Mo_tap_88 : decode b_Mo_tap 88 = .ok (.iconst 1, 1) := by decide +kernel
theorem d_Mo_tap_89 : decode b_Mo_tap 89 = .ok (.iadd, 1) := by decide +kernel
theorem d_Mo_tap_90 : decode b_Mo_tap 90 = .ok (.iastore, 1) := by decide +kernel
theorem d_Mo_tap_91 : decode b_Mo_tap 91 = .ok (.aload_n 0, 1) := by decide +kernel
theorem d_Mo_tap_92 : decode b_Mo_tap 92 = .ok (.aload_n 0, 1) := by decide +kernel
theorem d_Mo_tap_93 : decode b_Mo_tap 93 = .ok (.getfield 31, 3) := by decide +kernel
theorem d_Mo_tap_96 : decode b_Mo_tap 96 = .ok (.iload_n 1, 1) := by decide +kernel
theorem d_Mo_tap_97 : decode b_Mo_tap 97 = .ok (.iaload, 1) := by decide +kernel
theorem d_Mo_tap_98 : decode b_Mo_tap 98 = .ok (.invokevirtual 74, 3) := by decide +kernel
theorem d_Mo_tap_101 : decode b_Mo_tap 101 = .ok (.ireturn, 1) := by decide +kernel
theorem d_Mo_mode_0 : decode b_Mo_mode 0 = .ok (.aload_n 0, 1) := by decide +kernel
theorem d_Mo_mode_1 : decode b_Mo_mode 1 = .ok (.iload_n 1, 1) := by decide +kernel
theorem d_Mo_mode_2 : decode b_Mo_mode 2 = .ok (.invokevirtual 78, 3) := by decide +kernel
theorem d_Mo_mode_5 : decode b_Mo_mode 5 = .ok (.ifCond .ne 12, 3) := by decide +kernel
theorem d_Mo_mode_8 : decode b_Mo_mode 8 = .ok (.iload_n 2, 1) := by decide +kernel
theorem d_Mo_mode_9 : decode b_Mo_mode 9 = .ok (.ifCond .lt 8, 3) := by decide +kernel
theorem d_Mo_mode_12 : decode b_Mo_mode 12 = .ok (.iload_n 2, 1) := by decide +kernel
theorem d_Mo_mode_13 : decode b_Mo_mode 13 = .ok (.iconst 2, 1) := by decide +kernel
theorem d_Mo_mode_14 : decode b_Mo_mode 14 = .ok (.if_icmp .le 5, 3) := by decide +kernel
theorem d_Mo_mode_17 : decode b_Mo_mode 17 = .ok (.iconst (-1), 1) := by decide +kernel
theorem d_Mo_mode_18 : decode b_Mo_mode 18 = .ok (.ireturn, 1) := by decide +kernel
theorem d_Mo_mode_19 : decode b_Mo_mode 19 = .ok (.aload_n 0, 1) := by decide +kernel
theorem d_Mo_mode_20 : decode b_Mo_mode 20 = .ok (.getfield 19, 3) := by decide +kernel
theorem d_Mo_mode_23 : decode b_Mo_mode 23 = .ok (.iload_n 1, 1) := by decide +kernel
theorem d_Mo_mode_24 : decode b_Mo_mode 24 = .ok (.iload_n 2, 1) := by decide +kernel
theorem d_Mo_mode_25 : decode b_Mo_mode 25 = .ok (.iastore, 1) := by decide +kernel
theorem d_Mo_mode_26 : decode b_Mo_mode 26 = .ok (.aload_n 0, 1) := by decide +kernel
theorem d_Mo_mode_27 : decode b_Mo_mode 27 = .ok (.iconst 0, 1) := by decide +kernel
theorem d_Mo_mode_28 : decode b_Mo_mode 28 = .ok (.invokevirtual 74, 3) := by decide +kernel
theorem d_Mo_mode_31 : decode b_Mo_mode 31 = .ok (.ireturn, 1) := by decide +kernel
theorem d_Mo_tile_0 : decode b_Mo_tile 0 = .ok (.iload_n 1, 1) := by decide +kernel
theorem d_Mo_tile_1 : decode b_Mo_tile 1 = .ok (.iconst 1, 1) := by decide +kernel
theorem d_Mo_tile_2 : decode b_Mo_tile 2 = .ok (.if_icmp .lt 9, 3) := by decide +kernel
theorem d_Mo_tile_5 : decode b_Mo_tile 5 = .ok (.iload_n 1, 1) := by decide +kernel
theorem d_Mo_tile_6 : decode b_Mo_tile 6 = .ok (.bipush 32, 2) := by decide +kernel
theorem d_Mo_tile_8 : decode b_Mo_tile 8 = .ok (.if_icmp .le 5, 3) := by decide +kernel
theorem d_Mo_tile_11 : decode b_Mo_tile 11 = .ok (.iconst (-1), 1) := by decide +kernel
theorem d_Mo_tile_12 : decode b_Mo_tile 12 = .ok (.ireturn, 1) := by decide +kernel
theorem d_Mo_tile_13 : decode b_Mo_tile 13 = .ok (.aload_n 0, 1) := by decide +kernel
theorem d_Mo_tile_14 : decode b_Mo_tile 14 = .ok (.iload_n 1, 1) := by decide +kernel
theorem d_Mo_tile_15 : decode b_Mo_tile 15 = .ok (.putfield 34, 3) := by decide +kernel
theorem d_Mo_tile_18 : decode b_Mo_tile 18 = .ok (.aload_n 0, 1) := by decide +kernel
theorem d_Mo_tile_19 : decode b_Mo_tile 19 = .ok (.iconst 0, 1) := by decide +kernel
theorem d_Mo_tile_20 : decode b_Mo_tile 20 = .ok (.invokevirtual 74, 3) := by decide +kernel
theorem d_Mo_tile_23 : decode b_Mo_tile 23 = .ok (.ireturn, 1) := by decide +kernel
theorem d_Mo_output_0 : decode b_Mo_output 0 = .ok (.aload_n 0, 1) := by decide +kernel
theorem d_Mo_output_1 : decode b_Mo_output 1 = .ok (.iload_n 1, 1) := by decide +kernel
theorem d_Mo_output_2 : decode b_Mo_output 2 = .ok (.invokevirtual 78, 3) := by decide +kernel
theorem d_Mo_output_5 : decode b_Mo_output 5 = .ok (.ifCond .ne 14, 3) := by decide +kernel
theorem d_Mo_output_8 : decode b_Mo_output 8 = .ok (.iload_n 2, 1) := by decide +kernel
theorem d_Mo_output_9 : decode b_Mo_output 9 = .ok (.iconst 1, 1) := by decide +kernel
theorem d_Mo_output_10 : decode b_Mo_output 10 = .ok (.if_icmp .lt 9, 3) := by decide +kernel
theorem d_Mo_output_13 : decode b_Mo_output 13 = .ok (.iload_n 2, 1) := by decide +kernel
theorem d_Mo_output_14 : decode b_Mo_output 14 = .ok (.bipush 32, 2) := by decide +kernel
theorem d_Mo_output_16 : decode b_Mo_output 16 = .ok (.if_icmp .le 5, 3) := by decide +kernel
theorem d_Mo_output_19 : decode b_Mo_output 19 = .ok (.iconst (-1), 1) := by decide +kernel
theorem d_Mo_output_20 : decode b_Mo_output 20 = .ok (.ireturn, 1) := by decide +kernel
theorem d_Mo_output_21 : decode b_Mo_output 21 = .ok (.aload_n 0, 1) := by decide +kernel
theorem d_Mo_output_22 : decode b_Mo_output 22 = .ok (.iload_n 1, 1) := by decide +kernel
theorem d_Mo_output_23 : decode b_Mo_output 23 = .ok (.putfield 38, 3) := by decide +kernel
theorem d_Mo_output_26 : decode b_Mo_output 26 = .ok (.aload_n 0, 1) := by decide +kernel
theorem d_Mo_output_27 : decode b_Mo_output 27 = .ok (.iload_n 2, 1) := by decide +kernel
theorem d_Mo_output_28 : decode b_Mo_output 28 = .ok (.putfield 82, 3) := by decide +kernel
theorem d_Mo_output_31 : decode b_Mo_output 31 = .ok (.aload_n 0, 1) := by decide +kernel
theorem d_Mo_output_32 : decode b_Mo_output 32 = .ok (.iconst 0, 1) := by decide +kernel
theorem d_Mo_output_33 : decode b_Mo_output 33 = .ok (.invokevirtual 74, 3) := by decide +kernel
theorem d_Mo_output_36 : decode b_Mo_output 36 = .ok (.ireturn, 1) := by decide +kernel
theorem d_Mo_finished_0 : decode b_Mo_finished 0 = .ok (.aload_n 0, 1) := by decide +kernel
theorem d_Mo_finished_1 : decode b_Mo_finished 1 = .ok (.getfield 16, 3) := by decide +kernel
theorem d_Mo_finished_4 : decode b_Mo_finished 4 = .ok (.iload_n 1, 1) := by decide +kernel
theorem d_Mo_finished_5 : decode b_Mo_finished 5 = .ok (.iaload, 1) := by decide +kernel
theorem d_Mo_finished_6 : decode b_Mo_finished 6 = .ok (.iconst 1, 1) := by decide +kernel
theorem d_Mo_finished_7 : decode b_Mo_finished 7 = .ok (.if_icmp .ne 13, 3) := by decide +kernel
theorem d_Mo_finished_10 : decode b_Mo_finished 10 = .ok (.iload_n 2, 1) := by decide +kernel
theorem d_Mo_finished_11 : decode b_Mo_finished 11 = .ok (.ifCond .le 7, 3) := by decide +kernel
theorem d_Mo_finished_14 : decode b_Mo_finished 14 = .ok (.iload_n 2, 1) := by decide +kernel
theorem d_Mo_finished_15 : decode b_Mo_finished 15 = .ok (.goto 4, 3) := by decide +kernel
theorem d_Mo_finished_18 : decode b_Mo_finished 18 = .ok (.iconst 0, 1) := by decide +kernel
theorem d_Mo_finished_19 : decode b_Mo_finished 19 = .ok (.ireturn, 1) := by decide +kernel
theorem d_Mo_finished_20 : decode b_Mo_finished 20 = .ok (.aload_n 0, 1) := by decide +kernel
theorem d_Mo_finished_21 : decode b_Mo_finished 21 = .ok (.getfield 16, 3) := by decide +kernel
theorem d_Mo_finished_24 : decode b_Mo_finished 24 = .ok (.iload_n 1, 1) := by decide +kernel
theorem d_Mo_finished_25 : decode b_Mo_finished 25 = .ok (.iaload, 1) := by decide +kernel
theorem d_Mo_finished_26 : decode b_Mo_finished 26 = .ok (.iconst 2, 1) := by decide +kernel
theorem d_Mo_finished_27 : decode b_Mo_finished 27 = .ok (.if_icmp .ne 7, 3) := by decide +kernel
theorem d_Mo_finished_30 : decode b_Mo_finished 30 = .ok (.iload_n 2, 1) := by decide +kernel
theorem d_Mo_finished_31 : decode b_Mo_finished 31 = .ok (.iconst 1, 1) := by decide +kernel
theorem d_Mo_finished_32 : decode b_Mo_finished 32 = .ok (.ishr, 1) := by decide +kernel
theorem d_Mo_finished_33 : decode b_Mo_finished 33 = .ok (.ireturn, 1) := by decide +kernel
theorem d_Mo_finished_34 : decode b_Mo_finished 34 = .ok (.aload_n 0, 1) := by decide +kernel
theorem d_Mo_finished_35 : decode b_Mo_finished 35 = .ok (.getfield 16, 3) := by decide +kernel
theorem d_Mo_finished_38 : decode b_Mo_finished 38 = .ok (.iload_n 1, 1) := by decide +kernel
theorem d_Mo_finished_39 : decode b_Mo_finished 39 = .ok (.iaload, 1) := by decide +kernel
theorem d_Mo_finished_40 : decode b_Mo_finished 40 = .ok (.iconst 3, 1) := by decide +kernel
theorem d_Mo_finished_41 : decode b_Mo_finished 41 = .ok (.if_icmp .ne 12, 3) := by decide +kernel
theorem d_Mo_finished_44 : decode b_Mo_finished 44 = .ok (.iload_n 2, 1) := by decide +kernel
theorem d_Mo_finished_45 : decode b_Mo_finished 45 = .ok (.ifCond .ge 8, 3) := by decide +kernel
theorem d_Mo_finished_48 : decode b_Mo_finished 48 = .ok (.iload_n 2, 1) := by decide +kernel
theorem d_Mo_finished_49 : decode b_Mo_finished 49 = .ok (.ineg, 1) := by decide +kernel
theorem d_Mo_finished_50 : decode b_Mo_finished 50 = .ok (.goto 4, 3) := by decide +kernel
theorem d_Mo_finished_53 : decode b_Mo_finished 53 = .ok (.iload_n 2, 1) := by decide +kernel
theorem d_Mo_finished_54 : decode b_Mo_finished 54 = .ok (.ireturn, 1) := by decide +kernel
theorem d_Mo_given_0 : decode b_Mo_given 0 = .ok (.aload_n 0, 1) := by decide +kernel
theorem d_Mo_given_1 : decode b_Mo_given 1 = .ok (.getfield 7, 3) := by decide +kernel
theorem d_Mo_given_4 : decode b_Mo_given 4 = .ok (.iload_n 1, 1) := by decide +kernel
theorem d_Mo_given_5 : decode b_Mo_given 5 = .ok (.ifCond .ge 7, 3) := by decide +kernel
theorem d_Mo_given_8 : decode b_Mo_given 8 = .ok (.iconst 0, 1) := by decide +kernel
theorem d_Mo_given_9 : decode b_Mo_given 9 = .ok (.goto 21, 3) := by decide +kernel
theorem d_Mo_given_12 : decode b_Mo_given 12 = .ok (.iload_n 1, 1) := by decide +kernel
theorem d_Mo_given_13 : decode b_Mo_given 13 = .ok (.aload_n 0, 1) := by decide +kernel
theorem d_Mo_given_14 : decode b_Mo_given 14 = .ok (.getfield 61, 3) := by decide +kernel
theorem d_Mo_given_17 : decode b_Mo_given 17 = .ok (.if_icmp .lt 12, 3) := by decide +kernel
theorem d_Mo_given_20 : decode b_Mo_given 20 = .ok (.aload_n 0, 1) := by decide +kernel
theorem d_Mo_given_21 : decode b_Mo_given 21 = .ok (.getfield 61, 3) := by decide +kernel
theorem d_Mo_given_24 : decode b_Mo_given 24 = .ok (.iconst 1, 1) := by decide +kernel
theorem d_Mo_given_25 : decode b_Mo_given 25 = .ok (.isub, 1) := by decide +kernel
theorem d_Mo_given_26 : decode b_Mo_given 26 = .ok (.goto 4, 3) := by decide +kernel
theorem d_Mo_given_29 : decode b_Mo_given 29 = .ok (.iload_n 1, 1) := by decide +kernel
theorem d_Mo_given_30 : decode b_Mo_given 30 = .ok (.iaload, 1) := by decide +kernel
theorem d_Mo_given_31 : decode b_Mo_given 31 = .ok (.ireturn, 1) := by decide +kernel
theorem d_Mo_valueAt_0 : decode b_Mo_valueAt 0 = .ok (.iconst 0, 1) := by decide +kernel
theorem d_Mo_valueAt_1 : decode b_Mo_valueAt 1 = .ok (.istore_n 3, 1) := by decide +kernel
theorem d_Mo_valueAt_2 : decode b_Mo_valueAt 2 = .ok (.iload_n 3, 1) := by decide +kernel
theorem d_Mo_valueAt_3 : decode b_Mo_valueAt 3 = .ok (.iload_n 1, 1) := by decide +kernel
theorem d_Mo_valueAt_4 : decode b_Mo_valueAt 4 = .ok (.if_icmp .gt 157, 3) := by decide +kernel
theorem d_Mo_valueAt_7 : decode b_Mo_valueAt 7 = .ok (.iconst 4, 1) := by decide +kernel
theorem d_Mo_valueAt_8 : decode b_Mo_valueAt 8 = .ok (.iload_n 1, 1) := by decide +kernel
theorem d_Mo_valueAt_9 : decode b_Mo_valueAt 9 = .ok (.iload_n 3, 1) := by decide +kernel
theorem d_Mo_valueAt_10 : decode b_Mo_valueAt 10 = .ok (.isub, 1) := by decide +kernel
theorem d_Mo_valueAt_11 : decode b_Mo_valueAt 11 = .ok (.imul, 1) := by decide +kernel
theorem d_Mo_valueAt_12 : decode b_Mo_valueAt 12 = .ok (.istore 4, 2) := by decide +kernel
theorem d_Mo_valueAt_14 : decode b_Mo_valueAt 14 = .ok (.iload 4, 2) := by decide +kernel
theorem d_Mo_valueAt_16 : decode b_Mo_valueAt 16 = .ok (.ineg, 1) := by decide +kernel
theorem d_Mo_valueAt_17 : decode b_Mo_valueAt 17 = .ok (.istore 5, 2) := by decide +kernel
theorem d_Mo_valueAt_19 : decode b_Mo_valueAt 19 = .ok (.iload 5, 2) := by decide +kernel
theorem d_Mo_valueAt_21 : decode b_Mo_valueAt 21 = .ok (.iload 4, 2) := by decide +kernel
theorem d_Mo_valueAt_23 : decode b_Mo_valueAt 23 = .ok (.if_icmp .gt 132, 3) := by decide +kernel
theorem d_Mo_valueAt_26 : decode b_Mo_valueAt 26 = .ok (.aload_n 0, 1) := by decide +kernel
theorem d_Mo_valueAt_27 : decode b_Mo_valueAt 27 = .ok (.getfield 13, 3) := by decide +kernel
theorem d_Mo_valueAt_30 : decode b_Mo_valueAt 30 = .ok (.iload_n 3, 1) := by decide +kernel
theorem d_Mo_valueAt_31 : decode b_Mo_valueAt 31 = .ok (.iaload, 1) := by decide +kernel
theorem d_Mo_valueAt_32 : decode b_Mo_valueAt 32 = .ok (.istore 6, 2) := by decide +kernel
theorem d_Mo_valueAt_34 : decode b_Mo_valueAt 34 = .ok (.iload_n 3, 1) := by decide +kernel
theorem d_Mo_valueAt_35 : decode b_Mo_valueAt 35 = .ok (.iconst 4, 1) := by decide +kernel
theorem d_Mo_valueAt_36 : decode b_Mo_valueAt 36 = .ok (.imul, 1) := by decide +kernel
theorem d_Mo_valueAt_37 : decode b_Mo_valueAt 37 = .ok (.istore 7, 2) := by decide +kernel
theorem d_Mo_valueAt_39 : decode b_Mo_valueAt 39 = .ok (.iload 7, 2) := by decide +kernel
theorem d_Mo_valueAt_41 : decode b_Mo_valueAt 41 = .ok (.iload_n 3, 1) := by decide +kernel
theorem d_Mo_valueAt_42 : decode b_Mo_valueAt 42 = .ok (.iconst 4, 1) := by decide +kernel
theorem d_Mo_valueAt_43 : decode b_Mo_valueAt 43 = .ok (.imul, 1) := by decide +kernel
theorem d_Mo_valueAt_44 : decode b_Mo_valueAt 44 = .ok (.aload_n 0, 1) := by decide +kernel
theorem d_Mo_valueAt_45 : decode b_Mo_valueAt 45 = .ok (.getfield 31, 3) := by decide +kernel
theorem d_Mo_valueAt_48 : decode b_Mo_valueAt 48 = .ok (.iload_n 3, 1) := by decide +kernel
theorem d_Mo_valueAt_49 : decode b_Mo_valueAt 49 = .ok (.iaload, 1) := by decide +kernel
theorem d_Mo_valueAt_50 : decode b_Mo_valueAt 50 = .ok (.iadd, 1) := by decide +kernel
theorem d_Mo_valueAt_51 : decode b_Mo_valueAt 51 = .ok (.if_icmp .ge 76, 3) := by decide +kernel
theorem d_Mo_valueAt_54 : decode b_Mo_valueAt 54 = .ok (.iload 5, 2) := by decide +kernel
theorem d_Mo_valueAt_56 : decode b_Mo_valueAt 56 = .ok (.aload_n 0, 1) := by decide +kernel
theorem d_Mo_valueAt_57 : decode b_Mo_valueAt 57 = .ok (.getfield 25, 3) := by decide +kernel
theorem d_Mo_valueAt_60 : decode b_Mo_valueAt 60 = .ok (.iload 7, 2) := by decide +kernel
theorem d_Mo_valueAt_62 : decode b_Mo_valueAt 62 = .ok (.iaload, 1) := by decide +kernel
theorem d_Mo_valueAt_63 : decode b_Mo_valueAt 63 = .ok (.iadd, 1) := by decide +kernel
theorem d_Mo_valueAt_64 : decode b_Mo_valueAt 64 = .ok (.istore 8, 2) := by decide +kernel
theorem d_Mo_valueAt_66 : decode b_Mo_valueAt 66 = .ok (.iload 6, 2) := by decide +kernel
theorem d_Mo_valueAt_68 : decode b_Mo_valueAt 68 = .ok (.aload_n 0, 1) := by decide +kernel
theorem d_Mo_valueAt_69 : decode b_Mo_valueAt 69 = .ok (.getfield 28, 3) := by decide +kernel
theorem d_Mo_valueAt_72 : decode b_Mo_valueAt 72 = .ok (.iload 7, 2) := by decide +kernel
theorem d_Mo_valueAt_74 : decode b_Mo_valueAt 74 = .ok (.iaload, 1) := by decide +kernel
theorem d_Mo_valueAt_75 : decode b_Mo_valueAt 75 = .ok (.aload_n 0, 1) := by decide +kernel
theorem d_Mo_valueAt_76 : decode b_Mo_valueAt 76 = .ok (.getfield 22, 3) := by decide +kernel
theorem d_Mo_valueAt_79 : decode b_Mo_valueAt 79 = .ok (.iload 7, 2) := by decide +kernel
theorem d_Mo_valueAt_81 : decode b_Mo_valueAt 81 = .ok (.iaload, 1) := by decide +kernel
theorem d_Mo_valueAt_82 : decode b_Mo_valueAt 82 = .ok (.ifCond .ge 14, 3) := by decide +kernel
theorem d_Mo_valueAt_85 : decode b_Mo_valueAt 85 = .ok (.aload_n 0, 1) := by decide +kernel
theorem d_Mo_valueAt_86 : decode b_Mo_valueAt 86 = .ok (.iload_n 2, 1) := by decide +kernel
theorem d_Mo_valueAt_87 : decode b_Mo_valueAt 87 = .ok (.iload 8, 2) := by decide +kernel
theorem d_Mo_valueAt_89 : decode b_Mo_valueAt 89 = .ok (.iadd, 1) := by decide +kernel
theorem d_Mo_valueAt_90 : decode b_Mo_valueAt 90 = .ok (.invokevirtual 85, 3) := by decide +kernel
theorem d_Mo_valueAt_93 : decode b_Mo_valueAt 93 = .ok (.goto 24, 3) := by decide +kernel
theorem d_Mo_valueAt_96 : decode b_Mo_valueAt 96 = .ok (.aload_n 0, 1) := by decide +kernel
theorem d_Mo_valueAt_97 : decode b_Mo_valueAt 97 = .ok (.getfield 44, 3) := by decide +kernel
theorem d_Mo_valueAt_100 : decode b_Mo_valueAt 100 = .ok (.aload_n 0, 1) := by decide +kernel
theorem d_Mo_valueAt_101 : decode b_Mo_valueAt 101 = .ok (.getfield 22, 3) := by decide +kernel
theorem d_Mo_valueAt_104 : decode b_Mo_valueAt 104 = .ok (.iload 7, 2) := by decide +kernel
theorem d_Mo_valueAt_106 : decode b_Mo_valueAt 106 = .ok (.iaload, 1) := by decide +kernel
theorem d_Mo_valueAt_107 : decode b_Mo_valueAt 107 = .ok (.bipush 61, 2) := by decide +kernel
theorem d_Mo_valueAt_109 : decode b_Mo_valueAt 109 = .ok (.imul, 1) := by decide +kernel
theorem d_Mo_valueAt_110 : decode b_Mo_valueAt 110 = .ok (.bipush 30, 2) := by decide +kernel
theorem d_Mo_valueAt_112 : decode b_Mo_valueAt 112 = .ok (.iadd, 1) := by decide +kernel
theorem d_Mo_valueAt_113 : decode b_Mo_valueAt 113 = .ok (.iload 8, 2) := by decide +kernel
theorem d_Mo_valueAt_115 : decode b_Mo_valueAt 115 = .ok (.iadd, 1) := by decide +kernel
theorem d_Mo_valueAt_116 : decode b_Mo_valueAt 116 = .ok (.iaload, 1) := by decide +kernel
theorem d_Mo_valueAt_117 : decode b_Mo_valueAt 117 = .ok (.imul, 1) := by decide +kernel
theorem d_Mo_valueAt_118 : decode b_Mo_valueAt 118 = .ok (.iadd, 1) := by decide +kernel
