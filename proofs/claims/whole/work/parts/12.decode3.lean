theorem d_Mo_count_73 : decode b_Mo_count 73 = .ok (.if_icmp .ne 9, 3) := by decide +kernel
theorem d_Mo_count_76 : decode b_Mo_count 76 = .ok (.aload_n 0, 1) := by decide +kernel
theorem d_Mo_count_77 : decode b_Mo_count 77 = .ok (.invokevirtual 121, 3) := by decide +kernel
theorem d_Mo_count_80 : decode b_Mo_count 80 = .ok (.l2i, 1) := by decide +kernel
theorem d_Mo_count_81 : decode b_Mo_count 81 = .ok (.ireturn, 1) := by decide +kernel
theorem d_Mo_count_82 : decode b_Mo_count 82 = .ok (.aload_n 0, 1) := by decide +kernel
theorem d_Mo_count_83 : decode b_Mo_count 83 = .ok (.iconst 0, 1) := by decide +kernel
theorem d_Mo_count_84 : decode b_Mo_count 84 = .ok (.aload_n 0, 1) := by decide +kernel
theorem d_Mo_count_85 : decode b_Mo_count 85 = .ok (.getfield 82, 3) := by decide +kernel
theorem d_Mo_count_88 : decode b_Mo_count 88 = .ok (.iconst 1, 1) := by decide +kernel
theorem d_Mo_count_89 : decode b_Mo_count 89 = .ok (.isub, 1) := by decide +kernel
theorem d_Mo_count_90 : decode b_Mo_count 90 = .ok (.invokevirtual 103, 3) := by decide +kernel
theorem d_Mo_count_93 : decode b_Mo_count 93 = .ok (.iconst 0, 1) := by decide +kernel
theorem d_Mo_count_94 : decode b_Mo_count 94 = .ok (.istore_n 2, 1) := by decide +kernel
theorem d_Mo_count_95 : decode b_Mo_count 95 = .ok (.iconst 0, 1) := by decide +kernel
theorem d_Mo_count_96 : decode b_Mo_count 96 = .ok (.istore_n 3, 1) := by decide +kernel
theorem d_Mo_count_97 : decode b_Mo_count 97 = .ok (.iload_n 3, 1) := by decide +kernel
theorem d_Mo_count_98 : decode b_Mo_count 98 = .ok (.aload_n 0, 1) := by decide +kernel
theorem d_Mo_count_99 : decode b_Mo_count 99 = .ok (.getfield 38, 3) := by decide +kernel
theorem d_Mo_count_102 : decode b_Mo_count 102 = .ok (.if_icmp .gt 62, 3) := by decide +kernel
theorem d_Mo_count_105 : decode b_Mo_count 105 = .ok (.iload_n 1, 1) := by decide +kernel
theorem d_Mo_count_106 : decode b_Mo_count 106 = .ok (.iconst 3, 1) := by decide +kernel
theorem d_Mo_count_107 : decode b_Mo_count 107 = .ok (.if_icmp .ne 15, 3) := by decide +kernel
theorem d_Mo_count_110 : decode b_Mo_count 110 = .ok (.aload_n 0, 1) := by decide +kernel
theorem d_Mo_count_111 : decode b_Mo_count 111 = .ok (.getfield 47, 3) := by decide +kernel
theorem d_Mo_count_114 : decode b_Mo_count 114 = .ok (.iload_n 3, 1) := by decide +kernel
theorem d_Mo_count_115 : decode b_Mo_count 115 = .ok (.baload, 1) := by decide +kernel
theorem d_Mo_count_116 : decode b_Mo_count 116 = .ok (.ifCond .eq 42, 3) := by decide +kernel
theorem d_Mo_count_119 : decode b_Mo_count 119 = .ok (.goto 12, 3) := by decide +kernel
theorem d_Mo_count_122 : decode b_Mo_count 122 = .ok (.aload_n 0, 1) := by decide +kernel
theorem d_Mo_count_123 : decode b_Mo_count 123 = .ok (.iload_n 3, 1) := by decide +kernel
theorem d_Mo_count_124 : decode b_Mo_count 124 = .ok (.iconst 1, 1) := by decide +kernel
theorem d_Mo_count_125 : decode b_Mo_count 125 = .ok (.invokevirtual 106, 3) := by decide +kernel
theorem d_Mo_count_128 : decode b_Mo_count 128 = .ok (.ifCond .eq 30, 3) := by decide +kernel
theorem d_Mo_count_131 : decode b_Mo_count 131 = .ok (.iload_n 2, 1) := by decide +kernel
theorem d_Mo_count_132 : decode b_Mo_count 132 = .ok (.iload_n 1, 1) := by decide +kernel
theorem d_Mo_count_133 : decode b_Mo_count 133 = .ok (.iconst 3, 1) := by decide +kernel
theorem d_Mo_count_134 : decode b_Mo_count 134 = .ok (.if_icmp .ne 7, 3) := by decide +kernel
theorem d_Mo_count_137 : decode b_Mo_count 137 = .ok (.iconst 1, 1) := by decide +kernel
theorem d_Mo_count_138 : decode b_Mo_count 138 = .ok (.goto 18, 3) := by decide +kernel
theorem d_Mo_count_141 : decode b_Mo_count 141 = .ok (.aload_n 0, 1) := by decide +kernel
theorem d_Mo_count_142 : decode b_Mo_count 142 = .ok (.getfield 54, 3) := by decide +kernel
theorem d_Mo_count_145 : decode b_Mo_count 145 = .ok (.iload_n 3, 1) := by decide +kernel
theorem d_Mo_count_146 : decode b_Mo_count 146 = .ok (.iaload, 1) := by decide +kernel
theorem d_Mo_count_147 : decode b_Mo_count 147 = .ok (.aload_n 0, 1) := by decide +kernel
theorem d_Mo_count_148 : decode b_Mo_count 148 = .ok (.getfield 51, 3) := by decide +kernel
theorem d_Mo_count_151 : decode b_Mo_count 151 = .ok (.iload_n 3, 1) := by decide +kernel
theorem d_Mo_count_152 : decode b_Mo_count 152 = .ok (.iaload, 1) := by decide +kernel
theorem d_Mo_count_153 : decode b_Mo_count 153 = .ok (.isub, 1) := by decide +kernel
theorem d_Mo_count_154 : decode b_Mo_count 154 = .ok (.iconst 1, 1) := by decide +kernel
theorem d_Mo_count_155 : decode b_Mo_count 155 = .ok (.iadd, 1) := by decide +kernel
theorem d_Mo_count_156 : decode b_Mo_count 156 = .ok (.iadd, 1) := by decide +kernel
theorem d_Mo_count_157 : decode b_Mo_count 157 = .ok (.istore_n 2, 1) := by decide +kernel
theorem d_Mo_count_158 : decode b_Mo_count 158 = .ok (.iinc 3 1, 3) := by decide +kernel
theorem d_Mo_count_161 : decode b_Mo_count 161 = .ok (.goto (-64), 3) := by decide +kernel
theorem d_Mo_count_164 : decode b_Mo_count 164 = .ok (.iload_n 1, 1) := by decide +kernel
theorem d_Mo_count_165 : decode b_Mo_count 165 = .ok (.iconst 3, 1) := by decide +kernel
theorem d_Mo_count_166 : decode b_Mo_count 166 = .ok (.if_icmp .ne 7, 3) := by decide +kernel
theorem d_Mo_count_169 : decode b_Mo_count 169 = .ok (.iload_n 2, 1) := by decide +kernel
theorem d_Mo_count_170 : decode b_Mo_count 170 = .ok (.goto 10, 3) := by decide +kernel
theorem d_Mo_count_173 : decode b_Mo_count 173 = .ok (.iload_n 2, 1) := by decide +kernel
theorem d_Mo_count_174 : decode b_Mo_count 174 = .ok (.aload_n 0, 1) := by decide +kernel
theorem d_Mo_count_175 : decode b_Mo_count 175 = .ok (.iconst 1, 1) := by decide +kernel
theorem d_Mo_count_176 : decode b_Mo_count 176 = .ok (.invokevirtual 127, 3) := by decide +kernel
theorem d_Mo_count_179 : decode b_Mo_count 179 = .ok (.iadd, 1) := by decide +kernel
theorem d_Mo_count_180 : decode b_Mo_count 180 = .ok (.ireturn, 1) := by decide +kernel
