theorem d_law_law_32 : decode code 32 = .ok (.tableswitch 472 0 17 #[88, 111, 134, 167, 210, 223, 236, 249, 272, 285, 308, 331, 364, 377, 400, 413, 446, 459], 88) := by decide +kernel
theorem d_law_law_0 : decode code 0 = .ok (.new 7, 3) := by decide +kernel
theorem d_law_law_3 : decode code 3 = .ok (.dup, 1) := by decide +kernel
theorem d_law_law_4 : decode code 4 = .ok (.invokespecial 9, 3) := by decide +kernel
theorem d_law_law_7 : decode code 7 = .ok (.astore_n 1, 1) := by decide +kernel
theorem d_law_law_8 : decode code 8 = .ok (.new 10, 3) := by decide +kernel
theorem d_law_law_11 : decode code 11 = .ok (.dup, 1) := by decide +kernel
theorem d_law_law_12 : decode code 12 = .ok (.invokespecial 12, 3) := by decide +kernel
theorem d_law_law_15 : decode code 15 = .ok (.astore_n 2, 1) := by decide +kernel
theorem d_law_law_16 : decode code 16 = .ok (.iconst 0, 1) := by decide +kernel
theorem d_law_law_17 : decode code 17 = .ok (.istore_n 3, 1) := by decide +kernel
theorem d_law_law_18 : decode code 18 = .ok (.iload_n 3, 1) := by decide +kernel
theorem d_law_law_19 : decode code 19 = .ok (.aload_n 0, 1) := by decide +kernel
theorem d_law_law_20 : decode code 20 = .ok (.arraylength, 1) := by decide +kernel
theorem d_law_law_21 : decode code 21 = .ok (.iconst 4, 1) := by decide +kernel
theorem d_law_law_22 : decode code 22 = .ok (.isub, 1) := by decide +kernel
theorem d_law_law_23 : decode code 23 = .ok (.if_icmp .gt 487, 3) := by decide +kernel
theorem d_law_law_26 : decode code 26 = .ok (.aload_n 0, 1) := by decide +kernel
theorem d_law_law_27 : decode code 27 = .ok (.iload_n 3, 1) := by decide +kernel
theorem d_law_law_28 : decode code 28 = .ok (.iaload, 1) := by decide +kernel
theorem d_law_law_29 : decode code 29 = .ok (.bipush 31, 2) := by decide +kernel
theorem d_law_law_31 : decode code 31 = .ok (.iand, 1) := by decide +kernel
theorem d_law_law_120 : decode code 120 = .ok (.aload_n 1, 1) := by decide +kernel
theorem d_law_law_121 : decode code 121 = .ok (.aload_n 0, 1) := by decide +kernel
theorem d_law_law_122 : decode code 122 = .ok (.iload_n 3, 1) := by decide +kernel
theorem d_law_law_123 : decode code 123 = .ok (.iconst 1, 1) := by decide +kernel
theorem d_law_law_124 : decode code 124 = .ok (.iadd, 1) := by decide +kernel
theorem d_law_law_125 : decode code 125 = .ok (.iaload, 1) := by decide +kernel
theorem d_law_law_126 : decode code 126 = .ok (.invokevirtual 13, 3) := by decide +kernel
theorem d_law_law_129 : decode code 129 = .ok (.aload_n 2, 1) := by decide +kernel
theorem d_law_law_130 : decode code 130 = .ok (.aload_n 0, 1) := by decide +kernel
theorem d_law_law_131 : decode code 131 = .ok (.iload_n 3, 1) := by decide +kernel
theorem d_law_law_132 : decode code 132 = .ok (.iconst 1, 1) := by decide +kernel
theorem d_law_law_133 : decode code 133 = .ok (.iadd, 1) := by decide +kernel
theorem d_law_law_134 : decode code 134 = .ok (.iaload, 1) := by decide +kernel
theorem d_law_law_135 : decode code 135 = .ok (.invokevirtual 17, 3) := by decide +kernel
theorem d_law_law_138 : decode code 138 = .ok (.if_icmp .eq 366, 3) := by decide +kernel
theorem d_law_law_141 : decode code 141 = .ok (.iconst 0, 1) := by decide +kernel
theorem d_law_law_142 : decode code 142 = .ok (.ireturn, 1) := by decide +kernel
theorem d_law_law_143 : decode code 143 = .ok (.aload_n 1, 1) := by decide +kernel
theorem d_law_law_144 : decode code 144 = .ok (.aload_n 0, 1) := by decide +kernel
theorem d_law_law_145 : decode code 145 = .ok (.iload_n 3, 1) := by decide +kernel
theorem d_law_law_146 : decode code 146 = .ok (.iconst 1, 1) := by decide +kernel
theorem d_law_law_147 : decode code 147 = .ok (.iadd, 1) := by decide +kernel
theorem d_law_law_148 : decode code 148 = .ok (.iaload, 1) := by decide +kernel
theorem d_law_law_149 : decode code 149 = .ok (.invokevirtual 18, 3) := by decide +kernel
theorem d_law_law_152 : decode code 152 = .ok (.aload_n 2, 1) := by decide +kernel
theorem d_law_law_153 : decode code 153 = .ok (.aload_n 0, 1) := by decide +kernel
theorem d_law_law_154 : decode code 154 = .ok (.iload_n 3, 1) := by decide +kernel
theorem d_law_law_155 : decode code 155 = .ok (.iconst 1, 1) := by decide +kernel
theorem d_law_law_156 : decode code 156 = .ok (.iadd, 1) := by decide +kernel
theorem d_law_law_157 : decode code 157 = .ok (.iaload, 1) := by decide +kernel
theorem d_law_law_158 : decode code 158 = .ok (.invokevirtual 21, 3) := by decide +kernel
theorem d_law_law_161 : decode code 161 = .ok (.if_icmp .eq 343, 3) := by decide +kernel
theorem d_law_law_164 : decode code 164 = .ok (.iconst 0, 1) := by decide +kernel
theorem d_law_law_165 : decode code 165 = .ok (.ireturn, 1) := by decide +kernel
theorem d_law_law_166 : decode code 166 = .ok (.aload_n 1, 1) := by decide +kernel
theorem d_law_law_167 : decode code 167 = .ok (.aload_n 0, 1) := by decide +kernel
theorem d_law_law_168 : decode code 168 = .ok (.iload_n 3, 1) := by decide +kernel
theorem d_law_law_169 : decode code 169 = .ok (.iconst 1, 1) := by decide +kernel
