theorem dLaw_0 : decode code 0 = .ok (.new 8, 3) := by decide +kernel
theorem dLaw_3 : decode code 3 = .ok (.dup, 1) := by decide +kernel
theorem dLaw_4 : decode code 4 = .ok (.invokespecial 47, 3) := by decide +kernel
theorem dLaw_7 : decode code 7 = .ok (.astore_n 1, 1) := by decide +kernel
theorem dLaw_8 : decode code 8 = .ok (.new 48, 3) := by decide +kernel
theorem dLaw_11 : decode code 11 = .ok (.dup, 1) := by decide +kernel
theorem dLaw_12 : decode code 12 = .ok (.invokespecial 50, 3) := by decide +kernel
theorem dLaw_15 : decode code 15 = .ok (.astore_n 2, 1) := by decide +kernel
theorem dLaw_16 : decode code 16 = .ok (.iconst 1, 1) := by decide +kernel
theorem dLaw_17 : decode code 17 = .ok (.newarray .long, 2) := by decide +kernel
theorem dLaw_19 : decode code 19 = .ok (.astore_n 3, 1) := by decide +kernel
theorem dLaw_20 : decode code 20 = .ok (.iconst 0, 1) := by decide +kernel
theorem dLaw_21 : decode code 21 = .ok (.istore 4, 2) := by decide +kernel
theorem dLaw_23 : decode code 23 = .ok (.iload 4, 2) := by decide +kernel
theorem dLaw_25 : decode code 25 = .ok (.aload_n 0, 1) := by decide +kernel
theorem dLaw_26 : decode code 26 = .ok (.arraylength, 1) := by decide +kernel
theorem dLaw_27 : decode code 27 = .ok (.bipush 6, 2) := by decide +kernel
theorem dLaw_29 : decode code 29 = .ok (.isub, 1) := by decide +kernel
theorem dLaw_30 : decode code 30 = .ok (.if_icmp .gt 849, 3) := by decide +kernel
theorem dLaw_33 : decode code 33 = .ok (.aload_n 0, 1) := by decide +kernel
theorem dLaw_34 : decode code 34 = .ok (.iload 4, 2) := by decide +kernel
theorem dLaw_36 : decode code 36 = .ok (.iaload, 1) := by decide +kernel
theorem dLaw_37 : decode code 37 = .ok (.bipush 15, 2) := by decide +kernel
theorem dLaw_39 : decode code 39 = .ok (.iand, 1) := by decide +kernel
theorem dLaw_40 : decode code 40 = .ok (.tableswitch 833 0 11 #[64, 152, 296, 309, 365, 409, 465, 478, 491, 547, 602, 702], 64) := by decide +kernel
theorem dLaw_104 : decode code 104 = .ok (.aload_n 1, 1) := by decide +kernel
theorem dLaw_105 : decode code 105 = .ok (.aload_n 0, 1) := by decide +kernel
theorem dLaw_106 : decode code 106 = .ok (.iload 4, 2) := by decide +kernel
theorem dLaw_108 : decode code 108 = .ok (.iconst 1, 1) := by decide +kernel
theorem dLaw_109 : decode code 109 = .ok (.iadd, 1) := by decide +kernel
theorem dLaw_110 : decode code 110 = .ok (.iaload, 1) := by decide +kernel
theorem dLaw_111 : decode code 111 = .ok (.i2l, 1) := by decide +kernel
theorem dLaw_112 : decode code 112 = .ok (.bipush 32, 2) := by decide +kernel
theorem dLaw_114 : decode code 114 = .ok (.lshl, 1) := by decide +kernel
theorem dLaw_115 : decode code 115 = .ok (.aload_n 0, 1) := by decide +kernel
theorem dLaw_116 : decode code 116 = .ok (.iload 4, 2) := by decide +kernel
theorem dLaw_118 : decode code 118 = .ok (.iconst 2, 1) := by decide +kernel
theorem dLaw_119 : decode code 119 = .ok (.iadd, 1) := by decide +kernel
theorem dLaw_120 : decode code 120 = .ok (.iaload, 1) := by decide +kernel
theorem dLaw_121 : decode code 121 = .ok (.i2l, 1) := by decide +kernel
theorem dLaw_122 : decode code 122 = .ok (.ldc2_w 51, 3) := by decide +kernel
theorem dLaw_125 : decode code 125 = .ok (.land, 1) := by decide +kernel
theorem dLaw_126 : decode code 126 = .ok (.lor, 1) := by decide +kernel
theorem dLaw_127 : decode code 127 = .ok (.aload_n 3, 1) := by decide +kernel
theorem dLaw_128 : decode code 128 = .ok (.invokestatic 53, 3) := by decide +kernel
theorem dLaw_131 : decode code 131 = .ok (.istore 5, 2) := by decide +kernel
theorem dLaw_133 : decode code 133 = .ok (.aload_n 2, 1) := by decide +kernel
theorem dLaw_134 : decode code 134 = .ok (.aload_n 0, 1) := by decide +kernel
theorem dLaw_135 : decode code 135 = .ok (.iload 4, 2) := by decide +kernel
theorem dLaw_137 : decode code 137 = .ok (.iconst 1, 1) := by decide +kernel
theorem dLaw_138 : decode code 138 = .ok (.iadd, 1) := by decide +kernel
theorem dLaw_139 : decode code 139 = .ok (.iaload, 1) := by decide +kernel
theorem dLaw_140 : decode code 140 = .ok (.i2l, 1) := by decide +kernel
theorem dLaw_141 : decode code 141 = .ok (.bipush 32, 2) := by decide +kernel
theorem dLaw_143 : decode code 143 = .ok (.lshl, 1) := by decide +kernel
theorem dLaw_144 : decode code 144 = .ok (.aload_n 0, 1) := by decide +kernel
theorem dLaw_145 : decode code 145 = .ok (.iload 4, 2) := by decide +kernel
theorem dLaw_147 : decode code 147 = .ok (.iconst 2, 1) := by decide +kernel
theorem dLaw_148 : decode code 148 = .ok (.iadd, 1) := by decide +kernel
theorem dLaw_149 : decode code 149 = .ok (.iaload, 1) := by decide +kernel
theorem dLaw_150 : decode code 150 = .ok (.i2l, 1) := by decide +kernel
theorem dLaw_151 : decode code 151 = .ok (.ldc2_w 51, 3) := by decide +kernel
theorem dLaw_154 : decode code 154 = .ok (.land, 1) := by decide +kernel
theorem dLaw_155 : decode code 155 = .ok (.lor, 1) := by decide +kernel
theorem dLaw_156 : decode code 156 = .ok (.invokevirtual 58, 3) := by decide +kernel
theorem dLaw_159 : decode code 159 = .ok (.istore 6, 2) := by decide +kernel
theorem dLaw_161 : decode code 161 = .ok (.aload_n 2, 1) := by decide +kernel
theorem dLaw_162 : decode code 162 = .ok (.invokevirtual 59, 3) := by decide +kernel
theorem dLaw_165 : decode code 165 = .ok (.iload 5, 2) := by decide +kernel
theorem dLaw_167 : decode code 167 = .ok (.if_icmp .eq 5, 3) := by decide +kernel
theorem dLaw_170 : decode code 170 = .ok (.iconst 0, 1) := by decide +kernel
theorem dLaw_171 : decode code 171 = .ok (.ireturn, 1) := by decide +kernel
theorem dLaw_172 : decode code 172 = .ok (.iload 5, 2) := by decide +kernel
theorem dLaw_174 : decode code 174 = .ok (.ifCond .ne 15, 3) := by decide +kernel
theorem dLaw_177 : decode code 177 = .ok (.aload_n 3, 1) := by decide +kernel
theorem dLaw_178 : decode code 178 = .ok (.iconst 0, 1) := by decide +kernel
theorem dLaw_179 : decode code 179 = .ok (.laload, 1) := by decide +kernel
theorem dLaw_180 : decode code 180 = .ok (.iload 6, 2) := by decide +kernel
theorem dLaw_182 : decode code 182 = .ok (.i2l, 1) := by decide +kernel
theorem dLaw_183 : decode code 183 = .ok (.lcmp, 1) := by decide +kernel
theorem dLaw_184 : decode code 184 = .ok (.ifCond .eq 5, 3) := by decide +kernel
theorem dLaw_187 : decode code 187 = .ok (.iconst 0, 1) := by decide +kernel
theorem dLaw_188 : decode code 188 = .ok (.ireturn, 1) := by decide +kernel
theorem dLaw_189 : decode code 189 = .ok (.goto 684, 3) := by decide +kernel
theorem dLaw_192 : decode code 192 = .ok (.aload_n 1, 1) := by decide +kernel
theorem dLaw_193 : decode code 193 = .ok (.aload_n 0, 1) := by decide +kernel
theorem dLaw_194 : decode code 194 = .ok (.iload 4, 2) := by decide +kernel
theorem dLaw_196 : decode code 196 = .ok (.iconst 1, 1) := by decide +kernel
theorem dLaw_197 : decode code 197 = .ok (.iadd, 1) := by decide +kernel
theorem dLaw_198 : decode code 198 = .ok (.iaload, 1) := by decide +kernel
