theorem d_La_law_0 : decode code 0 = .ok (.new 8, 3) := by decide +kernel
theorem d_La_law_3 : decode code 3 = .ok (.dup, 1) := by decide +kernel
theorem d_La_law_4 : decode code 4 = .ok (.aload_n 0, 1) := by decide +kernel
theorem d_La_law_5 : decode code 5 = .ok (.iconst 0, 1) := by decide +kernel
theorem d_La_law_6 : decode code 6 = .ok (.invokestatic 53, 3) := by decide +kernel
theorem d_La_law_9 : decode code 9 = .ok (.aload_n 0, 1) := by decide +kernel
theorem d_La_law_10 : decode code 10 = .ok (.iconst 1, 1) := by decide +kernel
theorem d_La_law_11 : decode code 11 = .ok (.invokestatic 53, 3) := by decide +kernel
theorem d_La_law_14 : decode code 14 = .ok (.invokespecial 58, 3) := by decide +kernel
theorem d_La_law_17 : decode code 17 = .ok (.astore_n 1, 1) := by decide +kernel
theorem d_La_law_18 : decode code 18 = .ok (.new 61, 3) := by decide +kernel
theorem d_La_law_21 : decode code 21 = .ok (.dup, 1) := by decide +kernel
theorem d_La_law_22 : decode code 22 = .ok (.aload_n 0, 1) := by decide +kernel
theorem d_La_law_23 : decode code 23 = .ok (.iconst 0, 1) := by decide +kernel
theorem d_La_law_24 : decode code 24 = .ok (.invokestatic 53, 3) := by decide +kernel
theorem d_La_law_27 : decode code 27 = .ok (.aload_n 0, 1) := by decide +kernel
theorem d_La_law_28 : decode code 28 = .ok (.iconst 1, 1) := by decide +kernel
theorem d_La_law_29 : decode code 29 = .ok (.invokestatic 53, 3) := by decide +kernel
theorem d_La_law_32 : decode code 32 = .ok (.invokespecial 63, 3) := by decide +kernel
theorem d_La_law_35 : decode code 35 = .ok (.astore_n 2, 1) := by decide +kernel
theorem d_La_law_36 : decode code 36 = .ok (.iconst 1, 1) := by decide +kernel
theorem d_La_law_37 : decode code 37 = .ok (.newarray .long, 2) := by decide +kernel
theorem d_La_law_39 : decode code 39 = .ok (.astore_n 3, 1) := by decide +kernel
theorem d_La_law_40 : decode code 40 = .ok (.iconst 2, 1) := by decide +kernel
theorem d_La_law_41 : decode code 41 = .ok (.istore 4, 2) := by decide +kernel
theorem d_La_law_43 : decode code 43 = .ok (.iload 4, 2) := by decide +kernel
theorem d_La_law_45 : decode code 45 = .ok (.aload_n 0, 1) := by decide +kernel
theorem d_La_law_46 : decode code 46 = .ok (.arraylength, 1) := by decide +kernel
theorem d_La_law_47 : decode code 47 = .ok (.iconst 5, 1) := by decide +kernel
theorem d_La_law_48 : decode code 48 = .ok (.isub, 1) := by decide +kernel
theorem d_La_law_49 : decode code 49 = .ok (.if_icmp .gt 623, 3) := by decide +kernel
theorem d_La_law_52 : decode code 52 = .ok (.aload_n 0, 1) := by decide +kernel
theorem d_La_law_53 : decode code 53 = .ok (.iload 4, 2) := by decide +kernel
theorem d_La_law_55 : decode code 55 = .ok (.iaload, 1) := by decide +kernel
theorem d_La_law_56 : decode code 56 = .ok (.bipush 15, 2) := by decide +kernel
theorem d_La_law_58 : decode code 58 = .ok (.iand, 1) := by decide +kernel
theorem d_La_law_59 : decode code 59 = .ok (.tableswitch 607 0 11 #[61, 141, 202, 254, 318, 331, 371, 399, 427, 455, 554, 594], 61) := by decide +kernel
theorem d_La_law_120 : decode code 120 = .ok (.aload_n 1, 1) := by decide +kernel
theorem d_La_law_121 : decode code 121 = .ok (.aload_n 0, 1) := by decide +kernel
theorem d_La_law_122 : decode code 122 = .ok (.iload 4, 2) := by decide +kernel
theorem d_La_law_124 : decode code 124 = .ok (.iconst 1, 1) := by decide +kernel
theorem d_La_law_125 : decode code 125 = .ok (.iadd, 1) := by decide +kernel
theorem d_La_law_126 : decode code 126 = .ok (.iaload, 1) := by decide +kernel
theorem d_La_law_127 : decode code 127 = .ok (.aload_n 0, 1) := by decide +kernel
theorem d_La_law_128 : decode code 128 = .ok (.iload 4, 2) := by decide +kernel
theorem d_La_law_130 : decode code 130 = .ok (.iconst 2, 1) := by decide +kernel
theorem d_La_law_131 : decode code 131 = .ok (.iadd, 1) := by decide +kernel
theorem d_La_law_132 : decode code 132 = .ok (.iaload, 1) := by decide +kernel
theorem d_La_law_133 : decode code 133 = .ok (.aload_n 0, 1) := by decide +kernel
theorem d_La_law_134 : decode code 134 = .ok (.iload 4, 2) := by decide +kernel
theorem d_La_law_136 : decode code 136 = .ok (.iconst 3, 1) := by decide +kernel
theorem d_La_law_137 : decode code 137 = .ok (.iadd, 1) := by decide +kernel
theorem d_La_law_138 : decode code 138 = .ok (.iaload, 1) := by decide +kernel
theorem d_La_law_139 : decode code 139 = .ok (.aload_n 0, 1) := by decide +kernel
theorem d_La_law_140 : decode code 140 = .ok (.iload 4, 2) := by decide +kernel
theorem d_La_law_142 : decode code 142 = .ok (.iconst 4, 1) := by decide +kernel
theorem d_La_law_143 : decode code 143 = .ok (.iadd, 1) := by decide +kernel
theorem d_La_law_144 : decode code 144 = .ok (.iaload, 1) := by decide +kernel
theorem d_La_law_145 : decode code 145 = .ok (.ifCond .eq 7, 3) := by decide +kernel
theorem d_La_law_148 : decode code 148 = .ok (.iconst 1, 1) := by decide +kernel
theorem d_La_law_149 : decode code 149 = .ok (.goto 4, 3) := by decide +kernel
theorem d_La_law_152 : decode code 152 = .ok (.iconst 0, 1) := by decide +kernel
theorem d_La_law_153 : decode code 153 = .ok (.aload_n 3, 1) := by decide +kernel
theorem d_La_law_154 : decode code 154 = .ok (.invokestatic 64, 3) := by decide +kernel
theorem d_La_law_157 : decode code 157 = .ok (.istore 5, 2) := by decide +kernel
theorem d_La_law_159 : decode code 159 = .ok (.aload_n 2, 1) := by decide +kernel
theorem d_La_law_160 : decode code 160 = .ok (.aload_n 0, 1) := by decide +kernel
theorem d_La_law_161 : decode code 161 = .ok (.iload 4, 2) := by decide +kernel
theorem d_La_law_163 : decode code 163 = .ok (.iconst 1, 1) := by decide +kernel
theorem d_La_law_164 : decode code 164 = .ok (.iadd, 1) := by decide +kernel
theorem d_La_law_165 : decode code 165 = .ok (.iaload, 1) := by decide +kernel
theorem d_La_law_166 : decode code 166 = .ok (.aload_n 0, 1) := by decide +kernel
theorem d_La_law_167 : decode code 167 = .ok (.iload 4, 2) := by decide +kernel
theorem d_La_law_169 : decode code 169 = .ok (.iconst 2, 1) := by decide +kernel
theorem d_La_law_170 : decode code 170 = .ok (.iadd, 1) := by decide +kernel
theorem d_La_law_171 : decode code 171 = .ok (.iaload, 1) := by decide +kernel
theorem d_La_law_172 : decode code 172 = .ok (.aload_n 0, 1) := by decide +kernel
theorem d_La_law_173 : decode code 173 = .ok (.iload 4, 2) := by decide +kernel
theorem d_La_law_175 : decode code 175 = .ok (.iconst 3, 1) := by decide +kernel
theorem d_La_law_176 : decode code 176 = .ok (.iadd, 1) := by decide +kernel
theorem d_La_law_177 : decode code 177 = .ok (.iaload, 1) := by decide +kernel
theorem d_La_law_178 : decode code 178 = .ok (.aload_n 0, 1) := by decide +kernel
theorem d_La_law_179 : decode code 179 = .ok (.iload 4, 2) := by decide +kernel
theorem d_La_law_181 : decode code 181 = .ok (.iconst 4, 1) := by decide +kernel
theorem d_La_law_182 : decode code 182 = .ok (.iadd, 1) := by decide +kernel
theorem d_La_law_183 : decode code 183 = .ok (.iaload, 1) := by decide +kernel
theorem d_La_law_184 : decode code 184 = .ok (.ifCond .eq 7, 3) := by decide +kernel
theorem d_La_law_187 : decode code 187 = .ok (.iconst 1, 1) := by decide +kernel
theorem d_La_law_188 : decode code 188 = .ok (.goto 4, 3) := by decide +kernel
theorem d_La_law_191 : decode code 191 = .ok (.iconst 0, 1) := by decide +kernel
theorem d_La_law_192 : decode code 192 = .ok (.invokevirtual 67, 3) := by decide +kernel
theorem d_La_law_195 : decode code 195 = .ok (.istore 6, 2) := by decide +kernel
theorem d_La_law_197 : decode code 197 = .ok (.goto 469, 3) := by decide +kernel
theorem d_La_law_200 : decode code 200 = .ok (.aload_n 1, 1) := by decide +kernel
theorem d_La_law_201 : decode code 201 = .ok (.aload_n 0, 1) := by decide +kernel
theorem d_La_law_202 : decode code 202 = .ok (.iload 4, 2) := by decide +kernel
theorem d_La_law_204 : decode code 204 = .ok (.iconst 1, 1) := by decide +kernel
theorem d_La_law_205 : decode code 205 = .ok (.iadd, 1) := by decide +kernel
theorem d_La_law_206 : decode code 206 = .ok (.iaload, 1) := by decide +kernel
theorem d_La_law_207 : decode code 207 = .ok (.aload_n 0, 1) := by decide +kernel
theorem d_La_law_208 : decode code 208 = .ok (.iload 4, 2) := by decide +kernel
theorem d_La_law_210 : decode code 210 = .ok (.iconst 2, 1) := by decide +kernel
theorem d_La_law_211 : decode code 211 = .ok (.iadd, 1) := by decide +kernel
theorem d_La_law_212 : decode code 212 = .ok (.iaload, 1) := by decide +kernel
theorem d_La_law_213 : decode code 213 = .ok (.aload_n 0, 1) := by decide +kernel
theorem d_La_law_214 : decode code 214 = .ok (.iload 4, 2) := by decide +kernel
theorem d_La_law_216 : decode code 216 = .ok (.iconst 3, 1) := by decide +kernel
theorem d_La_law_217 : decode code 217 = .ok (.iadd, 1) := by decide +kernel
theorem d_La_law_218 : decode code 218 = .ok (.iaload, 1) := by decide +kernel
theorem d_La_law_219 : decode code 219 = .ok (.aload_n 0, 1) := by decide +kernel
