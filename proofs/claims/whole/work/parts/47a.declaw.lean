theorem dW_0 : decode code 0 = .ok (.new 8, 3) := by decide +kernel
theorem dW_3 : decode code 3 = .ok (.dup, 1) := by decide +kernel
theorem dW_4 : decode code 4 = .ok (.invokespecial 53, 3) := by decide +kernel
theorem dW_7 : decode code 7 = .ok (.astore_n 1, 1) := by decide +kernel
theorem dW_8 : decode code 8 = .ok (.new 54, 3) := by decide +kernel
theorem dW_11 : decode code 11 = .ok (.dup, 1) := by decide +kernel
theorem dW_12 : decode code 12 = .ok (.invokespecial 56, 3) := by decide +kernel
theorem dW_15 : decode code 15 = .ok (.astore_n 2, 1) := by decide +kernel
theorem dW_16 : decode code 16 = .ok (.iconst 1, 1) := by decide +kernel
theorem dW_17 : decode code 17 = .ok (.newarray .long, 2) := by decide +kernel
theorem dW_19 : decode code 19 = .ok (.astore_n 3, 1) := by decide +kernel
theorem dW_20 : decode code 20 = .ok (.iconst 0, 1) := by decide +kernel
theorem dW_21 : decode code 21 = .ok (.istore 4, 2) := by decide +kernel
theorem dW_23 : decode code 23 = .ok (.iload 4, 2) := by decide +kernel
theorem dW_25 : decode code 25 = .ok (.aload_n 0, 1) := by decide +kernel
theorem dW_26 : decode code 26 = .ok (.arraylength, 1) := by decide +kernel
theorem dW_27 : decode code 27 = .ok (.iconst 5, 1) := by decide +kernel
theorem dW_28 : decode code 28 = .ok (.isub, 1) := by decide +kernel
theorem dW_29 : decode code 29 = .ok (.if_icmp .gt 1028, 3) := by decide +kernel
theorem dW_32 : decode code 32 = .ok (.aload_n 0, 1) := by decide +kernel
theorem dW_33 : decode code 33 = .ok (.iload 4, 2) := by decide +kernel
theorem dW_35 : decode code 35 = .ok (.iaload, 1) := by decide +kernel
theorem dW_36 : decode code 36 = .ok (.bipush 31, 2) := by decide +kernel
theorem dW_38 : decode code 38 = .ok (.iand, 1) := by decide +kernel
theorem dW_39 : decode code 39 = .ok (.tableswitch 1012 0 17 #[85, 169, 261, 341, 409, 489, 514, 570, 638, 706, 786, 799, 855, 923, 936, 961, 974, 987], 85) := by decide +kernel
theorem dW_124 : decode code 124 = .ok (.aload_n 1, 1) := by decide +kernel
theorem dW_125 : decode code 125 = .ok (.aload_n 0, 1) := by decide +kernel
theorem dW_126 : decode code 126 = .ok (.iload 4, 2) := by decide +kernel
theorem dW_128 : decode code 128 = .ok (.iconst 1, 1) := by decide +kernel
theorem dW_129 : decode code 129 = .ok (.iadd, 1) := by decide +kernel
theorem dW_130 : decode code 130 = .ok (.iaload, 1) := by decide +kernel
theorem dW_131 : decode code 131 = .ok (.aload_n 0, 1) := by decide +kernel
theorem dW_132 : decode code 132 = .ok (.iload 4, 2) := by decide +kernel
theorem dW_134 : decode code 134 = .ok (.iconst 2, 1) := by decide +kernel
theorem dW_135 : decode code 135 = .ok (.iadd, 1) := by decide +kernel
theorem dW_136 : decode code 136 = .ok (.iaload, 1) := by decide +kernel
theorem dW_137 : decode code 137 = .ok (.ifCond .eq 7, 3) := by decide +kernel
theorem dW_140 : decode code 140 = .ok (.iconst 1, 1) := by decide +kernel
theorem dW_141 : decode code 141 = .ok (.goto 4, 3) := by decide +kernel
theorem dW_144 : decode code 144 = .ok (.iconst 0, 1) := by decide +kernel
theorem dW_145 : decode code 145 = .ok (.aload_n 3, 1) := by decide +kernel
theorem dW_146 : decode code 146 = .ok (.invokestatic 57, 3) := by decide +kernel
theorem dW_149 : decode code 149 = .ok (.istore 5, 2) := by decide +kernel
theorem dW_151 : decode code 151 = .ok (.aload_n 2, 1) := by decide +kernel
theorem dW_152 : decode code 152 = .ok (.aload_n 0, 1) := by decide +kernel
theorem dW_153 : decode code 153 = .ok (.iload 4, 2) := by decide +kernel
theorem dW_155 : decode code 155 = .ok (.iconst 1, 1) := by decide +kernel
theorem dW_156 : decode code 156 = .ok (.iadd, 1) := by decide +kernel
theorem dW_157 : decode code 157 = .ok (.iaload, 1) := by decide +kernel
theorem dW_158 : decode code 158 = .ok (.aload_n 0, 1) := by decide +kernel
theorem dW_159 : decode code 159 = .ok (.iload 4, 2) := by decide +kernel
theorem dW_161 : decode code 161 = .ok (.iconst 2, 1) := by decide +kernel
theorem dW_162 : decode code 162 = .ok (.iadd, 1) := by decide +kernel
theorem dW_163 : decode code 163 = .ok (.iaload, 1) := by decide +kernel
theorem dW_164 : decode code 164 = .ok (.ifCond .eq 7, 3) := by decide +kernel
theorem dW_167 : decode code 167 = .ok (.iconst 1, 1) := by decide +kernel
theorem dW_168 : decode code 168 = .ok (.goto 4, 3) := by decide +kernel
theorem dW_171 : decode code 171 = .ok (.iconst 0, 1) := by decide +kernel
theorem dW_172 : decode code 172 = .ok (.invokevirtual 62, 3) := by decide +kernel
theorem dW_175 : decode code 175 = .ok (.istore 6, 2) := by decide +kernel
theorem dW_177 : decode code 177 = .ok (.aload_n 2, 1) := by decide +kernel
theorem dW_178 : decode code 178 = .ok (.invokevirtual 63, 3) := by decide +kernel
theorem dW_181 : decode code 181 = .ok (.iload 5, 2) := by decide +kernel
theorem dW_183 : decode code 183 = .ok (.if_icmp .eq 5, 3) := by decide +kernel
theorem dW_186 : decode code 186 = .ok (.iconst 0, 1) := by decide +kernel
theorem dW_187 : decode code 187 = .ok (.ireturn, 1) := by decide +kernel
theorem dW_188 : decode code 188 = .ok (.iload 5, 2) := by decide +kernel
theorem dW_190 : decode code 190 = .ok (.ifCond .ne 15, 3) := by decide +kernel
theorem dW_193 : decode code 193 = .ok (.aload_n 3, 1) := by decide +kernel
theorem dW_194 : decode code 194 = .ok (.iconst 0, 1) := by decide +kernel
theorem dW_195 : decode code 195 = .ok (.laload, 1) := by decide +kernel
theorem dW_196 : decode code 196 = .ok (.iload 6, 2) := by decide +kernel
theorem dW_198 : decode code 198 = .ok (.i2l, 1) := by decide +kernel
theorem dW_199 : decode code 199 = .ok (.lcmp, 1) := by decide +kernel
theorem dW_200 : decode code 200 = .ok (.ifCond .eq 5, 3) := by decide +kernel
theorem dW_203 : decode code 203 = .ok (.iconst 0, 1) := by decide +kernel
theorem dW_204 : decode code 204 = .ok (.ireturn, 1) := by decide +kernel
theorem dW_205 : decode code 205 = .ok (.goto 846, 3) := by decide +kernel
theorem dW_208 : decode code 208 = .ok (.aload_n 1, 1) := by decide +kernel
theorem dW_209 : decode code 209 = .ok (.aload_n 0, 1) := by decide +kernel
theorem dW_210 : decode code 210 = .ok (.iload 4, 2) := by decide +kernel
theorem dW_212 : decode code 212 = .ok (.iconst 1, 1) := by decide +kernel
theorem dW_213 : decode code 213 = .ok (.iadd, 1) := by decide +kernel
theorem dW_214 : decode code 214 = .ok (.iaload, 1) := by decide +kernel
theorem dW_215 : decode code 215 = .ok (.aload_n 0, 1) := by decide +kernel
theorem dW_216 : decode code 216 = .ok (.iload 4, 2) := by decide +kernel
theorem dW_218 : decode code 218 = .ok (.iconst 2, 1) := by decide +kernel
theorem dW_219 : decode code 219 = .ok (.iadd, 1) := by decide +kernel
theorem dW_220 : decode code 220 = .ok (.iaload, 1) := by decide +kernel
theorem dW_221 : decode code 221 = .ok (.aload_n 0, 1) := by decide +kernel
theorem dW_222 : decode code 222 = .ok (.iload 4, 2) := by decide +kernel
theorem dW_224 : decode code 224 = .ok (.iconst 3, 1) := by decide +kernel
theorem dW_225 : decode code 225 = .ok (.iadd, 1) := by decide +kernel
theorem dW_226 : decode code 226 = .ok (.iaload, 1) := by decide +kernel
theorem dW_227 : decode code 227 = .ok (.aload_n 0, 1) := by decide +kernel
theorem dW_228 : decode code 228 = .ok (.iload 4, 2) := by decide +kernel
theorem dW_230 : decode code 230 = .ok (.iconst 4, 1) := by decide +kernel
theorem dW_231 : decode code 231 = .ok (.iadd, 1) := by decide +kernel
theorem dW_232 : decode code 232 = .ok (.iaload, 1) := by decide +kernel
theorem dW_233 : decode code 233 = .ok (.aload_n 3, 1) := by decide +kernel
theorem dW_234 : decode code 234 = .ok (.invokestatic 67, 3) := by decide +kernel
theorem dW_237 : decode code 237 = .ok (.istore 5, 2) := by decide +kernel
theorem dW_239 : decode code 239 = .ok (.aload_n 2, 1) := by decide +kernel
theorem dW_240 : decode code 240 = .ok (.aload_n 0, 1) := by decide +kernel
theorem dW_241 : decode code 241 = .ok (.iload 4, 2) := by decide +kernel
theorem dW_243 : decode code 243 = .ok (.iconst 1, 1) := by decide +kernel
theorem dW_244 : decode code 244 = .ok (.iadd, 1) := by decide +kernel
theorem dW_245 : decode code 245 = .ok (.iaload, 1) := by decide +kernel
theorem dW_246 : decode code 246 = .ok (.aload_n 0, 1) := by decide +kernel
theorem dW_247 : decode code 247 = .ok (.iload 4, 2) := by decide +kernel
