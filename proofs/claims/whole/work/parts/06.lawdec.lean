/-! the law: decode rows -/
theorem dLa_law_0 : decode code 0 = .ok (.new 7, 3) := by decide +kernel
theorem dLa_law_3 : decode code 3 = .ok (.dup, 1) := by decide +kernel
theorem dLa_law_4 : decode code 4 = .ok (.invokespecial 9, 3) := by decide +kernel
theorem dLa_law_7 : decode code 7 = .ok (.astore_n 1, 1) := by decide +kernel
theorem dLa_law_8 : decode code 8 = .ok (.new 10, 3) := by decide +kernel
theorem dLa_law_11 : decode code 11 = .ok (.dup, 1) := by decide +kernel
theorem dLa_law_12 : decode code 12 = .ok (.invokespecial 12, 3) := by decide +kernel
theorem dLa_law_15 : decode code 15 = .ok (.astore_n 2, 1) := by decide +kernel
theorem dLa_law_16 : decode code 16 = .ok (.iconst 0, 1) := by decide +kernel
theorem dLa_law_17 : decode code 17 = .ok (.istore_n 3, 1) := by decide +kernel
theorem dLa_law_18 : decode code 18 = .ok (.iload_n 3, 1) := by decide +kernel
theorem dLa_law_19 : decode code 19 = .ok (.aload_n 0, 1) := by decide +kernel
theorem dLa_law_20 : decode code 20 = .ok (.arraylength, 1) := by decide +kernel
theorem dLa_law_21 : decode code 21 = .ok (.iconst 4, 1) := by decide +kernel
theorem dLa_law_22 : decode code 22 = .ok (.isub, 1) := by decide +kernel
theorem dLa_law_23 : decode code 23 = .ok (.if_icmp .gt 493, 3) := by decide +kernel
theorem dLa_law_26 : decode code 26 = .ok (.aload_n 0, 1) := by decide +kernel
theorem dLa_law_27 : decode code 27 = .ok (.iload_n 3, 1) := by decide +kernel
theorem dLa_law_28 : decode code 28 = .ok (.iaload, 1) := by decide +kernel
theorem dLa_law_29 : decode code 29 = .ok (.bipush 15, 2) := by decide +kernel
theorem dLa_law_31 : decode code 31 = .ok (.iand, 1) := by decide +kernel
theorem dLa_law_112 : decode code 112 = .ok (.aload_n 1, 1) := by decide +kernel
theorem dLa_law_113 : decode code 113 = .ok (.aload_n 0, 1) := by decide +kernel
theorem dLa_law_114 : decode code 114 = .ok (.iload_n 3, 1) := by decide +kernel
theorem dLa_law_115 : decode code 115 = .ok (.iconst 1, 1) := by decide +kernel
theorem dLa_law_116 : decode code 116 = .ok (.iadd, 1) := by decide +kernel
theorem dLa_law_117 : decode code 117 = .ok (.iaload, 1) := by decide +kernel
theorem dLa_law_118 : decode code 118 = .ok (.i2c, 1) := by decide +kernel
theorem dLa_law_119 : decode code 119 = .ok (.invokevirtual 13, 3) := by decide +kernel
theorem dLa_law_122 : decode code 122 = .ok (.aload_n 2, 1) := by decide +kernel
theorem dLa_law_123 : decode code 123 = .ok (.aload_n 0, 1) := by decide +kernel
theorem dLa_law_124 : decode code 124 = .ok (.iload_n 3, 1) := by decide +kernel
theorem dLa_law_125 : decode code 125 = .ok (.iconst 1, 1) := by decide +kernel
theorem dLa_law_126 : decode code 126 = .ok (.iadd, 1) := by decide +kernel
theorem dLa_law_127 : decode code 127 = .ok (.iaload, 1) := by decide +kernel
theorem dLa_law_128 : decode code 128 = .ok (.i2c, 1) := by decide +kernel
theorem dLa_law_129 : decode code 129 = .ok (.invokevirtual 17, 3) := by decide +kernel
theorem dLa_law_132 : decode code 132 = .ok (.if_icmp .eq 378, 3) := by decide +kernel
theorem dLa_law_135 : decode code 135 = .ok (.iconst 0, 1) := by decide +kernel
theorem dLa_law_136 : decode code 136 = .ok (.ireturn, 1) := by decide +kernel
theorem dLa_law_137 : decode code 137 = .ok (.aload_n 1, 1) := by decide +kernel
theorem dLa_law_138 : decode code 138 = .ok (.invokevirtual 18, 3) := by decide +kernel
theorem dLa_law_141 : decode code 141 = .ok (.aload_n 2, 1) := by decide +kernel
theorem dLa_law_142 : decode code 142 = .ok (.invokevirtual 22, 3) := by decide +kernel
theorem dLa_law_145 : decode code 145 = .ok (.if_icmp .eq 365, 3) := by decide +kernel
theorem dLa_law_148 : decode code 148 = .ok (.iconst 0, 1) := by decide +kernel
theorem dLa_law_149 : decode code 149 = .ok (.ireturn, 1) := by decide +kernel
theorem dLa_law_150 : decode code 150 = .ok (.aload_n 1, 1) := by decide +kernel
theorem dLa_law_151 : decode code 151 = .ok (.invokevirtual 23, 3) := by decide +kernel
theorem dLa_law_154 : decode code 154 = .ok (.aload_n 2, 1) := by decide +kernel
theorem dLa_law_155 : decode code 155 = .ok (.invokevirtual 26, 3) := by decide +kernel
theorem dLa_law_158 : decode code 158 = .ok (.if_icmp .eq 352, 3) := by decide +kernel
theorem dLa_law_161 : decode code 161 = .ok (.iconst 0, 1) := by decide +kernel
theorem dLa_law_162 : decode code 162 = .ok (.ireturn, 1) := by decide +kernel
theorem dLa_law_163 : decode code 163 = .ok (.aload_n 1, 1) := by decide +kernel
theorem dLa_law_164 : decode code 164 = .ok (.aload_n 0, 1) := by decide +kernel
theorem dLa_law_165 : decode code 165 = .ok (.iload_n 3, 1) := by decide +kernel
theorem dLa_law_166 : decode code 166 = .ok (.iconst 1, 1) := by decide +kernel
theorem dLa_law_167 : decode code 167 = .ok (.iadd, 1) := by decide +kernel
theorem dLa_law_168 : decode code 168 = .ok (.iaload, 1) := by decide +kernel
theorem dLa_law_169 : decode code 169 = .ok (.aload_n 0, 1) := by decide +kernel
theorem dLa_law_170 : decode code 170 = .ok (.iload_n 3, 1) := by decide +kernel
theorem dLa_law_171 : decode code 171 = .ok (.iconst 2, 1) := by decide +kernel
theorem dLa_law_172 : decode code 172 = .ok (.iadd, 1) := by decide +kernel
theorem dLa_law_173 : decode code 173 = .ok (.iaload, 1) := by decide +kernel
theorem dLa_law_174 : decode code 174 = .ok (.invokevirtual 27, 3) := by decide +kernel
theorem dLa_law_177 : decode code 177 = .ok (.aload_n 2, 1) := by decide +kernel
theorem dLa_law_178 : decode code 178 = .ok (.aload_n 0, 1) := by decide +kernel
theorem dLa_law_179 : decode code 179 = .ok (.iload_n 3, 1) := by decide +kernel
theorem dLa_law_180 : decode code 180 = .ok (.iconst 1, 1) := by decide +kernel
theorem dLa_law_181 : decode code 181 = .ok (.iadd, 1) := by decide +kernel
theorem dLa_law_182 : decode code 182 = .ok (.iaload, 1) := by decide +kernel
theorem dLa_law_183 : decode code 183 = .ok (.aload_n 0, 1) := by decide +kernel
theorem dLa_law_184 : decode code 184 = .ok (.iload_n 3, 1) := by decide +kernel
theorem dLa_law_185 : decode code 185 = .ok (.iconst 2, 1) := by decide +kernel
theorem dLa_law_186 : decode code 186 = .ok (.iadd, 1) := by decide +kernel
theorem dLa_law_187 : decode code 187 = .ok (.iaload, 1) := by decide +kernel
theorem dLa_law_188 : decode code 188 = .ok (.invokevirtual 31, 3) := by decide +kernel
theorem dLa_law_191 : decode code 191 = .ok (.if_icmp .eq 319, 3) := by decide +kernel
theorem dLa_law_194 : decode code 194 = .ok (.iconst 0, 1) := by decide +kernel
theorem dLa_law_195 : decode code 195 = .ok (.ireturn, 1) := by decide +kernel
theorem dLa_law_196 : decode code 196 = .ok (.aload_n 1, 1) := by decide +kernel
theorem dLa_law_197 : decode code 197 = .ok (.aload_n 0, 1) := by decide +kernel
theorem dLa_law_198 : decode code 198 = .ok (.iload_n 3, 1) := by decide +kernel
theorem dLa_law_199 : decode code 199 = .ok (.iconst 1, 1) := by decide +kernel
theorem dLa_law_200 : decode code 200 = .ok (.iadd, 1) := by decide +kernel
theorem dLa_law_201 : decode code 201 = .ok (.iaload, 1) := by decide +kernel
theorem dLa_law_202 : decode code 202 = .ok (.aload_n 0, 1) := by decide +kernel
theorem dLa_law_203 : decode code 203 = .ok (.iload_n 3, 1) := by decide +kernel
theorem dLa_law_204 : decode code 204 = .ok (.iconst 2, 1) := by decide +kernel
theorem dLa_law_205 : decode code 205 = .ok (.iadd, 1) := by decide +kernel
theorem dLa_law_206 : decode code 206 = .ok (.iaload, 1) := by decide +kernel
theorem dLa_law_207 : decode code 207 = .ok (.aload_n 0, 1) := by decide +kernel
theorem dLa_law_208 : decode code 208 = .ok (.iload_n 3, 1) := by decide +kernel
theorem dLa_law_209 : decode code 209 = .ok (.iconst 3, 1) := by decide +kernel
theorem dLa_law_210 : decode code 210 = .ok (.iadd, 1) := by decide +kernel
theorem dLa_law_211 : decode code 211 = .ok (.iaload, 1) := by decide +kernel
theorem dLa_law_212 : decode code 212 = .ok (.invokevirtual 32, 3) := by decide +kernel
theorem dLa_law_215 : decode code 215 = .ok (.aload_n 2, 1) := by decide +kernel
theorem dLa_law_216 : decode code 216 = .ok (.aload_n 0, 1) := by decide +kernel
theorem dLa_law_217 : decode code 217 = .ok (.iload_n 3, 1) := by decide +kernel
theorem dLa_law_218 : decode code 218 = .ok (.iconst 1, 1) := by decide +kernel
theorem dLa_law_219 : decode code 219 = .ok (.iadd, 1) := by decide +kernel
theorem dLa_law_220 : decode code 220 = .ok (.iaload, 1) := by decide +kernel
theorem dLa_law_221 : decode code 221 = .ok (.aload_n 0, 1) := by decide +kernel
theorem dLa_law_222 : decode code 222 = .ok (.iload_n 3, 1) := by decide +kernel
theorem dLa_law_223 : decode code 223 = .ok (.iconst 2, 1) := by decide +kernel
theorem dLa_law_224 : decode code 224 = .ok (.iadd, 1) := by decide +kernel
theorem dLa_law_225 : decode code 225 = .ok (.iaload, 1) := by decide +kernel
theorem dLa_law_226 : decode code 226 = .ok (.aload_n 0, 1) := by decide +kernel
theorem dLa_law_227 : decode code 227 = .ok (.iload_n 3, 1) := by decide +kernel
theorem dLa_law_228 : decode code 228 = .ok (.iconst 3, 1) := by decide +kernel
theorem dLa_law_229 : decode code 229 = .ok (.iadd, 1) := by decide +kernel
theorem dLa_law_230 : decode code 230 = .ok (.iaload, 1) := by decide +kernel
theorem dLa_law_231 : decode code 231 = .ok (.invokevirtual 36, 3) := by decide +kernel
theorem dLa_law_234 : decode code 234 = .ok (.if_icmp .eq 276, 3) := by decide +kernel
theorem dLa_law_237 : decode code 237 = .ok (.iconst 0, 1) := by decide +kernel
theorem dLa_law_238 : decode code 238 = .ok (.ireturn, 1) := by decide +kernel
theorem dLa_law_239 : decode code 239 = .ok (.aload_n 1, 1) := by decide +kernel
theorem dLa_law_240 : decode code 240 = .ok (.aload_n 0, 1) := by decide +kernel
theorem dLa_law_241 : decode code 241 = .ok (.iload_n 3, 1) := by decide +kernel
theorem dLa_law_242 : decode code 242 = .ok (.iconst 1, 1) := by decide +kernel
theorem dLa_law_243 : decode code 243 = .ok (.iadd, 1) := by decide +kernel
theorem dLa_law_244 : decode code 244 = .ok (.iaload, 1) := by decide +kernel
theorem dLa_law_245 : decode code 245 = .ok (.aload_n 0, 1) := by decide +kernel
theorem dLa_law_246 : decode code 246 = .ok (.iload_n 3, 1) := by decide +kernel
theorem dLa_law_247 : decode code 247 = .ok (.iconst 2, 1) := by decide +kernel
theorem dLa_law_248 : decode code 248 = .ok (.iadd, 1) := by decide +kernel
theorem dLa_law_249 : decode code 249 = .ok (.iaload, 1) := by decide +kernel
theorem dLa_law_250 : decode code 250 = .ok (.aload_n 0, 1) := by decide +kernel
theorem dLa_law_251 : decode code 251 = .ok (.iload_n 3, 1) := by decide +kernel
theorem dLa_law_252 : decode code 252 = .ok (.iconst 3, 1) := by decide +kernel
theorem dLa_law_253 : decode code 253 = .ok (.iadd, 1) := by decide +kernel
theorem dLa_law_254 : decode code 254 = .ok (.iaload, 1) := by decide +kernel
theorem dLa_law_255 : decode code 255 = .ok (.invokevirtual 37, 3) := by decide +kernel
theorem dLa_law_258 : decode code 258 = .ok (.aload_n 2, 1) := by decide +kernel
theorem dLa_law_259 : decode code 259 = .ok (.aload_n 0, 1) := by decide +kernel
theorem dLa_law_260 : decode code 260 = .ok (.iload_n 3, 1) := by decide +kernel
theorem dLa_law_261 : decode code 261 = .ok (.iconst 1, 1) := by decide +kernel
theorem dLa_law_262 : decode code 262 = .ok (.iadd, 1) := by decide +kernel
theorem dLa_law_263 : decode code 263 = .ok (.iaload, 1) := by decide +kernel
theorem dLa_law_264 : decode code 264 = .ok (.aload_n 0, 1) := by decide +kernel
theorem dLa_law_265 : decode code 265 = .ok (.iload_n 3, 1) := by decide +kernel
theorem dLa_law_266 : decode code 266 = .ok (.iconst 2, 1) := by decide +kernel
theorem dLa_law_267 : decode code 267 = .ok (.iadd, 1) := by decide +kernel
theorem dLa_law_268 : decode code 268 = .ok (.iaload, 1) := by decide +kernel
theorem dLa_law_269 : decode code 269 = .ok (.aload_n 0, 1) := by decide +kernel
theorem dLa_law_270 : decode code 270 = .ok (.iload_n 3, 1) := by decide +kernel
theorem dLa_law_271 : decode code 271 = .ok (.iconst 3, 1) := by decide +kernel
theorem dLa_law_272 : decode code 272 = .ok (.iadd, 1) := by decide +kernel
theorem dLa_law_273 : decode code 273 = .ok (.iaload, 1) := by decide +kernel
theorem dLa_law_274 : decode code 274 = .ok (.invokevirtual 40, 3) := by decide +kernel
theorem dLa_law_277 : decode code 277 = .ok (.if_icmp .eq 233, 3) := by decide +kernel
theorem dLa_law_280 : decode code 280 = .ok (.iconst 0, 1) := by decide +kernel
theorem dLa_law_281 : decode code 281 = .ok (.ireturn, 1) := by decide +kernel
theorem dLa_law_282 : decode code 282 = .ok (.aload_n 1, 1) := by decide +kernel
theorem dLa_law_283 : decode code 283 = .ok (.invokevirtual 41, 3) := by decide +kernel
theorem dLa_law_286 : decode code 286 = .ok (.aload_n 2, 1) := by decide +kernel
theorem dLa_law_287 : decode code 287 = .ok (.invokevirtual 44, 3) := by decide +kernel
theorem dLa_law_290 : decode code 290 = .ok (.if_icmp .eq 220, 3) := by decide +kernel
theorem dLa_law_293 : decode code 293 = .ok (.iconst 0, 1) := by decide +kernel
theorem dLa_law_294 : decode code 294 = .ok (.ireturn, 1) := by decide +kernel
theorem dLa_law_295 : decode code 295 = .ok (.aload_n 1, 1) := by decide +kernel
