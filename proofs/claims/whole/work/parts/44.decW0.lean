theorem d_L_law_0 : decode b_L_law 0 = .ok (.new 8, 3) := by decide +kernel
theorem d_L_law_3 : decode b_L_law 3 = .ok (.dup, 1) := by decide +kernel
theorem d_L_law_4 : decode b_L_law 4 = .ok (.invokespecial 54, 3) := by decide +kernel
theorem d_L_law_7 : decode b_L_law 7 = .ok (.astore_n 1, 1) := by decide +kernel
theorem d_L_law_8 : decode b_L_law 8 = .ok (.new 55, 3) := by decide +kernel
theorem d_L_law_11 : decode b_L_law 11 = .ok (.dup, 1) := by decide +kernel
theorem d_L_law_12 : decode b_L_law 12 = .ok (.invokespecial 57, 3) := by decide +kernel
theorem d_L_law_15 : decode b_L_law 15 = .ok (.astore_n 2, 1) := by decide +kernel
theorem d_L_law_16 : decode b_L_law 16 = .ok (.iconst 1, 1) := by decide +kernel
theorem d_L_law_17 : decode b_L_law 17 = .ok (.newarray .long, 2) := by decide +kernel
theorem d_L_law_19 : decode b_L_law 19 = .ok (.astore_n 3, 1) := by decide +kernel
theorem d_L_law_20 : decode b_L_law 20 = .ok (.iconst 0, 1) := by decide +kernel
theorem d_L_law_21 : decode b_L_law 21 = .ok (.istore 4, 2) := by decide +kernel
theorem d_L_law_23 : decode b_L_law 23 = .ok (.iload 4, 2) := by decide +kernel
theorem d_L_law_25 : decode b_L_law 25 = .ok (.aload_n 0, 1) := by decide +kernel
theorem d_L_law_26 : decode b_L_law 26 = .ok (.arraylength, 1) := by decide +kernel
theorem d_L_law_27 : decode b_L_law 27 = .ok (.iconst 5, 1) := by decide +kernel
theorem d_L_law_28 : decode b_L_law 28 = .ok (.isub, 1) := by decide +kernel
theorem d_L_law_29 : decode b_L_law 29 = .ok (.if_icmp .gt 834, 3) := by decide +kernel
theorem d_L_law_32 : decode b_L_law 32 = .ok (.aload_n 0, 1) := by decide +kernel
theorem d_L_law_33 : decode b_L_law 33 = .ok (.iload 4, 2) := by decide +kernel
theorem d_L_law_35 : decode b_L_law 35 = .ok (.iaload, 1) := by decide +kernel
theorem d_L_law_36 : decode b_L_law 36 = .ok (.bipush 15, 2) := by decide +kernel
theorem d_L_law_38 : decode b_L_law 38 = .ok (.iand, 1) := by decide +kernel
theorem d_L_law_39 : decode b_L_law 39 = .ok (.tableswitch 818 0 10 #[57, 169, 237, 285, 353, 428, 496, 564, 619, 675, 743], 57) := by decide +kernel
theorem d_L_law_96 : decode b_L_law 96 = .ok (.aload_n 1, 1) := by decide +kernel
theorem d_L_law_97 : decode b_L_law 97 = .ok (.aload_n 0, 1) := by decide +kernel
theorem d_L_law_98 : decode b_L_law 98 = .ok (.iload 4, 2) := by decide +kernel
theorem d_L_law_100 : decode b_L_law 100 = .ok (.iconst 1, 1) := by decide +kernel
theorem d_L_law_101 : decode b_L_law 101 = .ok (.iadd, 1) := by decide +kernel
theorem d_L_law_102 : decode b_L_law 102 = .ok (.iaload, 1) := by decide +kernel
theorem d_L_law_103 : decode b_L_law 103 = .ok (.aload_n 0, 1) := by decide +kernel
theorem d_L_law_104 : decode b_L_law 104 = .ok (.iload 4, 2) := by decide +kernel
theorem d_L_law_106 : decode b_L_law 106 = .ok (.iconst 2, 1) := by decide +kernel
theorem d_L_law_107 : decode b_L_law 107 = .ok (.iadd, 1) := by decide +kernel
theorem d_L_law_108 : decode b_L_law 108 = .ok (.iaload, 1) := by decide +kernel
theorem d_L_law_109 : decode b_L_law 109 = .ok (.aload_n 0, 1) := by decide +kernel
theorem d_L_law_110 : decode b_L_law 110 = .ok (.iload 4, 2) := by decide +kernel
theorem d_L_law_112 : decode b_L_law 112 = .ok (.iconst 3, 1) := by decide +kernel
theorem d_L_law_113 : decode b_L_law 113 = .ok (.iadd, 1) := by decide +kernel
theorem d_L_law_114 : decode b_L_law 114 = .ok (.iaload, 1) := by decide +kernel
theorem d_L_law_115 : decode b_L_law 115 = .ok (.i2l, 1) := by decide +kernel
theorem d_L_law_116 : decode b_L_law 116 = .ok (.bipush 32, 2) := by decide +kernel
theorem d_L_law_118 : decode b_L_law 118 = .ok (.lshl, 1) := by decide +kernel
theorem d_L_law_119 : decode b_L_law 119 = .ok (.aload_n 0, 1) := by decide +kernel
theorem d_L_law_120 : decode b_L_law 120 = .ok (.iload 4, 2) := by decide +kernel
theorem d_L_law_122 : decode b_L_law 122 = .ok (.iconst 4, 1) := by decide +kernel
theorem d_L_law_123 : decode b_L_law 123 = .ok (.iadd, 1) := by decide +kernel
theorem d_L_law_124 : decode b_L_law 124 = .ok (.iaload, 1) := by decide +kernel
theorem d_L_law_125 : decode b_L_law 125 = .ok (.i2l, 1) := by decide +kernel
theorem d_L_law_126 : decode b_L_law 126 = .ok (.ldc2_w 58, 3) := by decide +kernel
theorem d_L_law_129 : decode b_L_law 129 = .ok (.land, 1) := by decide +kernel
theorem d_L_law_130 : decode b_L_law 130 = .ok (.lor, 1) := by decide +kernel
theorem d_L_law_131 : decode b_L_law 131 = .ok (.aload_n 3, 1) := by decide +kernel
theorem d_L_law_132 : decode b_L_law 132 = .ok (.invokestatic 60, 3) := by decide +kernel
theorem d_L_law_135 : decode b_L_law 135 = .ok (.istore 5, 2) := by decide +kernel
theorem d_L_law_137 : decode b_L_law 137 = .ok (.aload_n 2, 1) := by decide +kernel
theorem d_L_law_138 : decode b_L_law 138 = .ok (.aload_n 0, 1) := by decide +kernel
theorem d_L_law_139 : decode b_L_law 139 = .ok (.iload 4, 2) := by decide +kernel
theorem d_L_law_141 : decode b_L_law 141 = .ok (.iconst 1, 1) := by decide +kernel
theorem d_L_law_142 : decode b_L_law 142 = .ok (.iadd, 1) := by decide +kernel
theorem d_L_law_143 : decode b_L_law 143 = .ok (.iaload, 1) := by decide +kernel
theorem d_L_law_144 : decode b_L_law 144 = .ok (.aload_n 0, 1) := by decide +kernel
theorem d_L_law_145 : decode b_L_law 145 = .ok (.iload 4, 2) := by decide +kernel
theorem d_L_law_147 : decode b_L_law 147 = .ok (.iconst 2, 1) := by decide +kernel
theorem d_L_law_148 : decode b_L_law 148 = .ok (.iadd, 1) := by decide +kernel
theorem d_L_law_149 : decode b_L_law 149 = .ok (.iaload, 1) := by decide +kernel
theorem d_L_law_150 : decode b_L_law 150 = .ok (.aload_n 0, 1) := by decide +kernel
theorem d_L_law_151 : decode b_L_law 151 = .ok (.iload 4, 2) := by decide +kernel
theorem d_L_law_153 : decode b_L_law 153 = .ok (.iconst 3, 1) := by decide +kernel
theorem d_L_law_154 : decode b_L_law 154 = .ok (.iadd, 1) := by decide +kernel
theorem d_L_law_155 : decode b_L_law 155 = .ok (.iaload, 1) := by decide +kernel
theorem d_L_law_156 : decode b_L_law 156 = .ok (.i2l, 1) := by decide +kernel
theorem d_L_law_157 : decode b_L_law 157 = .ok (.bipush 32, 2) := by decide +kernel
theorem d_L_law_159 : decode b_L_law 159 = .ok (.lshl, 1) := by decide +kernel
theorem d_L_law_160 : decode b_L_law 160 = .ok (.aload_n 0, 1) := by decide +kernel
theorem d_L_law_161 : decode b_L_law 161 = .ok (.iload 4, 2) := by decide +kernel
theorem d_L_law_163 : decode b_L_law 163 = .ok (.iconst 4, 1) := by decide +kernel
theorem d_L_law_164 : decode b_L_law 164 = .ok (.iadd, 1) := by decide +kernel
theorem d_L_law_165 : decode b_L_law 165 = .ok (.iaload, 1) := by decide +kernel
theorem d_L_law_166 : decode b_L_law 166 = .ok (.i2l, 1) := by decide +kernel
theorem d_L_law_167 : decode b_L_law 167 = .ok (.ldc2_w 58, 3) := by decide +kernel
theorem d_L_law_170 : decode b_L_law 170 = .ok (.land, 1) := by decide +kernel
theorem d_L_law_171 : decode b_L_law 171 = .ok (.lor, 1) := by decide +kernel
theorem d_L_law_172 : decode b_L_law 172 = .ok (.invokevirtual 65, 3) := by decide +kernel
theorem d_L_law_175 : decode b_L_law 175 = .ok (.istore 6, 2) := by decide +kernel
theorem d_L_law_177 : decode b_L_law 177 = .ok (.aload_n 2, 1) := by decide +kernel
theorem d_L_law_178 : decode b_L_law 178 = .ok (.invokevirtual 66, 3) := by decide +kernel
theorem d_L_law_181 : decode b_L_law 181 = .ok (.iload 5, 2) := by decide +kernel
theorem d_L_law_183 : decode b_L_law 183 = .ok (.if_icmp .eq 5, 3) := by decide +kernel
theorem d_L_law_186 : decode b_L_law 186 = .ok (.iconst 0, 1) := by decide +kernel
theorem d_L_law_187 : decode b_L_law 187 = .ok (.ireturn, 1) := by decide +kernel
theorem d_L_law_188 : decode b_L_law 188 = .ok (.iload 5, 2) := by decide +kernel
theorem d_L_law_190 : decode b_L_law 190 = .ok (.ifCond .ne 15, 3) := by decide +kernel
theorem d_L_law_193 : decode b_L_law 193 = .ok (.aload_n 3, 1) := by decide +kernel
theorem d_L_law_194 : decode b_L_law 194 = .ok (.iconst 0, 1) := by decide +kernel
theorem d_L_law_195 : decode b_L_law 195 = .ok (.laload, 1) := by decide +kernel
theorem d_L_law_196 : decode b_L_law 196 = .ok (.iload 6, 2) := by decide +kernel
theorem d_L_law_198 : decode b_L_law 198 = .ok (.i2l, 1) := by decide +kernel
theorem d_L_law_199 : decode b_L_law 199 = .ok (.lcmp, 1) := by decide +kernel
theorem d_L_law_200 : decode b_L_law 200 = .ok (.ifCond .eq 5, 3) := by decide +kernel
theorem d_L_law_203 : decode b_L_law 203 = .ok (.iconst 0, 1) := by decide +kernel
theorem d_L_law_204 : decode b_L_law 204 = .ok (.ireturn, 1) := by decide +kernel
theorem d_L_law_205 : decode b_L_law 205 = .ok (.goto 652, 3) := by decide +kernel
theorem d_L_law_208 : decode b_L_law 208 = .ok (.aload_n 1, 1) := by decide +kernel
theorem d_L_law_209 : decode b_L_law 209 = .ok (.aload_n 0, 1) := by decide +kernel
theorem d_L_law_210 : decode b_L_law 210 = .ok (.iload 4, 2) := by decide +kernel
theorem d_L_law_212 : decode b_L_law 212 = .ok (.iconst 1, 1) := by decide +kernel
theorem d_L_law_213 : decode b_L_law 213 = .ok (.iadd, 1) := by decide +kernel
theorem d_L_law_214 : decode b_L_law 214 = .ok (.iaload, 1) := by decide +kernel
theorem d_L_law_215 : decode b_L_law 215 = .ok (.aload_n 0, 1) := by decide +kernel
theorem d_L_law_216 : decode b_L_law 216 = .ok (.iload 4, 2) := by decide +kernel
theorem d_L_law_218 : decode b_L_law 218 = .ok (.iconst 2, 1) := by decide +kernel
theorem d_L_law_219 : decode b_L_law 219 = .ok (.iadd, 1) := by decide +kernel
theorem d_L_law_220 : decode b_L_law 220 = .ok (.iaload, 1) := by decide +kernel
theorem d_L_law_221 : decode b_L_law 221 = .ok (.aload_n 3, 1) := by decide +kernel
theorem d_L_law_222 : decode b_L_law 222 = .ok (.invokestatic 70, 3) := by decide +kernel
theorem d_L_law_225 : decode b_L_law 225 = .ok (.istore 5, 2) := by decide +kernel
theorem d_L_law_227 : decode b_L_law 227 = .ok (.aload_n 2, 1) := by decide +kernel
theorem d_L_law_228 : decode b_L_law 228 = .ok (.aload_n 0, 1) := by decide +kernel
theorem d_L_law_229 : decode b_L_law 229 = .ok (.iload 4, 2) := by decide +kernel
theorem d_L_law_231 : decode b_L_law 231 = .ok (.iconst 1, 1) := by decide +kernel
theorem d_L_law_232 : decode b_L_law 232 = .ok (.iadd, 1) := by decide +kernel
theorem d_L_law_233 : decode b_L_law 233 = .ok (.iaload, 1) := by decide +kernel
theorem d_L_law_234 : decode b_L_law 234 = .ok (.aload_n 0, 1) := by decide +kernel
theorem d_L_law_235 : decode b_L_law 235 = .ok (.iload 4, 2) := by decide +kernel
theorem d_L_law_237 : decode b_L_law 237 = .ok (.iconst 2, 1) := by decide +kernel
theorem d_L_law_238 : decode b_L_law 238 = .ok (.iadd, 1) := by decide +kernel
theorem d_L_law_239 : decode b_L_law 239 = .ok (.iaload, 1) := by decide +kernel
theorem d_L_law_240 : decode b_L_law 240 = .ok (.invokevirtual 73, 3) := by decide +kernel
theorem d_L_law_243 : decode b_L_law 243 = .ok (.istore 6, 2) := by decide +kernel
theorem d_L_law_245 : decode b_L_law 245 = .ok (.aload_n 2, 1) := by decide +kernel
theorem d_L_law_246 : decode b_L_law 246 = .ok (.invokevirtual 66, 3) := by decide +kernel
theorem d_L_law_249 : decode b_L_law 249 = .ok (.iload 5, 2) := by decide +kernel
theorem d_L_law_251 : decode b_L_law 251 = .ok (.if_icmp .eq 5, 3) := by decide +kernel
theorem d_L_law_254 : decode b_L_law 254 = .ok (.iconst 0, 1) := by decide +kernel
theorem d_L_law_255 : decode b_L_law 255 = .ok (.ireturn, 1) := by decide +kernel
theorem d_L_law_256 : decode b_L_law 256 = .ok (.iload 5, 2) := by decide +kernel
theorem d_L_law_258 : decode b_L_law 258 = .ok (.ifCond .ne 15, 3) := by decide +kernel
theorem d_L_law_261 : decode b_L_law 261 = .ok (.aload_n 3, 1) := by decide +kernel
theorem d_L_law_262 : decode b_L_law 262 = .ok (.iconst 0, 1) := by decide +kernel
theorem d_L_law_263 : decode b_L_law 263 = .ok (.laload, 1) := by decide +kernel
theorem d_L_law_264 : decode b_L_law 264 = .ok (.iload 6, 2) := by decide +kernel
theorem d_L_law_266 : decode b_L_law 266 = .ok (.i2l, 1) := by decide +kernel
theorem d_L_law_267 : decode b_L_law 267 = .ok (.lcmp, 1) := by decide +kernel
theorem d_L_law_268 : decode b_L_law 268 = .ok (.ifCond .eq 5, 3) := by decide +kernel
theorem d_L_law_271 : decode b_L_law 271 = .ok (.iconst 0, 1) := by decide +kernel
theorem d_L_law_272 : decode b_L_law 272 = .ok (.ireturn, 1) := by decide +kernel
theorem d_L_law_273 : decode b_L_law 273 = .ok (.goto 584, 3) := by decide +kernel
theorem d_L_law_276 : decode b_L_law 276 = .ok (.aload_n 1, 1) := by decide +kernel
theorem d_L_law_277 : decode b_L_law 277 = .ok (.aload_n 0, 1) := by decide +kernel
theorem d_L_law_278 : decode b_L_law 278 = .ok (.iload 4, 2) := by decide +kernel
theorem d_L_law_280 : decode b_L_law 280 = .ok (.iconst 1, 1) := by decide +kernel
theorem d_L_law_281 : decode b_L_law 281 = .ok (.iadd, 1) := by decide +kernel
theorem d_L_law_282 : decode b_L_law 282 = .ok (.iaload, 1) := by decide +kernel
theorem d_L_law_283 : decode b_L_law 283 = .ok (.aload_n 0, 1) := by decide +kernel
theorem d_L_law_284 : decode b_L_law 284 = .ok (.iload 4, 2) := by decide +kernel
theorem d_L_law_286 : decode b_L_law 286 = .ok (.iconst 2, 1) := by decide +kernel
theorem d_L_law_287 : decode b_L_law 287 = .ok (.iadd, 1) := by decide +kernel
theorem d_L_law_288 : decode b_L_law 288 = .ok (.iaload, 1) := by decide +kernel
theorem d_L_law_289 : decode b_L_law 289 = .ok (.invokestatic 74, 3) := by decide +kernel
theorem d_L_law_292 : decode b_L_law 292 = .ok (.istore 5, 2) := by decide +kernel
theorem d_L_law_294 : decode b_L_law 294 = .ok (.aload_n 2, 1) := by decide +kernel
theorem d_L_law_295 : decode b_L_law 295 = .ok (.aload_n 0, 1) := by decide +kernel
theorem d_L_law_296 : decode b_L_law 296 = .ok (.iload 4, 2) := by decide +kernel
theorem d_L_law_298 : decode b_L_law 298 = .ok (.iconst 1, 1) := by decide +kernel
theorem d_L_law_299 : decode b_L_law 299 = .ok (.iadd, 1) := by decide +kernel
theorem d_L_law_300 : decode b_L_law 300 = .ok (.iaload, 1) := by decide +kernel
theorem d_L_law_301 : decode b_L_law 301 = .ok (.aload_n 0, 1) := by decide +kernel
theorem d_L_law_302 : decode b_L_law 302 = .ok (.iload 4, 2) := by decide +kernel
theorem d_L_law_304 : decode b_L_law 304 = .ok (.iconst 2, 1) := by decide +kernel
theorem d_L_law_305 : decode b_L_law 305 = .ok (.iadd, 1) := by decide +kernel
theorem d_L_law_306 : decode b_L_law 306 = .ok (.iaload, 1) := by decide +kernel
theorem d_L_law_307 : decode b_L_law 307 = .ok (.invokevirtual 77, 3) := by decide +kernel
theorem d_L_law_310 : decode b_L_law 310 = .ok (.aload_n 2, 1) := by decide +kernel
theorem d_L_law_311 : decode b_L_law 311 = .ok (.invokevirtual 66, 3) := by decide +kernel
theorem d_L_law_314 : decode b_L_law 314 = .ok (.iload 5, 2) := by decide +kernel
