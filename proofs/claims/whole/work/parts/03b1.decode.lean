theorem dL_law_0 : decode (m_C mL_law) 0 = .ok (.new 7, 3) := by decide +kernel
theorem dL_law_3 : decode (m_C mL_law) 3 = .ok (.dup, 1) := by decide +kernel
theorem dL_law_4 : decode (m_C mL_law) 4 = .ok (.invokespecial 9, 3) := by decide +kernel
theorem dL_law_7 : decode (m_C mL_law) 7 = .ok (.astore_n 1, 1) := by decide +kernel
theorem dL_law_8 : decode (m_C mL_law) 8 = .ok (.new 10, 3) := by decide +kernel
theorem dL_law_11 : decode (m_C mL_law) 11 = .ok (.dup, 1) := by decide +kernel
theorem dL_law_12 : decode (m_C mL_law) 12 = .ok (.invokespecial 12, 3) := by decide +kernel
theorem dL_law_15 : decode (m_C mL_law) 15 = .ok (.astore_n 2, 1) := by decide +kernel
theorem dL_law_16 : decode (m_C mL_law) 16 = .ok (.iconst 0, 1) := by decide +kernel
theorem dL_law_17 : decode (m_C mL_law) 17 = .ok (.istore_n 3, 1) := by decide +kernel
theorem dL_law_18 : decode (m_C mL_law) 18 = .ok (.iload_n 3, 1) := by decide +kernel
theorem dL_law_19 : decode (m_C mL_law) 19 = .ok (.aload_n 0, 1) := by decide +kernel
theorem dL_law_20 : decode (m_C mL_law) 20 = .ok (.arraylength, 1) := by decide +kernel
theorem dL_law_21 : decode (m_C mL_law) 21 = .ok (.iconst 4, 1) := by decide +kernel
theorem dL_law_22 : decode (m_C mL_law) 22 = .ok (.isub, 1) := by decide +kernel
theorem dL_law_23 : decode (m_C mL_law) 23 = .ok (.if_icmp .gt 375, 3) := by decide +kernel
theorem dL_law_26 : decode (m_C mL_law) 26 = .ok (.aload_n 0, 1) := by decide +kernel
theorem dL_law_27 : decode (m_C mL_law) 27 = .ok (.iload_n 3, 1) := by decide +kernel
theorem dL_law_28 : decode (m_C mL_law) 28 = .ok (.iaload, 1) := by decide +kernel
theorem dL_law_29 : decode (m_C mL_law) 29 = .ok (.bipush 15, 2) := by decide +kernel
theorem dL_law_31 : decode (m_C mL_law) 31 = .ok (.iand, 1) := by decide +kernel
theorem dL_law_32 : decode (m_C mL_law) 32 = .ok (.tableswitch 360 0 11 #[64, 127, 140, 153, 166, 179, 192, 255, 278, 291, 304, 337], 64) := by decide +kernel
theorem dL_law_96 : decode (m_C mL_law) 96 = .ok (.aload_n 1, 1) := by decide +kernel
theorem dL_law_97 : decode (m_C mL_law) 97 = .ok (.aload_n 0, 1) := by decide +kernel
theorem dL_law_98 : decode (m_C mL_law) 98 = .ok (.iload_n 3, 1) := by decide +kernel
theorem dL_law_99 : decode (m_C mL_law) 99 = .ok (.iconst 1, 1) := by decide +kernel
theorem dL_law_100 : decode (m_C mL_law) 100 = .ok (.iadd, 1) := by decide +kernel
theorem dL_law_101 : decode (m_C mL_law) 101 = .ok (.iaload, 1) := by decide +kernel
theorem dL_law_102 : decode (m_C mL_law) 102 = .ok (.i2l, 1) := by decide +kernel
theorem dL_law_103 : decode (m_C mL_law) 103 = .ok (.bipush 32, 2) := by decide +kernel
theorem dL_law_105 : decode (m_C mL_law) 105 = .ok (.lshl, 1) := by decide +kernel
theorem dL_law_106 : decode (m_C mL_law) 106 = .ok (.aload_n 0, 1) := by decide +kernel
theorem dL_law_107 : decode (m_C mL_law) 107 = .ok (.iload_n 3, 1) := by decide +kernel
theorem dL_law_108 : decode (m_C mL_law) 108 = .ok (.iconst 2, 1) := by decide +kernel
theorem dL_law_109 : decode (m_C mL_law) 109 = .ok (.iadd, 1) := by decide +kernel
theorem dL_law_110 : decode (m_C mL_law) 110 = .ok (.iaload, 1) := by decide +kernel
theorem dL_law_111 : decode (m_C mL_law) 111 = .ok (.i2l, 1) := by decide +kernel
theorem dL_law_112 : decode (m_C mL_law) 112 = .ok (.ldc2_w 13, 3) := by decide +kernel
theorem dL_law_115 : decode (m_C mL_law) 115 = .ok (.land, 1) := by decide +kernel
theorem dL_law_116 : decode (m_C mL_law) 116 = .ok (.lor, 1) := by decide +kernel
theorem dL_law_117 : decode (m_C mL_law) 117 = .ok (.aload_n 0, 1) := by decide +kernel
theorem dL_law_118 : decode (m_C mL_law) 118 = .ok (.iload_n 3, 1) := by decide +kernel
theorem dL_law_119 : decode (m_C mL_law) 119 = .ok (.iconst 3, 1) := by decide +kernel
theorem dL_law_120 : decode (m_C mL_law) 120 = .ok (.iadd, 1) := by decide +kernel
theorem dL_law_121 : decode (m_C mL_law) 121 = .ok (.iaload, 1) := by decide +kernel
theorem dL_law_122 : decode (m_C mL_law) 122 = .ok (.invokevirtual 15, 3) := by decide +kernel
theorem dL_law_125 : decode (m_C mL_law) 125 = .ok (.aload_n 2, 1) := by decide +kernel
theorem dL_law_126 : decode (m_C mL_law) 126 = .ok (.aload_n 0, 1) := by decide +kernel
theorem dL_law_127 : decode (m_C mL_law) 127 = .ok (.iload_n 3, 1) := by decide +kernel
theorem dL_law_128 : decode (m_C mL_law) 128 = .ok (.iconst 1, 1) := by decide +kernel
theorem dL_law_129 : decode (m_C mL_law) 129 = .ok (.iadd, 1) := by decide +kernel
theorem dL_law_130 : decode (m_C mL_law) 130 = .ok (.iaload, 1) := by decide +kernel
theorem dL_law_131 : decode (m_C mL_law) 131 = .ok (.i2l, 1) := by decide +kernel
theorem dL_law_132 : decode (m_C mL_law) 132 = .ok (.bipush 32, 2) := by decide +kernel
theorem dL_law_134 : decode (m_C mL_law) 134 = .ok (.lshl, 1) := by decide +kernel
theorem dL_law_135 : decode (m_C mL_law) 135 = .ok (.aload_n 0, 1) := by decide +kernel
theorem dL_law_136 : decode (m_C mL_law) 136 = .ok (.iload_n 3, 1) := by decide +kernel
theorem dL_law_137 : decode (m_C mL_law) 137 = .ok (.iconst 2, 1) := by decide +kernel
theorem dL_law_138 : decode (m_C mL_law) 138 = .ok (.iadd, 1) := by decide +kernel
theorem dL_law_139 : decode (m_C mL_law) 139 = .ok (.iaload, 1) := by decide +kernel
theorem dL_law_140 : decode (m_C mL_law) 140 = .ok (.i2l, 1) := by decide +kernel
theorem dL_law_141 : decode (m_C mL_law) 141 = .ok (.ldc2_w 13, 3) := by decide +kernel
theorem dL_law_144 : decode (m_C mL_law) 144 = .ok (.land, 1) := by decide +kernel
theorem dL_law_145 : decode (m_C mL_law) 145 = .ok (.lor, 1) := by decide +kernel
theorem dL_law_146 : decode (m_C mL_law) 146 = .ok (.aload_n 0, 1) := by decide +kernel
theorem dL_law_147 : decode (m_C mL_law) 147 = .ok (.iload_n 3, 1) := by decide +kernel
theorem dL_law_148 : decode (m_C mL_law) 148 = .ok (.iconst 3, 1) := by decide +kernel
theorem dL_law_149 : decode (m_C mL_law) 149 = .ok (.iadd, 1) := by decide +kernel
theorem dL_law_150 : decode (m_C mL_law) 150 = .ok (.iaload, 1) := by decide +kernel
theorem dL_law_151 : decode (m_C mL_law) 151 = .ok (.invokevirtual 19, 3) := by decide +kernel
theorem dL_law_154 : decode (m_C mL_law) 154 = .ok (.if_icmp .eq 238, 3) := by decide +kernel
theorem dL_law_157 : decode (m_C mL_law) 157 = .ok (.iconst 0, 1) := by decide +kernel
theorem dL_law_158 : decode (m_C mL_law) 158 = .ok (.ireturn, 1) := by decide +kernel
theorem dL_law_159 : decode (m_C mL_law) 159 = .ok (.aload_n 1, 1) := by decide +kernel
theorem dL_law_160 : decode (m_C mL_law) 160 = .ok (.invokevirtual 20, 3) := by decide +kernel
theorem dL_law_163 : decode (m_C mL_law) 163 = .ok (.aload_n 2, 1) := by decide +kernel
theorem dL_law_164 : decode (m_C mL_law) 164 = .ok (.invokevirtual 24, 3) := by decide +kernel
theorem dL_law_167 : decode (m_C mL_law) 167 = .ok (.if_icmp .eq 225, 3) := by decide +kernel
theorem dL_law_170 : decode (m_C mL_law) 170 = .ok (.iconst 0, 1) := by decide +kernel
theorem dL_law_171 : decode (m_C mL_law) 171 = .ok (.ireturn, 1) := by decide +kernel
theorem dL_law_172 : decode (m_C mL_law) 172 = .ok (.aload_n 1, 1) := by decide +kernel
theorem dL_law_173 : decode (m_C mL_law) 173 = .ok (.invokevirtual 25, 3) := by decide +kernel
theorem dL_law_176 : decode (m_C mL_law) 176 = .ok (.aload_n 2, 1) := by decide +kernel
theorem dL_law_177 : decode (m_C mL_law) 177 = .ok (.invokevirtual 29, 3) := by decide +kernel
theorem dL_law_180 : decode (m_C mL_law) 180 = .ok (.if_icmp .eq 212, 3) := by decide +kernel
theorem dL_law_183 : decode (m_C mL_law) 183 = .ok (.iconst 0, 1) := by decide +kernel
theorem dL_law_184 : decode (m_C mL_law) 184 = .ok (.ireturn, 1) := by decide +kernel
theorem dL_law_185 : decode (m_C mL_law) 185 = .ok (.aload_n 1, 1) := by decide +kernel
theorem dL_law_186 : decode (m_C mL_law) 186 = .ok (.invokevirtual 30, 3) := by decide +kernel
theorem dL_law_189 : decode (m_C mL_law) 189 = .ok (.aload_n 2, 1) := by decide +kernel
theorem dL_law_190 : decode (m_C mL_law) 190 = .ok (.invokevirtual 33, 3) := by decide +kernel
theorem dL_law_193 : decode (m_C mL_law) 193 = .ok (.if_icmp .eq 199, 3) := by decide +kernel
theorem dL_law_196 : decode (m_C mL_law) 196 = .ok (.iconst 0, 1) := by decide +kernel
theorem dL_law_197 : decode (m_C mL_law) 197 = .ok (.ireturn, 1) := by decide +kernel
theorem dL_law_198 : decode (m_C mL_law) 198 = .ok (.aload_n 1, 1) := by decide +kernel
theorem dL_law_199 : decode (m_C mL_law) 199 = .ok (.invokevirtual 34, 3) := by decide +kernel
theorem dL_law_202 : decode (m_C mL_law) 202 = .ok (.aload_n 2, 1) := by decide +kernel
theorem dL_law_203 : decode (m_C mL_law) 203 = .ok (.invokevirtual 37, 3) := by decide +kernel
theorem dL_law_206 : decode (m_C mL_law) 206 = .ok (.if_icmp .eq 186, 3) := by decide +kernel
theorem dL_law_209 : decode (m_C mL_law) 209 = .ok (.iconst 0, 1) := by decide +kernel
theorem dL_law_210 : decode (m_C mL_law) 210 = .ok (.ireturn, 1) := by decide +kernel
theorem dL_law_211 : decode (m_C mL_law) 211 = .ok (.aload_n 1, 1) := by decide +kernel
theorem dL_law_212 : decode (m_C mL_law) 212 = .ok (.invokevirtual 38, 3) := by decide +kernel
theorem dL_law_215 : decode (m_C mL_law) 215 = .ok (.aload_n 2, 1) := by decide +kernel
theorem dL_law_216 : decode (m_C mL_law) 216 = .ok (.invokevirtual 41, 3) := by decide +kernel
theorem dL_law_219 : decode (m_C mL_law) 219 = .ok (.if_icmp .eq 173, 3) := by decide +kernel
theorem dL_law_222 : decode (m_C mL_law) 222 = .ok (.iconst 0, 1) := by decide +kernel
theorem dL_law_223 : decode (m_C mL_law) 223 = .ok (.ireturn, 1) := by decide +kernel
theorem dL_law_224 : decode (m_C mL_law) 224 = .ok (.aload_n 1, 1) := by decide +kernel
theorem dL_law_225 : decode (m_C mL_law) 225 = .ok (.aload_n 0, 1) := by decide +kernel
theorem dL_law_226 : decode (m_C mL_law) 226 = .ok (.iload_n 3, 1) := by decide +kernel
theorem dL_law_227 : decode (m_C mL_law) 227 = .ok (.iconst 1, 1) := by decide +kernel
theorem dL_law_228 : decode (m_C mL_law) 228 = .ok (.iadd, 1) := by decide +kernel
theorem dL_law_229 : decode (m_C mL_law) 229 = .ok (.iaload, 1) := by decide +kernel
theorem dL_law_230 : decode (m_C mL_law) 230 = .ok (.i2l, 1) := by decide +kernel
theorem dL_law_231 : decode (m_C mL_law) 231 = .ok (.bipush 32, 2) := by decide +kernel
theorem dL_law_233 : decode (m_C mL_law) 233 = .ok (.lshl, 1) := by decide +kernel
theorem dL_law_234 : decode (m_C mL_law) 234 = .ok (.aload_n 0, 1) := by decide +kernel
theorem dL_law_235 : decode (m_C mL_law) 235 = .ok (.iload_n 3, 1) := by decide +kernel
theorem dL_law_236 : decode (m_C mL_law) 236 = .ok (.iconst 2, 1) := by decide +kernel
theorem dL_law_237 : decode (m_C mL_law) 237 = .ok (.iadd, 1) := by decide +kernel
theorem dL_law_238 : decode (m_C mL_law) 238 = .ok (.iaload, 1) := by decide +kernel
theorem dL_law_239 : decode (m_C mL_law) 239 = .ok (.i2l, 1) := by decide +kernel
theorem dL_law_240 : decode (m_C mL_law) 240 = .ok (.ldc2_w 13, 3) := by decide +kernel
theorem dL_law_243 : decode (m_C mL_law) 243 = .ok (.land, 1) := by decide +kernel
theorem dL_law_244 : decode (m_C mL_law) 244 = .ok (.lor, 1) := by decide +kernel
theorem dL_law_245 : decode (m_C mL_law) 245 = .ok (.aload_n 0, 1) := by decide +kernel
theorem dL_law_246 : decode (m_C mL_law) 246 = .ok (.iload_n 3, 1) := by decide +kernel
theorem dL_law_247 : decode (m_C mL_law) 247 = .ok (.iconst 3, 1) := by decide +kernel
theorem dL_law_248 : decode (m_C mL_law) 248 = .ok (.iadd, 1) := by decide +kernel
theorem dL_law_249 : decode (m_C mL_law) 249 = .ok (.iaload, 1) := by decide +kernel
theorem dL_law_250 : decode (m_C mL_law) 250 = .ok (.invokevirtual 42, 3) := by decide +kernel
theorem dL_law_253 : decode (m_C mL_law) 253 = .ok (.aload_n 2, 1) := by decide +kernel
theorem dL_law_254 : decode (m_C mL_law) 254 = .ok (.aload_n 0, 1) := by decide +kernel
theorem dL_law_255 : decode (m_C mL_law) 255 = .ok (.iload_n 3, 1) := by decide +kernel
theorem dL_law_256 : decode (m_C mL_law) 256 = .ok (.iconst 1, 1) := by decide +kernel
theorem dL_law_257 : decode (m_C mL_law) 257 = .ok (.iadd, 1) := by decide +kernel
theorem dL_law_258 : decode (m_C mL_law) 258 = .ok (.iaload, 1) := by decide +kernel
theorem dL_law_259 : decode (m_C mL_law) 259 = .ok (.i2l, 1) := by decide +kernel
theorem dL_law_260 : decode (m_C mL_law) 260 = .ok (.bipush 32, 2) := by decide +kernel
theorem dL_law_262 : decode (m_C mL_law) 262 = .ok (.lshl, 1) := by decide +kernel
theorem dL_law_263 : decode (m_C mL_law) 263 = .ok (.aload_n 0, 1) := by decide +kernel
theorem dL_law_264 : decode (m_C mL_law) 264 = .ok (.iload_n 3, 1) := by decide +kernel
theorem dL_law_265 : decode (m_C mL_law) 265 = .ok (.iconst 2, 1) := by decide +kernel
theorem dL_law_266 : decode (m_C mL_law) 266 = .ok (.iadd, 1) := by decide +kernel
theorem dL_law_267 : decode (m_C mL_law) 267 = .ok (.iaload, 1) := by decide +kernel
theorem dL_law_268 : decode (m_C mL_law) 268 = .ok (.i2l, 1) := by decide +kernel
theorem dL_law_269 : decode (m_C mL_law) 269 = .ok (.ldc2_w 13, 3) := by decide +kernel
theorem dL_law_272 : decode (m_C mL_law) 272 = .ok (.land, 1) := by decide +kernel
theorem dL_law_273 : decode (m_C mL_law) 273 = .ok (.lor, 1) := by decide +kernel
theorem dL_law_274 : decode (m_C mL_law) 274 = .ok (.aload_n 0, 1) := by decide +kernel
theorem dL_law_275 : decode (m_C mL_law) 275 = .ok (.iload_n 3, 1) := by decide +kernel
theorem dL_law_276 : decode (m_C mL_law) 276 = .ok (.iconst 3, 1) := by decide +kernel
theorem dL_law_277 : decode (m_C mL_law) 277 = .ok (.iadd, 1) := by decide +kernel
theorem dL_law_278 : decode (m_C mL_law) 278 = .ok (.iaload, 1) := by decide +kernel
theorem dL_law_279 : decode (m_C mL_law) 279 = .ok (.invokevirtual 45, 3) := by decide +kernel
theorem dL_law_282 : decode (m_C mL_law) 282 = .ok (.if_icmp .eq 110, 3) := by decide +kernel
theorem dL_law_285 : decode (m_C mL_law) 285 = .ok (.iconst 0, 1) := by decide +kernel
theorem dL_law_286 : decode (m_C mL_law) 286 = .ok (.ireturn, 1) := by decide +kernel
theorem dL_law_287 : decode (m_C mL_law) 287 = .ok (.aload_n 1, 1) := by decide +kernel
theorem dL_law_288 : decode (m_C mL_law) 288 = .ok (.aload_n 0, 1) := by decide +kernel
theorem dL_law_289 : decode (m_C mL_law) 289 = .ok (.iload_n 3, 1) := by decide +kernel
theorem dL_law_290 : decode (m_C mL_law) 290 = .ok (.iconst 1, 1) := by decide +kernel
theorem dL_law_291 : decode (m_C mL_law) 291 = .ok (.iadd, 1) := by decide +kernel
theorem dL_law_292 : decode (m_C mL_law) 292 = .ok (.iaload, 1) := by decide +kernel
theorem dL_law_293 : decode (m_C mL_law) 293 = .ok (.invokevirtual 46, 3) := by decide +kernel
theorem dL_law_296 : decode (m_C mL_law) 296 = .ok (.aload_n 2, 1) := by decide +kernel
theorem dL_law_297 : decode (m_C mL_law) 297 = .ok (.aload_n 0, 1) := by decide +kernel
theorem dL_law_298 : decode (m_C mL_law) 298 = .ok (.iload_n 3, 1) := by decide +kernel
theorem dL_law_299 : decode (m_C mL_law) 299 = .ok (.iconst 1, 1) := by decide +kernel
theorem dL_law_300 : decode (m_C mL_law) 300 = .ok (.iadd, 1) := by decide +kernel
theorem dL_law_301 : decode (m_C mL_law) 301 = .ok (.iaload, 1) := by decide +kernel
theorem dL_law_302 : decode (m_C mL_law) 302 = .ok (.invokevirtual 50, 3) := by decide +kernel
theorem dL_law_305 : decode (m_C mL_law) 305 = .ok (.if_icmp .eq 87, 3) := by decide +kernel
theorem dL_law_308 : decode (m_C mL_law) 308 = .ok (.iconst 0, 1) := by decide +kernel
theorem dL_law_309 : decode (m_C mL_law) 309 = .ok (.ireturn, 1) := by decide +kernel
theorem dL_law_310 : decode (m_C mL_law) 310 = .ok (.aload_n 1, 1) := by decide +kernel
theorem dL_law_311 : decode (m_C mL_law) 311 = .ok (.invokevirtual 51, 3) := by decide +kernel
theorem dL_law_314 : decode (m_C mL_law) 314 = .ok (.aload_n 2, 1) := by decide +kernel
theorem dL_law_315 : decode (m_C mL_law) 315 = .ok (.invokevirtual 54, 3) := by decide +kernel
theorem dL_law_318 : decode (m_C mL_law) 318 = .ok (.if_icmp .eq 74, 3) := by decide +kernel
theorem dL_law_321 : decode (m_C mL_law) 321 = .ok (.iconst 0, 1) := by decide +kernel
theorem dL_law_322 : decode (m_C mL_law) 322 = .ok (.ireturn, 1) := by decide +kernel
theorem dL_law_323 : decode (m_C mL_law) 323 = .ok (.aload_n 1, 1) := by decide +kernel
theorem dL_law_324 : decode (m_C mL_law) 324 = .ok (.invokevirtual 55, 3) := by decide +kernel
theorem dL_law_327 : decode (m_C mL_law) 327 = .ok (.aload_n 2, 1) := by decide +kernel
theorem dL_law_328 : decode (m_C mL_law) 328 = .ok (.invokevirtual 58, 3) := by decide +kernel
theorem dL_law_331 : decode (m_C mL_law) 331 = .ok (.if_icmp .eq 61, 3) := by decide +kernel
theorem dL_law_334 : decode (m_C mL_law) 334 = .ok (.iconst 0, 1) := by decide +kernel
theorem dL_law_335 : decode (m_C mL_law) 335 = .ok (.ireturn, 1) := by decide +kernel
theorem dL_law_336 : decode (m_C mL_law) 336 = .ok (.aload_n 1, 1) := by decide +kernel
theorem dL_law_337 : decode (m_C mL_law) 337 = .ok (.aload_n 0, 1) := by decide +kernel
theorem dL_law_338 : decode (m_C mL_law) 338 = .ok (.iload_n 3, 1) := by decide +kernel
theorem dL_law_339 : decode (m_C mL_law) 339 = .ok (.iconst 1, 1) := by decide +kernel
theorem dL_law_340 : decode (m_C mL_law) 340 = .ok (.iadd, 1) := by decide +kernel
theorem dL_law_341 : decode (m_C mL_law) 341 = .ok (.iaload, 1) := by decide +kernel
theorem dL_law_342 : decode (m_C mL_law) 342 = .ok (.aload_n 0, 1) := by decide +kernel
theorem dL_law_343 : decode (m_C mL_law) 343 = .ok (.iload_n 3, 1) := by decide +kernel
theorem dL_law_344 : decode (m_C mL_law) 344 = .ok (.iconst 2, 1) := by decide +kernel
theorem dL_law_345 : decode (m_C mL_law) 345 = .ok (.iadd, 1) := by decide +kernel
theorem dL_law_346 : decode (m_C mL_law) 346 = .ok (.iaload, 1) := by decide +kernel
theorem dL_law_347 : decode (m_C mL_law) 347 = .ok (.invokevirtual 59, 3) := by decide +kernel
theorem dL_law_350 : decode (m_C mL_law) 350 = .ok (.aload_n 2, 1) := by decide +kernel
theorem dL_law_351 : decode (m_C mL_law) 351 = .ok (.aload_n 0, 1) := by decide +kernel
theorem dL_law_352 : decode (m_C mL_law) 352 = .ok (.iload_n 3, 1) := by decide +kernel
theorem dL_law_353 : decode (m_C mL_law) 353 = .ok (.iconst 1, 1) := by decide +kernel
theorem dL_law_354 : decode (m_C mL_law) 354 = .ok (.iadd, 1) := by decide +kernel
theorem dL_law_355 : decode (m_C mL_law) 355 = .ok (.iaload, 1) := by decide +kernel
theorem dL_law_356 : decode (m_C mL_law) 356 = .ok (.aload_n 0, 1) := by decide +kernel
theorem dL_law_357 : decode (m_C mL_law) 357 = .ok (.iload_n 3, 1) := by decide +kernel
theorem dL_law_358 : decode (m_C mL_law) 358 = .ok (.iconst 2, 1) := by decide +kernel
theorem dL_law_359 : decode (m_C mL_law) 359 = .ok (.iadd, 1) := by decide +kernel
theorem dL_law_360 : decode (m_C mL_law) 360 = .ok (.iaload, 1) := by decide +kernel
theorem dL_law_361 : decode (m_C mL_law) 361 = .ok (.invokevirtual 63, 3) := by decide +kernel
theorem dL_law_364 : decode (m_C mL_law) 364 = .ok (.if_icmp .eq 28, 3) := by decide +kernel
theorem dL_law_367 : decode (m_C mL_law) 367 = .ok (.iconst 0, 1) := by decide +kernel
theorem dL_law_368 : decode (m_C mL_law) 368 = .ok (.ireturn, 1) := by decide +kernel
theorem dL_law_369 : decode (m_C mL_law) 369 = .ok (.aload_n 1, 1) := by decide +kernel
theorem dL_law_370 : decode (m_C mL_law) 370 = .ok (.aload_n 0, 1) := by decide +kernel
theorem dL_law_371 : decode (m_C mL_law) 371 = .ok (.iload_n 3, 1) := by decide +kernel
theorem dL_law_372 : decode (m_C mL_law) 372 = .ok (.iconst 1, 1) := by decide +kernel
theorem dL_law_373 : decode (m_C mL_law) 373 = .ok (.iadd, 1) := by decide +kernel
theorem dL_law_374 : decode (m_C mL_law) 374 = .ok (.iaload, 1) := by decide +kernel
theorem dL_law_375 : decode (m_C mL_law) 375 = .ok (.invokevirtual 64, 3) := by decide +kernel
theorem dL_law_378 : decode (m_C mL_law) 378 = .ok (.aload_n 2, 1) := by decide +kernel
theorem dL_law_379 : decode (m_C mL_law) 379 = .ok (.aload_n 0, 1) := by decide +kernel
theorem dL_law_380 : decode (m_C mL_law) 380 = .ok (.iload_n 3, 1) := by decide +kernel
theorem dL_law_381 : decode (m_C mL_law) 381 = .ok (.iconst 1, 1) := by decide +kernel
theorem dL_law_382 : decode (m_C mL_law) 382 = .ok (.iadd, 1) := by decide +kernel
theorem dL_law_383 : decode (m_C mL_law) 383 = .ok (.iaload, 1) := by decide +kernel
theorem dL_law_384 : decode (m_C mL_law) 384 = .ok (.invokevirtual 67, 3) := by decide +kernel
theorem dL_law_387 : decode (m_C mL_law) 387 = .ok (.if_icmp .eq 5, 3) := by decide +kernel
theorem dL_law_390 : decode (m_C mL_law) 390 = .ok (.iconst 0, 1) := by decide +kernel
theorem dL_law_391 : decode (m_C mL_law) 391 = .ok (.ireturn, 1) := by decide +kernel
theorem dL_law_392 : decode (m_C mL_law) 392 = .ok (.iinc 3 4, 3) := by decide +kernel
theorem dL_law_395 : decode (m_C mL_law) 395 = .ok (.goto (-377), 3) := by decide +kernel
theorem dL_law_398 : decode (m_C mL_law) 398 = .ok (.iconst 1, 1) := by decide +kernel
theorem dL_law_399 : decode (m_C mL_law) 399 = .ok (.ireturn, 1) := by decide +kernel
theorem dP_init_0 : decode (m_C mP_init) 0 = .ok (.aload_n 0, 1) := by decide +kernel
theorem dP_init_1 : decode (m_C mP_init) 1 = .ok (.invokespecial 1, 3) := by decide +kernel
theorem dP_init_4 : decode (m_C mP_init) 4 = .ok (.aload_n 0, 1) := by decide +kernel
theorem dP_init_5 : decode (m_C mP_init) 5 = .ok (.new 7, 3) := by decide +kernel
theorem dP_init_8 : decode (m_C mP_init) 8 = .ok (.dup, 1) := by decide +kernel
theorem dP_init_9 : decode (m_C mP_init) 9 = .ok (.invokespecial 9, 3) := by decide +kernel
theorem dP_init_12 : decode (m_C mP_init) 12 = .ok (.putfield 10, 3) := by decide +kernel
theorem dP_init_15 : decode (m_C mP_init) 15 = .ok (.aload_n 0, 1) := by decide +kernel
theorem dP_init_16 : decode (m_C mP_init) 16 = .ok (.new 16, 3) := by decide +kernel
theorem dP_init_19 : decode (m_C mP_init) 19 = .ok (.dup, 1) := by decide +kernel
theorem dP_init_20 : decode (m_C mP_init) 20 = .ok (.iconst 0, 1) := by decide +kernel
theorem dP_init_21 : decode (m_C mP_init) 21 = .ok (.newarray .char, 2) := by decide +kernel
theorem dP_init_23 : decode (m_C mP_init) 23 = .ok (.invokespecial 18, 3) := by decide +kernel
theorem dP_init_26 : decode (m_C mP_init) 26 = .ok (.putfield 21, 3) := by decide +kernel
theorem dP_init_29 : decode (m_C mP_init) 29 = .ok (.aload_n 0, 1) := by decide +kernel
theorem dP_init_30 : decode (m_C mP_init) 30 = .ok (.aload_n 0, 1) := by decide +kernel
theorem dP_init_31 : decode (m_C mP_init) 31 = .ok (.getfield 21, 3) := by decide +kernel
theorem dP_init_34 : decode (m_C mP_init) 34 = .ok (.putfield 25, 3) := by decide +kernel
theorem dP_init_37 : decode (m_C mP_init) 37 = .ok (.aload_n 0, 1) := by decide +kernel
theorem dP_init_38 : decode (m_C mP_init) 38 = .ok (.aconst_null, 1) := by decide +kernel
theorem dP_init_39 : decode (m_C mP_init) 39 = .ok (.putfield 28, 3) := by decide +kernel
theorem dP_init_42 : decode (m_C mP_init) 42 = .ok (.aload_n 0, 1) := by decide +kernel
theorem dP_init_43 : decode (m_C mP_init) 43 = .ok (.iconst 0, 1) := by decide +kernel
theorem dP_init_44 : decode (m_C mP_init) 44 = .ok (.putfield 32, 3) := by decide +kernel
theorem dP_init_47 : decode (m_C mP_init) 47 = .ok (.aload_n 0, 1) := by decide +kernel
theorem dP_init_48 : decode (m_C mP_init) 48 = .ok (.iconst 1, 1) := by decide +kernel
theorem dP_init_49 : decode (m_C mP_init) 49 = .ok (.putfield 36, 3) := by decide +kernel
theorem dP_init_52 : decode (m_C mP_init) 52 = .ok (.aload_n 0, 1) := by decide +kernel
theorem dP_init_53 : decode (m_C mP_init) 53 = .ok (.iconst 0, 1) := by decide +kernel
theorem dP_init_54 : decode (m_C mP_init) 54 = .ok (.putfield 39, 3) := by decide +kernel
theorem dP_init_57 : decode (m_C mP_init) 57 = .ok (.return_, 1) := by decide +kernel
theorem dT_init_0 : decode (m_C mT_init) 0 = .ok (.aload_n 0, 1) := by decide +kernel
theorem dT_init_1 : decode (m_C mT_init) 1 = .ok (.invokespecial 1, 3) := by decide +kernel
theorem dT_init_4 : decode (m_C mT_init) 4 = .ok (.aload_n 0, 1) := by decide +kernel
theorem dT_init_5 : decode (m_C mT_init) 5 = .ok (.sipush 250, 3) := by decide +kernel
theorem dT_init_8 : decode (m_C mT_init) 8 = .ok (.newarray .char, 2) := by decide +kernel
theorem dT_init_10 : decode (m_C mT_init) 10 = .ok (.putfield 9, 3) := by decide +kernel
theorem dT_init_13 : decode (m_C mT_init) 13 = .ok (.aload_n 0, 1) := by decide +kernel
theorem dT_init_14 : decode (m_C mT_init) 14 = .ok (.iconst 0, 1) := by decide +kernel
theorem dT_init_15 : decode (m_C mT_init) 15 = .ok (.putfield 13, 3) := by decide +kernel
theorem dT_init_18 : decode (m_C mT_init) 18 = .ok (.return_, 1) := by decide +kernel
theorem dD_init_0 : decode (m_C mD_init) 0 = .ok (.aload_n 0, 1) := by decide +kernel
theorem dD_init_1 : decode (m_C mD_init) 1 = .ok (.aload_n 1, 1) := by decide +kernel
theorem dD_init_2 : decode (m_C mD_init) 2 = .ok (.invokespecial 1, 3) := by decide +kernel
theorem dD_init_5 : decode (m_C mD_init) 5 = .ok (.aload_n 0, 1) := by decide +kernel
theorem dD_init_6 : decode (m_C mD_init) 6 = .ok (.aconst_null, 1) := by decide +kernel
theorem dD_init_7 : decode (m_C mD_init) 7 = .ok (.putfield 7, 3) := by decide +kernel
theorem dD_init_10 : decode (m_C mD_init) 10 = .ok (.aload_n 0, 1) := by decide +kernel
theorem dD_init_11 : decode (m_C mD_init) 11 = .ok (.iconst 0, 1) := by decide +kernel
theorem dD_init_12 : decode (m_C mD_init) 12 = .ok (.putfield 13, 3) := by decide +kernel
theorem dD_init_15 : decode (m_C mD_init) 15 = .ok (.return_, 1) := by decide +kernel
theorem dE_init_0 : decode (m_C mE_init) 0 = .ok (.aload_n 0, 1) := by decide +kernel
theorem dE_init_1 : decode (m_C mE_init) 1 = .ok (.invokespecial 1, 3) := by decide +kernel
theorem dE_init_4 : decode (m_C mE_init) 4 = .ok (.aload_n 0, 1) := by decide +kernel
theorem dE_init_5 : decode (m_C mE_init) 5 = .ok (.aconst_null, 1) := by decide +kernel
theorem dE_init_6 : decode (m_C mE_init) 6 = .ok (.putfield 7, 3) := by decide +kernel
theorem dE_init_9 : decode (m_C mE_init) 9 = .ok (.aload_n 0, 1) := by decide +kernel
theorem dE_init_10 : decode (m_C mE_init) 10 = .ok (.aconst_null, 1) := by decide +kernel
theorem dE_init_11 : decode (m_C mE_init) 11 = .ok (.putfield 13, 3) := by decide +kernel
theorem dE_init_14 : decode (m_C mE_init) 14 = .ok (.aload_n 0, 1) := by decide +kernel
theorem dE_init_15 : decode (m_C mE_init) 15 = .ok (.aload_n 1, 1) := by decide +kernel
theorem dE_init_16 : decode (m_C mE_init) 16 = .ok (.putfield 17, 3) := by decide +kernel
theorem dE_init_19 : decode (m_C mE_init) 19 = .ok (.return_, 1) := by decide +kernel
theorem dP_path_0 : decode (m_C mP_path) 0 = .ok (.iload_n 3, 1) := by decide +kernel
theorem dP_path_1 : decode (m_C mP_path) 1 = .ok (.invokestatic 42, 3) := by decide +kernel
theorem dP_path_4 : decode (m_C mP_path) 4 = .ok (.ifCond .eq 15, 3) := by decide +kernel
theorem dP_path_7 : decode (m_C mP_path) 7 = .ok (.aload_n 0, 1) := by decide +kernel
theorem dP_path_8 : decode (m_C mP_path) 8 = .ok (.getfield 10, 3) := by decide +kernel
theorem dP_path_11 : decode (m_C mP_path) 11 = .ok (.lload_n 1, 1) := by decide +kernel
theorem dP_path_12 : decode (m_C mP_path) 12 = .ok (.iload_n 3, 1) := by decide +kernel
theorem dP_path_13 : decode (m_C mP_path) 13 = .ok (.invokevirtual 46, 3) := by decide +kernel
theorem dP_path_16 : decode (m_C mP_path) 16 = .ok (.ifCond .ne 5, 3) := by decide +kernel
theorem dP_path_19 : decode (m_C mP_path) 19 = .ok (.iconst (-1), 1) := by decide +kernel
theorem dP_path_20 : decode (m_C mP_path) 20 = .ok (.ireturn, 1) := by decide +kernel
theorem dP_path_21 : decode (m_C mP_path) 21 = .ok (.aload_n 0, 1) := by decide +kernel
theorem dP_path_22 : decode (m_C mP_path) 22 = .ok (.getfield 10, 3) := by decide +kernel
theorem dP_path_25 : decode (m_C mP_path) 25 = .ok (.lload_n 1, 1) := by decide +kernel
theorem dP_path_26 : decode (m_C mP_path) 26 = .ok (.iload_n 3, 1) := by decide +kernel
theorem dP_path_27 : decode (m_C mP_path) 27 = .ok (.invokevirtual 50, 3) := by decide +kernel
theorem dP_path_30 : decode (m_C mP_path) 30 = .ok (.aload_n 0, 1) := by decide +kernel
theorem dP_path_31 : decode (m_C mP_path) 31 = .ok (.getfield 10, 3) := by decide +kernel
theorem dP_path_34 : decode (m_C mP_path) 34 = .ok (.getfield 54, 3) := by decide +kernel
theorem dP_path_37 : decode (m_C mP_path) 37 = .ok (.ireturn, 1) := by decide +kernel
theorem dP_isByteCount_0 : decode (m_C mP_isByteCount) 0 = .ok (.iload_n 0, 1) := by decide +kernel
theorem dP_isByteCount_1 : decode (m_C mP_isByteCount) 1 = .ok (.ifCond .lt 13, 3) := by decide +kernel
theorem dP_isByteCount_4 : decode (m_C mP_isByteCount) 4 = .ok (.iload_n 0, 1) := by decide +kernel
theorem dP_isByteCount_5 : decode (m_C mP_isByteCount) 5 = .ok (.bipush 8, 2) := by decide +kernel
theorem dP_isByteCount_7 : decode (m_C mP_isByteCount) 7 = .ok (.if_icmp .gt 7, 3) := by decide +kernel
theorem dP_isByteCount_10 : decode (m_C mP_isByteCount) 10 = .ok (.iconst 1, 1) := by decide +kernel
theorem dP_isByteCount_11 : decode (m_C mP_isByteCount) 11 = .ok (.goto 4, 3) := by decide +kernel
theorem dP_isByteCount_14 : decode (m_C mP_isByteCount) 14 = .ok (.iconst 0, 1) := by decide +kernel
theorem dP_isByteCount_15 : decode (m_C mP_isByteCount) 15 = .ok (.ireturn, 1) := by decide +kernel
theorem dT_takes_0 : decode (m_C mT_takes) 0 = .ok (.iload_n 3, 1) := by decide +kernel
theorem dT_takes_1 : decode (m_C mT_takes) 1 = .ok (.sipush 250, 3) := by decide +kernel
theorem dT_takes_4 : decode (m_C mT_takes) 4 = .ok (.aload_n 0, 1) := by decide +kernel
theorem dT_takes_5 : decode (m_C mT_takes) 5 = .ok (.getfield 13, 3) := by decide +kernel
theorem dT_takes_8 : decode (m_C mT_takes) 8 = .ok (.isub, 1) := by decide +kernel
theorem dT_takes_9 : decode (m_C mT_takes) 9 = .ok (.if_icmp .le 5, 3) := by decide +kernel
theorem dT_takes_12 : decode (m_C mT_takes) 12 = .ok (.iconst 0, 1) := by decide +kernel
theorem dT_takes_13 : decode (m_C mT_takes) 13 = .ok (.ireturn, 1) := by decide +kernel
theorem dT_takes_14 : decode (m_C mT_takes) 14 = .ok (.iconst 0, 1) := by decide +kernel
theorem dT_takes_15 : decode (m_C mT_takes) 15 = .ok (.istore 4, 2) := by decide +kernel
theorem dT_takes_17 : decode (m_C mT_takes) 17 = .ok (.iload 4, 2) := by decide +kernel
theorem dT_takes_19 : decode (m_C mT_takes) 19 = .ok (.iload_n 3, 1) := by decide +kernel
theorem dT_takes_20 : decode (m_C mT_takes) 20 = .ok (.if_icmp .ge 23, 3) := by decide +kernel
theorem dT_takes_23 : decode (m_C mT_takes) 23 = .ok (.lload_n 1, 1) := by decide +kernel
theorem dT_takes_24 : decode (m_C mT_takes) 24 = .ok (.iload 4, 2) := by decide +kernel
theorem dT_takes_26 : decode (m_C mT_takes) 26 = .ok (.invokestatic 17, 3) := by decide +kernel
theorem dT_takes_29 : decode (m_C mT_takes) 29 = .ok (.invokestatic 23, 3) := by decide +kernel
theorem dT_takes_32 : decode (m_C mT_takes) 32 = .ok (.ifCond .ne 5, 3) := by decide +kernel
theorem dT_takes_35 : decode (m_C mT_takes) 35 = .ok (.iconst 0, 1) := by decide +kernel
theorem dT_takes_36 : decode (m_C mT_takes) 36 = .ok (.ireturn, 1) := by decide +kernel
theorem dT_takes_37 : decode (m_C mT_takes) 37 = .ok (.iinc 4 1, 3) := by decide +kernel
theorem dT_takes_40 : decode (m_C mT_takes) 40 = .ok (.goto (-23), 3) := by decide +kernel
theorem dT_takes_43 : decode (m_C mT_takes) 43 = .ok (.iconst 1, 1) := by decide +kernel
theorem dT_takes_44 : decode (m_C mT_takes) 44 = .ok (.ireturn, 1) := by decide +kernel
theorem dP_byteOf_0 : decode (m_C mP_byteOf) 0 = .ok (.lload_n 0, 1) := by decide +kernel
theorem dP_byteOf_1 : decode (m_C mP_byteOf) 1 = .ok (.bipush 8, 2) := by decide +kernel
theorem dP_byteOf_3 : decode (m_C mP_byteOf) 3 = .ok (.iload_n 2, 1) := by decide +kernel
theorem dP_byteOf_4 : decode (m_C mP_byteOf) 4 = .ok (.imul, 1) := by decide +kernel
theorem dP_byteOf_5 : decode (m_C mP_byteOf) 5 = .ok (.lushr, 1) := by decide +kernel
theorem dP_byteOf_6 : decode (m_C mP_byteOf) 6 = .ok (.l2i, 1) := by decide +kernel
theorem dP_byteOf_7 : decode (m_C mP_byteOf) 7 = .ok (.sipush 255, 3) := by decide +kernel
theorem dP_byteOf_10 : decode (m_C mP_byteOf) 10 = .ok (.iand, 1) := by decide +kernel
theorem dP_byteOf_11 : decode (m_C mP_byteOf) 11 = .ok (.ireturn, 1) := by decide +kernel
theorem dT_isPathCharacter_0 : decode (m_C mT_isPathCharacter) 0 = .ok (.iload_n 0, 1) := by decide +kernel
theorem dT_isPathCharacter_1 : decode (m_C mT_isPathCharacter) 1 = .ok (.bipush 9, 2) := by decide +kernel
theorem dT_isPathCharacter_3 : decode (m_C mT_isPathCharacter) 3 = .ok (.if_icmp .eq 21, 3) := by decide +kernel
theorem dT_isPathCharacter_6 : decode (m_C mT_isPathCharacter) 6 = .ok (.iload_n 0, 1) := by decide +kernel
theorem dT_isPathCharacter_7 : decode (m_C mT_isPathCharacter) 7 = .ok (.bipush 10, 2) := by decide +kernel
theorem dT_isPathCharacter_9 : decode (m_C mT_isPathCharacter) 9 = .ok (.if_icmp .eq 15, 3) := by decide +kernel
theorem dT_isPathCharacter_12 : decode (m_C mT_isPathCharacter) 12 = .ok (.iload_n 0, 1) := by decide +kernel
theorem dT_isPathCharacter_13 : decode (m_C mT_isPathCharacter) 13 = .ok (.bipush 32, 2) := by decide +kernel
theorem dT_isPathCharacter_15 : decode (m_C mT_isPathCharacter) 15 = .ok (.if_icmp .lt 13, 3) := by decide +kernel
theorem dT_isPathCharacter_18 : decode (m_C mT_isPathCharacter) 18 = .ok (.iload_n 0, 1) := by decide +kernel
theorem dT_isPathCharacter_19 : decode (m_C mT_isPathCharacter) 19 = .ok (.bipush 126, 2) := by decide +kernel
theorem dT_isPathCharacter_21 : decode (m_C mT_isPathCharacter) 21 = .ok (.if_icmp .gt 7, 3) := by decide +kernel
theorem dT_isPathCharacter_24 : decode (m_C mT_isPathCharacter) 24 = .ok (.iconst 1, 1) := by decide +kernel
theorem dT_isPathCharacter_25 : decode (m_C mT_isPathCharacter) 25 = .ok (.goto 4, 3) := by decide +kernel
theorem dT_isPathCharacter_28 : decode (m_C mT_isPathCharacter) 28 = .ok (.iconst 0, 1) := by decide +kernel
theorem dT_isPathCharacter_29 : decode (m_C mT_isPathCharacter) 29 = .ok (.ireturn, 1) := by decide +kernel
theorem dT_append_0 : decode (m_C mT_append) 0 = .ok (.iload_n 3, 1) := by decide +kernel
theorem dT_append_1 : decode (m_C mT_append) 1 = .ok (.iconst 1, 1) := by decide +kernel
theorem dT_append_2 : decode (m_C mT_append) 2 = .ok (.isub, 1) := by decide +kernel
theorem dT_append_3 : decode (m_C mT_append) 3 = .ok (.istore 4, 2) := by decide +kernel
theorem dT_append_5 : decode (m_C mT_append) 5 = .ok (.iload 4, 2) := by decide +kernel
theorem dT_append_7 : decode (m_C mT_append) 7 = .ok (.ifCond .lt 45, 3) := by decide +kernel
theorem dT_append_10 : decode (m_C mT_append) 10 = .ok (.aload_n 0, 1) := by decide +kernel
theorem dT_append_11 : decode (m_C mT_append) 11 = .ok (.getfield 13, 3) := by decide +kernel
theorem dT_append_14 : decode (m_C mT_append) 14 = .ok (.sipush 250, 3) := by decide +kernel
theorem dT_append_17 : decode (m_C mT_append) 17 = .ok (.if_icmp .ge 35, 3) := by decide +kernel
theorem dT_append_20 : decode (m_C mT_append) 20 = .ok (.aload_n 0, 1) := by decide +kernel
theorem dT_append_21 : decode (m_C mT_append) 21 = .ok (.getfield 9, 3) := by decide +kernel
theorem dT_append_24 : decode (m_C mT_append) 24 = .ok (.aload_n 0, 1) := by decide +kernel
theorem dT_append_25 : decode (m_C mT_append) 25 = .ok (.getfield 13, 3) := by decide +kernel
theorem dT_append_28 : decode (m_C mT_append) 28 = .ok (.lload_n 1, 1) := by decide +kernel
theorem dT_append_29 : decode (m_C mT_append) 29 = .ok (.iload 4, 2) := by decide +kernel
theorem dT_append_31 : decode (m_C mT_append) 31 = .ok (.invokestatic 17, 3) := by decide +kernel
theorem dT_append_34 : decode (m_C mT_append) 34 = .ok (.i2c, 1) := by decide +kernel
theorem dT_append_35 : decode (m_C mT_append) 35 = .ok (.castore, 1) := by decide +kernel
theorem dT_append_36 : decode (m_C mT_append) 36 = .ok (.aload_n 0, 1) := by decide +kernel
theorem dT_append_37 : decode (m_C mT_append) 37 = .ok (.dup, 1) := by decide +kernel
theorem dT_append_38 : decode (m_C mT_append) 38 = .ok (.getfield 13, 3) := by decide +kernel
theorem dT_append_41 : decode (m_C mT_append) 41 = .ok (.iconst 1, 1) := by decide +kernel
theorem dT_append_42 : decode (m_C mT_append) 42 = .ok (.iadd, 1) := by decide +kernel
theorem dT_append_43 : decode (m_C mT_append) 43 = .ok (.putfield 13, 3) := by decide +kernel
theorem dT_append_46 : decode (m_C mT_append) 46 = .ok (.iinc 4 (-1), 3) := by decide +kernel
theorem dT_append_49 : decode (m_C mT_append) 49 = .ok (.goto (-44), 3) := by decide +kernel
theorem dT_append_52 : decode (m_C mT_append) 52 = .ok (.return_, 1) := by decide +kernel
theorem dP_find_0 : decode (m_C mP_find) 0 = .ok (.aload_n 0, 1) := by decide +kernel
theorem dP_find_1 : decode (m_C mP_find) 1 = .ok (.invokevirtual 57, 3) := by decide +kernel
theorem dP_find_4 : decode (m_C mP_find) 4 = .ok (.astore_n 1, 1) := by decide +kernel
theorem dP_find_5 : decode (m_C mP_find) 5 = .ok (.aload_n 0, 1) := by decide +kernel
theorem dP_find_6 : decode (m_C mP_find) 6 = .ok (.getfield 10, 3) := by decide +kernel
theorem dP_find_9 : decode (m_C mP_find) 9 = .ok (.invokevirtual 61, 3) := by decide +kernel
theorem dP_find_12 : decode (m_C mP_find) 12 = .ok (.aload_n 1, 1) := by decide +kernel
theorem dP_find_13 : decode (m_C mP_find) 13 = .ok (.ifnonnull 5, 3) := by decide +kernel
theorem dP_find_16 : decode (m_C mP_find) 16 = .ok (.iconst 0, 1) := by decide +kernel
theorem dP_find_17 : decode (m_C mP_find) 17 = .ok (.ireturn, 1) := by decide +kernel
theorem dP_find_18 : decode (m_C mP_find) 18 = .ok (.aload_n 1, 1) := by decide +kernel
theorem dP_find_19 : decode (m_C mP_find) 19 = .ok (.instanceof 16, 3) := by decide +kernel
theorem dP_find_22 : decode (m_C mP_find) 22 = .ok (.ifCond .eq 7, 3) := by decide +kernel
theorem dP_find_25 : decode (m_C mP_find) 25 = .ok (.iconst 2, 1) := by decide +kernel
theorem dP_find_26 : decode (m_C mP_find) 26 = .ok (.goto 4, 3) := by decide +kernel
theorem dP_find_29 : decode (m_C mP_find) 29 = .ok (.iconst 1, 1) := by decide +kernel
theorem dP_find_30 : decode (m_C mP_find) 30 = .ok (.ireturn, 1) := by decide +kernel
theorem dP_target_0 : decode (m_C mP_target) 0 = .ok (.aload_n 0, 1) := by decide +kernel
theorem dP_target_1 : decode (m_C mP_target) 1 = .ok (.getfield 10, 3) := by decide +kernel
theorem dP_target_4 : decode (m_C mP_target) 4 = .ok (.getfield 54, 3) := by decide +kernel
theorem dP_target_7 : decode (m_C mP_target) 7 = .ok (.ifCond .ne 5, 3) := by decide +kernel
theorem dP_target_10 : decode (m_C mP_target) 10 = .ok (.aconst_null, 1) := by decide +kernel
theorem dP_target_11 : decode (m_C mP_target) 11 = .ok (.areturn, 1) := by decide +kernel
theorem dP_target_12 : decode (m_C mP_target) 12 = .ok (.aload_n 0, 1) := by decide +kernel
theorem dP_target_13 : decode (m_C mP_target) 13 = .ok (.aload_n 0, 1) := by decide +kernel
theorem dP_target_14 : decode (m_C mP_target) 14 = .ok (.getfield 10, 3) := by decide +kernel
theorem dP_target_17 : decode (m_C mP_target) 17 = .ok (.getfield 54, 3) := by decide +kernel
theorem dP_target_20 : decode (m_C mP_target) 20 = .ok (.invokevirtual 135, 3) := by decide +kernel
theorem dP_target_23 : decode (m_C mP_target) 23 = .ok (.astore_n 1, 1) := by decide +kernel
theorem dP_target_24 : decode (m_C mP_target) 24 = .ok (.aload_n 0, 1) := by decide +kernel
theorem dP_target_25 : decode (m_C mP_target) 25 = .ok (.getfield 10, 3) := by decide +kernel
theorem dP_target_28 : decode (m_C mP_target) 28 = .ok (.aload_n 0, 1) := by decide +kernel
theorem dP_target_29 : decode (m_C mP_target) 29 = .ok (.getfield 10, 3) := by decide +kernel
theorem dP_target_32 : decode (m_C mP_target) 32 = .ok (.getfield 54, 3) := by decide +kernel
theorem dP_target_35 : decode (m_C mP_target) 35 = .ok (.iconst 1, 1) := by decide +kernel
theorem dP_target_36 : decode (m_C mP_target) 36 = .ok (.isub, 1) := by decide +kernel
theorem dP_target_37 : decode (m_C mP_target) 37 = .ok (.invokevirtual 138, 3) := by decide +kernel
theorem dP_target_40 : decode (m_C mP_target) 40 = .ok (.ifCond .eq 12, 3) := by decide +kernel
theorem dP_target_43 : decode (m_C mP_target) 43 = .ok (.aload_n 1, 1) := by decide +kernel
theorem dP_target_44 : decode (m_C mP_target) 44 = .ok (.instanceof 16, 3) := by decide +kernel
theorem dP_target_47 : decode (m_C mP_target) 47 = .ok (.ifCond .ne 5, 3) := by decide +kernel
theorem dP_target_50 : decode (m_C mP_target) 50 = .ok (.aconst_null, 1) := by decide +kernel
theorem dP_target_51 : decode (m_C mP_target) 51 = .ok (.areturn, 1) := by decide +kernel
