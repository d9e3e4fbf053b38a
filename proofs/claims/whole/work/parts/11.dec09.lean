/-! decode rows, by program -/
theorem d_L_law_8 : decode (xt_code m_L_law) 8 = .ok (.new 10, 3) := by decide +kernel
theorem d_L_law_11 : decode (xt_code m_L_law) 11 = .ok (.dup, 1) := by decide +kernel
theorem d_L_law_12 : decode (xt_code m_L_law) 12 = .ok (.invokespecial 12, 3) := by decide +kernel
theorem d_L_law_15 : decode (xt_code m_L_law) 15 = .ok (.astore_n 2, 1) := by decide +kernel
theorem d_L_law_16 : decode (xt_code m_L_law) 16 = .ok (.iconst 0, 1) := by decide +kernel
theorem d_L_law_17 : decode (xt_code m_L_law) 17 = .ok (.istore_n 3, 1) := by decide +kernel
theorem d_L_law_18 : decode (xt_code m_L_law) 18 = .ok (.iload_n 3, 1) := by decide +kernel
theorem d_L_law_19 : decode (xt_code m_L_law) 19 = .ok (.aload_n 0, 1) := by decide +kernel
theorem d_L_law_20 : decode (xt_code m_L_law) 20 = .ok (.arraylength, 1) := by decide +kernel
theorem d_L_law_21 : decode (xt_code m_L_law) 21 = .ok (.bipush 6, 2) := by decide +kernel
theorem d_L_law_23 : decode (xt_code m_L_law) 23 = .ok (.isub, 1) := by decide +kernel
theorem d_L_law_24 : decode (xt_code m_L_law) 24 = .ok (.if_icmp .gt 640, 3) := by decide +kernel
theorem d_L_law_27 : decode (xt_code m_L_law) 27 = .ok (.aload_n 0, 1) := by decide +kernel
theorem d_L_law_28 : decode (xt_code m_L_law) 28 = .ok (.iload_n 3, 1) := by decide +kernel
theorem d_L_law_29 : decode (xt_code m_L_law) 29 = .ok (.iaload, 1) := by decide +kernel
theorem d_L_law_30 : decode (xt_code m_L_law) 30 = .ok (.bipush 15, 2) := by decide +kernel
theorem d_L_law_32 : decode (xt_code m_L_law) 32 = .ok (.iand, 1) := by decide +kernel
theorem d_L_law_33 : decode (xt_code m_L_law) 33 = .ok (.tableswitch 625 0 15 #[79, 174, 207, 230, 253, 286, 329, 352, 375, 434, 457, 480, 503, 536, 579, 602], 79) := by decide +kernel
theorem d_L_law_112 : decode (xt_code m_L_law) 112 = .ok (.aload_n 1, 1) := by decide +kernel
theorem d_L_law_113 : decode (xt_code m_L_law) 113 = .ok (.aload_n 0, 1) := by decide +kernel
theorem d_L_law_114 : decode (xt_code m_L_law) 114 = .ok (.iload_n 3, 1) := by decide +kernel
theorem d_L_law_115 : decode (xt_code m_L_law) 115 = .ok (.iconst 1, 1) := by decide +kernel
theorem d_L_law_116 : decode (xt_code m_L_law) 116 = .ok (.iadd, 1) := by decide +kernel
theorem d_L_law_117 : decode (xt_code m_L_law) 117 = .ok (.iaload, 1) := by decide +kernel
theorem d_L_law_118 : decode (xt_code m_L_law) 118 = .ok (.aload_n 0, 1) := by decide +kernel
theorem d_L_law_119 : decode (xt_code m_L_law) 119 = .ok (.iload_n 3, 1) := by decide +kernel
theorem d_L_law_120 : decode (xt_code m_L_law) 120 = .ok (.iconst 2, 1) := by decide +kernel
theorem d_L_law_121 : decode (xt_code m_L_law) 121 = .ok (.iadd, 1) := by decide +kernel
theorem d_L_law_122 : decode (xt_code m_L_law) 122 = .ok (.iaload, 1) := by decide +kernel
theorem d_L_law_123 : decode (xt_code m_L_law) 123 = .ok (.aload_n 0, 1) := by decide +kernel
theorem d_L_law_124 : decode (xt_code m_L_law) 124 = .ok (.iload_n 3, 1) := by decide +kernel
theorem d_L_law_125 : decode (xt_code m_L_law) 125 = .ok (.iconst 3, 1) := by decide +kernel
theorem d_L_law_126 : decode (xt_code m_L_law) 126 = .ok (.iadd, 1) := by decide +kernel
theorem d_L_law_127 : decode (xt_code m_L_law) 127 = .ok (.iaload, 1) := by decide +kernel
theorem d_L_law_128 : decode (xt_code m_L_law) 128 = .ok (.aload_n 0, 1) := by decide +kernel
theorem d_L_law_129 : decode (xt_code m_L_law) 129 = .ok (.iload_n 3, 1) := by decide +kernel
theorem d_L_law_130 : decode (xt_code m_L_law) 130 = .ok (.iconst 4, 1) := by decide +kernel
theorem d_L_law_131 : decode (xt_code m_L_law) 131 = .ok (.iadd, 1) := by decide +kernel
theorem d_L_law_132 : decode (xt_code m_L_law) 132 = .ok (.iaload, 1) := by decide +kernel
theorem d_L_law_133 : decode (xt_code m_L_law) 133 = .ok (.ifCond .eq 7, 3) := by decide +kernel
theorem d_L_law_136 : decode (xt_code m_L_law) 136 = .ok (.iconst 1, 1) := by decide +kernel
theorem d_L_law_137 : decode (xt_code m_L_law) 137 = .ok (.goto 4, 3) := by decide +kernel
theorem d_L_law_140 : decode (xt_code m_L_law) 140 = .ok (.iconst 0, 1) := by decide +kernel
theorem d_L_law_141 : decode (xt_code m_L_law) 141 = .ok (.aload_n 0, 1) := by decide +kernel
theorem d_L_law_142 : decode (xt_code m_L_law) 142 = .ok (.iload_n 3, 1) := by decide +kernel
theorem d_L_law_143 : decode (xt_code m_L_law) 143 = .ok (.iconst 5, 1) := by decide +kernel
theorem d_L_law_144 : decode (xt_code m_L_law) 144 = .ok (.iadd, 1) := by decide +kernel
theorem d_L_law_145 : decode (xt_code m_L_law) 145 = .ok (.iaload, 1) := by decide +kernel
theorem d_L_law_146 : decode (xt_code m_L_law) 146 = .ok (.ifCond .eq 7, 3) := by decide +kernel
theorem d_L_law_149 : decode (xt_code m_L_law) 149 = .ok (.iconst 1, 1) := by decide +kernel
theorem d_L_law_150 : decode (xt_code m_L_law) 150 = .ok (.goto 4, 3) := by decide +kernel
theorem d_L_law_153 : decode (xt_code m_L_law) 153 = .ok (.iconst 0, 1) := by decide +kernel
theorem d_L_law_154 : decode (xt_code m_L_law) 154 = .ok (.invokevirtual 13, 3) := by decide +kernel
theorem d_L_law_157 : decode (xt_code m_L_law) 157 = .ok (.aload_n 2, 1) := by decide +kernel
theorem d_L_law_158 : decode (xt_code m_L_law) 158 = .ok (.aload_n 0, 1) := by decide +kernel
theorem d_L_law_159 : decode (xt_code m_L_law) 159 = .ok (.iload_n 3, 1) := by decide +kernel
theorem d_L_law_160 : decode (xt_code m_L_law) 160 = .ok (.iconst 1, 1) := by decide +kernel
theorem d_L_law_161 : decode (xt_code m_L_law) 161 = .ok (.iadd, 1) := by decide +kernel
theorem d_L_law_162 : decode (xt_code m_L_law) 162 = .ok (.iaload, 1) := by decide +kernel
theorem d_L_law_163 : decode (xt_code m_L_law) 163 = .ok (.aload_n 0, 1) := by decide +kernel
theorem d_L_law_164 : decode (xt_code m_L_law) 164 = .ok (.iload_n 3, 1) := by decide +kernel
theorem d_L_law_165 : decode (xt_code m_L_law) 165 = .ok (.iconst 2, 1) := by decide +kernel
theorem d_L_law_166 : decode (xt_code m_L_law) 166 = .ok (.iadd, 1) := by decide +kernel
theorem d_L_law_167 : decode (xt_code m_L_law) 167 = .ok (.iaload, 1) := by decide +kernel
theorem d_L_law_168 : decode (xt_code m_L_law) 168 = .ok (.aload_n 0, 1) := by decide +kernel
theorem d_L_law_169 : decode (xt_code m_L_law) 169 = .ok (.iload_n 3, 1) := by decide +kernel
theorem d_L_law_170 : decode (xt_code m_L_law) 170 = .ok (.iconst 3, 1) := by decide +kernel
theorem d_L_law_171 : decode (xt_code m_L_law) 171 = .ok (.iadd, 1) := by decide +kernel
theorem d_L_law_172 : decode (xt_code m_L_law) 172 = .ok (.iaload, 1) := by decide +kernel
theorem d_L_law_173 : decode (xt_code m_L_law) 173 = .ok (.aload_n 0, 1) := by decide +kernel
theorem d_L_law_174 : decode (xt_code m_L_law) 174 = .ok (.iload_n 3, 1) := by decide +kernel
theorem d_L_law_175 : decode (xt_code m_L_law) 175 = .ok (.iconst 4, 1) := by decide +kernel
theorem d_L_law_176 : decode (xt_code m_L_law) 176 = .ok (.iadd, 1) := by decide +kernel
theorem d_L_law_177 : decode (xt_code m_L_law) 177 = .ok (.iaload, 1) := by decide +kernel
theorem d_L_law_178 : decode (xt_code m_L_law) 178 = .ok (.ifCond .eq 7, 3) := by decide +kernel
theorem d_L_law_181 : decode (xt_code m_L_law) 181 = .ok (.iconst 1, 1) := by decide +kernel
theorem d_L_law_182 : decode (xt_code m_L_law) 182 = .ok (.goto 4, 3) := by decide +kernel
theorem d_L_law_185 : decode (xt_code m_L_law) 185 = .ok (.iconst 0, 1) := by decide +kernel
theorem d_L_law_186 : decode (xt_code m_L_law) 186 = .ok (.aload_n 0, 1) := by decide +kernel
theorem d_L_law_187 : decode (xt_code m_L_law) 187 = .ok (.iload_n 3, 1) := by decide +kernel
theorem d_L_law_188 : decode (xt_code m_L_law) 188 = .ok (.iconst 5, 1) := by decide +kernel
theorem d_L_law_189 : decode (xt_code m_L_law) 189 = .ok (.iadd, 1) := by decide +kernel
theorem d_L_law_190 : decode (xt_code m_L_law) 190 = .ok (.iaload, 1) := by decide +kernel
theorem d_L_law_191 : decode (xt_code m_L_law) 191 = .ok (.ifCond .eq 7, 3) := by decide +kernel
theorem d_L_law_194 : decode (xt_code m_L_law) 194 = .ok (.iconst 1, 1) := by decide +kernel
theorem d_L_law_195 : decode (xt_code m_L_law) 195 = .ok (.goto 4, 3) := by decide +kernel
theorem d_L_law_198 : decode (xt_code m_L_law) 198 = .ok (.iconst 0, 1) := by decide +kernel
theorem d_L_law_199 : decode (xt_code m_L_law) 199 = .ok (.invokevirtual 17, 3) := by decide +kernel
theorem d_L_law_202 : decode (xt_code m_L_law) 202 = .ok (.if_icmp .eq 456, 3) := by decide +kernel
theorem d_L_law_205 : decode (xt_code m_L_law) 205 = .ok (.iconst 0, 1) := by decide +kernel
theorem d_L_law_206 : decode (xt_code m_L_law) 206 = .ok (.ireturn, 1) := by decide +kernel
theorem d_L_law_207 : decode (xt_code m_L_law) 207 = .ok (.aload_n 1, 1) := by decide +kernel
theorem d_L_law_208 : decode (xt_code m_L_law) 208 = .ok (.aload_n 0, 1) := by decide +kernel
theorem d_L_law_209 : decode (xt_code m_L_law) 209 = .ok (.iload_n 3, 1) := by decide +kernel
theorem d_L_law_210 : decode (xt_code m_L_law) 210 = .ok (.iconst 1, 1) := by decide +kernel
theorem d_L_law_211 : decode (xt_code m_L_law) 211 = .ok (.iadd, 1) := by decide +kernel
theorem d_L_law_212 : decode (xt_code m_L_law) 212 = .ok (.iaload, 1) := by decide +kernel
theorem d_L_law_213 : decode (xt_code m_L_law) 213 = .ok (.aload_n 0, 1) := by decide +kernel
theorem d_L_law_214 : decode (xt_code m_L_law) 214 = .ok (.iload_n 3, 1) := by decide +kernel
theorem d_L_law_215 : decode (xt_code m_L_law) 215 = .ok (.iconst 2, 1) := by decide +kernel
theorem d_L_law_216 : decode (xt_code m_L_law) 216 = .ok (.iadd, 1) := by decide +kernel
theorem d_L_law_217 : decode (xt_code m_L_law) 217 = .ok (.iaload, 1) := by decide +kernel
theorem d_L_law_218 : decode (xt_code m_L_law) 218 = .ok (.invokevirtual 18, 3) := by decide +kernel
theorem d_L_law_221 : decode (xt_code m_L_law) 221 = .ok (.aload_n 2, 1) := by decide +kernel
theorem d_L_law_222 : decode (xt_code m_L_law) 222 = .ok (.aload_n 0, 1) := by decide +kernel
theorem d_L_law_223 : decode (xt_code m_L_law) 223 = .ok (.iload_n 3, 1) := by decide +kernel
theorem d_L_law_224 : decode (xt_code m_L_law) 224 = .ok (.iconst 1, 1) := by decide +kernel
theorem d_L_law_225 : decode (xt_code m_L_law) 225 = .ok (.iadd, 1) := by decide +kernel
theorem d_L_law_226 : decode (xt_code m_L_law) 226 = .ok (.iaload, 1) := by decide +kernel
theorem d_L_law_227 : decode (xt_code m_L_law) 227 = .ok (.aload_n 0, 1) := by decide +kernel
theorem d_L_law_228 : decode (xt_code m_L_law) 228 = .ok (.iload_n 3, 1) := by decide +kernel
theorem d_L_law_229 : decode (xt_code m_L_law) 229 = .ok (.iconst 2, 1) := by decide +kernel
theorem d_L_law_230 : decode (xt_code m_L_law) 230 = .ok (.iadd, 1) := by decide +kernel
theorem d_L_law_231 : decode (xt_code m_L_law) 231 = .ok (.iaload, 1) := by decide +kernel
theorem d_L_law_232 : decode (xt_code m_L_law) 232 = .ok (.invokevirtual 22, 3) := by decide +kernel
theorem d_L_law_235 : decode (xt_code m_L_law) 235 = .ok (.if_icmp .eq 423, 3) := by decide +kernel
theorem d_L_law_238 : decode (xt_code m_L_law) 238 = .ok (.iconst 0, 1) := by decide +kernel
theorem d_L_law_239 : decode (xt_code m_L_law) 239 = .ok (.ireturn, 1) := by decide +kernel
theorem d_L_law_240 : decode (xt_code m_L_law) 240 = .ok (.aload_n 1, 1) := by decide +kernel
theorem d_L_law_241 : decode (xt_code m_L_law) 241 = .ok (.aload_n 0, 1) := by decide +kernel
theorem d_L_law_242 : decode (xt_code m_L_law) 242 = .ok (.iload_n 3, 1) := by decide +kernel
theorem d_L_law_243 : decode (xt_code m_L_law) 243 = .ok (.iconst 1, 1) := by decide +kernel
theorem d_L_law_244 : decode (xt_code m_L_law) 244 = .ok (.iadd, 1) := by decide +kernel
theorem d_L_law_245 : decode (xt_code m_L_law) 245 = .ok (.iaload, 1) := by decide +kernel
theorem d_L_law_246 : decode (xt_code m_L_law) 246 = .ok (.invokevirtual 23, 3) := by decide +kernel
theorem d_L_law_249 : decode (xt_code m_L_law) 249 = .ok (.aload_n 2, 1) := by decide +kernel
theorem d_L_law_250 : decode (xt_code m_L_law) 250 = .ok (.aload_n 0, 1) := by decide +kernel
theorem d_L_law_251 : decode (xt_code m_L_law) 251 = .ok (.iload_n 3, 1) := by decide +kernel
theorem d_L_law_252 : decode (xt_code m_L_law) 252 = .ok (.iconst 1, 1) := by decide +kernel
theorem d_L_law_253 : decode (xt_code m_L_law) 253 = .ok (.iadd, 1) := by decide +kernel
theorem d_L_law_254 : decode (xt_code m_L_law) 254 = .ok (.iaload, 1) := by decide +kernel
theorem d_L_law_255 : decode (xt_code m_L_law) 255 = .ok (.invokevirtual 27, 3) := by decide +kernel
theorem d_L_law_258 : decode (xt_code m_L_law) 258 = .ok (.if_icmp .eq 400, 3) := by decide +kernel
theorem d_L_law_261 : decode (xt_code m_L_law) 261 = .ok (.iconst 0, 1) := by decide +kernel
theorem d_L_law_262 : decode (xt_code m_L_law) 262 = .ok (.ireturn, 1) := by decide +kernel
theorem d_L_law_263 : decode (xt_code m_L_law) 263 = .ok (.aload_n 1, 1) := by decide +kernel
theorem d_L_law_264 : decode (xt_code m_L_law) 264 = .ok (.aload_n 0, 1) := by decide +kernel
theorem d_L_law_265 : decode (xt_code m_L_law) 265 = .ok (.iload_n 3, 1) := by decide +kernel
theorem d_L_law_266 : decode (xt_code m_L_law) 266 = .ok (.iconst 1, 1) := by decide +kernel
theorem d_L_law_267 : decode (xt_code m_L_law) 267 = .ok (.iadd, 1) := by decide +kernel
theorem d_L_law_268 : decode (xt_code m_L_law) 268 = .ok (.iaload, 1) := by decide +kernel
theorem d_L_law_269 : decode (xt_code m_L_law) 269 = .ok (.invokevirtual 28, 3) := by decide +kernel
theorem d_L_law_272 : decode (xt_code m_L_law) 272 = .ok (.aload_n 2, 1) := by decide +kernel
theorem d_L_law_273 : decode (xt_code m_L_law) 273 = .ok (.aload_n 0, 1) := by decide +kernel
theorem d_L_law_274 : decode (xt_code m_L_law) 274 = .ok (.iload_n 3, 1) := by decide +kernel
theorem d_L_law_275 : decode (xt_code m_L_law) 275 = .ok (.iconst 1, 1) := by decide +kernel
theorem d_L_law_276 : decode (xt_code m_L_law) 276 = .ok (.iadd, 1) := by decide +kernel
theorem d_L_law_277 : decode (xt_code m_L_law) 277 = .ok (.iaload, 1) := by decide +kernel
theorem d_L_law_278 : decode (xt_code m_L_law) 278 = .ok (.invokevirtual 32, 3) := by decide +kernel
theorem d_L_law_281 : decode (xt_code m_L_law) 281 = .ok (.if_icmp .eq 377, 3) := by decide +kernel
theorem d_L_law_284 : decode (xt_code m_L_law) 284 = .ok (.iconst 0, 1) := by decide +kernel
theorem d_L_law_285 : decode (xt_code m_L_law) 285 = .ok (.ireturn, 1) := by decide +kernel
theorem d_L_law_286 : decode (xt_code m_L_law) 286 = .ok (.aload_n 1, 1) := by decide +kernel
theorem d_L_law_287 : decode (xt_code m_L_law) 287 = .ok (.aload_n 0, 1) := by decide +kernel
theorem d_L_law_288 : decode (xt_code m_L_law) 288 = .ok (.iload_n 3, 1) := by decide +kernel
theorem d_L_law_289 : decode (xt_code m_L_law) 289 = .ok (.iconst 1, 1) := by decide +kernel
theorem d_L_law_290 : decode (xt_code m_L_law) 290 = .ok (.iadd, 1) := by decide +kernel
theorem d_L_law_291 : decode (xt_code m_L_law) 291 = .ok (.iaload, 1) := by decide +kernel
theorem d_L_law_292 : decode (xt_code m_L_law) 292 = .ok (.aload_n 0, 1) := by decide +kernel
theorem d_L_law_293 : decode (xt_code m_L_law) 293 = .ok (.iload_n 3, 1) := by decide +kernel
theorem d_L_law_294 : decode (xt_code m_L_law) 294 = .ok (.iconst 2, 1) := by decide +kernel
theorem d_L_law_295 : decode (xt_code m_L_law) 295 = .ok (.iadd, 1) := by decide +kernel
theorem d_L_law_296 : decode (xt_code m_L_law) 296 = .ok (.iaload, 1) := by decide +kernel
theorem d_L_law_297 : decode (xt_code m_L_law) 297 = .ok (.invokevirtual 33, 3) := by decide +kernel
theorem d_L_law_300 : decode (xt_code m_L_law) 300 = .ok (.aload_n 2, 1) := by decide +kernel
theorem d_L_law_301 : decode (xt_code m_L_law) 301 = .ok (.aload_n 0, 1) := by decide +kernel
theorem d_L_law_302 : decode (xt_code m_L_law) 302 = .ok (.iload_n 3, 1) := by decide +kernel
theorem d_L_law_303 : decode (xt_code m_L_law) 303 = .ok (.iconst 1, 1) := by decide +kernel
theorem d_L_law_304 : decode (xt_code m_L_law) 304 = .ok (.iadd, 1) := by decide +kernel
theorem d_L_law_305 : decode (xt_code m_L_law) 305 = .ok (.iaload, 1) := by decide +kernel
theorem d_L_law_306 : decode (xt_code m_L_law) 306 = .ok (.aload_n 0, 1) := by decide +kernel
theorem d_L_law_307 : decode (xt_code m_L_law) 307 = .ok (.iload_n 3, 1) := by decide +kernel
theorem d_L_law_308 : decode (xt_code m_L_law) 308 = .ok (.iconst 2, 1) := by decide +kernel
theorem d_L_law_309 : decode (xt_code m_L_law) 309 = .ok (.iadd, 1) := by decide +kernel
theorem d_L_law_310 : decode (xt_code m_L_law) 310 = .ok (.iaload, 1) := by decide +kernel
theorem d_L_law_311 : decode (xt_code m_L_law) 311 = .ok (.invokevirtual 37, 3) := by decide +kernel
theorem d_L_law_314 : decode (xt_code m_L_law) 314 = .ok (.if_icmp .eq 344, 3) := by decide +kernel
theorem d_L_law_317 : decode (xt_code m_L_law) 317 = .ok (.iconst 0, 1) := by decide +kernel
theorem d_L_law_318 : decode (xt_code m_L_law) 318 = .ok (.ireturn, 1) := by decide +kernel
theorem d_L_law_319 : decode (xt_code m_L_law) 319 = .ok (.aload_n 1, 1) := by decide +kernel
theorem d_L_law_320 : decode (xt_code m_L_law) 320 = .ok (.aload_n 0, 1) := by decide +kernel
theorem d_L_law_321 : decode (xt_code m_L_law) 321 = .ok (.iload_n 3, 1) := by decide +kernel
theorem d_L_law_322 : decode (xt_code m_L_law) 322 = .ok (.iconst 1, 1) := by decide +kernel
theorem d_L_law_323 : decode (xt_code m_L_law) 323 = .ok (.iadd, 1) := by decide +kernel
theorem d_L_law_324 : decode (xt_code m_L_law) 324 = .ok (.iaload, 1) := by decide +kernel
theorem d_L_law_325 : decode (xt_code m_L_law) 325 = .ok (.aload_n 0, 1) := by decide +kernel
theorem d_L_law_326 : decode (xt_code m_L_law) 326 = .ok (.iload_n 3, 1) := by decide +kernel
theorem d_L_law_327 : decode (xt_code m_L_law) 327 = .ok (.iconst 2, 1) := by decide +kernel
theorem d_L_law_328 : decode (xt_code m_L_law) 328 = .ok (.iadd, 1) := by decide +kernel
theorem d_L_law_329 : decode (xt_code m_L_law) 329 = .ok (.iaload, 1) := by decide +kernel
theorem d_L_law_330 : decode (xt_code m_L_law) 330 = .ok (.aload_n 0, 1) := by decide +kernel
theorem d_L_law_331 : decode (xt_code m_L_law) 331 = .ok (.iload_n 3, 1) := by decide +kernel
theorem d_L_law_332 : decode (xt_code m_L_law) 332 = .ok (.iconst 3, 1) := by decide +kernel
theorem d_L_law_333 : decode (xt_code m_L_law) 333 = .ok (.iadd, 1) := by decide +kernel
theorem d_L_law_334 : decode (xt_code m_L_law) 334 = .ok (.iaload, 1) := by decide +kernel
theorem d_L_law_335 : decode (xt_code m_L_law) 335 = .ok (.invokevirtual 38, 3) := by decide +kernel
theorem d_L_law_338 : decode (xt_code m_L_law) 338 = .ok (.aload_n 2, 1) := by decide +kernel
theorem d_L_law_339 : decode (xt_code m_L_law) 339 = .ok (.aload_n 0, 1) := by decide +kernel
theorem d_L_law_340 : decode (xt_code m_L_law) 340 = .ok (.iload_n 3, 1) := by decide +kernel
theorem d_L_law_341 : decode (xt_code m_L_law) 341 = .ok (.iconst 1, 1) := by decide +kernel
theorem d_L_law_342 : decode (xt_code m_L_law) 342 = .ok (.iadd, 1) := by decide +kernel
theorem d_L_law_343 : decode (xt_code m_L_law) 343 = .ok (.iaload, 1) := by decide +kernel
theorem d_L_law_344 : decode (xt_code m_L_law) 344 = .ok (.aload_n 0, 1) := by decide +kernel
theorem d_L_law_345 : decode (xt_code m_L_law) 345 = .ok (.iload_n 3, 1) := by decide +kernel
theorem d_L_law_346 : decode (xt_code m_L_law) 346 = .ok (.iconst 2, 1) := by decide +kernel
theorem d_L_law_347 : decode (xt_code m_L_law) 347 = .ok (.iadd, 1) := by decide +kernel
theorem d_L_law_348 : decode (xt_code m_L_law) 348 = .ok (.iaload, 1) := by decide +kernel
theorem d_L_law_349 : decode (xt_code m_L_law) 349 = .ok (.aload_n 0, 1) := by decide +kernel
theorem d_L_law_350 : decode (xt_code m_L_law) 350 = .ok (.iload_n 3, 1) := by decide +kernel
theorem d_L_law_351 : decode (xt_code m_L_law) 351 = .ok (.iconst 3, 1) := by decide +kernel
theorem d_L_law_352 : decode (xt_code m_L_law) 352 = .ok (.iadd, 1) := by decide +kernel
theorem d_L_law_353 : decode (xt_code m_L_law) 353 = .ok (.iaload, 1) := by decide +kernel
theorem d_L_law_354 : decode (xt_code m_L_law) 354 = .ok (.invokevirtual 42, 3) := by decide +kernel
theorem d_L_law_357 : decode (xt_code m_L_law) 357 = .ok (.if_icmp .eq 301, 3) := by decide +kernel
theorem d_L_law_360 : decode (xt_code m_L_law) 360 = .ok (.iconst 0, 1) := by decide +kernel
theorem d_L_law_361 : decode (xt_code m_L_law) 361 = .ok (.ireturn, 1) := by decide +kernel
theorem d_L_law_362 : decode (xt_code m_L_law) 362 = .ok (.aload_n 1, 1) := by decide +kernel
theorem d_L_law_363 : decode (xt_code m_L_law) 363 = .ok (.aload_n 0, 1) := by decide +kernel
theorem d_L_law_364 : decode (xt_code m_L_law) 364 = .ok (.iload_n 3, 1) := by decide +kernel
theorem d_L_law_365 : decode (xt_code m_L_law) 365 = .ok (.iconst 1, 1) := by decide +kernel
theorem d_L_law_366 : decode (xt_code m_L_law) 366 = .ok (.iadd, 1) := by decide +kernel
theorem d_L_law_367 : decode (xt_code m_L_law) 367 = .ok (.iaload, 1) := by decide +kernel
theorem d_L_law_368 : decode (xt_code m_L_law) 368 = .ok (.invokevirtual 43, 3) := by decide +kernel
theorem d_L_law_371 : decode (xt_code m_L_law) 371 = .ok (.aload_n 2, 1) := by decide +kernel
theorem d_L_law_372 : decode (xt_code m_L_law) 372 = .ok (.aload_n 0, 1) := by decide +kernel
theorem d_L_law_373 : decode (xt_code m_L_law) 373 = .ok (.iload_n 3, 1) := by decide +kernel
theorem d_L_law_374 : decode (xt_code m_L_law) 374 = .ok (.iconst 1, 1) := by decide +kernel
theorem d_L_law_375 : decode (xt_code m_L_law) 375 = .ok (.iadd, 1) := by decide +kernel
theorem d_L_law_376 : decode (xt_code m_L_law) 376 = .ok (.iaload, 1) := by decide +kernel
theorem d_L_law_377 : decode (xt_code m_L_law) 377 = .ok (.invokevirtual 46, 3) := by decide +kernel
theorem d_L_law_380 : decode (xt_code m_L_law) 380 = .ok (.if_icmp .eq 278, 3) := by decide +kernel
theorem d_L_law_383 : decode (xt_code m_L_law) 383 = .ok (.iconst 0, 1) := by decide +kernel
theorem d_L_law_384 : decode (xt_code m_L_law) 384 = .ok (.ireturn, 1) := by decide +kernel
theorem d_L_law_385 : decode (xt_code m_L_law) 385 = .ok (.aload_n 1, 1) := by decide +kernel
theorem d_L_law_386 : decode (xt_code m_L_law) 386 = .ok (.aload_n 0, 1) := by decide +kernel
theorem d_L_law_387 : decode (xt_code m_L_law) 387 = .ok (.iload_n 3, 1) := by decide +kernel
theorem d_L_law_388 : decode (xt_code m_L_law) 388 = .ok (.iconst 1, 1) := by decide +kernel
theorem d_L_law_389 : decode (xt_code m_L_law) 389 = .ok (.iadd, 1) := by decide +kernel
theorem d_L_law_390 : decode (xt_code m_L_law) 390 = .ok (.iaload, 1) := by decide +kernel
theorem d_L_law_391 : decode (xt_code m_L_law) 391 = .ok (.invokevirtual 47, 3) := by decide +kernel
theorem d_L_law_394 : decode (xt_code m_L_law) 394 = .ok (.aload_n 2, 1) := by decide +kernel
theorem d_L_law_395 : decode (xt_code m_L_law) 395 = .ok (.aload_n 0, 1) := by decide +kernel
theorem d_L_law_396 : decode (xt_code m_L_law) 396 = .ok (.iload_n 3, 1) := by decide +kernel
theorem d_L_law_397 : decode (xt_code m_L_law) 397 = .ok (.iconst 1, 1) := by decide +kernel
theorem d_L_law_398 : decode (xt_code m_L_law) 398 = .ok (.iadd, 1) := by decide +kernel
theorem d_L_law_399 : decode (xt_code m_L_law) 399 = .ok (.iaload, 1) := by decide +kernel
theorem d_L_law_400 : decode (xt_code m_L_law) 400 = .ok (.invokevirtual 50, 3) := by decide +kernel
theorem d_L_law_403 : decode (xt_code m_L_law) 403 = .ok (.if_icmp .eq 255, 3) := by decide +kernel
theorem d_L_law_406 : decode (xt_code m_L_law) 406 = .ok (.iconst 0, 1) := by decide +kernel
theorem d_L_law_407 : decode (xt_code m_L_law) 407 = .ok (.ireturn, 1) := by decide +kernel
theorem d_L_law_408 : decode (xt_code m_L_law) 408 = .ok (.aload_n 1, 1) := by decide +kernel
theorem d_L_law_409 : decode (xt_code m_L_law) 409 = .ok (.aload_n 0, 1) := by decide +kernel
theorem d_L_law_410 : decode (xt_code m_L_law) 410 = .ok (.iload_n 3, 1) := by decide +kernel
theorem d_L_law_411 : decode (xt_code m_L_law) 411 = .ok (.iconst 1, 1) := by decide +kernel
theorem d_L_law_412 : decode (xt_code m_L_law) 412 = .ok (.iadd, 1) := by decide +kernel
theorem d_L_law_413 : decode (xt_code m_L_law) 413 = .ok (.iaload, 1) := by decide +kernel
theorem d_L_law_414 : decode (xt_code m_L_law) 414 = .ok (.aload_n 0, 1) := by decide +kernel
theorem d_L_law_415 : decode (xt_code m_L_law) 415 = .ok (.iload_n 3, 1) := by decide +kernel
theorem d_L_law_416 : decode (xt_code m_L_law) 416 = .ok (.iconst 2, 1) := by decide +kernel
theorem d_L_law_417 : decode (xt_code m_L_law) 417 = .ok (.iadd, 1) := by decide +kernel
theorem d_L_law_418 : decode (xt_code m_L_law) 418 = .ok (.iaload, 1) := by decide +kernel
theorem d_L_law_419 : decode (xt_code m_L_law) 419 = .ok (.ifCond .eq 7, 3) := by decide +kernel
theorem d_L_law_422 : decode (xt_code m_L_law) 422 = .ok (.iconst 1, 1) := by decide +kernel
theorem d_L_law_423 : decode (xt_code m_L_law) 423 = .ok (.goto 4, 3) := by decide +kernel
theorem d_L_law_426 : decode (xt_code m_L_law) 426 = .ok (.iconst 0, 1) := by decide +kernel
theorem d_L_law_427 : decode (xt_code m_L_law) 427 = .ok (.aload_n 0, 1) := by decide +kernel
theorem d_L_law_428 : decode (xt_code m_L_law) 428 = .ok (.iload_n 3, 1) := by decide +kernel
theorem d_L_law_429 : decode (xt_code m_L_law) 429 = .ok (.iconst 3, 1) := by decide +kernel
theorem d_L_law_430 : decode (xt_code m_L_law) 430 = .ok (.iadd, 1) := by decide +kernel
theorem d_L_law_431 : decode (xt_code m_L_law) 431 = .ok (.iaload, 1) := by decide +kernel
theorem d_L_law_432 : decode (xt_code m_L_law) 432 = .ok (.invokevirtual 51, 3) := by decide +kernel
theorem d_L_law_435 : decode (xt_code m_L_law) 435 = .ok (.aload_n 2, 1) := by decide +kernel
theorem d_L_law_436 : decode (xt_code m_L_law) 436 = .ok (.aload_n 0, 1) := by decide +kernel
theorem d_L_law_437 : decode (xt_code m_L_law) 437 = .ok (.iload_n 3, 1) := by decide +kernel
theorem d_L_law_438 : decode (xt_code m_L_law) 438 = .ok (.iconst 1, 1) := by decide +kernel
theorem d_L_law_439 : decode (xt_code m_L_law) 439 = .ok (.iadd, 1) := by decide +kernel
theorem d_L_law_440 : decode (xt_code m_L_law) 440 = .ok (.iaload, 1) := by decide +kernel
theorem d_L_law_441 : decode (xt_code m_L_law) 441 = .ok (.aload_n 0, 1) := by decide +kernel
theorem d_L_law_442 : decode (xt_code m_L_law) 442 = .ok (.iload_n 3, 1) := by decide +kernel
theorem d_L_law_443 : decode (xt_code m_L_law) 443 = .ok (.iconst 2, 1) := by decide +kernel
theorem d_L_law_444 : decode (xt_code m_L_law) 444 = .ok (.iadd, 1) := by decide +kernel
theorem d_L_law_445 : decode (xt_code m_L_law) 445 = .ok (.iaload, 1) := by decide +kernel
theorem d_L_law_446 : decode (xt_code m_L_law) 446 = .ok (.ifCond .eq 7, 3) := by decide +kernel
theorem d_L_law_449 : decode (xt_code m_L_law) 449 = .ok (.iconst 1, 1) := by decide +kernel
theorem d_L_law_450 : decode (xt_code m_L_law) 450 = .ok (.goto 4, 3) := by decide +kernel
theorem d_L_law_453 : decode (xt_code m_L_law) 453 = .ok (.iconst 0, 1) := by decide +kernel
theorem d_L_law_454 : decode (xt_code m_L_law) 454 = .ok (.aload_n 0, 1) := by decide +kernel
theorem d_L_law_455 : decode (xt_code m_L_law) 455 = .ok (.iload_n 3, 1) := by decide +kernel
theorem d_L_law_456 : decode (xt_code m_L_law) 456 = .ok (.iconst 3, 1) := by decide +kernel
theorem d_L_law_457 : decode (xt_code m_L_law) 457 = .ok (.iadd, 1) := by decide +kernel
theorem d_L_law_458 : decode (xt_code m_L_law) 458 = .ok (.iaload, 1) := by decide +kernel
theorem d_L_law_459 : decode (xt_code m_L_law) 459 = .ok (.invokevirtual 55, 3) := by decide +kernel
theorem d_L_law_462 : decode (xt_code m_L_law) 462 = .ok (.if_icmp .eq 196, 3) := by decide +kernel
theorem d_L_law_465 : decode (xt_code m_L_law) 465 = .ok (.iconst 0, 1) := by decide +kernel
theorem d_L_law_466 : decode (xt_code m_L_law) 466 = .ok (.ireturn, 1) := by decide +kernel
theorem d_L_law_467 : decode (xt_code m_L_law) 467 = .ok (.aload_n 1, 1) := by decide +kernel
theorem d_L_law_468 : decode (xt_code m_L_law) 468 = .ok (.aload_n 0, 1) := by decide +kernel
theorem d_L_law_469 : decode (xt_code m_L_law) 469 = .ok (.iload_n 3, 1) := by decide +kernel
theorem d_L_law_470 : decode (xt_code m_L_law) 470 = .ok (.iconst 1, 1) := by decide +kernel
theorem d_L_law_471 : decode (xt_code m_L_law) 471 = .ok (.iadd, 1) := by decide +kernel
theorem d_L_law_472 : decode (xt_code m_L_law) 472 = .ok (.iaload, 1) := by decide +kernel
theorem d_L_law_473 : decode (xt_code m_L_law) 473 = .ok (.invokevirtual 56, 3) := by decide +kernel
theorem d_L_law_476 : decode (xt_code m_L_law) 476 = .ok (.aload_n 2, 1) := by decide +kernel
theorem d_L_law_477 : decode (xt_code m_L_law) 477 = .ok (.aload_n 0, 1) := by decide +kernel
theorem d_L_law_478 : decode (xt_code m_L_law) 478 = .ok (.iload_n 3, 1) := by decide +kernel
theorem d_L_law_479 : decode (xt_code m_L_law) 479 = .ok (.iconst 1, 1) := by decide +kernel
theorem d_L_law_480 : decode (xt_code m_L_law) 480 = .ok (.iadd, 1) := by decide +kernel
theorem d_L_law_481 : decode (xt_code m_L_law) 481 = .ok (.iaload, 1) := by decide +kernel
theorem d_L_law_482 : decode (xt_code m_L_law) 482 = .ok (.invokevirtual 59, 3) := by decide +kernel
theorem d_L_law_485 : decode (xt_code m_L_law) 485 = .ok (.if_icmp .eq 173, 3) := by decide +kernel
theorem d_L_law_488 : decode (xt_code m_L_law) 488 = .ok (.iconst 0, 1) := by decide +kernel
theorem d_L_law_489 : decode (xt_code m_L_law) 489 = .ok (.ireturn, 1) := by decide +kernel
theorem d_L_law_490 : decode (xt_code m_L_law) 490 = .ok (.aload_n 1, 1) := by decide +kernel
theorem d_L_law_491 : decode (xt_code m_L_law) 491 = .ok (.aload_n 0, 1) := by decide +kernel
theorem d_L_law_492 : decode (xt_code m_L_law) 492 = .ok (.iload_n 3, 1) := by decide +kernel
theorem d_L_law_493 : decode (xt_code m_L_law) 493 = .ok (.iconst 1, 1) := by decide +kernel
theorem d_L_law_494 : decode (xt_code m_L_law) 494 = .ok (.iadd, 1) := by decide +kernel
theorem d_L_law_495 : decode (xt_code m_L_law) 495 = .ok (.iaload, 1) := by decide +kernel
theorem d_L_law_496 : decode (xt_code m_L_law) 496 = .ok (.invokevirtual 60, 3) := by decide +kernel
theorem d_L_law_499 : decode (xt_code m_L_law) 499 = .ok (.aload_n 2, 1) := by decide +kernel
theorem d_L_law_500 : decode (xt_code m_L_law) 500 = .ok (.aload_n 0, 1) := by decide +kernel
theorem d_L_law_501 : decode (xt_code m_L_law) 501 = .ok (.iload_n 3, 1) := by decide +kernel
theorem d_L_law_502 : decode (xt_code m_L_law) 502 = .ok (.iconst 1, 1) := by decide +kernel
theorem d_L_law_503 : decode (xt_code m_L_law) 503 = .ok (.iadd, 1) := by decide +kernel
theorem d_L_law_504 : decode (xt_code m_L_law) 504 = .ok (.iaload, 1) := by decide +kernel
theorem d_L_law_505 : decode (xt_code m_L_law) 505 = .ok (.invokevirtual 63, 3) := by decide +kernel
theorem d_L_law_508 : decode (xt_code m_L_law) 508 = .ok (.if_icmp .eq 150, 3) := by decide +kernel
theorem d_L_law_511 : decode (xt_code m_L_law) 511 = .ok (.iconst 0, 1) := by decide +kernel
theorem d_L_law_512 : decode (xt_code m_L_law) 512 = .ok (.ireturn, 1) := by decide +kernel
theorem d_L_law_513 : decode (xt_code m_L_law) 513 = .ok (.aload_n 1, 1) := by decide +kernel
