theorem dX0_init_0 : decode cX0_init 0 = .ok (.aload_n 0, 1) := by decide +kernel
theorem dX0_init_1 : decode cX0_init 1 = .ok (.invokespecial 3, 3) := by decide +kernel
theorem dX0_init_4 : decode cX0_init 4 = .ok (.aload_n 0, 1) := by decide +kernel
theorem dX0_init_5 : decode cX0_init 5 = .ok (.sipush 300, 3) := by decide +kernel
theorem dX0_init_8 : decode cX0_init 8 = .ok (.newarray .byte, 2) := by decide +kernel
theorem dX0_init_10 : decode cX0_init 10 = .ok (.putfield 9, 3) := by decide +kernel
theorem dX0_init_13 : decode cX0_init 13 = .ok (.aload_n 0, 1) := by decide +kernel
theorem dX0_init_14 : decode cX0_init 14 = .ok (.iconst 4, 1) := by decide +kernel
theorem dX0_init_15 : decode cX0_init 15 = .ok (.newarray .int, 2) := by decide +kernel
theorem dX0_init_17 : decode cX0_init 17 = .ok (.putfield 15, 3) := by decide +kernel
theorem dX0_init_20 : decode cX0_init 20 = .ok (.return_, 1) := by decide +kernel
theorem dX0_append_0 : decode cX0_append 0 = .ok (.aload_n 0, 1) := by decide +kernel
theorem dX0_append_1 : decode cX0_append 1 = .ok (.getfield 19, 3) := by decide +kernel
theorem dX0_append_4 : decode cX0_append 4 = .ok (.sipush 300, 3) := by decide +kernel
theorem dX0_append_7 : decode cX0_append 7 = .ok (.if_icmp .ge 23, 3) := by decide +kernel
theorem dX0_append_10 : decode cX0_append 10 = .ok (.aload_n 0, 1) := by decide +kernel
theorem dX0_append_11 : decode cX0_append 11 = .ok (.getfield 9, 3) := by decide +kernel
theorem dX0_append_14 : decode cX0_append 14 = .ok (.aload_n 0, 1) := by decide +kernel
theorem dX0_append_15 : decode cX0_append 15 = .ok (.getfield 19, 3) := by decide +kernel
theorem dX0_append_18 : decode cX0_append 18 = .ok (.iload_n 1, 1) := by decide +kernel
theorem dX0_append_19 : decode cX0_append 19 = .ok (.bastore, 1) := by decide +kernel
theorem dX0_append_20 : decode cX0_append 20 = .ok (.aload_n 0, 1) := by decide +kernel
theorem dX0_append_21 : decode cX0_append 21 = .ok (.dup, 1) := by decide +kernel
theorem dX0_append_22 : decode cX0_append 22 = .ok (.getfield 19, 3) := by decide +kernel
theorem dX0_append_25 : decode cX0_append 25 = .ok (.iconst 1, 1) := by decide +kernel
theorem dX0_append_26 : decode cX0_append 26 = .ok (.iadd, 1) := by decide +kernel
theorem dX0_append_27 : decode cX0_append 27 = .ok (.putfield 19, 3) := by decide +kernel
theorem dX0_append_30 : decode cX0_append 30 = .ok (.return_, 1) := by decide +kernel
theorem dX0_readInto_0 : decode cX0_readInto 0 = .ok (.aload_n 1, 1) := by decide +kernel
theorem dX0_readInto_1 : decode cX0_readInto 1 = .ok (.invokevirtual 23, 3) := by decide +kernel
theorem dX0_readInto_4 : decode cX0_readInto 4 = .ok (.aload_n 0, 1) := by decide +kernel
theorem dX0_readInto_5 : decode cX0_readInto 5 = .ok (.iconst 0, 1) := by decide +kernel
theorem dX0_readInto_6 : decode cX0_readInto 6 = .ok (.putfield 28, 3) := by decide +kernel
theorem dX0_readInto_9 : decode cX0_readInto 9 = .ok (.iconst 0, 1) := by decide +kernel
theorem dX0_readInto_10 : decode cX0_readInto 10 = .ok (.istore_n 2, 1) := by decide +kernel
theorem dX0_readInto_11 : decode cX0_readInto 11 = .ok (.iload_n 2, 1) := by decide +kernel
theorem dX0_readInto_12 : decode cX0_readInto 12 = .ok (.sipush 300, 3) := by decide +kernel
theorem dX0_readInto_15 : decode cX0_readInto 15 = .ok (.if_icmp .ge 35, 3) := by decide +kernel
theorem dX0_readInto_18 : decode cX0_readInto 18 = .ok (.aload_n 0, 1) := by decide +kernel
theorem dX0_readInto_19 : decode cX0_readInto 19 = .ok (.getfield 28, 3) := by decide +kernel
theorem dX0_readInto_22 : decode cX0_readInto 22 = .ok (.aload_n 0, 1) := by decide +kernel
theorem dX0_readInto_23 : decode cX0_readInto 23 = .ok (.getfield 19, 3) := by decide +kernel
theorem dX0_readInto_26 : decode cX0_readInto 26 = .ok (.if_icmp .ge 24, 3) := by decide +kernel
theorem dX0_readInto_29 : decode cX0_readInto 29 = .ok (.aload_n 0, 1) := by decide +kernel
theorem dX0_readInto_30 : decode cX0_readInto 30 = .ok (.getfield 28, 3) := by decide +kernel
theorem dX0_readInto_33 : decode cX0_readInto 33 = .ok (.istore_n 3, 1) := by decide +kernel
theorem dX0_readInto_34 : decode cX0_readInto 34 = .ok (.aload_n 0, 1) := by decide +kernel
theorem dX0_readInto_35 : decode cX0_readInto 35 = .ok (.aload_n 1, 1) := by decide +kernel
theorem dX0_readInto_36 : decode cX0_readInto 36 = .ok (.invokevirtual 31, 3) := by decide +kernel
theorem dX0_readInto_39 : decode cX0_readInto 39 = .ok (.ifCond .ne 5, 3) := by decide +kernel
theorem dX0_readInto_42 : decode cX0_readInto 42 = .ok (.iload_n 3, 1) := by decide +kernel
theorem dX0_readInto_43 : decode cX0_readInto 43 = .ok (.ireturn, 1) := by decide +kernel
theorem dX0_readInto_44 : decode cX0_readInto 44 = .ok (.iinc 2 1, 3) := by decide +kernel
theorem dX0_readInto_47 : decode cX0_readInto 47 = .ok (.goto (-36), 3) := by decide +kernel
theorem dX0_readInto_50 : decode cX0_readInto 50 = .ok (.bipush (-4), 2) := by decide +kernel
theorem dX0_readInto_52 : decode cX0_readInto 52 = .ok (.ireturn, 1) := by decide +kernel
theorem dX0_readItem_0 : decode cX0_readItem 0 = .ok (.aload_n 0, 1) := by decide +kernel
theorem dX0_readItem_1 : decode cX0_readItem 1 = .ok (.invokevirtual 35, 3) := by decide +kernel
theorem dX0_readItem_4 : decode cX0_readItem 4 = .ok (.istore_n 2, 1) := by decide +kernel
theorem dX0_readItem_5 : decode cX0_readItem 5 = .ok (.aload_n 0, 1) := by decide +kernel
theorem dX0_readItem_6 : decode cX0_readItem 6 = .ok (.dup, 1) := by decide +kernel
theorem dX0_readItem_7 : decode cX0_readItem 7 = .ok (.getfield 28, 3) := by decide +kernel
theorem dX0_readItem_10 : decode cX0_readItem 10 = .ok (.iconst 1, 1) := by decide +kernel
theorem dX0_readItem_11 : decode cX0_readItem 11 = .ok (.iadd, 1) := by decide +kernel
theorem dX0_readItem_12 : decode cX0_readItem 12 = .ok (.putfield 28, 3) := by decide +kernel
theorem dX0_readItem_15 : decode cX0_readItem 15 = .ok (.iload_n 2, 1) := by decide +kernel
theorem dX0_readItem_16 : decode cX0_readItem 16 = .ok (.tableswitch 323 99 117 #[146, 323, 323, 323, 323, 323, 323, 125, 200, 323, 239, 173, 323, 92, 323, 323, 323, 323, 284], 92) := by decide +kernel
theorem dX0_readItem_108 : decode cX0_readItem 108 = .ok (.aload_n 0, 1) := by decide +kernel
theorem dX0_readItem_109 : decode cX0_readItem 109 = .ok (.iconst 2, 1) := by decide +kernel
theorem dX0_readItem_110 : decode cX0_readItem 110 = .ok (.invokevirtual 39, 3) := by decide +kernel
theorem dX0_readItem_113 : decode cX0_readItem 113 = .ok (.ifCond .eq 26, 3) := by decide +kernel
theorem dX0_readItem_116 : decode cX0_readItem 116 = .ok (.aload_n 1, 1) := by decide +kernel
theorem dX0_readItem_117 : decode cX0_readItem 117 = .ok (.aload_n 0, 1) := by decide +kernel
theorem dX0_readItem_118 : decode cX0_readItem 118 = .ok (.getfield 15, 3) := by decide +kernel
theorem dX0_readItem_121 : decode cX0_readItem 121 = .ok (.iconst 0, 1) := by decide +kernel
theorem dX0_readItem_122 : decode cX0_readItem 122 = .ok (.iaload, 1) := by decide +kernel
theorem dX0_readItem_123 : decode cX0_readItem 123 = .ok (.aload_n 0, 1) := by decide +kernel
theorem dX0_readItem_124 : decode cX0_readItem 124 = .ok (.getfield 15, 3) := by decide +kernel
theorem dX0_readItem_127 : decode cX0_readItem 127 = .ok (.iconst 1, 1) := by decide +kernel
theorem dX0_readItem_128 : decode cX0_readItem 128 = .ok (.iaload, 1) := by decide +kernel
theorem dX0_readItem_129 : decode cX0_readItem 129 = .ok (.invokevirtual 43, 3) := by decide +kernel
theorem dX0_readItem_132 : decode cX0_readItem 132 = .ok (.ifCond .eq 7, 3) := by decide +kernel
theorem dX0_readItem_135 : decode cX0_readItem 135 = .ok (.iconst 1, 1) := by decide +kernel
theorem dX0_readItem_136 : decode cX0_readItem 136 = .ok (.goto 4, 3) := by decide +kernel
theorem dX0_readItem_139 : decode cX0_readItem 139 = .ok (.iconst 0, 1) := by decide +kernel
theorem dX0_readItem_140 : decode cX0_readItem 140 = .ok (.ireturn, 1) := by decide +kernel
theorem dX0_readItem_141 : decode cX0_readItem 141 = .ok (.aload_n 0, 1) := by decide +kernel
theorem dX0_readItem_142 : decode cX0_readItem 142 = .ok (.aload_n 1, 1) := by decide +kernel
theorem dX0_readItem_143 : decode cX0_readItem 143 = .ok (.invokevirtual 47, 3) := by decide +kernel
theorem dX0_readItem_146 : decode cX0_readItem 146 = .ok (.ifCond .eq 14, 3) := by decide +kernel
theorem dX0_readItem_149 : decode cX0_readItem 149 = .ok (.aload_n 1, 1) := by decide +kernel
theorem dX0_readItem_150 : decode cX0_readItem 150 = .ok (.invokevirtual 50, 3) := by decide +kernel
theorem dX0_readItem_153 : decode cX0_readItem 153 = .ok (.ifCond .eq 7, 3) := by decide +kernel
theorem dX0_readItem_156 : decode cX0_readItem 156 = .ok (.iconst 1, 1) := by decide +kernel
theorem dX0_readItem_157 : decode cX0_readItem 157 = .ok (.goto 4, 3) := by decide +kernel
theorem dX0_readItem_160 : decode cX0_readItem 160 = .ok (.iconst 0, 1) := by decide +kernel
theorem dX0_readItem_161 : decode cX0_readItem 161 = .ok (.ireturn, 1) := by decide +kernel
theorem dX0_readItem_162 : decode cX0_readItem 162 = .ok (.aload_n 0, 1) := by decide +kernel
theorem dX0_readItem_163 : decode cX0_readItem 163 = .ok (.iconst 1, 1) := by decide +kernel
theorem dX0_readItem_164 : decode cX0_readItem 164 = .ok (.invokevirtual 39, 3) := by decide +kernel
theorem dX0_readItem_167 : decode cX0_readItem 167 = .ok (.ifCond .eq 20, 3) := by decide +kernel
theorem dX0_readItem_170 : decode cX0_readItem 170 = .ok (.aload_n 1, 1) := by decide +kernel
theorem dX0_readItem_171 : decode cX0_readItem 171 = .ok (.aload_n 0, 1) := by decide +kernel
theorem dX0_readItem_172 : decode cX0_readItem 172 = .ok (.getfield 15, 3) := by decide +kernel
theorem dX0_readItem_175 : decode cX0_readItem 175 = .ok (.iconst 0, 1) := by decide +kernel
theorem dX0_readItem_176 : decode cX0_readItem 176 = .ok (.iaload, 1) := by decide +kernel
theorem dX0_readItem_177 : decode cX0_readItem 177 = .ok (.invokevirtual 54, 3) := by decide +kernel
theorem dX0_readItem_180 : decode cX0_readItem 180 = .ok (.ifCond .eq 7, 3) := by decide +kernel
theorem dX0_readItem_183 : decode cX0_readItem 183 = .ok (.iconst 1, 1) := by decide +kernel
theorem dX0_readItem_184 : decode cX0_readItem 184 = .ok (.goto 4, 3) := by decide +kernel
theorem dX0_readItem_187 : decode cX0_readItem 187 = .ok (.iconst 0, 1) := by decide +kernel
theorem dX0_readItem_188 : decode cX0_readItem 188 = .ok (.ireturn, 1) := by decide +kernel
theorem dX0_readItem_189 : decode cX0_readItem 189 = .ok (.aload_n 0, 1) := by decide +kernel
theorem dX0_readItem_190 : decode cX0_readItem 190 = .ok (.iconst 1, 1) := by decide +kernel
theorem dX0_readItem_191 : decode cX0_readItem 191 = .ok (.invokevirtual 39, 3) := by decide +kernel
theorem dX0_readItem_194 : decode cX0_readItem 194 = .ok (.ifCond .eq 20, 3) := by decide +kernel
theorem dX0_readItem_197 : decode cX0_readItem 197 = .ok (.aload_n 1, 1) := by decide +kernel
theorem dX0_readItem_198 : decode cX0_readItem 198 = .ok (.aload_n 0, 1) := by decide +kernel
theorem dX0_readItem_199 : decode cX0_readItem 199 = .ok (.getfield 15, 3) := by decide +kernel
theorem dX0_readItem_202 : decode cX0_readItem 202 = .ok (.iconst 0, 1) := by decide +kernel
theorem dX0_readItem_203 : decode cX0_readItem 203 = .ok (.iaload, 1) := by decide +kernel
theorem dX0_readItem_204 : decode cX0_readItem 204 = .ok (.invokevirtual 57, 3) := by decide +kernel
theorem dX0_readItem_207 : decode cX0_readItem 207 = .ok (.ifCond .eq 7, 3) := by decide +kernel
theorem dX0_readItem_210 : decode cX0_readItem 210 = .ok (.iconst 1, 1) := by decide +kernel
theorem dX0_readItem_211 : decode cX0_readItem 211 = .ok (.goto 4, 3) := by decide +kernel
theorem dX0_readItem_214 : decode cX0_readItem 214 = .ok (.iconst 0, 1) := by decide +kernel
theorem dX0_readItem_215 : decode cX0_readItem 215 = .ok (.ireturn, 1) := by decide +kernel
theorem dX0_readItem_216 : decode cX0_readItem 216 = .ok (.aload_n 0, 1) := by decide +kernel
theorem dX0_readItem_217 : decode cX0_readItem 217 = .ok (.iconst 3, 1) := by decide +kernel
theorem dX0_readItem_218 : decode cX0_readItem 218 = .ok (.invokevirtual 39, 3) := by decide +kernel
theorem dX0_readItem_221 : decode cX0_readItem 221 = .ok (.ifCond .eq 32, 3) := by decide +kernel
theorem dX0_readItem_224 : decode cX0_readItem 224 = .ok (.aload_n 1, 1) := by decide +kernel
theorem dX0_readItem_225 : decode cX0_readItem 225 = .ok (.aload_n 0, 1) := by decide +kernel
theorem dX0_readItem_226 : decode cX0_readItem 226 = .ok (.getfield 15, 3) := by decide +kernel
theorem dX0_readItem_229 : decode cX0_readItem 229 = .ok (.iconst 0, 1) := by decide +kernel
theorem dX0_readItem_230 : decode cX0_readItem 230 = .ok (.iaload, 1) := by decide +kernel
theorem dX0_readItem_231 : decode cX0_readItem 231 = .ok (.aload_n 0, 1) := by decide +kernel
theorem dX0_readItem_232 : decode cX0_readItem 232 = .ok (.getfield 15, 3) := by decide +kernel
theorem dX0_readItem_235 : decode cX0_readItem 235 = .ok (.iconst 1, 1) := by decide +kernel
theorem dX0_readItem_236 : decode cX0_readItem 236 = .ok (.iaload, 1) := by decide +kernel
theorem dX0_readItem_237 : decode cX0_readItem 237 = .ok (.aload_n 0, 1) := by decide +kernel
theorem dX0_readItem_238 : decode cX0_readItem 238 = .ok (.getfield 15, 3) := by decide +kernel
theorem dX0_readItem_241 : decode cX0_readItem 241 = .ok (.iconst 2, 1) := by decide +kernel
theorem dX0_readItem_242 : decode cX0_readItem 242 = .ok (.iaload, 1) := by decide +kernel
theorem dX0_readItem_243 : decode cX0_readItem 243 = .ok (.invokevirtual 60, 3) := by decide +kernel
theorem dX0_readItem_246 : decode cX0_readItem 246 = .ok (.ifCond .eq 7, 3) := by decide +kernel
theorem dX0_readItem_249 : decode cX0_readItem 249 = .ok (.iconst 1, 1) := by decide +kernel
theorem dX0_readItem_250 : decode cX0_readItem 250 = .ok (.goto 4, 3) := by decide +kernel
theorem dX0_readItem_253 : decode cX0_readItem 253 = .ok (.iconst 0, 1) := by decide +kernel
theorem dX0_readItem_254 : decode cX0_readItem 254 = .ok (.ireturn, 1) := by decide +kernel
theorem dX0_readItem_255 : decode cX0_readItem 255 = .ok (.aload_n 0, 1) := by decide +kernel
theorem dX0_readItem_256 : decode cX0_readItem 256 = .ok (.iconst 4, 1) := by decide +kernel
theorem dX0_readItem_257 : decode cX0_readItem 257 = .ok (.invokevirtual 39, 3) := by decide +kernel
theorem dX0_readItem_260 : decode cX0_readItem 260 = .ok (.ifCond .eq 38, 3) := by decide +kernel
theorem dX0_readItem_263 : decode cX0_readItem 263 = .ok (.aload_n 1, 1) := by decide +kernel
theorem dX0_readItem_264 : decode cX0_readItem 264 = .ok (.aload_n 0, 1) := by decide +kernel
theorem dX0_readItem_265 : decode cX0_readItem 265 = .ok (.getfield 15, 3) := by decide +kernel
theorem dX0_readItem_268 : decode cX0_readItem 268 = .ok (.iconst 0, 1) := by decide +kernel
theorem dX0_readItem_269 : decode cX0_readItem 269 = .ok (.iaload, 1) := by decide +kernel
theorem dX0_readItem_270 : decode cX0_readItem 270 = .ok (.aload_n 0, 1) := by decide +kernel
theorem dX0_readItem_271 : decode cX0_readItem 271 = .ok (.getfield 15, 3) := by decide +kernel
theorem dX0_readItem_274 : decode cX0_readItem 274 = .ok (.iconst 1, 1) := by decide +kernel
theorem dX0_readItem_275 : decode cX0_readItem 275 = .ok (.iaload, 1) := by decide +kernel
theorem dX0_readItem_276 : decode cX0_readItem 276 = .ok (.aload_n 0, 1) := by decide +kernel
theorem dX0_readItem_277 : decode cX0_readItem 277 = .ok (.getfield 15, 3) := by decide +kernel
theorem dX0_readItem_280 : decode cX0_readItem 280 = .ok (.iconst 2, 1) := by decide +kernel
theorem dX0_readItem_281 : decode cX0_readItem 281 = .ok (.iaload, 1) := by decide +kernel
theorem dX0_readItem_282 : decode cX0_readItem 282 = .ok (.aload_n 0, 1) := by decide +kernel
theorem dX0_readItem_283 : decode cX0_readItem 283 = .ok (.getfield 15, 3) := by decide +kernel
theorem dX0_readItem_286 : decode cX0_readItem 286 = .ok (.iconst 3, 1) := by decide +kernel
theorem dX0_readItem_287 : decode cX0_readItem 287 = .ok (.iaload, 1) := by decide +kernel
theorem dX0_readItem_288 : decode cX0_readItem 288 = .ok (.invokevirtual 64, 3) := by decide +kernel
theorem dX0_readItem_291 : decode cX0_readItem 291 = .ok (.ifCond .eq 7, 3) := by decide +kernel
theorem dX0_readItem_294 : decode cX0_readItem 294 = .ok (.iconst 1, 1) := by decide +kernel
theorem dX0_readItem_295 : decode cX0_readItem 295 = .ok (.goto 4, 3) := by decide +kernel
theorem dX0_readItem_298 : decode cX0_readItem 298 = .ok (.iconst 0, 1) := by decide +kernel
theorem dX0_readItem_299 : decode cX0_readItem 299 = .ok (.ireturn, 1) := by decide +kernel
theorem dX0_readItem_300 : decode cX0_readItem 300 = .ok (.aload_n 0, 1) := by decide +kernel
theorem dX0_readItem_301 : decode cX0_readItem 301 = .ok (.iconst 3, 1) := by decide +kernel
theorem dX0_readItem_302 : decode cX0_readItem 302 = .ok (.invokevirtual 39, 3) := by decide +kernel
theorem dX0_readItem_305 : decode cX0_readItem 305 = .ok (.ifCond .eq 32, 3) := by decide +kernel
theorem dX0_readItem_308 : decode cX0_readItem 308 = .ok (.aload_n 1, 1) := by decide +kernel
theorem dX0_readItem_309 : decode cX0_readItem 309 = .ok (.aload_n 0, 1) := by decide +kernel
theorem dX0_readItem_310 : decode cX0_readItem 310 = .ok (.getfield 15, 3) := by decide +kernel
theorem dX0_readItem_313 : decode cX0_readItem 313 = .ok (.iconst 0, 1) := by decide +kernel
theorem dX0_readItem_314 : decode cX0_readItem 314 = .ok (.iaload, 1) := by decide +kernel
theorem dX0_readItem_315 : decode cX0_readItem 315 = .ok (.aload_n 0, 1) := by decide +kernel
theorem dX0_readItem_316 : decode cX0_readItem 316 = .ok (.getfield 15, 3) := by decide +kernel
theorem dX0_readItem_319 : decode cX0_readItem 319 = .ok (.iconst 1, 1) := by decide +kernel
theorem dX0_readItem_320 : decode cX0_readItem 320 = .ok (.iaload, 1) := by decide +kernel
theorem dX0_readItem_321 : decode cX0_readItem 321 = .ok (.aload_n 0, 1) := by decide +kernel
theorem dX0_readItem_322 : decode cX0_readItem 322 = .ok (.getfield 15, 3) := by decide +kernel
theorem dX0_readItem_325 : decode cX0_readItem 325 = .ok (.iconst 2, 1) := by decide +kernel
theorem dX0_readItem_326 : decode cX0_readItem 326 = .ok (.iaload, 1) := by decide +kernel
theorem dX0_readItem_327 : decode cX0_readItem 327 = .ok (.invokevirtual 68, 3) := by decide +kernel
theorem dX0_readItem_330 : decode cX0_readItem 330 = .ok (.ifCond .eq 7, 3) := by decide +kernel
theorem dX0_readItem_333 : decode cX0_readItem 333 = .ok (.iconst 1, 1) := by decide +kernel
theorem dX0_readItem_334 : decode cX0_readItem 334 = .ok (.goto 4, 3) := by decide +kernel
theorem dX0_readItem_337 : decode cX0_readItem 337 = .ok (.iconst 0, 1) := by decide +kernel
theorem dX0_readItem_338 : decode cX0_readItem 338 = .ok (.ireturn, 1) := by decide +kernel
theorem dX0_readItem_339 : decode cX0_readItem 339 = .ok (.iconst 0, 1) := by decide +kernel
theorem dX0_readItem_340 : decode cX0_readItem 340 = .ok (.ireturn, 1) := by decide +kernel
theorem dX0_readNumbers_0 : decode cX0_readNumbers 0 = .ok (.iconst 0, 1) := by decide +kernel
theorem dX0_readNumbers_1 : decode cX0_readNumbers 1 = .ok (.istore_n 2, 1) := by decide +kernel
theorem dX0_readNumbers_2 : decode cX0_readNumbers 2 = .ok (.iload_n 2, 1) := by decide +kernel
theorem dX0_readNumbers_3 : decode cX0_readNumbers 3 = .ok (.iload_n 1, 1) := by decide +kernel
theorem dX0_readNumbers_4 : decode cX0_readNumbers 4 = .ok (.if_icmp .ge 53, 3) := by decide +kernel
theorem dX0_readNumbers_7 : decode cX0_readNumbers 7 = .ok (.iload_n 2, 1) := by decide +kernel
theorem dX0_readNumbers_8 : decode cX0_readNumbers 8 = .ok (.iconst 4, 1) := by decide +kernel
theorem dX0_readNumbers_9 : decode cX0_readNumbers 9 = .ok (.if_icmp .ge 48, 3) := by decide +kernel
theorem dX0_readNumbers_12 : decode cX0_readNumbers 12 = .ok (.aload_n 0, 1) := by decide +kernel
theorem dX0_readNumbers_13 : decode cX0_readNumbers 13 = .ok (.invokevirtual 71, 3) := by decide +kernel
theorem dX0_readNumbers_16 : decode cX0_readNumbers 16 = .ok (.istore_n 3, 1) := by decide +kernel
theorem dX0_readNumbers_17 : decode cX0_readNumbers 17 = .ok (.iload_n 3, 1) := by decide +kernel
theorem dX0_readNumbers_18 : decode cX0_readNumbers 18 = .ok (.ifCond .lt 24, 3) := by decide +kernel
theorem dX0_readNumbers_21 : decode cX0_readNumbers 21 = .ok (.aload_n 0, 1) := by decide +kernel
theorem dX0_readNumbers_22 : decode cX0_readNumbers 22 = .ok (.iload_n 2, 1) := by decide +kernel
theorem dX0_readNumbers_23 : decode cX0_readNumbers 23 = .ok (.iconst 1, 1) := by decide +kernel
theorem dX0_readNumbers_24 : decode cX0_readNumbers 24 = .ok (.iadd, 1) := by decide +kernel
theorem dX0_readNumbers_25 : decode cX0_readNumbers 25 = .ok (.iload_n 1, 1) := by decide +kernel
theorem dX0_readNumbers_26 : decode cX0_readNumbers 26 = .ok (.if_icmp .ge 8, 3) := by decide +kernel
theorem dX0_readNumbers_29 : decode cX0_readNumbers 29 = .ok (.bipush 44, 2) := by decide +kernel
theorem dX0_readNumbers_31 : decode cX0_readNumbers 31 = .ok (.goto 5, 3) := by decide +kernel
theorem dX0_readNumbers_34 : decode cX0_readNumbers 34 = .ok (.bipush 59, 2) := by decide +kernel
theorem dX0_readNumbers_36 : decode cX0_readNumbers 36 = .ok (.invokevirtual 74, 3) := by decide +kernel
theorem dX0_readNumbers_39 : decode cX0_readNumbers 39 = .ok (.ifCond .ne 5, 3) := by decide +kernel
theorem dX0_readNumbers_42 : decode cX0_readNumbers 42 = .ok (.iconst 0, 1) := by decide +kernel
theorem dX0_readNumbers_43 : decode cX0_readNumbers 43 = .ok (.ireturn, 1) := by decide +kernel
theorem dX0_readNumbers_44 : decode cX0_readNumbers 44 = .ok (.aload_n 0, 1) := by decide +kernel
theorem dX0_readNumbers_45 : decode cX0_readNumbers 45 = .ok (.getfield 15, 3) := by decide +kernel
theorem dX0_readNumbers_48 : decode cX0_readNumbers 48 = .ok (.iload_n 2, 1) := by decide +kernel
theorem dX0_readNumbers_49 : decode cX0_readNumbers 49 = .ok (.iload_n 3, 1) := by decide +kernel
theorem dX0_readNumbers_50 : decode cX0_readNumbers 50 = .ok (.iastore, 1) := by decide +kernel
theorem dX0_readNumbers_51 : decode cX0_readNumbers 51 = .ok (.iinc 2 1, 3) := by decide +kernel
theorem dX0_readNumbers_54 : decode cX0_readNumbers 54 = .ok (.goto (-52), 3) := by decide +kernel
theorem dX0_readNumbers_57 : decode cX0_readNumbers 57 = .ok (.iconst 1, 1) := by decide +kernel
theorem dX0_readNumbers_58 : decode cX0_readNumbers 58 = .ok (.ireturn, 1) := by decide +kernel
theorem dX0_readNumber_0 : decode cX0_readNumber 0 = .ok (.iconst (-1), 1) := by decide +kernel
theorem dX0_readNumber_1 : decode cX0_readNumber 1 = .ok (.istore_n 1, 1) := by decide +kernel
theorem dX0_readNumber_2 : decode cX0_readNumber 2 = .ok (.iconst 0, 1) := by decide +kernel
theorem dX0_readNumber_3 : decode cX0_readNumber 3 = .ok (.istore_n 2, 1) := by decide +kernel
theorem dX0_readNumber_4 : decode cX0_readNumber 4 = .ok (.iload_n 2, 1) := by decide +kernel
theorem dX0_readNumber_5 : decode cX0_readNumber 5 = .ok (.iconst 3, 1) := by decide +kernel
theorem dX0_readNumber_6 : decode cX0_readNumber 6 = .ok (.if_icmp .ge 54, 3) := by decide +kernel
theorem dX0_readNumber_9 : decode cX0_readNumber 9 = .ok (.aload_n 0, 1) := by decide +kernel
theorem dX0_readNumber_10 : decode cX0_readNumber 10 = .ok (.invokevirtual 35, 3) := by decide +kernel
theorem dX0_readNumber_13 : decode cX0_readNumber 13 = .ok (.bipush 48, 2) := by decide +kernel
theorem dX0_readNumber_15 : decode cX0_readNumber 15 = .ok (.if_icmp .lt 45, 3) := by decide +kernel
theorem dX0_readNumber_18 : decode cX0_readNumber 18 = .ok (.aload_n 0, 1) := by decide +kernel
theorem dX0_readNumber_19 : decode cX0_readNumber 19 = .ok (.invokevirtual 35, 3) := by decide +kernel
theorem dX0_readNumber_22 : decode cX0_readNumber 22 = .ok (.bipush 57, 2) := by decide +kernel
theorem dX0_readNumber_24 : decode cX0_readNumber 24 = .ok (.if_icmp .gt 36, 3) := by decide +kernel
theorem dX0_readNumber_27 : decode cX0_readNumber 27 = .ok (.iload_n 1, 1) := by decide +kernel
theorem dX0_readNumber_28 : decode cX0_readNumber 28 = .ok (.iconst 0, 1) := by decide +kernel
theorem dX0_readNumber_29 : decode cX0_readNumber 29 = .ok (.invokestatic 77, 3) := by decide +kernel
theorem dX0_readNumber_32 : decode cX0_readNumber 32 = .ok (.bipush 10, 2) := by decide +kernel
theorem dX0_readNumber_34 : decode cX0_readNumber 34 = .ok (.imul, 1) := by decide +kernel
theorem dX0_readNumber_35 : decode cX0_readNumber 35 = .ok (.aload_n 0, 1) := by decide +kernel
theorem dX0_readNumber_36 : decode cX0_readNumber 36 = .ok (.invokevirtual 35, 3) := by decide +kernel
theorem dX0_readNumber_39 : decode cX0_readNumber 39 = .ok (.iadd, 1) := by decide +kernel
theorem dX0_readNumber_40 : decode cX0_readNumber 40 = .ok (.bipush 48, 2) := by decide +kernel
theorem dX0_readNumber_42 : decode cX0_readNumber 42 = .ok (.isub, 1) := by decide +kernel
theorem dX0_readNumber_43 : decode cX0_readNumber 43 = .ok (.istore_n 1, 1) := by decide +kernel
theorem dX0_readNumber_44 : decode cX0_readNumber 44 = .ok (.aload_n 0, 1) := by decide +kernel
theorem dX0_readNumber_45 : decode cX0_readNumber 45 = .ok (.dup, 1) := by decide +kernel
theorem dX0_readNumber_46 : decode cX0_readNumber 46 = .ok (.getfield 28, 3) := by decide +kernel
theorem dX0_readNumber_49 : decode cX0_readNumber 49 = .ok (.iconst 1, 1) := by decide +kernel
theorem dX0_readNumber_50 : decode cX0_readNumber 50 = .ok (.iadd, 1) := by decide +kernel
theorem dX0_readNumber_51 : decode cX0_readNumber 51 = .ok (.putfield 28, 3) := by decide +kernel
theorem dX0_readNumber_54 : decode cX0_readNumber 54 = .ok (.iinc 2 1, 3) := by decide +kernel
theorem dX0_readNumber_57 : decode cX0_readNumber 57 = .ok (.goto (-53), 3) := by decide +kernel
theorem dX0_readNumber_60 : decode cX0_readNumber 60 = .ok (.iload_n 1, 1) := by decide +kernel
theorem dX0_readNumber_61 : decode cX0_readNumber 61 = .ok (.ireturn, 1) := by decide +kernel
theorem dX0_readSteps_0 : decode cX0_readSteps 0 = .ok (.iconst 0, 1) := by decide +kernel
theorem dX0_readSteps_1 : decode cX0_readSteps 1 = .ok (.istore_n 2, 1) := by decide +kernel
theorem dX0_readSteps_2 : decode cX0_readSteps 2 = .ok (.iload_n 2, 1) := by decide +kernel
theorem dX0_readSteps_3 : decode cX0_readSteps 3 = .ok (.bipush 8, 2) := by decide +kernel
theorem dX0_readSteps_5 : decode cX0_readSteps 5 = .ok (.if_icmp .ge 44, 3) := by decide +kernel
theorem dX0_readSteps_8 : decode cX0_readSteps 8 = .ok (.aload_n 0, 1) := by decide +kernel
theorem dX0_readSteps_9 : decode cX0_readSteps 9 = .ok (.invokevirtual 35, 3) := by decide +kernel
theorem dX0_readSteps_12 : decode cX0_readSteps 12 = .ok (.bipush 59, 2) := by decide +kernel
theorem dX0_readSteps_14 : decode cX0_readSteps 14 = .ok (.if_icmp .eq 35, 3) := by decide +kernel
theorem dX0_readSteps_17 : decode cX0_readSteps 17 = .ok (.aload_n 1, 1) := by decide +kernel
theorem dX0_readSteps_18 : decode cX0_readSteps 18 = .ok (.aload_n 0, 1) := by decide +kernel
theorem dX0_readSteps_19 : decode cX0_readSteps 19 = .ok (.invokevirtual 35, 3) := by decide +kernel
theorem dX0_readSteps_22 : decode cX0_readSteps 22 = .ok (.bipush 48, 2) := by decide +kernel
theorem dX0_readSteps_24 : decode cX0_readSteps 24 = .ok (.isub, 1) := by decide +kernel
theorem dX0_readSteps_25 : decode cX0_readSteps 25 = .ok (.invokevirtual 83, 3) := by decide +kernel
theorem dX0_readSteps_28 : decode cX0_readSteps 28 = .ok (.ifCond .ne 5, 3) := by decide +kernel
theorem dX0_readSteps_31 : decode cX0_readSteps 31 = .ok (.iconst 0, 1) := by decide +kernel
theorem dX0_readSteps_32 : decode cX0_readSteps 32 = .ok (.ireturn, 1) := by decide +kernel
theorem dX0_readSteps_33 : decode cX0_readSteps 33 = .ok (.aload_n 0, 1) := by decide +kernel
theorem dX0_readSteps_34 : decode cX0_readSteps 34 = .ok (.dup, 1) := by decide +kernel
theorem dX0_readSteps_35 : decode cX0_readSteps 35 = .ok (.getfield 28, 3) := by decide +kernel
theorem dX0_readSteps_38 : decode cX0_readSteps 38 = .ok (.iconst 1, 1) := by decide +kernel
theorem dX0_readSteps_39 : decode cX0_readSteps 39 = .ok (.iadd, 1) := by decide +kernel
theorem dX0_readSteps_40 : decode cX0_readSteps 40 = .ok (.putfield 28, 3) := by decide +kernel
theorem dX0_readSteps_43 : decode cX0_readSteps 43 = .ok (.iinc 2 1, 3) := by decide +kernel
theorem dX0_readSteps_46 : decode cX0_readSteps 46 = .ok (.goto (-44), 3) := by decide +kernel
theorem dX0_readSteps_49 : decode cX0_readSteps 49 = .ok (.aload_n 0, 1) := by decide +kernel
theorem dX0_readSteps_50 : decode cX0_readSteps 50 = .ok (.bipush 59, 2) := by decide +kernel
theorem dX0_readSteps_52 : decode cX0_readSteps 52 = .ok (.invokevirtual 74, 3) := by decide +kernel
theorem dX0_readSteps_55 : decode cX0_readSteps 55 = .ok (.ireturn, 1) := by decide +kernel
theorem dX0_readSign_0 : decode cX0_readSign 0 = .ok (.aload_n 0, 1) := by decide +kernel
theorem dX0_readSign_1 : decode cX0_readSign 1 = .ok (.invokevirtual 35, 3) := by decide +kernel
theorem dX0_readSign_4 : decode cX0_readSign 4 = .ok (.iload_n 1, 1) := by decide +kernel
theorem dX0_readSign_5 : decode cX0_readSign 5 = .ok (.if_icmp .eq 5, 3) := by decide +kernel
theorem dX0_readSign_8 : decode cX0_readSign 8 = .ok (.iconst 0, 1) := by decide +kernel
theorem dX0_readSign_9 : decode cX0_readSign 9 = .ok (.ireturn, 1) := by decide +kernel
theorem dX0_readSign_10 : decode cX0_readSign 10 = .ok (.aload_n 0, 1) := by decide +kernel
theorem dX0_readSign_11 : decode cX0_readSign 11 = .ok (.dup, 1) := by decide +kernel
theorem dX0_readSign_12 : decode cX0_readSign 12 = .ok (.getfield 28, 3) := by decide +kernel
theorem dX0_readSign_15 : decode cX0_readSign 15 = .ok (.iconst 1, 1) := by decide +kernel
theorem dX0_readSign_16 : decode cX0_readSign 16 = .ok (.iadd, 1) := by decide +kernel
theorem dX0_readSign_17 : decode cX0_readSign 17 = .ok (.putfield 28, 3) := by decide +kernel
theorem dX0_readSign_20 : decode cX0_readSign 20 = .ok (.iconst 1, 1) := by decide +kernel
theorem dX0_readSign_21 : decode cX0_readSign 21 = .ok (.ireturn, 1) := by decide +kernel
theorem dX0_next_0 : decode cX0_next 0 = .ok (.aload_n 0, 1) := by decide +kernel
theorem dX0_next_1 : decode cX0_next 1 = .ok (.getfield 28, 3) := by decide +kernel
theorem dX0_next_4 : decode cX0_next 4 = .ok (.ifCond .lt 36, 3) := by decide +kernel
theorem dX0_next_7 : decode cX0_next 7 = .ok (.aload_n 0, 1) := by decide +kernel
theorem dX0_next_8 : decode cX0_next 8 = .ok (.getfield 28, 3) := by decide +kernel
theorem dX0_next_11 : decode cX0_next 11 = .ok (.aload_n 0, 1) := by decide +kernel
theorem dX0_next_12 : decode cX0_next 12 = .ok (.getfield 19, 3) := by decide +kernel
theorem dX0_next_15 : decode cX0_next 15 = .ok (.if_icmp .ge 25, 3) := by decide +kernel
theorem dX0_next_18 : decode cX0_next 18 = .ok (.aload_n 0, 1) := by decide +kernel
theorem dX0_next_19 : decode cX0_next 19 = .ok (.getfield 28, 3) := by decide +kernel
theorem dX0_next_22 : decode cX0_next 22 = .ok (.sipush 300, 3) := by decide +kernel
theorem dX0_next_25 : decode cX0_next 25 = .ok (.if_icmp .ge 15, 3) := by decide +kernel
theorem dX0_next_28 : decode cX0_next 28 = .ok (.aload_n 0, 1) := by decide +kernel
theorem dX0_next_29 : decode cX0_next 29 = .ok (.getfield 9, 3) := by decide +kernel
theorem dX0_next_32 : decode cX0_next 32 = .ok (.aload_n 0, 1) := by decide +kernel
theorem dX0_next_33 : decode cX0_next 33 = .ok (.getfield 28, 3) := by decide +kernel
theorem dX0_next_36 : decode cX0_next 36 = .ok (.baload, 1) := by decide +kernel
theorem dX0_next_37 : decode cX0_next 37 = .ok (.goto 4, 3) := by decide +kernel
theorem dX0_next_40 : decode cX0_next 40 = .ok (.iconst (-1), 1) := by decide +kernel
theorem dX0_next_41 : decode cX0_next 41 = .ok (.ireturn, 1) := by decide +kernel
theorem dX1_init_0 : decode cX1_init 0 = .ok (.aload_n 0, 1) := by decide +kernel
theorem dX1_init_1 : decode cX1_init 1 = .ok (.invokespecial 3, 3) := by decide +kernel
theorem dX1_init_4 : decode cX1_init 4 = .ok (.aload_n 0, 1) := by decide +kernel
theorem dX1_init_5 : decode cX1_init 5 = .ok (.bipush 10, 2) := by decide +kernel
theorem dX1_init_7 : decode cX1_init 7 = .ok (.newarray .int, 2) := by decide +kernel
theorem dX1_init_9 : decode cX1_init 9 = .ok (.putfield 9, 3) := by decide +kernel
theorem dX1_init_12 : decode cX1_init 12 = .ok (.aload_n 0, 1) := by decide +kernel
theorem dX1_init_13 : decode cX1_init 13 = .ok (.iconst 5, 1) := by decide +kernel
theorem dX1_init_14 : decode cX1_init 14 = .ok (.newarray .int, 2) := by decide +kernel
theorem dX1_init_16 : decode cX1_init 16 = .ok (.putfield 15, 3) := by decide +kernel
theorem dX1_init_19 : decode cX1_init 19 = .ok (.return_, 1) := by decide +kernel
theorem dX1_startFrom_0 : decode cX1_startFrom 0 = .ok (.aload_n 0, 1) := by decide +kernel
theorem dX1_startFrom_1 : decode cX1_startFrom 1 = .ok (.iconst 0, 1) := by decide +kernel
theorem dX1_startFrom_2 : decode cX1_startFrom 2 = .ok (.putfield 18, 3) := by decide +kernel
theorem dX1_startFrom_5 : decode cX1_startFrom 5 = .ok (.aload_n 1, 1) := by decide +kernel
theorem dX1_startFrom_6 : decode cX1_startFrom 6 = .ok (.getfield 22, 3) := by decide +kernel
theorem dX1_startFrom_9 : decode cX1_startFrom 9 = .ok (.iconst 0, 1) := by decide +kernel
theorem dX1_startFrom_10 : decode cX1_startFrom 10 = .ok (.aload_n 0, 1) := by decide +kernel
theorem dX1_startFrom_11 : decode cX1_startFrom 11 = .ok (.getfield 9, 3) := by decide +kernel
theorem dX1_startFrom_14 : decode cX1_startFrom 14 = .ok (.iconst 0, 1) := by decide +kernel
theorem dX1_startFrom_15 : decode cX1_startFrom 15 = .ok (.bipush 10, 2) := by decide +kernel
theorem dX1_startFrom_17 : decode cX1_startFrom 17 = .ok (.invokestatic 27, 3) := by decide +kernel
theorem dX1_startFrom_20 : decode cX1_startFrom 20 = .ok (.iconst 0, 1) := by decide +kernel
theorem dX1_startFrom_21 : decode cX1_startFrom 21 = .ok (.istore_n 2, 1) := by decide +kernel
theorem dX1_startFrom_22 : decode cX1_startFrom 22 = .ok (.iload_n 2, 1) := by decide +kernel
theorem dX1_startFrom_23 : decode cX1_startFrom 23 = .ok (.iconst 5, 1) := by decide +kernel
theorem dX1_startFrom_24 : decode cX1_startFrom 24 = .ok (.if_icmp .ge 16, 3) := by decide +kernel
theorem dX1_startFrom_27 : decode cX1_startFrom 27 = .ok (.aload_n 0, 1) := by decide +kernel
theorem dX1_startFrom_28 : decode cX1_startFrom 28 = .ok (.getfield 15, 3) := by decide +kernel
theorem dX1_startFrom_31 : decode cX1_startFrom 31 = .ok (.iload_n 2, 1) := by decide +kernel
theorem dX1_startFrom_32 : decode cX1_startFrom 32 = .ok (.iconst 0, 1) := by decide +kernel
theorem dX1_startFrom_33 : decode cX1_startFrom 33 = .ok (.iastore, 1) := by decide +kernel
theorem dX1_startFrom_34 : decode cX1_startFrom 34 = .ok (.iinc 2 1, 3) := by decide +kernel
theorem dX1_startFrom_37 : decode cX1_startFrom 37 = .ok (.goto (-15), 3) := by decide +kernel
theorem dX1_startFrom_40 : decode cX1_startFrom 40 = .ok (.return_, 1) := by decide +kernel
theorem dX1_copyFrom_0 : decode cX1_copyFrom 0 = .ok (.aload_n 0, 1) := by decide +kernel
theorem dX1_copyFrom_1 : decode cX1_copyFrom 1 = .ok (.aload_n 1, 1) := by decide +kernel
theorem dX1_copyFrom_2 : decode cX1_copyFrom 2 = .ok (.getfield 18, 3) := by decide +kernel
theorem dX1_copyFrom_5 : decode cX1_copyFrom 5 = .ok (.putfield 18, 3) := by decide +kernel
theorem dX1_copyFrom_8 : decode cX1_copyFrom 8 = .ok (.aload_n 1, 1) := by decide +kernel
theorem dX1_copyFrom_9 : decode cX1_copyFrom 9 = .ok (.getfield 9, 3) := by decide +kernel
theorem dX1_copyFrom_12 : decode cX1_copyFrom 12 = .ok (.iconst 0, 1) := by decide +kernel
theorem dX1_copyFrom_13 : decode cX1_copyFrom 13 = .ok (.aload_n 0, 1) := by decide +kernel
theorem dX1_copyFrom_14 : decode cX1_copyFrom 14 = .ok (.getfield 9, 3) := by decide +kernel
theorem dX1_copyFrom_17 : decode cX1_copyFrom 17 = .ok (.iconst 0, 1) := by decide +kernel
theorem dX1_copyFrom_18 : decode cX1_copyFrom 18 = .ok (.bipush 10, 2) := by decide +kernel
theorem dX1_copyFrom_20 : decode cX1_copyFrom 20 = .ok (.invokestatic 27, 3) := by decide +kernel
theorem dX1_copyFrom_23 : decode cX1_copyFrom 23 = .ok (.aload_n 1, 1) := by decide +kernel
theorem dX1_copyFrom_24 : decode cX1_copyFrom 24 = .ok (.getfield 15, 3) := by decide +kernel
theorem dX1_copyFrom_27 : decode cX1_copyFrom 27 = .ok (.iconst 0, 1) := by decide +kernel
theorem dX1_copyFrom_28 : decode cX1_copyFrom 28 = .ok (.aload_n 0, 1) := by decide +kernel
theorem dX1_copyFrom_29 : decode cX1_copyFrom 29 = .ok (.getfield 15, 3) := by decide +kernel
theorem dX1_copyFrom_32 : decode cX1_copyFrom 32 = .ok (.iconst 0, 1) := by decide +kernel
theorem dX1_copyFrom_33 : decode cX1_copyFrom 33 = .ok (.iconst 5, 1) := by decide +kernel
theorem dX1_copyFrom_34 : decode cX1_copyFrom 34 = .ok (.invokestatic 27, 3) := by decide +kernel
theorem dX1_copyFrom_37 : decode cX1_copyFrom 37 = .ok (.return_, 1) := by decide +kernel
theorem dX1_awake_0 : decode cX1_awake 0 = .ok (.aload_n 0, 1) := by decide +kernel
theorem dX1_awake_1 : decode cX1_awake 1 = .ok (.getfield 18, 3) := by decide +kernel
theorem dX1_awake_4 : decode cX1_awake 4 = .ok (.iconst 1, 1) := by decide +kernel
theorem dX1_awake_5 : decode cX1_awake 5 = .ok (.iand, 1) := by decide +kernel
theorem dX1_awake_6 : decode cX1_awake 6 = .ok (.ireturn, 1) := by decide +kernel
theorem dX1_awakeKnows_0 : decode cX1_awakeKnows 0 = .ok (.aload_n 0, 1) := by decide +kernel
theorem dX1_awakeKnows_1 : decode cX1_awakeKnows 1 = .ok (.getfield 9, 3) := by decide +kernel
theorem dX1_awakeKnows_4 : decode cX1_awakeKnows 4 = .ok (.iconst 2, 1) := by decide +kernel
theorem dX1_awakeKnows_5 : decode cX1_awakeKnows 5 = .ok (.iload_n 1, 1) := by decide +kernel
theorem dX1_awakeKnows_6 : decode cX1_awakeKnows 6 = .ok (.imul, 1) := by decide +kernel
theorem dX1_awakeKnows_7 : decode cX1_awakeKnows 7 = .ok (.aload_n 0, 1) := by decide +kernel
theorem dX1_awakeKnows_8 : decode cX1_awakeKnows 8 = .ok (.invokevirtual 33, 3) := by decide +kernel
theorem dX1_awakeKnows_11 : decode cX1_awakeKnows 11 = .ok (.iadd, 1) := by decide +kernel
theorem dX1_awakeKnows_12 : decode cX1_awakeKnows 12 = .ok (.iaload, 1) := by decide +kernel
theorem dX1_awakeKnows_13 : decode cX1_awakeKnows 13 = .ok (.ireturn, 1) := by decide +kernel
theorem dX1_learn_0 : decode cX1_learn 0 = .ok (.aload_n 0, 1) := by decide +kernel
theorem dX1_learn_1 : decode cX1_learn 1 = .ok (.getfield 9, 3) := by decide +kernel
theorem dX1_learn_4 : decode cX1_learn 4 = .ok (.iconst 2, 1) := by decide +kernel
theorem dX1_learn_5 : decode cX1_learn 5 = .ok (.iload_n 1, 1) := by decide +kernel
theorem dX1_learn_6 : decode cX1_learn 6 = .ok (.imul, 1) := by decide +kernel
theorem dX1_learn_7 : decode cX1_learn 7 = .ok (.aload_n 0, 1) := by decide +kernel
theorem dX1_learn_8 : decode cX1_learn 8 = .ok (.invokevirtual 33, 3) := by decide +kernel
theorem dX1_learn_11 : decode cX1_learn 11 = .ok (.iadd, 1) := by decide +kernel
theorem dX1_learn_12 : decode cX1_learn 12 = .ok (.dup2, 1) := by decide +kernel
theorem dX1_learn_13 : decode cX1_learn 13 = .ok (.iaload, 1) := by decide +kernel
theorem dX1_learn_14 : decode cX1_learn 14 = .ok (.iconst 1, 1) := by decide +kernel
theorem dX1_learn_15 : decode cX1_learn 15 = .ok (.iload_n 2, 1) := by decide +kernel
theorem dX1_learn_16 : decode cX1_learn 16 = .ok (.ishl, 1) := by decide +kernel
theorem dX1_learn_17 : decode cX1_learn 17 = .ok (.ior, 1) := by decide +kernel
theorem dX1_learn_18 : decode cX1_learn 18 = .ok (.iastore, 1) := by decide +kernel
theorem dX1_learn_19 : decode cX1_learn 19 = .ok (.return_, 1) := by decide +kernel
theorem dX1_ableTo_0 : decode cX1_ableTo 0 = .ok (.iconst 0, 1) := by decide +kernel
theorem dX1_ableTo_1 : decode cX1_ableTo 1 = .ok (.istore_n 3, 1) := by decide +kernel
theorem dX1_ableTo_2 : decode cX1_ableTo 2 = .ok (.iconst 0, 1) := by decide +kernel
theorem dX1_ableTo_3 : decode cX1_ableTo 3 = .ok (.istore 4, 2) := by decide +kernel
theorem dX1_ableTo_5 : decode cX1_ableTo 5 = .ok (.iload 4, 2) := by decide +kernel
theorem dX1_ableTo_7 : decode cX1_ableTo 7 = .ok (.iload_n 2, 1) := by decide +kernel
theorem dX1_ableTo_8 : decode cX1_ableTo 8 = .ok (.if_icmp .ge 29, 3) := by decide +kernel
theorem dX1_ableTo_11 : decode cX1_ableTo 11 = .ok (.aload_n 0, 1) := by decide +kernel
theorem dX1_ableTo_12 : decode cX1_ableTo 12 = .ok (.iload 4, 2) := by decide +kernel
theorem dX1_ableTo_14 : decode cX1_ableTo 14 = .ok (.invokevirtual 37, 3) := by decide +kernel
theorem dX1_ableTo_17 : decode cX1_ableTo 17 = .ok (.iload_n 1, 1) := by decide +kernel
theorem dX1_ableTo_18 : decode cX1_ableTo 18 = .ok (.invokestatic 41, 3) := by decide +kernel
theorem dX1_ableTo_21 : decode cX1_ableTo 21 = .ok (.ifCond .eq 10, 3) := by decide +kernel
theorem dX1_ableTo_24 : decode cX1_ableTo 24 = .ok (.iload_n 3, 1) := by decide +kernel
theorem dX1_ableTo_25 : decode cX1_ableTo 25 = .ok (.iconst 1, 1) := by decide +kernel
theorem dX1_ableTo_26 : decode cX1_ableTo 26 = .ok (.iload 4, 2) := by decide +kernel
theorem dX1_ableTo_28 : decode cX1_ableTo 28 = .ok (.ishl, 1) := by decide +kernel
theorem dX1_ableTo_29 : decode cX1_ableTo 29 = .ok (.ior, 1) := by decide +kernel
theorem dX1_ableTo_30 : decode cX1_ableTo 30 = .ok (.istore_n 3, 1) := by decide +kernel
theorem dX1_ableTo_31 : decode cX1_ableTo 31 = .ok (.iinc 4 1, 3) := by decide +kernel
theorem dX1_ableTo_34 : decode cX1_ableTo 34 = .ok (.goto (-29), 3) := by decide +kernel
theorem dX1_ableTo_37 : decode cX1_ableTo 37 = .ok (.iload_n 3, 1) := by decide +kernel
theorem dX1_ableTo_38 : decode cX1_ableTo 38 = .ok (.ireturn, 1) := by decide +kernel
theorem dX1_endShifts_0 : decode cX1_endShifts 0 = .ok (.iconst 0, 1) := by decide +kernel
theorem dX1_endShifts_1 : decode cX1_endShifts 1 = .ok (.istore_n 3, 1) := by decide +kernel
theorem dX1_endShifts_2 : decode cX1_endShifts 2 = .ok (.iload_n 3, 1) := by decide +kernel
theorem dX1_endShifts_3 : decode cX1_endShifts 3 = .ok (.iload_n 2, 1) := by decide +kernel
theorem dX1_endShifts_4 : decode cX1_endShifts 4 = .ok (.if_icmp .ge 53, 3) := by decide +kernel
theorem dX1_endShifts_7 : decode cX1_endShifts 7 = .ok (.iconst 0, 1) := by decide +kernel
theorem dX1_endShifts_8 : decode cX1_endShifts 8 = .ok (.istore 4, 2) := by decide +kernel
theorem dX1_endShifts_10 : decode cX1_endShifts 10 = .ok (.iload 4, 2) := by decide +kernel
theorem dX1_endShifts_12 : decode cX1_endShifts 12 = .ok (.aload_n 1, 1) := by decide +kernel
theorem dX1_endShifts_13 : decode cX1_endShifts 13 = .ok (.getfield 45, 3) := by decide +kernel
theorem dX1_endShifts_16 : decode cX1_endShifts 16 = .ok (.if_icmp .ge 25, 3) := by decide +kernel
theorem dX1_endShifts_19 : decode cX1_endShifts 19 = .ok (.aload_n 0, 1) := by decide +kernel
theorem dX1_endShifts_20 : decode cX1_endShifts 20 = .ok (.iload 4, 2) := by decide +kernel
theorem dX1_endShifts_22 : decode cX1_endShifts 22 = .ok (.aload_n 1, 1) := by decide +kernel
theorem dX1_endShifts_23 : decode cX1_endShifts 23 = .ok (.getfield 48, 3) := by decide +kernel
theorem dX1_endShifts_26 : decode cX1_endShifts 26 = .ok (.invokevirtual 51, 3) := by decide +kernel
theorem dX1_endShifts_29 : decode cX1_endShifts 29 = .ok (.aload_n 0, 1) := by decide +kernel
theorem dX1_endShifts_30 : decode cX1_endShifts 30 = .ok (.iload 4, 2) := by decide +kernel
theorem dX1_endShifts_32 : decode cX1_endShifts 32 = .ok (.invokevirtual 55, 3) := by decide +kernel
theorem dX1_endShifts_35 : decode cX1_endShifts 35 = .ok (.iinc 4 1, 3) := by decide +kernel
theorem dX1_endShifts_38 : decode cX1_endShifts 38 = .ok (.goto (-28), 3) := by decide +kernel
theorem dX1_endShifts_41 : decode cX1_endShifts 41 = .ok (.aload_n 0, 1) := by decide +kernel
theorem dX1_endShifts_42 : decode cX1_endShifts 42 = .ok (.dup, 1) := by decide +kernel
theorem dX1_endShifts_43 : decode cX1_endShifts 43 = .ok (.getfield 18, 3) := by decide +kernel
theorem dX1_endShifts_46 : decode cX1_endShifts 46 = .ok (.iconst 1, 1) := by decide +kernel
theorem dX1_endShifts_47 : decode cX1_endShifts 47 = .ok (.iadd, 1) := by decide +kernel
theorem dX1_endShifts_48 : decode cX1_endShifts 48 = .ok (.putfield 18, 3) := by decide +kernel
theorem dX1_endShifts_51 : decode cX1_endShifts 51 = .ok (.iinc 3 1, 3) := by decide +kernel
theorem dX1_endShifts_54 : decode cX1_endShifts 54 = .ok (.goto (-52), 3) := by decide +kernel
theorem dX1_endShifts_57 : decode cX1_endShifts 57 = .ok (.return_, 1) := by decide +kernel
theorem dX1_tellOneAnother_0 : decode cX1_tellOneAnother 0 = .ok (.aload_n 0, 1) := by decide +kernel
theorem dX1_tellOneAnother_1 : decode cX1_tellOneAnother 1 = .ok (.getfield 9, 3) := by decide +kernel
theorem dX1_tellOneAnother_4 : decode cX1_tellOneAnother 4 = .ok (.iconst 2, 1) := by decide +kernel
theorem dX1_tellOneAnother_5 : decode cX1_tellOneAnother 5 = .ok (.iload_n 1, 1) := by decide +kernel
theorem dX1_tellOneAnother_6 : decode cX1_tellOneAnother 6 = .ok (.imul, 1) := by decide +kernel
theorem dX1_tellOneAnother_7 : decode cX1_tellOneAnother 7 = .ok (.iaload, 1) := by decide +kernel
theorem dX1_tellOneAnother_8 : decode cX1_tellOneAnother 8 = .ok (.istore_n 3, 1) := by decide +kernel
theorem dX1_tellOneAnother_9 : decode cX1_tellOneAnother 9 = .ok (.aload_n 0, 1) := by decide +kernel
theorem dX1_tellOneAnother_10 : decode cX1_tellOneAnother 10 = .ok (.getfield 9, 3) := by decide +kernel
theorem dX1_tellOneAnother_13 : decode cX1_tellOneAnother 13 = .ok (.iconst 2, 1) := by decide +kernel
theorem dX1_tellOneAnother_14 : decode cX1_tellOneAnother 14 = .ok (.iload_n 1, 1) := by decide +kernel
theorem dX1_tellOneAnother_15 : decode cX1_tellOneAnother 15 = .ok (.imul, 1) := by decide +kernel
theorem dX1_tellOneAnother_16 : decode cX1_tellOneAnother 16 = .ok (.iconst 1, 1) := by decide +kernel
theorem dX1_tellOneAnother_17 : decode cX1_tellOneAnother 17 = .ok (.iadd, 1) := by decide +kernel
theorem dX1_tellOneAnother_18 : decode cX1_tellOneAnother 18 = .ok (.iaload, 1) := by decide +kernel
theorem dX1_tellOneAnother_19 : decode cX1_tellOneAnother 19 = .ok (.istore 4, 2) := by decide +kernel
theorem dX1_tellOneAnother_21 : decode cX1_tellOneAnother 21 = .ok (.aload_n 0, 1) := by decide +kernel
theorem dX1_tellOneAnother_22 : decode cX1_tellOneAnother 22 = .ok (.getfield 9, 3) := by decide +kernel
theorem dX1_tellOneAnother_25 : decode cX1_tellOneAnother 25 = .ok (.iconst 2, 1) := by decide +kernel
theorem dX1_tellOneAnother_26 : decode cX1_tellOneAnother 26 = .ok (.iload_n 1, 1) := by decide +kernel
theorem dX1_tellOneAnother_27 : decode cX1_tellOneAnother 27 = .ok (.imul, 1) := by decide +kernel
theorem dX1_tellOneAnother_28 : decode cX1_tellOneAnother 28 = .ok (.iload_n 3, 1) := by decide +kernel
theorem dX1_tellOneAnother_29 : decode cX1_tellOneAnother 29 = .ok (.iload 4, 2) := by decide +kernel
theorem dX1_tellOneAnother_31 : decode cX1_tellOneAnother 31 = .ok (.iload_n 3, 1) := by decide +kernel
theorem dX1_tellOneAnother_32 : decode cX1_tellOneAnother 32 = .ok (.iconst (-1), 1) := by decide +kernel
theorem dX1_tellOneAnother_33 : decode cX1_tellOneAnother 33 = .ok (.ixor, 1) := by decide +kernel
theorem dX1_tellOneAnother_34 : decode cX1_tellOneAnother 34 = .ok (.iand, 1) := by decide +kernel
theorem dX1_tellOneAnother_35 : decode cX1_tellOneAnother 35 = .ok (.iload_n 2, 1) := by decide +kernel
theorem dX1_tellOneAnother_36 : decode cX1_tellOneAnother 36 = .ok (.invokestatic 59, 3) := by decide +kernel
theorem dX1_tellOneAnother_39 : decode cX1_tellOneAnother 39 = .ok (.ior, 1) := by decide +kernel
theorem dX1_tellOneAnother_40 : decode cX1_tellOneAnother 40 = .ok (.iastore, 1) := by decide +kernel
theorem dX1_tellOneAnother_41 : decode cX1_tellOneAnother 41 = .ok (.aload_n 0, 1) := by decide +kernel
theorem dX1_tellOneAnother_42 : decode cX1_tellOneAnother 42 = .ok (.getfield 9, 3) := by decide +kernel
theorem dX1_tellOneAnother_45 : decode cX1_tellOneAnother 45 = .ok (.iconst 2, 1) := by decide +kernel
theorem dX1_tellOneAnother_46 : decode cX1_tellOneAnother 46 = .ok (.iload_n 1, 1) := by decide +kernel
theorem dX1_tellOneAnother_47 : decode cX1_tellOneAnother 47 = .ok (.imul, 1) := by decide +kernel
theorem dX1_tellOneAnother_48 : decode cX1_tellOneAnother 48 = .ok (.iconst 1, 1) := by decide +kernel
theorem dX1_tellOneAnother_49 : decode cX1_tellOneAnother 49 = .ok (.iadd, 1) := by decide +kernel
theorem dX1_tellOneAnother_50 : decode cX1_tellOneAnother 50 = .ok (.iload 4, 2) := by decide +kernel
theorem dX1_tellOneAnother_52 : decode cX1_tellOneAnother 52 = .ok (.iload_n 3, 1) := by decide +kernel
theorem dX1_tellOneAnother_53 : decode cX1_tellOneAnother 53 = .ok (.iload 4, 2) := by decide +kernel
theorem dX1_tellOneAnother_55 : decode cX1_tellOneAnother 55 = .ok (.iconst (-1), 1) := by decide +kernel
theorem dX1_tellOneAnother_56 : decode cX1_tellOneAnother 56 = .ok (.ixor, 1) := by decide +kernel
theorem dX1_tellOneAnother_57 : decode cX1_tellOneAnother 57 = .ok (.iand, 1) := by decide +kernel
theorem dX1_tellOneAnother_58 : decode cX1_tellOneAnother 58 = .ok (.iload_n 2, 1) := by decide +kernel
theorem dX1_tellOneAnother_59 : decode cX1_tellOneAnother 59 = .ok (.invokestatic 59, 3) := by decide +kernel
theorem dX1_tellOneAnother_62 : decode cX1_tellOneAnother 62 = .ok (.ior, 1) := by decide +kernel
theorem dX1_tellOneAnother_63 : decode cX1_tellOneAnother 63 = .ok (.iastore, 1) := by decide +kernel
theorem dX1_tellOneAnother_64 : decode cX1_tellOneAnother 64 = .ok (.return_, 1) := by decide +kernel
theorem dX1_readNotes_0 : decode cX1_readNotes 0 = .ok (.aload_n 0, 1) := by decide +kernel
theorem dX1_readNotes_1 : decode cX1_readNotes 1 = .ok (.getfield 9, 3) := by decide +kernel
theorem dX1_readNotes_4 : decode cX1_readNotes 4 = .ok (.iconst 2, 1) := by decide +kernel
theorem dX1_readNotes_5 : decode cX1_readNotes 5 = .ok (.iload_n 1, 1) := by decide +kernel
theorem dX1_readNotes_6 : decode cX1_readNotes 6 = .ok (.imul, 1) := by decide +kernel
theorem dX1_readNotes_7 : decode cX1_readNotes 7 = .ok (.iconst 1, 1) := by decide +kernel
theorem dX1_readNotes_8 : decode cX1_readNotes 8 = .ok (.iadd, 1) := by decide +kernel
theorem dX1_readNotes_9 : decode cX1_readNotes 9 = .ok (.aload_n 0, 1) := by decide +kernel
theorem dX1_readNotes_10 : decode cX1_readNotes 10 = .ok (.invokevirtual 33, 3) := by decide +kernel
theorem dX1_readNotes_13 : decode cX1_readNotes 13 = .ok (.isub, 1) := by decide +kernel
theorem dX1_readNotes_14 : decode cX1_readNotes 14 = .ok (.dup2, 1) := by decide +kernel
theorem dX1_readNotes_15 : decode cX1_readNotes 15 = .ok (.iaload, 1) := by decide +kernel
theorem dX1_readNotes_16 : decode cX1_readNotes 16 = .ok (.aload_n 0, 1) := by decide +kernel
theorem dX1_readNotes_17 : decode cX1_readNotes 17 = .ok (.getfield 15, 3) := by decide +kernel
theorem dX1_readNotes_20 : decode cX1_readNotes 20 = .ok (.iload_n 1, 1) := by decide +kernel
theorem dX1_readNotes_21 : decode cX1_readNotes 21 = .ok (.iaload, 1) := by decide +kernel
theorem dX1_readNotes_22 : decode cX1_readNotes 22 = .ok (.ior, 1) := by decide +kernel
theorem dX1_readNotes_23 : decode cX1_readNotes 23 = .ok (.iastore, 1) := by decide +kernel
theorem dX1_readNotes_24 : decode cX1_readNotes 24 = .ok (.aload_n 0, 1) := by decide +kernel
theorem dX1_readNotes_25 : decode cX1_readNotes 25 = .ok (.getfield 15, 3) := by decide +kernel
theorem dX1_readNotes_28 : decode cX1_readNotes 28 = .ok (.iload_n 1, 1) := by decide +kernel
theorem dX1_readNotes_29 : decode cX1_readNotes 29 = .ok (.iconst 0, 1) := by decide +kernel
theorem dX1_readNotes_30 : decode cX1_readNotes 30 = .ok (.iastore, 1) := by decide +kernel
theorem dX1_readNotes_31 : decode cX1_readNotes 31 = .ok (.return_, 1) := by decide +kernel
theorem dX1_lowest_0 : decode cX1_lowest 0 = .ok (.iload_n 0, 1) := by decide +kernel
theorem dX1_lowest_1 : decode cX1_lowest 1 = .ok (.istore_n 2, 1) := by decide +kernel
theorem dX1_lowest_2 : decode cX1_lowest 2 = .ok (.iconst 0, 1) := by decide +kernel
theorem dX1_lowest_3 : decode cX1_lowest 3 = .ok (.istore_n 3, 1) := by decide +kernel
theorem dX1_lowest_4 : decode cX1_lowest 4 = .ok (.iload_n 3, 1) := by decide +kernel
theorem dX1_lowest_5 : decode cX1_lowest 5 = .ok (.iload_n 1, 1) := by decide +kernel
theorem dX1_lowest_6 : decode cX1_lowest 6 = .ok (.if_icmp .ge 19, 3) := by decide +kernel
theorem dX1_lowest_9 : decode cX1_lowest 9 = .ok (.iload_n 2, 1) := by decide +kernel
theorem dX1_lowest_10 : decode cX1_lowest 10 = .ok (.ifCond .eq 15, 3) := by decide +kernel
theorem dX1_lowest_13 : decode cX1_lowest 13 = .ok (.iload_n 2, 1) := by decide +kernel
theorem dX1_lowest_14 : decode cX1_lowest 14 = .ok (.iload_n 2, 1) := by decide +kernel
theorem dX1_lowest_15 : decode cX1_lowest 15 = .ok (.iconst 1, 1) := by decide +kernel
theorem dX1_lowest_16 : decode cX1_lowest 16 = .ok (.isub, 1) := by decide +kernel
theorem dX1_lowest_17 : decode cX1_lowest 17 = .ok (.iand, 1) := by decide +kernel
theorem dX1_lowest_18 : decode cX1_lowest 18 = .ok (.istore_n 2, 1) := by decide +kernel
theorem dX1_lowest_19 : decode cX1_lowest 19 = .ok (.iinc 3 1, 3) := by decide +kernel
theorem dX1_lowest_22 : decode cX1_lowest 22 = .ok (.goto (-18), 3) := by decide +kernel
theorem dX1_lowest_25 : decode cX1_lowest 25 = .ok (.iload_n 0, 1) := by decide +kernel
theorem dX1_lowest_26 : decode cX1_lowest 26 = .ok (.iload_n 2, 1) := by decide +kernel
theorem dX1_lowest_27 : decode cX1_lowest 27 = .ok (.iconst (-1), 1) := by decide +kernel
theorem dX1_lowest_28 : decode cX1_lowest 28 = .ok (.ixor, 1) := by decide +kernel
theorem dX1_lowest_29 : decode cX1_lowest 29 = .ok (.iand, 1) := by decide +kernel
theorem dX1_lowest_30 : decode cX1_lowest 30 = .ok (.ireturn, 1) := by decide +kernel
theorem dX2_init_0 : decode cX2_init 0 = .ok (.aload_n 0, 1) := by decide +kernel
theorem dX2_init_1 : decode cX2_init 1 = .ok (.invokespecial 3, 3) := by decide +kernel
theorem dX2_init_4 : decode cX2_init 4 = .ok (.aload_n 0, 1) := by decide +kernel
theorem dX2_init_5 : decode cX2_init 5 = .ok (.bipush 10, 2) := by decide +kernel
theorem dX2_init_7 : decode cX2_init 7 = .ok (.newarray .int, 2) := by decide +kernel
theorem dX2_init_9 : decode cX2_init 9 = .ok (.putfield 9, 3) := by decide +kernel
theorem dX2_init_12 : decode cX2_init 12 = .ok (.aload_n 0, 1) := by decide +kernel
theorem dX2_init_13 : decode cX2_init 13 = .ok (.bipush 10, 2) := by decide +kernel
theorem dX2_init_15 : decode cX2_init 15 = .ok (.newarray .int, 2) := by decide +kernel
theorem dX2_init_17 : decode cX2_init 17 = .ok (.putfield 15, 3) := by decide +kernel
theorem dX2_init_20 : decode cX2_init 20 = .ok (.aload_n 0, 1) := by decide +kernel
theorem dX2_init_21 : decode cX2_init 21 = .ok (.bipush 32, 2) := by decide +kernel
theorem dX2_init_23 : decode cX2_init 23 = .ok (.newarray .int, 2) := by decide +kernel
theorem dX2_init_25 : decode cX2_init 25 = .ok (.putfield 18, 3) := by decide +kernel
theorem dX2_init_28 : decode cX2_init 28 = .ok (.aload_n 0, 1) := by decide +kernel
theorem dX2_init_29 : decode cX2_init 29 = .ok (.iconst 4, 1) := by decide +kernel
theorem dX2_init_30 : decode cX2_init 30 = .ok (.newarray .int, 2) := by decide +kernel
theorem dX2_init_32 : decode cX2_init 32 = .ok (.putfield 21, 3) := by decide +kernel
theorem dX2_init_35 : decode cX2_init 35 = .ok (.aload_n 0, 1) := by decide +kernel
theorem dX2_init_36 : decode cX2_init 36 = .ok (.bipush 16, 2) := by decide +kernel
theorem dX2_init_38 : decode cX2_init 38 = .ok (.newarray .int, 2) := by decide +kernel
theorem dX2_init_40 : decode cX2_init 40 = .ok (.putfield 24, 3) := by decide +kernel
theorem dX2_init_43 : decode cX2_init 43 = .ok (.aload_n 0, 1) := by decide +kernel
theorem dX2_init_44 : decode cX2_init 44 = .ok (.invokevirtual 27, 3) := by decide +kernel
theorem dX2_init_47 : decode cX2_init 47 = .ok (.return_, 1) := by decide +kernel
theorem dX2_empty_0 : decode cX2_empty 0 = .ok (.aload_n 0, 1) := by decide +kernel
theorem dX2_empty_1 : decode cX2_empty 1 = .ok (.iconst 0, 1) := by decide +kernel
theorem dX2_empty_2 : decode cX2_empty 2 = .ok (.putfield 30, 3) := by decide +kernel
theorem dX2_empty_5 : decode cX2_empty 5 = .ok (.aload_n 0, 1) := by decide +kernel
theorem dX2_empty_6 : decode cX2_empty 6 = .ok (.iconst 0, 1) := by decide +kernel
theorem dX2_empty_7 : decode cX2_empty 7 = .ok (.putfield 34, 3) := by decide +kernel
theorem dX2_empty_10 : decode cX2_empty 10 = .ok (.aload_n 0, 1) := by decide +kernel
theorem dX2_empty_11 : decode cX2_empty 11 = .ok (.iconst 0, 1) := by decide +kernel
theorem dX2_empty_12 : decode cX2_empty 12 = .ok (.putfield 37, 3) := by decide +kernel
theorem dX2_empty_15 : decode cX2_empty 15 = .ok (.aload_n 0, 1) := by decide +kernel
theorem dX2_empty_16 : decode cX2_empty 16 = .ok (.iconst 0, 1) := by decide +kernel
theorem dX2_empty_17 : decode cX2_empty 17 = .ok (.putfield 40, 3) := by decide +kernel
theorem dX2_empty_20 : decode cX2_empty 20 = .ok (.aload_n 0, 1) := by decide +kernel
theorem dX2_empty_21 : decode cX2_empty 21 = .ok (.iconst 3, 1) := by decide +kernel
theorem dX2_empty_22 : decode cX2_empty 22 = .ok (.putfield 43, 3) := by decide +kernel
theorem dX2_empty_25 : decode cX2_empty 25 = .ok (.aload_n 0, 1) := by decide +kernel
theorem dX2_empty_26 : decode cX2_empty 26 = .ok (.iconst 2, 1) := by decide +kernel
theorem dX2_empty_27 : decode cX2_empty 27 = .ok (.putfield 46, 3) := by decide +kernel
theorem dX2_empty_30 : decode cX2_empty 30 = .ok (.aload_n 0, 1) := by decide +kernel
theorem dX2_empty_31 : decode cX2_empty 31 = .ok (.bipush 9, 2) := by decide +kernel
theorem dX2_empty_33 : decode cX2_empty 33 = .ok (.putfield 49, 3) := by decide +kernel
theorem dX2_empty_36 : decode cX2_empty 36 = .ok (.aload_n 0, 1) := by decide +kernel
theorem dX2_empty_37 : decode cX2_empty 37 = .ok (.iconst 1, 1) := by decide +kernel
theorem dX2_empty_38 : decode cX2_empty 38 = .ok (.putfield 52, 3) := by decide +kernel
theorem dX2_empty_41 : decode cX2_empty 41 = .ok (.aload_n 0, 1) := by decide +kernel
theorem dX2_empty_42 : decode cX2_empty 42 = .ok (.iconst 1, 1) := by decide +kernel
theorem dX2_empty_43 : decode cX2_empty 43 = .ok (.putfield 55, 3) := by decide +kernel
theorem dX2_empty_46 : decode cX2_empty 46 = .ok (.return_, 1) := by decide +kernel
theorem dX2_addPerson_0 : decode cX2_addPerson 0 = .ok (.aload_n 0, 1) := by decide +kernel
theorem dX2_addPerson_1 : decode cX2_addPerson 1 = .ok (.getfield 30, 3) := by decide +kernel
theorem dX2_addPerson_4 : decode cX2_addPerson 4 = .ok (.iconst 5, 1) := by decide +kernel
theorem dX2_addPerson_5 : decode cX2_addPerson 5 = .ok (.if_icmp .ge 23, 3) := by decide +kernel
theorem dX2_addPerson_8 : decode cX2_addPerson 8 = .ok (.iload_n 1, 1) := by decide +kernel
theorem dX2_addPerson_9 : decode cX2_addPerson 9 = .ok (.ifCond .lt 19, 3) := by decide +kernel
theorem dX2_addPerson_12 : decode cX2_addPerson 12 = .ok (.iload_n 1, 1) := by decide +kernel
theorem dX2_addPerson_13 : decode cX2_addPerson 13 = .ok (.bipush 63, 2) := by decide +kernel
theorem dX2_addPerson_15 : decode cX2_addPerson 15 = .ok (.if_icmp .gt 13, 3) := by decide +kernel
theorem dX2_addPerson_18 : decode cX2_addPerson 18 = .ok (.iload_n 2, 1) := by decide +kernel
theorem dX2_addPerson_19 : decode cX2_addPerson 19 = .ok (.ifCond .lt 9, 3) := by decide +kernel
theorem dX2_addPerson_22 : decode cX2_addPerson 22 = .ok (.iload_n 2, 1) := by decide +kernel
theorem dX2_addPerson_23 : decode cX2_addPerson 23 = .ok (.bipush 63, 2) := by decide +kernel
theorem dX2_addPerson_25 : decode cX2_addPerson 25 = .ok (.if_icmp .le 5, 3) := by decide +kernel
theorem dX2_addPerson_28 : decode cX2_addPerson 28 = .ok (.iconst 0, 1) := by decide +kernel
theorem dX2_addPerson_29 : decode cX2_addPerson 29 = .ok (.ireturn, 1) := by decide +kernel
theorem dX2_addPerson_30 : decode cX2_addPerson 30 = .ok (.aload_n 0, 1) := by decide +kernel
theorem dX2_addPerson_31 : decode cX2_addPerson 31 = .ok (.getfield 9, 3) := by decide +kernel
theorem dX2_addPerson_34 : decode cX2_addPerson 34 = .ok (.iconst 2, 1) := by decide +kernel
theorem dX2_addPerson_35 : decode cX2_addPerson 35 = .ok (.aload_n 0, 1) := by decide +kernel
theorem dX2_addPerson_36 : decode cX2_addPerson 36 = .ok (.getfield 30, 3) := by decide +kernel
theorem dX2_addPerson_39 : decode cX2_addPerson 39 = .ok (.imul, 1) := by decide +kernel
theorem dX2_addPerson_40 : decode cX2_addPerson 40 = .ok (.iload_n 1, 1) := by decide +kernel
theorem dX2_addPerson_41 : decode cX2_addPerson 41 = .ok (.iastore, 1) := by decide +kernel
theorem dX2_addPerson_42 : decode cX2_addPerson 42 = .ok (.aload_n 0, 1) := by decide +kernel
theorem dX2_addPerson_43 : decode cX2_addPerson 43 = .ok (.getfield 9, 3) := by decide +kernel
theorem dX2_addPerson_46 : decode cX2_addPerson 46 = .ok (.iconst 2, 1) := by decide +kernel
theorem dX2_addPerson_47 : decode cX2_addPerson 47 = .ok (.aload_n 0, 1) := by decide +kernel
theorem dX2_addPerson_48 : decode cX2_addPerson 48 = .ok (.getfield 30, 3) := by decide +kernel
theorem dX2_addPerson_51 : decode cX2_addPerson 51 = .ok (.imul, 1) := by decide +kernel
theorem dX2_addPerson_52 : decode cX2_addPerson 52 = .ok (.iconst 1, 1) := by decide +kernel
theorem dX2_addPerson_53 : decode cX2_addPerson 53 = .ok (.iadd, 1) := by decide +kernel
theorem dX2_addPerson_54 : decode cX2_addPerson 54 = .ok (.iload_n 2, 1) := by decide +kernel
theorem dX2_addPerson_55 : decode cX2_addPerson 55 = .ok (.iastore, 1) := by decide +kernel
theorem dX2_addPerson_56 : decode cX2_addPerson 56 = .ok (.aload_n 0, 1) := by decide +kernel
theorem dX2_addPerson_57 : decode cX2_addPerson 57 = .ok (.getfield 15, 3) := by decide +kernel
theorem dX2_addPerson_60 : decode cX2_addPerson 60 = .ok (.iconst 2, 1) := by decide +kernel
theorem dX2_addPerson_61 : decode cX2_addPerson 61 = .ok (.aload_n 0, 1) := by decide +kernel
theorem dX2_addPerson_62 : decode cX2_addPerson 62 = .ok (.getfield 30, 3) := by decide +kernel
theorem dX2_addPerson_65 : decode cX2_addPerson 65 = .ok (.imul, 1) := by decide +kernel
theorem dX2_addPerson_66 : decode cX2_addPerson 66 = .ok (.iconst 0, 1) := by decide +kernel
theorem dX2_addPerson_67 : decode cX2_addPerson 67 = .ok (.iastore, 1) := by decide +kernel
theorem dX2_addPerson_68 : decode cX2_addPerson 68 = .ok (.aload_n 0, 1) := by decide +kernel
theorem dX2_addPerson_69 : decode cX2_addPerson 69 = .ok (.getfield 15, 3) := by decide +kernel
theorem dX2_addPerson_72 : decode cX2_addPerson 72 = .ok (.iconst 2, 1) := by decide +kernel
theorem dX2_addPerson_73 : decode cX2_addPerson 73 = .ok (.aload_n 0, 1) := by decide +kernel
theorem dX2_addPerson_74 : decode cX2_addPerson 74 = .ok (.getfield 30, 3) := by decide +kernel
theorem dX2_addPerson_77 : decode cX2_addPerson 77 = .ok (.imul, 1) := by decide +kernel
theorem dX2_addPerson_78 : decode cX2_addPerson 78 = .ok (.iconst 1, 1) := by decide +kernel
theorem dX2_addPerson_79 : decode cX2_addPerson 79 = .ok (.iadd, 1) := by decide +kernel
theorem dX2_addPerson_80 : decode cX2_addPerson 80 = .ok (.iconst 0, 1) := by decide +kernel
theorem dX2_addPerson_81 : decode cX2_addPerson 81 = .ok (.iastore, 1) := by decide +kernel
theorem dX2_addPerson_82 : decode cX2_addPerson 82 = .ok (.aload_n 0, 1) := by decide +kernel
theorem dX2_addPerson_83 : decode cX2_addPerson 83 = .ok (.dup, 1) := by decide +kernel
theorem dX2_addPerson_84 : decode cX2_addPerson 84 = .ok (.getfield 30, 3) := by decide +kernel
theorem dX2_addPerson_87 : decode cX2_addPerson 87 = .ok (.iconst 1, 1) := by decide +kernel
theorem dX2_addPerson_88 : decode cX2_addPerson 88 = .ok (.iadd, 1) := by decide +kernel
theorem dX2_addPerson_89 : decode cX2_addPerson 89 = .ok (.putfield 30, 3) := by decide +kernel
theorem dX2_addPerson_92 : decode cX2_addPerson 92 = .ok (.iconst 1, 1) := by decide +kernel
theorem dX2_addPerson_93 : decode cX2_addPerson 93 = .ok (.ireturn, 1) := by decide +kernel
theorem dX2_addStep_0 : decode cX2_addStep 0 = .ok (.aload_n 0, 1) := by decide +kernel
theorem dX2_addStep_1 : decode cX2_addStep 1 = .ok (.getfield 34, 3) := by decide +kernel
theorem dX2_addStep_4 : decode cX2_addStep 4 = .ok (.iconst 4, 1) := by decide +kernel
theorem dX2_addStep_5 : decode cX2_addStep 5 = .ok (.if_icmp .ge 21, 3) := by decide +kernel
theorem dX2_addStep_8 : decode cX2_addStep 8 = .ok (.aload_n 0, 1) := by decide +kernel
theorem dX2_addStep_9 : decode cX2_addStep 9 = .ok (.getfield 37, 3) := by decide +kernel
theorem dX2_addStep_12 : decode cX2_addStep 12 = .ok (.bipush 8, 2) := by decide +kernel
theorem dX2_addStep_14 : decode cX2_addStep 14 = .ok (.if_icmp .ge 12, 3) := by decide +kernel
theorem dX2_addStep_17 : decode cX2_addStep 17 = .ok (.iload_n 1, 1) := by decide +kernel
theorem dX2_addStep_18 : decode cX2_addStep 18 = .ok (.ifCond .lt 8, 3) := by decide +kernel
theorem dX2_addStep_21 : decode cX2_addStep 21 = .ok (.iload_n 1, 1) := by decide +kernel
theorem dX2_addStep_22 : decode cX2_addStep 22 = .ok (.iconst 5, 1) := by decide +kernel
theorem dX2_addStep_23 : decode cX2_addStep 23 = .ok (.if_icmp .le 5, 3) := by decide +kernel
theorem dX2_addStep_26 : decode cX2_addStep 26 = .ok (.iconst 0, 1) := by decide +kernel
theorem dX2_addStep_27 : decode cX2_addStep 27 = .ok (.ireturn, 1) := by decide +kernel
theorem dX2_addStep_28 : decode cX2_addStep 28 = .ok (.aload_n 0, 1) := by decide +kernel
theorem dX2_addStep_29 : decode cX2_addStep 29 = .ok (.getfield 18, 3) := by decide +kernel
theorem dX2_addStep_32 : decode cX2_addStep 32 = .ok (.bipush 8, 2) := by decide +kernel
theorem dX2_addStep_34 : decode cX2_addStep 34 = .ok (.aload_n 0, 1) := by decide +kernel
theorem dX2_addStep_35 : decode cX2_addStep 35 = .ok (.getfield 34, 3) := by decide +kernel
theorem dX2_addStep_38 : decode cX2_addStep 38 = .ok (.imul, 1) := by decide +kernel
theorem dX2_addStep_39 : decode cX2_addStep 39 = .ok (.aload_n 0, 1) := by decide +kernel
theorem dX2_addStep_40 : decode cX2_addStep 40 = .ok (.getfield 37, 3) := by decide +kernel
theorem dX2_addStep_43 : decode cX2_addStep 43 = .ok (.iadd, 1) := by decide +kernel
theorem dX2_addStep_44 : decode cX2_addStep 44 = .ok (.iload_n 1, 1) := by decide +kernel
theorem dX2_addStep_45 : decode cX2_addStep 45 = .ok (.iastore, 1) := by decide +kernel
theorem dX2_addStep_46 : decode cX2_addStep 46 = .ok (.aload_n 0, 1) := by decide +kernel
theorem dX2_addStep_47 : decode cX2_addStep 47 = .ok (.dup, 1) := by decide +kernel
theorem dX2_addStep_48 : decode cX2_addStep 48 = .ok (.getfield 37, 3) := by decide +kernel
theorem dX2_addStep_51 : decode cX2_addStep 51 = .ok (.iconst 1, 1) := by decide +kernel
theorem dX2_addStep_52 : decode cX2_addStep 52 = .ok (.iadd, 1) := by decide +kernel
theorem dX2_addStep_53 : decode cX2_addStep 53 = .ok (.putfield 37, 3) := by decide +kernel
theorem dX2_addStep_56 : decode cX2_addStep 56 = .ok (.iconst 1, 1) := by decide +kernel
theorem dX2_addStep_57 : decode cX2_addStep 57 = .ok (.ireturn, 1) := by decide +kernel
theorem dX2_endTrade_0 : decode cX2_endTrade 0 = .ok (.aload_n 0, 1) := by decide +kernel
theorem dX2_endTrade_1 : decode cX2_endTrade 1 = .ok (.getfield 34, 3) := by decide +kernel
theorem dX2_endTrade_4 : decode cX2_endTrade 4 = .ok (.iconst 4, 1) := by decide +kernel
theorem dX2_endTrade_5 : decode cX2_endTrade 5 = .ok (.if_icmp .ge 10, 3) := by decide +kernel
theorem dX2_endTrade_8 : decode cX2_endTrade 8 = .ok (.aload_n 0, 1) := by decide +kernel
theorem dX2_endTrade_9 : decode cX2_endTrade 9 = .ok (.getfield 37, 3) := by decide +kernel
theorem dX2_endTrade_12 : decode cX2_endTrade 12 = .ok (.ifCond .ne 5, 3) := by decide +kernel
theorem dX2_endTrade_15 : decode cX2_endTrade 15 = .ok (.iconst 0, 1) := by decide +kernel
theorem dX2_endTrade_16 : decode cX2_endTrade 16 = .ok (.ireturn, 1) := by decide +kernel
theorem dX2_endTrade_17 : decode cX2_endTrade 17 = .ok (.aload_n 0, 1) := by decide +kernel
theorem dX2_endTrade_18 : decode cX2_endTrade 18 = .ok (.getfield 21, 3) := by decide +kernel
theorem dX2_endTrade_21 : decode cX2_endTrade 21 = .ok (.aload_n 0, 1) := by decide +kernel
theorem dX2_endTrade_22 : decode cX2_endTrade 22 = .ok (.getfield 34, 3) := by decide +kernel
theorem dX2_endTrade_25 : decode cX2_endTrade 25 = .ok (.aload_n 0, 1) := by decide +kernel
theorem dX2_endTrade_26 : decode cX2_endTrade 26 = .ok (.getfield 37, 3) := by decide +kernel
theorem dX2_endTrade_29 : decode cX2_endTrade 29 = .ok (.iastore, 1) := by decide +kernel
theorem dX2_endTrade_30 : decode cX2_endTrade 30 = .ok (.aload_n 0, 1) := by decide +kernel
theorem dX2_endTrade_31 : decode cX2_endTrade 31 = .ok (.iconst 0, 1) := by decide +kernel
theorem dX2_endTrade_32 : decode cX2_endTrade 32 = .ok (.putfield 37, 3) := by decide +kernel
theorem dX2_endTrade_35 : decode cX2_endTrade 35 = .ok (.aload_n 0, 1) := by decide +kernel
theorem dX2_endTrade_36 : decode cX2_endTrade 36 = .ok (.dup, 1) := by decide +kernel
theorem dX2_endTrade_37 : decode cX2_endTrade 37 = .ok (.getfield 34, 3) := by decide +kernel
theorem dX2_endTrade_40 : decode cX2_endTrade 40 = .ok (.iconst 1, 1) := by decide +kernel
theorem dX2_endTrade_41 : decode cX2_endTrade 41 = .ok (.iadd, 1) := by decide +kernel
theorem dX2_endTrade_42 : decode cX2_endTrade 42 = .ok (.putfield 34, 3) := by decide +kernel
theorem dX2_endTrade_45 : decode cX2_endTrade 45 = .ok (.iconst 1, 1) := by decide +kernel
theorem dX2_endTrade_46 : decode cX2_endTrade 46 = .ok (.ireturn, 1) := by decide +kernel
theorem dX2_setStepsPerShift_0 : decode cX2_setStepsPerShift 0 = .ok (.iload_n 1, 1) := by decide +kernel
theorem dX2_setStepsPerShift_1 : decode cX2_setStepsPerShift 1 = .ok (.iconst 1, 1) := by decide +kernel
theorem dX2_setStepsPerShift_2 : decode cX2_setStepsPerShift 2 = .ok (.if_icmp .lt 9, 3) := by decide +kernel
theorem dX2_setStepsPerShift_5 : decode cX2_setStepsPerShift 5 = .ok (.iload_n 1, 1) := by decide +kernel
theorem dX2_setStepsPerShift_6 : decode cX2_setStepsPerShift 6 = .ok (.bipush 8, 2) := by decide +kernel
theorem dX2_setStepsPerShift_8 : decode cX2_setStepsPerShift 8 = .ok (.if_icmp .le 5, 3) := by decide +kernel
theorem dX2_setStepsPerShift_11 : decode cX2_setStepsPerShift 11 = .ok (.iconst 0, 1) := by decide +kernel
theorem dX2_setStepsPerShift_12 : decode cX2_setStepsPerShift 12 = .ok (.ireturn, 1) := by decide +kernel
theorem dX2_setStepsPerShift_13 : decode cX2_setStepsPerShift 13 = .ok (.aload_n 0, 1) := by decide +kernel
theorem dX2_setStepsPerShift_14 : decode cX2_setStepsPerShift 14 = .ok (.iload_n 1, 1) := by decide +kernel
theorem dX2_setStepsPerShift_15 : decode cX2_setStepsPerShift 15 = .ok (.putfield 43, 3) := by decide +kernel
theorem dX2_setStepsPerShift_18 : decode cX2_setStepsPerShift 18 = .ok (.iconst 1, 1) := by decide +kernel
theorem dX2_setStepsPerShift_19 : decode cX2_setStepsPerShift 19 = .ok (.ireturn, 1) := by decide +kernel
theorem dX2_setFactsTold_0 : decode cX2_setFactsTold 0 = .ok (.iload_n 1, 1) := by decide +kernel
theorem dX2_setFactsTold_1 : decode cX2_setFactsTold 1 = .ok (.ifCond .lt 9, 3) := by decide +kernel
theorem dX2_setFactsTold_4 : decode cX2_setFactsTold 4 = .ok (.iload_n 1, 1) := by decide +kernel
theorem dX2_setFactsTold_5 : decode cX2_setFactsTold 5 = .ok (.bipush 8, 2) := by decide +kernel
theorem dX2_setFactsTold_7 : decode cX2_setFactsTold 7 = .ok (.if_icmp .le 5, 3) := by decide +kernel
theorem dX2_setFactsTold_10 : decode cX2_setFactsTold 10 = .ok (.iconst 0, 1) := by decide +kernel
theorem dX2_setFactsTold_11 : decode cX2_setFactsTold 11 = .ok (.ireturn, 1) := by decide +kernel
theorem dX2_setFactsTold_12 : decode cX2_setFactsTold 12 = .ok (.aload_n 0, 1) := by decide +kernel
theorem dX2_setFactsTold_13 : decode cX2_setFactsTold 13 = .ok (.iload_n 1, 1) := by decide +kernel
theorem dX2_setFactsTold_14 : decode cX2_setFactsTold 14 = .ok (.putfield 46, 3) := by decide +kernel
theorem dX2_setFactsTold_17 : decode cX2_setFactsTold 17 = .ok (.iconst 1, 1) := by decide +kernel
theorem dX2_setFactsTold_18 : decode cX2_setFactsTold 18 = .ok (.ireturn, 1) := by decide +kernel
theorem dX2_setKnown_0 : decode cX2_setKnown 0 = .ok (.aload_n 0, 1) := by decide +kernel
theorem dX2_setKnown_1 : decode cX2_setKnown 1 = .ok (.iload_n 1, 1) := by decide +kernel
theorem dX2_setKnown_2 : decode cX2_setKnown 2 = .ok (.iload_n 2, 1) := by decide +kernel
theorem dX2_setKnown_3 : decode cX2_setKnown 3 = .ok (.invokevirtual 58, 3) := by decide +kernel
theorem dX2_setKnown_6 : decode cX2_setKnown 6 = .ok (.ifCond .eq 14, 3) := by decide +kernel
theorem dX2_setKnown_9 : decode cX2_setKnown 9 = .ok (.iload_n 3, 1) := by decide +kernel
theorem dX2_setKnown_10 : decode cX2_setKnown 10 = .ok (.ifCond .lt 10, 3) := by decide +kernel
theorem dX2_setKnown_13 : decode cX2_setKnown 13 = .ok (.iload_n 3, 1) := by decide +kernel
theorem dX2_setKnown_14 : decode cX2_setKnown 14 = .ok (.sipush 255, 3) := by decide +kernel
theorem dX2_setKnown_17 : decode cX2_setKnown 17 = .ok (.if_icmp .le 5, 3) := by decide +kernel
theorem dX2_setKnown_20 : decode cX2_setKnown 20 = .ok (.iconst 0, 1) := by decide +kernel
theorem dX2_setKnown_21 : decode cX2_setKnown 21 = .ok (.ireturn, 1) := by decide +kernel
theorem dX2_setKnown_22 : decode cX2_setKnown 22 = .ok (.aload_n 0, 1) := by decide +kernel
theorem dX2_setKnown_23 : decode cX2_setKnown 23 = .ok (.getfield 15, 3) := by decide +kernel
theorem dX2_setKnown_26 : decode cX2_setKnown 26 = .ok (.iconst 2, 1) := by decide +kernel
theorem dX2_setKnown_27 : decode cX2_setKnown 27 = .ok (.iload_n 1, 1) := by decide +kernel
theorem dX2_setKnown_28 : decode cX2_setKnown 28 = .ok (.imul, 1) := by decide +kernel
theorem dX2_setKnown_29 : decode cX2_setKnown 29 = .ok (.iload_n 2, 1) := by decide +kernel
theorem dX2_setKnown_30 : decode cX2_setKnown 30 = .ok (.iadd, 1) := by decide +kernel
theorem dX2_setKnown_31 : decode cX2_setKnown 31 = .ok (.iload_n 3, 1) := by decide +kernel
theorem dX2_setKnown_32 : decode cX2_setKnown 32 = .ok (.iastore, 1) := by decide +kernel
theorem dX2_setKnown_33 : decode cX2_setKnown 33 = .ok (.iconst 1, 1) := by decide +kernel
theorem dX2_setKnown_34 : decode cX2_setKnown 34 = .ok (.ireturn, 1) := by decide +kernel
theorem dX2_addPair_0 : decode cX2_addPair 0 = .ok (.aload_n 0, 1) := by decide +kernel
theorem dX2_addPair_1 : decode cX2_addPair 1 = .ok (.getfield 40, 3) := by decide +kernel
theorem dX2_addPair_4 : decode cX2_addPair 4 = .ok (.bipush 8, 2) := by decide +kernel
theorem dX2_addPair_6 : decode cX2_addPair 6 = .ok (.if_icmp .ge 27, 3) := by decide +kernel
theorem dX2_addPair_9 : decode cX2_addPair 9 = .ok (.aload_n 0, 1) := by decide +kernel
theorem dX2_addPair_10 : decode cX2_addPair 10 = .ok (.iload_n 1, 1) := by decide +kernel
theorem dX2_addPair_11 : decode cX2_addPair 11 = .ok (.iload_n 2, 1) := by decide +kernel
theorem dX2_addPair_12 : decode cX2_addPair 12 = .ok (.invokevirtual 58, 3) := by decide +kernel
theorem dX2_addPair_15 : decode cX2_addPair 15 = .ok (.ifCond .eq 18, 3) := by decide +kernel
theorem dX2_addPair_18 : decode cX2_addPair 18 = .ok (.aload_n 0, 1) := by decide +kernel
theorem dX2_addPair_19 : decode cX2_addPair 19 = .ok (.iload_n 3, 1) := by decide +kernel
theorem dX2_addPair_20 : decode cX2_addPair 20 = .ok (.iload 4, 2) := by decide +kernel
theorem dX2_addPair_22 : decode cX2_addPair 22 = .ok (.invokevirtual 58, 3) := by decide +kernel
theorem dX2_addPair_25 : decode cX2_addPair 25 = .ok (.ifCond .eq 8, 3) := by decide +kernel
theorem dX2_addPair_28 : decode cX2_addPair 28 = .ok (.iload_n 1, 1) := by decide +kernel
theorem dX2_addPair_29 : decode cX2_addPair 29 = .ok (.iload_n 3, 1) := by decide +kernel
theorem dX2_addPair_30 : decode cX2_addPair 30 = .ok (.if_icmp .ne 5, 3) := by decide +kernel
theorem dX2_addPair_33 : decode cX2_addPair 33 = .ok (.iconst 0, 1) := by decide +kernel
theorem dX2_addPair_34 : decode cX2_addPair 34 = .ok (.ireturn, 1) := by decide +kernel
theorem dX2_addPair_35 : decode cX2_addPair 35 = .ok (.aload_n 0, 1) := by decide +kernel
theorem dX2_addPair_36 : decode cX2_addPair 36 = .ok (.getfield 24, 3) := by decide +kernel
theorem dX2_addPair_39 : decode cX2_addPair 39 = .ok (.iconst 2, 1) := by decide +kernel
theorem dX2_addPair_40 : decode cX2_addPair 40 = .ok (.aload_n 0, 1) := by decide +kernel
theorem dX2_addPair_41 : decode cX2_addPair 41 = .ok (.getfield 40, 3) := by decide +kernel
theorem dX2_addPair_44 : decode cX2_addPair 44 = .ok (.imul, 1) := by decide +kernel
theorem dX2_addPair_45 : decode cX2_addPair 45 = .ok (.iconst 2, 1) := by decide +kernel
theorem dX2_addPair_46 : decode cX2_addPair 46 = .ok (.iload_n 1, 1) := by decide +kernel
theorem dX2_addPair_47 : decode cX2_addPair 47 = .ok (.imul, 1) := by decide +kernel
theorem dX2_addPair_48 : decode cX2_addPair 48 = .ok (.iload_n 2, 1) := by decide +kernel
theorem dX2_addPair_49 : decode cX2_addPair 49 = .ok (.iadd, 1) := by decide +kernel
theorem dX2_addPair_50 : decode cX2_addPair 50 = .ok (.iastore, 1) := by decide +kernel
theorem dX2_addPair_51 : decode cX2_addPair 51 = .ok (.aload_n 0, 1) := by decide +kernel
theorem dX2_addPair_52 : decode cX2_addPair 52 = .ok (.getfield 24, 3) := by decide +kernel
theorem dX2_addPair_55 : decode cX2_addPair 55 = .ok (.iconst 2, 1) := by decide +kernel
theorem dX2_addPair_56 : decode cX2_addPair 56 = .ok (.aload_n 0, 1) := by decide +kernel
theorem dX2_addPair_57 : decode cX2_addPair 57 = .ok (.getfield 40, 3) := by decide +kernel
theorem dX2_addPair_60 : decode cX2_addPair 60 = .ok (.imul, 1) := by decide +kernel
theorem dX2_addPair_61 : decode cX2_addPair 61 = .ok (.iconst 1, 1) := by decide +kernel
theorem dX2_addPair_62 : decode cX2_addPair 62 = .ok (.iadd, 1) := by decide +kernel
theorem dX2_addPair_63 : decode cX2_addPair 63 = .ok (.iconst 2, 1) := by decide +kernel
theorem dX2_addPair_64 : decode cX2_addPair 64 = .ok (.iload_n 3, 1) := by decide +kernel
theorem dX2_addPair_65 : decode cX2_addPair 65 = .ok (.imul, 1) := by decide +kernel
theorem dX2_addPair_66 : decode cX2_addPair 66 = .ok (.iload 4, 2) := by decide +kernel
theorem dX2_addPair_68 : decode cX2_addPair 68 = .ok (.iadd, 1) := by decide +kernel
theorem dX2_addPair_69 : decode cX2_addPair 69 = .ok (.iastore, 1) := by decide +kernel
theorem dX2_addPair_70 : decode cX2_addPair 70 = .ok (.aload_n 0, 1) := by decide +kernel
theorem dX2_addPair_71 : decode cX2_addPair 71 = .ok (.dup, 1) := by decide +kernel
theorem dX2_addPair_72 : decode cX2_addPair 72 = .ok (.getfield 40, 3) := by decide +kernel
theorem dX2_addPair_75 : decode cX2_addPair 75 = .ok (.iconst 1, 1) := by decide +kernel
theorem dX2_addPair_76 : decode cX2_addPair 76 = .ok (.iadd, 1) := by decide +kernel
theorem dX2_addPair_77 : decode cX2_addPair 77 = .ok (.putfield 40, 3) := by decide +kernel
theorem dX2_addPair_80 : decode cX2_addPair 80 = .ok (.iconst 1, 1) := by decide +kernel
theorem dX2_addPair_81 : decode cX2_addPair 81 = .ok (.ireturn, 1) := by decide +kernel
theorem dX2_setPurse_0 : decode cX2_setPurse 0 = .ok (.iload_n 1, 1) := by decide +kernel
theorem dX2_setPurse_1 : decode cX2_setPurse 1 = .ok (.ifCond .lt 31, 3) := by decide +kernel
theorem dX2_setPurse_4 : decode cX2_setPurse 4 = .ok (.iload_n 1, 1) := by decide +kernel
theorem dX2_setPurse_5 : decode cX2_setPurse 5 = .ok (.bipush 20, 2) := by decide +kernel
theorem dX2_setPurse_7 : decode cX2_setPurse 7 = .ok (.if_icmp .gt 25, 3) := by decide +kernel
theorem dX2_setPurse_10 : decode cX2_setPurse 10 = .ok (.iload_n 2, 1) := by decide +kernel
theorem dX2_setPurse_11 : decode cX2_setPurse 11 = .ok (.iconst 1, 1) := by decide +kernel
theorem dX2_setPurse_12 : decode cX2_setPurse 12 = .ok (.if_icmp .lt 20, 3) := by decide +kernel
theorem dX2_setPurse_15 : decode cX2_setPurse 15 = .ok (.iload_n 2, 1) := by decide +kernel
theorem dX2_setPurse_16 : decode cX2_setPurse 16 = .ok (.bipush 9, 2) := by decide +kernel
theorem dX2_setPurse_18 : decode cX2_setPurse 18 = .ok (.if_icmp .gt 14, 3) := by decide +kernel
theorem dX2_setPurse_21 : decode cX2_setPurse 21 = .ok (.iload_n 3, 1) := by decide +kernel
theorem dX2_setPurse_22 : decode cX2_setPurse 22 = .ok (.iconst 1, 1) := by decide +kernel
theorem dX2_setPurse_23 : decode cX2_setPurse 23 = .ok (.if_icmp .lt 9, 3) := by decide +kernel
theorem dX2_setPurse_26 : decode cX2_setPurse 26 = .ok (.iload_n 3, 1) := by decide +kernel
theorem dX2_setPurse_27 : decode cX2_setPurse 27 = .ok (.bipush 9, 2) := by decide +kernel
theorem dX2_setPurse_29 : decode cX2_setPurse 29 = .ok (.if_icmp .le 5, 3) := by decide +kernel
theorem dX2_setPurse_32 : decode cX2_setPurse 32 = .ok (.iconst 0, 1) := by decide +kernel
theorem dX2_setPurse_33 : decode cX2_setPurse 33 = .ok (.ireturn, 1) := by decide +kernel
theorem dX2_setPurse_34 : decode cX2_setPurse 34 = .ok (.aload_n 0, 1) := by decide +kernel
theorem dX2_setPurse_35 : decode cX2_setPurse 35 = .ok (.iload_n 1, 1) := by decide +kernel
theorem dX2_setPurse_36 : decode cX2_setPurse 36 = .ok (.putfield 49, 3) := by decide +kernel
theorem dX2_setPurse_39 : decode cX2_setPurse 39 = .ok (.aload_n 0, 1) := by decide +kernel
theorem dX2_setPurse_40 : decode cX2_setPurse 40 = .ok (.iload_n 2, 1) := by decide +kernel
theorem dX2_setPurse_41 : decode cX2_setPurse 41 = .ok (.putfield 52, 3) := by decide +kernel
theorem dX2_setPurse_44 : decode cX2_setPurse 44 = .ok (.aload_n 0, 1) := by decide +kernel
theorem dX2_setPurse_45 : decode cX2_setPurse 45 = .ok (.iload_n 3, 1) := by decide +kernel
theorem dX2_setPurse_46 : decode cX2_setPurse 46 = .ok (.putfield 55, 3) := by decide +kernel
theorem dX2_setPurse_49 : decode cX2_setPurse 49 = .ok (.iconst 1, 1) := by decide +kernel
theorem dX2_setPurse_50 : decode cX2_setPurse 50 = .ok (.ireturn, 1) := by decide +kernel
theorem dX2_isHalfHere_0 : decode cX2_isHalfHere 0 = .ok (.iload_n 1, 1) := by decide +kernel
theorem dX2_isHalfHere_1 : decode cX2_isHalfHere 1 = .ok (.ifCond .lt 22, 3) := by decide +kernel
theorem dX2_isHalfHere_4 : decode cX2_isHalfHere 4 = .ok (.iload_n 1, 1) := by decide +kernel
theorem dX2_isHalfHere_5 : decode cX2_isHalfHere 5 = .ok (.aload_n 0, 1) := by decide +kernel
theorem dX2_isHalfHere_6 : decode cX2_isHalfHere 6 = .ok (.getfield 30, 3) := by decide +kernel
theorem dX2_isHalfHere_9 : decode cX2_isHalfHere 9 = .ok (.if_icmp .ge 14, 3) := by decide +kernel
theorem dX2_isHalfHere_12 : decode cX2_isHalfHere 12 = .ok (.iload_n 2, 1) := by decide +kernel
theorem dX2_isHalfHere_13 : decode cX2_isHalfHere 13 = .ok (.invokestatic 62, 3) := by decide +kernel
theorem dX2_isHalfHere_16 : decode cX2_isHalfHere 16 = .ok (.ifCond .eq 7, 3) := by decide +kernel
theorem dX2_isHalfHere_19 : decode cX2_isHalfHere 19 = .ok (.iconst 1, 1) := by decide +kernel
theorem dX2_isHalfHere_20 : decode cX2_isHalfHere 20 = .ok (.goto 4, 3) := by decide +kernel
theorem dX2_isHalfHere_23 : decode cX2_isHalfHere 23 = .ok (.iconst 0, 1) := by decide +kernel
theorem dX2_isHalfHere_24 : decode cX2_isHalfHere 24 = .ok (.ireturn, 1) := by decide +kernel
theorem dX2_hasSkillFor_0 : decode cX2_hasSkillFor 0 = .ok (.aload_n 0, 1) := by decide +kernel
theorem dX2_hasSkillFor_1 : decode cX2_hasSkillFor 1 = .ok (.getfield 18, 3) := by decide +kernel
theorem dX2_hasSkillFor_4 : decode cX2_hasSkillFor 4 = .ok (.bipush 8, 2) := by decide +kernel
theorem dX2_hasSkillFor_6 : decode cX2_hasSkillFor 6 = .ok (.iload_n 3, 1) := by decide +kernel
theorem dX2_hasSkillFor_7 : decode cX2_hasSkillFor 7 = .ok (.imul, 1) := by decide +kernel
theorem dX2_hasSkillFor_8 : decode cX2_hasSkillFor 8 = .ok (.iload 4, 2) := by decide +kernel
theorem dX2_hasSkillFor_10 : decode cX2_hasSkillFor 10 = .ok (.iadd, 1) := by decide +kernel
theorem dX2_hasSkillFor_11 : decode cX2_hasSkillFor 11 = .ok (.iaload, 1) := by decide +kernel
theorem dX2_hasSkillFor_12 : decode cX2_hasSkillFor 12 = .ok (.istore 5, 2) := by decide +kernel
theorem dX2_hasSkillFor_14 : decode cX2_hasSkillFor 14 = .ok (.aload_n 0, 1) := by decide +kernel
theorem dX2_hasSkillFor_15 : decode cX2_hasSkillFor 15 = .ok (.getfield 9, 3) := by decide +kernel
theorem dX2_hasSkillFor_18 : decode cX2_hasSkillFor 18 = .ok (.iconst 2, 1) := by decide +kernel
theorem dX2_hasSkillFor_19 : decode cX2_hasSkillFor 19 = .ok (.iload_n 1, 1) := by decide +kernel
theorem dX2_hasSkillFor_20 : decode cX2_hasSkillFor 20 = .ok (.imul, 1) := by decide +kernel
theorem dX2_hasSkillFor_21 : decode cX2_hasSkillFor 21 = .ok (.iload_n 2, 1) := by decide +kernel
theorem dX2_hasSkillFor_22 : decode cX2_hasSkillFor 22 = .ok (.iadd, 1) := by decide +kernel
theorem dX2_hasSkillFor_23 : decode cX2_hasSkillFor 23 = .ok (.iaload, 1) := by decide +kernel
theorem dX2_hasSkillFor_24 : decode cX2_hasSkillFor 24 = .ok (.iload 5, 2) := by decide +kernel
theorem dX2_hasSkillFor_26 : decode cX2_hasSkillFor 26 = .ok (.ishr, 1) := by decide +kernel
theorem dX2_hasSkillFor_27 : decode cX2_hasSkillFor 27 = .ok (.iconst 1, 1) := by decide +kernel
theorem dX2_hasSkillFor_28 : decode cX2_hasSkillFor 28 = .ok (.iand, 1) := by decide +kernel
theorem dX2_hasSkillFor_29 : decode cX2_hasSkillFor 29 = .ok (.ifCond .eq 7, 3) := by decide +kernel
theorem dX2_hasSkillFor_32 : decode cX2_hasSkillFor 32 = .ok (.iconst 1, 1) := by decide +kernel
theorem dX2_hasSkillFor_33 : decode cX2_hasSkillFor 33 = .ok (.goto 4, 3) := by decide +kernel
theorem dX2_hasSkillFor_36 : decode cX2_hasSkillFor 36 = .ok (.iconst 0, 1) := by decide +kernel
theorem dX2_hasSkillFor_37 : decode cX2_hasSkillFor 37 = .ok (.ireturn, 1) := by decide +kernel
theorem dX2_shiftsNeeded_0 : decode cX2_shiftsNeeded 0 = .ok (.iconst 0, 1) := by decide +kernel
theorem dX2_shiftsNeeded_1 : decode cX2_shiftsNeeded 1 = .ok (.istore 4, 2) := by decide +kernel
theorem dX2_shiftsNeeded_3 : decode cX2_shiftsNeeded 3 = .ok (.iconst 0, 1) := by decide +kernel
theorem dX2_shiftsNeeded_4 : decode cX2_shiftsNeeded 4 = .ok (.istore 5, 2) := by decide +kernel
theorem dX2_shiftsNeeded_6 : decode cX2_shiftsNeeded 6 = .ok (.iload 5, 2) := by decide +kernel
theorem dX2_shiftsNeeded_8 : decode cX2_shiftsNeeded 8 = .ok (.bipush 16, 2) := by decide +kernel
theorem dX2_shiftsNeeded_10 : decode cX2_shiftsNeeded 10 = .ok (.if_icmp .ge 41, 3) := by decide +kernel
theorem dX2_shiftsNeeded_13 : decode cX2_shiftsNeeded 13 = .ok (.aload_n 0, 1) := by decide +kernel
theorem dX2_shiftsNeeded_14 : decode cX2_shiftsNeeded 14 = .ok (.iload_n 1, 1) := by decide +kernel
theorem dX2_shiftsNeeded_15 : decode cX2_shiftsNeeded 15 = .ok (.iload_n 3, 1) := by decide +kernel
theorem dX2_shiftsNeeded_16 : decode cX2_shiftsNeeded 16 = .ok (.iload 5, 2) := by decide +kernel
theorem dX2_shiftsNeeded_18 : decode cX2_shiftsNeeded 18 = .ok (.iadd, 1) := by decide +kernel
theorem dX2_shiftsNeeded_19 : decode cX2_shiftsNeeded 19 = .ok (.iconst 1, 1) := by decide +kernel
theorem dX2_shiftsNeeded_20 : decode cX2_shiftsNeeded 20 = .ok (.iand, 1) := by decide +kernel
theorem dX2_shiftsNeeded_21 : decode cX2_shiftsNeeded 21 = .ok (.iload_n 2, 1) := by decide +kernel
theorem dX2_shiftsNeeded_22 : decode cX2_shiftsNeeded 22 = .ok (.iload 4, 2) := by decide +kernel
theorem dX2_shiftsNeeded_24 : decode cX2_shiftsNeeded 24 = .ok (.invokevirtual 66, 3) := by decide +kernel
theorem dX2_shiftsNeeded_27 : decode cX2_shiftsNeeded 27 = .ok (.istore 4, 2) := by decide +kernel
theorem dX2_shiftsNeeded_29 : decode cX2_shiftsNeeded 29 = .ok (.iload 4, 2) := by decide +kernel
theorem dX2_shiftsNeeded_31 : decode cX2_shiftsNeeded 31 = .ok (.aload_n 0, 1) := by decide +kernel
theorem dX2_shiftsNeeded_32 : decode cX2_shiftsNeeded 32 = .ok (.getfield 21, 3) := by decide +kernel
theorem dX2_shiftsNeeded_35 : decode cX2_shiftsNeeded 35 = .ok (.iload_n 2, 1) := by decide +kernel
theorem dX2_shiftsNeeded_36 : decode cX2_shiftsNeeded 36 = .ok (.iaload, 1) := by decide +kernel
theorem dX2_shiftsNeeded_37 : decode cX2_shiftsNeeded 37 = .ok (.if_icmp .lt 8, 3) := by decide +kernel
theorem dX2_shiftsNeeded_40 : decode cX2_shiftsNeeded 40 = .ok (.iload 5, 2) := by decide +kernel
theorem dX2_shiftsNeeded_42 : decode cX2_shiftsNeeded 42 = .ok (.iconst 1, 1) := by decide +kernel
theorem dX2_shiftsNeeded_43 : decode cX2_shiftsNeeded 43 = .ok (.iadd, 1) := by decide +kernel
theorem dX2_shiftsNeeded_44 : decode cX2_shiftsNeeded 44 = .ok (.ireturn, 1) := by decide +kernel
theorem dX2_shiftsNeeded_45 : decode cX2_shiftsNeeded 45 = .ok (.iinc 5 1, 3) := by decide +kernel
theorem dX2_shiftsNeeded_48 : decode cX2_shiftsNeeded 48 = .ok (.goto (-42), 3) := by decide +kernel
theorem dX2_shiftsNeeded_51 : decode cX2_shiftsNeeded 51 = .ok (.bipush (-4), 2) := by decide +kernel
theorem dX2_shiftsNeeded_53 : decode cX2_shiftsNeeded 53 = .ok (.ireturn, 1) := by decide +kernel
theorem dX2_stepAfterShift_0 : decode cX2_stepAfterShift 0 = .ok (.aload_n 0, 1) := by decide +kernel
theorem dX2_stepAfterShift_1 : decode cX2_stepAfterShift 1 = .ok (.getfield 21, 3) := by decide +kernel
theorem dX2_stepAfterShift_4 : decode cX2_stepAfterShift 4 = .ok (.iload_n 3, 1) := by decide +kernel
theorem dX2_stepAfterShift_5 : decode cX2_stepAfterShift 5 = .ok (.iaload, 1) := by decide +kernel
theorem dX2_stepAfterShift_6 : decode cX2_stepAfterShift 6 = .ok (.iload 4, 2) := by decide +kernel
theorem dX2_stepAfterShift_8 : decode cX2_stepAfterShift 8 = .ok (.aload_n 0, 1) := by decide +kernel
theorem dX2_stepAfterShift_9 : decode cX2_stepAfterShift 9 = .ok (.getfield 43, 3) := by decide +kernel
theorem dX2_stepAfterShift_12 : decode cX2_stepAfterShift 12 = .ok (.iadd, 1) := by decide +kernel
theorem dX2_stepAfterShift_13 : decode cX2_stepAfterShift 13 = .ok (.invokestatic 70, 3) := by decide +kernel
theorem dX2_stepAfterShift_16 : decode cX2_stepAfterShift 16 = .ok (.istore 5, 2) := by decide +kernel
theorem dX2_stepAfterShift_18 : decode cX2_stepAfterShift 18 = .ok (.iload 4, 2) := by decide +kernel
theorem dX2_stepAfterShift_20 : decode cX2_stepAfterShift 20 = .ok (.istore 6, 2) := by decide +kernel
theorem dX2_stepAfterShift_22 : decode cX2_stepAfterShift 22 = .ok (.iload 6, 2) := by decide +kernel
theorem dX2_stepAfterShift_24 : decode cX2_stepAfterShift 24 = .ok (.iload 5, 2) := by decide +kernel
theorem dX2_stepAfterShift_26 : decode cX2_stepAfterShift 26 = .ok (.if_icmp .ge 21, 3) := by decide +kernel
theorem dX2_stepAfterShift_29 : decode cX2_stepAfterShift 29 = .ok (.aload_n 0, 1) := by decide +kernel
theorem dX2_stepAfterShift_30 : decode cX2_stepAfterShift 30 = .ok (.iload_n 1, 1) := by decide +kernel
theorem dX2_stepAfterShift_31 : decode cX2_stepAfterShift 31 = .ok (.iload_n 2, 1) := by decide +kernel
theorem dX2_stepAfterShift_32 : decode cX2_stepAfterShift 32 = .ok (.iload_n 3, 1) := by decide +kernel
theorem dX2_stepAfterShift_33 : decode cX2_stepAfterShift 33 = .ok (.iload 6, 2) := by decide +kernel
theorem dX2_stepAfterShift_35 : decode cX2_stepAfterShift 35 = .ok (.invokevirtual 76, 3) := by decide +kernel
theorem dX2_stepAfterShift_38 : decode cX2_stepAfterShift 38 = .ok (.ifCond .eq 9, 3) := by decide +kernel
theorem dX2_stepAfterShift_41 : decode cX2_stepAfterShift 41 = .ok (.iinc 6 1, 3) := by decide +kernel
theorem dX2_stepAfterShift_44 : decode cX2_stepAfterShift 44 = .ok (.goto (-22), 3) := by decide +kernel
theorem dX2_stepAfterShift_47 : decode cX2_stepAfterShift 47 = .ok (.iload 6, 2) := by decide +kernel
theorem dX2_stepAfterShift_49 : decode cX2_stepAfterShift 49 = .ok (.ireturn, 1) := by decide +kernel
theorem dX2_fewestHandings_0 : decode cX2_fewestHandings 0 = .ok (.bipush 16, 2) := by decide +kernel
theorem dX2_fewestHandings_2 : decode cX2_fewestHandings 2 = .ok (.istore_n 3, 1) := by decide +kernel
theorem dX2_fewestHandings_3 : decode cX2_fewestHandings 3 = .ok (.iconst 0, 1) := by decide +kernel
theorem dX2_fewestHandings_4 : decode cX2_fewestHandings 4 = .ok (.istore 4, 2) := by decide +kernel
theorem dX2_fewestHandings_6 : decode cX2_fewestHandings 6 = .ok (.iconst 0, 1) := by decide +kernel
theorem dX2_fewestHandings_7 : decode cX2_fewestHandings 7 = .ok (.istore 5, 2) := by decide +kernel
theorem dX2_fewestHandings_9 : decode cX2_fewestHandings 9 = .ok (.iconst 0, 1) := by decide +kernel
theorem dX2_fewestHandings_10 : decode cX2_fewestHandings 10 = .ok (.istore 6, 2) := by decide +kernel
theorem dX2_fewestHandings_12 : decode cX2_fewestHandings 12 = .ok (.iload 6, 2) := by decide +kernel
theorem dX2_fewestHandings_14 : decode cX2_fewestHandings 14 = .ok (.aload_n 0, 1) := by decide +kernel
theorem dX2_fewestHandings_15 : decode cX2_fewestHandings 15 = .ok (.getfield 21, 3) := by decide +kernel
theorem dX2_fewestHandings_18 : decode cX2_fewestHandings 18 = .ok (.iload_n 2, 1) := by decide +kernel
theorem dX2_fewestHandings_19 : decode cX2_fewestHandings 19 = .ok (.iaload, 1) := by decide +kernel
theorem dX2_fewestHandings_20 : decode cX2_fewestHandings 20 = .ok (.if_icmp .ge 71, 3) := by decide +kernel
theorem dX2_fewestHandings_23 : decode cX2_fewestHandings 23 = .ok (.iload 4, 2) := by decide +kernel
theorem dX2_fewestHandings_25 : decode cX2_fewestHandings 25 = .ok (.iload 5, 2) := by decide +kernel
theorem dX2_fewestHandings_27 : decode cX2_fewestHandings 27 = .ok (.iconst 1, 1) := by decide +kernel
theorem dX2_fewestHandings_28 : decode cX2_fewestHandings 28 = .ok (.iadd, 1) := by decide +kernel
theorem dX2_fewestHandings_29 : decode cX2_fewestHandings 29 = .ok (.invokestatic 70, 3) := by decide +kernel
theorem dX2_fewestHandings_32 : decode cX2_fewestHandings 32 = .ok (.istore 7, 2) := by decide +kernel
theorem dX2_fewestHandings_34 : decode cX2_fewestHandings 34 = .ok (.iload 5, 2) := by decide +kernel
theorem dX2_fewestHandings_36 : decode cX2_fewestHandings 36 = .ok (.iload 4, 2) := by decide +kernel
theorem dX2_fewestHandings_38 : decode cX2_fewestHandings 38 = .ok (.iconst 1, 1) := by decide +kernel
theorem dX2_fewestHandings_39 : decode cX2_fewestHandings 39 = .ok (.iadd, 1) := by decide +kernel
theorem dX2_fewestHandings_40 : decode cX2_fewestHandings 40 = .ok (.invokestatic 70, 3) := by decide +kernel
theorem dX2_fewestHandings_43 : decode cX2_fewestHandings 43 = .ok (.istore 8, 2) := by decide +kernel
theorem dX2_fewestHandings_45 : decode cX2_fewestHandings 45 = .ok (.aload_n 0, 1) := by decide +kernel
theorem dX2_fewestHandings_46 : decode cX2_fewestHandings 46 = .ok (.iload_n 1, 1) := by decide +kernel
theorem dX2_fewestHandings_47 : decode cX2_fewestHandings 47 = .ok (.iconst 0, 1) := by decide +kernel
theorem dX2_fewestHandings_48 : decode cX2_fewestHandings 48 = .ok (.iload_n 2, 1) := by decide +kernel
theorem dX2_fewestHandings_49 : decode cX2_fewestHandings 49 = .ok (.iload 6, 2) := by decide +kernel
theorem dX2_fewestHandings_51 : decode cX2_fewestHandings 51 = .ok (.invokevirtual 76, 3) := by decide +kernel
theorem dX2_fewestHandings_54 : decode cX2_fewestHandings 54 = .ok (.ifCond .eq 8, 3) := by decide +kernel
theorem dX2_fewestHandings_57 : decode cX2_fewestHandings 57 = .ok (.iload 7, 2) := by decide +kernel
theorem dX2_fewestHandings_59 : decode cX2_fewestHandings 59 = .ok (.goto 4, 3) := by decide +kernel
theorem dX2_fewestHandings_62 : decode cX2_fewestHandings 62 = .ok (.iload_n 3, 1) := by decide +kernel
theorem dX2_fewestHandings_63 : decode cX2_fewestHandings 63 = .ok (.istore 4, 2) := by decide +kernel
theorem dX2_fewestHandings_65 : decode cX2_fewestHandings 65 = .ok (.aload_n 0, 1) := by decide +kernel
theorem dX2_fewestHandings_66 : decode cX2_fewestHandings 66 = .ok (.iload_n 1, 1) := by decide +kernel
theorem dX2_fewestHandings_67 : decode cX2_fewestHandings 67 = .ok (.iconst 1, 1) := by decide +kernel
theorem dX2_fewestHandings_68 : decode cX2_fewestHandings 68 = .ok (.iload_n 2, 1) := by decide +kernel
theorem dX2_fewestHandings_69 : decode cX2_fewestHandings 69 = .ok (.iload 6, 2) := by decide +kernel
theorem dX2_fewestHandings_71 : decode cX2_fewestHandings 71 = .ok (.invokevirtual 76, 3) := by decide +kernel
theorem dX2_fewestHandings_74 : decode cX2_fewestHandings 74 = .ok (.ifCond .eq 8, 3) := by decide +kernel
theorem dX2_fewestHandings_77 : decode cX2_fewestHandings 77 = .ok (.iload 8, 2) := by decide +kernel
theorem dX2_fewestHandings_79 : decode cX2_fewestHandings 79 = .ok (.goto 4, 3) := by decide +kernel
theorem dX2_fewestHandings_82 : decode cX2_fewestHandings 82 = .ok (.iload_n 3, 1) := by decide +kernel
theorem dX2_fewestHandings_83 : decode cX2_fewestHandings 83 = .ok (.istore 5, 2) := by decide +kernel
theorem dX2_fewestHandings_85 : decode cX2_fewestHandings 85 = .ok (.iinc 6 1, 3) := by decide +kernel
theorem dX2_fewestHandings_88 : decode cX2_fewestHandings 88 = .ok (.goto (-76), 3) := by decide +kernel
theorem dX2_fewestHandings_91 : decode cX2_fewestHandings 91 = .ok (.iload 4, 2) := by decide +kernel
theorem dX2_fewestHandings_93 : decode cX2_fewestHandings 93 = .ok (.iload 5, 2) := by decide +kernel
theorem dX2_fewestHandings_95 : decode cX2_fewestHandings 95 = .ok (.invokestatic 70, 3) := by decide +kernel
theorem dX2_fewestHandings_98 : decode cX2_fewestHandings 98 = .ok (.istore 6, 2) := by decide +kernel
theorem dX2_fewestHandings_100 : decode cX2_fewestHandings 100 = .ok (.iload 6, 2) := by decide +kernel
theorem dX2_fewestHandings_102 : decode cX2_fewestHandings 102 = .ok (.iload_n 3, 1) := by decide +kernel
theorem dX2_fewestHandings_103 : decode cX2_fewestHandings 103 = .ok (.if_icmp .lt 8, 3) := by decide +kernel
theorem dX2_fewestHandings_106 : decode cX2_fewestHandings 106 = .ok (.bipush (-4), 2) := by decide +kernel
theorem dX2_fewestHandings_108 : decode cX2_fewestHandings 108 = .ok (.goto 5, 3) := by decide +kernel
theorem dX2_fewestHandings_111 : decode cX2_fewestHandings 111 = .ok (.iload 6, 2) := by decide +kernel
theorem dX2_fewestHandings_113 : decode cX2_fewestHandings 113 = .ok (.ireturn, 1) := by decide +kernel
theorem dX2_share_0 : decode cX2_share 0 = .ok (.aload_n 0, 1) := by decide +kernel
theorem dX2_share_1 : decode cX2_share 1 = .ok (.getfield 49, 3) := by decide +kernel
theorem dX2_share_4 : decode cX2_share 4 = .ok (.iload_n 1, 1) := by decide +kernel
theorem dX2_share_5 : decode cX2_share 5 = .ok (.isub, 1) := by decide +kernel
theorem dX2_share_6 : decode cX2_share 6 = .ok (.iload_n 2, 1) := by decide +kernel
theorem dX2_share_7 : decode cX2_share 7 = .ok (.isub, 1) := by decide +kernel
theorem dX2_share_8 : decode cX2_share 8 = .ok (.istore 4, 2) := by decide +kernel
theorem dX2_share_10 : decode cX2_share 10 = .ok (.iload 4, 2) := by decide +kernel
theorem dX2_share_12 : decode cX2_share 12 = .ok (.ifCond .ge 5, 3) := by decide +kernel
theorem dX2_share_15 : decode cX2_share 15 = .ok (.iconst 0, 1) := by decide +kernel
theorem dX2_share_16 : decode cX2_share 16 = .ok (.ireturn, 1) := by decide +kernel
theorem dX2_share_17 : decode cX2_share 17 = .ok (.iload_n 3, 1) := by decide +kernel
theorem dX2_share_18 : decode cX2_share 18 = .ok (.ifCond .ne 12, 3) := by decide +kernel
theorem dX2_share_21 : decode cX2_share 21 = .ok (.iload_n 1, 1) := by decide +kernel
theorem dX2_share_22 : decode cX2_share 22 = .ok (.aload_n 0, 1) := by decide +kernel
theorem dX2_share_23 : decode cX2_share 23 = .ok (.getfield 52, 3) := by decide +kernel
theorem dX2_share_26 : decode cX2_share 26 = .ok (.imul, 1) := by decide +kernel
theorem dX2_share_27 : decode cX2_share 27 = .ok (.goto 9, 3) := by decide +kernel
theorem dX2_share_30 : decode cX2_share 30 = .ok (.iload_n 2, 1) := by decide +kernel
theorem dX2_share_31 : decode cX2_share 31 = .ok (.aload_n 0, 1) := by decide +kernel
theorem dX2_share_32 : decode cX2_share 32 = .ok (.getfield 55, 3) := by decide +kernel
theorem dX2_share_35 : decode cX2_share 35 = .ok (.imul, 1) := by decide +kernel
theorem dX2_share_36 : decode cX2_share 36 = .ok (.istore 5, 2) := by decide +kernel
theorem dX2_share_38 : decode cX2_share 38 = .ok (.iload 5, 2) := by decide +kernel
theorem dX2_share_40 : decode cX2_share 40 = .ok (.iload 4, 2) := by decide +kernel
theorem dX2_share_42 : decode cX2_share 42 = .ok (.iconst 2, 1) := by decide +kernel
theorem dX2_share_43 : decode cX2_share 43 = .ok (.idiv, 1) := by decide +kernel
theorem dX2_share_44 : decode cX2_share 44 = .ok (.iadd, 1) := by decide +kernel
theorem dX2_share_45 : decode cX2_share 45 = .ok (.ireturn, 1) := by decide +kernel
theorem dX2_partings_0 : decode cX2_partings 0 = .ok (.iconst 0, 1) := by decide +kernel
theorem dX2_partings_1 : decode cX2_partings 1 = .ok (.istore_n 2, 1) := by decide +kernel
theorem dX2_partings_2 : decode cX2_partings 2 = .ok (.iconst 0, 1) := by decide +kernel
theorem dX2_partings_3 : decode cX2_partings 3 = .ok (.istore_n 3, 1) := by decide +kernel
theorem dX2_partings_4 : decode cX2_partings 4 = .ok (.iload_n 3, 1) := by decide +kernel
theorem dX2_partings_5 : decode cX2_partings 5 = .ok (.aload_n 0, 1) := by decide +kernel
theorem dX2_partings_6 : decode cX2_partings 6 = .ok (.getfield 40, 3) := by decide +kernel
theorem dX2_partings_9 : decode cX2_partings 9 = .ok (.if_icmp .ge 41, 3) := by decide +kernel
theorem dX2_partings_12 : decode cX2_partings 12 = .ok (.aload_n 0, 1) := by decide +kernel
theorem dX2_partings_13 : decode cX2_partings 13 = .ok (.getfield 24, 3) := by decide +kernel
theorem dX2_partings_16 : decode cX2_partings 16 = .ok (.iconst 2, 1) := by decide +kernel
theorem dX2_partings_17 : decode cX2_partings 17 = .ok (.iload_n 3, 1) := by decide +kernel
theorem dX2_partings_18 : decode cX2_partings 18 = .ok (.imul, 1) := by decide +kernel
theorem dX2_partings_19 : decode cX2_partings 19 = .ok (.iaload, 1) := by decide +kernel
theorem dX2_partings_20 : decode cX2_partings 20 = .ok (.iload_n 1, 1) := by decide +kernel
theorem dX2_partings_21 : decode cX2_partings 21 = .ok (.invokestatic 80, 3) := by decide +kernel
theorem dX2_partings_24 : decode cX2_partings 24 = .ok (.aload_n 0, 1) := by decide +kernel
theorem dX2_partings_25 : decode cX2_partings 25 = .ok (.getfield 24, 3) := by decide +kernel
theorem dX2_partings_28 : decode cX2_partings 28 = .ok (.iconst 2, 1) := by decide +kernel
theorem dX2_partings_29 : decode cX2_partings 29 = .ok (.iload_n 3, 1) := by decide +kernel
theorem dX2_partings_30 : decode cX2_partings 30 = .ok (.imul, 1) := by decide +kernel
theorem dX2_partings_31 : decode cX2_partings 31 = .ok (.iconst 1, 1) := by decide +kernel
theorem dX2_partings_32 : decode cX2_partings 32 = .ok (.iadd, 1) := by decide +kernel
theorem dX2_partings_33 : decode cX2_partings 33 = .ok (.iaload, 1) := by decide +kernel
theorem dX2_partings_34 : decode cX2_partings 34 = .ok (.iload_n 1, 1) := by decide +kernel
theorem dX2_partings_35 : decode cX2_partings 35 = .ok (.invokestatic 80, 3) := by decide +kernel
theorem dX2_partings_38 : decode cX2_partings 38 = .ok (.if_icmp .eq 6, 3) := by decide +kernel
theorem dX2_partings_41 : decode cX2_partings 41 = .ok (.iinc 2 1, 3) := by decide +kernel
theorem dX2_partings_44 : decode cX2_partings 44 = .ok (.iinc 3 1, 3) := by decide +kernel
theorem dX2_partings_47 : decode cX2_partings 47 = .ok (.goto (-43), 3) := by decide +kernel
theorem dX2_partings_50 : decode cX2_partings 50 = .ok (.iload_n 2, 1) := by decide +kernel
theorem dX2_partings_51 : decode cX2_partings 51 = .ok (.ireturn, 1) := by decide +kernel
theorem dX2_campOf_0 : decode cX2_campOf 0 = .ok (.iload_n 1, 1) := by decide +kernel
theorem dX2_campOf_1 : decode cX2_campOf 1 = .ok (.iload_n 0, 1) := by decide +kernel
theorem dX2_campOf_2 : decode cX2_campOf 2 = .ok (.iconst 1, 1) := by decide +kernel
theorem dX2_campOf_3 : decode cX2_campOf 3 = .ok (.ishr, 1) := by decide +kernel
theorem dX2_campOf_4 : decode cX2_campOf 4 = .ok (.ishr, 1) := by decide +kernel
theorem dX2_campOf_5 : decode cX2_campOf 5 = .ok (.iconst 1, 1) := by decide +kernel
theorem dX2_campOf_6 : decode cX2_campOf 6 = .ok (.iand, 1) := by decide +kernel
theorem dX2_campOf_7 : decode cX2_campOf 7 = .ok (.istore_n 2, 1) := by decide +kernel
theorem dX2_campOf_8 : decode cX2_campOf 8 = .ok (.iload_n 2, 1) := by decide +kernel
theorem dX2_campOf_9 : decode cX2_campOf 9 = .ok (.iload_n 0, 1) := by decide +kernel
theorem dX2_campOf_10 : decode cX2_campOf 10 = .ok (.iconst 1, 1) := by decide +kernel
theorem dX2_campOf_11 : decode cX2_campOf 11 = .ok (.iand, 1) := by decide +kernel
theorem dX2_campOf_12 : decode cX2_campOf 12 = .ok (.ixor, 1) := by decide +kernel
theorem dX2_campOf_13 : decode cX2_campOf 13 = .ok (.ireturn, 1) := by decide +kernel
theorem dX2_personByDraw_0 : decode cX2_personByDraw 0 = .ok (.aload_n 0, 1) := by decide +kernel
theorem dX2_personByDraw_1 : decode cX2_personByDraw 1 = .ok (.getfield 30, 3) := by decide +kernel
theorem dX2_personByDraw_4 : decode cX2_personByDraw 4 = .ok (.ifCond .gt 7, 3) := by decide +kernel
theorem dX2_personByDraw_7 : decode cX2_personByDraw 7 = .ok (.iconst 0, 1) := by decide +kernel
theorem dX2_personByDraw_8 : decode cX2_personByDraw 8 = .ok (.goto 12, 3) := by decide +kernel
theorem dX2_personByDraw_11 : decode cX2_personByDraw 11 = .ok (.iload_n 1, 1) := by decide +kernel
theorem dX2_personByDraw_12 : decode cX2_personByDraw 12 = .ok (.bipush 8, 2) := by decide +kernel
theorem dX2_personByDraw_14 : decode cX2_personByDraw 14 = .ok (.idiv, 1) := by decide +kernel
theorem dX2_personByDraw_15 : decode cX2_personByDraw 15 = .ok (.aload_n 0, 1) := by decide +kernel
theorem dX2_personByDraw_16 : decode cX2_personByDraw 16 = .ok (.getfield 30, 3) := by decide +kernel
theorem dX2_personByDraw_19 : decode cX2_personByDraw 19 = .ok (.irem, 1) := by decide +kernel
theorem dX2_personByDraw_20 : decode cX2_personByDraw 20 = .ok (.ireturn, 1) := by decide +kernel
theorem dJ6_bitCount_0f7a4_0 : decode cJ6_bitCount_0f7a4 0 = .ok (.iload_n 0, 1) := by decide +kernel
theorem dJ6_bitCount_0f7a4_1 : decode cJ6_bitCount_0f7a4 1 = .ok (.iload_n 0, 1) := by decide +kernel
theorem dJ6_bitCount_0f7a4_2 : decode cJ6_bitCount_0f7a4 2 = .ok (.iconst 1, 1) := by decide +kernel
theorem dJ6_bitCount_0f7a4_3 : decode cJ6_bitCount_0f7a4 3 = .ok (.iushr, 1) := by decide +kernel
theorem dJ6_bitCount_0f7a4_4 : decode cJ6_bitCount_0f7a4 4 = .ok (.ldc_w 265, 3) := by decide +kernel
theorem dJ6_bitCount_0f7a4_7 : decode cJ6_bitCount_0f7a4 7 = .ok (.iand, 1) := by decide +kernel
theorem dJ6_bitCount_0f7a4_8 : decode cJ6_bitCount_0f7a4 8 = .ok (.isub, 1) := by decide +kernel
theorem dJ6_bitCount_0f7a4_9 : decode cJ6_bitCount_0f7a4 9 = .ok (.istore_n 0, 1) := by decide +kernel
theorem dJ6_bitCount_0f7a4_10 : decode cJ6_bitCount_0f7a4 10 = .ok (.iload_n 0, 1) := by decide +kernel
theorem dJ6_bitCount_0f7a4_11 : decode cJ6_bitCount_0f7a4 11 = .ok (.ldc_w 266, 3) := by decide +kernel
theorem dJ6_bitCount_0f7a4_14 : decode cJ6_bitCount_0f7a4 14 = .ok (.iand, 1) := by decide +kernel
theorem dJ6_bitCount_0f7a4_15 : decode cJ6_bitCount_0f7a4 15 = .ok (.iload_n 0, 1) := by decide +kernel
theorem dJ6_bitCount_0f7a4_16 : decode cJ6_bitCount_0f7a4 16 = .ok (.iconst 2, 1) := by decide +kernel
theorem dJ6_bitCount_0f7a4_17 : decode cJ6_bitCount_0f7a4 17 = .ok (.iushr, 1) := by decide +kernel
theorem dJ6_bitCount_0f7a4_18 : decode cJ6_bitCount_0f7a4 18 = .ok (.ldc_w 266, 3) := by decide +kernel
theorem dJ6_bitCount_0f7a4_21 : decode cJ6_bitCount_0f7a4 21 = .ok (.iand, 1) := by decide +kernel
theorem dJ6_bitCount_0f7a4_22 : decode cJ6_bitCount_0f7a4 22 = .ok (.iadd, 1) := by decide +kernel
theorem dJ6_bitCount_0f7a4_23 : decode cJ6_bitCount_0f7a4 23 = .ok (.istore_n 0, 1) := by decide +kernel
theorem dJ6_bitCount_0f7a4_24 : decode cJ6_bitCount_0f7a4 24 = .ok (.iload_n 0, 1) := by decide +kernel
theorem dJ6_bitCount_0f7a4_25 : decode cJ6_bitCount_0f7a4 25 = .ok (.iload_n 0, 1) := by decide +kernel
theorem dJ6_bitCount_0f7a4_26 : decode cJ6_bitCount_0f7a4 26 = .ok (.iconst 4, 1) := by decide +kernel
theorem dJ6_bitCount_0f7a4_27 : decode cJ6_bitCount_0f7a4 27 = .ok (.iushr, 1) := by decide +kernel
theorem dJ6_bitCount_0f7a4_28 : decode cJ6_bitCount_0f7a4 28 = .ok (.iadd, 1) := by decide +kernel
theorem dJ6_bitCount_0f7a4_29 : decode cJ6_bitCount_0f7a4 29 = .ok (.ldc_w 267, 3) := by decide +kernel
theorem dJ6_bitCount_0f7a4_32 : decode cJ6_bitCount_0f7a4 32 = .ok (.iand, 1) := by decide +kernel
theorem dJ6_bitCount_0f7a4_33 : decode cJ6_bitCount_0f7a4 33 = .ok (.istore_n 0, 1) := by decide +kernel
theorem dJ6_bitCount_0f7a4_34 : decode cJ6_bitCount_0f7a4 34 = .ok (.iload_n 0, 1) := by decide +kernel
theorem dJ6_bitCount_0f7a4_35 : decode cJ6_bitCount_0f7a4 35 = .ok (.iload_n 0, 1) := by decide +kernel
theorem dJ6_bitCount_0f7a4_36 : decode cJ6_bitCount_0f7a4 36 = .ok (.bipush 8, 2) := by decide +kernel
theorem dJ6_bitCount_0f7a4_38 : decode cJ6_bitCount_0f7a4 38 = .ok (.iushr, 1) := by decide +kernel
theorem dJ6_bitCount_0f7a4_39 : decode cJ6_bitCount_0f7a4 39 = .ok (.iadd, 1) := by decide +kernel
theorem dJ6_bitCount_0f7a4_40 : decode cJ6_bitCount_0f7a4 40 = .ok (.istore_n 0, 1) := by decide +kernel
theorem dJ6_bitCount_0f7a4_41 : decode cJ6_bitCount_0f7a4 41 = .ok (.iload_n 0, 1) := by decide +kernel
theorem dJ6_bitCount_0f7a4_42 : decode cJ6_bitCount_0f7a4 42 = .ok (.iload_n 0, 1) := by decide +kernel
theorem dJ6_bitCount_0f7a4_43 : decode cJ6_bitCount_0f7a4 43 = .ok (.bipush 16, 2) := by decide +kernel
theorem dJ6_bitCount_0f7a4_45 : decode cJ6_bitCount_0f7a4 45 = .ok (.iushr, 1) := by decide +kernel
theorem dJ6_bitCount_0f7a4_46 : decode cJ6_bitCount_0f7a4 46 = .ok (.iadd, 1) := by decide +kernel
theorem dJ6_bitCount_0f7a4_47 : decode cJ6_bitCount_0f7a4 47 = .ok (.istore_n 0, 1) := by decide +kernel
theorem dJ6_bitCount_0f7a4_48 : decode cJ6_bitCount_0f7a4 48 = .ok (.iload_n 0, 1) := by decide +kernel
theorem dJ6_bitCount_0f7a4_49 : decode cJ6_bitCount_0f7a4 49 = .ok (.bipush 63, 2) := by decide +kernel
theorem dJ6_bitCount_0f7a4_51 : decode cJ6_bitCount_0f7a4 51 = .ok (.iand, 1) := by decide +kernel
theorem dJ6_bitCount_0f7a4_52 : decode cJ6_bitCount_0f7a4 52 = .ok (.ireturn, 1) := by decide +kernel
