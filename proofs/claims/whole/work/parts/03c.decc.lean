theorem dX12_init_0 : decode cX12_init 0 = .ok (.aload_n 0, 1) := by decide +kernel
theorem dX12_init_1 : decode cX12_init 1 = .ok (.invokespecial 3, 3) := by decide +kernel
theorem dX12_init_4 : decode cX12_init 4 = .ok (.aload_n 0, 1) := by decide +kernel
theorem dX12_init_5 : decode cX12_init 5 = .ok (.bipush 23, 2) := by decide +kernel
theorem dX12_init_7 : decode cX12_init 7 = .ok (.newarray .int, 2) := by decide +kernel
theorem dX12_init_9 : decode cX12_init 9 = .ok (.putfield 9, 3) := by decide +kernel
theorem dX12_init_12 : decode cX12_init 12 = .ok (.aload_n 0, 1) := by decide +kernel
theorem dX12_init_13 : decode cX12_init 13 = .ok (.bipush 9, 2) := by decide +kernel
theorem dX12_init_15 : decode cX12_init 15 = .ok (.newarray .int, 2) := by decide +kernel
theorem dX12_init_17 : decode cX12_init 17 = .ok (.putfield 13, 3) := by decide +kernel
theorem dX12_init_20 : decode cX12_init 20 = .ok (.aload_n 0, 1) := by decide +kernel
theorem dX12_init_21 : decode cX12_init 21 = .ok (.bipush 81, 2) := by decide +kernel
theorem dX12_init_23 : decode cX12_init 23 = .ok (.newarray .int, 2) := by decide +kernel
theorem dX12_init_25 : decode cX12_init 25 = .ok (.putfield 16, 3) := by decide +kernel
theorem dX12_init_28 : decode cX12_init 28 = .ok (.aload_n 0, 1) := by decide +kernel
theorem dX12_init_29 : decode cX12_init 29 = .ok (.bipush 8, 2) := by decide +kernel
theorem dX12_init_31 : decode cX12_init 31 = .ok (.newarray .int, 2) := by decide +kernel
theorem dX12_init_33 : decode cX12_init 33 = .ok (.putfield 19, 3) := by decide +kernel
theorem dX12_init_36 : decode cX12_init 36 = .ok (.aload_n 0, 1) := by decide +kernel
theorem dX12_init_37 : decode cX12_init 37 = .ok (.bipush 8, 2) := by decide +kernel
theorem dX12_init_39 : decode cX12_init 39 = .ok (.newarray .int, 2) := by decide +kernel
theorem dX12_init_41 : decode cX12_init 41 = .ok (.putfield 22, 3) := by decide +kernel
theorem dX12_init_44 : decode cX12_init 44 = .ok (.aload_n 0, 1) := by decide +kernel
theorem dX12_init_45 : decode cX12_init 45 = .ok (.bipush 8, 2) := by decide +kernel
theorem dX12_init_47 : decode cX12_init 47 = .ok (.newarray .int, 2) := by decide +kernel
theorem dX12_init_49 : decode cX12_init 49 = .ok (.putfield 25, 3) := by decide +kernel
theorem dX12_init_52 : decode cX12_init 52 = .ok (.aload_n 0, 1) := by decide +kernel
theorem dX12_init_53 : decode cX12_init 53 = .ok (.bipush 20, 2) := by decide +kernel
theorem dX12_init_55 : decode cX12_init 55 = .ok (.putfield 28, 3) := by decide +kernel
theorem dX12_init_58 : decode cX12_init 58 = .ok (.aload_n 0, 1) := by decide +kernel
theorem dX12_init_59 : decode cX12_init 59 = .ok (.bipush 99, 2) := by decide +kernel
theorem dX12_init_61 : decode cX12_init 61 = .ok (.putfield 32, 3) := by decide +kernel
theorem dX12_init_64 : decode cX12_init 64 = .ok (.aload_n 0, 1) := by decide +kernel
theorem dX12_init_65 : decode cX12_init 65 = .ok (.bipush 80, 2) := by decide +kernel
theorem dX12_init_67 : decode cX12_init 67 = .ok (.newarray .byte, 2) := by decide +kernel
theorem dX12_init_69 : decode cX12_init 69 = .ok (.putfield 35, 3) := by decide +kernel
theorem dX12_init_72 : decode cX12_init 72 = .ok (.aload_n 0, 1) := by decide +kernel
theorem dX12_init_73 : decode cX12_init 73 = .ok (.bipush 20, 2) := by decide +kernel
theorem dX12_init_75 : decode cX12_init 75 = .ok (.newarray .long, 2) := by decide +kernel
theorem dX12_init_77 : decode cX12_init 77 = .ok (.putfield 39, 3) := by decide +kernel
theorem dX12_init_80 : decode cX12_init 80 = .ok (.aload_n 0, 1) := by decide +kernel
theorem dX12_init_81 : decode cX12_init 81 = .ok (.bipush 9, 2) := by decide +kernel
theorem dX12_init_83 : decode cX12_init 83 = .ok (.newarray .int, 2) := by decide +kernel
theorem dX12_init_85 : decode cX12_init 85 = .ok (.putfield 43, 3) := by decide +kernel
theorem dX12_init_88 : decode cX12_init 88 = .ok (.aload_n 0, 1) := by decide +kernel
theorem dX12_init_89 : decode cX12_init 89 = .ok (.bipush 72, 2) := by decide +kernel
theorem dX12_init_91 : decode cX12_init 91 = .ok (.newarray .int, 2) := by decide +kernel
theorem dX12_init_93 : decode cX12_init 93 = .ok (.putfield 46, 3) := by decide +kernel
theorem dX12_init_96 : decode cX12_init 96 = .ok (.aload_n 0, 1) := by decide +kernel
theorem dX12_init_97 : decode cX12_init 97 = .ok (.bipush 81, 2) := by decide +kernel
theorem dX12_init_99 : decode cX12_init 99 = .ok (.newarray .int, 2) := by decide +kernel
theorem dX12_init_101 : decode cX12_init 101 = .ok (.putfield 49, 3) := by decide +kernel
theorem dX12_init_104 : decode cX12_init 104 = .ok (.aload_n 0, 1) := by decide +kernel
theorem dX12_init_105 : decode cX12_init 105 = .ok (.bipush 40, 2) := by decide +kernel
theorem dX12_init_107 : decode cX12_init 107 = .ok (.newarray .int, 2) := by decide +kernel
theorem dX12_init_109 : decode cX12_init 109 = .ok (.putfield 52, 3) := by decide +kernel
theorem dX12_init_112 : decode cX12_init 112 = .ok (.aload_n 0, 1) := by decide +kernel
theorem dX12_init_113 : decode cX12_init 113 = .ok (.bipush 40, 2) := by decide +kernel
theorem dX12_init_115 : decode cX12_init 115 = .ok (.newarray .byte, 2) := by decide +kernel
theorem dX12_init_117 : decode cX12_init 117 = .ok (.putfield 55, 3) := by decide +kernel
theorem dX12_init_120 : decode cX12_init 120 = .ok (.aload_n 0, 1) := by decide +kernel
theorem dX12_init_121 : decode cX12_init 121 = .ok (.bipush 6, 2) := by decide +kernel
theorem dX12_init_123 : decode cX12_init 123 = .ok (.newarray .int, 2) := by decide +kernel
theorem dX12_init_125 : decode cX12_init 125 = .ok (.putfield 58, 3) := by decide +kernel
theorem dX12_init_128 : decode cX12_init 128 = .ok (.aload_n 0, 1) := by decide +kernel
theorem dX12_init_129 : decode cX12_init 129 = .ok (.sipush 276, 3) := by decide +kernel
theorem dX12_init_132 : decode cX12_init 132 = .ok (.newarray .int, 2) := by decide +kernel
theorem dX12_init_134 : decode cX12_init 134 = .ok (.putfield 61, 3) := by decide +kernel
theorem dX12_init_137 : decode cX12_init 137 = .ok (.aload_n 0, 1) := by decide +kernel
theorem dX12_init_138 : decode cX12_init 138 = .ok (.bipush 23, 2) := by decide +kernel
theorem dX12_init_140 : decode cX12_init 140 = .ok (.newarray .int, 2) := by decide +kernel
theorem dX12_init_142 : decode cX12_init 142 = .ok (.putfield 64, 3) := by decide +kernel
theorem dX12_init_145 : decode cX12_init 145 = .ok (.aload_n 0, 1) := by decide +kernel
theorem dX12_init_146 : decode cX12_init 146 = .ok (.sipush 160, 3) := by decide +kernel
theorem dX12_init_149 : decode cX12_init 149 = .ok (.newarray .int, 2) := by decide +kernel
theorem dX12_init_151 : decode cX12_init 151 = .ok (.putfield 67, 3) := by decide +kernel
theorem dX12_init_154 : decode cX12_init 154 = .ok (.aload_n 0, 1) := by decide +kernel
theorem dX12_init_155 : decode cX12_init 155 = .ok (.bipush 13, 2) := by decide +kernel
theorem dX12_init_157 : decode cX12_init 157 = .ok (.newarray .int, 2) := by decide +kernel
theorem dX12_init_159 : decode cX12_init 159 = .ok (.putfield 70, 3) := by decide +kernel
theorem dX12_init_162 : decode cX12_init 162 = .ok (.aload_n 0, 1) := by decide +kernel
theorem dX12_init_163 : decode cX12_init 163 = .ok (.sipush 25344, 3) := by decide +kernel
theorem dX12_init_166 : decode cX12_init 166 = .ok (.newarray .int, 2) := by decide +kernel
theorem dX12_init_168 : decode cX12_init 168 = .ok (.putfield 73, 3) := by decide +kernel
theorem dX12_init_171 : decode cX12_init 171 = .ok (.aload_n 0, 1) := by decide +kernel
theorem dX12_init_172 : decode cX12_init 172 = .ok (.bipush 8, 2) := by decide +kernel
theorem dX12_init_174 : decode cX12_init 174 = .ok (.newarray .int, 2) := by decide +kernel
theorem dX12_init_176 : decode cX12_init 176 = .ok (.putfield 76, 3) := by decide +kernel
theorem dX12_init_179 : decode cX12_init 179 = .ok (.aload_n 0, 1) := by decide +kernel
theorem dX12_init_180 : decode cX12_init 180 = .ok (.bipush 8, 2) := by decide +kernel
theorem dX12_init_182 : decode cX12_init 182 = .ok (.newarray .int, 2) := by decide +kernel
theorem dX12_init_184 : decode cX12_init 184 = .ok (.putfield 79, 3) := by decide +kernel
theorem dX12_init_187 : decode cX12_init 187 = .ok (.aload_n 0, 1) := by decide +kernel
theorem dX12_init_188 : decode cX12_init 188 = .ok (.bipush 10, 2) := by decide +kernel
theorem dX12_init_190 : decode cX12_init 190 = .ok (.newarray .int, 2) := by decide +kernel
theorem dX12_init_192 : decode cX12_init 192 = .ok (.putfield 82, 3) := by decide +kernel
theorem dX12_init_195 : decode cX12_init 195 = .ok (.aload_n 0, 1) := by decide +kernel
theorem dX12_init_196 : decode cX12_init 196 = .ok (.sipush 2304, 3) := by decide +kernel
theorem dX12_init_199 : decode cX12_init 199 = .ok (.newarray .boolean, 2) := by decide +kernel
theorem dX12_init_201 : decode cX12_init 201 = .ok (.putfield 85, 3) := by decide +kernel
theorem dX12_init_204 : decode cX12_init 204 = .ok (.aload_n 0, 1) := by decide +kernel
theorem dX12_init_205 : decode cX12_init 205 = .ok (.sipush 2304, 3) := by decide +kernel
theorem dX12_init_208 : decode cX12_init 208 = .ok (.newarray .boolean, 2) := by decide +kernel
theorem dX12_init_210 : decode cX12_init 210 = .ok (.putfield 89, 3) := by decide +kernel
theorem dX12_init_213 : decode cX12_init 213 = .ok (.aload_n 0, 1) := by decide +kernel
theorem dX12_init_214 : decode cX12_init 214 = .ok (.bipush 96, 2) := by decide +kernel
theorem dX12_init_216 : decode cX12_init 216 = .ok (.newarray .byte, 2) := by decide +kernel
theorem dX12_init_218 : decode cX12_init 218 = .ok (.putfield 92, 3) := by decide +kernel
theorem dX12_init_221 : decode cX12_init 221 = .ok (.aload_n 0, 1) := by decide +kernel
theorem dX12_init_222 : decode cX12_init 222 = .ok (.bipush 9, 2) := by decide +kernel
theorem dX12_init_224 : decode cX12_init 224 = .ok (.newarray .int, 2) := by decide +kernel
theorem dX12_init_226 : decode cX12_init 226 = .ok (.putfield 95, 3) := by decide +kernel
theorem dX12_init_229 : decode cX12_init 229 = .ok (.aload_n 0, 1) := by decide +kernel
theorem dX12_init_230 : decode cX12_init 230 = .ok (.bipush 8, 2) := by decide +kernel
theorem dX12_init_232 : decode cX12_init 232 = .ok (.newarray .int, 2) := by decide +kernel
theorem dX12_init_234 : decode cX12_init 234 = .ok (.putfield 98, 3) := by decide +kernel
theorem dX12_init_237 : decode cX12_init 237 = .ok (.aload_n 0, 1) := by decide +kernel
theorem dX12_init_238 : decode cX12_init 238 = .ok (.bipush 12, 2) := by decide +kernel
theorem dX12_init_240 : decode cX12_init 240 = .ok (.newarray .byte, 2) := by decide +kernel
theorem dX12_init_242 : decode cX12_init 242 = .ok (.putfield 101, 3) := by decide +kernel
theorem dX12_init_245 : decode cX12_init 245 = .ok (.aload_n 0, 1) := by decide +kernel
theorem dX12_init_246 : decode cX12_init 246 = .ok (.sipush 169, 3) := by decide +kernel
theorem dX12_init_249 : decode cX12_init 249 = .ok (.newarray .int, 2) := by decide +kernel
theorem dX12_init_251 : decode cX12_init 251 = .ok (.putfield 104, 3) := by decide +kernel
theorem dX12_init_254 : decode cX12_init 254 = .ok (.aload_n 0, 1) := by decide +kernel
theorem dX12_init_255 : decode cX12_init 255 = .ok (.bipush 8, 2) := by decide +kernel
theorem dX12_init_257 : decode cX12_init 257 = .ok (.newarray .int, 2) := by decide +kernel
theorem dX12_init_259 : decode cX12_init 259 = .ok (.putfield 107, 3) := by decide +kernel
theorem dX12_init_262 : decode cX12_init 262 = .ok (.aload_n 0, 1) := by decide +kernel
theorem dX12_init_263 : decode cX12_init 263 = .ok (.bipush 23, 2) := by decide +kernel
theorem dX12_init_265 : decode cX12_init 265 = .ok (.newarray .int, 2) := by decide +kernel
theorem dX12_init_267 : decode cX12_init 267 = .ok (.putfield 110, 3) := by decide +kernel
theorem dX12_init_270 : decode cX12_init 270 = .ok (.aload_n 0, 1) := by decide +kernel
theorem dX12_init_271 : decode cX12_init 271 = .ok (.bipush 46, 2) := by decide +kernel
theorem dX12_init_273 : decode cX12_init 273 = .ok (.newarray .int, 2) := by decide +kernel
theorem dX12_init_275 : decode cX12_init 275 = .ok (.putfield 113, 3) := by decide +kernel
theorem dX12_init_278 : decode cX12_init 278 = .ok (.aload_n 0, 1) := by decide +kernel
theorem dX12_init_279 : decode cX12_init 279 = .ok (.iconst 2, 1) := by decide +kernel
theorem dX12_init_280 : decode cX12_init 280 = .ok (.newarray .boolean, 2) := by decide +kernel
theorem dX12_init_282 : decode cX12_init 282 = .ok (.putfield 116, 3) := by decide +kernel
theorem dX12_init_285 : decode cX12_init 285 = .ok (.aload_n 0, 1) := by decide +kernel
theorem dX12_init_286 : decode cX12_init 286 = .ok (.iconst 2, 1) := by decide +kernel
theorem dX12_init_287 : decode cX12_init 287 = .ok (.newarray .int, 2) := by decide +kernel
theorem dX12_init_289 : decode cX12_init 289 = .ok (.putfield 119, 3) := by decide +kernel
theorem dX12_init_292 : decode cX12_init 292 = .ok (.aload_n 0, 1) := by decide +kernel
theorem dX12_init_293 : decode cX12_init 293 = .ok (.getfield 9, 3) := by decide +kernel
theorem dX12_init_296 : decode cX12_init 296 = .ok (.iconst 3, 1) := by decide +kernel
theorem dX12_init_297 : decode cX12_init 297 = .ok (.iconst 4, 1) := by decide +kernel
theorem dX12_init_298 : decode cX12_init 298 = .ok (.iastore, 1) := by decide +kernel
theorem dX12_init_299 : decode cX12_init 299 = .ok (.iconst 0, 1) := by decide +kernel
theorem dX12_init_300 : decode cX12_init 300 = .ok (.istore_n 1, 1) := by decide +kernel
theorem dX12_init_301 : decode cX12_init 301 = .ok (.iload_n 1, 1) := by decide +kernel
theorem dX12_init_302 : decode cX12_init 302 = .ok (.bipush 81, 2) := by decide +kernel
theorem dX12_init_304 : decode cX12_init 304 = .ok (.if_icmp .ge 28, 3) := by decide +kernel
theorem dX12_init_307 : decode cX12_init 307 = .ok (.aload_n 0, 1) := by decide +kernel
theorem dX12_init_308 : decode cX12_init 308 = .ok (.getfield 16, 3) := by decide +kernel
theorem dX12_init_311 : decode cX12_init 311 = .ok (.iload_n 1, 1) := by decide +kernel
theorem dX12_init_312 : decode cX12_init 312 = .ok (.iload_n 1, 1) := by decide +kernel
theorem dX12_init_313 : decode cX12_init 313 = .ok (.bipush 10, 2) := by decide +kernel
theorem dX12_init_315 : decode cX12_init 315 = .ok (.irem, 1) := by decide +kernel
theorem dX12_init_316 : decode cX12_init 316 = .ok (.ifCond .ne 7, 3) := by decide +kernel
theorem dX12_init_319 : decode cX12_init 319 = .ok (.iconst 0, 1) := by decide +kernel
theorem dX12_init_320 : decode cX12_init 320 = .ok (.goto 5, 3) := by decide +kernel
theorem dX12_init_323 : decode cX12_init 323 = .ok (.ldc 122, 2) := by decide +kernel
theorem dX12_init_325 : decode cX12_init 325 = .ok (.iastore, 1) := by decide +kernel
theorem dX12_init_326 : decode cX12_init 326 = .ok (.iinc 1 1, 3) := by decide +kernel
theorem dX12_init_329 : decode cX12_init 329 = .ok (.goto (-28), 3) := by decide +kernel
theorem dX12_init_332 : decode cX12_init 332 = .ok (.return_, 1) := by decide +kernel
theorem dX12_thrown_0 : decode cX12_thrown 0 = .ok (.aload_n 0, 1) := by decide +kernel
theorem dX12_thrown_1 : decode cX12_thrown 1 = .ok (.getfield 123, 3) := by decide +kernel
theorem dX12_thrown_4 : decode cX12_thrown 4 = .ok (.ireturn, 1) := by decide +kernel
theorem dX12_in_0 : decode cX12_in 0 = .ok (.iload_n 0, 1) := by decide +kernel
theorem dX12_in_1 : decode cX12_in 1 = .ok (.iload_n 1, 1) := by decide +kernel
theorem dX12_in_2 : decode cX12_in 2 = .ok (.if_icmp .lt 12, 3) := by decide +kernel
theorem dX12_in_5 : decode cX12_in 5 = .ok (.iload_n 0, 1) := by decide +kernel
theorem dX12_in_6 : decode cX12_in 6 = .ok (.iload_n 2, 1) := by decide +kernel
theorem dX12_in_7 : decode cX12_in 7 = .ok (.if_icmp .gt 7, 3) := by decide +kernel
theorem dX12_in_10 : decode cX12_in 10 = .ok (.iconst 1, 1) := by decide +kernel
theorem dX12_in_11 : decode cX12_in 11 = .ok (.goto 4, 3) := by decide +kernel
theorem dX12_in_14 : decode cX12_in 14 = .ok (.iconst 0, 1) := by decide +kernel
theorem dX12_in_15 : decode cX12_in 15 = .ok (.ireturn, 1) := by decide +kernel
theorem dX12_has_0 : decode cX12_has 0 = .ok (.iload_n 0, 1) := by decide +kernel
theorem dX12_has_1 : decode cX12_has 1 = .ok (.iload_n 1, 1) := by decide +kernel
theorem dX12_has_2 : decode cX12_has 2 = .ok (.ishr, 1) := by decide +kernel
theorem dX12_has_3 : decode cX12_has 3 = .ok (.iconst 1, 1) := by decide +kernel
theorem dX12_has_4 : decode cX12_has 4 = .ok (.iand, 1) := by decide +kernel
theorem dX12_has_5 : decode cX12_has 5 = .ok (.iconst 1, 1) := by decide +kernel
theorem dX12_has_6 : decode cX12_has 6 = .ok (.if_icmp .ne 7, 3) := by decide +kernel
theorem dX12_has_9 : decode cX12_has 9 = .ok (.iconst 1, 1) := by decide +kernel
theorem dX12_has_10 : decode cX12_has 10 = .ok (.goto 4, 3) := by decide +kernel
theorem dX12_has_13 : decode cX12_has 13 = .ok (.iconst 0, 1) := by decide +kernel
theorem dX12_has_14 : decode cX12_has 14 = .ok (.ireturn, 1) := by decide +kernel
theorem dX12_lost_0 : decode cX12_lost 0 = .ok (.aload_n 0, 1) := by decide +kernel
theorem dX12_lost_1 : decode cX12_lost 1 = .ok (.iconst 1, 1) := by decide +kernel
theorem dX12_lost_2 : decode cX12_lost 2 = .ok (.putfield 123, 3) := by decide +kernel
theorem dX12_lost_5 : decode cX12_lost 5 = .ok (.iconst 0, 1) := by decide +kernel
theorem dX12_lost_6 : decode cX12_lost 6 = .ok (.ireturn, 1) := by decide +kernel
theorem dX12_tell_0 : decode cX12_tell 0 = .ok (.aload_n 0, 1) := by decide +kernel
theorem dX12_tell_1 : decode cX12_tell 1 = .ok (.getfield 39, 3) := by decide +kernel
theorem dX12_tell_4 : decode cX12_tell 4 = .ok (.aload_n 0, 1) := by decide +kernel
theorem dX12_tell_5 : decode cX12_tell 5 = .ok (.getfield 126, 3) := by decide +kernel
theorem dX12_tell_8 : decode cX12_tell 8 = .ok (.lload_n 1, 1) := by decide +kernel
theorem dX12_tell_9 : decode cX12_tell 9 = .ok (.lastore, 1) := by decide +kernel
theorem dX12_tell_10 : decode cX12_tell 10 = .ok (.aload_n 0, 1) := by decide +kernel
theorem dX12_tell_11 : decode cX12_tell 11 = .ok (.dup, 1) := by decide +kernel
theorem dX12_tell_12 : decode cX12_tell 12 = .ok (.getfield 126, 3) := by decide +kernel
theorem dX12_tell_15 : decode cX12_tell 15 = .ok (.iconst 1, 1) := by decide +kernel
theorem dX12_tell_16 : decode cX12_tell 16 = .ok (.iadd, 1) := by decide +kernel
theorem dX12_tell_17 : decode cX12_tell 17 = .ok (.putfield 126, 3) := by decide +kernel
theorem dX12_tell_20 : decode cX12_tell 20 = .ok (.return_, 1) := by decide +kernel
theorem dX12_isVillage_0 : decode cX12_isVillage 0 = .ok (.iload_n 1, 1) := by decide +kernel
theorem dX12_isVillage_1 : decode cX12_isVillage 1 = .ok (.iconst 0, 1) := by decide +kernel
theorem dX12_isVillage_2 : decode cX12_isVillage 2 = .ok (.aload_n 0, 1) := by decide +kernel
theorem dX12_isVillage_3 : decode cX12_isVillage 3 = .ok (.getfield 129, 3) := by decide +kernel
theorem dX12_isVillage_6 : decode cX12_isVillage 6 = .ok (.iconst 1, 1) := by decide +kernel
theorem dX12_isVillage_7 : decode cX12_isVillage 7 = .ok (.isub, 1) := by decide +kernel
theorem dX12_isVillage_8 : decode cX12_isVillage 8 = .ok (.invokestatic 132, 3) := by decide +kernel
theorem dX12_isVillage_11 : decode cX12_isVillage 11 = .ok (.ireturn, 1) := by decide +kernel
theorem dX12_isFeast_0 : decode cX12_isFeast 0 = .ok (.iload_n 1, 1) := by decide +kernel
theorem dX12_isFeast_1 : decode cX12_isFeast 1 = .ok (.iconst 0, 1) := by decide +kernel
theorem dX12_isFeast_2 : decode cX12_isFeast 2 = .ok (.aload_n 0, 1) := by decide +kernel
theorem dX12_isFeast_3 : decode cX12_isFeast 3 = .ok (.getfield 136, 3) := by decide +kernel
theorem dX12_isFeast_6 : decode cX12_isFeast 6 = .ok (.iconst 1, 1) := by decide +kernel
theorem dX12_isFeast_7 : decode cX12_isFeast 7 = .ok (.isub, 1) := by decide +kernel
theorem dX12_isFeast_8 : decode cX12_isFeast 8 = .ok (.invokestatic 132, 3) := by decide +kernel
theorem dX12_isFeast_11 : decode cX12_isFeast 11 = .ok (.ireturn, 1) := by decide +kernel
theorem dX12_sign_0 : decode cX12_sign 0 = .ok (.aload_n 0, 1) := by decide +kernel
theorem dX12_sign_1 : decode cX12_sign 1 = .ok (.iconst 0, 1) := by decide +kernel
theorem dX12_sign_2 : decode cX12_sign 2 = .ok (.putfield 123, 3) := by decide +kernel
theorem dX12_sign_5 : decode cX12_sign 5 = .ok (.aload_n 0, 1) := by decide +kernel
theorem dX12_sign_6 : decode cX12_sign 6 = .ok (.getfield 139, 3) := by decide +kernel
theorem dX12_sign_9 : decode cX12_sign 9 = .ok (.iconst 4, 1) := by decide +kernel
theorem dX12_sign_10 : decode cX12_sign 10 = .ok (.iadd, 1) := by decide +kernel
theorem dX12_sign_11 : decode cX12_sign 11 = .ok (.bipush 80, 2) := by decide +kernel
theorem dX12_sign_13 : decode cX12_sign 13 = .ok (.if_icmp .le 5, 3) := by decide +kernel
theorem dX12_sign_16 : decode cX12_sign 16 = .ok (.iconst (-1), 1) := by decide +kernel
theorem dX12_sign_17 : decode cX12_sign 17 = .ok (.ireturn, 1) := by decide +kernel
theorem dX12_sign_18 : decode cX12_sign 18 = .ok (.iconst 3, 1) := by decide +kernel
theorem dX12_sign_19 : decode cX12_sign 19 = .ok (.istore_n 2, 1) := by decide +kernel
theorem dX12_sign_20 : decode cX12_sign 20 = .ok (.iload_n 2, 1) := by decide +kernel
theorem dX12_sign_21 : decode cX12_sign 21 = .ok (.ifCond .lt 32, 3) := by decide +kernel
theorem dX12_sign_24 : decode cX12_sign 24 = .ok (.aload_n 0, 1) := by decide +kernel
theorem dX12_sign_25 : decode cX12_sign 25 = .ok (.getfield 35, 3) := by decide +kernel
theorem dX12_sign_28 : decode cX12_sign 28 = .ok (.aload_n 0, 1) := by decide +kernel
theorem dX12_sign_29 : decode cX12_sign 29 = .ok (.dup, 1) := by decide +kernel
theorem dX12_sign_30 : decode cX12_sign 30 = .ok (.getfield 139, 3) := by decide +kernel
theorem dX12_sign_33 : decode cX12_sign 33 = .ok (.dup_x1, 1) := by decide +kernel
theorem dX12_sign_34 : decode cX12_sign 34 = .ok (.iconst 1, 1) := by decide +kernel
theorem dX12_sign_35 : decode cX12_sign 35 = .ok (.iadd, 1) := by decide +kernel
theorem dX12_sign_36 : decode cX12_sign 36 = .ok (.putfield 139, 3) := by decide +kernel
theorem dX12_sign_39 : decode cX12_sign 39 = .ok (.iload_n 1, 1) := by decide +kernel
theorem dX12_sign_40 : decode cX12_sign 40 = .ok (.bipush 8, 2) := by decide +kernel
theorem dX12_sign_42 : decode cX12_sign 42 = .ok (.iload_n 2, 1) := by decide +kernel
theorem dX12_sign_43 : decode cX12_sign 43 = .ok (.imul, 1) := by decide +kernel
theorem dX12_sign_44 : decode cX12_sign 44 = .ok (.ishr, 1) := by decide +kernel
theorem dX12_sign_45 : decode cX12_sign 45 = .ok (.i2b, 1) := by decide +kernel
theorem dX12_sign_46 : decode cX12_sign 46 = .ok (.bastore, 1) := by decide +kernel
theorem dX12_sign_47 : decode cX12_sign 47 = .ok (.iinc 2 (-1), 3) := by decide +kernel
theorem dX12_sign_50 : decode cX12_sign 50 = .ok (.goto (-30), 3) := by decide +kernel
theorem dX12_sign_53 : decode cX12_sign 53 = .ok (.aload_n 0, 1) := by decide +kernel
theorem dX12_sign_54 : decode cX12_sign 54 = .ok (.getfield 139, 3) := by decide +kernel
theorem dX12_sign_57 : decode cX12_sign 57 = .ok (.ireturn, 1) := by decide +kernel
theorem dX12_end_0 : decode cX12_end 0 = .ok (.aload_n 0, 1) := by decide +kernel
theorem dX12_end_1 : decode cX12_end 1 = .ok (.iconst 0, 1) := by decide +kernel
theorem dX12_end_2 : decode cX12_end 2 = .ok (.putfield 123, 3) := by decide +kernel
theorem dX12_end_5 : decode cX12_end 5 = .ok (.iload_n 1, 1) := by decide +kernel
theorem dX12_end_6 : decode cX12_end 6 = .ok (.iconst 0, 1) := by decide +kernel
theorem dX12_end_7 : decode cX12_end 7 = .ok (.aload_n 0, 1) := by decide +kernel
theorem dX12_end_8 : decode cX12_end 8 = .ok (.getfield 139, 3) := by decide +kernel
theorem dX12_end_11 : decode cX12_end 11 = .ok (.invokestatic 132, 3) := by decide +kernel
theorem dX12_end_14 : decode cX12_end 14 = .ok (.ifCond .ne 5, 3) := by decide +kernel
theorem dX12_end_17 : decode cX12_end 17 = .ok (.iconst 0, 1) := by decide +kernel
theorem dX12_end_18 : decode cX12_end 18 = .ok (.ireturn, 1) := by decide +kernel
theorem dX12_end_19 : decode cX12_end 19 = .ok (.aload_n 0, 1) := by decide +kernel
theorem dX12_end_20 : decode cX12_end 20 = .ok (.iload_n 1, 1) := by decide +kernel
theorem dX12_end_21 : decode cX12_end 21 = .ok (.putfield 139, 3) := by decide +kernel
theorem dX12_end_24 : decode cX12_end 24 = .ok (.iconst 1, 1) := by decide +kernel
theorem dX12_end_25 : decode cX12_end 25 = .ok (.ireturn, 1) := by decide +kernel
theorem dX12_begin_0 : decode cX12_begin 0 = .ok (.aload_n 0, 1) := by decide +kernel
theorem dX12_begin_1 : decode cX12_begin 1 = .ok (.aload_n 1, 1) := by decide +kernel
theorem dX12_begin_2 : decode cX12_begin 2 = .ok (.putfield 142, 3) := by decide +kernel
theorem dX12_begin_5 : decode cX12_begin 5 = .ok (.aload_n 0, 1) := by decide +kernel
theorem dX12_begin_6 : decode cX12_begin 6 = .ok (.iload_n 2, 1) := by decide +kernel
theorem dX12_begin_7 : decode cX12_begin 7 = .ok (.putfield 145, 3) := by decide +kernel
theorem dX12_begin_10 : decode cX12_begin 10 = .ok (.aload_n 0, 1) := by decide +kernel
theorem dX12_begin_11 : decode cX12_begin 11 = .ok (.iload_n 3, 1) := by decide +kernel
theorem dX12_begin_12 : decode cX12_begin 12 = .ok (.putfield 148, 3) := by decide +kernel
theorem dX12_begin_15 : decode cX12_begin 15 = .ok (.aload_n 0, 1) := by decide +kernel
theorem dX12_begin_16 : decode cX12_begin 16 = .ok (.iconst 0, 1) := by decide +kernel
theorem dX12_begin_17 : decode cX12_begin 17 = .ok (.putfield 151, 3) := by decide +kernel
theorem dX12_begin_20 : decode cX12_begin 20 = .ok (.aload_n 0, 1) := by decide +kernel
theorem dX12_begin_21 : decode cX12_begin 21 = .ok (.iconst (-1), 1) := by decide +kernel
theorem dX12_begin_22 : decode cX12_begin 22 = .ok (.putfield 154, 3) := by decide +kernel
theorem dX12_begin_25 : decode cX12_begin 25 = .ok (.return_, 1) := by decide +kernel
theorem dX12_here_0 : decode cX12_here 0 = .ok (.aload_n 0, 1) := by decide +kernel
theorem dX12_here_1 : decode cX12_here 1 = .ok (.getfield 151, 3) := by decide +kernel
theorem dX12_here_4 : decode cX12_here 4 = .ok (.aload_n 0, 1) := by decide +kernel
theorem dX12_here_5 : decode cX12_here 5 = .ok (.getfield 145, 3) := by decide +kernel
theorem dX12_here_8 : decode cX12_here 8 = .ok (.if_icmp .ge 30, 3) := by decide +kernel
theorem dX12_here_11 : decode cX12_here 11 = .ok (.aload_n 0, 1) := by decide +kernel
theorem dX12_here_12 : decode cX12_here 12 = .ok (.getfield 151, 3) := by decide +kernel
theorem dX12_here_15 : decode cX12_here 15 = .ok (.aload_n 0, 1) := by decide +kernel
theorem dX12_here_16 : decode cX12_here 16 = .ok (.getfield 148, 3) := by decide +kernel
theorem dX12_here_19 : decode cX12_here 19 = .ok (.if_icmp .ge 19, 3) := by decide +kernel
theorem dX12_here_22 : decode cX12_here 22 = .ok (.aload_n 0, 1) := by decide +kernel
theorem dX12_here_23 : decode cX12_here 23 = .ok (.getfield 142, 3) := by decide +kernel
theorem dX12_here_26 : decode cX12_here 26 = .ok (.aload_n 0, 1) := by decide +kernel
theorem dX12_here_27 : decode cX12_here 27 = .ok (.getfield 151, 3) := by decide +kernel
theorem dX12_here_30 : decode cX12_here 30 = .ok (.baload, 1) := by decide +kernel
theorem dX12_here_31 : decode cX12_here 31 = .ok (.sipush 255, 3) := by decide +kernel
theorem dX12_here_34 : decode cX12_here 34 = .ok (.iand, 1) := by decide +kernel
theorem dX12_here_35 : decode cX12_here 35 = .ok (.goto 4, 3) := by decide +kernel
theorem dX12_here_38 : decode cX12_here 38 = .ok (.iconst (-1), 1) := by decide +kernel
theorem dX12_here_39 : decode cX12_here 39 = .ok (.ireturn, 1) := by decide +kernel
theorem dX12_fine_0 : decode cX12_fine 0 = .ok (.aload_n 0, 1) := by decide +kernel
theorem dX12_fine_1 : decode cX12_fine 1 = .ok (.getfield 154, 3) := by decide +kernel
theorem dX12_fine_4 : decode cX12_fine 4 = .ok (.iconst (-1), 1) := by decide +kernel
theorem dX12_fine_5 : decode cX12_fine 5 = .ok (.if_icmp .ne 7, 3) := by decide +kernel
theorem dX12_fine_8 : decode cX12_fine 8 = .ok (.iconst 1, 1) := by decide +kernel
theorem dX12_fine_9 : decode cX12_fine 9 = .ok (.goto 4, 3) := by decide +kernel
theorem dX12_fine_12 : decode cX12_fine 12 = .ok (.iconst 0, 1) := by decide +kernel
theorem dX12_fine_13 : decode cX12_fine 13 = .ok (.ireturn, 1) := by decide +kernel
theorem dX12_fault_0 : decode cX12_fault 0 = .ok (.aload_n 0, 1) := by decide +kernel
theorem dX12_fault_1 : decode cX12_fault 1 = .ok (.invokevirtual 157, 3) := by decide +kernel
theorem dX12_fault_4 : decode cX12_fault 4 = .ok (.ifCond .eq 8, 3) := by decide +kernel
theorem dX12_fault_7 : decode cX12_fault 7 = .ok (.aload_n 0, 1) := by decide +kernel
theorem dX12_fault_8 : decode cX12_fault 8 = .ok (.iload_n 1, 1) := by decide +kernel
theorem dX12_fault_9 : decode cX12_fault 9 = .ok (.putfield 154, 3) := by decide +kernel
theorem dX12_fault_12 : decode cX12_fault 12 = .ok (.return_, 1) := by decide +kernel
theorem dX12_passes_0 : decode cX12_passes 0 = .ok (.aload_n 0, 1) := by decide +kernel
theorem dX12_passes_1 : decode cX12_passes 1 = .ok (.invokevirtual 157, 3) := by decide +kernel
theorem dX12_passes_4 : decode cX12_passes 4 = .ok (.ifCond .eq 11, 3) := by decide +kernel
theorem dX12_passes_7 : decode cX12_passes 7 = .ok (.aload_n 0, 1) := by decide +kernel
theorem dX12_passes_8 : decode cX12_passes 8 = .ok (.invokevirtual 161, 3) := by decide +kernel
theorem dX12_passes_11 : decode cX12_passes 11 = .ok (.iload_n 1, 1) := by decide +kernel
theorem dX12_passes_12 : decode cX12_passes 12 = .ok (.if_icmp .eq 5, 3) := by decide +kernel
theorem dX12_passes_15 : decode cX12_passes 15 = .ok (.iconst 0, 1) := by decide +kernel
theorem dX12_passes_16 : decode cX12_passes 16 = .ok (.ireturn, 1) := by decide +kernel
theorem dX12_passes_17 : decode cX12_passes 17 = .ok (.aload_n 0, 1) := by decide +kernel
theorem dX12_passes_18 : decode cX12_passes 18 = .ok (.dup, 1) := by decide +kernel
theorem dX12_passes_19 : decode cX12_passes 19 = .ok (.getfield 151, 3) := by decide +kernel
theorem dX12_passes_22 : decode cX12_passes 22 = .ok (.iconst 1, 1) := by decide +kernel
theorem dX12_passes_23 : decode cX12_passes 23 = .ok (.iadd, 1) := by decide +kernel
theorem dX12_passes_24 : decode cX12_passes 24 = .ok (.putfield 151, 3) := by decide +kernel
theorem dX12_passes_27 : decode cX12_passes 27 = .ok (.iconst 1, 1) := by decide +kernel
theorem dX12_passes_28 : decode cX12_passes 28 = .ok (.ireturn, 1) := by decide +kernel
theorem dX12_need_0 : decode cX12_need 0 = .ok (.aload_n 0, 1) := by decide +kernel
theorem dX12_need_1 : decode cX12_need 1 = .ok (.iload_n 1, 1) := by decide +kernel
theorem dX12_need_2 : decode cX12_need 2 = .ok (.invokevirtual 165, 3) := by decide +kernel
theorem dX12_need_5 : decode cX12_need 5 = .ok (.ifCond .ne 11, 3) := by decide +kernel
theorem dX12_need_8 : decode cX12_need 8 = .ok (.aload_n 0, 1) := by decide +kernel
theorem dX12_need_9 : decode cX12_need 9 = .ok (.aload_n 0, 1) := by decide +kernel
theorem dX12_need_10 : decode cX12_need 10 = .ok (.getfield 151, 3) := by decide +kernel
theorem dX12_need_13 : decode cX12_need 13 = .ok (.invokevirtual 169, 3) := by decide +kernel
theorem dX12_need_16 : decode cX12_need 16 = .ok (.return_, 1) := by decide +kernel
theorem dX12_oneOf_0 : decode cX12_oneOf 0 = .ok (.aload_n 0, 1) := by decide +kernel
theorem dX12_oneOf_1 : decode cX12_oneOf 1 = .ok (.invokevirtual 157, 3) := by decide +kernel
theorem dX12_oneOf_4 : decode cX12_oneOf 4 = .ok (.ifCond .ne 5, 3) := by decide +kernel
theorem dX12_oneOf_7 : decode cX12_oneOf 7 = .ok (.iconst 0, 1) := by decide +kernel
theorem dX12_oneOf_8 : decode cX12_oneOf 8 = .ok (.ireturn, 1) := by decide +kernel
theorem dX12_oneOf_9 : decode cX12_oneOf 9 = .ok (.aload_n 0, 1) := by decide +kernel
theorem dX12_oneOf_10 : decode cX12_oneOf 10 = .ok (.invokevirtual 161, 3) := by decide +kernel
theorem dX12_oneOf_13 : decode cX12_oneOf 13 = .ok (.iload_n 1, 1) := by decide +kernel
theorem dX12_oneOf_14 : decode cX12_oneOf 14 = .ok (.iload_n 1, 1) := by decide +kernel
theorem dX12_oneOf_15 : decode cX12_oneOf 15 = .ok (.iload_n 2, 1) := by decide +kernel
theorem dX12_oneOf_16 : decode cX12_oneOf 16 = .ok (.iadd, 1) := by decide +kernel
theorem dX12_oneOf_17 : decode cX12_oneOf 17 = .ok (.iconst 1, 1) := by decide +kernel
theorem dX12_oneOf_18 : decode cX12_oneOf 18 = .ok (.isub, 1) := by decide +kernel
theorem dX12_oneOf_19 : decode cX12_oneOf 19 = .ok (.invokestatic 132, 3) := by decide +kernel
theorem dX12_oneOf_22 : decode cX12_oneOf 22 = .ok (.ifCond .eq 13, 3) := by decide +kernel
theorem dX12_oneOf_25 : decode cX12_oneOf 25 = .ok (.aload_n 0, 1) := by decide +kernel
theorem dX12_oneOf_26 : decode cX12_oneOf 26 = .ok (.invokevirtual 161, 3) := by decide +kernel
theorem dX12_oneOf_29 : decode cX12_oneOf 29 = .ok (.iload_n 1, 1) := by decide +kernel
theorem dX12_oneOf_30 : decode cX12_oneOf 30 = .ok (.isub, 1) := by decide +kernel
theorem dX12_oneOf_31 : decode cX12_oneOf 31 = .ok (.iload_n 3, 1) := by decide +kernel
theorem dX12_oneOf_32 : decode cX12_oneOf 32 = .ok (.if_icmp .ne 13, 3) := by decide +kernel
theorem dX12_oneOf_35 : decode cX12_oneOf 35 = .ok (.aload_n 0, 1) := by decide +kernel
theorem dX12_oneOf_36 : decode cX12_oneOf 36 = .ok (.aload_n 0, 1) := by decide +kernel
theorem dX12_oneOf_37 : decode cX12_oneOf 37 = .ok (.getfield 151, 3) := by decide +kernel
theorem dX12_oneOf_40 : decode cX12_oneOf 40 = .ok (.invokevirtual 169, 3) := by decide +kernel
theorem dX12_oneOf_43 : decode cX12_oneOf 43 = .ok (.iconst 0, 1) := by decide +kernel
theorem dX12_oneOf_44 : decode cX12_oneOf 44 = .ok (.ireturn, 1) := by decide +kernel
theorem dX12_oneOf_45 : decode cX12_oneOf 45 = .ok (.aload_n 0, 1) := by decide +kernel
theorem dX12_oneOf_46 : decode cX12_oneOf 46 = .ok (.dup, 1) := by decide +kernel
theorem dX12_oneOf_47 : decode cX12_oneOf 47 = .ok (.getfield 151, 3) := by decide +kernel
theorem dX12_oneOf_50 : decode cX12_oneOf 50 = .ok (.iconst 1, 1) := by decide +kernel
theorem dX12_oneOf_51 : decode cX12_oneOf 51 = .ok (.iadd, 1) := by decide +kernel
theorem dX12_oneOf_52 : decode cX12_oneOf 52 = .ok (.putfield 151, 3) := by decide +kernel
theorem dX12_oneOf_55 : decode cX12_oneOf 55 = .ok (.aload_n 0, 1) := by decide +kernel
theorem dX12_oneOf_56 : decode cX12_oneOf 56 = .ok (.getfield 142, 3) := by decide +kernel
theorem dX12_oneOf_59 : decode cX12_oneOf 59 = .ok (.aload_n 0, 1) := by decide +kernel
theorem dX12_oneOf_60 : decode cX12_oneOf 60 = .ok (.getfield 151, 3) := by decide +kernel
theorem dX12_oneOf_63 : decode cX12_oneOf 63 = .ok (.iconst 1, 1) := by decide +kernel
theorem dX12_oneOf_64 : decode cX12_oneOf 64 = .ok (.isub, 1) := by decide +kernel
theorem dX12_oneOf_65 : decode cX12_oneOf 65 = .ok (.baload, 1) := by decide +kernel
theorem dX12_oneOf_66 : decode cX12_oneOf 66 = .ok (.iload_n 1, 1) := by decide +kernel
theorem dX12_oneOf_67 : decode cX12_oneOf 67 = .ok (.isub, 1) := by decide +kernel
theorem dX12_oneOf_68 : decode cX12_oneOf 68 = .ok (.ireturn, 1) := by decide +kernel
theorem dX12_number_0 : decode cX12_number 0 = .ok (.aload_n 0, 1) := by decide +kernel
theorem dX12_number_1 : decode cX12_number 1 = .ok (.bipush 48, 2) := by decide +kernel
theorem dX12_number_3 : decode cX12_number 3 = .ok (.bipush 10, 2) := by decide +kernel
theorem dX12_number_5 : decode cX12_number 5 = .ok (.iconst (-1), 1) := by decide +kernel
theorem dX12_number_6 : decode cX12_number 6 = .ok (.invokevirtual 173, 3) := by decide +kernel
theorem dX12_number_9 : decode cX12_number 9 = .ok (.istore_n 2, 1) := by decide +kernel
theorem dX12_number_10 : decode cX12_number 10 = .ok (.iconst 1, 1) := by decide +kernel
theorem dX12_number_11 : decode cX12_number 11 = .ok (.istore_n 3, 1) := by decide +kernel
theorem dX12_number_12 : decode cX12_number 12 = .ok (.iload_n 3, 1) := by decide +kernel
theorem dX12_number_13 : decode cX12_number 13 = .ok (.iload_n 1, 1) := by decide +kernel
theorem dX12_number_14 : decode cX12_number 14 = .ok (.if_icmp .ge 45, 3) := by decide +kernel
theorem dX12_number_17 : decode cX12_number 17 = .ok (.aload_n 0, 1) := by decide +kernel
theorem dX12_number_18 : decode cX12_number 18 = .ok (.invokevirtual 157, 3) := by decide +kernel
theorem dX12_number_21 : decode cX12_number 21 = .ok (.ifCond .eq 38, 3) := by decide +kernel
theorem dX12_number_24 : decode cX12_number 24 = .ok (.aload_n 0, 1) := by decide +kernel
theorem dX12_number_25 : decode cX12_number 25 = .ok (.invokevirtual 161, 3) := by decide +kernel
theorem dX12_number_28 : decode cX12_number 28 = .ok (.bipush 48, 2) := by decide +kernel
theorem dX12_number_30 : decode cX12_number 30 = .ok (.bipush 57, 2) := by decide +kernel
theorem dX12_number_32 : decode cX12_number 32 = .ok (.invokestatic 132, 3) := by decide +kernel
theorem dX12_number_35 : decode cX12_number 35 = .ok (.ifCond .eq 24, 3) := by decide +kernel
theorem dX12_number_38 : decode cX12_number 38 = .ok (.bipush 10, 2) := by decide +kernel
theorem dX12_number_40 : decode cX12_number 40 = .ok (.iload_n 2, 1) := by decide +kernel
theorem dX12_number_41 : decode cX12_number 41 = .ok (.imul, 1) := by decide +kernel
theorem dX12_number_42 : decode cX12_number 42 = .ok (.aload_n 0, 1) := by decide +kernel
theorem dX12_number_43 : decode cX12_number 43 = .ok (.bipush 48, 2) := by decide +kernel
theorem dX12_number_45 : decode cX12_number 45 = .ok (.bipush 10, 2) := by decide +kernel
theorem dX12_number_47 : decode cX12_number 47 = .ok (.iconst (-1), 1) := by decide +kernel
theorem dX12_number_48 : decode cX12_number 48 = .ok (.invokevirtual 173, 3) := by decide +kernel
theorem dX12_number_51 : decode cX12_number 51 = .ok (.iadd, 1) := by decide +kernel
theorem dX12_number_52 : decode cX12_number 52 = .ok (.istore_n 2, 1) := by decide +kernel
theorem dX12_number_53 : decode cX12_number 53 = .ok (.iinc 3 1, 3) := by decide +kernel
theorem dX12_number_56 : decode cX12_number 56 = .ok (.goto (-44), 3) := by decide +kernel
theorem dX12_number_59 : decode cX12_number 59 = .ok (.iload_n 2, 1) := by decide +kernel
theorem dX12_number_60 : decode cX12_number 60 = .ok (.ireturn, 1) := by decide +kernel
theorem dX12_number__0 : decode cX12_number_ 0 = .ok (.aload_n 0, 1) := by decide +kernel
theorem dX12_number__1 : decode cX12_number_ 1 = .ok (.iload_n 1, 1) := by decide +kernel
theorem dX12_number__2 : decode cX12_number_ 2 = .ok (.invokevirtual 177, 3) := by decide +kernel
theorem dX12_number__5 : decode cX12_number_ 5 = .ok (.istore_n 3, 1) := by decide +kernel
theorem dX12_number__6 : decode cX12_number_ 6 = .ok (.aload_n 0, 1) := by decide +kernel
theorem dX12_number__7 : decode cX12_number_ 7 = .ok (.invokevirtual 157, 3) := by decide +kernel
theorem dX12_number__10 : decode cX12_number_ 10 = .ok (.ifCond .eq 18, 3) := by decide +kernel
theorem dX12_number__13 : decode cX12_number_ 13 = .ok (.iload_n 3, 1) := by decide +kernel
theorem dX12_number__14 : decode cX12_number_ 14 = .ok (.iload_n 2, 1) := by decide +kernel
theorem dX12_number__15 : decode cX12_number_ 15 = .ok (.if_icmp .ge 13, 3) := by decide +kernel
theorem dX12_number__18 : decode cX12_number_ 18 = .ok (.aload_n 0, 1) := by decide +kernel
theorem dX12_number__19 : decode cX12_number_ 19 = .ok (.aload_n 0, 1) := by decide +kernel
theorem dX12_number__20 : decode cX12_number_ 20 = .ok (.getfield 151, 3) := by decide +kernel
theorem dX12_number__23 : decode cX12_number_ 23 = .ok (.iconst 1, 1) := by decide +kernel
theorem dX12_number__24 : decode cX12_number_ 24 = .ok (.isub, 1) := by decide +kernel
theorem dX12_number__25 : decode cX12_number_ 25 = .ok (.invokevirtual 169, 3) := by decide +kernel
theorem dX12_number__28 : decode cX12_number_ 28 = .ok (.iload_n 3, 1) := by decide +kernel
theorem dX12_number__29 : decode cX12_number_ 29 = .ok (.ireturn, 1) := by decide +kernel
theorem dX12_readLine_0 : decode cX12_readLine 0 = .ok (.aload_n 0, 1) := by decide +kernel
theorem dX12_readLine_1 : decode cX12_readLine 1 = .ok (.invokevirtual 161, 3) := by decide +kernel
theorem dX12_readLine_4 : decode cX12_readLine 4 = .ok (.bipush 118, 2) := by decide +kernel
theorem dX12_readLine_6 : decode cX12_readLine 6 = .ok (.if_icmp .ne 58, 3) := by decide +kernel
theorem dX12_readLine_9 : decode cX12_readLine 9 = .ok (.aload_n 0, 1) := by decide +kernel
theorem dX12_readLine_10 : decode cX12_readLine 10 = .ok (.getfield 129, 3) := by decide +kernel
theorem dX12_readLine_13 : decode cX12_readLine 13 = .ok (.aload_n 0, 1) := by decide +kernel
theorem dX12_readLine_14 : decode cX12_readLine 14 = .ok (.getfield 181, 3) := by decide +kernel
theorem dX12_readLine_17 : decode cX12_readLine 17 = .ok (.iadd, 1) := by decide +kernel
theorem dX12_readLine_18 : decode cX12_readLine 18 = .ok (.bipush 9, 2) := by decide +kernel
theorem dX12_readLine_20 : decode cX12_readLine 20 = .ok (.if_icmp .ge 44, 3) := by decide +kernel
theorem dX12_readLine_23 : decode cX12_readLine 23 = .ok (.aload_n 0, 1) := by decide +kernel
theorem dX12_readLine_24 : decode cX12_readLine 24 = .ok (.dup, 1) := by decide +kernel
theorem dX12_readLine_25 : decode cX12_readLine 25 = .ok (.getfield 151, 3) := by decide +kernel
theorem dX12_readLine_28 : decode cX12_readLine 28 = .ok (.iconst 1, 1) := by decide +kernel
theorem dX12_readLine_29 : decode cX12_readLine 29 = .ok (.iadd, 1) := by decide +kernel
theorem dX12_readLine_30 : decode cX12_readLine 30 = .ok (.putfield 151, 3) := by decide +kernel
theorem dX12_readLine_33 : decode cX12_readLine 33 = .ok (.aload_n 0, 1) := by decide +kernel
theorem dX12_readLine_34 : decode cX12_readLine 34 = .ok (.getfield 43, 3) := by decide +kernel
theorem dX12_readLine_37 : decode cX12_readLine 37 = .ok (.aload_n 0, 1) := by decide +kernel
theorem dX12_readLine_38 : decode cX12_readLine 38 = .ok (.getfield 181, 3) := by decide +kernel
theorem dX12_readLine_41 : decode cX12_readLine 41 = .ok (.aload_n 0, 1) := by decide +kernel
theorem dX12_readLine_42 : decode cX12_readLine 42 = .ok (.bipush 48, 2) := by decide +kernel
theorem dX12_readLine_44 : decode cX12_readLine 44 = .ok (.bipush 10, 2) := by decide +kernel
theorem dX12_readLine_46 : decode cX12_readLine 46 = .ok (.iconst (-1), 1) := by decide +kernel
theorem dX12_readLine_47 : decode cX12_readLine 47 = .ok (.invokevirtual 173, 3) := by decide +kernel
theorem dX12_readLine_50 : decode cX12_readLine 50 = .ok (.iastore, 1) := by decide +kernel
theorem dX12_readLine_51 : decode cX12_readLine 51 = .ok (.aload_n 0, 1) := by decide +kernel
theorem dX12_readLine_52 : decode cX12_readLine 52 = .ok (.dup, 1) := by decide +kernel
theorem dX12_readLine_53 : decode cX12_readLine 53 = .ok (.getfield 181, 3) := by decide +kernel
theorem dX12_readLine_56 : decode cX12_readLine 56 = .ok (.iconst 1, 1) := by decide +kernel
theorem dX12_readLine_57 : decode cX12_readLine 57 = .ok (.iadd, 1) := by decide +kernel
theorem dX12_readLine_58 : decode cX12_readLine 58 = .ok (.putfield 181, 3) := by decide +kernel
theorem dX12_readLine_61 : decode cX12_readLine 61 = .ok (.goto 123, 3) := by decide +kernel
theorem dX12_readLine_64 : decode cX12_readLine 64 = .ok (.aload_n 0, 1) := by decide +kernel
theorem dX12_readLine_65 : decode cX12_readLine 65 = .ok (.invokevirtual 161, 3) := by decide +kernel
theorem dX12_readLine_68 : decode cX12_readLine 68 = .ok (.bipush 114, 2) := by decide +kernel
theorem dX12_readLine_70 : decode cX12_readLine 70 = .ok (.if_icmp .ne 106, 3) := by decide +kernel
theorem dX12_readLine_73 : decode cX12_readLine 73 = .ok (.aload_n 0, 1) := by decide +kernel
theorem dX12_readLine_74 : decode cX12_readLine 74 = .ok (.getfield 184, 3) := by decide +kernel
theorem dX12_readLine_77 : decode cX12_readLine 77 = .ok (.aload_n 0, 1) := by decide +kernel
theorem dX12_readLine_78 : decode cX12_readLine 78 = .ok (.getfield 187, 3) := by decide +kernel
theorem dX12_readLine_81 : decode cX12_readLine 81 = .ok (.iadd, 1) := by decide +kernel
theorem dX12_readLine_82 : decode cX12_readLine 82 = .ok (.bipush 24, 2) := by decide +kernel
theorem dX12_readLine_84 : decode cX12_readLine 84 = .ok (.if_icmp .ge 92, 3) := by decide +kernel
theorem dX12_readLine_87 : decode cX12_readLine 87 = .ok (.iconst 3, 1) := by decide +kernel
theorem dX12_readLine_88 : decode cX12_readLine 88 = .ok (.aload_n 0, 1) := by decide +kernel
theorem dX12_readLine_89 : decode cX12_readLine 89 = .ok (.getfield 187, 3) := by decide +kernel
theorem dX12_readLine_92 : decode cX12_readLine 92 = .ok (.imul, 1) := by decide +kernel
theorem dX12_readLine_93 : decode cX12_readLine 93 = .ok (.istore_n 1, 1) := by decide +kernel
theorem dX12_readLine_94 : decode cX12_readLine 94 = .ok (.aload_n 0, 1) := by decide +kernel
theorem dX12_readLine_95 : decode cX12_readLine 95 = .ok (.getfield 129, 3) := by decide +kernel
theorem dX12_readLine_98 : decode cX12_readLine 98 = .ok (.aload_n 0, 1) := by decide +kernel
theorem dX12_readLine_99 : decode cX12_readLine 99 = .ok (.getfield 181, 3) := by decide +kernel
theorem dX12_readLine_102 : decode cX12_readLine 102 = .ok (.iadd, 1) := by decide +kernel
theorem dX12_readLine_103 : decode cX12_readLine 103 = .ok (.istore_n 2, 1) := by decide +kernel
theorem dX12_readLine_104 : decode cX12_readLine 104 = .ok (.aload_n 0, 1) := by decide +kernel
theorem dX12_readLine_105 : decode cX12_readLine 105 = .ok (.dup, 1) := by decide +kernel
theorem dX12_readLine_106 : decode cX12_readLine 106 = .ok (.getfield 151, 3) := by decide +kernel
theorem dX12_readLine_109 : decode cX12_readLine 109 = .ok (.iconst 1, 1) := by decide +kernel
theorem dX12_readLine_110 : decode cX12_readLine 110 = .ok (.iadd, 1) := by decide +kernel
theorem dX12_readLine_111 : decode cX12_readLine 111 = .ok (.putfield 151, 3) := by decide +kernel
theorem dX12_readLine_114 : decode cX12_readLine 114 = .ok (.aload_n 0, 1) := by decide +kernel
theorem dX12_readLine_115 : decode cX12_readLine 115 = .ok (.getfield 46, 3) := by decide +kernel
theorem dX12_readLine_118 : decode cX12_readLine 118 = .ok (.iload_n 1, 1) := by decide +kernel
theorem dX12_readLine_119 : decode cX12_readLine 119 = .ok (.aload_n 0, 1) := by decide +kernel
theorem dX12_readLine_120 : decode cX12_readLine 120 = .ok (.bipush 97, 2) := by decide +kernel
theorem dX12_readLine_122 : decode cX12_readLine 122 = .ok (.iload_n 2, 1) := by decide +kernel
theorem dX12_readLine_123 : decode cX12_readLine 123 = .ok (.iconst (-1), 1) := by decide +kernel
theorem dX12_readLine_124 : decode cX12_readLine 124 = .ok (.invokevirtual 173, 3) := by decide +kernel
theorem dX12_readLine_127 : decode cX12_readLine 127 = .ok (.iastore, 1) := by decide +kernel
theorem dX12_readLine_128 : decode cX12_readLine 128 = .ok (.aload_n 0, 1) := by decide +kernel
theorem dX12_readLine_129 : decode cX12_readLine 129 = .ok (.getfield 46, 3) := by decide +kernel
theorem dX12_readLine_132 : decode cX12_readLine 132 = .ok (.iload_n 1, 1) := by decide +kernel
theorem dX12_readLine_133 : decode cX12_readLine 133 = .ok (.iconst 1, 1) := by decide +kernel
theorem dX12_readLine_134 : decode cX12_readLine 134 = .ok (.iadd, 1) := by decide +kernel
theorem dX12_readLine_135 : decode cX12_readLine 135 = .ok (.aload_n 0, 1) := by decide +kernel
theorem dX12_readLine_136 : decode cX12_readLine 136 = .ok (.bipush 97, 2) := by decide +kernel
theorem dX12_readLine_138 : decode cX12_readLine 138 = .ok (.iload_n 2, 1) := by decide +kernel
theorem dX12_readLine_139 : decode cX12_readLine 139 = .ok (.aload_n 0, 1) := by decide +kernel
theorem dX12_readLine_140 : decode cX12_readLine 140 = .ok (.getfield 46, 3) := by decide +kernel
theorem dX12_readLine_143 : decode cX12_readLine 143 = .ok (.iload_n 1, 1) := by decide +kernel
theorem dX12_readLine_144 : decode cX12_readLine 144 = .ok (.iaload, 1) := by decide +kernel
theorem dX12_readLine_145 : decode cX12_readLine 145 = .ok (.invokevirtual 173, 3) := by decide +kernel
theorem dX12_readLine_148 : decode cX12_readLine 148 = .ok (.iastore, 1) := by decide +kernel
theorem dX12_readLine_149 : decode cX12_readLine 149 = .ok (.aload_n 0, 1) := by decide +kernel
theorem dX12_readLine_150 : decode cX12_readLine 150 = .ok (.getfield 46, 3) := by decide +kernel
theorem dX12_readLine_153 : decode cX12_readLine 153 = .ok (.iload_n 1, 1) := by decide +kernel
theorem dX12_readLine_154 : decode cX12_readLine 154 = .ok (.iconst 2, 1) := by decide +kernel
theorem dX12_readLine_155 : decode cX12_readLine 155 = .ok (.iadd, 1) := by decide +kernel
theorem dX12_readLine_156 : decode cX12_readLine 156 = .ok (.aload_n 0, 1) := by decide +kernel
theorem dX12_readLine_157 : decode cX12_readLine 157 = .ok (.iconst 2, 1) := by decide +kernel
theorem dX12_readLine_158 : decode cX12_readLine 158 = .ok (.iconst 1, 1) := by decide +kernel
theorem dX12_readLine_159 : decode cX12_readLine 159 = .ok (.invokevirtual 190, 3) := by decide +kernel
theorem dX12_readLine_162 : decode cX12_readLine 162 = .ok (.iastore, 1) := by decide +kernel
theorem dX12_readLine_163 : decode cX12_readLine 163 = .ok (.aload_n 0, 1) := by decide +kernel
theorem dX12_readLine_164 : decode cX12_readLine 164 = .ok (.dup, 1) := by decide +kernel
theorem dX12_readLine_165 : decode cX12_readLine 165 = .ok (.getfield 187, 3) := by decide +kernel
theorem dX12_readLine_168 : decode cX12_readLine 168 = .ok (.iconst 1, 1) := by decide +kernel
theorem dX12_readLine_169 : decode cX12_readLine 169 = .ok (.iadd, 1) := by decide +kernel
theorem dX12_readLine_170 : decode cX12_readLine 170 = .ok (.putfield 187, 3) := by decide +kernel
theorem dX12_readLine_173 : decode cX12_readLine 173 = .ok (.goto 11, 3) := by decide +kernel
theorem dX12_readLine_176 : decode cX12_readLine 176 = .ok (.aload_n 0, 1) := by decide +kernel
theorem dX12_readLine_177 : decode cX12_readLine 177 = .ok (.aload_n 0, 1) := by decide +kernel
theorem dX12_readLine_178 : decode cX12_readLine 178 = .ok (.getfield 151, 3) := by decide +kernel
theorem dX12_readLine_181 : decode cX12_readLine 181 = .ok (.invokevirtual 169, 3) := by decide +kernel
theorem dX12_readLine_184 : decode cX12_readLine 184 = .ok (.return_, 1) := by decide +kernel
theorem dX12_hills_0 : decode cX12_hills 0 = .ok (.aload_n 0, 1) := by decide +kernel
theorem dX12_hills_1 : decode cX12_hills 1 = .ok (.iconst 0, 1) := by decide +kernel
theorem dX12_hills_2 : decode cX12_hills 2 = .ok (.putfield 123, 3) := by decide +kernel
theorem dX12_hills_5 : decode cX12_hills 5 = .ok (.aload_n 0, 1) := by decide +kernel
theorem dX12_hills_6 : decode cX12_hills 6 = .ok (.aload_n 0, 1) := by decide +kernel
theorem dX12_hills_7 : decode cX12_hills 7 = .ok (.getfield 35, 3) := by decide +kernel
theorem dX12_hills_10 : decode cX12_hills 10 = .ok (.aload_n 0, 1) := by decide +kernel
theorem dX12_hills_11 : decode cX12_hills 11 = .ok (.getfield 139, 3) := by decide +kernel
theorem dX12_hills_14 : decode cX12_hills 14 = .ok (.bipush 76, 2) := by decide +kernel
theorem dX12_hills_16 : decode cX12_hills 16 = .ok (.invokevirtual 193, 3) := by decide +kernel
theorem dX12_hills_19 : decode cX12_hills 19 = .ok (.aload_n 0, 1) := by decide +kernel
theorem dX12_hills_20 : decode cX12_hills 20 = .ok (.iconst 0, 1) := by decide +kernel
theorem dX12_hills_21 : decode cX12_hills 21 = .ok (.putfield 139, 3) := by decide +kernel
theorem dX12_hills_24 : decode cX12_hills 24 = .ok (.aload_n 0, 1) := by decide +kernel
theorem dX12_hills_25 : decode cX12_hills 25 = .ok (.getfield 145, 3) := by decide +kernel
theorem dX12_hills_28 : decode cX12_hills 28 = .ok (.ifCond .ne 5, 3) := by decide +kernel
theorem dX12_hills_31 : decode cX12_hills 31 = .ok (.iconst 0, 1) := by decide +kernel
theorem dX12_hills_32 : decode cX12_hills 32 = .ok (.ireturn, 1) := by decide +kernel
theorem dX12_hills_33 : decode cX12_hills 33 = .ok (.aload_n 0, 1) := by decide +kernel
theorem dX12_hills_34 : decode cX12_hills 34 = .ok (.iconst 0, 1) := by decide +kernel
theorem dX12_hills_35 : decode cX12_hills 35 = .ok (.putfield 181, 3) := by decide +kernel
theorem dX12_hills_38 : decode cX12_hills 38 = .ok (.aload_n 0, 1) := by decide +kernel
theorem dX12_hills_39 : decode cX12_hills 39 = .ok (.iconst 0, 1) := by decide +kernel
theorem dX12_hills_40 : decode cX12_hills 40 = .ok (.putfield 187, 3) := by decide +kernel
theorem dX12_hills_43 : decode cX12_hills 43 = .ok (.iconst 1, 1) := by decide +kernel
theorem dX12_hills_44 : decode cX12_hills 44 = .ok (.istore_n 1, 1) := by decide +kernel
theorem dX12_hills_45 : decode cX12_hills 45 = .ok (.iload_n 1, 1) := by decide +kernel
theorem dX12_hills_46 : decode cX12_hills 46 = .ok (.ifCond .eq 24, 3) := by decide +kernel
theorem dX12_hills_49 : decode cX12_hills 49 = .ok (.aload_n 0, 1) := by decide +kernel
theorem dX12_hills_50 : decode cX12_hills 50 = .ok (.invokevirtual 157, 3) := by decide +kernel
theorem dX12_hills_53 : decode cX12_hills 53 = .ok (.ifCond .eq 17, 3) := by decide +kernel
theorem dX12_hills_56 : decode cX12_hills 56 = .ok (.aload_n 0, 1) := by decide +kernel
theorem dX12_hills_57 : decode cX12_hills 57 = .ok (.invokevirtual 197, 3) := by decide +kernel
theorem dX12_hills_60 : decode cX12_hills 60 = .ok (.aload_n 0, 1) := by decide +kernel
theorem dX12_hills_61 : decode cX12_hills 61 = .ok (.bipush 59, 2) := by decide +kernel
theorem dX12_hills_63 : decode cX12_hills 63 = .ok (.invokevirtual 165, 3) := by decide +kernel
theorem dX12_hills_66 : decode cX12_hills 66 = .ok (.istore_n 1, 1) := by decide +kernel
theorem dX12_hills_67 : decode cX12_hills 67 = .ok (.goto (-22), 3) := by decide +kernel
theorem dX12_hills_70 : decode cX12_hills 70 = .ok (.aload_n 0, 1) := by decide +kernel
theorem dX12_hills_71 : decode cX12_hills 71 = .ok (.getfield 151, 3) := by decide +kernel
theorem dX12_hills_74 : decode cX12_hills 74 = .ok (.aload_n 0, 1) := by decide +kernel
theorem dX12_hills_75 : decode cX12_hills 75 = .ok (.getfield 145, 3) := by decide +kernel
theorem dX12_hills_78 : decode cX12_hills 78 = .ok (.if_icmp .ge 11, 3) := by decide +kernel
theorem dX12_hills_81 : decode cX12_hills 81 = .ok (.aload_n 0, 1) := by decide +kernel
theorem dX12_hills_82 : decode cX12_hills 82 = .ok (.aload_n 0, 1) := by decide +kernel
theorem dX12_hills_83 : decode cX12_hills 83 = .ok (.getfield 151, 3) := by decide +kernel
theorem dX12_hills_86 : decode cX12_hills 86 = .ok (.invokevirtual 169, 3) := by decide +kernel
theorem dX12_hills_89 : decode cX12_hills 89 = .ok (.aload_n 0, 1) := by decide +kernel
theorem dX12_hills_90 : decode cX12_hills 90 = .ok (.invokevirtual 157, 3) := by decide +kernel
theorem dX12_hills_93 : decode cX12_hills 93 = .ok (.ifCond .ne 10, 3) := by decide +kernel
theorem dX12_hills_96 : decode cX12_hills 96 = .ok (.iconst (-1), 1) := by decide +kernel
theorem dX12_hills_97 : decode cX12_hills 97 = .ok (.aload_n 0, 1) := by decide +kernel
theorem dX12_hills_98 : decode cX12_hills 98 = .ok (.getfield 154, 3) := by decide +kernel
theorem dX12_hills_101 : decode cX12_hills 101 = .ok (.isub, 1) := by decide +kernel
theorem dX12_hills_102 : decode cX12_hills 102 = .ok (.ireturn, 1) := by decide +kernel
theorem dX12_hills_103 : decode cX12_hills 103 = .ok (.iconst 0, 1) := by decide +kernel
theorem dX12_hills_104 : decode cX12_hills 104 = .ok (.istore_n 2, 1) := by decide +kernel
theorem dX12_hills_105 : decode cX12_hills 105 = .ok (.iload_n 2, 1) := by decide +kernel
theorem dX12_hills_106 : decode cX12_hills 106 = .ok (.aload_n 0, 1) := by decide +kernel
theorem dX12_hills_107 : decode cX12_hills 107 = .ok (.getfield 181, 3) := by decide +kernel
theorem dX12_hills_110 : decode cX12_hills 110 = .ok (.if_icmp .ge 34, 3) := by decide +kernel
theorem dX12_hills_113 : decode cX12_hills 113 = .ok (.aload_n 0, 1) := by decide +kernel
theorem dX12_hills_114 : decode cX12_hills 114 = .ok (.getfield 13, 3) := by decide +kernel
theorem dX12_hills_117 : decode cX12_hills 117 = .ok (.aload_n 0, 1) := by decide +kernel
theorem dX12_hills_118 : decode cX12_hills 118 = .ok (.getfield 129, 3) := by decide +kernel
theorem dX12_hills_121 : decode cX12_hills 121 = .ok (.aload_n 0, 1) := by decide +kernel
theorem dX12_hills_122 : decode cX12_hills 122 = .ok (.getfield 43, 3) := by decide +kernel
theorem dX12_hills_125 : decode cX12_hills 125 = .ok (.iload_n 2, 1) := by decide +kernel
theorem dX12_hills_126 : decode cX12_hills 126 = .ok (.iaload, 1) := by decide +kernel
theorem dX12_hills_127 : decode cX12_hills 127 = .ok (.iastore, 1) := by decide +kernel
theorem dX12_hills_128 : decode cX12_hills 128 = .ok (.aload_n 0, 1) := by decide +kernel
theorem dX12_hills_129 : decode cX12_hills 129 = .ok (.dup, 1) := by decide +kernel
theorem dX12_hills_130 : decode cX12_hills 130 = .ok (.getfield 129, 3) := by decide +kernel
theorem dX12_hills_133 : decode cX12_hills 133 = .ok (.iconst 1, 1) := by decide +kernel
theorem dX12_hills_134 : decode cX12_hills 134 = .ok (.iadd, 1) := by decide +kernel
theorem dX12_hills_135 : decode cX12_hills 135 = .ok (.putfield 129, 3) := by decide +kernel
theorem dX12_hills_138 : decode cX12_hills 138 = .ok (.iinc 2 1, 3) := by decide +kernel
theorem dX12_hills_141 : decode cX12_hills 141 = .ok (.goto (-36), 3) := by decide +kernel
theorem dX12_hills_144 : decode cX12_hills 144 = .ok (.iconst 0, 1) := by decide +kernel
theorem dX12_hills_145 : decode cX12_hills 145 = .ok (.istore_n 2, 1) := by decide +kernel
theorem dX12_hills_146 : decode cX12_hills 146 = .ok (.iload_n 2, 1) := by decide +kernel
theorem dX12_hills_147 : decode cX12_hills 147 = .ok (.aload_n 0, 1) := by decide +kernel
theorem dX12_hills_148 : decode cX12_hills 148 = .ok (.getfield 187, 3) := by decide +kernel
theorem dX12_hills_151 : decode cX12_hills 151 = .ok (.if_icmp .ge 95, 3) := by decide +kernel
theorem dX12_hills_154 : decode cX12_hills 154 = .ok (.aload_n 0, 1) := by decide +kernel
theorem dX12_hills_155 : decode cX12_hills 155 = .ok (.getfield 46, 3) := by decide +kernel
theorem dX12_hills_158 : decode cX12_hills 158 = .ok (.iconst 3, 1) := by decide +kernel
theorem dX12_hills_159 : decode cX12_hills 159 = .ok (.iload_n 2, 1) := by decide +kernel
theorem dX12_hills_160 : decode cX12_hills 160 = .ok (.imul, 1) := by decide +kernel
theorem dX12_hills_161 : decode cX12_hills 161 = .ok (.iaload, 1) := by decide +kernel
theorem dX12_hills_162 : decode cX12_hills 162 = .ok (.istore_n 3, 1) := by decide +kernel
theorem dX12_hills_163 : decode cX12_hills 163 = .ok (.aload_n 0, 1) := by decide +kernel
theorem dX12_hills_164 : decode cX12_hills 164 = .ok (.getfield 46, 3) := by decide +kernel
theorem dX12_hills_167 : decode cX12_hills 167 = .ok (.iconst 3, 1) := by decide +kernel
theorem dX12_hills_168 : decode cX12_hills 168 = .ok (.iload_n 2, 1) := by decide +kernel
theorem dX12_hills_169 : decode cX12_hills 169 = .ok (.imul, 1) := by decide +kernel
theorem dX12_hills_170 : decode cX12_hills 170 = .ok (.iconst 1, 1) := by decide +kernel
theorem dX12_hills_171 : decode cX12_hills 171 = .ok (.iadd, 1) := by decide +kernel
theorem dX12_hills_172 : decode cX12_hills 172 = .ok (.iaload, 1) := by decide +kernel
theorem dX12_hills_173 : decode cX12_hills 173 = .ok (.istore 4, 2) := by decide +kernel
theorem dX12_hills_175 : decode cX12_hills 175 = .ok (.aload_n 0, 1) := by decide +kernel
theorem dX12_hills_176 : decode cX12_hills 176 = .ok (.getfield 16, 3) := by decide +kernel
theorem dX12_hills_179 : decode cX12_hills 179 = .ok (.bipush 9, 2) := by decide +kernel
theorem dX12_hills_181 : decode cX12_hills 181 = .ok (.iload_n 3, 1) := by decide +kernel
theorem dX12_hills_182 : decode cX12_hills 182 = .ok (.imul, 1) := by decide +kernel
theorem dX12_hills_183 : decode cX12_hills 183 = .ok (.iload 4, 2) := by decide +kernel
theorem dX12_hills_185 : decode cX12_hills 185 = .ok (.iadd, 1) := by decide +kernel
theorem dX12_hills_186 : decode cX12_hills 186 = .ok (.iaload, 1) := by decide +kernel
theorem dX12_hills_187 : decode cX12_hills 187 = .ok (.aload_n 0, 1) := by decide +kernel
theorem dX12_hills_188 : decode cX12_hills 188 = .ok (.getfield 46, 3) := by decide +kernel
theorem dX12_hills_191 : decode cX12_hills 191 = .ok (.iconst 3, 1) := by decide +kernel
theorem dX12_hills_192 : decode cX12_hills 192 = .ok (.iload_n 2, 1) := by decide +kernel
theorem dX12_hills_193 : decode cX12_hills 193 = .ok (.imul, 1) := by decide +kernel
theorem dX12_hills_194 : decode cX12_hills 194 = .ok (.iconst 2, 1) := by decide +kernel
theorem dX12_hills_195 : decode cX12_hills 195 = .ok (.iadd, 1) := by decide +kernel
theorem dX12_hills_196 : decode cX12_hills 196 = .ok (.iaload, 1) := by decide +kernel
theorem dX12_hills_197 : decode cX12_hills 197 = .ok (.invokestatic 200, 3) := by decide +kernel
theorem dX12_hills_200 : decode cX12_hills 200 = .ok (.istore 5, 2) := by decide +kernel
theorem dX12_hills_202 : decode cX12_hills 202 = .ok (.aload_n 0, 1) := by decide +kernel
theorem dX12_hills_203 : decode cX12_hills 203 = .ok (.getfield 16, 3) := by decide +kernel
theorem dX12_hills_206 : decode cX12_hills 206 = .ok (.bipush 9, 2) := by decide +kernel
theorem dX12_hills_208 : decode cX12_hills 208 = .ok (.iload_n 3, 1) := by decide +kernel
theorem dX12_hills_209 : decode cX12_hills 209 = .ok (.imul, 1) := by decide +kernel
theorem dX12_hills_210 : decode cX12_hills 210 = .ok (.iload 4, 2) := by decide +kernel
theorem dX12_hills_212 : decode cX12_hills 212 = .ok (.iadd, 1) := by decide +kernel
theorem dX12_hills_213 : decode cX12_hills 213 = .ok (.iload 5, 2) := by decide +kernel
theorem dX12_hills_215 : decode cX12_hills 215 = .ok (.iastore, 1) := by decide +kernel
theorem dX12_hills_216 : decode cX12_hills 216 = .ok (.aload_n 0, 1) := by decide +kernel
theorem dX12_hills_217 : decode cX12_hills 217 = .ok (.getfield 16, 3) := by decide +kernel
theorem dX12_hills_220 : decode cX12_hills 220 = .ok (.bipush 9, 2) := by decide +kernel
theorem dX12_hills_222 : decode cX12_hills 222 = .ok (.iload 4, 2) := by decide +kernel
theorem dX12_hills_224 : decode cX12_hills 224 = .ok (.imul, 1) := by decide +kernel
theorem dX12_hills_225 : decode cX12_hills 225 = .ok (.iload_n 3, 1) := by decide +kernel
theorem dX12_hills_226 : decode cX12_hills 226 = .ok (.iadd, 1) := by decide +kernel
theorem dX12_hills_227 : decode cX12_hills 227 = .ok (.iload 5, 2) := by decide +kernel
theorem dX12_hills_229 : decode cX12_hills 229 = .ok (.iastore, 1) := by decide +kernel
theorem dX12_hills_230 : decode cX12_hills 230 = .ok (.aload_n 0, 1) := by decide +kernel
theorem dX12_hills_231 : decode cX12_hills 231 = .ok (.dup, 1) := by decide +kernel
theorem dX12_hills_232 : decode cX12_hills 232 = .ok (.getfield 184, 3) := by decide +kernel
theorem dX12_hills_235 : decode cX12_hills 235 = .ok (.iconst 1, 1) := by decide +kernel
theorem dX12_hills_236 : decode cX12_hills 236 = .ok (.iadd, 1) := by decide +kernel
theorem dX12_hills_237 : decode cX12_hills 237 = .ok (.putfield 184, 3) := by decide +kernel
theorem dX12_hills_240 : decode cX12_hills 240 = .ok (.iinc 2 1, 3) := by decide +kernel
theorem dX12_hills_243 : decode cX12_hills 243 = .ok (.goto (-97), 3) := by decide +kernel
theorem dX12_hills_246 : decode cX12_hills 246 = .ok (.aload_n 0, 1) := by decide +kernel
theorem dX12_hills_247 : decode cX12_hills 247 = .ok (.invokevirtual 205, 3) := by decide +kernel
theorem dX12_hills_250 : decode cX12_hills 250 = .ok (.aload_n 0, 1) := by decide +kernel
theorem dX12_hills_251 : decode cX12_hills 251 = .ok (.iconst 0, 1) := by decide +kernel
theorem dX12_hills_252 : decode cX12_hills 252 = .ok (.putfield 208, 3) := by decide +kernel
theorem dX12_hills_255 : decode cX12_hills 255 = .ok (.aload_n 0, 1) := by decide +kernel
theorem dX12_hills_256 : decode cX12_hills 256 = .ok (.dup, 1) := by decide +kernel
theorem dX12_hills_257 : decode cX12_hills 257 = .ok (.getfield 211, 3) := by decide +kernel
theorem dX12_hills_260 : decode cX12_hills 260 = .ok (.iconst 1, 1) := by decide +kernel
theorem dX12_hills_261 : decode cX12_hills 261 = .ok (.iadd, 1) := by decide +kernel
theorem dX12_hills_262 : decode cX12_hills 262 = .ok (.putfield 211, 3) := by decide +kernel
theorem dX12_hills_265 : decode cX12_hills 265 = .ok (.aload_n 0, 1) := by decide +kernel
theorem dX12_hills_266 : decode cX12_hills 266 = .ok (.getfield 181, 3) := by decide +kernel
theorem dX12_hills_269 : decode cX12_hills 269 = .ok (.aload_n 0, 1) := by decide +kernel
theorem dX12_hills_270 : decode cX12_hills 270 = .ok (.getfield 187, 3) := by decide +kernel
theorem dX12_hills_273 : decode cX12_hills 273 = .ok (.iadd, 1) := by decide +kernel
theorem dX12_hills_274 : decode cX12_hills 274 = .ok (.ireturn, 1) := by decide +kernel
theorem dX12_layWays_0 : decode cX12_layWays 0 = .ok (.iconst 0, 1) := by decide +kernel
theorem dX12_layWays_1 : decode cX12_layWays 1 = .ok (.istore_n 1, 1) := by decide +kernel
theorem dX12_layWays_2 : decode cX12_layWays 2 = .ok (.iload_n 1, 1) := by decide +kernel
theorem dX12_layWays_3 : decode cX12_layWays 3 = .ok (.bipush 81, 2) := by decide +kernel
theorem dX12_layWays_5 : decode cX12_layWays 5 = .ok (.if_icmp .ge 21, 3) := by decide +kernel
theorem dX12_layWays_8 : decode cX12_layWays 8 = .ok (.aload_n 0, 1) := by decide +kernel
theorem dX12_layWays_9 : decode cX12_layWays 9 = .ok (.getfield 49, 3) := by decide +kernel
theorem dX12_layWays_12 : decode cX12_layWays 12 = .ok (.iload_n 1, 1) := by decide +kernel
theorem dX12_layWays_13 : decode cX12_layWays 13 = .ok (.aload_n 0, 1) := by decide +kernel
theorem dX12_layWays_14 : decode cX12_layWays 14 = .ok (.getfield 16, 3) := by decide +kernel
theorem dX12_layWays_17 : decode cX12_layWays 17 = .ok (.iload_n 1, 1) := by decide +kernel
theorem dX12_layWays_18 : decode cX12_layWays 18 = .ok (.iaload, 1) := by decide +kernel
theorem dX12_layWays_19 : decode cX12_layWays 19 = .ok (.iastore, 1) := by decide +kernel
theorem dX12_layWays_20 : decode cX12_layWays 20 = .ok (.iinc 1 1, 3) := by decide +kernel
theorem dX12_layWays_23 : decode cX12_layWays 23 = .ok (.goto (-21), 3) := by decide +kernel
theorem dX12_layWays_26 : decode cX12_layWays 26 = .ok (.iconst 0, 1) := by decide +kernel
theorem dX12_layWays_27 : decode cX12_layWays 27 = .ok (.istore_n 1, 1) := by decide +kernel
theorem dX12_layWays_28 : decode cX12_layWays 28 = .ok (.iload_n 1, 1) := by decide +kernel
theorem dX12_layWays_29 : decode cX12_layWays 29 = .ok (.aload_n 0, 1) := by decide +kernel
theorem dX12_layWays_30 : decode cX12_layWays 30 = .ok (.getfield 129, 3) := by decide +kernel
theorem dX12_layWays_33 : decode cX12_layWays 33 = .ok (.if_icmp .ge 89, 3) := by decide +kernel
theorem dX12_layWays_36 : decode cX12_layWays 36 = .ok (.iconst 0, 1) := by decide +kernel
theorem dX12_layWays_37 : decode cX12_layWays 37 = .ok (.istore_n 2, 1) := by decide +kernel
theorem dX12_layWays_38 : decode cX12_layWays 38 = .ok (.iload_n 2, 1) := by decide +kernel
theorem dX12_layWays_39 : decode cX12_layWays 39 = .ok (.aload_n 0, 1) := by decide +kernel
theorem dX12_layWays_40 : decode cX12_layWays 40 = .ok (.getfield 129, 3) := by decide +kernel
theorem dX12_layWays_43 : decode cX12_layWays 43 = .ok (.if_icmp .ge 73, 3) := by decide +kernel
theorem dX12_layWays_46 : decode cX12_layWays 46 = .ok (.iconst 0, 1) := by decide +kernel
theorem dX12_layWays_47 : decode cX12_layWays 47 = .ok (.istore_n 3, 1) := by decide +kernel
theorem dX12_layWays_48 : decode cX12_layWays 48 = .ok (.iload_n 3, 1) := by decide +kernel
theorem dX12_layWays_49 : decode cX12_layWays 49 = .ok (.aload_n 0, 1) := by decide +kernel
theorem dX12_layWays_50 : decode cX12_layWays 50 = .ok (.getfield 129, 3) := by decide +kernel
theorem dX12_layWays_53 : decode cX12_layWays 53 = .ok (.if_icmp .ge 57, 3) := by decide +kernel
theorem dX12_layWays_56 : decode cX12_layWays 56 = .ok (.aload_n 0, 1) := by decide +kernel
theorem dX12_layWays_57 : decode cX12_layWays 57 = .ok (.getfield 49, 3) := by decide +kernel
theorem dX12_layWays_60 : decode cX12_layWays 60 = .ok (.bipush 9, 2) := by decide +kernel
theorem dX12_layWays_62 : decode cX12_layWays 62 = .ok (.iload_n 2, 1) := by decide +kernel
theorem dX12_layWays_63 : decode cX12_layWays 63 = .ok (.imul, 1) := by decide +kernel
theorem dX12_layWays_64 : decode cX12_layWays 64 = .ok (.iload_n 3, 1) := by decide +kernel
theorem dX12_layWays_65 : decode cX12_layWays 65 = .ok (.iadd, 1) := by decide +kernel
theorem dX12_layWays_66 : decode cX12_layWays 66 = .ok (.aload_n 0, 1) := by decide +kernel
theorem dX12_layWays_67 : decode cX12_layWays 67 = .ok (.getfield 49, 3) := by decide +kernel
theorem dX12_layWays_70 : decode cX12_layWays 70 = .ok (.bipush 9, 2) := by decide +kernel
theorem dX12_layWays_72 : decode cX12_layWays 72 = .ok (.iload_n 2, 1) := by decide +kernel
theorem dX12_layWays_73 : decode cX12_layWays 73 = .ok (.imul, 1) := by decide +kernel
theorem dX12_layWays_74 : decode cX12_layWays 74 = .ok (.iload_n 3, 1) := by decide +kernel
theorem dX12_layWays_75 : decode cX12_layWays 75 = .ok (.iadd, 1) := by decide +kernel
theorem dX12_layWays_76 : decode cX12_layWays 76 = .ok (.iaload, 1) := by decide +kernel
theorem dX12_layWays_77 : decode cX12_layWays 77 = .ok (.aload_n 0, 1) := by decide +kernel
theorem dX12_layWays_78 : decode cX12_layWays 78 = .ok (.getfield 49, 3) := by decide +kernel
theorem dX12_layWays_81 : decode cX12_layWays 81 = .ok (.bipush 9, 2) := by decide +kernel
theorem dX12_layWays_83 : decode cX12_layWays 83 = .ok (.iload_n 2, 1) := by decide +kernel
theorem dX12_layWays_84 : decode cX12_layWays 84 = .ok (.imul, 1) := by decide +kernel
theorem dX12_layWays_85 : decode cX12_layWays 85 = .ok (.iload_n 1, 1) := by decide +kernel
theorem dX12_layWays_86 : decode cX12_layWays 86 = .ok (.iadd, 1) := by decide +kernel
theorem dX12_layWays_87 : decode cX12_layWays 87 = .ok (.iaload, 1) := by decide +kernel
theorem dX12_layWays_88 : decode cX12_layWays 88 = .ok (.aload_n 0, 1) := by decide +kernel
theorem dX12_layWays_89 : decode cX12_layWays 89 = .ok (.getfield 49, 3) := by decide +kernel
theorem dX12_layWays_92 : decode cX12_layWays 92 = .ok (.bipush 9, 2) := by decide +kernel
theorem dX12_layWays_94 : decode cX12_layWays 94 = .ok (.iload_n 1, 1) := by decide +kernel
theorem dX12_layWays_95 : decode cX12_layWays 95 = .ok (.imul, 1) := by decide +kernel
theorem dX12_layWays_96 : decode cX12_layWays 96 = .ok (.iload_n 3, 1) := by decide +kernel
theorem dX12_layWays_97 : decode cX12_layWays 97 = .ok (.iadd, 1) := by decide +kernel
theorem dX12_layWays_98 : decode cX12_layWays 98 = .ok (.iaload, 1) := by decide +kernel
theorem dX12_layWays_99 : decode cX12_layWays 99 = .ok (.iadd, 1) := by decide +kernel
theorem dX12_layWays_100 : decode cX12_layWays 100 = .ok (.invokestatic 200, 3) := by decide +kernel
theorem dX12_layWays_103 : decode cX12_layWays 103 = .ok (.iastore, 1) := by decide +kernel
theorem dX12_layWays_104 : decode cX12_layWays 104 = .ok (.iinc 3 1, 3) := by decide +kernel
theorem dX12_layWays_107 : decode cX12_layWays 107 = .ok (.goto (-59), 3) := by decide +kernel
theorem dX12_layWays_110 : decode cX12_layWays 110 = .ok (.iinc 2 1, 3) := by decide +kernel
theorem dX12_layWays_113 : decode cX12_layWays 113 = .ok (.goto (-75), 3) := by decide +kernel
theorem dX12_layWays_116 : decode cX12_layWays 116 = .ok (.iinc 1 1, 3) := by decide +kernel
theorem dX12_layWays_119 : decode cX12_layWays 119 = .ok (.goto (-91), 3) := by decide +kernel
theorem dX12_layWays_122 : decode cX12_layWays 122 = .ok (.return_, 1) := by decide +kernel
theorem dX12_wayOf_0 : decode cX12_wayOf 0 = .ok (.iload_n 1, 1) := by decide +kernel
theorem dX12_wayOf_1 : decode cX12_wayOf 1 = .ok (.iload_n 2, 1) := by decide +kernel
theorem dX12_wayOf_2 : decode cX12_wayOf 2 = .ok (.if_icmp .ne 7, 3) := by decide +kernel
theorem dX12_wayOf_5 : decode cX12_wayOf 5 = .ok (.iconst 0, 1) := by decide +kernel
theorem dX12_wayOf_6 : decode cX12_wayOf 6 = .ok (.goto 14, 3) := by decide +kernel
theorem dX12_wayOf_9 : decode cX12_wayOf 9 = .ok (.aload_n 0, 1) := by decide +kernel
theorem dX12_wayOf_10 : decode cX12_wayOf 10 = .ok (.getfield 49, 3) := by decide +kernel
theorem dX12_wayOf_13 : decode cX12_wayOf 13 = .ok (.bipush 9, 2) := by decide +kernel
theorem dX12_wayOf_15 : decode cX12_wayOf 15 = .ok (.iload_n 1, 1) := by decide +kernel
theorem dX12_wayOf_16 : decode cX12_wayOf 16 = .ok (.imul, 1) := by decide +kernel
theorem dX12_wayOf_17 : decode cX12_wayOf 17 = .ok (.iload_n 2, 1) := by decide +kernel
theorem dX12_wayOf_18 : decode cX12_wayOf 18 = .ok (.iadd, 1) := by decide +kernel
theorem dX12_wayOf_19 : decode cX12_wayOf 19 = .ok (.iaload, 1) := by decide +kernel
theorem dX12_wayOf_20 : decode cX12_wayOf 20 = .ok (.ireturn, 1) := by decide +kernel
theorem dX12_readFeast_0 : decode cX12_readFeast 0 = .ok (.aload_n 0, 1) := by decide +kernel
theorem dX12_readFeast_1 : decode cX12_readFeast 1 = .ok (.getfield 52, 3) := by decide +kernel
theorem dX12_readFeast_4 : decode cX12_readFeast 4 = .ok (.iload_n 1, 1) := by decide +kernel
theorem dX12_readFeast_5 : decode cX12_readFeast 5 = .ok (.aload_n 0, 1) := by decide +kernel
theorem dX12_readFeast_6 : decode cX12_readFeast 6 = .ok (.bipush 97, 2) := by decide +kernel
theorem dX12_readFeast_8 : decode cX12_readFeast 8 = .ok (.aload_n 0, 1) := by decide +kernel
theorem dX12_readFeast_9 : decode cX12_readFeast 9 = .ok (.getfield 129, 3) := by decide +kernel
theorem dX12_readFeast_12 : decode cX12_readFeast 12 = .ok (.iconst (-1), 1) := by decide +kernel
theorem dX12_readFeast_13 : decode cX12_readFeast 13 = .ok (.invokevirtual 173, 3) := by decide +kernel
theorem dX12_readFeast_16 : decode cX12_readFeast 16 = .ok (.iastore, 1) := by decide +kernel
theorem dX12_readFeast_17 : decode cX12_readFeast 17 = .ok (.aload_n 0, 1) := by decide +kernel
theorem dX12_readFeast_18 : decode cX12_readFeast 18 = .ok (.getfield 52, 3) := by decide +kernel
theorem dX12_readFeast_21 : decode cX12_readFeast 21 = .ok (.iload_n 1, 1) := by decide +kernel
theorem dX12_readFeast_22 : decode cX12_readFeast 22 = .ok (.iconst 1, 1) := by decide +kernel
theorem dX12_readFeast_23 : decode cX12_readFeast 23 = .ok (.iadd, 1) := by decide +kernel
theorem dX12_readFeast_24 : decode cX12_readFeast 24 = .ok (.aload_n 0, 1) := by decide +kernel
theorem dX12_readFeast_25 : decode cX12_readFeast 25 = .ok (.iconst 2, 1) := by decide +kernel
theorem dX12_readFeast_26 : decode cX12_readFeast 26 = .ok (.invokevirtual 177, 3) := by decide +kernel
theorem dX12_readFeast_29 : decode cX12_readFeast 29 = .ok (.iastore, 1) := by decide +kernel
theorem dX12_readFeast_30 : decode cX12_readFeast 30 = .ok (.aload_n 0, 1) := by decide +kernel
theorem dX12_readFeast_31 : decode cX12_readFeast 31 = .ok (.bipush 45, 2) := by decide +kernel
theorem dX12_readFeast_33 : decode cX12_readFeast 33 = .ok (.invokevirtual 214, 3) := by decide +kernel
theorem dX12_readFeast_36 : decode cX12_readFeast 36 = .ok (.aload_n 0, 1) := by decide +kernel
theorem dX12_readFeast_37 : decode cX12_readFeast 37 = .ok (.getfield 52, 3) := by decide +kernel
theorem dX12_readFeast_40 : decode cX12_readFeast 40 = .ok (.iload_n 1, 1) := by decide +kernel
theorem dX12_readFeast_41 : decode cX12_readFeast 41 = .ok (.iconst 2, 1) := by decide +kernel
theorem dX12_readFeast_42 : decode cX12_readFeast 42 = .ok (.iadd, 1) := by decide +kernel
theorem dX12_readFeast_43 : decode cX12_readFeast 43 = .ok (.aload_n 0, 1) := by decide +kernel
theorem dX12_readFeast_44 : decode cX12_readFeast 44 = .ok (.iconst 2, 1) := by decide +kernel
theorem dX12_readFeast_45 : decode cX12_readFeast 45 = .ok (.aload_n 0, 1) := by decide +kernel
theorem dX12_readFeast_46 : decode cX12_readFeast 46 = .ok (.getfield 52, 3) := by decide +kernel
theorem dX12_readFeast_49 : decode cX12_readFeast 49 = .ok (.iload_n 1, 1) := by decide +kernel
theorem dX12_readFeast_50 : decode cX12_readFeast 50 = .ok (.iconst 1, 1) := by decide +kernel
theorem dX12_readFeast_51 : decode cX12_readFeast 51 = .ok (.iadd, 1) := by decide +kernel
theorem dX12_readFeast_52 : decode cX12_readFeast 52 = .ok (.iaload, 1) := by decide +kernel
theorem dX12_readFeast_53 : decode cX12_readFeast 53 = .ok (.invokevirtual 190, 3) := by decide +kernel
theorem dX12_readFeast_56 : decode cX12_readFeast 56 = .ok (.iastore, 1) := by decide +kernel
theorem dX12_readFeast_57 : decode cX12_readFeast 57 = .ok (.aload_n 0, 1) := by decide +kernel
theorem dX12_readFeast_58 : decode cX12_readFeast 58 = .ok (.bipush 36, 2) := by decide +kernel
theorem dX12_readFeast_60 : decode cX12_readFeast 60 = .ok (.invokevirtual 214, 3) := by decide +kernel
theorem dX12_readFeast_63 : decode cX12_readFeast 63 = .ok (.aload_n 0, 1) := by decide +kernel
theorem dX12_readFeast_64 : decode cX12_readFeast 64 = .ok (.getfield 52, 3) := by decide +kernel
theorem dX12_readFeast_67 : decode cX12_readFeast 67 = .ok (.iload_n 1, 1) := by decide +kernel
theorem dX12_readFeast_68 : decode cX12_readFeast 68 = .ok (.iconst 3, 1) := by decide +kernel
theorem dX12_readFeast_69 : decode cX12_readFeast 69 = .ok (.iadd, 1) := by decide +kernel
theorem dX12_readFeast_70 : decode cX12_readFeast 70 = .ok (.aload_n 0, 1) := by decide +kernel
theorem dX12_readFeast_71 : decode cX12_readFeast 71 = .ok (.iconst 2, 1) := by decide +kernel
theorem dX12_readFeast_72 : decode cX12_readFeast 72 = .ok (.invokevirtual 177, 3) := by decide +kernel
theorem dX12_readFeast_75 : decode cX12_readFeast 75 = .ok (.iastore, 1) := by decide +kernel
theorem dX12_readFeast_76 : decode cX12_readFeast 76 = .ok (.aload_n 0, 1) := by decide +kernel
theorem dX12_readFeast_77 : decode cX12_readFeast 77 = .ok (.bipush 42, 2) := by decide +kernel
theorem dX12_readFeast_79 : decode cX12_readFeast 79 = .ok (.invokevirtual 214, 3) := by decide +kernel
theorem dX12_readFeast_82 : decode cX12_readFeast 82 = .ok (.aload_n 0, 1) := by decide +kernel
theorem dX12_readFeast_83 : decode cX12_readFeast 83 = .ok (.getfield 52, 3) := by decide +kernel
theorem dX12_readFeast_86 : decode cX12_readFeast 86 = .ok (.iload_n 1, 1) := by decide +kernel
theorem dX12_readFeast_87 : decode cX12_readFeast 87 = .ok (.iconst 4, 1) := by decide +kernel
theorem dX12_readFeast_88 : decode cX12_readFeast 88 = .ok (.iadd, 1) := by decide +kernel
theorem dX12_readFeast_89 : decode cX12_readFeast 89 = .ok (.aload_n 0, 1) := by decide +kernel
theorem dX12_readFeast_90 : decode cX12_readFeast 90 = .ok (.bipush 49, 2) := by decide +kernel
theorem dX12_readFeast_92 : decode cX12_readFeast 92 = .ok (.bipush 9, 2) := by decide +kernel
theorem dX12_readFeast_94 : decode cX12_readFeast 94 = .ok (.iconst (-1), 1) := by decide +kernel
theorem dX12_readFeast_95 : decode cX12_readFeast 95 = .ok (.invokevirtual 173, 3) := by decide +kernel
theorem dX12_readFeast_98 : decode cX12_readFeast 98 = .ok (.iconst 1, 1) := by decide +kernel
theorem dX12_readFeast_99 : decode cX12_readFeast 99 = .ok (.iadd, 1) := by decide +kernel
theorem dX12_readFeast_100 : decode cX12_readFeast 100 = .ok (.iastore, 1) := by decide +kernel
theorem dX12_readFeast_101 : decode cX12_readFeast 101 = .ok (.return_, 1) := by decide +kernel
theorem dX12_feasts_0 : decode cX12_feasts 0 = .ok (.aload_n 0, 1) := by decide +kernel
theorem dX12_feasts_1 : decode cX12_feasts 1 = .ok (.iconst 0, 1) := by decide +kernel
theorem dX12_feasts_2 : decode cX12_feasts 2 = .ok (.putfield 123, 3) := by decide +kernel
theorem dX12_feasts_5 : decode cX12_feasts 5 = .ok (.aload_n 0, 1) := by decide +kernel
theorem dX12_feasts_6 : decode cX12_feasts 6 = .ok (.aload_n 0, 1) := by decide +kernel
theorem dX12_feasts_7 : decode cX12_feasts 7 = .ok (.getfield 35, 3) := by decide +kernel
theorem dX12_feasts_10 : decode cX12_feasts 10 = .ok (.aload_n 0, 1) := by decide +kernel
theorem dX12_feasts_11 : decode cX12_feasts 11 = .ok (.getfield 139, 3) := by decide +kernel
theorem dX12_feasts_14 : decode cX12_feasts 14 = .ok (.bipush 76, 2) := by decide +kernel
theorem dX12_feasts_16 : decode cX12_feasts 16 = .ok (.invokevirtual 193, 3) := by decide +kernel
theorem dX12_feasts_19 : decode cX12_feasts 19 = .ok (.aload_n 0, 1) := by decide +kernel
theorem dX12_feasts_20 : decode cX12_feasts 20 = .ok (.iconst 0, 1) := by decide +kernel
theorem dX12_feasts_21 : decode cX12_feasts 21 = .ok (.putfield 139, 3) := by decide +kernel
theorem dX12_feasts_24 : decode cX12_feasts 24 = .ok (.aload_n 0, 1) := by decide +kernel
theorem dX12_feasts_25 : decode cX12_feasts 25 = .ok (.getfield 145, 3) := by decide +kernel
theorem dX12_feasts_28 : decode cX12_feasts 28 = .ok (.ifCond .ne 5, 3) := by decide +kernel
theorem dX12_feasts_31 : decode cX12_feasts 31 = .ok (.iconst 0, 1) := by decide +kernel
theorem dX12_feasts_32 : decode cX12_feasts 32 = .ok (.ireturn, 1) := by decide +kernel
theorem dX12_feasts_33 : decode cX12_feasts 33 = .ok (.iconst 0, 1) := by decide +kernel
theorem dX12_feasts_34 : decode cX12_feasts 34 = .ok (.istore_n 1, 1) := by decide +kernel
theorem dX12_feasts_35 : decode cX12_feasts 35 = .ok (.iconst 1, 1) := by decide +kernel
theorem dX12_feasts_36 : decode cX12_feasts 36 = .ok (.istore_n 2, 1) := by decide +kernel
theorem dX12_feasts_37 : decode cX12_feasts 37 = .ok (.iload_n 2, 1) := by decide +kernel
theorem dX12_feasts_38 : decode cX12_feasts 38 = .ok (.ifCond .eq 52, 3) := by decide +kernel
theorem dX12_feasts_41 : decode cX12_feasts 41 = .ok (.aload_n 0, 1) := by decide +kernel
theorem dX12_feasts_42 : decode cX12_feasts 42 = .ok (.invokevirtual 157, 3) := by decide +kernel
theorem dX12_feasts_45 : decode cX12_feasts 45 = .ok (.ifCond .eq 45, 3) := by decide +kernel
theorem dX12_feasts_48 : decode cX12_feasts 48 = .ok (.aload_n 0, 1) := by decide +kernel
theorem dX12_feasts_49 : decode cX12_feasts 49 = .ok (.getfield 136, 3) := by decide +kernel
theorem dX12_feasts_52 : decode cX12_feasts 52 = .ok (.iload_n 1, 1) := by decide +kernel
theorem dX12_feasts_53 : decode cX12_feasts 53 = .ok (.iadd, 1) := by decide +kernel
theorem dX12_feasts_54 : decode cX12_feasts 54 = .ok (.bipush 8, 2) := by decide +kernel
theorem dX12_feasts_56 : decode cX12_feasts 56 = .ok (.if_icmp .ne 14, 3) := by decide +kernel
theorem dX12_feasts_59 : decode cX12_feasts 59 = .ok (.aload_n 0, 1) := by decide +kernel
theorem dX12_feasts_60 : decode cX12_feasts 60 = .ok (.aload_n 0, 1) := by decide +kernel
theorem dX12_feasts_61 : decode cX12_feasts 61 = .ok (.getfield 151, 3) := by decide +kernel
theorem dX12_feasts_64 : decode cX12_feasts 64 = .ok (.invokevirtual 169, 3) := by decide +kernel
theorem dX12_feasts_67 : decode cX12_feasts 67 = .ok (.goto 10, 3) := by decide +kernel
theorem dX12_feasts_70 : decode cX12_feasts 70 = .ok (.aload_n 0, 1) := by decide +kernel
theorem dX12_feasts_71 : decode cX12_feasts 71 = .ok (.iconst 5, 1) := by decide +kernel
theorem dX12_feasts_72 : decode cX12_feasts 72 = .ok (.iload_n 1, 1) := by decide +kernel
theorem dX12_feasts_73 : decode cX12_feasts 73 = .ok (.imul, 1) := by decide +kernel
theorem dX12_feasts_74 : decode cX12_feasts 74 = .ok (.invokevirtual 218, 3) := by decide +kernel
theorem dX12_feasts_77 : decode cX12_feasts 77 = .ok (.iinc 1 1, 3) := by decide +kernel
theorem dX12_feasts_80 : decode cX12_feasts 80 = .ok (.aload_n 0, 1) := by decide +kernel
theorem dX12_feasts_81 : decode cX12_feasts 81 = .ok (.bipush 59, 2) := by decide +kernel
theorem dX12_feasts_83 : decode cX12_feasts 83 = .ok (.invokevirtual 165, 3) := by decide +kernel
theorem dX12_feasts_86 : decode cX12_feasts 86 = .ok (.istore_n 2, 1) := by decide +kernel
theorem dX12_feasts_87 : decode cX12_feasts 87 = .ok (.goto (-50), 3) := by decide +kernel
theorem dX12_feasts_90 : decode cX12_feasts 90 = .ok (.aload_n 0, 1) := by decide +kernel
theorem dX12_feasts_91 : decode cX12_feasts 91 = .ok (.getfield 151, 3) := by decide +kernel
theorem dX12_feasts_94 : decode cX12_feasts 94 = .ok (.aload_n 0, 1) := by decide +kernel
theorem dX12_feasts_95 : decode cX12_feasts 95 = .ok (.getfield 145, 3) := by decide +kernel
theorem dX12_feasts_98 : decode cX12_feasts 98 = .ok (.if_icmp .ge 11, 3) := by decide +kernel
theorem dX12_feasts_101 : decode cX12_feasts 101 = .ok (.aload_n 0, 1) := by decide +kernel
theorem dX12_feasts_102 : decode cX12_feasts 102 = .ok (.aload_n 0, 1) := by decide +kernel
theorem dX12_feasts_103 : decode cX12_feasts 103 = .ok (.getfield 151, 3) := by decide +kernel
theorem dX12_feasts_106 : decode cX12_feasts 106 = .ok (.invokevirtual 169, 3) := by decide +kernel
theorem dX12_feasts_109 : decode cX12_feasts 109 = .ok (.aload_n 0, 1) := by decide +kernel
theorem dX12_feasts_110 : decode cX12_feasts 110 = .ok (.invokevirtual 157, 3) := by decide +kernel
theorem dX12_feasts_113 : decode cX12_feasts 113 = .ok (.ifCond .ne 10, 3) := by decide +kernel
theorem dX12_feasts_116 : decode cX12_feasts 116 = .ok (.iconst (-1), 1) := by decide +kernel
theorem dX12_feasts_117 : decode cX12_feasts 117 = .ok (.aload_n 0, 1) := by decide +kernel
theorem dX12_feasts_118 : decode cX12_feasts 118 = .ok (.getfield 154, 3) := by decide +kernel
theorem dX12_feasts_121 : decode cX12_feasts 121 = .ok (.isub, 1) := by decide +kernel
theorem dX12_feasts_122 : decode cX12_feasts 122 = .ok (.ireturn, 1) := by decide +kernel
theorem dX12_feasts_123 : decode cX12_feasts 123 = .ok (.iconst 0, 1) := by decide +kernel
theorem dX12_feasts_124 : decode cX12_feasts 124 = .ok (.istore_n 3, 1) := by decide +kernel
theorem dX12_feasts_125 : decode cX12_feasts 125 = .ok (.iload_n 3, 1) := by decide +kernel
theorem dX12_feasts_126 : decode cX12_feasts 126 = .ok (.iload_n 1, 1) := by decide +kernel
theorem dX12_feasts_127 : decode cX12_feasts 127 = .ok (.if_icmp .ge 118, 3) := by decide +kernel
theorem dX12_feasts_130 : decode cX12_feasts 130 = .ok (.aload_n 0, 1) := by decide +kernel
theorem dX12_feasts_131 : decode cX12_feasts 131 = .ok (.getfield 19, 3) := by decide +kernel
theorem dX12_feasts_134 : decode cX12_feasts 134 = .ok (.aload_n 0, 1) := by decide +kernel
theorem dX12_feasts_135 : decode cX12_feasts 135 = .ok (.getfield 136, 3) := by decide +kernel
theorem dX12_feasts_138 : decode cX12_feasts 138 = .ok (.aload_n 0, 1) := by decide +kernel
theorem dX12_feasts_139 : decode cX12_feasts 139 = .ok (.getfield 52, 3) := by decide +kernel
theorem dX12_feasts_142 : decode cX12_feasts 142 = .ok (.iconst 5, 1) := by decide +kernel
theorem dX12_feasts_143 : decode cX12_feasts 143 = .ok (.iload_n 3, 1) := by decide +kernel
theorem dX12_feasts_144 : decode cX12_feasts 144 = .ok (.imul, 1) := by decide +kernel
theorem dX12_feasts_145 : decode cX12_feasts 145 = .ok (.iaload, 1) := by decide +kernel
theorem dX12_feasts_146 : decode cX12_feasts 146 = .ok (.iastore, 1) := by decide +kernel
theorem dX12_feasts_147 : decode cX12_feasts 147 = .ok (.aload_n 0, 1) := by decide +kernel
theorem dX12_feasts_148 : decode cX12_feasts 148 = .ok (.getfield 9, 3) := by decide +kernel
theorem dX12_feasts_151 : decode cX12_feasts 151 = .ok (.bipush 7, 2) := by decide +kernel
theorem dX12_feasts_153 : decode cX12_feasts 153 = .ok (.aload_n 0, 1) := by decide +kernel
theorem dX12_feasts_154 : decode cX12_feasts 154 = .ok (.getfield 136, 3) := by decide +kernel
theorem dX12_feasts_157 : decode cX12_feasts 157 = .ok (.iadd, 1) := by decide +kernel
theorem dX12_feasts_158 : decode cX12_feasts 158 = .ok (.aload_n 0, 1) := by decide +kernel
theorem dX12_feasts_159 : decode cX12_feasts 159 = .ok (.getfield 52, 3) := by decide +kernel
theorem dX12_feasts_162 : decode cX12_feasts 162 = .ok (.iconst 5, 1) := by decide +kernel
theorem dX12_feasts_163 : decode cX12_feasts 163 = .ok (.iload_n 3, 1) := by decide +kernel
theorem dX12_feasts_164 : decode cX12_feasts 164 = .ok (.imul, 1) := by decide +kernel
theorem dX12_feasts_165 : decode cX12_feasts 165 = .ok (.iconst 1, 1) := by decide +kernel
theorem dX12_feasts_166 : decode cX12_feasts 166 = .ok (.iadd, 1) := by decide +kernel
theorem dX12_feasts_167 : decode cX12_feasts 167 = .ok (.iaload, 1) := by decide +kernel
theorem dX12_feasts_168 : decode cX12_feasts 168 = .ok (.iastore, 1) := by decide +kernel
theorem dX12_feasts_169 : decode cX12_feasts 169 = .ok (.aload_n 0, 1) := by decide +kernel
theorem dX12_feasts_170 : decode cX12_feasts 170 = .ok (.getfield 9, 3) := by decide +kernel
theorem dX12_feasts_173 : decode cX12_feasts 173 = .ok (.bipush 15, 2) := by decide +kernel
theorem dX12_feasts_175 : decode cX12_feasts 175 = .ok (.aload_n 0, 1) := by decide +kernel
theorem dX12_feasts_176 : decode cX12_feasts 176 = .ok (.getfield 136, 3) := by decide +kernel
theorem dX12_feasts_179 : decode cX12_feasts 179 = .ok (.iadd, 1) := by decide +kernel
theorem dX12_feasts_180 : decode cX12_feasts 180 = .ok (.aload_n 0, 1) := by decide +kernel
theorem dX12_feasts_181 : decode cX12_feasts 181 = .ok (.getfield 52, 3) := by decide +kernel
theorem dX12_feasts_184 : decode cX12_feasts 184 = .ok (.iconst 5, 1) := by decide +kernel
theorem dX12_feasts_185 : decode cX12_feasts 185 = .ok (.iload_n 3, 1) := by decide +kernel
theorem dX12_feasts_186 : decode cX12_feasts 186 = .ok (.imul, 1) := by decide +kernel
theorem dX12_feasts_187 : decode cX12_feasts 187 = .ok (.iconst 2, 1) := by decide +kernel
theorem dX12_feasts_188 : decode cX12_feasts 188 = .ok (.iadd, 1) := by decide +kernel
theorem dX12_feasts_189 : decode cX12_feasts 189 = .ok (.iaload, 1) := by decide +kernel
theorem dX12_feasts_190 : decode cX12_feasts 190 = .ok (.iastore, 1) := by decide +kernel
theorem dX12_feasts_191 : decode cX12_feasts 191 = .ok (.aload_n 0, 1) := by decide +kernel
theorem dX12_feasts_192 : decode cX12_feasts 192 = .ok (.getfield 22, 3) := by decide +kernel
theorem dX12_feasts_195 : decode cX12_feasts 195 = .ok (.aload_n 0, 1) := by decide +kernel
theorem dX12_feasts_196 : decode cX12_feasts 196 = .ok (.getfield 136, 3) := by decide +kernel
theorem dX12_feasts_199 : decode cX12_feasts 199 = .ok (.aload_n 0, 1) := by decide +kernel
theorem dX12_feasts_200 : decode cX12_feasts 200 = .ok (.getfield 52, 3) := by decide +kernel
theorem dX12_feasts_203 : decode cX12_feasts 203 = .ok (.iconst 5, 1) := by decide +kernel
theorem dX12_feasts_204 : decode cX12_feasts 204 = .ok (.iload_n 3, 1) := by decide +kernel
theorem dX12_feasts_205 : decode cX12_feasts 205 = .ok (.imul, 1) := by decide +kernel
theorem dX12_feasts_206 : decode cX12_feasts 206 = .ok (.iconst 3, 1) := by decide +kernel
theorem dX12_feasts_207 : decode cX12_feasts 207 = .ok (.iadd, 1) := by decide +kernel
theorem dX12_feasts_208 : decode cX12_feasts 208 = .ok (.iaload, 1) := by decide +kernel
theorem dX12_feasts_209 : decode cX12_feasts 209 = .ok (.iastore, 1) := by decide +kernel
theorem dX12_feasts_210 : decode cX12_feasts 210 = .ok (.aload_n 0, 1) := by decide +kernel
theorem dX12_feasts_211 : decode cX12_feasts 211 = .ok (.getfield 25, 3) := by decide +kernel
theorem dX12_feasts_214 : decode cX12_feasts 214 = .ok (.aload_n 0, 1) := by decide +kernel
theorem dX12_feasts_215 : decode cX12_feasts 215 = .ok (.getfield 136, 3) := by decide +kernel
theorem dX12_feasts_218 : decode cX12_feasts 218 = .ok (.aload_n 0, 1) := by decide +kernel
theorem dX12_feasts_219 : decode cX12_feasts 219 = .ok (.getfield 52, 3) := by decide +kernel
theorem dX12_feasts_222 : decode cX12_feasts 222 = .ok (.iconst 5, 1) := by decide +kernel
theorem dX12_feasts_223 : decode cX12_feasts 223 = .ok (.iload_n 3, 1) := by decide +kernel
theorem dX12_feasts_224 : decode cX12_feasts 224 = .ok (.imul, 1) := by decide +kernel
theorem dX12_feasts_225 : decode cX12_feasts 225 = .ok (.iconst 4, 1) := by decide +kernel
theorem dX12_feasts_226 : decode cX12_feasts 226 = .ok (.iadd, 1) := by decide +kernel
theorem dX12_feasts_227 : decode cX12_feasts 227 = .ok (.iaload, 1) := by decide +kernel
theorem dX12_feasts_228 : decode cX12_feasts 228 = .ok (.iastore, 1) := by decide +kernel
theorem dX12_feasts_229 : decode cX12_feasts 229 = .ok (.aload_n 0, 1) := by decide +kernel
theorem dX12_feasts_230 : decode cX12_feasts 230 = .ok (.dup, 1) := by decide +kernel
theorem dX12_feasts_231 : decode cX12_feasts 231 = .ok (.getfield 136, 3) := by decide +kernel
theorem dX12_feasts_234 : decode cX12_feasts 234 = .ok (.iconst 1, 1) := by decide +kernel
theorem dX12_feasts_235 : decode cX12_feasts 235 = .ok (.iadd, 1) := by decide +kernel
theorem dX12_feasts_236 : decode cX12_feasts 236 = .ok (.putfield 136, 3) := by decide +kernel
theorem dX12_feasts_239 : decode cX12_feasts 239 = .ok (.iinc 3 1, 3) := by decide +kernel
theorem dX12_feasts_242 : decode cX12_feasts 242 = .ok (.goto (-117), 3) := by decide +kernel
theorem dX12_feasts_245 : decode cX12_feasts 245 = .ok (.aload_n 0, 1) := by decide +kernel
theorem dX12_feasts_246 : decode cX12_feasts 246 = .ok (.iconst 0, 1) := by decide +kernel
theorem dX12_feasts_247 : decode cX12_feasts 247 = .ok (.putfield 208, 3) := by decide +kernel
theorem dX12_feasts_250 : decode cX12_feasts 250 = .ok (.aload_n 0, 1) := by decide +kernel
theorem dX12_feasts_251 : decode cX12_feasts 251 = .ok (.dup, 1) := by decide +kernel
theorem dX12_feasts_252 : decode cX12_feasts 252 = .ok (.getfield 211, 3) := by decide +kernel
theorem dX12_feasts_255 : decode cX12_feasts 255 = .ok (.iconst 1, 1) := by decide +kernel
theorem dX12_feasts_256 : decode cX12_feasts 256 = .ok (.iadd, 1) := by decide +kernel
theorem dX12_feasts_257 : decode cX12_feasts 257 = .ok (.putfield 211, 3) := by decide +kernel
theorem dX12_feasts_260 : decode cX12_feasts 260 = .ok (.iload_n 1, 1) := by decide +kernel
theorem dX12_feasts_261 : decode cX12_feasts 261 = .ok (.ireturn, 1) := by decide +kernel
theorem dX12_held_0 : decode cX12_held 0 = .ok (.aload_n 0, 1) := by decide +kernel
theorem dX12_held_1 : decode cX12_held 1 = .ok (.iload_n 1, 1) := by decide +kernel
theorem dX12_held_2 : decode cX12_held 2 = .ok (.invokevirtual 221, 3) := by decide +kernel
theorem dX12_held_5 : decode cX12_held 5 = .ok (.istore_n 2, 1) := by decide +kernel
theorem dX12_held_6 : decode cX12_held 6 = .ok (.aload_n 0, 1) := by decide +kernel
theorem dX12_held_7 : decode cX12_held 7 = .ok (.bipush 60, 2) := by decide +kernel
theorem dX12_held_9 : decode cX12_held 9 = .ok (.invokevirtual 165, 3) := by decide +kernel
theorem dX12_held_12 : decode cX12_held 12 = .ok (.ifCond .eq 18, 3) := by decide +kernel
theorem dX12_held_15 : decode cX12_held 15 = .ok (.iload_n 2, 1) := by decide +kernel
theorem dX12_held_16 : decode cX12_held 16 = .ok (.aload_n 0, 1) := by decide +kernel
theorem dX12_held_17 : decode cX12_held 17 = .ok (.iload_n 1, 1) := by decide +kernel
theorem dX12_held_18 : decode cX12_held 18 = .ok (.invokevirtual 221, 3) := by decide +kernel
theorem dX12_held_21 : decode cX12_held 21 = .ok (.if_icmp .ge 7, 3) := by decide +kernel
theorem dX12_held_24 : decode cX12_held 24 = .ok (.iconst 1, 1) := by decide +kernel
theorem dX12_held_25 : decode cX12_held 25 = .ok (.goto 4, 3) := by decide +kernel
theorem dX12_held_28 : decode cX12_held 28 = .ok (.iconst 0, 1) := by decide +kernel
theorem dX12_held_29 : decode cX12_held 29 = .ok (.ireturn, 1) := by decide +kernel
theorem dX12_held_30 : decode cX12_held 30 = .ok (.aload_n 0, 1) := by decide +kernel
theorem dX12_held_31 : decode cX12_held 31 = .ok (.bipush 62, 2) := by decide +kernel
theorem dX12_held_33 : decode cX12_held 33 = .ok (.invokevirtual 165, 3) := by decide +kernel
theorem dX12_held_36 : decode cX12_held 36 = .ok (.ifCond .eq 18, 3) := by decide +kernel
theorem dX12_held_39 : decode cX12_held 39 = .ok (.iload_n 2, 1) := by decide +kernel
theorem dX12_held_40 : decode cX12_held 40 = .ok (.aload_n 0, 1) := by decide +kernel
theorem dX12_held_41 : decode cX12_held 41 = .ok (.iload_n 1, 1) := by decide +kernel
theorem dX12_held_42 : decode cX12_held 42 = .ok (.invokevirtual 221, 3) := by decide +kernel
theorem dX12_held_45 : decode cX12_held 45 = .ok (.if_icmp .le 7, 3) := by decide +kernel
theorem dX12_held_48 : decode cX12_held 48 = .ok (.iconst 1, 1) := by decide +kernel
theorem dX12_held_49 : decode cX12_held 49 = .ok (.goto 4, 3) := by decide +kernel
theorem dX12_held_52 : decode cX12_held 52 = .ok (.iconst 0, 1) := by decide +kernel
theorem dX12_held_53 : decode cX12_held 53 = .ok (.ireturn, 1) := by decide +kernel
theorem dX12_held_54 : decode cX12_held 54 = .ok (.aload_n 0, 1) := by decide +kernel
theorem dX12_held_55 : decode cX12_held 55 = .ok (.bipush 61, 2) := by decide +kernel
theorem dX12_held_57 : decode cX12_held 57 = .ok (.invokevirtual 165, 3) := by decide +kernel
theorem dX12_held_60 : decode cX12_held 60 = .ok (.ifCond .eq 18, 3) := by decide +kernel
theorem dX12_held_63 : decode cX12_held 63 = .ok (.iload_n 2, 1) := by decide +kernel
theorem dX12_held_64 : decode cX12_held 64 = .ok (.aload_n 0, 1) := by decide +kernel
theorem dX12_held_65 : decode cX12_held 65 = .ok (.iload_n 1, 1) := by decide +kernel
theorem dX12_held_66 : decode cX12_held 66 = .ok (.invokevirtual 221, 3) := by decide +kernel
theorem dX12_held_69 : decode cX12_held 69 = .ok (.if_icmp .ne 7, 3) := by decide +kernel
theorem dX12_held_72 : decode cX12_held 72 = .ok (.iconst 1, 1) := by decide +kernel
theorem dX12_held_73 : decode cX12_held 73 = .ok (.goto 4, 3) := by decide +kernel
theorem dX12_held_76 : decode cX12_held 76 = .ok (.iconst 0, 1) := by decide +kernel
theorem dX12_held_77 : decode cX12_held 77 = .ok (.ireturn, 1) := by decide +kernel
theorem dX12_held_78 : decode cX12_held 78 = .ok (.iload_n 2, 1) := by decide +kernel
theorem dX12_held_79 : decode cX12_held 79 = .ok (.ireturn, 1) := by decide +kernel
theorem dX12_sum_0 : decode cX12_sum 0 = .ok (.aload_n 0, 1) := by decide +kernel
theorem dX12_sum_1 : decode cX12_sum 1 = .ok (.iload_n 1, 1) := by decide +kernel
theorem dX12_sum_2 : decode cX12_sum 2 = .ok (.invokevirtual 224, 3) := by decide +kernel
theorem dX12_sum_5 : decode cX12_sum 5 = .ok (.istore_n 2, 1) := by decide +kernel
theorem dX12_sum_6 : decode cX12_sum 6 = .ok (.aload_n 0, 1) := by decide +kernel
theorem dX12_sum_7 : decode cX12_sum 7 = .ok (.invokevirtual 157, 3) := by decide +kernel
theorem dX12_sum_10 : decode cX12_sum 10 = .ok (.ifCond .eq 72, 3) := by decide +kernel
theorem dX12_sum_13 : decode cX12_sum 13 = .ok (.aload_n 0, 1) := by decide +kernel
theorem dX12_sum_14 : decode cX12_sum 14 = .ok (.invokevirtual 161, 3) := by decide +kernel
theorem dX12_sum_17 : decode cX12_sum 17 = .ok (.bipush 43, 2) := by decide +kernel
theorem dX12_sum_19 : decode cX12_sum 19 = .ok (.if_icmp .eq 12, 3) := by decide +kernel
theorem dX12_sum_22 : decode cX12_sum 22 = .ok (.aload_n 0, 1) := by decide +kernel
theorem dX12_sum_23 : decode cX12_sum 23 = .ok (.invokevirtual 161, 3) := by decide +kernel
theorem dX12_sum_26 : decode cX12_sum 26 = .ok (.bipush 45, 2) := by decide +kernel
theorem dX12_sum_28 : decode cX12_sum 28 = .ok (.if_icmp .ne 54, 3) := by decide +kernel
theorem dX12_sum_31 : decode cX12_sum 31 = .ok (.aload_n 0, 1) := by decide +kernel
theorem dX12_sum_32 : decode cX12_sum 32 = .ok (.invokevirtual 161, 3) := by decide +kernel
theorem dX12_sum_35 : decode cX12_sum 35 = .ok (.bipush 43, 2) := by decide +kernel
theorem dX12_sum_37 : decode cX12_sum 37 = .ok (.if_icmp .ne 7, 3) := by decide +kernel
theorem dX12_sum_40 : decode cX12_sum 40 = .ok (.iconst 1, 1) := by decide +kernel
theorem dX12_sum_41 : decode cX12_sum 41 = .ok (.goto 4, 3) := by decide +kernel
theorem dX12_sum_44 : decode cX12_sum 44 = .ok (.iconst 0, 1) := by decide +kernel
theorem dX12_sum_45 : decode cX12_sum 45 = .ok (.istore_n 3, 1) := by decide +kernel
theorem dX12_sum_46 : decode cX12_sum 46 = .ok (.aload_n 0, 1) := by decide +kernel
theorem dX12_sum_47 : decode cX12_sum 47 = .ok (.dup, 1) := by decide +kernel
theorem dX12_sum_48 : decode cX12_sum 48 = .ok (.getfield 151, 3) := by decide +kernel
theorem dX12_sum_51 : decode cX12_sum 51 = .ok (.iconst 1, 1) := by decide +kernel
theorem dX12_sum_52 : decode cX12_sum 52 = .ok (.iadd, 1) := by decide +kernel
theorem dX12_sum_53 : decode cX12_sum 53 = .ok (.putfield 151, 3) := by decide +kernel
theorem dX12_sum_56 : decode cX12_sum 56 = .ok (.aload_n 0, 1) := by decide +kernel
theorem dX12_sum_57 : decode cX12_sum 57 = .ok (.iload_n 1, 1) := by decide +kernel
theorem dX12_sum_58 : decode cX12_sum 58 = .ok (.invokevirtual 224, 3) := by decide +kernel
theorem dX12_sum_61 : decode cX12_sum 61 = .ok (.istore 4, 2) := by decide +kernel
theorem dX12_sum_63 : decode cX12_sum 63 = .ok (.iload_n 3, 1) := by decide +kernel
theorem dX12_sum_64 : decode cX12_sum 64 = .ok (.ifCond .eq 10, 3) := by decide +kernel
theorem dX12_sum_67 : decode cX12_sum 67 = .ok (.iload_n 2, 1) := by decide +kernel
theorem dX12_sum_68 : decode cX12_sum 68 = .ok (.iload 4, 2) := by decide +kernel
theorem dX12_sum_70 : decode cX12_sum 70 = .ok (.iadd, 1) := by decide +kernel
theorem dX12_sum_71 : decode cX12_sum 71 = .ok (.goto 7, 3) := by decide +kernel
theorem dX12_sum_74 : decode cX12_sum 74 = .ok (.iload_n 2, 1) := by decide +kernel
theorem dX12_sum_75 : decode cX12_sum 75 = .ok (.iload 4, 2) := by decide +kernel
theorem dX12_sum_77 : decode cX12_sum 77 = .ok (.isub, 1) := by decide +kernel
theorem dX12_sum_78 : decode cX12_sum 78 = .ok (.istore_n 2, 1) := by decide +kernel
theorem dX12_sum_79 : decode cX12_sum 79 = .ok (.goto (-73), 3) := by decide +kernel
theorem dX12_sum_82 : decode cX12_sum 82 = .ok (.iload_n 2, 1) := by decide +kernel
theorem dX12_sum_83 : decode cX12_sum 83 = .ok (.ireturn, 1) := by decide +kernel
theorem dX12_product_0 : decode cX12_product 0 = .ok (.aload_n 0, 1) := by decide +kernel
theorem dX12_product_1 : decode cX12_product 1 = .ok (.iload_n 1, 1) := by decide +kernel
theorem dX12_product_2 : decode cX12_product 2 = .ok (.invokevirtual 227, 3) := by decide +kernel
theorem dX12_product_5 : decode cX12_product 5 = .ok (.istore_n 2, 1) := by decide +kernel
theorem dX12_product_6 : decode cX12_product 6 = .ok (.aload_n 0, 1) := by decide +kernel
theorem dX12_product_7 : decode cX12_product 7 = .ok (.invokevirtual 157, 3) := by decide +kernel
theorem dX12_product_10 : decode cX12_product 10 = .ok (.ifCond .eq 81, 3) := by decide +kernel
theorem dX12_product_13 : decode cX12_product 13 = .ok (.aload_n 0, 1) := by decide +kernel
theorem dX12_product_14 : decode cX12_product 14 = .ok (.invokevirtual 161, 3) := by decide +kernel
theorem dX12_product_17 : decode cX12_product 17 = .ok (.bipush 42, 2) := by decide +kernel
theorem dX12_product_19 : decode cX12_product 19 = .ok (.if_icmp .eq 12, 3) := by decide +kernel
theorem dX12_product_22 : decode cX12_product 22 = .ok (.aload_n 0, 1) := by decide +kernel
theorem dX12_product_23 : decode cX12_product 23 = .ok (.invokevirtual 161, 3) := by decide +kernel
theorem dX12_product_26 : decode cX12_product 26 = .ok (.bipush 47, 2) := by decide +kernel
theorem dX12_product_28 : decode cX12_product 28 = .ok (.if_icmp .ne 63, 3) := by decide +kernel
theorem dX12_product_31 : decode cX12_product 31 = .ok (.aload_n 0, 1) := by decide +kernel
theorem dX12_product_32 : decode cX12_product 32 = .ok (.invokevirtual 161, 3) := by decide +kernel
theorem dX12_product_35 : decode cX12_product 35 = .ok (.bipush 42, 2) := by decide +kernel
theorem dX12_product_37 : decode cX12_product 37 = .ok (.if_icmp .ne 7, 3) := by decide +kernel
theorem dX12_product_40 : decode cX12_product 40 = .ok (.iconst 1, 1) := by decide +kernel
theorem dX12_product_41 : decode cX12_product 41 = .ok (.goto 4, 3) := by decide +kernel
theorem dX12_product_44 : decode cX12_product 44 = .ok (.iconst 0, 1) := by decide +kernel
theorem dX12_product_45 : decode cX12_product 45 = .ok (.istore_n 3, 1) := by decide +kernel
theorem dX12_product_46 : decode cX12_product 46 = .ok (.aload_n 0, 1) := by decide +kernel
theorem dX12_product_47 : decode cX12_product 47 = .ok (.dup, 1) := by decide +kernel
theorem dX12_product_48 : decode cX12_product 48 = .ok (.getfield 151, 3) := by decide +kernel
theorem dX12_product_51 : decode cX12_product 51 = .ok (.iconst 1, 1) := by decide +kernel
theorem dX12_product_52 : decode cX12_product 52 = .ok (.iadd, 1) := by decide +kernel
theorem dX12_product_53 : decode cX12_product 53 = .ok (.putfield 151, 3) := by decide +kernel
theorem dX12_product_56 : decode cX12_product 56 = .ok (.aload_n 0, 1) := by decide +kernel
theorem dX12_product_57 : decode cX12_product 57 = .ok (.iload_n 1, 1) := by decide +kernel
theorem dX12_product_58 : decode cX12_product 58 = .ok (.invokevirtual 227, 3) := by decide +kernel
theorem dX12_product_61 : decode cX12_product 61 = .ok (.istore 4, 2) := by decide +kernel
theorem dX12_product_63 : decode cX12_product 63 = .ok (.iload_n 3, 1) := by decide +kernel
theorem dX12_product_64 : decode cX12_product 64 = .ok (.ifCond .eq 10, 3) := by decide +kernel
theorem dX12_product_67 : decode cX12_product 67 = .ok (.iload_n 2, 1) := by decide +kernel
theorem dX12_product_68 : decode cX12_product 68 = .ok (.iload 4, 2) := by decide +kernel
theorem dX12_product_70 : decode cX12_product 70 = .ok (.imul, 1) := by decide +kernel
theorem dX12_product_71 : decode cX12_product 71 = .ok (.goto 16, 3) := by decide +kernel
theorem dX12_product_74 : decode cX12_product 74 = .ok (.iload 4, 2) := by decide +kernel
theorem dX12_product_76 : decode cX12_product 76 = .ok (.ifCond .ne 7, 3) := by decide +kernel
theorem dX12_product_79 : decode cX12_product 79 = .ok (.iconst 0, 1) := by decide +kernel
theorem dX12_product_80 : decode cX12_product 80 = .ok (.goto 7, 3) := by decide +kernel
theorem dX12_product_83 : decode cX12_product 83 = .ok (.iload_n 2, 1) := by decide +kernel
theorem dX12_product_84 : decode cX12_product 84 = .ok (.iload 4, 2) := by decide +kernel
theorem dX12_product_86 : decode cX12_product 86 = .ok (.idiv, 1) := by decide +kernel
theorem dX12_product_87 : decode cX12_product 87 = .ok (.istore_n 2, 1) := by decide +kernel
theorem dX12_product_88 : decode cX12_product 88 = .ok (.goto (-82), 3) := by decide +kernel
theorem dX12_product_91 : decode cX12_product 91 = .ok (.iload_n 2, 1) := by decide +kernel
theorem dX12_product_92 : decode cX12_product 92 = .ok (.ireturn, 1) := by decide +kernel
theorem dX12_letterOf_0 : decode cX12_letterOf 0 = .ok (.iload_n 0, 1) := by decide +kernel
theorem dX12_letterOf_1 : decode cX12_letterOf 1 = .ok (.bipush 109, 2) := by decide +kernel
theorem dX12_letterOf_3 : decode cX12_letterOf 3 = .ok (.if_icmp .ne 7, 3) := by decide +kernel
theorem dX12_letterOf_6 : decode cX12_letterOf 6 = .ok (.iconst 0, 1) := by decide +kernel
theorem dX12_letterOf_7 : decode cX12_letterOf 7 = .ok (.goto 54, 3) := by decide +kernel
theorem dX12_letterOf_10 : decode cX12_letterOf 10 = .ok (.iload_n 0, 1) := by decide +kernel
theorem dX12_letterOf_11 : decode cX12_letterOf 11 = .ok (.bipush 116, 2) := by decide +kernel
theorem dX12_letterOf_13 : decode cX12_letterOf 13 = .ok (.if_icmp .ne 7, 3) := by decide +kernel
theorem dX12_letterOf_16 : decode cX12_letterOf 16 = .ok (.iconst 1, 1) := by decide +kernel
theorem dX12_letterOf_17 : decode cX12_letterOf 17 = .ok (.goto 44, 3) := by decide +kernel
theorem dX12_letterOf_20 : decode cX12_letterOf 20 = .ok (.iload_n 0, 1) := by decide +kernel
theorem dX12_letterOf_21 : decode cX12_letterOf 21 = .ok (.bipush 102, 2) := by decide +kernel
theorem dX12_letterOf_23 : decode cX12_letterOf 23 = .ok (.if_icmp .ne 7, 3) := by decide +kernel
theorem dX12_letterOf_26 : decode cX12_letterOf 26 = .ok (.iconst 2, 1) := by decide +kernel
theorem dX12_letterOf_27 : decode cX12_letterOf 27 = .ok (.goto 34, 3) := by decide +kernel
theorem dX12_letterOf_30 : decode cX12_letterOf 30 = .ok (.iload_n 0, 1) := by decide +kernel
theorem dX12_letterOf_31 : decode cX12_letterOf 31 = .ok (.bipush 100, 2) := by decide +kernel
theorem dX12_letterOf_33 : decode cX12_letterOf 33 = .ok (.if_icmp .ne 7, 3) := by decide +kernel
theorem dX12_letterOf_36 : decode cX12_letterOf 36 = .ok (.iconst 3, 1) := by decide +kernel
theorem dX12_letterOf_37 : decode cX12_letterOf 37 = .ok (.goto 24, 3) := by decide +kernel
theorem dX12_letterOf_40 : decode cX12_letterOf 40 = .ok (.iload_n 0, 1) := by decide +kernel
theorem dX12_letterOf_41 : decode cX12_letterOf 41 = .ok (.bipush 110, 2) := by decide +kernel
theorem dX12_letterOf_43 : decode cX12_letterOf 43 = .ok (.if_icmp .ne 7, 3) := by decide +kernel
theorem dX12_letterOf_46 : decode cX12_letterOf 46 = .ok (.iconst 4, 1) := by decide +kernel
theorem dX12_letterOf_47 : decode cX12_letterOf 47 = .ok (.goto 14, 3) := by decide +kernel
theorem dX12_letterOf_50 : decode cX12_letterOf 50 = .ok (.iload_n 0, 1) := by decide +kernel
theorem dX12_letterOf_51 : decode cX12_letterOf 51 = .ok (.bipush 115, 2) := by decide +kernel
theorem dX12_letterOf_53 : decode cX12_letterOf 53 = .ok (.if_icmp .ne 7, 3) := by decide +kernel
theorem dX12_letterOf_56 : decode cX12_letterOf 56 = .ok (.iconst 5, 1) := by decide +kernel
theorem dX12_letterOf_57 : decode cX12_letterOf 57 = .ok (.goto 4, 3) := by decide +kernel
theorem dX12_letterOf_60 : decode cX12_letterOf 60 = .ok (.iconst (-1), 1) := by decide +kernel
theorem dX12_letterOf_61 : decode cX12_letterOf 61 = .ok (.ireturn, 1) := by decide +kernel
theorem dX12_thing_0 : decode cX12_thing 0 = .ok (.aload_n 0, 1) := by decide +kernel
theorem dX12_thing_1 : decode cX12_thing 1 = .ok (.bipush 45, 2) := by decide +kernel
theorem dX12_thing_3 : decode cX12_thing 3 = .ok (.invokevirtual 165, 3) := by decide +kernel
theorem dX12_thing_6 : decode cX12_thing 6 = .ok (.ifCond .eq 10, 3) := by decide +kernel
theorem dX12_thing_9 : decode cX12_thing 9 = .ok (.aload_n 0, 1) := by decide +kernel
theorem dX12_thing_10 : decode cX12_thing 10 = .ok (.iload_n 1, 1) := by decide +kernel
theorem dX12_thing_11 : decode cX12_thing 11 = .ok (.invokevirtual 227, 3) := by decide +kernel
theorem dX12_thing_14 : decode cX12_thing 14 = .ok (.ineg, 1) := by decide +kernel
theorem dX12_thing_15 : decode cX12_thing 15 = .ok (.ireturn, 1) := by decide +kernel
theorem dX12_thing_16 : decode cX12_thing 16 = .ok (.aload_n 0, 1) := by decide +kernel
theorem dX12_thing_17 : decode cX12_thing 17 = .ok (.invokevirtual 157, 3) := by decide +kernel
theorem dX12_thing_20 : decode cX12_thing 20 = .ok (.ifCond .ne 5, 3) := by decide +kernel
theorem dX12_thing_23 : decode cX12_thing 23 = .ok (.iconst 0, 1) := by decide +kernel
theorem dX12_thing_24 : decode cX12_thing 24 = .ok (.ireturn, 1) := by decide +kernel
theorem dX12_thing_25 : decode cX12_thing 25 = .ok (.aload_n 0, 1) := by decide +kernel
theorem dX12_thing_26 : decode cX12_thing 26 = .ok (.invokevirtual 161, 3) := by decide +kernel
theorem dX12_thing_29 : decode cX12_thing 29 = .ok (.istore_n 2, 1) := by decide +kernel
theorem dX12_thing_30 : decode cX12_thing 30 = .ok (.iload_n 2, 1) := by decide +kernel
theorem dX12_thing_31 : decode cX12_thing 31 = .ok (.bipush 40, 2) := by decide +kernel
theorem dX12_thing_33 : decode cX12_thing 33 = .ok (.if_icmp .ne 34, 3) := by decide +kernel
theorem dX12_thing_36 : decode cX12_thing 36 = .ok (.iload_n 1, 1) := by decide +kernel
theorem dX12_thing_37 : decode cX12_thing 37 = .ok (.iconst 4, 1) := by decide +kernel
theorem dX12_thing_38 : decode cX12_thing 38 = .ok (.if_icmp .ge 29, 3) := by decide +kernel
theorem dX12_thing_41 : decode cX12_thing 41 = .ok (.aload_n 0, 1) := by decide +kernel
theorem dX12_thing_42 : decode cX12_thing 42 = .ok (.dup, 1) := by decide +kernel
theorem dX12_thing_43 : decode cX12_thing 43 = .ok (.getfield 151, 3) := by decide +kernel
theorem dX12_thing_46 : decode cX12_thing 46 = .ok (.iconst 1, 1) := by decide +kernel
theorem dX12_thing_47 : decode cX12_thing 47 = .ok (.iadd, 1) := by decide +kernel
theorem dX12_thing_48 : decode cX12_thing 48 = .ok (.putfield 151, 3) := by decide +kernel
theorem dX12_thing_51 : decode cX12_thing 51 = .ok (.aload_n 0, 1) := by decide +kernel
theorem dX12_thing_52 : decode cX12_thing 52 = .ok (.iload_n 1, 1) := by decide +kernel
theorem dX12_thing_53 : decode cX12_thing 53 = .ok (.iconst 1, 1) := by decide +kernel
theorem dX12_thing_54 : decode cX12_thing 54 = .ok (.iadd, 1) := by decide +kernel
theorem dX12_thing_55 : decode cX12_thing 55 = .ok (.invokevirtual 230, 3) := by decide +kernel
theorem dX12_thing_58 : decode cX12_thing 58 = .ok (.istore_n 3, 1) := by decide +kernel
theorem dX12_thing_59 : decode cX12_thing 59 = .ok (.aload_n 0, 1) := by decide +kernel
theorem dX12_thing_60 : decode cX12_thing 60 = .ok (.bipush 41, 2) := by decide +kernel
theorem dX12_thing_62 : decode cX12_thing 62 = .ok (.invokevirtual 214, 3) := by decide +kernel
theorem dX12_thing_65 : decode cX12_thing 65 = .ok (.iload_n 3, 1) := by decide +kernel
theorem dX12_thing_66 : decode cX12_thing 66 = .ok (.ireturn, 1) := by decide +kernel
theorem dX12_thing_67 : decode cX12_thing 67 = .ok (.iload_n 2, 1) := by decide +kernel
theorem dX12_thing_68 : decode cX12_thing 68 = .ok (.bipush 48, 2) := by decide +kernel
theorem dX12_thing_70 : decode cX12_thing 70 = .ok (.bipush 57, 2) := by decide +kernel
theorem dX12_thing_72 : decode cX12_thing 72 = .ok (.invokestatic 132, 3) := by decide +kernel
theorem dX12_thing_75 : decode cX12_thing 75 = .ok (.ifCond .eq 9, 3) := by decide +kernel
theorem dX12_thing_78 : decode cX12_thing 78 = .ok (.aload_n 0, 1) := by decide +kernel
theorem dX12_thing_79 : decode cX12_thing 79 = .ok (.iconst 3, 1) := by decide +kernel
theorem dX12_thing_80 : decode cX12_thing 80 = .ok (.invokevirtual 177, 3) := by decide +kernel
theorem dX12_thing_83 : decode cX12_thing 83 = .ok (.ireturn, 1) := by decide +kernel
theorem dX12_thing_84 : decode cX12_thing 84 = .ok (.iload_n 2, 1) := by decide +kernel
theorem dX12_thing_85 : decode cX12_thing 85 = .ok (.invokestatic 233, 3) := by decide +kernel
theorem dX12_thing_88 : decode cX12_thing 88 = .ok (.iconst (-1), 1) := by decide +kernel
theorem dX12_thing_89 : decode cX12_thing 89 = .ok (.if_icmp .ne 13, 3) := by decide +kernel
theorem dX12_thing_92 : decode cX12_thing 92 = .ok (.aload_n 0, 1) := by decide +kernel
theorem dX12_thing_93 : decode cX12_thing 93 = .ok (.aload_n 0, 1) := by decide +kernel
theorem dX12_thing_94 : decode cX12_thing 94 = .ok (.getfield 151, 3) := by decide +kernel
theorem dX12_thing_97 : decode cX12_thing 97 = .ok (.invokevirtual 169, 3) := by decide +kernel
theorem dX12_thing_100 : decode cX12_thing 100 = .ok (.iconst 0, 1) := by decide +kernel
theorem dX12_thing_101 : decode cX12_thing 101 = .ok (.ireturn, 1) := by decide +kernel
theorem dX12_thing_102 : decode cX12_thing 102 = .ok (.aload_n 0, 1) := by decide +kernel
theorem dX12_thing_103 : decode cX12_thing 103 = .ok (.dup, 1) := by decide +kernel
theorem dX12_thing_104 : decode cX12_thing 104 = .ok (.getfield 151, 3) := by decide +kernel
theorem dX12_thing_107 : decode cX12_thing 107 = .ok (.iconst 1, 1) := by decide +kernel
theorem dX12_thing_108 : decode cX12_thing 108 = .ok (.iadd, 1) := by decide +kernel
theorem dX12_thing_109 : decode cX12_thing 109 = .ok (.putfield 151, 3) := by decide +kernel
theorem dX12_thing_112 : decode cX12_thing 112 = .ok (.aload_n 0, 1) := by decide +kernel
theorem dX12_thing_113 : decode cX12_thing 113 = .ok (.getfield 236, 3) := by decide +kernel
theorem dX12_thing_116 : decode cX12_thing 116 = .ok (.ifCond .eq 15, 3) := by decide +kernel
theorem dX12_thing_119 : decode cX12_thing 119 = .ok (.aload_n 0, 1) := by decide +kernel
theorem dX12_thing_120 : decode cX12_thing 120 = .ok (.getfield 58, 3) := by decide +kernel
theorem dX12_thing_123 : decode cX12_thing 123 = .ok (.iload_n 2, 1) := by decide +kernel
theorem dX12_thing_124 : decode cX12_thing 124 = .ok (.invokestatic 233, 3) := by decide +kernel
theorem dX12_thing_127 : decode cX12_thing 127 = .ok (.iaload, 1) := by decide +kernel
theorem dX12_thing_128 : decode cX12_thing 128 = .ok (.goto 4, 3) := by decide +kernel
theorem dX12_thing_131 : decode cX12_thing 131 = .ok (.iconst 0, 1) := by decide +kernel
theorem dX12_thing_132 : decode cX12_thing 132 = .ok (.ireturn, 1) := by decide +kernel
theorem dX12_rule_0 : decode cX12_rule 0 = .ok (.aload_n 0, 1) := by decide +kernel
theorem dX12_rule_1 : decode cX12_rule 1 = .ok (.iconst 0, 1) := by decide +kernel
theorem dX12_rule_2 : decode cX12_rule 2 = .ok (.putfield 123, 3) := by decide +kernel
theorem dX12_rule_5 : decode cX12_rule 5 = .ok (.aload_n 0, 1) := by decide +kernel
theorem dX12_rule_6 : decode cX12_rule 6 = .ok (.getfield 139, 3) := by decide +kernel
theorem dX12_rule_9 : decode cX12_rule 9 = .ok (.istore_n 1, 1) := by decide +kernel
theorem dX12_rule_10 : decode cX12_rule 10 = .ok (.aload_n 0, 1) := by decide +kernel
theorem dX12_rule_11 : decode cX12_rule 11 = .ok (.aload_n 0, 1) := by decide +kernel
theorem dX12_rule_12 : decode cX12_rule 12 = .ok (.getfield 35, 3) := by decide +kernel
theorem dX12_rule_15 : decode cX12_rule 15 = .ok (.iload_n 1, 1) := by decide +kernel
theorem dX12_rule_16 : decode cX12_rule 16 = .ok (.bipush 40, 2) := by decide +kernel
theorem dX12_rule_18 : decode cX12_rule 18 = .ok (.invokevirtual 193, 3) := by decide +kernel
theorem dX12_rule_21 : decode cX12_rule 21 = .ok (.aload_n 0, 1) := by decide +kernel
theorem dX12_rule_22 : decode cX12_rule 22 = .ok (.iconst 0, 1) := by decide +kernel
theorem dX12_rule_23 : decode cX12_rule 23 = .ok (.putfield 139, 3) := by decide +kernel
theorem dX12_rule_26 : decode cX12_rule 26 = .ok (.aload_n 0, 1) := by decide +kernel
theorem dX12_rule_27 : decode cX12_rule 27 = .ok (.iconst 0, 1) := by decide +kernel
theorem dX12_rule_28 : decode cX12_rule 28 = .ok (.putfield 236, 3) := by decide +kernel
theorem dX12_rule_31 : decode cX12_rule 31 = .ok (.iload_n 1, 1) := by decide +kernel
theorem dX12_rule_32 : decode cX12_rule 32 = .ok (.ifCond .le 39, 3) := by decide +kernel
theorem dX12_rule_35 : decode cX12_rule 35 = .ok (.aload_n 0, 1) := by decide +kernel
theorem dX12_rule_36 : decode cX12_rule 36 = .ok (.iconst 0, 1) := by decide +kernel
theorem dX12_rule_37 : decode cX12_rule 37 = .ok (.invokevirtual 230, 3) := by decide +kernel
theorem dX12_rule_40 : decode cX12_rule 40 = .ok (.pop, 1) := by decide +kernel
theorem dX12_rule_41 : decode cX12_rule 41 = .ok (.aload_n 0, 1) := by decide +kernel
theorem dX12_rule_42 : decode cX12_rule 42 = .ok (.getfield 151, 3) := by decide +kernel
theorem dX12_rule_45 : decode cX12_rule 45 = .ok (.iload_n 1, 1) := by decide +kernel
theorem dX12_rule_46 : decode cX12_rule 46 = .ok (.if_icmp .ge 11, 3) := by decide +kernel
theorem dX12_rule_49 : decode cX12_rule 49 = .ok (.aload_n 0, 1) := by decide +kernel
theorem dX12_rule_50 : decode cX12_rule 50 = .ok (.aload_n 0, 1) := by decide +kernel
theorem dX12_rule_51 : decode cX12_rule 51 = .ok (.getfield 151, 3) := by decide +kernel
theorem dX12_rule_54 : decode cX12_rule 54 = .ok (.invokevirtual 169, 3) := by decide +kernel
theorem dX12_rule_57 : decode cX12_rule 57 = .ok (.aload_n 0, 1) := by decide +kernel
theorem dX12_rule_58 : decode cX12_rule 58 = .ok (.invokevirtual 157, 3) := by decide +kernel
theorem dX12_rule_61 : decode cX12_rule 61 = .ok (.ifCond .ne 10, 3) := by decide +kernel
theorem dX12_rule_64 : decode cX12_rule 64 = .ok (.iconst (-1), 1) := by decide +kernel
theorem dX12_rule_65 : decode cX12_rule 65 = .ok (.aload_n 0, 1) := by decide +kernel
theorem dX12_rule_66 : decode cX12_rule 66 = .ok (.getfield 154, 3) := by decide +kernel
theorem dX12_rule_69 : decode cX12_rule 69 = .ok (.isub, 1) := by decide +kernel
theorem dX12_rule_70 : decode cX12_rule 70 = .ok (.ireturn, 1) := by decide +kernel
theorem dX12_rule_71 : decode cX12_rule 71 = .ok (.iconst 0, 1) := by decide +kernel
theorem dX12_rule_72 : decode cX12_rule 72 = .ok (.istore_n 2, 1) := by decide +kernel
theorem dX12_rule_73 : decode cX12_rule 73 = .ok (.iload_n 2, 1) := by decide +kernel
theorem dX12_rule_74 : decode cX12_rule 74 = .ok (.iload_n 1, 1) := by decide +kernel
theorem dX12_rule_75 : decode cX12_rule 75 = .ok (.if_icmp .ge 21, 3) := by decide +kernel
theorem dX12_rule_78 : decode cX12_rule 78 = .ok (.aload_n 0, 1) := by decide +kernel
theorem dX12_rule_79 : decode cX12_rule 79 = .ok (.getfield 55, 3) := by decide +kernel
theorem dX12_rule_82 : decode cX12_rule 82 = .ok (.iload_n 2, 1) := by decide +kernel
theorem dX12_rule_83 : decode cX12_rule 83 = .ok (.aload_n 0, 1) := by decide +kernel
theorem dX12_rule_84 : decode cX12_rule 84 = .ok (.getfield 35, 3) := by decide +kernel
theorem dX12_rule_87 : decode cX12_rule 87 = .ok (.iload_n 2, 1) := by decide +kernel
theorem dX12_rule_88 : decode cX12_rule 88 = .ok (.baload, 1) := by decide +kernel
theorem dX12_rule_89 : decode cX12_rule 89 = .ok (.bastore, 1) := by decide +kernel
theorem dX12_rule_90 : decode cX12_rule 90 = .ok (.iinc 2 1, 3) := by decide +kernel
theorem dX12_rule_93 : decode cX12_rule 93 = .ok (.goto (-20), 3) := by decide +kernel
theorem dX12_rule_96 : decode cX12_rule 96 = .ok (.aload_n 0, 1) := by decide +kernel
theorem dX12_rule_97 : decode cX12_rule 97 = .ok (.iload_n 1, 1) := by decide +kernel
theorem dX12_rule_98 : decode cX12_rule 98 = .ok (.putfield 240, 3) := by decide +kernel
theorem dX12_rule_101 : decode cX12_rule 101 = .ok (.iconst 0, 1) := by decide +kernel
theorem dX12_rule_102 : decode cX12_rule 102 = .ok (.ireturn, 1) := by decide +kernel
theorem dX12_tiresBy_0 : decode cX12_tiresBy 0 = .ok (.aload_n 0, 1) := by decide +kernel
theorem dX12_tiresBy_1 : decode cX12_tiresBy 1 = .ok (.getfield 240, 3) := by decide +kernel
theorem dX12_tiresBy_4 : decode cX12_tiresBy 4 = .ok (.ifCond .ne 13, 3) := by decide +kernel
theorem dX12_tiresBy_7 : decode cX12_tiresBy 7 = .ok (.iload_n 1, 1) := by decide +kernel
theorem dX12_tiresBy_8 : decode cX12_tiresBy 8 = .ok (.iconst 2, 1) := by decide +kernel
theorem dX12_tiresBy_9 : decode cX12_tiresBy 9 = .ok (.idiv, 1) := by decide +kernel
theorem dX12_tiresBy_10 : decode cX12_tiresBy 10 = .ok (.iload_n 2, 1) := by decide +kernel
theorem dX12_tiresBy_11 : decode cX12_tiresBy 11 = .ok (.iadd, 1) := by decide +kernel
theorem dX12_tiresBy_12 : decode cX12_tiresBy 12 = .ok (.iload_n 3, 1) := by decide +kernel
theorem dX12_tiresBy_13 : decode cX12_tiresBy 13 = .ok (.iconst 3, 1) := by decide +kernel
theorem dX12_tiresBy_14 : decode cX12_tiresBy 14 = .ok (.idiv, 1) := by decide +kernel
theorem dX12_tiresBy_15 : decode cX12_tiresBy 15 = .ok (.isub, 1) := by decide +kernel
theorem dX12_tiresBy_16 : decode cX12_tiresBy 16 = .ok (.ireturn, 1) := by decide +kernel
theorem dX12_tiresBy_17 : decode cX12_tiresBy 17 = .ok (.aload_n 0, 1) := by decide +kernel
theorem dX12_tiresBy_18 : decode cX12_tiresBy 18 = .ok (.getfield 58, 3) := by decide +kernel
theorem dX12_tiresBy_21 : decode cX12_tiresBy 21 = .ok (.iconst 0, 1) := by decide +kernel
theorem dX12_tiresBy_22 : decode cX12_tiresBy 22 = .ok (.iload_n 1, 1) := by decide +kernel
theorem dX12_tiresBy_23 : decode cX12_tiresBy 23 = .ok (.iastore, 1) := by decide +kernel
theorem dX12_tiresBy_24 : decode cX12_tiresBy 24 = .ok (.aload_n 0, 1) := by decide +kernel
theorem dX12_tiresBy_25 : decode cX12_tiresBy 25 = .ok (.getfield 58, 3) := by decide +kernel
theorem dX12_tiresBy_28 : decode cX12_tiresBy 28 = .ok (.iconst 1, 1) := by decide +kernel
theorem dX12_tiresBy_29 : decode cX12_tiresBy 29 = .ok (.iload_n 2, 1) := by decide +kernel
theorem dX12_tiresBy_30 : decode cX12_tiresBy 30 = .ok (.iastore, 1) := by decide +kernel
theorem dX12_tiresBy_31 : decode cX12_tiresBy 31 = .ok (.aload_n 0, 1) := by decide +kernel
theorem dX12_tiresBy_32 : decode cX12_tiresBy 32 = .ok (.getfield 58, 3) := by decide +kernel
theorem dX12_tiresBy_35 : decode cX12_tiresBy 35 = .ok (.iconst 2, 1) := by decide +kernel
theorem dX12_tiresBy_36 : decode cX12_tiresBy 36 = .ok (.iload_n 3, 1) := by decide +kernel
theorem dX12_tiresBy_37 : decode cX12_tiresBy 37 = .ok (.iastore, 1) := by decide +kernel
theorem dX12_tiresBy_38 : decode cX12_tiresBy 38 = .ok (.aload_n 0, 1) := by decide +kernel
theorem dX12_tiresBy_39 : decode cX12_tiresBy 39 = .ok (.getfield 58, 3) := by decide +kernel
theorem dX12_tiresBy_42 : decode cX12_tiresBy 42 = .ok (.iconst 3, 1) := by decide +kernel
theorem dX12_tiresBy_43 : decode cX12_tiresBy 43 = .ok (.iload 4, 2) := by decide +kernel
theorem dX12_tiresBy_45 : decode cX12_tiresBy 45 = .ok (.iastore, 1) := by decide +kernel
theorem dX12_tiresBy_46 : decode cX12_tiresBy 46 = .ok (.aload_n 0, 1) := by decide +kernel
theorem dX12_tiresBy_47 : decode cX12_tiresBy 47 = .ok (.getfield 58, 3) := by decide +kernel
theorem dX12_tiresBy_50 : decode cX12_tiresBy 50 = .ok (.iconst 4, 1) := by decide +kernel
theorem dX12_tiresBy_51 : decode cX12_tiresBy 51 = .ok (.iload 5, 2) := by decide +kernel
theorem dX12_tiresBy_53 : decode cX12_tiresBy 53 = .ok (.iastore, 1) := by decide +kernel
theorem dX12_tiresBy_54 : decode cX12_tiresBy 54 = .ok (.aload_n 0, 1) := by decide +kernel
theorem dX12_tiresBy_55 : decode cX12_tiresBy 55 = .ok (.getfield 58, 3) := by decide +kernel
theorem dX12_tiresBy_58 : decode cX12_tiresBy 58 = .ok (.iconst 5, 1) := by decide +kernel
theorem dX12_tiresBy_59 : decode cX12_tiresBy 59 = .ok (.iload 6, 2) := by decide +kernel
theorem dX12_tiresBy_61 : decode cX12_tiresBy 61 = .ok (.iastore, 1) := by decide +kernel
theorem dX12_tiresBy_62 : decode cX12_tiresBy 62 = .ok (.aload_n 0, 1) := by decide +kernel
theorem dX12_tiresBy_63 : decode cX12_tiresBy 63 = .ok (.aload_n 0, 1) := by decide +kernel
theorem dX12_tiresBy_64 : decode cX12_tiresBy 64 = .ok (.getfield 55, 3) := by decide +kernel
theorem dX12_tiresBy_67 : decode cX12_tiresBy 67 = .ok (.aload_n 0, 1) := by decide +kernel
theorem dX12_tiresBy_68 : decode cX12_tiresBy 68 = .ok (.getfield 240, 3) := by decide +kernel
theorem dX12_tiresBy_71 : decode cX12_tiresBy 71 = .ok (.bipush 40, 2) := by decide +kernel
theorem dX12_tiresBy_73 : decode cX12_tiresBy 73 = .ok (.invokevirtual 193, 3) := by decide +kernel
theorem dX12_tiresBy_76 : decode cX12_tiresBy 76 = .ok (.aload_n 0, 1) := by decide +kernel
theorem dX12_tiresBy_77 : decode cX12_tiresBy 77 = .ok (.iconst 1, 1) := by decide +kernel
theorem dX12_tiresBy_78 : decode cX12_tiresBy 78 = .ok (.putfield 236, 3) := by decide +kernel
theorem dX12_tiresBy_81 : decode cX12_tiresBy 81 = .ok (.aload_n 0, 1) := by decide +kernel
theorem dX12_tiresBy_82 : decode cX12_tiresBy 82 = .ok (.iconst 0, 1) := by decide +kernel
theorem dX12_tiresBy_83 : decode cX12_tiresBy 83 = .ok (.invokevirtual 230, 3) := by decide +kernel
theorem dX12_tiresBy_86 : decode cX12_tiresBy 86 = .ok (.istore 7, 2) := by decide +kernel
theorem dX12_tiresBy_88 : decode cX12_tiresBy 88 = .ok (.aload_n 0, 1) := by decide +kernel
theorem dX12_tiresBy_89 : decode cX12_tiresBy 89 = .ok (.iconst 0, 1) := by decide +kernel
theorem dX12_tiresBy_90 : decode cX12_tiresBy 90 = .ok (.putfield 236, 3) := by decide +kernel
theorem dX12_tiresBy_93 : decode cX12_tiresBy 93 = .ok (.iload 7, 2) := by decide +kernel
theorem dX12_tiresBy_95 : decode cX12_tiresBy 95 = .ok (.ireturn, 1) := by decide +kernel
theorem dX12_isMoonless_0 : decode cX12_isMoonless 0 = .ok (.aload_n 0, 1) := by decide +kernel
theorem dX12_isMoonless_1 : decode cX12_isMoonless 1 = .ok (.getfield 243, 3) := by decide +kernel
theorem dX12_isMoonless_4 : decode cX12_isMoonless 4 = .ok (.ifCond .le 16, 3) := by decide +kernel
theorem dX12_isMoonless_7 : decode cX12_isMoonless 7 = .ok (.iload_n 1, 1) := by decide +kernel
theorem dX12_isMoonless_8 : decode cX12_isMoonless 8 = .ok (.aload_n 0, 1) := by decide +kernel
theorem dX12_isMoonless_9 : decode cX12_isMoonless 9 = .ok (.getfield 243, 3) := by decide +kernel
theorem dX12_isMoonless_12 : decode cX12_isMoonless 12 = .ok (.irem, 1) := by decide +kernel
theorem dX12_isMoonless_13 : decode cX12_isMoonless 13 = .ok (.ifCond .ne 7, 3) := by decide +kernel
theorem dX12_isMoonless_16 : decode cX12_isMoonless 16 = .ok (.iconst 1, 1) := by decide +kernel
theorem dX12_isMoonless_17 : decode cX12_isMoonless 17 = .ok (.goto 4, 3) := by decide +kernel
theorem dX12_isMoonless_20 : decode cX12_isMoonless 20 = .ok (.iconst 0, 1) := by decide +kernel
theorem dX12_isMoonless_21 : decode cX12_isMoonless 21 = .ok (.ireturn, 1) := by decide +kernel
theorem dX12_isLent_0 : decode cX12_isLent 0 = .ok (.iload_n 1, 1) := by decide +kernel
theorem dX12_isLent_1 : decode cX12_isLent 1 = .ok (.aload_n 0, 1) := by decide +kernel
theorem dX12_isLent_2 : decode cX12_isLent 2 = .ok (.getfield 32, 3) := by decide +kernel
theorem dX12_isLent_5 : decode cX12_isLent 5 = .ok (.aload_n 0, 1) := by decide +kernel
theorem dX12_isLent_6 : decode cX12_isLent 6 = .ok (.getfield 246, 3) := by decide +kernel
theorem dX12_isLent_9 : decode cX12_isLent 9 = .ok (.invokestatic 132, 3) := by decide +kernel
theorem dX12_isLent_12 : decode cX12_isLent 12 = .ok (.ireturn, 1) := by decide +kernel
theorem dX12_walk_0 : decode cX12_walk 0 = .ok (.aload_n 0, 1) := by decide +kernel
theorem dX12_walk_1 : decode cX12_walk 1 = .ok (.iload_n 1, 1) := by decide +kernel
theorem dX12_walk_2 : decode cX12_walk 2 = .ok (.invokevirtual 249, 3) := by decide +kernel
theorem dX12_walk_5 : decode cX12_walk 5 = .ok (.ifCond .eq 12, 3) := by decide +kernel
theorem dX12_walk_8 : decode cX12_walk 8 = .ok (.aload_n 0, 1) := by decide +kernel
theorem dX12_walk_9 : decode cX12_walk 9 = .ok (.getfield 28, 3) := by decide +kernel
theorem dX12_walk_12 : decode cX12_walk 12 = .ok (.iconst 2, 1) := by decide +kernel
theorem dX12_walk_13 : decode cX12_walk 13 = .ok (.idiv, 1) := by decide +kernel
theorem dX12_walk_14 : decode cX12_walk 14 = .ok (.goto 7, 3) := by decide +kernel
theorem dX12_walk_17 : decode cX12_walk 17 = .ok (.aload_n 0, 1) := by decide +kernel
theorem dX12_walk_18 : decode cX12_walk 18 = .ok (.getfield 28, 3) := by decide +kernel
theorem dX12_walk_21 : decode cX12_walk 21 = .ok (.ireturn, 1) := by decide +kernel
theorem dX12_isOn_0 : decode cX12_isOn 0 = .ok (.iload_n 2, 1) := by decide +kernel
theorem dX12_isOn_1 : decode cX12_isOn 1 = .ok (.aload_n 0, 1) := by decide +kernel
theorem dX12_isOn_2 : decode cX12_isOn 2 = .ok (.bipush 7, 2) := by decide +kernel
theorem dX12_isOn_4 : decode cX12_isOn 4 = .ok (.iload_n 1, 1) := by decide +kernel
theorem dX12_isOn_5 : decode cX12_isOn 5 = .ok (.iadd, 1) := by decide +kernel
theorem dX12_isOn_6 : decode cX12_isOn 6 = .ok (.iaload, 1) := by decide +kernel
theorem dX12_isOn_7 : decode cX12_isOn 7 = .ok (.aload_n 0, 1) := by decide +kernel
theorem dX12_isOn_8 : decode cX12_isOn 8 = .ok (.bipush 15, 2) := by decide +kernel
theorem dX12_isOn_10 : decode cX12_isOn 10 = .ok (.iload_n 1, 1) := by decide +kernel
theorem dX12_isOn_11 : decode cX12_isOn 11 = .ok (.iadd, 1) := by decide +kernel
theorem dX12_isOn_12 : decode cX12_isOn 12 = .ok (.iaload, 1) := by decide +kernel
theorem dX12_isOn_13 : decode cX12_isOn 13 = .ok (.invokestatic 132, 3) := by decide +kernel
theorem dX12_isOn_16 : decode cX12_isOn 16 = .ok (.ireturn, 1) := by decide +kernel
theorem dX12_feastsAt_0 : decode cX12_feastsAt 0 = .ok (.iconst 0, 1) := by decide +kernel
theorem dX12_feastsAt_1 : decode cX12_feastsAt 1 = .ok (.istore 4, 2) := by decide +kernel
theorem dX12_feastsAt_3 : decode cX12_feastsAt 3 = .ok (.iconst 0, 1) := by decide +kernel
theorem dX12_feastsAt_4 : decode cX12_feastsAt 4 = .ok (.istore 5, 2) := by decide +kernel
theorem dX12_feastsAt_6 : decode cX12_feastsAt 6 = .ok (.iload 5, 2) := by decide +kernel
theorem dX12_feastsAt_8 : decode cX12_feastsAt 8 = .ok (.aload_n 0, 1) := by decide +kernel
theorem dX12_feastsAt_9 : decode cX12_feastsAt 9 = .ok (.getfield 136, 3) := by decide +kernel
theorem dX12_feastsAt_12 : decode cX12_feastsAt 12 = .ok (.if_icmp .ge 43, 3) := by decide +kernel
theorem dX12_feastsAt_15 : decode cX12_feastsAt 15 = .ok (.iload 4, 2) := by decide +kernel
theorem dX12_feastsAt_17 : decode cX12_feastsAt 17 = .ok (.aload_n 0, 1) := by decide +kernel
theorem dX12_feastsAt_18 : decode cX12_feastsAt 18 = .ok (.getfield 19, 3) := by decide +kernel
theorem dX12_feastsAt_21 : decode cX12_feastsAt 21 = .ok (.iload 5, 2) := by decide +kernel
theorem dX12_feastsAt_23 : decode cX12_feastsAt 23 = .ok (.iaload, 1) := by decide +kernel
theorem dX12_feastsAt_24 : decode cX12_feastsAt 24 = .ok (.iload_n 2, 1) := by decide +kernel
theorem dX12_feastsAt_25 : decode cX12_feastsAt 25 = .ok (.if_icmp .ne 20, 3) := by decide +kernel
theorem dX12_feastsAt_28 : decode cX12_feastsAt 28 = .ok (.aload_n 1, 1) := by decide +kernel
theorem dX12_feastsAt_29 : decode cX12_feastsAt 29 = .ok (.iload 5, 2) := by decide +kernel
theorem dX12_feastsAt_31 : decode cX12_feastsAt 31 = .ok (.iload_n 3, 1) := by decide +kernel
theorem dX12_feastsAt_32 : decode cX12_feastsAt 32 = .ok (.invokestatic 253, 3) := by decide +kernel
theorem dX12_feastsAt_35 : decode cX12_feastsAt 35 = .ok (.ifCond .eq 10, 3) := by decide +kernel
theorem dX12_feastsAt_38 : decode cX12_feastsAt 38 = .ok (.iconst 1, 1) := by decide +kernel
theorem dX12_feastsAt_39 : decode cX12_feastsAt 39 = .ok (.iload 5, 2) := by decide +kernel
theorem dX12_feastsAt_41 : decode cX12_feastsAt 41 = .ok (.ishl, 1) := by decide +kernel
theorem dX12_feastsAt_42 : decode cX12_feastsAt 42 = .ok (.goto 4, 3) := by decide +kernel
theorem dX12_feastsAt_45 : decode cX12_feastsAt 45 = .ok (.iconst 0, 1) := by decide +kernel
theorem dX12_feastsAt_46 : decode cX12_feastsAt 46 = .ok (.ior, 1) := by decide +kernel
theorem dX12_feastsAt_47 : decode cX12_feastsAt 47 = .ok (.istore 4, 2) := by decide +kernel
theorem dX12_feastsAt_49 : decode cX12_feastsAt 49 = .ok (.iinc 5 1, 3) := by decide +kernel
theorem dX12_feastsAt_52 : decode cX12_feastsAt 52 = .ok (.goto (-46), 3) := by decide +kernel
theorem dX12_feastsAt_55 : decode cX12_feastsAt 55 = .ok (.iload 4, 2) := by decide +kernel
theorem dX12_feastsAt_57 : decode cX12_feastsAt 57 = .ok (.ireturn, 1) := by decide +kernel
theorem dX12_late_0 : decode cX12_late 0 = .ok (.iconst 0, 1) := by decide +kernel
theorem dX12_late_1 : decode cX12_late 1 = .ok (.istore_n 2, 1) := by decide +kernel
theorem dX12_late_2 : decode cX12_late 2 = .ok (.iconst 0, 1) := by decide +kernel
theorem dX12_late_3 : decode cX12_late 3 = .ok (.istore_n 3, 1) := by decide +kernel
theorem dX12_late_4 : decode cX12_late 4 = .ok (.iload_n 3, 1) := by decide +kernel
theorem dX12_late_5 : decode cX12_late 5 = .ok (.aload_n 0, 1) := by decide +kernel
theorem dX12_late_6 : decode cX12_late 6 = .ok (.getfield 136, 3) := by decide +kernel
theorem dX12_late_9 : decode cX12_late 9 = .ok (.if_icmp .ge 42, 3) := by decide +kernel
theorem dX12_late_12 : decode cX12_late 12 = .ok (.iload_n 2, 1) := by decide +kernel
theorem dX12_late_13 : decode cX12_late 13 = .ok (.aload_n 1, 1) := by decide +kernel
theorem dX12_late_14 : decode cX12_late 14 = .ok (.bipush 6, 2) := by decide +kernel
theorem dX12_late_16 : decode cX12_late 16 = .ok (.iaload, 1) := by decide +kernel
theorem dX12_late_17 : decode cX12_late 17 = .ok (.iload_n 3, 1) := by decide +kernel
theorem dX12_late_18 : decode cX12_late 18 = .ok (.invokestatic 257, 3) := by decide +kernel
theorem dX12_late_21 : decode cX12_late 21 = .ok (.ifCond .ne 21, 3) := by decide +kernel
theorem dX12_late_24 : decode cX12_late 24 = .ok (.aload_n 1, 1) := by decide +kernel
theorem dX12_late_25 : decode cX12_late 25 = .ok (.bipush 15, 2) := by decide +kernel
theorem dX12_late_27 : decode cX12_late 27 = .ok (.iload_n 3, 1) := by decide +kernel
theorem dX12_late_28 : decode cX12_late 28 = .ok (.iadd, 1) := by decide +kernel
theorem dX12_late_29 : decode cX12_late 29 = .ok (.iaload, 1) := by decide +kernel
theorem dX12_late_30 : decode cX12_late 30 = .ok (.aload_n 1, 1) := by decide +kernel
theorem dX12_late_31 : decode cX12_late 31 = .ok (.iconst 5, 1) := by decide +kernel
theorem dX12_late_32 : decode cX12_late 32 = .ok (.iaload, 1) := by decide +kernel
theorem dX12_late_33 : decode cX12_late 33 = .ok (.if_icmp .ge 9, 3) := by decide +kernel
theorem dX12_late_36 : decode cX12_late 36 = .ok (.iconst 1, 1) := by decide +kernel
theorem dX12_late_37 : decode cX12_late 37 = .ok (.iload_n 3, 1) := by decide +kernel
theorem dX12_late_38 : decode cX12_late 38 = .ok (.ishl, 1) := by decide +kernel
theorem dX12_late_39 : decode cX12_late 39 = .ok (.goto 4, 3) := by decide +kernel
theorem dX12_late_42 : decode cX12_late 42 = .ok (.iconst 0, 1) := by decide +kernel
theorem dX12_late_43 : decode cX12_late 43 = .ok (.ior, 1) := by decide +kernel
theorem dX12_late_44 : decode cX12_late 44 = .ok (.istore_n 2, 1) := by decide +kernel
theorem dX12_late_45 : decode cX12_late 45 = .ok (.iinc 3 1, 3) := by decide +kernel
theorem dX12_late_48 : decode cX12_late 48 = .ok (.goto (-44), 3) := by decide +kernel
theorem dX12_late_51 : decode cX12_late 51 = .ok (.iload_n 2, 1) := by decide +kernel
theorem dX12_late_52 : decode cX12_late 52 = .ok (.ireturn, 1) := by decide +kernel
theorem dX12_village_0 : decode cX12_village 0 = .ok (.aload_n 0, 1) := by decide +kernel
theorem dX12_village_1 : decode cX12_village 1 = .ok (.iconst 0, 1) := by decide +kernel
theorem dX12_village_2 : decode cX12_village 2 = .ok (.putfield 123, 3) := by decide +kernel
theorem dX12_village_5 : decode cX12_village 5 = .ok (.aload_n 0, 1) := by decide +kernel
theorem dX12_village_6 : decode cX12_village 6 = .ok (.iload_n 1, 1) := by decide +kernel
theorem dX12_village_7 : decode cX12_village 7 = .ok (.invokevirtual 261, 3) := by decide +kernel
theorem dX12_village_10 : decode cX12_village 10 = .ok (.ifCond .eq 12, 3) := by decide +kernel
theorem dX12_village_13 : decode cX12_village 13 = .ok (.iload_n 2, 1) := by decide +kernel
theorem dX12_village_14 : decode cX12_village 14 = .ok (.iconst 0, 1) := by decide +kernel
theorem dX12_village_15 : decode cX12_village 15 = .ok (.iconst 3, 1) := by decide +kernel
theorem dX12_village_16 : decode cX12_village 16 = .ok (.invokestatic 132, 3) := by decide +kernel
theorem dX12_village_19 : decode cX12_village 19 = .ok (.ifCond .ne 8, 3) := by decide +kernel
theorem dX12_village_22 : decode cX12_village 22 = .ok (.aload_n 0, 1) := by decide +kernel
theorem dX12_village_23 : decode cX12_village 23 = .ok (.invokevirtual 264, 3) := by decide +kernel
theorem dX12_village_26 : decode cX12_village 26 = .ok (.ireturn, 1) := by decide +kernel
theorem dX12_village_27 : decode cX12_village 27 = .ok (.iload_n 2, 1) := by decide +kernel
theorem dX12_village_28 : decode cX12_village 28 = .ok (.ifCond .ne 10, 3) := by decide +kernel
theorem dX12_village_31 : decode cX12_village 31 = .ok (.aload_n 0, 1) := by decide +kernel
theorem dX12_village_32 : decode cX12_village 32 = .ok (.getfield 13, 3) := by decide +kernel
theorem dX12_village_35 : decode cX12_village 35 = .ok (.iload_n 1, 1) := by decide +kernel
theorem dX12_village_36 : decode cX12_village 36 = .ok (.iaload, 1) := by decide +kernel
theorem dX12_village_37 : decode cX12_village 37 = .ok (.ireturn, 1) := by decide +kernel
theorem dX12_village_38 : decode cX12_village 38 = .ok (.iload_n 2, 1) := by decide +kernel
theorem dX12_village_39 : decode cX12_village 39 = .ok (.iconst 2, 1) := by decide +kernel
theorem dX12_village_40 : decode cX12_village 40 = .ok (.if_icmp .ne 29, 3) := by decide +kernel
theorem dX12_village_43 : decode cX12_village 43 = .ok (.aload_n 0, 1) := by decide +kernel
theorem dX12_village_44 : decode cX12_village 44 = .ok (.aload_n 0, 1) := by decide +kernel
theorem dX12_village_45 : decode cX12_village 45 = .ok (.getfield 9, 3) := by decide +kernel
theorem dX12_village_48 : decode cX12_village 48 = .ok (.iload_n 1, 1) := by decide +kernel
theorem dX12_village_49 : decode cX12_village 49 = .ok (.aload_n 0, 1) := by decide +kernel
theorem dX12_village_50 : decode cX12_village 50 = .ok (.getfield 9, 3) := by decide +kernel
theorem dX12_village_53 : decode cX12_village 53 = .ok (.iconst 5, 1) := by decide +kernel
theorem dX12_village_54 : decode cX12_village 54 = .ok (.iaload, 1) := by decide +kernel
theorem dX12_village_55 : decode cX12_village 55 = .ok (.invokevirtual 267, 3) := by decide +kernel
theorem dX12_village_58 : decode cX12_village 58 = .ok (.aload_n 0, 1) := by decide +kernel
theorem dX12_village_59 : decode cX12_village 59 = .ok (.getfield 9, 3) := by decide +kernel
theorem dX12_village_62 : decode cX12_village 62 = .ok (.bipush 6, 2) := by decide +kernel
theorem dX12_village_64 : decode cX12_village 64 = .ok (.iaload, 1) := by decide +kernel
theorem dX12_village_65 : decode cX12_village 65 = .ok (.iconst (-1), 1) := by decide +kernel
theorem dX12_village_66 : decode cX12_village 66 = .ok (.ixor, 1) := by decide +kernel
theorem dX12_village_67 : decode cX12_village 67 = .ok (.iand, 1) := by decide +kernel
theorem dX12_village_68 : decode cX12_village 68 = .ok (.ireturn, 1) := by decide +kernel
theorem dX12_village_69 : decode cX12_village 69 = .ok (.iload_n 2, 1) := by decide +kernel
theorem dX12_village_70 : decode cX12_village 70 = .ok (.iconst 3, 1) := by decide +kernel
theorem dX12_village_71 : decode cX12_village 71 = .ok (.if_icmp .ne 35, 3) := by decide +kernel
theorem dX12_village_74 : decode cX12_village 74 = .ok (.aload_n 0, 1) := by decide +kernel
theorem dX12_village_75 : decode cX12_village 75 = .ok (.aload_n 0, 1) := by decide +kernel
theorem dX12_village_76 : decode cX12_village 76 = .ok (.getfield 9, 3) := by decide +kernel
theorem dX12_village_79 : decode cX12_village 79 = .ok (.iconst 0, 1) := by decide +kernel
theorem dX12_village_80 : decode cX12_village 80 = .ok (.iaload, 1) := by decide +kernel
theorem dX12_village_81 : decode cX12_village 81 = .ok (.iload_n 1, 1) := by decide +kernel
theorem dX12_village_82 : decode cX12_village 82 = .ok (.invokevirtual 271, 3) := by decide +kernel
theorem dX12_village_85 : decode cX12_village 85 = .ok (.ldc 122, 2) := by decide +kernel
theorem dX12_village_87 : decode cX12_village 87 = .ok (.if_icmp .lt 7, 3) := by decide +kernel
theorem dX12_village_90 : decode cX12_village 90 = .ok (.iconst (-1), 1) := by decide +kernel
theorem dX12_village_91 : decode cX12_village 91 = .ok (.goto 14, 3) := by decide +kernel
theorem dX12_village_94 : decode cX12_village 94 = .ok (.aload_n 0, 1) := by decide +kernel
theorem dX12_village_95 : decode cX12_village 95 = .ok (.aload_n 0, 1) := by decide +kernel
theorem dX12_village_96 : decode cX12_village 96 = .ok (.getfield 9, 3) := by decide +kernel
theorem dX12_village_99 : decode cX12_village 99 = .ok (.iconst 0, 1) := by decide +kernel
theorem dX12_village_100 : decode cX12_village 100 = .ok (.iaload, 1) := by decide +kernel
theorem dX12_village_101 : decode cX12_village 101 = .ok (.iload_n 1, 1) := by decide +kernel
theorem dX12_village_102 : decode cX12_village 102 = .ok (.invokevirtual 271, 3) := by decide +kernel
theorem dX12_village_105 : decode cX12_village 105 = .ok (.ireturn, 1) := by decide +kernel
theorem dX12_village_106 : decode cX12_village 106 = .ok (.iconst 0, 1) := by decide +kernel
theorem dX12_village_107 : decode cX12_village 107 = .ok (.istore_n 3, 1) := by decide +kernel
theorem dX12_village_108 : decode cX12_village 108 = .ok (.iconst 0, 1) := by decide +kernel
theorem dX12_village_109 : decode cX12_village 109 = .ok (.istore 4, 2) := by decide +kernel
theorem dX12_village_111 : decode cX12_village 111 = .ok (.iload 4, 2) := by decide +kernel
theorem dX12_village_113 : decode cX12_village 113 = .ok (.aload_n 0, 1) := by decide +kernel
theorem dX12_village_114 : decode cX12_village 114 = .ok (.getfield 136, 3) := by decide +kernel
theorem dX12_village_117 : decode cX12_village 117 = .ok (.if_icmp .ge 31, 3) := by decide +kernel
theorem dX12_village_120 : decode cX12_village 120 = .ok (.iload_n 3, 1) := by decide +kernel
theorem dX12_village_121 : decode cX12_village 121 = .ok (.aload_n 0, 1) := by decide +kernel
theorem dX12_village_122 : decode cX12_village 122 = .ok (.getfield 19, 3) := by decide +kernel
theorem dX12_village_125 : decode cX12_village 125 = .ok (.iload 4, 2) := by decide +kernel
theorem dX12_village_127 : decode cX12_village 127 = .ok (.iaload, 1) := by decide +kernel
theorem dX12_village_128 : decode cX12_village 128 = .ok (.iload_n 1, 1) := by decide +kernel
theorem dX12_village_129 : decode cX12_village 129 = .ok (.if_icmp .ne 10, 3) := by decide +kernel
theorem dX12_village_132 : decode cX12_village 132 = .ok (.iconst 1, 1) := by decide +kernel
theorem dX12_village_133 : decode cX12_village 133 = .ok (.iload 4, 2) := by decide +kernel
theorem dX12_village_135 : decode cX12_village 135 = .ok (.ishl, 1) := by decide +kernel
theorem dX12_village_136 : decode cX12_village 136 = .ok (.goto 4, 3) := by decide +kernel
theorem dX12_village_139 : decode cX12_village 139 = .ok (.iconst 0, 1) := by decide +kernel
theorem dX12_village_140 : decode cX12_village 140 = .ok (.ior, 1) := by decide +kernel
theorem dX12_village_141 : decode cX12_village 141 = .ok (.istore_n 3, 1) := by decide +kernel
theorem dX12_village_142 : decode cX12_village 142 = .ok (.iinc 4 1, 3) := by decide +kernel
theorem dX12_village_145 : decode cX12_village 145 = .ok (.goto (-34), 3) := by decide +kernel
theorem dX12_village_148 : decode cX12_village 148 = .ok (.iload_n 3, 1) := by decide +kernel
theorem dX12_village_149 : decode cX12_village 149 = .ok (.ireturn, 1) := by decide +kernel
theorem dX12_feast_0 : decode cX12_feast 0 = .ok (.aload_n 0, 1) := by decide +kernel
theorem dX12_feast_1 : decode cX12_feast 1 = .ok (.iconst 0, 1) := by decide +kernel
theorem dX12_feast_2 : decode cX12_feast 2 = .ok (.putfield 123, 3) := by decide +kernel
theorem dX12_feast_5 : decode cX12_feast 5 = .ok (.aload_n 0, 1) := by decide +kernel
theorem dX12_feast_6 : decode cX12_feast 6 = .ok (.iload_n 1, 1) := by decide +kernel
theorem dX12_feast_7 : decode cX12_feast 7 = .ok (.invokevirtual 274, 3) := by decide +kernel
theorem dX12_feast_10 : decode cX12_feast 10 = .ok (.ifCond .eq 13, 3) := by decide +kernel
theorem dX12_feast_13 : decode cX12_feast 13 = .ok (.iload_n 2, 1) := by decide +kernel
theorem dX12_feast_14 : decode cX12_feast 14 = .ok (.iconst 0, 1) := by decide +kernel
theorem dX12_feast_15 : decode cX12_feast 15 = .ok (.bipush 6, 2) := by decide +kernel
theorem dX12_feast_17 : decode cX12_feast 17 = .ok (.invokestatic 132, 3) := by decide +kernel
theorem dX12_feast_20 : decode cX12_feast 20 = .ok (.ifCond .ne 8, 3) := by decide +kernel
theorem dX12_feast_23 : decode cX12_feast 23 = .ok (.aload_n 0, 1) := by decide +kernel
theorem dX12_feast_24 : decode cX12_feast 24 = .ok (.invokevirtual 264, 3) := by decide +kernel
theorem dX12_feast_27 : decode cX12_feast 27 = .ok (.ireturn, 1) := by decide +kernel
theorem dX12_feast_28 : decode cX12_feast 28 = .ok (.iload_n 2, 1) := by decide +kernel
theorem dX12_feast_29 : decode cX12_feast 29 = .ok (.tableswitch 92 0 5 #[39, 46, 56, 66, 73, 80], 39) := by decide +kernel
theorem dX12_feast_68 : decode cX12_feast 68 = .ok (.aload_n 0, 1) := by decide +kernel
theorem dX12_feast_69 : decode cX12_feast 69 = .ok (.getfield 19, 3) := by decide +kernel
theorem dX12_feast_72 : decode cX12_feast 72 = .ok (.iload_n 1, 1) := by decide +kernel
theorem dX12_feast_73 : decode cX12_feast 73 = .ok (.iaload, 1) := by decide +kernel
theorem dX12_feast_74 : decode cX12_feast 74 = .ok (.ireturn, 1) := by decide +kernel
theorem dX12_feast_75 : decode cX12_feast 75 = .ok (.aload_n 0, 1) := by decide +kernel
theorem dX12_feast_76 : decode cX12_feast 76 = .ok (.getfield 9, 3) := by decide +kernel
theorem dX12_feast_79 : decode cX12_feast 79 = .ok (.bipush 7, 2) := by decide +kernel
theorem dX12_feast_81 : decode cX12_feast 81 = .ok (.iload_n 1, 1) := by decide +kernel
theorem dX12_feast_82 : decode cX12_feast 82 = .ok (.iadd, 1) := by decide +kernel
theorem dX12_feast_83 : decode cX12_feast 83 = .ok (.iaload, 1) := by decide +kernel
theorem dX12_feast_84 : decode cX12_feast 84 = .ok (.ireturn, 1) := by decide +kernel
theorem dX12_feast_85 : decode cX12_feast 85 = .ok (.aload_n 0, 1) := by decide +kernel
theorem dX12_feast_86 : decode cX12_feast 86 = .ok (.getfield 9, 3) := by decide +kernel
theorem dX12_feast_89 : decode cX12_feast 89 = .ok (.bipush 15, 2) := by decide +kernel
theorem dX12_feast_91 : decode cX12_feast 91 = .ok (.iload_n 1, 1) := by decide +kernel
theorem dX12_feast_92 : decode cX12_feast 92 = .ok (.iadd, 1) := by decide +kernel
theorem dX12_feast_93 : decode cX12_feast 93 = .ok (.iaload, 1) := by decide +kernel
theorem dX12_feast_94 : decode cX12_feast 94 = .ok (.ireturn, 1) := by decide +kernel
theorem dX12_feast_95 : decode cX12_feast 95 = .ok (.aload_n 0, 1) := by decide +kernel
theorem dX12_feast_96 : decode cX12_feast 96 = .ok (.getfield 22, 3) := by decide +kernel
theorem dX12_feast_99 : decode cX12_feast 99 = .ok (.iload_n 1, 1) := by decide +kernel
theorem dX12_feast_100 : decode cX12_feast 100 = .ok (.iaload, 1) := by decide +kernel
theorem dX12_feast_101 : decode cX12_feast 101 = .ok (.ireturn, 1) := by decide +kernel
theorem dX12_feast_102 : decode cX12_feast 102 = .ok (.aload_n 0, 1) := by decide +kernel
theorem dX12_feast_103 : decode cX12_feast 103 = .ok (.getfield 25, 3) := by decide +kernel
theorem dX12_feast_106 : decode cX12_feast 106 = .ok (.iload_n 1, 1) := by decide +kernel
theorem dX12_feast_107 : decode cX12_feast 107 = .ok (.iaload, 1) := by decide +kernel
theorem dX12_feast_108 : decode cX12_feast 108 = .ok (.ireturn, 1) := by decide +kernel
theorem dX12_feast_109 : decode cX12_feast 109 = .ok (.aload_n 0, 1) := by decide +kernel
theorem dX12_feast_110 : decode cX12_feast 110 = .ok (.getfield 9, 3) := by decide +kernel
theorem dX12_feast_113 : decode cX12_feast 113 = .ok (.bipush 6, 2) := by decide +kernel
theorem dX12_feast_115 : decode cX12_feast 115 = .ok (.iaload, 1) := by decide +kernel
theorem dX12_feast_116 : decode cX12_feast 116 = .ok (.iload_n 1, 1) := by decide +kernel
theorem dX12_feast_117 : decode cX12_feast 117 = .ok (.ishr, 1) := by decide +kernel
theorem dX12_feast_118 : decode cX12_feast 118 = .ok (.iconst 1, 1) := by decide +kernel
theorem dX12_feast_119 : decode cX12_feast 119 = .ok (.iand, 1) := by decide +kernel
theorem dX12_feast_120 : decode cX12_feast 120 = .ok (.ireturn, 1) := by decide +kernel
theorem dX12_feast_121 : decode cX12_feast 121 = .ok (.aload_n 0, 1) := by decide +kernel
theorem dX12_feast_122 : decode cX12_feast 122 = .ok (.aload_n 0, 1) := by decide +kernel
theorem dX12_feast_123 : decode cX12_feast 123 = .ok (.getfield 9, 3) := by decide +kernel
theorem dX12_feast_126 : decode cX12_feast 126 = .ok (.invokevirtual 277, 3) := by decide +kernel
theorem dX12_feast_129 : decode cX12_feast 129 = .ok (.iload_n 1, 1) := by decide +kernel
theorem dX12_feast_130 : decode cX12_feast 130 = .ok (.ishr, 1) := by decide +kernel
theorem dX12_feast_131 : decode cX12_feast 131 = .ok (.iconst 1, 1) := by decide +kernel
theorem dX12_feast_132 : decode cX12_feast 132 = .ok (.iand, 1) := by decide +kernel
theorem dX12_feast_133 : decode cX12_feast 133 = .ok (.ireturn, 1) := by decide +kernel
theorem dX12_set_0 : decode cX12_set 0 = .ok (.aload_n 0, 1) := by decide +kernel
theorem dX12_set_1 : decode cX12_set 1 = .ok (.iconst 0, 1) := by decide +kernel
theorem dX12_set_2 : decode cX12_set 2 = .ok (.putfield 123, 3) := by decide +kernel
theorem dX12_set_5 : decode cX12_set 5 = .ok (.iload_n 1, 1) := by decide +kernel
theorem dX12_set_6 : decode cX12_set 6 = .ok (.ifCond .ne 10, 3) := by decide +kernel
theorem dX12_set_9 : decode cX12_set 9 = .ok (.aload_n 0, 1) := by decide +kernel
theorem dX12_set_10 : decode cX12_set 10 = .ok (.getfield 28, 3) := by decide +kernel
theorem dX12_set_13 : decode cX12_set 13 = .ok (.goto 31, 3) := by decide +kernel
theorem dX12_set_16 : decode cX12_set 16 = .ok (.iload_n 1, 1) := by decide +kernel
theorem dX12_set_17 : decode cX12_set 17 = .ok (.iconst 1, 1) := by decide +kernel
theorem dX12_set_18 : decode cX12_set 18 = .ok (.if_icmp .ne 10, 3) := by decide +kernel
theorem dX12_set_21 : decode cX12_set 21 = .ok (.aload_n 0, 1) := by decide +kernel
theorem dX12_set_22 : decode cX12_set 22 = .ok (.getfield 243, 3) := by decide +kernel
theorem dX12_set_25 : decode cX12_set 25 = .ok (.goto 19, 3) := by decide +kernel
theorem dX12_set_28 : decode cX12_set 28 = .ok (.iload_n 1, 1) := by decide +kernel
theorem dX12_set_29 : decode cX12_set 29 = .ok (.iconst 2, 1) := by decide +kernel
theorem dX12_set_30 : decode cX12_set 30 = .ok (.if_icmp .ne 10, 3) := by decide +kernel
theorem dX12_set_33 : decode cX12_set 33 = .ok (.aload_n 0, 1) := by decide +kernel
theorem dX12_set_34 : decode cX12_set 34 = .ok (.getfield 32, 3) := by decide +kernel
theorem dX12_set_37 : decode cX12_set 37 = .ok (.goto 7, 3) := by decide +kernel
theorem dX12_set_40 : decode cX12_set 40 = .ok (.aload_n 0, 1) := by decide +kernel
theorem dX12_set_41 : decode cX12_set 41 = .ok (.getfield 246, 3) := by decide +kernel
theorem dX12_set_44 : decode cX12_set 44 = .ok (.istore_n 3, 1) := by decide +kernel
theorem dX12_set_45 : decode cX12_set 45 = .ok (.iload_n 1, 1) := by decide +kernel
theorem dX12_set_46 : decode cX12_set 46 = .ok (.iconst 0, 1) := by decide +kernel
theorem dX12_set_47 : decode cX12_set 47 = .ok (.iconst 3, 1) := by decide +kernel
theorem dX12_set_48 : decode cX12_set 48 = .ok (.invokestatic 132, 3) := by decide +kernel
theorem dX12_set_51 : decode cX12_set 51 = .ok (.ifCond .eq 31, 3) := by decide +kernel
theorem dX12_set_54 : decode cX12_set 54 = .ok (.iload_n 2, 1) := by decide +kernel
theorem dX12_set_55 : decode cX12_set 55 = .ok (.iload_n 1, 1) := by decide +kernel
theorem dX12_set_56 : decode cX12_set 56 = .ok (.ifCond .ne 7, 3) := by decide +kernel
theorem dX12_set_59 : decode cX12_set 59 = .ok (.iconst 1, 1) := by decide +kernel
theorem dX12_set_60 : decode cX12_set 60 = .ok (.goto 4, 3) := by decide +kernel
theorem dX12_set_63 : decode cX12_set 63 = .ok (.iconst 0, 1) := by decide +kernel
theorem dX12_set_64 : decode cX12_set 64 = .ok (.iload_n 1, 1) := by decide +kernel
theorem dX12_set_65 : decode cX12_set 65 = .ok (.iconst 1, 1) := by decide +kernel
theorem dX12_set_66 : decode cX12_set 66 = .ok (.if_icmp .ne 8, 3) := by decide +kernel
theorem dX12_set_69 : decode cX12_set 69 = .ok (.bipush 30, 2) := by decide +kernel
theorem dX12_set_71 : decode cX12_set 71 = .ok (.goto 5, 3) := by decide +kernel
theorem dX12_set_74 : decode cX12_set 74 = .ok (.bipush 99, 2) := by decide +kernel
theorem dX12_set_76 : decode cX12_set 76 = .ok (.invokestatic 132, 3) := by decide +kernel
theorem dX12_set_79 : decode cX12_set 79 = .ok (.ifCond .ne 5, 3) := by decide +kernel
theorem dX12_set_82 : decode cX12_set 82 = .ok (.iconst (-1), 1) := by decide +kernel
theorem dX12_set_83 : decode cX12_set 83 = .ok (.ireturn, 1) := by decide +kernel
theorem dX12_set_84 : decode cX12_set 84 = .ok (.iload_n 1, 1) := by decide +kernel
theorem dX12_set_85 : decode cX12_set 85 = .ok (.ifCond .ne 8, 3) := by decide +kernel
theorem dX12_set_88 : decode cX12_set 88 = .ok (.aload_n 0, 1) := by decide +kernel
theorem dX12_set_89 : decode cX12_set 89 = .ok (.iload_n 2, 1) := by decide +kernel
theorem dX12_set_90 : decode cX12_set 90 = .ok (.putfield 28, 3) := by decide +kernel
theorem dX12_set_93 : decode cX12_set 93 = .ok (.iload_n 1, 1) := by decide +kernel
theorem dX12_set_94 : decode cX12_set 94 = .ok (.iconst 1, 1) := by decide +kernel
theorem dX12_set_95 : decode cX12_set 95 = .ok (.if_icmp .ne 8, 3) := by decide +kernel
theorem dX12_set_98 : decode cX12_set 98 = .ok (.aload_n 0, 1) := by decide +kernel
theorem dX12_set_99 : decode cX12_set 99 = .ok (.iload_n 2, 1) := by decide +kernel
theorem dX12_set_100 : decode cX12_set 100 = .ok (.putfield 243, 3) := by decide +kernel
theorem dX12_set_103 : decode cX12_set 103 = .ok (.iload_n 1, 1) := by decide +kernel
theorem dX12_set_104 : decode cX12_set 104 = .ok (.iconst 2, 1) := by decide +kernel
theorem dX12_set_105 : decode cX12_set 105 = .ok (.if_icmp .ne 8, 3) := by decide +kernel
theorem dX12_set_108 : decode cX12_set 108 = .ok (.aload_n 0, 1) := by decide +kernel
theorem dX12_set_109 : decode cX12_set 109 = .ok (.iload_n 2, 1) := by decide +kernel
theorem dX12_set_110 : decode cX12_set 110 = .ok (.putfield 32, 3) := by decide +kernel
theorem dX12_set_113 : decode cX12_set 113 = .ok (.iload_n 1, 1) := by decide +kernel
theorem dX12_set_114 : decode cX12_set 114 = .ok (.iconst 3, 1) := by decide +kernel
theorem dX12_set_115 : decode cX12_set 115 = .ok (.if_icmp .ne 8, 3) := by decide +kernel
theorem dX12_set_118 : decode cX12_set 118 = .ok (.aload_n 0, 1) := by decide +kernel
theorem dX12_set_119 : decode cX12_set 119 = .ok (.iload_n 2, 1) := by decide +kernel
theorem dX12_set_120 : decode cX12_set 120 = .ok (.putfield 246, 3) := by decide +kernel
theorem dX12_set_123 : decode cX12_set 123 = .ok (.iload_n 3, 1) := by decide +kernel
theorem dX12_set_124 : decode cX12_set 124 = .ok (.ireturn, 1) := by decide +kernel
theorem dX12_sheet_0 : decode cX12_sheet 0 = .ok (.aload_n 0, 1) := by decide +kernel
theorem dX12_sheet_1 : decode cX12_sheet 1 = .ok (.iconst 0, 1) := by decide +kernel
theorem dX12_sheet_2 : decode cX12_sheet 2 = .ok (.putfield 123, 3) := by decide +kernel
theorem dX12_sheet_5 : decode cX12_sheet 5 = .ok (.iload_n 1, 1) := by decide +kernel
theorem dX12_sheet_6 : decode cX12_sheet 6 = .ok (.iconst 0, 1) := by decide +kernel
theorem dX12_sheet_7 : decode cX12_sheet 7 = .ok (.iconst 3, 1) := by decide +kernel
theorem dX12_sheet_8 : decode cX12_sheet 8 = .ok (.invokestatic 132, 3) := by decide +kernel
theorem dX12_sheet_11 : decode cX12_sheet 11 = .ok (.ifCond .eq 9, 3) := by decide +kernel
theorem dX12_sheet_14 : decode cX12_sheet 14 = .ok (.iload_n 2, 1) := by decide +kernel
theorem dX12_sheet_15 : decode cX12_sheet 15 = .ok (.bipush 8, 2) := by decide +kernel
theorem dX12_sheet_17 : decode cX12_sheet 17 = .ok (.if_icmp .le 5, 3) := by decide +kernel
theorem dX12_sheet_20 : decode cX12_sheet 20 = .ok (.iconst (-1), 1) := by decide +kernel
theorem dX12_sheet_21 : decode cX12_sheet 21 = .ok (.ireturn, 1) := by decide +kernel
theorem dX12_sheet_22 : decode cX12_sheet 22 = .ok (.iload_n 1, 1) := by decide +kernel
theorem dX12_sheet_23 : decode cX12_sheet 23 = .ok (.iconst 3, 1) := by decide +kernel
theorem dX12_sheet_24 : decode cX12_sheet 24 = .ok (.if_icmp .ge 10, 3) := by decide +kernel
theorem dX12_sheet_27 : decode cX12_sheet 27 = .ok (.iload_n 2, 1) := by decide +kernel
theorem dX12_sheet_28 : decode cX12_sheet 28 = .ok (.ifCond .ge 6, 3) := by decide +kernel
theorem dX12_sheet_31 : decode cX12_sheet 31 = .ok (.bipush (-2), 2) := by decide +kernel
theorem dX12_sheet_33 : decode cX12_sheet 33 = .ok (.ireturn, 1) := by decide +kernel
theorem dX12_sheet_34 : decode cX12_sheet 34 = .ok (.iconst 0, 1) := by decide +kernel
theorem dX12_sheet_35 : decode cX12_sheet 35 = .ok (.istore 5, 2) := by decide +kernel
theorem dX12_sheet_37 : decode cX12_sheet 37 = .ok (.iload_n 3, 1) := by decide +kernel
theorem dX12_sheet_38 : decode cX12_sheet 38 = .ok (.istore 6, 2) := by decide +kernel
theorem dX12_sheet_40 : decode cX12_sheet 40 = .ok (.iconst 0, 1) := by decide +kernel
theorem dX12_sheet_41 : decode cX12_sheet 41 = .ok (.istore 7, 2) := by decide +kernel
theorem dX12_sheet_43 : decode cX12_sheet 43 = .ok (.iload 7, 2) := by decide +kernel
theorem dX12_sheet_45 : decode cX12_sheet 45 = .ok (.aload_n 0, 1) := by decide +kernel
theorem dX12_sheet_46 : decode cX12_sheet 46 = .ok (.getfield 136, 3) := by decide +kernel
theorem dX12_sheet_49 : decode cX12_sheet 49 = .ok (.if_icmp .ge 86, 3) := by decide +kernel
theorem dX12_sheet_52 : decode cX12_sheet 52 = .ok (.iload_n 1, 1) := by decide +kernel
theorem dX12_sheet_53 : decode cX12_sheet 53 = .ok (.ifCond .ne 9, 3) := by decide +kernel
theorem dX12_sheet_56 : decode cX12_sheet 56 = .ok (.iload 6, 2) := by decide +kernel
theorem dX12_sheet_58 : decode cX12_sheet 58 = .ok (.i2b, 1) := by decide +kernel
theorem dX12_sheet_59 : decode cX12_sheet 59 = .ok (.goto 16, 3) := by decide +kernel
theorem dX12_sheet_62 : decode cX12_sheet 62 = .ok (.iload_n 1, 1) := by decide +kernel
theorem dX12_sheet_63 : decode cX12_sheet 63 = .ok (.iconst 1, 1) := by decide +kernel
theorem dX12_sheet_64 : decode cX12_sheet 64 = .ok (.if_icmp .ne 9, 3) := by decide +kernel
theorem dX12_sheet_67 : decode cX12_sheet 67 = .ok (.iload 6, 2) := by decide +kernel
theorem dX12_sheet_69 : decode cX12_sheet 69 = .ok (.i2s, 1) := by decide +kernel
theorem dX12_sheet_70 : decode cX12_sheet 70 = .ok (.goto 5, 3) := by decide +kernel
theorem dX12_sheet_73 : decode cX12_sheet 73 = .ok (.iload 6, 2) := by decide +kernel
theorem dX12_sheet_75 : decode cX12_sheet 75 = .ok (.istore 8, 2) := by decide +kernel
theorem dX12_sheet_77 : decode cX12_sheet 77 = .ok (.aload_n 0, 1) := by decide +kernel
theorem dX12_sheet_78 : decode cX12_sheet 78 = .ok (.getfield 22, 3) := by decide +kernel
theorem dX12_sheet_81 : decode cX12_sheet 81 = .ok (.iload 7, 2) := by decide +kernel
theorem dX12_sheet_83 : decode cX12_sheet 83 = .ok (.iload_n 1, 1) := by decide +kernel
theorem dX12_sheet_84 : decode cX12_sheet 84 = .ok (.iconst 3, 1) := by decide +kernel
theorem dX12_sheet_85 : decode cX12_sheet 85 = .ok (.if_icmp .eq 9, 3) := by decide +kernel
theorem dX12_sheet_88 : decode cX12_sheet 88 = .ok (.iload 7, 2) := by decide +kernel
theorem dX12_sheet_90 : decode cX12_sheet 90 = .ok (.iload_n 2, 1) := by decide +kernel
theorem dX12_sheet_91 : decode cX12_sheet 91 = .ok (.if_icmp .lt 7, 3) := by decide +kernel
theorem dX12_sheet_94 : decode cX12_sheet 94 = .ok (.iconst 0, 1) := by decide +kernel
theorem dX12_sheet_95 : decode cX12_sheet 95 = .ok (.goto 14, 3) := by decide +kernel
theorem dX12_sheet_98 : decode cX12_sheet 98 = .ok (.iconst 0, 1) := by decide +kernel
theorem dX12_sheet_99 : decode cX12_sheet 99 = .ok (.bipush 99, 2) := by decide +kernel
theorem dX12_sheet_101 : decode cX12_sheet 101 = .ok (.iload 8, 2) := by decide +kernel
theorem dX12_sheet_103 : decode cX12_sheet 103 = .ok (.invokestatic 200, 3) := by decide +kernel
theorem dX12_sheet_106 : decode cX12_sheet 106 = .ok (.invokestatic 281, 3) := by decide +kernel
theorem dX12_sheet_109 : decode cX12_sheet 109 = .ok (.iastore, 1) := by decide +kernel
theorem dX12_sheet_110 : decode cX12_sheet 110 = .ok (.iload 5, 2) := by decide +kernel
theorem dX12_sheet_112 : decode cX12_sheet 112 = .ok (.aload_n 0, 1) := by decide +kernel
theorem dX12_sheet_113 : decode cX12_sheet 113 = .ok (.getfield 22, 3) := by decide +kernel
theorem dX12_sheet_116 : decode cX12_sheet 116 = .ok (.iload 7, 2) := by decide +kernel
theorem dX12_sheet_118 : decode cX12_sheet 118 = .ok (.iaload, 1) := by decide +kernel
theorem dX12_sheet_119 : decode cX12_sheet 119 = .ok (.iadd, 1) := by decide +kernel
theorem dX12_sheet_120 : decode cX12_sheet 120 = .ok (.istore 5, 2) := by decide +kernel
theorem dX12_sheet_122 : decode cX12_sheet 122 = .ok (.iload 6, 2) := by decide +kernel
theorem dX12_sheet_124 : decode cX12_sheet 124 = .ok (.iload 4, 2) := by decide +kernel
theorem dX12_sheet_126 : decode cX12_sheet 126 = .ok (.iadd, 1) := by decide +kernel
theorem dX12_sheet_127 : decode cX12_sheet 127 = .ok (.istore 6, 2) := by decide +kernel
theorem dX12_sheet_129 : decode cX12_sheet 129 = .ok (.iinc 7 1, 3) := by decide +kernel
theorem dX12_sheet_132 : decode cX12_sheet 132 = .ok (.goto (-89), 3) := by decide +kernel
theorem dX12_sheet_135 : decode cX12_sheet 135 = .ok (.iload_n 1, 1) := by decide +kernel
theorem dX12_sheet_136 : decode cX12_sheet 136 = .ok (.iconst 3, 1) := by decide +kernel
theorem dX12_sheet_137 : decode cX12_sheet 137 = .ok (.if_icmp .ne 8, 3) := by decide +kernel
theorem dX12_sheet_140 : decode cX12_sheet 140 = .ok (.bipush (-3), 2) := by decide +kernel
theorem dX12_sheet_142 : decode cX12_sheet 142 = .ok (.goto 5, 3) := by decide +kernel
theorem dX12_sheet_145 : decode cX12_sheet 145 = .ok (.iload 5, 2) := by decide +kernel
theorem dX12_sheet_147 : decode cX12_sheet 147 = .ok (.ireturn, 1) := by decide +kernel
theorem dX12_lay_0 : decode cX12_lay 0 = .ok (.iconst 0, 1) := by decide +kernel
theorem dX12_lay_1 : decode cX12_lay 1 = .ok (.istore_n 3, 1) := by decide +kernel
theorem dX12_lay_2 : decode cX12_lay 2 = .ok (.iload_n 3, 1) := by decide +kernel
theorem dX12_lay_3 : decode cX12_lay 3 = .ok (.bipush 23, 2) := by decide +kernel
theorem dX12_lay_5 : decode cX12_lay 5 = .ok (.if_icmp .ge 17, 3) := by decide +kernel
theorem dX12_lay_8 : decode cX12_lay 8 = .ok (.aload_n 1, 1) := by decide +kernel
theorem dX12_lay_9 : decode cX12_lay 9 = .ok (.iload_n 2, 1) := by decide +kernel
theorem dX12_lay_10 : decode cX12_lay 10 = .ok (.iload_n 3, 1) := by decide +kernel
theorem dX12_lay_11 : decode cX12_lay 11 = .ok (.iadd, 1) := by decide +kernel
theorem dX12_lay_12 : decode cX12_lay 12 = .ok (.aload_n 0, 1) := by decide +kernel
theorem dX12_lay_13 : decode cX12_lay 13 = .ok (.iload_n 3, 1) := by decide +kernel
theorem dX12_lay_14 : decode cX12_lay 14 = .ok (.iaload, 1) := by decide +kernel
theorem dX12_lay_15 : decode cX12_lay 15 = .ok (.iastore, 1) := by decide +kernel
theorem dX12_lay_16 : decode cX12_lay 16 = .ok (.iinc 3 1, 3) := by decide +kernel
theorem dX12_lay_19 : decode cX12_lay 19 = .ok (.goto (-17), 3) := by decide +kernel
theorem dX12_lay_22 : decode cX12_lay 22 = .ok (.return_, 1) := by decide +kernel
theorem dX12_remember_0 : decode cX12_remember 0 = .ok (.aload_n 0, 1) := by decide +kernel
theorem dX12_remember_1 : decode cX12_remember 1 = .ok (.getfield 208, 3) := by decide +kernel
theorem dX12_remember_4 : decode cX12_remember 4 = .ok (.bipush 12, 2) := by decide +kernel
theorem dX12_remember_6 : decode cX12_remember 6 = .ok (.if_icmp .ne 43, 3) := by decide +kernel
theorem dX12_remember_9 : decode cX12_remember 9 = .ok (.iconst 0, 1) := by decide +kernel
theorem dX12_remember_10 : decode cX12_remember 10 = .ok (.istore_n 2, 1) := by decide +kernel
theorem dX12_remember_11 : decode cX12_remember 11 = .ok (.iload_n 2, 1) := by decide +kernel
theorem dX12_remember_12 : decode cX12_remember 12 = .ok (.sipush 253, 3) := by decide +kernel
theorem dX12_remember_15 : decode cX12_remember 15 = .ok (.if_icmp .ge 24, 3) := by decide +kernel
theorem dX12_remember_18 : decode cX12_remember 18 = .ok (.aload_n 0, 1) := by decide +kernel
theorem dX12_remember_19 : decode cX12_remember 19 = .ok (.getfield 61, 3) := by decide +kernel
theorem dX12_remember_22 : decode cX12_remember 22 = .ok (.iload_n 2, 1) := by decide +kernel
theorem dX12_remember_23 : decode cX12_remember 23 = .ok (.aload_n 0, 1) := by decide +kernel
theorem dX12_remember_24 : decode cX12_remember 24 = .ok (.getfield 61, 3) := by decide +kernel
theorem dX12_remember_27 : decode cX12_remember 27 = .ok (.iload_n 2, 1) := by decide +kernel
theorem dX12_remember_28 : decode cX12_remember 28 = .ok (.bipush 23, 2) := by decide +kernel
theorem dX12_remember_30 : decode cX12_remember 30 = .ok (.iadd, 1) := by decide +kernel
theorem dX12_remember_31 : decode cX12_remember 31 = .ok (.iaload, 1) := by decide +kernel
theorem dX12_remember_32 : decode cX12_remember 32 = .ok (.iastore, 1) := by decide +kernel
theorem dX12_remember_33 : decode cX12_remember 33 = .ok (.iinc 2 1, 3) := by decide +kernel
theorem dX12_remember_36 : decode cX12_remember 36 = .ok (.goto (-25), 3) := by decide +kernel
theorem dX12_remember_39 : decode cX12_remember 39 = .ok (.aload_n 0, 1) := by decide +kernel
theorem dX12_remember_40 : decode cX12_remember 40 = .ok (.dup, 1) := by decide +kernel
theorem dX12_remember_41 : decode cX12_remember 41 = .ok (.getfield 208, 3) := by decide +kernel
theorem dX12_remember_44 : decode cX12_remember 44 = .ok (.iconst 1, 1) := by decide +kernel
theorem dX12_remember_45 : decode cX12_remember 45 = .ok (.isub, 1) := by decide +kernel
theorem dX12_remember_46 : decode cX12_remember 46 = .ok (.putfield 208, 3) := by decide +kernel
theorem dX12_remember_49 : decode cX12_remember 49 = .ok (.aload_n 1, 1) := by decide +kernel
theorem dX12_remember_50 : decode cX12_remember 50 = .ok (.aload_n 0, 1) := by decide +kernel
theorem dX12_remember_51 : decode cX12_remember 51 = .ok (.getfield 61, 3) := by decide +kernel
theorem dX12_remember_54 : decode cX12_remember 54 = .ok (.bipush 23, 2) := by decide +kernel
theorem dX12_remember_56 : decode cX12_remember 56 = .ok (.aload_n 0, 1) := by decide +kernel
theorem dX12_remember_57 : decode cX12_remember 57 = .ok (.getfield 208, 3) := by decide +kernel
theorem dX12_remember_60 : decode cX12_remember 60 = .ok (.imul, 1) := by decide +kernel
theorem dX12_remember_61 : decode cX12_remember 61 = .ok (.invokestatic 284, 3) := by decide +kernel
theorem dX12_remember_64 : decode cX12_remember 64 = .ok (.aload_n 0, 1) := by decide +kernel
theorem dX12_remember_65 : decode cX12_remember 65 = .ok (.dup, 1) := by decide +kernel
theorem dX12_remember_66 : decode cX12_remember 66 = .ok (.getfield 208, 3) := by decide +kernel
theorem dX12_remember_69 : decode cX12_remember 69 = .ok (.iconst 1, 1) := by decide +kernel
theorem dX12_remember_70 : decode cX12_remember 70 = .ok (.iadd, 1) := by decide +kernel
theorem dX12_remember_71 : decode cX12_remember 71 = .ok (.putfield 208, 3) := by decide +kernel
theorem dX12_remember_74 : decode cX12_remember 74 = .ok (.return_, 1) := by decide +kernel
theorem dX12_canGo_0 : decode cX12_canGo 0 = .ok (.aload_n 0, 1) := by decide +kernel
theorem dX12_canGo_1 : decode cX12_canGo 1 = .ok (.aload_n 1, 1) := by decide +kernel
theorem dX12_canGo_2 : decode cX12_canGo 2 = .ok (.iconst 0, 1) := by decide +kernel
theorem dX12_canGo_3 : decode cX12_canGo 3 = .ok (.iaload, 1) := by decide +kernel
theorem dX12_canGo_4 : decode cX12_canGo 4 = .ok (.iload_n 2, 1) := by decide +kernel
theorem dX12_canGo_5 : decode cX12_canGo 5 = .ok (.invokevirtual 271, 3) := by decide +kernel
theorem dX12_canGo_8 : decode cX12_canGo 8 = .ok (.aload_n 0, 1) := by decide +kernel
theorem dX12_canGo_9 : decode cX12_canGo 9 = .ok (.aload_n 1, 1) := by decide +kernel
theorem dX12_canGo_10 : decode cX12_canGo 10 = .ok (.iconst 5, 1) := by decide +kernel
theorem dX12_canGo_11 : decode cX12_canGo 11 = .ok (.iaload, 1) := by decide +kernel
theorem dX12_canGo_12 : decode cX12_canGo 12 = .ok (.invokevirtual 288, 3) := by decide +kernel
theorem dX12_canGo_15 : decode cX12_canGo 15 = .ok (.if_icmp .gt 7, 3) := by decide +kernel
theorem dX12_canGo_18 : decode cX12_canGo 18 = .ok (.iconst 1, 1) := by decide +kernel
theorem dX12_canGo_19 : decode cX12_canGo 19 = .ok (.goto 4, 3) := by decide +kernel
theorem dX12_canGo_22 : decode cX12_canGo 22 = .ok (.iconst 0, 1) := by decide +kernel
theorem dX12_canGo_23 : decode cX12_canGo 23 = .ok (.ireturn, 1) := by decide +kernel
theorem dX12_goNight_0 : decode cX12_goNight 0 = .ok (.aload_n 0, 1) := by decide +kernel
theorem dX12_goNight_1 : decode cX12_goNight 1 = .ok (.aload_n 0, 1) := by decide +kernel
theorem dX12_goNight_2 : decode cX12_goNight 2 = .ok (.aload_n 1, 1) := by decide +kernel
theorem dX12_goNight_3 : decode cX12_goNight 3 = .ok (.iconst 0, 1) := by decide +kernel
theorem dX12_goNight_4 : decode cX12_goNight 4 = .ok (.iaload, 1) := by decide +kernel
theorem dX12_goNight_5 : decode cX12_goNight 5 = .ok (.iload_n 2, 1) := by decide +kernel
theorem dX12_goNight_6 : decode cX12_goNight 6 = .ok (.invokevirtual 271, 3) := by decide +kernel
theorem dX12_goNight_9 : decode cX12_goNight 9 = .ok (.putfield 291, 3) := by decide +kernel
theorem dX12_goNight_12 : decode cX12_goNight 12 = .ok (.aload_n 1, 1) := by decide +kernel
theorem dX12_goNight_13 : decode cX12_goNight 13 = .ok (.iconst 0, 1) := by decide +kernel
theorem dX12_goNight_14 : decode cX12_goNight 14 = .ok (.iload_n 2, 1) := by decide +kernel
theorem dX12_goNight_15 : decode cX12_goNight 15 = .ok (.iastore, 1) := by decide +kernel
theorem dX12_goNight_16 : decode cX12_goNight 16 = .ok (.aload_n 1, 1) := by decide +kernel
theorem dX12_goNight_17 : decode cX12_goNight 17 = .ok (.iconst 3, 1) := by decide +kernel
theorem dX12_goNight_18 : decode cX12_goNight 18 = .ok (.iaload, 1) := by decide +kernel
theorem dX12_goNight_19 : decode cX12_goNight 19 = .ok (.istore_n 3, 1) := by decide +kernel
theorem dX12_goNight_20 : decode cX12_goNight 20 = .ok (.aload_n 1, 1) := by decide +kernel
theorem dX12_goNight_21 : decode cX12_goNight 21 = .ok (.iconst 1, 1) := by decide +kernel
theorem dX12_goNight_22 : decode cX12_goNight 22 = .ok (.iaload, 1) := by decide +kernel
theorem dX12_goNight_23 : decode cX12_goNight 23 = .ok (.istore 4, 2) := by decide +kernel
theorem dX12_goNight_25 : decode cX12_goNight 25 = .ok (.aload_n 0, 1) := by decide +kernel
theorem dX12_goNight_26 : decode cX12_goNight 26 = .ok (.aload_n 1, 1) := by decide +kernel
theorem dX12_goNight_27 : decode cX12_goNight 27 = .ok (.iconst 5, 1) := by decide +kernel
theorem dX12_goNight_28 : decode cX12_goNight 28 = .ok (.iaload, 1) := by decide +kernel
theorem dX12_goNight_29 : decode cX12_goNight 29 = .ok (.invokevirtual 294, 3) := by decide +kernel
theorem dX12_goNight_32 : decode cX12_goNight 32 = .ok (.ifCond .ne 7, 3) := by decide +kernel
theorem dX12_goNight_35 : decode cX12_goNight 35 = .ok (.iload_n 3, 1) := by decide +kernel
theorem dX12_goNight_36 : decode cX12_goNight 36 = .ok (.ifCond .ne 7, 3) := by decide +kernel
theorem dX12_goNight_39 : decode cX12_goNight 39 = .ok (.iconst 0, 1) := by decide +kernel
theorem dX12_goNight_40 : decode cX12_goNight 40 = .ok (.goto 19, 3) := by decide +kernel
theorem dX12_goNight_43 : decode cX12_goNight 43 = .ok (.aload_n 0, 1) := by decide +kernel
theorem dX12_goNight_44 : decode cX12_goNight 44 = .ok (.aload_n 1, 1) := by decide +kernel
theorem dX12_goNight_45 : decode cX12_goNight 45 = .ok (.iload_n 2, 1) := by decide +kernel
theorem dX12_goNight_46 : decode cX12_goNight 46 = .ok (.aload_n 1, 1) := by decide +kernel
theorem dX12_goNight_47 : decode cX12_goNight 47 = .ok (.iconst 5, 1) := by decide +kernel
theorem dX12_goNight_48 : decode cX12_goNight 48 = .ok (.iaload, 1) := by decide +kernel
theorem dX12_goNight_49 : decode cX12_goNight 49 = .ok (.invokevirtual 267, 3) := by decide +kernel
theorem dX12_goNight_52 : decode cX12_goNight 52 = .ok (.aload_n 1, 1) := by decide +kernel
theorem dX12_goNight_53 : decode cX12_goNight 53 = .ok (.bipush 6, 2) := by decide +kernel
theorem dX12_goNight_55 : decode cX12_goNight 55 = .ok (.iaload, 1) := by decide +kernel
theorem dX12_goNight_56 : decode cX12_goNight 56 = .ok (.iconst (-1), 1) := by decide +kernel
theorem dX12_goNight_57 : decode cX12_goNight 57 = .ok (.ixor, 1) := by decide +kernel
theorem dX12_goNight_58 : decode cX12_goNight 58 = .ok (.iand, 1) := by decide +kernel
theorem dX12_goNight_59 : decode cX12_goNight 59 = .ok (.istore 5, 2) := by decide +kernel
theorem dX12_goNight_61 : decode cX12_goNight 61 = .ok (.aload_n 0, 1) := by decide +kernel
theorem dX12_goNight_62 : decode cX12_goNight 62 = .ok (.iload 5, 2) := by decide +kernel
theorem dX12_goNight_64 : decode cX12_goNight 64 = .ok (.invokestatic 297, 3) := by decide +kernel
theorem dX12_goNight_67 : decode cX12_goNight 67 = .ok (.putfield 302, 3) := by decide +kernel
theorem dX12_goNight_70 : decode cX12_goNight 70 = .ok (.aload_n 0, 1) := by decide +kernel
theorem dX12_goNight_71 : decode cX12_goNight 71 = .ok (.iconst 0, 1) := by decide +kernel
theorem dX12_goNight_72 : decode cX12_goNight 72 = .ok (.putfield 305, 3) := by decide +kernel
theorem dX12_goNight_75 : decode cX12_goNight 75 = .ok (.iconst 0, 1) := by decide +kernel
theorem dX12_goNight_76 : decode cX12_goNight 76 = .ok (.istore 6, 2) := by decide +kernel
theorem dX12_goNight_78 : decode cX12_goNight 78 = .ok (.iconst 0, 1) := by decide +kernel
theorem dX12_goNight_79 : decode cX12_goNight 79 = .ok (.istore 7, 2) := by decide +kernel
theorem dX12_goNight_81 : decode cX12_goNight 81 = .ok (.iload 7, 2) := by decide +kernel
theorem dX12_goNight_83 : decode cX12_goNight 83 = .ok (.aload_n 0, 1) := by decide +kernel
theorem dX12_goNight_84 : decode cX12_goNight 84 = .ok (.getfield 136, 3) := by decide +kernel
theorem dX12_goNight_87 : decode cX12_goNight 87 = .ok (.if_icmp .ge 69, 3) := by decide +kernel
theorem dX12_goNight_90 : decode cX12_goNight 90 = .ok (.iload 5, 2) := by decide +kernel
theorem dX12_goNight_92 : decode cX12_goNight 92 = .ok (.iload 7, 2) := by decide +kernel
theorem dX12_goNight_94 : decode cX12_goNight 94 = .ok (.invokestatic 257, 3) := by decide +kernel
theorem dX12_goNight_97 : decode cX12_goNight 97 = .ok (.ifCond .ne 6, 3) := by decide +kernel
theorem dX12_goNight_100 : decode cX12_goNight 100 = .ok (.goto 50, 3) := by decide +kernel
theorem dX12_goNight_103 : decode cX12_goNight 103 = .ok (.aload_n 0, 1) := by decide +kernel
theorem dX12_goNight_104 : decode cX12_goNight 104 = .ok (.dup, 1) := by decide +kernel
theorem dX12_goNight_105 : decode cX12_goNight 105 = .ok (.getfield 305, 3) := by decide +kernel
theorem dX12_goNight_108 : decode cX12_goNight 108 = .ok (.iload 4, 2) := by decide +kernel
theorem dX12_goNight_110 : decode cX12_goNight 110 = .ok (.bipush 50, 2) := by decide +kernel
theorem dX12_goNight_112 : decode cX12_goNight 112 = .ok (.if_icmp .lt 15, 3) := by decide +kernel
theorem dX12_goNight_115 : decode cX12_goNight 115 = .ok (.aload_n 0, 1) := by decide +kernel
theorem dX12_goNight_116 : decode cX12_goNight 116 = .ok (.getfield 22, 3) := by decide +kernel
theorem dX12_goNight_119 : decode cX12_goNight 119 = .ok (.iload 7, 2) := by decide +kernel
theorem dX12_goNight_121 : decode cX12_goNight 121 = .ok (.iaload, 1) := by decide +kernel
theorem dX12_goNight_122 : decode cX12_goNight 122 = .ok (.iconst 2, 1) := by decide +kernel
theorem dX12_goNight_123 : decode cX12_goNight 123 = .ok (.idiv, 1) := by decide +kernel
theorem dX12_goNight_124 : decode cX12_goNight 124 = .ok (.goto 10, 3) := by decide +kernel
theorem dX12_goNight_127 : decode cX12_goNight 127 = .ok (.aload_n 0, 1) := by decide +kernel
theorem dX12_goNight_128 : decode cX12_goNight 128 = .ok (.getfield 22, 3) := by decide +kernel
theorem dX12_goNight_131 : decode cX12_goNight 131 = .ok (.iload 7, 2) := by decide +kernel
theorem dX12_goNight_133 : decode cX12_goNight 133 = .ok (.iaload, 1) := by decide +kernel
theorem dX12_goNight_134 : decode cX12_goNight 134 = .ok (.iadd, 1) := by decide +kernel
theorem dX12_goNight_135 : decode cX12_goNight 135 = .ok (.putfield 305, 3) := by decide +kernel
theorem dX12_goNight_138 : decode cX12_goNight 138 = .ok (.iload 6, 2) := by decide +kernel
theorem dX12_goNight_140 : decode cX12_goNight 140 = .ok (.aload_n 0, 1) := by decide +kernel
theorem dX12_goNight_141 : decode cX12_goNight 141 = .ok (.getfield 25, 3) := by decide +kernel
theorem dX12_goNight_144 : decode cX12_goNight 144 = .ok (.iload 7, 2) := by decide +kernel
theorem dX12_goNight_146 : decode cX12_goNight 146 = .ok (.iaload, 1) := by decide +kernel
theorem dX12_goNight_147 : decode cX12_goNight 147 = .ok (.iadd, 1) := by decide +kernel
theorem dX12_goNight_148 : decode cX12_goNight 148 = .ok (.istore 6, 2) := by decide +kernel
theorem dX12_goNight_150 : decode cX12_goNight 150 = .ok (.iinc 7 1, 3) := by decide +kernel
theorem dX12_goNight_153 : decode cX12_goNight 153 = .ok (.goto (-72), 3) := by decide +kernel
theorem dX12_goNight_156 : decode cX12_goNight 156 = .ok (.aload_n 1, 1) := by decide +kernel
theorem dX12_goNight_157 : decode cX12_goNight 157 = .ok (.bipush 6, 2) := by decide +kernel
theorem dX12_goNight_159 : decode cX12_goNight 159 = .ok (.dup2, 1) := by decide +kernel
theorem dX12_goNight_160 : decode cX12_goNight 160 = .ok (.iaload, 1) := by decide +kernel
theorem dX12_goNight_161 : decode cX12_goNight 161 = .ok (.iload 5, 2) := by decide +kernel
theorem dX12_goNight_163 : decode cX12_goNight 163 = .ok (.ior, 1) := by decide +kernel
theorem dX12_goNight_164 : decode cX12_goNight 164 = .ok (.iastore, 1) := by decide +kernel
theorem dX12_goNight_165 : decode cX12_goNight 165 = .ok (.aload_n 1, 1) := by decide +kernel
theorem dX12_goNight_166 : decode cX12_goNight 166 = .ok (.iconst 2, 1) := by decide +kernel
theorem dX12_goNight_167 : decode cX12_goNight 167 = .ok (.dup2, 1) := by decide +kernel
theorem dX12_goNight_168 : decode cX12_goNight 168 = .ok (.iaload, 1) := by decide +kernel
theorem dX12_goNight_169 : decode cX12_goNight 169 = .ok (.aload_n 0, 1) := by decide +kernel
theorem dX12_goNight_170 : decode cX12_goNight 170 = .ok (.getfield 305, 3) := by decide +kernel
theorem dX12_goNight_173 : decode cX12_goNight 173 = .ok (.iadd, 1) := by decide +kernel
theorem dX12_goNight_174 : decode cX12_goNight 174 = .ok (.iastore, 1) := by decide +kernel
theorem dX12_goNight_175 : decode cX12_goNight 175 = .ok (.aload_n 1, 1) := by decide +kernel
theorem dX12_goNight_176 : decode cX12_goNight 176 = .ok (.iconst 4, 1) := by decide +kernel
theorem dX12_goNight_177 : decode cX12_goNight 177 = .ok (.iaload, 1) := by decide +kernel
theorem dX12_goNight_178 : decode cX12_goNight 178 = .ok (.iload 6, 2) := by decide +kernel
theorem dX12_goNight_180 : decode cX12_goNight 180 = .ok (.iadd, 1) := by decide +kernel
theorem dX12_goNight_181 : decode cX12_goNight 181 = .ok (.bipush 20, 2) := by decide +kernel
theorem dX12_goNight_183 : decode cX12_goNight 183 = .ok (.idiv, 1) := by decide +kernel
theorem dX12_goNight_184 : decode cX12_goNight 184 = .ok (.aload_n 1, 1) := by decide +kernel
theorem dX12_goNight_185 : decode cX12_goNight 185 = .ok (.iconst 4, 1) := by decide +kernel
theorem dX12_goNight_186 : decode cX12_goNight 186 = .ok (.iaload, 1) := by decide +kernel
theorem dX12_goNight_187 : decode cX12_goNight 187 = .ok (.bipush 20, 2) := by decide +kernel
theorem dX12_goNight_189 : decode cX12_goNight 189 = .ok (.idiv, 1) := by decide +kernel
theorem dX12_goNight_190 : decode cX12_goNight 190 = .ok (.isub, 1) := by decide +kernel
theorem dX12_goNight_191 : decode cX12_goNight 191 = .ok (.istore 7, 2) := by decide +kernel
theorem dX12_goNight_193 : decode cX12_goNight 193 = .ok (.aload_n 1, 1) := by decide +kernel
theorem dX12_goNight_194 : decode cX12_goNight 194 = .ok (.iconst 4, 1) := by decide +kernel
theorem dX12_goNight_195 : decode cX12_goNight 195 = .ok (.dup2, 1) := by decide +kernel
theorem dX12_goNight_196 : decode cX12_goNight 196 = .ok (.iaload, 1) := by decide +kernel
theorem dX12_goNight_197 : decode cX12_goNight 197 = .ok (.iload 6, 2) := by decide +kernel
theorem dX12_goNight_199 : decode cX12_goNight 199 = .ok (.iadd, 1) := by decide +kernel
theorem dX12_goNight_200 : decode cX12_goNight 200 = .ok (.iastore, 1) := by decide +kernel
theorem dX12_goNight_201 : decode cX12_goNight 201 = .ok (.aload_n 1, 1) := by decide +kernel
theorem dX12_goNight_202 : decode cX12_goNight 202 = .ok (.iconst 3, 1) := by decide +kernel
theorem dX12_goNight_203 : decode cX12_goNight 203 = .ok (.iconst 0, 1) := by decide +kernel
theorem dX12_goNight_204 : decode cX12_goNight 204 = .ok (.iload_n 3, 1) := by decide +kernel
theorem dX12_goNight_205 : decode cX12_goNight 205 = .ok (.iload 7, 2) := by decide +kernel
theorem dX12_goNight_207 : decode cX12_goNight 207 = .ok (.isub, 1) := by decide +kernel
theorem dX12_goNight_208 : decode cX12_goNight 208 = .ok (.invokestatic 281, 3) := by decide +kernel
theorem dX12_goNight_211 : decode cX12_goNight 211 = .ok (.iastore, 1) := by decide +kernel
theorem dX12_goNight_212 : decode cX12_goNight 212 = .ok (.aload_n 0, 1) := by decide +kernel
theorem dX12_goNight_213 : decode cX12_goNight 213 = .ok (.getfield 291, 3) := by decide +kernel
theorem dX12_goNight_216 : decode cX12_goNight 216 = .ok (.ifCond .ne 18, 3) := by decide +kernel
theorem dX12_goNight_219 : decode cX12_goNight 219 = .ok (.iload 5, 2) := by decide +kernel
theorem dX12_goNight_221 : decode cX12_goNight 221 = .ok (.ifCond .ne 13, 3) := by decide +kernel
theorem dX12_goNight_224 : decode cX12_goNight 224 = .ok (.aload_n 1, 1) := by decide +kernel
theorem dX12_goNight_225 : decode cX12_goNight 225 = .ok (.iconst 1, 1) := by decide +kernel
theorem dX12_goNight_226 : decode cX12_goNight 226 = .ok (.iload 4, 2) := by decide +kernel
theorem dX12_goNight_228 : decode cX12_goNight 228 = .ok (.iconst 2, 1) := by decide +kernel
theorem dX12_goNight_229 : decode cX12_goNight 229 = .ok (.idiv, 1) := by decide +kernel
theorem dX12_goNight_230 : decode cX12_goNight 230 = .ok (.iastore, 1) := by decide +kernel
theorem dX12_goNight_231 : decode cX12_goNight 231 = .ok (.goto 44, 3) := by decide +kernel
theorem dX12_goNight_234 : decode cX12_goNight 234 = .ok (.aload_n 1, 1) := by decide +kernel
theorem dX12_goNight_235 : decode cX12_goNight 235 = .ok (.iconst 1, 1) := by decide +kernel
theorem dX12_goNight_236 : decode cX12_goNight 236 = .ok (.lconst 0, 1) := by decide +kernel
theorem dX12_goNight_237 : decode cX12_goNight 237 = .ok (.ldc2_w 308, 3) := by decide +kernel
theorem dX12_goNight_240 : decode cX12_goNight 240 = .ok (.iload 4, 2) := by decide +kernel
theorem dX12_goNight_242 : decode cX12_goNight 242 = .ok (.i2l, 1) := by decide +kernel
theorem dX12_goNight_243 : decode cX12_goNight 243 = .ok (.aload_n 0, 1) := by decide +kernel
theorem dX12_goNight_244 : decode cX12_goNight 244 = .ok (.aload_n 0, 1) := by decide +kernel
theorem dX12_goNight_245 : decode cX12_goNight 245 = .ok (.getfield 291, 3) := by decide +kernel
theorem dX12_goNight_248 : decode cX12_goNight 248 = .ok (.iload 6, 2) := by decide +kernel
theorem dX12_goNight_250 : decode cX12_goNight 250 = .ok (.aload_n 0, 1) := by decide +kernel
theorem dX12_goNight_251 : decode cX12_goNight 251 = .ok (.getfield 13, 3) := by decide +kernel
theorem dX12_goNight_254 : decode cX12_goNight 254 = .ok (.iload_n 2, 1) := by decide +kernel
theorem dX12_goNight_255 : decode cX12_goNight 255 = .ok (.iaload, 1) := by decide +kernel
theorem dX12_goNight_256 : decode cX12_goNight 256 = .ok (.iload 4, 2) := by decide +kernel
theorem dX12_goNight_258 : decode cX12_goNight 258 = .ok (.aload_n 1, 1) := by decide +kernel
theorem dX12_goNight_259 : decode cX12_goNight 259 = .ok (.iconst 5, 1) := by decide +kernel
theorem dX12_goNight_260 : decode cX12_goNight 260 = .ok (.iaload, 1) := by decide +kernel
theorem dX12_goNight_261 : decode cX12_goNight 261 = .ok (.iload_n 3, 1) := by decide +kernel
theorem dX12_goNight_262 : decode cX12_goNight 262 = .ok (.invokevirtual 310, 3) := by decide +kernel
theorem dX12_goNight_265 : decode cX12_goNight 265 = .ok (.i2l, 1) := by decide +kernel
theorem dX12_goNight_266 : decode cX12_goNight 266 = .ok (.ladd, 1) := by decide +kernel
theorem dX12_goNight_267 : decode cX12_goNight 267 = .ok (.invokestatic 314, 3) := by decide +kernel
theorem dX12_goNight_270 : decode cX12_goNight 270 = .ok (.invokestatic 317, 3) := by decide +kernel
theorem dX12_goNight_273 : decode cX12_goNight 273 = .ok (.l2i, 1) := by decide +kernel
theorem dX12_goNight_274 : decode cX12_goNight 274 = .ok (.iastore, 1) := by decide +kernel
theorem dX12_goNight_275 : decode cX12_goNight 275 = .ok (.aload_n 1, 1) := by decide +kernel
theorem dX12_goNight_276 : decode cX12_goNight 276 = .ok (.iconst 5, 1) := by decide +kernel
theorem dX12_goNight_277 : decode cX12_goNight 277 = .ok (.dup2, 1) := by decide +kernel
theorem dX12_goNight_278 : decode cX12_goNight 278 = .ok (.iaload, 1) := by decide +kernel
theorem dX12_goNight_279 : decode cX12_goNight 279 = .ok (.iconst 1, 1) := by decide +kernel
theorem dX12_goNight_280 : decode cX12_goNight 280 = .ok (.iadd, 1) := by decide +kernel
theorem dX12_goNight_281 : decode cX12_goNight 281 = .ok (.iastore, 1) := by decide +kernel
theorem dX12_goNight_282 : decode cX12_goNight 282 = .ok (.return_, 1) := by decide +kernel
theorem dX12_night_0 : decode cX12_night 0 = .ok (.aload_n 0, 1) := by decide +kernel
theorem dX12_night_1 : decode cX12_night 1 = .ok (.iconst 0, 1) := by decide +kernel
theorem dX12_night_2 : decode cX12_night 2 = .ok (.putfield 123, 3) := by decide +kernel
theorem dX12_night_5 : decode cX12_night 5 = .ok (.aload_n 0, 1) := by decide +kernel
theorem dX12_night_6 : decode cX12_night 6 = .ok (.iload_n 1, 1) := by decide +kernel
theorem dX12_night_7 : decode cX12_night 7 = .ok (.invokevirtual 261, 3) := by decide +kernel
theorem dX12_night_10 : decode cX12_night 10 = .ok (.ifCond .ne 5, 3) := by decide +kernel
theorem dX12_night_13 : decode cX12_night 13 = .ok (.iconst (-1), 1) := by decide +kernel
theorem dX12_night_14 : decode cX12_night 14 = .ok (.ireturn, 1) := by decide +kernel
theorem dX12_night_15 : decode cX12_night 15 = .ok (.aload_n 0, 1) := by decide +kernel
theorem dX12_night_16 : decode cX12_night 16 = .ok (.aload_n 0, 1) := by decide +kernel
theorem dX12_night_17 : decode cX12_night 17 = .ok (.getfield 9, 3) := by decide +kernel
theorem dX12_night_20 : decode cX12_night 20 = .ok (.iload_n 1, 1) := by decide +kernel
theorem dX12_night_21 : decode cX12_night 21 = .ok (.invokevirtual 319, 3) := by decide +kernel
theorem dX12_night_24 : decode cX12_night 24 = .ok (.ifCond .ne 6, 3) := by decide +kernel
theorem dX12_night_27 : decode cX12_night 27 = .ok (.bipush (-2), 2) := by decide +kernel
theorem dX12_night_29 : decode cX12_night 29 = .ok (.ireturn, 1) := by decide +kernel
theorem dX12_night_30 : decode cX12_night 30 = .ok (.aload_n 0, 1) := by decide +kernel
theorem dX12_night_31 : decode cX12_night 31 = .ok (.aload_n 0, 1) := by decide +kernel
theorem dX12_night_32 : decode cX12_night 32 = .ok (.getfield 9, 3) := by decide +kernel
theorem dX12_night_35 : decode cX12_night 35 = .ok (.invokevirtual 323, 3) := by decide +kernel
theorem dX12_night_38 : decode cX12_night 38 = .ok (.aload_n 0, 1) := by decide +kernel
theorem dX12_night_39 : decode cX12_night 39 = .ok (.getfield 9, 3) := by decide +kernel
theorem dX12_night_42 : decode cX12_night 42 = .ok (.iconst 1, 1) := by decide +kernel
theorem dX12_night_43 : decode cX12_night 43 = .ok (.iaload, 1) := by decide +kernel
theorem dX12_night_44 : decode cX12_night 44 = .ok (.istore_n 2, 1) := by decide +kernel
theorem dX12_night_45 : decode cX12_night 45 = .ok (.aload_n 0, 1) := by decide +kernel
theorem dX12_night_46 : decode cX12_night 46 = .ok (.aload_n 0, 1) := by decide +kernel
theorem dX12_night_47 : decode cX12_night 47 = .ok (.getfield 9, 3) := by decide +kernel
theorem dX12_night_50 : decode cX12_night 50 = .ok (.iload_n 1, 1) := by decide +kernel
theorem dX12_night_51 : decode cX12_night 51 = .ok (.invokevirtual 327, 3) := by decide +kernel
theorem dX12_night_54 : decode cX12_night 54 = .ok (.aload_n 0, 1) := by decide +kernel
theorem dX12_night_55 : decode cX12_night 55 = .ok (.iconst 0, 1) := by decide +kernel
theorem dX12_night_56 : decode cX12_night 56 = .ok (.putfield 126, 3) := by decide +kernel
theorem dX12_night_59 : decode cX12_night 59 = .ok (.aload_n 0, 1) := by decide +kernel
theorem dX12_night_60 : decode cX12_night 60 = .ok (.aload_n 0, 1) := by decide +kernel
theorem dX12_night_61 : decode cX12_night 61 = .ok (.getfield 305, 3) := by decide +kernel
theorem dX12_night_64 : decode cX12_night 64 = .ok (.i2l, 1) := by decide +kernel
theorem dX12_night_65 : decode cX12_night 65 = .ok (.invokevirtual 331, 3) := by decide +kernel
theorem dX12_night_68 : decode cX12_night 68 = .ok (.aload_n 0, 1) := by decide +kernel
theorem dX12_night_69 : decode cX12_night 69 = .ok (.aload_n 0, 1) := by decide +kernel
theorem dX12_night_70 : decode cX12_night 70 = .ok (.getfield 291, 3) := by decide +kernel
theorem dX12_night_73 : decode cX12_night 73 = .ok (.i2l, 1) := by decide +kernel
theorem dX12_night_74 : decode cX12_night 74 = .ok (.invokevirtual 331, 3) := by decide +kernel
theorem dX12_night_77 : decode cX12_night 77 = .ok (.aload_n 0, 1) := by decide +kernel
theorem dX12_night_78 : decode cX12_night 78 = .ok (.aload_n 0, 1) := by decide +kernel
theorem dX12_night_79 : decode cX12_night 79 = .ok (.getfield 9, 3) := by decide +kernel
theorem dX12_night_82 : decode cX12_night 82 = .ok (.iconst 1, 1) := by decide +kernel
theorem dX12_night_83 : decode cX12_night 83 = .ok (.iaload, 1) := by decide +kernel
theorem dX12_night_84 : decode cX12_night 84 = .ok (.iload_n 2, 1) := by decide +kernel
theorem dX12_night_85 : decode cX12_night 85 = .ok (.isub, 1) := by decide +kernel
theorem dX12_night_86 : decode cX12_night 86 = .ok (.i2l, 1) := by decide +kernel
theorem dX12_night_87 : decode cX12_night 87 = .ok (.invokevirtual 331, 3) := by decide +kernel
theorem dX12_night_90 : decode cX12_night 90 = .ok (.aload_n 0, 1) := by decide +kernel
theorem dX12_night_91 : decode cX12_night 91 = .ok (.getfield 302, 3) := by decide +kernel
theorem dX12_night_94 : decode cX12_night 94 = .ok (.ireturn, 1) := by decide +kernel
theorem dX12_goStay_0 : decode cX12_goStay 0 = .ok (.iconst 0, 1) := by decide +kernel
theorem dX12_goStay_1 : decode cX12_goStay 1 = .ok (.istore_n 3, 1) := by decide +kernel
theorem dX12_goStay_2 : decode cX12_goStay 2 = .ok (.iload_n 3, 1) := by decide +kernel
theorem dX12_goStay_3 : decode cX12_goStay 3 = .ok (.iload_n 2, 1) := by decide +kernel
theorem dX12_goStay_4 : decode cX12_goStay 4 = .ok (.if_icmp .ge 43, 3) := by decide +kernel
theorem dX12_goStay_7 : decode cX12_goStay 7 = .ok (.aload_n 0, 1) := by decide +kernel
theorem dX12_goStay_8 : decode cX12_goStay 8 = .ok (.aload_n 1, 1) := by decide +kernel
theorem dX12_goStay_9 : decode cX12_goStay 9 = .ok (.aload_n 1, 1) := by decide +kernel
theorem dX12_goStay_10 : decode cX12_goStay 10 = .ok (.iconst 0, 1) := by decide +kernel
theorem dX12_goStay_11 : decode cX12_goStay 11 = .ok (.iaload, 1) := by decide +kernel
theorem dX12_goStay_12 : decode cX12_goStay 12 = .ok (.invokevirtual 327, 3) := by decide +kernel
theorem dX12_goStay_15 : decode cX12_goStay 15 = .ok (.aload_n 0, 1) := by decide +kernel
theorem dX12_goStay_16 : decode cX12_goStay 16 = .ok (.dup, 1) := by decide +kernel
theorem dX12_goStay_17 : decode cX12_goStay 17 = .ok (.getfield 335, 3) := by decide +kernel
theorem dX12_goStay_20 : decode cX12_goStay 20 = .ok (.aload_n 0, 1) := by decide +kernel
theorem dX12_goStay_21 : decode cX12_goStay 21 = .ok (.getfield 302, 3) := by decide +kernel
theorem dX12_goStay_24 : decode cX12_goStay 24 = .ok (.iadd, 1) := by decide +kernel
theorem dX12_goStay_25 : decode cX12_goStay 25 = .ok (.putfield 335, 3) := by decide +kernel
theorem dX12_goStay_28 : decode cX12_goStay 28 = .ok (.aload_n 0, 1) := by decide +kernel
theorem dX12_goStay_29 : decode cX12_goStay 29 = .ok (.dup, 1) := by decide +kernel
theorem dX12_goStay_30 : decode cX12_goStay 30 = .ok (.getfield 338, 3) := by decide +kernel
theorem dX12_goStay_33 : decode cX12_goStay 33 = .ok (.aload_n 0, 1) := by decide +kernel
theorem dX12_goStay_34 : decode cX12_goStay 34 = .ok (.getfield 305, 3) := by decide +kernel
theorem dX12_goStay_37 : decode cX12_goStay 37 = .ok (.iadd, 1) := by decide +kernel
theorem dX12_goStay_38 : decode cX12_goStay 38 = .ok (.putfield 338, 3) := by decide +kernel
theorem dX12_goStay_41 : decode cX12_goStay 41 = .ok (.iinc 3 1, 3) := by decide +kernel
theorem dX12_goStay_44 : decode cX12_goStay 44 = .ok (.goto (-42), 3) := by decide +kernel
theorem dX12_goStay_47 : decode cX12_goStay 47 = .ok (.return_, 1) := by decide +kernel
theorem dX12_stay_0 : decode cX12_stay 0 = .ok (.aload_n 0, 1) := by decide +kernel
theorem dX12_stay_1 : decode cX12_stay 1 = .ok (.iconst 0, 1) := by decide +kernel
theorem dX12_stay_2 : decode cX12_stay 2 = .ok (.putfield 123, 3) := by decide +kernel
theorem dX12_stay_5 : decode cX12_stay 5 = .ok (.aload_n 0, 1) := by decide +kernel
theorem dX12_stay_6 : decode cX12_stay 6 = .ok (.getfield 129, 3) := by decide +kernel
theorem dX12_stay_9 : decode cX12_stay 9 = .ok (.ifCond .ne 6, 3) := by decide +kernel
theorem dX12_stay_12 : decode cX12_stay 12 = .ok (.bipush (-2), 2) := by decide +kernel
theorem dX12_stay_14 : decode cX12_stay 14 = .ok (.ireturn, 1) := by decide +kernel
theorem dX12_stay_15 : decode cX12_stay 15 = .ok (.iload_n 1, 1) := by decide +kernel
theorem dX12_stay_16 : decode cX12_stay 16 = .ok (.iconst 0, 1) := by decide +kernel
theorem dX12_stay_17 : decode cX12_stay 17 = .ok (.bipush 60, 2) := by decide +kernel
theorem dX12_stay_19 : decode cX12_stay 19 = .ok (.invokestatic 132, 3) := by decide +kernel
theorem dX12_stay_22 : decode cX12_stay 22 = .ok (.ifCond .ne 5, 3) := by decide +kernel
theorem dX12_stay_25 : decode cX12_stay 25 = .ok (.iconst (-1), 1) := by decide +kernel
theorem dX12_stay_26 : decode cX12_stay 26 = .ok (.ireturn, 1) := by decide +kernel
theorem dX12_stay_27 : decode cX12_stay 27 = .ok (.iload_n 1, 1) := by decide +kernel
theorem dX12_stay_28 : decode cX12_stay 28 = .ok (.ifCond .le 11, 3) := by decide +kernel
theorem dX12_stay_31 : decode cX12_stay 31 = .ok (.aload_n 0, 1) := by decide +kernel
theorem dX12_stay_32 : decode cX12_stay 32 = .ok (.aload_n 0, 1) := by decide +kernel
theorem dX12_stay_33 : decode cX12_stay 33 = .ok (.getfield 9, 3) := by decide +kernel
theorem dX12_stay_36 : decode cX12_stay 36 = .ok (.invokevirtual 323, 3) := by decide +kernel
theorem dX12_stay_39 : decode cX12_stay 39 = .ok (.aload_n 0, 1) := by decide +kernel
theorem dX12_stay_40 : decode cX12_stay 40 = .ok (.iconst 0, 1) := by decide +kernel
theorem dX12_stay_41 : decode cX12_stay 41 = .ok (.putfield 335, 3) := by decide +kernel
theorem dX12_stay_44 : decode cX12_stay 44 = .ok (.aload_n 0, 1) := by decide +kernel
theorem dX12_stay_45 : decode cX12_stay 45 = .ok (.iconst 0, 1) := by decide +kernel
theorem dX12_stay_46 : decode cX12_stay 46 = .ok (.putfield 338, 3) := by decide +kernel
theorem dX12_stay_49 : decode cX12_stay 49 = .ok (.aload_n 0, 1) := by decide +kernel
theorem dX12_stay_50 : decode cX12_stay 50 = .ok (.aload_n 0, 1) := by decide +kernel
theorem dX12_stay_51 : decode cX12_stay 51 = .ok (.getfield 9, 3) := by decide +kernel
theorem dX12_stay_54 : decode cX12_stay 54 = .ok (.iload_n 1, 1) := by decide +kernel
theorem dX12_stay_55 : decode cX12_stay 55 = .ok (.invokevirtual 341, 3) := by decide +kernel
theorem dX12_stay_58 : decode cX12_stay 58 = .ok (.aload_n 0, 1) := by decide +kernel
theorem dX12_stay_59 : decode cX12_stay 59 = .ok (.iconst 0, 1) := by decide +kernel
theorem dX12_stay_60 : decode cX12_stay 60 = .ok (.putfield 126, 3) := by decide +kernel
theorem dX12_stay_63 : decode cX12_stay 63 = .ok (.aload_n 0, 1) := by decide +kernel
theorem dX12_stay_64 : decode cX12_stay 64 = .ok (.aload_n 0, 1) := by decide +kernel
theorem dX12_stay_65 : decode cX12_stay 65 = .ok (.getfield 338, 3) := by decide +kernel
theorem dX12_stay_68 : decode cX12_stay 68 = .ok (.i2l, 1) := by decide +kernel
theorem dX12_stay_69 : decode cX12_stay 69 = .ok (.invokevirtual 331, 3) := by decide +kernel
theorem dX12_stay_72 : decode cX12_stay 72 = .ok (.aload_n 0, 1) := by decide +kernel
theorem dX12_stay_73 : decode cX12_stay 73 = .ok (.aload_n 0, 1) := by decide +kernel
theorem dX12_stay_74 : decode cX12_stay 74 = .ok (.getfield 9, 3) := by decide +kernel
theorem dX12_stay_77 : decode cX12_stay 77 = .ok (.iconst 5, 1) := by decide +kernel
theorem dX12_stay_78 : decode cX12_stay 78 = .ok (.iaload, 1) := by decide +kernel
theorem dX12_stay_79 : decode cX12_stay 79 = .ok (.i2l, 1) := by decide +kernel
theorem dX12_stay_80 : decode cX12_stay 80 = .ok (.invokevirtual 331, 3) := by decide +kernel
theorem dX12_stay_83 : decode cX12_stay 83 = .ok (.aload_n 0, 1) := by decide +kernel
theorem dX12_stay_84 : decode cX12_stay 84 = .ok (.getfield 335, 3) := by decide +kernel
theorem dX12_stay_87 : decode cX12_stay 87 = .ok (.ireturn, 1) := by decide +kernel
theorem dX12_canMend_0 : decode cX12_canMend 0 = .ok (.aload_n 0, 1) := by decide +kernel
theorem dX12_canMend_1 : decode cX12_canMend 1 = .ok (.getfield 9, 3) := by decide +kernel
theorem dX12_canMend_4 : decode cX12_canMend 4 = .ok (.iconst 2, 1) := by decide +kernel
theorem dX12_canMend_5 : decode cX12_canMend 5 = .ok (.iaload, 1) := by decide +kernel
theorem dX12_canMend_6 : decode cX12_canMend 6 = .ok (.iconst 4, 1) := by decide +kernel
theorem dX12_canMend_7 : decode cX12_canMend 7 = .ok (.aload_n 0, 1) := by decide +kernel
theorem dX12_canMend_8 : decode cX12_canMend 8 = .ok (.getfield 9, 3) := by decide +kernel
theorem dX12_canMend_11 : decode cX12_canMend 11 = .ok (.iconst 3, 1) := by decide +kernel
theorem dX12_canMend_12 : decode cX12_canMend 12 = .ok (.iaload, 1) := by decide +kernel
theorem dX12_canMend_13 : decode cX12_canMend 13 = .ok (.isub, 1) := by decide +kernel
theorem dX12_canMend_14 : decode cX12_canMend 14 = .ok (.if_icmp .lt 7, 3) := by decide +kernel
theorem dX12_canMend_17 : decode cX12_canMend 17 = .ok (.iconst 1, 1) := by decide +kernel
theorem dX12_canMend_18 : decode cX12_canMend 18 = .ok (.goto 4, 3) := by decide +kernel
theorem dX12_canMend_21 : decode cX12_canMend 21 = .ok (.iconst 0, 1) := by decide +kernel
theorem dX12_canMend_22 : decode cX12_canMend 22 = .ok (.ireturn, 1) := by decide +kernel
theorem dX12_goMend_0 : decode cX12_goMend 0 = .ok (.iconst 4, 1) := by decide +kernel
theorem dX12_goMend_1 : decode cX12_goMend 1 = .ok (.aload_n 0, 1) := by decide +kernel
theorem dX12_goMend_2 : decode cX12_goMend 2 = .ok (.getfield 9, 3) := by decide +kernel
theorem dX12_goMend_5 : decode cX12_goMend 5 = .ok (.iconst 3, 1) := by decide +kernel
theorem dX12_goMend_6 : decode cX12_goMend 6 = .ok (.iaload, 1) := by decide +kernel
theorem dX12_goMend_7 : decode cX12_goMend 7 = .ok (.isub, 1) := by decide +kernel
theorem dX12_goMend_8 : decode cX12_goMend 8 = .ok (.istore_n 1, 1) := by decide +kernel
theorem dX12_goMend_9 : decode cX12_goMend 9 = .ok (.aload_n 0, 1) := by decide +kernel
theorem dX12_goMend_10 : decode cX12_goMend 10 = .ok (.getfield 9, 3) := by decide +kernel
theorem dX12_goMend_13 : decode cX12_goMend 13 = .ok (.iconst 2, 1) := by decide +kernel
theorem dX12_goMend_14 : decode cX12_goMend 14 = .ok (.dup2, 1) := by decide +kernel
theorem dX12_goMend_15 : decode cX12_goMend 15 = .ok (.iaload, 1) := by decide +kernel
theorem dX12_goMend_16 : decode cX12_goMend 16 = .ok (.iload_n 1, 1) := by decide +kernel
theorem dX12_goMend_17 : decode cX12_goMend 17 = .ok (.isub, 1) := by decide +kernel
theorem dX12_goMend_18 : decode cX12_goMend 18 = .ok (.iastore, 1) := by decide +kernel
theorem dX12_goMend_19 : decode cX12_goMend 19 = .ok (.aload_n 0, 1) := by decide +kernel
theorem dX12_goMend_20 : decode cX12_goMend 20 = .ok (.getfield 9, 3) := by decide +kernel
theorem dX12_goMend_23 : decode cX12_goMend 23 = .ok (.iconst 3, 1) := by decide +kernel
theorem dX12_goMend_24 : decode cX12_goMend 24 = .ok (.iconst 4, 1) := by decide +kernel
theorem dX12_goMend_25 : decode cX12_goMend 25 = .ok (.iastore, 1) := by decide +kernel
theorem dX12_goMend_26 : decode cX12_goMend 26 = .ok (.iload_n 1, 1) := by decide +kernel
theorem dX12_goMend_27 : decode cX12_goMend 27 = .ok (.ireturn, 1) := by decide +kernel
theorem dX12_mend_0 : decode cX12_mend 0 = .ok (.aload_n 0, 1) := by decide +kernel
theorem dX12_mend_1 : decode cX12_mend 1 = .ok (.iconst 0, 1) := by decide +kernel
theorem dX12_mend_2 : decode cX12_mend 2 = .ok (.putfield 123, 3) := by decide +kernel
theorem dX12_mend_5 : decode cX12_mend 5 = .ok (.aload_n 0, 1) := by decide +kernel
theorem dX12_mend_6 : decode cX12_mend 6 = .ok (.invokevirtual 344, 3) := by decide +kernel
theorem dX12_mend_9 : decode cX12_mend 9 = .ok (.ifCond .ne 6, 3) := by decide +kernel
theorem dX12_mend_12 : decode cX12_mend 12 = .ok (.bipush (-2), 2) := by decide +kernel
theorem dX12_mend_14 : decode cX12_mend 14 = .ok (.ireturn, 1) := by decide +kernel
theorem dX12_mend_15 : decode cX12_mend 15 = .ok (.aload_n 0, 1) := by decide +kernel
theorem dX12_mend_16 : decode cX12_mend 16 = .ok (.aload_n 0, 1) := by decide +kernel
theorem dX12_mend_17 : decode cX12_mend 17 = .ok (.getfield 9, 3) := by decide +kernel
theorem dX12_mend_20 : decode cX12_mend 20 = .ok (.invokevirtual 323, 3) := by decide +kernel
theorem dX12_mend_23 : decode cX12_mend 23 = .ok (.aload_n 0, 1) := by decide +kernel
theorem dX12_mend_24 : decode cX12_mend 24 = .ok (.invokevirtual 347, 3) := by decide +kernel
theorem dX12_mend_27 : decode cX12_mend 27 = .ok (.ireturn, 1) := by decide +kernel
theorem dX12_move_0 : decode cX12_move 0 = .ok (.aload_n 0, 1) := by decide +kernel
theorem dX12_move_1 : decode cX12_move 1 = .ok (.iconst 0, 1) := by decide +kernel
theorem dX12_move_2 : decode cX12_move 2 = .ok (.putfield 123, 3) := by decide +kernel
theorem dX12_move_5 : decode cX12_move 5 = .ok (.aload_n 0, 1) := by decide +kernel
theorem dX12_move_6 : decode cX12_move 6 = .ok (.iload_n 1, 1) := by decide +kernel
theorem dX12_move_7 : decode cX12_move 7 = .ok (.invokevirtual 274, 3) := by decide +kernel
theorem dX12_move_10 : decode cX12_move 10 = .ok (.ifCond .eq 14, 3) := by decide +kernel
theorem dX12_move_13 : decode cX12_move 13 = .ok (.iload_n 2, 1) := by decide +kernel
theorem dX12_move_14 : decode cX12_move 14 = .ok (.bipush (-9), 2) := by decide +kernel
theorem dX12_move_16 : decode cX12_move 16 = .ok (.bipush 9, 2) := by decide +kernel
theorem dX12_move_18 : decode cX12_move 18 = .ok (.invokestatic 132, 3) := by decide +kernel
theorem dX12_move_21 : decode cX12_move 21 = .ok (.ifCond .ne 5, 3) := by decide +kernel
theorem dX12_move_24 : decode cX12_move 24 = .ok (.iconst (-1), 1) := by decide +kernel
theorem dX12_move_25 : decode cX12_move 25 = .ok (.ireturn, 1) := by decide +kernel
theorem dX12_move_26 : decode cX12_move 26 = .ok (.aload_n 0, 1) := by decide +kernel
theorem dX12_move_27 : decode cX12_move 27 = .ok (.getfield 9, 3) := by decide +kernel
theorem dX12_move_30 : decode cX12_move 30 = .ok (.bipush 6, 2) := by decide +kernel
theorem dX12_move_32 : decode cX12_move 32 = .ok (.iaload, 1) := by decide +kernel
theorem dX12_move_33 : decode cX12_move 33 = .ok (.iload_n 1, 1) := by decide +kernel
theorem dX12_move_34 : decode cX12_move 34 = .ok (.invokestatic 257, 3) := by decide +kernel
theorem dX12_move_37 : decode cX12_move 37 = .ok (.ifCond .eq 6, 3) := by decide +kernel
theorem dX12_move_40 : decode cX12_move 40 = .ok (.bipush (-2), 2) := by decide +kernel
theorem dX12_move_42 : decode cX12_move 42 = .ok (.ireturn, 1) := by decide +kernel
theorem dX12_move_43 : decode cX12_move 43 = .ok (.aload_n 0, 1) := by decide +kernel
theorem dX12_move_44 : decode cX12_move 44 = .ok (.getfield 9, 3) := by decide +kernel
theorem dX12_move_47 : decode cX12_move 47 = .ok (.bipush 7, 2) := by decide +kernel
theorem dX12_move_49 : decode cX12_move 49 = .ok (.iload_n 1, 1) := by decide +kernel
theorem dX12_move_50 : decode cX12_move 50 = .ok (.iadd, 1) := by decide +kernel
theorem dX12_move_51 : decode cX12_move 51 = .ok (.iaload, 1) := by decide +kernel
theorem dX12_move_52 : decode cX12_move 52 = .ok (.iload_n 2, 1) := by decide +kernel
theorem dX12_move_53 : decode cX12_move 53 = .ok (.iadd, 1) := by decide +kernel
theorem dX12_move_54 : decode cX12_move 54 = .ok (.iconst 0, 1) := by decide +kernel
theorem dX12_move_55 : decode cX12_move 55 = .ok (.bipush 99, 2) := by decide +kernel
theorem dX12_move_57 : decode cX12_move 57 = .ok (.invokestatic 132, 3) := by decide +kernel
theorem dX12_move_60 : decode cX12_move 60 = .ok (.ifCond .eq 23, 3) := by decide +kernel
theorem dX12_move_63 : decode cX12_move 63 = .ok (.aload_n 0, 1) := by decide +kernel
theorem dX12_move_64 : decode cX12_move 64 = .ok (.getfield 9, 3) := by decide +kernel
theorem dX12_move_67 : decode cX12_move 67 = .ok (.bipush 15, 2) := by decide +kernel
theorem dX12_move_69 : decode cX12_move 69 = .ok (.iload_n 1, 1) := by decide +kernel
theorem dX12_move_70 : decode cX12_move 70 = .ok (.iadd, 1) := by decide +kernel
theorem dX12_move_71 : decode cX12_move 71 = .ok (.iaload, 1) := by decide +kernel
theorem dX12_move_72 : decode cX12_move 72 = .ok (.iload_n 2, 1) := by decide +kernel
theorem dX12_move_73 : decode cX12_move 73 = .ok (.iadd, 1) := by decide +kernel
theorem dX12_move_74 : decode cX12_move 74 = .ok (.iconst 0, 1) := by decide +kernel
theorem dX12_move_75 : decode cX12_move 75 = .ok (.bipush 99, 2) := by decide +kernel
theorem dX12_move_77 : decode cX12_move 77 = .ok (.invokestatic 132, 3) := by decide +kernel
theorem dX12_move_80 : decode cX12_move 80 = .ok (.ifCond .ne 6, 3) := by decide +kernel
theorem dX12_move_83 : decode cX12_move 83 = .ok (.bipush (-3), 2) := by decide +kernel
theorem dX12_move_85 : decode cX12_move 85 = .ok (.ireturn, 1) := by decide +kernel
theorem dX12_move_86 : decode cX12_move 86 = .ok (.aload_n 0, 1) := by decide +kernel
theorem dX12_move_87 : decode cX12_move 87 = .ok (.aload_n 0, 1) := by decide +kernel
theorem dX12_move_88 : decode cX12_move 88 = .ok (.getfield 9, 3) := by decide +kernel
theorem dX12_move_91 : decode cX12_move 91 = .ok (.invokevirtual 323, 3) := by decide +kernel
theorem dX12_move_94 : decode cX12_move 94 = .ok (.aload_n 0, 1) := by decide +kernel
theorem dX12_move_95 : decode cX12_move 95 = .ok (.getfield 9, 3) := by decide +kernel
theorem dX12_move_98 : decode cX12_move 98 = .ok (.bipush 7, 2) := by decide +kernel
theorem dX12_move_100 : decode cX12_move 100 = .ok (.iload_n 1, 1) := by decide +kernel
theorem dX12_move_101 : decode cX12_move 101 = .ok (.iadd, 1) := by decide +kernel
theorem dX12_move_102 : decode cX12_move 102 = .ok (.dup2, 1) := by decide +kernel
theorem dX12_move_103 : decode cX12_move 103 = .ok (.iaload, 1) := by decide +kernel
theorem dX12_move_104 : decode cX12_move 104 = .ok (.iload_n 2, 1) := by decide +kernel
theorem dX12_move_105 : decode cX12_move 105 = .ok (.iadd, 1) := by decide +kernel
theorem dX12_move_106 : decode cX12_move 106 = .ok (.iastore, 1) := by decide +kernel
theorem dX12_move_107 : decode cX12_move 107 = .ok (.aload_n 0, 1) := by decide +kernel
theorem dX12_move_108 : decode cX12_move 108 = .ok (.getfield 9, 3) := by decide +kernel
theorem dX12_move_111 : decode cX12_move 111 = .ok (.bipush 15, 2) := by decide +kernel
theorem dX12_move_113 : decode cX12_move 113 = .ok (.iload_n 1, 1) := by decide +kernel
theorem dX12_move_114 : decode cX12_move 114 = .ok (.iadd, 1) := by decide +kernel
theorem dX12_move_115 : decode cX12_move 115 = .ok (.dup2, 1) := by decide +kernel
theorem dX12_move_116 : decode cX12_move 116 = .ok (.iaload, 1) := by decide +kernel
theorem dX12_move_117 : decode cX12_move 117 = .ok (.iload_n 2, 1) := by decide +kernel
theorem dX12_move_118 : decode cX12_move 118 = .ok (.iadd, 1) := by decide +kernel
theorem dX12_move_119 : decode cX12_move 119 = .ok (.iastore, 1) := by decide +kernel
theorem dX12_move_120 : decode cX12_move 120 = .ok (.aload_n 0, 1) := by decide +kernel
theorem dX12_move_121 : decode cX12_move 121 = .ok (.getfield 9, 3) := by decide +kernel
theorem dX12_move_124 : decode cX12_move 124 = .ok (.bipush 7, 2) := by decide +kernel
theorem dX12_move_126 : decode cX12_move 126 = .ok (.iload_n 1, 1) := by decide +kernel
theorem dX12_move_127 : decode cX12_move 127 = .ok (.iadd, 1) := by decide +kernel
theorem dX12_move_128 : decode cX12_move 128 = .ok (.iaload, 1) := by decide +kernel
theorem dX12_move_129 : decode cX12_move 129 = .ok (.ireturn, 1) := by decide +kernel
theorem dX12_season_0 : decode cX12_season 0 = .ok (.aload_n 0, 1) := by decide +kernel
theorem dX12_season_1 : decode cX12_season 1 = .ok (.iconst 0, 1) := by decide +kernel
theorem dX12_season_2 : decode cX12_season 2 = .ok (.putfield 123, 3) := by decide +kernel
theorem dX12_season_5 : decode cX12_season 5 = .ok (.aload_n 0, 1) := by decide +kernel
theorem dX12_season_6 : decode cX12_season 6 = .ok (.aload_n 0, 1) := by decide +kernel
theorem dX12_season_7 : decode cX12_season 7 = .ok (.getfield 35, 3) := by decide +kernel
theorem dX12_season_10 : decode cX12_season 10 = .ok (.aload_n 0, 1) := by decide +kernel
theorem dX12_season_11 : decode cX12_season 11 = .ok (.getfield 139, 3) := by decide +kernel
theorem dX12_season_14 : decode cX12_season 14 = .ok (.bipush 60, 2) := by decide +kernel
theorem dX12_season_16 : decode cX12_season 16 = .ok (.invokevirtual 193, 3) := by decide +kernel
theorem dX12_season_19 : decode cX12_season 19 = .ok (.aload_n 0, 1) := by decide +kernel
theorem dX12_season_20 : decode cX12_season 20 = .ok (.iconst 0, 1) := by decide +kernel
theorem dX12_season_21 : decode cX12_season 21 = .ok (.putfield 139, 3) := by decide +kernel
theorem dX12_season_24 : decode cX12_season 24 = .ok (.iconst 0, 1) := by decide +kernel
theorem dX12_season_25 : decode cX12_season 25 = .ok (.istore_n 1, 1) := by decide +kernel
theorem dX12_season_26 : decode cX12_season 26 = .ok (.aload_n 0, 1) := by decide +kernel
theorem dX12_season_27 : decode cX12_season 27 = .ok (.getfield 145, 3) := by decide +kernel
theorem dX12_season_30 : decode cX12_season 30 = .ok (.ifCond .le 7, 3) := by decide +kernel
theorem dX12_season_33 : decode cX12_season 33 = .ok (.iconst 1, 1) := by decide +kernel
theorem dX12_season_34 : decode cX12_season 34 = .ok (.goto 4, 3) := by decide +kernel
theorem dX12_season_37 : decode cX12_season 37 = .ok (.iconst 0, 1) := by decide +kernel
theorem dX12_season_38 : decode cX12_season 38 = .ok (.istore_n 2, 1) := by decide +kernel
theorem dX12_season_39 : decode cX12_season 39 = .ok (.iload_n 2, 1) := by decide +kernel
theorem dX12_season_40 : decode cX12_season 40 = .ok (.ifCond .eq 30, 3) := by decide +kernel
theorem dX12_season_43 : decode cX12_season 43 = .ok (.aload_n 0, 1) := by decide +kernel
theorem dX12_season_44 : decode cX12_season 44 = .ok (.invokevirtual 157, 3) := by decide +kernel
theorem dX12_season_47 : decode cX12_season 47 = .ok (.ifCond .eq 23, 3) := by decide +kernel
theorem dX12_season_50 : decode cX12_season 50 = .ok (.aload_n 0, 1) := by decide +kernel
theorem dX12_season_51 : decode cX12_season 51 = .ok (.iconst 2, 1) := by decide +kernel
theorem dX12_season_52 : decode cX12_season 52 = .ok (.iload_n 1, 1) := by decide +kernel
theorem dX12_season_53 : decode cX12_season 53 = .ok (.imul, 1) := by decide +kernel
theorem dX12_season_54 : decode cX12_season 54 = .ok (.invokevirtual 350, 3) := by decide +kernel
theorem dX12_season_57 : decode cX12_season 57 = .ok (.iinc 1 1, 3) := by decide +kernel
theorem dX12_season_60 : decode cX12_season 60 = .ok (.aload_n 0, 1) := by decide +kernel
theorem dX12_season_61 : decode cX12_season 61 = .ok (.bipush 59, 2) := by decide +kernel
theorem dX12_season_63 : decode cX12_season 63 = .ok (.invokevirtual 165, 3) := by decide +kernel
theorem dX12_season_66 : decode cX12_season 66 = .ok (.istore_n 2, 1) := by decide +kernel
theorem dX12_season_67 : decode cX12_season 67 = .ok (.goto (-28), 3) := by decide +kernel
theorem dX12_season_70 : decode cX12_season 70 = .ok (.aload_n 0, 1) := by decide +kernel
theorem dX12_season_71 : decode cX12_season 71 = .ok (.getfield 151, 3) := by decide +kernel
theorem dX12_season_74 : decode cX12_season 74 = .ok (.aload_n 0, 1) := by decide +kernel
theorem dX12_season_75 : decode cX12_season 75 = .ok (.getfield 145, 3) := by decide +kernel
theorem dX12_season_78 : decode cX12_season 78 = .ok (.if_icmp .ge 11, 3) := by decide +kernel
theorem dX12_season_81 : decode cX12_season 81 = .ok (.aload_n 0, 1) := by decide +kernel
theorem dX12_season_82 : decode cX12_season 82 = .ok (.aload_n 0, 1) := by decide +kernel
theorem dX12_season_83 : decode cX12_season 83 = .ok (.getfield 151, 3) := by decide +kernel
theorem dX12_season_86 : decode cX12_season 86 = .ok (.invokevirtual 169, 3) := by decide +kernel
theorem dX12_season_89 : decode cX12_season 89 = .ok (.aload_n 0, 1) := by decide +kernel
theorem dX12_season_90 : decode cX12_season 90 = .ok (.invokevirtual 157, 3) := by decide +kernel
theorem dX12_season_93 : decode cX12_season 93 = .ok (.ifCond .ne 10, 3) := by decide +kernel
theorem dX12_season_96 : decode cX12_season 96 = .ok (.iconst (-1), 1) := by decide +kernel
theorem dX12_season_97 : decode cX12_season 97 = .ok (.aload_n 0, 1) := by decide +kernel
theorem dX12_season_98 : decode cX12_season 98 = .ok (.getfield 154, 3) := by decide +kernel
theorem dX12_season_101 : decode cX12_season 101 = .ok (.isub, 1) := by decide +kernel
theorem dX12_season_102 : decode cX12_season 102 = .ok (.ireturn, 1) := by decide +kernel
theorem dX12_season_103 : decode cX12_season 103 = .ok (.aload_n 0, 1) := by decide +kernel
theorem dX12_season_104 : decode cX12_season 104 = .ok (.getfield 9, 3) := by decide +kernel
theorem dX12_season_107 : decode cX12_season 107 = .ok (.aload_n 0, 1) := by decide +kernel
theorem dX12_season_108 : decode cX12_season 108 = .ok (.getfield 64, 3) := by decide +kernel
theorem dX12_season_111 : decode cX12_season 111 = .ok (.iconst 0, 1) := by decide +kernel
theorem dX12_season_112 : decode cX12_season 112 = .ok (.invokestatic 284, 3) := by decide +kernel
theorem dX12_season_115 : decode cX12_season 115 = .ok (.aload_n 0, 1) := by decide +kernel
theorem dX12_season_116 : decode cX12_season 116 = .ok (.iconst 0, 1) := by decide +kernel
theorem dX12_season_117 : decode cX12_season 117 = .ok (.putfield 335, 3) := by decide +kernel
theorem dX12_season_120 : decode cX12_season 120 = .ok (.aload_n 0, 1) := by decide +kernel
theorem dX12_season_121 : decode cX12_season 121 = .ok (.iconst 0, 1) := by decide +kernel
theorem dX12_season_122 : decode cX12_season 122 = .ok (.putfield 338, 3) := by decide +kernel
theorem dX12_season_125 : decode cX12_season 125 = .ok (.iconst 0, 1) := by decide +kernel
theorem dX12_season_126 : decode cX12_season 126 = .ok (.istore_n 3, 1) := by decide +kernel
theorem dX12_season_127 : decode cX12_season 127 = .ok (.iload_n 3, 1) := by decide +kernel
theorem dX12_season_128 : decode cX12_season 128 = .ok (.iload_n 1, 1) := by decide +kernel
theorem dX12_season_129 : decode cX12_season 129 = .ok (.if_icmp .ge 34, 3) := by decide +kernel
theorem dX12_season_132 : decode cX12_season 132 = .ok (.aload_n 0, 1) := by decide +kernel
theorem dX12_season_133 : decode cX12_season 133 = .ok (.aload_n 0, 1) := by decide +kernel
theorem dX12_season_134 : decode cX12_season 134 = .ok (.getfield 67, 3) := by decide +kernel
theorem dX12_season_137 : decode cX12_season 137 = .ok (.iconst 2, 1) := by decide +kernel
theorem dX12_season_138 : decode cX12_season 138 = .ok (.iload_n 3, 1) := by decide +kernel
theorem dX12_season_139 : decode cX12_season 139 = .ok (.imul, 1) := by decide +kernel
theorem dX12_season_140 : decode cX12_season 140 = .ok (.iaload, 1) := by decide +kernel
theorem dX12_season_141 : decode cX12_season 141 = .ok (.aload_n 0, 1) := by decide +kernel
theorem dX12_season_142 : decode cX12_season 142 = .ok (.getfield 67, 3) := by decide +kernel
theorem dX12_season_145 : decode cX12_season 145 = .ok (.iconst 2, 1) := by decide +kernel
theorem dX12_season_146 : decode cX12_season 146 = .ok (.iload_n 3, 1) := by decide +kernel
theorem dX12_season_147 : decode cX12_season 147 = .ok (.imul, 1) := by decide +kernel
theorem dX12_season_148 : decode cX12_season 148 = .ok (.iconst 1, 1) := by decide +kernel
theorem dX12_season_149 : decode cX12_season 149 = .ok (.iadd, 1) := by decide +kernel
theorem dX12_season_150 : decode cX12_season 150 = .ok (.iaload, 1) := by decide +kernel
theorem dX12_season_151 : decode cX12_season 151 = .ok (.invokevirtual 353, 3) := by decide +kernel
theorem dX12_season_154 : decode cX12_season 154 = .ok (.ifCond .eq 9, 3) := by decide +kernel
theorem dX12_season_157 : decode cX12_season 157 = .ok (.iinc 3 1, 3) := by decide +kernel
theorem dX12_season_160 : decode cX12_season 160 = .ok (.goto (-33), 3) := by decide +kernel
theorem dX12_season_163 : decode cX12_season 163 = .ok (.iload_n 3, 1) := by decide +kernel
theorem dX12_season_164 : decode cX12_season 164 = .ok (.ifCond .le 11, 3) := by decide +kernel
theorem dX12_season_167 : decode cX12_season 167 = .ok (.aload_n 0, 1) := by decide +kernel
theorem dX12_season_168 : decode cX12_season 168 = .ok (.aload_n 0, 1) := by decide +kernel
theorem dX12_season_169 : decode cX12_season 169 = .ok (.getfield 64, 3) := by decide +kernel
theorem dX12_season_172 : decode cX12_season 172 = .ok (.invokevirtual 323, 3) := by decide +kernel
theorem dX12_season_175 : decode cX12_season 175 = .ok (.aload_n 0, 1) := by decide +kernel
theorem dX12_season_176 : decode cX12_season 176 = .ok (.iconst 0, 1) := by decide +kernel
theorem dX12_season_177 : decode cX12_season 177 = .ok (.putfield 126, 3) := by decide +kernel
theorem dX12_season_180 : decode cX12_season 180 = .ok (.aload_n 0, 1) := by decide +kernel
theorem dX12_season_181 : decode cX12_season 181 = .ok (.iload_n 3, 1) := by decide +kernel
theorem dX12_season_182 : decode cX12_season 182 = .ok (.iload_n 1, 1) := by decide +kernel
theorem dX12_season_183 : decode cX12_season 183 = .ok (.if_icmp .ge 7, 3) := by decide +kernel
theorem dX12_season_186 : decode cX12_season 186 = .ok (.lconst 1, 1) := by decide +kernel
theorem dX12_season_187 : decode cX12_season 187 = .ok (.goto 4, 3) := by decide +kernel
theorem dX12_season_190 : decode cX12_season 190 = .ok (.lconst 0, 1) := by decide +kernel
theorem dX12_season_191 : decode cX12_season 191 = .ok (.invokevirtual 331, 3) := by decide +kernel
theorem dX12_season_194 : decode cX12_season 194 = .ok (.aload_n 0, 1) := by decide +kernel
theorem dX12_season_195 : decode cX12_season 195 = .ok (.aload_n 0, 1) := by decide +kernel
theorem dX12_season_196 : decode cX12_season 196 = .ok (.getfield 335, 3) := by decide +kernel
theorem dX12_season_199 : decode cX12_season 199 = .ok (.i2l, 1) := by decide +kernel
theorem dX12_season_200 : decode cX12_season 200 = .ok (.invokevirtual 331, 3) := by decide +kernel
theorem dX12_season_203 : decode cX12_season 203 = .ok (.aload_n 0, 1) := by decide +kernel
theorem dX12_season_204 : decode cX12_season 204 = .ok (.aload_n 0, 1) := by decide +kernel
theorem dX12_season_205 : decode cX12_season 205 = .ok (.getfield 338, 3) := by decide +kernel
theorem dX12_season_208 : decode cX12_season 208 = .ok (.i2l, 1) := by decide +kernel
theorem dX12_season_209 : decode cX12_season 209 = .ok (.invokevirtual 331, 3) := by decide +kernel
theorem dX12_season_212 : decode cX12_season 212 = .ok (.iload_n 3, 1) := by decide +kernel
theorem dX12_season_213 : decode cX12_season 213 = .ok (.ireturn, 1) := by decide +kernel
theorem dX12_readAct_0 : decode cX12_readAct 0 = .ok (.aload_n 0, 1) := by decide +kernel
theorem dX12_readAct_1 : decode cX12_readAct 1 = .ok (.invokevirtual 161, 3) := by decide +kernel
theorem dX12_readAct_4 : decode cX12_readAct 4 = .ok (.istore_n 2, 1) := by decide +kernel
theorem dX12_readAct_5 : decode cX12_readAct 5 = .ok (.iload_n 2, 1) := by decide +kernel
theorem dX12_readAct_6 : decode cX12_readAct 6 = .ok (.bipush 103, 2) := by decide +kernel
theorem dX12_readAct_8 : decode cX12_readAct 8 = .ok (.if_icmp .eq 23, 3) := by decide +kernel
theorem dX12_readAct_11 : decode cX12_readAct 11 = .ok (.iload_n 2, 1) := by decide +kernel
theorem dX12_readAct_12 : decode cX12_readAct 12 = .ok (.bipush 122, 2) := by decide +kernel
theorem dX12_readAct_14 : decode cX12_readAct 14 = .ok (.if_icmp .eq 17, 3) := by decide +kernel
theorem dX12_readAct_17 : decode cX12_readAct 17 = .ok (.iload_n 2, 1) := by decide +kernel
theorem dX12_readAct_18 : decode cX12_readAct 18 = .ok (.bipush 109, 2) := by decide +kernel
theorem dX12_readAct_20 : decode cX12_readAct 20 = .ok (.if_icmp .eq 11, 3) := by decide +kernel
theorem dX12_readAct_23 : decode cX12_readAct 23 = .ok (.aload_n 0, 1) := by decide +kernel
theorem dX12_readAct_24 : decode cX12_readAct 24 = .ok (.aload_n 0, 1) := by decide +kernel
theorem dX12_readAct_25 : decode cX12_readAct 25 = .ok (.getfield 151, 3) := by decide +kernel
theorem dX12_readAct_28 : decode cX12_readAct 28 = .ok (.invokevirtual 169, 3) := by decide +kernel
theorem dX12_readAct_31 : decode cX12_readAct 31 = .ok (.aload_n 0, 1) := by decide +kernel
theorem dX12_readAct_32 : decode cX12_readAct 32 = .ok (.dup, 1) := by decide +kernel
theorem dX12_readAct_33 : decode cX12_readAct 33 = .ok (.getfield 151, 3) := by decide +kernel
theorem dX12_readAct_36 : decode cX12_readAct 36 = .ok (.iconst 1, 1) := by decide +kernel
theorem dX12_readAct_37 : decode cX12_readAct 37 = .ok (.iadd, 1) := by decide +kernel
theorem dX12_readAct_38 : decode cX12_readAct 38 = .ok (.putfield 151, 3) := by decide +kernel
theorem dX12_readAct_41 : decode cX12_readAct 41 = .ok (.aload_n 0, 1) := by decide +kernel
theorem dX12_readAct_42 : decode cX12_readAct 42 = .ok (.getfield 67, 3) := by decide +kernel
theorem dX12_readAct_45 : decode cX12_readAct 45 = .ok (.iload_n 1, 1) := by decide +kernel
theorem dX12_readAct_46 : decode cX12_readAct 46 = .ok (.iload_n 2, 1) := by decide +kernel
theorem dX12_readAct_47 : decode cX12_readAct 47 = .ok (.iastore, 1) := by decide +kernel
theorem dX12_readAct_48 : decode cX12_readAct 48 = .ok (.iload_n 2, 1) := by decide +kernel
theorem dX12_readAct_49 : decode cX12_readAct 49 = .ok (.bipush 103, 2) := by decide +kernel
theorem dX12_readAct_51 : decode cX12_readAct 51 = .ok (.if_icmp .ne 20, 3) := by decide +kernel
theorem dX12_readAct_54 : decode cX12_readAct 54 = .ok (.aload_n 0, 1) := by decide +kernel
theorem dX12_readAct_55 : decode cX12_readAct 55 = .ok (.getfield 67, 3) := by decide +kernel
theorem dX12_readAct_58 : decode cX12_readAct 58 = .ok (.iload_n 1, 1) := by decide +kernel
theorem dX12_readAct_59 : decode cX12_readAct 59 = .ok (.iconst 1, 1) := by decide +kernel
theorem dX12_readAct_60 : decode cX12_readAct 60 = .ok (.iadd, 1) := by decide +kernel
theorem dX12_readAct_61 : decode cX12_readAct 61 = .ok (.aload_n 0, 1) := by decide +kernel
theorem dX12_readAct_62 : decode cX12_readAct 62 = .ok (.bipush 97, 2) := by decide +kernel
theorem dX12_readAct_64 : decode cX12_readAct 64 = .ok (.bipush 9, 2) := by decide +kernel
theorem dX12_readAct_66 : decode cX12_readAct 66 = .ok (.iconst (-1), 1) := by decide +kernel
theorem dX12_readAct_67 : decode cX12_readAct 67 = .ok (.invokevirtual 173, 3) := by decide +kernel
theorem dX12_readAct_70 : decode cX12_readAct 70 = .ok (.iastore, 1) := by decide +kernel
theorem dX12_readAct_71 : decode cX12_readAct 71 = .ok (.iload_n 2, 1) := by decide +kernel
theorem dX12_readAct_72 : decode cX12_readAct 72 = .ok (.bipush 122, 2) := by decide +kernel
theorem dX12_readAct_74 : decode cX12_readAct 74 = .ok (.if_icmp .ne 16, 3) := by decide +kernel
theorem dX12_readAct_77 : decode cX12_readAct 77 = .ok (.aload_n 0, 1) := by decide +kernel
theorem dX12_readAct_78 : decode cX12_readAct 78 = .ok (.getfield 67, 3) := by decide +kernel
theorem dX12_readAct_81 : decode cX12_readAct 81 = .ok (.iload_n 1, 1) := by decide +kernel
theorem dX12_readAct_82 : decode cX12_readAct 82 = .ok (.iconst 1, 1) := by decide +kernel
theorem dX12_readAct_83 : decode cX12_readAct 83 = .ok (.iadd, 1) := by decide +kernel
theorem dX12_readAct_84 : decode cX12_readAct 84 = .ok (.aload_n 0, 1) := by decide +kernel
theorem dX12_readAct_85 : decode cX12_readAct 85 = .ok (.iconst 2, 1) := by decide +kernel
theorem dX12_readAct_86 : decode cX12_readAct 86 = .ok (.invokevirtual 177, 3) := by decide +kernel
theorem dX12_readAct_89 : decode cX12_readAct 89 = .ok (.iastore, 1) := by decide +kernel
theorem dX12_readAct_90 : decode cX12_readAct 90 = .ok (.return_, 1) := by decide +kernel
theorem dX12_act_0 : decode cX12_act 0 = .ok (.iload_n 1, 1) := by decide +kernel
theorem dX12_act_1 : decode cX12_act 1 = .ok (.bipush 109, 2) := by decide +kernel
theorem dX12_act_3 : decode cX12_act 3 = .ok (.if_icmp .ne 19, 3) := by decide +kernel
theorem dX12_act_6 : decode cX12_act 6 = .ok (.aload_n 0, 1) := by decide +kernel
theorem dX12_act_7 : decode cX12_act 7 = .ok (.invokevirtual 344, 3) := by decide +kernel
theorem dX12_act_10 : decode cX12_act 10 = .ok (.ifCond .ne 5, 3) := by decide +kernel
theorem dX12_act_13 : decode cX12_act 13 = .ok (.iconst 0, 1) := by decide +kernel
theorem dX12_act_14 : decode cX12_act 14 = .ok (.ireturn, 1) := by decide +kernel
theorem dX12_act_15 : decode cX12_act 15 = .ok (.aload_n 0, 1) := by decide +kernel
theorem dX12_act_16 : decode cX12_act 16 = .ok (.invokevirtual 347, 3) := by decide +kernel
theorem dX12_act_19 : decode cX12_act 19 = .ok (.pop, 1) := by decide +kernel
theorem dX12_act_20 : decode cX12_act 20 = .ok (.iconst 1, 1) := by decide +kernel
theorem dX12_act_21 : decode cX12_act 21 = .ok (.ireturn, 1) := by decide +kernel
theorem dX12_act_22 : decode cX12_act 22 = .ok (.iload_n 1, 1) := by decide +kernel
theorem dX12_act_23 : decode cX12_act 23 = .ok (.bipush 122, 2) := by decide +kernel
theorem dX12_act_25 : decode cX12_act 25 = .ok (.if_icmp .ne 29, 3) := by decide +kernel
theorem dX12_act_28 : decode cX12_act 28 = .ok (.aload_n 0, 1) := by decide +kernel
theorem dX12_act_29 : decode cX12_act 29 = .ok (.getfield 129, 3) := by decide +kernel
theorem dX12_act_32 : decode cX12_act 32 = .ok (.ifCond .eq 9, 3) := by decide +kernel
theorem dX12_act_35 : decode cX12_act 35 = .ok (.iload_n 2, 1) := by decide +kernel
theorem dX12_act_36 : decode cX12_act 36 = .ok (.bipush 60, 2) := by decide +kernel
theorem dX12_act_38 : decode cX12_act 38 = .ok (.if_icmp .le 5, 3) := by decide +kernel
theorem dX12_act_41 : decode cX12_act 41 = .ok (.iconst 0, 1) := by decide +kernel
theorem dX12_act_42 : decode cX12_act 42 = .ok (.ireturn, 1) := by decide +kernel
theorem dX12_act_43 : decode cX12_act 43 = .ok (.aload_n 0, 1) := by decide +kernel
theorem dX12_act_44 : decode cX12_act 44 = .ok (.aload_n 0, 1) := by decide +kernel
theorem dX12_act_45 : decode cX12_act 45 = .ok (.getfield 9, 3) := by decide +kernel
theorem dX12_act_48 : decode cX12_act 48 = .ok (.iload_n 2, 1) := by decide +kernel
theorem dX12_act_49 : decode cX12_act 49 = .ok (.invokevirtual 341, 3) := by decide +kernel
theorem dX12_act_52 : decode cX12_act 52 = .ok (.iconst 1, 1) := by decide +kernel
theorem dX12_act_53 : decode cX12_act 53 = .ok (.ireturn, 1) := by decide +kernel
theorem dX12_act_54 : decode cX12_act 54 = .ok (.aload_n 0, 1) := by decide +kernel
theorem dX12_act_55 : decode cX12_act 55 = .ok (.iload_n 2, 1) := by decide +kernel
theorem dX12_act_56 : decode cX12_act 56 = .ok (.invokevirtual 261, 3) := by decide +kernel
theorem dX12_act_59 : decode cX12_act 59 = .ok (.ifCond .eq 15, 3) := by decide +kernel
theorem dX12_act_62 : decode cX12_act 62 = .ok (.aload_n 0, 1) := by decide +kernel
theorem dX12_act_63 : decode cX12_act 63 = .ok (.aload_n 0, 1) := by decide +kernel
theorem dX12_act_64 : decode cX12_act 64 = .ok (.getfield 9, 3) := by decide +kernel
theorem dX12_act_67 : decode cX12_act 67 = .ok (.iload_n 2, 1) := by decide +kernel
theorem dX12_act_68 : decode cX12_act 68 = .ok (.invokevirtual 319, 3) := by decide +kernel
theorem dX12_act_71 : decode cX12_act 71 = .ok (.ifCond .ne 5, 3) := by decide +kernel
theorem dX12_act_74 : decode cX12_act 74 = .ok (.iconst 0, 1) := by decide +kernel
theorem dX12_act_75 : decode cX12_act 75 = .ok (.ireturn, 1) := by decide +kernel
theorem dX12_act_76 : decode cX12_act 76 = .ok (.aload_n 0, 1) := by decide +kernel
theorem dX12_act_77 : decode cX12_act 77 = .ok (.aload_n 0, 1) := by decide +kernel
theorem dX12_act_78 : decode cX12_act 78 = .ok (.getfield 9, 3) := by decide +kernel
theorem dX12_act_81 : decode cX12_act 81 = .ok (.iload_n 2, 1) := by decide +kernel
theorem dX12_act_82 : decode cX12_act 82 = .ok (.invokevirtual 327, 3) := by decide +kernel
theorem dX12_act_85 : decode cX12_act 85 = .ok (.aload_n 0, 1) := by decide +kernel
theorem dX12_act_86 : decode cX12_act 86 = .ok (.dup, 1) := by decide +kernel
theorem dX12_act_87 : decode cX12_act 87 = .ok (.getfield 335, 3) := by decide +kernel
theorem dX12_act_90 : decode cX12_act 90 = .ok (.aload_n 0, 1) := by decide +kernel
theorem dX12_act_91 : decode cX12_act 91 = .ok (.getfield 302, 3) := by decide +kernel
theorem dX12_act_94 : decode cX12_act 94 = .ok (.iadd, 1) := by decide +kernel
theorem dX12_act_95 : decode cX12_act 95 = .ok (.putfield 335, 3) := by decide +kernel
theorem dX12_act_98 : decode cX12_act 98 = .ok (.aload_n 0, 1) := by decide +kernel
theorem dX12_act_99 : decode cX12_act 99 = .ok (.dup, 1) := by decide +kernel
theorem dX12_act_100 : decode cX12_act 100 = .ok (.getfield 338, 3) := by decide +kernel
theorem dX12_act_103 : decode cX12_act 103 = .ok (.aload_n 0, 1) := by decide +kernel
theorem dX12_act_104 : decode cX12_act 104 = .ok (.getfield 305, 3) := by decide +kernel
theorem dX12_act_107 : decode cX12_act 107 = .ok (.iadd, 1) := by decide +kernel
theorem dX12_act_108 : decode cX12_act 108 = .ok (.putfield 338, 3) := by decide +kernel
theorem dX12_act_111 : decode cX12_act 111 = .ok (.iconst 1, 1) := by decide +kernel
theorem dX12_act_112 : decode cX12_act 112 = .ok (.ireturn, 1) := by decide +kernel
theorem dX12_undo_0 : decode cX12_undo 0 = .ok (.aload_n 0, 1) := by decide +kernel
theorem dX12_undo_1 : decode cX12_undo 1 = .ok (.iconst 0, 1) := by decide +kernel
theorem dX12_undo_2 : decode cX12_undo 2 = .ok (.putfield 123, 3) := by decide +kernel
theorem dX12_undo_5 : decode cX12_undo 5 = .ok (.aload_n 0, 1) := by decide +kernel
theorem dX12_undo_6 : decode cX12_undo 6 = .ok (.getfield 208, 3) := by decide +kernel
theorem dX12_undo_9 : decode cX12_undo 9 = .ok (.ifCond .ne 5, 3) := by decide +kernel
theorem dX12_undo_12 : decode cX12_undo 12 = .ok (.iconst (-1), 1) := by decide +kernel
theorem dX12_undo_13 : decode cX12_undo 13 = .ok (.ireturn, 1) := by decide +kernel
theorem dX12_undo_14 : decode cX12_undo 14 = .ok (.aload_n 0, 1) := by decide +kernel
theorem dX12_undo_15 : decode cX12_undo 15 = .ok (.dup, 1) := by decide +kernel
theorem dX12_undo_16 : decode cX12_undo 16 = .ok (.getfield 208, 3) := by decide +kernel
theorem dX12_undo_19 : decode cX12_undo 19 = .ok (.iconst 1, 1) := by decide +kernel
theorem dX12_undo_20 : decode cX12_undo 20 = .ok (.isub, 1) := by decide +kernel
theorem dX12_undo_21 : decode cX12_undo 21 = .ok (.putfield 208, 3) := by decide +kernel
theorem dX12_undo_24 : decode cX12_undo 24 = .ok (.iconst 0, 1) := by decide +kernel
theorem dX12_undo_25 : decode cX12_undo 25 = .ok (.istore_n 1, 1) := by decide +kernel
theorem dX12_undo_26 : decode cX12_undo 26 = .ok (.iload_n 1, 1) := by decide +kernel
theorem dX12_undo_27 : decode cX12_undo 27 = .ok (.bipush 23, 2) := by decide +kernel
theorem dX12_undo_29 : decode cX12_undo 29 = .ok (.if_icmp .ge 29, 3) := by decide +kernel
theorem dX12_undo_32 : decode cX12_undo 32 = .ok (.aload_n 0, 1) := by decide +kernel
theorem dX12_undo_33 : decode cX12_undo 33 = .ok (.getfield 9, 3) := by decide +kernel
theorem dX12_undo_36 : decode cX12_undo 36 = .ok (.iload_n 1, 1) := by decide +kernel
theorem dX12_undo_37 : decode cX12_undo 37 = .ok (.aload_n 0, 1) := by decide +kernel
theorem dX12_undo_38 : decode cX12_undo 38 = .ok (.getfield 61, 3) := by decide +kernel
theorem dX12_undo_41 : decode cX12_undo 41 = .ok (.bipush 23, 2) := by decide +kernel
theorem dX12_undo_43 : decode cX12_undo 43 = .ok (.aload_n 0, 1) := by decide +kernel
theorem dX12_undo_44 : decode cX12_undo 44 = .ok (.getfield 208, 3) := by decide +kernel
theorem dX12_undo_47 : decode cX12_undo 47 = .ok (.imul, 1) := by decide +kernel
theorem dX12_undo_48 : decode cX12_undo 48 = .ok (.iload_n 1, 1) := by decide +kernel
theorem dX12_undo_49 : decode cX12_undo 49 = .ok (.iadd, 1) := by decide +kernel
theorem dX12_undo_50 : decode cX12_undo 50 = .ok (.iaload, 1) := by decide +kernel
theorem dX12_undo_51 : decode cX12_undo 51 = .ok (.iastore, 1) := by decide +kernel
theorem dX12_undo_52 : decode cX12_undo 52 = .ok (.iinc 1 1, 3) := by decide +kernel
theorem dX12_undo_55 : decode cX12_undo 55 = .ok (.goto (-29), 3) := by decide +kernel
theorem dX12_undo_58 : decode cX12_undo 58 = .ok (.aload_n 0, 1) := by decide +kernel
theorem dX12_undo_59 : decode cX12_undo 59 = .ok (.getfield 208, 3) := by decide +kernel
theorem dX12_undo_62 : decode cX12_undo 62 = .ok (.ireturn, 1) := by decide +kernel
theorem dX12_far_0 : decode cX12_far 0 = .ok (.aload_n 0, 1) := by decide +kernel
theorem dX12_far_1 : decode cX12_far 1 = .ok (.iconst 0, 1) := by decide +kernel
theorem dX12_far_2 : decode cX12_far 2 = .ok (.putfield 123, 3) := by decide +kernel
theorem dX12_far_5 : decode cX12_far 5 = .ok (.aload_n 0, 1) := by decide +kernel
theorem dX12_far_6 : decode cX12_far 6 = .ok (.iload_n 1, 1) := by decide +kernel
theorem dX12_far_7 : decode cX12_far 7 = .ok (.invokevirtual 261, 3) := by decide +kernel
theorem dX12_far_10 : decode cX12_far 10 = .ok (.ifCond .eq 11, 3) := by decide +kernel
theorem dX12_far_13 : decode cX12_far 13 = .ok (.aload_n 0, 1) := by decide +kernel
theorem dX12_far_14 : decode cX12_far 14 = .ok (.iload_n 2, 1) := by decide +kernel
theorem dX12_far_15 : decode cX12_far 15 = .ok (.invokevirtual 261, 3) := by decide +kernel
theorem dX12_far_18 : decode cX12_far 18 = .ok (.ifCond .ne 5, 3) := by decide +kernel
theorem dX12_far_21 : decode cX12_far 21 = .ok (.iconst (-1), 1) := by decide +kernel
theorem dX12_far_22 : decode cX12_far 22 = .ok (.ireturn, 1) := by decide +kernel
theorem dX12_far_23 : decode cX12_far 23 = .ok (.aload_n 0, 1) := by decide +kernel
theorem dX12_far_24 : decode cX12_far 24 = .ok (.iload_n 1, 1) := by decide +kernel
theorem dX12_far_25 : decode cX12_far 25 = .ok (.iload_n 2, 1) := by decide +kernel
theorem dX12_far_26 : decode cX12_far 26 = .ok (.invokevirtual 271, 3) := by decide +kernel
theorem dX12_far_29 : decode cX12_far 29 = .ok (.ldc 122, 2) := by decide +kernel
theorem dX12_far_31 : decode cX12_far 31 = .ok (.if_icmp .lt 6, 3) := by decide +kernel
theorem dX12_far_34 : decode cX12_far 34 = .ok (.bipush (-2), 2) := by decide +kernel
theorem dX12_far_36 : decode cX12_far 36 = .ok (.ireturn, 1) := by decide +kernel
theorem dX12_far_37 : decode cX12_far 37 = .ok (.aload_n 0, 1) := by decide +kernel
theorem dX12_far_38 : decode cX12_far 38 = .ok (.iconst 0, 1) := by decide +kernel
theorem dX12_far_39 : decode cX12_far 39 = .ok (.putfield 126, 3) := by decide +kernel
theorem dX12_far_42 : decode cX12_far 42 = .ok (.iload_n 1, 1) := by decide +kernel
theorem dX12_far_43 : decode cX12_far 43 = .ok (.istore_n 3, 1) := by decide +kernel
theorem dX12_far_44 : decode cX12_far 44 = .ok (.aload_n 0, 1) := by decide +kernel
theorem dX12_far_45 : decode cX12_far 45 = .ok (.iload_n 3, 1) := by decide +kernel
theorem dX12_far_46 : decode cX12_far 46 = .ok (.i2l, 1) := by decide +kernel
theorem dX12_far_47 : decode cX12_far 47 = .ok (.invokevirtual 331, 3) := by decide +kernel
theorem dX12_far_50 : decode cX12_far 50 = .ok (.iload_n 3, 1) := by decide +kernel
theorem dX12_far_51 : decode cX12_far 51 = .ok (.iload_n 2, 1) := by decide +kernel
theorem dX12_far_52 : decode cX12_far 52 = .ok (.if_icmp .eq 76, 3) := by decide +kernel
theorem dX12_far_55 : decode cX12_far 55 = .ok (.iconst 0, 1) := by decide +kernel
theorem dX12_far_56 : decode cX12_far 56 = .ok (.istore 4, 2) := by decide +kernel
theorem dX12_far_58 : decode cX12_far 58 = .ok (.iload 4, 2) := by decide +kernel
theorem dX12_far_60 : decode cX12_far 60 = .ok (.iload_n 3, 1) := by decide +kernel
theorem dX12_far_61 : decode cX12_far 61 = .ok (.if_icmp .eq 49, 3) := by decide +kernel
theorem dX12_far_64 : decode cX12_far 64 = .ok (.aload_n 0, 1) := by decide +kernel
theorem dX12_far_65 : decode cX12_far 65 = .ok (.getfield 16, 3) := by decide +kernel
theorem dX12_far_68 : decode cX12_far 68 = .ok (.bipush 9, 2) := by decide +kernel
theorem dX12_far_70 : decode cX12_far 70 = .ok (.iload_n 3, 1) := by decide +kernel
theorem dX12_far_71 : decode cX12_far 71 = .ok (.imul, 1) := by decide +kernel
theorem dX12_far_72 : decode cX12_far 72 = .ok (.iload 4, 2) := by decide +kernel
theorem dX12_far_74 : decode cX12_far 74 = .ok (.iadd, 1) := by decide +kernel
theorem dX12_far_75 : decode cX12_far 75 = .ok (.iaload, 1) := by decide +kernel
theorem dX12_far_76 : decode cX12_far 76 = .ok (.ldc 122, 2) := by decide +kernel
theorem dX12_far_78 : decode cX12_far 78 = .ok (.if_icmp .ge 32, 3) := by decide +kernel
theorem dX12_far_81 : decode cX12_far 81 = .ok (.aload_n 0, 1) := by decide +kernel
theorem dX12_far_82 : decode cX12_far 82 = .ok (.getfield 16, 3) := by decide +kernel
theorem dX12_far_85 : decode cX12_far 85 = .ok (.bipush 9, 2) := by decide +kernel
theorem dX12_far_87 : decode cX12_far 87 = .ok (.iload_n 3, 1) := by decide +kernel
theorem dX12_far_88 : decode cX12_far 88 = .ok (.imul, 1) := by decide +kernel
theorem dX12_far_89 : decode cX12_far 89 = .ok (.iload 4, 2) := by decide +kernel
theorem dX12_far_91 : decode cX12_far 91 = .ok (.iadd, 1) := by decide +kernel
theorem dX12_far_92 : decode cX12_far 92 = .ok (.iaload, 1) := by decide +kernel
theorem dX12_far_93 : decode cX12_far 93 = .ok (.aload_n 0, 1) := by decide +kernel
theorem dX12_far_94 : decode cX12_far 94 = .ok (.iload 4, 2) := by decide +kernel
theorem dX12_far_96 : decode cX12_far 96 = .ok (.iload_n 2, 1) := by decide +kernel
theorem dX12_far_97 : decode cX12_far 97 = .ok (.invokevirtual 271, 3) := by decide +kernel
theorem dX12_far_100 : decode cX12_far 100 = .ok (.iadd, 1) := by decide +kernel
theorem dX12_far_101 : decode cX12_far 101 = .ok (.aload_n 0, 1) := by decide +kernel
theorem dX12_far_102 : decode cX12_far 102 = .ok (.iload_n 3, 1) := by decide +kernel
theorem dX12_far_103 : decode cX12_far 103 = .ok (.iload_n 2, 1) := by decide +kernel
theorem dX12_far_104 : decode cX12_far 104 = .ok (.invokevirtual 271, 3) := by decide +kernel
theorem dX12_far_107 : decode cX12_far 107 = .ok (.if_icmp .eq 9, 3) := by decide +kernel
theorem dX12_far_110 : decode cX12_far 110 = .ok (.iinc 4 1, 3) := by decide +kernel
theorem dX12_far_113 : decode cX12_far 113 = .ok (.goto (-55), 3) := by decide +kernel
theorem dX12_far_116 : decode cX12_far 116 = .ok (.iload 4, 2) := by decide +kernel
theorem dX12_far_118 : decode cX12_far 118 = .ok (.istore_n 3, 1) := by decide +kernel
theorem dX12_far_119 : decode cX12_far 119 = .ok (.aload_n 0, 1) := by decide +kernel
theorem dX12_far_120 : decode cX12_far 120 = .ok (.iload_n 3, 1) := by decide +kernel
theorem dX12_far_121 : decode cX12_far 121 = .ok (.i2l, 1) := by decide +kernel
theorem dX12_far_122 : decode cX12_far 122 = .ok (.invokevirtual 331, 3) := by decide +kernel
theorem dX12_far_125 : decode cX12_far 125 = .ok (.goto (-75), 3) := by decide +kernel
theorem dX12_far_128 : decode cX12_far 128 = .ok (.aload_n 0, 1) := by decide +kernel
theorem dX12_far_129 : decode cX12_far 129 = .ok (.iload_n 1, 1) := by decide +kernel
theorem dX12_far_130 : decode cX12_far 130 = .ok (.iload_n 2, 1) := by decide +kernel
theorem dX12_far_131 : decode cX12_far 131 = .ok (.invokevirtual 271, 3) := by decide +kernel
theorem dX12_far_134 : decode cX12_far 134 = .ok (.ireturn, 1) := by decide +kernel
theorem dX12_near_0 : decode cX12_near 0 = .ok (.iconst 0, 1) := by decide +kernel
theorem dX12_near_1 : decode cX12_near 1 = .ok (.istore_n 3, 1) := by decide +kernel
theorem dX12_near_2 : decode cX12_near 2 = .ok (.iconst 0, 1) := by decide +kernel
theorem dX12_near_3 : decode cX12_near 3 = .ok (.istore 4, 2) := by decide +kernel
theorem dX12_near_5 : decode cX12_near 5 = .ok (.iload 4, 2) := by decide +kernel
theorem dX12_near_7 : decode cX12_near 7 = .ok (.aload_n 0, 1) := by decide +kernel
theorem dX12_near_8 : decode cX12_near 8 = .ok (.getfield 129, 3) := by decide +kernel
theorem dX12_near_11 : decode cX12_near 11 = .ok (.if_icmp .ge 35, 3) := by decide +kernel
theorem dX12_near_14 : decode cX12_near 14 = .ok (.iload_n 3, 1) := by decide +kernel
theorem dX12_near_15 : decode cX12_near 15 = .ok (.aload_n 0, 1) := by decide +kernel
theorem dX12_near_16 : decode cX12_near 16 = .ok (.iload_n 1, 1) := by decide +kernel
theorem dX12_near_17 : decode cX12_near 17 = .ok (.iload 4, 2) := by decide +kernel
theorem dX12_near_19 : decode cX12_near 19 = .ok (.invokevirtual 271, 3) := by decide +kernel
theorem dX12_near_22 : decode cX12_near 22 = .ok (.aload_n 0, 1) := by decide +kernel
theorem dX12_near_23 : decode cX12_near 23 = .ok (.iload_n 2, 1) := by decide +kernel
theorem dX12_near_24 : decode cX12_near 24 = .ok (.invokevirtual 288, 3) := by decide +kernel
theorem dX12_near_27 : decode cX12_near 27 = .ok (.if_icmp .gt 10, 3) := by decide +kernel
theorem dX12_near_30 : decode cX12_near 30 = .ok (.iconst 1, 1) := by decide +kernel
theorem dX12_near_31 : decode cX12_near 31 = .ok (.iload 4, 2) := by decide +kernel
theorem dX12_near_33 : decode cX12_near 33 = .ok (.ishl, 1) := by decide +kernel
theorem dX12_near_34 : decode cX12_near 34 = .ok (.goto 4, 3) := by decide +kernel
theorem dX12_near_37 : decode cX12_near 37 = .ok (.iconst 0, 1) := by decide +kernel
theorem dX12_near_38 : decode cX12_near 38 = .ok (.ior, 1) := by decide +kernel
theorem dX12_near_39 : decode cX12_near 39 = .ok (.istore_n 3, 1) := by decide +kernel
theorem dX12_near_40 : decode cX12_near 40 = .ok (.iinc 4 1, 3) := by decide +kernel
theorem dX12_near_43 : decode cX12_near 43 = .ok (.goto (-38), 3) := by decide +kernel
theorem dX12_near_46 : decode cX12_near 46 = .ok (.iload_n 3, 1) := by decide +kernel
theorem dX12_near_47 : decode cX12_near 47 = .ok (.ireturn, 1) := by decide +kernel
theorem dX12_reach_0 : decode cX12_reach 0 = .ok (.aload_n 0, 1) := by decide +kernel
theorem dX12_reach_1 : decode cX12_reach 1 = .ok (.iconst 0, 1) := by decide +kernel
theorem dX12_reach_2 : decode cX12_reach 2 = .ok (.putfield 123, 3) := by decide +kernel
theorem dX12_reach_5 : decode cX12_reach 5 = .ok (.aload_n 0, 1) := by decide +kernel
theorem dX12_reach_6 : decode cX12_reach 6 = .ok (.iconst 0, 1) := by decide +kernel
theorem dX12_reach_7 : decode cX12_reach 7 = .ok (.putfield 126, 3) := by decide +kernel
theorem dX12_reach_10 : decode cX12_reach 10 = .ok (.aload_n 0, 1) := by decide +kernel
theorem dX12_reach_11 : decode cX12_reach 11 = .ok (.aload_n 0, 1) := by decide +kernel
theorem dX12_reach_12 : decode cX12_reach 12 = .ok (.aload_n 0, 1) := by decide +kernel
theorem dX12_reach_13 : decode cX12_reach 13 = .ok (.getfield 9, 3) := by decide +kernel
theorem dX12_reach_16 : decode cX12_reach 16 = .ok (.iconst 5, 1) := by decide +kernel
theorem dX12_reach_17 : decode cX12_reach 17 = .ok (.iaload, 1) := by decide +kernel
theorem dX12_reach_18 : decode cX12_reach 18 = .ok (.invokevirtual 288, 3) := by decide +kernel
theorem dX12_reach_21 : decode cX12_reach 21 = .ok (.i2l, 1) := by decide +kernel
theorem dX12_reach_22 : decode cX12_reach 22 = .ok (.invokevirtual 331, 3) := by decide +kernel
theorem dX12_reach_25 : decode cX12_reach 25 = .ok (.aload_n 0, 1) := by decide +kernel
theorem dX12_reach_26 : decode cX12_reach 26 = .ok (.getfield 129, 3) := by decide +kernel
theorem dX12_reach_29 : decode cX12_reach 29 = .ok (.ifCond .ne 7, 3) := by decide +kernel
theorem dX12_reach_32 : decode cX12_reach 32 = .ok (.iconst 0, 1) := by decide +kernel
theorem dX12_reach_33 : decode cX12_reach 33 = .ok (.goto 19, 3) := by decide +kernel
theorem dX12_reach_36 : decode cX12_reach 36 = .ok (.aload_n 0, 1) := by decide +kernel
theorem dX12_reach_37 : decode cX12_reach 37 = .ok (.aload_n 0, 1) := by decide +kernel
theorem dX12_reach_38 : decode cX12_reach 38 = .ok (.getfield 9, 3) := by decide +kernel
theorem dX12_reach_41 : decode cX12_reach 41 = .ok (.iconst 0, 1) := by decide +kernel
theorem dX12_reach_42 : decode cX12_reach 42 = .ok (.iaload, 1) := by decide +kernel
theorem dX12_reach_43 : decode cX12_reach 43 = .ok (.aload_n 0, 1) := by decide +kernel
theorem dX12_reach_44 : decode cX12_reach 44 = .ok (.getfield 9, 3) := by decide +kernel
theorem dX12_reach_47 : decode cX12_reach 47 = .ok (.iconst 5, 1) := by decide +kernel
theorem dX12_reach_48 : decode cX12_reach 48 = .ok (.iaload, 1) := by decide +kernel
theorem dX12_reach_49 : decode cX12_reach 49 = .ok (.invokevirtual 356, 3) := by decide +kernel
theorem dX12_reach_52 : decode cX12_reach 52 = .ok (.ireturn, 1) := by decide +kernel
theorem dX12_canSleep_0 : decode cX12_canSleep 0 = .ok (.aload_n 0, 1) := by decide +kernel
theorem dX12_canSleep_1 : decode cX12_canSleep 1 = .ok (.getfield 70, 3) := by decide +kernel
theorem dX12_canSleep_4 : decode cX12_canSleep 4 = .ok (.iload_n 1, 1) := by decide +kernel
theorem dX12_canSleep_5 : decode cX12_canSleep 5 = .ok (.iconst 1, 1) := by decide +kernel
theorem dX12_canSleep_6 : decode cX12_canSleep 6 = .ok (.iload_n 2, 1) := by decide +kernel
theorem dX12_canSleep_7 : decode cX12_canSleep 7 = .ok (.ishl, 1) := by decide +kernel
theorem dX12_canSleep_8 : decode cX12_canSleep 8 = .ok (.iastore, 1) := by decide +kernel
theorem dX12_canSleep_9 : decode cX12_canSleep 9 = .ok (.iload_n 1, 1) := by decide +kernel
theorem dX12_canSleep_10 : decode cX12_canSleep 10 = .ok (.iconst 1, 1) := by decide +kernel
theorem dX12_canSleep_11 : decode cX12_canSleep 11 = .ok (.isub, 1) := by decide +kernel
theorem dX12_canSleep_12 : decode cX12_canSleep 12 = .ok (.istore_n 3, 1) := by decide +kernel
theorem dX12_canSleep_13 : decode cX12_canSleep 13 = .ok (.iload_n 3, 1) := by decide +kernel
theorem dX12_canSleep_14 : decode cX12_canSleep 14 = .ok (.ifCond .lt 77, 3) := by decide +kernel
theorem dX12_canSleep_17 : decode cX12_canSleep 17 = .ok (.aload_n 0, 1) := by decide +kernel
theorem dX12_canSleep_18 : decode cX12_canSleep 18 = .ok (.getfield 70, 3) := by decide +kernel
theorem dX12_canSleep_21 : decode cX12_canSleep 21 = .ok (.iload_n 3, 1) := by decide +kernel
theorem dX12_canSleep_22 : decode cX12_canSleep 22 = .ok (.iconst 0, 1) := by decide +kernel
theorem dX12_canSleep_23 : decode cX12_canSleep 23 = .ok (.iastore, 1) := by decide +kernel
theorem dX12_canSleep_24 : decode cX12_canSleep 24 = .ok (.iconst 0, 1) := by decide +kernel
theorem dX12_canSleep_25 : decode cX12_canSleep 25 = .ok (.istore 4, 2) := by decide +kernel
theorem dX12_canSleep_27 : decode cX12_canSleep 27 = .ok (.iload 4, 2) := by decide +kernel
theorem dX12_canSleep_29 : decode cX12_canSleep 29 = .ok (.aload_n 0, 1) := by decide +kernel
theorem dX12_canSleep_30 : decode cX12_canSleep 30 = .ok (.getfield 129, 3) := by decide +kernel
theorem dX12_canSleep_33 : decode cX12_canSleep 33 = .ok (.if_icmp .ge 52, 3) := by decide +kernel
theorem dX12_canSleep_36 : decode cX12_canSleep 36 = .ok (.aload_n 0, 1) := by decide +kernel
theorem dX12_canSleep_37 : decode cX12_canSleep 37 = .ok (.getfield 70, 3) := by decide +kernel
theorem dX12_canSleep_40 : decode cX12_canSleep 40 = .ok (.iload_n 3, 1) := by decide +kernel
theorem dX12_canSleep_41 : decode cX12_canSleep 41 = .ok (.dup2, 1) := by decide +kernel
theorem dX12_canSleep_42 : decode cX12_canSleep 42 = .ok (.iaload, 1) := by decide +kernel
theorem dX12_canSleep_43 : decode cX12_canSleep 43 = .ok (.aload_n 0, 1) := by decide +kernel
theorem dX12_canSleep_44 : decode cX12_canSleep 44 = .ok (.iload 4, 2) := by decide +kernel
theorem dX12_canSleep_46 : decode cX12_canSleep 46 = .ok (.aload_n 0, 1) := by decide +kernel
theorem dX12_canSleep_47 : decode cX12_canSleep 47 = .ok (.getfield 9, 3) := by decide +kernel
theorem dX12_canSleep_50 : decode cX12_canSleep 50 = .ok (.iconst 5, 1) := by decide +kernel
theorem dX12_canSleep_51 : decode cX12_canSleep 51 = .ok (.iaload, 1) := by decide +kernel
theorem dX12_canSleep_52 : decode cX12_canSleep 52 = .ok (.iload_n 3, 1) := by decide +kernel
theorem dX12_canSleep_53 : decode cX12_canSleep 53 = .ok (.iadd, 1) := by decide +kernel
theorem dX12_canSleep_54 : decode cX12_canSleep 54 = .ok (.invokevirtual 356, 3) := by decide +kernel
theorem dX12_canSleep_57 : decode cX12_canSleep 57 = .ok (.aload_n 0, 1) := by decide +kernel
theorem dX12_canSleep_58 : decode cX12_canSleep 58 = .ok (.getfield 70, 3) := by decide +kernel
theorem dX12_canSleep_61 : decode cX12_canSleep 61 = .ok (.iload_n 3, 1) := by decide +kernel
theorem dX12_canSleep_62 : decode cX12_canSleep 62 = .ok (.iconst 1, 1) := by decide +kernel
theorem dX12_canSleep_63 : decode cX12_canSleep 63 = .ok (.iadd, 1) := by decide +kernel
theorem dX12_canSleep_64 : decode cX12_canSleep 64 = .ok (.iaload, 1) := by decide +kernel
theorem dX12_canSleep_65 : decode cX12_canSleep 65 = .ok (.iand, 1) := by decide +kernel
theorem dX12_canSleep_66 : decode cX12_canSleep 66 = .ok (.ifCond .eq 10, 3) := by decide +kernel
theorem dX12_canSleep_69 : decode cX12_canSleep 69 = .ok (.iconst 1, 1) := by decide +kernel
theorem dX12_canSleep_70 : decode cX12_canSleep 70 = .ok (.iload 4, 2) := by decide +kernel
theorem dX12_canSleep_72 : decode cX12_canSleep 72 = .ok (.ishl, 1) := by decide +kernel
theorem dX12_canSleep_73 : decode cX12_canSleep 73 = .ok (.goto 4, 3) := by decide +kernel
theorem dX12_canSleep_76 : decode cX12_canSleep 76 = .ok (.iconst 0, 1) := by decide +kernel
theorem dX12_canSleep_77 : decode cX12_canSleep 77 = .ok (.ior, 1) := by decide +kernel
theorem dX12_canSleep_78 : decode cX12_canSleep 78 = .ok (.iastore, 1) := by decide +kernel
theorem dX12_canSleep_79 : decode cX12_canSleep 79 = .ok (.iinc 4 1, 3) := by decide +kernel
theorem dX12_canSleep_82 : decode cX12_canSleep 82 = .ok (.goto (-55), 3) := by decide +kernel
theorem dX12_canSleep_85 : decode cX12_canSleep 85 = .ok (.iinc 3 (-1), 3) := by decide +kernel
theorem dX12_canSleep_88 : decode cX12_canSleep 88 = .ok (.goto (-75), 3) := by decide +kernel
theorem dX12_canSleep_91 : decode cX12_canSleep 91 = .ok (.aload_n 0, 1) := by decide +kernel
theorem dX12_canSleep_92 : decode cX12_canSleep 92 = .ok (.getfield 70, 3) := by decide +kernel
theorem dX12_canSleep_95 : decode cX12_canSleep 95 = .ok (.iconst 0, 1) := by decide +kernel
theorem dX12_canSleep_96 : decode cX12_canSleep 96 = .ok (.iaload, 1) := by decide +kernel
theorem dX12_canSleep_97 : decode cX12_canSleep 97 = .ok (.aload_n 0, 1) := by decide +kernel
theorem dX12_canSleep_98 : decode cX12_canSleep 98 = .ok (.getfield 9, 3) := by decide +kernel
theorem dX12_canSleep_101 : decode cX12_canSleep 101 = .ok (.iconst 0, 1) := by decide +kernel
theorem dX12_canSleep_102 : decode cX12_canSleep 102 = .ok (.iaload, 1) := by decide +kernel
theorem dX12_canSleep_103 : decode cX12_canSleep 103 = .ok (.invokestatic 257, 3) := by decide +kernel
theorem dX12_canSleep_106 : decode cX12_canSleep 106 = .ok (.ireturn, 1) := by decide +kernel
theorem dX12_comes_0 : decode cX12_comes 0 = .ok (.aload_n 0, 1) := by decide +kernel
theorem dX12_comes_1 : decode cX12_comes 1 = .ok (.iconst 0, 1) := by decide +kernel
theorem dX12_comes_2 : decode cX12_comes 2 = .ok (.putfield 123, 3) := by decide +kernel
theorem dX12_comes_5 : decode cX12_comes 5 = .ok (.aload_n 0, 1) := by decide +kernel
theorem dX12_comes_6 : decode cX12_comes 6 = .ok (.iload_n 1, 1) := by decide +kernel
theorem dX12_comes_7 : decode cX12_comes 7 = .ok (.invokevirtual 261, 3) := by decide +kernel
theorem dX12_comes_10 : decode cX12_comes 10 = .ok (.ifCond .ne 5, 3) := by decide +kernel
theorem dX12_comes_13 : decode cX12_comes 13 = .ok (.iconst (-1), 1) := by decide +kernel
theorem dX12_comes_14 : decode cX12_comes 14 = .ok (.ireturn, 1) := by decide +kernel
theorem dX12_comes_15 : decode cX12_comes 15 = .ok (.iconst 0, 1) := by decide +kernel
theorem dX12_comes_16 : decode cX12_comes 16 = .ok (.istore_n 2, 1) := by decide +kernel
theorem dX12_comes_17 : decode cX12_comes 17 = .ok (.iload_n 2, 1) := by decide +kernel
theorem dX12_comes_18 : decode cX12_comes 18 = .ok (.bipush 12, 2) := by decide +kernel
theorem dX12_comes_20 : decode cX12_comes 20 = .ok (.if_icmp .gt 18, 3) := by decide +kernel
theorem dX12_comes_23 : decode cX12_comes 23 = .ok (.aload_n 0, 1) := by decide +kernel
theorem dX12_comes_24 : decode cX12_comes 24 = .ok (.iload_n 2, 1) := by decide +kernel
theorem dX12_comes_25 : decode cX12_comes 25 = .ok (.iload_n 1, 1) := by decide +kernel
theorem dX12_comes_26 : decode cX12_comes 26 = .ok (.invokevirtual 359, 3) := by decide +kernel
theorem dX12_comes_29 : decode cX12_comes 29 = .ok (.ifCond .ne 9, 3) := by decide +kernel
theorem dX12_comes_32 : decode cX12_comes 32 = .ok (.iinc 2 1, 3) := by decide +kernel
theorem dX12_comes_35 : decode cX12_comes 35 = .ok (.goto (-18), 3) := by decide +kernel
theorem dX12_comes_38 : decode cX12_comes 38 = .ok (.iload_n 2, 1) := by decide +kernel
theorem dX12_comes_39 : decode cX12_comes 39 = .ok (.bipush 12, 2) := by decide +kernel
theorem dX12_comes_41 : decode cX12_comes 41 = .ok (.if_icmp .le 6, 3) := by decide +kernel
theorem dX12_comes_44 : decode cX12_comes 44 = .ok (.bipush (-2), 2) := by decide +kernel
theorem dX12_comes_46 : decode cX12_comes 46 = .ok (.ireturn, 1) := by decide +kernel
theorem dX12_comes_47 : decode cX12_comes 47 = .ok (.aload_n 0, 1) := by decide +kernel
theorem dX12_comes_48 : decode cX12_comes 48 = .ok (.iconst 0, 1) := by decide +kernel
theorem dX12_comes_49 : decode cX12_comes 49 = .ok (.putfield 126, 3) := by decide +kernel
theorem dX12_comes_52 : decode cX12_comes 52 = .ok (.aload_n 0, 1) := by decide +kernel
theorem dX12_comes_53 : decode cX12_comes 53 = .ok (.getfield 9, 3) := by decide +kernel
theorem dX12_comes_56 : decode cX12_comes 56 = .ok (.iconst 0, 1) := by decide +kernel
theorem dX12_comes_57 : decode cX12_comes 57 = .ok (.iaload, 1) := by decide +kernel
theorem dX12_comes_58 : decode cX12_comes 58 = .ok (.istore_n 3, 1) := by decide +kernel
theorem dX12_comes_59 : decode cX12_comes 59 = .ok (.iconst 0, 1) := by decide +kernel
theorem dX12_comes_60 : decode cX12_comes 60 = .ok (.istore 4, 2) := by decide +kernel
theorem dX12_comes_62 : decode cX12_comes 62 = .ok (.iload 4, 2) := by decide +kernel
theorem dX12_comes_64 : decode cX12_comes 64 = .ok (.iload_n 2, 1) := by decide +kernel
theorem dX12_comes_65 : decode cX12_comes 65 = .ok (.if_icmp .ge 43, 3) := by decide +kernel
theorem dX12_comes_68 : decode cX12_comes 68 = .ok (.aload_n 0, 1) := by decide +kernel
theorem dX12_comes_69 : decode cX12_comes 69 = .ok (.iload_n 3, 1) := by decide +kernel
theorem dX12_comes_70 : decode cX12_comes 70 = .ok (.aload_n 0, 1) := by decide +kernel
theorem dX12_comes_71 : decode cX12_comes 71 = .ok (.getfield 9, 3) := by decide +kernel
theorem dX12_comes_74 : decode cX12_comes 74 = .ok (.iconst 5, 1) := by decide +kernel
theorem dX12_comes_75 : decode cX12_comes 75 = .ok (.iaload, 1) := by decide +kernel
theorem dX12_comes_76 : decode cX12_comes 76 = .ok (.iload 4, 2) := by decide +kernel
theorem dX12_comes_78 : decode cX12_comes 78 = .ok (.iadd, 1) := by decide +kernel
theorem dX12_comes_79 : decode cX12_comes 79 = .ok (.invokevirtual 356, 3) := by decide +kernel
theorem dX12_comes_82 : decode cX12_comes 82 = .ok (.aload_n 0, 1) := by decide +kernel
theorem dX12_comes_83 : decode cX12_comes 83 = .ok (.getfield 70, 3) := by decide +kernel
theorem dX12_comes_86 : decode cX12_comes 86 = .ok (.iload 4, 2) := by decide +kernel
theorem dX12_comes_88 : decode cX12_comes 88 = .ok (.iconst 1, 1) := by decide +kernel
theorem dX12_comes_89 : decode cX12_comes 89 = .ok (.iadd, 1) := by decide +kernel
theorem dX12_comes_90 : decode cX12_comes 90 = .ok (.iaload, 1) := by decide +kernel
theorem dX12_comes_91 : decode cX12_comes 91 = .ok (.iand, 1) := by decide +kernel
theorem dX12_comes_92 : decode cX12_comes 92 = .ok (.invokestatic 362, 3) := by decide +kernel
theorem dX12_comes_95 : decode cX12_comes 95 = .ok (.istore_n 3, 1) := by decide +kernel
theorem dX12_comes_96 : decode cX12_comes 96 = .ok (.aload_n 0, 1) := by decide +kernel
theorem dX12_comes_97 : decode cX12_comes 97 = .ok (.iload_n 3, 1) := by decide +kernel
theorem dX12_comes_98 : decode cX12_comes 98 = .ok (.i2l, 1) := by decide +kernel
theorem dX12_comes_99 : decode cX12_comes 99 = .ok (.invokevirtual 331, 3) := by decide +kernel
theorem dX12_comes_102 : decode cX12_comes 102 = .ok (.iinc 4 1, 3) := by decide +kernel
theorem dX12_comes_105 : decode cX12_comes 105 = .ok (.goto (-43), 3) := by decide +kernel
theorem dX12_comes_108 : decode cX12_comes 108 = .ok (.iload_n 2, 1) := by decide +kernel
theorem dX12_comes_109 : decode cX12_comes 109 = .ok (.ireturn, 1) := by decide +kernel
theorem dX12_cell_0 : decode cX12_cell 0 = .ok (.iload_n 0, 1) := by decide +kernel
theorem dX12_cell_1 : decode cX12_cell 1 = .ok (.bipush 9, 2) := by decide +kernel
theorem dX12_cell_3 : decode cX12_cell 3 = .ok (.imul, 1) := by decide +kernel
theorem dX12_cell_4 : decode cX12_cell 4 = .ok (.iload_n 1, 1) := by decide +kernel
theorem dX12_cell_5 : decode cX12_cell 5 = .ok (.iadd, 1) := by decide +kernel
theorem dX12_cell_6 : decode cX12_cell 6 = .ok (.sipush 256, 3) := by decide +kernel
theorem dX12_cell_9 : decode cX12_cell 9 = .ok (.imul, 1) := by decide +kernel
theorem dX12_cell_10 : decode cX12_cell 10 = .ok (.iload_n 2, 1) := by decide +kernel
theorem dX12_cell_11 : decode cX12_cell 11 = .ok (.iadd, 1) := by decide +kernel
theorem dX12_cell_12 : decode cX12_cell 12 = .ok (.ireturn, 1) := by decide +kernel
theorem dX12_playsAt_0 : decode cX12_playsAt 0 = .ok (.iconst 0, 1) := by decide +kernel
theorem dX12_playsAt_1 : decode cX12_playsAt 1 = .ok (.istore_n 3, 1) := by decide +kernel
theorem dX12_playsAt_2 : decode cX12_playsAt 2 = .ok (.iconst 0, 1) := by decide +kernel
theorem dX12_playsAt_3 : decode cX12_playsAt 3 = .ok (.istore 4, 2) := by decide +kernel
theorem dX12_playsAt_5 : decode cX12_playsAt 5 = .ok (.iload 4, 2) := by decide +kernel
theorem dX12_playsAt_7 : decode cX12_playsAt 7 = .ok (.aload_n 0, 1) := by decide +kernel
theorem dX12_playsAt_8 : decode cX12_playsAt 8 = .ok (.getfield 136, 3) := by decide +kernel
theorem dX12_playsAt_11 : decode cX12_playsAt 11 = .ok (.if_icmp .ge 63, 3) := by decide +kernel
theorem dX12_playsAt_14 : decode cX12_playsAt 14 = .ok (.aload_n 0, 1) := by decide +kernel
theorem dX12_playsAt_15 : decode cX12_playsAt 15 = .ok (.iload_n 2, 1) := by decide +kernel
theorem dX12_playsAt_16 : decode cX12_playsAt 16 = .ok (.invokevirtual 294, 3) := by decide +kernel
theorem dX12_playsAt_19 : decode cX12_playsAt 19 = .ok (.ifCond .ne 55, 3) := by decide +kernel
theorem dX12_playsAt_22 : decode cX12_playsAt 22 = .ok (.iload_n 3, 1) := by decide +kernel
theorem dX12_playsAt_23 : decode cX12_playsAt 23 = .ok (.aload_n 0, 1) := by decide +kernel
theorem dX12_playsAt_24 : decode cX12_playsAt 24 = .ok (.getfield 19, 3) := by decide +kernel
theorem dX12_playsAt_27 : decode cX12_playsAt 27 = .ok (.iload 4, 2) := by decide +kernel
theorem dX12_playsAt_29 : decode cX12_playsAt 29 = .ok (.iaload, 1) := by decide +kernel
theorem dX12_playsAt_30 : decode cX12_playsAt 30 = .ok (.iload_n 1, 1) := by decide +kernel
theorem dX12_playsAt_31 : decode cX12_playsAt 31 = .ok (.if_icmp .ne 34, 3) := by decide +kernel
theorem dX12_playsAt_34 : decode cX12_playsAt 34 = .ok (.iload_n 2, 1) := by decide +kernel
theorem dX12_playsAt_35 : decode cX12_playsAt 35 = .ok (.aload_n 0, 1) := by decide +kernel
theorem dX12_playsAt_36 : decode cX12_playsAt 36 = .ok (.getfield 9, 3) := by decide +kernel
theorem dX12_playsAt_39 : decode cX12_playsAt 39 = .ok (.bipush 7, 2) := by decide +kernel
theorem dX12_playsAt_41 : decode cX12_playsAt 41 = .ok (.iload 4, 2) := by decide +kernel
theorem dX12_playsAt_43 : decode cX12_playsAt 43 = .ok (.iadd, 1) := by decide +kernel
theorem dX12_playsAt_44 : decode cX12_playsAt 44 = .ok (.iaload, 1) := by decide +kernel
theorem dX12_playsAt_45 : decode cX12_playsAt 45 = .ok (.aload_n 0, 1) := by decide +kernel
theorem dX12_playsAt_46 : decode cX12_playsAt 46 = .ok (.getfield 79, 3) := by decide +kernel
theorem dX12_playsAt_49 : decode cX12_playsAt 49 = .ok (.iload 4, 2) := by decide +kernel
theorem dX12_playsAt_51 : decode cX12_playsAt 51 = .ok (.iaload, 1) := by decide +kernel
theorem dX12_playsAt_52 : decode cX12_playsAt 52 = .ok (.invokestatic 132, 3) := by decide +kernel
theorem dX12_playsAt_55 : decode cX12_playsAt 55 = .ok (.ifCond .eq 10, 3) := by decide +kernel
theorem dX12_playsAt_58 : decode cX12_playsAt 58 = .ok (.iconst 1, 1) := by decide +kernel
theorem dX12_playsAt_59 : decode cX12_playsAt 59 = .ok (.iload 4, 2) := by decide +kernel
theorem dX12_playsAt_61 : decode cX12_playsAt 61 = .ok (.ishl, 1) := by decide +kernel
theorem dX12_playsAt_62 : decode cX12_playsAt 62 = .ok (.goto 4, 3) := by decide +kernel
theorem dX12_playsAt_65 : decode cX12_playsAt 65 = .ok (.iconst 0, 1) := by decide +kernel
theorem dX12_playsAt_66 : decode cX12_playsAt 66 = .ok (.ior, 1) := by decide +kernel
theorem dX12_playsAt_67 : decode cX12_playsAt 67 = .ok (.istore_n 3, 1) := by decide +kernel
theorem dX12_playsAt_68 : decode cX12_playsAt 68 = .ok (.iinc 4 1, 3) := by decide +kernel
theorem dX12_playsAt_71 : decode cX12_playsAt 71 = .ok (.goto (-66), 3) := by decide +kernel
theorem dX12_playsAt_74 : decode cX12_playsAt 74 = .ok (.iload_n 3, 1) := by decide +kernel
theorem dX12_playsAt_75 : decode cX12_playsAt 75 = .ok (.ireturn, 1) := by decide +kernel
theorem dX12_gain_0 : decode cX12_gain 0 = .ok (.iconst 0, 1) := by decide +kernel
theorem dX12_gain_1 : decode cX12_gain 1 = .ok (.istore_n 2, 1) := by decide +kernel
theorem dX12_gain_2 : decode cX12_gain 2 = .ok (.iconst 0, 1) := by decide +kernel
theorem dX12_gain_3 : decode cX12_gain 3 = .ok (.istore_n 3, 1) := by decide +kernel
theorem dX12_gain_4 : decode cX12_gain 4 = .ok (.iload_n 3, 1) := by decide +kernel
theorem dX12_gain_5 : decode cX12_gain 5 = .ok (.aload_n 0, 1) := by decide +kernel
theorem dX12_gain_6 : decode cX12_gain 6 = .ok (.getfield 136, 3) := by decide +kernel
theorem dX12_gain_9 : decode cX12_gain 9 = .ok (.if_icmp .ge 30, 3) := by decide +kernel
theorem dX12_gain_12 : decode cX12_gain 12 = .ok (.iload_n 2, 1) := by decide +kernel
theorem dX12_gain_13 : decode cX12_gain 13 = .ok (.iload_n 1, 1) := by decide +kernel
theorem dX12_gain_14 : decode cX12_gain 14 = .ok (.iload_n 3, 1) := by decide +kernel
theorem dX12_gain_15 : decode cX12_gain 15 = .ok (.invokestatic 257, 3) := by decide +kernel
theorem dX12_gain_18 : decode cX12_gain 18 = .ok (.ifCond .eq 12, 3) := by decide +kernel
theorem dX12_gain_21 : decode cX12_gain 21 = .ok (.aload_n 0, 1) := by decide +kernel
theorem dX12_gain_22 : decode cX12_gain 22 = .ok (.getfield 76, 3) := by decide +kernel
theorem dX12_gain_25 : decode cX12_gain 25 = .ok (.iload_n 3, 1) := by decide +kernel
theorem dX12_gain_26 : decode cX12_gain 26 = .ok (.iaload, 1) := by decide +kernel
theorem dX12_gain_27 : decode cX12_gain 27 = .ok (.goto 4, 3) := by decide +kernel
theorem dX12_gain_30 : decode cX12_gain 30 = .ok (.iconst 0, 1) := by decide +kernel
theorem dX12_gain_31 : decode cX12_gain 31 = .ok (.iadd, 1) := by decide +kernel
theorem dX12_gain_32 : decode cX12_gain 32 = .ok (.istore_n 2, 1) := by decide +kernel
theorem dX12_gain_33 : decode cX12_gain 33 = .ok (.iinc 3 1, 3) := by decide +kernel
theorem dX12_gain_36 : decode cX12_gain 36 = .ok (.goto (-32), 3) := by decide +kernel
theorem dX12_gain_39 : decode cX12_gain 39 = .ok (.iload_n 2, 1) := by decide +kernel
theorem dX12_gain_40 : decode cX12_gain 40 = .ok (.ireturn, 1) := by decide +kernel
theorem dX12_valueBy_0 : decode cX12_valueBy 0 = .ok (.aload_n 0, 1) := by decide +kernel
theorem dX12_valueBy_1 : decode cX12_valueBy 1 = .ok (.iload_n 2, 1) := by decide +kernel
theorem dX12_valueBy_2 : decode cX12_valueBy 2 = .ok (.aload_n 0, 1) := by decide +kernel
theorem dX12_valueBy_3 : decode cX12_valueBy 3 = .ok (.getfield 9, 3) := by decide +kernel
theorem dX12_valueBy_6 : decode cX12_valueBy 6 = .ok (.iconst 5, 1) := by decide +kernel
theorem dX12_valueBy_7 : decode cX12_valueBy 7 = .ok (.iaload, 1) := by decide +kernel
theorem dX12_valueBy_8 : decode cX12_valueBy 8 = .ok (.iload_n 1, 1) := by decide +kernel
theorem dX12_valueBy_9 : decode cX12_valueBy 9 = .ok (.iadd, 1) := by decide +kernel
theorem dX12_valueBy_10 : decode cX12_valueBy 10 = .ok (.invokevirtual 365, 3) := by decide +kernel
theorem dX12_valueBy_13 : decode cX12_valueBy 13 = .ok (.iload_n 3, 1) := by decide +kernel
theorem dX12_valueBy_14 : decode cX12_valueBy 14 = .ok (.iconst (-1), 1) := by decide +kernel
theorem dX12_valueBy_15 : decode cX12_valueBy 15 = .ok (.ixor, 1) := by decide +kernel
theorem dX12_valueBy_16 : decode cX12_valueBy 16 = .ok (.iand, 1) := by decide +kernel
theorem dX12_valueBy_17 : decode cX12_valueBy 17 = .ok (.istore 4, 2) := by decide +kernel
theorem dX12_valueBy_19 : decode cX12_valueBy 19 = .ok (.aload_n 0, 1) := by decide +kernel
theorem dX12_valueBy_20 : decode cX12_valueBy 20 = .ok (.iload 4, 2) := by decide +kernel
theorem dX12_valueBy_22 : decode cX12_valueBy 22 = .ok (.invokevirtual 368, 3) := by decide +kernel
theorem dX12_valueBy_25 : decode cX12_valueBy 25 = .ok (.aload_n 0, 1) := by decide +kernel
theorem dX12_valueBy_26 : decode cX12_valueBy 26 = .ok (.getfield 73, 3) := by decide +kernel
theorem dX12_valueBy_29 : decode cX12_valueBy 29 = .ok (.iload_n 1, 1) := by decide +kernel
theorem dX12_valueBy_30 : decode cX12_valueBy 30 = .ok (.iconst 1, 1) := by decide +kernel
theorem dX12_valueBy_31 : decode cX12_valueBy 31 = .ok (.iadd, 1) := by decide +kernel
theorem dX12_valueBy_32 : decode cX12_valueBy 32 = .ok (.iload_n 2, 1) := by decide +kernel
theorem dX12_valueBy_33 : decode cX12_valueBy 33 = .ok (.iload_n 3, 1) := by decide +kernel
theorem dX12_valueBy_34 : decode cX12_valueBy 34 = .ok (.iload 4, 2) := by decide +kernel
theorem dX12_valueBy_36 : decode cX12_valueBy 36 = .ok (.ior, 1) := by decide +kernel
theorem dX12_valueBy_37 : decode cX12_valueBy 37 = .ok (.invokestatic 371, 3) := by decide +kernel
theorem dX12_valueBy_40 : decode cX12_valueBy 40 = .ok (.iaload, 1) := by decide +kernel
theorem dX12_valueBy_41 : decode cX12_valueBy 41 = .ok (.iadd, 1) := by decide +kernel
theorem dX12_valueBy_42 : decode cX12_valueBy 42 = .ok (.ireturn, 1) := by decide +kernel
theorem dX12_layMost_0 : decode cX12_layMost 0 = .ok (.iconst 1, 1) := by decide +kernel
theorem dX12_layMost_1 : decode cX12_layMost 1 = .ok (.aload_n 0, 1) := by decide +kernel
theorem dX12_layMost_2 : decode cX12_layMost 2 = .ok (.getfield 136, 3) := by decide +kernel
theorem dX12_layMost_5 : decode cX12_layMost 5 = .ok (.ishl, 1) := by decide +kernel
theorem dX12_layMost_6 : decode cX12_layMost 6 = .ok (.istore_n 2, 1) := by decide +kernel
theorem dX12_layMost_7 : decode cX12_layMost 7 = .ok (.iconst 0, 1) := by decide +kernel
theorem dX12_layMost_8 : decode cX12_layMost 8 = .ok (.istore_n 3, 1) := by decide +kernel
theorem dX12_layMost_9 : decode cX12_layMost 9 = .ok (.iload_n 3, 1) := by decide +kernel
theorem dX12_layMost_10 : decode cX12_layMost 10 = .ok (.aload_n 0, 1) := by decide +kernel
theorem dX12_layMost_11 : decode cX12_layMost 11 = .ok (.getfield 129, 3) := by decide +kernel
theorem dX12_layMost_14 : decode cX12_layMost 14 = .ok (.if_icmp .ge 37, 3) := by decide +kernel
theorem dX12_layMost_17 : decode cX12_layMost 17 = .ok (.iconst 0, 1) := by decide +kernel
theorem dX12_layMost_18 : decode cX12_layMost 18 = .ok (.istore 4, 2) := by decide +kernel
theorem dX12_layMost_20 : decode cX12_layMost 20 = .ok (.iload 4, 2) := by decide +kernel
theorem dX12_layMost_22 : decode cX12_layMost 22 = .ok (.iload_n 2, 1) := by decide +kernel
theorem dX12_layMost_23 : decode cX12_layMost 23 = .ok (.if_icmp .ge 22, 3) := by decide +kernel
theorem dX12_layMost_26 : decode cX12_layMost 26 = .ok (.aload_n 0, 1) := by decide +kernel
theorem dX12_layMost_27 : decode cX12_layMost 27 = .ok (.getfield 73, 3) := by decide +kernel
theorem dX12_layMost_30 : decode cX12_layMost 30 = .ok (.iload_n 1, 1) := by decide +kernel
theorem dX12_layMost_31 : decode cX12_layMost 31 = .ok (.iload_n 3, 1) := by decide +kernel
theorem dX12_layMost_32 : decode cX12_layMost 32 = .ok (.iload 4, 2) := by decide +kernel
theorem dX12_layMost_34 : decode cX12_layMost 34 = .ok (.invokestatic 371, 3) := by decide +kernel
theorem dX12_layMost_37 : decode cX12_layMost 37 = .ok (.iconst 0, 1) := by decide +kernel
theorem dX12_layMost_38 : decode cX12_layMost 38 = .ok (.iastore, 1) := by decide +kernel
theorem dX12_layMost_39 : decode cX12_layMost 39 = .ok (.iinc 4 1, 3) := by decide +kernel
theorem dX12_layMost_42 : decode cX12_layMost 42 = .ok (.goto (-22), 3) := by decide +kernel
theorem dX12_layMost_45 : decode cX12_layMost 45 = .ok (.iinc 3 1, 3) := by decide +kernel
theorem dX12_layMost_48 : decode cX12_layMost 48 = .ok (.goto (-39), 3) := by decide +kernel
theorem dX12_layMost_51 : decode cX12_layMost 51 = .ok (.iload_n 1, 1) := by decide +kernel
theorem dX12_layMost_52 : decode cX12_layMost 52 = .ok (.iconst 1, 1) := by decide +kernel
theorem dX12_layMost_53 : decode cX12_layMost 53 = .ok (.isub, 1) := by decide +kernel
theorem dX12_layMost_54 : decode cX12_layMost 54 = .ok (.istore_n 3, 1) := by decide +kernel
theorem dX12_layMost_55 : decode cX12_layMost 55 = .ok (.iload_n 3, 1) := by decide +kernel
theorem dX12_layMost_56 : decode cX12_layMost 56 = .ok (.ifCond .lt 120, 3) := by decide +kernel
theorem dX12_layMost_59 : decode cX12_layMost 59 = .ok (.iconst 0, 1) := by decide +kernel
theorem dX12_layMost_60 : decode cX12_layMost 60 = .ok (.istore 4, 2) := by decide +kernel
theorem dX12_layMost_62 : decode cX12_layMost 62 = .ok (.iload 4, 2) := by decide +kernel
theorem dX12_layMost_64 : decode cX12_layMost 64 = .ok (.aload_n 0, 1) := by decide +kernel
theorem dX12_layMost_65 : decode cX12_layMost 65 = .ok (.getfield 129, 3) := by decide +kernel
theorem dX12_layMost_68 : decode cX12_layMost 68 = .ok (.if_icmp .ge 102, 3) := by decide +kernel
theorem dX12_layMost_71 : decode cX12_layMost 71 = .ok (.aload_n 0, 1) := by decide +kernel
theorem dX12_layMost_72 : decode cX12_layMost 72 = .ok (.iload 4, 2) := by decide +kernel
theorem dX12_layMost_74 : decode cX12_layMost 74 = .ok (.aload_n 0, 1) := by decide +kernel
theorem dX12_layMost_75 : decode cX12_layMost 75 = .ok (.getfield 9, 3) := by decide +kernel
theorem dX12_layMost_78 : decode cX12_layMost 78 = .ok (.iconst 5, 1) := by decide +kernel
theorem dX12_layMost_79 : decode cX12_layMost 79 = .ok (.iaload, 1) := by decide +kernel
theorem dX12_layMost_80 : decode cX12_layMost 80 = .ok (.iload_n 3, 1) := by decide +kernel
theorem dX12_layMost_81 : decode cX12_layMost 81 = .ok (.iadd, 1) := by decide +kernel
theorem dX12_layMost_82 : decode cX12_layMost 82 = .ok (.invokevirtual 356, 3) := by decide +kernel
theorem dX12_layMost_85 : decode cX12_layMost 85 = .ok (.istore 5, 2) := by decide +kernel
theorem dX12_layMost_87 : decode cX12_layMost 87 = .ok (.iconst 0, 1) := by decide +kernel
theorem dX12_layMost_88 : decode cX12_layMost 88 = .ok (.istore 6, 2) := by decide +kernel
theorem dX12_layMost_90 : decode cX12_layMost 90 = .ok (.iload 6, 2) := by decide +kernel
theorem dX12_layMost_92 : decode cX12_layMost 92 = .ok (.iload_n 2, 1) := by decide +kernel
theorem dX12_layMost_93 : decode cX12_layMost 93 = .ok (.if_icmp .ge 71, 3) := by decide +kernel
theorem dX12_layMost_96 : decode cX12_layMost 96 = .ok (.iconst (-1), 1) := by decide +kernel
theorem dX12_layMost_97 : decode cX12_layMost 97 = .ok (.istore 7, 2) := by decide +kernel
theorem dX12_layMost_99 : decode cX12_layMost 99 = .ok (.iconst 0, 1) := by decide +kernel
theorem dX12_layMost_100 : decode cX12_layMost 100 = .ok (.istore 8, 2) := by decide +kernel
theorem dX12_layMost_102 : decode cX12_layMost 102 = .ok (.iload 8, 2) := by decide +kernel
theorem dX12_layMost_104 : decode cX12_layMost 104 = .ok (.aload_n 0, 1) := by decide +kernel
theorem dX12_layMost_105 : decode cX12_layMost 105 = .ok (.getfield 129, 3) := by decide +kernel
theorem dX12_layMost_108 : decode cX12_layMost 108 = .ok (.if_icmp .ge 35, 3) := by decide +kernel
theorem dX12_layMost_111 : decode cX12_layMost 111 = .ok (.iload 5, 2) := by decide +kernel
theorem dX12_layMost_113 : decode cX12_layMost 113 = .ok (.iload 8, 2) := by decide +kernel
theorem dX12_layMost_115 : decode cX12_layMost 115 = .ok (.invokestatic 257, 3) := by decide +kernel
theorem dX12_layMost_118 : decode cX12_layMost 118 = .ok (.ifCond .eq 19, 3) := by decide +kernel
theorem dX12_layMost_121 : decode cX12_layMost 121 = .ok (.iload 7, 2) := by decide +kernel
theorem dX12_layMost_123 : decode cX12_layMost 123 = .ok (.aload_n 0, 1) := by decide +kernel
theorem dX12_layMost_124 : decode cX12_layMost 124 = .ok (.iload_n 3, 1) := by decide +kernel
theorem dX12_layMost_125 : decode cX12_layMost 125 = .ok (.iload 8, 2) := by decide +kernel
theorem dX12_layMost_127 : decode cX12_layMost 127 = .ok (.iload 6, 2) := by decide +kernel
theorem dX12_layMost_129 : decode cX12_layMost 129 = .ok (.invokevirtual 375, 3) := by decide +kernel
theorem dX12_layMost_132 : decode cX12_layMost 132 = .ok (.invokestatic 281, 3) := by decide +kernel
theorem dX12_layMost_135 : decode cX12_layMost 135 = .ok (.istore 7, 2) := by decide +kernel
theorem dX12_layMost_137 : decode cX12_layMost 137 = .ok (.iinc 8 1, 3) := by decide +kernel
theorem dX12_layMost_140 : decode cX12_layMost 140 = .ok (.goto (-38), 3) := by decide +kernel
theorem dX12_layMost_143 : decode cX12_layMost 143 = .ok (.aload_n 0, 1) := by decide +kernel
theorem dX12_layMost_144 : decode cX12_layMost 144 = .ok (.getfield 73, 3) := by decide +kernel
theorem dX12_layMost_147 : decode cX12_layMost 147 = .ok (.iload_n 3, 1) := by decide +kernel
theorem dX12_layMost_148 : decode cX12_layMost 148 = .ok (.iload 4, 2) := by decide +kernel
theorem dX12_layMost_150 : decode cX12_layMost 150 = .ok (.iload 6, 2) := by decide +kernel
theorem dX12_layMost_152 : decode cX12_layMost 152 = .ok (.invokestatic 371, 3) := by decide +kernel
theorem dX12_layMost_155 : decode cX12_layMost 155 = .ok (.iload 7, 2) := by decide +kernel
theorem dX12_layMost_157 : decode cX12_layMost 157 = .ok (.iastore, 1) := by decide +kernel
theorem dX12_layMost_158 : decode cX12_layMost 158 = .ok (.iinc 6 1, 3) := by decide +kernel
theorem dX12_layMost_161 : decode cX12_layMost 161 = .ok (.goto (-71), 3) := by decide +kernel
theorem dX12_layMost_164 : decode cX12_layMost 164 = .ok (.iinc 4 1, 3) := by decide +kernel
theorem dX12_layMost_167 : decode cX12_layMost 167 = .ok (.goto (-105), 3) := by decide +kernel
theorem dX12_layMost_170 : decode cX12_layMost 170 = .ok (.iinc 3 (-1), 3) := by decide +kernel
theorem dX12_layMost_173 : decode cX12_layMost 173 = .ok (.goto (-118), 3) := by decide +kernel
theorem dX12_layMost_176 : decode cX12_layMost 176 = .ok (.return_, 1) := by decide +kernel
theorem dX12_layLine_0 : decode cX12_layLine 0 = .ok (.aload_n 0, 1) := by decide +kernel
theorem dX12_layLine_1 : decode cX12_layLine 1 = .ok (.iload_n 1, 1) := by decide +kernel
theorem dX12_layLine_2 : decode cX12_layLine 2 = .ok (.invokevirtual 378, 3) := by decide +kernel
theorem dX12_layLine_5 : decode cX12_layLine 5 = .ok (.iload_n 2, 1) := by decide +kernel
theorem dX12_layLine_6 : decode cX12_layLine 6 = .ok (.istore 4, 2) := by decide +kernel
theorem dX12_layLine_8 : decode cX12_layLine 8 = .ok (.iload_n 3, 1) := by decide +kernel
theorem dX12_layLine_9 : decode cX12_layLine 9 = .ok (.istore 5, 2) := by decide +kernel
theorem dX12_layLine_11 : decode cX12_layLine 11 = .ok (.iconst 0, 1) := by decide +kernel
theorem dX12_layLine_12 : decode cX12_layLine 12 = .ok (.istore 6, 2) := by decide +kernel
theorem dX12_layLine_14 : decode cX12_layLine 14 = .ok (.iload 6, 2) := by decide +kernel
theorem dX12_layLine_16 : decode cX12_layLine 16 = .ok (.iload_n 1, 1) := by decide +kernel
theorem dX12_layLine_17 : decode cX12_layLine 17 = .ok (.if_icmp .ge 105, 3) := by decide +kernel
theorem dX12_layLine_20 : decode cX12_layLine 20 = .ok (.aload_n 0, 1) := by decide +kernel
theorem dX12_layLine_21 : decode cX12_layLine 21 = .ok (.iload 4, 2) := by decide +kernel
theorem dX12_layLine_23 : decode cX12_layLine 23 = .ok (.aload_n 0, 1) := by decide +kernel
theorem dX12_layLine_24 : decode cX12_layLine 24 = .ok (.getfield 9, 3) := by decide +kernel
theorem dX12_layLine_27 : decode cX12_layLine 27 = .ok (.iconst 5, 1) := by decide +kernel
theorem dX12_layLine_28 : decode cX12_layLine 28 = .ok (.iaload, 1) := by decide +kernel
theorem dX12_layLine_29 : decode cX12_layLine 29 = .ok (.iload 6, 2) := by decide +kernel
theorem dX12_layLine_31 : decode cX12_layLine 31 = .ok (.iadd, 1) := by decide +kernel
theorem dX12_layLine_32 : decode cX12_layLine 32 = .ok (.invokevirtual 356, 3) := by decide +kernel
theorem dX12_layLine_35 : decode cX12_layLine 35 = .ok (.istore 7, 2) := by decide +kernel
theorem dX12_layLine_37 : decode cX12_layLine 37 = .ok (.iconst 0, 1) := by decide +kernel
theorem dX12_layLine_38 : decode cX12_layLine 38 = .ok (.istore 8, 2) := by decide +kernel
theorem dX12_layLine_40 : decode cX12_layLine 40 = .ok (.iload 7, 2) := by decide +kernel
theorem dX12_layLine_42 : decode cX12_layLine 42 = .ok (.iload 8, 2) := by decide +kernel
theorem dX12_layLine_44 : decode cX12_layLine 44 = .ok (.invokestatic 257, 3) := by decide +kernel
theorem dX12_layLine_47 : decode cX12_layLine 47 = .ok (.ifCond .eq 30, 3) := by decide +kernel
theorem dX12_layLine_50 : decode cX12_layLine 50 = .ok (.aload_n 0, 1) := by decide +kernel
theorem dX12_layLine_51 : decode cX12_layLine 51 = .ok (.iload 6, 2) := by decide +kernel
theorem dX12_layLine_53 : decode cX12_layLine 53 = .ok (.iload 8, 2) := by decide +kernel
theorem dX12_layLine_55 : decode cX12_layLine 55 = .ok (.iload 5, 2) := by decide +kernel
theorem dX12_layLine_57 : decode cX12_layLine 57 = .ok (.invokevirtual 375, 3) := by decide +kernel
theorem dX12_layLine_60 : decode cX12_layLine 60 = .ok (.aload_n 0, 1) := by decide +kernel
theorem dX12_layLine_61 : decode cX12_layLine 61 = .ok (.getfield 73, 3) := by decide +kernel
theorem dX12_layLine_64 : decode cX12_layLine 64 = .ok (.iload 6, 2) := by decide +kernel
theorem dX12_layLine_66 : decode cX12_layLine 66 = .ok (.iload 4, 2) := by decide +kernel
theorem dX12_layLine_68 : decode cX12_layLine 68 = .ok (.iload 5, 2) := by decide +kernel
theorem dX12_layLine_70 : decode cX12_layLine 70 = .ok (.invokestatic 371, 3) := by decide +kernel
theorem dX12_layLine_73 : decode cX12_layLine 73 = .ok (.iaload, 1) := by decide +kernel
theorem dX12_layLine_74 : decode cX12_layLine 74 = .ok (.if_icmp .eq 9, 3) := by decide +kernel
theorem dX12_layLine_77 : decode cX12_layLine 77 = .ok (.iinc 8 1, 3) := by decide +kernel
theorem dX12_layLine_80 : decode cX12_layLine 80 = .ok (.goto (-40), 3) := by decide +kernel
theorem dX12_layLine_83 : decode cX12_layLine 83 = .ok (.iload 5, 2) := by decide +kernel
theorem dX12_layLine_85 : decode cX12_layLine 85 = .ok (.aload_n 0, 1) := by decide +kernel
theorem dX12_layLine_86 : decode cX12_layLine 86 = .ok (.iload 8, 2) := by decide +kernel
theorem dX12_layLine_88 : decode cX12_layLine 88 = .ok (.aload_n 0, 1) := by decide +kernel
theorem dX12_layLine_89 : decode cX12_layLine 89 = .ok (.getfield 9, 3) := by decide +kernel
theorem dX12_layLine_92 : decode cX12_layLine 92 = .ok (.iconst 5, 1) := by decide +kernel
theorem dX12_layLine_93 : decode cX12_layLine 93 = .ok (.iaload, 1) := by decide +kernel
theorem dX12_layLine_94 : decode cX12_layLine 94 = .ok (.iload 6, 2) := by decide +kernel
theorem dX12_layLine_96 : decode cX12_layLine 96 = .ok (.iadd, 1) := by decide +kernel
theorem dX12_layLine_97 : decode cX12_layLine 97 = .ok (.invokevirtual 365, 3) := by decide +kernel
theorem dX12_layLine_100 : decode cX12_layLine 100 = .ok (.ior, 1) := by decide +kernel
theorem dX12_layLine_101 : decode cX12_layLine 101 = .ok (.istore 5, 2) := by decide +kernel
theorem dX12_layLine_103 : decode cX12_layLine 103 = .ok (.aload_n 0, 1) := by decide +kernel
theorem dX12_layLine_104 : decode cX12_layLine 104 = .ok (.getfield 82, 3) := by decide +kernel
theorem dX12_layLine_107 : decode cX12_layLine 107 = .ok (.iload 6, 2) := by decide +kernel
theorem dX12_layLine_109 : decode cX12_layLine 109 = .ok (.iload 8, 2) := by decide +kernel
theorem dX12_layLine_111 : decode cX12_layLine 111 = .ok (.iastore, 1) := by decide +kernel
theorem dX12_layLine_112 : decode cX12_layLine 112 = .ok (.iload 8, 2) := by decide +kernel
theorem dX12_layLine_114 : decode cX12_layLine 114 = .ok (.istore 4, 2) := by decide +kernel
theorem dX12_layLine_116 : decode cX12_layLine 116 = .ok (.iinc 6 1, 3) := by decide +kernel
theorem dX12_layLine_119 : decode cX12_layLine 119 = .ok (.goto (-105), 3) := by decide +kernel
theorem dX12_layLine_122 : decode cX12_layLine 122 = .ok (.aload_n 0, 1) := by decide +kernel
theorem dX12_layLine_123 : decode cX12_layLine 123 = .ok (.iload 5, 2) := by decide +kernel
theorem dX12_layLine_125 : decode cX12_layLine 125 = .ok (.putfield 381, 3) := by decide +kernel
theorem dX12_layLine_128 : decode cX12_layLine 128 = .ok (.aload_n 0, 1) := by decide +kernel
theorem dX12_layLine_129 : decode cX12_layLine 129 = .ok (.getfield 73, 3) := by decide +kernel
theorem dX12_layLine_132 : decode cX12_layLine 132 = .ok (.iconst 0, 1) := by decide +kernel
theorem dX12_layLine_133 : decode cX12_layLine 133 = .ok (.iload_n 2, 1) := by decide +kernel
theorem dX12_layLine_134 : decode cX12_layLine 134 = .ok (.iload_n 3, 1) := by decide +kernel
theorem dX12_layLine_135 : decode cX12_layLine 135 = .ok (.invokestatic 371, 3) := by decide +kernel
theorem dX12_layLine_138 : decode cX12_layLine 138 = .ok (.iaload, 1) := by decide +kernel
theorem dX12_layLine_139 : decode cX12_layLine 139 = .ok (.ireturn, 1) := by decide +kernel
theorem dX12_beginRound_0 : decode cX12_beginRound 0 = .ok (.iconst 0, 1) := by decide +kernel
theorem dX12_beginRound_1 : decode cX12_beginRound 1 = .ok (.istore_n 2, 1) := by decide +kernel
theorem dX12_beginRound_2 : decode cX12_beginRound 2 = .ok (.iload_n 2, 1) := by decide +kernel
theorem dX12_beginRound_3 : decode cX12_beginRound 3 = .ok (.aload_n 0, 1) := by decide +kernel
theorem dX12_beginRound_4 : decode cX12_beginRound 4 = .ok (.getfield 136, 3) := by decide +kernel
theorem dX12_beginRound_7 : decode cX12_beginRound 7 = .ok (.if_icmp .ge 44, 3) := by decide +kernel
theorem dX12_beginRound_10 : decode cX12_beginRound 10 = .ok (.aload_n 0, 1) := by decide +kernel
theorem dX12_beginRound_11 : decode cX12_beginRound 11 = .ok (.getfield 76, 3) := by decide +kernel
theorem dX12_beginRound_14 : decode cX12_beginRound 14 = .ok (.iload_n 2, 1) := by decide +kernel
theorem dX12_beginRound_15 : decode cX12_beginRound 15 = .ok (.iload_n 1, 1) := by decide +kernel
theorem dX12_beginRound_16 : decode cX12_beginRound 16 = .ok (.ifCond .eq 12, 3) := by decide +kernel
theorem dX12_beginRound_19 : decode cX12_beginRound 19 = .ok (.aload_n 0, 1) := by decide +kernel
theorem dX12_beginRound_20 : decode cX12_beginRound 20 = .ok (.getfield 22, 3) := by decide +kernel
theorem dX12_beginRound_23 : decode cX12_beginRound 23 = .ok (.iload_n 2, 1) := by decide +kernel
theorem dX12_beginRound_24 : decode cX12_beginRound 24 = .ok (.iaload, 1) := by decide +kernel
theorem dX12_beginRound_25 : decode cX12_beginRound 25 = .ok (.goto 4, 3) := by decide +kernel
theorem dX12_beginRound_28 : decode cX12_beginRound 28 = .ok (.iconst 1, 1) := by decide +kernel
theorem dX12_beginRound_29 : decode cX12_beginRound 29 = .ok (.iastore, 1) := by decide +kernel
theorem dX12_beginRound_30 : decode cX12_beginRound 30 = .ok (.aload_n 0, 1) := by decide +kernel
theorem dX12_beginRound_31 : decode cX12_beginRound 31 = .ok (.getfield 79, 3) := by decide +kernel
theorem dX12_beginRound_34 : decode cX12_beginRound 34 = .ok (.iload_n 2, 1) := by decide +kernel
theorem dX12_beginRound_35 : decode cX12_beginRound 35 = .ok (.aload_n 0, 1) := by decide +kernel
theorem dX12_beginRound_36 : decode cX12_beginRound 36 = .ok (.getfield 9, 3) := by decide +kernel
theorem dX12_beginRound_39 : decode cX12_beginRound 39 = .ok (.bipush 15, 2) := by decide +kernel
theorem dX12_beginRound_41 : decode cX12_beginRound 41 = .ok (.iload_n 2, 1) := by decide +kernel
theorem dX12_beginRound_42 : decode cX12_beginRound 42 = .ok (.iadd, 1) := by decide +kernel
theorem dX12_beginRound_43 : decode cX12_beginRound 43 = .ok (.iaload, 1) := by decide +kernel
theorem dX12_beginRound_44 : decode cX12_beginRound 44 = .ok (.iastore, 1) := by decide +kernel
theorem dX12_beginRound_45 : decode cX12_beginRound 45 = .ok (.iinc 2 1, 3) := by decide +kernel
theorem dX12_beginRound_48 : decode cX12_beginRound 48 = .ok (.goto (-46), 3) := by decide +kernel
theorem dX12_beginRound_51 : decode cX12_beginRound 51 = .ok (.return_, 1) := by decide +kernel
theorem dX12_canRound_0 : decode cX12_canRound 0 = .ok (.iload_n 1, 1) := by decide +kernel
theorem dX12_canRound_1 : decode cX12_canRound 1 = .ok (.iconst 0, 1) := by decide +kernel
theorem dX12_canRound_2 : decode cX12_canRound 2 = .ok (.bipush 10, 2) := by decide +kernel
theorem dX12_canRound_4 : decode cX12_canRound 4 = .ok (.invokestatic 132, 3) := by decide +kernel
theorem dX12_canRound_7 : decode cX12_canRound 7 = .ok (.ifCond .eq 14, 3) := by decide +kernel
theorem dX12_canRound_10 : decode cX12_canRound 10 = .ok (.aload_n 0, 1) := by decide +kernel
theorem dX12_canRound_11 : decode cX12_canRound 11 = .ok (.getfield 129, 3) := by decide +kernel
theorem dX12_canRound_14 : decode cX12_canRound 14 = .ok (.ifCond .le 7, 3) := by decide +kernel
theorem dX12_canRound_17 : decode cX12_canRound 17 = .ok (.iconst 1, 1) := by decide +kernel
theorem dX12_canRound_18 : decode cX12_canRound 18 = .ok (.goto 4, 3) := by decide +kernel
theorem dX12_canRound_21 : decode cX12_canRound 21 = .ok (.iconst 0, 1) := by decide +kernel
theorem dX12_canRound_22 : decode cX12_canRound 22 = .ok (.ireturn, 1) := by decide +kernel
theorem dX12_tellRound_0 : decode cX12_tellRound 0 = .ok (.aload_n 0, 1) := by decide +kernel
theorem dX12_tellRound_1 : decode cX12_tellRound 1 = .ok (.iload_n 1, 1) := by decide +kernel
theorem dX12_tellRound_2 : decode cX12_tellRound 2 = .ok (.aload_n 0, 1) := by decide +kernel
theorem dX12_tellRound_3 : decode cX12_tellRound 3 = .ok (.getfield 9, 3) := by decide +kernel
theorem dX12_tellRound_6 : decode cX12_tellRound 6 = .ok (.iconst 0, 1) := by decide +kernel
theorem dX12_tellRound_7 : decode cX12_tellRound 7 = .ok (.iaload, 1) := by decide +kernel
theorem dX12_tellRound_8 : decode cX12_tellRound 8 = .ok (.aload_n 0, 1) := by decide +kernel
theorem dX12_tellRound_9 : decode cX12_tellRound 9 = .ok (.getfield 9, 3) := by decide +kernel
theorem dX12_tellRound_12 : decode cX12_tellRound 12 = .ok (.bipush 6, 2) := by decide +kernel
theorem dX12_tellRound_14 : decode cX12_tellRound 14 = .ok (.iaload, 1) := by decide +kernel
theorem dX12_tellRound_15 : decode cX12_tellRound 15 = .ok (.invokevirtual 384, 3) := by decide +kernel
theorem dX12_tellRound_18 : decode cX12_tellRound 18 = .ok (.istore_n 2, 1) := by decide +kernel
theorem dX12_tellRound_19 : decode cX12_tellRound 19 = .ok (.aload_n 0, 1) := by decide +kernel
theorem dX12_tellRound_20 : decode cX12_tellRound 20 = .ok (.iconst 0, 1) := by decide +kernel
theorem dX12_tellRound_21 : decode cX12_tellRound 21 = .ok (.putfield 126, 3) := by decide +kernel
theorem dX12_tellRound_24 : decode cX12_tellRound 24 = .ok (.iconst 0, 1) := by decide +kernel
theorem dX12_tellRound_25 : decode cX12_tellRound 25 = .ok (.istore_n 3, 1) := by decide +kernel
theorem dX12_tellRound_26 : decode cX12_tellRound 26 = .ok (.iload_n 3, 1) := by decide +kernel
theorem dX12_tellRound_27 : decode cX12_tellRound 27 = .ok (.iload_n 1, 1) := by decide +kernel
theorem dX12_tellRound_28 : decode cX12_tellRound 28 = .ok (.if_icmp .ge 20, 3) := by decide +kernel
theorem dX12_tellRound_31 : decode cX12_tellRound 31 = .ok (.aload_n 0, 1) := by decide +kernel
theorem dX12_tellRound_32 : decode cX12_tellRound 32 = .ok (.aload_n 0, 1) := by decide +kernel
theorem dX12_tellRound_33 : decode cX12_tellRound 33 = .ok (.getfield 82, 3) := by decide +kernel
theorem dX12_tellRound_36 : decode cX12_tellRound 36 = .ok (.iload_n 3, 1) := by decide +kernel
theorem dX12_tellRound_37 : decode cX12_tellRound 37 = .ok (.iaload, 1) := by decide +kernel
theorem dX12_tellRound_38 : decode cX12_tellRound 38 = .ok (.i2l, 1) := by decide +kernel
theorem dX12_tellRound_39 : decode cX12_tellRound 39 = .ok (.invokevirtual 331, 3) := by decide +kernel
theorem dX12_tellRound_42 : decode cX12_tellRound 42 = .ok (.iinc 3 1, 3) := by decide +kernel
theorem dX12_tellRound_45 : decode cX12_tellRound 45 = .ok (.goto (-19), 3) := by decide +kernel
theorem dX12_tellRound_48 : decode cX12_tellRound 48 = .ok (.iload_n 2, 1) := by decide +kernel
theorem dX12_tellRound_49 : decode cX12_tellRound 49 = .ok (.ireturn, 1) := by decide +kernel
theorem dX12_round_0 : decode cX12_round 0 = .ok (.aload_n 0, 1) := by decide +kernel
theorem dX12_round_1 : decode cX12_round 1 = .ok (.iconst 0, 1) := by decide +kernel
theorem dX12_round_2 : decode cX12_round 2 = .ok (.putfield 123, 3) := by decide +kernel
theorem dX12_round_5 : decode cX12_round 5 = .ok (.aload_n 0, 1) := by decide +kernel
theorem dX12_round_6 : decode cX12_round 6 = .ok (.iload_n 1, 1) := by decide +kernel
theorem dX12_round_7 : decode cX12_round 7 = .ok (.invokevirtual 387, 3) := by decide +kernel
theorem dX12_round_10 : decode cX12_round 10 = .ok (.ifCond .ne 5, 3) := by decide +kernel
theorem dX12_round_13 : decode cX12_round 13 = .ok (.iconst (-1), 1) := by decide +kernel
theorem dX12_round_14 : decode cX12_round 14 = .ok (.ireturn, 1) := by decide +kernel
theorem dX12_round_15 : decode cX12_round 15 = .ok (.aload_n 0, 1) := by decide +kernel
theorem dX12_round_16 : decode cX12_round 16 = .ok (.iconst 0, 1) := by decide +kernel
theorem dX12_round_17 : decode cX12_round 17 = .ok (.invokevirtual 390, 3) := by decide +kernel
theorem dX12_round_20 : decode cX12_round 20 = .ok (.aload_n 0, 1) := by decide +kernel
theorem dX12_round_21 : decode cX12_round 21 = .ok (.iload_n 1, 1) := by decide +kernel
theorem dX12_round_22 : decode cX12_round 22 = .ok (.invokevirtual 394, 3) := by decide +kernel
theorem dX12_round_25 : decode cX12_round 25 = .ok (.ireturn, 1) := by decide +kernel
theorem dX12_richest_0 : decode cX12_richest 0 = .ok (.aload_n 0, 1) := by decide +kernel
theorem dX12_richest_1 : decode cX12_richest 1 = .ok (.iconst 0, 1) := by decide +kernel
theorem dX12_richest_2 : decode cX12_richest 2 = .ok (.putfield 123, 3) := by decide +kernel
theorem dX12_richest_5 : decode cX12_richest 5 = .ok (.aload_n 0, 1) := by decide +kernel
theorem dX12_richest_6 : decode cX12_richest 6 = .ok (.iload_n 1, 1) := by decide +kernel
theorem dX12_richest_7 : decode cX12_richest 7 = .ok (.invokevirtual 387, 3) := by decide +kernel
theorem dX12_richest_10 : decode cX12_richest 10 = .ok (.ifCond .ne 5, 3) := by decide +kernel
theorem dX12_richest_13 : decode cX12_richest 13 = .ok (.iconst (-1), 1) := by decide +kernel
theorem dX12_richest_14 : decode cX12_richest 14 = .ok (.ireturn, 1) := by decide +kernel
theorem dX12_richest_15 : decode cX12_richest 15 = .ok (.aload_n 0, 1) := by decide +kernel
theorem dX12_richest_16 : decode cX12_richest 16 = .ok (.iconst 1, 1) := by decide +kernel
theorem dX12_richest_17 : decode cX12_richest 17 = .ok (.invokevirtual 390, 3) := by decide +kernel
theorem dX12_richest_20 : decode cX12_richest 20 = .ok (.aload_n 0, 1) := by decide +kernel
theorem dX12_richest_21 : decode cX12_richest 21 = .ok (.iload_n 1, 1) := by decide +kernel
theorem dX12_richest_22 : decode cX12_richest 22 = .ok (.invokevirtual 394, 3) := by decide +kernel
theorem dX12_richest_25 : decode cX12_richest 25 = .ok (.ireturn, 1) := by decide +kernel
theorem dX12_playsAll_0 : decode cX12_playsAll 0 = .ok (.aload_n 0, 1) := by decide +kernel
theorem dX12_playsAll_1 : decode cX12_playsAll 1 = .ok (.iconst 0, 1) := by decide +kernel
theorem dX12_playsAll_2 : decode cX12_playsAll 2 = .ok (.invokevirtual 390, 3) := by decide +kernel
theorem dX12_playsAll_5 : decode cX12_playsAll 5 = .ok (.iconst 0, 1) := by decide +kernel
theorem dX12_playsAll_6 : decode cX12_playsAll 6 = .ok (.istore_n 3, 1) := by decide +kernel
theorem dX12_playsAll_7 : decode cX12_playsAll 7 = .ok (.iload_n 3, 1) := by decide +kernel
theorem dX12_playsAll_8 : decode cX12_playsAll 8 = .ok (.aload_n 0, 1) := by decide +kernel
theorem dX12_playsAll_9 : decode cX12_playsAll 9 = .ok (.getfield 136, 3) := by decide +kernel
theorem dX12_playsAll_12 : decode cX12_playsAll 12 = .ok (.if_icmp .ge 28, 3) := by decide +kernel
theorem dX12_playsAll_15 : decode cX12_playsAll 15 = .ok (.aload_n 0, 1) := by decide +kernel
theorem dX12_playsAll_16 : decode cX12_playsAll 16 = .ok (.getfield 76, 3) := by decide +kernel
theorem dX12_playsAll_19 : decode cX12_playsAll 19 = .ok (.iload_n 3, 1) := by decide +kernel
theorem dX12_playsAll_20 : decode cX12_playsAll 20 = .ok (.iload_n 1, 1) := by decide +kernel
theorem dX12_playsAll_21 : decode cX12_playsAll 21 = .ok (.iload_n 3, 1) := by decide +kernel
theorem dX12_playsAll_22 : decode cX12_playsAll 22 = .ok (.invokestatic 257, 3) := by decide +kernel
theorem dX12_playsAll_25 : decode cX12_playsAll 25 = .ok (.ifCond .eq 7, 3) := by decide +kernel
theorem dX12_playsAll_28 : decode cX12_playsAll 28 = .ok (.iconst 1, 1) := by decide +kernel
theorem dX12_playsAll_29 : decode cX12_playsAll 29 = .ok (.goto 4, 3) := by decide +kernel
theorem dX12_playsAll_32 : decode cX12_playsAll 32 = .ok (.iconst 0, 1) := by decide +kernel
theorem dX12_playsAll_33 : decode cX12_playsAll 33 = .ok (.iastore, 1) := by decide +kernel
theorem dX12_playsAll_34 : decode cX12_playsAll 34 = .ok (.iinc 3 1, 3) := by decide +kernel
theorem dX12_playsAll_37 : decode cX12_playsAll 37 = .ok (.goto (-30), 3) := by decide +kernel
theorem dX12_playsAll_40 : decode cX12_playsAll 40 = .ok (.aload_n 0, 1) := by decide +kernel
theorem dX12_playsAll_41 : decode cX12_playsAll 41 = .ok (.iload_n 2, 1) := by decide +kernel
theorem dX12_playsAll_42 : decode cX12_playsAll 42 = .ok (.invokevirtual 378, 3) := by decide +kernel
theorem dX12_playsAll_45 : decode cX12_playsAll 45 = .ok (.aload_n 0, 1) := by decide +kernel
theorem dX12_playsAll_46 : decode cX12_playsAll 46 = .ok (.getfield 73, 3) := by decide +kernel
theorem dX12_playsAll_49 : decode cX12_playsAll 49 = .ok (.iconst 0, 1) := by decide +kernel
theorem dX12_playsAll_50 : decode cX12_playsAll 50 = .ok (.aload_n 0, 1) := by decide +kernel
theorem dX12_playsAll_51 : decode cX12_playsAll 51 = .ok (.getfield 9, 3) := by decide +kernel
theorem dX12_playsAll_54 : decode cX12_playsAll 54 = .ok (.iconst 0, 1) := by decide +kernel
theorem dX12_playsAll_55 : decode cX12_playsAll 55 = .ok (.iaload, 1) := by decide +kernel
theorem dX12_playsAll_56 : decode cX12_playsAll 56 = .ok (.aload_n 0, 1) := by decide +kernel
theorem dX12_playsAll_57 : decode cX12_playsAll 57 = .ok (.getfield 9, 3) := by decide +kernel
theorem dX12_playsAll_60 : decode cX12_playsAll 60 = .ok (.bipush 6, 2) := by decide +kernel
theorem dX12_playsAll_62 : decode cX12_playsAll 62 = .ok (.iaload, 1) := by decide +kernel
theorem dX12_playsAll_63 : decode cX12_playsAll 63 = .ok (.invokestatic 371, 3) := by decide +kernel
theorem dX12_playsAll_66 : decode cX12_playsAll 66 = .ok (.iaload, 1) := by decide +kernel
theorem dX12_playsAll_67 : decode cX12_playsAll 67 = .ok (.iload_n 1, 1) := by decide +kernel
theorem dX12_playsAll_68 : decode cX12_playsAll 68 = .ok (.aload_n 0, 1) := by decide +kernel
theorem dX12_playsAll_69 : decode cX12_playsAll 69 = .ok (.getfield 9, 3) := by decide +kernel
theorem dX12_playsAll_72 : decode cX12_playsAll 72 = .ok (.bipush 6, 2) := by decide +kernel
theorem dX12_playsAll_74 : decode cX12_playsAll 74 = .ok (.iaload, 1) := by decide +kernel
theorem dX12_playsAll_75 : decode cX12_playsAll 75 = .ok (.iconst (-1), 1) := by decide +kernel
theorem dX12_playsAll_76 : decode cX12_playsAll 76 = .ok (.ixor, 1) := by decide +kernel
theorem dX12_playsAll_77 : decode cX12_playsAll 77 = .ok (.iand, 1) := by decide +kernel
theorem dX12_playsAll_78 : decode cX12_playsAll 78 = .ok (.invokestatic 297, 3) := by decide +kernel
theorem dX12_playsAll_81 : decode cX12_playsAll 81 = .ok (.if_icmp .ne 7, 3) := by decide +kernel
theorem dX12_playsAll_84 : decode cX12_playsAll 84 = .ok (.iconst 1, 1) := by decide +kernel
theorem dX12_playsAll_85 : decode cX12_playsAll 85 = .ok (.goto 4, 3) := by decide +kernel
theorem dX12_playsAll_88 : decode cX12_playsAll 88 = .ok (.iconst 0, 1) := by decide +kernel
theorem dX12_playsAll_89 : decode cX12_playsAll 89 = .ok (.ireturn, 1) := by decide +kernel
theorem dX12_all_0 : decode cX12_all 0 = .ok (.aload_n 0, 1) := by decide +kernel
theorem dX12_all_1 : decode cX12_all 1 = .ok (.iconst 0, 1) := by decide +kernel
theorem dX12_all_2 : decode cX12_all 2 = .ok (.putfield 123, 3) := by decide +kernel
theorem dX12_all_5 : decode cX12_all 5 = .ok (.iload_n 1, 1) := by decide +kernel
theorem dX12_all_6 : decode cX12_all 6 = .ok (.iconst 0, 1) := by decide +kernel
theorem dX12_all_7 : decode cX12_all 7 = .ok (.iconst 1, 1) := by decide +kernel
theorem dX12_all_8 : decode cX12_all 8 = .ok (.aload_n 0, 1) := by decide +kernel
theorem dX12_all_9 : decode cX12_all 9 = .ok (.getfield 136, 3) := by decide +kernel
theorem dX12_all_12 : decode cX12_all 12 = .ok (.ishl, 1) := by decide +kernel
theorem dX12_all_13 : decode cX12_all 13 = .ok (.iconst 1, 1) := by decide +kernel
theorem dX12_all_14 : decode cX12_all 14 = .ok (.isub, 1) := by decide +kernel
theorem dX12_all_15 : decode cX12_all 15 = .ok (.invokestatic 132, 3) := by decide +kernel
theorem dX12_all_18 : decode cX12_all 18 = .ok (.ifCond .eq 10, 3) := by decide +kernel
theorem dX12_all_21 : decode cX12_all 21 = .ok (.aload_n 0, 1) := by decide +kernel
theorem dX12_all_22 : decode cX12_all 22 = .ok (.getfield 129, 3) := by decide +kernel
theorem dX12_all_25 : decode cX12_all 25 = .ok (.ifCond .ne 5, 3) := by decide +kernel
theorem dX12_all_28 : decode cX12_all 28 = .ok (.iconst (-1), 1) := by decide +kernel
theorem dX12_all_29 : decode cX12_all 29 = .ok (.ireturn, 1) := by decide +kernel
theorem dX12_all_30 : decode cX12_all 30 = .ok (.iconst 0, 1) := by decide +kernel
theorem dX12_all_31 : decode cX12_all 31 = .ok (.istore_n 2, 1) := by decide +kernel
theorem dX12_all_32 : decode cX12_all 32 = .ok (.iload_n 2, 1) := by decide +kernel
theorem dX12_all_33 : decode cX12_all 33 = .ok (.bipush 10, 2) := by decide +kernel
theorem dX12_all_35 : decode cX12_all 35 = .ok (.if_icmp .gt 18, 3) := by decide +kernel
theorem dX12_all_38 : decode cX12_all 38 = .ok (.aload_n 0, 1) := by decide +kernel
theorem dX12_all_39 : decode cX12_all 39 = .ok (.iload_n 1, 1) := by decide +kernel
theorem dX12_all_40 : decode cX12_all 40 = .ok (.iload_n 2, 1) := by decide +kernel
theorem dX12_all_41 : decode cX12_all 41 = .ok (.invokevirtual 397, 3) := by decide +kernel
theorem dX12_all_44 : decode cX12_all 44 = .ok (.ifCond .ne 9, 3) := by decide +kernel
theorem dX12_all_47 : decode cX12_all 47 = .ok (.iinc 2 1, 3) := by decide +kernel
theorem dX12_all_50 : decode cX12_all 50 = .ok (.goto (-18), 3) := by decide +kernel
theorem dX12_all_53 : decode cX12_all 53 = .ok (.iload_n 2, 1) := by decide +kernel
theorem dX12_all_54 : decode cX12_all 54 = .ok (.bipush 10, 2) := by decide +kernel
theorem dX12_all_56 : decode cX12_all 56 = .ok (.if_icmp .le 6, 3) := by decide +kernel
theorem dX12_all_59 : decode cX12_all 59 = .ok (.bipush (-2), 2) := by decide +kernel
theorem dX12_all_61 : decode cX12_all 61 = .ok (.ireturn, 1) := by decide +kernel
theorem dX12_all_62 : decode cX12_all 62 = .ok (.aload_n 0, 1) := by decide +kernel
theorem dX12_all_63 : decode cX12_all 63 = .ok (.iload_n 2, 1) := by decide +kernel
theorem dX12_all_64 : decode cX12_all 64 = .ok (.invokevirtual 394, 3) := by decide +kernel
theorem dX12_all_67 : decode cX12_all 67 = .ok (.pop, 1) := by decide +kernel
theorem dX12_all_68 : decode cX12_all 68 = .ok (.iload_n 2, 1) := by decide +kernel
theorem dX12_all_69 : decode cX12_all 69 = .ok (.ireturn, 1) := by decide +kernel
theorem dX12_layCanBe_0 : decode cX12_layCanBe 0 = .ok (.iconst 1, 1) := by decide +kernel
theorem dX12_layCanBe_1 : decode cX12_layCanBe 1 = .ok (.aload_n 0, 1) := by decide +kernel
theorem dX12_layCanBe_2 : decode cX12_layCanBe 2 = .ok (.getfield 136, 3) := by decide +kernel
theorem dX12_layCanBe_5 : decode cX12_layCanBe 5 = .ok (.ishl, 1) := by decide +kernel
theorem dX12_layCanBe_6 : decode cX12_layCanBe 6 = .ok (.istore_n 2, 1) := by decide +kernel
theorem dX12_layCanBe_7 : decode cX12_layCanBe 7 = .ok (.iconst 0, 1) := by decide +kernel
theorem dX12_layCanBe_8 : decode cX12_layCanBe 8 = .ok (.istore_n 3, 1) := by decide +kernel
theorem dX12_layCanBe_9 : decode cX12_layCanBe 9 = .ok (.iload_n 3, 1) := by decide +kernel
theorem dX12_layCanBe_10 : decode cX12_layCanBe 10 = .ok (.aload_n 0, 1) := by decide +kernel
theorem dX12_layCanBe_11 : decode cX12_layCanBe 11 = .ok (.getfield 85, 3) := by decide +kernel
theorem dX12_layCanBe_14 : decode cX12_layCanBe 14 = .ok (.arraylength, 1) := by decide +kernel
theorem dX12_layCanBe_15 : decode cX12_layCanBe 15 = .ok (.if_icmp .ge 16, 3) := by decide +kernel
theorem dX12_layCanBe_18 : decode cX12_layCanBe 18 = .ok (.aload_n 0, 1) := by decide +kernel
theorem dX12_layCanBe_19 : decode cX12_layCanBe 19 = .ok (.getfield 85, 3) := by decide +kernel
theorem dX12_layCanBe_22 : decode cX12_layCanBe 22 = .ok (.iload_n 3, 1) := by decide +kernel
theorem dX12_layCanBe_23 : decode cX12_layCanBe 23 = .ok (.iconst 0, 1) := by decide +kernel
theorem dX12_layCanBe_24 : decode cX12_layCanBe 24 = .ok (.bastore, 1) := by decide +kernel
theorem dX12_layCanBe_25 : decode cX12_layCanBe 25 = .ok (.iinc 3 1, 3) := by decide +kernel
theorem dX12_layCanBe_28 : decode cX12_layCanBe 28 = .ok (.goto (-19), 3) := by decide +kernel
theorem dX12_layCanBe_31 : decode cX12_layCanBe 31 = .ok (.aload_n 0, 1) := by decide +kernel
theorem dX12_layCanBe_32 : decode cX12_layCanBe 32 = .ok (.getfield 85, 3) := by decide +kernel
theorem dX12_layCanBe_35 : decode cX12_layCanBe 35 = .ok (.iconst 0, 1) := by decide +kernel
theorem dX12_layCanBe_36 : decode cX12_layCanBe 36 = .ok (.aload_n 0, 1) := by decide +kernel
theorem dX12_layCanBe_37 : decode cX12_layCanBe 37 = .ok (.getfield 9, 3) := by decide +kernel
theorem dX12_layCanBe_40 : decode cX12_layCanBe 40 = .ok (.iconst 0, 1) := by decide +kernel
theorem dX12_layCanBe_41 : decode cX12_layCanBe 41 = .ok (.iaload, 1) := by decide +kernel
theorem dX12_layCanBe_42 : decode cX12_layCanBe 42 = .ok (.aload_n 0, 1) := by decide +kernel
theorem dX12_layCanBe_43 : decode cX12_layCanBe 43 = .ok (.getfield 9, 3) := by decide +kernel
theorem dX12_layCanBe_46 : decode cX12_layCanBe 46 = .ok (.bipush 6, 2) := by decide +kernel
theorem dX12_layCanBe_48 : decode cX12_layCanBe 48 = .ok (.iaload, 1) := by decide +kernel
theorem dX12_layCanBe_49 : decode cX12_layCanBe 49 = .ok (.invokestatic 371, 3) := by decide +kernel
theorem dX12_layCanBe_52 : decode cX12_layCanBe 52 = .ok (.iconst 1, 1) := by decide +kernel
theorem dX12_layCanBe_53 : decode cX12_layCanBe 53 = .ok (.bastore, 1) := by decide +kernel
theorem dX12_layCanBe_54 : decode cX12_layCanBe 54 = .ok (.iconst 0, 1) := by decide +kernel
theorem dX12_layCanBe_55 : decode cX12_layCanBe 55 = .ok (.istore_n 3, 1) := by decide +kernel
theorem dX12_layCanBe_56 : decode cX12_layCanBe 56 = .ok (.iload_n 3, 1) := by decide +kernel
theorem dX12_layCanBe_57 : decode cX12_layCanBe 57 = .ok (.iload_n 1, 1) := by decide +kernel
theorem dX12_layCanBe_58 : decode cX12_layCanBe 58 = .ok (.if_icmp .ge 195, 3) := by decide +kernel
theorem dX12_layCanBe_61 : decode cX12_layCanBe 61 = .ok (.iconst 0, 1) := by decide +kernel
theorem dX12_layCanBe_62 : decode cX12_layCanBe 62 = .ok (.istore 4, 2) := by decide +kernel
theorem dX12_layCanBe_64 : decode cX12_layCanBe 64 = .ok (.iload 4, 2) := by decide +kernel
theorem dX12_layCanBe_66 : decode cX12_layCanBe 66 = .ok (.aload_n 0, 1) := by decide +kernel
theorem dX12_layCanBe_67 : decode cX12_layCanBe 67 = .ok (.getfield 89, 3) := by decide +kernel
theorem dX12_layCanBe_70 : decode cX12_layCanBe 70 = .ok (.arraylength, 1) := by decide +kernel
theorem dX12_layCanBe_71 : decode cX12_layCanBe 71 = .ok (.if_icmp .ge 17, 3) := by decide +kernel
theorem dX12_layCanBe_74 : decode cX12_layCanBe 74 = .ok (.aload_n 0, 1) := by decide +kernel
theorem dX12_layCanBe_75 : decode cX12_layCanBe 75 = .ok (.getfield 89, 3) := by decide +kernel
theorem dX12_layCanBe_78 : decode cX12_layCanBe 78 = .ok (.iload 4, 2) := by decide +kernel
theorem dX12_layCanBe_80 : decode cX12_layCanBe 80 = .ok (.iconst 0, 1) := by decide +kernel
theorem dX12_layCanBe_81 : decode cX12_layCanBe 81 = .ok (.bastore, 1) := by decide +kernel
theorem dX12_layCanBe_82 : decode cX12_layCanBe 82 = .ok (.iinc 4 1, 3) := by decide +kernel
theorem dX12_layCanBe_85 : decode cX12_layCanBe 85 = .ok (.goto (-21), 3) := by decide +kernel
theorem dX12_layCanBe_88 : decode cX12_layCanBe 88 = .ok (.iconst 0, 1) := by decide +kernel
theorem dX12_layCanBe_89 : decode cX12_layCanBe 89 = .ok (.istore 4, 2) := by decide +kernel
theorem dX12_layCanBe_91 : decode cX12_layCanBe 91 = .ok (.iload 4, 2) := by decide +kernel
theorem dX12_layCanBe_93 : decode cX12_layCanBe 93 = .ok (.aload_n 0, 1) := by decide +kernel
theorem dX12_layCanBe_94 : decode cX12_layCanBe 94 = .ok (.getfield 129, 3) := by decide +kernel
theorem dX12_layCanBe_97 : decode cX12_layCanBe 97 = .ok (.if_icmp .ge 117, 3) := by decide +kernel
theorem dX12_layCanBe_100 : decode cX12_layCanBe 100 = .ok (.aload_n 0, 1) := by decide +kernel
theorem dX12_layCanBe_101 : decode cX12_layCanBe 101 = .ok (.iload 4, 2) := by decide +kernel
theorem dX12_layCanBe_103 : decode cX12_layCanBe 103 = .ok (.aload_n 0, 1) := by decide +kernel
theorem dX12_layCanBe_104 : decode cX12_layCanBe 104 = .ok (.getfield 9, 3) := by decide +kernel
theorem dX12_layCanBe_107 : decode cX12_layCanBe 107 = .ok (.iconst 5, 1) := by decide +kernel
theorem dX12_layCanBe_108 : decode cX12_layCanBe 108 = .ok (.iaload, 1) := by decide +kernel
theorem dX12_layCanBe_109 : decode cX12_layCanBe 109 = .ok (.iload_n 3, 1) := by decide +kernel
theorem dX12_layCanBe_110 : decode cX12_layCanBe 110 = .ok (.iadd, 1) := by decide +kernel
theorem dX12_layCanBe_111 : decode cX12_layCanBe 111 = .ok (.invokevirtual 356, 3) := by decide +kernel
theorem dX12_layCanBe_114 : decode cX12_layCanBe 114 = .ok (.istore 5, 2) := by decide +kernel
theorem dX12_layCanBe_116 : decode cX12_layCanBe 116 = .ok (.iconst 0, 1) := by decide +kernel
theorem dX12_layCanBe_117 : decode cX12_layCanBe 117 = .ok (.istore 6, 2) := by decide +kernel
theorem dX12_layCanBe_119 : decode cX12_layCanBe 119 = .ok (.iload 6, 2) := by decide +kernel
theorem dX12_layCanBe_121 : decode cX12_layCanBe 121 = .ok (.aload_n 0, 1) := by decide +kernel
theorem dX12_layCanBe_122 : decode cX12_layCanBe 122 = .ok (.getfield 129, 3) := by decide +kernel
theorem dX12_layCanBe_125 : decode cX12_layCanBe 125 = .ok (.if_icmp .ge 83, 3) := by decide +kernel
theorem dX12_layCanBe_128 : decode cX12_layCanBe 128 = .ok (.aload_n 0, 1) := by decide +kernel
theorem dX12_layCanBe_129 : decode cX12_layCanBe 129 = .ok (.iload 6, 2) := by decide +kernel
theorem dX12_layCanBe_131 : decode cX12_layCanBe 131 = .ok (.aload_n 0, 1) := by decide +kernel
theorem dX12_layCanBe_132 : decode cX12_layCanBe 132 = .ok (.getfield 9, 3) := by decide +kernel
theorem dX12_layCanBe_135 : decode cX12_layCanBe 135 = .ok (.iconst 5, 1) := by decide +kernel
theorem dX12_layCanBe_136 : decode cX12_layCanBe 136 = .ok (.iaload, 1) := by decide +kernel
theorem dX12_layCanBe_137 : decode cX12_layCanBe 137 = .ok (.iload_n 3, 1) := by decide +kernel
theorem dX12_layCanBe_138 : decode cX12_layCanBe 138 = .ok (.iadd, 1) := by decide +kernel
theorem dX12_layCanBe_139 : decode cX12_layCanBe 139 = .ok (.invokevirtual 365, 3) := by decide +kernel
theorem dX12_layCanBe_142 : decode cX12_layCanBe 142 = .ok (.istore 7, 2) := by decide +kernel
theorem dX12_layCanBe_144 : decode cX12_layCanBe 144 = .ok (.iconst 0, 1) := by decide +kernel
theorem dX12_layCanBe_145 : decode cX12_layCanBe 145 = .ok (.istore 8, 2) := by decide +kernel
theorem dX12_layCanBe_147 : decode cX12_layCanBe 147 = .ok (.iload 8, 2) := by decide +kernel
theorem dX12_layCanBe_149 : decode cX12_layCanBe 149 = .ok (.iload_n 2, 1) := by decide +kernel
theorem dX12_layCanBe_150 : decode cX12_layCanBe 150 = .ok (.if_icmp .ge 52, 3) := by decide +kernel
theorem dX12_layCanBe_153 : decode cX12_layCanBe 153 = .ok (.iload 5, 2) := by decide +kernel
theorem dX12_layCanBe_155 : decode cX12_layCanBe 155 = .ok (.iload 6, 2) := by decide +kernel
theorem dX12_layCanBe_157 : decode cX12_layCanBe 157 = .ok (.invokestatic 257, 3) := by decide +kernel
theorem dX12_layCanBe_160 : decode cX12_layCanBe 160 = .ok (.ifCond .eq 42, 3) := by decide +kernel
theorem dX12_layCanBe_163 : decode cX12_layCanBe 163 = .ok (.aload_n 0, 1) := by decide +kernel
theorem dX12_layCanBe_164 : decode cX12_layCanBe 164 = .ok (.getfield 85, 3) := by decide +kernel
theorem dX12_layCanBe_167 : decode cX12_layCanBe 167 = .ok (.iconst 0, 1) := by decide +kernel
theorem dX12_layCanBe_168 : decode cX12_layCanBe 168 = .ok (.iload 4, 2) := by decide +kernel
theorem dX12_layCanBe_170 : decode cX12_layCanBe 170 = .ok (.iload 8, 2) := by decide +kernel
theorem dX12_layCanBe_172 : decode cX12_layCanBe 172 = .ok (.invokestatic 371, 3) := by decide +kernel
theorem dX12_layCanBe_175 : decode cX12_layCanBe 175 = .ok (.baload, 1) := by decide +kernel
theorem dX12_layCanBe_176 : decode cX12_layCanBe 176 = .ok (.ifCond .eq 20, 3) := by decide +kernel
theorem dX12_layCanBe_179 : decode cX12_layCanBe 179 = .ok (.aload_n 0, 1) := by decide +kernel
theorem dX12_layCanBe_180 : decode cX12_layCanBe 180 = .ok (.getfield 89, 3) := by decide +kernel
theorem dX12_layCanBe_183 : decode cX12_layCanBe 183 = .ok (.iconst 0, 1) := by decide +kernel
theorem dX12_layCanBe_184 : decode cX12_layCanBe 184 = .ok (.iload 6, 2) := by decide +kernel
theorem dX12_layCanBe_186 : decode cX12_layCanBe 186 = .ok (.iload 8, 2) := by decide +kernel
theorem dX12_layCanBe_188 : decode cX12_layCanBe 188 = .ok (.iload 7, 2) := by decide +kernel
theorem dX12_layCanBe_190 : decode cX12_layCanBe 190 = .ok (.ior, 1) := by decide +kernel
theorem dX12_layCanBe_191 : decode cX12_layCanBe 191 = .ok (.invokestatic 371, 3) := by decide +kernel
theorem dX12_layCanBe_194 : decode cX12_layCanBe 194 = .ok (.iconst 1, 1) := by decide +kernel
theorem dX12_layCanBe_195 : decode cX12_layCanBe 195 = .ok (.bastore, 1) := by decide +kernel
theorem dX12_layCanBe_196 : decode cX12_layCanBe 196 = .ok (.iinc 8 1, 3) := by decide +kernel
theorem dX12_layCanBe_199 : decode cX12_layCanBe 199 = .ok (.goto (-52), 3) := by decide +kernel
theorem dX12_layCanBe_202 : decode cX12_layCanBe 202 = .ok (.iinc 6 1, 3) := by decide +kernel
theorem dX12_layCanBe_205 : decode cX12_layCanBe 205 = .ok (.goto (-86), 3) := by decide +kernel
theorem dX12_layCanBe_208 : decode cX12_layCanBe 208 = .ok (.iinc 4 1, 3) := by decide +kernel
theorem dX12_layCanBe_211 : decode cX12_layCanBe 211 = .ok (.goto (-120), 3) := by decide +kernel
theorem dX12_layCanBe_214 : decode cX12_layCanBe 214 = .ok (.iconst 0, 1) := by decide +kernel
theorem dX12_layCanBe_215 : decode cX12_layCanBe 215 = .ok (.istore 4, 2) := by decide +kernel
theorem dX12_layCanBe_217 : decode cX12_layCanBe 217 = .ok (.iload 4, 2) := by decide +kernel
theorem dX12_layCanBe_219 : decode cX12_layCanBe 219 = .ok (.aload_n 0, 1) := by decide +kernel
theorem dX12_layCanBe_220 : decode cX12_layCanBe 220 = .ok (.getfield 85, 3) := by decide +kernel
theorem dX12_layCanBe_223 : decode cX12_layCanBe 223 = .ok (.arraylength, 1) := by decide +kernel
theorem dX12_layCanBe_224 : decode cX12_layCanBe 224 = .ok (.if_icmp .ge 23, 3) := by decide +kernel
theorem dX12_layCanBe_227 : decode cX12_layCanBe 227 = .ok (.aload_n 0, 1) := by decide +kernel
theorem dX12_layCanBe_228 : decode cX12_layCanBe 228 = .ok (.getfield 85, 3) := by decide +kernel
theorem dX12_layCanBe_231 : decode cX12_layCanBe 231 = .ok (.iload 4, 2) := by decide +kernel
theorem dX12_layCanBe_233 : decode cX12_layCanBe 233 = .ok (.aload_n 0, 1) := by decide +kernel
theorem dX12_layCanBe_234 : decode cX12_layCanBe 234 = .ok (.getfield 89, 3) := by decide +kernel
theorem dX12_layCanBe_237 : decode cX12_layCanBe 237 = .ok (.iload 4, 2) := by decide +kernel
theorem dX12_layCanBe_239 : decode cX12_layCanBe 239 = .ok (.baload, 1) := by decide +kernel
theorem dX12_layCanBe_240 : decode cX12_layCanBe 240 = .ok (.bastore, 1) := by decide +kernel
theorem dX12_layCanBe_241 : decode cX12_layCanBe 241 = .ok (.iinc 4 1, 3) := by decide +kernel
theorem dX12_layCanBe_244 : decode cX12_layCanBe 244 = .ok (.goto (-27), 3) := by decide +kernel
theorem dX12_layCanBe_247 : decode cX12_layCanBe 247 = .ok (.iinc 3 1, 3) := by decide +kernel
theorem dX12_layCanBe_250 : decode cX12_layCanBe 250 = .ok (.goto (-194), 3) := by decide +kernel
theorem dX12_layCanBe_253 : decode cX12_layCanBe 253 = .ok (.return_, 1) := by decide +kernel
theorem dX12_isWithin_0 : decode cX12_isWithin 0 = .ok (.iconst 0, 1) := by decide +kernel
theorem dX12_isWithin_1 : decode cX12_isWithin 1 = .ok (.istore_n 2, 1) := by decide +kernel
theorem dX12_isWithin_2 : decode cX12_isWithin 2 = .ok (.iload_n 2, 1) := by decide +kernel
theorem dX12_isWithin_3 : decode cX12_isWithin 3 = .ok (.aload_n 0, 1) := by decide +kernel
theorem dX12_isWithin_4 : decode cX12_isWithin 4 = .ok (.getfield 129, 3) := by decide +kernel
theorem dX12_isWithin_7 : decode cX12_isWithin 7 = .ok (.if_icmp .ge 51, 3) := by decide +kernel
theorem dX12_isWithin_10 : decode cX12_isWithin 10 = .ok (.iconst 0, 1) := by decide +kernel
theorem dX12_isWithin_11 : decode cX12_isWithin 11 = .ok (.istore_n 3, 1) := by decide +kernel
theorem dX12_isWithin_12 : decode cX12_isWithin 12 = .ok (.iload_n 3, 1) := by decide +kernel
theorem dX12_isWithin_13 : decode cX12_isWithin 13 = .ok (.iconst 1, 1) := by decide +kernel
theorem dX12_isWithin_14 : decode cX12_isWithin 14 = .ok (.aload_n 0, 1) := by decide +kernel
theorem dX12_isWithin_15 : decode cX12_isWithin 15 = .ok (.getfield 136, 3) := by decide +kernel
theorem dX12_isWithin_18 : decode cX12_isWithin 18 = .ok (.ishl, 1) := by decide +kernel
theorem dX12_isWithin_19 : decode cX12_isWithin 19 = .ok (.if_icmp .ge 33, 3) := by decide +kernel
theorem dX12_isWithin_22 : decode cX12_isWithin 22 = .ok (.iload_n 1, 1) := by decide +kernel
theorem dX12_isWithin_23 : decode cX12_isWithin 23 = .ok (.iload_n 3, 1) := by decide +kernel
theorem dX12_isWithin_24 : decode cX12_isWithin 24 = .ok (.iconst (-1), 1) := by decide +kernel
theorem dX12_isWithin_25 : decode cX12_isWithin 25 = .ok (.ixor, 1) := by decide +kernel
theorem dX12_isWithin_26 : decode cX12_isWithin 26 = .ok (.iand, 1) := by decide +kernel
theorem dX12_isWithin_27 : decode cX12_isWithin 27 = .ok (.ifCond .ne 19, 3) := by decide +kernel
theorem dX12_isWithin_30 : decode cX12_isWithin 30 = .ok (.aload_n 0, 1) := by decide +kernel
theorem dX12_isWithin_31 : decode cX12_isWithin 31 = .ok (.getfield 85, 3) := by decide +kernel
theorem dX12_isWithin_34 : decode cX12_isWithin 34 = .ok (.iconst 0, 1) := by decide +kernel
theorem dX12_isWithin_35 : decode cX12_isWithin 35 = .ok (.iload_n 2, 1) := by decide +kernel
theorem dX12_isWithin_36 : decode cX12_isWithin 36 = .ok (.iload_n 3, 1) := by decide +kernel
theorem dX12_isWithin_37 : decode cX12_isWithin 37 = .ok (.invokestatic 371, 3) := by decide +kernel
theorem dX12_isWithin_40 : decode cX12_isWithin 40 = .ok (.baload, 1) := by decide +kernel
theorem dX12_isWithin_41 : decode cX12_isWithin 41 = .ok (.ifCond .eq 5, 3) := by decide +kernel
theorem dX12_isWithin_44 : decode cX12_isWithin 44 = .ok (.iconst 1, 1) := by decide +kernel
theorem dX12_isWithin_45 : decode cX12_isWithin 45 = .ok (.ireturn, 1) := by decide +kernel
theorem dX12_isWithin_46 : decode cX12_isWithin 46 = .ok (.iinc 3 1, 3) := by decide +kernel
theorem dX12_isWithin_49 : decode cX12_isWithin 49 = .ok (.goto (-37), 3) := by decide +kernel
theorem dX12_isWithin_52 : decode cX12_isWithin 52 = .ok (.iinc 2 1, 3) := by decide +kernel
theorem dX12_isWithin_55 : decode cX12_isWithin 55 = .ok (.goto (-53), 3) := by decide +kernel
theorem dX12_isWithin_58 : decode cX12_isWithin 58 = .ok (.iconst 0, 1) := by decide +kernel
theorem dX12_isWithin_59 : decode cX12_isWithin 59 = .ok (.ireturn, 1) := by decide +kernel
theorem dX12_clash_0 : decode cX12_clash 0 = .ok (.aload_n 0, 1) := by decide +kernel
theorem dX12_clash_1 : decode cX12_clash 1 = .ok (.iconst 0, 1) := by decide +kernel
theorem dX12_clash_2 : decode cX12_clash 2 = .ok (.putfield 123, 3) := by decide +kernel
theorem dX12_clash_5 : decode cX12_clash 5 = .ok (.aload_n 0, 1) := by decide +kernel
theorem dX12_clash_6 : decode cX12_clash 6 = .ok (.getfield 129, 3) := by decide +kernel
theorem dX12_clash_9 : decode cX12_clash 9 = .ok (.ifCond .ne 5, 3) := by decide +kernel
theorem dX12_clash_12 : decode cX12_clash 12 = .ok (.iconst (-1), 1) := by decide +kernel
theorem dX12_clash_13 : decode cX12_clash 13 = .ok (.ireturn, 1) := by decide +kernel
theorem dX12_clash_14 : decode cX12_clash 14 = .ok (.aload_n 0, 1) := by decide +kernel
theorem dX12_clash_15 : decode cX12_clash 15 = .ok (.iconst 0, 1) := by decide +kernel
theorem dX12_clash_16 : decode cX12_clash 16 = .ok (.invokevirtual 390, 3) := by decide +kernel
theorem dX12_clash_19 : decode cX12_clash 19 = .ok (.aload_n 0, 1) := by decide +kernel
theorem dX12_clash_20 : decode cX12_clash 20 = .ok (.bipush 10, 2) := by decide +kernel
theorem dX12_clash_22 : decode cX12_clash 22 = .ok (.invokevirtual 400, 3) := by decide +kernel
theorem dX12_clash_25 : decode cX12_clash 25 = .ok (.iconst (-1), 1) := by decide +kernel
theorem dX12_clash_26 : decode cX12_clash 26 = .ok (.istore_n 1, 1) := by decide +kernel
theorem dX12_clash_27 : decode cX12_clash 27 = .ok (.iconst 1, 1) := by decide +kernel
theorem dX12_clash_28 : decode cX12_clash 28 = .ok (.aload_n 0, 1) := by decide +kernel
theorem dX12_clash_29 : decode cX12_clash 29 = .ok (.getfield 136, 3) := by decide +kernel
theorem dX12_clash_32 : decode cX12_clash 32 = .ok (.ishl, 1) := by decide +kernel
theorem dX12_clash_33 : decode cX12_clash 33 = .ok (.iconst 1, 1) := by decide +kernel
theorem dX12_clash_34 : decode cX12_clash 34 = .ok (.isub, 1) := by decide +kernel
theorem dX12_clash_35 : decode cX12_clash 35 = .ok (.aload_n 0, 1) := by decide +kernel
theorem dX12_clash_36 : decode cX12_clash 36 = .ok (.getfield 9, 3) := by decide +kernel
theorem dX12_clash_39 : decode cX12_clash 39 = .ok (.bipush 6, 2) := by decide +kernel
theorem dX12_clash_41 : decode cX12_clash 41 = .ok (.iaload, 1) := by decide +kernel
theorem dX12_clash_42 : decode cX12_clash 42 = .ok (.iconst (-1), 1) := by decide +kernel
theorem dX12_clash_43 : decode cX12_clash 43 = .ok (.ixor, 1) := by decide +kernel
theorem dX12_clash_44 : decode cX12_clash 44 = .ok (.iand, 1) := by decide +kernel
theorem dX12_clash_45 : decode cX12_clash 45 = .ok (.istore_n 2, 1) := by decide +kernel
theorem dX12_clash_46 : decode cX12_clash 46 = .ok (.iconst 0, 1) := by decide +kernel
theorem dX12_clash_47 : decode cX12_clash 47 = .ok (.istore_n 3, 1) := by decide +kernel
theorem dX12_clash_48 : decode cX12_clash 48 = .ok (.iload_n 3, 1) := by decide +kernel
theorem dX12_clash_49 : decode cX12_clash 49 = .ok (.iload_n 2, 1) := by decide +kernel
theorem dX12_clash_50 : decode cX12_clash 50 = .ok (.if_icmp .gt 46, 3) := by decide +kernel
theorem dX12_clash_53 : decode cX12_clash 53 = .ok (.iload_n 3, 1) := by decide +kernel
theorem dX12_clash_54 : decode cX12_clash 54 = .ok (.iload_n 2, 1) := by decide +kernel
theorem dX12_clash_55 : decode cX12_clash 55 = .ok (.iconst (-1), 1) := by decide +kernel
theorem dX12_clash_56 : decode cX12_clash 56 = .ok (.ixor, 1) := by decide +kernel
theorem dX12_clash_57 : decode cX12_clash 57 = .ok (.iand, 1) := by decide +kernel
theorem dX12_clash_58 : decode cX12_clash 58 = .ok (.ifCond .ne 32, 3) := by decide +kernel
theorem dX12_clash_61 : decode cX12_clash 61 = .ok (.iload_n 1, 1) := by decide +kernel
theorem dX12_clash_62 : decode cX12_clash 62 = .ok (.iconst (-1), 1) := by decide +kernel
theorem dX12_clash_63 : decode cX12_clash 63 = .ok (.if_icmp .eq 14, 3) := by decide +kernel
theorem dX12_clash_66 : decode cX12_clash 66 = .ok (.iload_n 3, 1) := by decide +kernel
theorem dX12_clash_67 : decode cX12_clash 67 = .ok (.invokestatic 297, 3) := by decide +kernel
theorem dX12_clash_70 : decode cX12_clash 70 = .ok (.iload_n 1, 1) := by decide +kernel
theorem dX12_clash_71 : decode cX12_clash 71 = .ok (.invokestatic 297, 3) := by decide +kernel
theorem dX12_clash_74 : decode cX12_clash 74 = .ok (.if_icmp .ge 16, 3) := by decide +kernel
theorem dX12_clash_77 : decode cX12_clash 77 = .ok (.aload_n 0, 1) := by decide +kernel
theorem dX12_clash_78 : decode cX12_clash 78 = .ok (.iload_n 3, 1) := by decide +kernel
theorem dX12_clash_79 : decode cX12_clash 79 = .ok (.invokevirtual 403, 3) := by decide +kernel
theorem dX12_clash_82 : decode cX12_clash 82 = .ok (.ifCond .eq 6, 3) := by decide +kernel
theorem dX12_clash_85 : decode cX12_clash 85 = .ok (.goto 5, 3) := by decide +kernel
theorem dX12_clash_88 : decode cX12_clash 88 = .ok (.iload_n 3, 1) := by decide +kernel
theorem dX12_clash_89 : decode cX12_clash 89 = .ok (.istore_n 1, 1) := by decide +kernel
theorem dX12_clash_90 : decode cX12_clash 90 = .ok (.iinc 3 1, 3) := by decide +kernel
theorem dX12_clash_93 : decode cX12_clash 93 = .ok (.goto (-45), 3) := by decide +kernel
theorem dX12_clash_96 : decode cX12_clash 96 = .ok (.iload_n 1, 1) := by decide +kernel
theorem dX12_clash_97 : decode cX12_clash 97 = .ok (.iconst (-1), 1) := by decide +kernel
theorem dX12_clash_98 : decode cX12_clash 98 = .ok (.if_icmp .ne 6, 3) := by decide +kernel
theorem dX12_clash_101 : decode cX12_clash 101 = .ok (.bipush (-2), 2) := by decide +kernel
theorem dX12_clash_103 : decode cX12_clash 103 = .ok (.ireturn, 1) := by decide +kernel
theorem dX12_clash_104 : decode cX12_clash 104 = .ok (.aload_n 0, 1) := by decide +kernel
theorem dX12_clash_105 : decode cX12_clash 105 = .ok (.iconst 0, 1) := by decide +kernel
theorem dX12_clash_106 : decode cX12_clash 106 = .ok (.putfield 126, 3) := by decide +kernel
theorem dX12_clash_109 : decode cX12_clash 109 = .ok (.aload_n 0, 1) := by decide +kernel
theorem dX12_clash_110 : decode cX12_clash 110 = .ok (.iload_n 1, 1) := by decide +kernel
theorem dX12_clash_111 : decode cX12_clash 111 = .ok (.invokestatic 297, 3) := by decide +kernel
theorem dX12_clash_114 : decode cX12_clash 114 = .ok (.i2l, 1) := by decide +kernel
theorem dX12_clash_115 : decode cX12_clash 115 = .ok (.invokevirtual 331, 3) := by decide +kernel
theorem dX12_clash_118 : decode cX12_clash 118 = .ok (.iload_n 1, 1) := by decide +kernel
theorem dX12_clash_119 : decode cX12_clash 119 = .ok (.ireturn, 1) := by decide +kernel
theorem dX12_mostBids_0 : decode cX12_mostBids 0 = .ok (.aload_n 0, 1) := by decide +kernel
theorem dX12_mostBids_1 : decode cX12_mostBids 1 = .ok (.iload_n 1, 1) := by decide +kernel
theorem dX12_mostBids_2 : decode cX12_mostBids 2 = .ok (.invokevirtual 378, 3) := by decide +kernel
theorem dX12_mostBids_5 : decode cX12_mostBids 5 = .ok (.aload_n 0, 1) := by decide +kernel
theorem dX12_mostBids_6 : decode cX12_mostBids 6 = .ok (.getfield 73, 3) := by decide +kernel
theorem dX12_mostBids_9 : decode cX12_mostBids 9 = .ok (.iconst 0, 1) := by decide +kernel
theorem dX12_mostBids_10 : decode cX12_mostBids 10 = .ok (.aload_n 0, 1) := by decide +kernel
theorem dX12_mostBids_11 : decode cX12_mostBids 11 = .ok (.getfield 9, 3) := by decide +kernel
theorem dX12_mostBids_14 : decode cX12_mostBids 14 = .ok (.iconst 0, 1) := by decide +kernel
theorem dX12_mostBids_15 : decode cX12_mostBids 15 = .ok (.iaload, 1) := by decide +kernel
theorem dX12_mostBids_16 : decode cX12_mostBids 16 = .ok (.aload_n 0, 1) := by decide +kernel
theorem dX12_mostBids_17 : decode cX12_mostBids 17 = .ok (.getfield 9, 3) := by decide +kernel
theorem dX12_mostBids_20 : decode cX12_mostBids 20 = .ok (.bipush 6, 2) := by decide +kernel
theorem dX12_mostBids_22 : decode cX12_mostBids 22 = .ok (.iaload, 1) := by decide +kernel
theorem dX12_mostBids_23 : decode cX12_mostBids 23 = .ok (.invokestatic 371, 3) := by decide +kernel
theorem dX12_mostBids_26 : decode cX12_mostBids 26 = .ok (.iaload, 1) := by decide +kernel
theorem dX12_mostBids_27 : decode cX12_mostBids 27 = .ok (.ireturn, 1) := by decide +kernel
theorem dX12_worth_0 : decode cX12_worth 0 = .ok (.aload_n 0, 1) := by decide +kernel
theorem dX12_worth_1 : decode cX12_worth 1 = .ok (.iconst 0, 1) := by decide +kernel
theorem dX12_worth_2 : decode cX12_worth 2 = .ok (.putfield 123, 3) := by decide +kernel
theorem dX12_worth_5 : decode cX12_worth 5 = .ok (.aload_n 0, 1) := by decide +kernel
theorem dX12_worth_6 : decode cX12_worth 6 = .ok (.iload_n 1, 1) := by decide +kernel
theorem dX12_worth_7 : decode cX12_worth 7 = .ok (.invokevirtual 274, 3) := by decide +kernel
theorem dX12_worth_10 : decode cX12_worth 10 = .ok (.ifCond .eq 11, 3) := by decide +kernel
theorem dX12_worth_13 : decode cX12_worth 13 = .ok (.aload_n 0, 1) := by decide +kernel
theorem dX12_worth_14 : decode cX12_worth 14 = .ok (.iload_n 2, 1) := by decide +kernel
theorem dX12_worth_15 : decode cX12_worth 15 = .ok (.invokevirtual 387, 3) := by decide +kernel
theorem dX12_worth_18 : decode cX12_worth 18 = .ok (.ifCond .ne 5, 3) := by decide +kernel
theorem dX12_worth_21 : decode cX12_worth 21 = .ok (.iconst (-1), 1) := by decide +kernel
theorem dX12_worth_22 : decode cX12_worth 22 = .ok (.ireturn, 1) := by decide +kernel
theorem dX12_worth_23 : decode cX12_worth 23 = .ok (.aload_n 0, 1) := by decide +kernel
theorem dX12_worth_24 : decode cX12_worth 24 = .ok (.getfield 9, 3) := by decide +kernel
theorem dX12_worth_27 : decode cX12_worth 27 = .ok (.bipush 6, 2) := by decide +kernel
theorem dX12_worth_29 : decode cX12_worth 29 = .ok (.iaload, 1) := by decide +kernel
theorem dX12_worth_30 : decode cX12_worth 30 = .ok (.iload_n 1, 1) := by decide +kernel
theorem dX12_worth_31 : decode cX12_worth 31 = .ok (.invokestatic 257, 3) := by decide +kernel
theorem dX12_worth_34 : decode cX12_worth 34 = .ok (.ifCond .eq 6, 3) := by decide +kernel
theorem dX12_worth_37 : decode cX12_worth 37 = .ok (.bipush (-2), 2) := by decide +kernel
theorem dX12_worth_39 : decode cX12_worth 39 = .ok (.ireturn, 1) := by decide +kernel
theorem dX12_worth_40 : decode cX12_worth 40 = .ok (.aload_n 0, 1) := by decide +kernel
theorem dX12_worth_41 : decode cX12_worth 41 = .ok (.iconst 1, 1) := by decide +kernel
theorem dX12_worth_42 : decode cX12_worth 42 = .ok (.invokevirtual 390, 3) := by decide +kernel
theorem dX12_worth_45 : decode cX12_worth 45 = .ok (.aload_n 0, 1) := by decide +kernel
theorem dX12_worth_46 : decode cX12_worth 46 = .ok (.iload_n 2, 1) := by decide +kernel
theorem dX12_worth_47 : decode cX12_worth 47 = .ok (.invokevirtual 406, 3) := by decide +kernel
theorem dX12_worth_50 : decode cX12_worth 50 = .ok (.istore_n 3, 1) := by decide +kernel
theorem dX12_worth_51 : decode cX12_worth 51 = .ok (.aload_n 0, 1) := by decide +kernel
theorem dX12_worth_52 : decode cX12_worth 52 = .ok (.getfield 76, 3) := by decide +kernel
theorem dX12_worth_55 : decode cX12_worth 55 = .ok (.iload_n 1, 1) := by decide +kernel
theorem dX12_worth_56 : decode cX12_worth 56 = .ok (.iconst 0, 1) := by decide +kernel
theorem dX12_worth_57 : decode cX12_worth 57 = .ok (.iastore, 1) := by decide +kernel
theorem dX12_worth_58 : decode cX12_worth 58 = .ok (.iload_n 3, 1) := by decide +kernel
theorem dX12_worth_59 : decode cX12_worth 59 = .ok (.aload_n 0, 1) := by decide +kernel
theorem dX12_worth_60 : decode cX12_worth 60 = .ok (.iload_n 2, 1) := by decide +kernel
theorem dX12_worth_61 : decode cX12_worth 61 = .ok (.invokevirtual 406, 3) := by decide +kernel
theorem dX12_worth_64 : decode cX12_worth 64 = .ok (.isub, 1) := by decide +kernel
theorem dX12_worth_65 : decode cX12_worth 65 = .ok (.ireturn, 1) := by decide +kernel
theorem dX12_longer_0 : decode cX12_longer 0 = .ok (.aload_n 0, 1) := by decide +kernel
theorem dX12_longer_1 : decode cX12_longer 1 = .ok (.iconst 0, 1) := by decide +kernel
theorem dX12_longer_2 : decode cX12_longer 2 = .ok (.putfield 123, 3) := by decide +kernel
theorem dX12_longer_5 : decode cX12_longer 5 = .ok (.aload_n 0, 1) := by decide +kernel
theorem dX12_longer_6 : decode cX12_longer 6 = .ok (.iload_n 1, 1) := by decide +kernel
theorem dX12_longer_7 : decode cX12_longer 7 = .ok (.invokevirtual 387, 3) := by decide +kernel
theorem dX12_longer_10 : decode cX12_longer 10 = .ok (.ifCond .ne 5, 3) := by decide +kernel
theorem dX12_longer_13 : decode cX12_longer 13 = .ok (.iconst (-1), 1) := by decide +kernel
theorem dX12_longer_14 : decode cX12_longer 14 = .ok (.ireturn, 1) := by decide +kernel
theorem dX12_longer_15 : decode cX12_longer 15 = .ok (.aload_n 0, 1) := by decide +kernel
theorem dX12_longer_16 : decode cX12_longer 16 = .ok (.iconst 1, 1) := by decide +kernel
theorem dX12_longer_17 : decode cX12_longer 17 = .ok (.invokevirtual 390, 3) := by decide +kernel
theorem dX12_longer_20 : decode cX12_longer 20 = .ok (.aload_n 0, 1) := by decide +kernel
theorem dX12_longer_21 : decode cX12_longer 21 = .ok (.iload_n 1, 1) := by decide +kernel
theorem dX12_longer_22 : decode cX12_longer 22 = .ok (.invokevirtual 406, 3) := by decide +kernel
theorem dX12_longer_25 : decode cX12_longer 25 = .ok (.istore_n 2, 1) := by decide +kernel
theorem dX12_longer_26 : decode cX12_longer 26 = .ok (.bipush (-2), 2) := by decide +kernel
theorem dX12_longer_28 : decode cX12_longer 28 = .ok (.istore_n 3, 1) := by decide +kernel
theorem dX12_longer_29 : decode cX12_longer 29 = .ok (.iconst 0, 1) := by decide +kernel
theorem dX12_longer_30 : decode cX12_longer 30 = .ok (.istore 4, 2) := by decide +kernel
theorem dX12_longer_32 : decode cX12_longer 32 = .ok (.iconst 0, 1) := by decide +kernel
theorem dX12_longer_33 : decode cX12_longer 33 = .ok (.istore 5, 2) := by decide +kernel
theorem dX12_longer_35 : decode cX12_longer 35 = .ok (.iload 5, 2) := by decide +kernel
theorem dX12_longer_37 : decode cX12_longer 37 = .ok (.aload_n 0, 1) := by decide +kernel
theorem dX12_longer_38 : decode cX12_longer 38 = .ok (.getfield 136, 3) := by decide +kernel
theorem dX12_longer_41 : decode cX12_longer 41 = .ok (.if_icmp .ge 87, 3) := by decide +kernel
theorem dX12_longer_44 : decode cX12_longer 44 = .ok (.aload_n 0, 1) := by decide +kernel
theorem dX12_longer_45 : decode cX12_longer 45 = .ok (.getfield 9, 3) := by decide +kernel
theorem dX12_longer_48 : decode cX12_longer 48 = .ok (.bipush 6, 2) := by decide +kernel
theorem dX12_longer_50 : decode cX12_longer 50 = .ok (.iaload, 1) := by decide +kernel
theorem dX12_longer_51 : decode cX12_longer 51 = .ok (.iload 5, 2) := by decide +kernel
theorem dX12_longer_53 : decode cX12_longer 53 = .ok (.invokestatic 257, 3) := by decide +kernel
theorem dX12_longer_56 : decode cX12_longer 56 = .ok (.ifCond .ne 66, 3) := by decide +kernel
theorem dX12_longer_59 : decode cX12_longer 59 = .ok (.aload_n 0, 1) := by decide +kernel
theorem dX12_longer_60 : decode cX12_longer 60 = .ok (.getfield 79, 3) := by decide +kernel
theorem dX12_longer_63 : decode cX12_longer 63 = .ok (.iload 5, 2) := by decide +kernel
theorem dX12_longer_65 : decode cX12_longer 65 = .ok (.iaload, 1) := by decide +kernel
theorem dX12_longer_66 : decode cX12_longer 66 = .ok (.bipush 99, 2) := by decide +kernel
theorem dX12_longer_68 : decode cX12_longer 68 = .ok (.if_icmp .ne 6, 3) := by decide +kernel
theorem dX12_longer_71 : decode cX12_longer 71 = .ok (.goto 51, 3) := by decide +kernel
theorem dX12_longer_74 : decode cX12_longer 74 = .ok (.aload_n 0, 1) := by decide +kernel
theorem dX12_longer_75 : decode cX12_longer 75 = .ok (.getfield 79, 3) := by decide +kernel
theorem dX12_longer_78 : decode cX12_longer 78 = .ok (.iload 5, 2) := by decide +kernel
theorem dX12_longer_80 : decode cX12_longer 80 = .ok (.dup2, 1) := by decide +kernel
theorem dX12_longer_81 : decode cX12_longer 81 = .ok (.iaload, 1) := by decide +kernel
theorem dX12_longer_82 : decode cX12_longer 82 = .ok (.iconst 1, 1) := by decide +kernel
theorem dX12_longer_83 : decode cX12_longer 83 = .ok (.iadd, 1) := by decide +kernel
theorem dX12_longer_84 : decode cX12_longer 84 = .ok (.iastore, 1) := by decide +kernel
theorem dX12_longer_85 : decode cX12_longer 85 = .ok (.aload_n 0, 1) := by decide +kernel
theorem dX12_longer_86 : decode cX12_longer 86 = .ok (.iload_n 1, 1) := by decide +kernel
theorem dX12_longer_87 : decode cX12_longer 87 = .ok (.invokevirtual 406, 3) := by decide +kernel
theorem dX12_longer_90 : decode cX12_longer 90 = .ok (.iload_n 2, 1) := by decide +kernel
theorem dX12_longer_91 : decode cX12_longer 91 = .ok (.isub, 1) := by decide +kernel
theorem dX12_longer_92 : decode cX12_longer 92 = .ok (.istore 6, 2) := by decide +kernel
theorem dX12_longer_94 : decode cX12_longer 94 = .ok (.aload_n 0, 1) := by decide +kernel
theorem dX12_longer_95 : decode cX12_longer 95 = .ok (.getfield 79, 3) := by decide +kernel
theorem dX12_longer_98 : decode cX12_longer 98 = .ok (.iload 5, 2) := by decide +kernel
theorem dX12_longer_100 : decode cX12_longer 100 = .ok (.dup2, 1) := by decide +kernel
theorem dX12_longer_101 : decode cX12_longer 101 = .ok (.iaload, 1) := by decide +kernel
theorem dX12_longer_102 : decode cX12_longer 102 = .ok (.iconst 1, 1) := by decide +kernel
theorem dX12_longer_103 : decode cX12_longer 103 = .ok (.isub, 1) := by decide +kernel
theorem dX12_longer_104 : decode cX12_longer 104 = .ok (.iastore, 1) := by decide +kernel
theorem dX12_longer_105 : decode cX12_longer 105 = .ok (.iload 6, 2) := by decide +kernel
theorem dX12_longer_107 : decode cX12_longer 107 = .ok (.iload 4, 2) := by decide +kernel
theorem dX12_longer_109 : decode cX12_longer 109 = .ok (.if_icmp .gt 6, 3) := by decide +kernel
theorem dX12_longer_112 : decode cX12_longer 112 = .ok (.goto 10, 3) := by decide +kernel
theorem dX12_longer_115 : decode cX12_longer 115 = .ok (.iload 5, 2) := by decide +kernel
theorem dX12_longer_117 : decode cX12_longer 117 = .ok (.istore_n 3, 1) := by decide +kernel
theorem dX12_longer_118 : decode cX12_longer 118 = .ok (.iload 6, 2) := by decide +kernel
theorem dX12_longer_120 : decode cX12_longer 120 = .ok (.istore 4, 2) := by decide +kernel
theorem dX12_longer_122 : decode cX12_longer 122 = .ok (.iinc 5 1, 3) := by decide +kernel
theorem dX12_longer_125 : decode cX12_longer 125 = .ok (.goto (-90), 3) := by decide +kernel
theorem dX12_longer_128 : decode cX12_longer 128 = .ok (.iload_n 3, 1) := by decide +kernel
theorem dX12_longer_129 : decode cX12_longer 129 = .ok (.ifCond .ge 6, 3) := by decide +kernel
theorem dX12_longer_132 : decode cX12_longer 132 = .ok (.bipush (-2), 2) := by decide +kernel
theorem dX12_longer_134 : decode cX12_longer 134 = .ok (.ireturn, 1) := by decide +kernel
theorem dX12_longer_135 : decode cX12_longer 135 = .ok (.aload_n 0, 1) := by decide +kernel
theorem dX12_longer_136 : decode cX12_longer 136 = .ok (.iconst 0, 1) := by decide +kernel
theorem dX12_longer_137 : decode cX12_longer 137 = .ok (.putfield 126, 3) := by decide +kernel
theorem dX12_longer_140 : decode cX12_longer 140 = .ok (.aload_n 0, 1) := by decide +kernel
theorem dX12_longer_141 : decode cX12_longer 141 = .ok (.iload 4, 2) := by decide +kernel
theorem dX12_longer_143 : decode cX12_longer 143 = .ok (.i2l, 1) := by decide +kernel
theorem dX12_longer_144 : decode cX12_longer 144 = .ok (.invokevirtual 331, 3) := by decide +kernel
theorem dX12_longer_147 : decode cX12_longer 147 = .ok (.iload_n 3, 1) := by decide +kernel
theorem dX12_longer_148 : decode cX12_longer 148 = .ok (.ireturn, 1) := by decide +kernel
theorem dX12_learns_0 : decode cX12_learns 0 = .ok (.aload_n 0, 1) := by decide +kernel
theorem dX12_learns_1 : decode cX12_learns 1 = .ok (.iconst 0, 1) := by decide +kernel
theorem dX12_learns_2 : decode cX12_learns 2 = .ok (.putfield 123, 3) := by decide +kernel
theorem dX12_learns_5 : decode cX12_learns 5 = .ok (.aload_n 0, 1) := by decide +kernel
theorem dX12_learns_6 : decode cX12_learns 6 = .ok (.iload_n 1, 1) := by decide +kernel
theorem dX12_learns_7 : decode cX12_learns 7 = .ok (.invokevirtual 387, 3) := by decide +kernel
theorem dX12_learns_10 : decode cX12_learns 10 = .ok (.ifCond .ne 5, 3) := by decide +kernel
theorem dX12_learns_13 : decode cX12_learns 13 = .ok (.iconst (-1), 1) := by decide +kernel
theorem dX12_learns_14 : decode cX12_learns 14 = .ok (.ireturn, 1) := by decide +kernel
theorem dX12_learns_15 : decode cX12_learns 15 = .ok (.aload_n 0, 1) := by decide +kernel
theorem dX12_learns_16 : decode cX12_learns 16 = .ok (.iconst 0, 1) := by decide +kernel
theorem dX12_learns_17 : decode cX12_learns 17 = .ok (.invokevirtual 390, 3) := by decide +kernel
theorem dX12_learns_20 : decode cX12_learns 20 = .ok (.aload_n 0, 1) := by decide +kernel
theorem dX12_learns_21 : decode cX12_learns 21 = .ok (.iload_n 1, 1) := by decide +kernel
theorem dX12_learns_22 : decode cX12_learns 22 = .ok (.aload_n 0, 1) := by decide +kernel
theorem dX12_learns_23 : decode cX12_learns 23 = .ok (.getfield 9, 3) := by decide +kernel
theorem dX12_learns_26 : decode cX12_learns 26 = .ok (.iconst 0, 1) := by decide +kernel
theorem dX12_learns_27 : decode cX12_learns 27 = .ok (.iaload, 1) := by decide +kernel
theorem dX12_learns_28 : decode cX12_learns 28 = .ok (.aload_n 0, 1) := by decide +kernel
theorem dX12_learns_29 : decode cX12_learns 29 = .ok (.getfield 9, 3) := by decide +kernel
theorem dX12_learns_32 : decode cX12_learns 32 = .ok (.bipush 6, 2) := by decide +kernel
theorem dX12_learns_34 : decode cX12_learns 34 = .ok (.iaload, 1) := by decide +kernel
theorem dX12_learns_35 : decode cX12_learns 35 = .ok (.invokevirtual 384, 3) := by decide +kernel
theorem dX12_learns_38 : decode cX12_learns 38 = .ok (.pop, 1) := by decide +kernel
theorem dX12_learns_39 : decode cX12_learns 39 = .ok (.aload_n 0, 1) := by decide +kernel
theorem dX12_learns_40 : decode cX12_learns 40 = .ok (.getfield 9, 3) := by decide +kernel
theorem dX12_learns_43 : decode cX12_learns 43 = .ok (.bipush 6, 2) := by decide +kernel
theorem dX12_learns_45 : decode cX12_learns 45 = .ok (.iaload, 1) := by decide +kernel
theorem dX12_learns_46 : decode cX12_learns 46 = .ok (.istore_n 2, 1) := by decide +kernel
theorem dX12_learns_47 : decode cX12_learns 47 = .ok (.iconst 0, 1) := by decide +kernel
theorem dX12_learns_48 : decode cX12_learns 48 = .ok (.istore_n 3, 1) := by decide +kernel
theorem dX12_learns_49 : decode cX12_learns 49 = .ok (.iconst (-1), 1) := by decide +kernel
theorem dX12_learns_50 : decode cX12_learns 50 = .ok (.istore 4, 2) := by decide +kernel
theorem dX12_learns_52 : decode cX12_learns 52 = .ok (.iconst 0, 1) := by decide +kernel
theorem dX12_learns_53 : decode cX12_learns 53 = .ok (.istore 5, 2) := by decide +kernel
theorem dX12_learns_55 : decode cX12_learns 55 = .ok (.iconst 0, 1) := by decide +kernel
theorem dX12_learns_56 : decode cX12_learns 56 = .ok (.istore 6, 2) := by decide +kernel
theorem dX12_learns_58 : decode cX12_learns 58 = .ok (.iload 6, 2) := by decide +kernel
theorem dX12_learns_60 : decode cX12_learns 60 = .ok (.iload_n 1, 1) := by decide +kernel
theorem dX12_learns_61 : decode cX12_learns 61 = .ok (.if_icmp .ge 115, 3) := by decide +kernel
theorem dX12_learns_64 : decode cX12_learns 64 = .ok (.aload_n 0, 1) := by decide +kernel
theorem dX12_learns_65 : decode cX12_learns 65 = .ok (.aload_n 0, 1) := by decide +kernel
theorem dX12_learns_66 : decode cX12_learns 66 = .ok (.getfield 82, 3) := by decide +kernel
theorem dX12_learns_69 : decode cX12_learns 69 = .ok (.iload 6, 2) := by decide +kernel
theorem dX12_learns_71 : decode cX12_learns 71 = .ok (.iaload, 1) := by decide +kernel
theorem dX12_learns_72 : decode cX12_learns 72 = .ok (.aload_n 0, 1) := by decide +kernel
theorem dX12_learns_73 : decode cX12_learns 73 = .ok (.getfield 9, 3) := by decide +kernel
theorem dX12_learns_76 : decode cX12_learns 76 = .ok (.iconst 5, 1) := by decide +kernel
theorem dX12_learns_77 : decode cX12_learns 77 = .ok (.iaload, 1) := by decide +kernel
theorem dX12_learns_78 : decode cX12_learns 78 = .ok (.iload 6, 2) := by decide +kernel
theorem dX12_learns_80 : decode cX12_learns 80 = .ok (.iadd, 1) := by decide +kernel
theorem dX12_learns_81 : decode cX12_learns 81 = .ok (.invokevirtual 365, 3) := by decide +kernel
theorem dX12_learns_84 : decode cX12_learns 84 = .ok (.iload_n 2, 1) := by decide +kernel
theorem dX12_learns_85 : decode cX12_learns 85 = .ok (.iconst (-1), 1) := by decide +kernel
theorem dX12_learns_86 : decode cX12_learns 86 = .ok (.ixor, 1) := by decide +kernel
theorem dX12_learns_87 : decode cX12_learns 87 = .ok (.iand, 1) := by decide +kernel
theorem dX12_learns_88 : decode cX12_learns 88 = .ok (.istore 7, 2) := by decide +kernel
theorem dX12_learns_90 : decode cX12_learns 90 = .ok (.iload_n 2, 1) := by decide +kernel
theorem dX12_learns_91 : decode cX12_learns 91 = .ok (.iload 7, 2) := by decide +kernel
theorem dX12_learns_93 : decode cX12_learns 93 = .ok (.ior, 1) := by decide +kernel
theorem dX12_learns_94 : decode cX12_learns 94 = .ok (.istore_n 2, 1) := by decide +kernel
theorem dX12_learns_95 : decode cX12_learns 95 = .ok (.iload 5, 2) := by decide +kernel
theorem dX12_learns_97 : decode cX12_learns 97 = .ok (.iload 7, 2) := by decide +kernel
theorem dX12_learns_99 : decode cX12_learns 99 = .ok (.ifCond .ne 7, 3) := by decide +kernel
theorem dX12_learns_102 : decode cX12_learns 102 = .ok (.iconst 0, 1) := by decide +kernel
theorem dX12_learns_103 : decode cX12_learns 103 = .ok (.goto 4, 3) := by decide +kernel
theorem dX12_learns_106 : decode cX12_learns 106 = .ok (.iconst 1, 1) := by decide +kernel
theorem dX12_learns_107 : decode cX12_learns 107 = .ok (.iadd, 1) := by decide +kernel
theorem dX12_learns_108 : decode cX12_learns 108 = .ok (.istore 5, 2) := by decide +kernel
theorem dX12_learns_110 : decode cX12_learns 110 = .ok (.iconst 0, 1) := by decide +kernel
theorem dX12_learns_111 : decode cX12_learns 111 = .ok (.istore 8, 2) := by decide +kernel
theorem dX12_learns_113 : decode cX12_learns 113 = .ok (.iload 8, 2) := by decide +kernel
theorem dX12_learns_115 : decode cX12_learns 115 = .ok (.aload_n 0, 1) := by decide +kernel
theorem dX12_learns_116 : decode cX12_learns 116 = .ok (.getfield 136, 3) := by decide +kernel
theorem dX12_learns_119 : decode cX12_learns 119 = .ok (.if_icmp .ge 33, 3) := by decide +kernel
theorem dX12_learns_122 : decode cX12_learns 122 = .ok (.iload_n 3, 1) := by decide +kernel
theorem dX12_learns_123 : decode cX12_learns 123 = .ok (.iload 7, 2) := by decide +kernel
theorem dX12_learns_125 : decode cX12_learns 125 = .ok (.iload 8, 2) := by decide +kernel
theorem dX12_learns_127 : decode cX12_learns 127 = .ok (.invokestatic 257, 3) := by decide +kernel
theorem dX12_learns_130 : decode cX12_learns 130 = .ok (.ifCond .eq 13, 3) := by decide +kernel
theorem dX12_learns_133 : decode cX12_learns 133 = .ok (.aload_n 0, 1) := by decide +kernel
theorem dX12_learns_134 : decode cX12_learns 134 = .ok (.getfield 25, 3) := by decide +kernel
theorem dX12_learns_137 : decode cX12_learns 137 = .ok (.iload 8, 2) := by decide +kernel
theorem dX12_learns_139 : decode cX12_learns 139 = .ok (.iaload, 1) := by decide +kernel
theorem dX12_learns_140 : decode cX12_learns 140 = .ok (.goto 4, 3) := by decide +kernel
theorem dX12_learns_143 : decode cX12_learns 143 = .ok (.iconst 0, 1) := by decide +kernel
theorem dX12_learns_144 : decode cX12_learns 144 = .ok (.iadd, 1) := by decide +kernel
theorem dX12_learns_145 : decode cX12_learns 145 = .ok (.istore_n 3, 1) := by decide +kernel
theorem dX12_learns_146 : decode cX12_learns 146 = .ok (.iinc 8 1, 3) := by decide +kernel
theorem dX12_learns_149 : decode cX12_learns 149 = .ok (.goto (-36), 3) := by decide +kernel
theorem dX12_learns_152 : decode cX12_learns 152 = .ok (.iload 4, 2) := by decide +kernel
theorem dX12_learns_154 : decode cX12_learns 154 = .ok (.iconst (-1), 1) := by decide +kernel
theorem dX12_learns_155 : decode cX12_learns 155 = .ok (.if_icmp .ne 15, 3) := by decide +kernel
theorem dX12_learns_158 : decode cX12_learns 158 = .ok (.iload_n 3, 1) := by decide +kernel
theorem dX12_learns_159 : decode cX12_learns 159 = .ok (.bipush 9, 2) := by decide +kernel
theorem dX12_learns_161 : decode cX12_learns 161 = .ok (.if_icmp .lt 9, 3) := by decide +kernel
theorem dX12_learns_164 : decode cX12_learns 164 = .ok (.iload 6, 2) := by decide +kernel
theorem dX12_learns_166 : decode cX12_learns 166 = .ok (.iconst 1, 1) := by decide +kernel
theorem dX12_learns_167 : decode cX12_learns 167 = .ok (.iadd, 1) := by decide +kernel
theorem dX12_learns_168 : decode cX12_learns 168 = .ok (.istore 4, 2) := by decide +kernel
theorem dX12_learns_170 : decode cX12_learns 170 = .ok (.iinc 6 1, 3) := by decide +kernel
theorem dX12_learns_173 : decode cX12_learns 173 = .ok (.goto (-115), 3) := by decide +kernel
theorem dX12_learns_176 : decode cX12_learns 176 = .ok (.aload_n 0, 1) := by decide +kernel
theorem dX12_learns_177 : decode cX12_learns 177 = .ok (.iconst 0, 1) := by decide +kernel
theorem dX12_learns_178 : decode cX12_learns 178 = .ok (.putfield 126, 3) := by decide +kernel
theorem dX12_learns_181 : decode cX12_learns 181 = .ok (.aload_n 0, 1) := by decide +kernel
theorem dX12_learns_182 : decode cX12_learns 182 = .ok (.iload 4, 2) := by decide +kernel
theorem dX12_learns_184 : decode cX12_learns 184 = .ok (.i2l, 1) := by decide +kernel
theorem dX12_learns_185 : decode cX12_learns 185 = .ok (.invokevirtual 331, 3) := by decide +kernel
theorem dX12_learns_188 : decode cX12_learns 188 = .ok (.aload_n 0, 1) := by decide +kernel
theorem dX12_learns_189 : decode cX12_learns 189 = .ok (.iload 5, 2) := by decide +kernel
theorem dX12_learns_191 : decode cX12_learns 191 = .ok (.i2l, 1) := by decide +kernel
theorem dX12_learns_192 : decode cX12_learns 192 = .ok (.invokevirtual 331, 3) := by decide +kernel
theorem dX12_learns_195 : decode cX12_learns 195 = .ok (.iload_n 3, 1) := by decide +kernel
theorem dX12_learns_196 : decode cX12_learns 196 = .ok (.ireturn, 1) := by decide +kernel
theorem dX12_second_0 : decode cX12_second 0 = .ok (.aload_n 0, 1) := by decide +kernel
theorem dX12_second_1 : decode cX12_second 1 = .ok (.iconst 0, 1) := by decide +kernel
theorem dX12_second_2 : decode cX12_second 2 = .ok (.putfield 123, 3) := by decide +kernel
theorem dX12_second_5 : decode cX12_second 5 = .ok (.aload_n 0, 1) := by decide +kernel
theorem dX12_second_6 : decode cX12_second 6 = .ok (.iload_n 1, 1) := by decide +kernel
theorem dX12_second_7 : decode cX12_second 7 = .ok (.invokevirtual 261, 3) := by decide +kernel
theorem dX12_second_10 : decode cX12_second 10 = .ok (.ifCond .eq 13, 3) := by decide +kernel
theorem dX12_second_13 : decode cX12_second 13 = .ok (.iload_n 2, 1) := by decide +kernel
theorem dX12_second_14 : decode cX12_second 14 = .ok (.iconst 0, 1) := by decide +kernel
theorem dX12_second_15 : decode cX12_second 15 = .ok (.bipush 6, 2) := by decide +kernel
theorem dX12_second_17 : decode cX12_second 17 = .ok (.invokestatic 132, 3) := by decide +kernel
theorem dX12_second_20 : decode cX12_second 20 = .ok (.ifCond .ne 5, 3) := by decide +kernel
theorem dX12_second_23 : decode cX12_second 23 = .ok (.iconst (-1), 1) := by decide +kernel
theorem dX12_second_24 : decode cX12_second 24 = .ok (.ireturn, 1) := by decide +kernel
theorem dX12_second_25 : decode cX12_second 25 = .ok (.aload_n 0, 1) := by decide +kernel
theorem dX12_second_26 : decode cX12_second 26 = .ok (.iconst 1, 1) := by decide +kernel
theorem dX12_second_27 : decode cX12_second 27 = .ok (.invokevirtual 390, 3) := by decide +kernel
theorem dX12_second_30 : decode cX12_second 30 = .ok (.aload_n 0, 1) := by decide +kernel
theorem dX12_second_31 : decode cX12_second 31 = .ok (.iload_n 2, 1) := by decide +kernel
theorem dX12_second_32 : decode cX12_second 32 = .ok (.aload_n 0, 1) := by decide +kernel
theorem dX12_second_33 : decode cX12_second 33 = .ok (.getfield 9, 3) := by decide +kernel
theorem dX12_second_36 : decode cX12_second 36 = .ok (.iconst 0, 1) := by decide +kernel
theorem dX12_second_37 : decode cX12_second 37 = .ok (.iaload, 1) := by decide +kernel
theorem dX12_second_38 : decode cX12_second 38 = .ok (.aload_n 0, 1) := by decide +kernel
theorem dX12_second_39 : decode cX12_second 39 = .ok (.getfield 9, 3) := by decide +kernel
theorem dX12_second_42 : decode cX12_second 42 = .ok (.bipush 6, 2) := by decide +kernel
theorem dX12_second_44 : decode cX12_second 44 = .ok (.iaload, 1) := by decide +kernel
theorem dX12_second_45 : decode cX12_second 45 = .ok (.invokevirtual 384, 3) := by decide +kernel
theorem dX12_second_48 : decode cX12_second 48 = .ok (.pop, 1) := by decide +kernel
theorem dX12_second_49 : decode cX12_second 49 = .ok (.aload_n 0, 1) := by decide +kernel
theorem dX12_second_50 : decode cX12_second 50 = .ok (.getfield 381, 3) := by decide +kernel
theorem dX12_second_53 : decode cX12_second 53 = .ok (.istore_n 3, 1) := by decide +kernel
theorem dX12_second_54 : decode cX12_second 54 = .ok (.iconst 0, 1) := by decide +kernel
theorem dX12_second_55 : decode cX12_second 55 = .ok (.istore 4, 2) := by decide +kernel
theorem dX12_second_57 : decode cX12_second 57 = .ok (.iload 4, 2) := by decide +kernel
theorem dX12_second_59 : decode cX12_second 59 = .ok (.aload_n 0, 1) := by decide +kernel
theorem dX12_second_60 : decode cX12_second 60 = .ok (.getfield 136, 3) := by decide +kernel
theorem dX12_second_63 : decode cX12_second 63 = .ok (.if_icmp .ge 25, 3) := by decide +kernel
theorem dX12_second_66 : decode cX12_second 66 = .ok (.aload_n 0, 1) := by decide +kernel
theorem dX12_second_67 : decode cX12_second 67 = .ok (.getfield 76, 3) := by decide +kernel
theorem dX12_second_70 : decode cX12_second 70 = .ok (.iload 4, 2) := by decide +kernel
theorem dX12_second_72 : decode cX12_second 72 = .ok (.aload_n 0, 1) := by decide +kernel
theorem dX12_second_73 : decode cX12_second 73 = .ok (.getfield 22, 3) := by decide +kernel
theorem dX12_second_76 : decode cX12_second 76 = .ok (.iload 4, 2) := by decide +kernel
theorem dX12_second_78 : decode cX12_second 78 = .ok (.iaload, 1) := by decide +kernel
theorem dX12_second_79 : decode cX12_second 79 = .ok (.iconst 2, 1) := by decide +kernel
theorem dX12_second_80 : decode cX12_second 80 = .ok (.idiv, 1) := by decide +kernel
theorem dX12_second_81 : decode cX12_second 81 = .ok (.iastore, 1) := by decide +kernel
theorem dX12_second_82 : decode cX12_second 82 = .ok (.iinc 4 1, 3) := by decide +kernel
theorem dX12_second_85 : decode cX12_second 85 = .ok (.goto (-28), 3) := by decide +kernel
theorem dX12_second_88 : decode cX12_second 88 = .ok (.aload_n 0, 1) := by decide +kernel
theorem dX12_second_89 : decode cX12_second 89 = .ok (.iload_n 2, 1) := by decide +kernel
theorem dX12_second_90 : decode cX12_second 90 = .ok (.invokevirtual 378, 3) := by decide +kernel
theorem dX12_second_93 : decode cX12_second 93 = .ok (.aload_n 0, 1) := by decide +kernel
theorem dX12_second_94 : decode cX12_second 94 = .ok (.getfield 73, 3) := by decide +kernel
theorem dX12_second_97 : decode cX12_second 97 = .ok (.iconst 0, 1) := by decide +kernel
theorem dX12_second_98 : decode cX12_second 98 = .ok (.iload_n 1, 1) := by decide +kernel
theorem dX12_second_99 : decode cX12_second 99 = .ok (.iload_n 3, 1) := by decide +kernel
theorem dX12_second_100 : decode cX12_second 100 = .ok (.invokestatic 371, 3) := by decide +kernel
theorem dX12_second_103 : decode cX12_second 103 = .ok (.iaload, 1) := by decide +kernel
theorem dX12_second_104 : decode cX12_second 104 = .ok (.ireturn, 1) := by decide +kernel
theorem dX12_readTune_0 : decode cX12_readTune 0 = .ok (.aload_n 0, 1) := by decide +kernel
theorem dX12_readTune_1 : decode cX12_readTune 1 = .ok (.getfield 139, 3) := by decide +kernel
theorem dX12_readTune_4 : decode cX12_readTune 4 = .ok (.istore_n 1, 1) := by decide +kernel
theorem dX12_readTune_5 : decode cX12_readTune 5 = .ok (.aload_n 0, 1) := by decide +kernel
theorem dX12_readTune_6 : decode cX12_readTune 6 = .ok (.iconst 0, 1) := by decide +kernel
theorem dX12_readTune_7 : decode cX12_readTune 7 = .ok (.putfield 139, 3) := by decide +kernel
theorem dX12_readTune_10 : decode cX12_readTune 10 = .ok (.iconst 0, 1) := by decide +kernel
theorem dX12_readTune_11 : decode cX12_readTune 11 = .ok (.istore_n 2, 1) := by decide +kernel
theorem dX12_readTune_12 : decode cX12_readTune 12 = .ok (.iload_n 2, 1) := by decide +kernel
theorem dX12_readTune_13 : decode cX12_readTune 13 = .ok (.iload_n 1, 1) := by decide +kernel
theorem dX12_readTune_14 : decode cX12_readTune 14 = .ok (.if_icmp .ge 35, 3) := by decide +kernel
theorem dX12_readTune_17 : decode cX12_readTune 17 = .ok (.iload_n 2, 1) := by decide +kernel
theorem dX12_readTune_18 : decode cX12_readTune 18 = .ok (.bipush 12, 2) := by decide +kernel
theorem dX12_readTune_20 : decode cX12_readTune 20 = .ok (.if_icmp .eq 19, 3) := by decide +kernel
theorem dX12_readTune_23 : decode cX12_readTune 23 = .ok (.aload_n 0, 1) := by decide +kernel
theorem dX12_readTune_24 : decode cX12_readTune 24 = .ok (.getfield 35, 3) := by decide +kernel
theorem dX12_readTune_27 : decode cX12_readTune 27 = .ok (.iload_n 2, 1) := by decide +kernel
theorem dX12_readTune_28 : decode cX12_readTune 28 = .ok (.baload, 1) := by decide +kernel
theorem dX12_readTune_29 : decode cX12_readTune 29 = .ok (.bipush 97, 2) := by decide +kernel
theorem dX12_readTune_31 : decode cX12_readTune 31 = .ok (.bipush 103, 2) := by decide +kernel
theorem dX12_readTune_33 : decode cX12_readTune 33 = .ok (.invokestatic 132, 3) := by decide +kernel
theorem dX12_readTune_36 : decode cX12_readTune 36 = .ok (.ifCond .ne 7, 3) := by decide +kernel
theorem dX12_readTune_39 : decode cX12_readTune 39 = .ok (.iconst (-1), 1) := by decide +kernel
theorem dX12_readTune_40 : decode cX12_readTune 40 = .ok (.iload_n 2, 1) := by decide +kernel
theorem dX12_readTune_41 : decode cX12_readTune 41 = .ok (.isub, 1) := by decide +kernel
theorem dX12_readTune_42 : decode cX12_readTune 42 = .ok (.ireturn, 1) := by decide +kernel
theorem dX12_readTune_43 : decode cX12_readTune 43 = .ok (.iinc 2 1, 3) := by decide +kernel
theorem dX12_readTune_46 : decode cX12_readTune 46 = .ok (.goto (-34), 3) := by decide +kernel
theorem dX12_readTune_49 : decode cX12_readTune 49 = .ok (.iload_n 1, 1) := by decide +kernel
theorem dX12_readTune_50 : decode cX12_readTune 50 = .ok (.ifCond .ne 5, 3) := by decide +kernel
theorem dX12_readTune_53 : decode cX12_readTune 53 = .ok (.iconst (-1), 1) := by decide +kernel
theorem dX12_readTune_54 : decode cX12_readTune 54 = .ok (.ireturn, 1) := by decide +kernel
theorem dX12_readTune_55 : decode cX12_readTune 55 = .ok (.iconst 0, 1) := by decide +kernel
theorem dX12_readTune_56 : decode cX12_readTune 56 = .ok (.istore_n 2, 1) := by decide +kernel
theorem dX12_readTune_57 : decode cX12_readTune 57 = .ok (.iload_n 2, 1) := by decide +kernel
theorem dX12_readTune_58 : decode cX12_readTune 58 = .ok (.iload_n 1, 1) := by decide +kernel
theorem dX12_readTune_59 : decode cX12_readTune 59 = .ok (.if_icmp .ge 21, 3) := by decide +kernel
theorem dX12_readTune_62 : decode cX12_readTune 62 = .ok (.aload_n 0, 1) := by decide +kernel
theorem dX12_readTune_63 : decode cX12_readTune 63 = .ok (.getfield 101, 3) := by decide +kernel
theorem dX12_readTune_66 : decode cX12_readTune 66 = .ok (.iload_n 2, 1) := by decide +kernel
theorem dX12_readTune_67 : decode cX12_readTune 67 = .ok (.aload_n 0, 1) := by decide +kernel
theorem dX12_readTune_68 : decode cX12_readTune 68 = .ok (.getfield 35, 3) := by decide +kernel
theorem dX12_readTune_71 : decode cX12_readTune 71 = .ok (.iload_n 2, 1) := by decide +kernel
theorem dX12_readTune_72 : decode cX12_readTune 72 = .ok (.baload, 1) := by decide +kernel
theorem dX12_readTune_73 : decode cX12_readTune 73 = .ok (.bastore, 1) := by decide +kernel
theorem dX12_readTune_74 : decode cX12_readTune 74 = .ok (.iinc 2 1, 3) := by decide +kernel
theorem dX12_readTune_77 : decode cX12_readTune 77 = .ok (.goto (-20), 3) := by decide +kernel
theorem dX12_readTune_80 : decode cX12_readTune 80 = .ok (.iload_n 1, 1) := by decide +kernel
theorem dX12_readTune_81 : decode cX12_readTune 81 = .ok (.ireturn, 1) := by decide +kernel
theorem dX12_tune_0 : decode cX12_tune 0 = .ok (.aload_n 0, 1) := by decide +kernel
theorem dX12_tune_1 : decode cX12_tune 1 = .ok (.iconst 0, 1) := by decide +kernel
theorem dX12_tune_2 : decode cX12_tune 2 = .ok (.putfield 123, 3) := by decide +kernel
theorem dX12_tune_5 : decode cX12_tune 5 = .ok (.aload_n 0, 1) := by decide +kernel
theorem dX12_tune_6 : decode cX12_tune 6 = .ok (.iload_n 1, 1) := by decide +kernel
theorem dX12_tune_7 : decode cX12_tune 7 = .ok (.invokevirtual 261, 3) := by decide +kernel
theorem dX12_tune_10 : decode cX12_tune 10 = .ok (.ifCond .eq 12, 3) := by decide +kernel
theorem dX12_tune_13 : decode cX12_tune 13 = .ok (.aload_n 0, 1) := by decide +kernel
theorem dX12_tune_14 : decode cX12_tune 14 = .ok (.getfield 409, 3) := by decide +kernel
theorem dX12_tune_17 : decode cX12_tune 17 = .ok (.bipush 8, 2) := by decide +kernel
theorem dX12_tune_19 : decode cX12_tune 19 = .ok (.if_icmp .ne 11, 3) := by decide +kernel
theorem dX12_tune_22 : decode cX12_tune 22 = .ok (.aload_n 0, 1) := by decide +kernel
theorem dX12_tune_23 : decode cX12_tune 23 = .ok (.iconst 0, 1) := by decide +kernel
theorem dX12_tune_24 : decode cX12_tune 24 = .ok (.putfield 139, 3) := by decide +kernel
theorem dX12_tune_27 : decode cX12_tune 27 = .ok (.bipush (-100), 2) := by decide +kernel
theorem dX12_tune_29 : decode cX12_tune 29 = .ok (.ireturn, 1) := by decide +kernel
theorem dX12_tune_30 : decode cX12_tune 30 = .ok (.aload_n 0, 1) := by decide +kernel
theorem dX12_tune_31 : decode cX12_tune 31 = .ok (.invokevirtual 412, 3) := by decide +kernel
theorem dX12_tune_34 : decode cX12_tune 34 = .ok (.istore_n 2, 1) := by decide +kernel
theorem dX12_tune_35 : decode cX12_tune 35 = .ok (.iload_n 2, 1) := by decide +kernel
theorem dX12_tune_36 : decode cX12_tune 36 = .ok (.ifCond .ge 5, 3) := by decide +kernel
theorem dX12_tune_39 : decode cX12_tune 39 = .ok (.iload_n 2, 1) := by decide +kernel
theorem dX12_tune_40 : decode cX12_tune 40 = .ok (.ireturn, 1) := by decide +kernel
theorem dX12_tune_41 : decode cX12_tune 41 = .ok (.iconst 0, 1) := by decide +kernel
theorem dX12_tune_42 : decode cX12_tune 42 = .ok (.istore_n 3, 1) := by decide +kernel
theorem dX12_tune_43 : decode cX12_tune 43 = .ok (.iload_n 3, 1) := by decide +kernel
theorem dX12_tune_44 : decode cX12_tune 44 = .ok (.iload_n 2, 1) := by decide +kernel
theorem dX12_tune_45 : decode cX12_tune 45 = .ok (.if_icmp .ge 29, 3) := by decide +kernel
theorem dX12_tune_48 : decode cX12_tune 48 = .ok (.aload_n 0, 1) := by decide +kernel
theorem dX12_tune_49 : decode cX12_tune 49 = .ok (.getfield 92, 3) := by decide +kernel
theorem dX12_tune_52 : decode cX12_tune 52 = .ok (.bipush 12, 2) := by decide +kernel
theorem dX12_tune_54 : decode cX12_tune 54 = .ok (.aload_n 0, 1) := by decide +kernel
theorem dX12_tune_55 : decode cX12_tune 55 = .ok (.getfield 409, 3) := by decide +kernel
theorem dX12_tune_58 : decode cX12_tune 58 = .ok (.imul, 1) := by decide +kernel
theorem dX12_tune_59 : decode cX12_tune 59 = .ok (.iload_n 3, 1) := by decide +kernel
theorem dX12_tune_60 : decode cX12_tune 60 = .ok (.iadd, 1) := by decide +kernel
theorem dX12_tune_61 : decode cX12_tune 61 = .ok (.aload_n 0, 1) := by decide +kernel
theorem dX12_tune_62 : decode cX12_tune 62 = .ok (.getfield 101, 3) := by decide +kernel
theorem dX12_tune_65 : decode cX12_tune 65 = .ok (.iload_n 3, 1) := by decide +kernel
theorem dX12_tune_66 : decode cX12_tune 66 = .ok (.baload, 1) := by decide +kernel
theorem dX12_tune_67 : decode cX12_tune 67 = .ok (.bastore, 1) := by decide +kernel
theorem dX12_tune_68 : decode cX12_tune 68 = .ok (.iinc 3 1, 3) := by decide +kernel
theorem dX12_tune_71 : decode cX12_tune 71 = .ok (.goto (-28), 3) := by decide +kernel
theorem dX12_tune_74 : decode cX12_tune 74 = .ok (.aload_n 0, 1) := by decide +kernel
theorem dX12_tune_75 : decode cX12_tune 75 = .ok (.getfield 95, 3) := by decide +kernel
theorem dX12_tune_78 : decode cX12_tune 78 = .ok (.aload_n 0, 1) := by decide +kernel
theorem dX12_tune_79 : decode cX12_tune 79 = .ok (.getfield 409, 3) := by decide +kernel
theorem dX12_tune_82 : decode cX12_tune 82 = .ok (.iload_n 2, 1) := by decide +kernel
theorem dX12_tune_83 : decode cX12_tune 83 = .ok (.iastore, 1) := by decide +kernel
theorem dX12_tune_84 : decode cX12_tune 84 = .ok (.aload_n 0, 1) := by decide +kernel
theorem dX12_tune_85 : decode cX12_tune 85 = .ok (.getfield 98, 3) := by decide +kernel
theorem dX12_tune_88 : decode cX12_tune 88 = .ok (.aload_n 0, 1) := by decide +kernel
theorem dX12_tune_89 : decode cX12_tune 89 = .ok (.getfield 409, 3) := by decide +kernel
theorem dX12_tune_92 : decode cX12_tune 92 = .ok (.iload_n 1, 1) := by decide +kernel
theorem dX12_tune_93 : decode cX12_tune 93 = .ok (.iastore, 1) := by decide +kernel
theorem dX12_tune_94 : decode cX12_tune 94 = .ok (.aload_n 0, 1) := by decide +kernel
theorem dX12_tune_95 : decode cX12_tune 95 = .ok (.dup, 1) := by decide +kernel
theorem dX12_tune_96 : decode cX12_tune 96 = .ok (.getfield 409, 3) := by decide +kernel
theorem dX12_tune_99 : decode cX12_tune 99 = .ok (.iconst 1, 1) := by decide +kernel
theorem dX12_tune_100 : decode cX12_tune 100 = .ok (.iadd, 1) := by decide +kernel
theorem dX12_tune_101 : decode cX12_tune 101 = .ok (.putfield 409, 3) := by decide +kernel
theorem dX12_tune_104 : decode cX12_tune 104 = .ok (.aload_n 0, 1) := by decide +kernel
theorem dX12_tune_105 : decode cX12_tune 105 = .ok (.getfield 409, 3) := by decide +kernel
theorem dX12_tune_108 : decode cX12_tune 108 = .ok (.iconst 1, 1) := by decide +kernel
theorem dX12_tune_109 : decode cX12_tune 109 = .ok (.isub, 1) := by decide +kernel
theorem dX12_tune_110 : decode cX12_tune 110 = .ok (.ireturn, 1) := by decide +kernel
theorem dX12_hush_0 : decode cX12_hush 0 = .ok (.aload_n 0, 1) := by decide +kernel
theorem dX12_hush_1 : decode cX12_hush 1 = .ok (.iconst 0, 1) := by decide +kernel
theorem dX12_hush_2 : decode cX12_hush 2 = .ok (.putfield 123, 3) := by decide +kernel
theorem dX12_hush_5 : decode cX12_hush 5 = .ok (.aload_n 0, 1) := by decide +kernel
theorem dX12_hush_6 : decode cX12_hush 6 = .ok (.getfield 409, 3) := by decide +kernel
theorem dX12_hush_9 : decode cX12_hush 9 = .ok (.istore_n 1, 1) := by decide +kernel
theorem dX12_hush_10 : decode cX12_hush 10 = .ok (.aload_n 0, 1) := by decide +kernel
theorem dX12_hush_11 : decode cX12_hush 11 = .ok (.iconst 0, 1) := by decide +kernel
theorem dX12_hush_12 : decode cX12_hush 12 = .ok (.putfield 409, 3) := by decide +kernel
theorem dX12_hush_15 : decode cX12_hush 15 = .ok (.iload_n 1, 1) := by decide +kernel
theorem dX12_hush_16 : decode cX12_hush 16 = .ok (.ireturn, 1) := by decide +kernel
theorem dX12_changesBy_0 : decode cX12_changesBy 0 = .ok (.bipush 13, 2) := by decide +kernel
theorem dX12_changesBy_2 : decode cX12_changesBy 2 = .ok (.istore 7, 2) := by decide +kernel
theorem dX12_changesBy_4 : decode cX12_changesBy 4 = .ok (.iconst 0, 1) := by decide +kernel
theorem dX12_changesBy_5 : decode cX12_changesBy 5 = .ok (.istore 8, 2) := by decide +kernel
theorem dX12_changesBy_7 : decode cX12_changesBy 7 = .ok (.iload 8, 2) := by decide +kernel
theorem dX12_changesBy_9 : decode cX12_changesBy 9 = .ok (.iload_n 3, 1) := by decide +kernel
theorem dX12_changesBy_10 : decode cX12_changesBy 10 = .ok (.if_icmp .gt 155, 3) := by decide +kernel
theorem dX12_changesBy_13 : decode cX12_changesBy 13 = .ok (.iconst 0, 1) := by decide +kernel
theorem dX12_changesBy_14 : decode cX12_changesBy 14 = .ok (.istore 9, 2) := by decide +kernel
theorem dX12_changesBy_16 : decode cX12_changesBy 16 = .ok (.iload 9, 2) := by decide +kernel
theorem dX12_changesBy_18 : decode cX12_changesBy 18 = .ok (.iload 6, 2) := by decide +kernel
theorem dX12_changesBy_20 : decode cX12_changesBy 20 = .ok (.if_icmp .gt 139, 3) := by decide +kernel
theorem dX12_changesBy_23 : decode cX12_changesBy 23 = .ok (.iload 8, 2) := by decide +kernel
theorem dX12_changesBy_25 : decode cX12_changesBy 25 = .ok (.ifCond .eq 8, 3) := by decide +kernel
theorem dX12_changesBy_28 : decode cX12_changesBy 28 = .ok (.iload 9, 2) := by decide +kernel
theorem dX12_changesBy_30 : decode cX12_changesBy 30 = .ok (.ifCond .ne 24, 3) := by decide +kernel
theorem dX12_changesBy_33 : decode cX12_changesBy 33 = .ok (.aload_n 0, 1) := by decide +kernel
theorem dX12_changesBy_34 : decode cX12_changesBy 34 = .ok (.getfield 104, 3) := by decide +kernel
theorem dX12_changesBy_37 : decode cX12_changesBy 37 = .ok (.iload 7, 2) := by decide +kernel
theorem dX12_changesBy_39 : decode cX12_changesBy 39 = .ok (.iload 8, 2) := by decide +kernel
theorem dX12_changesBy_41 : decode cX12_changesBy 41 = .ok (.imul, 1) := by decide +kernel
theorem dX12_changesBy_42 : decode cX12_changesBy 42 = .ok (.iload 9, 2) := by decide +kernel
theorem dX12_changesBy_44 : decode cX12_changesBy 44 = .ok (.iadd, 1) := by decide +kernel
theorem dX12_changesBy_45 : decode cX12_changesBy 45 = .ok (.iload 8, 2) := by decide +kernel
theorem dX12_changesBy_47 : decode cX12_changesBy 47 = .ok (.iload 9, 2) := by decide +kernel
theorem dX12_changesBy_49 : decode cX12_changesBy 49 = .ok (.iadd, 1) := by decide +kernel
theorem dX12_changesBy_50 : decode cX12_changesBy 50 = .ok (.iastore, 1) := by decide +kernel
theorem dX12_changesBy_51 : decode cX12_changesBy 51 = .ok (.goto 102, 3) := by decide +kernel
theorem dX12_changesBy_54 : decode cX12_changesBy 54 = .ok (.aload_n 0, 1) := by decide +kernel
theorem dX12_changesBy_55 : decode cX12_changesBy 55 = .ok (.getfield 104, 3) := by decide +kernel
theorem dX12_changesBy_58 : decode cX12_changesBy 58 = .ok (.iload 7, 2) := by decide +kernel
theorem dX12_changesBy_60 : decode cX12_changesBy 60 = .ok (.iload 8, 2) := by decide +kernel
theorem dX12_changesBy_62 : decode cX12_changesBy 62 = .ok (.iconst 1, 1) := by decide +kernel
theorem dX12_changesBy_63 : decode cX12_changesBy 63 = .ok (.isub, 1) := by decide +kernel
theorem dX12_changesBy_64 : decode cX12_changesBy 64 = .ok (.imul, 1) := by decide +kernel
theorem dX12_changesBy_65 : decode cX12_changesBy 65 = .ok (.iload 9, 2) := by decide +kernel
theorem dX12_changesBy_67 : decode cX12_changesBy 67 = .ok (.iadd, 1) := by decide +kernel
theorem dX12_changesBy_68 : decode cX12_changesBy 68 = .ok (.iconst 1, 1) := by decide +kernel
theorem dX12_changesBy_69 : decode cX12_changesBy 69 = .ok (.isub, 1) := by decide +kernel
theorem dX12_changesBy_70 : decode cX12_changesBy 70 = .ok (.iaload, 1) := by decide +kernel
theorem dX12_changesBy_71 : decode cX12_changesBy 71 = .ok (.aload_n 1, 1) := by decide +kernel
theorem dX12_changesBy_72 : decode cX12_changesBy 72 = .ok (.iload_n 2, 1) := by decide +kernel
theorem dX12_changesBy_73 : decode cX12_changesBy 73 = .ok (.iload 8, 2) := by decide +kernel
theorem dX12_changesBy_75 : decode cX12_changesBy 75 = .ok (.iadd, 1) := by decide +kernel
theorem dX12_changesBy_76 : decode cX12_changesBy 76 = .ok (.iconst 1, 1) := by decide +kernel
theorem dX12_changesBy_77 : decode cX12_changesBy 77 = .ok (.isub, 1) := by decide +kernel
theorem dX12_changesBy_78 : decode cX12_changesBy 78 = .ok (.baload, 1) := by decide +kernel
theorem dX12_changesBy_79 : decode cX12_changesBy 79 = .ok (.aload 4, 2) := by decide +kernel
theorem dX12_changesBy_81 : decode cX12_changesBy 81 = .ok (.iload 5, 2) := by decide +kernel
theorem dX12_changesBy_83 : decode cX12_changesBy 83 = .ok (.iload 9, 2) := by decide +kernel
theorem dX12_changesBy_85 : decode cX12_changesBy 85 = .ok (.iadd, 1) := by decide +kernel
theorem dX12_changesBy_86 : decode cX12_changesBy 86 = .ok (.iconst 1, 1) := by decide +kernel
theorem dX12_changesBy_87 : decode cX12_changesBy 87 = .ok (.isub, 1) := by decide +kernel
theorem dX12_changesBy_88 : decode cX12_changesBy 88 = .ok (.baload, 1) := by decide +kernel
theorem dX12_changesBy_89 : decode cX12_changesBy 89 = .ok (.if_icmp .ne 7, 3) := by decide +kernel
theorem dX12_changesBy_92 : decode cX12_changesBy 92 = .ok (.iconst 0, 1) := by decide +kernel
theorem dX12_changesBy_93 : decode cX12_changesBy 93 = .ok (.goto 4, 3) := by decide +kernel
theorem dX12_changesBy_96 : decode cX12_changesBy 96 = .ok (.iconst 1, 1) := by decide +kernel
theorem dX12_changesBy_97 : decode cX12_changesBy 97 = .ok (.iadd, 1) := by decide +kernel
theorem dX12_changesBy_98 : decode cX12_changesBy 98 = .ok (.istore 10, 2) := by decide +kernel
theorem dX12_changesBy_100 : decode cX12_changesBy 100 = .ok (.aload_n 0, 1) := by decide +kernel
theorem dX12_changesBy_101 : decode cX12_changesBy 101 = .ok (.getfield 104, 3) := by decide +kernel
theorem dX12_changesBy_104 : decode cX12_changesBy 104 = .ok (.iload 7, 2) := by decide +kernel
theorem dX12_changesBy_106 : decode cX12_changesBy 106 = .ok (.iload 8, 2) := by decide +kernel
theorem dX12_changesBy_108 : decode cX12_changesBy 108 = .ok (.imul, 1) := by decide +kernel
theorem dX12_changesBy_109 : decode cX12_changesBy 109 = .ok (.iload 9, 2) := by decide +kernel
theorem dX12_changesBy_111 : decode cX12_changesBy 111 = .ok (.iadd, 1) := by decide +kernel
theorem dX12_changesBy_112 : decode cX12_changesBy 112 = .ok (.iload 10, 2) := by decide +kernel
theorem dX12_changesBy_114 : decode cX12_changesBy 114 = .ok (.iconst 1, 1) := by decide +kernel
theorem dX12_changesBy_115 : decode cX12_changesBy 115 = .ok (.aload_n 0, 1) := by decide +kernel
theorem dX12_changesBy_116 : decode cX12_changesBy 116 = .ok (.getfield 104, 3) := by decide +kernel
theorem dX12_changesBy_119 : decode cX12_changesBy 119 = .ok (.iload 7, 2) := by decide +kernel
theorem dX12_changesBy_121 : decode cX12_changesBy 121 = .ok (.iload 8, 2) := by decide +kernel
theorem dX12_changesBy_123 : decode cX12_changesBy 123 = .ok (.iconst 1, 1) := by decide +kernel
theorem dX12_changesBy_124 : decode cX12_changesBy 124 = .ok (.isub, 1) := by decide +kernel
theorem dX12_changesBy_125 : decode cX12_changesBy 125 = .ok (.imul, 1) := by decide +kernel
theorem dX12_changesBy_126 : decode cX12_changesBy 126 = .ok (.iload 9, 2) := by decide +kernel
theorem dX12_changesBy_128 : decode cX12_changesBy 128 = .ok (.iadd, 1) := by decide +kernel
theorem dX12_changesBy_129 : decode cX12_changesBy 129 = .ok (.iaload, 1) := by decide +kernel
theorem dX12_changesBy_130 : decode cX12_changesBy 130 = .ok (.aload_n 0, 1) := by decide +kernel
theorem dX12_changesBy_131 : decode cX12_changesBy 131 = .ok (.getfield 104, 3) := by decide +kernel
theorem dX12_changesBy_134 : decode cX12_changesBy 134 = .ok (.iload 7, 2) := by decide +kernel
theorem dX12_changesBy_136 : decode cX12_changesBy 136 = .ok (.iload 8, 2) := by decide +kernel
theorem dX12_changesBy_138 : decode cX12_changesBy 138 = .ok (.imul, 1) := by decide +kernel
theorem dX12_changesBy_139 : decode cX12_changesBy 139 = .ok (.iload 9, 2) := by decide +kernel
theorem dX12_changesBy_141 : decode cX12_changesBy 141 = .ok (.iadd, 1) := by decide +kernel
theorem dX12_changesBy_142 : decode cX12_changesBy 142 = .ok (.iconst 1, 1) := by decide +kernel
theorem dX12_changesBy_143 : decode cX12_changesBy 143 = .ok (.isub, 1) := by decide +kernel
theorem dX12_changesBy_144 : decode cX12_changesBy 144 = .ok (.iaload, 1) := by decide +kernel
theorem dX12_changesBy_145 : decode cX12_changesBy 145 = .ok (.invokestatic 200, 3) := by decide +kernel
theorem dX12_changesBy_148 : decode cX12_changesBy 148 = .ok (.iadd, 1) := by decide +kernel
theorem dX12_changesBy_149 : decode cX12_changesBy 149 = .ok (.invokestatic 200, 3) := by decide +kernel
theorem dX12_changesBy_152 : decode cX12_changesBy 152 = .ok (.iastore, 1) := by decide +kernel
theorem dX12_changesBy_153 : decode cX12_changesBy 153 = .ok (.iinc 9 1, 3) := by decide +kernel
theorem dX12_changesBy_156 : decode cX12_changesBy 156 = .ok (.goto (-140), 3) := by decide +kernel
theorem dX12_changesBy_159 : decode cX12_changesBy 159 = .ok (.iinc 8 1, 3) := by decide +kernel
theorem dX12_changesBy_162 : decode cX12_changesBy 162 = .ok (.goto (-155), 3) := by decide +kernel
theorem dX12_changesBy_165 : decode cX12_changesBy 165 = .ok (.aload_n 0, 1) := by decide +kernel
theorem dX12_changesBy_166 : decode cX12_changesBy 166 = .ok (.getfield 104, 3) := by decide +kernel
theorem dX12_changesBy_169 : decode cX12_changesBy 169 = .ok (.iload 7, 2) := by decide +kernel
theorem dX12_changesBy_171 : decode cX12_changesBy 171 = .ok (.iload_n 3, 1) := by decide +kernel
theorem dX12_changesBy_172 : decode cX12_changesBy 172 = .ok (.imul, 1) := by decide +kernel
theorem dX12_changesBy_173 : decode cX12_changesBy 173 = .ok (.iload 6, 2) := by decide +kernel
theorem dX12_changesBy_175 : decode cX12_changesBy 175 = .ok (.iadd, 1) := by decide +kernel
theorem dX12_changesBy_176 : decode cX12_changesBy 176 = .ok (.iaload, 1) := by decide +kernel
theorem dX12_changesBy_177 : decode cX12_changesBy 177 = .ok (.ireturn, 1) := by decide +kernel
theorem dX12_differBy_0 : decode cX12_differBy 0 = .ok (.aload_n 0, 1) := by decide +kernel
theorem dX12_differBy_1 : decode cX12_differBy 1 = .ok (.aload_n 0, 1) := by decide +kernel
theorem dX12_differBy_2 : decode cX12_differBy 2 = .ok (.getfield 92, 3) := by decide +kernel
theorem dX12_differBy_5 : decode cX12_differBy 5 = .ok (.bipush 12, 2) := by decide +kernel
theorem dX12_differBy_7 : decode cX12_differBy 7 = .ok (.iload_n 1, 1) := by decide +kernel
theorem dX12_differBy_8 : decode cX12_differBy 8 = .ok (.imul, 1) := by decide +kernel
theorem dX12_differBy_9 : decode cX12_differBy 9 = .ok (.aload_n 0, 1) := by decide +kernel
theorem dX12_differBy_10 : decode cX12_differBy 10 = .ok (.getfield 95, 3) := by decide +kernel
theorem dX12_differBy_13 : decode cX12_differBy 13 = .ok (.iload_n 1, 1) := by decide +kernel
theorem dX12_differBy_14 : decode cX12_differBy 14 = .ok (.iaload, 1) := by decide +kernel
theorem dX12_differBy_15 : decode cX12_differBy 15 = .ok (.aload_n 0, 1) := by decide +kernel
theorem dX12_differBy_16 : decode cX12_differBy 16 = .ok (.getfield 92, 3) := by decide +kernel
theorem dX12_differBy_19 : decode cX12_differBy 19 = .ok (.bipush 12, 2) := by decide +kernel
theorem dX12_differBy_21 : decode cX12_differBy 21 = .ok (.iload_n 2, 1) := by decide +kernel
theorem dX12_differBy_22 : decode cX12_differBy 22 = .ok (.imul, 1) := by decide +kernel
theorem dX12_differBy_23 : decode cX12_differBy 23 = .ok (.aload_n 0, 1) := by decide +kernel
theorem dX12_differBy_24 : decode cX12_differBy 24 = .ok (.getfield 95, 3) := by decide +kernel
theorem dX12_differBy_27 : decode cX12_differBy 27 = .ok (.iload_n 2, 1) := by decide +kernel
theorem dX12_differBy_28 : decode cX12_differBy 28 = .ok (.iaload, 1) := by decide +kernel
theorem dX12_differBy_29 : decode cX12_differBy 29 = .ok (.invokevirtual 415, 3) := by decide +kernel
theorem dX12_differBy_32 : decode cX12_differBy 32 = .ok (.ireturn, 1) := by decide +kernel
theorem dX12_isTune_0 : decode cX12_isTune 0 = .ok (.iload_n 1, 1) := by decide +kernel
theorem dX12_isTune_1 : decode cX12_isTune 1 = .ok (.iconst 0, 1) := by decide +kernel
theorem dX12_isTune_2 : decode cX12_isTune 2 = .ok (.aload_n 0, 1) := by decide +kernel
theorem dX12_isTune_3 : decode cX12_isTune 3 = .ok (.getfield 409, 3) := by decide +kernel
theorem dX12_isTune_6 : decode cX12_isTune 6 = .ok (.iconst 1, 1) := by decide +kernel
theorem dX12_isTune_7 : decode cX12_isTune 7 = .ok (.isub, 1) := by decide +kernel
theorem dX12_isTune_8 : decode cX12_isTune 8 = .ok (.invokestatic 132, 3) := by decide +kernel
theorem dX12_isTune_11 : decode cX12_isTune 11 = .ok (.ireturn, 1) := by decide +kernel
theorem dX12_differ_0 : decode cX12_differ 0 = .ok (.aload_n 0, 1) := by decide +kernel
theorem dX12_differ_1 : decode cX12_differ 1 = .ok (.iconst 0, 1) := by decide +kernel
theorem dX12_differ_2 : decode cX12_differ 2 = .ok (.putfield 123, 3) := by decide +kernel
theorem dX12_differ_5 : decode cX12_differ 5 = .ok (.aload_n 0, 1) := by decide +kernel
theorem dX12_differ_6 : decode cX12_differ 6 = .ok (.iload_n 1, 1) := by decide +kernel
theorem dX12_differ_7 : decode cX12_differ 7 = .ok (.invokevirtual 419, 3) := by decide +kernel
theorem dX12_differ_10 : decode cX12_differ 10 = .ok (.ifCond .eq 11, 3) := by decide +kernel
theorem dX12_differ_13 : decode cX12_differ 13 = .ok (.aload_n 0, 1) := by decide +kernel
theorem dX12_differ_14 : decode cX12_differ 14 = .ok (.iload_n 2, 1) := by decide +kernel
theorem dX12_differ_15 : decode cX12_differ 15 = .ok (.invokevirtual 419, 3) := by decide +kernel
theorem dX12_differ_18 : decode cX12_differ 18 = .ok (.ifCond .ne 5, 3) := by decide +kernel
theorem dX12_differ_21 : decode cX12_differ 21 = .ok (.iconst (-1), 1) := by decide +kernel
theorem dX12_differ_22 : decode cX12_differ 22 = .ok (.ireturn, 1) := by decide +kernel
theorem dX12_differ_23 : decode cX12_differ 23 = .ok (.iconst 0, 1) := by decide +kernel
theorem dX12_differ_24 : decode cX12_differ 24 = .ok (.istore_n 3, 1) := by decide +kernel
theorem dX12_differ_25 : decode cX12_differ 25 = .ok (.iconst 0, 1) := by decide +kernel
theorem dX12_differ_26 : decode cX12_differ 26 = .ok (.istore 4, 2) := by decide +kernel
theorem dX12_differ_28 : decode cX12_differ 28 = .ok (.iload 4, 2) := by decide +kernel
theorem dX12_differ_30 : decode cX12_differ 30 = .ok (.aload_n 0, 1) := by decide +kernel
theorem dX12_differ_31 : decode cX12_differ 31 = .ok (.getfield 95, 3) := by decide +kernel
theorem dX12_differ_34 : decode cX12_differ 34 = .ok (.iload_n 1, 1) := by decide +kernel
theorem dX12_differ_35 : decode cX12_differ 35 = .ok (.iaload, 1) := by decide +kernel
theorem dX12_differ_36 : decode cX12_differ 36 = .ok (.if_icmp .ge 55, 3) := by decide +kernel
theorem dX12_differ_39 : decode cX12_differ 39 = .ok (.iload 4, 2) := by decide +kernel
theorem dX12_differ_41 : decode cX12_differ 41 = .ok (.aload_n 0, 1) := by decide +kernel
theorem dX12_differ_42 : decode cX12_differ 42 = .ok (.getfield 95, 3) := by decide +kernel
theorem dX12_differ_45 : decode cX12_differ 45 = .ok (.iload_n 2, 1) := by decide +kernel
theorem dX12_differ_46 : decode cX12_differ 46 = .ok (.iaload, 1) := by decide +kernel
theorem dX12_differ_47 : decode cX12_differ 47 = .ok (.if_icmp .ge 44, 3) := by decide +kernel
theorem dX12_differ_50 : decode cX12_differ 50 = .ok (.iload_n 3, 1) := by decide +kernel
theorem dX12_differ_51 : decode cX12_differ 51 = .ok (.aload_n 0, 1) := by decide +kernel
theorem dX12_differ_52 : decode cX12_differ 52 = .ok (.getfield 92, 3) := by decide +kernel
theorem dX12_differ_55 : decode cX12_differ 55 = .ok (.bipush 12, 2) := by decide +kernel
theorem dX12_differ_57 : decode cX12_differ 57 = .ok (.iload_n 1, 1) := by decide +kernel
theorem dX12_differ_58 : decode cX12_differ 58 = .ok (.imul, 1) := by decide +kernel
theorem dX12_differ_59 : decode cX12_differ 59 = .ok (.iload 4, 2) := by decide +kernel
theorem dX12_differ_61 : decode cX12_differ 61 = .ok (.iadd, 1) := by decide +kernel
theorem dX12_differ_62 : decode cX12_differ 62 = .ok (.baload, 1) := by decide +kernel
theorem dX12_differ_63 : decode cX12_differ 63 = .ok (.aload_n 0, 1) := by decide +kernel
theorem dX12_differ_64 : decode cX12_differ 64 = .ok (.getfield 92, 3) := by decide +kernel
theorem dX12_differ_67 : decode cX12_differ 67 = .ok (.bipush 12, 2) := by decide +kernel
theorem dX12_differ_69 : decode cX12_differ 69 = .ok (.iload_n 2, 1) := by decide +kernel
theorem dX12_differ_70 : decode cX12_differ 70 = .ok (.imul, 1) := by decide +kernel
theorem dX12_differ_71 : decode cX12_differ 71 = .ok (.iload 4, 2) := by decide +kernel
theorem dX12_differ_73 : decode cX12_differ 73 = .ok (.iadd, 1) := by decide +kernel
theorem dX12_differ_74 : decode cX12_differ 74 = .ok (.baload, 1) := by decide +kernel
theorem dX12_differ_75 : decode cX12_differ 75 = .ok (.if_icmp .ne 7, 3) := by decide +kernel
theorem dX12_differ_78 : decode cX12_differ 78 = .ok (.iconst 1, 1) := by decide +kernel
theorem dX12_differ_79 : decode cX12_differ 79 = .ok (.goto 4, 3) := by decide +kernel
theorem dX12_differ_82 : decode cX12_differ 82 = .ok (.iconst 0, 1) := by decide +kernel
theorem dX12_differ_83 : decode cX12_differ 83 = .ok (.iadd, 1) := by decide +kernel
theorem dX12_differ_84 : decode cX12_differ 84 = .ok (.istore_n 3, 1) := by decide +kernel
theorem dX12_differ_85 : decode cX12_differ 85 = .ok (.iinc 4 1, 3) := by decide +kernel
theorem dX12_differ_88 : decode cX12_differ 88 = .ok (.goto (-60), 3) := by decide +kernel
theorem dX12_differ_91 : decode cX12_differ 91 = .ok (.aload_n 0, 1) := by decide +kernel
theorem dX12_differ_92 : decode cX12_differ 92 = .ok (.iconst 0, 1) := by decide +kernel
theorem dX12_differ_93 : decode cX12_differ 93 = .ok (.putfield 126, 3) := by decide +kernel
theorem dX12_differ_96 : decode cX12_differ 96 = .ok (.aload_n 0, 1) := by decide +kernel
theorem dX12_differ_97 : decode cX12_differ 97 = .ok (.iload_n 3, 1) := by decide +kernel
theorem dX12_differ_98 : decode cX12_differ 98 = .ok (.i2l, 1) := by decide +kernel
theorem dX12_differ_99 : decode cX12_differ 99 = .ok (.invokevirtual 331, 3) := by decide +kernel
theorem dX12_differ_102 : decode cX12_differ 102 = .ok (.aload_n 0, 1) := by decide +kernel
theorem dX12_differ_103 : decode cX12_differ 103 = .ok (.iload_n 1, 1) := by decide +kernel
theorem dX12_differ_104 : decode cX12_differ 104 = .ok (.iload_n 2, 1) := by decide +kernel
theorem dX12_differ_105 : decode cX12_differ 105 = .ok (.invokevirtual 422, 3) := by decide +kernel
theorem dX12_differ_108 : decode cX12_differ 108 = .ok (.ireturn, 1) := by decide +kernel
theorem dX12_whence_0 : decode cX12_whence 0 = .ok (.aload_n 0, 1) := by decide +kernel
theorem dX12_whence_1 : decode cX12_whence 1 = .ok (.iconst 0, 1) := by decide +kernel
theorem dX12_whence_2 : decode cX12_whence 2 = .ok (.putfield 123, 3) := by decide +kernel
theorem dX12_whence_5 : decode cX12_whence 5 = .ok (.aload_n 0, 1) := by decide +kernel
theorem dX12_whence_6 : decode cX12_whence 6 = .ok (.getfield 409, 3) := by decide +kernel
theorem dX12_whence_9 : decode cX12_whence 9 = .ok (.ifCond .ne 6, 3) := by decide +kernel
theorem dX12_whence_12 : decode cX12_whence 12 = .ok (.bipush (-2), 2) := by decide +kernel
theorem dX12_whence_14 : decode cX12_whence 14 = .ok (.ireturn, 1) := by decide +kernel
theorem dX12_whence_15 : decode cX12_whence 15 = .ok (.iconst 0, 1) := by decide +kernel
theorem dX12_whence_16 : decode cX12_whence 16 = .ok (.istore_n 1, 1) := by decide +kernel
theorem dX12_whence_17 : decode cX12_whence 17 = .ok (.aload_n 0, 1) := by decide +kernel
theorem dX12_whence_18 : decode cX12_whence 18 = .ok (.iconst 0, 1) := by decide +kernel
theorem dX12_whence_19 : decode cX12_whence 19 = .ok (.putfield 126, 3) := by decide +kernel
theorem dX12_whence_22 : decode cX12_whence 22 = .ok (.iconst 1, 1) := by decide +kernel
theorem dX12_whence_23 : decode cX12_whence 23 = .ok (.istore_n 2, 1) := by decide +kernel
theorem dX12_whence_24 : decode cX12_whence 24 = .ok (.iload_n 2, 1) := by decide +kernel
theorem dX12_whence_25 : decode cX12_whence 25 = .ok (.aload_n 0, 1) := by decide +kernel
theorem dX12_whence_26 : decode cX12_whence 26 = .ok (.getfield 409, 3) := by decide +kernel
theorem dX12_whence_29 : decode cX12_whence 29 = .ok (.if_icmp .ge 60, 3) := by decide +kernel
theorem dX12_whence_32 : decode cX12_whence 32 = .ok (.iconst 0, 1) := by decide +kernel
theorem dX12_whence_33 : decode cX12_whence 33 = .ok (.istore_n 3, 1) := by decide +kernel
theorem dX12_whence_34 : decode cX12_whence 34 = .ok (.iconst 1, 1) := by decide +kernel
theorem dX12_whence_35 : decode cX12_whence 35 = .ok (.istore 4, 2) := by decide +kernel
theorem dX12_whence_37 : decode cX12_whence 37 = .ok (.iload 4, 2) := by decide +kernel
theorem dX12_whence_39 : decode cX12_whence 39 = .ok (.iload_n 2, 1) := by decide +kernel
theorem dX12_whence_40 : decode cX12_whence 40 = .ok (.if_icmp .ge 28, 3) := by decide +kernel
theorem dX12_whence_43 : decode cX12_whence 43 = .ok (.aload_n 0, 1) := by decide +kernel
theorem dX12_whence_44 : decode cX12_whence 44 = .ok (.iload_n 2, 1) := by decide +kernel
theorem dX12_whence_45 : decode cX12_whence 45 = .ok (.iload 4, 2) := by decide +kernel
theorem dX12_whence_47 : decode cX12_whence 47 = .ok (.invokevirtual 422, 3) := by decide +kernel
theorem dX12_whence_50 : decode cX12_whence 50 = .ok (.aload_n 0, 1) := by decide +kernel
theorem dX12_whence_51 : decode cX12_whence 51 = .ok (.iload_n 2, 1) := by decide +kernel
theorem dX12_whence_52 : decode cX12_whence 52 = .ok (.iload_n 3, 1) := by decide +kernel
theorem dX12_whence_53 : decode cX12_whence 53 = .ok (.invokevirtual 422, 3) := by decide +kernel
theorem dX12_whence_56 : decode cX12_whence 56 = .ok (.if_icmp .ge 6, 3) := by decide +kernel
theorem dX12_whence_59 : decode cX12_whence 59 = .ok (.iload 4, 2) := by decide +kernel
theorem dX12_whence_61 : decode cX12_whence 61 = .ok (.istore_n 3, 1) := by decide +kernel
theorem dX12_whence_62 : decode cX12_whence 62 = .ok (.iinc 4 1, 3) := by decide +kernel
theorem dX12_whence_65 : decode cX12_whence 65 = .ok (.goto (-28), 3) := by decide +kernel
theorem dX12_whence_68 : decode cX12_whence 68 = .ok (.iload_n 1, 1) := by decide +kernel
theorem dX12_whence_69 : decode cX12_whence 69 = .ok (.aload_n 0, 1) := by decide +kernel
theorem dX12_whence_70 : decode cX12_whence 70 = .ok (.iload_n 2, 1) := by decide +kernel
theorem dX12_whence_71 : decode cX12_whence 71 = .ok (.iload_n 3, 1) := by decide +kernel
theorem dX12_whence_72 : decode cX12_whence 72 = .ok (.invokevirtual 422, 3) := by decide +kernel
theorem dX12_whence_75 : decode cX12_whence 75 = .ok (.iadd, 1) := by decide +kernel
theorem dX12_whence_76 : decode cX12_whence 76 = .ok (.istore_n 1, 1) := by decide +kernel
theorem dX12_whence_77 : decode cX12_whence 77 = .ok (.aload_n 0, 1) := by decide +kernel
theorem dX12_whence_78 : decode cX12_whence 78 = .ok (.iload_n 3, 1) := by decide +kernel
theorem dX12_whence_79 : decode cX12_whence 79 = .ok (.i2l, 1) := by decide +kernel
theorem dX12_whence_80 : decode cX12_whence 80 = .ok (.invokevirtual 331, 3) := by decide +kernel
theorem dX12_whence_83 : decode cX12_whence 83 = .ok (.iinc 2 1, 3) := by decide +kernel
theorem dX12_whence_86 : decode cX12_whence 86 = .ok (.goto (-62), 3) := by decide +kernel
theorem dX12_whence_89 : decode cX12_whence 89 = .ok (.iload_n 1, 1) := by decide +kernel
theorem dX12_whence_90 : decode cX12_whence 90 = .ok (.ireturn, 1) := by decide +kernel
theorem dX12_tree_0 : decode cX12_tree 0 = .ok (.aload_n 0, 1) := by decide +kernel
theorem dX12_tree_1 : decode cX12_tree 1 = .ok (.iconst 0, 1) := by decide +kernel
theorem dX12_tree_2 : decode cX12_tree 2 = .ok (.putfield 123, 3) := by decide +kernel
theorem dX12_tree_5 : decode cX12_tree 5 = .ok (.aload_n 0, 1) := by decide +kernel
theorem dX12_tree_6 : decode cX12_tree 6 = .ok (.getfield 409, 3) := by decide +kernel
theorem dX12_tree_9 : decode cX12_tree 9 = .ok (.ifCond .ne 6, 3) := by decide +kernel
theorem dX12_tree_12 : decode cX12_tree 12 = .ok (.bipush (-2), 2) := by decide +kernel
theorem dX12_tree_14 : decode cX12_tree 14 = .ok (.ireturn, 1) := by decide +kernel
theorem dX12_tree_15 : decode cX12_tree 15 = .ok (.iconst 0, 1) := by decide +kernel
theorem dX12_tree_16 : decode cX12_tree 16 = .ok (.istore_n 1, 1) := by decide +kernel
theorem dX12_tree_17 : decode cX12_tree 17 = .ok (.iconst 1, 1) := by decide +kernel
theorem dX12_tree_18 : decode cX12_tree 18 = .ok (.istore_n 2, 1) := by decide +kernel
theorem dX12_tree_19 : decode cX12_tree 19 = .ok (.iconst 0, 1) := by decide +kernel
theorem dX12_tree_20 : decode cX12_tree 20 = .ok (.istore_n 3, 1) := by decide +kernel
theorem dX12_tree_21 : decode cX12_tree 21 = .ok (.iload_n 3, 1) := by decide +kernel
theorem dX12_tree_22 : decode cX12_tree 22 = .ok (.bipush 8, 2) := by decide +kernel
theorem dX12_tree_24 : decode cX12_tree 24 = .ok (.if_icmp .ge 16, 3) := by decide +kernel
theorem dX12_tree_27 : decode cX12_tree 27 = .ok (.aload_n 0, 1) := by decide +kernel
theorem dX12_tree_28 : decode cX12_tree 28 = .ok (.getfield 107, 3) := by decide +kernel
theorem dX12_tree_31 : decode cX12_tree 31 = .ok (.iload_n 3, 1) := by decide +kernel
theorem dX12_tree_32 : decode cX12_tree 32 = .ok (.iconst 0, 1) := by decide +kernel
theorem dX12_tree_33 : decode cX12_tree 33 = .ok (.iastore, 1) := by decide +kernel
theorem dX12_tree_34 : decode cX12_tree 34 = .ok (.iinc 3 1, 3) := by decide +kernel
theorem dX12_tree_37 : decode cX12_tree 37 = .ok (.goto (-16), 3) := by decide +kernel
theorem dX12_tree_40 : decode cX12_tree 40 = .ok (.iconst 1, 1) := by decide +kernel
theorem dX12_tree_41 : decode cX12_tree 41 = .ok (.istore_n 3, 1) := by decide +kernel
theorem dX12_tree_42 : decode cX12_tree 42 = .ok (.iload_n 3, 1) := by decide +kernel
theorem dX12_tree_43 : decode cX12_tree 43 = .ok (.aload_n 0, 1) := by decide +kernel
theorem dX12_tree_44 : decode cX12_tree 44 = .ok (.getfield 409, 3) := by decide +kernel
theorem dX12_tree_47 : decode cX12_tree 47 = .ok (.if_icmp .ge 141, 3) := by decide +kernel
theorem dX12_tree_50 : decode cX12_tree 50 = .ok (.ldc 122, 2) := by decide +kernel
theorem dX12_tree_52 : decode cX12_tree 52 = .ok (.istore 4, 2) := by decide +kernel
theorem dX12_tree_54 : decode cX12_tree 54 = .ok (.iconst 0, 1) := by decide +kernel
theorem dX12_tree_55 : decode cX12_tree 55 = .ok (.istore 5, 2) := by decide +kernel
theorem dX12_tree_57 : decode cX12_tree 57 = .ok (.iconst 0, 1) := by decide +kernel
theorem dX12_tree_58 : decode cX12_tree 58 = .ok (.istore 6, 2) := by decide +kernel
theorem dX12_tree_60 : decode cX12_tree 60 = .ok (.iconst 0, 1) := by decide +kernel
theorem dX12_tree_61 : decode cX12_tree 61 = .ok (.istore 7, 2) := by decide +kernel
theorem dX12_tree_63 : decode cX12_tree 63 = .ok (.iload 7, 2) := by decide +kernel
theorem dX12_tree_65 : decode cX12_tree 65 = .ok (.aload_n 0, 1) := by decide +kernel
theorem dX12_tree_66 : decode cX12_tree 66 = .ok (.getfield 409, 3) := by decide +kernel
theorem dX12_tree_69 : decode cX12_tree 69 = .ok (.if_icmp .ge 79, 3) := by decide +kernel
theorem dX12_tree_72 : decode cX12_tree 72 = .ok (.iconst 0, 1) := by decide +kernel
theorem dX12_tree_73 : decode cX12_tree 73 = .ok (.istore 8, 2) := by decide +kernel
theorem dX12_tree_75 : decode cX12_tree 75 = .ok (.iload 8, 2) := by decide +kernel
theorem dX12_tree_77 : decode cX12_tree 77 = .ok (.aload_n 0, 1) := by decide +kernel
theorem dX12_tree_78 : decode cX12_tree 78 = .ok (.getfield 409, 3) := by decide +kernel
theorem dX12_tree_81 : decode cX12_tree 81 = .ok (.if_icmp .ge 61, 3) := by decide +kernel
theorem dX12_tree_84 : decode cX12_tree 84 = .ok (.iload_n 2, 1) := by decide +kernel
theorem dX12_tree_85 : decode cX12_tree 85 = .ok (.iload 7, 2) := by decide +kernel
theorem dX12_tree_87 : decode cX12_tree 87 = .ok (.invokestatic 257, 3) := by decide +kernel
theorem dX12_tree_90 : decode cX12_tree 90 = .ok (.ifCond .ne 46, 3) := by decide +kernel
theorem dX12_tree_93 : decode cX12_tree 93 = .ok (.iload_n 2, 1) := by decide +kernel
theorem dX12_tree_94 : decode cX12_tree 94 = .ok (.iload 8, 2) := by decide +kernel
theorem dX12_tree_96 : decode cX12_tree 96 = .ok (.invokestatic 257, 3) := by decide +kernel
theorem dX12_tree_99 : decode cX12_tree 99 = .ok (.ifCond .eq 37, 3) := by decide +kernel
theorem dX12_tree_102 : decode cX12_tree 102 = .ok (.aload_n 0, 1) := by decide +kernel
theorem dX12_tree_103 : decode cX12_tree 103 = .ok (.iload 7, 2) := by decide +kernel
theorem dX12_tree_105 : decode cX12_tree 105 = .ok (.iload 8, 2) := by decide +kernel
theorem dX12_tree_107 : decode cX12_tree 107 = .ok (.invokevirtual 422, 3) := by decide +kernel
theorem dX12_tree_110 : decode cX12_tree 110 = .ok (.iload 4, 2) := by decide +kernel
theorem dX12_tree_112 : decode cX12_tree 112 = .ok (.if_icmp .lt 6, 3) := by decide +kernel
theorem dX12_tree_115 : decode cX12_tree 115 = .ok (.goto 21, 3) := by decide +kernel
theorem dX12_tree_118 : decode cX12_tree 118 = .ok (.aload_n 0, 1) := by decide +kernel
theorem dX12_tree_119 : decode cX12_tree 119 = .ok (.iload 7, 2) := by decide +kernel
theorem dX12_tree_121 : decode cX12_tree 121 = .ok (.iload 8, 2) := by decide +kernel
theorem dX12_tree_123 : decode cX12_tree 123 = .ok (.invokevirtual 422, 3) := by decide +kernel
theorem dX12_tree_126 : decode cX12_tree 126 = .ok (.istore 4, 2) := by decide +kernel
theorem dX12_tree_128 : decode cX12_tree 128 = .ok (.iload 7, 2) := by decide +kernel
theorem dX12_tree_130 : decode cX12_tree 130 = .ok (.istore 5, 2) := by decide +kernel
theorem dX12_tree_132 : decode cX12_tree 132 = .ok (.iload 8, 2) := by decide +kernel
theorem dX12_tree_134 : decode cX12_tree 134 = .ok (.istore 6, 2) := by decide +kernel
theorem dX12_tree_136 : decode cX12_tree 136 = .ok (.iinc 8 1, 3) := by decide +kernel
theorem dX12_tree_139 : decode cX12_tree 139 = .ok (.goto (-64), 3) := by decide +kernel
theorem dX12_tree_142 : decode cX12_tree 142 = .ok (.iinc 7 1, 3) := by decide +kernel
theorem dX12_tree_145 : decode cX12_tree 145 = .ok (.goto (-82), 3) := by decide +kernel
theorem dX12_tree_148 : decode cX12_tree 148 = .ok (.iload_n 1, 1) := by decide +kernel
theorem dX12_tree_149 : decode cX12_tree 149 = .ok (.iload 4, 2) := by decide +kernel
theorem dX12_tree_151 : decode cX12_tree 151 = .ok (.iadd, 1) := by decide +kernel
theorem dX12_tree_152 : decode cX12_tree 152 = .ok (.istore_n 1, 1) := by decide +kernel
theorem dX12_tree_153 : decode cX12_tree 153 = .ok (.iload_n 2, 1) := by decide +kernel
theorem dX12_tree_154 : decode cX12_tree 154 = .ok (.iconst 1, 1) := by decide +kernel
theorem dX12_tree_155 : decode cX12_tree 155 = .ok (.iload 5, 2) := by decide +kernel
theorem dX12_tree_157 : decode cX12_tree 157 = .ok (.ishl, 1) := by decide +kernel
theorem dX12_tree_158 : decode cX12_tree 158 = .ok (.ior, 1) := by decide +kernel
theorem dX12_tree_159 : decode cX12_tree 159 = .ok (.istore_n 2, 1) := by decide +kernel
theorem dX12_tree_160 : decode cX12_tree 160 = .ok (.aload_n 0, 1) := by decide +kernel
theorem dX12_tree_161 : decode cX12_tree 161 = .ok (.getfield 107, 3) := by decide +kernel
theorem dX12_tree_164 : decode cX12_tree 164 = .ok (.iload 5, 2) := by decide +kernel
theorem dX12_tree_166 : decode cX12_tree 166 = .ok (.dup2, 1) := by decide +kernel
theorem dX12_tree_167 : decode cX12_tree 167 = .ok (.iaload, 1) := by decide +kernel
theorem dX12_tree_168 : decode cX12_tree 168 = .ok (.iconst 1, 1) := by decide +kernel
theorem dX12_tree_169 : decode cX12_tree 169 = .ok (.iadd, 1) := by decide +kernel
theorem dX12_tree_170 : decode cX12_tree 170 = .ok (.iastore, 1) := by decide +kernel
theorem dX12_tree_171 : decode cX12_tree 171 = .ok (.aload_n 0, 1) := by decide +kernel
theorem dX12_tree_172 : decode cX12_tree 172 = .ok (.getfield 107, 3) := by decide +kernel
theorem dX12_tree_175 : decode cX12_tree 175 = .ok (.iload 6, 2) := by decide +kernel
theorem dX12_tree_177 : decode cX12_tree 177 = .ok (.dup2, 1) := by decide +kernel
theorem dX12_tree_178 : decode cX12_tree 178 = .ok (.iaload, 1) := by decide +kernel
theorem dX12_tree_179 : decode cX12_tree 179 = .ok (.iconst 1, 1) := by decide +kernel
theorem dX12_tree_180 : decode cX12_tree 180 = .ok (.iadd, 1) := by decide +kernel
theorem dX12_tree_181 : decode cX12_tree 181 = .ok (.iastore, 1) := by decide +kernel
theorem dX12_tree_182 : decode cX12_tree 182 = .ok (.iinc 3 1, 3) := by decide +kernel
theorem dX12_tree_185 : decode cX12_tree 185 = .ok (.goto (-143), 3) := by decide +kernel
theorem dX12_tree_188 : decode cX12_tree 188 = .ok (.iconst 0, 1) := by decide +kernel
theorem dX12_tree_189 : decode cX12_tree 189 = .ok (.istore_n 3, 1) := by decide +kernel
theorem dX12_tree_190 : decode cX12_tree 190 = .ok (.iconst 0, 1) := by decide +kernel
theorem dX12_tree_191 : decode cX12_tree 191 = .ok (.istore 4, 2) := by decide +kernel
theorem dX12_tree_193 : decode cX12_tree 193 = .ok (.iload 4, 2) := by decide +kernel
theorem dX12_tree_195 : decode cX12_tree 195 = .ok (.aload_n 0, 1) := by decide +kernel
theorem dX12_tree_196 : decode cX12_tree 196 = .ok (.getfield 409, 3) := by decide +kernel
theorem dX12_tree_199 : decode cX12_tree 199 = .ok (.if_icmp .ge 28, 3) := by decide +kernel
theorem dX12_tree_202 : decode cX12_tree 202 = .ok (.iload_n 3, 1) := by decide +kernel
theorem dX12_tree_203 : decode cX12_tree 203 = .ok (.aload_n 0, 1) := by decide +kernel
theorem dX12_tree_204 : decode cX12_tree 204 = .ok (.getfield 107, 3) := by decide +kernel
theorem dX12_tree_207 : decode cX12_tree 207 = .ok (.iload 4, 2) := by decide +kernel
theorem dX12_tree_209 : decode cX12_tree 209 = .ok (.iaload, 1) := by decide +kernel
theorem dX12_tree_210 : decode cX12_tree 210 = .ok (.iconst 1, 1) := by decide +kernel
theorem dX12_tree_211 : decode cX12_tree 211 = .ok (.if_icmp .ne 7, 3) := by decide +kernel
theorem dX12_tree_214 : decode cX12_tree 214 = .ok (.iconst 1, 1) := by decide +kernel
theorem dX12_tree_215 : decode cX12_tree 215 = .ok (.goto 4, 3) := by decide +kernel
theorem dX12_tree_218 : decode cX12_tree 218 = .ok (.iconst 0, 1) := by decide +kernel
theorem dX12_tree_219 : decode cX12_tree 219 = .ok (.iadd, 1) := by decide +kernel
theorem dX12_tree_220 : decode cX12_tree 220 = .ok (.istore_n 3, 1) := by decide +kernel
theorem dX12_tree_221 : decode cX12_tree 221 = .ok (.iinc 4 1, 3) := by decide +kernel
theorem dX12_tree_224 : decode cX12_tree 224 = .ok (.goto (-31), 3) := by decide +kernel
theorem dX12_tree_227 : decode cX12_tree 227 = .ok (.aload_n 0, 1) := by decide +kernel
theorem dX12_tree_228 : decode cX12_tree 228 = .ok (.iconst 0, 1) := by decide +kernel
theorem dX12_tree_229 : decode cX12_tree 229 = .ok (.putfield 126, 3) := by decide +kernel
theorem dX12_tree_232 : decode cX12_tree 232 = .ok (.aload_n 0, 1) := by decide +kernel
theorem dX12_tree_233 : decode cX12_tree 233 = .ok (.iload_n 3, 1) := by decide +kernel
theorem dX12_tree_234 : decode cX12_tree 234 = .ok (.i2l, 1) := by decide +kernel
theorem dX12_tree_235 : decode cX12_tree 235 = .ok (.invokevirtual 331, 3) := by decide +kernel
theorem dX12_tree_238 : decode cX12_tree 238 = .ok (.iload_n 1, 1) := by decide +kernel
theorem dX12_tree_239 : decode cX12_tree 239 = .ok (.ireturn, 1) := by decide +kernel
theorem dX12_got_0 : decode cX12_got 0 = .ok (.aload_n 0, 1) := by decide +kernel
theorem dX12_got_1 : decode cX12_got 1 = .ok (.iconst 0, 1) := by decide +kernel
theorem dX12_got_2 : decode cX12_got 2 = .ok (.putfield 123, 3) := by decide +kernel
theorem dX12_got_5 : decode cX12_got 5 = .ok (.aload_n 0, 1) := by decide +kernel
theorem dX12_got_6 : decode cX12_got 6 = .ok (.invokevirtual 412, 3) := by decide +kernel
theorem dX12_got_9 : decode cX12_got 9 = .ok (.istore_n 1, 1) := by decide +kernel
theorem dX12_got_10 : decode cX12_got 10 = .ok (.iload_n 1, 1) := by decide +kernel
theorem dX12_got_11 : decode cX12_got 11 = .ok (.ifCond .ge 5, 3) := by decide +kernel
theorem dX12_got_14 : decode cX12_got 14 = .ok (.iload_n 1, 1) := by decide +kernel
theorem dX12_got_15 : decode cX12_got 15 = .ok (.ireturn, 1) := by decide +kernel
theorem dX12_got_16 : decode cX12_got 16 = .ok (.aload_n 0, 1) := by decide +kernel
theorem dX12_got_17 : decode cX12_got 17 = .ok (.getfield 409, 3) := by decide +kernel
theorem dX12_got_20 : decode cX12_got 20 = .ok (.ifCond .ne 7, 3) := by decide +kernel
theorem dX12_got_23 : decode cX12_got 23 = .ok (.sipush (-200), 3) := by decide +kernel
theorem dX12_got_26 : decode cX12_got 26 = .ok (.ireturn, 1) := by decide +kernel
theorem dX12_got_27 : decode cX12_got 27 = .ok (.ldc 122, 2) := by decide +kernel
theorem dX12_got_29 : decode cX12_got 29 = .ok (.istore_n 2, 1) := by decide +kernel
theorem dX12_got_30 : decode cX12_got 30 = .ok (.iconst 0, 1) := by decide +kernel
theorem dX12_got_31 : decode cX12_got 31 = .ok (.istore_n 3, 1) := by decide +kernel
theorem dX12_got_32 : decode cX12_got 32 = .ok (.iconst 0, 1) := by decide +kernel
theorem dX12_got_33 : decode cX12_got 33 = .ok (.istore 4, 2) := by decide +kernel
theorem dX12_got_35 : decode cX12_got 35 = .ok (.iload 4, 2) := by decide +kernel
theorem dX12_got_37 : decode cX12_got 37 = .ok (.aload_n 0, 1) := by decide +kernel
theorem dX12_got_38 : decode cX12_got 38 = .ok (.getfield 409, 3) := by decide +kernel
theorem dX12_got_41 : decode cX12_got 41 = .ok (.if_icmp .ge 74, 3) := by decide +kernel
theorem dX12_got_44 : decode cX12_got 44 = .ok (.aload_n 0, 1) := by decide +kernel
theorem dX12_got_45 : decode cX12_got 45 = .ok (.aload_n 0, 1) := by decide +kernel
theorem dX12_got_46 : decode cX12_got 46 = .ok (.getfield 101, 3) := by decide +kernel
theorem dX12_got_49 : decode cX12_got 49 = .ok (.iconst 0, 1) := by decide +kernel
theorem dX12_got_50 : decode cX12_got 50 = .ok (.iload_n 1, 1) := by decide +kernel
theorem dX12_got_51 : decode cX12_got 51 = .ok (.aload_n 0, 1) := by decide +kernel
theorem dX12_got_52 : decode cX12_got 52 = .ok (.getfield 92, 3) := by decide +kernel
theorem dX12_got_55 : decode cX12_got 55 = .ok (.bipush 12, 2) := by decide +kernel
theorem dX12_got_57 : decode cX12_got 57 = .ok (.iload 4, 2) := by decide +kernel
theorem dX12_got_59 : decode cX12_got 59 = .ok (.imul, 1) := by decide +kernel
theorem dX12_got_60 : decode cX12_got 60 = .ok (.aload_n 0, 1) := by decide +kernel
theorem dX12_got_61 : decode cX12_got 61 = .ok (.getfield 95, 3) := by decide +kernel
theorem dX12_got_64 : decode cX12_got 64 = .ok (.iload 4, 2) := by decide +kernel
theorem dX12_got_66 : decode cX12_got 66 = .ok (.iaload, 1) := by decide +kernel
theorem dX12_got_67 : decode cX12_got 67 = .ok (.invokevirtual 415, 3) := by decide +kernel
theorem dX12_got_70 : decode cX12_got 70 = .ok (.istore 5, 2) := by decide +kernel
theorem dX12_got_72 : decode cX12_got 72 = .ok (.iload 5, 2) := by decide +kernel
theorem dX12_got_74 : decode cX12_got 74 = .ok (.iload_n 2, 1) := by decide +kernel
theorem dX12_got_75 : decode cX12_got 75 = .ok (.if_icmp .ge 5, 3) := by decide +kernel
theorem dX12_got_78 : decode cX12_got 78 = .ok (.iconst 0, 1) := by decide +kernel
theorem dX12_got_79 : decode cX12_got 79 = .ok (.istore_n 3, 1) := by decide +kernel
theorem dX12_got_80 : decode cX12_got 80 = .ok (.iload_n 2, 1) := by decide +kernel
theorem dX12_got_81 : decode cX12_got 81 = .ok (.iload 5, 2) := by decide +kernel
theorem dX12_got_83 : decode cX12_got 83 = .ok (.invokestatic 200, 3) := by decide +kernel
theorem dX12_got_86 : decode cX12_got 86 = .ok (.istore_n 2, 1) := by decide +kernel
theorem dX12_got_87 : decode cX12_got 87 = .ok (.iload_n 3, 1) := by decide +kernel
theorem dX12_got_88 : decode cX12_got 88 = .ok (.iload 5, 2) := by decide +kernel
theorem dX12_got_90 : decode cX12_got 90 = .ok (.iload_n 2, 1) := by decide +kernel
theorem dX12_got_91 : decode cX12_got 91 = .ok (.if_icmp .ne 15, 3) := by decide +kernel
theorem dX12_got_94 : decode cX12_got 94 = .ok (.iconst 1, 1) := by decide +kernel
theorem dX12_got_95 : decode cX12_got 95 = .ok (.aload_n 0, 1) := by decide +kernel
theorem dX12_got_96 : decode cX12_got 96 = .ok (.getfield 98, 3) := by decide +kernel
theorem dX12_got_99 : decode cX12_got 99 = .ok (.iload 4, 2) := by decide +kernel
theorem dX12_got_101 : decode cX12_got 101 = .ok (.iaload, 1) := by decide +kernel
theorem dX12_got_102 : decode cX12_got 102 = .ok (.ishl, 1) := by decide +kernel
theorem dX12_got_103 : decode cX12_got 103 = .ok (.goto 4, 3) := by decide +kernel
theorem dX12_got_106 : decode cX12_got 106 = .ok (.iconst 0, 1) := by decide +kernel
theorem dX12_got_107 : decode cX12_got 107 = .ok (.ior, 1) := by decide +kernel
theorem dX12_got_108 : decode cX12_got 108 = .ok (.istore_n 3, 1) := by decide +kernel
theorem dX12_got_109 : decode cX12_got 109 = .ok (.iinc 4 1, 3) := by decide +kernel
theorem dX12_got_112 : decode cX12_got 112 = .ok (.goto (-77), 3) := by decide +kernel
theorem dX12_got_115 : decode cX12_got 115 = .ok (.aload_n 0, 1) := by decide +kernel
theorem dX12_got_116 : decode cX12_got 116 = .ok (.iconst 0, 1) := by decide +kernel
theorem dX12_got_117 : decode cX12_got 117 = .ok (.putfield 126, 3) := by decide +kernel
theorem dX12_got_120 : decode cX12_got 120 = .ok (.aload_n 0, 1) := by decide +kernel
theorem dX12_got_121 : decode cX12_got 121 = .ok (.iload_n 2, 1) := by decide +kernel
theorem dX12_got_122 : decode cX12_got 122 = .ok (.i2l, 1) := by decide +kernel
theorem dX12_got_123 : decode cX12_got 123 = .ok (.invokevirtual 331, 3) := by decide +kernel
theorem dX12_got_126 : decode cX12_got 126 = .ok (.iload_n 3, 1) := by decide +kernel
theorem dX12_got_127 : decode cX12_got 127 = .ok (.ireturn, 1) := by decide +kernel
theorem dX12_common_0 : decode cX12_common 0 = .ok (.lload_n 2, 1) := by decide +kernel
theorem dX12_common_1 : decode cX12_common 1 = .ok (.lconst 0, 1) := by decide +kernel
theorem dX12_common_2 : decode cX12_common 2 = .ok (.lcmp, 1) := by decide +kernel
theorem dX12_common_3 : decode cX12_common 3 = .ok (.ifCond .ne 7, 3) := by decide +kernel
theorem dX12_common_6 : decode cX12_common 6 = .ok (.lload_n 0, 1) := by decide +kernel
theorem dX12_common_7 : decode cX12_common 7 = .ok (.goto 10, 3) := by decide +kernel
theorem dX12_common_10 : decode cX12_common 10 = .ok (.lload_n 2, 1) := by decide +kernel
theorem dX12_common_11 : decode cX12_common 11 = .ok (.lload_n 0, 1) := by decide +kernel
theorem dX12_common_12 : decode cX12_common 12 = .ok (.lload_n 2, 1) := by decide +kernel
theorem dX12_common_13 : decode cX12_common 13 = .ok (.lrem, 1) := by decide +kernel
theorem dX12_common_14 : decode cX12_common 14 = .ok (.invokestatic 425, 3) := by decide +kernel
theorem dX12_common_17 : decode cX12_common 17 = .ok (.lreturn, 1) := by decide +kernel
theorem dX12_breaks_0 : decode cX12_breaks 0 = .ok (.aload_n 0, 1) := by decide +kernel
theorem dX12_breaks_1 : decode cX12_breaks 1 = .ok (.iconst 0, 1) := by decide +kernel
theorem dX12_breaks_2 : decode cX12_breaks 2 = .ok (.putfield 123, 3) := by decide +kernel
theorem dX12_breaks_5 : decode cX12_breaks 5 = .ok (.iload_n 1, 1) := by decide +kernel
theorem dX12_breaks_6 : decode cX12_breaks 6 = .ok (.iconst 1, 1) := by decide +kernel
theorem dX12_breaks_7 : decode cX12_breaks 7 = .ok (.bipush 12, 2) := by decide +kernel
theorem dX12_breaks_9 : decode cX12_breaks 9 = .ok (.invokestatic 132, 3) := by decide +kernel
theorem dX12_breaks_12 : decode cX12_breaks 12 = .ok (.ifCond .eq 13, 3) := by decide +kernel
theorem dX12_breaks_15 : decode cX12_breaks 15 = .ok (.iload_n 2, 1) := by decide +kernel
theorem dX12_breaks_16 : decode cX12_breaks 16 = .ok (.iconst 0, 1) := by decide +kernel
theorem dX12_breaks_17 : decode cX12_breaks 17 = .ok (.bipush 10, 2) := by decide +kernel
theorem dX12_breaks_19 : decode cX12_breaks 19 = .ok (.invokestatic 132, 3) := by decide +kernel
theorem dX12_breaks_22 : decode cX12_breaks 22 = .ok (.ifCond .ne 5, 3) := by decide +kernel
theorem dX12_breaks_25 : decode cX12_breaks 25 = .ok (.iconst (-1), 1) := by decide +kernel
theorem dX12_breaks_26 : decode cX12_breaks 26 = .ok (.ireturn, 1) := by decide +kernel
theorem dX12_breaks_27 : decode cX12_breaks 27 = .ok (.lconst 1, 1) := by decide +kernel
theorem dX12_breaks_28 : decode cX12_breaks 28 = .ok (.lstore_n 3, 1) := by decide +kernel
theorem dX12_breaks_29 : decode cX12_breaks 29 = .ok (.lconst 1, 1) := by decide +kernel
theorem dX12_breaks_30 : decode cX12_breaks 30 = .ok (.lstore 5, 2) := by decide +kernel
theorem dX12_breaks_32 : decode cX12_breaks 32 = .ok (.iconst 0, 1) := by decide +kernel
theorem dX12_breaks_33 : decode cX12_breaks 33 = .ok (.istore 7, 2) := by decide +kernel
theorem dX12_breaks_35 : decode cX12_breaks 35 = .ok (.iload 7, 2) := by decide +kernel
theorem dX12_breaks_37 : decode cX12_breaks 37 = .ok (.iload_n 1, 1) := by decide +kernel
theorem dX12_breaks_38 : decode cX12_breaks 38 = .ok (.if_icmp .ge 25, 3) := by decide +kernel
theorem dX12_breaks_41 : decode cX12_breaks 41 = .ok (.lload_n 3, 1) := by decide +kernel
theorem dX12_breaks_42 : decode cX12_breaks 42 = .ok (.ldc2_w 428, 3) := by decide +kernel
theorem dX12_breaks_45 : decode cX12_breaks 45 = .ok (.lmul, 1) := by decide +kernel
theorem dX12_breaks_46 : decode cX12_breaks 46 = .ok (.lstore_n 3, 1) := by decide +kernel
theorem dX12_breaks_47 : decode cX12_breaks 47 = .ok (.lload 5, 2) := by decide +kernel
theorem dX12_breaks_49 : decode cX12_breaks 49 = .ok (.bipush 10, 2) := by decide +kernel
theorem dX12_breaks_51 : decode cX12_breaks 51 = .ok (.iload_n 2, 1) := by decide +kernel
theorem dX12_breaks_52 : decode cX12_breaks 52 = .ok (.isub, 1) := by decide +kernel
theorem dX12_breaks_53 : decode cX12_breaks 53 = .ok (.i2l, 1) := by decide +kernel
theorem dX12_breaks_54 : decode cX12_breaks 54 = .ok (.lmul, 1) := by decide +kernel
theorem dX12_breaks_55 : decode cX12_breaks 55 = .ok (.lstore 5, 2) := by decide +kernel
theorem dX12_breaks_57 : decode cX12_breaks 57 = .ok (.iinc 7 1, 3) := by decide +kernel
theorem dX12_breaks_60 : decode cX12_breaks 60 = .ok (.goto (-25), 3) := by decide +kernel
theorem dX12_breaks_63 : decode cX12_breaks 63 = .ok (.lload_n 3, 1) := by decide +kernel
theorem dX12_breaks_64 : decode cX12_breaks 64 = .ok (.lload 5, 2) := by decide +kernel
theorem dX12_breaks_66 : decode cX12_breaks 66 = .ok (.lsub, 1) := by decide +kernel
theorem dX12_breaks_67 : decode cX12_breaks 67 = .ok (.lload_n 3, 1) := by decide +kernel
theorem dX12_breaks_68 : decode cX12_breaks 68 = .ok (.invokestatic 425, 3) := by decide +kernel
theorem dX12_breaks_71 : decode cX12_breaks 71 = .ok (.lstore 7, 2) := by decide +kernel
theorem dX12_breaks_73 : decode cX12_breaks 73 = .ok (.aload_n 0, 1) := by decide +kernel
theorem dX12_breaks_74 : decode cX12_breaks 74 = .ok (.iconst 0, 1) := by decide +kernel
theorem dX12_breaks_75 : decode cX12_breaks 75 = .ok (.putfield 126, 3) := by decide +kernel
theorem dX12_breaks_78 : decode cX12_breaks 78 = .ok (.aload_n 0, 1) := by decide +kernel
theorem dX12_breaks_79 : decode cX12_breaks 79 = .ok (.lload_n 3, 1) := by decide +kernel
theorem dX12_breaks_80 : decode cX12_breaks 80 = .ok (.lload 5, 2) := by decide +kernel
theorem dX12_breaks_82 : decode cX12_breaks 82 = .ok (.lsub, 1) := by decide +kernel
theorem dX12_breaks_83 : decode cX12_breaks 83 = .ok (.lload 7, 2) := by decide +kernel
theorem dX12_breaks_85 : decode cX12_breaks 85 = .ok (.ldiv, 1) := by decide +kernel
theorem dX12_breaks_86 : decode cX12_breaks 86 = .ok (.invokevirtual 331, 3) := by decide +kernel
theorem dX12_breaks_89 : decode cX12_breaks 89 = .ok (.aload_n 0, 1) := by decide +kernel
theorem dX12_breaks_90 : decode cX12_breaks 90 = .ok (.lload_n 3, 1) := by decide +kernel
theorem dX12_breaks_91 : decode cX12_breaks 91 = .ok (.lload 7, 2) := by decide +kernel
theorem dX12_breaks_93 : decode cX12_breaks 93 = .ok (.ldiv, 1) := by decide +kernel
theorem dX12_breaks_94 : decode cX12_breaks 94 = .ok (.invokevirtual 331, 3) := by decide +kernel
theorem dX12_breaks_97 : decode cX12_breaks 97 = .ok (.iconst 0, 1) := by decide +kernel
theorem dX12_breaks_98 : decode cX12_breaks 98 = .ok (.ireturn, 1) := by decide +kernel
theorem dX12_gets_0 : decode cX12_gets 0 = .ok (.iload_n 0, 1) := by decide +kernel
theorem dX12_gets_1 : decode cX12_gets 1 = .ok (.iload_n 1, 1) := by decide +kernel
theorem dX12_gets_2 : decode cX12_gets 2 = .ok (.if_icmp .gt 12, 3) := by decide +kernel
theorem dX12_gets_5 : decode cX12_gets 5 = .ok (.iload_n 0, 1) := by decide +kernel
theorem dX12_gets_6 : decode cX12_gets 6 = .ok (.iload_n 1, 1) := by decide +kernel
theorem dX12_gets_7 : decode cX12_gets 7 = .ok (.if_icmp .ne 13, 3) := by decide +kernel
theorem dX12_gets_10 : decode cX12_gets 10 = .ok (.iload_n 2, 1) := by decide +kernel
theorem dX12_gets_11 : decode cX12_gets 11 = .ok (.ifCond .eq 9, 3) := by decide +kernel
theorem dX12_gets_14 : decode cX12_gets 14 = .ok (.iload_n 3, 1) := by decide +kernel
theorem dX12_gets_15 : decode cX12_gets 15 = .ok (.iload_n 0, 1) := by decide +kernel
theorem dX12_gets_16 : decode cX12_gets 16 = .ok (.isub, 1) := by decide +kernel
theorem dX12_gets_17 : decode cX12_gets 17 = .ok (.goto 4, 3) := by decide +kernel
theorem dX12_gets_20 : decode cX12_gets 20 = .ok (.iconst 0, 1) := by decide +kernel
theorem dX12_gets_21 : decode cX12_gets 21 = .ok (.ireturn, 1) := by decide +kernel
theorem dX12_isBest_0 : decode cX12_isBest 0 = .ok (.iconst 0, 1) := by decide +kernel
theorem dX12_isBest_1 : decode cX12_isBest 1 = .ok (.istore 4, 2) := by decide +kernel
theorem dX12_isBest_3 : decode cX12_isBest 3 = .ok (.iload 4, 2) := by decide +kernel
theorem dX12_isBest_5 : decode cX12_isBest 5 = .ok (.bipush 9, 2) := by decide +kernel
theorem dX12_isBest_7 : decode cX12_isBest 7 = .ok (.if_icmp .gt 29, 3) := by decide +kernel
theorem dX12_isBest_10 : decode cX12_isBest 10 = .ok (.iload 4, 2) := by decide +kernel
theorem dX12_isBest_12 : decode cX12_isBest 12 = .ok (.iload_n 1, 1) := by decide +kernel
theorem dX12_isBest_13 : decode cX12_isBest 13 = .ok (.iload_n 2, 1) := by decide +kernel
theorem dX12_isBest_14 : decode cX12_isBest 14 = .ok (.iload_n 3, 1) := by decide +kernel
theorem dX12_isBest_15 : decode cX12_isBest 15 = .ok (.invokestatic 430, 3) := by decide +kernel
theorem dX12_isBest_18 : decode cX12_isBest 18 = .ok (.iload_n 0, 1) := by decide +kernel
theorem dX12_isBest_19 : decode cX12_isBest 19 = .ok (.iload_n 1, 1) := by decide +kernel
theorem dX12_isBest_20 : decode cX12_isBest 20 = .ok (.iload_n 2, 1) := by decide +kernel
theorem dX12_isBest_21 : decode cX12_isBest 21 = .ok (.iload_n 3, 1) := by decide +kernel
theorem dX12_isBest_22 : decode cX12_isBest 22 = .ok (.invokestatic 430, 3) := by decide +kernel
theorem dX12_isBest_25 : decode cX12_isBest 25 = .ok (.if_icmp .le 5, 3) := by decide +kernel
theorem dX12_isBest_28 : decode cX12_isBest 28 = .ok (.iconst 0, 1) := by decide +kernel
theorem dX12_isBest_29 : decode cX12_isBest 29 = .ok (.ireturn, 1) := by decide +kernel
theorem dX12_isBest_30 : decode cX12_isBest 30 = .ok (.iinc 4 1, 3) := by decide +kernel
theorem dX12_isBest_33 : decode cX12_isBest 33 = .ok (.goto (-30), 3) := by decide +kernel
theorem dX12_isBest_36 : decode cX12_isBest 36 = .ok (.iconst 1, 1) := by decide +kernel
theorem dX12_isBest_37 : decode cX12_isBest 37 = .ok (.ireturn, 1) := by decide +kernel
theorem dX12_bids_0 : decode cX12_bids 0 = .ok (.aload_n 0, 1) := by decide +kernel
theorem dX12_bids_1 : decode cX12_bids 1 = .ok (.iconst 0, 1) := by decide +kernel
theorem dX12_bids_2 : decode cX12_bids 2 = .ok (.putfield 123, 3) := by decide +kernel
theorem dX12_bids_5 : decode cX12_bids 5 = .ok (.aload_n 0, 1) := by decide +kernel
theorem dX12_bids_6 : decode cX12_bids 6 = .ok (.iload_n 1, 1) := by decide +kernel
theorem dX12_bids_7 : decode cX12_bids 7 = .ok (.invokevirtual 261, 3) := by decide +kernel
theorem dX12_bids_10 : decode cX12_bids 10 = .ok (.ifCond .eq 26, 3) := by decide +kernel
theorem dX12_bids_13 : decode cX12_bids 13 = .ok (.aload_n 0, 1) := by decide +kernel
theorem dX12_bids_14 : decode cX12_bids 14 = .ok (.iload_n 2, 1) := by decide +kernel
theorem dX12_bids_15 : decode cX12_bids 15 = .ok (.invokevirtual 261, 3) := by decide +kernel
theorem dX12_bids_18 : decode cX12_bids 18 = .ok (.ifCond .eq 18, 3) := by decide +kernel
theorem dX12_bids_21 : decode cX12_bids 21 = .ok (.iload_n 1, 1) := by decide +kernel
theorem dX12_bids_22 : decode cX12_bids 22 = .ok (.iload_n 2, 1) := by decide +kernel
theorem dX12_bids_23 : decode cX12_bids 23 = .ok (.if_icmp .eq 13, 3) := by decide +kernel
theorem dX12_bids_26 : decode cX12_bids 26 = .ok (.iload_n 3, 1) := by decide +kernel
theorem dX12_bids_27 : decode cX12_bids 27 = .ok (.iconst 0, 1) := by decide +kernel
theorem dX12_bids_28 : decode cX12_bids 28 = .ok (.bipush 9, 2) := by decide +kernel
theorem dX12_bids_30 : decode cX12_bids 30 = .ok (.invokestatic 132, 3) := by decide +kernel
theorem dX12_bids_33 : decode cX12_bids 33 = .ok (.ifCond .ne 5, 3) := by decide +kernel
theorem dX12_bids_36 : decode cX12_bids 36 = .ok (.iconst (-1), 1) := by decide +kernel
theorem dX12_bids_37 : decode cX12_bids 37 = .ok (.ireturn, 1) := by decide +kernel
theorem dX12_bids_38 : decode cX12_bids 38 = .ok (.aload_n 0, 1) := by decide +kernel
theorem dX12_bids_39 : decode cX12_bids 39 = .ok (.aload_n 0, 1) := by decide +kernel
theorem dX12_bids_40 : decode cX12_bids 40 = .ok (.getfield 9, 3) := by decide +kernel
theorem dX12_bids_43 : decode cX12_bids 43 = .ok (.iconst 0, 1) := by decide +kernel
theorem dX12_bids_44 : decode cX12_bids 44 = .ok (.iaload, 1) := by decide +kernel
theorem dX12_bids_45 : decode cX12_bids 45 = .ok (.iload_n 1, 1) := by decide +kernel
theorem dX12_bids_46 : decode cX12_bids 46 = .ok (.invokevirtual 271, 3) := by decide +kernel
theorem dX12_bids_49 : decode cX12_bids 49 = .ok (.aload_n 0, 1) := by decide +kernel
theorem dX12_bids_50 : decode cX12_bids 50 = .ok (.aload_n 0, 1) := by decide +kernel
theorem dX12_bids_51 : decode cX12_bids 51 = .ok (.getfield 9, 3) := by decide +kernel
theorem dX12_bids_54 : decode cX12_bids 54 = .ok (.iconst 0, 1) := by decide +kernel
theorem dX12_bids_55 : decode cX12_bids 55 = .ok (.iaload, 1) := by decide +kernel
theorem dX12_bids_56 : decode cX12_bids 56 = .ok (.iload_n 2, 1) := by decide +kernel
theorem dX12_bids_57 : decode cX12_bids 57 = .ok (.invokevirtual 271, 3) := by decide +kernel
theorem dX12_bids_60 : decode cX12_bids 60 = .ok (.if_icmp .le 35, 3) := by decide +kernel
theorem dX12_bids_63 : decode cX12_bids 63 = .ok (.aload_n 0, 1) := by decide +kernel
theorem dX12_bids_64 : decode cX12_bids 64 = .ok (.aload_n 0, 1) := by decide +kernel
theorem dX12_bids_65 : decode cX12_bids 65 = .ok (.getfield 9, 3) := by decide +kernel
theorem dX12_bids_68 : decode cX12_bids 68 = .ok (.iconst 0, 1) := by decide +kernel
theorem dX12_bids_69 : decode cX12_bids 69 = .ok (.iaload, 1) := by decide +kernel
theorem dX12_bids_70 : decode cX12_bids 70 = .ok (.iload_n 2, 1) := by decide +kernel
theorem dX12_bids_71 : decode cX12_bids 71 = .ok (.invokevirtual 271, 3) := by decide +kernel
theorem dX12_bids_74 : decode cX12_bids 74 = .ok (.ldc 122, 2) := by decide +kernel
theorem dX12_bids_76 : decode cX12_bids 76 = .ok (.if_icmp .lt 23, 3) := by decide +kernel
theorem dX12_bids_79 : decode cX12_bids 79 = .ok (.aload_n 0, 1) := by decide +kernel
theorem dX12_bids_80 : decode cX12_bids 80 = .ok (.aload_n 0, 1) := by decide +kernel
theorem dX12_bids_81 : decode cX12_bids 81 = .ok (.getfield 9, 3) := by decide +kernel
theorem dX12_bids_84 : decode cX12_bids 84 = .ok (.iconst 0, 1) := by decide +kernel
theorem dX12_bids_85 : decode cX12_bids 85 = .ok (.iaload, 1) := by decide +kernel
theorem dX12_bids_86 : decode cX12_bids 86 = .ok (.iload_n 1, 1) := by decide +kernel
theorem dX12_bids_87 : decode cX12_bids 87 = .ok (.invokevirtual 271, 3) := by decide +kernel
theorem dX12_bids_90 : decode cX12_bids 90 = .ok (.ldc 122, 2) := by decide +kernel
theorem dX12_bids_92 : decode cX12_bids 92 = .ok (.if_icmp .lt 7, 3) := by decide +kernel
theorem dX12_bids_95 : decode cX12_bids 95 = .ok (.iconst 1, 1) := by decide +kernel
theorem dX12_bids_96 : decode cX12_bids 96 = .ok (.goto 4, 3) := by decide +kernel
theorem dX12_bids_99 : decode cX12_bids 99 = .ok (.iconst 0, 1) := by decide +kernel
theorem dX12_bids_100 : decode cX12_bids 100 = .ok (.istore 4, 2) := by decide +kernel
theorem dX12_bids_102 : decode cX12_bids 102 = .ok (.iconst 0, 1) := by decide +kernel
theorem dX12_bids_103 : decode cX12_bids 103 = .ok (.istore 5, 2) := by decide +kernel
theorem dX12_bids_105 : decode cX12_bids 105 = .ok (.aload_n 0, 1) := by decide +kernel
theorem dX12_bids_106 : decode cX12_bids 106 = .ok (.iconst 0, 1) := by decide +kernel
theorem dX12_bids_107 : decode cX12_bids 107 = .ok (.putfield 126, 3) := by decide +kernel
theorem dX12_bids_110 : decode cX12_bids 110 = .ok (.iconst 0, 1) := by decide +kernel
theorem dX12_bids_111 : decode cX12_bids 111 = .ok (.istore 6, 2) := by decide +kernel
theorem dX12_bids_113 : decode cX12_bids 113 = .ok (.iload 6, 2) := by decide +kernel
theorem dX12_bids_115 : decode cX12_bids 115 = .ok (.bipush 9, 2) := by decide +kernel
theorem dX12_bids_117 : decode cX12_bids 117 = .ok (.if_icmp .gt 84, 3) := by decide +kernel
theorem dX12_bids_120 : decode cX12_bids 120 = .ok (.iconst 0, 1) := by decide +kernel
theorem dX12_bids_121 : decode cX12_bids 121 = .ok (.istore 7, 2) := by decide +kernel
theorem dX12_bids_123 : decode cX12_bids 123 = .ok (.iload 7, 2) := by decide +kernel
theorem dX12_bids_125 : decode cX12_bids 125 = .ok (.bipush 9, 2) := by decide +kernel
theorem dX12_bids_127 : decode cX12_bids 127 = .ok (.if_icmp .gt 68, 3) := by decide +kernel
theorem dX12_bids_130 : decode cX12_bids 130 = .ok (.iload 6, 2) := by decide +kernel
theorem dX12_bids_132 : decode cX12_bids 132 = .ok (.iload 7, 2) := by decide +kernel
theorem dX12_bids_134 : decode cX12_bids 134 = .ok (.iload 4, 2) := by decide +kernel
theorem dX12_bids_136 : decode cX12_bids 136 = .ok (.iload_n 3, 1) := by decide +kernel
theorem dX12_bids_137 : decode cX12_bids 137 = .ok (.invokestatic 434, 3) := by decide +kernel
theorem dX12_bids_140 : decode cX12_bids 140 = .ok (.ifCond .eq 49, 3) := by decide +kernel
theorem dX12_bids_143 : decode cX12_bids 143 = .ok (.iload 7, 2) := by decide +kernel
theorem dX12_bids_145 : decode cX12_bids 145 = .ok (.iload 6, 2) := by decide +kernel
theorem dX12_bids_147 : decode cX12_bids 147 = .ok (.iload 4, 2) := by decide +kernel
theorem dX12_bids_149 : decode cX12_bids 149 = .ok (.ifCond .ne 7, 3) := by decide +kernel
theorem dX12_bids_152 : decode cX12_bids 152 = .ok (.iconst 1, 1) := by decide +kernel
theorem dX12_bids_153 : decode cX12_bids 153 = .ok (.goto 4, 3) := by decide +kernel
theorem dX12_bids_156 : decode cX12_bids 156 = .ok (.iconst 0, 1) := by decide +kernel
theorem dX12_bids_157 : decode cX12_bids 157 = .ok (.iload_n 3, 1) := by decide +kernel
theorem dX12_bids_158 : decode cX12_bids 158 = .ok (.invokestatic 434, 3) := by decide +kernel
theorem dX12_bids_161 : decode cX12_bids 161 = .ok (.ifCond .ne 6, 3) := by decide +kernel
theorem dX12_bids_164 : decode cX12_bids 164 = .ok (.goto 25, 3) := by decide +kernel
theorem dX12_bids_167 : decode cX12_bids 167 = .ok (.iload 5, 2) := by decide +kernel
theorem dX12_bids_169 : decode cX12_bids 169 = .ok (.ifCond .ne 17, 3) := by decide +kernel
theorem dX12_bids_172 : decode cX12_bids 172 = .ok (.aload_n 0, 1) := by decide +kernel
theorem dX12_bids_173 : decode cX12_bids 173 = .ok (.iload 6, 2) := by decide +kernel
theorem dX12_bids_175 : decode cX12_bids 175 = .ok (.i2l, 1) := by decide +kernel
theorem dX12_bids_176 : decode cX12_bids 176 = .ok (.invokevirtual 331, 3) := by decide +kernel
theorem dX12_bids_179 : decode cX12_bids 179 = .ok (.aload_n 0, 1) := by decide +kernel
theorem dX12_bids_180 : decode cX12_bids 180 = .ok (.iload 7, 2) := by decide +kernel
theorem dX12_bids_182 : decode cX12_bids 182 = .ok (.i2l, 1) := by decide +kernel
theorem dX12_bids_183 : decode cX12_bids 183 = .ok (.invokevirtual 331, 3) := by decide +kernel
theorem dX12_bids_186 : decode cX12_bids 186 = .ok (.iinc 5 1, 3) := by decide +kernel
theorem dX12_bids_189 : decode cX12_bids 189 = .ok (.iinc 7 1, 3) := by decide +kernel
theorem dX12_bids_192 : decode cX12_bids 192 = .ok (.goto (-69), 3) := by decide +kernel
theorem dX12_bids_195 : decode cX12_bids 195 = .ok (.iinc 6 1, 3) := by decide +kernel
theorem dX12_bids_198 : decode cX12_bids 198 = .ok (.goto (-85), 3) := by decide +kernel
theorem dX12_bids_201 : decode cX12_bids 201 = .ok (.iload 5, 2) := by decide +kernel
theorem dX12_bids_203 : decode cX12_bids 203 = .ok (.ireturn, 1) := by decide +kernel
theorem dX12_kinds_0 : decode cX12_kinds 0 = .ok (.aload_n 0, 1) := by decide +kernel
theorem dX12_kinds_1 : decode cX12_kinds 1 = .ok (.iconst 0, 1) := by decide +kernel
theorem dX12_kinds_2 : decode cX12_kinds 2 = .ok (.putfield 123, 3) := by decide +kernel
theorem dX12_kinds_5 : decode cX12_kinds 5 = .ok (.iload_n 1, 1) := by decide +kernel
theorem dX12_kinds_6 : decode cX12_kinds 6 = .ok (.iconst 1, 1) := by decide +kernel
theorem dX12_kinds_7 : decode cX12_kinds 7 = .ok (.bipush 99, 2) := by decide +kernel
theorem dX12_kinds_9 : decode cX12_kinds 9 = .ok (.invokestatic 132, 3) := by decide +kernel
theorem dX12_kinds_12 : decode cX12_kinds 12 = .ok (.ifCond .ne 5, 3) := by decide +kernel
theorem dX12_kinds_15 : decode cX12_kinds 15 = .ok (.iconst (-1), 1) := by decide +kernel
theorem dX12_kinds_16 : decode cX12_kinds 16 = .ok (.ireturn, 1) := by decide +kernel
theorem dX12_kinds_17 : decode cX12_kinds 17 = .ok (.iconst 0, 1) := by decide +kernel
theorem dX12_kinds_18 : decode cX12_kinds 18 = .ok (.istore_n 2, 1) := by decide +kernel
theorem dX12_kinds_19 : decode cX12_kinds 19 = .ok (.iconst 0, 1) := by decide +kernel
theorem dX12_kinds_20 : decode cX12_kinds 20 = .ok (.istore_n 3, 1) := by decide +kernel
theorem dX12_kinds_21 : decode cX12_kinds 21 = .ok (.iconst 0, 1) := by decide +kernel
theorem dX12_kinds_22 : decode cX12_kinds 22 = .ok (.istore 4, 2) := by decide +kernel
theorem dX12_kinds_24 : decode cX12_kinds 24 = .ok (.aload_n 0, 1) := by decide +kernel
theorem dX12_kinds_25 : decode cX12_kinds 25 = .ok (.getfield 9, 3) := by decide +kernel
theorem dX12_kinds_28 : decode cX12_kinds 28 = .ok (.iconst 5, 1) := by decide +kernel
theorem dX12_kinds_29 : decode cX12_kinds 29 = .ok (.iaload, 1) := by decide +kernel
theorem dX12_kinds_30 : decode cX12_kinds 30 = .ok (.istore 5, 2) := by decide +kernel
theorem dX12_kinds_32 : decode cX12_kinds 32 = .ok (.iload 5, 2) := by decide +kernel
theorem dX12_kinds_34 : decode cX12_kinds 34 = .ok (.aload_n 0, 1) := by decide +kernel
theorem dX12_kinds_35 : decode cX12_kinds 35 = .ok (.getfield 9, 3) := by decide +kernel
theorem dX12_kinds_38 : decode cX12_kinds 38 = .ok (.iconst 5, 1) := by decide +kernel
theorem dX12_kinds_39 : decode cX12_kinds 39 = .ok (.iaload, 1) := by decide +kernel
theorem dX12_kinds_40 : decode cX12_kinds 40 = .ok (.iload_n 1, 1) := by decide +kernel
theorem dX12_kinds_41 : decode cX12_kinds 41 = .ok (.iadd, 1) := by decide +kernel
theorem dX12_kinds_42 : decode cX12_kinds 42 = .ok (.if_icmp .ge 71, 3) := by decide +kernel
theorem dX12_kinds_45 : decode cX12_kinds 45 = .ok (.iload_n 2, 1) := by decide +kernel
theorem dX12_kinds_46 : decode cX12_kinds 46 = .ok (.aload_n 0, 1) := by decide +kernel
theorem dX12_kinds_47 : decode cX12_kinds 47 = .ok (.iload 5, 2) := by decide +kernel
theorem dX12_kinds_49 : decode cX12_kinds 49 = .ok (.invokevirtual 249, 3) := by decide +kernel
theorem dX12_kinds_52 : decode cX12_kinds 52 = .ok (.ifCond .eq 7, 3) := by decide +kernel
theorem dX12_kinds_55 : decode cX12_kinds 55 = .ok (.iconst 1, 1) := by decide +kernel
theorem dX12_kinds_56 : decode cX12_kinds 56 = .ok (.goto 4, 3) := by decide +kernel
theorem dX12_kinds_59 : decode cX12_kinds 59 = .ok (.iconst 0, 1) := by decide +kernel
theorem dX12_kinds_60 : decode cX12_kinds 60 = .ok (.iadd, 1) := by decide +kernel
theorem dX12_kinds_61 : decode cX12_kinds 61 = .ok (.istore_n 2, 1) := by decide +kernel
theorem dX12_kinds_62 : decode cX12_kinds 62 = .ok (.iload_n 3, 1) := by decide +kernel
theorem dX12_kinds_63 : decode cX12_kinds 63 = .ok (.aload_n 0, 1) := by decide +kernel
theorem dX12_kinds_64 : decode cX12_kinds 64 = .ok (.iload 5, 2) := by decide +kernel
theorem dX12_kinds_66 : decode cX12_kinds 66 = .ok (.invokevirtual 294, 3) := by decide +kernel
theorem dX12_kinds_69 : decode cX12_kinds 69 = .ok (.ifCond .eq 7, 3) := by decide +kernel
theorem dX12_kinds_72 : decode cX12_kinds 72 = .ok (.iconst 1, 1) := by decide +kernel
theorem dX12_kinds_73 : decode cX12_kinds 73 = .ok (.goto 4, 3) := by decide +kernel
theorem dX12_kinds_76 : decode cX12_kinds 76 = .ok (.iconst 0, 1) := by decide +kernel
theorem dX12_kinds_77 : decode cX12_kinds 77 = .ok (.iadd, 1) := by decide +kernel
theorem dX12_kinds_78 : decode cX12_kinds 78 = .ok (.istore_n 3, 1) := by decide +kernel
theorem dX12_kinds_79 : decode cX12_kinds 79 = .ok (.iload 4, 2) := by decide +kernel
theorem dX12_kinds_81 : decode cX12_kinds 81 = .ok (.aload_n 0, 1) := by decide +kernel
theorem dX12_kinds_82 : decode cX12_kinds 82 = .ok (.iload 5, 2) := by decide +kernel
theorem dX12_kinds_84 : decode cX12_kinds 84 = .ok (.invokevirtual 249, 3) := by decide +kernel
theorem dX12_kinds_87 : decode cX12_kinds 87 = .ok (.ifCond .eq 16, 3) := by decide +kernel
theorem dX12_kinds_90 : decode cX12_kinds 90 = .ok (.aload_n 0, 1) := by decide +kernel
theorem dX12_kinds_91 : decode cX12_kinds 91 = .ok (.iload 5, 2) := by decide +kernel
theorem dX12_kinds_93 : decode cX12_kinds 93 = .ok (.invokevirtual 294, 3) := by decide +kernel
theorem dX12_kinds_96 : decode cX12_kinds 96 = .ok (.ifCond .eq 7, 3) := by decide +kernel
theorem dX12_kinds_99 : decode cX12_kinds 99 = .ok (.iconst 1, 1) := by decide +kernel
theorem dX12_kinds_100 : decode cX12_kinds 100 = .ok (.goto 4, 3) := by decide +kernel
theorem dX12_kinds_103 : decode cX12_kinds 103 = .ok (.iconst 0, 1) := by decide +kernel
theorem dX12_kinds_104 : decode cX12_kinds 104 = .ok (.iadd, 1) := by decide +kernel
theorem dX12_kinds_105 : decode cX12_kinds 105 = .ok (.istore 4, 2) := by decide +kernel
theorem dX12_kinds_107 : decode cX12_kinds 107 = .ok (.iinc 5 1, 3) := by decide +kernel
theorem dX12_kinds_110 : decode cX12_kinds 110 = .ok (.goto (-78), 3) := by decide +kernel
theorem dX12_kinds_113 : decode cX12_kinds 113 = .ok (.aload_n 0, 1) := by decide +kernel
theorem dX12_kinds_114 : decode cX12_kinds 114 = .ok (.iconst 0, 1) := by decide +kernel
theorem dX12_kinds_115 : decode cX12_kinds 115 = .ok (.putfield 126, 3) := by decide +kernel
theorem dX12_kinds_118 : decode cX12_kinds 118 = .ok (.aload_n 0, 1) := by decide +kernel
theorem dX12_kinds_119 : decode cX12_kinds 119 = .ok (.iload_n 3, 1) := by decide +kernel
theorem dX12_kinds_120 : decode cX12_kinds 120 = .ok (.i2l, 1) := by decide +kernel
theorem dX12_kinds_121 : decode cX12_kinds 121 = .ok (.invokevirtual 331, 3) := by decide +kernel
theorem dX12_kinds_124 : decode cX12_kinds 124 = .ok (.aload_n 0, 1) := by decide +kernel
theorem dX12_kinds_125 : decode cX12_kinds 125 = .ok (.iload 4, 2) := by decide +kernel
theorem dX12_kinds_127 : decode cX12_kinds 127 = .ok (.i2l, 1) := by decide +kernel
theorem dX12_kinds_128 : decode cX12_kinds 128 = .ok (.invokevirtual 331, 3) := by decide +kernel
theorem dX12_kinds_131 : decode cX12_kinds 131 = .ok (.iload_n 2, 1) := by decide +kernel
theorem dX12_kinds_132 : decode cX12_kinds 132 = .ok (.ireturn, 1) := by decide +kernel
theorem dX12_years_0 : decode cX12_years 0 = .ok (.aload_n 0, 1) := by decide +kernel
theorem dX12_years_1 : decode cX12_years 1 = .ok (.iconst 0, 1) := by decide +kernel
theorem dX12_years_2 : decode cX12_years 2 = .ok (.putfield 123, 3) := by decide +kernel
theorem dX12_years_5 : decode cX12_years 5 = .ok (.iload_n 2, 1) := by decide +kernel
theorem dX12_years_6 : decode cX12_years 6 = .ok (.iconst 1, 1) := by decide +kernel
theorem dX12_years_7 : decode cX12_years 7 = .ok (.bipush 60, 2) := by decide +kernel
theorem dX12_years_9 : decode cX12_years 9 = .ok (.invokestatic 132, 3) := by decide +kernel
theorem dX12_years_12 : decode cX12_years 12 = .ok (.ifCond .eq 10, 3) := by decide +kernel
theorem dX12_years_15 : decode cX12_years 15 = .ok (.aload_n 0, 1) := by decide +kernel
theorem dX12_years_16 : decode cX12_years 16 = .ok (.getfield 129, 3) := by decide +kernel
theorem dX12_years_19 : decode cX12_years 19 = .ok (.ifCond .ne 5, 3) := by decide +kernel
theorem dX12_years_22 : decode cX12_years 22 = .ok (.iconst (-1), 1) := by decide +kernel
theorem dX12_years_23 : decode cX12_years 23 = .ok (.ireturn, 1) := by decide +kernel
theorem dX12_years_24 : decode cX12_years 24 = .ok (.iload_n 1, 1) := by decide +kernel
theorem dX12_years_25 : decode cX12_years 25 = .ok (.istore_n 3, 1) := by decide +kernel
theorem dX12_years_26 : decode cX12_years 26 = .ok (.iconst 0, 1) := by decide +kernel
theorem dX12_years_27 : decode cX12_years 27 = .ok (.istore 4, 2) := by decide +kernel
theorem dX12_years_29 : decode cX12_years 29 = .ok (.iconst 0, 1) := by decide +kernel
theorem dX12_years_30 : decode cX12_years 30 = .ok (.istore 5, 2) := by decide +kernel
theorem dX12_years_32 : decode cX12_years 32 = .ok (.aload_n 0, 1) := by decide +kernel
theorem dX12_years_33 : decode cX12_years 33 = .ok (.getfield 9, 3) := by decide +kernel
theorem dX12_years_36 : decode cX12_years 36 = .ok (.aload_n 0, 1) := by decide +kernel
theorem dX12_years_37 : decode cX12_years 37 = .ok (.getfield 110, 3) := by decide +kernel
theorem dX12_years_40 : decode cX12_years 40 = .ok (.iconst 0, 1) := by decide +kernel
theorem dX12_years_41 : decode cX12_years 41 = .ok (.invokestatic 284, 3) := by decide +kernel
theorem dX12_years_44 : decode cX12_years 44 = .ok (.iconst 0, 1) := by decide +kernel
theorem dX12_years_45 : decode cX12_years 45 = .ok (.istore 6, 2) := by decide +kernel
theorem dX12_years_47 : decode cX12_years 47 = .ok (.iload 6, 2) := by decide +kernel
theorem dX12_years_49 : decode cX12_years 49 = .ok (.iload_n 2, 1) := by decide +kernel
theorem dX12_years_50 : decode cX12_years 50 = .ok (.if_icmp .ge 73, 3) := by decide +kernel
theorem dX12_years_53 : decode cX12_years 53 = .ok (.iload_n 3, 1) := by decide +kernel
theorem dX12_years_54 : decode cX12_years 54 = .ok (.ldc_w 438, 3) := by decide +kernel
theorem dX12_years_57 : decode cX12_years 57 = .ok (.imul, 1) := by decide +kernel
theorem dX12_years_58 : decode cX12_years 58 = .ok (.sipush 12345, 3) := by decide +kernel
theorem dX12_years_61 : decode cX12_years 61 = .ok (.iadd, 1) := by decide +kernel
theorem dX12_years_62 : decode cX12_years 62 = .ok (.istore_n 3, 1) := by decide +kernel
theorem dX12_years_63 : decode cX12_years 63 = .ok (.iload_n 3, 1) := by decide +kernel
theorem dX12_years_64 : decode cX12_years 64 = .ok (.bipush 16, 2) := by decide +kernel
theorem dX12_years_66 : decode cX12_years 66 = .ok (.iushr, 1) := by decide +kernel
theorem dX12_years_67 : decode cX12_years 67 = .ok (.aload_n 0, 1) := by decide +kernel
theorem dX12_years_68 : decode cX12_years 68 = .ok (.getfield 129, 3) := by decide +kernel
theorem dX12_years_71 : decode cX12_years 71 = .ok (.irem, 1) := by decide +kernel
theorem dX12_years_72 : decode cX12_years 72 = .ok (.istore 7, 2) := by decide +kernel
theorem dX12_years_74 : decode cX12_years 74 = .ok (.aload_n 0, 1) := by decide +kernel
theorem dX12_years_75 : decode cX12_years 75 = .ok (.aload_n 0, 1) := by decide +kernel
theorem dX12_years_76 : decode cX12_years 76 = .ok (.getfield 110, 3) := by decide +kernel
theorem dX12_years_79 : decode cX12_years 79 = .ok (.iload 7, 2) := by decide +kernel
theorem dX12_years_81 : decode cX12_years 81 = .ok (.invokevirtual 319, 3) := by decide +kernel
theorem dX12_years_84 : decode cX12_years 84 = .ok (.ifCond .ne 14, 3) := by decide +kernel
theorem dX12_years_87 : decode cX12_years 87 = .ok (.iinc 5 1, 3) := by decide +kernel
theorem dX12_years_90 : decode cX12_years 90 = .ok (.aload_n 0, 1) := by decide +kernel
theorem dX12_years_91 : decode cX12_years 91 = .ok (.getfield 110, 3) := by decide +kernel
theorem dX12_years_94 : decode cX12_years 94 = .ok (.iconst 0, 1) := by decide +kernel
theorem dX12_years_95 : decode cX12_years 95 = .ok (.iaload, 1) := by decide +kernel
theorem dX12_years_96 : decode cX12_years 96 = .ok (.istore 7, 2) := by decide +kernel
theorem dX12_years_98 : decode cX12_years 98 = .ok (.aload_n 0, 1) := by decide +kernel
theorem dX12_years_99 : decode cX12_years 99 = .ok (.aload_n 0, 1) := by decide +kernel
theorem dX12_years_100 : decode cX12_years 100 = .ok (.getfield 110, 3) := by decide +kernel
theorem dX12_years_103 : decode cX12_years 103 = .ok (.iload 7, 2) := by decide +kernel
theorem dX12_years_105 : decode cX12_years 105 = .ok (.invokevirtual 327, 3) := by decide +kernel
theorem dX12_years_108 : decode cX12_years 108 = .ok (.iload 4, 2) := by decide +kernel
theorem dX12_years_110 : decode cX12_years 110 = .ok (.aload_n 0, 1) := by decide +kernel
theorem dX12_years_111 : decode cX12_years 111 = .ok (.getfield 302, 3) := by decide +kernel
theorem dX12_years_114 : decode cX12_years 114 = .ok (.iadd, 1) := by decide +kernel
theorem dX12_years_115 : decode cX12_years 115 = .ok (.istore 4, 2) := by decide +kernel
theorem dX12_years_117 : decode cX12_years 117 = .ok (.iinc 6 1, 3) := by decide +kernel
theorem dX12_years_120 : decode cX12_years 120 = .ok (.goto (-73), 3) := by decide +kernel
theorem dX12_years_123 : decode cX12_years 123 = .ok (.aload_n 0, 1) := by decide +kernel
theorem dX12_years_124 : decode cX12_years 124 = .ok (.iconst 0, 1) := by decide +kernel
theorem dX12_years_125 : decode cX12_years 125 = .ok (.putfield 126, 3) := by decide +kernel
theorem dX12_years_128 : decode cX12_years 128 = .ok (.aload_n 0, 1) := by decide +kernel
theorem dX12_years_129 : decode cX12_years 129 = .ok (.aload_n 0, 1) := by decide +kernel
theorem dX12_years_130 : decode cX12_years 130 = .ok (.getfield 110, 3) := by decide +kernel
theorem dX12_years_133 : decode cX12_years 133 = .ok (.iconst 2, 1) := by decide +kernel
theorem dX12_years_134 : decode cX12_years 134 = .ok (.iaload, 1) := by decide +kernel
theorem dX12_years_135 : decode cX12_years 135 = .ok (.aload_n 0, 1) := by decide +kernel
theorem dX12_years_136 : decode cX12_years 136 = .ok (.getfield 9, 3) := by decide +kernel
theorem dX12_years_139 : decode cX12_years 139 = .ok (.iconst 2, 1) := by decide +kernel
theorem dX12_years_140 : decode cX12_years 140 = .ok (.iaload, 1) := by decide +kernel
theorem dX12_years_141 : decode cX12_years 141 = .ok (.isub, 1) := by decide +kernel
theorem dX12_years_142 : decode cX12_years 142 = .ok (.i2l, 1) := by decide +kernel
theorem dX12_years_143 : decode cX12_years 143 = .ok (.invokevirtual 331, 3) := by decide +kernel
theorem dX12_years_146 : decode cX12_years 146 = .ok (.aload_n 0, 1) := by decide +kernel
theorem dX12_years_147 : decode cX12_years 147 = .ok (.aload_n 0, 1) := by decide +kernel
theorem dX12_years_148 : decode cX12_years 148 = .ok (.getfield 110, 3) := by decide +kernel
theorem dX12_years_151 : decode cX12_years 151 = .ok (.iconst 1, 1) := by decide +kernel
theorem dX12_years_152 : decode cX12_years 152 = .ok (.iaload, 1) := by decide +kernel
theorem dX12_years_153 : decode cX12_years 153 = .ok (.i2l, 1) := by decide +kernel
theorem dX12_years_154 : decode cX12_years 154 = .ok (.invokevirtual 331, 3) := by decide +kernel
theorem dX12_years_157 : decode cX12_years 157 = .ok (.aload_n 0, 1) := by decide +kernel
theorem dX12_years_158 : decode cX12_years 158 = .ok (.iload 5, 2) := by decide +kernel
theorem dX12_years_160 : decode cX12_years 160 = .ok (.i2l, 1) := by decide +kernel
theorem dX12_years_161 : decode cX12_years 161 = .ok (.invokevirtual 331, 3) := by decide +kernel
theorem dX12_years_164 : decode cX12_years 164 = .ok (.iload 4, 2) := by decide +kernel
theorem dX12_years_166 : decode cX12_years 166 = .ok (.ireturn, 1) := by decide +kernel
theorem dX12_keep_0 : decode cX12_keep 0 = .ok (.aload_n 0, 1) := by decide +kernel
theorem dX12_keep_1 : decode cX12_keep 1 = .ok (.iconst 0, 1) := by decide +kernel
theorem dX12_keep_2 : decode cX12_keep 2 = .ok (.putfield 123, 3) := by decide +kernel
theorem dX12_keep_5 : decode cX12_keep 5 = .ok (.iload_n 1, 1) := by decide +kernel
theorem dX12_keep_6 : decode cX12_keep 6 = .ok (.iconst 0, 1) := by decide +kernel
theorem dX12_keep_7 : decode cX12_keep 7 = .ok (.iconst 1, 1) := by decide +kernel
theorem dX12_keep_8 : decode cX12_keep 8 = .ok (.invokestatic 132, 3) := by decide +kernel
theorem dX12_keep_11 : decode cX12_keep 11 = .ok (.ifCond .ne 5, 3) := by decide +kernel
theorem dX12_keep_14 : decode cX12_keep 14 = .ok (.iconst 0, 1) := by decide +kernel
theorem dX12_keep_15 : decode cX12_keep 15 = .ok (.ireturn, 1) := by decide +kernel
theorem dX12_keep_16 : decode cX12_keep 16 = .ok (.aload_n 0, 1) := by decide +kernel
theorem dX12_keep_17 : decode cX12_keep 17 = .ok (.getfield 116, 3) := by decide +kernel
theorem dX12_keep_20 : decode cX12_keep 20 = .ok (.iload_n 1, 1) := by decide +kernel
theorem dX12_keep_21 : decode cX12_keep 21 = .ok (.iconst 1, 1) := by decide +kernel
theorem dX12_keep_22 : decode cX12_keep 22 = .ok (.bastore, 1) := by decide +kernel
theorem dX12_keep_23 : decode cX12_keep 23 = .ok (.aload_n 0, 1) := by decide +kernel
theorem dX12_keep_24 : decode cX12_keep 24 = .ok (.getfield 119, 3) := by decide +kernel
theorem dX12_keep_27 : decode cX12_keep 27 = .ok (.iload_n 1, 1) := by decide +kernel
theorem dX12_keep_28 : decode cX12_keep 28 = .ok (.aload_n 0, 1) := by decide +kernel
theorem dX12_keep_29 : decode cX12_keep 29 = .ok (.getfield 211, 3) := by decide +kernel
theorem dX12_keep_32 : decode cX12_keep 32 = .ok (.iastore, 1) := by decide +kernel
theorem dX12_keep_33 : decode cX12_keep 33 = .ok (.aload_n 0, 1) := by decide +kernel
theorem dX12_keep_34 : decode cX12_keep 34 = .ok (.getfield 9, 3) := by decide +kernel
theorem dX12_keep_37 : decode cX12_keep 37 = .ok (.aload_n 0, 1) := by decide +kernel
theorem dX12_keep_38 : decode cX12_keep 38 = .ok (.getfield 113, 3) := by decide +kernel
theorem dX12_keep_41 : decode cX12_keep 41 = .ok (.bipush 23, 2) := by decide +kernel
theorem dX12_keep_43 : decode cX12_keep 43 = .ok (.iload_n 1, 1) := by decide +kernel
theorem dX12_keep_44 : decode cX12_keep 44 = .ok (.imul, 1) := by decide +kernel
theorem dX12_keep_45 : decode cX12_keep 45 = .ok (.invokestatic 284, 3) := by decide +kernel
theorem dX12_keep_48 : decode cX12_keep 48 = .ok (.iconst 1, 1) := by decide +kernel
theorem dX12_keep_49 : decode cX12_keep 49 = .ok (.ireturn, 1) := by decide +kernel
theorem dX12_again_0 : decode cX12_again 0 = .ok (.aload_n 0, 1) := by decide +kernel
theorem dX12_again_1 : decode cX12_again 1 = .ok (.iconst 0, 1) := by decide +kernel
theorem dX12_again_2 : decode cX12_again 2 = .ok (.putfield 123, 3) := by decide +kernel
theorem dX12_again_5 : decode cX12_again 5 = .ok (.iload_n 1, 1) := by decide +kernel
theorem dX12_again_6 : decode cX12_again 6 = .ok (.iconst 0, 1) := by decide +kernel
theorem dX12_again_7 : decode cX12_again 7 = .ok (.iconst 1, 1) := by decide +kernel
theorem dX12_again_8 : decode cX12_again 8 = .ok (.invokestatic 132, 3) := by decide +kernel
theorem dX12_again_11 : decode cX12_again 11 = .ok (.ifCond .eq 25, 3) := by decide +kernel
theorem dX12_again_14 : decode cX12_again 14 = .ok (.aload_n 0, 1) := by decide +kernel
theorem dX12_again_15 : decode cX12_again 15 = .ok (.getfield 116, 3) := by decide +kernel
theorem dX12_again_18 : decode cX12_again 18 = .ok (.iload_n 1, 1) := by decide +kernel
theorem dX12_again_19 : decode cX12_again 19 = .ok (.baload, 1) := by decide +kernel
theorem dX12_again_20 : decode cX12_again 20 = .ok (.ifCond .eq 16, 3) := by decide +kernel
theorem dX12_again_23 : decode cX12_again 23 = .ok (.aload_n 0, 1) := by decide +kernel
theorem dX12_again_24 : decode cX12_again 24 = .ok (.getfield 119, 3) := by decide +kernel
theorem dX12_again_27 : decode cX12_again 27 = .ok (.iload_n 1, 1) := by decide +kernel
theorem dX12_again_28 : decode cX12_again 28 = .ok (.iaload, 1) := by decide +kernel
theorem dX12_again_29 : decode cX12_again 29 = .ok (.aload_n 0, 1) := by decide +kernel
theorem dX12_again_30 : decode cX12_again 30 = .ok (.getfield 211, 3) := by decide +kernel
theorem dX12_again_33 : decode cX12_again 33 = .ok (.if_icmp .eq 5, 3) := by decide +kernel
theorem dX12_again_36 : decode cX12_again 36 = .ok (.iconst 0, 1) := by decide +kernel
theorem dX12_again_37 : decode cX12_again 37 = .ok (.ireturn, 1) := by decide +kernel
theorem dX12_again_38 : decode cX12_again 38 = .ok (.iconst 0, 1) := by decide +kernel
theorem dX12_again_39 : decode cX12_again 39 = .ok (.istore_n 2, 1) := by decide +kernel
theorem dX12_again_40 : decode cX12_again 40 = .ok (.iload_n 2, 1) := by decide +kernel
theorem dX12_again_41 : decode cX12_again 41 = .ok (.bipush 23, 2) := by decide +kernel
theorem dX12_again_43 : decode cX12_again 43 = .ok (.if_icmp .ge 26, 3) := by decide +kernel
theorem dX12_again_46 : decode cX12_again 46 = .ok (.aload_n 0, 1) := by decide +kernel
theorem dX12_again_47 : decode cX12_again 47 = .ok (.getfield 9, 3) := by decide +kernel
theorem dX12_again_50 : decode cX12_again 50 = .ok (.iload_n 2, 1) := by decide +kernel
theorem dX12_again_51 : decode cX12_again 51 = .ok (.aload_n 0, 1) := by decide +kernel
theorem dX12_again_52 : decode cX12_again 52 = .ok (.getfield 113, 3) := by decide +kernel
theorem dX12_again_55 : decode cX12_again 55 = .ok (.bipush 23, 2) := by decide +kernel
theorem dX12_again_57 : decode cX12_again 57 = .ok (.iload_n 1, 1) := by decide +kernel
theorem dX12_again_58 : decode cX12_again 58 = .ok (.imul, 1) := by decide +kernel
theorem dX12_again_59 : decode cX12_again 59 = .ok (.iload_n 2, 1) := by decide +kernel
theorem dX12_again_60 : decode cX12_again 60 = .ok (.iadd, 1) := by decide +kernel
theorem dX12_again_61 : decode cX12_again 61 = .ok (.iaload, 1) := by decide +kernel
theorem dX12_again_62 : decode cX12_again 62 = .ok (.iastore, 1) := by decide +kernel
theorem dX12_again_63 : decode cX12_again 63 = .ok (.iinc 2 1, 3) := by decide +kernel
theorem dX12_again_66 : decode cX12_again 66 = .ok (.goto (-26), 3) := by decide +kernel
theorem dX12_again_69 : decode cX12_again 69 = .ok (.aload_n 0, 1) := by decide +kernel
theorem dX12_again_70 : decode cX12_again 70 = .ok (.iconst 0, 1) := by decide +kernel
theorem dX12_again_71 : decode cX12_again 71 = .ok (.putfield 208, 3) := by decide +kernel
theorem dX12_again_74 : decode cX12_again 74 = .ok (.iconst 1, 1) := by decide +kernel
theorem dX12_again_75 : decode cX12_again 75 = .ok (.ireturn, 1) := by decide +kernel
theorem dX12_count_0 : decode cX12_count 0 = .ok (.aload_n 0, 1) := by decide +kernel
theorem dX12_count_1 : decode cX12_count 1 = .ok (.iconst 0, 1) := by decide +kernel
theorem dX12_count_2 : decode cX12_count 2 = .ok (.putfield 123, 3) := by decide +kernel
theorem dX12_count_5 : decode cX12_count 5 = .ok (.iload_n 1, 1) := by decide +kernel
theorem dX12_count_6 : decode cX12_count 6 = .ok (.tableswitch 168 0 14 #[74, 79, 84, 89, 96, 103, 110, 117, 124, 131, 139, 148, 153, 158, 163], 74) := by decide +kernel
theorem dX12_count_80 : decode cX12_count 80 = .ok (.aload_n 0, 1) := by decide +kernel
theorem dX12_count_81 : decode cX12_count 81 = .ok (.getfield 129, 3) := by decide +kernel
theorem dX12_count_84 : decode cX12_count 84 = .ok (.ireturn, 1) := by decide +kernel
theorem dX12_count_85 : decode cX12_count 85 = .ok (.aload_n 0, 1) := by decide +kernel
theorem dX12_count_86 : decode cX12_count 86 = .ok (.getfield 184, 3) := by decide +kernel
theorem dX12_count_89 : decode cX12_count 89 = .ok (.ireturn, 1) := by decide +kernel
theorem dX12_count_90 : decode cX12_count 90 = .ok (.aload_n 0, 1) := by decide +kernel
theorem dX12_count_91 : decode cX12_count 91 = .ok (.getfield 136, 3) := by decide +kernel
theorem dX12_count_94 : decode cX12_count 94 = .ok (.ireturn, 1) := by decide +kernel
theorem dX12_count_95 : decode cX12_count 95 = .ok (.aload_n 0, 1) := by decide +kernel
theorem dX12_count_96 : decode cX12_count 96 = .ok (.getfield 9, 3) := by decide +kernel
theorem dX12_count_99 : decode cX12_count 99 = .ok (.iconst 5, 1) := by decide +kernel
theorem dX12_count_100 : decode cX12_count 100 = .ok (.iaload, 1) := by decide +kernel
theorem dX12_count_101 : decode cX12_count 101 = .ok (.ireturn, 1) := by decide +kernel
theorem dX12_count_102 : decode cX12_count 102 = .ok (.aload_n 0, 1) := by decide +kernel
theorem dX12_count_103 : decode cX12_count 103 = .ok (.getfield 9, 3) := by decide +kernel
theorem dX12_count_106 : decode cX12_count 106 = .ok (.iconst 0, 1) := by decide +kernel
theorem dX12_count_107 : decode cX12_count 107 = .ok (.iaload, 1) := by decide +kernel
theorem dX12_count_108 : decode cX12_count 108 = .ok (.ireturn, 1) := by decide +kernel
theorem dX12_count_109 : decode cX12_count 109 = .ok (.aload_n 0, 1) := by decide +kernel
theorem dX12_count_110 : decode cX12_count 110 = .ok (.getfield 9, 3) := by decide +kernel
theorem dX12_count_113 : decode cX12_count 113 = .ok (.iconst 1, 1) := by decide +kernel
theorem dX12_count_114 : decode cX12_count 114 = .ok (.iaload, 1) := by decide +kernel
theorem dX12_count_115 : decode cX12_count 115 = .ok (.ireturn, 1) := by decide +kernel
theorem dX12_count_116 : decode cX12_count 116 = .ok (.aload_n 0, 1) := by decide +kernel
theorem dX12_count_117 : decode cX12_count 117 = .ok (.getfield 9, 3) := by decide +kernel
theorem dX12_count_120 : decode cX12_count 120 = .ok (.iconst 2, 1) := by decide +kernel
theorem dX12_count_121 : decode cX12_count 121 = .ok (.iaload, 1) := by decide +kernel
theorem dX12_count_122 : decode cX12_count 122 = .ok (.ireturn, 1) := by decide +kernel
theorem dX12_count_123 : decode cX12_count 123 = .ok (.aload_n 0, 1) := by decide +kernel
theorem dX12_count_124 : decode cX12_count 124 = .ok (.getfield 9, 3) := by decide +kernel
theorem dX12_count_127 : decode cX12_count 127 = .ok (.iconst 3, 1) := by decide +kernel
theorem dX12_count_128 : decode cX12_count 128 = .ok (.iaload, 1) := by decide +kernel
theorem dX12_count_129 : decode cX12_count 129 = .ok (.ireturn, 1) := by decide +kernel
theorem dX12_count_130 : decode cX12_count 130 = .ok (.aload_n 0, 1) := by decide +kernel
theorem dX12_count_131 : decode cX12_count 131 = .ok (.getfield 9, 3) := by decide +kernel
theorem dX12_count_134 : decode cX12_count 134 = .ok (.iconst 4, 1) := by decide +kernel
theorem dX12_count_135 : decode cX12_count 135 = .ok (.iaload, 1) := by decide +kernel
theorem dX12_count_136 : decode cX12_count 136 = .ok (.ireturn, 1) := by decide +kernel
theorem dX12_count_137 : decode cX12_count 137 = .ok (.aload_n 0, 1) := by decide +kernel
theorem dX12_count_138 : decode cX12_count 138 = .ok (.getfield 9, 3) := by decide +kernel
theorem dX12_count_141 : decode cX12_count 141 = .ok (.bipush 6, 2) := by decide +kernel
theorem dX12_count_143 : decode cX12_count 143 = .ok (.iaload, 1) := by decide +kernel
theorem dX12_count_144 : decode cX12_count 144 = .ok (.ireturn, 1) := by decide +kernel
theorem dX12_count_145 : decode cX12_count 145 = .ok (.aload_n 0, 1) := by decide +kernel
theorem dX12_count_146 : decode cX12_count 146 = .ok (.aload_n 0, 1) := by decide +kernel
theorem dX12_count_147 : decode cX12_count 147 = .ok (.getfield 9, 3) := by decide +kernel
theorem dX12_count_150 : decode cX12_count 150 = .ok (.invokevirtual 277, 3) := by decide +kernel
theorem dX12_count_153 : decode cX12_count 153 = .ok (.ireturn, 1) := by decide +kernel
theorem dX12_count_154 : decode cX12_count 154 = .ok (.aload_n 0, 1) := by decide +kernel
theorem dX12_count_155 : decode cX12_count 155 = .ok (.getfield 409, 3) := by decide +kernel
theorem dX12_count_158 : decode cX12_count 158 = .ok (.ireturn, 1) := by decide +kernel
theorem dX12_count_159 : decode cX12_count 159 = .ok (.aload_n 0, 1) := by decide +kernel
theorem dX12_count_160 : decode cX12_count 160 = .ok (.getfield 208, 3) := by decide +kernel
theorem dX12_count_163 : decode cX12_count 163 = .ok (.ireturn, 1) := by decide +kernel
theorem dX12_count_164 : decode cX12_count 164 = .ok (.aload_n 0, 1) := by decide +kernel
theorem dX12_count_165 : decode cX12_count 165 = .ok (.getfield 126, 3) := by decide +kernel
theorem dX12_count_168 : decode cX12_count 168 = .ok (.ireturn, 1) := by decide +kernel
theorem dX12_count_169 : decode cX12_count 169 = .ok (.aload_n 0, 1) := by decide +kernel
theorem dX12_count_170 : decode cX12_count 170 = .ok (.getfield 139, 3) := by decide +kernel
theorem dX12_count_173 : decode cX12_count 173 = .ok (.ireturn, 1) := by decide +kernel
theorem dX12_count_174 : decode cX12_count 174 = .ok (.iconst (-1), 1) := by decide +kernel
theorem dX12_count_175 : decode cX12_count 175 = .ok (.ireturn, 1) := by decide +kernel
theorem dX12_row_0 : decode cX12_row 0 = .ok (.aload_n 0, 1) := by decide +kernel
theorem dX12_row_1 : decode cX12_row 1 = .ok (.iconst 0, 1) := by decide +kernel
theorem dX12_row_2 : decode cX12_row 2 = .ok (.putfield 123, 3) := by decide +kernel
theorem dX12_row_5 : decode cX12_row 5 = .ok (.iload_n 1, 1) := by decide +kernel
theorem dX12_row_6 : decode cX12_row 6 = .ok (.iconst 0, 1) := by decide +kernel
theorem dX12_row_7 : decode cX12_row 7 = .ok (.aload_n 0, 1) := by decide +kernel
theorem dX12_row_8 : decode cX12_row 8 = .ok (.getfield 126, 3) := by decide +kernel
theorem dX12_row_11 : decode cX12_row 11 = .ok (.iconst 1, 1) := by decide +kernel
theorem dX12_row_12 : decode cX12_row 12 = .ok (.isub, 1) := by decide +kernel
theorem dX12_row_13 : decode cX12_row 13 = .ok (.invokestatic 132, 3) := by decide +kernel
theorem dX12_row_16 : decode cX12_row 16 = .ok (.ifCond .eq 12, 3) := by decide +kernel
theorem dX12_row_19 : decode cX12_row 19 = .ok (.aload_n 0, 1) := by decide +kernel
theorem dX12_row_20 : decode cX12_row 20 = .ok (.getfield 39, 3) := by decide +kernel
theorem dX12_row_23 : decode cX12_row 23 = .ok (.iload_n 1, 1) := by decide +kernel
theorem dX12_row_24 : decode cX12_row 24 = .ok (.laload, 1) := by decide +kernel
theorem dX12_row_25 : decode cX12_row 25 = .ok (.goto 8, 3) := by decide +kernel
theorem dX12_row_28 : decode cX12_row 28 = .ok (.aload_n 0, 1) := by decide +kernel
theorem dX12_row_29 : decode cX12_row 29 = .ok (.invokevirtual 264, 3) := by decide +kernel
theorem dX12_row_32 : decode cX12_row 32 = .ok (.i2l, 1) := by decide +kernel
theorem dX12_row_33 : decode cX12_row 33 = .ok (.lreturn, 1) := by decide +kernel
