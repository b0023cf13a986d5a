theorem dX10_keepsBars_66 : decode cX10_keepsBars 66 = .ok (.iload_n 1, 1) := by decide +kernel
theorem dX10_keepsBars_67 : decode cX10_keepsBars 67 = .ok (.iaload, 1) := by decide +kernel
theorem dX10_keepsBars_68 : decode cX10_keepsBars 68 = .ok (.invokevirtual 473, 3) := by decide +kernel
theorem dX10_keepsBars_71 : decode cX10_keepsBars 71 = .ok (.iastore, 1) := by decide +kernel
theorem dX10_keepsBars_72 : decode cX10_keepsBars 72 = .ok (.aload_n 0, 1) := by decide +kernel
theorem dX10_keepsBars_73 : decode cX10_keepsBars 73 = .ok (.getfield 47, 3) := by decide +kernel
theorem dX10_keepsBars_76 : decode cX10_keepsBars 76 = .ok (.iload_n 1, 1) := by decide +kernel
theorem dX10_keepsBars_77 : decode cX10_keepsBars 77 = .ok (.aload_n 0, 1) := by decide +kernel
theorem dX10_keepsBars_78 : decode cX10_keepsBars 78 = .ok (.aload_n 0, 1) := by decide +kernel
theorem dX10_keepsBars_79 : decode cX10_keepsBars 79 = .ok (.getfield 47, 3) := by decide +kernel
theorem dX10_keepsBars_82 : decode cX10_keepsBars 82 = .ok (.iload_n 1, 1) := by decide +kernel
theorem dX10_keepsBars_83 : decode cX10_keepsBars 83 = .ok (.iaload, 1) := by decide +kernel
theorem dX10_keepsBars_84 : decode cX10_keepsBars 84 = .ok (.invokevirtual 473, 3) := by decide +kernel
theorem dX10_keepsBars_87 : decode cX10_keepsBars 87 = .ok (.iastore, 1) := by decide +kernel
theorem dX10_keepsBars_88 : decode cX10_keepsBars 88 = .ok (.aload_n 0, 1) := by decide +kernel
theorem dX10_keepsBars_89 : decode cX10_keepsBars 89 = .ok (.getfield 116, 3) := by decide +kernel
theorem dX10_keepsBars_92 : decode cX10_keepsBars 92 = .ok (.iload_n 1, 1) := by decide +kernel
theorem dX10_keepsBars_93 : decode cX10_keepsBars 93 = .ok (.aload_n 0, 1) := by decide +kernel
theorem dX10_keepsBars_94 : decode cX10_keepsBars 94 = .ok (.aload_n 0, 1) := by decide +kernel
theorem dX10_keepsBars_95 : decode cX10_keepsBars 95 = .ok (.getfield 116, 3) := by decide +kernel
theorem dX10_keepsBars_98 : decode cX10_keepsBars 98 = .ok (.iload_n 1, 1) := by decide +kernel
theorem dX10_keepsBars_99 : decode cX10_keepsBars 99 = .ok (.iaload, 1) := by decide +kernel
theorem dX10_keepsBars_100 : decode cX10_keepsBars 100 = .ok (.invokevirtual 473, 3) := by decide +kernel
theorem dX10_keepsBars_103 : decode cX10_keepsBars 103 = .ok (.iastore, 1) := by decide +kernel
theorem dX10_keepsBars_104 : decode cX10_keepsBars 104 = .ok (.iinc 1 1, 3) := by decide +kernel
theorem dX10_keepsBars_107 : decode cX10_keepsBars 107 = .ok (.goto (-105), 3) := by decide +kernel
theorem dX10_keepsBars_110 : decode cX10_keepsBars 110 = .ok (.iconst 0, 1) := by decide +kernel
theorem dX10_keepsBars_111 : decode cX10_keepsBars 111 = .ok (.istore_n 1, 1) := by decide +kernel
theorem dX10_keepsBars_112 : decode cX10_keepsBars 112 = .ok (.iload_n 1, 1) := by decide +kernel
theorem dX10_keepsBars_113 : decode cX10_keepsBars 113 = .ok (.sipush 160, 3) := by decide +kernel
theorem dX10_keepsBars_116 : decode cX10_keepsBars 116 = .ok (.if_icmp .ge 73, 3) := by decide +kernel
theorem dX10_keepsBars_119 : decode cX10_keepsBars 119 = .ok (.aload_n 0, 1) := by decide +kernel
theorem dX10_keepsBars_120 : decode cX10_keepsBars 120 = .ok (.getfield 17, 3) := by decide +kernel
theorem dX10_keepsBars_123 : decode cX10_keepsBars 123 = .ok (.iload_n 1, 1) := by decide +kernel
theorem dX10_keepsBars_124 : decode cX10_keepsBars 124 = .ok (.aload_n 0, 1) := by decide +kernel
theorem dX10_keepsBars_125 : decode cX10_keepsBars 125 = .ok (.aload_n 0, 1) := by decide +kernel
theorem dX10_keepsBars_126 : decode cX10_keepsBars 126 = .ok (.getfield 17, 3) := by decide +kernel
theorem dX10_keepsBars_129 : decode cX10_keepsBars 129 = .ok (.iload_n 1, 1) := by decide +kernel
theorem dX10_keepsBars_130 : decode cX10_keepsBars 130 = .ok (.iaload, 1) := by decide +kernel
theorem dX10_keepsBars_131 : decode cX10_keepsBars 131 = .ok (.invokevirtual 473, 3) := by decide +kernel
theorem dX10_keepsBars_134 : decode cX10_keepsBars 134 = .ok (.iastore, 1) := by decide +kernel
theorem dX10_keepsBars_135 : decode cX10_keepsBars 135 = .ok (.aload_n 0, 1) := by decide +kernel
theorem dX10_keepsBars_136 : decode cX10_keepsBars 136 = .ok (.getfield 20, 3) := by decide +kernel
theorem dX10_keepsBars_139 : decode cX10_keepsBars 139 = .ok (.iload_n 1, 1) := by decide +kernel
theorem dX10_keepsBars_140 : decode cX10_keepsBars 140 = .ok (.aload_n 0, 1) := by decide +kernel
theorem dX10_keepsBars_141 : decode cX10_keepsBars 141 = .ok (.aload_n 0, 1) := by decide +kernel
theorem dX10_keepsBars_142 : decode cX10_keepsBars 142 = .ok (.getfield 20, 3) := by decide +kernel
theorem dX10_keepsBars_145 : decode cX10_keepsBars 145 = .ok (.iload_n 1, 1) := by decide +kernel
theorem dX10_keepsBars_146 : decode cX10_keepsBars 146 = .ok (.iaload, 1) := by decide +kernel
theorem dX10_keepsBars_147 : decode cX10_keepsBars 147 = .ok (.invokevirtual 473, 3) := by decide +kernel
theorem dX10_keepsBars_150 : decode cX10_keepsBars 150 = .ok (.iastore, 1) := by decide +kernel
theorem dX10_keepsBars_151 : decode cX10_keepsBars 151 = .ok (.aload_n 0, 1) := by decide +kernel
theorem dX10_keepsBars_152 : decode cX10_keepsBars 152 = .ok (.getfield 23, 3) := by decide +kernel
theorem dX10_keepsBars_155 : decode cX10_keepsBars 155 = .ok (.iload_n 1, 1) := by decide +kernel
theorem dX10_keepsBars_156 : decode cX10_keepsBars 156 = .ok (.aload_n 0, 1) := by decide +kernel
theorem dX10_keepsBars_157 : decode cX10_keepsBars 157 = .ok (.aload_n 0, 1) := by decide +kernel
theorem dX10_keepsBars_158 : decode cX10_keepsBars 158 = .ok (.getfield 23, 3) := by decide +kernel
theorem dX10_keepsBars_161 : decode cX10_keepsBars 161 = .ok (.iload_n 1, 1) := by decide +kernel
theorem dX10_keepsBars_162 : decode cX10_keepsBars 162 = .ok (.iaload, 1) := by decide +kernel
theorem dX10_keepsBars_163 : decode cX10_keepsBars 163 = .ok (.invokevirtual 473, 3) := by decide +kernel
theorem dX10_keepsBars_166 : decode cX10_keepsBars 166 = .ok (.iastore, 1) := by decide +kernel
theorem dX10_keepsBars_167 : decode cX10_keepsBars 167 = .ok (.aload_n 0, 1) := by decide +kernel
theorem dX10_keepsBars_168 : decode cX10_keepsBars 168 = .ok (.getfield 26, 3) := by decide +kernel
theorem dX10_keepsBars_171 : decode cX10_keepsBars 171 = .ok (.iload_n 1, 1) := by decide +kernel
theorem dX10_keepsBars_172 : decode cX10_keepsBars 172 = .ok (.aload_n 0, 1) := by decide +kernel
theorem dX10_keepsBars_173 : decode cX10_keepsBars 173 = .ok (.aload_n 0, 1) := by decide +kernel
theorem dX10_keepsBars_174 : decode cX10_keepsBars 174 = .ok (.getfield 26, 3) := by decide +kernel
theorem dX10_keepsBars_177 : decode cX10_keepsBars 177 = .ok (.iload_n 1, 1) := by decide +kernel
theorem dX10_keepsBars_178 : decode cX10_keepsBars 178 = .ok (.iaload, 1) := by decide +kernel
theorem dX10_keepsBars_179 : decode cX10_keepsBars 179 = .ok (.invokevirtual 473, 3) := by decide +kernel
theorem dX10_keepsBars_182 : decode cX10_keepsBars 182 = .ok (.iastore, 1) := by decide +kernel
theorem dX10_keepsBars_183 : decode cX10_keepsBars 183 = .ok (.iinc 1 1, 3) := by decide +kernel
theorem dX10_keepsBars_186 : decode cX10_keepsBars 186 = .ok (.goto (-74), 3) := by decide +kernel
theorem dX10_keepsBars_189 : decode cX10_keepsBars 189 = .ok (.iconst 0, 1) := by decide +kernel
theorem dX10_keepsBars_190 : decode cX10_keepsBars 190 = .ok (.istore_n 1, 1) := by decide +kernel
theorem dX10_keepsBars_191 : decode cX10_keepsBars 191 = .ok (.iload_n 1, 1) := by decide +kernel
theorem dX10_keepsBars_192 : decode cX10_keepsBars 192 = .ok (.bipush 30, 2) := by decide +kernel
theorem dX10_keepsBars_194 : decode cX10_keepsBars 194 = .ok (.if_icmp .ge 25, 3) := by decide +kernel
theorem dX10_keepsBars_197 : decode cX10_keepsBars 197 = .ok (.aload_n 0, 1) := by decide +kernel
theorem dX10_keepsBars_198 : decode cX10_keepsBars 198 = .ok (.getfield 29, 3) := by decide +kernel
theorem dX10_keepsBars_201 : decode cX10_keepsBars 201 = .ok (.iload_n 1, 1) := by decide +kernel
theorem dX10_keepsBars_202 : decode cX10_keepsBars 202 = .ok (.aload_n 0, 1) := by decide +kernel
theorem dX10_keepsBars_203 : decode cX10_keepsBars 203 = .ok (.aload_n 0, 1) := by decide +kernel
theorem dX10_keepsBars_204 : decode cX10_keepsBars 204 = .ok (.getfield 29, 3) := by decide +kernel
theorem dX10_keepsBars_207 : decode cX10_keepsBars 207 = .ok (.iload_n 1, 1) := by decide +kernel
theorem dX10_keepsBars_208 : decode cX10_keepsBars 208 = .ok (.iaload, 1) := by decide +kernel
theorem dX10_keepsBars_209 : decode cX10_keepsBars 209 = .ok (.invokevirtual 473, 3) := by decide +kernel
theorem dX10_keepsBars_212 : decode cX10_keepsBars 212 = .ok (.iastore, 1) := by decide +kernel
theorem dX10_keepsBars_213 : decode cX10_keepsBars 213 = .ok (.iinc 1 1, 3) := by decide +kernel
theorem dX10_keepsBars_216 : decode cX10_keepsBars 216 = .ok (.goto (-25), 3) := by decide +kernel
theorem dX10_keepsBars_219 : decode cX10_keepsBars 219 = .ok (.iconst 0, 1) := by decide +kernel
theorem dX10_keepsBars_220 : decode cX10_keepsBars 220 = .ok (.istore_n 1, 1) := by decide +kernel
theorem dX10_keepsBars_221 : decode cX10_keepsBars 221 = .ok (.iload_n 1, 1) := by decide +kernel
theorem dX10_keepsBars_222 : decode cX10_keepsBars 222 = .ok (.bipush 20, 2) := by decide +kernel
theorem dX10_keepsBars_224 : decode cX10_keepsBars 224 = .ok (.if_icmp .ge 57, 3) := by decide +kernel
theorem dX10_keepsBars_227 : decode cX10_keepsBars 227 = .ok (.aload_n 0, 1) := by decide +kernel
theorem dX10_keepsBars_228 : decode cX10_keepsBars 228 = .ok (.getfield 50, 3) := by decide +kernel
theorem dX10_keepsBars_231 : decode cX10_keepsBars 231 = .ok (.iload_n 1, 1) := by decide +kernel
theorem dX10_keepsBars_232 : decode cX10_keepsBars 232 = .ok (.aload_n 0, 1) := by decide +kernel
theorem dX10_keepsBars_233 : decode cX10_keepsBars 233 = .ok (.aload_n 0, 1) := by decide +kernel
theorem dX10_keepsBars_234 : decode cX10_keepsBars 234 = .ok (.getfield 50, 3) := by decide +kernel
theorem dX10_keepsBars_237 : decode cX10_keepsBars 237 = .ok (.iload_n 1, 1) := by decide +kernel
theorem dX10_keepsBars_238 : decode cX10_keepsBars 238 = .ok (.iaload, 1) := by decide +kernel
theorem dX10_keepsBars_239 : decode cX10_keepsBars 239 = .ok (.invokevirtual 473, 3) := by decide +kernel
theorem dX10_keepsBars_242 : decode cX10_keepsBars 242 = .ok (.iastore, 1) := by decide +kernel
theorem dX10_keepsBars_243 : decode cX10_keepsBars 243 = .ok (.aload_n 0, 1) := by decide +kernel
theorem dX10_keepsBars_244 : decode cX10_keepsBars 244 = .ok (.getfield 140, 3) := by decide +kernel
theorem dX10_keepsBars_247 : decode cX10_keepsBars 247 = .ok (.iload_n 1, 1) := by decide +kernel
theorem dX10_keepsBars_248 : decode cX10_keepsBars 248 = .ok (.aload_n 0, 1) := by decide +kernel
theorem dX10_keepsBars_249 : decode cX10_keepsBars 249 = .ok (.aload_n 0, 1) := by decide +kernel
theorem dX10_keepsBars_250 : decode cX10_keepsBars 250 = .ok (.getfield 140, 3) := by decide +kernel
theorem dX10_keepsBars_253 : decode cX10_keepsBars 253 = .ok (.iload_n 1, 1) := by decide +kernel
theorem dX10_keepsBars_254 : decode cX10_keepsBars 254 = .ok (.iaload, 1) := by decide +kernel
theorem dX10_keepsBars_255 : decode cX10_keepsBars 255 = .ok (.invokevirtual 473, 3) := by decide +kernel
theorem dX10_keepsBars_258 : decode cX10_keepsBars 258 = .ok (.iastore, 1) := by decide +kernel
theorem dX10_keepsBars_259 : decode cX10_keepsBars 259 = .ok (.aload_n 0, 1) := by decide +kernel
theorem dX10_keepsBars_260 : decode cX10_keepsBars 260 = .ok (.getfield 143, 3) := by decide +kernel
theorem dX10_keepsBars_263 : decode cX10_keepsBars 263 = .ok (.iload_n 1, 1) := by decide +kernel
theorem dX10_keepsBars_264 : decode cX10_keepsBars 264 = .ok (.aload_n 0, 1) := by decide +kernel
theorem dX10_keepsBars_265 : decode cX10_keepsBars 265 = .ok (.aload_n 0, 1) := by decide +kernel
theorem dX10_keepsBars_266 : decode cX10_keepsBars 266 = .ok (.getfield 143, 3) := by decide +kernel
theorem dX10_keepsBars_269 : decode cX10_keepsBars 269 = .ok (.iload_n 1, 1) := by decide +kernel
theorem dX10_keepsBars_270 : decode cX10_keepsBars 270 = .ok (.iaload, 1) := by decide +kernel
theorem dX10_keepsBars_271 : decode cX10_keepsBars 271 = .ok (.invokevirtual 473, 3) := by decide +kernel
theorem dX10_keepsBars_274 : decode cX10_keepsBars 274 = .ok (.iastore, 1) := by decide +kernel
theorem dX10_keepsBars_275 : decode cX10_keepsBars 275 = .ok (.iinc 1 1, 3) := by decide +kernel
theorem dX10_keepsBars_278 : decode cX10_keepsBars 278 = .ok (.goto (-57), 3) := by decide +kernel
theorem dX10_keepsBars_281 : decode cX10_keepsBars 281 = .ok (.iconst 0, 1) := by decide +kernel
theorem dX10_keepsBars_282 : decode cX10_keepsBars 282 = .ok (.istore_n 1, 1) := by decide +kernel
theorem dX10_keepsBars_283 : decode cX10_keepsBars 283 = .ok (.iload_n 1, 1) := by decide +kernel
theorem dX10_keepsBars_284 : decode cX10_keepsBars 284 = .ok (.sipush 2000, 3) := by decide +kernel
theorem dX10_keepsBars_287 : decode cX10_keepsBars 287 = .ok (.if_icmp .ge 41, 3) := by decide +kernel
theorem dX10_keepsBars_290 : decode cX10_keepsBars 290 = .ok (.aload_n 0, 1) := by decide +kernel
theorem dX10_keepsBars_291 : decode cX10_keepsBars 291 = .ok (.getfield 35, 3) := by decide +kernel
theorem dX10_keepsBars_294 : decode cX10_keepsBars 294 = .ok (.iload_n 1, 1) := by decide +kernel
theorem dX10_keepsBars_295 : decode cX10_keepsBars 295 = .ok (.aload_n 0, 1) := by decide +kernel
theorem dX10_keepsBars_296 : decode cX10_keepsBars 296 = .ok (.aload_n 0, 1) := by decide +kernel
theorem dX10_keepsBars_297 : decode cX10_keepsBars 297 = .ok (.getfield 35, 3) := by decide +kernel
theorem dX10_keepsBars_300 : decode cX10_keepsBars 300 = .ok (.iload_n 1, 1) := by decide +kernel
theorem dX10_keepsBars_301 : decode cX10_keepsBars 301 = .ok (.iaload, 1) := by decide +kernel
theorem dX10_keepsBars_302 : decode cX10_keepsBars 302 = .ok (.invokevirtual 473, 3) := by decide +kernel
theorem dX10_keepsBars_305 : decode cX10_keepsBars 305 = .ok (.iastore, 1) := by decide +kernel
theorem dX10_keepsBars_306 : decode cX10_keepsBars 306 = .ok (.aload_n 0, 1) := by decide +kernel
theorem dX10_keepsBars_307 : decode cX10_keepsBars 307 = .ok (.getfield 38, 3) := by decide +kernel
theorem dX10_keepsBars_310 : decode cX10_keepsBars 310 = .ok (.iload_n 1, 1) := by decide +kernel
theorem dX10_keepsBars_311 : decode cX10_keepsBars 311 = .ok (.aload_n 0, 1) := by decide +kernel
theorem dX10_keepsBars_312 : decode cX10_keepsBars 312 = .ok (.aload_n 0, 1) := by decide +kernel
theorem dX10_keepsBars_313 : decode cX10_keepsBars 313 = .ok (.getfield 38, 3) := by decide +kernel
theorem dX10_keepsBars_316 : decode cX10_keepsBars 316 = .ok (.iload_n 1, 1) := by decide +kernel
theorem dX10_keepsBars_317 : decode cX10_keepsBars 317 = .ok (.iaload, 1) := by decide +kernel
theorem dX10_keepsBars_318 : decode cX10_keepsBars 318 = .ok (.invokevirtual 473, 3) := by decide +kernel
theorem dX10_keepsBars_321 : decode cX10_keepsBars 321 = .ok (.iastore, 1) := by decide +kernel
theorem dX10_keepsBars_322 : decode cX10_keepsBars 322 = .ok (.iinc 1 1, 3) := by decide +kernel
theorem dX10_keepsBars_325 : decode cX10_keepsBars 325 = .ok (.goto (-42), 3) := by decide +kernel
theorem dX10_keepsBars_328 : decode cX10_keepsBars 328 = .ok (.return_, 1) := by decide +kernel
theorem dX10_keepsTaps_0 : decode cX10_keepsTaps 0 = .ok (.iconst 0, 1) := by decide +kernel
theorem dX10_keepsTaps_1 : decode cX10_keepsTaps 1 = .ok (.istore_n 1, 1) := by decide +kernel
theorem dX10_keepsTaps_2 : decode cX10_keepsTaps 2 = .ok (.iload_n 1, 1) := by decide +kernel
theorem dX10_keepsTaps_3 : decode cX10_keepsTaps 3 = .ok (.bipush 120, 2) := by decide +kernel
theorem dX10_keepsTaps_5 : decode cX10_keepsTaps 5 = .ok (.if_icmp .ge 41, 3) := by decide +kernel
theorem dX10_keepsTaps_8 : decode cX10_keepsTaps 8 = .ok (.aload_n 0, 1) := by decide +kernel
theorem dX10_keepsTaps_9 : decode cX10_keepsTaps 9 = .ok (.getfield 119, 3) := by decide +kernel
theorem dX10_keepsTaps_12 : decode cX10_keepsTaps 12 = .ok (.iload_n 1, 1) := by decide +kernel
theorem dX10_keepsTaps_13 : decode cX10_keepsTaps 13 = .ok (.aload_n 0, 1) := by decide +kernel
theorem dX10_keepsTaps_14 : decode cX10_keepsTaps 14 = .ok (.aload_n 0, 1) := by decide +kernel
theorem dX10_keepsTaps_15 : decode cX10_keepsTaps 15 = .ok (.getfield 119, 3) := by decide +kernel
theorem dX10_keepsTaps_18 : decode cX10_keepsTaps 18 = .ok (.iload_n 1, 1) := by decide +kernel
theorem dX10_keepsTaps_19 : decode cX10_keepsTaps 19 = .ok (.iaload, 1) := by decide +kernel
theorem dX10_keepsTaps_20 : decode cX10_keepsTaps 20 = .ok (.invokevirtual 473, 3) := by decide +kernel
theorem dX10_keepsTaps_23 : decode cX10_keepsTaps 23 = .ok (.iastore, 1) := by decide +kernel
theorem dX10_keepsTaps_24 : decode cX10_keepsTaps 24 = .ok (.aload_n 0, 1) := by decide +kernel
theorem dX10_keepsTaps_25 : decode cX10_keepsTaps 25 = .ok (.getfield 122, 3) := by decide +kernel
theorem dX10_keepsTaps_28 : decode cX10_keepsTaps 28 = .ok (.iload_n 1, 1) := by decide +kernel
theorem dX10_keepsTaps_29 : decode cX10_keepsTaps 29 = .ok (.aload_n 0, 1) := by decide +kernel
theorem dX10_keepsTaps_30 : decode cX10_keepsTaps 30 = .ok (.aload_n 0, 1) := by decide +kernel
theorem dX10_keepsTaps_31 : decode cX10_keepsTaps 31 = .ok (.getfield 122, 3) := by decide +kernel
theorem dX10_keepsTaps_34 : decode cX10_keepsTaps 34 = .ok (.iload_n 1, 1) := by decide +kernel
theorem dX10_keepsTaps_35 : decode cX10_keepsTaps 35 = .ok (.iaload, 1) := by decide +kernel
theorem dX10_keepsTaps_36 : decode cX10_keepsTaps 36 = .ok (.invokevirtual 473, 3) := by decide +kernel
theorem dX10_keepsTaps_39 : decode cX10_keepsTaps 39 = .ok (.iastore, 1) := by decide +kernel
theorem dX10_keepsTaps_40 : decode cX10_keepsTaps 40 = .ok (.iinc 1 1, 3) := by decide +kernel
theorem dX10_keepsTaps_43 : decode cX10_keepsTaps 43 = .ok (.goto (-41), 3) := by decide +kernel
theorem dX10_keepsTaps_46 : decode cX10_keepsTaps 46 = .ok (.iconst 0, 1) := by decide +kernel
theorem dX10_keepsTaps_47 : decode cX10_keepsTaps 47 = .ok (.istore_n 1, 1) := by decide +kernel
theorem dX10_keepsTaps_48 : decode cX10_keepsTaps 48 = .ok (.iload_n 1, 1) := by decide +kernel
theorem dX10_keepsTaps_49 : decode cX10_keepsTaps 49 = .ok (.sipush 1920, 3) := by decide +kernel
theorem dX10_keepsTaps_52 : decode cX10_keepsTaps 52 = .ok (.if_icmp .ge 41, 3) := by decide +kernel
theorem dX10_keepsTaps_55 : decode cX10_keepsTaps 55 = .ok (.aload_n 0, 1) := by decide +kernel
theorem dX10_keepsTaps_56 : decode cX10_keepsTaps 56 = .ok (.getfield 125, 3) := by decide +kernel
theorem dX10_keepsTaps_59 : decode cX10_keepsTaps 59 = .ok (.iload_n 1, 1) := by decide +kernel
theorem dX10_keepsTaps_60 : decode cX10_keepsTaps 60 = .ok (.aload_n 0, 1) := by decide +kernel
theorem dX10_keepsTaps_61 : decode cX10_keepsTaps 61 = .ok (.aload_n 0, 1) := by decide +kernel
theorem dX10_keepsTaps_62 : decode cX10_keepsTaps 62 = .ok (.getfield 125, 3) := by decide +kernel
theorem dX10_keepsTaps_65 : decode cX10_keepsTaps 65 = .ok (.iload_n 1, 1) := by decide +kernel
theorem dX10_keepsTaps_66 : decode cX10_keepsTaps 66 = .ok (.iaload, 1) := by decide +kernel
theorem dX10_keepsTaps_67 : decode cX10_keepsTaps 67 = .ok (.invokevirtual 473, 3) := by decide +kernel
theorem dX10_keepsTaps_70 : decode cX10_keepsTaps 70 = .ok (.iastore, 1) := by decide +kernel
theorem dX10_keepsTaps_71 : decode cX10_keepsTaps 71 = .ok (.aload_n 0, 1) := by decide +kernel
theorem dX10_keepsTaps_72 : decode cX10_keepsTaps 72 = .ok (.getfield 128, 3) := by decide +kernel
theorem dX10_keepsTaps_75 : decode cX10_keepsTaps 75 = .ok (.iload_n 1, 1) := by decide +kernel
theorem dX10_keepsTaps_76 : decode cX10_keepsTaps 76 = .ok (.aload_n 0, 1) := by decide +kernel
theorem dX10_keepsTaps_77 : decode cX10_keepsTaps 77 = .ok (.aload_n 0, 1) := by decide +kernel
theorem dX10_keepsTaps_78 : decode cX10_keepsTaps 78 = .ok (.getfield 128, 3) := by decide +kernel
theorem dX10_keepsTaps_81 : decode cX10_keepsTaps 81 = .ok (.iload_n 1, 1) := by decide +kernel
theorem dX10_keepsTaps_82 : decode cX10_keepsTaps 82 = .ok (.iaload, 1) := by decide +kernel
theorem dX10_keepsTaps_83 : decode cX10_keepsTaps 83 = .ok (.invokevirtual 473, 3) := by decide +kernel
theorem dX10_keepsTaps_86 : decode cX10_keepsTaps 86 = .ok (.iastore, 1) := by decide +kernel
theorem dX10_keepsTaps_87 : decode cX10_keepsTaps 87 = .ok (.iinc 1 1, 3) := by decide +kernel
theorem dX10_keepsTaps_90 : decode cX10_keepsTaps 90 = .ok (.goto (-42), 3) := by decide +kernel
theorem dX10_keepsTaps_93 : decode cX10_keepsTaps 93 = .ok (.iconst 0, 1) := by decide +kernel
theorem dX10_keepsTaps_94 : decode cX10_keepsTaps 94 = .ok (.istore_n 1, 1) := by decide +kernel
theorem dX10_keepsTaps_95 : decode cX10_keepsTaps 95 = .ok (.iload_n 1, 1) := by decide +kernel
theorem dX10_keepsTaps_96 : decode cX10_keepsTaps 96 = .ok (.bipush 8, 2) := by decide +kernel
theorem dX10_keepsTaps_98 : decode cX10_keepsTaps 98 = .ok (.if_icmp .ge 73, 3) := by decide +kernel
theorem dX10_keepsTaps_101 : decode cX10_keepsTaps 101 = .ok (.aload_n 0, 1) := by decide +kernel
theorem dX10_keepsTaps_102 : decode cX10_keepsTaps 102 = .ok (.getfield 146, 3) := by decide +kernel
theorem dX10_keepsTaps_105 : decode cX10_keepsTaps 105 = .ok (.iload_n 1, 1) := by decide +kernel
theorem dX10_keepsTaps_106 : decode cX10_keepsTaps 106 = .ok (.aload_n 0, 1) := by decide +kernel
theorem dX10_keepsTaps_107 : decode cX10_keepsTaps 107 = .ok (.aload_n 0, 1) := by decide +kernel
theorem dX10_keepsTaps_108 : decode cX10_keepsTaps 108 = .ok (.getfield 146, 3) := by decide +kernel
theorem dX10_keepsTaps_111 : decode cX10_keepsTaps 111 = .ok (.iload_n 1, 1) := by decide +kernel
theorem dX10_keepsTaps_112 : decode cX10_keepsTaps 112 = .ok (.iaload, 1) := by decide +kernel
theorem dX10_keepsTaps_113 : decode cX10_keepsTaps 113 = .ok (.invokevirtual 473, 3) := by decide +kernel
theorem dX10_keepsTaps_116 : decode cX10_keepsTaps 116 = .ok (.iastore, 1) := by decide +kernel
theorem dX10_keepsTaps_117 : decode cX10_keepsTaps 117 = .ok (.aload_n 0, 1) := by decide +kernel
theorem dX10_keepsTaps_118 : decode cX10_keepsTaps 118 = .ok (.getfield 149, 3) := by decide +kernel
theorem dX10_keepsTaps_121 : decode cX10_keepsTaps 121 = .ok (.iload_n 1, 1) := by decide +kernel
theorem dX10_keepsTaps_122 : decode cX10_keepsTaps 122 = .ok (.aload_n 0, 1) := by decide +kernel
theorem dX10_keepsTaps_123 : decode cX10_keepsTaps 123 = .ok (.aload_n 0, 1) := by decide +kernel
theorem dX10_keepsTaps_124 : decode cX10_keepsTaps 124 = .ok (.getfield 149, 3) := by decide +kernel
theorem dX10_keepsTaps_127 : decode cX10_keepsTaps 127 = .ok (.iload_n 1, 1) := by decide +kernel
theorem dX10_keepsTaps_128 : decode cX10_keepsTaps 128 = .ok (.iaload, 1) := by decide +kernel
theorem dX10_keepsTaps_129 : decode cX10_keepsTaps 129 = .ok (.invokevirtual 473, 3) := by decide +kernel
theorem dX10_keepsTaps_132 : decode cX10_keepsTaps 132 = .ok (.iastore, 1) := by decide +kernel
theorem dX10_keepsTaps_133 : decode cX10_keepsTaps 133 = .ok (.aload_n 0, 1) := by decide +kernel
theorem dX10_keepsTaps_134 : decode cX10_keepsTaps 134 = .ok (.getfield 152, 3) := by decide +kernel
theorem dX10_keepsTaps_137 : decode cX10_keepsTaps 137 = .ok (.iload_n 1, 1) := by decide +kernel
theorem dX10_keepsTaps_138 : decode cX10_keepsTaps 138 = .ok (.aload_n 0, 1) := by decide +kernel
theorem dX10_keepsTaps_139 : decode cX10_keepsTaps 139 = .ok (.aload_n 0, 1) := by decide +kernel
theorem dX10_keepsTaps_140 : decode cX10_keepsTaps 140 = .ok (.getfield 152, 3) := by decide +kernel
theorem dX10_keepsTaps_143 : decode cX10_keepsTaps 143 = .ok (.iload_n 1, 1) := by decide +kernel
theorem dX10_keepsTaps_144 : decode cX10_keepsTaps 144 = .ok (.iaload, 1) := by decide +kernel
theorem dX10_keepsTaps_145 : decode cX10_keepsTaps 145 = .ok (.invokevirtual 473, 3) := by decide +kernel
theorem dX10_keepsTaps_148 : decode cX10_keepsTaps 148 = .ok (.iastore, 1) := by decide +kernel
theorem dX10_keepsTaps_149 : decode cX10_keepsTaps 149 = .ok (.aload_n 0, 1) := by decide +kernel
theorem dX10_keepsTaps_150 : decode cX10_keepsTaps 150 = .ok (.getfield 155, 3) := by decide +kernel
theorem dX10_keepsTaps_153 : decode cX10_keepsTaps 153 = .ok (.iload_n 1, 1) := by decide +kernel
theorem dX10_keepsTaps_154 : decode cX10_keepsTaps 154 = .ok (.aload_n 0, 1) := by decide +kernel
theorem dX10_keepsTaps_155 : decode cX10_keepsTaps 155 = .ok (.aload_n 0, 1) := by decide +kernel
theorem dX10_keepsTaps_156 : decode cX10_keepsTaps 156 = .ok (.getfield 155, 3) := by decide +kernel
theorem dX10_keepsTaps_159 : decode cX10_keepsTaps 159 = .ok (.iload_n 1, 1) := by decide +kernel
theorem dX10_keepsTaps_160 : decode cX10_keepsTaps 160 = .ok (.iaload, 1) := by decide +kernel
theorem dX10_keepsTaps_161 : decode cX10_keepsTaps 161 = .ok (.invokevirtual 473, 3) := by decide +kernel
theorem dX10_keepsTaps_164 : decode cX10_keepsTaps 164 = .ok (.iastore, 1) := by decide +kernel
theorem dX10_keepsTaps_165 : decode cX10_keepsTaps 165 = .ok (.iinc 1 1, 3) := by decide +kernel
theorem dX10_keepsTaps_168 : decode cX10_keepsTaps 168 = .ok (.goto (-73), 3) := by decide +kernel
theorem dX10_keepsTaps_171 : decode cX10_keepsTaps 171 = .ok (.return_, 1) := by decide +kernel
theorem dX10_keepsTexts_0 : decode cX10_keepsTexts 0 = .ok (.iconst 0, 1) := by decide +kernel
theorem dX10_keepsTexts_1 : decode cX10_keepsTexts 1 = .ok (.istore_n 1, 1) := by decide +kernel
theorem dX10_keepsTexts_2 : decode cX10_keepsTexts 2 = .ok (.iload_n 1, 1) := by decide +kernel
theorem dX10_keepsTexts_3 : decode cX10_keepsTexts 3 = .ok (.bipush 6, 2) := by decide +kernel
theorem dX10_keepsTexts_5 : decode cX10_keepsTexts 5 = .ok (.if_icmp .ge 25, 3) := by decide +kernel
theorem dX10_keepsTexts_8 : decode cX10_keepsTexts 8 = .ok (.aload_n 0, 1) := by decide +kernel
theorem dX10_keepsTexts_9 : decode cX10_keepsTexts 9 = .ok (.getfield 59, 3) := by decide +kernel
theorem dX10_keepsTexts_12 : decode cX10_keepsTexts 12 = .ok (.iload_n 1, 1) := by decide +kernel
theorem dX10_keepsTexts_13 : decode cX10_keepsTexts 13 = .ok (.aload_n 0, 1) := by decide +kernel
theorem dX10_keepsTexts_14 : decode cX10_keepsTexts 14 = .ok (.aload_n 0, 1) := by decide +kernel
theorem dX10_keepsTexts_15 : decode cX10_keepsTexts 15 = .ok (.getfield 59, 3) := by decide +kernel
theorem dX10_keepsTexts_18 : decode cX10_keepsTexts 18 = .ok (.iload_n 1, 1) := by decide +kernel
theorem dX10_keepsTexts_19 : decode cX10_keepsTexts 19 = .ok (.iaload, 1) := by decide +kernel
theorem dX10_keepsTexts_20 : decode cX10_keepsTexts 20 = .ok (.invokevirtual 473, 3) := by decide +kernel
theorem dX10_keepsTexts_23 : decode cX10_keepsTexts 23 = .ok (.iastore, 1) := by decide +kernel
theorem dX10_keepsTexts_24 : decode cX10_keepsTexts 24 = .ok (.iinc 1 1, 3) := by decide +kernel
theorem dX10_keepsTexts_27 : decode cX10_keepsTexts 27 = .ok (.goto (-25), 3) := by decide +kernel
theorem dX10_keepsTexts_30 : decode cX10_keepsTexts 30 = .ok (.iconst 0, 1) := by decide +kernel
theorem dX10_keepsTexts_31 : decode cX10_keepsTexts 31 = .ok (.istore_n 1, 1) := by decide +kernel
theorem dX10_keepsTexts_32 : decode cX10_keepsTexts 32 = .ok (.iload_n 1, 1) := by decide +kernel
theorem dX10_keepsTexts_33 : decode cX10_keepsTexts 33 = .ok (.bipush 96, 2) := by decide +kernel
theorem dX10_keepsTexts_35 : decode cX10_keepsTexts 35 = .ok (.if_icmp .ge 121, 3) := by decide +kernel
theorem dX10_keepsTexts_38 : decode cX10_keepsTexts 38 = .ok (.aload_n 0, 1) := by decide +kernel
theorem dX10_keepsTexts_39 : decode cX10_keepsTexts 39 = .ok (.getfield 62, 3) := by decide +kernel
theorem dX10_keepsTexts_42 : decode cX10_keepsTexts 42 = .ok (.iload_n 1, 1) := by decide +kernel
theorem dX10_keepsTexts_43 : decode cX10_keepsTexts 43 = .ok (.aload_n 0, 1) := by decide +kernel
theorem dX10_keepsTexts_44 : decode cX10_keepsTexts 44 = .ok (.aload_n 0, 1) := by decide +kernel
theorem dX10_keepsTexts_45 : decode cX10_keepsTexts 45 = .ok (.getfield 62, 3) := by decide +kernel
theorem dX10_keepsTexts_48 : decode cX10_keepsTexts 48 = .ok (.iload_n 1, 1) := by decide +kernel
theorem dX10_keepsTexts_49 : decode cX10_keepsTexts 49 = .ok (.iaload, 1) := by decide +kernel
theorem dX10_keepsTexts_50 : decode cX10_keepsTexts 50 = .ok (.invokevirtual 473, 3) := by decide +kernel
theorem dX10_keepsTexts_53 : decode cX10_keepsTexts 53 = .ok (.iastore, 1) := by decide +kernel
theorem dX10_keepsTexts_54 : decode cX10_keepsTexts 54 = .ok (.aload_n 0, 1) := by decide +kernel
theorem dX10_keepsTexts_55 : decode cX10_keepsTexts 55 = .ok (.getfield 65, 3) := by decide +kernel
theorem dX10_keepsTexts_58 : decode cX10_keepsTexts 58 = .ok (.iload_n 1, 1) := by decide +kernel
theorem dX10_keepsTexts_59 : decode cX10_keepsTexts 59 = .ok (.aload_n 0, 1) := by decide +kernel
theorem dX10_keepsTexts_60 : decode cX10_keepsTexts 60 = .ok (.aload_n 0, 1) := by decide +kernel
theorem dX10_keepsTexts_61 : decode cX10_keepsTexts 61 = .ok (.getfield 65, 3) := by decide +kernel
theorem dX10_keepsTexts_64 : decode cX10_keepsTexts 64 = .ok (.iload_n 1, 1) := by decide +kernel
theorem dX10_keepsTexts_65 : decode cX10_keepsTexts 65 = .ok (.iaload, 1) := by decide +kernel
theorem dX10_keepsTexts_66 : decode cX10_keepsTexts 66 = .ok (.invokevirtual 473, 3) := by decide +kernel
theorem dX10_keepsTexts_69 : decode cX10_keepsTexts 69 = .ok (.iastore, 1) := by decide +kernel
theorem dX10_keepsTexts_70 : decode cX10_keepsTexts 70 = .ok (.aload_n 0, 1) := by decide +kernel
theorem dX10_keepsTexts_71 : decode cX10_keepsTexts 71 = .ok (.getfield 68, 3) := by decide +kernel
theorem dX10_keepsTexts_74 : decode cX10_keepsTexts 74 = .ok (.iload_n 1, 1) := by decide +kernel
theorem dX10_keepsTexts_75 : decode cX10_keepsTexts 75 = .ok (.aload_n 0, 1) := by decide +kernel
theorem dX10_keepsTexts_76 : decode cX10_keepsTexts 76 = .ok (.aload_n 0, 1) := by decide +kernel
theorem dX10_keepsTexts_77 : decode cX10_keepsTexts 77 = .ok (.getfield 68, 3) := by decide +kernel
theorem dX10_keepsTexts_80 : decode cX10_keepsTexts 80 = .ok (.iload_n 1, 1) := by decide +kernel
theorem dX10_keepsTexts_81 : decode cX10_keepsTexts 81 = .ok (.iaload, 1) := by decide +kernel
theorem dX10_keepsTexts_82 : decode cX10_keepsTexts 82 = .ok (.invokevirtual 473, 3) := by decide +kernel
theorem dX10_keepsTexts_85 : decode cX10_keepsTexts 85 = .ok (.iastore, 1) := by decide +kernel
theorem dX10_keepsTexts_86 : decode cX10_keepsTexts 86 = .ok (.aload_n 0, 1) := by decide +kernel
theorem dX10_keepsTexts_87 : decode cX10_keepsTexts 87 = .ok (.getfield 71, 3) := by decide +kernel
theorem dX10_keepsTexts_90 : decode cX10_keepsTexts 90 = .ok (.iload_n 1, 1) := by decide +kernel
theorem dX10_keepsTexts_91 : decode cX10_keepsTexts 91 = .ok (.aload_n 0, 1) := by decide +kernel
theorem dX10_keepsTexts_92 : decode cX10_keepsTexts 92 = .ok (.aload_n 0, 1) := by decide +kernel
theorem dX10_keepsTexts_93 : decode cX10_keepsTexts 93 = .ok (.getfield 71, 3) := by decide +kernel
theorem dX10_keepsTexts_96 : decode cX10_keepsTexts 96 = .ok (.iload_n 1, 1) := by decide +kernel
theorem dX10_keepsTexts_97 : decode cX10_keepsTexts 97 = .ok (.iaload, 1) := by decide +kernel
theorem dX10_keepsTexts_98 : decode cX10_keepsTexts 98 = .ok (.invokevirtual 473, 3) := by decide +kernel
theorem dX10_keepsTexts_101 : decode cX10_keepsTexts 101 = .ok (.iastore, 1) := by decide +kernel
theorem dX10_keepsTexts_102 : decode cX10_keepsTexts 102 = .ok (.aload_n 0, 1) := by decide +kernel
theorem dX10_keepsTexts_103 : decode cX10_keepsTexts 103 = .ok (.getfield 74, 3) := by decide +kernel
theorem dX10_keepsTexts_106 : decode cX10_keepsTexts 106 = .ok (.iload_n 1, 1) := by decide +kernel
theorem dX10_keepsTexts_107 : decode cX10_keepsTexts 107 = .ok (.aload_n 0, 1) := by decide +kernel
theorem dX10_keepsTexts_108 : decode cX10_keepsTexts 108 = .ok (.aload_n 0, 1) := by decide +kernel
theorem dX10_keepsTexts_109 : decode cX10_keepsTexts 109 = .ok (.getfield 74, 3) := by decide +kernel
theorem dX10_keepsTexts_112 : decode cX10_keepsTexts 112 = .ok (.iload_n 1, 1) := by decide +kernel
theorem dX10_keepsTexts_113 : decode cX10_keepsTexts 113 = .ok (.iaload, 1) := by decide +kernel
theorem dX10_keepsTexts_114 : decode cX10_keepsTexts 114 = .ok (.invokevirtual 473, 3) := by decide +kernel
theorem dX10_keepsTexts_117 : decode cX10_keepsTexts 117 = .ok (.iastore, 1) := by decide +kernel
theorem dX10_keepsTexts_118 : decode cX10_keepsTexts 118 = .ok (.aload_n 0, 1) := by decide +kernel
theorem dX10_keepsTexts_119 : decode cX10_keepsTexts 119 = .ok (.getfield 77, 3) := by decide +kernel
theorem dX10_keepsTexts_122 : decode cX10_keepsTexts 122 = .ok (.iload_n 1, 1) := by decide +kernel
theorem dX10_keepsTexts_123 : decode cX10_keepsTexts 123 = .ok (.aload_n 0, 1) := by decide +kernel
theorem dX10_keepsTexts_124 : decode cX10_keepsTexts 124 = .ok (.aload_n 0, 1) := by decide +kernel
theorem dX10_keepsTexts_125 : decode cX10_keepsTexts 125 = .ok (.getfield 77, 3) := by decide +kernel
theorem dX10_keepsTexts_128 : decode cX10_keepsTexts 128 = .ok (.iload_n 1, 1) := by decide +kernel
theorem dX10_keepsTexts_129 : decode cX10_keepsTexts 129 = .ok (.iaload, 1) := by decide +kernel
theorem dX10_keepsTexts_130 : decode cX10_keepsTexts 130 = .ok (.invokevirtual 473, 3) := by decide +kernel
theorem dX10_keepsTexts_133 : decode cX10_keepsTexts 133 = .ok (.iastore, 1) := by decide +kernel
theorem dX10_keepsTexts_134 : decode cX10_keepsTexts 134 = .ok (.aload_n 0, 1) := by decide +kernel
theorem dX10_keepsTexts_135 : decode cX10_keepsTexts 135 = .ok (.getfield 80, 3) := by decide +kernel
theorem dX10_keepsTexts_138 : decode cX10_keepsTexts 138 = .ok (.iload_n 1, 1) := by decide +kernel
theorem dX10_keepsTexts_139 : decode cX10_keepsTexts 139 = .ok (.aload_n 0, 1) := by decide +kernel
theorem dX10_keepsTexts_140 : decode cX10_keepsTexts 140 = .ok (.aload_n 0, 1) := by decide +kernel
theorem dX10_keepsTexts_141 : decode cX10_keepsTexts 141 = .ok (.getfield 80, 3) := by decide +kernel
theorem dX10_keepsTexts_144 : decode cX10_keepsTexts 144 = .ok (.iload_n 1, 1) := by decide +kernel
theorem dX10_keepsTexts_145 : decode cX10_keepsTexts 145 = .ok (.iaload, 1) := by decide +kernel
theorem dX10_keepsTexts_146 : decode cX10_keepsTexts 146 = .ok (.invokevirtual 473, 3) := by decide +kernel
theorem dX10_keepsTexts_149 : decode cX10_keepsTexts 149 = .ok (.iastore, 1) := by decide +kernel
theorem dX10_keepsTexts_150 : decode cX10_keepsTexts 150 = .ok (.iinc 1 1, 3) := by decide +kernel
theorem dX10_keepsTexts_153 : decode cX10_keepsTexts 153 = .ok (.goto (-121), 3) := by decide +kernel
theorem dX10_keepsTexts_156 : decode cX10_keepsTexts 156 = .ok (.iconst 0, 1) := by decide +kernel
theorem dX10_keepsTexts_157 : decode cX10_keepsTexts 157 = .ok (.istore_n 1, 1) := by decide +kernel
theorem dX10_keepsTexts_158 : decode cX10_keepsTexts 158 = .ok (.iload_n 1, 1) := by decide +kernel
theorem dX10_keepsTexts_159 : decode cX10_keepsTexts 159 = .ok (.sipush 3000, 3) := by decide +kernel
theorem dX10_keepsTexts_162 : decode cX10_keepsTexts 162 = .ok (.if_icmp .ge 41, 3) := by decide +kernel
theorem dX10_keepsTexts_165 : decode cX10_keepsTexts 165 = .ok (.aload_n 0, 1) := by decide +kernel
theorem dX10_keepsTexts_166 : decode cX10_keepsTexts 166 = .ok (.getfield 83, 3) := by decide +kernel
theorem dX10_keepsTexts_169 : decode cX10_keepsTexts 169 = .ok (.iload_n 1, 1) := by decide +kernel
theorem dX10_keepsTexts_170 : decode cX10_keepsTexts 170 = .ok (.aload_n 0, 1) := by decide +kernel
theorem dX10_keepsTexts_171 : decode cX10_keepsTexts 171 = .ok (.aload_n 0, 1) := by decide +kernel
theorem dX10_keepsTexts_172 : decode cX10_keepsTexts 172 = .ok (.getfield 83, 3) := by decide +kernel
theorem dX10_keepsTexts_175 : decode cX10_keepsTexts 175 = .ok (.iload_n 1, 1) := by decide +kernel
theorem dX10_keepsTexts_176 : decode cX10_keepsTexts 176 = .ok (.iaload, 1) := by decide +kernel
theorem dX10_keepsTexts_177 : decode cX10_keepsTexts 177 = .ok (.invokevirtual 473, 3) := by decide +kernel
theorem dX10_keepsTexts_180 : decode cX10_keepsTexts 180 = .ok (.iastore, 1) := by decide +kernel
theorem dX10_keepsTexts_181 : decode cX10_keepsTexts 181 = .ok (.aload_n 0, 1) := by decide +kernel
theorem dX10_keepsTexts_182 : decode cX10_keepsTexts 182 = .ok (.getfield 86, 3) := by decide +kernel
theorem dX10_keepsTexts_185 : decode cX10_keepsTexts 185 = .ok (.iload_n 1, 1) := by decide +kernel
theorem dX10_keepsTexts_186 : decode cX10_keepsTexts 186 = .ok (.aload_n 0, 1) := by decide +kernel
theorem dX10_keepsTexts_187 : decode cX10_keepsTexts 187 = .ok (.aload_n 0, 1) := by decide +kernel
theorem dX10_keepsTexts_188 : decode cX10_keepsTexts 188 = .ok (.getfield 86, 3) := by decide +kernel
theorem dX10_keepsTexts_191 : decode cX10_keepsTexts 191 = .ok (.iload_n 1, 1) := by decide +kernel
theorem dX10_keepsTexts_192 : decode cX10_keepsTexts 192 = .ok (.iaload, 1) := by decide +kernel
theorem dX10_keepsTexts_193 : decode cX10_keepsTexts 193 = .ok (.invokevirtual 473, 3) := by decide +kernel
theorem dX10_keepsTexts_196 : decode cX10_keepsTexts 196 = .ok (.iastore, 1) := by decide +kernel
theorem dX10_keepsTexts_197 : decode cX10_keepsTexts 197 = .ok (.iinc 1 1, 3) := by decide +kernel
theorem dX10_keepsTexts_200 : decode cX10_keepsTexts 200 = .ok (.goto (-42), 3) := by decide +kernel
theorem dX10_keepsTexts_203 : decode cX10_keepsTexts 203 = .ok (.return_, 1) := by decide +kernel
theorem dX10_image_0 : decode cX10_image 0 = .ok (.aload_n 0, 1) := by decide +kernel
theorem dX10_image_1 : decode cX10_image 1 = .ok (.iconst 0, 1) := by decide +kernel
theorem dX10_image_2 : decode cX10_image 2 = .ok (.putfield 167, 3) := by decide +kernel
theorem dX10_image_5 : decode cX10_image 5 = .ok (.iload_n 1, 1) := by decide +kernel
theorem dX10_image_6 : decode cX10_image 6 = .ok (.ifCond .ne 12, 3) := by decide +kernel
theorem dX10_image_9 : decode cX10_image 9 = .ok (.aload_n 0, 1) := by decide +kernel
theorem dX10_image_10 : decode cX10_image 10 = .ok (.getfield 476, 3) := by decide +kernel
theorem dX10_image_13 : decode cX10_image 13 = .ok (.ifCond .ne 5, 3) := by decide +kernel
theorem dX10_image_16 : decode cX10_image 16 = .ok (.iconst 0, 1) := by decide +kernel
theorem dX10_image_17 : decode cX10_image 17 = .ok (.ireturn, 1) := by decide +kernel
theorem dX10_image_18 : decode cX10_image 18 = .ok (.aload_n 0, 1) := by decide +kernel
theorem dX10_image_19 : decode cX10_image 19 = .ok (.iload_n 1, 1) := by decide +kernel
theorem dX10_image_20 : decode cX10_image 20 = .ok (.putfield 470, 3) := by decide +kernel
theorem dX10_image_23 : decode cX10_image 23 = .ok (.aload_n 0, 1) := by decide +kernel
theorem dX10_image_24 : decode cX10_image 24 = .ok (.iconst 1, 1) := by decide +kernel
theorem dX10_image_25 : decode cX10_image 25 = .ok (.putfield 476, 3) := by decide +kernel
theorem dX10_image_28 : decode cX10_image 28 = .ok (.aload_n 0, 1) := by decide +kernel
theorem dX10_image_29 : decode cX10_image 29 = .ok (.iconst 0, 1) := by decide +kernel
theorem dX10_image_30 : decode cX10_image 30 = .ok (.putfield 467, 3) := by decide +kernel
theorem dX10_image_33 : decode cX10_image 33 = .ok (.aload_n 0, 1) := by decide +kernel
theorem dX10_image_34 : decode cX10_image 34 = .ok (.aload_n 0, 1) := by decide +kernel
theorem dX10_image_35 : decode cX10_image 35 = .ok (.aload_n 0, 1) := by decide +kernel
theorem dX10_image_36 : decode cX10_image 36 = .ok (.getfield 170, 3) := by decide +kernel
theorem dX10_image_39 : decode cX10_image 39 = .ok (.invokevirtual 473, 3) := by decide +kernel
theorem dX10_image_42 : decode cX10_image 42 = .ok (.putfield 170, 3) := by decide +kernel
theorem dX10_image_45 : decode cX10_image 45 = .ok (.aload_n 0, 1) := by decide +kernel
theorem dX10_image_46 : decode cX10_image 46 = .ok (.aload_n 0, 1) := by decide +kernel
theorem dX10_image_47 : decode cX10_image 47 = .ok (.aload_n 0, 1) := by decide +kernel
theorem dX10_image_48 : decode cX10_image 48 = .ok (.getfield 322, 3) := by decide +kernel
theorem dX10_image_51 : decode cX10_image 51 = .ok (.invokevirtual 473, 3) := by decide +kernel
theorem dX10_image_54 : decode cX10_image 54 = .ok (.putfield 322, 3) := by decide +kernel
theorem dX10_image_57 : decode cX10_image 57 = .ok (.aload_n 0, 1) := by decide +kernel
theorem dX10_image_58 : decode cX10_image 58 = .ok (.aload_n 0, 1) := by decide +kernel
theorem dX10_image_59 : decode cX10_image 59 = .ok (.aload_n 0, 1) := by decide +kernel
theorem dX10_image_60 : decode cX10_image 60 = .ok (.getfield 7, 3) := by decide +kernel
theorem dX10_image_63 : decode cX10_image 63 = .ok (.invokevirtual 473, 3) := by decide +kernel
theorem dX10_image_66 : decode cX10_image 66 = .ok (.putfield 7, 3) := by decide +kernel
theorem dX10_image_69 : decode cX10_image 69 = .ok (.aload_n 0, 1) := by decide +kernel
theorem dX10_image_70 : decode cX10_image 70 = .ok (.aload_n 0, 1) := by decide +kernel
theorem dX10_image_71 : decode cX10_image 71 = .ok (.aload_n 0, 1) := by decide +kernel
theorem dX10_image_72 : decode cX10_image 72 = .ok (.getfield 438, 3) := by decide +kernel
theorem dX10_image_75 : decode cX10_image 75 = .ok (.invokevirtual 473, 3) := by decide +kernel
theorem dX10_image_78 : decode cX10_image 78 = .ok (.putfield 438, 3) := by decide +kernel
theorem dX10_image_81 : decode cX10_image 81 = .ok (.aload_n 0, 1) := by decide +kernel
theorem dX10_image_82 : decode cX10_image 82 = .ok (.aload_n 0, 1) := by decide +kernel
theorem dX10_image_83 : decode cX10_image 83 = .ok (.aload_n 0, 1) := by decide +kernel
theorem dX10_image_84 : decode cX10_image 84 = .ok (.getfield 455, 3) := by decide +kernel
theorem dX10_image_87 : decode cX10_image 87 = .ok (.invokevirtual 473, 3) := by decide +kernel
theorem dX10_image_90 : decode cX10_image 90 = .ok (.putfield 455, 3) := by decide +kernel
theorem dX10_image_93 : decode cX10_image 93 = .ok (.aload_n 0, 1) := by decide +kernel
theorem dX10_image_94 : decode cX10_image 94 = .ok (.aload_n 0, 1) := by decide +kernel
theorem dX10_image_95 : decode cX10_image 95 = .ok (.aload_n 0, 1) := by decide +kernel
theorem dX10_image_96 : decode cX10_image 96 = .ok (.getfield 458, 3) := by decide +kernel
theorem dX10_image_99 : decode cX10_image 99 = .ok (.invokevirtual 473, 3) := by decide +kernel
theorem dX10_image_102 : decode cX10_image 102 = .ok (.putfield 458, 3) := by decide +kernel
theorem dX10_image_105 : decode cX10_image 105 = .ok (.aload_n 0, 1) := by decide +kernel
theorem dX10_image_106 : decode cX10_image 106 = .ok (.invokevirtual 479, 3) := by decide +kernel
theorem dX10_image_109 : decode cX10_image 109 = .ok (.aload_n 0, 1) := by decide +kernel
theorem dX10_image_110 : decode cX10_image 110 = .ok (.invokevirtual 482, 3) := by decide +kernel
theorem dX10_image_113 : decode cX10_image 113 = .ok (.aload_n 0, 1) := by decide +kernel
theorem dX10_image_114 : decode cX10_image 114 = .ok (.invokevirtual 485, 3) := by decide +kernel
theorem dX10_image_117 : decode cX10_image 117 = .ok (.iconst 1, 1) := by decide +kernel
theorem dX10_image_118 : decode cX10_image 118 = .ok (.ireturn, 1) := by decide +kernel
theorem dX10_barsThat_0 : decode cX10_barsThat 0 = .ok (.iconst 0, 1) := by decide +kernel
theorem dX10_barsThat_1 : decode cX10_barsThat 1 = .ok (.istore_n 2, 1) := by decide +kernel
theorem dX10_barsThat_2 : decode cX10_barsThat 2 = .ok (.iconst 0, 1) := by decide +kernel
theorem dX10_barsThat_3 : decode cX10_barsThat 3 = .ok (.istore_n 3, 1) := by decide +kernel
theorem dX10_barsThat_4 : decode cX10_barsThat 4 = .ok (.iload_n 3, 1) := by decide +kernel
theorem dX10_barsThat_5 : decode cX10_barsThat 5 = .ok (.aload_n 0, 1) := by decide +kernel
theorem dX10_barsThat_6 : decode cX10_barsThat 6 = .ok (.getfield 170, 3) := by decide +kernel
theorem dX10_barsThat_9 : decode cX10_barsThat 9 = .ok (.if_icmp .ge 36, 3) := by decide +kernel
theorem dX10_barsThat_12 : decode cX10_barsThat 12 = .ok (.iload_n 1, 1) := by decide +kernel
theorem dX10_barsThat_13 : decode cX10_barsThat 13 = .ok (.ifCond .eq 14, 3) := by decide +kernel
theorem dX10_barsThat_16 : decode cX10_barsThat 16 = .ok (.aload_n 0, 1) := by decide +kernel
theorem dX10_barsThat_17 : decode cX10_barsThat 17 = .ok (.iload_n 3, 1) := by decide +kernel
theorem dX10_barsThat_18 : decode cX10_barsThat 18 = .ok (.invokevirtual 338, 3) := by decide +kernel
theorem dX10_barsThat_21 : decode cX10_barsThat 21 = .ok (.ifCond .eq 18, 3) := by decide +kernel
theorem dX10_barsThat_24 : decode cX10_barsThat 24 = .ok (.goto 11, 3) := by decide +kernel
theorem dX10_barsThat_27 : decode cX10_barsThat 27 = .ok (.aload_n 0, 1) := by decide +kernel
theorem dX10_barsThat_28 : decode cX10_barsThat 28 = .ok (.iload_n 3, 1) := by decide +kernel
theorem dX10_barsThat_29 : decode cX10_barsThat 29 = .ok (.invokevirtual 414, 3) := by decide +kernel
theorem dX10_barsThat_32 : decode cX10_barsThat 32 = .ok (.ifCond .eq 7, 3) := by decide +kernel
theorem dX10_barsThat_35 : decode cX10_barsThat 35 = .ok (.iload_n 2, 1) := by decide +kernel
theorem dX10_barsThat_36 : decode cX10_barsThat 36 = .ok (.iconst 1, 1) := by decide +kernel
theorem dX10_barsThat_37 : decode cX10_barsThat 37 = .ok (.iadd, 1) := by decide +kernel
theorem dX10_barsThat_38 : decode cX10_barsThat 38 = .ok (.istore_n 2, 1) := by decide +kernel
theorem dX10_barsThat_39 : decode cX10_barsThat 39 = .ok (.iinc 3 1, 3) := by decide +kernel
theorem dX10_barsThat_42 : decode cX10_barsThat 42 = .ok (.goto (-38), 3) := by decide +kernel
theorem dX10_barsThat_45 : decode cX10_barsThat 45 = .ok (.iload_n 2, 1) := by decide +kernel
theorem dX10_barsThat_46 : decode cX10_barsThat 46 = .ok (.ireturn, 1) := by decide +kernel
theorem dX10_look_0 : decode cX10_look 0 = .ok (.aload_n 0, 1) := by decide +kernel
theorem dX10_look_1 : decode cX10_look 1 = .ok (.iconst 0, 1) := by decide +kernel
theorem dX10_look_2 : decode cX10_look 2 = .ok (.putfield 167, 3) := by decide +kernel
theorem dX10_look_5 : decode cX10_look 5 = .ok (.iload_n 1, 1) := by decide +kernel
theorem dX10_look_6 : decode cX10_look 6 = .ok (.ifCond .ne 8, 3) := by decide +kernel
theorem dX10_look_9 : decode cX10_look 9 = .ok (.aload_n 0, 1) := by decide +kernel
theorem dX10_look_10 : decode cX10_look 10 = .ok (.getfield 170, 3) := by decide +kernel
theorem dX10_look_13 : decode cX10_look 13 = .ok (.ireturn, 1) := by decide +kernel
theorem dX10_look_14 : decode cX10_look 14 = .ok (.iload_n 1, 1) := by decide +kernel
theorem dX10_look_15 : decode cX10_look 15 = .ok (.iconst 1, 1) := by decide +kernel
theorem dX10_look_16 : decode cX10_look 16 = .ok (.if_icmp .ne 8, 3) := by decide +kernel
theorem dX10_look_19 : decode cX10_look 19 = .ok (.aload_n 0, 1) := by decide +kernel
theorem dX10_look_20 : decode cX10_look 20 = .ok (.getfield 438, 3) := by decide +kernel
theorem dX10_look_23 : decode cX10_look 23 = .ok (.ireturn, 1) := by decide +kernel
theorem dX10_look_24 : decode cX10_look 24 = .ok (.iload_n 1, 1) := by decide +kernel
theorem dX10_look_25 : decode cX10_look 25 = .ok (.iconst 2, 1) := by decide +kernel
theorem dX10_look_26 : decode cX10_look 26 = .ok (.if_icmp .ne 8, 3) := by decide +kernel
theorem dX10_look_29 : decode cX10_look 29 = .ok (.aload_n 0, 1) := by decide +kernel
theorem dX10_look_30 : decode cX10_look 30 = .ok (.getfield 455, 3) := by decide +kernel
theorem dX10_look_33 : decode cX10_look 33 = .ok (.ireturn, 1) := by decide +kernel
theorem dX10_look_34 : decode cX10_look 34 = .ok (.iload_n 1, 1) := by decide +kernel
theorem dX10_look_35 : decode cX10_look 35 = .ok (.iconst 3, 1) := by decide +kernel
theorem dX10_look_36 : decode cX10_look 36 = .ok (.if_icmp .ne 8, 3) := by decide +kernel
theorem dX10_look_39 : decode cX10_look 39 = .ok (.aload_n 0, 1) := by decide +kernel
theorem dX10_look_40 : decode cX10_look 40 = .ok (.getfield 458, 3) := by decide +kernel
theorem dX10_look_43 : decode cX10_look 43 = .ok (.ireturn, 1) := by decide +kernel
theorem dX10_look_44 : decode cX10_look 44 = .ok (.iload_n 1, 1) := by decide +kernel
theorem dX10_look_45 : decode cX10_look 45 = .ok (.iconst 4, 1) := by decide +kernel
theorem dX10_look_46 : decode cX10_look 46 = .ok (.if_icmp .ne 8, 3) := by decide +kernel
theorem dX10_look_49 : decode cX10_look 49 = .ok (.aload_n 0, 1) := by decide +kernel
theorem dX10_look_50 : decode cX10_look 50 = .ok (.getfield 7, 3) := by decide +kernel
theorem dX10_look_53 : decode cX10_look 53 = .ok (.ireturn, 1) := by decide +kernel
theorem dX10_look_54 : decode cX10_look 54 = .ok (.iload_n 1, 1) := by decide +kernel
theorem dX10_look_55 : decode cX10_look 55 = .ok (.iconst 5, 1) := by decide +kernel
theorem dX10_look_56 : decode cX10_look 56 = .ok (.if_icmp .ne 8, 3) := by decide +kernel
theorem dX10_look_59 : decode cX10_look 59 = .ok (.aload_n 0, 1) := by decide +kernel
theorem dX10_look_60 : decode cX10_look 60 = .ok (.getfield 322, 3) := by decide +kernel
theorem dX10_look_63 : decode cX10_look 63 = .ok (.ireturn, 1) := by decide +kernel
theorem dX10_look_64 : decode cX10_look 64 = .ok (.iload_n 1, 1) := by decide +kernel
theorem dX10_look_65 : decode cX10_look 65 = .ok (.bipush 6, 2) := by decide +kernel
theorem dX10_look_67 : decode cX10_look 67 = .ok (.if_icmp .eq 9, 3) := by decide +kernel
theorem dX10_look_70 : decode cX10_look 70 = .ok (.iload_n 1, 1) := by decide +kernel
theorem dX10_look_71 : decode cX10_look 71 = .ok (.bipush 7, 2) := by decide +kernel
theorem dX10_look_73 : decode cX10_look 73 = .ok (.if_icmp .ne 21, 3) := by decide +kernel
theorem dX10_look_76 : decode cX10_look 76 = .ok (.aload_n 0, 1) := by decide +kernel
theorem dX10_look_77 : decode cX10_look 77 = .ok (.iload_n 1, 1) := by decide +kernel
theorem dX10_look_78 : decode cX10_look 78 = .ok (.bipush 6, 2) := by decide +kernel
theorem dX10_look_80 : decode cX10_look 80 = .ok (.if_icmp .ne 7, 3) := by decide +kernel
theorem dX10_look_83 : decode cX10_look 83 = .ok (.iconst 1, 1) := by decide +kernel
theorem dX10_look_84 : decode cX10_look 84 = .ok (.goto 4, 3) := by decide +kernel
theorem dX10_look_87 : decode cX10_look 87 = .ok (.iconst 0, 1) := by decide +kernel
theorem dX10_look_88 : decode cX10_look 88 = .ok (.invokevirtual 488, 3) := by decide +kernel
theorem dX10_look_91 : decode cX10_look 91 = .ok (.goto 4, 3) := by decide +kernel
theorem dX10_look_94 : decode cX10_look 94 = .ok (.iconst (-1), 1) := by decide +kernel
theorem dX10_look_95 : decode cX10_look 95 = .ok (.ireturn, 1) := by decide +kernel
theorem dJ9_abs_0f7a4_0 : decode cJ9_abs_0f7a4 0 = .ok (.iload_n 0, 1) := by decide +kernel
theorem dJ9_abs_0f7a4_1 : decode cJ9_abs_0f7a4 1 = .ok (.ifCond .ge 8, 3) := by decide +kernel
theorem dJ9_abs_0f7a4_4 : decode cJ9_abs_0f7a4 4 = .ok (.iload_n 0, 1) := by decide +kernel
theorem dJ9_abs_0f7a4_5 : decode cJ9_abs_0f7a4 5 = .ok (.ineg, 1) := by decide +kernel
theorem dJ9_abs_0f7a4_6 : decode cJ9_abs_0f7a4 6 = .ok (.goto 4, 3) := by decide +kernel
theorem dJ9_abs_0f7a4_9 : decode cJ9_abs_0f7a4 9 = .ok (.iload_n 0, 1) := by decide +kernel
theorem dJ9_abs_0f7a4_10 : decode cJ9_abs_0f7a4 10 = .ok (.ireturn, 1) := by decide +kernel
theorem dJ9_abs_067f4_0 : decode cJ9_abs_067f4 0 = .ok (.lload_n 0, 1) := by decide +kernel
theorem dJ9_abs_067f4_1 : decode cJ9_abs_067f4 1 = .ok (.lconst 0, 1) := by decide +kernel
theorem dJ9_abs_067f4_2 : decode cJ9_abs_067f4 2 = .ok (.lcmp, 1) := by decide +kernel
theorem dJ9_abs_067f4_3 : decode cJ9_abs_067f4 3 = .ok (.ifCond .ge 8, 3) := by decide +kernel
theorem dJ9_abs_067f4_6 : decode cJ9_abs_067f4 6 = .ok (.lload_n 0, 1) := by decide +kernel
theorem dJ9_abs_067f4_7 : decode cJ9_abs_067f4 7 = .ok (.lneg, 1) := by decide +kernel
theorem dJ9_abs_067f4_8 : decode cJ9_abs_067f4 8 = .ok (.goto 4, 3) := by decide +kernel
theorem dJ9_abs_067f4_11 : decode cJ9_abs_067f4 11 = .ok (.lload_n 0, 1) := by decide +kernel
theorem dJ9_abs_067f4_12 : decode cJ9_abs_067f4 12 = .ok (.lreturn, 1) := by decide +kernel
theorem dJ9_max_7cf53_0 : decode cJ9_max_7cf53 0 = .ok (.iload_n 0, 1) := by decide +kernel
theorem dJ9_max_7cf53_1 : decode cJ9_max_7cf53 1 = .ok (.iload_n 1, 1) := by decide +kernel
theorem dJ9_max_7cf53_2 : decode cJ9_max_7cf53 2 = .ok (.if_icmp .lt 7, 3) := by decide +kernel
theorem dJ9_max_7cf53_5 : decode cJ9_max_7cf53 5 = .ok (.iload_n 0, 1) := by decide +kernel
theorem dJ9_max_7cf53_6 : decode cJ9_max_7cf53 6 = .ok (.goto 4, 3) := by decide +kernel
theorem dJ9_max_7cf53_9 : decode cJ9_max_7cf53 9 = .ok (.iload_n 1, 1) := by decide +kernel
theorem dJ9_max_7cf53_10 : decode cJ9_max_7cf53 10 = .ok (.ireturn, 1) := by decide +kernel
theorem dJ9_max_f86c9_0 : decode cJ9_max_f86c9 0 = .ok (.lload_n 0, 1) := by decide +kernel
theorem dJ9_max_f86c9_1 : decode cJ9_max_f86c9 1 = .ok (.lload_n 2, 1) := by decide +kernel
theorem dJ9_max_f86c9_2 : decode cJ9_max_f86c9 2 = .ok (.lcmp, 1) := by decide +kernel
theorem dJ9_max_f86c9_3 : decode cJ9_max_f86c9 3 = .ok (.ifCond .lt 7, 3) := by decide +kernel
theorem dJ9_max_f86c9_6 : decode cJ9_max_f86c9 6 = .ok (.lload_n 0, 1) := by decide +kernel
theorem dJ9_max_f86c9_7 : decode cJ9_max_f86c9 7 = .ok (.goto 4, 3) := by decide +kernel
theorem dJ9_max_f86c9_10 : decode cJ9_max_f86c9 10 = .ok (.lload_n 2, 1) := by decide +kernel
theorem dJ9_max_f86c9_11 : decode cJ9_max_f86c9 11 = .ok (.lreturn, 1) := by decide +kernel
theorem dJ9_min_7cf53_0 : decode cJ9_min_7cf53 0 = .ok (.iload_n 0, 1) := by decide +kernel
theorem dJ9_min_7cf53_1 : decode cJ9_min_7cf53 1 = .ok (.iload_n 1, 1) := by decide +kernel
theorem dJ9_min_7cf53_2 : decode cJ9_min_7cf53 2 = .ok (.if_icmp .gt 7, 3) := by decide +kernel
theorem dJ9_min_7cf53_5 : decode cJ9_min_7cf53 5 = .ok (.iload_n 0, 1) := by decide +kernel
theorem dJ9_min_7cf53_6 : decode cJ9_min_7cf53 6 = .ok (.goto 4, 3) := by decide +kernel
theorem dJ9_min_7cf53_9 : decode cJ9_min_7cf53 9 = .ok (.iload_n 1, 1) := by decide +kernel
theorem dJ9_min_7cf53_10 : decode cJ9_min_7cf53 10 = .ok (.ireturn, 1) := by decide +kernel
theorem dJ9_min_f86c9_0 : decode cJ9_min_f86c9 0 = .ok (.lload_n 0, 1) := by decide +kernel
theorem dJ9_min_f86c9_1 : decode cJ9_min_f86c9 1 = .ok (.lload_n 2, 1) := by decide +kernel
theorem dJ9_min_f86c9_2 : decode cJ9_min_f86c9 2 = .ok (.lcmp, 1) := by decide +kernel
theorem dJ9_min_f86c9_3 : decode cJ9_min_f86c9 3 = .ok (.ifCond .gt 7, 3) := by decide +kernel
theorem dJ9_min_f86c9_6 : decode cJ9_min_f86c9 6 = .ok (.lload_n 0, 1) := by decide +kernel
theorem dJ9_min_f86c9_7 : decode cJ9_min_f86c9 7 = .ok (.goto 4, 3) := by decide +kernel
theorem dJ9_min_f86c9_10 : decode cJ9_min_f86c9 10 = .ok (.lload_n 2, 1) := by decide +kernel
theorem dJ9_min_f86c9_11 : decode cJ9_min_f86c9 11 = .ok (.lreturn, 1) := by decide +kernel
theorem dJ0_charAt_5068e_0 : decode cJ0_charAt_5068e 0 = .ok (.aload_n 0, 1) := by decide +kernel
theorem dJ0_charAt_5068e_1 : decode cJ0_charAt_5068e 1 = .ok (.invokevirtual 492, 3) := by decide +kernel
theorem dJ0_charAt_5068e_4 : decode cJ0_charAt_5068e 4 = .ok (.ifCond .eq 12, 3) := by decide +kernel
theorem dJ0_charAt_5068e_7 : decode cJ0_charAt_5068e 7 = .ok (.aload_n 0, 1) := by decide +kernel
theorem dJ0_charAt_5068e_8 : decode cJ0_charAt_5068e 8 = .ok (.getfield 9, 3) := by decide +kernel
theorem dJ0_charAt_5068e_11 : decode cJ0_charAt_5068e 11 = .ok (.iload_n 1, 1) := by decide +kernel
theorem dJ0_charAt_5068e_12 : decode cJ0_charAt_5068e 12 = .ok (.invokestatic 495, 3) := by decide +kernel
theorem dJ0_charAt_5068e_15 : decode cJ0_charAt_5068e 15 = .ok (.ireturn, 1) := by decide +kernel
theorem dJ0_charAt_5068e_16 : decode cJ0_charAt_5068e 16 = .ok (.aload_n 0, 1) := by decide +kernel
theorem dJ0_charAt_5068e_17 : decode cJ0_charAt_5068e 17 = .ok (.getfield 9, 3) := by decide +kernel
theorem dJ0_charAt_5068e_20 : decode cJ0_charAt_5068e 20 = .ok (.iload_n 1, 1) := by decide +kernel
theorem dJ0_charAt_5068e_21 : decode cJ0_charAt_5068e 21 = .ok (.invokestatic 498, 3) := by decide +kernel
theorem dJ0_charAt_5068e_24 : decode cJ0_charAt_5068e 24 = .ok (.ireturn, 1) := by decide +kernel
theorem dJ0_isLatin1_aae02_0 : decode cJ0_isLatin1_aae02 0 = .ok (.getstatic 38, 3) := by decide +kernel
theorem dJ0_isLatin1_aae02_3 : decode cJ0_isLatin1_aae02 3 = .ok (.ifCond .eq 14, 3) := by decide +kernel
theorem dJ0_isLatin1_aae02_6 : decode cJ0_isLatin1_aae02 6 = .ok (.aload_n 0, 1) := by decide +kernel
theorem dJ0_isLatin1_aae02_7 : decode cJ0_isLatin1_aae02 7 = .ok (.getfield 15, 3) := by decide +kernel
theorem dJ0_isLatin1_aae02_10 : decode cJ0_isLatin1_aae02 10 = .ok (.ifCond .ne 7, 3) := by decide +kernel
theorem dJ0_isLatin1_aae02_13 : decode cJ0_isLatin1_aae02 13 = .ok (.iconst 1, 1) := by decide +kernel
theorem dJ0_isLatin1_aae02_14 : decode cJ0_isLatin1_aae02 14 = .ok (.goto 4, 3) := by decide +kernel
theorem dJ0_isLatin1_aae02_17 : decode cJ0_isLatin1_aae02 17 = .ok (.iconst 0, 1) := by decide +kernel
theorem dJ0_isLatin1_aae02_18 : decode cJ0_isLatin1_aae02 18 = .ok (.ireturn, 1) := by decide +kernel
theorem dJ0_checkIndex_df160_0 : decode cJ0_checkIndex_df160 0 = .ok (.iload_n 0, 1) := by decide +kernel
theorem dJ0_checkIndex_df160_1 : decode cJ0_checkIndex_df160 1 = .ok (.iload_n 1, 1) := by decide +kernel
theorem dJ0_checkIndex_df160_2 : decode cJ0_checkIndex_df160 2 = .ok (.getstatic 1053, 3) := by decide +kernel
theorem dJ0_checkIndex_df160_5 : decode cJ0_checkIndex_df160 5 = .ok (.invokestatic 1059, 3) := by decide +kernel
theorem dJ0_checkIndex_df160_8 : decode cJ0_checkIndex_df160 8 = .ok (.pop, 1) := by decide +kernel
theorem dJ0_checkIndex_df160_9 : decode cJ0_checkIndex_df160 9 = .ok (.return_, 1) := by decide +kernel
theorem dJ1_charAt_3b067_0 : decode cJ1_charAt_3b067 0 = .ok (.iload_n 1, 1) := by decide +kernel
theorem dJ1_charAt_3b067_1 : decode cJ1_charAt_3b067 1 = .ok (.aload_n 0, 1) := by decide +kernel
theorem dJ1_charAt_3b067_2 : decode cJ1_charAt_3b067 2 = .ok (.arraylength, 1) := by decide +kernel
theorem dJ1_charAt_3b067_3 : decode cJ1_charAt_3b067 3 = .ok (.invokestatic 9, 3) := by decide +kernel
theorem dJ1_charAt_3b067_6 : decode cJ1_charAt_3b067 6 = .ok (.aload_n 0, 1) := by decide +kernel
theorem dJ1_charAt_3b067_7 : decode cJ1_charAt_3b067 7 = .ok (.iload_n 1, 1) := by decide +kernel
theorem dJ1_charAt_3b067_8 : decode cJ1_charAt_3b067 8 = .ok (.baload, 1) := by decide +kernel
theorem dJ1_charAt_3b067_9 : decode cJ1_charAt_3b067 9 = .ok (.sipush 255, 3) := by decide +kernel
theorem dJ1_charAt_3b067_12 : decode cJ1_charAt_3b067 12 = .ok (.iand, 1) := by decide +kernel
theorem dJ1_charAt_3b067_13 : decode cJ1_charAt_3b067 13 = .ok (.i2c, 1) := by decide +kernel
theorem dJ1_charAt_3b067_14 : decode cJ1_charAt_3b067 14 = .ok (.ireturn, 1) := by decide +kernel
theorem dJ2_getChar_3b067_0 : decode cJ2_getChar_3b067 0 = .ok (.getstatic 44, 3) := by decide +kernel
theorem dJ2_getChar_3b067_3 : decode cJ2_getChar_3b067 3 = .ok (.ifCond .ne 25, 3) := by decide +kernel
theorem dJ2_getChar_3b067_6 : decode cJ2_getChar_3b067 6 = .ok (.iload_n 1, 1) := by decide +kernel
theorem dJ2_getChar_3b067_7 : decode cJ2_getChar_3b067 7 = .ok (.ifCond .lt 11, 3) := by decide +kernel
theorem dJ2_getChar_3b067_10 : decode cJ2_getChar_3b067 10 = .ok (.iload_n 1, 1) := by decide +kernel
theorem dJ2_getChar_3b067_11 : decode cJ2_getChar_3b067 11 = .ok (.aload_n 0, 1) := by decide +kernel
theorem dJ2_getChar_3b067_12 : decode cJ2_getChar_3b067 12 = .ok (.invokestatic 48, 3) := by decide +kernel
theorem dJ2_getChar_3b067_15 : decode cJ2_getChar_3b067 15 = .ok (.if_icmp .lt 13, 3) := by decide +kernel
theorem dJ2_getChar_3b067_18 : decode cJ2_getChar_3b067 18 = .ok (.new 52, 3) := by decide +kernel
theorem dJ2_getChar_3b067_21 : decode cJ2_getChar_3b067 21 = .ok (.dup, 1) := by decide +kernel
theorem dJ2_getChar_3b067_22 : decode cJ2_getChar_3b067 22 = .ok (.ldc 54, 2) := by decide +kernel
theorem dJ2_getChar_3b067_24 : decode cJ2_getChar_3b067 24 = .ok (.invokespecial 56, 3) := by decide +kernel
theorem dJ2_getChar_3b067_27 : decode cJ2_getChar_3b067 27 = .ok (.athrow, 1) := by decide +kernel
theorem dJ2_getChar_3b067_28 : decode cJ2_getChar_3b067 28 = .ok (.iload_n 1, 1) := by decide +kernel
theorem dJ2_getChar_3b067_29 : decode cJ2_getChar_3b067 29 = .ok (.iconst 1, 1) := by decide +kernel
theorem dJ2_getChar_3b067_30 : decode cJ2_getChar_3b067 30 = .ok (.ishl, 1) := by decide +kernel
theorem dJ2_getChar_3b067_31 : decode cJ2_getChar_3b067 31 = .ok (.istore_n 1, 1) := by decide +kernel
theorem dJ2_getChar_3b067_32 : decode cJ2_getChar_3b067 32 = .ok (.aload_n 0, 1) := by decide +kernel
theorem dJ2_getChar_3b067_33 : decode cJ2_getChar_3b067 33 = .ok (.iload_n 1, 1) := by decide +kernel
theorem dJ2_getChar_3b067_34 : decode cJ2_getChar_3b067 34 = .ok (.iinc 1 1, 3) := by decide +kernel
theorem dJ2_getChar_3b067_37 : decode cJ2_getChar_3b067 37 = .ok (.baload, 1) := by decide +kernel
theorem dJ2_getChar_3b067_38 : decode cJ2_getChar_3b067 38 = .ok (.sipush 255, 3) := by decide +kernel
theorem dJ2_getChar_3b067_41 : decode cJ2_getChar_3b067 41 = .ok (.iand, 1) := by decide +kernel
theorem dJ2_getChar_3b067_42 : decode cJ2_getChar_3b067 42 = .ok (.getstatic 59, 3) := by decide +kernel
theorem dJ2_getChar_3b067_45 : decode cJ2_getChar_3b067 45 = .ok (.ishl, 1) := by decide +kernel
theorem dJ2_getChar_3b067_46 : decode cJ2_getChar_3b067 46 = .ok (.aload_n 0, 1) := by decide +kernel
theorem dJ2_getChar_3b067_47 : decode cJ2_getChar_3b067 47 = .ok (.iload_n 1, 1) := by decide +kernel
theorem dJ2_getChar_3b067_48 : decode cJ2_getChar_3b067 48 = .ok (.baload, 1) := by decide +kernel
theorem dJ2_getChar_3b067_49 : decode cJ2_getChar_3b067 49 = .ok (.sipush 255, 3) := by decide +kernel
theorem dJ2_getChar_3b067_52 : decode cJ2_getChar_3b067 52 = .ok (.iand, 1) := by decide +kernel
theorem dJ2_getChar_3b067_53 : decode cJ2_getChar_3b067 53 = .ok (.getstatic 63, 3) := by decide +kernel
theorem dJ2_getChar_3b067_56 : decode cJ2_getChar_3b067 56 = .ok (.ishl, 1) := by decide +kernel
theorem dJ2_getChar_3b067_57 : decode cJ2_getChar_3b067 57 = .ok (.ior, 1) := by decide +kernel
theorem dJ2_getChar_3b067_58 : decode cJ2_getChar_3b067 58 = .ok (.i2c, 1) := by decide +kernel
theorem dJ2_getChar_3b067_59 : decode cJ2_getChar_3b067 59 = .ok (.ireturn, 1) := by decide +kernel
theorem dJ2_length_9d52b_0 : decode cJ2_length_9d52b 0 = .ok (.aload_n 0, 1) := by decide +kernel
theorem dJ2_length_9d52b_1 : decode cJ2_length_9d52b 1 = .ok (.arraylength, 1) := by decide +kernel
theorem dJ2_length_9d52b_2 : decode cJ2_length_9d52b 2 = .ok (.iconst 1, 1) := by decide +kernel
theorem dJ2_length_9d52b_3 : decode cJ2_length_9d52b 3 = .ok (.ishr, 1) := by decide +kernel
theorem dJ2_length_9d52b_4 : decode cJ2_length_9d52b 4 = .ok (.ireturn, 1) := by decide +kernel
theorem dJ2_charAt_3b067_0 : decode cJ2_charAt_3b067 0 = .ok (.iload_n 1, 1) := by decide +kernel
theorem dJ2_charAt_3b067_1 : decode cJ2_charAt_3b067 1 = .ok (.aload_n 0, 1) := by decide +kernel
theorem dJ2_charAt_3b067_2 : decode cJ2_charAt_3b067 2 = .ok (.invokestatic 67, 3) := by decide +kernel
theorem dJ2_charAt_3b067_5 : decode cJ2_charAt_3b067 5 = .ok (.aload_n 0, 1) := by decide +kernel
theorem dJ2_charAt_3b067_6 : decode cJ2_charAt_3b067 6 = .ok (.iload_n 1, 1) := by decide +kernel
theorem dJ2_charAt_3b067_7 : decode cJ2_charAt_3b067 7 = .ok (.invokestatic 71, 3) := by decide +kernel
theorem dJ2_charAt_3b067_10 : decode cJ2_charAt_3b067 10 = .ok (.ireturn, 1) := by decide +kernel
theorem dJ2_checkIndex_2214a_0 : decode cJ2_checkIndex_2214a 0 = .ok (.iload_n 0, 1) := by decide +kernel
theorem dJ2_checkIndex_2214a_1 : decode cJ2_checkIndex_2214a 1 = .ok (.aload_n 1, 1) := by decide +kernel
theorem dJ2_checkIndex_2214a_2 : decode cJ2_checkIndex_2214a 2 = .ok (.invokestatic 48, 3) := by decide +kernel
theorem dJ2_checkIndex_2214a_5 : decode cJ2_checkIndex_2214a 5 = .ok (.invokestatic 414, 3) := by decide +kernel
theorem dJ2_checkIndex_2214a_8 : decode cJ2_checkIndex_2214a 8 = .ok (.return_, 1) := by decide +kernel
theorem dJ7_fill_53178_0 : decode cJ7_fill_53178 0 = .ok (.iconst 0, 1) := by decide +kernel
theorem dJ7_fill_53178_1 : decode cJ7_fill_53178 1 = .ok (.istore_n 2, 1) := by decide +kernel
theorem dJ7_fill_53178_2 : decode cJ7_fill_53178 2 = .ok (.aload_n 0, 1) := by decide +kernel
theorem dJ7_fill_53178_3 : decode cJ7_fill_53178 3 = .ok (.arraylength, 1) := by decide +kernel
theorem dJ7_fill_53178_4 : decode cJ7_fill_53178 4 = .ok (.istore_n 3, 1) := by decide +kernel
theorem dJ7_fill_53178_5 : decode cJ7_fill_53178 5 = .ok (.iload_n 2, 1) := by decide +kernel
theorem dJ7_fill_53178_6 : decode cJ7_fill_53178 6 = .ok (.iload_n 3, 1) := by decide +kernel
theorem dJ7_fill_53178_7 : decode cJ7_fill_53178 7 = .ok (.if_icmp .ge 13, 3) := by decide +kernel
theorem dJ7_fill_53178_10 : decode cJ7_fill_53178 10 = .ok (.aload_n 0, 1) := by decide +kernel
theorem dJ7_fill_53178_11 : decode cJ7_fill_53178 11 = .ok (.iload_n 2, 1) := by decide +kernel
theorem dJ7_fill_53178_12 : decode cJ7_fill_53178 12 = .ok (.iload_n 1, 1) := by decide +kernel
theorem dJ7_fill_53178_13 : decode cJ7_fill_53178 13 = .ok (.iastore, 1) := by decide +kernel
theorem dJ7_fill_53178_14 : decode cJ7_fill_53178 14 = .ok (.iinc 2 1, 3) := by decide +kernel
theorem dJ7_fill_53178_17 : decode cJ7_fill_53178 17 = .ok (.goto (-12), 3) := by decide +kernel
theorem dJ7_fill_53178_20 : decode cJ7_fill_53178 20 = .ok (.return_, 1) := by decide +kernel
theorem dJ3_checkIndex_8e157_0 : decode cJ3_checkIndex_8e157 0 = .ok (.iload_n 0, 1) := by decide +kernel
theorem dJ3_checkIndex_8e157_1 : decode cJ3_checkIndex_8e157 1 = .ok (.ifCond .lt 8, 3) := by decide +kernel
theorem dJ3_checkIndex_8e157_4 : decode cJ3_checkIndex_8e157 4 = .ok (.iload_n 0, 1) := by decide +kernel
theorem dJ3_checkIndex_8e157_5 : decode cJ3_checkIndex_8e157 5 = .ok (.iload_n 1, 1) := by decide +kernel
theorem dJ3_checkIndex_8e157_6 : decode cJ3_checkIndex_8e157 6 = .ok (.if_icmp .lt 10, 3) := by decide +kernel
theorem dJ3_checkIndex_8e157_9 : decode cJ3_checkIndex_8e157 9 = .ok (.aload_n 2, 1) := by decide +kernel
theorem dJ3_checkIndex_8e157_10 : decode cJ3_checkIndex_8e157 10 = .ok (.iload_n 0, 1) := by decide +kernel
theorem dJ3_checkIndex_8e157_11 : decode cJ3_checkIndex_8e157 11 = .ok (.iload_n 1, 1) := by decide +kernel
theorem dJ3_checkIndex_8e157_12 : decode cJ3_checkIndex_8e157 12 = .ok (.invokestatic 95, 3) := by decide +kernel
theorem dJ3_checkIndex_8e157_15 : decode cJ3_checkIndex_8e157 15 = .ok (.athrow, 1) := by decide +kernel
theorem dJ3_checkIndex_8e157_16 : decode cJ3_checkIndex_8e157 16 = .ok (.iload_n 0, 1) := by decide +kernel
theorem dJ3_checkIndex_8e157_17 : decode cJ3_checkIndex_8e157 17 = .ok (.ireturn, 1) := by decide +kernel
theorem dL_law_0 : decode cL_law 0 = .ok (.new 7, 3) := by decide +kernel
theorem dL_law_3 : decode cL_law 3 = .ok (.dup, 1) := by decide +kernel
theorem dL_law_4 : decode cL_law 4 = .ok (.invokespecial 9, 3) := by decide +kernel
theorem dL_law_7 : decode cL_law 7 = .ok (.astore_n 1, 1) := by decide +kernel
theorem dL_law_8 : decode cL_law 8 = .ok (.new 10, 3) := by decide +kernel
theorem dL_law_11 : decode cL_law 11 = .ok (.dup, 1) := by decide +kernel
theorem dL_law_12 : decode cL_law 12 = .ok (.invokespecial 12, 3) := by decide +kernel
theorem dL_law_15 : decode cL_law 15 = .ok (.astore_n 2, 1) := by decide +kernel
theorem dL_law_16 : decode cL_law 16 = .ok (.iconst 0, 1) := by decide +kernel
theorem dL_law_17 : decode cL_law 17 = .ok (.istore_n 3, 1) := by decide +kernel
theorem dL_law_18 : decode cL_law 18 = .ok (.iload_n 3, 1) := by decide +kernel
theorem dL_law_19 : decode cL_law 19 = .ok (.aload_n 0, 1) := by decide +kernel
