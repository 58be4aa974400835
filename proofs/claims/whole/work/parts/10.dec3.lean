theorem dX10_feed_100 : decode cX10_feed 100 = .ok (.goto 27, 3) := by decide +kernel
theorem dX10_feed_103 : decode cX10_feed 103 = .ok (.iload 7, 2) := by decide +kernel
theorem dX10_feed_105 : decode cX10_feed 105 = .ok (.iconst 2, 1) := by decide +kernel
theorem dX10_feed_106 : decode cX10_feed 106 = .ok (.if_icmp .ne 8, 3) := by decide +kernel
theorem dX10_feed_109 : decode cX10_feed 109 = .ok (.iload 4, 2) := by decide +kernel
theorem dX10_feed_111 : decode cX10_feed 111 = .ok (.goto 16, 3) := by decide +kernel
theorem dX10_feed_114 : decode cX10_feed 114 = .ok (.iload 7, 2) := by decide +kernel
theorem dX10_feed_116 : decode cX10_feed 116 = .ok (.iconst 3, 1) := by decide +kernel
theorem dX10_feed_117 : decode cX10_feed 117 = .ok (.if_icmp .ne 8, 3) := by decide +kernel
theorem dX10_feed_120 : decode cX10_feed 120 = .ok (.iload 5, 2) := by decide +kernel
theorem dX10_feed_122 : decode cX10_feed 122 = .ok (.goto 5, 3) := by decide +kernel
theorem dX10_feed_125 : decode cX10_feed 125 = .ok (.iload 6, 2) := by decide +kernel
theorem dX10_feed_127 : decode cX10_feed 127 = .ok (.iastore, 1) := by decide +kernel
theorem dX10_feed_128 : decode cX10_feed 128 = .ok (.iinc 7 1, 3) := by decide +kernel
theorem dX10_feed_131 : decode cX10_feed 131 = .ok (.goto (-64), 3) := by decide +kernel
theorem dX10_feed_134 : decode cX10_feed 134 = .ok (.aload_n 0, 1) := by decide +kernel
theorem dX10_feed_135 : decode cX10_feed 135 = .ok (.dup, 1) := by decide +kernel
theorem dX10_feed_136 : decode cX10_feed 136 = .ok (.getfield 117, 3) := by decide +kernel
theorem dX10_feed_139 : decode cX10_feed 139 = .ok (.iload_n 1, 1) := by decide +kernel
theorem dX10_feed_140 : decode cX10_feed 140 = .ok (.iadd, 1) := by decide +kernel
theorem dX10_feed_141 : decode cX10_feed 141 = .ok (.putfield 117, 3) := by decide +kernel
theorem dX10_feed_144 : decode cX10_feed 144 = .ok (.aload_n 0, 1) := by decide +kernel
theorem dX10_feed_145 : decode cX10_feed 145 = .ok (.getfield 117, 3) := by decide +kernel
theorem dX10_feed_148 : decode cX10_feed 148 = .ok (.ireturn, 1) := by decide +kernel
theorem dX10_byteAt_0 : decode cX10_byteAt 0 = .ok (.iload_n 1, 1) := by decide +kernel
theorem dX10_byteAt_1 : decode cX10_byteAt 1 = .ok (.aload_n 0, 1) := by decide +kernel
theorem dX10_byteAt_2 : decode cX10_byteAt 2 = .ok (.getfield 117, 3) := by decide +kernel
theorem dX10_byteAt_5 : decode cX10_byteAt 5 = .ok (.if_icmp .ge 12, 3) := by decide +kernel
theorem dX10_byteAt_8 : decode cX10_byteAt 8 = .ok (.aload_n 0, 1) := by decide +kernel
theorem dX10_byteAt_9 : decode cX10_byteAt 9 = .ok (.getfield 36, 3) := by decide +kernel
theorem dX10_byteAt_12 : decode cX10_byteAt 12 = .ok (.iload_n 1, 1) := by decide +kernel
theorem dX10_byteAt_13 : decode cX10_byteAt 13 = .ok (.iaload, 1) := by decide +kernel
theorem dX10_byteAt_14 : decode cX10_byteAt 14 = .ok (.goto 4, 3) := by decide +kernel
theorem dX10_byteAt_17 : decode cX10_byteAt 17 = .ok (.iconst (-1), 1) := by decide +kernel
theorem dX10_byteAt_18 : decode cX10_byteAt 18 = .ok (.ireturn, 1) := by decide +kernel
theorem dX10_next_0 : decode cX10_next 0 = .ok (.aload_n 0, 1) := by decide +kernel
theorem dX10_next_1 : decode cX10_next 1 = .ok (.getfield 120, 3) := by decide +kernel
theorem dX10_next_4 : decode cX10_next 4 = .ok (.ifCond .eq 4, 3) := by decide +kernel
theorem dX10_next_7 : decode cX10_next 7 = .ok (.return_, 1) := by decide +kernel
theorem dX10_next_8 : decode cX10_next 8 = .ok (.aload_n 0, 1) := by decide +kernel
theorem dX10_next_9 : decode cX10_next 9 = .ok (.aload_n 0, 1) := by decide +kernel
theorem dX10_next_10 : decode cX10_next 10 = .ok (.getfield 123, 3) := by decide +kernel
theorem dX10_next_13 : decode cX10_next 13 = .ok (.invokevirtual 126, 3) := by decide +kernel
theorem dX10_next_16 : decode cX10_next 16 = .ok (.bipush 32, 2) := by decide +kernel
theorem dX10_next_18 : decode cX10_next 18 = .ok (.if_icmp .eq 16, 3) := by decide +kernel
theorem dX10_next_21 : decode cX10_next 21 = .ok (.aload_n 0, 1) := by decide +kernel
theorem dX10_next_22 : decode cX10_next 22 = .ok (.aload_n 0, 1) := by decide +kernel
theorem dX10_next_23 : decode cX10_next 23 = .ok (.getfield 123, 3) := by decide +kernel
theorem dX10_next_26 : decode cX10_next 26 = .ok (.invokevirtual 126, 3) := by decide +kernel
theorem dX10_next_29 : decode cX10_next 29 = .ok (.bipush 10, 2) := by decide +kernel
theorem dX10_next_31 : decode cX10_next 31 = .ok (.if_icmp .ne 16, 3) := by decide +kernel
theorem dX10_next_34 : decode cX10_next 34 = .ok (.aload_n 0, 1) := by decide +kernel
theorem dX10_next_35 : decode cX10_next 35 = .ok (.dup, 1) := by decide +kernel
theorem dX10_next_36 : decode cX10_next 36 = .ok (.getfield 123, 3) := by decide +kernel
theorem dX10_next_39 : decode cX10_next 39 = .ok (.iconst 1, 1) := by decide +kernel
theorem dX10_next_40 : decode cX10_next 40 = .ok (.iadd, 1) := by decide +kernel
theorem dX10_next_41 : decode cX10_next 41 = .ok (.putfield 123, 3) := by decide +kernel
theorem dX10_next_44 : decode cX10_next 44 = .ok (.goto (-36), 3) := by decide +kernel
theorem dX10_next_47 : decode cX10_next 47 = .ok (.aload_n 0, 1) := by decide +kernel
theorem dX10_next_48 : decode cX10_next 48 = .ok (.aload_n 0, 1) := by decide +kernel
theorem dX10_next_49 : decode cX10_next 49 = .ok (.getfield 123, 3) := by decide +kernel
theorem dX10_next_52 : decode cX10_next 52 = .ok (.putfield 129, 3) := by decide +kernel
theorem dX10_next_55 : decode cX10_next 55 = .ok (.aload_n 0, 1) := by decide +kernel
theorem dX10_next_56 : decode cX10_next 56 = .ok (.aload_n 0, 1) := by decide +kernel
theorem dX10_next_57 : decode cX10_next 57 = .ok (.getfield 123, 3) := by decide +kernel
theorem dX10_next_60 : decode cX10_next 60 = .ok (.invokevirtual 126, 3) := by decide +kernel
theorem dX10_next_63 : decode cX10_next 63 = .ok (.istore_n 1, 1) := by decide +kernel
theorem dX10_next_64 : decode cX10_next 64 = .ok (.iload_n 1, 1) := by decide +kernel
theorem dX10_next_65 : decode cX10_next 65 = .ok (.iconst (-1), 1) := by decide +kernel
theorem dX10_next_66 : decode cX10_next 66 = .ok (.if_icmp .ne 11, 3) := by decide +kernel
theorem dX10_next_69 : decode cX10_next 69 = .ok (.aload_n 0, 1) := by decide +kernel
theorem dX10_next_70 : decode cX10_next 70 = .ok (.iconst 0, 1) := by decide +kernel
theorem dX10_next_71 : decode cX10_next 71 = .ok (.putfield 132, 3) := by decide +kernel
theorem dX10_next_74 : decode cX10_next 74 = .ok (.goto 243, 3) := by decide +kernel
theorem dX10_next_77 : decode cX10_next 77 = .ok (.iload_n 1, 1) := by decide +kernel
theorem dX10_next_78 : decode cX10_next 78 = .ok (.bipush 97, 2) := by decide +kernel
theorem dX10_next_80 : decode cX10_next 80 = .ok (.bipush 122, 2) := by decide +kernel
theorem dX10_next_82 : decode cX10_next 82 = .ok (.invokestatic 84, 3) := by decide +kernel
theorem dX10_next_85 : decode cX10_next 85 = .ok (.ifCond .eq 81, 3) := by decide +kernel
theorem dX10_next_88 : decode cX10_next 88 = .ok (.aload_n 0, 1) := by decide +kernel
theorem dX10_next_89 : decode cX10_next 89 = .ok (.iconst 1, 1) := by decide +kernel
theorem dX10_next_90 : decode cX10_next 90 = .ok (.putfield 132, 3) := by decide +kernel
theorem dX10_next_93 : decode cX10_next 93 = .ok (.aload_n 0, 1) := by decide +kernel
theorem dX10_next_94 : decode cX10_next 94 = .ok (.iload_n 1, 1) := by decide +kernel
theorem dX10_next_95 : decode cX10_next 95 = .ok (.bipush 97, 2) := by decide +kernel
theorem dX10_next_97 : decode cX10_next 97 = .ok (.isub, 1) := by decide +kernel
theorem dX10_next_98 : decode cX10_next 98 = .ok (.putfield 135, 3) := by decide +kernel
theorem dX10_next_101 : decode cX10_next 101 = .ok (.aload_n 0, 1) := by decide +kernel
theorem dX10_next_102 : decode cX10_next 102 = .ok (.aload_n 0, 1) := by decide +kernel
theorem dX10_next_103 : decode cX10_next 103 = .ok (.getfield 123, 3) := by decide +kernel
theorem dX10_next_106 : decode cX10_next 106 = .ok (.invokevirtual 126, 3) := by decide +kernel
theorem dX10_next_109 : decode cX10_next 109 = .ok (.bipush 97, 2) := by decide +kernel
theorem dX10_next_111 : decode cX10_next 111 = .ok (.bipush 122, 2) := by decide +kernel
theorem dX10_next_113 : decode cX10_next 113 = .ok (.invokestatic 84, 3) := by decide +kernel
theorem dX10_next_116 : decode cX10_next 116 = .ok (.ifCond .eq 16, 3) := by decide +kernel
theorem dX10_next_119 : decode cX10_next 119 = .ok (.aload_n 0, 1) := by decide +kernel
theorem dX10_next_120 : decode cX10_next 120 = .ok (.dup, 1) := by decide +kernel
theorem dX10_next_121 : decode cX10_next 121 = .ok (.getfield 123, 3) := by decide +kernel
theorem dX10_next_124 : decode cX10_next 124 = .ok (.iconst 1, 1) := by decide +kernel
theorem dX10_next_125 : decode cX10_next 125 = .ok (.iadd, 1) := by decide +kernel
theorem dX10_next_126 : decode cX10_next 126 = .ok (.putfield 123, 3) := by decide +kernel
theorem dX10_next_129 : decode cX10_next 129 = .ok (.goto (-28), 3) := by decide +kernel
theorem dX10_next_132 : decode cX10_next 132 = .ok (.aload_n 0, 1) := by decide +kernel
theorem dX10_next_133 : decode cX10_next 133 = .ok (.aload_n 0, 1) := by decide +kernel
theorem dX10_next_134 : decode cX10_next 134 = .ok (.getfield 123, 3) := by decide +kernel
theorem dX10_next_137 : decode cX10_next 137 = .ok (.aload_n 0, 1) := by decide +kernel
theorem dX10_next_138 : decode cX10_next 138 = .ok (.getfield 129, 3) := by decide +kernel
theorem dX10_next_141 : decode cX10_next 141 = .ok (.isub, 1) := by decide +kernel
theorem dX10_next_142 : decode cX10_next 142 = .ok (.iconst 1, 1) := by decide +kernel
theorem dX10_next_143 : decode cX10_next 143 = .ok (.if_icmp .gt 12, 3) := by decide +kernel
theorem dX10_next_146 : decode cX10_next 146 = .ok (.aload_n 0, 1) := by decide +kernel
theorem dX10_next_147 : decode cX10_next 147 = .ok (.getfield 135, 3) := by decide +kernel
theorem dX10_next_150 : decode cX10_next 150 = .ok (.bipush 8, 2) := by decide +kernel
theorem dX10_next_152 : decode cX10_next 152 = .ok (.if_icmp .lt 7, 3) := by decide +kernel
theorem dX10_next_155 : decode cX10_next 155 = .ok (.iconst 1, 1) := by decide +kernel
theorem dX10_next_156 : decode cX10_next 156 = .ok (.goto 4, 3) := by decide +kernel
theorem dX10_next_159 : decode cX10_next 159 = .ok (.iconst 0, 1) := by decide +kernel
theorem dX10_next_160 : decode cX10_next 160 = .ok (.putfield 120, 3) := by decide +kernel
theorem dX10_next_163 : decode cX10_next 163 = .ok (.goto 154, 3) := by decide +kernel
theorem dX10_next_166 : decode cX10_next 166 = .ok (.iload_n 1, 1) := by decide +kernel
theorem dX10_next_167 : decode cX10_next 167 = .ok (.bipush 48, 2) := by decide +kernel
theorem dX10_next_169 : decode cX10_next 169 = .ok (.bipush 57, 2) := by decide +kernel
theorem dX10_next_171 : decode cX10_next 171 = .ok (.invokestatic 84, 3) := by decide +kernel
theorem dX10_next_174 : decode cX10_next 174 = .ok (.ifCond .eq 105, 3) := by decide +kernel
theorem dX10_next_177 : decode cX10_next 177 = .ok (.aload_n 0, 1) := by decide +kernel
theorem dX10_next_178 : decode cX10_next 178 = .ok (.iconst 2, 1) := by decide +kernel
theorem dX10_next_179 : decode cX10_next 179 = .ok (.putfield 132, 3) := by decide +kernel
theorem dX10_next_182 : decode cX10_next 182 = .ok (.aload_n 0, 1) := by decide +kernel
theorem dX10_next_183 : decode cX10_next 183 = .ok (.iconst 0, 1) := by decide +kernel
theorem dX10_next_184 : decode cX10_next 184 = .ok (.putfield 135, 3) := by decide +kernel
theorem dX10_next_187 : decode cX10_next 187 = .ok (.aload_n 0, 1) := by decide +kernel
theorem dX10_next_188 : decode cX10_next 188 = .ok (.aload_n 0, 1) := by decide +kernel
theorem dX10_next_189 : decode cX10_next 189 = .ok (.getfield 123, 3) := by decide +kernel
theorem dX10_next_192 : decode cX10_next 192 = .ok (.invokevirtual 126, 3) := by decide +kernel
theorem dX10_next_195 : decode cX10_next 195 = .ok (.bipush 48, 2) := by decide +kernel
theorem dX10_next_197 : decode cX10_next 197 = .ok (.bipush 57, 2) := by decide +kernel
theorem dX10_next_199 : decode cX10_next 199 = .ok (.invokestatic 84, 3) := by decide +kernel
theorem dX10_next_202 : decode cX10_next 202 = .ok (.ifCond .eq 52, 3) := by decide +kernel
theorem dX10_next_205 : decode cX10_next 205 = .ok (.aload_n 0, 1) := by decide +kernel
theorem dX10_next_206 : decode cX10_next 206 = .ok (.getfield 123, 3) := by decide +kernel
theorem dX10_next_209 : decode cX10_next 209 = .ok (.aload_n 0, 1) := by decide +kernel
theorem dX10_next_210 : decode cX10_next 210 = .ok (.getfield 129, 3) := by decide +kernel
theorem dX10_next_213 : decode cX10_next 213 = .ok (.isub, 1) := by decide +kernel
theorem dX10_next_214 : decode cX10_next 214 = .ok (.iconst 4, 1) := by decide +kernel
theorem dX10_next_215 : decode cX10_next 215 = .ok (.if_icmp .ge 26, 3) := by decide +kernel
theorem dX10_next_218 : decode cX10_next 218 = .ok (.aload_n 0, 1) := by decide +kernel
theorem dX10_next_219 : decode cX10_next 219 = .ok (.bipush 10, 2) := by decide +kernel
theorem dX10_next_221 : decode cX10_next 221 = .ok (.aload_n 0, 1) := by decide +kernel
theorem dX10_next_222 : decode cX10_next 222 = .ok (.getfield 135, 3) := by decide +kernel
theorem dX10_next_225 : decode cX10_next 225 = .ok (.imul, 1) := by decide +kernel
theorem dX10_next_226 : decode cX10_next 226 = .ok (.aload_n 0, 1) := by decide +kernel
theorem dX10_next_227 : decode cX10_next 227 = .ok (.aload_n 0, 1) := by decide +kernel
theorem dX10_next_228 : decode cX10_next 228 = .ok (.getfield 123, 3) := by decide +kernel
theorem dX10_next_231 : decode cX10_next 231 = .ok (.invokevirtual 126, 3) := by decide +kernel
theorem dX10_next_234 : decode cX10_next 234 = .ok (.iadd, 1) := by decide +kernel
theorem dX10_next_235 : decode cX10_next 235 = .ok (.bipush 48, 2) := by decide +kernel
theorem dX10_next_237 : decode cX10_next 237 = .ok (.isub, 1) := by decide +kernel
theorem dX10_next_238 : decode cX10_next 238 = .ok (.putfield 135, 3) := by decide +kernel
theorem dX10_next_241 : decode cX10_next 241 = .ok (.aload_n 0, 1) := by decide +kernel
theorem dX10_next_242 : decode cX10_next 242 = .ok (.dup, 1) := by decide +kernel
theorem dX10_next_243 : decode cX10_next 243 = .ok (.getfield 123, 3) := by decide +kernel
theorem dX10_next_246 : decode cX10_next 246 = .ok (.iconst 1, 1) := by decide +kernel
theorem dX10_next_247 : decode cX10_next 247 = .ok (.iadd, 1) := by decide +kernel
theorem dX10_next_248 : decode cX10_next 248 = .ok (.putfield 123, 3) := by decide +kernel
theorem dX10_next_251 : decode cX10_next 251 = .ok (.goto (-64), 3) := by decide +kernel
theorem dX10_next_254 : decode cX10_next 254 = .ok (.aload_n 0, 1) := by decide +kernel
theorem dX10_next_255 : decode cX10_next 255 = .ok (.aload_n 0, 1) := by decide +kernel
theorem dX10_next_256 : decode cX10_next 256 = .ok (.getfield 123, 3) := by decide +kernel
theorem dX10_next_259 : decode cX10_next 259 = .ok (.aload_n 0, 1) := by decide +kernel
theorem dX10_next_260 : decode cX10_next 260 = .ok (.getfield 129, 3) := by decide +kernel
theorem dX10_next_263 : decode cX10_next 263 = .ok (.isub, 1) := by decide +kernel
theorem dX10_next_264 : decode cX10_next 264 = .ok (.iconst 4, 1) := by decide +kernel
theorem dX10_next_265 : decode cX10_next 265 = .ok (.if_icmp .le 7, 3) := by decide +kernel
theorem dX10_next_268 : decode cX10_next 268 = .ok (.iconst 1, 1) := by decide +kernel
theorem dX10_next_269 : decode cX10_next 269 = .ok (.goto 4, 3) := by decide +kernel
theorem dX10_next_272 : decode cX10_next 272 = .ok (.iconst 0, 1) := by decide +kernel
theorem dX10_next_273 : decode cX10_next 273 = .ok (.putfield 120, 3) := by decide +kernel
theorem dX10_next_276 : decode cX10_next 276 = .ok (.goto 41, 3) := by decide +kernel
theorem dX10_next_279 : decode cX10_next 279 = .ok (.aload_n 0, 1) := by decide +kernel
theorem dX10_next_280 : decode cX10_next 280 = .ok (.iconst 3, 1) := by decide +kernel
theorem dX10_next_281 : decode cX10_next 281 = .ok (.putfield 132, 3) := by decide +kernel
theorem dX10_next_284 : decode cX10_next 284 = .ok (.aload_n 0, 1) := by decide +kernel
theorem dX10_next_285 : decode cX10_next 285 = .ok (.iload_n 1, 1) := by decide +kernel
theorem dX10_next_286 : decode cX10_next 286 = .ok (.putfield 135, 3) := by decide +kernel
theorem dX10_next_289 : decode cX10_next 289 = .ok (.aload_n 0, 1) := by decide +kernel
theorem dX10_next_290 : decode cX10_next 290 = .ok (.dup, 1) := by decide +kernel
theorem dX10_next_291 : decode cX10_next 291 = .ok (.getfield 123, 3) := by decide +kernel
theorem dX10_next_294 : decode cX10_next 294 = .ok (.iconst 1, 1) := by decide +kernel
theorem dX10_next_295 : decode cX10_next 295 = .ok (.iadd, 1) := by decide +kernel
theorem dX10_next_296 : decode cX10_next 296 = .ok (.putfield 123, 3) := by decide +kernel
theorem dX10_next_299 : decode cX10_next 299 = .ok (.aload_n 0, 1) := by decide +kernel
theorem dX10_next_300 : decode cX10_next 300 = .ok (.ldc 138, 2) := by decide +kernel
theorem dX10_next_302 : decode cX10_next 302 = .ok (.iload_n 1, 1) := by decide +kernel
theorem dX10_next_303 : decode cX10_next 303 = .ok (.invokevirtual 140, 3) := by decide +kernel
theorem dX10_next_306 : decode cX10_next 306 = .ok (.ifCond .ge 7, 3) := by decide +kernel
theorem dX10_next_309 : decode cX10_next 309 = .ok (.iconst 1, 1) := by decide +kernel
theorem dX10_next_310 : decode cX10_next 310 = .ok (.goto 4, 3) := by decide +kernel
theorem dX10_next_313 : decode cX10_next 313 = .ok (.iconst 0, 1) := by decide +kernel
theorem dX10_next_314 : decode cX10_next 314 = .ok (.putfield 120, 3) := by decide +kernel
theorem dX10_next_317 : decode cX10_next 317 = .ok (.return_, 1) := by decide +kernel
theorem dX10_isSign_0 : decode cX10_isSign 0 = .ok (.aload_n 0, 1) := by decide +kernel
theorem dX10_isSign_1 : decode cX10_isSign 1 = .ok (.getfield 120, 3) := by decide +kernel
theorem dX10_isSign_4 : decode cX10_isSign 4 = .ok (.ifCond .ne 23, 3) := by decide +kernel
theorem dX10_isSign_7 : decode cX10_isSign 7 = .ok (.aload_n 0, 1) := by decide +kernel
theorem dX10_isSign_8 : decode cX10_isSign 8 = .ok (.getfield 132, 3) := by decide +kernel
theorem dX10_isSign_11 : decode cX10_isSign 11 = .ok (.iconst 3, 1) := by decide +kernel
theorem dX10_isSign_12 : decode cX10_isSign 12 = .ok (.if_icmp .ne 15, 3) := by decide +kernel
theorem dX10_isSign_15 : decode cX10_isSign 15 = .ok (.aload_n 0, 1) := by decide +kernel
theorem dX10_isSign_16 : decode cX10_isSign 16 = .ok (.getfield 135, 3) := by decide +kernel
theorem dX10_isSign_19 : decode cX10_isSign 19 = .ok (.iload_n 1, 1) := by decide +kernel
theorem dX10_isSign_20 : decode cX10_isSign 20 = .ok (.if_icmp .ne 7, 3) := by decide +kernel
theorem dX10_isSign_23 : decode cX10_isSign 23 = .ok (.iconst 1, 1) := by decide +kernel
theorem dX10_isSign_24 : decode cX10_isSign 24 = .ok (.goto 4, 3) := by decide +kernel
theorem dX10_isSign_27 : decode cX10_isSign 27 = .ok (.iconst 0, 1) := by decide +kernel
theorem dX10_isSign_28 : decode cX10_isSign 28 = .ok (.ireturn, 1) := by decide +kernel
theorem dX10_need_0 : decode cX10_need 0 = .ok (.aload_n 0, 1) := by decide +kernel
theorem dX10_need_1 : decode cX10_need 1 = .ok (.iload_n 1, 1) := by decide +kernel
theorem dX10_need_2 : decode cX10_need 2 = .ok (.invokevirtual 145, 3) := by decide +kernel
theorem dX10_need_5 : decode cX10_need 5 = .ok (.ifCond .eq 10, 3) := by decide +kernel
theorem dX10_need_8 : decode cX10_need 8 = .ok (.aload_n 0, 1) := by decide +kernel
theorem dX10_need_9 : decode cX10_need 9 = .ok (.invokevirtual 148, 3) := by decide +kernel
theorem dX10_need_12 : decode cX10_need 12 = .ok (.goto 8, 3) := by decide +kernel
theorem dX10_need_15 : decode cX10_need 15 = .ok (.aload_n 0, 1) := by decide +kernel
theorem dX10_need_16 : decode cX10_need 16 = .ok (.iconst 1, 1) := by decide +kernel
theorem dX10_need_17 : decode cX10_need 17 = .ok (.putfield 120, 3) := by decide +kernel
theorem dX10_need_20 : decode cX10_need 20 = .ok (.return_, 1) := by decide +kernel
theorem dX10_choice_0 : decode cX10_choice 0 = .ok (.aload_n 0, 1) := by decide +kernel
theorem dX10_choice_1 : decode cX10_choice 1 = .ok (.getfield 90, 3) := by decide +kernel
theorem dX10_choice_4 : decode cX10_choice 4 = .ok (.istore_n 1, 1) := by decide +kernel
theorem dX10_choice_5 : decode cX10_choice 5 = .ok (.aload_n 0, 1) := by decide +kernel
theorem dX10_choice_6 : decode cX10_choice 6 = .ok (.invokevirtual 151, 3) := by decide +kernel
theorem dX10_choice_9 : decode cX10_choice 9 = .ok (.aload_n 0, 1) := by decide +kernel
theorem dX10_choice_10 : decode cX10_choice 10 = .ok (.bipush 63, 2) := by decide +kernel
theorem dX10_choice_12 : decode cX10_choice 12 = .ok (.invokevirtual 145, 3) := by decide +kernel
theorem dX10_choice_15 : decode cX10_choice 15 = .ok (.ifCond .ne 4, 3) := by decide +kernel
theorem dX10_choice_18 : decode cX10_choice 18 = .ok (.return_, 1) := by decide +kernel
theorem dX10_choice_19 : decode cX10_choice 19 = .ok (.aload_n 0, 1) := by decide +kernel
theorem dX10_choice_20 : decode cX10_choice 20 = .ok (.iload_n 1, 1) := by decide +kernel
theorem dX10_choice_21 : decode cX10_choice 21 = .ok (.bipush 6, 2) := by decide +kernel
theorem dX10_choice_23 : decode cX10_choice 23 = .ok (.lconst 0, 1) := by decide +kernel
theorem dX10_choice_24 : decode cX10_choice 24 = .ok (.invokevirtual 154, 3) := by decide +kernel
theorem dX10_choice_27 : decode cX10_choice 27 = .ok (.aload_n 0, 1) := by decide +kernel
theorem dX10_choice_28 : decode cX10_choice 28 = .ok (.invokevirtual 148, 3) := by decide +kernel
theorem dX10_choice_31 : decode cX10_choice 31 = .ok (.aload_n 0, 1) := by decide +kernel
theorem dX10_choice_32 : decode cX10_choice 32 = .ok (.invokevirtual 151, 3) := by decide +kernel
theorem dX10_choice_35 : decode cX10_choice 35 = .ok (.aload_n 0, 1) := by decide +kernel
theorem dX10_choice_36 : decode cX10_choice 36 = .ok (.bipush 58, 2) := by decide +kernel
theorem dX10_choice_38 : decode cX10_choice 38 = .ok (.invokevirtual 158, 3) := by decide +kernel
theorem dX10_choice_41 : decode cX10_choice 41 = .ok (.aload_n 0, 1) := by decide +kernel
theorem dX10_choice_42 : decode cX10_choice 42 = .ok (.invokevirtual 151, 3) := by decide +kernel
theorem dX10_choice_45 : decode cX10_choice 45 = .ok (.return_, 1) := by decide +kernel
theorem dX10_sum_0 : decode cX10_sum 0 = .ok (.aload_n 0, 1) := by decide +kernel
theorem dX10_sum_1 : decode cX10_sum 1 = .ok (.getfield 90, 3) := by decide +kernel
theorem dX10_sum_4 : decode cX10_sum 4 = .ok (.istore_n 1, 1) := by decide +kernel
theorem dX10_sum_5 : decode cX10_sum 5 = .ok (.aload_n 0, 1) := by decide +kernel
theorem dX10_sum_6 : decode cX10_sum 6 = .ok (.invokevirtual 162, 3) := by decide +kernel
theorem dX10_sum_9 : decode cX10_sum 9 = .ok (.aload_n 0, 1) := by decide +kernel
theorem dX10_sum_10 : decode cX10_sum 10 = .ok (.bipush 43, 2) := by decide +kernel
theorem dX10_sum_12 : decode cX10_sum 12 = .ok (.invokevirtual 145, 3) := by decide +kernel
theorem dX10_sum_15 : decode cX10_sum 15 = .ok (.ifCond .ne 12, 3) := by decide +kernel
theorem dX10_sum_18 : decode cX10_sum 18 = .ok (.aload_n 0, 1) := by decide +kernel
theorem dX10_sum_19 : decode cX10_sum 19 = .ok (.bipush 45, 2) := by decide +kernel
theorem dX10_sum_21 : decode cX10_sum 21 = .ok (.invokevirtual 145, 3) := by decide +kernel
theorem dX10_sum_24 : decode cX10_sum 24 = .ok (.ifCond .eq 38, 3) := by decide +kernel
theorem dX10_sum_27 : decode cX10_sum 27 = .ok (.aload_n 0, 1) := by decide +kernel
theorem dX10_sum_28 : decode cX10_sum 28 = .ok (.bipush 45, 2) := by decide +kernel
theorem dX10_sum_30 : decode cX10_sum 30 = .ok (.invokevirtual 145, 3) := by decide +kernel
theorem dX10_sum_33 : decode cX10_sum 33 = .ok (.istore_n 2, 1) := by decide +kernel
theorem dX10_sum_34 : decode cX10_sum 34 = .ok (.aload_n 0, 1) := by decide +kernel
theorem dX10_sum_35 : decode cX10_sum 35 = .ok (.iload_n 1, 1) := by decide +kernel
theorem dX10_sum_36 : decode cX10_sum 36 = .ok (.iconst 3, 1) := by decide +kernel
theorem dX10_sum_37 : decode cX10_sum 37 = .ok (.lconst 0, 1) := by decide +kernel
theorem dX10_sum_38 : decode cX10_sum 38 = .ok (.invokevirtual 154, 3) := by decide +kernel
theorem dX10_sum_41 : decode cX10_sum 41 = .ok (.iload_n 2, 1) := by decide +kernel
theorem dX10_sum_42 : decode cX10_sum 42 = .ok (.ifCond .eq 9, 3) := by decide +kernel
theorem dX10_sum_45 : decode cX10_sum 45 = .ok (.aload_n 0, 1) := by decide +kernel
theorem dX10_sum_46 : decode cX10_sum 46 = .ok (.iconst 2, 1) := by decide +kernel
theorem dX10_sum_47 : decode cX10_sum 47 = .ok (.lconst 0, 1) := by decide +kernel
theorem dX10_sum_48 : decode cX10_sum 48 = .ok (.invokevirtual 102, 3) := by decide +kernel
theorem dX10_sum_51 : decode cX10_sum 51 = .ok (.aload_n 0, 1) := by decide +kernel
theorem dX10_sum_52 : decode cX10_sum 52 = .ok (.invokevirtual 148, 3) := by decide +kernel
theorem dX10_sum_55 : decode cX10_sum 55 = .ok (.aload_n 0, 1) := by decide +kernel
theorem dX10_sum_56 : decode cX10_sum 56 = .ok (.invokevirtual 162, 3) := by decide +kernel
theorem dX10_sum_59 : decode cX10_sum 59 = .ok (.goto (-50), 3) := by decide +kernel
theorem dX10_sum_62 : decode cX10_sum 62 = .ok (.return_, 1) := by decide +kernel
theorem dX10_term_0 : decode cX10_term 0 = .ok (.aload_n 0, 1) := by decide +kernel
theorem dX10_term_1 : decode cX10_term 1 = .ok (.getfield 90, 3) := by decide +kernel
theorem dX10_term_4 : decode cX10_term 4 = .ok (.istore_n 1, 1) := by decide +kernel
theorem dX10_term_5 : decode cX10_term 5 = .ok (.aload_n 0, 1) := by decide +kernel
theorem dX10_term_6 : decode cX10_term 6 = .ok (.invokevirtual 165, 3) := by decide +kernel
theorem dX10_term_9 : decode cX10_term 9 = .ok (.aload_n 0, 1) := by decide +kernel
theorem dX10_term_10 : decode cX10_term 10 = .ok (.bipush 42, 2) := by decide +kernel
theorem dX10_term_12 : decode cX10_term 12 = .ok (.invokevirtual 145, 3) := by decide +kernel
theorem dX10_term_15 : decode cX10_term 15 = .ok (.ifCond .eq 21, 3) := by decide +kernel
theorem dX10_term_18 : decode cX10_term 18 = .ok (.aload_n 0, 1) := by decide +kernel
theorem dX10_term_19 : decode cX10_term 19 = .ok (.iload_n 1, 1) := by decide +kernel
theorem dX10_term_20 : decode cX10_term 20 = .ok (.iconst 4, 1) := by decide +kernel
theorem dX10_term_21 : decode cX10_term 21 = .ok (.lconst 0, 1) := by decide +kernel
theorem dX10_term_22 : decode cX10_term 22 = .ok (.invokevirtual 154, 3) := by decide +kernel
theorem dX10_term_25 : decode cX10_term 25 = .ok (.aload_n 0, 1) := by decide +kernel
theorem dX10_term_26 : decode cX10_term 26 = .ok (.invokevirtual 148, 3) := by decide +kernel
theorem dX10_term_29 : decode cX10_term 29 = .ok (.aload_n 0, 1) := by decide +kernel
theorem dX10_term_30 : decode cX10_term 30 = .ok (.invokevirtual 165, 3) := by decide +kernel
theorem dX10_term_33 : decode cX10_term 33 = .ok (.goto (-24), 3) := by decide +kernel
theorem dX10_term_36 : decode cX10_term 36 = .ok (.return_, 1) := by decide +kernel
theorem dX10_pow_0 : decode cX10_pow 0 = .ok (.aload_n 0, 1) := by decide +kernel
theorem dX10_pow_1 : decode cX10_pow 1 = .ok (.getfield 90, 3) := by decide +kernel
theorem dX10_pow_4 : decode cX10_pow 4 = .ok (.istore_n 1, 1) := by decide +kernel
theorem dX10_pow_5 : decode cX10_pow 5 = .ok (.aload_n 0, 1) := by decide +kernel
theorem dX10_pow_6 : decode cX10_pow 6 = .ok (.invokevirtual 168, 3) := by decide +kernel
theorem dX10_pow_9 : decode cX10_pow 9 = .ok (.aload_n 0, 1) := by decide +kernel
theorem dX10_pow_10 : decode cX10_pow 10 = .ok (.bipush 94, 2) := by decide +kernel
theorem dX10_pow_12 : decode cX10_pow 12 = .ok (.invokevirtual 145, 3) := by decide +kernel
theorem dX10_pow_15 : decode cX10_pow 15 = .ok (.ifCond .eq 55, 3) := by decide +kernel
theorem dX10_pow_18 : decode cX10_pow 18 = .ok (.aload_n 0, 1) := by decide +kernel
theorem dX10_pow_19 : decode cX10_pow 19 = .ok (.invokevirtual 148, 3) := by decide +kernel
theorem dX10_pow_22 : decode cX10_pow 22 = .ok (.aload_n 0, 1) := by decide +kernel
theorem dX10_pow_23 : decode cX10_pow 23 = .ok (.getfield 120, 3) := by decide +kernel
theorem dX10_pow_26 : decode cX10_pow 26 = .ok (.ifCond .ne 20, 3) := by decide +kernel
theorem dX10_pow_29 : decode cX10_pow 29 = .ok (.aload_n 0, 1) := by decide +kernel
theorem dX10_pow_30 : decode cX10_pow 30 = .ok (.getfield 132, 3) := by decide +kernel
theorem dX10_pow_33 : decode cX10_pow 33 = .ok (.iconst 2, 1) := by decide +kernel
theorem dX10_pow_34 : decode cX10_pow 34 = .ok (.if_icmp .ne 12, 3) := by decide +kernel
theorem dX10_pow_37 : decode cX10_pow 37 = .ok (.aload_n 0, 1) := by decide +kernel
theorem dX10_pow_38 : decode cX10_pow 38 = .ok (.getfield 135, 3) := by decide +kernel
theorem dX10_pow_41 : decode cX10_pow 41 = .ok (.bipush 9, 2) := by decide +kernel
theorem dX10_pow_43 : decode cX10_pow 43 = .ok (.if_icmp .le 9, 3) := by decide +kernel
theorem dX10_pow_46 : decode cX10_pow 46 = .ok (.aload_n 0, 1) := by decide +kernel
theorem dX10_pow_47 : decode cX10_pow 47 = .ok (.iconst 1, 1) := by decide +kernel
theorem dX10_pow_48 : decode cX10_pow 48 = .ok (.putfield 120, 3) := by decide +kernel
theorem dX10_pow_51 : decode cX10_pow 51 = .ok (.return_, 1) := by decide +kernel
theorem dX10_pow_52 : decode cX10_pow 52 = .ok (.aload_n 0, 1) := by decide +kernel
theorem dX10_pow_53 : decode cX10_pow 53 = .ok (.iload_n 1, 1) := by decide +kernel
theorem dX10_pow_54 : decode cX10_pow 54 = .ok (.iconst 5, 1) := by decide +kernel
theorem dX10_pow_55 : decode cX10_pow 55 = .ok (.aload_n 0, 1) := by decide +kernel
theorem dX10_pow_56 : decode cX10_pow 56 = .ok (.getfield 135, 3) := by decide +kernel
theorem dX10_pow_59 : decode cX10_pow 59 = .ok (.i2l, 1) := by decide +kernel
theorem dX10_pow_60 : decode cX10_pow 60 = .ok (.invokevirtual 154, 3) := by decide +kernel
theorem dX10_pow_63 : decode cX10_pow 63 = .ok (.aload_n 0, 1) := by decide +kernel
theorem dX10_pow_64 : decode cX10_pow 64 = .ok (.invokevirtual 148, 3) := by decide +kernel
theorem dX10_pow_67 : decode cX10_pow 67 = .ok (.goto (-58), 3) := by decide +kernel
theorem dX10_pow_70 : decode cX10_pow 70 = .ok (.return_, 1) := by decide +kernel
theorem dX10_opens_0 : decode cX10_opens 0 = .ok (.aload_n 0, 1) := by decide +kernel
theorem dX10_opens_1 : decode cX10_opens 1 = .ok (.getfield 171, 3) := by decide +kernel
theorem dX10_opens_4 : decode cX10_opens 4 = .ok (.iconst 5, 1) := by decide +kernel
theorem dX10_opens_5 : decode cX10_opens 5 = .ok (.if_icmp .ne 8, 3) := by decide +kernel
theorem dX10_opens_8 : decode cX10_opens 8 = .ok (.aload_n 0, 1) := by decide +kernel
theorem dX10_opens_9 : decode cX10_opens 9 = .ok (.iconst 1, 1) := by decide +kernel
theorem dX10_opens_10 : decode cX10_opens 10 = .ok (.putfield 120, 3) := by decide +kernel
theorem dX10_opens_13 : decode cX10_opens 13 = .ok (.aload_n 0, 1) := by decide +kernel
theorem dX10_opens_14 : decode cX10_opens 14 = .ok (.getfield 120, 3) := by decide +kernel
theorem dX10_opens_17 : decode cX10_opens 17 = .ok (.ifCond .eq 5, 3) := by decide +kernel
theorem dX10_opens_20 : decode cX10_opens 20 = .ok (.iconst 0, 1) := by decide +kernel
theorem dX10_opens_21 : decode cX10_opens 21 = .ok (.ireturn, 1) := by decide +kernel
theorem dX10_opens_22 : decode cX10_opens 22 = .ok (.aload_n 0, 1) := by decide +kernel
theorem dX10_opens_23 : decode cX10_opens 23 = .ok (.dup, 1) := by decide +kernel
theorem dX10_opens_24 : decode cX10_opens 24 = .ok (.getfield 171, 3) := by decide +kernel
theorem dX10_opens_27 : decode cX10_opens 27 = .ok (.iconst 1, 1) := by decide +kernel
theorem dX10_opens_28 : decode cX10_opens 28 = .ok (.iadd, 1) := by decide +kernel
theorem dX10_opens_29 : decode cX10_opens 29 = .ok (.putfield 171, 3) := by decide +kernel
theorem dX10_opens_32 : decode cX10_opens 32 = .ok (.aload_n 0, 1) := by decide +kernel
theorem dX10_opens_33 : decode cX10_opens 33 = .ok (.invokevirtual 148, 3) := by decide +kernel
theorem dX10_opens_36 : decode cX10_opens 36 = .ok (.iconst 1, 1) := by decide +kernel
theorem dX10_opens_37 : decode cX10_opens 37 = .ok (.ireturn, 1) := by decide +kernel
theorem dX10_one_0 : decode cX10_one 0 = .ok (.aload_n 0, 1) := by decide +kernel
theorem dX10_one_1 : decode cX10_one 1 = .ok (.getfield 120, 3) := by decide +kernel
theorem dX10_one_4 : decode cX10_one 4 = .ok (.ifCond .eq 4, 3) := by decide +kernel
theorem dX10_one_7 : decode cX10_one 7 = .ok (.return_, 1) := by decide +kernel
theorem dX10_one_8 : decode cX10_one 8 = .ok (.aload_n 0, 1) := by decide +kernel
theorem dX10_one_9 : decode cX10_one 9 = .ok (.getfield 132, 3) := by decide +kernel
theorem dX10_one_12 : decode cX10_one 12 = .ok (.iconst 1, 1) := by decide +kernel
theorem dX10_one_13 : decode cX10_one 13 = .ok (.if_icmp .eq 11, 3) := by decide +kernel
theorem dX10_one_16 : decode cX10_one 16 = .ok (.aload_n 0, 1) := by decide +kernel
theorem dX10_one_17 : decode cX10_one 17 = .ok (.getfield 132, 3) := by decide +kernel
theorem dX10_one_20 : decode cX10_one 20 = .ok (.iconst 2, 1) := by decide +kernel
theorem dX10_one_21 : decode cX10_one 21 = .ok (.if_icmp .ne 30, 3) := by decide +kernel
theorem dX10_one_24 : decode cX10_one 24 = .ok (.aload_n 0, 1) := by decide +kernel
theorem dX10_one_25 : decode cX10_one 25 = .ok (.aload_n 0, 1) := by decide +kernel
theorem dX10_one_26 : decode cX10_one 26 = .ok (.getfield 132, 3) := by decide +kernel
theorem dX10_one_29 : decode cX10_one 29 = .ok (.iconst 1, 1) := by decide +kernel
theorem dX10_one_30 : decode cX10_one 30 = .ok (.if_icmp .ne 7, 3) := by decide +kernel
theorem dX10_one_33 : decode cX10_one 33 = .ok (.iconst 1, 1) := by decide +kernel
theorem dX10_one_34 : decode cX10_one 34 = .ok (.goto 4, 3) := by decide +kernel
theorem dX10_one_37 : decode cX10_one 37 = .ok (.iconst 0, 1) := by decide +kernel
theorem dX10_one_38 : decode cX10_one 38 = .ok (.aload_n 0, 1) := by decide +kernel
theorem dX10_one_39 : decode cX10_one 39 = .ok (.getfield 135, 3) := by decide +kernel
theorem dX10_one_42 : decode cX10_one 42 = .ok (.i2l, 1) := by decide +kernel
theorem dX10_one_43 : decode cX10_one 43 = .ok (.invokevirtual 102, 3) := by decide +kernel
theorem dX10_one_46 : decode cX10_one 46 = .ok (.aload_n 0, 1) := by decide +kernel
theorem dX10_one_47 : decode cX10_one 47 = .ok (.invokevirtual 148, 3) := by decide +kernel
theorem dX10_one_50 : decode cX10_one 50 = .ok (.return_, 1) := by decide +kernel
theorem dX10_one_51 : decode cX10_one 51 = .ok (.aload_n 0, 1) := by decide +kernel
theorem dX10_one_52 : decode cX10_one 52 = .ok (.bipush 45, 2) := by decide +kernel
theorem dX10_one_54 : decode cX10_one 54 = .ok (.invokevirtual 145, 3) := by decide +kernel
theorem dX10_one_57 : decode cX10_one 57 = .ok (.ifCond .ne 27, 3) := by decide +kernel
theorem dX10_one_60 : decode cX10_one 60 = .ok (.aload_n 0, 1) := by decide +kernel
theorem dX10_one_61 : decode cX10_one 61 = .ok (.bipush 40, 2) := by decide +kernel
theorem dX10_one_63 : decode cX10_one 63 = .ok (.invokevirtual 145, 3) := by decide +kernel
theorem dX10_one_66 : decode cX10_one 66 = .ok (.ifCond .ne 18, 3) := by decide +kernel
theorem dX10_one_69 : decode cX10_one 69 = .ok (.aload_n 0, 1) := by decide +kernel
theorem dX10_one_70 : decode cX10_one 70 = .ok (.bipush 91, 2) := by decide +kernel
theorem dX10_one_72 : decode cX10_one 72 = .ok (.invokevirtual 145, 3) := by decide +kernel
theorem dX10_one_75 : decode cX10_one 75 = .ok (.ifCond .ne 9, 3) := by decide +kernel
theorem dX10_one_78 : decode cX10_one 78 = .ok (.aload_n 0, 1) := by decide +kernel
theorem dX10_one_79 : decode cX10_one 79 = .ok (.iconst 1, 1) := by decide +kernel
theorem dX10_one_80 : decode cX10_one 80 = .ok (.putfield 120, 3) := by decide +kernel
theorem dX10_one_83 : decode cX10_one 83 = .ok (.return_, 1) := by decide +kernel
theorem dX10_one_84 : decode cX10_one 84 = .ok (.aload_n 0, 1) := by decide +kernel
theorem dX10_one_85 : decode cX10_one 85 = .ok (.getfield 135, 3) := by decide +kernel
theorem dX10_one_88 : decode cX10_one 88 = .ok (.istore_n 1, 1) := by decide +kernel
theorem dX10_one_89 : decode cX10_one 89 = .ok (.aload_n 0, 1) := by decide +kernel
theorem dX10_one_90 : decode cX10_one 90 = .ok (.invokevirtual 174, 3) := by decide +kernel
theorem dX10_one_93 : decode cX10_one 93 = .ok (.ifCond .ne 4, 3) := by decide +kernel
theorem dX10_one_96 : decode cX10_one 96 = .ok (.return_, 1) := by decide +kernel
theorem dX10_one_97 : decode cX10_one 97 = .ok (.iload_n 1, 1) := by decide +kernel
theorem dX10_one_98 : decode cX10_one 98 = .ok (.bipush 45, 2) := by decide +kernel
theorem dX10_one_100 : decode cX10_one 100 = .ok (.if_icmp .ne 24, 3) := by decide +kernel
theorem dX10_one_103 : decode cX10_one 103 = .ok (.aload_n 0, 1) := by decide +kernel
theorem dX10_one_104 : decode cX10_one 104 = .ok (.iconst 2, 1) := by decide +kernel
theorem dX10_one_105 : decode cX10_one 105 = .ok (.lconst 0, 1) := by decide +kernel
theorem dX10_one_106 : decode cX10_one 106 = .ok (.invokevirtual 102, 3) := by decide +kernel
theorem dX10_one_109 : decode cX10_one 109 = .ok (.aload_n 0, 1) := by decide +kernel
theorem dX10_one_110 : decode cX10_one 110 = .ok (.invokevirtual 168, 3) := by decide +kernel
theorem dX10_one_113 : decode cX10_one 113 = .ok (.aload_n 0, 1) := by decide +kernel
theorem dX10_one_114 : decode cX10_one 114 = .ok (.dup, 1) := by decide +kernel
theorem dX10_one_115 : decode cX10_one 115 = .ok (.getfield 171, 3) := by decide +kernel
theorem dX10_one_118 : decode cX10_one 118 = .ok (.iconst 1, 1) := by decide +kernel
theorem dX10_one_119 : decode cX10_one 119 = .ok (.isub, 1) := by decide +kernel
theorem dX10_one_120 : decode cX10_one 120 = .ok (.putfield 171, 3) := by decide +kernel
theorem dX10_one_123 : decode cX10_one 123 = .ok (.return_, 1) := by decide +kernel
theorem dX10_one_124 : decode cX10_one 124 = .ok (.iload_n 1, 1) := by decide +kernel
theorem dX10_one_125 : decode cX10_one 125 = .ok (.bipush 91, 2) := by decide +kernel
theorem dX10_one_127 : decode cX10_one 127 = .ok (.if_icmp .ne 10, 3) := by decide +kernel
theorem dX10_one_130 : decode cX10_one 130 = .ok (.aload_n 0, 1) := by decide +kernel
theorem dX10_one_131 : decode cX10_one 131 = .ok (.bipush 7, 2) := by decide +kernel
theorem dX10_one_133 : decode cX10_one 133 = .ok (.lconst 0, 1) := by decide +kernel
theorem dX10_one_134 : decode cX10_one 134 = .ok (.invokevirtual 102, 3) := by decide +kernel
theorem dX10_one_137 : decode cX10_one 137 = .ok (.aload_n 0, 1) := by decide +kernel
theorem dX10_one_138 : decode cX10_one 138 = .ok (.invokevirtual 178, 3) := by decide +kernel
theorem dX10_one_141 : decode cX10_one 141 = .ok (.iload_n 1, 1) := by decide +kernel
theorem dX10_one_142 : decode cX10_one 142 = .ok (.bipush 40, 2) := by decide +kernel
theorem dX10_one_144 : decode cX10_one 144 = .ok (.if_icmp .ne 8, 3) := by decide +kernel
theorem dX10_one_147 : decode cX10_one 147 = .ok (.bipush 41, 2) := by decide +kernel
theorem dX10_one_149 : decode cX10_one 149 = .ok (.goto 5, 3) := by decide +kernel
theorem dX10_one_152 : decode cX10_one 152 = .ok (.bipush 93, 2) := by decide +kernel
theorem dX10_one_154 : decode cX10_one 154 = .ok (.istore_n 2, 1) := by decide +kernel
theorem dX10_one_155 : decode cX10_one 155 = .ok (.aload_n 0, 1) := by decide +kernel
theorem dX10_one_156 : decode cX10_one 156 = .ok (.iload_n 2, 1) := by decide +kernel
theorem dX10_one_157 : decode cX10_one 157 = .ok (.invokevirtual 145, 3) := by decide +kernel
theorem dX10_one_160 : decode cX10_one 160 = .ok (.ifCond .eq 20, 3) := by decide +kernel
theorem dX10_one_163 : decode cX10_one 163 = .ok (.aload_n 0, 1) := by decide +kernel
theorem dX10_one_164 : decode cX10_one 164 = .ok (.dup, 1) := by decide +kernel
theorem dX10_one_165 : decode cX10_one 165 = .ok (.getfield 171, 3) := by decide +kernel
theorem dX10_one_168 : decode cX10_one 168 = .ok (.iconst 1, 1) := by decide +kernel
theorem dX10_one_169 : decode cX10_one 169 = .ok (.isub, 1) := by decide +kernel
theorem dX10_one_170 : decode cX10_one 170 = .ok (.putfield 171, 3) := by decide +kernel
theorem dX10_one_173 : decode cX10_one 173 = .ok (.aload_n 0, 1) := by decide +kernel
theorem dX10_one_174 : decode cX10_one 174 = .ok (.invokevirtual 148, 3) := by decide +kernel
theorem dX10_one_177 : decode cX10_one 177 = .ok (.goto 8, 3) := by decide +kernel
theorem dX10_one_180 : decode cX10_one 180 = .ok (.aload_n 0, 1) := by decide +kernel
theorem dX10_one_181 : decode cX10_one 181 = .ok (.iconst 1, 1) := by decide +kernel
theorem dX10_one_182 : decode cX10_one 182 = .ok (.putfield 120, 3) := by decide +kernel
theorem dX10_one_185 : decode cX10_one 185 = .ok (.return_, 1) := by decide +kernel
theorem dX10_text_0 : decode cX10_text 0 = .ok (.iload_n 1, 1) := by decide +kernel
theorem dX10_text_1 : decode cX10_text 1 = .ok (.invokestatic 181, 3) := by decide +kernel
theorem dX10_text_4 : decode cX10_text 4 = .ok (.ifCond .ne 6, 3) := by decide +kernel
theorem dX10_text_7 : decode cX10_text 7 = .ok (.bipush (-2), 2) := by decide +kernel
theorem dX10_text_9 : decode cX10_text 9 = .ok (.ireturn, 1) := by decide +kernel
theorem dX10_text_10 : decode cX10_text 10 = .ok (.aload_n 0, 1) := by decide +kernel
theorem dX10_text_11 : decode cX10_text 11 = .ok (.invokevirtual 184, 3) := by decide +kernel
theorem dX10_text_14 : decode cX10_text 14 = .ok (.aload_n 0, 1) := by decide +kernel
theorem dX10_text_15 : decode cX10_text 15 = .ok (.iconst 0, 1) := by decide +kernel
theorem dX10_text_16 : decode cX10_text 16 = .ok (.putfield 123, 3) := by decide +kernel
theorem dX10_text_19 : decode cX10_text 19 = .ok (.aload_n 0, 1) := by decide +kernel
theorem dX10_text_20 : decode cX10_text 20 = .ok (.iconst 0, 1) := by decide +kernel
theorem dX10_text_21 : decode cX10_text 21 = .ok (.putfield 171, 3) := by decide +kernel
theorem dX10_text_24 : decode cX10_text 24 = .ok (.aload_n 0, 1) := by decide +kernel
theorem dX10_text_25 : decode cX10_text 25 = .ok (.iconst 0, 1) := by decide +kernel
theorem dX10_text_26 : decode cX10_text 26 = .ok (.putfield 120, 3) := by decide +kernel
theorem dX10_text_29 : decode cX10_text 29 = .ok (.aload_n 0, 1) := by decide +kernel
theorem dX10_text_30 : decode cX10_text 30 = .ok (.invokevirtual 148, 3) := by decide +kernel
theorem dX10_text_33 : decode cX10_text 33 = .ok (.aload_n 0, 1) := by decide +kernel
theorem dX10_text_34 : decode cX10_text 34 = .ok (.invokevirtual 178, 3) := by decide +kernel
theorem dX10_text_37 : decode cX10_text 37 = .ok (.aload_n 0, 1) := by decide +kernel
theorem dX10_text_38 : decode cX10_text 38 = .ok (.dup, 1) := by decide +kernel
theorem dX10_text_39 : decode cX10_text 39 = .ok (.getfield 120, 3) := by decide +kernel
theorem dX10_text_42 : decode cX10_text 42 = .ok (.aload_n 0, 1) := by decide +kernel
theorem dX10_text_43 : decode cX10_text 43 = .ok (.getfield 132, 3) := by decide +kernel
theorem dX10_text_46 : decode cX10_text 46 = .ok (.ifCond .eq 7, 3) := by decide +kernel
theorem dX10_text_49 : decode cX10_text 49 = .ok (.iconst 1, 1) := by decide +kernel
theorem dX10_text_50 : decode cX10_text 50 = .ok (.goto 4, 3) := by decide +kernel
theorem dX10_text_53 : decode cX10_text 53 = .ok (.iconst 0, 1) := by decide +kernel
theorem dX10_text_54 : decode cX10_text 54 = .ok (.ior, 1) := by decide +kernel
theorem dX10_text_55 : decode cX10_text 55 = .ok (.putfield 120, 3) := by decide +kernel
theorem dX10_text_58 : decode cX10_text 58 = .ok (.aload_n 0, 1) := by decide +kernel
theorem dX10_text_59 : decode cX10_text 59 = .ok (.iconst 0, 1) := by decide +kernel
theorem dX10_text_60 : decode cX10_text 60 = .ok (.putfield 117, 3) := by decide +kernel
theorem dX10_text_63 : decode cX10_text 63 = .ok (.aload_n 0, 1) := by decide +kernel
theorem dX10_text_64 : decode cX10_text 64 = .ok (.getfield 120, 3) := by decide +kernel
theorem dX10_text_67 : decode cX10_text 67 = .ok (.ifCond .eq 13, 3) := by decide +kernel
theorem dX10_text_70 : decode cX10_text 70 = .ok (.bipush (-100), 2) := by decide +kernel
theorem dX10_text_72 : decode cX10_text 72 = .ok (.aload_n 0, 1) := by decide +kernel
theorem dX10_text_73 : decode cX10_text 73 = .ok (.getfield 129, 3) := by decide +kernel
theorem dX10_text_76 : decode cX10_text 76 = .ok (.isub, 1) := by decide +kernel
theorem dX10_text_77 : decode cX10_text 77 = .ok (.goto 8, 3) := by decide +kernel
theorem dX10_text_80 : decode cX10_text 80 = .ok (.aload_n 0, 1) := by decide +kernel
theorem dX10_text_81 : decode cX10_text 81 = .ok (.iload_n 1, 1) := by decide +kernel
theorem dX10_text_82 : decode cX10_text 82 = .ok (.invokevirtual 186, 3) := by decide +kernel
theorem dX10_text_85 : decode cX10_text 85 = .ok (.ireturn, 1) := by decide +kernel
theorem dX10_let_0 : decode cX10_let 0 = .ok (.iload_n 1, 1) := by decide +kernel
theorem dX10_let_1 : decode cX10_let 1 = .ok (.invokestatic 189, 3) := by decide +kernel
theorem dX10_let_4 : decode cX10_let 4 = .ok (.ifCond .ne 6, 3) := by decide +kernel
theorem dX10_let_7 : decode cX10_let 7 = .ok (.bipush (-2), 2) := by decide +kernel
theorem dX10_let_9 : decode cX10_let 9 = .ok (.ireturn, 1) := by decide +kernel
theorem dX10_let_10 : decode cX10_let 10 = .ok (.aload_n 0, 1) := by decide +kernel
theorem dX10_let_11 : decode cX10_let 11 = .ok (.getfield 26, 3) := by decide +kernel
theorem dX10_let_14 : decode cX10_let 14 = .ok (.iload_n 1, 1) := by decide +kernel
theorem dX10_let_15 : decode cX10_let 15 = .ok (.iaload, 1) := by decide +kernel
theorem dX10_let_16 : decode cX10_let 16 = .ok (.istore_n 3, 1) := by decide +kernel
theorem dX10_let_17 : decode cX10_let 17 = .ok (.aload_n 0, 1) := by decide +kernel
theorem dX10_let_18 : decode cX10_let 18 = .ok (.getfield 26, 3) := by decide +kernel
theorem dX10_let_21 : decode cX10_let 21 = .ok (.iload_n 1, 1) := by decide +kernel
theorem dX10_let_22 : decode cX10_let 22 = .ok (.iload_n 2, 1) := by decide +kernel
theorem dX10_let_23 : decode cX10_let 23 = .ok (.iastore, 1) := by decide +kernel
theorem dX10_let_24 : decode cX10_let 24 = .ok (.iload_n 3, 1) := by decide +kernel
theorem dX10_let_25 : decode cX10_let 25 = .ok (.ireturn, 1) := by decide +kernel
theorem dX10_isNumber_0 : decode cX10_isNumber 0 = .ok (.aload_n 0, 1) := by decide +kernel
theorem dX10_isNumber_1 : decode cX10_isNumber 1 = .ok (.getfield 29, 3) := by decide +kernel
theorem dX10_isNumber_4 : decode cX10_isNumber 4 = .ok (.iload_n 1, 1) := by decide +kernel
theorem dX10_isNumber_5 : decode cX10_isNumber 5 = .ok (.iaload, 1) := by decide +kernel
theorem dX10_isNumber_6 : decode cX10_isNumber 6 = .ok (.ifCond .ne 18, 3) := by decide +kernel
theorem dX10_isNumber_9 : decode cX10_isNumber 9 = .ok (.aload_n 0, 1) := by decide +kernel
theorem dX10_isNumber_10 : decode cX10_isNumber 10 = .ok (.getfield 32, 3) := by decide +kernel
theorem dX10_isNumber_13 : decode cX10_isNumber 13 = .ok (.iload_n 1, 1) := by decide +kernel
theorem dX10_isNumber_14 : decode cX10_isNumber 14 = .ok (.laload, 1) := by decide +kernel
theorem dX10_isNumber_15 : decode cX10_isNumber 15 = .ok (.lload_n 2, 1) := by decide +kernel
theorem dX10_isNumber_16 : decode cX10_isNumber 16 = .ok (.lcmp, 1) := by decide +kernel
theorem dX10_isNumber_17 : decode cX10_isNumber 17 = .ok (.ifCond .ne 7, 3) := by decide +kernel
theorem dX10_isNumber_20 : decode cX10_isNumber 20 = .ok (.iconst 1, 1) := by decide +kernel
theorem dX10_isNumber_21 : decode cX10_isNumber 21 = .ok (.goto 4, 3) := by decide +kernel
theorem dX10_isNumber_24 : decode cX10_isNumber 24 = .ok (.iconst 0, 1) := by decide +kernel
theorem dX10_isNumber_25 : decode cX10_isNumber 25 = .ok (.ireturn, 1) := by decide +kernel
theorem dX10_becomes_0 : decode cX10_becomes 0 = .ok (.aload_n 0, 1) := by decide +kernel
theorem dX10_becomes_1 : decode cX10_becomes 1 = .ok (.iload_n 1, 1) := by decide +kernel
theorem dX10_becomes_2 : decode cX10_becomes 2 = .ok (.putfield 90, 3) := by decide +kernel
theorem dX10_becomes_5 : decode cX10_becomes 5 = .ok (.aload_n 0, 1) := by decide +kernel
theorem dX10_becomes_6 : decode cX10_becomes 6 = .ok (.iconst 0, 1) := by decide +kernel
theorem dX10_becomes_7 : decode cX10_becomes 7 = .ok (.lload_n 2, 1) := by decide +kernel
theorem dX10_becomes_8 : decode cX10_becomes 8 = .ok (.invokevirtual 102, 3) := by decide +kernel
theorem dX10_becomes_11 : decode cX10_becomes 11 = .ok (.return_, 1) := by decide +kernel
theorem dX10_fold_0 : decode cX10_fold 0 = .ok (.aload_n 0, 1) := by decide +kernel
theorem dX10_fold_1 : decode cX10_fold 1 = .ok (.getfield 90, 3) := by decide +kernel
theorem dX10_fold_4 : decode cX10_fold 4 = .ok (.istore_n 3, 1) := by decide +kernel
theorem dX10_fold_5 : decode cX10_fold 5 = .ok (.aload_n 0, 1) := by decide +kernel
theorem dX10_fold_6 : decode cX10_fold 6 = .ok (.getfield 15, 3) := by decide +kernel
theorem dX10_fold_9 : decode cX10_fold 9 = .ok (.iload_n 1, 1) := by decide +kernel
theorem dX10_fold_10 : decode cX10_fold 10 = .ok (.aaload, 1) := by decide +kernel
theorem dX10_fold_11 : decode cX10_fold 11 = .ok (.iload_n 2, 1) := by decide +kernel
theorem dX10_fold_12 : decode cX10_fold 12 = .ok (.iaload, 1) := by decide +kernel
theorem dX10_fold_13 : decode cX10_fold 13 = .ok (.istore 4, 2) := by decide +kernel
theorem dX10_fold_15 : decode cX10_fold 15 = .ok (.aload_n 0, 1) := by decide +kernel
theorem dX10_fold_16 : decode cX10_fold 16 = .ok (.iload 4, 2) := by decide +kernel
theorem dX10_fold_18 : decode cX10_fold 18 = .ok (.aload_n 0, 1) := by decide +kernel
theorem dX10_fold_19 : decode cX10_fold 19 = .ok (.getfield 20, 3) := by decide +kernel
theorem dX10_fold_22 : decode cX10_fold 22 = .ok (.iload_n 1, 1) := by decide +kernel
theorem dX10_fold_23 : decode cX10_fold 23 = .ok (.aaload, 1) := by decide +kernel
theorem dX10_fold_24 : decode cX10_fold 24 = .ok (.iload_n 2, 1) := by decide +kernel
theorem dX10_fold_25 : decode cX10_fold 25 = .ok (.laload, 1) := by decide +kernel
theorem dX10_fold_26 : decode cX10_fold 26 = .ok (.invokevirtual 102, 3) := by decide +kernel
theorem dX10_fold_29 : decode cX10_fold 29 = .ok (.iload_n 2, 1) := by decide +kernel
theorem dX10_fold_30 : decode cX10_fold 30 = .ok (.iconst 1, 1) := by decide +kernel
theorem dX10_fold_31 : decode cX10_fold 31 = .ok (.iadd, 1) := by decide +kernel
theorem dX10_fold_32 : decode cX10_fold 32 = .ok (.istore 5, 2) := by decide +kernel
theorem dX10_fold_34 : decode cX10_fold 34 = .ok (.iconst 0, 1) := by decide +kernel
theorem dX10_fold_35 : decode cX10_fold 35 = .ok (.istore 6, 2) := by decide +kernel
theorem dX10_fold_37 : decode cX10_fold 37 = .ok (.iload 6, 2) := by decide +kernel
theorem dX10_fold_39 : decode cX10_fold 39 = .ok (.iload 4, 2) := by decide +kernel
theorem dX10_fold_41 : decode cX10_fold 41 = .ok (.invokestatic 98, 3) := by decide +kernel
theorem dX10_fold_44 : decode cX10_fold 44 = .ok (.if_icmp .ge 27, 3) := by decide +kernel
theorem dX10_fold_47 : decode cX10_fold 47 = .ok (.aload_n 0, 1) := by decide +kernel
theorem dX10_fold_48 : decode cX10_fold 48 = .ok (.iload_n 1, 1) := by decide +kernel
theorem dX10_fold_49 : decode cX10_fold 49 = .ok (.iload 5, 2) := by decide +kernel
theorem dX10_fold_51 : decode cX10_fold 51 = .ok (.invokevirtual 192, 3) := by decide +kernel
theorem dX10_fold_54 : decode cX10_fold 54 = .ok (.aload_n 0, 1) := by decide +kernel
theorem dX10_fold_55 : decode cX10_fold 55 = .ok (.getfield 23, 3) := by decide +kernel
theorem dX10_fold_58 : decode cX10_fold 58 = .ok (.iload_n 1, 1) := by decide +kernel
theorem dX10_fold_59 : decode cX10_fold 59 = .ok (.aaload, 1) := by decide +kernel
theorem dX10_fold_60 : decode cX10_fold 60 = .ok (.iload 5, 2) := by decide +kernel
theorem dX10_fold_62 : decode cX10_fold 62 = .ok (.iaload, 1) := by decide +kernel
theorem dX10_fold_63 : decode cX10_fold 63 = .ok (.istore 5, 2) := by decide +kernel
theorem dX10_fold_65 : decode cX10_fold 65 = .ok (.iinc 6 1, 3) := by decide +kernel
theorem dX10_fold_68 : decode cX10_fold 68 = .ok (.goto (-31), 3) := by decide +kernel
theorem dX10_fold_71 : decode cX10_fold 71 = .ok (.iload_n 3, 1) := by decide +kernel
theorem dX10_fold_72 : decode cX10_fold 72 = .ok (.iconst 1, 1) := by decide +kernel
theorem dX10_fold_73 : decode cX10_fold 73 = .ok (.iadd, 1) := by decide +kernel
theorem dX10_fold_74 : decode cX10_fold 74 = .ok (.istore 6, 2) := by decide +kernel
theorem dX10_fold_76 : decode cX10_fold 76 = .ok (.iload 4, 2) := by decide +kernel
theorem dX10_fold_78 : decode cX10_fold 78 = .ok (.tableswitch 172 2 7 #[38, 86, 100, 114, 131, 139], 38) := by decide +kernel
theorem dX10_fold_116 : decode cX10_fold 116 = .ok (.aload_n 0, 1) := by decide +kernel
theorem dX10_fold_117 : decode cX10_fold 117 = .ok (.getfield 29, 3) := by decide +kernel
theorem dX10_fold_120 : decode cX10_fold 120 = .ok (.iload 6, 2) := by decide +kernel
theorem dX10_fold_122 : decode cX10_fold 122 = .ok (.iaload, 1) := by decide +kernel
theorem dX10_fold_123 : decode cX10_fold 123 = .ok (.ifCond .ne 19, 3) := by decide +kernel
theorem dX10_fold_126 : decode cX10_fold 126 = .ok (.aload_n 0, 1) := by decide +kernel
theorem dX10_fold_127 : decode cX10_fold 127 = .ok (.iload_n 3, 1) := by decide +kernel
theorem dX10_fold_128 : decode cX10_fold 128 = .ok (.aload_n 0, 1) := by decide +kernel
theorem dX10_fold_129 : decode cX10_fold 129 = .ok (.getfield 32, 3) := by decide +kernel
theorem dX10_fold_132 : decode cX10_fold 132 = .ok (.iload 6, 2) := by decide +kernel
theorem dX10_fold_134 : decode cX10_fold 134 = .ok (.laload, 1) := by decide +kernel
theorem dX10_fold_135 : decode cX10_fold 135 = .ok (.lneg, 1) := by decide +kernel
theorem dX10_fold_136 : decode cX10_fold 136 = .ok (.invokevirtual 196, 3) := by decide +kernel
theorem dX10_fold_139 : decode cX10_fold 139 = .ok (.goto 111, 3) := by decide +kernel
theorem dX10_fold_142 : decode cX10_fold 142 = .ok (.aload_n 0, 1) := by decide +kernel
theorem dX10_fold_143 : decode cX10_fold 143 = .ok (.getfield 29, 3) := by decide +kernel
theorem dX10_fold_146 : decode cX10_fold 146 = .ok (.iload 6, 2) := by decide +kernel
theorem dX10_fold_148 : decode cX10_fold 148 = .ok (.iaload, 1) := by decide +kernel
theorem dX10_fold_149 : decode cX10_fold 149 = .ok (.iconst 2, 1) := by decide +kernel
theorem dX10_fold_150 : decode cX10_fold 150 = .ok (.if_icmp .ne 100, 3) := by decide +kernel
theorem dX10_fold_153 : decode cX10_fold 153 = .ok (.aload_n 0, 1) := by decide +kernel
theorem dX10_fold_154 : decode cX10_fold 154 = .ok (.iload_n 3, 1) := by decide +kernel
theorem dX10_fold_155 : decode cX10_fold 155 = .ok (.iload_n 3, 1) := by decide +kernel
theorem dX10_fold_156 : decode cX10_fold 156 = .ok (.iconst 2, 1) := by decide +kernel
theorem dX10_fold_157 : decode cX10_fold 157 = .ok (.iadd, 1) := by decide +kernel
theorem dX10_fold_158 : decode cX10_fold 158 = .ok (.invokevirtual 199, 3) := by decide +kernel
theorem dX10_fold_161 : decode cX10_fold 161 = .ok (.goto 89, 3) := by decide +kernel
theorem dX10_fold_164 : decode cX10_fold 164 = .ok (.aload_n 0, 1) := by decide +kernel
theorem dX10_fold_165 : decode cX10_fold 165 = .ok (.iload_n 3, 1) := by decide +kernel
theorem dX10_fold_166 : decode cX10_fold 166 = .ok (.aload_n 0, 1) := by decide +kernel
theorem dX10_fold_167 : decode cX10_fold 167 = .ok (.iload 6, 2) := by decide +kernel
theorem dX10_fold_169 : decode cX10_fold 169 = .ok (.invokevirtual 106, 3) := by decide +kernel
theorem dX10_fold_172 : decode cX10_fold 172 = .ok (.invokevirtual 202, 3) := by decide +kernel
theorem dX10_fold_175 : decode cX10_fold 175 = .ok (.goto 75, 3) := by decide +kernel
theorem dX10_fold_178 : decode cX10_fold 178 = .ok (.aload_n 0, 1) := by decide +kernel
theorem dX10_fold_179 : decode cX10_fold 179 = .ok (.iload_n 3, 1) := by decide +kernel
theorem dX10_fold_180 : decode cX10_fold 180 = .ok (.aload_n 0, 1) := by decide +kernel
theorem dX10_fold_181 : decode cX10_fold 181 = .ok (.iload 6, 2) := by decide +kernel
theorem dX10_fold_183 : decode cX10_fold 183 = .ok (.invokevirtual 106, 3) := by decide +kernel
theorem dX10_fold_186 : decode cX10_fold 186 = .ok (.invokevirtual 205, 3) := by decide +kernel
theorem dX10_fold_189 : decode cX10_fold 189 = .ok (.goto 61, 3) := by decide +kernel
theorem dX10_fold_192 : decode cX10_fold 192 = .ok (.aload_n 0, 1) := by decide +kernel
theorem dX10_fold_193 : decode cX10_fold 193 = .ok (.iload_n 3, 1) := by decide +kernel
theorem dX10_fold_194 : decode cX10_fold 194 = .ok (.aload_n 0, 1) := by decide +kernel
theorem dX10_fold_195 : decode cX10_fold 195 = .ok (.getfield 20, 3) := by decide +kernel
theorem dX10_fold_198 : decode cX10_fold 198 = .ok (.iload_n 1, 1) := by decide +kernel
theorem dX10_fold_199 : decode cX10_fold 199 = .ok (.aaload, 1) := by decide +kernel
theorem dX10_fold_200 : decode cX10_fold 200 = .ok (.iload_n 2, 1) := by decide +kernel
theorem dX10_fold_201 : decode cX10_fold 201 = .ok (.laload, 1) := by decide +kernel
theorem dX10_fold_202 : decode cX10_fold 202 = .ok (.l2i, 1) := by decide +kernel
theorem dX10_fold_203 : decode cX10_fold 203 = .ok (.invokevirtual 208, 3) := by decide +kernel
theorem dX10_fold_206 : decode cX10_fold 206 = .ok (.goto 44, 3) := by decide +kernel
theorem dX10_fold_209 : decode cX10_fold 209 = .ok (.aload_n 0, 1) := by decide +kernel
theorem dX10_fold_210 : decode cX10_fold 210 = .ok (.iload_n 3, 1) := by decide +kernel
theorem dX10_fold_211 : decode cX10_fold 211 = .ok (.invokevirtual 211, 3) := by decide +kernel
theorem dX10_fold_214 : decode cX10_fold 214 = .ok (.goto 36, 3) := by decide +kernel
theorem dX10_fold_217 : decode cX10_fold 217 = .ok (.aload_n 0, 1) := by decide +kernel
theorem dX10_fold_218 : decode cX10_fold 218 = .ok (.getfield 29, 3) := by decide +kernel
theorem dX10_fold_221 : decode cX10_fold 221 = .ok (.iload 6, 2) := by decide +kernel
theorem dX10_fold_223 : decode cX10_fold 223 = .ok (.iaload, 1) := by decide +kernel
theorem dX10_fold_224 : decode cX10_fold 224 = .ok (.ifCond .ne 26, 3) := by decide +kernel
theorem dX10_fold_227 : decode cX10_fold 227 = .ok (.aload_n 0, 1) := by decide +kernel
theorem dX10_fold_228 : decode cX10_fold 228 = .ok (.iload_n 3, 1) := by decide +kernel
theorem dX10_fold_229 : decode cX10_fold 229 = .ok (.aload_n 0, 1) := by decide +kernel
theorem dX10_fold_230 : decode cX10_fold 230 = .ok (.getfield 32, 3) := by decide +kernel
theorem dX10_fold_233 : decode cX10_fold 233 = .ok (.iload 6, 2) := by decide +kernel
theorem dX10_fold_235 : decode cX10_fold 235 = .ok (.laload, 1) := by decide +kernel
theorem dX10_fold_236 : decode cX10_fold 236 = .ok (.aload_n 0, 1) := by decide +kernel
theorem dX10_fold_237 : decode cX10_fold 237 = .ok (.getfield 32, 3) := by decide +kernel
theorem dX10_fold_240 : decode cX10_fold 240 = .ok (.iload 6, 2) := by decide +kernel
theorem dX10_fold_242 : decode cX10_fold 242 = .ok (.laload, 1) := by decide +kernel
theorem dX10_fold_243 : decode cX10_fold 243 = .ok (.lmul, 1) := by decide +kernel
theorem dX10_fold_244 : decode cX10_fold 244 = .ok (.invokevirtual 196, 3) := by decide +kernel
theorem dX10_fold_247 : decode cX10_fold 247 = .ok (.goto 3, 3) := by decide +kernel
theorem dX10_fold_250 : decode cX10_fold 250 = .ok (.return_, 1) := by decide +kernel
theorem dX10_foldSum_0 : decode cX10_foldSum 0 = .ok (.iload_n 1, 1) := by decide +kernel
theorem dX10_foldSum_1 : decode cX10_foldSum 1 = .ok (.iconst 1, 1) := by decide +kernel
theorem dX10_foldSum_2 : decode cX10_foldSum 2 = .ok (.iadd, 1) := by decide +kernel
theorem dX10_foldSum_3 : decode cX10_foldSum 3 = .ok (.istore_n 3, 1) := by decide +kernel
theorem dX10_foldSum_4 : decode cX10_foldSum 4 = .ok (.aload_n 0, 1) := by decide +kernel
theorem dX10_foldSum_5 : decode cX10_foldSum 5 = .ok (.getfield 29, 3) := by decide +kernel
theorem dX10_foldSum_8 : decode cX10_foldSum 8 = .ok (.iload_n 3, 1) := by decide +kernel
theorem dX10_foldSum_9 : decode cX10_foldSum 9 = .ok (.iaload, 1) := by decide +kernel
theorem dX10_foldSum_10 : decode cX10_foldSum 10 = .ok (.ifCond .ne 33, 3) := by decide +kernel
theorem dX10_foldSum_13 : decode cX10_foldSum 13 = .ok (.aload_n 0, 1) := by decide +kernel
theorem dX10_foldSum_14 : decode cX10_foldSum 14 = .ok (.getfield 29, 3) := by decide +kernel
theorem dX10_foldSum_17 : decode cX10_foldSum 17 = .ok (.iload_n 2, 1) := by decide +kernel
theorem dX10_foldSum_18 : decode cX10_foldSum 18 = .ok (.iaload, 1) := by decide +kernel
theorem dX10_foldSum_19 : decode cX10_foldSum 19 = .ok (.ifCond .ne 24, 3) := by decide +kernel
theorem dX10_foldSum_22 : decode cX10_foldSum 22 = .ok (.aload_n 0, 1) := by decide +kernel
theorem dX10_foldSum_23 : decode cX10_foldSum 23 = .ok (.iload_n 1, 1) := by decide +kernel
theorem dX10_foldSum_24 : decode cX10_foldSum 24 = .ok (.aload_n 0, 1) := by decide +kernel
theorem dX10_foldSum_25 : decode cX10_foldSum 25 = .ok (.getfield 32, 3) := by decide +kernel
theorem dX10_foldSum_28 : decode cX10_foldSum 28 = .ok (.iload_n 3, 1) := by decide +kernel
theorem dX10_foldSum_29 : decode cX10_foldSum 29 = .ok (.laload, 1) := by decide +kernel
theorem dX10_foldSum_30 : decode cX10_foldSum 30 = .ok (.aload_n 0, 1) := by decide +kernel
theorem dX10_foldSum_31 : decode cX10_foldSum 31 = .ok (.getfield 32, 3) := by decide +kernel
theorem dX10_foldSum_34 : decode cX10_foldSum 34 = .ok (.iload_n 2, 1) := by decide +kernel
theorem dX10_foldSum_35 : decode cX10_foldSum 35 = .ok (.laload, 1) := by decide +kernel
theorem dX10_foldSum_36 : decode cX10_foldSum 36 = .ok (.ladd, 1) := by decide +kernel
theorem dX10_foldSum_37 : decode cX10_foldSum 37 = .ok (.invokevirtual 196, 3) := by decide +kernel
theorem dX10_foldSum_40 : decode cX10_foldSum 40 = .ok (.goto 41, 3) := by decide +kernel
theorem dX10_foldSum_43 : decode cX10_foldSum 43 = .ok (.aload_n 0, 1) := by decide +kernel
theorem dX10_foldSum_44 : decode cX10_foldSum 44 = .ok (.iload_n 3, 1) := by decide +kernel
theorem dX10_foldSum_45 : decode cX10_foldSum 45 = .ok (.lconst 0, 1) := by decide +kernel
theorem dX10_foldSum_46 : decode cX10_foldSum 46 = .ok (.invokevirtual 214, 3) := by decide +kernel
theorem dX10_foldSum_49 : decode cX10_foldSum 49 = .ok (.ifCond .eq 12, 3) := by decide +kernel
theorem dX10_foldSum_52 : decode cX10_foldSum 52 = .ok (.aload_n 0, 1) := by decide +kernel
theorem dX10_foldSum_53 : decode cX10_foldSum 53 = .ok (.iload_n 1, 1) := by decide +kernel
theorem dX10_foldSum_54 : decode cX10_foldSum 54 = .ok (.iload_n 2, 1) := by decide +kernel
theorem dX10_foldSum_55 : decode cX10_foldSum 55 = .ok (.invokevirtual 199, 3) := by decide +kernel
theorem dX10_foldSum_58 : decode cX10_foldSum 58 = .ok (.goto 23, 3) := by decide +kernel
theorem dX10_foldSum_61 : decode cX10_foldSum 61 = .ok (.aload_n 0, 1) := by decide +kernel
theorem dX10_foldSum_62 : decode cX10_foldSum 62 = .ok (.iload_n 2, 1) := by decide +kernel
theorem dX10_foldSum_63 : decode cX10_foldSum 63 = .ok (.lconst 0, 1) := by decide +kernel
theorem dX10_foldSum_64 : decode cX10_foldSum 64 = .ok (.invokevirtual 214, 3) := by decide +kernel
theorem dX10_foldSum_67 : decode cX10_foldSum 67 = .ok (.ifCond .eq 14, 3) := by decide +kernel
theorem dX10_foldSum_70 : decode cX10_foldSum 70 = .ok (.aload_n 0, 1) := by decide +kernel
theorem dX10_foldSum_71 : decode cX10_foldSum 71 = .ok (.iload_n 2, 1) := by decide +kernel
theorem dX10_foldSum_72 : decode cX10_foldSum 72 = .ok (.putfield 90, 3) := by decide +kernel
theorem dX10_foldSum_75 : decode cX10_foldSum 75 = .ok (.aload_n 0, 1) := by decide +kernel
theorem dX10_foldSum_76 : decode cX10_foldSum 76 = .ok (.iload_n 1, 1) := by decide +kernel
theorem dX10_foldSum_77 : decode cX10_foldSum 77 = .ok (.iload_n 3, 1) := by decide +kernel
theorem dX10_foldSum_78 : decode cX10_foldSum 78 = .ok (.invokevirtual 199, 3) := by decide +kernel
theorem dX10_foldSum_81 : decode cX10_foldSum 81 = .ok (.return_, 1) := by decide +kernel
theorem dX10_foldProduct_0 : decode cX10_foldProduct 0 = .ok (.iload_n 1, 1) := by decide +kernel
theorem dX10_foldProduct_1 : decode cX10_foldProduct 1 = .ok (.iconst 1, 1) := by decide +kernel
theorem dX10_foldProduct_2 : decode cX10_foldProduct 2 = .ok (.iadd, 1) := by decide +kernel
theorem dX10_foldProduct_3 : decode cX10_foldProduct 3 = .ok (.istore_n 3, 1) := by decide +kernel
theorem dX10_foldProduct_4 : decode cX10_foldProduct 4 = .ok (.aload_n 0, 1) := by decide +kernel
theorem dX10_foldProduct_5 : decode cX10_foldProduct 5 = .ok (.getfield 29, 3) := by decide +kernel
theorem dX10_foldProduct_8 : decode cX10_foldProduct 8 = .ok (.iload_n 3, 1) := by decide +kernel
theorem dX10_foldProduct_9 : decode cX10_foldProduct 9 = .ok (.iaload, 1) := by decide +kernel
theorem dX10_foldProduct_10 : decode cX10_foldProduct 10 = .ok (.ifCond .ne 33, 3) := by decide +kernel
theorem dX10_foldProduct_13 : decode cX10_foldProduct 13 = .ok (.aload_n 0, 1) := by decide +kernel
theorem dX10_foldProduct_14 : decode cX10_foldProduct 14 = .ok (.getfield 29, 3) := by decide +kernel
theorem dX10_foldProduct_17 : decode cX10_foldProduct 17 = .ok (.iload_n 2, 1) := by decide +kernel
theorem dX10_foldProduct_18 : decode cX10_foldProduct 18 = .ok (.iaload, 1) := by decide +kernel
theorem dX10_foldProduct_19 : decode cX10_foldProduct 19 = .ok (.ifCond .ne 24, 3) := by decide +kernel
theorem dX10_foldProduct_22 : decode cX10_foldProduct 22 = .ok (.aload_n 0, 1) := by decide +kernel
theorem dX10_foldProduct_23 : decode cX10_foldProduct 23 = .ok (.iload_n 1, 1) := by decide +kernel
theorem dX10_foldProduct_24 : decode cX10_foldProduct 24 = .ok (.aload_n 0, 1) := by decide +kernel
theorem dX10_foldProduct_25 : decode cX10_foldProduct 25 = .ok (.getfield 32, 3) := by decide +kernel
theorem dX10_foldProduct_28 : decode cX10_foldProduct 28 = .ok (.iload_n 3, 1) := by decide +kernel
theorem dX10_foldProduct_29 : decode cX10_foldProduct 29 = .ok (.laload, 1) := by decide +kernel
theorem dX10_foldProduct_30 : decode cX10_foldProduct 30 = .ok (.aload_n 0, 1) := by decide +kernel
theorem dX10_foldProduct_31 : decode cX10_foldProduct 31 = .ok (.getfield 32, 3) := by decide +kernel
theorem dX10_foldProduct_34 : decode cX10_foldProduct 34 = .ok (.iload_n 2, 1) := by decide +kernel
theorem dX10_foldProduct_35 : decode cX10_foldProduct 35 = .ok (.laload, 1) := by decide +kernel
theorem dX10_foldProduct_36 : decode cX10_foldProduct 36 = .ok (.lmul, 1) := by decide +kernel
theorem dX10_foldProduct_37 : decode cX10_foldProduct 37 = .ok (.invokevirtual 196, 3) := by decide +kernel
theorem dX10_foldProduct_40 : decode cX10_foldProduct 40 = .ok (.goto 68, 3) := by decide +kernel
theorem dX10_foldProduct_43 : decode cX10_foldProduct 43 = .ok (.aload_n 0, 1) := by decide +kernel
theorem dX10_foldProduct_44 : decode cX10_foldProduct 44 = .ok (.iload_n 3, 1) := by decide +kernel
theorem dX10_foldProduct_45 : decode cX10_foldProduct 45 = .ok (.lconst 0, 1) := by decide +kernel
theorem dX10_foldProduct_46 : decode cX10_foldProduct 46 = .ok (.invokevirtual 214, 3) := by decide +kernel
theorem dX10_foldProduct_49 : decode cX10_foldProduct 49 = .ok (.ifCond .ne 12, 3) := by decide +kernel
theorem dX10_foldProduct_52 : decode cX10_foldProduct 52 = .ok (.aload_n 0, 1) := by decide +kernel
theorem dX10_foldProduct_53 : decode cX10_foldProduct 53 = .ok (.iload_n 2, 1) := by decide +kernel
theorem dX10_foldProduct_54 : decode cX10_foldProduct 54 = .ok (.lconst 0, 1) := by decide +kernel
theorem dX10_foldProduct_55 : decode cX10_foldProduct 55 = .ok (.invokevirtual 214, 3) := by decide +kernel
theorem dX10_foldProduct_58 : decode cX10_foldProduct 58 = .ok (.ifCond .eq 12, 3) := by decide +kernel
theorem dX10_foldProduct_61 : decode cX10_foldProduct 61 = .ok (.aload_n 0, 1) := by decide +kernel
theorem dX10_foldProduct_62 : decode cX10_foldProduct 62 = .ok (.iload_n 1, 1) := by decide +kernel
theorem dX10_foldProduct_63 : decode cX10_foldProduct 63 = .ok (.lconst 0, 1) := by decide +kernel
theorem dX10_foldProduct_64 : decode cX10_foldProduct 64 = .ok (.invokevirtual 196, 3) := by decide +kernel
theorem dX10_foldProduct_67 : decode cX10_foldProduct 67 = .ok (.goto 41, 3) := by decide +kernel
theorem dX10_foldProduct_70 : decode cX10_foldProduct 70 = .ok (.aload_n 0, 1) := by decide +kernel
theorem dX10_foldProduct_71 : decode cX10_foldProduct 71 = .ok (.iload_n 3, 1) := by decide +kernel
theorem dX10_foldProduct_72 : decode cX10_foldProduct 72 = .ok (.lconst 1, 1) := by decide +kernel
theorem dX10_foldProduct_73 : decode cX10_foldProduct 73 = .ok (.invokevirtual 214, 3) := by decide +kernel
theorem dX10_foldProduct_76 : decode cX10_foldProduct 76 = .ok (.ifCond .eq 12, 3) := by decide +kernel
theorem dX10_foldProduct_79 : decode cX10_foldProduct 79 = .ok (.aload_n 0, 1) := by decide +kernel
theorem dX10_foldProduct_80 : decode cX10_foldProduct 80 = .ok (.iload_n 1, 1) := by decide +kernel
theorem dX10_foldProduct_81 : decode cX10_foldProduct 81 = .ok (.iload_n 2, 1) := by decide +kernel
theorem dX10_foldProduct_82 : decode cX10_foldProduct 82 = .ok (.invokevirtual 199, 3) := by decide +kernel
theorem dX10_foldProduct_85 : decode cX10_foldProduct 85 = .ok (.goto 23, 3) := by decide +kernel
theorem dX10_foldProduct_88 : decode cX10_foldProduct 88 = .ok (.aload_n 0, 1) := by decide +kernel
theorem dX10_foldProduct_89 : decode cX10_foldProduct 89 = .ok (.iload_n 2, 1) := by decide +kernel
theorem dX10_foldProduct_90 : decode cX10_foldProduct 90 = .ok (.lconst 1, 1) := by decide +kernel
theorem dX10_foldProduct_91 : decode cX10_foldProduct 91 = .ok (.invokevirtual 214, 3) := by decide +kernel
theorem dX10_foldProduct_94 : decode cX10_foldProduct 94 = .ok (.ifCond .eq 14, 3) := by decide +kernel
theorem dX10_foldProduct_97 : decode cX10_foldProduct 97 = .ok (.aload_n 0, 1) := by decide +kernel
theorem dX10_foldProduct_98 : decode cX10_foldProduct 98 = .ok (.iload_n 2, 1) := by decide +kernel
theorem dX10_foldProduct_99 : decode cX10_foldProduct 99 = .ok (.putfield 90, 3) := by decide +kernel
theorem dX10_foldProduct_102 : decode cX10_foldProduct 102 = .ok (.aload_n 0, 1) := by decide +kernel
theorem dX10_foldProduct_103 : decode cX10_foldProduct 103 = .ok (.iload_n 1, 1) := by decide +kernel
theorem dX10_foldProduct_104 : decode cX10_foldProduct 104 = .ok (.iload_n 3, 1) := by decide +kernel
theorem dX10_foldProduct_105 : decode cX10_foldProduct 105 = .ok (.invokevirtual 199, 3) := by decide +kernel
theorem dX10_foldProduct_108 : decode cX10_foldProduct 108 = .ok (.return_, 1) := by decide +kernel
theorem dX10_power_0 : decode cX10_power 0 = .ok (.lconst 1, 1) := by decide +kernel
theorem dX10_power_1 : decode cX10_power 1 = .ok (.lstore_n 3, 1) := by decide +kernel
theorem dX10_power_2 : decode cX10_power 2 = .ok (.iconst 0, 1) := by decide +kernel
theorem dX10_power_3 : decode cX10_power 3 = .ok (.istore 5, 2) := by decide +kernel
theorem dX10_power_5 : decode cX10_power 5 = .ok (.iload 5, 2) := by decide +kernel
theorem dX10_power_7 : decode cX10_power 7 = .ok (.iload_n 2, 1) := by decide +kernel
theorem dX10_power_8 : decode cX10_power 8 = .ok (.if_icmp .ge 13, 3) := by decide +kernel
theorem dX10_power_11 : decode cX10_power 11 = .ok (.lload_n 3, 1) := by decide +kernel
theorem dX10_power_12 : decode cX10_power 12 = .ok (.lload_n 0, 1) := by decide +kernel
theorem dX10_power_13 : decode cX10_power 13 = .ok (.lmul, 1) := by decide +kernel
theorem dX10_power_14 : decode cX10_power 14 = .ok (.lstore_n 3, 1) := by decide +kernel
theorem dX10_power_15 : decode cX10_power 15 = .ok (.iinc 5 1, 3) := by decide +kernel
theorem dX10_power_18 : decode cX10_power 18 = .ok (.goto (-13), 3) := by decide +kernel
theorem dX10_power_21 : decode cX10_power 21 = .ok (.lload_n 3, 1) := by decide +kernel
theorem dX10_power_22 : decode cX10_power 22 = .ok (.lreturn, 1) := by decide +kernel
theorem dX10_foldPower_0 : decode cX10_foldPower 0 = .ok (.iload_n 2, 1) := by decide +kernel
theorem dX10_foldPower_1 : decode cX10_foldPower 1 = .ok (.ifCond .ne 12, 3) := by decide +kernel
theorem dX10_foldPower_4 : decode cX10_foldPower 4 = .ok (.aload_n 0, 1) := by decide +kernel
theorem dX10_foldPower_5 : decode cX10_foldPower 5 = .ok (.iload_n 1, 1) := by decide +kernel
theorem dX10_foldPower_6 : decode cX10_foldPower 6 = .ok (.lconst 1, 1) := by decide +kernel
theorem dX10_foldPower_7 : decode cX10_foldPower 7 = .ok (.invokevirtual 196, 3) := by decide +kernel
theorem dX10_foldPower_10 : decode cX10_foldPower 10 = .ok (.goto 47, 3) := by decide +kernel
theorem dX10_foldPower_13 : decode cX10_foldPower 13 = .ok (.iload_n 2, 1) := by decide +kernel
theorem dX10_foldPower_14 : decode cX10_foldPower 14 = .ok (.iconst 1, 1) := by decide +kernel
theorem dX10_foldPower_15 : decode cX10_foldPower 15 = .ok (.if_icmp .ne 14, 3) := by decide +kernel
theorem dX10_foldPower_18 : decode cX10_foldPower 18 = .ok (.aload_n 0, 1) := by decide +kernel
theorem dX10_foldPower_19 : decode cX10_foldPower 19 = .ok (.iload_n 1, 1) := by decide +kernel
theorem dX10_foldPower_20 : decode cX10_foldPower 20 = .ok (.iload_n 1, 1) := by decide +kernel
theorem dX10_foldPower_21 : decode cX10_foldPower 21 = .ok (.iconst 1, 1) := by decide +kernel
theorem dX10_foldPower_22 : decode cX10_foldPower 22 = .ok (.iadd, 1) := by decide +kernel
theorem dX10_foldPower_23 : decode cX10_foldPower 23 = .ok (.invokevirtual 199, 3) := by decide +kernel
theorem dX10_foldPower_26 : decode cX10_foldPower 26 = .ok (.goto 31, 3) := by decide +kernel
theorem dX10_foldPower_29 : decode cX10_foldPower 29 = .ok (.aload_n 0, 1) := by decide +kernel
theorem dX10_foldPower_30 : decode cX10_foldPower 30 = .ok (.getfield 29, 3) := by decide +kernel
theorem dX10_foldPower_33 : decode cX10_foldPower 33 = .ok (.iload_n 1, 1) := by decide +kernel
theorem dX10_foldPower_34 : decode cX10_foldPower 34 = .ok (.iconst 1, 1) := by decide +kernel
theorem dX10_foldPower_35 : decode cX10_foldPower 35 = .ok (.iadd, 1) := by decide +kernel
theorem dX10_foldPower_36 : decode cX10_foldPower 36 = .ok (.iaload, 1) := by decide +kernel
theorem dX10_foldPower_37 : decode cX10_foldPower 37 = .ok (.ifCond .ne 20, 3) := by decide +kernel
theorem dX10_foldPower_40 : decode cX10_foldPower 40 = .ok (.aload_n 0, 1) := by decide +kernel
theorem dX10_foldPower_41 : decode cX10_foldPower 41 = .ok (.iload_n 1, 1) := by decide +kernel
theorem dX10_foldPower_42 : decode cX10_foldPower 42 = .ok (.aload_n 0, 1) := by decide +kernel
theorem dX10_foldPower_43 : decode cX10_foldPower 43 = .ok (.getfield 32, 3) := by decide +kernel
theorem dX10_foldPower_46 : decode cX10_foldPower 46 = .ok (.iload_n 1, 1) := by decide +kernel
theorem dX10_foldPower_47 : decode cX10_foldPower 47 = .ok (.iconst 1, 1) := by decide +kernel
theorem dX10_foldPower_48 : decode cX10_foldPower 48 = .ok (.iadd, 1) := by decide +kernel
theorem dX10_foldPower_49 : decode cX10_foldPower 49 = .ok (.laload, 1) := by decide +kernel
theorem dX10_foldPower_50 : decode cX10_foldPower 50 = .ok (.iload_n 2, 1) := by decide +kernel
theorem dX10_foldPower_51 : decode cX10_foldPower 51 = .ok (.invokestatic 218, 3) := by decide +kernel
theorem dX10_foldPower_54 : decode cX10_foldPower 54 = .ok (.invokevirtual 196, 3) := by decide +kernel
theorem dX10_foldPower_57 : decode cX10_foldPower 57 = .ok (.return_, 1) := by decide +kernel
theorem dX10_foldPick_0 : decode cX10_foldPick 0 = .ok (.iload_n 1, 1) := by decide +kernel
theorem dX10_foldPick_1 : decode cX10_foldPick 1 = .ok (.iconst 1, 1) := by decide +kernel
theorem dX10_foldPick_2 : decode cX10_foldPick 2 = .ok (.iadd, 1) := by decide +kernel
theorem dX10_foldPick_3 : decode cX10_foldPick 3 = .ok (.istore_n 2, 1) := by decide +kernel
theorem dX10_foldPick_4 : decode cX10_foldPick 4 = .ok (.aload_n 0, 1) := by decide +kernel
theorem dX10_foldPick_5 : decode cX10_foldPick 5 = .ok (.getfield 29, 3) := by decide +kernel
theorem dX10_foldPick_8 : decode cX10_foldPick 8 = .ok (.iload_n 2, 1) := by decide +kernel
theorem dX10_foldPick_9 : decode cX10_foldPick 9 = .ok (.iaload, 1) := by decide +kernel
theorem dX10_foldPick_10 : decode cX10_foldPick 10 = .ok (.ifCond .eq 4, 3) := by decide +kernel
theorem dX10_foldPick_13 : decode cX10_foldPick 13 = .ok (.return_, 1) := by decide +kernel
theorem dX10_foldPick_14 : decode cX10_foldPick 14 = .ok (.aload_n 0, 1) := by decide +kernel
theorem dX10_foldPick_15 : decode cX10_foldPick 15 = .ok (.iload_n 2, 1) := by decide +kernel
theorem dX10_foldPick_16 : decode cX10_foldPick 16 = .ok (.invokevirtual 106, 3) := by decide +kernel
theorem dX10_foldPick_19 : decode cX10_foldPick 19 = .ok (.istore_n 3, 1) := by decide +kernel
theorem dX10_foldPick_20 : decode cX10_foldPick 20 = .ok (.aload_n 0, 1) := by decide +kernel
theorem dX10_foldPick_21 : decode cX10_foldPick 21 = .ok (.iload_n 3, 1) := by decide +kernel
theorem dX10_foldPick_22 : decode cX10_foldPick 22 = .ok (.invokevirtual 106, 3) := by decide +kernel
theorem dX10_foldPick_25 : decode cX10_foldPick 25 = .ok (.istore 4, 2) := by decide +kernel
theorem dX10_foldPick_27 : decode cX10_foldPick 27 = .ok (.aload_n 0, 1) := by decide +kernel
theorem dX10_foldPick_28 : decode cX10_foldPick 28 = .ok (.getfield 32, 3) := by decide +kernel
theorem dX10_foldPick_31 : decode cX10_foldPick 31 = .ok (.iload_n 2, 1) := by decide +kernel
theorem dX10_foldPick_32 : decode cX10_foldPick 32 = .ok (.laload, 1) := by decide +kernel
theorem dX10_foldPick_33 : decode cX10_foldPick 33 = .ok (.lconst 0, 1) := by decide +kernel
theorem dX10_foldPick_34 : decode cX10_foldPick 34 = .ok (.lcmp, 1) := by decide +kernel
theorem dX10_foldPick_35 : decode cX10_foldPick 35 = .ok (.ifCond .ne 13, 3) := by decide +kernel
theorem dX10_foldPick_38 : decode cX10_foldPick 38 = .ok (.aload_n 0, 1) := by decide +kernel
theorem dX10_foldPick_39 : decode cX10_foldPick 39 = .ok (.iload_n 1, 1) := by decide +kernel
theorem dX10_foldPick_40 : decode cX10_foldPick 40 = .ok (.iload 4, 2) := by decide +kernel
theorem dX10_foldPick_42 : decode cX10_foldPick 42 = .ok (.invokevirtual 199, 3) := by decide +kernel
theorem dX10_foldPick_45 : decode cX10_foldPick 45 = .ok (.goto 15, 3) := by decide +kernel
theorem dX10_foldPick_48 : decode cX10_foldPick 48 = .ok (.aload_n 0, 1) := by decide +kernel
theorem dX10_foldPick_49 : decode cX10_foldPick 49 = .ok (.iload 4, 2) := by decide +kernel
theorem dX10_foldPick_51 : decode cX10_foldPick 51 = .ok (.putfield 90, 3) := by decide +kernel
theorem dX10_foldPick_54 : decode cX10_foldPick 54 = .ok (.aload_n 0, 1) := by decide +kernel
theorem dX10_foldPick_55 : decode cX10_foldPick 55 = .ok (.iload_n 1, 1) := by decide +kernel
theorem dX10_foldPick_56 : decode cX10_foldPick 56 = .ok (.iload_n 3, 1) := by decide +kernel
theorem dX10_foldPick_57 : decode cX10_foldPick 57 = .ok (.invokevirtual 199, 3) := by decide +kernel
theorem dX10_foldPick_60 : decode cX10_foldPick 60 = .ok (.return_, 1) := by decide +kernel
theorem dX10_derive_0 : decode cX10_derive 0 = .ok (.aload_n 0, 1) := by decide +kernel
theorem dX10_derive_1 : decode cX10_derive 1 = .ok (.getfield 94, 3) := by decide +kernel
theorem dX10_derive_4 : decode cX10_derive 4 = .ok (.ifCond .eq 4, 3) := by decide +kernel
theorem dX10_derive_7 : decode cX10_derive 7 = .ok (.return_, 1) := by decide +kernel
theorem dX10_derive_8 : decode cX10_derive 8 = .ok (.iload_n 2, 1) := by decide +kernel
theorem dX10_derive_9 : decode cX10_derive 9 = .ok (.iconst 1, 1) := by decide +kernel
theorem dX10_derive_10 : decode cX10_derive 10 = .ok (.iadd, 1) := by decide +kernel
theorem dX10_derive_11 : decode cX10_derive 11 = .ok (.istore 4, 2) := by decide +kernel
theorem dX10_derive_13 : decode cX10_derive 13 = .ok (.aload_n 0, 1) := by decide +kernel
theorem dX10_derive_14 : decode cX10_derive 14 = .ok (.getfield 15, 3) := by decide +kernel
theorem dX10_derive_17 : decode cX10_derive 17 = .ok (.iload_n 1, 1) := by decide +kernel
theorem dX10_derive_18 : decode cX10_derive 18 = .ok (.aaload, 1) := by decide +kernel
theorem dX10_derive_19 : decode cX10_derive 19 = .ok (.iload_n 2, 1) := by decide +kernel
theorem dX10_derive_20 : decode cX10_derive 20 = .ok (.iaload, 1) := by decide +kernel
theorem dX10_derive_21 : decode cX10_derive 21 = .ok (.tableswitch 237 0 7 #[47, 56, 83, 100, 129, 159, 237, 146], 47) := by decide +kernel
theorem dX10_derive_68 : decode cX10_derive 68 = .ok (.aload_n 0, 1) := by decide +kernel
theorem dX10_derive_69 : decode cX10_derive 69 = .ok (.iconst 0, 1) := by decide +kernel
theorem dX10_derive_70 : decode cX10_derive 70 = .ok (.lconst 0, 1) := by decide +kernel
theorem dX10_derive_71 : decode cX10_derive 71 = .ok (.invokevirtual 102, 3) := by decide +kernel
theorem dX10_derive_74 : decode cX10_derive 74 = .ok (.goto 222, 3) := by decide +kernel
theorem dX10_derive_77 : decode cX10_derive 77 = .ok (.aload_n 0, 1) := by decide +kernel
theorem dX10_derive_78 : decode cX10_derive 78 = .ok (.iconst 0, 1) := by decide +kernel
theorem dX10_derive_79 : decode cX10_derive 79 = .ok (.aload_n 0, 1) := by decide +kernel
theorem dX10_derive_80 : decode cX10_derive 80 = .ok (.getfield 20, 3) := by decide +kernel
theorem dX10_derive_83 : decode cX10_derive 83 = .ok (.iload_n 1, 1) := by decide +kernel
theorem dX10_derive_84 : decode cX10_derive 84 = .ok (.aaload, 1) := by decide +kernel
theorem dX10_derive_85 : decode cX10_derive 85 = .ok (.iload_n 2, 1) := by decide +kernel
theorem dX10_derive_86 : decode cX10_derive 86 = .ok (.laload, 1) := by decide +kernel
theorem dX10_derive_87 : decode cX10_derive 87 = .ok (.iload_n 3, 1) := by decide +kernel
theorem dX10_derive_88 : decode cX10_derive 88 = .ok (.i2l, 1) := by decide +kernel
theorem dX10_derive_89 : decode cX10_derive 89 = .ok (.lcmp, 1) := by decide +kernel
theorem dX10_derive_90 : decode cX10_derive 90 = .ok (.ifCond .ne 7, 3) := by decide +kernel
theorem dX10_derive_93 : decode cX10_derive 93 = .ok (.lconst 1, 1) := by decide +kernel
theorem dX10_derive_94 : decode cX10_derive 94 = .ok (.goto 4, 3) := by decide +kernel
theorem dX10_derive_97 : decode cX10_derive 97 = .ok (.lconst 0, 1) := by decide +kernel
theorem dX10_derive_98 : decode cX10_derive 98 = .ok (.invokevirtual 102, 3) := by decide +kernel
theorem dX10_derive_101 : decode cX10_derive 101 = .ok (.goto 195, 3) := by decide +kernel
theorem dX10_derive_104 : decode cX10_derive 104 = .ok (.aload_n 0, 1) := by decide +kernel
theorem dX10_derive_105 : decode cX10_derive 105 = .ok (.iconst 2, 1) := by decide +kernel
theorem dX10_derive_106 : decode cX10_derive 106 = .ok (.lconst 0, 1) := by decide +kernel
theorem dX10_derive_107 : decode cX10_derive 107 = .ok (.invokevirtual 102, 3) := by decide +kernel
theorem dX10_derive_110 : decode cX10_derive 110 = .ok (.aload_n 0, 1) := by decide +kernel
theorem dX10_derive_111 : decode cX10_derive 111 = .ok (.iload_n 1, 1) := by decide +kernel
theorem dX10_derive_112 : decode cX10_derive 112 = .ok (.iload 4, 2) := by decide +kernel
theorem dX10_derive_114 : decode cX10_derive 114 = .ok (.iload_n 3, 1) := by decide +kernel
theorem dX10_derive_115 : decode cX10_derive 115 = .ok (.invokevirtual 222, 3) := by decide +kernel
theorem dX10_derive_118 : decode cX10_derive 118 = .ok (.goto 178, 3) := by decide +kernel
theorem dX10_derive_121 : decode cX10_derive 121 = .ok (.aload_n 0, 1) := by decide +kernel
theorem dX10_derive_122 : decode cX10_derive 122 = .ok (.iconst 3, 1) := by decide +kernel
theorem dX10_derive_123 : decode cX10_derive 123 = .ok (.lconst 0, 1) := by decide +kernel
theorem dX10_derive_124 : decode cX10_derive 124 = .ok (.invokevirtual 102, 3) := by decide +kernel
theorem dX10_derive_127 : decode cX10_derive 127 = .ok (.aload_n 0, 1) := by decide +kernel
theorem dX10_derive_128 : decode cX10_derive 128 = .ok (.iload_n 1, 1) := by decide +kernel
theorem dX10_derive_129 : decode cX10_derive 129 = .ok (.iload 4, 2) := by decide +kernel
theorem dX10_derive_131 : decode cX10_derive 131 = .ok (.iload_n 3, 1) := by decide +kernel
theorem dX10_derive_132 : decode cX10_derive 132 = .ok (.invokevirtual 222, 3) := by decide +kernel
theorem dX10_derive_135 : decode cX10_derive 135 = .ok (.aload_n 0, 1) := by decide +kernel
theorem dX10_derive_136 : decode cX10_derive 136 = .ok (.iload_n 1, 1) := by decide +kernel
theorem dX10_derive_137 : decode cX10_derive 137 = .ok (.aload_n 0, 1) := by decide +kernel
theorem dX10_derive_138 : decode cX10_derive 138 = .ok (.iload_n 1, 1) := by decide +kernel
theorem dX10_derive_139 : decode cX10_derive 139 = .ok (.iload_n 2, 1) := by decide +kernel
theorem dX10_derive_140 : decode cX10_derive 140 = .ok (.invokevirtual 109, 3) := by decide +kernel
theorem dX10_derive_143 : decode cX10_derive 143 = .ok (.iload_n 3, 1) := by decide +kernel
theorem dX10_derive_144 : decode cX10_derive 144 = .ok (.invokevirtual 222, 3) := by decide +kernel
theorem dX10_derive_147 : decode cX10_derive 147 = .ok (.goto 149, 3) := by decide +kernel
theorem dX10_derive_150 : decode cX10_derive 150 = .ok (.aload_n 0, 1) := by decide +kernel
theorem dX10_derive_151 : decode cX10_derive 151 = .ok (.iload_n 1, 1) := by decide +kernel
theorem dX10_derive_152 : decode cX10_derive 152 = .ok (.iload 4, 2) := by decide +kernel
theorem dX10_derive_154 : decode cX10_derive 154 = .ok (.aload_n 0, 1) := by decide +kernel
theorem dX10_derive_155 : decode cX10_derive 155 = .ok (.iload_n 1, 1) := by decide +kernel
theorem dX10_derive_156 : decode cX10_derive 156 = .ok (.iload_n 2, 1) := by decide +kernel
theorem dX10_derive_157 : decode cX10_derive 157 = .ok (.invokevirtual 109, 3) := by decide +kernel
theorem dX10_derive_160 : decode cX10_derive 160 = .ok (.iload_n 3, 1) := by decide +kernel
theorem dX10_derive_161 : decode cX10_derive 161 = .ok (.invokevirtual 226, 3) := by decide +kernel
theorem dX10_derive_164 : decode cX10_derive 164 = .ok (.goto 132, 3) := by decide +kernel
theorem dX10_derive_167 : decode cX10_derive 167 = .ok (.aload_n 0, 1) := by decide +kernel
theorem dX10_derive_168 : decode cX10_derive 168 = .ok (.iload_n 1, 1) := by decide +kernel
theorem dX10_derive_169 : decode cX10_derive 169 = .ok (.iload 4, 2) := by decide +kernel
theorem dX10_derive_171 : decode cX10_derive 171 = .ok (.iload 4, 2) := by decide +kernel
theorem dX10_derive_173 : decode cX10_derive 173 = .ok (.iload_n 3, 1) := by decide +kernel
theorem dX10_derive_174 : decode cX10_derive 174 = .ok (.invokevirtual 226, 3) := by decide +kernel
theorem dX10_derive_177 : decode cX10_derive 177 = .ok (.goto 119, 3) := by decide +kernel
theorem dX10_derive_180 : decode cX10_derive 180 = .ok (.aload_n 0, 1) := by decide +kernel
theorem dX10_derive_181 : decode cX10_derive 181 = .ok (.getfield 20, 3) := by decide +kernel
theorem dX10_derive_184 : decode cX10_derive 184 = .ok (.iload_n 1, 1) := by decide +kernel
theorem dX10_derive_185 : decode cX10_derive 185 = .ok (.aaload, 1) := by decide +kernel
theorem dX10_derive_186 : decode cX10_derive 186 = .ok (.iload_n 2, 1) := by decide +kernel
theorem dX10_derive_187 : decode cX10_derive 187 = .ok (.laload, 1) := by decide +kernel
theorem dX10_derive_188 : decode cX10_derive 188 = .ok (.lconst 0, 1) := by decide +kernel
theorem dX10_derive_189 : decode cX10_derive 189 = .ok (.lcmp, 1) := by decide +kernel
theorem dX10_derive_190 : decode cX10_derive 190 = .ok (.ifCond .ne 10, 3) := by decide +kernel
theorem dX10_derive_193 : decode cX10_derive 193 = .ok (.aload_n 0, 1) := by decide +kernel
theorem dX10_derive_194 : decode cX10_derive 194 = .ok (.iconst 0, 1) := by decide +kernel
theorem dX10_derive_195 : decode cX10_derive 195 = .ok (.lconst 0, 1) := by decide +kernel
theorem dX10_derive_196 : decode cX10_derive 196 = .ok (.invokevirtual 102, 3) := by decide +kernel
theorem dX10_derive_199 : decode cX10_derive 199 = .ok (.return_, 1) := by decide +kernel
theorem dX10_derive_200 : decode cX10_derive 200 = .ok (.aload_n 0, 1) := by decide +kernel
theorem dX10_derive_201 : decode cX10_derive 201 = .ok (.iconst 4, 1) := by decide +kernel
theorem dX10_derive_202 : decode cX10_derive 202 = .ok (.lconst 0, 1) := by decide +kernel
theorem dX10_derive_203 : decode cX10_derive 203 = .ok (.invokevirtual 102, 3) := by decide +kernel
theorem dX10_derive_206 : decode cX10_derive 206 = .ok (.aload_n 0, 1) := by decide +kernel
theorem dX10_derive_207 : decode cX10_derive 207 = .ok (.iconst 4, 1) := by decide +kernel
theorem dX10_derive_208 : decode cX10_derive 208 = .ok (.lconst 0, 1) := by decide +kernel
theorem dX10_derive_209 : decode cX10_derive 209 = .ok (.invokevirtual 102, 3) := by decide +kernel
theorem dX10_derive_212 : decode cX10_derive 212 = .ok (.aload_n 0, 1) := by decide +kernel
theorem dX10_derive_213 : decode cX10_derive 213 = .ok (.iconst 0, 1) := by decide +kernel
theorem dX10_derive_214 : decode cX10_derive 214 = .ok (.aload_n 0, 1) := by decide +kernel
theorem dX10_derive_215 : decode cX10_derive 215 = .ok (.getfield 20, 3) := by decide +kernel
theorem dX10_derive_218 : decode cX10_derive 218 = .ok (.iload_n 1, 1) := by decide +kernel
theorem dX10_derive_219 : decode cX10_derive 219 = .ok (.aaload, 1) := by decide +kernel
theorem dX10_derive_220 : decode cX10_derive 220 = .ok (.iload_n 2, 1) := by decide +kernel
theorem dX10_derive_221 : decode cX10_derive 221 = .ok (.laload, 1) := by decide +kernel
theorem dX10_derive_222 : decode cX10_derive 222 = .ok (.invokevirtual 102, 3) := by decide +kernel
theorem dX10_derive_225 : decode cX10_derive 225 = .ok (.aload_n 0, 1) := by decide +kernel
theorem dX10_derive_226 : decode cX10_derive 226 = .ok (.iconst 5, 1) := by decide +kernel
theorem dX10_derive_227 : decode cX10_derive 227 = .ok (.aload_n 0, 1) := by decide +kernel
theorem dX10_derive_228 : decode cX10_derive 228 = .ok (.getfield 20, 3) := by decide +kernel
theorem dX10_derive_231 : decode cX10_derive 231 = .ok (.iload_n 1, 1) := by decide +kernel
theorem dX10_derive_232 : decode cX10_derive 232 = .ok (.aaload, 1) := by decide +kernel
theorem dX10_derive_233 : decode cX10_derive 233 = .ok (.iload_n 2, 1) := by decide +kernel
theorem dX10_derive_234 : decode cX10_derive 234 = .ok (.laload, 1) := by decide +kernel
theorem dX10_derive_235 : decode cX10_derive 235 = .ok (.lconst 1, 1) := by decide +kernel
theorem dX10_derive_236 : decode cX10_derive 236 = .ok (.lsub, 1) := by decide +kernel
theorem dX10_derive_237 : decode cX10_derive 237 = .ok (.invokevirtual 102, 3) := by decide +kernel
theorem dX10_derive_240 : decode cX10_derive 240 = .ok (.aload_n 0, 1) := by decide +kernel
theorem dX10_derive_241 : decode cX10_derive 241 = .ok (.iload_n 1, 1) := by decide +kernel
theorem dX10_derive_242 : decode cX10_derive 242 = .ok (.iload 4, 2) := by decide +kernel
theorem dX10_derive_244 : decode cX10_derive 244 = .ok (.invokevirtual 230, 3) := by decide +kernel
theorem dX10_derive_247 : decode cX10_derive 247 = .ok (.aload_n 0, 1) := by decide +kernel
theorem dX10_derive_248 : decode cX10_derive 248 = .ok (.iload_n 1, 1) := by decide +kernel
theorem dX10_derive_249 : decode cX10_derive 249 = .ok (.iload 4, 2) := by decide +kernel
theorem dX10_derive_251 : decode cX10_derive 251 = .ok (.iload_n 3, 1) := by decide +kernel
theorem dX10_derive_252 : decode cX10_derive 252 = .ok (.invokevirtual 222, 3) := by decide +kernel
theorem dX10_derive_255 : decode cX10_derive 255 = .ok (.goto 41, 3) := by decide +kernel
theorem dX10_derive_258 : decode cX10_derive 258 = .ok (.aload_n 0, 1) := by decide +kernel
theorem dX10_derive_259 : decode cX10_derive 259 = .ok (.bipush 6, 2) := by decide +kernel
theorem dX10_derive_261 : decode cX10_derive 261 = .ok (.lconst 0, 1) := by decide +kernel
theorem dX10_derive_262 : decode cX10_derive 262 = .ok (.invokevirtual 102, 3) := by decide +kernel
theorem dX10_derive_265 : decode cX10_derive 265 = .ok (.aload_n 0, 1) := by decide +kernel
theorem dX10_derive_266 : decode cX10_derive 266 = .ok (.iload_n 1, 1) := by decide +kernel
theorem dX10_derive_267 : decode cX10_derive 267 = .ok (.iload 4, 2) := by decide +kernel
theorem dX10_derive_269 : decode cX10_derive 269 = .ok (.invokevirtual 230, 3) := by decide +kernel
theorem dX10_derive_272 : decode cX10_derive 272 = .ok (.aload_n 0, 1) := by decide +kernel
theorem dX10_derive_273 : decode cX10_derive 273 = .ok (.iload_n 1, 1) := by decide +kernel
theorem dX10_derive_274 : decode cX10_derive 274 = .ok (.aload_n 0, 1) := by decide +kernel
theorem dX10_derive_275 : decode cX10_derive 275 = .ok (.iload_n 1, 1) := by decide +kernel
theorem dX10_derive_276 : decode cX10_derive 276 = .ok (.iload_n 2, 1) := by decide +kernel
theorem dX10_derive_277 : decode cX10_derive 277 = .ok (.invokevirtual 109, 3) := by decide +kernel
theorem dX10_derive_280 : decode cX10_derive 280 = .ok (.iload_n 3, 1) := by decide +kernel
theorem dX10_derive_281 : decode cX10_derive 281 = .ok (.invokevirtual 222, 3) := by decide +kernel
theorem dX10_derive_284 : decode cX10_derive 284 = .ok (.aload_n 0, 1) := by decide +kernel
theorem dX10_derive_285 : decode cX10_derive 285 = .ok (.iload_n 1, 1) := by decide +kernel
theorem dX10_derive_286 : decode cX10_derive 286 = .ok (.aload_n 0, 1) := by decide +kernel
theorem dX10_derive_287 : decode cX10_derive 287 = .ok (.iload_n 1, 1) := by decide +kernel
theorem dX10_derive_288 : decode cX10_derive 288 = .ok (.iload_n 2, 1) := by decide +kernel
theorem dX10_derive_289 : decode cX10_derive 289 = .ok (.invokevirtual 233, 3) := by decide +kernel
theorem dX10_derive_292 : decode cX10_derive 292 = .ok (.iload_n 3, 1) := by decide +kernel
theorem dX10_derive_293 : decode cX10_derive 293 = .ok (.invokevirtual 222, 3) := by decide +kernel
theorem dX10_derive_296 : decode cX10_derive 296 = .ok (.return_, 1) := by decide +kernel
theorem dX10_deriveProduct_0 : decode cX10_deriveProduct 0 = .ok (.aload_n 0, 1) := by decide +kernel
theorem dX10_deriveProduct_1 : decode cX10_deriveProduct 1 = .ok (.iconst 3, 1) := by decide +kernel
theorem dX10_deriveProduct_2 : decode cX10_deriveProduct 2 = .ok (.lconst 0, 1) := by decide +kernel
theorem dX10_deriveProduct_3 : decode cX10_deriveProduct 3 = .ok (.invokevirtual 102, 3) := by decide +kernel
theorem dX10_deriveProduct_6 : decode cX10_deriveProduct 6 = .ok (.aload_n 0, 1) := by decide +kernel
theorem dX10_deriveProduct_7 : decode cX10_deriveProduct 7 = .ok (.iconst 4, 1) := by decide +kernel
theorem dX10_deriveProduct_8 : decode cX10_deriveProduct 8 = .ok (.lconst 0, 1) := by decide +kernel
theorem dX10_deriveProduct_9 : decode cX10_deriveProduct 9 = .ok (.invokevirtual 102, 3) := by decide +kernel
theorem dX10_deriveProduct_12 : decode cX10_deriveProduct 12 = .ok (.aload_n 0, 1) := by decide +kernel
theorem dX10_deriveProduct_13 : decode cX10_deriveProduct 13 = .ok (.iload_n 1, 1) := by decide +kernel
theorem dX10_deriveProduct_14 : decode cX10_deriveProduct 14 = .ok (.iload_n 2, 1) := by decide +kernel
theorem dX10_deriveProduct_15 : decode cX10_deriveProduct 15 = .ok (.iload 4, 2) := by decide +kernel
theorem dX10_deriveProduct_17 : decode cX10_deriveProduct 17 = .ok (.invokevirtual 222, 3) := by decide +kernel
theorem dX10_deriveProduct_20 : decode cX10_deriveProduct 20 = .ok (.aload_n 0, 1) := by decide +kernel
theorem dX10_deriveProduct_21 : decode cX10_deriveProduct 21 = .ok (.iload_n 1, 1) := by decide +kernel
theorem dX10_deriveProduct_22 : decode cX10_deriveProduct 22 = .ok (.iload_n 3, 1) := by decide +kernel
theorem dX10_deriveProduct_23 : decode cX10_deriveProduct 23 = .ok (.invokevirtual 230, 3) := by decide +kernel
theorem dX10_deriveProduct_26 : decode cX10_deriveProduct 26 = .ok (.aload_n 0, 1) := by decide +kernel
theorem dX10_deriveProduct_27 : decode cX10_deriveProduct 27 = .ok (.iconst 4, 1) := by decide +kernel
theorem dX10_deriveProduct_28 : decode cX10_deriveProduct 28 = .ok (.lconst 0, 1) := by decide +kernel
theorem dX10_deriveProduct_29 : decode cX10_deriveProduct 29 = .ok (.invokevirtual 102, 3) := by decide +kernel
theorem dX10_deriveProduct_32 : decode cX10_deriveProduct 32 = .ok (.aload_n 0, 1) := by decide +kernel
theorem dX10_deriveProduct_33 : decode cX10_deriveProduct 33 = .ok (.iload_n 1, 1) := by decide +kernel
theorem dX10_deriveProduct_34 : decode cX10_deriveProduct 34 = .ok (.iload_n 2, 1) := by decide +kernel
theorem dX10_deriveProduct_35 : decode cX10_deriveProduct 35 = .ok (.invokevirtual 230, 3) := by decide +kernel
theorem dX10_deriveProduct_38 : decode cX10_deriveProduct 38 = .ok (.aload_n 0, 1) := by decide +kernel
theorem dX10_deriveProduct_39 : decode cX10_deriveProduct 39 = .ok (.iload_n 1, 1) := by decide +kernel
theorem dX10_deriveProduct_40 : decode cX10_deriveProduct 40 = .ok (.iload_n 3, 1) := by decide +kernel
theorem dX10_deriveProduct_41 : decode cX10_deriveProduct 41 = .ok (.iload 4, 2) := by decide +kernel
theorem dX10_deriveProduct_43 : decode cX10_deriveProduct 43 = .ok (.invokevirtual 222, 3) := by decide +kernel
theorem dX10_deriveProduct_46 : decode cX10_deriveProduct 46 = .ok (.return_, 1) := by decide +kernel
theorem dX10_replace_0 : decode cX10_replace 0 = .ok (.iconst 0, 1) := by decide +kernel
theorem dX10_replace_1 : decode cX10_replace 1 = .ok (.istore 4, 2) := by decide +kernel
theorem dX10_replace_3 : decode cX10_replace 3 = .ok (.iload 4, 2) := by decide +kernel
theorem dX10_replace_5 : decode cX10_replace 5 = .ok (.aload_n 0, 1) := by decide +kernel
theorem dX10_replace_6 : decode cX10_replace 6 = .ok (.getfield 9, 3) := by decide +kernel
theorem dX10_replace_9 : decode cX10_replace 9 = .ok (.iload_n 1, 1) := by decide +kernel
theorem dX10_replace_10 : decode cX10_replace 10 = .ok (.iaload, 1) := by decide +kernel
theorem dX10_replace_11 : decode cX10_replace 11 = .ok (.if_icmp .ge 75, 3) := by decide +kernel
theorem dX10_replace_14 : decode cX10_replace 14 = .ok (.aload_n 0, 1) := by decide +kernel
theorem dX10_replace_15 : decode cX10_replace 15 = .ok (.getfield 94, 3) := by decide +kernel
theorem dX10_replace_18 : decode cX10_replace 18 = .ok (.ifCond .ne 68, 3) := by decide +kernel
theorem dX10_replace_21 : decode cX10_replace 21 = .ok (.aload_n 0, 1) := by decide +kernel
theorem dX10_replace_22 : decode cX10_replace 22 = .ok (.getfield 15, 3) := by decide +kernel
theorem dX10_replace_25 : decode cX10_replace 25 = .ok (.iload_n 1, 1) := by decide +kernel
theorem dX10_replace_26 : decode cX10_replace 26 = .ok (.aaload, 1) := by decide +kernel
theorem dX10_replace_27 : decode cX10_replace 27 = .ok (.iload 4, 2) := by decide +kernel
theorem dX10_replace_29 : decode cX10_replace 29 = .ok (.iaload, 1) := by decide +kernel
theorem dX10_replace_30 : decode cX10_replace 30 = .ok (.iconst 1, 1) := by decide +kernel
theorem dX10_replace_31 : decode cX10_replace 31 = .ok (.if_icmp .ne 27, 3) := by decide +kernel
theorem dX10_replace_34 : decode cX10_replace 34 = .ok (.aload_n 0, 1) := by decide +kernel
theorem dX10_replace_35 : decode cX10_replace 35 = .ok (.getfield 20, 3) := by decide +kernel
theorem dX10_replace_38 : decode cX10_replace 38 = .ok (.iload_n 1, 1) := by decide +kernel
theorem dX10_replace_39 : decode cX10_replace 39 = .ok (.aaload, 1) := by decide +kernel
theorem dX10_replace_40 : decode cX10_replace 40 = .ok (.iload 4, 2) := by decide +kernel
theorem dX10_replace_42 : decode cX10_replace 42 = .ok (.laload, 1) := by decide +kernel
theorem dX10_replace_43 : decode cX10_replace 43 = .ok (.iload_n 2, 1) := by decide +kernel
theorem dX10_replace_44 : decode cX10_replace 44 = .ok (.i2l, 1) := by decide +kernel
theorem dX10_replace_45 : decode cX10_replace 45 = .ok (.lcmp, 1) := by decide +kernel
theorem dX10_replace_46 : decode cX10_replace 46 = .ok (.ifCond .ne 12, 3) := by decide +kernel
theorem dX10_replace_49 : decode cX10_replace 49 = .ok (.aload_n 0, 1) := by decide +kernel
theorem dX10_replace_50 : decode cX10_replace 50 = .ok (.iload_n 3, 1) := by decide +kernel
theorem dX10_replace_51 : decode cX10_replace 51 = .ok (.iconst 0, 1) := by decide +kernel
theorem dX10_replace_52 : decode cX10_replace 52 = .ok (.invokevirtual 230, 3) := by decide +kernel
theorem dX10_replace_55 : decode cX10_replace 55 = .ok (.goto 25, 3) := by decide +kernel
theorem dX10_replace_58 : decode cX10_replace 58 = .ok (.aload_n 0, 1) := by decide +kernel
theorem dX10_replace_59 : decode cX10_replace 59 = .ok (.aload_n 0, 1) := by decide +kernel
theorem dX10_replace_60 : decode cX10_replace 60 = .ok (.getfield 15, 3) := by decide +kernel
theorem dX10_replace_63 : decode cX10_replace 63 = .ok (.iload_n 1, 1) := by decide +kernel
theorem dX10_replace_64 : decode cX10_replace 64 = .ok (.aaload, 1) := by decide +kernel
theorem dX10_replace_65 : decode cX10_replace 65 = .ok (.iload 4, 2) := by decide +kernel
theorem dX10_replace_67 : decode cX10_replace 67 = .ok (.iaload, 1) := by decide +kernel
theorem dX10_replace_68 : decode cX10_replace 68 = .ok (.aload_n 0, 1) := by decide +kernel
theorem dX10_replace_69 : decode cX10_replace 69 = .ok (.getfield 20, 3) := by decide +kernel
theorem dX10_replace_72 : decode cX10_replace 72 = .ok (.iload_n 1, 1) := by decide +kernel
theorem dX10_replace_73 : decode cX10_replace 73 = .ok (.aaload, 1) := by decide +kernel
theorem dX10_replace_74 : decode cX10_replace 74 = .ok (.iload 4, 2) := by decide +kernel
theorem dX10_replace_76 : decode cX10_replace 76 = .ok (.laload, 1) := by decide +kernel
theorem dX10_replace_77 : decode cX10_replace 77 = .ok (.invokevirtual 102, 3) := by decide +kernel
theorem dX10_replace_80 : decode cX10_replace 80 = .ok (.iinc 4 1, 3) := by decide +kernel
theorem dX10_replace_83 : decode cX10_replace 83 = .ok (.goto (-80), 3) := by decide +kernel
theorem dX10_replace_86 : decode cX10_replace 86 = .ok (.return_, 1) := by decide +kernel
theorem dX10_turn_0 : decode cX10_turn 0 = .ok (.iload_n 2, 1) := by decide +kernel
theorem dX10_turn_1 : decode cX10_turn 1 = .ok (.bipush 20, 2) := by decide +kernel
theorem dX10_turn_3 : decode cX10_turn 3 = .ok (.bipush 27, 2) := by decide +kernel
theorem dX10_turn_5 : decode cX10_turn 5 = .ok (.invokestatic 84, 3) := by decide +kernel
theorem dX10_turn_8 : decode cX10_turn 8 = .ok (.ifCond .ne 9, 3) := by decide +kernel
theorem dX10_turn_11 : decode cX10_turn 11 = .ok (.iload_n 2, 1) := by decide +kernel
theorem dX10_turn_12 : decode cX10_turn 12 = .ok (.bipush 30, 2) := by decide +kernel
theorem dX10_turn_14 : decode cX10_turn 14 = .ok (.if_icmp .ne 7, 3) := by decide +kernel
theorem dX10_turn_17 : decode cX10_turn 17 = .ok (.iconst 1, 1) := by decide +kernel
theorem dX10_turn_18 : decode cX10_turn 18 = .ok (.goto 4, 3) := by decide +kernel
theorem dX10_turn_21 : decode cX10_turn 21 = .ok (.iconst 0, 1) := by decide +kernel
theorem dX10_turn_22 : decode cX10_turn 22 = .ok (.istore 4, 2) := by decide +kernel
theorem dX10_turn_24 : decode cX10_turn 24 = .ok (.iload_n 1, 1) := by decide +kernel
theorem dX10_turn_25 : decode cX10_turn 25 = .ok (.invokestatic 181, 3) := by decide +kernel
theorem dX10_turn_28 : decode cX10_turn 28 = .ok (.ifCond .eq 40, 3) := by decide +kernel
theorem dX10_turn_31 : decode cX10_turn 31 = .ok (.iload_n 2, 1) := by decide +kernel
theorem dX10_turn_32 : decode cX10_turn 32 = .ok (.iconst 0, 1) := by decide +kernel
theorem dX10_turn_33 : decode cX10_turn 33 = .ok (.iconst 1, 1) := by decide +kernel
theorem dX10_turn_34 : decode cX10_turn 34 = .ok (.invokestatic 84, 3) := by decide +kernel
theorem dX10_turn_37 : decode cX10_turn 37 = .ok (.ifCond .ne 19, 3) := by decide +kernel
theorem dX10_turn_40 : decode cX10_turn 40 = .ok (.iload_n 2, 1) := by decide +kernel
theorem dX10_turn_41 : decode cX10_turn 41 = .ok (.bipush 10, 2) := by decide +kernel
theorem dX10_turn_43 : decode cX10_turn 43 = .ok (.bipush 17, 2) := by decide +kernel
theorem dX10_turn_45 : decode cX10_turn 45 = .ok (.invokestatic 84, 3) := by decide +kernel
theorem dX10_turn_48 : decode cX10_turn 48 = .ok (.ifCond .ne 8, 3) := by decide +kernel
theorem dX10_turn_51 : decode cX10_turn 51 = .ok (.iload 4, 2) := by decide +kernel
theorem dX10_turn_53 : decode cX10_turn 53 = .ok (.ifCond .eq 15, 3) := by decide +kernel
theorem dX10_turn_56 : decode cX10_turn 56 = .ok (.iload 4, 2) := by decide +kernel
theorem dX10_turn_58 : decode cX10_turn 58 = .ok (.ifCond .eq 13, 3) := by decide +kernel
theorem dX10_turn_61 : decode cX10_turn 61 = .ok (.iload_n 3, 1) := by decide +kernel
theorem dX10_turn_62 : decode cX10_turn 62 = .ok (.invokestatic 181, 3) := by decide +kernel
theorem dX10_turn_65 : decode cX10_turn 65 = .ok (.ifCond .ne 6, 3) := by decide +kernel
theorem dX10_turn_68 : decode cX10_turn 68 = .ok (.bipush (-2), 2) := by decide +kernel
theorem dX10_turn_70 : decode cX10_turn 70 = .ok (.ireturn, 1) := by decide +kernel
theorem dX10_turn_71 : decode cX10_turn 71 = .ok (.iload_n 2, 1) := by decide +kernel
theorem dX10_turn_72 : decode cX10_turn 72 = .ok (.ifCond .eq 18, 3) := by decide +kernel
theorem dX10_turn_75 : decode cX10_turn 75 = .ok (.iload_n 2, 1) := by decide +kernel
theorem dX10_turn_76 : decode cX10_turn 76 = .ok (.bipush 30, 2) := by decide +kernel
theorem dX10_turn_78 : decode cX10_turn 78 = .ok (.if_icmp .eq 12, 3) := by decide +kernel
theorem dX10_turn_81 : decode cX10_turn 81 = .ok (.aload_n 0, 1) := by decide +kernel
theorem dX10_turn_82 : decode cX10_turn 82 = .ok (.getfield 9, 3) := by decide +kernel
theorem dX10_turn_85 : decode cX10_turn 85 = .ok (.iload_n 1, 1) := by decide +kernel
theorem dX10_turn_86 : decode cX10_turn 86 = .ok (.iaload, 1) := by decide +kernel
theorem dX10_turn_87 : decode cX10_turn 87 = .ok (.ifCond .eq 17, 3) := by decide +kernel
theorem dX10_turn_90 : decode cX10_turn 90 = .ok (.iload 4, 2) := by decide +kernel
theorem dX10_turn_92 : decode cX10_turn 92 = .ok (.ifCond .eq 15, 3) := by decide +kernel
theorem dX10_turn_95 : decode cX10_turn 95 = .ok (.aload_n 0, 1) := by decide +kernel
theorem dX10_turn_96 : decode cX10_turn 96 = .ok (.getfield 9, 3) := by decide +kernel
theorem dX10_turn_99 : decode cX10_turn 99 = .ok (.iload_n 3, 1) := by decide +kernel
theorem dX10_turn_100 : decode cX10_turn 100 = .ok (.iaload, 1) := by decide +kernel
theorem dX10_turn_101 : decode cX10_turn 101 = .ok (.ifCond .ne 6, 3) := by decide +kernel
theorem dX10_turn_104 : decode cX10_turn 104 = .ok (.bipush (-3), 2) := by decide +kernel
theorem dX10_turn_106 : decode cX10_turn 106 = .ok (.ireturn, 1) := by decide +kernel
theorem dX10_turn_107 : decode cX10_turn 107 = .ok (.aload_n 0, 1) := by decide +kernel
theorem dX10_turn_108 : decode cX10_turn 108 = .ok (.invokevirtual 184, 3) := by decide +kernel
theorem dX10_turn_111 : decode cX10_turn 111 = .ok (.iload_n 2, 1) := by decide +kernel
theorem dX10_turn_112 : decode cX10_turn 112 = .ok (.iconst 1, 1) := by decide +kernel
theorem dX10_turn_113 : decode cX10_turn 113 = .ok (.if_icmp .ne 9, 3) := by decide +kernel
theorem dX10_turn_116 : decode cX10_turn 116 = .ok (.aload_n 0, 1) := by decide +kernel
theorem dX10_turn_117 : decode cX10_turn 117 = .ok (.iload_n 1, 1) := by decide +kernel
theorem dX10_turn_118 : decode cX10_turn 118 = .ok (.iconst 0, 1) := by decide +kernel
theorem dX10_turn_119 : decode cX10_turn 119 = .ok (.invokevirtual 192, 3) := by decide +kernel
theorem dX10_turn_122 : decode cX10_turn 122 = .ok (.iload_n 2, 1) := by decide +kernel
theorem dX10_turn_123 : decode cX10_turn 123 = .ok (.bipush 10, 2) := by decide +kernel
theorem dX10_turn_125 : decode cX10_turn 125 = .ok (.bipush 17, 2) := by decide +kernel
theorem dX10_turn_127 : decode cX10_turn 127 = .ok (.invokestatic 84, 3) := by decide +kernel
theorem dX10_turn_130 : decode cX10_turn 130 = .ok (.ifCond .eq 13, 3) := by decide +kernel
theorem dX10_turn_133 : decode cX10_turn 133 = .ok (.aload_n 0, 1) := by decide +kernel
theorem dX10_turn_134 : decode cX10_turn 134 = .ok (.iload_n 1, 1) := by decide +kernel
theorem dX10_turn_135 : decode cX10_turn 135 = .ok (.iconst 0, 1) := by decide +kernel
theorem dX10_turn_136 : decode cX10_turn 136 = .ok (.iload_n 2, 1) := by decide +kernel
theorem dX10_turn_137 : decode cX10_turn 137 = .ok (.bipush 10, 2) := by decide +kernel
theorem dX10_turn_139 : decode cX10_turn 139 = .ok (.isub, 1) := by decide +kernel
theorem dX10_turn_140 : decode cX10_turn 140 = .ok (.invokevirtual 222, 3) := by decide +kernel
theorem dX10_turn_143 : decode cX10_turn 143 = .ok (.iload_n 2, 1) := by decide +kernel
theorem dX10_turn_144 : decode cX10_turn 144 = .ok (.bipush 20, 2) := by decide +kernel
theorem dX10_turn_146 : decode cX10_turn 146 = .ok (.bipush 27, 2) := by decide +kernel
theorem dX10_turn_148 : decode cX10_turn 148 = .ok (.invokestatic 84, 3) := by decide +kernel
theorem dX10_turn_151 : decode cX10_turn 151 = .ok (.ifCond .eq 13, 3) := by decide +kernel
theorem dX10_turn_154 : decode cX10_turn 154 = .ok (.aload_n 0, 1) := by decide +kernel
theorem dX10_turn_155 : decode cX10_turn 155 = .ok (.iload_n 1, 1) := by decide +kernel
theorem dX10_turn_156 : decode cX10_turn 156 = .ok (.iload_n 2, 1) := by decide +kernel
theorem dX10_turn_157 : decode cX10_turn 157 = .ok (.bipush 20, 2) := by decide +kernel
theorem dX10_turn_159 : decode cX10_turn 159 = .ok (.isub, 1) := by decide +kernel
theorem dX10_turn_160 : decode cX10_turn 160 = .ok (.iload_n 3, 1) := by decide +kernel
theorem dX10_turn_161 : decode cX10_turn 161 = .ok (.invokevirtual 236, 3) := by decide +kernel
theorem dX10_turn_164 : decode cX10_turn 164 = .ok (.iload_n 2, 1) := by decide +kernel
theorem dX10_turn_165 : decode cX10_turn 165 = .ok (.bipush 30, 2) := by decide +kernel
theorem dX10_turn_167 : decode cX10_turn 167 = .ok (.if_icmp .ne 9, 3) := by decide +kernel
theorem dX10_turn_170 : decode cX10_turn 170 = .ok (.aload_n 0, 1) := by decide +kernel
theorem dX10_turn_171 : decode cX10_turn 171 = .ok (.iload_n 3, 1) := by decide +kernel
theorem dX10_turn_172 : decode cX10_turn 172 = .ok (.iconst 0, 1) := by decide +kernel
theorem dX10_turn_173 : decode cX10_turn 173 = .ok (.invokevirtual 230, 3) := by decide +kernel
theorem dX10_turn_176 : decode cX10_turn 176 = .ok (.aload_n 0, 1) := by decide +kernel
theorem dX10_turn_177 : decode cX10_turn 177 = .ok (.getfield 94, 3) := by decide +kernel
theorem dX10_turn_180 : decode cX10_turn 180 = .ok (.ifCond .eq 8, 3) := by decide +kernel
theorem dX10_turn_183 : decode cX10_turn 183 = .ok (.bipush (-4), 2) := by decide +kernel
theorem dX10_turn_185 : decode cX10_turn 185 = .ok (.goto 8, 3) := by decide +kernel
theorem dX10_turn_188 : decode cX10_turn 188 = .ok (.aload_n 0, 1) := by decide +kernel
theorem dX10_turn_189 : decode cX10_turn 189 = .ok (.iload_n 1, 1) := by decide +kernel
theorem dX10_turn_190 : decode cX10_turn 190 = .ok (.invokevirtual 186, 3) := by decide +kernel
theorem dX10_turn_193 : decode cX10_turn 193 = .ok (.ireturn, 1) := by decide +kernel
theorem dX10_isKind_0 : decode cX10_isKind 0 = .ok (.iload_n 0, 1) := by decide +kernel
theorem dX10_isKind_1 : decode cX10_isKind 1 = .ok (.ifCond .eq 8, 3) := by decide +kernel
theorem dX10_isKind_4 : decode cX10_isKind 4 = .ok (.lload_n 1, 1) := by decide +kernel
theorem dX10_isKind_5 : decode cX10_isKind 5 = .ok (.l2i, 1) := by decide +kernel
theorem dX10_isKind_6 : decode cX10_isKind 6 = .ok (.goto 4, 3) := by decide +kernel
theorem dX10_isKind_9 : decode cX10_isKind 9 = .ok (.iconst (-1), 1) := by decide +kernel
theorem dX10_isKind_10 : decode cX10_isKind 10 = .ok (.ireturn, 1) := by decide +kernel
theorem dX10_node_0 : decode cX10_node 0 = .ok (.iload_n 1, 1) := by decide +kernel
theorem dX10_node_1 : decode cX10_node 1 = .ok (.invokestatic 181, 3) := by decide +kernel
theorem dX10_node_4 : decode cX10_node 4 = .ok (.ifCond .eq 12, 3) := by decide +kernel
theorem dX10_node_7 : decode cX10_node 7 = .ok (.iload_n 3, 1) := by decide +kernel
theorem dX10_node_8 : decode cX10_node 8 = .ok (.iconst 0, 1) := by decide +kernel
theorem dX10_node_9 : decode cX10_node 9 = .ok (.iconst 4, 1) := by decide +kernel
theorem dX10_node_10 : decode cX10_node 10 = .ok (.invokestatic 84, 3) := by decide +kernel
theorem dX10_node_13 : decode cX10_node 13 = .ok (.ifCond .ne 6, 3) := by decide +kernel
theorem dX10_node_16 : decode cX10_node 16 = .ok (.bipush (-2), 2) := by decide +kernel
theorem dX10_node_18 : decode cX10_node 18 = .ok (.ireturn, 1) := by decide +kernel
theorem dX10_node_19 : decode cX10_node 19 = .ok (.aload_n 0, 1) := by decide +kernel
theorem dX10_node_20 : decode cX10_node 20 = .ok (.getfield 9, 3) := by decide +kernel
theorem dX10_node_23 : decode cX10_node 23 = .ok (.iload_n 1, 1) := by decide +kernel
theorem dX10_node_24 : decode cX10_node 24 = .ok (.iaload, 1) := by decide +kernel
theorem dX10_node_25 : decode cX10_node 25 = .ok (.ifCond .ne 6, 3) := by decide +kernel
theorem dX10_node_28 : decode cX10_node 28 = .ok (.bipush (-3), 2) := by decide +kernel
theorem dX10_node_30 : decode cX10_node 30 = .ok (.ireturn, 1) := by decide +kernel
theorem dX10_node_31 : decode cX10_node 31 = .ok (.iload_n 2, 1) := by decide +kernel
theorem dX10_node_32 : decode cX10_node 32 = .ok (.iconst 0, 1) := by decide +kernel
theorem dX10_node_33 : decode cX10_node 33 = .ok (.aload_n 0, 1) := by decide +kernel
theorem dX10_node_34 : decode cX10_node 34 = .ok (.getfield 9, 3) := by decide +kernel
theorem dX10_node_37 : decode cX10_node 37 = .ok (.iload_n 1, 1) := by decide +kernel
theorem dX10_node_38 : decode cX10_node 38 = .ok (.iaload, 1) := by decide +kernel
theorem dX10_node_39 : decode cX10_node 39 = .ok (.iconst 1, 1) := by decide +kernel
theorem dX10_node_40 : decode cX10_node 40 = .ok (.isub, 1) := by decide +kernel
theorem dX10_node_41 : decode cX10_node 41 = .ok (.invokestatic 84, 3) := by decide +kernel
theorem dX10_node_44 : decode cX10_node 44 = .ok (.ifCond .ne 6, 3) := by decide +kernel
theorem dX10_node_47 : decode cX10_node 47 = .ok (.bipush (-12), 2) := by decide +kernel
theorem dX10_node_49 : decode cX10_node 49 = .ok (.ireturn, 1) := by decide +kernel
theorem dX10_node_50 : decode cX10_node 50 = .ok (.aload_n 0, 1) := by decide +kernel
theorem dX10_node_51 : decode cX10_node 51 = .ok (.getfield 15, 3) := by decide +kernel
theorem dX10_node_54 : decode cX10_node 54 = .ok (.iload_n 1, 1) := by decide +kernel
theorem dX10_node_55 : decode cX10_node 55 = .ok (.aaload, 1) := by decide +kernel
theorem dX10_node_56 : decode cX10_node 56 = .ok (.iload_n 2, 1) := by decide +kernel
theorem dX10_node_57 : decode cX10_node 57 = .ok (.iaload, 1) := by decide +kernel
theorem dX10_node_58 : decode cX10_node 58 = .ok (.istore 4, 2) := by decide +kernel
theorem dX10_node_60 : decode cX10_node 60 = .ok (.aload_n 0, 1) := by decide +kernel
theorem dX10_node_61 : decode cX10_node 61 = .ok (.getfield 20, 3) := by decide +kernel
theorem dX10_node_64 : decode cX10_node 64 = .ok (.iload_n 1, 1) := by decide +kernel
theorem dX10_node_65 : decode cX10_node 65 = .ok (.aaload, 1) := by decide +kernel
theorem dX10_node_66 : decode cX10_node 66 = .ok (.iload_n 2, 1) := by decide +kernel
theorem dX10_node_67 : decode cX10_node 67 = .ok (.laload, 1) := by decide +kernel
theorem dX10_node_68 : decode cX10_node 68 = .ok (.lstore 5, 2) := by decide +kernel
theorem dX10_node_70 : decode cX10_node 70 = .ok (.iload_n 3, 1) := by decide +kernel
theorem dX10_node_71 : decode cX10_node 71 = .ok (.tableswitch 82 0 3 #[29, 32, 48, 65], 29) := by decide +kernel
theorem dX10_node_100 : decode cX10_node 100 = .ok (.iload 4, 2) := by decide +kernel
theorem dX10_node_102 : decode cX10_node 102 = .ok (.ireturn, 1) := by decide +kernel
theorem dX10_node_103 : decode cX10_node 103 = .ok (.iload 4, 2) := by decide +kernel
theorem dX10_node_105 : decode cX10_node 105 = .ok (.ifCond .ne 7, 3) := by decide +kernel
theorem dX10_node_108 : decode cX10_node 108 = .ok (.iconst 1, 1) := by decide +kernel
theorem dX10_node_109 : decode cX10_node 109 = .ok (.goto 4, 3) := by decide +kernel
theorem dX10_node_112 : decode cX10_node 112 = .ok (.iconst 0, 1) := by decide +kernel
theorem dX10_node_113 : decode cX10_node 113 = .ok (.lload 5, 2) := by decide +kernel
theorem dX10_node_115 : decode cX10_node 115 = .ok (.invokestatic 239, 3) := by decide +kernel
theorem dX10_node_118 : decode cX10_node 118 = .ok (.ireturn, 1) := by decide +kernel
theorem dX10_node_119 : decode cX10_node 119 = .ok (.iload 4, 2) := by decide +kernel
theorem dX10_node_121 : decode cX10_node 121 = .ok (.iconst 1, 1) := by decide +kernel
theorem dX10_node_122 : decode cX10_node 122 = .ok (.if_icmp .ne 7, 3) := by decide +kernel
theorem dX10_node_125 : decode cX10_node 125 = .ok (.iconst 1, 1) := by decide +kernel
theorem dX10_node_126 : decode cX10_node 126 = .ok (.goto 4, 3) := by decide +kernel
theorem dX10_node_129 : decode cX10_node 129 = .ok (.iconst 0, 1) := by decide +kernel
theorem dX10_node_130 : decode cX10_node 130 = .ok (.lload 5, 2) := by decide +kernel
theorem dX10_node_132 : decode cX10_node 132 = .ok (.invokestatic 239, 3) := by decide +kernel
theorem dX10_node_135 : decode cX10_node 135 = .ok (.ireturn, 1) := by decide +kernel
theorem dX10_node_136 : decode cX10_node 136 = .ok (.iload 4, 2) := by decide +kernel
theorem dX10_node_138 : decode cX10_node 138 = .ok (.iconst 5, 1) := by decide +kernel
theorem dX10_node_139 : decode cX10_node 139 = .ok (.if_icmp .ne 7, 3) := by decide +kernel
theorem dX10_node_142 : decode cX10_node 142 = .ok (.iconst 1, 1) := by decide +kernel
theorem dX10_node_143 : decode cX10_node 143 = .ok (.goto 4, 3) := by decide +kernel
theorem dX10_node_146 : decode cX10_node 146 = .ok (.iconst 0, 1) := by decide +kernel
theorem dX10_node_147 : decode cX10_node 147 = .ok (.lload 5, 2) := by decide +kernel
theorem dX10_node_149 : decode cX10_node 149 = .ok (.invokestatic 239, 3) := by decide +kernel
theorem dX10_node_152 : decode cX10_node 152 = .ok (.ireturn, 1) := by decide +kernel
theorem dX10_node_153 : decode cX10_node 153 = .ok (.aload_n 0, 1) := by decide +kernel
theorem dX10_node_154 : decode cX10_node 154 = .ok (.getfield 23, 3) := by decide +kernel
theorem dX10_node_157 : decode cX10_node 157 = .ok (.iload_n 1, 1) := by decide +kernel
theorem dX10_node_158 : decode cX10_node 158 = .ok (.aaload, 1) := by decide +kernel
theorem dX10_node_159 : decode cX10_node 159 = .ok (.iload_n 2, 1) := by decide +kernel
theorem dX10_node_160 : decode cX10_node 160 = .ok (.iaload, 1) := by decide +kernel
theorem dX10_node_161 : decode cX10_node 161 = .ok (.iload_n 2, 1) := by decide +kernel
theorem dX10_node_162 : decode cX10_node 162 = .ok (.isub, 1) := by decide +kernel
theorem dX10_node_163 : decode cX10_node 163 = .ok (.ireturn, 1) := by decide +kernel
theorem dX10_taken_0 : decode cX10_taken 0 = .ok (.iload_n 1, 1) := by decide +kernel
theorem dX10_taken_1 : decode cX10_taken 1 = .ok (.invokestatic 181, 3) := by decide +kernel
theorem dX10_taken_4 : decode cX10_taken 4 = .ok (.ifCond .eq 13, 3) := by decide +kernel
theorem dX10_taken_7 : decode cX10_taken 7 = .ok (.iload_n 3, 1) := by decide +kernel
theorem dX10_taken_8 : decode cX10_taken 8 = .ok (.iconst 0, 1) := by decide +kernel
theorem dX10_taken_9 : decode cX10_taken 9 = .ok (.bipush 7, 2) := by decide +kernel
theorem dX10_taken_11 : decode cX10_taken 11 = .ok (.invokestatic 84, 3) := by decide +kernel
theorem dX10_taken_14 : decode cX10_taken 14 = .ok (.ifCond .ne 6, 3) := by decide +kernel
theorem dX10_taken_17 : decode cX10_taken 17 = .ok (.bipush (-2), 2) := by decide +kernel
theorem dX10_taken_19 : decode cX10_taken 19 = .ok (.ireturn, 1) := by decide +kernel
theorem dX10_taken_20 : decode cX10_taken 20 = .ok (.aload_n 0, 1) := by decide +kernel
theorem dX10_taken_21 : decode cX10_taken 21 = .ok (.getfield 9, 3) := by decide +kernel
theorem dX10_taken_24 : decode cX10_taken 24 = .ok (.iload_n 1, 1) := by decide +kernel
theorem dX10_taken_25 : decode cX10_taken 25 = .ok (.iaload, 1) := by decide +kernel
theorem dX10_taken_26 : decode cX10_taken 26 = .ok (.ifCond .ne 6, 3) := by decide +kernel
theorem dX10_taken_29 : decode cX10_taken 29 = .ok (.bipush (-3), 2) := by decide +kernel
theorem dX10_taken_31 : decode cX10_taken 31 = .ok (.ireturn, 1) := by decide +kernel
theorem dX10_taken_32 : decode cX10_taken 32 = .ok (.iload_n 2, 1) := by decide +kernel
theorem dX10_taken_33 : decode cX10_taken 33 = .ok (.iconst 0, 1) := by decide +kernel
theorem dX10_taken_34 : decode cX10_taken 34 = .ok (.aload_n 0, 1) := by decide +kernel
theorem dX10_taken_35 : decode cX10_taken 35 = .ok (.getfield 9, 3) := by decide +kernel
theorem dX10_taken_38 : decode cX10_taken 38 = .ok (.iload_n 1, 1) := by decide +kernel
theorem dX10_taken_39 : decode cX10_taken 39 = .ok (.iaload, 1) := by decide +kernel
theorem dX10_taken_40 : decode cX10_taken 40 = .ok (.iconst 1, 1) := by decide +kernel
theorem dX10_taken_41 : decode cX10_taken 41 = .ok (.isub, 1) := by decide +kernel
theorem dX10_taken_42 : decode cX10_taken 42 = .ok (.invokestatic 84, 3) := by decide +kernel
theorem dX10_taken_45 : decode cX10_taken 45 = .ok (.ifCond .ne 6, 3) := by decide +kernel
theorem dX10_taken_48 : decode cX10_taken 48 = .ok (.bipush (-12), 2) := by decide +kernel
theorem dX10_taken_50 : decode cX10_taken 50 = .ok (.ireturn, 1) := by decide +kernel
theorem dX10_taken_51 : decode cX10_taken 51 = .ok (.aload_n 0, 1) := by decide +kernel
theorem dX10_taken_52 : decode cX10_taken 52 = .ok (.getfield 23, 3) := by decide +kernel
theorem dX10_taken_55 : decode cX10_taken 55 = .ok (.iload_n 1, 1) := by decide +kernel
theorem dX10_taken_56 : decode cX10_taken 56 = .ok (.aaload, 1) := by decide +kernel
theorem dX10_taken_57 : decode cX10_taken 57 = .ok (.iload_n 2, 1) := by decide +kernel
theorem dX10_taken_58 : decode cX10_taken 58 = .ok (.iaload, 1) := by decide +kernel
theorem dX10_taken_59 : decode cX10_taken 59 = .ok (.iload_n 2, 1) := by decide +kernel
theorem dX10_taken_60 : decode cX10_taken 60 = .ok (.isub, 1) := by decide +kernel
theorem dX10_taken_61 : decode cX10_taken 61 = .ok (.istore 4, 2) := by decide +kernel
theorem dX10_taken_63 : decode cX10_taken 63 = .ok (.aload_n 0, 1) := by decide +kernel
theorem dX10_taken_64 : decode cX10_taken 64 = .ok (.getfield 15, 3) := by decide +kernel
theorem dX10_taken_67 : decode cX10_taken 67 = .ok (.iload_n 1, 1) := by decide +kernel
theorem dX10_taken_68 : decode cX10_taken 68 = .ok (.aaload, 1) := by decide +kernel
theorem dX10_taken_69 : decode cX10_taken 69 = .ok (.iload_n 2, 1) := by decide +kernel
theorem dX10_taken_70 : decode cX10_taken 70 = .ok (.iaload, 1) := by decide +kernel
theorem dX10_taken_71 : decode cX10_taken 71 = .ok (.iload_n 3, 1) := by decide +kernel
theorem dX10_taken_72 : decode cX10_taken 72 = .ok (.if_icmp .ne 6, 3) := by decide +kernel
theorem dX10_taken_75 : decode cX10_taken 75 = .ok (.iload 4, 2) := by decide +kernel
theorem dX10_taken_77 : decode cX10_taken 77 = .ok (.ireturn, 1) := by decide +kernel
theorem dX10_taken_78 : decode cX10_taken 78 = .ok (.iload_n 3, 1) := by decide +kernel
theorem dX10_taken_79 : decode cX10_taken 79 = .ok (.iconst 4, 1) := by decide +kernel
theorem dX10_taken_80 : decode cX10_taken 80 = .ok (.if_icmp .ne 25, 3) := by decide +kernel
theorem dX10_taken_83 : decode cX10_taken 83 = .ok (.aload_n 0, 1) := by decide +kernel
theorem dX10_taken_84 : decode cX10_taken 84 = .ok (.getfield 15, 3) := by decide +kernel
theorem dX10_taken_87 : decode cX10_taken 87 = .ok (.iload_n 1, 1) := by decide +kernel
theorem dX10_taken_88 : decode cX10_taken 88 = .ok (.aaload, 1) := by decide +kernel
theorem dX10_taken_89 : decode cX10_taken 89 = .ok (.iload_n 2, 1) := by decide +kernel
theorem dX10_taken_90 : decode cX10_taken 90 = .ok (.iaload, 1) := by decide +kernel
theorem dX10_taken_91 : decode cX10_taken 91 = .ok (.bipush 7, 2) := by decide +kernel
theorem dX10_taken_93 : decode cX10_taken 93 = .ok (.if_icmp .ne 12, 3) := by decide +kernel
theorem dX10_taken_96 : decode cX10_taken 96 = .ok (.iconst 2, 1) := by decide +kernel
theorem dX10_taken_97 : decode cX10_taken 97 = .ok (.iload 4, 2) := by decide +kernel
theorem dX10_taken_99 : decode cX10_taken 99 = .ok (.imul, 1) := by decide +kernel
theorem dX10_taken_100 : decode cX10_taken 100 = .ok (.iconst 1, 1) := by decide +kernel
theorem dX10_taken_101 : decode cX10_taken 101 = .ok (.isub, 1) := by decide +kernel
theorem dX10_taken_102 : decode cX10_taken 102 = .ok (.goto 5, 3) := by decide +kernel
theorem dX10_taken_105 : decode cX10_taken 105 = .ok (.bipush (-13), 2) := by decide +kernel
theorem dX10_taken_107 : decode cX10_taken 107 = .ok (.ireturn, 1) := by decide +kernel
theorem dX10_refusal_0 : decode cX10_refusal 0 = .ok (.iload_n 1, 1) := by decide +kernel
theorem dX10_refusal_1 : decode cX10_refusal 1 = .ok (.invokestatic 181, 3) := by decide +kernel
theorem dX10_refusal_4 : decode cX10_refusal 4 = .ok (.ifCond .ne 8, 3) := by decide +kernel
theorem dX10_refusal_7 : decode cX10_refusal 7 = .ok (.bipush (-2), 2) := by decide +kernel
theorem dX10_refusal_9 : decode cX10_refusal 9 = .ok (.goto 18, 3) := by decide +kernel
theorem dX10_refusal_12 : decode cX10_refusal 12 = .ok (.aload_n 0, 1) := by decide +kernel
theorem dX10_refusal_13 : decode cX10_refusal 13 = .ok (.getfield 9, 3) := by decide +kernel
theorem dX10_refusal_16 : decode cX10_refusal 16 = .ok (.iload_n 1, 1) := by decide +kernel
theorem dX10_refusal_17 : decode cX10_refusal 17 = .ok (.iaload, 1) := by decide +kernel
theorem dX10_refusal_18 : decode cX10_refusal 18 = .ok (.ifCond .ne 8, 3) := by decide +kernel
theorem dX10_refusal_21 : decode cX10_refusal 21 = .ok (.bipush (-3), 2) := by decide +kernel
theorem dX10_refusal_23 : decode cX10_refusal 23 = .ok (.goto 4, 3) := by decide +kernel
theorem dX10_refusal_26 : decode cX10_refusal 26 = .ok (.iconst 0, 1) := by decide +kernel
theorem dX10_refusal_27 : decode cX10_refusal 27 = .ok (.ireturn, 1) := by decide +kernel
theorem dX10_metAll_0 : decode cX10_metAll 0 = .ok (.iconst 0, 1) := by decide +kernel
theorem dX10_metAll_1 : decode cX10_metAll 1 = .ok (.istore_n 1, 1) := by decide +kernel
theorem dX10_metAll_2 : decode cX10_metAll 2 = .ok (.iconst 0, 1) := by decide +kernel
theorem dX10_metAll_3 : decode cX10_metAll 3 = .ok (.istore_n 2, 1) := by decide +kernel
theorem dX10_metAll_4 : decode cX10_metAll 4 = .ok (.iload_n 2, 1) := by decide +kernel
theorem dX10_metAll_5 : decode cX10_metAll 5 = .ok (.bipush 8, 2) := by decide +kernel
theorem dX10_metAll_7 : decode cX10_metAll 7 = .ok (.if_icmp .ge 18, 3) := by decide +kernel
theorem dX10_metAll_10 : decode cX10_metAll 10 = .ok (.iload_n 1, 1) := by decide +kernel
theorem dX10_metAll_11 : decode cX10_metAll 11 = .ok (.aload_n 0, 1) := by decide +kernel
theorem dX10_metAll_12 : decode cX10_metAll 12 = .ok (.getfield 39, 3) := by decide +kernel
theorem dX10_metAll_15 : decode cX10_metAll 15 = .ok (.iload_n 2, 1) := by decide +kernel
theorem dX10_metAll_16 : decode cX10_metAll 16 = .ok (.iaload, 1) := by decide +kernel
theorem dX10_metAll_17 : decode cX10_metAll 17 = .ok (.iadd, 1) := by decide +kernel
theorem dX10_metAll_18 : decode cX10_metAll 18 = .ok (.istore_n 1, 1) := by decide +kernel
theorem dX10_metAll_19 : decode cX10_metAll 19 = .ok (.iinc 2 1, 3) := by decide +kernel
theorem dX10_metAll_22 : decode cX10_metAll 22 = .ok (.goto (-18), 3) := by decide +kernel
theorem dX10_metAll_25 : decode cX10_metAll 25 = .ok (.iload_n 1, 1) := by decide +kernel
theorem dX10_metAll_26 : decode cX10_metAll 26 = .ok (.ireturn, 1) := by decide +kernel
theorem dX10_worthOf_0 : decode cX10_worthOf 0 = .ok (.iload_n 2, 1) := by decide +kernel
theorem dX10_worthOf_1 : decode cX10_worthOf 1 = .ok (.iconst 1, 1) := by decide +kernel
theorem dX10_worthOf_2 : decode cX10_worthOf 2 = .ok (.iadd, 1) := by decide +kernel
theorem dX10_worthOf_3 : decode cX10_worthOf 3 = .ok (.istore_n 3, 1) := by decide +kernel
theorem dX10_worthOf_4 : decode cX10_worthOf 4 = .ok (.aload_n 0, 1) := by decide +kernel
theorem dX10_worthOf_5 : decode cX10_worthOf 5 = .ok (.getfield 39, 3) := by decide +kernel
theorem dX10_worthOf_8 : decode cX10_worthOf 8 = .ok (.aload_n 0, 1) := by decide +kernel
theorem dX10_worthOf_9 : decode cX10_worthOf 9 = .ok (.getfield 15, 3) := by decide +kernel
theorem dX10_worthOf_12 : decode cX10_worthOf 12 = .ok (.iload_n 1, 1) := by decide +kernel
theorem dX10_worthOf_13 : decode cX10_worthOf 13 = .ok (.aaload, 1) := by decide +kernel
theorem dX10_worthOf_14 : decode cX10_worthOf 14 = .ok (.iload_n 2, 1) := by decide +kernel
theorem dX10_worthOf_15 : decode cX10_worthOf 15 = .ok (.iaload, 1) := by decide +kernel
theorem dX10_worthOf_16 : decode cX10_worthOf 16 = .ok (.dup2, 1) := by decide +kernel
theorem dX10_worthOf_17 : decode cX10_worthOf 17 = .ok (.iaload, 1) := by decide +kernel
theorem dX10_worthOf_18 : decode cX10_worthOf 18 = .ok (.iconst 1, 1) := by decide +kernel
theorem dX10_worthOf_19 : decode cX10_worthOf 19 = .ok (.iadd, 1) := by decide +kernel
theorem dX10_worthOf_20 : decode cX10_worthOf 20 = .ok (.iastore, 1) := by decide +kernel
theorem dX10_worthOf_21 : decode cX10_worthOf 21 = .ok (.aload_n 0, 1) := by decide +kernel
theorem dX10_worthOf_22 : decode cX10_worthOf 22 = .ok (.getfield 15, 3) := by decide +kernel
theorem dX10_worthOf_25 : decode cX10_worthOf 25 = .ok (.iload_n 1, 1) := by decide +kernel
theorem dX10_worthOf_26 : decode cX10_worthOf 26 = .ok (.aaload, 1) := by decide +kernel
theorem dX10_worthOf_27 : decode cX10_worthOf 27 = .ok (.iload_n 2, 1) := by decide +kernel
theorem dX10_worthOf_28 : decode cX10_worthOf 28 = .ok (.iaload, 1) := by decide +kernel
theorem dX10_worthOf_29 : decode cX10_worthOf 29 = .ok (.tableswitch 165 0 6 #[43, 52, 68, 76, 95, 114, 133], 43) := by decide +kernel
theorem dX10_worthOf_72 : decode cX10_worthOf 72 = .ok (.aload_n 0, 1) := by decide +kernel
theorem dX10_worthOf_73 : decode cX10_worthOf 73 = .ok (.getfield 20, 3) := by decide +kernel
theorem dX10_worthOf_76 : decode cX10_worthOf 76 = .ok (.iload_n 1, 1) := by decide +kernel
theorem dX10_worthOf_77 : decode cX10_worthOf 77 = .ok (.aaload, 1) := by decide +kernel
theorem dX10_worthOf_78 : decode cX10_worthOf 78 = .ok (.iload_n 2, 1) := by decide +kernel
theorem dX10_worthOf_79 : decode cX10_worthOf 79 = .ok (.laload, 1) := by decide +kernel
theorem dX10_worthOf_80 : decode cX10_worthOf 80 = .ok (.lreturn, 1) := by decide +kernel
theorem dX10_worthOf_81 : decode cX10_worthOf 81 = .ok (.aload_n 0, 1) := by decide +kernel
theorem dX10_worthOf_82 : decode cX10_worthOf 82 = .ok (.getfield 26, 3) := by decide +kernel
theorem dX10_worthOf_85 : decode cX10_worthOf 85 = .ok (.aload_n 0, 1) := by decide +kernel
theorem dX10_worthOf_86 : decode cX10_worthOf 86 = .ok (.getfield 20, 3) := by decide +kernel
theorem dX10_worthOf_89 : decode cX10_worthOf 89 = .ok (.iload_n 1, 1) := by decide +kernel
theorem dX10_worthOf_90 : decode cX10_worthOf 90 = .ok (.aaload, 1) := by decide +kernel
theorem dX10_worthOf_91 : decode cX10_worthOf 91 = .ok (.iload_n 2, 1) := by decide +kernel
theorem dX10_worthOf_92 : decode cX10_worthOf 92 = .ok (.laload, 1) := by decide +kernel
theorem dX10_worthOf_93 : decode cX10_worthOf 93 = .ok (.l2i, 1) := by decide +kernel
theorem dX10_worthOf_94 : decode cX10_worthOf 94 = .ok (.iaload, 1) := by decide +kernel
theorem dX10_worthOf_95 : decode cX10_worthOf 95 = .ok (.i2l, 1) := by decide +kernel
theorem dX10_worthOf_96 : decode cX10_worthOf 96 = .ok (.lreturn, 1) := by decide +kernel
theorem dX10_worthOf_97 : decode cX10_worthOf 97 = .ok (.aload_n 0, 1) := by decide +kernel
theorem dX10_worthOf_98 : decode cX10_worthOf 98 = .ok (.iload_n 1, 1) := by decide +kernel
theorem dX10_worthOf_99 : decode cX10_worthOf 99 = .ok (.iload_n 3, 1) := by decide +kernel
theorem dX10_worthOf_100 : decode cX10_worthOf 100 = .ok (.invokevirtual 243, 3) := by decide +kernel
theorem dX10_worthOf_103 : decode cX10_worthOf 103 = .ok (.lneg, 1) := by decide +kernel
theorem dX10_worthOf_104 : decode cX10_worthOf 104 = .ok (.lreturn, 1) := by decide +kernel
theorem dX10_worthOf_105 : decode cX10_worthOf 105 = .ok (.aload_n 0, 1) := by decide +kernel
theorem dX10_worthOf_106 : decode cX10_worthOf 106 = .ok (.iload_n 1, 1) := by decide +kernel
theorem dX10_worthOf_107 : decode cX10_worthOf 107 = .ok (.iload_n 3, 1) := by decide +kernel
theorem dX10_worthOf_108 : decode cX10_worthOf 108 = .ok (.invokevirtual 243, 3) := by decide +kernel
theorem dX10_worthOf_111 : decode cX10_worthOf 111 = .ok (.aload_n 0, 1) := by decide +kernel
theorem dX10_worthOf_112 : decode cX10_worthOf 112 = .ok (.iload_n 1, 1) := by decide +kernel
theorem dX10_worthOf_113 : decode cX10_worthOf 113 = .ok (.aload_n 0, 1) := by decide +kernel
theorem dX10_worthOf_114 : decode cX10_worthOf 114 = .ok (.iload_n 1, 1) := by decide +kernel
theorem dX10_worthOf_115 : decode cX10_worthOf 115 = .ok (.iload_n 2, 1) := by decide +kernel
theorem dX10_worthOf_116 : decode cX10_worthOf 116 = .ok (.invokevirtual 109, 3) := by decide +kernel
theorem dX10_worthOf_119 : decode cX10_worthOf 119 = .ok (.invokevirtual 243, 3) := by decide +kernel
theorem dX10_worthOf_122 : decode cX10_worthOf 122 = .ok (.ladd, 1) := by decide +kernel
theorem dX10_worthOf_123 : decode cX10_worthOf 123 = .ok (.lreturn, 1) := by decide +kernel
theorem dX10_worthOf_124 : decode cX10_worthOf 124 = .ok (.aload_n 0, 1) := by decide +kernel
theorem dX10_worthOf_125 : decode cX10_worthOf 125 = .ok (.iload_n 1, 1) := by decide +kernel
theorem dX10_worthOf_126 : decode cX10_worthOf 126 = .ok (.iload_n 3, 1) := by decide +kernel
theorem dX10_worthOf_127 : decode cX10_worthOf 127 = .ok (.invokevirtual 243, 3) := by decide +kernel
theorem dX10_worthOf_130 : decode cX10_worthOf 130 = .ok (.aload_n 0, 1) := by decide +kernel
theorem dX10_worthOf_131 : decode cX10_worthOf 131 = .ok (.iload_n 1, 1) := by decide +kernel
theorem dX10_worthOf_132 : decode cX10_worthOf 132 = .ok (.aload_n 0, 1) := by decide +kernel
theorem dX10_worthOf_133 : decode cX10_worthOf 133 = .ok (.iload_n 1, 1) := by decide +kernel
theorem dX10_worthOf_134 : decode cX10_worthOf 134 = .ok (.iload_n 2, 1) := by decide +kernel
theorem dX10_worthOf_135 : decode cX10_worthOf 135 = .ok (.invokevirtual 109, 3) := by decide +kernel
theorem dX10_worthOf_138 : decode cX10_worthOf 138 = .ok (.invokevirtual 243, 3) := by decide +kernel
theorem dX10_worthOf_141 : decode cX10_worthOf 141 = .ok (.lmul, 1) := by decide +kernel
theorem dX10_worthOf_142 : decode cX10_worthOf 142 = .ok (.lreturn, 1) := by decide +kernel
theorem dX10_worthOf_143 : decode cX10_worthOf 143 = .ok (.aload_n 0, 1) := by decide +kernel
theorem dX10_worthOf_144 : decode cX10_worthOf 144 = .ok (.iload_n 1, 1) := by decide +kernel
theorem dX10_worthOf_145 : decode cX10_worthOf 145 = .ok (.iload_n 3, 1) := by decide +kernel
theorem dX10_worthOf_146 : decode cX10_worthOf 146 = .ok (.invokevirtual 243, 3) := by decide +kernel
theorem dX10_worthOf_149 : decode cX10_worthOf 149 = .ok (.aload_n 0, 1) := by decide +kernel
theorem dX10_worthOf_150 : decode cX10_worthOf 150 = .ok (.getfield 20, 3) := by decide +kernel
theorem dX10_worthOf_153 : decode cX10_worthOf 153 = .ok (.iload_n 1, 1) := by decide +kernel
theorem dX10_worthOf_154 : decode cX10_worthOf 154 = .ok (.aaload, 1) := by decide +kernel
theorem dX10_worthOf_155 : decode cX10_worthOf 155 = .ok (.iload_n 2, 1) := by decide +kernel
theorem dX10_worthOf_156 : decode cX10_worthOf 156 = .ok (.laload, 1) := by decide +kernel
theorem dX10_worthOf_157 : decode cX10_worthOf 157 = .ok (.l2i, 1) := by decide +kernel
theorem dX10_worthOf_158 : decode cX10_worthOf 158 = .ok (.invokestatic 218, 3) := by decide +kernel
theorem dX10_worthOf_161 : decode cX10_worthOf 161 = .ok (.lreturn, 1) := by decide +kernel
theorem dX10_worthOf_162 : decode cX10_worthOf 162 = .ok (.aload_n 0, 1) := by decide +kernel
theorem dX10_worthOf_163 : decode cX10_worthOf 163 = .ok (.iload_n 1, 1) := by decide +kernel
theorem dX10_worthOf_164 : decode cX10_worthOf 164 = .ok (.aload_n 0, 1) := by decide +kernel
theorem dX10_worthOf_165 : decode cX10_worthOf 165 = .ok (.iload_n 1, 1) := by decide +kernel
theorem dX10_worthOf_166 : decode cX10_worthOf 166 = .ok (.iload_n 3, 1) := by decide +kernel
theorem dX10_worthOf_167 : decode cX10_worthOf 167 = .ok (.invokevirtual 243, 3) := by decide +kernel
theorem dX10_worthOf_170 : decode cX10_worthOf 170 = .ok (.lconst 0, 1) := by decide +kernel
theorem dX10_worthOf_171 : decode cX10_worthOf 171 = .ok (.lcmp, 1) := by decide +kernel
theorem dX10_worthOf_172 : decode cX10_worthOf 172 = .ok (.ifCond .eq 12, 3) := by decide +kernel
theorem dX10_worthOf_175 : decode cX10_worthOf 175 = .ok (.aload_n 0, 1) := by decide +kernel
theorem dX10_worthOf_176 : decode cX10_worthOf 176 = .ok (.iload_n 1, 1) := by decide +kernel
theorem dX10_worthOf_177 : decode cX10_worthOf 177 = .ok (.iload_n 2, 1) := by decide +kernel
theorem dX10_worthOf_178 : decode cX10_worthOf 178 = .ok (.invokevirtual 109, 3) := by decide +kernel
theorem dX10_worthOf_181 : decode cX10_worthOf 181 = .ok (.goto 9, 3) := by decide +kernel
theorem dX10_worthOf_184 : decode cX10_worthOf 184 = .ok (.aload_n 0, 1) := by decide +kernel
theorem dX10_worthOf_185 : decode cX10_worthOf 185 = .ok (.iload_n 1, 1) := by decide +kernel
theorem dX10_worthOf_186 : decode cX10_worthOf 186 = .ok (.iload_n 2, 1) := by decide +kernel
theorem dX10_worthOf_187 : decode cX10_worthOf 187 = .ok (.invokevirtual 233, 3) := by decide +kernel
theorem dX10_worthOf_190 : decode cX10_worthOf 190 = .ok (.invokevirtual 243, 3) := by decide +kernel
theorem dX10_worthOf_193 : decode cX10_worthOf 193 = .ok (.lreturn, 1) := by decide +kernel
theorem dX10_worthOf_194 : decode cX10_worthOf 194 = .ok (.aload_n 0, 1) := by decide +kernel
theorem dX10_worthOf_195 : decode cX10_worthOf 195 = .ok (.getfield 39, 3) := by decide +kernel
theorem dX10_worthOf_198 : decode cX10_worthOf 198 = .ok (.iconst 4, 1) := by decide +kernel
theorem dX10_worthOf_199 : decode cX10_worthOf 199 = .ok (.dup2, 1) := by decide +kernel
theorem dX10_worthOf_200 : decode cX10_worthOf 200 = .ok (.iaload, 1) := by decide +kernel
theorem dX10_worthOf_201 : decode cX10_worthOf 201 = .ok (.iconst 1, 1) := by decide +kernel
theorem dX10_worthOf_202 : decode cX10_worthOf 202 = .ok (.iadd, 1) := by decide +kernel
theorem dX10_worthOf_203 : decode cX10_worthOf 203 = .ok (.iastore, 1) := by decide +kernel
theorem dX10_worthOf_204 : decode cX10_worthOf 204 = .ok (.aload_n 0, 1) := by decide +kernel
theorem dX10_worthOf_205 : decode cX10_worthOf 205 = .ok (.iload_n 1, 1) := by decide +kernel
theorem dX10_worthOf_206 : decode cX10_worthOf 206 = .ok (.iload_n 3, 1) := by decide +kernel
theorem dX10_worthOf_207 : decode cX10_worthOf 207 = .ok (.invokevirtual 243, 3) := by decide +kernel
theorem dX10_worthOf_210 : decode cX10_worthOf 210 = .ok (.iconst 2, 1) := by decide +kernel
theorem dX10_worthOf_211 : decode cX10_worthOf 211 = .ok (.invokestatic 218, 3) := by decide +kernel
theorem dX10_worthOf_214 : decode cX10_worthOf 214 = .ok (.lreturn, 1) := by decide +kernel
theorem dX10_worthNow_0 : decode cX10_worthNow 0 = .ok (.iconst 0, 1) := by decide +kernel
theorem dX10_worthNow_1 : decode cX10_worthNow 1 = .ok (.istore_n 2, 1) := by decide +kernel
theorem dX10_worthNow_2 : decode cX10_worthNow 2 = .ok (.iload_n 2, 1) := by decide +kernel
theorem dX10_worthNow_3 : decode cX10_worthNow 3 = .ok (.bipush 8, 2) := by decide +kernel
theorem dX10_worthNow_5 : decode cX10_worthNow 5 = .ok (.if_icmp .ge 16, 3) := by decide +kernel
theorem dX10_worthNow_8 : decode cX10_worthNow 8 = .ok (.aload_n 0, 1) := by decide +kernel
theorem dX10_worthNow_9 : decode cX10_worthNow 9 = .ok (.getfield 39, 3) := by decide +kernel
theorem dX10_worthNow_12 : decode cX10_worthNow 12 = .ok (.iload_n 2, 1) := by decide +kernel
theorem dX10_worthNow_13 : decode cX10_worthNow 13 = .ok (.iconst 0, 1) := by decide +kernel
theorem dX10_worthNow_14 : decode cX10_worthNow 14 = .ok (.iastore, 1) := by decide +kernel
theorem dX10_worthNow_15 : decode cX10_worthNow 15 = .ok (.iinc 2 1, 3) := by decide +kernel
theorem dX10_worthNow_18 : decode cX10_worthNow 18 = .ok (.goto (-16), 3) := by decide +kernel
theorem dX10_worthNow_21 : decode cX10_worthNow 21 = .ok (.aload_n 0, 1) := by decide +kernel
theorem dX10_worthNow_22 : decode cX10_worthNow 22 = .ok (.iload_n 1, 1) := by decide +kernel
theorem dX10_worthNow_23 : decode cX10_worthNow 23 = .ok (.iconst 0, 1) := by decide +kernel
theorem dX10_worthNow_24 : decode cX10_worthNow 24 = .ok (.invokevirtual 243, 3) := by decide +kernel
theorem dX10_worthNow_27 : decode cX10_worthNow 27 = .ok (.lreturn, 1) := by decide +kernel
theorem dX10_worth_0 : decode cX10_worth 0 = .ok (.aload_n 0, 1) := by decide +kernel
theorem dX10_worth_1 : decode cX10_worth 1 = .ok (.iload_n 1, 1) := by decide +kernel
theorem dX10_worth_2 : decode cX10_worth 2 = .ok (.invokevirtual 247, 3) := by decide +kernel
theorem dX10_worth_5 : decode cX10_worth 5 = .ok (.istore_n 2, 1) := by decide +kernel
theorem dX10_worth_6 : decode cX10_worth 6 = .ok (.iload_n 2, 1) := by decide +kernel
theorem dX10_worth_7 : decode cX10_worth 7 = .ok (.ifCond .eq 10, 3) := by decide +kernel
theorem dX10_worth_10 : decode cX10_worth 10 = .ok (.iload_n 2, 1) := by decide +kernel
theorem dX10_worth_11 : decode cX10_worth 11 = .ok (.invokestatic 250, 3) := by decide +kernel
theorem dX10_worth_14 : decode cX10_worth 14 = .ok (.goto 8, 3) := by decide +kernel
theorem dX10_worth_17 : decode cX10_worth 17 = .ok (.aload_n 0, 1) := by decide +kernel
theorem dX10_worth_18 : decode cX10_worth 18 = .ok (.iload_n 1, 1) := by decide +kernel
theorem dX10_worth_19 : decode cX10_worth 19 = .ok (.invokevirtual 254, 3) := by decide +kernel
theorem dX10_worth_22 : decode cX10_worth 22 = .ok (.lreturn, 1) := by decide +kernel
theorem dX10_met_0 : decode cX10_met 0 = .ok (.iload_n 1, 1) := by decide +kernel
theorem dX10_met_1 : decode cX10_met 1 = .ok (.invokestatic 181, 3) := by decide +kernel
theorem dX10_met_4 : decode cX10_met 4 = .ok (.ifCond .eq 13, 3) := by decide +kernel
theorem dX10_met_7 : decode cX10_met 7 = .ok (.iload_n 2, 1) := by decide +kernel
theorem dX10_met_8 : decode cX10_met 8 = .ok (.iconst 0, 1) := by decide +kernel
theorem dX10_met_9 : decode cX10_met 9 = .ok (.bipush 8, 2) := by decide +kernel
theorem dX10_met_11 : decode cX10_met 11 = .ok (.invokestatic 84, 3) := by decide +kernel
theorem dX10_met_14 : decode cX10_met 14 = .ok (.ifCond .ne 6, 3) := by decide +kernel
theorem dX10_met_17 : decode cX10_met 17 = .ok (.bipush (-2), 2) := by decide +kernel
theorem dX10_met_19 : decode cX10_met 19 = .ok (.ireturn, 1) := by decide +kernel
theorem dX10_met_20 : decode cX10_met 20 = .ok (.aload_n 0, 1) := by decide +kernel
theorem dX10_met_21 : decode cX10_met 21 = .ok (.getfield 9, 3) := by decide +kernel
theorem dX10_met_24 : decode cX10_met 24 = .ok (.iload_n 1, 1) := by decide +kernel
theorem dX10_met_25 : decode cX10_met 25 = .ok (.iaload, 1) := by decide +kernel
theorem dX10_met_26 : decode cX10_met 26 = .ok (.ifCond .ne 6, 3) := by decide +kernel
theorem dX10_met_29 : decode cX10_met 29 = .ok (.bipush (-3), 2) := by decide +kernel
theorem dX10_met_31 : decode cX10_met 31 = .ok (.ireturn, 1) := by decide +kernel
theorem dX10_met_32 : decode cX10_met 32 = .ok (.aload_n 0, 1) := by decide +kernel
theorem dX10_met_33 : decode cX10_met 33 = .ok (.iload_n 1, 1) := by decide +kernel
theorem dX10_met_34 : decode cX10_met 34 = .ok (.invokevirtual 254, 3) := by decide +kernel
theorem dX10_met_37 : decode cX10_met 37 = .ok (.lstore_n 3, 1) := by decide +kernel
theorem dX10_met_38 : decode cX10_met 38 = .ok (.iload_n 2, 1) := by decide +kernel
theorem dX10_met_39 : decode cX10_met 39 = .ok (.bipush 8, 2) := by decide +kernel
theorem dX10_met_41 : decode cX10_met 41 = .ok (.if_icmp .ne 10, 3) := by decide +kernel
theorem dX10_met_44 : decode cX10_met 44 = .ok (.aload_n 0, 1) := by decide +kernel
theorem dX10_met_45 : decode cX10_met 45 = .ok (.invokevirtual 257, 3) := by decide +kernel
theorem dX10_met_48 : decode cX10_met 48 = .ok (.goto 9, 3) := by decide +kernel
theorem dX10_met_51 : decode cX10_met 51 = .ok (.aload_n 0, 1) := by decide +kernel
theorem dX10_met_52 : decode cX10_met 52 = .ok (.getfield 39, 3) := by decide +kernel
theorem dX10_met_55 : decode cX10_met 55 = .ok (.iload_n 2, 1) := by decide +kernel
theorem dX10_met_56 : decode cX10_met 56 = .ok (.iaload, 1) := by decide +kernel
theorem dX10_met_57 : decode cX10_met 57 = .ok (.ireturn, 1) := by decide +kernel
theorem dX10_purse_0 : decode cX10_purse 0 = .ok (.iload_n 1, 1) := by decide +kernel
theorem dX10_purse_1 : decode cX10_purse 1 = .ok (.invokestatic 181, 3) := by decide +kernel
theorem dX10_purse_4 : decode cX10_purse 4 = .ok (.ifCond .eq 14, 3) := by decide +kernel
theorem dX10_purse_7 : decode cX10_purse 7 = .ok (.iload_n 2, 1) := by decide +kernel
theorem dX10_purse_8 : decode cX10_purse 8 = .ok (.iconst 0, 1) := by decide +kernel
theorem dX10_purse_9 : decode cX10_purse 9 = .ok (.sipush 9999, 3) := by decide +kernel
theorem dX10_purse_12 : decode cX10_purse 12 = .ok (.invokestatic 84, 3) := by decide +kernel
theorem dX10_purse_15 : decode cX10_purse 15 = .ok (.ifCond .ne 9, 3) := by decide +kernel
theorem dX10_purse_18 : decode cX10_purse 18 = .ok (.bipush (-2), 2) := by decide +kernel
theorem dX10_purse_20 : decode cX10_purse 20 = .ok (.invokestatic 250, 3) := by decide +kernel
theorem dX10_purse_23 : decode cX10_purse 23 = .ok (.lreturn, 1) := by decide +kernel
theorem dX10_purse_24 : decode cX10_purse 24 = .ok (.aload_n 0, 1) := by decide +kernel
theorem dX10_purse_25 : decode cX10_purse 25 = .ok (.getfield 9, 3) := by decide +kernel
theorem dX10_purse_28 : decode cX10_purse 28 = .ok (.iload_n 1, 1) := by decide +kernel
theorem dX10_purse_29 : decode cX10_purse 29 = .ok (.iaload, 1) := by decide +kernel
theorem dX10_purse_30 : decode cX10_purse 30 = .ok (.ifCond .ne 9, 3) := by decide +kernel
theorem dX10_purse_33 : decode cX10_purse 33 = .ok (.bipush (-3), 2) := by decide +kernel
theorem dX10_purse_35 : decode cX10_purse 35 = .ok (.invokestatic 250, 3) := by decide +kernel
theorem dX10_purse_38 : decode cX10_purse 38 = .ok (.lreturn, 1) := by decide +kernel
theorem dX10_purse_39 : decode cX10_purse 39 = .ok (.aload_n 0, 1) := by decide +kernel
theorem dX10_purse_40 : decode cX10_purse 40 = .ok (.iload_n 1, 1) := by decide +kernel
theorem dX10_purse_41 : decode cX10_purse 41 = .ok (.invokevirtual 254, 3) := by decide +kernel
theorem dX10_purse_44 : decode cX10_purse 44 = .ok (.lstore_n 3, 1) := by decide +kernel
theorem dX10_purse_45 : decode cX10_purse 45 = .ok (.aload_n 0, 1) := by decide +kernel
theorem dX10_purse_46 : decode cX10_purse 46 = .ok (.invokevirtual 257, 3) := by decide +kernel
theorem dX10_purse_49 : decode cX10_purse 49 = .ok (.iload_n 2, 1) := by decide +kernel
theorem dX10_purse_50 : decode cX10_purse 50 = .ok (.if_icmp .le 11, 3) := by decide +kernel
theorem dX10_purse_53 : decode cX10_purse 53 = .ok (.bipush (-6), 2) := by decide +kernel
theorem dX10_purse_55 : decode cX10_purse 55 = .ok (.invokestatic 250, 3) := by decide +kernel
theorem dX10_purse_58 : decode cX10_purse 58 = .ok (.goto 4, 3) := by decide +kernel
theorem dX10_purse_61 : decode cX10_purse 61 = .ok (.lload_n 3, 1) := by decide +kernel
theorem dX10_purse_62 : decode cX10_purse 62 = .ok (.lreturn, 1) := by decide +kernel
theorem dX10_sign_0 : decode cX10_sign 0 = .ok (.aload_n 0, 1) := by decide +kernel
theorem dX10_sign_1 : decode cX10_sign 1 = .ok (.getfield 42, 3) := by decide +kernel
theorem dX10_sign_4 : decode cX10_sign 4 = .ok (.aload_n 0, 1) := by decide +kernel
theorem dX10_sign_5 : decode cX10_sign 5 = .ok (.getfield 261, 3) := by decide +kernel
theorem dX10_sign_8 : decode cX10_sign 8 = .ok (.iload_n 1, 1) := by decide +kernel
theorem dX10_sign_9 : decode cX10_sign 9 = .ok (.iastore, 1) := by decide +kernel
theorem dX10_sign_10 : decode cX10_sign 10 = .ok (.aload_n 0, 1) := by decide +kernel
theorem dX10_sign_11 : decode cX10_sign 11 = .ok (.dup, 1) := by decide +kernel
theorem dX10_sign_12 : decode cX10_sign 12 = .ok (.getfield 261, 3) := by decide +kernel
theorem dX10_sign_15 : decode cX10_sign 15 = .ok (.iconst 1, 1) := by decide +kernel
theorem dX10_sign_16 : decode cX10_sign 16 = .ok (.iadd, 1) := by decide +kernel
theorem dX10_sign_17 : decode cX10_sign 17 = .ok (.putfield 261, 3) := by decide +kernel
theorem dX10_sign_20 : decode cX10_sign 20 = .ok (.return_, 1) := by decide +kernel
theorem dX10_digits_0 : decode cX10_digits 0 = .ok (.lload_n 1, 1) := by decide +kernel
theorem dX10_digits_1 : decode cX10_digits 1 = .ok (.lconst 0, 1) := by decide +kernel
theorem dX10_digits_2 : decode cX10_digits 2 = .ok (.lcmp, 1) := by decide +kernel
theorem dX10_digits_3 : decode cX10_digits 3 = .ok (.ifCond .ge 7, 3) := by decide +kernel
theorem dX10_digits_6 : decode cX10_digits 6 = .ok (.lload_n 1, 1) := by decide +kernel
theorem dX10_digits_7 : decode cX10_digits 7 = .ok (.goto 5, 3) := by decide +kernel
theorem dX10_digits_10 : decode cX10_digits 10 = .ok (.lload_n 1, 1) := by decide +kernel
theorem dX10_digits_11 : decode cX10_digits 11 = .ok (.lneg, 1) := by decide +kernel
theorem dX10_digits_12 : decode cX10_digits 12 = .ok (.lstore_n 3, 1) := by decide +kernel
theorem dX10_digits_13 : decode cX10_digits 13 = .ok (.lload_n 1, 1) := by decide +kernel
theorem dX10_digits_14 : decode cX10_digits 14 = .ok (.lconst 0, 1) := by decide +kernel
theorem dX10_digits_15 : decode cX10_digits 15 = .ok (.lcmp, 1) := by decide +kernel
theorem dX10_digits_16 : decode cX10_digits 16 = .ok (.ifCond .ge 9, 3) := by decide +kernel
theorem dX10_digits_19 : decode cX10_digits 19 = .ok (.aload_n 0, 1) := by decide +kernel
theorem dX10_digits_20 : decode cX10_digits 20 = .ok (.bipush 45, 2) := by decide +kernel
theorem dX10_digits_22 : decode cX10_digits 22 = .ok (.invokevirtual 264, 3) := by decide +kernel
theorem dX10_digits_25 : decode cX10_digits 25 = .ok (.ldc2_w 267, 3) := by decide +kernel
theorem dX10_digits_28 : decode cX10_digits 28 = .ok (.lstore 5, 2) := by decide +kernel
theorem dX10_digits_30 : decode cX10_digits 30 = .ok (.lload_n 3, 1) := by decide +kernel
theorem dX10_digits_31 : decode cX10_digits 31 = .ok (.ldc2_w 269, 3) := by decide +kernel
theorem dX10_digits_34 : decode cX10_digits 34 = .ok (.ldiv, 1) := by decide +kernel
theorem dX10_digits_35 : decode cX10_digits 35 = .ok (.lload 5, 2) := by decide +kernel
theorem dX10_digits_37 : decode cX10_digits 37 = .ok (.lcmp, 1) := by decide +kernel
theorem dX10_digits_38 : decode cX10_digits 38 = .ok (.ifCond .gt 14, 3) := by decide +kernel
theorem dX10_digits_41 : decode cX10_digits 41 = .ok (.lload 5, 2) := by decide +kernel
theorem dX10_digits_43 : decode cX10_digits 43 = .ok (.ldc2_w 269, 3) := by decide +kernel
theorem dX10_digits_46 : decode cX10_digits 46 = .ok (.lmul, 1) := by decide +kernel
theorem dX10_digits_47 : decode cX10_digits 47 = .ok (.lstore 5, 2) := by decide +kernel
theorem dX10_digits_49 : decode cX10_digits 49 = .ok (.goto (-19), 3) := by decide +kernel
theorem dX10_digits_52 : decode cX10_digits 52 = .ok (.lload 5, 2) := by decide +kernel
theorem dX10_digits_54 : decode cX10_digits 54 = .ok (.lconst 0, 1) := by decide +kernel
theorem dX10_digits_55 : decode cX10_digits 55 = .ok (.lcmp, 1) := by decide +kernel
theorem dX10_digits_56 : decode cX10_digits 56 = .ok (.ifCond .eq 31, 3) := by decide +kernel
theorem dX10_digits_59 : decode cX10_digits 59 = .ok (.aload_n 0, 1) := by decide +kernel
theorem dX10_digits_60 : decode cX10_digits 60 = .ok (.bipush 48, 2) := by decide +kernel
theorem dX10_digits_62 : decode cX10_digits 62 = .ok (.lload_n 3, 1) := by decide +kernel
theorem dX10_digits_63 : decode cX10_digits 63 = .ok (.lload 5, 2) := by decide +kernel
theorem dX10_digits_65 : decode cX10_digits 65 = .ok (.ldiv, 1) := by decide +kernel
theorem dX10_digits_66 : decode cX10_digits 66 = .ok (.l2i, 1) := by decide +kernel
theorem dX10_digits_67 : decode cX10_digits 67 = .ok (.iadd, 1) := by decide +kernel
theorem dX10_digits_68 : decode cX10_digits 68 = .ok (.invokevirtual 264, 3) := by decide +kernel
theorem dX10_digits_71 : decode cX10_digits 71 = .ok (.lload_n 3, 1) := by decide +kernel
theorem dX10_digits_72 : decode cX10_digits 72 = .ok (.lload 5, 2) := by decide +kernel
theorem dX10_digits_74 : decode cX10_digits 74 = .ok (.lrem, 1) := by decide +kernel
theorem dX10_digits_75 : decode cX10_digits 75 = .ok (.lstore_n 3, 1) := by decide +kernel
theorem dX10_digits_76 : decode cX10_digits 76 = .ok (.lload 5, 2) := by decide +kernel
theorem dX10_digits_78 : decode cX10_digits 78 = .ok (.ldc2_w 269, 3) := by decide +kernel
theorem dX10_digits_81 : decode cX10_digits 81 = .ok (.ldiv, 1) := by decide +kernel
theorem dX10_digits_82 : decode cX10_digits 82 = .ok (.lstore 5, 2) := by decide +kernel
theorem dX10_digits_84 : decode cX10_digits 84 = .ok (.goto (-32), 3) := by decide +kernel
theorem dX10_digits_87 : decode cX10_digits 87 = .ok (.return_, 1) := by decide +kernel
theorem dX10_rank_0 : decode cX10_rank 0 = .ok (.iload_n 0, 1) := by decide +kernel
theorem dX10_rank_1 : decode cX10_rank 1 = .ok (.iconst 5, 1) := by decide +kernel
theorem dX10_rank_2 : decode cX10_rank 2 = .ok (.if_icmp .ne 7, 3) := by decide +kernel
theorem dX10_rank_5 : decode cX10_rank 5 = .ok (.iconst 3, 1) := by decide +kernel
theorem dX10_rank_6 : decode cX10_rank 6 = .ok (.goto 32, 3) := by decide +kernel
theorem dX10_rank_9 : decode cX10_rank 9 = .ok (.iload_n 0, 1) := by decide +kernel
theorem dX10_rank_10 : decode cX10_rank 10 = .ok (.iconst 4, 1) := by decide +kernel
theorem dX10_rank_11 : decode cX10_rank 11 = .ok (.if_icmp .ne 7, 3) := by decide +kernel
theorem dX10_rank_14 : decode cX10_rank 14 = .ok (.iconst 2, 1) := by decide +kernel
theorem dX10_rank_15 : decode cX10_rank 15 = .ok (.goto 23, 3) := by decide +kernel
theorem dX10_rank_18 : decode cX10_rank 18 = .ok (.iload_n 0, 1) := by decide +kernel
theorem dX10_rank_19 : decode cX10_rank 19 = .ok (.iconst 3, 1) := by decide +kernel
theorem dX10_rank_20 : decode cX10_rank 20 = .ok (.if_icmp .ne 7, 3) := by decide +kernel
theorem dX10_rank_23 : decode cX10_rank 23 = .ok (.iconst 1, 1) := by decide +kernel
theorem dX10_rank_24 : decode cX10_rank 24 = .ok (.goto 14, 3) := by decide +kernel
theorem dX10_rank_27 : decode cX10_rank 27 = .ok (.iload_n 0, 1) := by decide +kernel
theorem dX10_rank_28 : decode cX10_rank 28 = .ok (.bipush 6, 2) := by decide +kernel
theorem dX10_rank_30 : decode cX10_rank 30 = .ok (.if_icmp .ne 7, 3) := by decide +kernel
theorem dX10_rank_33 : decode cX10_rank 33 = .ok (.iconst 0, 1) := by decide +kernel
theorem dX10_rank_34 : decode cX10_rank 34 = .ok (.goto 4, 3) := by decide +kernel
theorem dX10_rank_37 : decode cX10_rank 37 = .ok (.iconst 4, 1) := by decide +kernel
theorem dX10_rank_38 : decode cX10_rank 38 = .ok (.ireturn, 1) := by decide +kernel
theorem dX10_printAs_0 : decode cX10_printAs 0 = .ok (.aload_n 0, 1) := by decide +kernel
theorem dX10_printAs_1 : decode cX10_printAs 1 = .ok (.getfield 15, 3) := by decide +kernel
theorem dX10_printAs_4 : decode cX10_printAs 4 = .ok (.iload_n 1, 1) := by decide +kernel
theorem dX10_printAs_5 : decode cX10_printAs 5 = .ok (.aaload, 1) := by decide +kernel
theorem dX10_printAs_6 : decode cX10_printAs 6 = .ok (.iload_n 2, 1) := by decide +kernel
theorem dX10_printAs_7 : decode cX10_printAs 7 = .ok (.iaload, 1) := by decide +kernel
theorem dX10_printAs_8 : decode cX10_printAs 8 = .ok (.invokestatic 271, 3) := by decide +kernel
theorem dX10_printAs_11 : decode cX10_printAs 11 = .ok (.iload_n 3, 1) := by decide +kernel
theorem dX10_printAs_12 : decode cX10_printAs 12 = .ok (.if_icmp .lt 10, 3) := by decide +kernel
theorem dX10_printAs_15 : decode cX10_printAs 15 = .ok (.aload_n 0, 1) := by decide +kernel
theorem dX10_printAs_16 : decode cX10_printAs 16 = .ok (.iload_n 1, 1) := by decide +kernel
theorem dX10_printAs_17 : decode cX10_printAs 17 = .ok (.iload_n 2, 1) := by decide +kernel
theorem dX10_printAs_18 : decode cX10_printAs 18 = .ok (.invokevirtual 274, 3) := by decide +kernel
theorem dX10_printAs_21 : decode cX10_printAs 21 = .ok (.return_, 1) := by decide +kernel
theorem dX10_printAs_22 : decode cX10_printAs 22 = .ok (.aload_n 0, 1) := by decide +kernel
theorem dX10_printAs_23 : decode cX10_printAs 23 = .ok (.bipush 40, 2) := by decide +kernel
theorem dX10_printAs_25 : decode cX10_printAs 25 = .ok (.invokevirtual 264, 3) := by decide +kernel
theorem dX10_printAs_28 : decode cX10_printAs 28 = .ok (.aload_n 0, 1) := by decide +kernel
theorem dX10_printAs_29 : decode cX10_printAs 29 = .ok (.iload_n 1, 1) := by decide +kernel
theorem dX10_printAs_30 : decode cX10_printAs 30 = .ok (.iload_n 2, 1) := by decide +kernel
theorem dX10_printAs_31 : decode cX10_printAs 31 = .ok (.invokevirtual 274, 3) := by decide +kernel
theorem dX10_printAs_34 : decode cX10_printAs 34 = .ok (.aload_n 0, 1) := by decide +kernel
theorem dX10_printAs_35 : decode cX10_printAs 35 = .ok (.bipush 41, 2) := by decide +kernel
theorem dX10_printAs_37 : decode cX10_printAs 37 = .ok (.invokevirtual 264, 3) := by decide +kernel
theorem dX10_printAs_40 : decode cX10_printAs 40 = .ok (.return_, 1) := by decide +kernel
theorem dX10_printOne_0 : decode cX10_printOne 0 = .ok (.iload_n 2, 1) := by decide +kernel
theorem dX10_printOne_1 : decode cX10_printOne 1 = .ok (.iconst 1, 1) := by decide +kernel
theorem dX10_printOne_2 : decode cX10_printOne 2 = .ok (.iadd, 1) := by decide +kernel
theorem dX10_printOne_3 : decode cX10_printOne 3 = .ok (.istore_n 3, 1) := by decide +kernel
theorem dX10_printOne_4 : decode cX10_printOne 4 = .ok (.aload_n 0, 1) := by decide +kernel
theorem dX10_printOne_5 : decode cX10_printOne 5 = .ok (.getfield 15, 3) := by decide +kernel
theorem dX10_printOne_8 : decode cX10_printOne 8 = .ok (.iload_n 1, 1) := by decide +kernel
theorem dX10_printOne_9 : decode cX10_printOne 9 = .ok (.aaload, 1) := by decide +kernel
theorem dX10_printOne_10 : decode cX10_printOne 10 = .ok (.iload_n 2, 1) := by decide +kernel
theorem dX10_printOne_11 : decode cX10_printOne 11 = .ok (.iaload, 1) := by decide +kernel
theorem dX10_printOne_12 : decode cX10_printOne 12 = .ok (.tableswitch 274 0 6 #[44, 59, 78, 94, 168, 196, 228], 44) := by decide +kernel
theorem dX10_printOne_56 : decode cX10_printOne 56 = .ok (.aload_n 0, 1) := by decide +kernel
theorem dX10_printOne_57 : decode cX10_printOne 57 = .ok (.aload_n 0, 1) := by decide +kernel
theorem dX10_printOne_58 : decode cX10_printOne 58 = .ok (.getfield 20, 3) := by decide +kernel
theorem dX10_printOne_61 : decode cX10_printOne 61 = .ok (.iload_n 1, 1) := by decide +kernel
theorem dX10_printOne_62 : decode cX10_printOne 62 = .ok (.aaload, 1) := by decide +kernel
theorem dX10_printOne_63 : decode cX10_printOne 63 = .ok (.iload_n 2, 1) := by decide +kernel
theorem dX10_printOne_64 : decode cX10_printOne 64 = .ok (.laload, 1) := by decide +kernel
theorem dX10_printOne_65 : decode cX10_printOne 65 = .ok (.invokevirtual 277, 3) := by decide +kernel
theorem dX10_printOne_68 : decode cX10_printOne 68 = .ok (.goto 237, 3) := by decide +kernel
theorem dX10_printOne_71 : decode cX10_printOne 71 = .ok (.aload_n 0, 1) := by decide +kernel
theorem dX10_printOne_72 : decode cX10_printOne 72 = .ok (.bipush 97, 2) := by decide +kernel
theorem dX10_printOne_74 : decode cX10_printOne 74 = .ok (.aload_n 0, 1) := by decide +kernel
theorem dX10_printOne_75 : decode cX10_printOne 75 = .ok (.getfield 20, 3) := by decide +kernel
theorem dX10_printOne_78 : decode cX10_printOne 78 = .ok (.iload_n 1, 1) := by decide +kernel
theorem dX10_printOne_79 : decode cX10_printOne 79 = .ok (.aaload, 1) := by decide +kernel
theorem dX10_printOne_80 : decode cX10_printOne 80 = .ok (.iload_n 2, 1) := by decide +kernel
theorem dX10_printOne_81 : decode cX10_printOne 81 = .ok (.laload, 1) := by decide +kernel
theorem dX10_printOne_82 : decode cX10_printOne 82 = .ok (.l2i, 1) := by decide +kernel
theorem dX10_printOne_83 : decode cX10_printOne 83 = .ok (.iadd, 1) := by decide +kernel
theorem dX10_printOne_84 : decode cX10_printOne 84 = .ok (.invokevirtual 264, 3) := by decide +kernel
theorem dX10_printOne_87 : decode cX10_printOne 87 = .ok (.goto 218, 3) := by decide +kernel
theorem dX10_printOne_90 : decode cX10_printOne 90 = .ok (.aload_n 0, 1) := by decide +kernel
theorem dX10_printOne_91 : decode cX10_printOne 91 = .ok (.bipush 45, 2) := by decide +kernel
theorem dX10_printOne_93 : decode cX10_printOne 93 = .ok (.invokevirtual 264, 3) := by decide +kernel
theorem dX10_printOne_96 : decode cX10_printOne 96 = .ok (.aload_n 0, 1) := by decide +kernel
theorem dX10_printOne_97 : decode cX10_printOne 97 = .ok (.iload_n 1, 1) := by decide +kernel
theorem dX10_printOne_98 : decode cX10_printOne 98 = .ok (.iload_n 3, 1) := by decide +kernel
theorem dX10_printOne_99 : decode cX10_printOne 99 = .ok (.iconst 4, 1) := by decide +kernel
theorem dX10_printOne_100 : decode cX10_printOne 100 = .ok (.invokevirtual 281, 3) := by decide +kernel
theorem dX10_printOne_103 : decode cX10_printOne 103 = .ok (.goto 202, 3) := by decide +kernel
theorem dX10_printOne_106 : decode cX10_printOne 106 = .ok (.aload_n 0, 1) := by decide +kernel
theorem dX10_printOne_107 : decode cX10_printOne 107 = .ok (.iload_n 1, 1) := by decide +kernel
theorem dX10_printOne_108 : decode cX10_printOne 108 = .ok (.iload_n 3, 1) := by decide +kernel
theorem dX10_printOne_109 : decode cX10_printOne 109 = .ok (.iconst 1, 1) := by decide +kernel
theorem dX10_printOne_110 : decode cX10_printOne 110 = .ok (.invokevirtual 281, 3) := by decide +kernel
theorem dX10_printOne_113 : decode cX10_printOne 113 = .ok (.aload_n 0, 1) := by decide +kernel
theorem dX10_printOne_114 : decode cX10_printOne 114 = .ok (.iload_n 1, 1) := by decide +kernel
theorem dX10_printOne_115 : decode cX10_printOne 115 = .ok (.iload_n 2, 1) := by decide +kernel
theorem dX10_printOne_116 : decode cX10_printOne 116 = .ok (.invokevirtual 109, 3) := by decide +kernel
theorem dX10_printOne_119 : decode cX10_printOne 119 = .ok (.istore 4, 2) := by decide +kernel
theorem dX10_printOne_121 : decode cX10_printOne 121 = .ok (.aload_n 0, 1) := by decide +kernel
theorem dX10_printOne_122 : decode cX10_printOne 122 = .ok (.getfield 15, 3) := by decide +kernel
theorem dX10_printOne_125 : decode cX10_printOne 125 = .ok (.iload_n 1, 1) := by decide +kernel
theorem dX10_printOne_126 : decode cX10_printOne 126 = .ok (.aaload, 1) := by decide +kernel
theorem dX10_printOne_127 : decode cX10_printOne 127 = .ok (.iload 4, 2) := by decide +kernel
theorem dX10_printOne_129 : decode cX10_printOne 129 = .ok (.iaload, 1) := by decide +kernel
theorem dX10_printOne_130 : decode cX10_printOne 130 = .ok (.iconst 2, 1) := by decide +kernel
theorem dX10_printOne_131 : decode cX10_printOne 131 = .ok (.if_icmp .ne 7, 3) := by decide +kernel
theorem dX10_printOne_134 : decode cX10_printOne 134 = .ok (.iconst 1, 1) := by decide +kernel
theorem dX10_printOne_135 : decode cX10_printOne 135 = .ok (.goto 4, 3) := by decide +kernel
theorem dX10_printOne_138 : decode cX10_printOne 138 = .ok (.iconst 0, 1) := by decide +kernel
theorem dX10_printOne_139 : decode cX10_printOne 139 = .ok (.istore 5, 2) := by decide +kernel
theorem dX10_printOne_141 : decode cX10_printOne 141 = .ok (.aload_n 0, 1) := by decide +kernel
theorem dX10_printOne_142 : decode cX10_printOne 142 = .ok (.iload 5, 2) := by decide +kernel
theorem dX10_printOne_144 : decode cX10_printOne 144 = .ok (.ifCond .eq 8, 3) := by decide +kernel
theorem dX10_printOne_147 : decode cX10_printOne 147 = .ok (.bipush 45, 2) := by decide +kernel
theorem dX10_printOne_149 : decode cX10_printOne 149 = .ok (.goto 5, 3) := by decide +kernel
theorem dX10_printOne_152 : decode cX10_printOne 152 = .ok (.bipush 43, 2) := by decide +kernel
theorem dX10_printOne_154 : decode cX10_printOne 154 = .ok (.invokevirtual 264, 3) := by decide +kernel
theorem dX10_printOne_157 : decode cX10_printOne 157 = .ok (.aload_n 0, 1) := by decide +kernel
theorem dX10_printOne_158 : decode cX10_printOne 158 = .ok (.iload_n 1, 1) := by decide +kernel
theorem dX10_printOne_159 : decode cX10_printOne 159 = .ok (.iload 5, 2) := by decide +kernel
theorem dX10_printOne_161 : decode cX10_printOne 161 = .ok (.ifCond .eq 10, 3) := by decide +kernel
theorem dX10_printOne_164 : decode cX10_printOne 164 = .ok (.iload 4, 2) := by decide +kernel
theorem dX10_printOne_166 : decode cX10_printOne 166 = .ok (.iconst 1, 1) := by decide +kernel
theorem dX10_printOne_167 : decode cX10_printOne 167 = .ok (.iadd, 1) := by decide +kernel
theorem dX10_printOne_168 : decode cX10_printOne 168 = .ok (.goto 5, 3) := by decide +kernel
theorem dX10_printOne_171 : decode cX10_printOne 171 = .ok (.iload 4, 2) := by decide +kernel
theorem dX10_printOne_173 : decode cX10_printOne 173 = .ok (.iconst 2, 1) := by decide +kernel
theorem dX10_printOne_174 : decode cX10_printOne 174 = .ok (.invokevirtual 281, 3) := by decide +kernel
theorem dX10_printOne_177 : decode cX10_printOne 177 = .ok (.goto 128, 3) := by decide +kernel
theorem dX10_printOne_180 : decode cX10_printOne 180 = .ok (.aload_n 0, 1) := by decide +kernel
theorem dX10_printOne_181 : decode cX10_printOne 181 = .ok (.iload_n 1, 1) := by decide +kernel
theorem dX10_printOne_182 : decode cX10_printOne 182 = .ok (.iload_n 3, 1) := by decide +kernel
theorem dX10_printOne_183 : decode cX10_printOne 183 = .ok (.iconst 2, 1) := by decide +kernel
theorem dX10_printOne_184 : decode cX10_printOne 184 = .ok (.invokevirtual 281, 3) := by decide +kernel
theorem dX10_printOne_187 : decode cX10_printOne 187 = .ok (.aload_n 0, 1) := by decide +kernel
theorem dX10_printOne_188 : decode cX10_printOne 188 = .ok (.bipush 42, 2) := by decide +kernel
theorem dX10_printOne_190 : decode cX10_printOne 190 = .ok (.invokevirtual 264, 3) := by decide +kernel
theorem dX10_printOne_193 : decode cX10_printOne 193 = .ok (.aload_n 0, 1) := by decide +kernel
theorem dX10_printOne_194 : decode cX10_printOne 194 = .ok (.iload_n 1, 1) := by decide +kernel
theorem dX10_printOne_195 : decode cX10_printOne 195 = .ok (.aload_n 0, 1) := by decide +kernel
theorem dX10_printOne_196 : decode cX10_printOne 196 = .ok (.iload_n 1, 1) := by decide +kernel
theorem dX10_printOne_197 : decode cX10_printOne 197 = .ok (.iload_n 2, 1) := by decide +kernel
theorem dX10_printOne_198 : decode cX10_printOne 198 = .ok (.invokevirtual 109, 3) := by decide +kernel
theorem dX10_printOne_201 : decode cX10_printOne 201 = .ok (.iconst 3, 1) := by decide +kernel
theorem dX10_printOne_202 : decode cX10_printOne 202 = .ok (.invokevirtual 281, 3) := by decide +kernel
theorem dX10_printOne_205 : decode cX10_printOne 205 = .ok (.goto 100, 3) := by decide +kernel
theorem dX10_printOne_208 : decode cX10_printOne 208 = .ok (.aload_n 0, 1) := by decide +kernel
theorem dX10_printOne_209 : decode cX10_printOne 209 = .ok (.iload_n 1, 1) := by decide +kernel
theorem dX10_printOne_210 : decode cX10_printOne 210 = .ok (.iload_n 3, 1) := by decide +kernel
theorem dX10_printOne_211 : decode cX10_printOne 211 = .ok (.iconst 3, 1) := by decide +kernel
theorem dX10_printOne_212 : decode cX10_printOne 212 = .ok (.invokevirtual 281, 3) := by decide +kernel
theorem dX10_printOne_215 : decode cX10_printOne 215 = .ok (.aload_n 0, 1) := by decide +kernel
theorem dX10_printOne_216 : decode cX10_printOne 216 = .ok (.bipush 94, 2) := by decide +kernel
theorem dX10_printOne_218 : decode cX10_printOne 218 = .ok (.invokevirtual 264, 3) := by decide +kernel
theorem dX10_printOne_221 : decode cX10_printOne 221 = .ok (.aload_n 0, 1) := by decide +kernel
theorem dX10_printOne_222 : decode cX10_printOne 222 = .ok (.bipush 48, 2) := by decide +kernel
theorem dX10_printOne_224 : decode cX10_printOne 224 = .ok (.aload_n 0, 1) := by decide +kernel
theorem dX10_printOne_225 : decode cX10_printOne 225 = .ok (.getfield 20, 3) := by decide +kernel
theorem dX10_printOne_228 : decode cX10_printOne 228 = .ok (.iload_n 1, 1) := by decide +kernel
theorem dX10_printOne_229 : decode cX10_printOne 229 = .ok (.aaload, 1) := by decide +kernel
theorem dX10_printOne_230 : decode cX10_printOne 230 = .ok (.iload_n 2, 1) := by decide +kernel
theorem dX10_printOne_231 : decode cX10_printOne 231 = .ok (.laload, 1) := by decide +kernel
theorem dX10_printOne_232 : decode cX10_printOne 232 = .ok (.l2i, 1) := by decide +kernel
theorem dX10_printOne_233 : decode cX10_printOne 233 = .ok (.iadd, 1) := by decide +kernel
theorem dX10_printOne_234 : decode cX10_printOne 234 = .ok (.invokevirtual 264, 3) := by decide +kernel
theorem dX10_printOne_237 : decode cX10_printOne 237 = .ok (.goto 68, 3) := by decide +kernel
theorem dX10_printOne_240 : decode cX10_printOne 240 = .ok (.aload_n 0, 1) := by decide +kernel
theorem dX10_printOne_241 : decode cX10_printOne 241 = .ok (.iload_n 1, 1) := by decide +kernel
theorem dX10_printOne_242 : decode cX10_printOne 242 = .ok (.iload_n 3, 1) := by decide +kernel
theorem dX10_printOne_243 : decode cX10_printOne 243 = .ok (.iconst 1, 1) := by decide +kernel
theorem dX10_printOne_244 : decode cX10_printOne 244 = .ok (.invokevirtual 281, 3) := by decide +kernel
theorem dX10_printOne_247 : decode cX10_printOne 247 = .ok (.aload_n 0, 1) := by decide +kernel
theorem dX10_printOne_248 : decode cX10_printOne 248 = .ok (.bipush 63, 2) := by decide +kernel
theorem dX10_printOne_250 : decode cX10_printOne 250 = .ok (.invokevirtual 264, 3) := by decide +kernel
theorem dX10_printOne_253 : decode cX10_printOne 253 = .ok (.aload_n 0, 1) := by decide +kernel
theorem dX10_printOne_254 : decode cX10_printOne 254 = .ok (.iload_n 1, 1) := by decide +kernel
theorem dX10_printOne_255 : decode cX10_printOne 255 = .ok (.aload_n 0, 1) := by decide +kernel
theorem dX10_printOne_256 : decode cX10_printOne 256 = .ok (.iload_n 1, 1) := by decide +kernel
theorem dX10_printOne_257 : decode cX10_printOne 257 = .ok (.iload_n 2, 1) := by decide +kernel
theorem dX10_printOne_258 : decode cX10_printOne 258 = .ok (.invokevirtual 109, 3) := by decide +kernel
theorem dX10_printOne_261 : decode cX10_printOne 261 = .ok (.iconst 1, 1) := by decide +kernel
theorem dX10_printOne_262 : decode cX10_printOne 262 = .ok (.invokevirtual 281, 3) := by decide +kernel
theorem dX10_printOne_265 : decode cX10_printOne 265 = .ok (.aload_n 0, 1) := by decide +kernel
theorem dX10_printOne_266 : decode cX10_printOne 266 = .ok (.bipush 58, 2) := by decide +kernel
theorem dX10_printOne_268 : decode cX10_printOne 268 = .ok (.invokevirtual 264, 3) := by decide +kernel
theorem dX10_printOne_271 : decode cX10_printOne 271 = .ok (.aload_n 0, 1) := by decide +kernel
theorem dX10_printOne_272 : decode cX10_printOne 272 = .ok (.iload_n 1, 1) := by decide +kernel
theorem dX10_printOne_273 : decode cX10_printOne 273 = .ok (.aload_n 0, 1) := by decide +kernel
theorem dX10_printOne_274 : decode cX10_printOne 274 = .ok (.iload_n 1, 1) := by decide +kernel
theorem dX10_printOne_275 : decode cX10_printOne 275 = .ok (.iload_n 2, 1) := by decide +kernel
theorem dX10_printOne_276 : decode cX10_printOne 276 = .ok (.invokevirtual 233, 3) := by decide +kernel
theorem dX10_printOne_279 : decode cX10_printOne 279 = .ok (.iconst 1, 1) := by decide +kernel
theorem dX10_printOne_280 : decode cX10_printOne 280 = .ok (.invokevirtual 281, 3) := by decide +kernel
theorem dX10_printOne_283 : decode cX10_printOne 283 = .ok (.goto 22, 3) := by decide +kernel
theorem dX10_printOne_286 : decode cX10_printOne 286 = .ok (.aload_n 0, 1) := by decide +kernel
theorem dX10_printOne_287 : decode cX10_printOne 287 = .ok (.bipush 91, 2) := by decide +kernel
theorem dX10_printOne_289 : decode cX10_printOne 289 = .ok (.invokevirtual 264, 3) := by decide +kernel
theorem dX10_printOne_292 : decode cX10_printOne 292 = .ok (.aload_n 0, 1) := by decide +kernel
theorem dX10_printOne_293 : decode cX10_printOne 293 = .ok (.iload_n 1, 1) := by decide +kernel
theorem dX10_printOne_294 : decode cX10_printOne 294 = .ok (.iload_n 3, 1) := by decide +kernel
theorem dX10_printOne_295 : decode cX10_printOne 295 = .ok (.iconst 0, 1) := by decide +kernel
theorem dX10_printOne_296 : decode cX10_printOne 296 = .ok (.invokevirtual 281, 3) := by decide +kernel
theorem dX10_printOne_299 : decode cX10_printOne 299 = .ok (.aload_n 0, 1) := by decide +kernel
theorem dX10_printOne_300 : decode cX10_printOne 300 = .ok (.bipush 93, 2) := by decide +kernel
theorem dX10_printOne_302 : decode cX10_printOne 302 = .ok (.invokevirtual 264, 3) := by decide +kernel
theorem dX10_printOne_305 : decode cX10_printOne 305 = .ok (.return_, 1) := by decide +kernel
theorem dX10_print_0 : decode cX10_print 0 = .ok (.aload_n 0, 1) := by decide +kernel
theorem dX10_print_1 : decode cX10_print 1 = .ok (.iload_n 1, 1) := by decide +kernel
theorem dX10_print_2 : decode cX10_print 2 = .ok (.invokevirtual 247, 3) := by decide +kernel
theorem dX10_print_5 : decode cX10_print 5 = .ok (.istore_n 3, 1) := by decide +kernel
theorem dX10_print_6 : decode cX10_print 6 = .ok (.iload_n 3, 1) := by decide +kernel
theorem dX10_print_7 : decode cX10_print 7 = .ok (.ifCond .eq 5, 3) := by decide +kernel
theorem dX10_print_10 : decode cX10_print 10 = .ok (.iload_n 3, 1) := by decide +kernel
theorem dX10_print_11 : decode cX10_print 11 = .ok (.ireturn, 1) := by decide +kernel
theorem dX10_print_12 : decode cX10_print 12 = .ok (.aload_n 0, 1) := by decide +kernel
theorem dX10_print_13 : decode cX10_print 13 = .ok (.iconst 0, 1) := by decide +kernel
theorem dX10_print_14 : decode cX10_print 14 = .ok (.putfield 261, 3) := by decide +kernel
theorem dX10_print_17 : decode cX10_print 17 = .ok (.aload_n 0, 1) := by decide +kernel
theorem dX10_print_18 : decode cX10_print 18 = .ok (.iload_n 1, 1) := by decide +kernel
theorem dX10_print_19 : decode cX10_print 19 = .ok (.iconst 0, 1) := by decide +kernel
theorem dX10_print_20 : decode cX10_print 20 = .ok (.invokevirtual 274, 3) := by decide +kernel
theorem dX10_print_23 : decode cX10_print 23 = .ok (.iload_n 2, 1) := by decide +kernel
theorem dX10_print_24 : decode cX10_print 24 = .ok (.iconst (-1), 1) := by decide +kernel
theorem dX10_print_25 : decode cX10_print 25 = .ok (.if_icmp .ne 8, 3) := by decide +kernel
theorem dX10_print_28 : decode cX10_print 28 = .ok (.aload_n 0, 1) := by decide +kernel
theorem dX10_print_29 : decode cX10_print 29 = .ok (.getfield 261, 3) := by decide +kernel
theorem dX10_print_32 : decode cX10_print 32 = .ok (.ireturn, 1) := by decide +kernel
theorem dX10_print_33 : decode cX10_print 33 = .ok (.iload_n 2, 1) := by decide +kernel
theorem dX10_print_34 : decode cX10_print 34 = .ok (.iconst 0, 1) := by decide +kernel
theorem dX10_print_35 : decode cX10_print 35 = .ok (.aload_n 0, 1) := by decide +kernel
theorem dX10_print_36 : decode cX10_print 36 = .ok (.getfield 261, 3) := by decide +kernel
theorem dX10_print_39 : decode cX10_print 39 = .ok (.iconst 1, 1) := by decide +kernel
theorem dX10_print_40 : decode cX10_print 40 = .ok (.isub, 1) := by decide +kernel
theorem dX10_print_41 : decode cX10_print 41 = .ok (.invokestatic 84, 3) := by decide +kernel
theorem dX10_print_44 : decode cX10_print 44 = .ok (.ifCond .eq 12, 3) := by decide +kernel
theorem dX10_print_47 : decode cX10_print 47 = .ok (.aload_n 0, 1) := by decide +kernel
theorem dX10_print_48 : decode cX10_print 48 = .ok (.getfield 42, 3) := by decide +kernel
theorem dX10_print_51 : decode cX10_print 51 = .ok (.iload_n 2, 1) := by decide +kernel
theorem dX10_print_52 : decode cX10_print 52 = .ok (.iaload, 1) := by decide +kernel
theorem dX10_print_53 : decode cX10_print 53 = .ok (.goto 5, 3) := by decide +kernel
theorem dX10_print_56 : decode cX10_print 56 = .ok (.bipush (-12), 2) := by decide +kernel
theorem dX10_print_58 : decode cX10_print 58 = .ok (.ireturn, 1) := by decide +kernel
theorem dX10_own_0 : decode cX10_own 0 = .ok (.iload_n 0, 1) := by decide +kernel
theorem dX10_own_1 : decode cX10_own 1 = .ok (.iconst 3, 1) := by decide +kernel
theorem dX10_own_2 : decode cX10_own 2 = .ok (.if_icmp .ne 10, 3) := by decide +kernel
theorem dX10_own_5 : decode cX10_own 5 = .ok (.iload_n 1, 1) := by decide +kernel
theorem dX10_own_6 : decode cX10_own 6 = .ok (.iconst 2, 1) := by decide +kernel
theorem dX10_own_7 : decode cX10_own 7 = .ok (.if_icmp .ne 5, 3) := by decide +kernel
theorem dX10_own_10 : decode cX10_own 10 = .ok (.iconst 0, 1) := by decide +kernel
theorem dX10_own_11 : decode cX10_own 11 = .ok (.ireturn, 1) := by decide +kernel
theorem dX10_own_12 : decode cX10_own 12 = .ok (.iload_n 0, 1) := by decide +kernel
theorem dX10_own_13 : decode cX10_own 13 = .ok (.iconst 2, 1) := by decide +kernel
theorem dX10_own_14 : decode cX10_own 14 = .ok (.if_icmp .eq 10, 3) := by decide +kernel
theorem dX10_own_17 : decode cX10_own 17 = .ok (.iload_n 0, 1) := by decide +kernel
theorem dX10_own_18 : decode cX10_own 18 = .ok (.iconst 4, 1) := by decide +kernel
theorem dX10_own_19 : decode cX10_own 19 = .ok (.if_icmp .eq 5, 3) := by decide +kernel
theorem dX10_own_22 : decode cX10_own 22 = .ok (.iconst 1, 1) := by decide +kernel
theorem dX10_own_23 : decode cX10_own 23 = .ok (.ireturn, 1) := by decide +kernel
theorem dX10_own_24 : decode cX10_own 24 = .ok (.iload_n 1, 1) := by decide +kernel
theorem dX10_own_25 : decode cX10_own 25 = .ok (.iconst 4, 1) := by decide +kernel
theorem dX10_own_26 : decode cX10_own 26 = .ok (.if_icmp .eq 9, 3) := by decide +kernel
theorem dX10_own_29 : decode cX10_own 29 = .ok (.iload_n 1, 1) := by decide +kernel
theorem dX10_own_30 : decode cX10_own 30 = .ok (.bipush 7, 2) := by decide +kernel
theorem dX10_own_32 : decode cX10_own 32 = .ok (.if_icmp .ne 7, 3) := by decide +kernel
theorem dX10_own_35 : decode cX10_own 35 = .ok (.iconst 3, 1) := by decide +kernel
theorem dX10_own_36 : decode cX10_own 36 = .ok (.goto 13, 3) := by decide +kernel
theorem dX10_own_39 : decode cX10_own 39 = .ok (.iload_n 1, 1) := by decide +kernel
theorem dX10_own_40 : decode cX10_own 40 = .ok (.iconst 5, 1) := by decide +kernel
theorem dX10_own_41 : decode cX10_own 41 = .ok (.if_icmp .ne 7, 3) := by decide +kernel
theorem dX10_own_44 : decode cX10_own 44 = .ok (.iload_n 2, 1) := by decide +kernel
theorem dX10_own_45 : decode cX10_own 45 = .ok (.goto 4, 3) := by decide +kernel
theorem dX10_own_48 : decode cX10_own 48 = .ok (.iconst 1, 1) := by decide +kernel
theorem dX10_own_49 : decode cX10_own 49 = .ok (.ireturn, 1) := by decide +kernel
theorem dX10_join_0 : decode cX10_join 0 = .ok (.iload_n 0, 1) := by decide +kernel
theorem dX10_join_1 : decode cX10_join 1 = .ok (.iconst 1, 1) := by decide +kernel
theorem dX10_join_2 : decode cX10_join 2 = .ok (.if_icmp .eq 8, 3) := by decide +kernel
theorem dX10_join_5 : decode cX10_join 5 = .ok (.iload_n 0, 1) := by decide +kernel
theorem dX10_join_6 : decode cX10_join 6 = .ok (.iconst 3, 1) := by decide +kernel
theorem dX10_join_7 : decode cX10_join 7 = .ok (.if_icmp .ne 11, 3) := by decide +kernel
theorem dX10_join_10 : decode cX10_join 10 = .ok (.iload_n 1, 1) := by decide +kernel
theorem dX10_join_11 : decode cX10_join 11 = .ok (.iload_n 2, 1) := by decide +kernel
theorem dX10_join_12 : decode cX10_join 12 = .ok (.invokestatic 284, 3) := by decide +kernel
theorem dX10_join_15 : decode cX10_join 15 = .ok (.goto 6, 3) := by decide +kernel
theorem dX10_join_18 : decode cX10_join 18 = .ok (.iload_n 1, 1) := by decide +kernel
theorem dX10_join_19 : decode cX10_join 19 = .ok (.iload_n 2, 1) := by decide +kernel
theorem dX10_join_20 : decode cX10_join 20 = .ok (.iadd, 1) := by decide +kernel
theorem dX10_join_21 : decode cX10_join 21 = .ok (.ireturn, 1) := by decide +kernel
theorem dX10_measureOf_0 : decode cX10_measureOf 0 = .ok (.aload_n 0, 1) := by decide +kernel
theorem dX10_measureOf_1 : decode cX10_measureOf 1 = .ok (.getfield 15, 3) := by decide +kernel
theorem dX10_measureOf_4 : decode cX10_measureOf 4 = .ok (.iload_n 1, 1) := by decide +kernel
theorem dX10_measureOf_5 : decode cX10_measureOf 5 = .ok (.aaload, 1) := by decide +kernel
theorem dX10_measureOf_6 : decode cX10_measureOf 6 = .ok (.iload_n 2, 1) := by decide +kernel
theorem dX10_measureOf_7 : decode cX10_measureOf 7 = .ok (.iaload, 1) := by decide +kernel
theorem dX10_measureOf_8 : decode cX10_measureOf 8 = .ok (.istore 4, 2) := by decide +kernel
theorem dX10_measureOf_10 : decode cX10_measureOf 10 = .ok (.iload_n 3, 1) := by decide +kernel
theorem dX10_measureOf_11 : decode cX10_measureOf 11 = .ok (.iload 4, 2) := by decide +kernel
theorem dX10_measureOf_13 : decode cX10_measureOf 13 = .ok (.aload_n 0, 1) := by decide +kernel
theorem dX10_measureOf_14 : decode cX10_measureOf 14 = .ok (.getfield 20, 3) := by decide +kernel
theorem dX10_measureOf_17 : decode cX10_measureOf 17 = .ok (.iload_n 1, 1) := by decide +kernel
theorem dX10_measureOf_18 : decode cX10_measureOf 18 = .ok (.aaload, 1) := by decide +kernel
theorem dX10_measureOf_19 : decode cX10_measureOf 19 = .ok (.iload_n 2, 1) := by decide +kernel
theorem dX10_measureOf_20 : decode cX10_measureOf 20 = .ok (.laload, 1) := by decide +kernel
theorem dX10_measureOf_21 : decode cX10_measureOf 21 = .ok (.l2i, 1) := by decide +kernel
theorem dX10_measureOf_22 : decode cX10_measureOf 22 = .ok (.invokestatic 289, 3) := by decide +kernel
theorem dX10_measureOf_25 : decode cX10_measureOf 25 = .ok (.istore 5, 2) := by decide +kernel
theorem dX10_measureOf_27 : decode cX10_measureOf 27 = .ok (.iconst 0, 1) := by decide +kernel
theorem dX10_measureOf_28 : decode cX10_measureOf 28 = .ok (.istore 6, 2) := by decide +kernel
theorem dX10_measureOf_30 : decode cX10_measureOf 30 = .ok (.iload_n 3, 1) := by decide +kernel
theorem dX10_measureOf_31 : decode cX10_measureOf 31 = .ok (.iconst 4, 1) := by decide +kernel
theorem dX10_measureOf_32 : decode cX10_measureOf 32 = .ok (.if_icmp .ne 52, 3) := by decide +kernel
theorem dX10_measureOf_35 : decode cX10_measureOf 35 = .ok (.iload 4, 2) := by decide +kernel
theorem dX10_measureOf_37 : decode cX10_measureOf 37 = .ok (.bipush 6, 2) := by decide +kernel
theorem dX10_measureOf_39 : decode cX10_measureOf 39 = .ok (.if_icmp .ne 45, 3) := by decide +kernel
theorem dX10_measureOf_42 : decode cX10_measureOf 42 = .ok (.aload_n 0, 1) := by decide +kernel
theorem dX10_measureOf_43 : decode cX10_measureOf 43 = .ok (.iload_n 1, 1) := by decide +kernel
theorem dX10_measureOf_44 : decode cX10_measureOf 44 = .ok (.iload_n 2, 1) := by decide +kernel
theorem dX10_measureOf_45 : decode cX10_measureOf 45 = .ok (.iconst 1, 1) := by decide +kernel
theorem dX10_measureOf_46 : decode cX10_measureOf 46 = .ok (.iadd, 1) := by decide +kernel
theorem dX10_measureOf_47 : decode cX10_measureOf 47 = .ok (.iload_n 3, 1) := by decide +kernel
theorem dX10_measureOf_48 : decode cX10_measureOf 48 = .ok (.invokevirtual 293, 3) := by decide +kernel
theorem dX10_measureOf_51 : decode cX10_measureOf 51 = .ok (.aload_n 0, 1) := by decide +kernel
theorem dX10_measureOf_52 : decode cX10_measureOf 52 = .ok (.iload_n 1, 1) := by decide +kernel
theorem dX10_measureOf_53 : decode cX10_measureOf 53 = .ok (.aload_n 0, 1) := by decide +kernel
theorem dX10_measureOf_54 : decode cX10_measureOf 54 = .ok (.iload_n 1, 1) := by decide +kernel
theorem dX10_measureOf_55 : decode cX10_measureOf 55 = .ok (.iload_n 2, 1) := by decide +kernel
theorem dX10_measureOf_56 : decode cX10_measureOf 56 = .ok (.invokevirtual 109, 3) := by decide +kernel
theorem dX10_measureOf_59 : decode cX10_measureOf 59 = .ok (.iload_n 3, 1) := by decide +kernel
theorem dX10_measureOf_60 : decode cX10_measureOf 60 = .ok (.invokevirtual 293, 3) := by decide +kernel
theorem dX10_measureOf_63 : decode cX10_measureOf 63 = .ok (.aload_n 0, 1) := by decide +kernel
theorem dX10_measureOf_64 : decode cX10_measureOf 64 = .ok (.iload_n 1, 1) := by decide +kernel
theorem dX10_measureOf_65 : decode cX10_measureOf 65 = .ok (.aload_n 0, 1) := by decide +kernel
theorem dX10_measureOf_66 : decode cX10_measureOf 66 = .ok (.iload_n 1, 1) := by decide +kernel
theorem dX10_measureOf_67 : decode cX10_measureOf 67 = .ok (.iload_n 2, 1) := by decide +kernel
theorem dX10_measureOf_68 : decode cX10_measureOf 68 = .ok (.invokevirtual 233, 3) := by decide +kernel
theorem dX10_measureOf_71 : decode cX10_measureOf 71 = .ok (.iload_n 3, 1) := by decide +kernel
theorem dX10_measureOf_72 : decode cX10_measureOf 72 = .ok (.invokevirtual 293, 3) := by decide +kernel
theorem dX10_measureOf_75 : decode cX10_measureOf 75 = .ok (.invokestatic 284, 3) := by decide +kernel
theorem dX10_measureOf_78 : decode cX10_measureOf 78 = .ok (.iadd, 1) := by decide +kernel
theorem dX10_measureOf_79 : decode cX10_measureOf 79 = .ok (.istore 6, 2) := by decide +kernel
theorem dX10_measureOf_81 : decode cX10_measureOf 81 = .ok (.goto 84, 3) := by decide +kernel
theorem dX10_measureOf_84 : decode cX10_measureOf 84 = .ok (.iload_n 3, 1) := by decide +kernel
theorem dX10_measureOf_85 : decode cX10_measureOf 85 = .ok (.iconst 5, 1) := by decide +kernel
theorem dX10_measureOf_86 : decode cX10_measureOf 86 = .ok (.if_icmp .ne 28, 3) := by decide +kernel
theorem dX10_measureOf_89 : decode cX10_measureOf 89 = .ok (.iload 4, 2) := by decide +kernel
theorem dX10_measureOf_91 : decode cX10_measureOf 91 = .ok (.bipush 7, 2) := by decide +kernel
theorem dX10_measureOf_93 : decode cX10_measureOf 93 = .ok (.if_icmp .ne 21, 3) := by decide +kernel
theorem dX10_measureOf_96 : decode cX10_measureOf 96 = .ok (.iconst 2, 1) := by decide +kernel
theorem dX10_measureOf_97 : decode cX10_measureOf 97 = .ok (.aload_n 0, 1) := by decide +kernel
theorem dX10_measureOf_98 : decode cX10_measureOf 98 = .ok (.iload_n 1, 1) := by decide +kernel
theorem dX10_measureOf_99 : decode cX10_measureOf 99 = .ok (.iload_n 2, 1) := by decide +kernel
theorem dX10_measureOf_100 : decode cX10_measureOf 100 = .ok (.iconst 1, 1) := by decide +kernel
theorem dX10_measureOf_101 : decode cX10_measureOf 101 = .ok (.iadd, 1) := by decide +kernel
theorem dX10_measureOf_102 : decode cX10_measureOf 102 = .ok (.iload_n 3, 1) := by decide +kernel
theorem dX10_measureOf_103 : decode cX10_measureOf 103 = .ok (.invokevirtual 293, 3) := by decide +kernel
theorem dX10_measureOf_106 : decode cX10_measureOf 106 = .ok (.imul, 1) := by decide +kernel
theorem dX10_measureOf_107 : decode cX10_measureOf 107 = .ok (.iconst 1, 1) := by decide +kernel
theorem dX10_measureOf_108 : decode cX10_measureOf 108 = .ok (.iadd, 1) := by decide +kernel
theorem dX10_measureOf_109 : decode cX10_measureOf 109 = .ok (.istore 6, 2) := by decide +kernel
theorem dX10_measureOf_111 : decode cX10_measureOf 111 = .ok (.goto 54, 3) := by decide +kernel
theorem dX10_measureOf_114 : decode cX10_measureOf 114 = .ok (.iload_n 2, 1) := by decide +kernel
theorem dX10_measureOf_115 : decode cX10_measureOf 115 = .ok (.iconst 1, 1) := by decide +kernel
theorem dX10_measureOf_116 : decode cX10_measureOf 116 = .ok (.iadd, 1) := by decide +kernel
theorem dX10_measureOf_117 : decode cX10_measureOf 117 = .ok (.istore 7, 2) := by decide +kernel
theorem dX10_measureOf_119 : decode cX10_measureOf 119 = .ok (.iconst 0, 1) := by decide +kernel
theorem dX10_measureOf_120 : decode cX10_measureOf 120 = .ok (.istore 8, 2) := by decide +kernel
theorem dX10_measureOf_122 : decode cX10_measureOf 122 = .ok (.iload 8, 2) := by decide +kernel
theorem dX10_measureOf_124 : decode cX10_measureOf 124 = .ok (.iload 4, 2) := by decide +kernel
theorem dX10_measureOf_126 : decode cX10_measureOf 126 = .ok (.invokestatic 98, 3) := by decide +kernel
theorem dX10_measureOf_129 : decode cX10_measureOf 129 = .ok (.if_icmp .ge 36, 3) := by decide +kernel
theorem dX10_measureOf_132 : decode cX10_measureOf 132 = .ok (.iload_n 3, 1) := by decide +kernel
theorem dX10_measureOf_133 : decode cX10_measureOf 133 = .ok (.iload 6, 2) := by decide +kernel
theorem dX10_measureOf_135 : decode cX10_measureOf 135 = .ok (.aload_n 0, 1) := by decide +kernel
theorem dX10_measureOf_136 : decode cX10_measureOf 136 = .ok (.iload_n 1, 1) := by decide +kernel
theorem dX10_measureOf_137 : decode cX10_measureOf 137 = .ok (.iload 7, 2) := by decide +kernel
theorem dX10_measureOf_139 : decode cX10_measureOf 139 = .ok (.iload_n 3, 1) := by decide +kernel
theorem dX10_measureOf_140 : decode cX10_measureOf 140 = .ok (.invokevirtual 293, 3) := by decide +kernel
theorem dX10_measureOf_143 : decode cX10_measureOf 143 = .ok (.invokestatic 296, 3) := by decide +kernel
theorem dX10_measureOf_146 : decode cX10_measureOf 146 = .ok (.istore 6, 2) := by decide +kernel
theorem dX10_measureOf_148 : decode cX10_measureOf 148 = .ok (.aload_n 0, 1) := by decide +kernel
theorem dX10_measureOf_149 : decode cX10_measureOf 149 = .ok (.getfield 23, 3) := by decide +kernel
theorem dX10_measureOf_152 : decode cX10_measureOf 152 = .ok (.iload_n 1, 1) := by decide +kernel
theorem dX10_measureOf_153 : decode cX10_measureOf 153 = .ok (.aaload, 1) := by decide +kernel
theorem dX10_measureOf_154 : decode cX10_measureOf 154 = .ok (.iload 7, 2) := by decide +kernel
theorem dX10_measureOf_156 : decode cX10_measureOf 156 = .ok (.iaload, 1) := by decide +kernel
theorem dX10_measureOf_157 : decode cX10_measureOf 157 = .ok (.istore 7, 2) := by decide +kernel
theorem dX10_measureOf_159 : decode cX10_measureOf 159 = .ok (.iinc 8 1, 3) := by decide +kernel
theorem dX10_measureOf_162 : decode cX10_measureOf 162 = .ok (.goto (-40), 3) := by decide +kernel
theorem dX10_measureOf_165 : decode cX10_measureOf 165 = .ok (.sipush 9999, 3) := by decide +kernel
theorem dX10_measureOf_168 : decode cX10_measureOf 168 = .ok (.iload 6, 2) := by decide +kernel
theorem dX10_measureOf_170 : decode cX10_measureOf 170 = .ok (.iload 5, 2) := by decide +kernel
theorem dX10_measureOf_172 : decode cX10_measureOf 172 = .ok (.iadd, 1) := by decide +kernel
theorem dX10_measureOf_173 : decode cX10_measureOf 173 = .ok (.invokestatic 299, 3) := by decide +kernel
theorem dX10_measureOf_176 : decode cX10_measureOf 176 = .ok (.ireturn, 1) := by decide +kernel
theorem dX10_measure_0 : decode cX10_measure 0 = .ok (.iload_n 1, 1) := by decide +kernel
theorem dX10_measure_1 : decode cX10_measure 1 = .ok (.invokestatic 181, 3) := by decide +kernel
theorem dX10_measure_4 : decode cX10_measure 4 = .ok (.ifCond .eq 12, 3) := by decide +kernel
theorem dX10_measure_7 : decode cX10_measure 7 = .ok (.iload_n 2, 1) := by decide +kernel
theorem dX10_measure_8 : decode cX10_measure 8 = .ok (.iconst 0, 1) := by decide +kernel
theorem dX10_measure_9 : decode cX10_measure 9 = .ok (.iconst 5, 1) := by decide +kernel
theorem dX10_measure_10 : decode cX10_measure 10 = .ok (.invokestatic 84, 3) := by decide +kernel
theorem dX10_measure_13 : decode cX10_measure 13 = .ok (.ifCond .ne 6, 3) := by decide +kernel
theorem dX10_measure_16 : decode cX10_measure 16 = .ok (.bipush (-2), 2) := by decide +kernel
theorem dX10_measure_18 : decode cX10_measure 18 = .ok (.ireturn, 1) := by decide +kernel
theorem dX10_measure_19 : decode cX10_measure 19 = .ok (.aload_n 0, 1) := by decide +kernel
theorem dX10_measure_20 : decode cX10_measure 20 = .ok (.getfield 9, 3) := by decide +kernel
theorem dX10_measure_23 : decode cX10_measure 23 = .ok (.iload_n 1, 1) := by decide +kernel
theorem dX10_measure_24 : decode cX10_measure 24 = .ok (.iaload, 1) := by decide +kernel
theorem dX10_measure_25 : decode cX10_measure 25 = .ok (.ifCond .ne 8, 3) := by decide +kernel
theorem dX10_measure_28 : decode cX10_measure 28 = .ok (.bipush (-3), 2) := by decide +kernel
theorem dX10_measure_30 : decode cX10_measure 30 = .ok (.goto 10, 3) := by decide +kernel
theorem dX10_measure_33 : decode cX10_measure 33 = .ok (.aload_n 0, 1) := by decide +kernel
theorem dX10_measure_34 : decode cX10_measure 34 = .ok (.iload_n 1, 1) := by decide +kernel
theorem dX10_measure_35 : decode cX10_measure 35 = .ok (.iconst 0, 1) := by decide +kernel
theorem dX10_measure_36 : decode cX10_measure 36 = .ok (.iload_n 2, 1) := by decide +kernel
theorem dX10_measure_37 : decode cX10_measure 37 = .ok (.invokevirtual 293, 3) := by decide +kernel
theorem dX10_measure_40 : decode cX10_measure 40 = .ok (.ireturn, 1) := by decide +kernel
theorem dX10_line_0 : decode cX10_line 0 = .ok (.aload_n 0, 1) := by decide +kernel
theorem dX10_line_1 : decode cX10_line 1 = .ok (.getfield 45, 3) := by decide +kernel
theorem dX10_line_4 : decode cX10_line 4 = .ok (.aload_n 0, 1) := by decide +kernel
theorem dX10_line_5 : decode cX10_line 5 = .ok (.getfield 302, 3) := by decide +kernel
theorem dX10_line_8 : decode cX10_line 8 = .ok (.bipush 10, 2) := by decide +kernel
theorem dX10_line_10 : decode cX10_line 10 = .ok (.iload_n 1, 1) := by decide +kernel
theorem dX10_line_11 : decode cX10_line 11 = .ok (.imul, 1) := by decide +kernel
theorem dX10_line_12 : decode cX10_line 12 = .ok (.iload_n 2, 1) := by decide +kernel
theorem dX10_line_13 : decode cX10_line 13 = .ok (.iadd, 1) := by decide +kernel
theorem dX10_line_14 : decode cX10_line 14 = .ok (.iastore, 1) := by decide +kernel
theorem dX10_line_15 : decode cX10_line 15 = .ok (.aload_n 0, 1) := by decide +kernel
theorem dX10_line_16 : decode cX10_line 16 = .ok (.dup, 1) := by decide +kernel
theorem dX10_line_17 : decode cX10_line 17 = .ok (.getfield 302, 3) := by decide +kernel
theorem dX10_line_20 : decode cX10_line 20 = .ok (.iconst 1, 1) := by decide +kernel
theorem dX10_line_21 : decode cX10_line 21 = .ok (.iadd, 1) := by decide +kernel
theorem dX10_line_22 : decode cX10_line 22 = .ok (.putfield 302, 3) := by decide +kernel
theorem dX10_line_25 : decode cX10_line 25 = .ok (.return_, 1) := by decide +kernel
theorem dX10_make_0 : decode cX10_make 0 = .ok (.iload_n 2, 1) := by decide +kernel
theorem dX10_make_1 : decode cX10_make 1 = .ok (.iconst 1, 1) := by decide +kernel
theorem dX10_make_2 : decode cX10_make 2 = .ok (.iadd, 1) := by decide +kernel
theorem dX10_make_3 : decode cX10_make 3 = .ok (.istore_n 3, 1) := by decide +kernel
theorem dX10_make_4 : decode cX10_make 4 = .ok (.aload_n 0, 1) := by decide +kernel
theorem dX10_make_5 : decode cX10_make 5 = .ok (.getfield 20, 3) := by decide +kernel
theorem dX10_make_8 : decode cX10_make 8 = .ok (.iload_n 1, 1) := by decide +kernel
theorem dX10_make_9 : decode cX10_make 9 = .ok (.aaload, 1) := by decide +kernel
theorem dX10_make_10 : decode cX10_make 10 = .ok (.iload_n 2, 1) := by decide +kernel
theorem dX10_make_11 : decode cX10_make 11 = .ok (.laload, 1) := by decide +kernel
theorem dX10_make_12 : decode cX10_make 12 = .ok (.l2i, 1) := by decide +kernel
theorem dX10_make_13 : decode cX10_make 13 = .ok (.istore 4, 2) := by decide +kernel
theorem dX10_make_15 : decode cX10_make 15 = .ok (.aload_n 0, 1) := by decide +kernel
theorem dX10_make_16 : decode cX10_make 16 = .ok (.getfield 15, 3) := by decide +kernel
theorem dX10_make_19 : decode cX10_make 19 = .ok (.iload_n 1, 1) := by decide +kernel
theorem dX10_make_20 : decode cX10_make 20 = .ok (.aaload, 1) := by decide +kernel
theorem dX10_make_21 : decode cX10_make 21 = .ok (.iload_n 2, 1) := by decide +kernel
theorem dX10_make_22 : decode cX10_make 22 = .ok (.iaload, 1) := by decide +kernel
theorem dX10_make_23 : decode cX10_make 23 = .ok (.tableswitch 241 0 6 #[41, 67, 77, 92, 92, 134, 150], 41) := by decide +kernel
theorem dX10_make_64 : decode cX10_make 64 = .ok (.aload_n 0, 1) := by decide +kernel
theorem dX10_make_65 : decode cX10_make 65 = .ok (.getfield 48, 3) := by decide +kernel
theorem dX10_make_68 : decode cX10_make 68 = .ok (.aload_n 0, 1) := by decide +kernel
theorem dX10_make_69 : decode cX10_make 69 = .ok (.getfield 302, 3) := by decide +kernel
theorem dX10_make_72 : decode cX10_make 72 = .ok (.aload_n 0, 1) := by decide +kernel
theorem dX10_make_73 : decode cX10_make 73 = .ok (.getfield 20, 3) := by decide +kernel
theorem dX10_make_76 : decode cX10_make 76 = .ok (.iload_n 1, 1) := by decide +kernel
theorem dX10_make_77 : decode cX10_make 77 = .ok (.aaload, 1) := by decide +kernel
theorem dX10_make_78 : decode cX10_make 78 = .ok (.iload_n 2, 1) := by decide +kernel
theorem dX10_make_79 : decode cX10_make 79 = .ok (.laload, 1) := by decide +kernel
theorem dX10_make_80 : decode cX10_make 80 = .ok (.lastore, 1) := by decide +kernel
theorem dX10_make_81 : decode cX10_make 81 = .ok (.aload_n 0, 1) := by decide +kernel
theorem dX10_make_82 : decode cX10_make 82 = .ok (.iconst 0, 1) := by decide +kernel
theorem dX10_make_83 : decode cX10_make 83 = .ok (.iconst 0, 1) := by decide +kernel
theorem dX10_make_84 : decode cX10_make 84 = .ok (.invokevirtual 305, 3) := by decide +kernel
theorem dX10_make_87 : decode cX10_make 87 = .ok (.goto 196, 3) := by decide +kernel
theorem dX10_make_90 : decode cX10_make 90 = .ok (.aload_n 0, 1) := by decide +kernel
theorem dX10_make_91 : decode cX10_make 91 = .ok (.iconst 1, 1) := by decide +kernel
theorem dX10_make_92 : decode cX10_make 92 = .ok (.iload 4, 2) := by decide +kernel
theorem dX10_make_94 : decode cX10_make 94 = .ok (.invokevirtual 305, 3) := by decide +kernel
theorem dX10_make_97 : decode cX10_make 97 = .ok (.goto 186, 3) := by decide +kernel
theorem dX10_make_100 : decode cX10_make 100 = .ok (.aload_n 0, 1) := by decide +kernel
theorem dX10_make_101 : decode cX10_make 101 = .ok (.iload_n 1, 1) := by decide +kernel
theorem dX10_make_102 : decode cX10_make 102 = .ok (.iload_n 3, 1) := by decide +kernel
theorem dX10_make_103 : decode cX10_make 103 = .ok (.invokevirtual 308, 3) := by decide +kernel
theorem dX10_make_106 : decode cX10_make 106 = .ok (.aload_n 0, 1) := by decide +kernel
theorem dX10_make_107 : decode cX10_make 107 = .ok (.iconst 2, 1) := by decide +kernel
theorem dX10_make_108 : decode cX10_make 108 = .ok (.iconst 0, 1) := by decide +kernel
theorem dX10_make_109 : decode cX10_make 109 = .ok (.invokevirtual 305, 3) := by decide +kernel
theorem dX10_make_112 : decode cX10_make 112 = .ok (.goto 171, 3) := by decide +kernel
theorem dX10_make_115 : decode cX10_make 115 = .ok (.aload_n 0, 1) := by decide +kernel
theorem dX10_make_116 : decode cX10_make 116 = .ok (.iload_n 1, 1) := by decide +kernel
theorem dX10_make_117 : decode cX10_make 117 = .ok (.iload_n 3, 1) := by decide +kernel
theorem dX10_make_118 : decode cX10_make 118 = .ok (.invokevirtual 308, 3) := by decide +kernel
theorem dX10_make_121 : decode cX10_make 121 = .ok (.aload_n 0, 1) := by decide +kernel
theorem dX10_make_122 : decode cX10_make 122 = .ok (.iload_n 1, 1) := by decide +kernel
theorem dX10_make_123 : decode cX10_make 123 = .ok (.aload_n 0, 1) := by decide +kernel
theorem dX10_make_124 : decode cX10_make 124 = .ok (.iload_n 1, 1) := by decide +kernel
theorem dX10_make_125 : decode cX10_make 125 = .ok (.iload_n 2, 1) := by decide +kernel
theorem dX10_make_126 : decode cX10_make 126 = .ok (.invokevirtual 109, 3) := by decide +kernel
theorem dX10_make_129 : decode cX10_make 129 = .ok (.invokevirtual 308, 3) := by decide +kernel
theorem dX10_make_132 : decode cX10_make 132 = .ok (.aload_n 0, 1) := by decide +kernel
theorem dX10_make_133 : decode cX10_make 133 = .ok (.aload_n 0, 1) := by decide +kernel
theorem dX10_make_134 : decode cX10_make 134 = .ok (.getfield 15, 3) := by decide +kernel
theorem dX10_make_137 : decode cX10_make 137 = .ok (.iload_n 1, 1) := by decide +kernel
theorem dX10_make_138 : decode cX10_make 138 = .ok (.aaload, 1) := by decide +kernel
theorem dX10_make_139 : decode cX10_make 139 = .ok (.iload_n 2, 1) := by decide +kernel
theorem dX10_make_140 : decode cX10_make 140 = .ok (.iaload, 1) := by decide +kernel
theorem dX10_make_141 : decode cX10_make 141 = .ok (.iconst 3, 1) := by decide +kernel
theorem dX10_make_142 : decode cX10_make 142 = .ok (.if_icmp .ne 7, 3) := by decide +kernel
theorem dX10_make_145 : decode cX10_make 145 = .ok (.iconst 3, 1) := by decide +kernel
theorem dX10_make_146 : decode cX10_make 146 = .ok (.goto 4, 3) := by decide +kernel
theorem dX10_make_149 : decode cX10_make 149 = .ok (.iconst 4, 1) := by decide +kernel
theorem dX10_make_150 : decode cX10_make 150 = .ok (.iconst 0, 1) := by decide +kernel
theorem dX10_make_151 : decode cX10_make 151 = .ok (.invokevirtual 305, 3) := by decide +kernel
theorem dX10_make_154 : decode cX10_make 154 = .ok (.goto 129, 3) := by decide +kernel
theorem dX10_make_157 : decode cX10_make 157 = .ok (.aload_n 0, 1) := by decide +kernel
theorem dX10_make_158 : decode cX10_make 158 = .ok (.iload_n 1, 1) := by decide +kernel
theorem dX10_make_159 : decode cX10_make 159 = .ok (.iload_n 3, 1) := by decide +kernel
theorem dX10_make_160 : decode cX10_make 160 = .ok (.invokevirtual 308, 3) := by decide +kernel
theorem dX10_make_163 : decode cX10_make 163 = .ok (.aload_n 0, 1) := by decide +kernel
theorem dX10_make_164 : decode cX10_make 164 = .ok (.iconst 5, 1) := by decide +kernel
theorem dX10_make_165 : decode cX10_make 165 = .ok (.iload 4, 2) := by decide +kernel
theorem dX10_make_167 : decode cX10_make 167 = .ok (.invokevirtual 305, 3) := by decide +kernel
theorem dX10_make_170 : decode cX10_make 170 = .ok (.goto 113, 3) := by decide +kernel
theorem dX10_make_173 : decode cX10_make 173 = .ok (.aload_n 0, 1) := by decide +kernel
theorem dX10_make_174 : decode cX10_make 174 = .ok (.iload_n 1, 1) := by decide +kernel
theorem dX10_make_175 : decode cX10_make 175 = .ok (.iload_n 3, 1) := by decide +kernel
theorem dX10_make_176 : decode cX10_make 176 = .ok (.invokevirtual 308, 3) := by decide +kernel
theorem dX10_make_179 : decode cX10_make 179 = .ok (.aload_n 0, 1) := by decide +kernel
theorem dX10_make_180 : decode cX10_make 180 = .ok (.getfield 302, 3) := by decide +kernel
theorem dX10_make_183 : decode cX10_make 183 = .ok (.istore 5, 2) := by decide +kernel
theorem dX10_make_185 : decode cX10_make 185 = .ok (.aload_n 0, 1) := by decide +kernel
theorem dX10_make_186 : decode cX10_make 186 = .ok (.bipush 6, 2) := by decide +kernel
theorem dX10_make_188 : decode cX10_make 188 = .ok (.iconst 0, 1) := by decide +kernel
theorem dX10_make_189 : decode cX10_make 189 = .ok (.invokevirtual 305, 3) := by decide +kernel
theorem dX10_make_192 : decode cX10_make 192 = .ok (.aload_n 0, 1) := by decide +kernel
theorem dX10_make_193 : decode cX10_make 193 = .ok (.iload_n 1, 1) := by decide +kernel
theorem dX10_make_194 : decode cX10_make 194 = .ok (.aload_n 0, 1) := by decide +kernel
theorem dX10_make_195 : decode cX10_make 195 = .ok (.iload_n 1, 1) := by decide +kernel
theorem dX10_make_196 : decode cX10_make 196 = .ok (.iload_n 2, 1) := by decide +kernel
theorem dX10_make_197 : decode cX10_make 197 = .ok (.invokevirtual 109, 3) := by decide +kernel
theorem dX10_make_200 : decode cX10_make 200 = .ok (.invokevirtual 308, 3) := by decide +kernel
theorem dX10_make_203 : decode cX10_make 203 = .ok (.aload_n 0, 1) := by decide +kernel
theorem dX10_make_204 : decode cX10_make 204 = .ok (.getfield 302, 3) := by decide +kernel
theorem dX10_make_207 : decode cX10_make 207 = .ok (.istore 6, 2) := by decide +kernel
theorem dX10_make_209 : decode cX10_make 209 = .ok (.aload_n 0, 1) := by decide +kernel
theorem dX10_make_210 : decode cX10_make 210 = .ok (.bipush 7, 2) := by decide +kernel
theorem dX10_make_212 : decode cX10_make 212 = .ok (.iconst 0, 1) := by decide +kernel
theorem dX10_make_213 : decode cX10_make 213 = .ok (.invokevirtual 305, 3) := by decide +kernel
theorem dX10_make_216 : decode cX10_make 216 = .ok (.aload_n 0, 1) := by decide +kernel
theorem dX10_make_217 : decode cX10_make 217 = .ok (.getfield 45, 3) := by decide +kernel
theorem dX10_make_220 : decode cX10_make 220 = .ok (.iload 5, 2) := by decide +kernel
theorem dX10_make_222 : decode cX10_make 222 = .ok (.dup2, 1) := by decide +kernel
theorem dX10_make_223 : decode cX10_make 223 = .ok (.iaload, 1) := by decide +kernel
theorem dX10_make_224 : decode cX10_make 224 = .ok (.bipush 100, 2) := by decide +kernel
theorem dX10_make_226 : decode cX10_make 226 = .ok (.aload_n 0, 1) := by decide +kernel
theorem dX10_make_227 : decode cX10_make 227 = .ok (.getfield 302, 3) := by decide +kernel
theorem dX10_make_230 : decode cX10_make 230 = .ok (.imul, 1) := by decide +kernel
theorem dX10_make_231 : decode cX10_make 231 = .ok (.iadd, 1) := by decide +kernel
theorem dX10_make_232 : decode cX10_make 232 = .ok (.iastore, 1) := by decide +kernel
theorem dX10_make_233 : decode cX10_make 233 = .ok (.aload_n 0, 1) := by decide +kernel
theorem dX10_make_234 : decode cX10_make 234 = .ok (.iload_n 1, 1) := by decide +kernel
theorem dX10_make_235 : decode cX10_make 235 = .ok (.aload_n 0, 1) := by decide +kernel
theorem dX10_make_236 : decode cX10_make 236 = .ok (.iload_n 1, 1) := by decide +kernel
theorem dX10_make_237 : decode cX10_make 237 = .ok (.iload_n 2, 1) := by decide +kernel
theorem dX10_make_238 : decode cX10_make 238 = .ok (.invokevirtual 233, 3) := by decide +kernel
theorem dX10_make_241 : decode cX10_make 241 = .ok (.invokevirtual 308, 3) := by decide +kernel
theorem dX10_make_244 : decode cX10_make 244 = .ok (.aload_n 0, 1) := by decide +kernel
theorem dX10_make_245 : decode cX10_make 245 = .ok (.getfield 45, 3) := by decide +kernel
theorem dX10_make_248 : decode cX10_make 248 = .ok (.iload 6, 2) := by decide +kernel
theorem dX10_make_250 : decode cX10_make 250 = .ok (.dup2, 1) := by decide +kernel
theorem dX10_make_251 : decode cX10_make 251 = .ok (.iaload, 1) := by decide +kernel
theorem dX10_make_252 : decode cX10_make 252 = .ok (.bipush 100, 2) := by decide +kernel
theorem dX10_make_254 : decode cX10_make 254 = .ok (.aload_n 0, 1) := by decide +kernel
theorem dX10_make_255 : decode cX10_make 255 = .ok (.getfield 302, 3) := by decide +kernel
theorem dX10_make_258 : decode cX10_make 258 = .ok (.imul, 1) := by decide +kernel
theorem dX10_make_259 : decode cX10_make 259 = .ok (.iadd, 1) := by decide +kernel
theorem dX10_make_260 : decode cX10_make 260 = .ok (.iastore, 1) := by decide +kernel
theorem dX10_make_261 : decode cX10_make 261 = .ok (.goto 22, 3) := by decide +kernel
theorem dX10_make_264 : decode cX10_make 264 = .ok (.aload_n 0, 1) := by decide +kernel
theorem dX10_make_265 : decode cX10_make 265 = .ok (.iload_n 1, 1) := by decide +kernel
theorem dX10_make_266 : decode cX10_make 266 = .ok (.iload_n 3, 1) := by decide +kernel
theorem dX10_make_267 : decode cX10_make 267 = .ok (.invokevirtual 308, 3) := by decide +kernel
theorem dX10_make_270 : decode cX10_make 270 = .ok (.aload_n 0, 1) := by decide +kernel
theorem dX10_make_271 : decode cX10_make 271 = .ok (.bipush 8, 2) := by decide +kernel
theorem dX10_make_273 : decode cX10_make 273 = .ok (.iconst 0, 1) := by decide +kernel
theorem dX10_make_274 : decode cX10_make 274 = .ok (.invokevirtual 305, 3) := by decide +kernel
theorem dX10_make_277 : decode cX10_make 277 = .ok (.aload_n 0, 1) := by decide +kernel
theorem dX10_make_278 : decode cX10_make 278 = .ok (.iconst 4, 1) := by decide +kernel
theorem dX10_make_279 : decode cX10_make 279 = .ok (.iconst 0, 1) := by decide +kernel
theorem dX10_make_280 : decode cX10_make 280 = .ok (.invokevirtual 305, 3) := by decide +kernel
theorem dX10_make_283 : decode cX10_make 283 = .ok (.return_, 1) := by decide +kernel
theorem dX10_runLines_0 : decode cX10_runLines 0 = .ok (.iconst 0, 1) := by decide +kernel
theorem dX10_runLines_1 : decode cX10_runLines 1 = .ok (.istore_n 1, 1) := by decide +kernel
theorem dX10_runLines_2 : decode cX10_runLines 2 = .ok (.iconst 0, 1) := by decide +kernel
theorem dX10_runLines_3 : decode cX10_runLines 3 = .ok (.istore_n 2, 1) := by decide +kernel
theorem dX10_runLines_4 : decode cX10_runLines 4 = .ok (.aload_n 0, 1) := by decide +kernel
theorem dX10_runLines_5 : decode cX10_runLines 5 = .ok (.iconst 0, 1) := by decide +kernel
theorem dX10_runLines_6 : decode cX10_runLines 6 = .ok (.putfield 311, 3) := by decide +kernel
theorem dX10_runLines_9 : decode cX10_runLines 9 = .ok (.aload_n 0, 1) := by decide +kernel
theorem dX10_runLines_10 : decode cX10_runLines 10 = .ok (.iconst 0, 1) := by decide +kernel
theorem dX10_runLines_11 : decode cX10_runLines 11 = .ok (.putfield 314, 3) := by decide +kernel
theorem dX10_runLines_14 : decode cX10_runLines 14 = .ok (.iload_n 2, 1) := by decide +kernel
theorem dX10_runLines_15 : decode cX10_runLines 15 = .ok (.aload_n 0, 1) := by decide +kernel
theorem dX10_runLines_16 : decode cX10_runLines 16 = .ok (.getfield 302, 3) := by decide +kernel
theorem dX10_runLines_19 : decode cX10_runLines 19 = .ok (.if_icmp .ge 273, 3) := by decide +kernel
theorem dX10_runLines_22 : decode cX10_runLines 22 = .ok (.aload_n 0, 1) := by decide +kernel
theorem dX10_runLines_23 : decode cX10_runLines 23 = .ok (.getfield 45, 3) := by decide +kernel
theorem dX10_runLines_26 : decode cX10_runLines 26 = .ok (.iload_n 2, 1) := by decide +kernel
theorem dX10_runLines_27 : decode cX10_runLines 27 = .ok (.iaload, 1) := by decide +kernel
theorem dX10_runLines_28 : decode cX10_runLines 28 = .ok (.istore_n 3, 1) := by decide +kernel
theorem dX10_runLines_29 : decode cX10_runLines 29 = .ok (.aload_n 0, 1) := by decide +kernel
theorem dX10_runLines_30 : decode cX10_runLines 30 = .ok (.dup, 1) := by decide +kernel
theorem dX10_runLines_31 : decode cX10_runLines 31 = .ok (.getfield 311, 3) := by decide +kernel
theorem dX10_runLines_34 : decode cX10_runLines 34 = .ok (.iconst 1, 1) := by decide +kernel
theorem dX10_runLines_35 : decode cX10_runLines 35 = .ok (.iadd, 1) := by decide +kernel
theorem dX10_runLines_36 : decode cX10_runLines 36 = .ok (.putfield 311, 3) := by decide +kernel
theorem dX10_runLines_39 : decode cX10_runLines 39 = .ok (.iinc 2 1, 3) := by decide +kernel
theorem dX10_runLines_42 : decode cX10_runLines 42 = .ok (.iload_n 3, 1) := by decide +kernel
theorem dX10_runLines_43 : decode cX10_runLines 43 = .ok (.bipush 10, 2) := by decide +kernel
theorem dX10_runLines_45 : decode cX10_runLines 45 = .ok (.idiv, 1) := by decide +kernel
theorem dX10_runLines_46 : decode cX10_runLines 46 = .ok (.bipush 10, 2) := by decide +kernel
theorem dX10_runLines_48 : decode cX10_runLines 48 = .ok (.irem, 1) := by decide +kernel
theorem dX10_runLines_49 : decode cX10_runLines 49 = .ok (.tableswitch 211 0 7 #[47, 67, 89, 109, 132, 155, 181, 203], 47) := by decide +kernel
theorem dX10_runLines_96 : decode cX10_runLines 96 = .ok (.aload_n 0, 1) := by decide +kernel
theorem dX10_runLines_97 : decode cX10_runLines 97 = .ok (.getfield 51, 3) := by decide +kernel
theorem dX10_runLines_100 : decode cX10_runLines 100 = .ok (.iload_n 1, 1) := by decide +kernel
theorem dX10_runLines_101 : decode cX10_runLines 101 = .ok (.iinc 1 1, 3) := by decide +kernel
theorem dX10_runLines_104 : decode cX10_runLines 104 = .ok (.aload_n 0, 1) := by decide +kernel
theorem dX10_runLines_105 : decode cX10_runLines 105 = .ok (.getfield 48, 3) := by decide +kernel
theorem dX10_runLines_108 : decode cX10_runLines 108 = .ok (.iload_n 2, 1) := by decide +kernel
theorem dX10_runLines_109 : decode cX10_runLines 109 = .ok (.iconst 1, 1) := by decide +kernel
theorem dX10_runLines_110 : decode cX10_runLines 110 = .ok (.isub, 1) := by decide +kernel
theorem dX10_runLines_111 : decode cX10_runLines 111 = .ok (.laload, 1) := by decide +kernel
theorem dX10_runLines_112 : decode cX10_runLines 112 = .ok (.lastore, 1) := by decide +kernel
theorem dX10_runLines_113 : decode cX10_runLines 113 = .ok (.goto 164, 3) := by decide +kernel
theorem dX10_runLines_116 : decode cX10_runLines 116 = .ok (.aload_n 0, 1) := by decide +kernel
theorem dX10_runLines_117 : decode cX10_runLines 117 = .ok (.getfield 51, 3) := by decide +kernel
theorem dX10_runLines_120 : decode cX10_runLines 120 = .ok (.iload_n 1, 1) := by decide +kernel
theorem dX10_runLines_121 : decode cX10_runLines 121 = .ok (.iinc 1 1, 3) := by decide +kernel
theorem dX10_runLines_124 : decode cX10_runLines 124 = .ok (.aload_n 0, 1) := by decide +kernel
theorem dX10_runLines_125 : decode cX10_runLines 125 = .ok (.getfield 26, 3) := by decide +kernel
theorem dX10_runLines_128 : decode cX10_runLines 128 = .ok (.iload_n 3, 1) := by decide +kernel
theorem dX10_runLines_129 : decode cX10_runLines 129 = .ok (.bipush 10, 2) := by decide +kernel
theorem dX10_runLines_131 : decode cX10_runLines 131 = .ok (.irem, 1) := by decide +kernel
theorem dX10_runLines_132 : decode cX10_runLines 132 = .ok (.iaload, 1) := by decide +kernel
theorem dX10_runLines_133 : decode cX10_runLines 133 = .ok (.i2l, 1) := by decide +kernel
theorem dX10_runLines_134 : decode cX10_runLines 134 = .ok (.lastore, 1) := by decide +kernel
theorem dX10_runLines_135 : decode cX10_runLines 135 = .ok (.goto 142, 3) := by decide +kernel
theorem dX10_runLines_138 : decode cX10_runLines 138 = .ok (.aload_n 0, 1) := by decide +kernel
theorem dX10_runLines_139 : decode cX10_runLines 139 = .ok (.getfield 51, 3) := by decide +kernel
theorem dX10_runLines_142 : decode cX10_runLines 142 = .ok (.iload_n 1, 1) := by decide +kernel
theorem dX10_runLines_143 : decode cX10_runLines 143 = .ok (.iconst 1, 1) := by decide +kernel
theorem dX10_runLines_144 : decode cX10_runLines 144 = .ok (.isub, 1) := by decide +kernel
theorem dX10_runLines_145 : decode cX10_runLines 145 = .ok (.aload_n 0, 1) := by decide +kernel
theorem dX10_runLines_146 : decode cX10_runLines 146 = .ok (.getfield 51, 3) := by decide +kernel
theorem dX10_runLines_149 : decode cX10_runLines 149 = .ok (.iload_n 1, 1) := by decide +kernel
theorem dX10_runLines_150 : decode cX10_runLines 150 = .ok (.iconst 1, 1) := by decide +kernel
theorem dX10_runLines_151 : decode cX10_runLines 151 = .ok (.isub, 1) := by decide +kernel
theorem dX10_runLines_152 : decode cX10_runLines 152 = .ok (.laload, 1) := by decide +kernel
theorem dX10_runLines_153 : decode cX10_runLines 153 = .ok (.lneg, 1) := by decide +kernel
theorem dX10_runLines_154 : decode cX10_runLines 154 = .ok (.lastore, 1) := by decide +kernel
theorem dX10_runLines_155 : decode cX10_runLines 155 = .ok (.goto 122, 3) := by decide +kernel
theorem dX10_runLines_158 : decode cX10_runLines 158 = .ok (.iinc 1 (-1), 3) := by decide +kernel
theorem dX10_runLines_161 : decode cX10_runLines 161 = .ok (.aload_n 0, 1) := by decide +kernel
theorem dX10_runLines_162 : decode cX10_runLines 162 = .ok (.getfield 51, 3) := by decide +kernel
theorem dX10_runLines_165 : decode cX10_runLines 165 = .ok (.iload_n 1, 1) := by decide +kernel
theorem dX10_runLines_166 : decode cX10_runLines 166 = .ok (.iconst 1, 1) := by decide +kernel
theorem dX10_runLines_167 : decode cX10_runLines 167 = .ok (.isub, 1) := by decide +kernel
theorem dX10_runLines_168 : decode cX10_runLines 168 = .ok (.dup2, 1) := by decide +kernel
theorem dX10_runLines_169 : decode cX10_runLines 169 = .ok (.laload, 1) := by decide +kernel
theorem dX10_runLines_170 : decode cX10_runLines 170 = .ok (.aload_n 0, 1) := by decide +kernel
theorem dX10_runLines_171 : decode cX10_runLines 171 = .ok (.getfield 51, 3) := by decide +kernel
theorem dX10_runLines_174 : decode cX10_runLines 174 = .ok (.iload_n 1, 1) := by decide +kernel
theorem dX10_runLines_175 : decode cX10_runLines 175 = .ok (.laload, 1) := by decide +kernel
theorem dX10_runLines_176 : decode cX10_runLines 176 = .ok (.ladd, 1) := by decide +kernel
theorem dX10_runLines_177 : decode cX10_runLines 177 = .ok (.lastore, 1) := by decide +kernel
theorem dX10_runLines_178 : decode cX10_runLines 178 = .ok (.goto 99, 3) := by decide +kernel
theorem dX10_runLines_181 : decode cX10_runLines 181 = .ok (.iinc 1 (-1), 3) := by decide +kernel
theorem dX10_runLines_184 : decode cX10_runLines 184 = .ok (.aload_n 0, 1) := by decide +kernel
theorem dX10_runLines_185 : decode cX10_runLines 185 = .ok (.getfield 51, 3) := by decide +kernel
theorem dX10_runLines_188 : decode cX10_runLines 188 = .ok (.iload_n 1, 1) := by decide +kernel
theorem dX10_runLines_189 : decode cX10_runLines 189 = .ok (.iconst 1, 1) := by decide +kernel
theorem dX10_runLines_190 : decode cX10_runLines 190 = .ok (.isub, 1) := by decide +kernel
theorem dX10_runLines_191 : decode cX10_runLines 191 = .ok (.dup2, 1) := by decide +kernel
theorem dX10_runLines_192 : decode cX10_runLines 192 = .ok (.laload, 1) := by decide +kernel
theorem dX10_runLines_193 : decode cX10_runLines 193 = .ok (.aload_n 0, 1) := by decide +kernel
theorem dX10_runLines_194 : decode cX10_runLines 194 = .ok (.getfield 51, 3) := by decide +kernel
theorem dX10_runLines_197 : decode cX10_runLines 197 = .ok (.iload_n 1, 1) := by decide +kernel
theorem dX10_runLines_198 : decode cX10_runLines 198 = .ok (.laload, 1) := by decide +kernel
theorem dX10_runLines_199 : decode cX10_runLines 199 = .ok (.lmul, 1) := by decide +kernel
theorem dX10_runLines_200 : decode cX10_runLines 200 = .ok (.lastore, 1) := by decide +kernel
theorem dX10_runLines_201 : decode cX10_runLines 201 = .ok (.goto 76, 3) := by decide +kernel
theorem dX10_runLines_204 : decode cX10_runLines 204 = .ok (.aload_n 0, 1) := by decide +kernel
theorem dX10_runLines_205 : decode cX10_runLines 205 = .ok (.getfield 51, 3) := by decide +kernel
theorem dX10_runLines_208 : decode cX10_runLines 208 = .ok (.iload_n 1, 1) := by decide +kernel
theorem dX10_runLines_209 : decode cX10_runLines 209 = .ok (.iconst 1, 1) := by decide +kernel
theorem dX10_runLines_210 : decode cX10_runLines 210 = .ok (.isub, 1) := by decide +kernel
theorem dX10_runLines_211 : decode cX10_runLines 211 = .ok (.aload_n 0, 1) := by decide +kernel
theorem dX10_runLines_212 : decode cX10_runLines 212 = .ok (.getfield 51, 3) := by decide +kernel
theorem dX10_runLines_215 : decode cX10_runLines 215 = .ok (.iload_n 1, 1) := by decide +kernel
theorem dX10_runLines_216 : decode cX10_runLines 216 = .ok (.iconst 1, 1) := by decide +kernel
theorem dX10_runLines_217 : decode cX10_runLines 217 = .ok (.isub, 1) := by decide +kernel
theorem dX10_runLines_218 : decode cX10_runLines 218 = .ok (.laload, 1) := by decide +kernel
theorem dX10_runLines_219 : decode cX10_runLines 219 = .ok (.iload_n 3, 1) := by decide +kernel
theorem dX10_runLines_220 : decode cX10_runLines 220 = .ok (.bipush 10, 2) := by decide +kernel
theorem dX10_runLines_222 : decode cX10_runLines 222 = .ok (.irem, 1) := by decide +kernel
theorem dX10_runLines_223 : decode cX10_runLines 223 = .ok (.invokestatic 218, 3) := by decide +kernel
theorem dX10_runLines_226 : decode cX10_runLines 226 = .ok (.lastore, 1) := by decide +kernel
theorem dX10_runLines_227 : decode cX10_runLines 227 = .ok (.goto 50, 3) := by decide +kernel
theorem dX10_runLines_230 : decode cX10_runLines 230 = .ok (.iinc 1 (-1), 3) := by decide +kernel
theorem dX10_runLines_233 : decode cX10_runLines 233 = .ok (.aload_n 0, 1) := by decide +kernel
theorem dX10_runLines_234 : decode cX10_runLines 234 = .ok (.getfield 51, 3) := by decide +kernel
theorem dX10_runLines_237 : decode cX10_runLines 237 = .ok (.iload_n 1, 1) := by decide +kernel
theorem dX10_runLines_238 : decode cX10_runLines 238 = .ok (.laload, 1) := by decide +kernel
theorem dX10_runLines_239 : decode cX10_runLines 239 = .ok (.lconst 0, 1) := by decide +kernel
theorem dX10_runLines_240 : decode cX10_runLines 240 = .ok (.lcmp, 1) := by decide +kernel
theorem dX10_runLines_241 : decode cX10_runLines 241 = .ok (.ifCond .ne 36, 3) := by decide +kernel
theorem dX10_runLines_244 : decode cX10_runLines 244 = .ok (.iload_n 3, 1) := by decide +kernel
theorem dX10_runLines_245 : decode cX10_runLines 245 = .ok (.bipush 100, 2) := by decide +kernel
theorem dX10_runLines_247 : decode cX10_runLines 247 = .ok (.idiv, 1) := by decide +kernel
theorem dX10_runLines_248 : decode cX10_runLines 248 = .ok (.istore_n 2, 1) := by decide +kernel
theorem dX10_runLines_249 : decode cX10_runLines 249 = .ok (.goto 28, 3) := by decide +kernel
theorem dX10_runLines_252 : decode cX10_runLines 252 = .ok (.iload_n 3, 1) := by decide +kernel
theorem dX10_runLines_253 : decode cX10_runLines 253 = .ok (.bipush 100, 2) := by decide +kernel
theorem dX10_runLines_255 : decode cX10_runLines 255 = .ok (.idiv, 1) := by decide +kernel
theorem dX10_runLines_256 : decode cX10_runLines 256 = .ok (.istore_n 2, 1) := by decide +kernel
theorem dX10_runLines_257 : decode cX10_runLines 257 = .ok (.goto 20, 3) := by decide +kernel
theorem dX10_runLines_260 : decode cX10_runLines 260 = .ok (.aload_n 0, 1) := by decide +kernel
theorem dX10_runLines_261 : decode cX10_runLines 261 = .ok (.getfield 51, 3) := by decide +kernel
theorem dX10_runLines_264 : decode cX10_runLines 264 = .ok (.iload_n 1, 1) := by decide +kernel
theorem dX10_runLines_265 : decode cX10_runLines 265 = .ok (.aload_n 0, 1) := by decide +kernel
theorem dX10_runLines_266 : decode cX10_runLines 266 = .ok (.getfield 51, 3) := by decide +kernel
theorem dX10_runLines_269 : decode cX10_runLines 269 = .ok (.iload_n 1, 1) := by decide +kernel
theorem dX10_runLines_270 : decode cX10_runLines 270 = .ok (.iconst 1, 1) := by decide +kernel
theorem dX10_runLines_271 : decode cX10_runLines 271 = .ok (.isub, 1) := by decide +kernel
theorem dX10_runLines_272 : decode cX10_runLines 272 = .ok (.laload, 1) := by decide +kernel
theorem dX10_runLines_273 : decode cX10_runLines 273 = .ok (.lastore, 1) := by decide +kernel
theorem dX10_runLines_274 : decode cX10_runLines 274 = .ok (.iinc 1 1, 3) := by decide +kernel
theorem dX10_runLines_277 : decode cX10_runLines 277 = .ok (.aload_n 0, 1) := by decide +kernel
theorem dX10_runLines_278 : decode cX10_runLines 278 = .ok (.aload_n 0, 1) := by decide +kernel
theorem dX10_runLines_279 : decode cX10_runLines 279 = .ok (.getfield 314, 3) := by decide +kernel
theorem dX10_runLines_282 : decode cX10_runLines 282 = .ok (.iload_n 1, 1) := by decide +kernel
theorem dX10_runLines_283 : decode cX10_runLines 283 = .ok (.invokestatic 284, 3) := by decide +kernel
theorem dX10_runLines_286 : decode cX10_runLines 286 = .ok (.putfield 314, 3) := by decide +kernel
theorem dX10_runLines_289 : decode cX10_runLines 289 = .ok (.goto (-275), 3) := by decide +kernel
theorem dX10_runLines_292 : decode cX10_runLines 292 = .ok (.aload_n 0, 1) := by decide +kernel
theorem dX10_runLines_293 : decode cX10_runLines 293 = .ok (.getfield 51, 3) := by decide +kernel
theorem dX10_runLines_296 : decode cX10_runLines 296 = .ok (.iconst 0, 1) := by decide +kernel
theorem dX10_runLines_297 : decode cX10_runLines 297 = .ok (.laload, 1) := by decide +kernel
theorem dX10_runLines_298 : decode cX10_runLines 298 = .ok (.lreturn, 1) := by decide +kernel
theorem dX10_code_0 : decode cX10_code 0 = .ok (.iload_n 1, 1) := by decide +kernel
theorem dX10_code_1 : decode cX10_code 1 = .ok (.invokestatic 181, 3) := by decide +kernel
theorem dX10_code_4 : decode cX10_code 4 = .ok (.ifCond .eq 9, 3) := by decide +kernel
theorem dX10_code_7 : decode cX10_code 7 = .ok (.iload_n 2, 1) := by decide +kernel
theorem dX10_code_8 : decode cX10_code 8 = .ok (.bipush (-3), 2) := by decide +kernel
theorem dX10_code_10 : decode cX10_code 10 = .ok (.if_icmp .ge 6, 3) := by decide +kernel
theorem dX10_code_13 : decode cX10_code 13 = .ok (.bipush (-2), 2) := by decide +kernel
theorem dX10_code_15 : decode cX10_code 15 = .ok (.ireturn, 1) := by decide +kernel
theorem dX10_code_16 : decode cX10_code 16 = .ok (.aload_n 0, 1) := by decide +kernel
theorem dX10_code_17 : decode cX10_code 17 = .ok (.getfield 9, 3) := by decide +kernel
theorem dX10_code_20 : decode cX10_code 20 = .ok (.iload_n 1, 1) := by decide +kernel
theorem dX10_code_21 : decode cX10_code 21 = .ok (.iaload, 1) := by decide +kernel
theorem dX10_code_22 : decode cX10_code 22 = .ok (.ifCond .ne 6, 3) := by decide +kernel
theorem dX10_code_25 : decode cX10_code 25 = .ok (.bipush (-3), 2) := by decide +kernel
theorem dX10_code_27 : decode cX10_code 27 = .ok (.ireturn, 1) := by decide +kernel
theorem dX10_code_28 : decode cX10_code 28 = .ok (.aload_n 0, 1) := by decide +kernel
theorem dX10_code_29 : decode cX10_code 29 = .ok (.iconst 0, 1) := by decide +kernel
theorem dX10_code_30 : decode cX10_code 30 = .ok (.putfield 302, 3) := by decide +kernel
theorem dX10_code_33 : decode cX10_code 33 = .ok (.aload_n 0, 1) := by decide +kernel
theorem dX10_code_34 : decode cX10_code 34 = .ok (.iload_n 1, 1) := by decide +kernel
theorem dX10_code_35 : decode cX10_code 35 = .ok (.iconst 0, 1) := by decide +kernel
theorem dX10_code_36 : decode cX10_code 36 = .ok (.invokevirtual 308, 3) := by decide +kernel
theorem dX10_code_39 : decode cX10_code 39 = .ok (.iload_n 2, 1) := by decide +kernel
theorem dX10_code_40 : decode cX10_code 40 = .ok (.ifCond .lt 23, 3) := by decide +kernel
theorem dX10_code_43 : decode cX10_code 43 = .ok (.iload_n 2, 1) := by decide +kernel
theorem dX10_code_44 : decode cX10_code 44 = .ok (.aload_n 0, 1) := by decide +kernel
theorem dX10_code_45 : decode cX10_code 45 = .ok (.getfield 302, 3) := by decide +kernel
theorem dX10_code_48 : decode cX10_code 48 = .ok (.if_icmp .ge 12, 3) := by decide +kernel
theorem dX10_code_51 : decode cX10_code 51 = .ok (.aload_n 0, 1) := by decide +kernel
theorem dX10_code_52 : decode cX10_code 52 = .ok (.getfield 45, 3) := by decide +kernel
theorem dX10_code_55 : decode cX10_code 55 = .ok (.iload_n 2, 1) := by decide +kernel
theorem dX10_code_56 : decode cX10_code 56 = .ok (.iaload, 1) := by decide +kernel
theorem dX10_code_57 : decode cX10_code 57 = .ok (.goto 5, 3) := by decide +kernel
theorem dX10_code_60 : decode cX10_code 60 = .ok (.bipush (-12), 2) := by decide +kernel
theorem dX10_code_62 : decode cX10_code 62 = .ok (.ireturn, 1) := by decide +kernel
theorem dX10_code_63 : decode cX10_code 63 = .ok (.iload_n 2, 1) := by decide +kernel
theorem dX10_code_64 : decode cX10_code 64 = .ok (.iconst (-1), 1) := by decide +kernel
theorem dX10_code_65 : decode cX10_code 65 = .ok (.if_icmp .ne 8, 3) := by decide +kernel
theorem dX10_code_68 : decode cX10_code 68 = .ok (.aload_n 0, 1) := by decide +kernel
theorem dX10_code_69 : decode cX10_code 69 = .ok (.getfield 302, 3) := by decide +kernel
theorem dX10_code_72 : decode cX10_code 72 = .ok (.ireturn, 1) := by decide +kernel
theorem dX10_code_73 : decode cX10_code 73 = .ok (.aload_n 0, 1) := by decide +kernel
theorem dX10_code_74 : decode cX10_code 74 = .ok (.invokevirtual 317, 3) := by decide +kernel
theorem dX10_code_77 : decode cX10_code 77 = .ok (.lstore_n 3, 1) := by decide +kernel
theorem dX10_code_78 : decode cX10_code 78 = .ok (.iload_n 2, 1) := by decide +kernel
theorem dX10_code_79 : decode cX10_code 79 = .ok (.bipush (-2), 2) := by decide +kernel
theorem dX10_code_81 : decode cX10_code 81 = .ok (.if_icmp .ne 10, 3) := by decide +kernel
theorem dX10_code_84 : decode cX10_code 84 = .ok (.aload_n 0, 1) := by decide +kernel
theorem dX10_code_85 : decode cX10_code 85 = .ok (.getfield 311, 3) := by decide +kernel
theorem dX10_code_88 : decode cX10_code 88 = .ok (.goto 7, 3) := by decide +kernel
theorem dX10_code_91 : decode cX10_code 91 = .ok (.aload_n 0, 1) := by decide +kernel
theorem dX10_code_92 : decode cX10_code 92 = .ok (.getfield 314, 3) := by decide +kernel
theorem dX10_code_95 : decode cX10_code 95 = .ok (.ireturn, 1) := by decide +kernel
theorem dX10_run_0 : decode cX10_run 0 = .ok (.aload_n 0, 1) := by decide +kernel
theorem dX10_run_1 : decode cX10_run 1 = .ok (.iload_n 1, 1) := by decide +kernel
theorem dX10_run_2 : decode cX10_run 2 = .ok (.invokevirtual 247, 3) := by decide +kernel
theorem dX10_run_5 : decode cX10_run 5 = .ok (.istore_n 2, 1) := by decide +kernel
theorem dX10_run_6 : decode cX10_run 6 = .ok (.iload_n 2, 1) := by decide +kernel
theorem dX10_run_7 : decode cX10_run 7 = .ok (.ifCond .eq 8, 3) := by decide +kernel
theorem dX10_run_10 : decode cX10_run 10 = .ok (.iload_n 2, 1) := by decide +kernel
theorem dX10_run_11 : decode cX10_run 11 = .ok (.invokestatic 250, 3) := by decide +kernel
theorem dX10_run_14 : decode cX10_run 14 = .ok (.lreturn, 1) := by decide +kernel
theorem dX10_run_15 : decode cX10_run 15 = .ok (.aload_n 0, 1) := by decide +kernel
theorem dX10_run_16 : decode cX10_run 16 = .ok (.iconst 0, 1) := by decide +kernel
theorem dX10_run_17 : decode cX10_run 17 = .ok (.putfield 302, 3) := by decide +kernel
theorem dX10_run_20 : decode cX10_run 20 = .ok (.aload_n 0, 1) := by decide +kernel
theorem dX10_run_21 : decode cX10_run 21 = .ok (.iload_n 1, 1) := by decide +kernel
theorem dX10_run_22 : decode cX10_run 22 = .ok (.iconst 0, 1) := by decide +kernel
theorem dX10_run_23 : decode cX10_run 23 = .ok (.invokevirtual 308, 3) := by decide +kernel
theorem dX10_run_26 : decode cX10_run 26 = .ok (.aload_n 0, 1) := by decide +kernel
theorem dX10_run_27 : decode cX10_run 27 = .ok (.invokevirtual 317, 3) := by decide +kernel
theorem dX10_run_30 : decode cX10_run 30 = .ok (.lreturn, 1) := by decide +kernel
theorem dX10_areAlike_0 : decode cX10_areAlike 0 = .ok (.aload_n 0, 1) := by decide +kernel
theorem dX10_areAlike_1 : decode cX10_areAlike 1 = .ok (.getfield 23, 3) := by decide +kernel
theorem dX10_areAlike_4 : decode cX10_areAlike 4 = .ok (.iload_n 1, 1) := by decide +kernel
theorem dX10_areAlike_5 : decode cX10_areAlike 5 = .ok (.aaload, 1) := by decide +kernel
theorem dX10_areAlike_6 : decode cX10_areAlike 6 = .ok (.iload_n 2, 1) := by decide +kernel
theorem dX10_areAlike_7 : decode cX10_areAlike 7 = .ok (.iaload, 1) := by decide +kernel
theorem dX10_areAlike_8 : decode cX10_areAlike 8 = .ok (.iload_n 2, 1) := by decide +kernel
theorem dX10_areAlike_9 : decode cX10_areAlike 9 = .ok (.isub, 1) := by decide +kernel
theorem dX10_areAlike_10 : decode cX10_areAlike 10 = .ok (.istore 5, 2) := by decide +kernel
theorem dX10_areAlike_12 : decode cX10_areAlike 12 = .ok (.aload_n 0, 1) := by decide +kernel
theorem dX10_areAlike_13 : decode cX10_areAlike 13 = .ok (.getfield 23, 3) := by decide +kernel
theorem dX10_areAlike_16 : decode cX10_areAlike 16 = .ok (.iload_n 3, 1) := by decide +kernel
theorem dX10_areAlike_17 : decode cX10_areAlike 17 = .ok (.aaload, 1) := by decide +kernel
theorem dX10_areAlike_18 : decode cX10_areAlike 18 = .ok (.iload 4, 2) := by decide +kernel
theorem dX10_areAlike_20 : decode cX10_areAlike 20 = .ok (.iaload, 1) := by decide +kernel
theorem dX10_areAlike_21 : decode cX10_areAlike 21 = .ok (.iload 4, 2) := by decide +kernel
theorem dX10_areAlike_23 : decode cX10_areAlike 23 = .ok (.isub, 1) := by decide +kernel
theorem dX10_areAlike_24 : decode cX10_areAlike 24 = .ok (.iload 5, 2) := by decide +kernel
theorem dX10_areAlike_26 : decode cX10_areAlike 26 = .ok (.if_icmp .eq 5, 3) := by decide +kernel
theorem dX10_areAlike_29 : decode cX10_areAlike 29 = .ok (.iconst 0, 1) := by decide +kernel
theorem dX10_areAlike_30 : decode cX10_areAlike 30 = .ok (.ireturn, 1) := by decide +kernel
theorem dX10_areAlike_31 : decode cX10_areAlike 31 = .ok (.iconst 0, 1) := by decide +kernel
theorem dX10_areAlike_32 : decode cX10_areAlike 32 = .ok (.istore 6, 2) := by decide +kernel
theorem dX10_areAlike_34 : decode cX10_areAlike 34 = .ok (.iload 6, 2) := by decide +kernel
theorem dX10_areAlike_36 : decode cX10_areAlike 36 = .ok (.iload 5, 2) := by decide +kernel
theorem dX10_areAlike_38 : decode cX10_areAlike 38 = .ok (.if_icmp .ge 64, 3) := by decide +kernel
theorem dX10_areAlike_41 : decode cX10_areAlike 41 = .ok (.aload_n 0, 1) := by decide +kernel
theorem dX10_areAlike_42 : decode cX10_areAlike 42 = .ok (.getfield 15, 3) := by decide +kernel
theorem dX10_areAlike_45 : decode cX10_areAlike 45 = .ok (.iload_n 1, 1) := by decide +kernel
theorem dX10_areAlike_46 : decode cX10_areAlike 46 = .ok (.aaload, 1) := by decide +kernel
theorem dX10_areAlike_47 : decode cX10_areAlike 47 = .ok (.iload_n 2, 1) := by decide +kernel
theorem dX10_areAlike_48 : decode cX10_areAlike 48 = .ok (.iload 6, 2) := by decide +kernel
theorem dX10_areAlike_50 : decode cX10_areAlike 50 = .ok (.iadd, 1) := by decide +kernel
theorem dX10_areAlike_51 : decode cX10_areAlike 51 = .ok (.iaload, 1) := by decide +kernel
theorem dX10_areAlike_52 : decode cX10_areAlike 52 = .ok (.aload_n 0, 1) := by decide +kernel
theorem dX10_areAlike_53 : decode cX10_areAlike 53 = .ok (.getfield 15, 3) := by decide +kernel
theorem dX10_areAlike_56 : decode cX10_areAlike 56 = .ok (.iload_n 3, 1) := by decide +kernel
theorem dX10_areAlike_57 : decode cX10_areAlike 57 = .ok (.aaload, 1) := by decide +kernel
theorem dX10_areAlike_58 : decode cX10_areAlike 58 = .ok (.iload 4, 2) := by decide +kernel
theorem dX10_areAlike_60 : decode cX10_areAlike 60 = .ok (.iload 6, 2) := by decide +kernel
theorem dX10_areAlike_62 : decode cX10_areAlike 62 = .ok (.iadd, 1) := by decide +kernel
theorem dX10_areAlike_63 : decode cX10_areAlike 63 = .ok (.iaload, 1) := by decide +kernel
theorem dX10_areAlike_64 : decode cX10_areAlike 64 = .ok (.if_icmp .ne 30, 3) := by decide +kernel
theorem dX10_areAlike_67 : decode cX10_areAlike 67 = .ok (.aload_n 0, 1) := by decide +kernel
theorem dX10_areAlike_68 : decode cX10_areAlike 68 = .ok (.getfield 20, 3) := by decide +kernel
theorem dX10_areAlike_71 : decode cX10_areAlike 71 = .ok (.iload_n 1, 1) := by decide +kernel
theorem dX10_areAlike_72 : decode cX10_areAlike 72 = .ok (.aaload, 1) := by decide +kernel
theorem dX10_areAlike_73 : decode cX10_areAlike 73 = .ok (.iload_n 2, 1) := by decide +kernel
theorem dX10_areAlike_74 : decode cX10_areAlike 74 = .ok (.iload 6, 2) := by decide +kernel
theorem dX10_areAlike_76 : decode cX10_areAlike 76 = .ok (.iadd, 1) := by decide +kernel
theorem dX10_areAlike_77 : decode cX10_areAlike 77 = .ok (.laload, 1) := by decide +kernel
theorem dX10_areAlike_78 : decode cX10_areAlike 78 = .ok (.aload_n 0, 1) := by decide +kernel
theorem dX10_areAlike_79 : decode cX10_areAlike 79 = .ok (.getfield 20, 3) := by decide +kernel
theorem dX10_areAlike_82 : decode cX10_areAlike 82 = .ok (.iload_n 3, 1) := by decide +kernel
theorem dX10_areAlike_83 : decode cX10_areAlike 83 = .ok (.aaload, 1) := by decide +kernel
theorem dX10_areAlike_84 : decode cX10_areAlike 84 = .ok (.iload 4, 2) := by decide +kernel
theorem dX10_areAlike_86 : decode cX10_areAlike 86 = .ok (.iload 6, 2) := by decide +kernel
theorem dX10_areAlike_88 : decode cX10_areAlike 88 = .ok (.iadd, 1) := by decide +kernel
theorem dX10_areAlike_89 : decode cX10_areAlike 89 = .ok (.laload, 1) := by decide +kernel
theorem dX10_areAlike_90 : decode cX10_areAlike 90 = .ok (.lcmp, 1) := by decide +kernel
theorem dX10_areAlike_91 : decode cX10_areAlike 91 = .ok (.ifCond .eq 5, 3) := by decide +kernel
theorem dX10_areAlike_94 : decode cX10_areAlike 94 = .ok (.iconst 0, 1) := by decide +kernel
theorem dX10_areAlike_95 : decode cX10_areAlike 95 = .ok (.ireturn, 1) := by decide +kernel
theorem dX10_areAlike_96 : decode cX10_areAlike 96 = .ok (.iinc 6 1, 3) := by decide +kernel
theorem dX10_areAlike_99 : decode cX10_areAlike 99 = .ok (.goto (-65), 3) := by decide +kernel
theorem dX10_areAlike_102 : decode cX10_areAlike 102 = .ok (.iconst 1, 1) := by decide +kernel
theorem dX10_areAlike_103 : decode cX10_areAlike 103 = .ok (.ireturn, 1) := by decide +kernel
theorem dX10_shared_0 : decode cX10_shared 0 = .ok (.iconst 0, 1) := by decide +kernel
theorem dX10_shared_1 : decode cX10_shared 1 = .ok (.istore_n 3, 1) := by decide +kernel
theorem dX10_shared_2 : decode cX10_shared 2 = .ok (.iconst 0, 1) := by decide +kernel
theorem dX10_shared_3 : decode cX10_shared 3 = .ok (.istore 4, 2) := by decide +kernel
theorem dX10_shared_5 : decode cX10_shared 5 = .ok (.iload 4, 2) := by decide +kernel
theorem dX10_shared_7 : decode cX10_shared 7 = .ok (.aload_n 0, 1) := by decide +kernel
theorem dX10_shared_8 : decode cX10_shared 8 = .ok (.getfield 9, 3) := by decide +kernel
theorem dX10_shared_11 : decode cX10_shared 11 = .ok (.iload_n 1, 1) := by decide +kernel
theorem dX10_shared_12 : decode cX10_shared 12 = .ok (.iaload, 1) := by decide +kernel
theorem dX10_shared_13 : decode cX10_shared 13 = .ok (.if_icmp .ge 71, 3) := by decide +kernel
theorem dX10_shared_16 : decode cX10_shared 16 = .ok (.iconst 0, 1) := by decide +kernel
theorem dX10_shared_17 : decode cX10_shared 17 = .ok (.istore 5, 2) := by decide +kernel
theorem dX10_shared_19 : decode cX10_shared 19 = .ok (.iload 5, 2) := by decide +kernel
theorem dX10_shared_21 : decode cX10_shared 21 = .ok (.aload_n 0, 1) := by decide +kernel
theorem dX10_shared_22 : decode cX10_shared 22 = .ok (.getfield 9, 3) := by decide +kernel
theorem dX10_shared_25 : decode cX10_shared 25 = .ok (.iload_n 2, 1) := by decide +kernel
theorem dX10_shared_26 : decode cX10_shared 26 = .ok (.iaload, 1) := by decide +kernel
theorem dX10_shared_27 : decode cX10_shared 27 = .ok (.if_icmp .ge 51, 3) := by decide +kernel
theorem dX10_shared_30 : decode cX10_shared 30 = .ok (.aload_n 0, 1) := by decide +kernel
theorem dX10_shared_31 : decode cX10_shared 31 = .ok (.getfield 23, 3) := by decide +kernel
theorem dX10_shared_34 : decode cX10_shared 34 = .ok (.iload_n 1, 1) := by decide +kernel
theorem dX10_shared_35 : decode cX10_shared 35 = .ok (.aaload, 1) := by decide +kernel
theorem dX10_shared_36 : decode cX10_shared 36 = .ok (.iload 4, 2) := by decide +kernel
theorem dX10_shared_38 : decode cX10_shared 38 = .ok (.iaload, 1) := by decide +kernel
theorem dX10_shared_39 : decode cX10_shared 39 = .ok (.iload 4, 2) := by decide +kernel
theorem dX10_shared_41 : decode cX10_shared 41 = .ok (.isub, 1) := by decide +kernel
theorem dX10_shared_42 : decode cX10_shared 42 = .ok (.iload_n 3, 1) := by decide +kernel
theorem dX10_shared_43 : decode cX10_shared 43 = .ok (.if_icmp .le 35, 3) := by decide +kernel
theorem dX10_shared_46 : decode cX10_shared 46 = .ok (.aload_n 0, 1) := by decide +kernel
theorem dX10_shared_47 : decode cX10_shared 47 = .ok (.iload_n 1, 1) := by decide +kernel
theorem dX10_shared_48 : decode cX10_shared 48 = .ok (.iload 4, 2) := by decide +kernel
theorem dX10_shared_50 : decode cX10_shared 50 = .ok (.iload_n 2, 1) := by decide +kernel
theorem dX10_shared_51 : decode cX10_shared 51 = .ok (.iload 5, 2) := by decide +kernel
theorem dX10_shared_53 : decode cX10_shared 53 = .ok (.invokevirtual 321, 3) := by decide +kernel
theorem dX10_shared_56 : decode cX10_shared 56 = .ok (.ifCond .eq 16, 3) := by decide +kernel
theorem dX10_shared_59 : decode cX10_shared 59 = .ok (.aload_n 0, 1) := by decide +kernel
theorem dX10_shared_60 : decode cX10_shared 60 = .ok (.getfield 23, 3) := by decide +kernel
theorem dX10_shared_63 : decode cX10_shared 63 = .ok (.iload_n 1, 1) := by decide +kernel
theorem dX10_shared_64 : decode cX10_shared 64 = .ok (.aaload, 1) := by decide +kernel
theorem dX10_shared_65 : decode cX10_shared 65 = .ok (.iload 4, 2) := by decide +kernel
theorem dX10_shared_67 : decode cX10_shared 67 = .ok (.iaload, 1) := by decide +kernel
theorem dX10_shared_68 : decode cX10_shared 68 = .ok (.iload 4, 2) := by decide +kernel
theorem dX10_shared_70 : decode cX10_shared 70 = .ok (.isub, 1) := by decide +kernel
theorem dX10_shared_71 : decode cX10_shared 71 = .ok (.istore_n 3, 1) := by decide +kernel
theorem dX10_shared_72 : decode cX10_shared 72 = .ok (.iinc 5 1, 3) := by decide +kernel
theorem dX10_shared_75 : decode cX10_shared 75 = .ok (.goto (-56), 3) := by decide +kernel
theorem dX10_shared_78 : decode cX10_shared 78 = .ok (.iinc 4 1, 3) := by decide +kernel
theorem dX10_shared_81 : decode cX10_shared 81 = .ok (.goto (-76), 3) := by decide +kernel
theorem dX10_shared_84 : decode cX10_shared 84 = .ok (.iload_n 3, 1) := by decide +kernel
theorem dX10_shared_85 : decode cX10_shared 85 = .ok (.ireturn, 1) := by decide +kernel
theorem dX10_unlike_0 : decode cX10_unlike 0 = .ok (.iconst 0, 1) := by decide +kernel
theorem dX10_unlike_1 : decode cX10_unlike 1 = .ok (.istore_n 2, 1) := by decide +kernel
theorem dX10_unlike_2 : decode cX10_unlike 2 = .ok (.iconst 0, 1) := by decide +kernel
theorem dX10_unlike_3 : decode cX10_unlike 3 = .ok (.istore_n 3, 1) := by decide +kernel
theorem dX10_unlike_4 : decode cX10_unlike 4 = .ok (.iload_n 3, 1) := by decide +kernel
theorem dX10_unlike_5 : decode cX10_unlike 5 = .ok (.aload_n 0, 1) := by decide +kernel
theorem dX10_unlike_6 : decode cX10_unlike 6 = .ok (.getfield 9, 3) := by decide +kernel
theorem dX10_unlike_9 : decode cX10_unlike 9 = .ok (.iload_n 1, 1) := by decide +kernel
theorem dX10_unlike_10 : decode cX10_unlike 10 = .ok (.iaload, 1) := by decide +kernel
theorem dX10_unlike_11 : decode cX10_unlike 11 = .ok (.if_icmp .ge 59, 3) := by decide +kernel
theorem dX10_unlike_14 : decode cX10_unlike 14 = .ok (.iconst 1, 1) := by decide +kernel
theorem dX10_unlike_15 : decode cX10_unlike 15 = .ok (.istore 4, 2) := by decide +kernel
theorem dX10_unlike_17 : decode cX10_unlike 17 = .ok (.iconst 0, 1) := by decide +kernel
theorem dX10_unlike_18 : decode cX10_unlike 18 = .ok (.istore 5, 2) := by decide +kernel
theorem dX10_unlike_20 : decode cX10_unlike 20 = .ok (.iload 5, 2) := by decide +kernel
theorem dX10_unlike_22 : decode cX10_unlike 22 = .ok (.iload_n 3, 1) := by decide +kernel
theorem dX10_unlike_23 : decode cX10_unlike 23 = .ok (.if_icmp .ge 33, 3) := by decide +kernel
theorem dX10_unlike_26 : decode cX10_unlike 26 = .ok (.iload 4, 2) := by decide +kernel
theorem dX10_unlike_28 : decode cX10_unlike 28 = .ok (.ifCond .eq 28, 3) := by decide +kernel
theorem dX10_unlike_31 : decode cX10_unlike 31 = .ok (.aload_n 0, 1) := by decide +kernel
theorem dX10_unlike_32 : decode cX10_unlike 32 = .ok (.iload_n 1, 1) := by decide +kernel
theorem dX10_unlike_33 : decode cX10_unlike 33 = .ok (.iload_n 3, 1) := by decide +kernel
theorem dX10_unlike_34 : decode cX10_unlike 34 = .ok (.iload_n 1, 1) := by decide +kernel
theorem dX10_unlike_35 : decode cX10_unlike 35 = .ok (.iload 5, 2) := by decide +kernel
theorem dX10_unlike_37 : decode cX10_unlike 37 = .ok (.invokevirtual 321, 3) := by decide +kernel
theorem dX10_unlike_40 : decode cX10_unlike 40 = .ok (.ifCond .ne 7, 3) := by decide +kernel
theorem dX10_unlike_43 : decode cX10_unlike 43 = .ok (.iconst 1, 1) := by decide +kernel
theorem dX10_unlike_44 : decode cX10_unlike 44 = .ok (.goto 4, 3) := by decide +kernel
theorem dX10_unlike_47 : decode cX10_unlike 47 = .ok (.iconst 0, 1) := by decide +kernel
theorem dX10_unlike_48 : decode cX10_unlike 48 = .ok (.istore 4, 2) := by decide +kernel
theorem dX10_unlike_50 : decode cX10_unlike 50 = .ok (.iinc 5 1, 3) := by decide +kernel
theorem dX10_unlike_53 : decode cX10_unlike 53 = .ok (.goto (-33), 3) := by decide +kernel
theorem dX10_unlike_56 : decode cX10_unlike 56 = .ok (.iload 4, 2) := by decide +kernel
theorem dX10_unlike_58 : decode cX10_unlike 58 = .ok (.ifCond .eq 6, 3) := by decide +kernel
theorem dX10_unlike_61 : decode cX10_unlike 61 = .ok (.iinc 2 1, 3) := by decide +kernel
theorem dX10_unlike_64 : decode cX10_unlike 64 = .ok (.iinc 3 1, 3) := by decide +kernel
theorem dX10_unlike_67 : decode cX10_unlike 67 = .ok (.goto (-63), 3) := by decide +kernel
theorem dX10_unlike_70 : decode cX10_unlike 70 = .ok (.iload_n 2, 1) := by decide +kernel
theorem dX10_unlike_71 : decode cX10_unlike 71 = .ok (.ireturn, 1) := by decide +kernel
theorem dX10_alike_0 : decode cX10_alike 0 = .ok (.iload_n 1, 1) := by decide +kernel
theorem dX10_alike_1 : decode cX10_alike 1 = .ok (.invokestatic 181, 3) := by decide +kernel
theorem dX10_alike_4 : decode cX10_alike 4 = .ok (.ifCond .eq 19, 3) := by decide +kernel
theorem dX10_alike_7 : decode cX10_alike 7 = .ok (.iload_n 2, 1) := by decide +kernel
theorem dX10_alike_8 : decode cX10_alike 8 = .ok (.invokestatic 181, 3) := by decide +kernel
theorem dX10_alike_11 : decode cX10_alike 11 = .ok (.ifCond .eq 12, 3) := by decide +kernel
theorem dX10_alike_14 : decode cX10_alike 14 = .ok (.iload_n 3, 1) := by decide +kernel
theorem dX10_alike_15 : decode cX10_alike 15 = .ok (.iconst 0, 1) := by decide +kernel
theorem dX10_alike_16 : decode cX10_alike 16 = .ok (.iconst 2, 1) := by decide +kernel
theorem dX10_alike_17 : decode cX10_alike 17 = .ok (.invokestatic 84, 3) := by decide +kernel
theorem dX10_alike_20 : decode cX10_alike 20 = .ok (.ifCond .ne 6, 3) := by decide +kernel
theorem dX10_alike_23 : decode cX10_alike 23 = .ok (.bipush (-2), 2) := by decide +kernel
theorem dX10_alike_25 : decode cX10_alike 25 = .ok (.ireturn, 1) := by decide +kernel
theorem dX10_alike_26 : decode cX10_alike 26 = .ok (.aload_n 0, 1) := by decide +kernel
theorem dX10_alike_27 : decode cX10_alike 27 = .ok (.getfield 9, 3) := by decide +kernel
theorem dX10_alike_30 : decode cX10_alike 30 = .ok (.iload_n 1, 1) := by decide +kernel
theorem dX10_alike_31 : decode cX10_alike 31 = .ok (.iaload, 1) := by decide +kernel
theorem dX10_alike_32 : decode cX10_alike 32 = .ok (.ifCond .eq 17, 3) := by decide +kernel
theorem dX10_alike_35 : decode cX10_alike 35 = .ok (.aload_n 0, 1) := by decide +kernel
theorem dX10_alike_36 : decode cX10_alike 36 = .ok (.getfield 9, 3) := by decide +kernel
theorem dX10_alike_39 : decode cX10_alike 39 = .ok (.iload_n 2, 1) := by decide +kernel
theorem dX10_alike_40 : decode cX10_alike 40 = .ok (.iaload, 1) := by decide +kernel
theorem dX10_alike_41 : decode cX10_alike 41 = .ok (.ifCond .ne 11, 3) := by decide +kernel
theorem dX10_alike_44 : decode cX10_alike 44 = .ok (.iload_n 3, 1) := by decide +kernel
theorem dX10_alike_45 : decode cX10_alike 45 = .ok (.iconst 2, 1) := by decide +kernel
theorem dX10_alike_46 : decode cX10_alike 46 = .ok (.if_icmp .ge 6, 3) := by decide +kernel
theorem dX10_alike_49 : decode cX10_alike 49 = .ok (.bipush (-3), 2) := by decide +kernel
theorem dX10_alike_51 : decode cX10_alike 51 = .ok (.ireturn, 1) := by decide +kernel
theorem dX10_alike_52 : decode cX10_alike 52 = .ok (.iload_n 3, 1) := by decide +kernel
theorem dX10_alike_53 : decode cX10_alike 53 = .ok (.iconst 2, 1) := by decide +kernel
theorem dX10_alike_54 : decode cX10_alike 54 = .ok (.if_icmp .ne 9, 3) := by decide +kernel
theorem dX10_alike_57 : decode cX10_alike 57 = .ok (.aload_n 0, 1) := by decide +kernel
theorem dX10_alike_58 : decode cX10_alike 58 = .ok (.iload_n 1, 1) := by decide +kernel
theorem dX10_alike_59 : decode cX10_alike 59 = .ok (.invokevirtual 325, 3) := by decide +kernel
theorem dX10_alike_62 : decode cX10_alike 62 = .ok (.ireturn, 1) := by decide +kernel
theorem dX10_alike_63 : decode cX10_alike 63 = .ok (.iload_n 3, 1) := by decide +kernel
theorem dX10_alike_64 : decode cX10_alike 64 = .ok (.iconst 1, 1) := by decide +kernel
theorem dX10_alike_65 : decode cX10_alike 65 = .ok (.if_icmp .ne 12, 3) := by decide +kernel
theorem dX10_alike_68 : decode cX10_alike 68 = .ok (.aload_n 0, 1) := by decide +kernel
theorem dX10_alike_69 : decode cX10_alike 69 = .ok (.iload_n 1, 1) := by decide +kernel
theorem dX10_alike_70 : decode cX10_alike 70 = .ok (.iload_n 2, 1) := by decide +kernel
theorem dX10_alike_71 : decode cX10_alike 71 = .ok (.invokevirtual 328, 3) := by decide +kernel
theorem dX10_alike_74 : decode cX10_alike 74 = .ok (.goto 19, 3) := by decide +kernel
theorem dX10_alike_77 : decode cX10_alike 77 = .ok (.aload_n 0, 1) := by decide +kernel
theorem dX10_alike_78 : decode cX10_alike 78 = .ok (.iload_n 1, 1) := by decide +kernel
theorem dX10_alike_79 : decode cX10_alike 79 = .ok (.iconst 0, 1) := by decide +kernel
theorem dX10_alike_80 : decode cX10_alike 80 = .ok (.iload_n 2, 1) := by decide +kernel
theorem dX10_alike_81 : decode cX10_alike 81 = .ok (.iconst 0, 1) := by decide +kernel
theorem dX10_alike_82 : decode cX10_alike 82 = .ok (.invokevirtual 321, 3) := by decide +kernel
theorem dX10_alike_85 : decode cX10_alike 85 = .ok (.ifCond .eq 7, 3) := by decide +kernel
theorem dX10_alike_88 : decode cX10_alike 88 = .ok (.iconst 1, 1) := by decide +kernel
theorem dX10_alike_89 : decode cX10_alike 89 = .ok (.goto 4, 3) := by decide +kernel
theorem dX10_alike_92 : decode cX10_alike 92 = .ok (.iconst 0, 1) := by decide +kernel
theorem dX10_alike_93 : decode cX10_alike 93 = .ok (.ireturn, 1) := by decide +kernel
theorem dX10_hasName_0 : decode cX10_hasName 0 = .ok (.iload_n 2, 1) := by decide +kernel
theorem dX10_hasName_1 : decode cX10_hasName 1 = .ok (.istore 4, 2) := by decide +kernel
theorem dX10_hasName_3 : decode cX10_hasName 3 = .ok (.iload 4, 2) := by decide +kernel
theorem dX10_hasName_5 : decode cX10_hasName 5 = .ok (.aload_n 0, 1) := by decide +kernel
theorem dX10_hasName_6 : decode cX10_hasName 6 = .ok (.getfield 23, 3) := by decide +kernel
theorem dX10_hasName_9 : decode cX10_hasName 9 = .ok (.iload_n 1, 1) := by decide +kernel
theorem dX10_hasName_10 : decode cX10_hasName 10 = .ok (.aaload, 1) := by decide +kernel
theorem dX10_hasName_11 : decode cX10_hasName 11 = .ok (.iload_n 2, 1) := by decide +kernel
theorem dX10_hasName_12 : decode cX10_hasName 12 = .ok (.iaload, 1) := by decide +kernel
theorem dX10_hasName_13 : decode cX10_hasName 13 = .ok (.if_icmp .ge 39, 3) := by decide +kernel
theorem dX10_hasName_16 : decode cX10_hasName 16 = .ok (.aload_n 0, 1) := by decide +kernel
theorem dX10_hasName_17 : decode cX10_hasName 17 = .ok (.getfield 15, 3) := by decide +kernel
theorem dX10_hasName_20 : decode cX10_hasName 20 = .ok (.iload_n 1, 1) := by decide +kernel
theorem dX10_hasName_21 : decode cX10_hasName 21 = .ok (.aaload, 1) := by decide +kernel
theorem dX10_hasName_22 : decode cX10_hasName 22 = .ok (.iload 4, 2) := by decide +kernel
theorem dX10_hasName_24 : decode cX10_hasName 24 = .ok (.iaload, 1) := by decide +kernel
theorem dX10_hasName_25 : decode cX10_hasName 25 = .ok (.iconst 1, 1) := by decide +kernel
theorem dX10_hasName_26 : decode cX10_hasName 26 = .ok (.if_icmp .ne 20, 3) := by decide +kernel
theorem dX10_hasName_29 : decode cX10_hasName 29 = .ok (.aload_n 0, 1) := by decide +kernel
theorem dX10_hasName_30 : decode cX10_hasName 30 = .ok (.getfield 20, 3) := by decide +kernel
theorem dX10_hasName_33 : decode cX10_hasName 33 = .ok (.iload_n 1, 1) := by decide +kernel
theorem dX10_hasName_34 : decode cX10_hasName 34 = .ok (.aaload, 1) := by decide +kernel
theorem dX10_hasName_35 : decode cX10_hasName 35 = .ok (.iload 4, 2) := by decide +kernel
theorem dX10_hasName_37 : decode cX10_hasName 37 = .ok (.laload, 1) := by decide +kernel
theorem dX10_hasName_38 : decode cX10_hasName 38 = .ok (.iload_n 3, 1) := by decide +kernel
theorem dX10_hasName_39 : decode cX10_hasName 39 = .ok (.i2l, 1) := by decide +kernel
theorem dX10_hasName_40 : decode cX10_hasName 40 = .ok (.lcmp, 1) := by decide +kernel
theorem dX10_hasName_41 : decode cX10_hasName 41 = .ok (.ifCond .ne 5, 3) := by decide +kernel
theorem dX10_hasName_44 : decode cX10_hasName 44 = .ok (.iconst 1, 1) := by decide +kernel
theorem dX10_hasName_45 : decode cX10_hasName 45 = .ok (.ireturn, 1) := by decide +kernel
theorem dX10_hasName_46 : decode cX10_hasName 46 = .ok (.iinc 4 1, 3) := by decide +kernel
theorem dX10_hasName_49 : decode cX10_hasName 49 = .ok (.goto (-46), 3) := by decide +kernel
theorem dX10_hasName_52 : decode cX10_hasName 52 = .ok (.iconst 0, 1) := by decide +kernel
theorem dX10_hasName_53 : decode cX10_hasName 53 = .ok (.ireturn, 1) := by decide +kernel
theorem dX10_degreeOf_0 : decode cX10_degreeOf 0 = .ok (.aload_n 0, 1) := by decide +kernel
theorem dX10_degreeOf_1 : decode cX10_degreeOf 1 = .ok (.getfield 15, 3) := by decide +kernel
theorem dX10_degreeOf_4 : decode cX10_degreeOf 4 = .ok (.iload_n 1, 1) := by decide +kernel
theorem dX10_degreeOf_5 : decode cX10_degreeOf 5 = .ok (.aaload, 1) := by decide +kernel
theorem dX10_degreeOf_6 : decode cX10_degreeOf 6 = .ok (.iload_n 2, 1) := by decide +kernel
theorem dX10_degreeOf_7 : decode cX10_degreeOf 7 = .ok (.iaload, 1) := by decide +kernel
theorem dX10_degreeOf_8 : decode cX10_degreeOf 8 = .ok (.istore 4, 2) := by decide +kernel
theorem dX10_degreeOf_10 : decode cX10_degreeOf 10 = .ok (.iload 4, 2) := by decide +kernel
theorem dX10_degreeOf_12 : decode cX10_degreeOf 12 = .ok (.ifCond .ne 5, 3) := by decide +kernel
theorem dX10_degreeOf_15 : decode cX10_degreeOf 15 = .ok (.iconst 0, 1) := by decide +kernel
theorem dX10_degreeOf_16 : decode cX10_degreeOf 16 = .ok (.ireturn, 1) := by decide +kernel
theorem dX10_degreeOf_17 : decode cX10_degreeOf 17 = .ok (.iload 4, 2) := by decide +kernel
theorem dX10_degreeOf_19 : decode cX10_degreeOf 19 = .ok (.iconst 1, 1) := by decide +kernel
theorem dX10_degreeOf_20 : decode cX10_degreeOf 20 = .ok (.if_icmp .ne 23, 3) := by decide +kernel
theorem dX10_degreeOf_23 : decode cX10_degreeOf 23 = .ok (.aload_n 0, 1) := by decide +kernel
theorem dX10_degreeOf_24 : decode cX10_degreeOf 24 = .ok (.getfield 20, 3) := by decide +kernel
theorem dX10_degreeOf_27 : decode cX10_degreeOf 27 = .ok (.iload_n 1, 1) := by decide +kernel
theorem dX10_degreeOf_28 : decode cX10_degreeOf 28 = .ok (.aaload, 1) := by decide +kernel
theorem dX10_degreeOf_29 : decode cX10_degreeOf 29 = .ok (.iload_n 2, 1) := by decide +kernel
theorem dX10_degreeOf_30 : decode cX10_degreeOf 30 = .ok (.laload, 1) := by decide +kernel
theorem dX10_degreeOf_31 : decode cX10_degreeOf 31 = .ok (.iload_n 3, 1) := by decide +kernel
theorem dX10_degreeOf_32 : decode cX10_degreeOf 32 = .ok (.i2l, 1) := by decide +kernel
theorem dX10_degreeOf_33 : decode cX10_degreeOf 33 = .ok (.lcmp, 1) := by decide +kernel
theorem dX10_degreeOf_34 : decode cX10_degreeOf 34 = .ok (.ifCond .ne 7, 3) := by decide +kernel
theorem dX10_degreeOf_37 : decode cX10_degreeOf 37 = .ok (.iconst 1, 1) := by decide +kernel
theorem dX10_degreeOf_38 : decode cX10_degreeOf 38 = .ok (.goto 4, 3) := by decide +kernel
theorem dX10_degreeOf_41 : decode cX10_degreeOf 41 = .ok (.iconst 0, 1) := by decide +kernel
theorem dX10_degreeOf_42 : decode cX10_degreeOf 42 = .ok (.ireturn, 1) := by decide +kernel
theorem dX10_degreeOf_43 : decode cX10_degreeOf 43 = .ok (.aload_n 0, 1) := by decide +kernel
theorem dX10_degreeOf_44 : decode cX10_degreeOf 44 = .ok (.iload_n 1, 1) := by decide +kernel
theorem dX10_degreeOf_45 : decode cX10_degreeOf 45 = .ok (.iload 4, 2) := by decide +kernel
theorem dX10_degreeOf_47 : decode cX10_degreeOf 47 = .ok (.bipush 6, 2) := by decide +kernel
theorem dX10_degreeOf_49 : decode cX10_degreeOf 49 = .ok (.if_icmp .ne 12, 3) := by decide +kernel
theorem dX10_degreeOf_52 : decode cX10_degreeOf 52 = .ok (.aload_n 0, 1) := by decide +kernel
theorem dX10_degreeOf_53 : decode cX10_degreeOf 53 = .ok (.iload_n 1, 1) := by decide +kernel
theorem dX10_degreeOf_54 : decode cX10_degreeOf 54 = .ok (.iload_n 2, 1) := by decide +kernel
theorem dX10_degreeOf_55 : decode cX10_degreeOf 55 = .ok (.invokevirtual 109, 3) := by decide +kernel
theorem dX10_degreeOf_58 : decode cX10_degreeOf 58 = .ok (.goto 6, 3) := by decide +kernel
theorem dX10_degreeOf_61 : decode cX10_degreeOf 61 = .ok (.iload_n 2, 1) := by decide +kernel
theorem dX10_degreeOf_62 : decode cX10_degreeOf 62 = .ok (.iconst 1, 1) := by decide +kernel
theorem dX10_degreeOf_63 : decode cX10_degreeOf 63 = .ok (.iadd, 1) := by decide +kernel
theorem dX10_degreeOf_64 : decode cX10_degreeOf 64 = .ok (.iload_n 3, 1) := by decide +kernel
theorem dX10_degreeOf_65 : decode cX10_degreeOf 65 = .ok (.invokevirtual 331, 3) := by decide +kernel
theorem dX10_degreeOf_68 : decode cX10_degreeOf 68 = .ok (.istore 5, 2) := by decide +kernel
theorem dX10_degreeOf_70 : decode cX10_degreeOf 70 = .ok (.iload 4, 2) := by decide +kernel
theorem dX10_degreeOf_72 : decode cX10_degreeOf 72 = .ok (.invokestatic 98, 3) := by decide +kernel
theorem dX10_degreeOf_75 : decode cX10_degreeOf 75 = .ok (.iconst 2, 1) := by decide +kernel
theorem dX10_degreeOf_76 : decode cX10_degreeOf 76 = .ok (.if_icmp .ge 7, 3) := by decide +kernel
theorem dX10_degreeOf_79 : decode cX10_degreeOf 79 = .ok (.iconst 0, 1) := by decide +kernel
theorem dX10_degreeOf_80 : decode cX10_degreeOf 80 = .ok (.goto 31, 3) := by decide +kernel
theorem dX10_degreeOf_83 : decode cX10_degreeOf 83 = .ok (.aload_n 0, 1) := by decide +kernel
