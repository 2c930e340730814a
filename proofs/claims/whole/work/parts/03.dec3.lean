theorem dX12_shows_63 : decode cX12_shows 63 = .ok (.iload_n 2, 1) := by decide +kernel
theorem dX12_shows_64 : decode cX12_shows 64 = .ok (.invokevirtual 322, 3) := by decide +kernel
theorem dX12_shows_67 : decode cX12_shows 67 = .ok (.istore 7, 2) := by decide +kernel
theorem dX12_shows_69 : decode cX12_shows 69 = .ok (.iload 6, 2) := by decide +kernel
theorem dX12_shows_71 : decode cX12_shows 71 = .ok (.ifCond .eq 16, 3) := by decide +kernel
theorem dX12_shows_74 : decode cX12_shows 74 = .ok (.aload_n 0, 1) := by decide +kernel
theorem dX12_shows_75 : decode cX12_shows 75 = .ok (.getfield 119, 3) := by decide +kernel
theorem dX12_shows_78 : decode cX12_shows 78 = .ok (.iload_n 1, 1) := by decide +kernel
theorem dX12_shows_79 : decode cX12_shows 79 = .ok (.iconst 4, 1) := by decide +kernel
theorem dX12_shows_80 : decode cX12_shows 80 = .ok (.iadd, 1) := by decide +kernel
theorem dX12_shows_81 : decode cX12_shows 81 = .ok (.iload_n 2, 1) := by decide +kernel
theorem dX12_shows_82 : decode cX12_shows 82 = .ok (.iadd, 1) := by decide +kernel
theorem dX12_shows_83 : decode cX12_shows 83 = .ok (.iaload, 1) := by decide +kernel
theorem dX12_shows_84 : decode cX12_shows 84 = .ok (.goto 9, 3) := by decide +kernel
theorem dX12_shows_87 : decode cX12_shows 87 = .ok (.aload_n 0, 1) := by decide +kernel
theorem dX12_shows_88 : decode cX12_shows 88 = .ok (.iload_n 1, 1) := by decide +kernel
theorem dX12_shows_89 : decode cX12_shows 89 = .ok (.iload_n 2, 1) := by decide +kernel
theorem dX12_shows_90 : decode cX12_shows 90 = .ok (.invokevirtual 304, 3) := by decide +kernel
theorem dX12_shows_93 : decode cX12_shows 93 = .ok (.istore 8, 2) := by decide +kernel
theorem dX12_shows_95 : decode cX12_shows 95 = .ok (.iload 6, 2) := by decide +kernel
theorem dX12_shows_97 : decode cX12_shows 97 = .ok (.ifCond .eq 17, 3) := by decide +kernel
theorem dX12_shows_100 : decode cX12_shows 100 = .ok (.aload_n 0, 1) := by decide +kernel
theorem dX12_shows_101 : decode cX12_shows 101 = .ok (.getfield 119, 3) := by decide +kernel
theorem dX12_shows_104 : decode cX12_shows 104 = .ok (.iload_n 1, 1) := by decide +kernel
theorem dX12_shows_105 : decode cX12_shows 105 = .ok (.bipush 12, 2) := by decide +kernel
theorem dX12_shows_107 : decode cX12_shows 107 = .ok (.iadd, 1) := by decide +kernel
theorem dX12_shows_108 : decode cX12_shows 108 = .ok (.iload_n 2, 1) := by decide +kernel
theorem dX12_shows_109 : decode cX12_shows 109 = .ok (.iadd, 1) := by decide +kernel
theorem dX12_shows_110 : decode cX12_shows 110 = .ok (.iaload, 1) := by decide +kernel
theorem dX12_shows_111 : decode cX12_shows 111 = .ok (.goto 9, 3) := by decide +kernel
theorem dX12_shows_114 : decode cX12_shows 114 = .ok (.aload_n 0, 1) := by decide +kernel
theorem dX12_shows_115 : decode cX12_shows 115 = .ok (.iload_n 1, 1) := by decide +kernel
theorem dX12_shows_116 : decode cX12_shows 116 = .ok (.iload_n 2, 1) := by decide +kernel
theorem dX12_shows_117 : decode cX12_shows 117 = .ok (.invokevirtual 307, 3) := by decide +kernel
theorem dX12_shows_120 : decode cX12_shows 120 = .ok (.istore 9, 2) := by decide +kernel
theorem dX12_shows_122 : decode cX12_shows 122 = .ok (.iload 7, 2) := by decide +kernel
theorem dX12_shows_124 : decode cX12_shows 124 = .ok (.ifCond .eq 33, 3) := by decide +kernel
theorem dX12_shows_127 : decode cX12_shows 127 = .ok (.aload_n 0, 1) := by decide +kernel
theorem dX12_shows_128 : decode cX12_shows 128 = .ok (.iload_n 1, 1) := by decide +kernel
theorem dX12_shows_129 : decode cX12_shows 129 = .ok (.iload 5, 2) := by decide +kernel
theorem dX12_shows_131 : decode cX12_shows 131 = .ok (.iload 8, 2) := by decide +kernel
theorem dX12_shows_133 : decode cX12_shows 133 = .ok (.invokevirtual 325, 3) := by decide +kernel
theorem dX12_shows_136 : decode cX12_shows 136 = .ok (.ifCond .lt 21, 3) := by decide +kernel
theorem dX12_shows_139 : decode cX12_shows 139 = .ok (.aload_n 0, 1) := by decide +kernel
theorem dX12_shows_140 : decode cX12_shows 140 = .ok (.iload_n 1, 1) := by decide +kernel
theorem dX12_shows_141 : decode cX12_shows 141 = .ok (.iload 5, 2) := by decide +kernel
theorem dX12_shows_143 : decode cX12_shows 143 = .ok (.iload 8, 2) := by decide +kernel
theorem dX12_shows_145 : decode cX12_shows 145 = .ok (.invokevirtual 325, 3) := by decide +kernel
theorem dX12_shows_148 : decode cX12_shows 148 = .ok (.iload 9, 2) := by decide +kernel
theorem dX12_shows_150 : decode cX12_shows 150 = .ok (.if_icmp .eq 7, 3) := by decide +kernel
theorem dX12_shows_153 : decode cX12_shows 153 = .ok (.iconst 1, 1) := by decide +kernel
theorem dX12_shows_154 : decode cX12_shows 154 = .ok (.goto 4, 3) := by decide +kernel
theorem dX12_shows_157 : decode cX12_shows 157 = .ok (.iconst 0, 1) := by decide +kernel
theorem dX12_shows_158 : decode cX12_shows 158 = .ok (.istore 10, 2) := by decide +kernel
theorem dX12_shows_160 : decode cX12_shows 160 = .ok (.aload_n 0, 1) := by decide +kernel
theorem dX12_shows_161 : decode cX12_shows 161 = .ok (.getfield 119, 3) := by decide +kernel
theorem dX12_shows_164 : decode cX12_shows 164 = .ok (.iload_n 1, 1) := by decide +kernel
theorem dX12_shows_165 : decode cX12_shows 165 = .ok (.bipush 56, 2) := by decide +kernel
theorem dX12_shows_167 : decode cX12_shows 167 = .ok (.iadd, 1) := by decide +kernel
theorem dX12_shows_168 : decode cX12_shows 168 = .ok (.iload 5, 2) := by decide +kernel
theorem dX12_shows_170 : decode cX12_shows 170 = .ok (.iadd, 1) := by decide +kernel
theorem dX12_shows_171 : decode cX12_shows 171 = .ok (.dup2, 1) := by decide +kernel
theorem dX12_shows_172 : decode cX12_shows 172 = .ok (.iaload, 1) := by decide +kernel
theorem dX12_shows_173 : decode cX12_shows 173 = .ok (.aload_n 0, 1) := by decide +kernel
theorem dX12_shows_174 : decode cX12_shows 174 = .ok (.iload 5, 2) := by decide +kernel
theorem dX12_shows_176 : decode cX12_shows 176 = .ok (.iload_n 3, 1) := by decide +kernel
theorem dX12_shows_177 : decode cX12_shows 177 = .ok (.iload 10, 2) := by decide +kernel
theorem dX12_shows_179 : decode cX12_shows 179 = .ok (.iload_n 2, 1) := by decide +kernel
theorem dX12_shows_180 : decode cX12_shows 180 = .ok (.invokevirtual 328, 3) := by decide +kernel
theorem dX12_shows_183 : decode cX12_shows 183 = .ok (.iadd, 1) := by decide +kernel
theorem dX12_shows_184 : decode cX12_shows 184 = .ok (.iastore, 1) := by decide +kernel
theorem dX12_shows_185 : decode cX12_shows 185 = .ok (.aload_n 0, 1) := by decide +kernel
theorem dX12_shows_186 : decode cX12_shows 186 = .ok (.getfield 126, 3) := by decide +kernel
theorem dX12_shows_189 : decode cX12_shows 189 = .ok (.iload 5, 2) := by decide +kernel
theorem dX12_shows_191 : decode cX12_shows 191 = .ok (.dup2, 1) := by decide +kernel
theorem dX12_shows_192 : decode cX12_shows 192 = .ok (.iaload, 1) := by decide +kernel
theorem dX12_shows_193 : decode cX12_shows 193 = .ok (.iload 10, 2) := by decide +kernel
theorem dX12_shows_195 : decode cX12_shows 195 = .ok (.iadd, 1) := by decide +kernel
theorem dX12_shows_196 : decode cX12_shows 196 = .ok (.iastore, 1) := by decide +kernel
theorem dX12_shows_197 : decode cX12_shows 197 = .ok (.iload 7, 2) := by decide +kernel
theorem dX12_shows_199 : decode cX12_shows 199 = .ok (.ifCond .eq 23, 3) := by decide +kernel
theorem dX12_shows_202 : decode cX12_shows 202 = .ok (.aload_n 0, 1) := by decide +kernel
theorem dX12_shows_203 : decode cX12_shows 203 = .ok (.getfield 119, 3) := by decide +kernel
theorem dX12_shows_206 : decode cX12_shows 206 = .ok (.iload_n 1, 1) := by decide +kernel
theorem dX12_shows_207 : decode cX12_shows 207 = .ok (.bipush 20, 2) := by decide +kernel
theorem dX12_shows_209 : decode cX12_shows 209 = .ok (.iadd, 1) := by decide +kernel
theorem dX12_shows_210 : decode cX12_shows 210 = .ok (.bipush 6, 2) := by decide +kernel
theorem dX12_shows_212 : decode cX12_shows 212 = .ok (.iload 5, 2) := by decide +kernel
theorem dX12_shows_214 : decode cX12_shows 214 = .ok (.imul, 1) := by decide +kernel
theorem dX12_shows_215 : decode cX12_shows 215 = .ok (.iadd, 1) := by decide +kernel
theorem dX12_shows_216 : decode cX12_shows 216 = .ok (.iload 8, 2) := by decide +kernel
theorem dX12_shows_218 : decode cX12_shows 218 = .ok (.iadd, 1) := by decide +kernel
theorem dX12_shows_219 : decode cX12_shows 219 = .ok (.iload 9, 2) := by decide +kernel
theorem dX12_shows_221 : decode cX12_shows 221 = .ok (.iastore, 1) := by decide +kernel
theorem dX12_shows_222 : decode cX12_shows 222 = .ok (.iload 4, 2) := by decide +kernel
theorem dX12_shows_224 : decode cX12_shows 224 = .ok (.aload_n 0, 1) := by decide +kernel
theorem dX12_shows_225 : decode cX12_shows 225 = .ok (.getfield 119, 3) := by decide +kernel
theorem dX12_shows_228 : decode cX12_shows 228 = .ok (.iload_n 1, 1) := by decide +kernel
theorem dX12_shows_229 : decode cX12_shows 229 = .ok (.bipush 56, 2) := by decide +kernel
theorem dX12_shows_231 : decode cX12_shows 231 = .ok (.iadd, 1) := by decide +kernel
theorem dX12_shows_232 : decode cX12_shows 232 = .ok (.iload 5, 2) := by decide +kernel
theorem dX12_shows_234 : decode cX12_shows 234 = .ok (.iadd, 1) := by decide +kernel
theorem dX12_shows_235 : decode cX12_shows 235 = .ok (.iaload, 1) := by decide +kernel
theorem dX12_shows_236 : decode cX12_shows 236 = .ok (.aload_n 0, 1) := by decide +kernel
theorem dX12_shows_237 : decode cX12_shows 237 = .ok (.iload 5, 2) := by decide +kernel
theorem dX12_shows_239 : decode cX12_shows 239 = .ok (.iconst 2, 1) := by decide +kernel
theorem dX12_shows_240 : decode cX12_shows 240 = .ok (.invokevirtual 310, 3) := by decide +kernel
theorem dX12_shows_243 : decode cX12_shows 243 = .ok (.if_icmp .lt 10, 3) := by decide +kernel
theorem dX12_shows_246 : decode cX12_shows 246 = .ok (.iconst 1, 1) := by decide +kernel
theorem dX12_shows_247 : decode cX12_shows 247 = .ok (.iload 5, 2) := by decide +kernel
theorem dX12_shows_249 : decode cX12_shows 249 = .ok (.ishl, 1) := by decide +kernel
theorem dX12_shows_250 : decode cX12_shows 250 = .ok (.goto 4, 3) := by decide +kernel
theorem dX12_shows_253 : decode cX12_shows 253 = .ok (.iconst 0, 1) := by decide +kernel
theorem dX12_shows_254 : decode cX12_shows 254 = .ok (.ior, 1) := by decide +kernel
theorem dX12_shows_255 : decode cX12_shows 255 = .ok (.istore 4, 2) := by decide +kernel
theorem dX12_shows_257 : decode cX12_shows 257 = .ok (.iinc 5 1, 3) := by decide +kernel
theorem dX12_shows_260 : decode cX12_shows 260 = .ok (.goto (-230), 3) := by decide +kernel
theorem dX12_shows_263 : decode cX12_shows 263 = .ok (.aload_n 0, 1) := by decide +kernel
theorem dX12_shows_264 : decode cX12_shows 264 = .ok (.getfield 119, 3) := by decide +kernel
theorem dX12_shows_267 : decode cX12_shows 267 = .ok (.iload_n 1, 1) := by decide +kernel
theorem dX12_shows_268 : decode cX12_shows 268 = .ok (.iconst 2, 1) := by decide +kernel
theorem dX12_shows_269 : decode cX12_shows 269 = .ok (.iadd, 1) := by decide +kernel
theorem dX12_shows_270 : decode cX12_shows 270 = .ok (.dup2, 1) := by decide +kernel
theorem dX12_shows_271 : decode cX12_shows 271 = .ok (.iaload, 1) := by decide +kernel
theorem dX12_shows_272 : decode cX12_shows 272 = .ok (.iload 4, 2) := by decide +kernel
theorem dX12_shows_274 : decode cX12_shows 274 = .ok (.iconst (-1), 1) := by decide +kernel
theorem dX12_shows_275 : decode cX12_shows 275 = .ok (.ixor, 1) := by decide +kernel
theorem dX12_shows_276 : decode cX12_shows 276 = .ok (.iand, 1) := by decide +kernel
theorem dX12_shows_277 : decode cX12_shows 277 = .ok (.iastore, 1) := by decide +kernel
theorem dX12_shows_278 : decode cX12_shows 278 = .ok (.aload_n 0, 1) := by decide +kernel
theorem dX12_shows_279 : decode cX12_shows 279 = .ok (.getfield 119, 3) := by decide +kernel
theorem dX12_shows_282 : decode cX12_shows 282 = .ok (.iload_n 1, 1) := by decide +kernel
theorem dX12_shows_283 : decode cX12_shows 283 = .ok (.iconst 0, 1) := by decide +kernel
theorem dX12_shows_284 : decode cX12_shows 284 = .ok (.iadd, 1) := by decide +kernel
theorem dX12_shows_285 : decode cX12_shows 285 = .ok (.dup2, 1) := by decide +kernel
theorem dX12_shows_286 : decode cX12_shows 286 = .ok (.iaload, 1) := by decide +kernel
theorem dX12_shows_287 : decode cX12_shows 287 = .ok (.iconst 1, 1) := by decide +kernel
theorem dX12_shows_288 : decode cX12_shows 288 = .ok (.iadd, 1) := by decide +kernel
theorem dX12_shows_289 : decode cX12_shows 289 = .ok (.iastore, 1) := by decide +kernel
theorem dX12_shows_290 : decode cX12_shows 290 = .ok (.iload 4, 2) := by decide +kernel
theorem dX12_shows_292 : decode cX12_shows 292 = .ok (.ireturn, 1) := by decide +kernel
theorem dX12_doubtBy_0 : decode cX12_doubtBy 0 = .ok (.aload_n 0, 1) := by decide +kernel
theorem dX12_doubtBy_1 : decode cX12_doubtBy 1 = .ok (.iload_n 1, 1) := by decide +kernel
theorem dX12_doubtBy_2 : decode cX12_doubtBy 2 = .ok (.iconst 0, 1) := by decide +kernel
theorem dX12_doubtBy_3 : decode cX12_doubtBy 3 = .ok (.invokevirtual 310, 3) := by decide +kernel
theorem dX12_doubtBy_6 : decode cX12_doubtBy 6 = .ok (.iconst 2, 1) := by decide +kernel
theorem dX12_doubtBy_7 : decode cX12_doubtBy 7 = .ok (.if_icmp .ne 11, 3) := by decide +kernel
theorem dX12_doubtBy_10 : decode cX12_doubtBy 10 = .ok (.iconst 2, 1) := by decide +kernel
theorem dX12_doubtBy_11 : decode cX12_doubtBy 11 = .ok (.iload_n 2, 1) := by decide +kernel
theorem dX12_doubtBy_12 : decode cX12_doubtBy 12 = .ok (.imul, 1) := by decide +kernel
theorem dX12_doubtBy_13 : decode cX12_doubtBy 13 = .ok (.iload_n 3, 1) := by decide +kernel
theorem dX12_doubtBy_14 : decode cX12_doubtBy 14 = .ok (.iadd, 1) := by decide +kernel
theorem dX12_doubtBy_15 : decode cX12_doubtBy 15 = .ok (.goto 4, 3) := by decide +kernel
theorem dX12_doubtBy_18 : decode cX12_doubtBy 18 = .ok (.iload_n 3, 1) := by decide +kernel
theorem dX12_doubtBy_19 : decode cX12_doubtBy 19 = .ok (.istore 5, 2) := by decide +kernel
theorem dX12_doubtBy_21 : decode cX12_doubtBy 21 = .ok (.aload_n 0, 1) := by decide +kernel
theorem dX12_doubtBy_22 : decode cX12_doubtBy 22 = .ok (.getfield 89, 3) := by decide +kernel
theorem dX12_doubtBy_25 : decode cX12_doubtBy 25 = .ok (.iconst 4, 1) := by decide +kernel
theorem dX12_doubtBy_26 : decode cX12_doubtBy 26 = .ok (.iaload, 1) := by decide +kernel
theorem dX12_doubtBy_27 : decode cX12_doubtBy 27 = .ok (.ifCond .lt 49, 3) := by decide +kernel
theorem dX12_doubtBy_30 : decode cX12_doubtBy 30 = .ok (.aload_n 0, 1) := by decide +kernel
theorem dX12_doubtBy_31 : decode cX12_doubtBy 31 = .ok (.getfield 113, 3) := by decide +kernel
theorem dX12_doubtBy_34 : decode cX12_doubtBy 34 = .ok (.iconst 0, 1) := by decide +kernel
theorem dX12_doubtBy_35 : decode cX12_doubtBy 35 = .ok (.iload_n 2, 1) := by decide +kernel
theorem dX12_doubtBy_36 : decode cX12_doubtBy 36 = .ok (.iastore, 1) := by decide +kernel
theorem dX12_doubtBy_37 : decode cX12_doubtBy 37 = .ok (.aload_n 0, 1) := by decide +kernel
theorem dX12_doubtBy_38 : decode cX12_doubtBy 38 = .ok (.getfield 113, 3) := by decide +kernel
theorem dX12_doubtBy_41 : decode cX12_doubtBy 41 = .ok (.iconst 1, 1) := by decide +kernel
theorem dX12_doubtBy_42 : decode cX12_doubtBy 42 = .ok (.aload_n 0, 1) := by decide +kernel
theorem dX12_doubtBy_43 : decode cX12_doubtBy 43 = .ok (.iload_n 1, 1) := by decide +kernel
theorem dX12_doubtBy_44 : decode cX12_doubtBy 44 = .ok (.iconst 1, 1) := by decide +kernel
theorem dX12_doubtBy_45 : decode cX12_doubtBy 45 = .ok (.invokevirtual 310, 3) := by decide +kernel
theorem dX12_doubtBy_48 : decode cX12_doubtBy 48 = .ok (.iastore, 1) := by decide +kernel
theorem dX12_doubtBy_49 : decode cX12_doubtBy 49 = .ok (.aload_n 0, 1) := by decide +kernel
theorem dX12_doubtBy_50 : decode cX12_doubtBy 50 = .ok (.getfield 113, 3) := by decide +kernel
theorem dX12_doubtBy_53 : decode cX12_doubtBy 53 = .ok (.iconst 2, 1) := by decide +kernel
theorem dX12_doubtBy_54 : decode cX12_doubtBy 54 = .ok (.iload_n 3, 1) := by decide +kernel
theorem dX12_doubtBy_55 : decode cX12_doubtBy 55 = .ok (.iastore, 1) := by decide +kernel
theorem dX12_doubtBy_56 : decode cX12_doubtBy 56 = .ok (.aload_n 0, 1) := by decide +kernel
theorem dX12_doubtBy_57 : decode cX12_doubtBy 57 = .ok (.getfield 113, 3) := by decide +kernel
theorem dX12_doubtBy_60 : decode cX12_doubtBy 60 = .ok (.iconst 3, 1) := by decide +kernel
theorem dX12_doubtBy_61 : decode cX12_doubtBy 61 = .ok (.iload 4, 2) := by decide +kernel
theorem dX12_doubtBy_63 : decode cX12_doubtBy 63 = .ok (.iastore, 1) := by decide +kernel
theorem dX12_doubtBy_64 : decode cX12_doubtBy 64 = .ok (.aload_n 0, 1) := by decide +kernel
theorem dX12_doubtBy_65 : decode cX12_doubtBy 65 = .ok (.aload_n 0, 1) := by decide +kernel
theorem dX12_doubtBy_66 : decode cX12_doubtBy 66 = .ok (.getfield 89, 3) := by decide +kernel
theorem dX12_doubtBy_69 : decode cX12_doubtBy 69 = .ok (.iconst 4, 1) := by decide +kernel
theorem dX12_doubtBy_70 : decode cX12_doubtBy 70 = .ok (.iaload, 1) := by decide +kernel
theorem dX12_doubtBy_71 : decode cX12_doubtBy 71 = .ok (.invokevirtual 332, 3) := by decide +kernel
theorem dX12_doubtBy_74 : decode cX12_doubtBy 74 = .ok (.istore 5, 2) := by decide +kernel
theorem dX12_doubtBy_76 : decode cX12_doubtBy 76 = .ok (.iload 5, 2) := by decide +kernel
theorem dX12_doubtBy_78 : decode cX12_doubtBy 78 = .ok (.ifCond .ge 7, 3) := by decide +kernel
theorem dX12_doubtBy_81 : decode cX12_doubtBy 81 = .ok (.iconst 0, 1) := by decide +kernel
theorem dX12_doubtBy_82 : decode cX12_doubtBy 82 = .ok (.goto 17, 3) := by decide +kernel
theorem dX12_doubtBy_85 : decode cX12_doubtBy 85 = .ok (.iload 5, 2) := by decide +kernel
theorem dX12_doubtBy_87 : decode cX12_doubtBy 87 = .ok (.bipush 9, 2) := by decide +kernel
theorem dX12_doubtBy_89 : decode cX12_doubtBy 89 = .ok (.if_icmp .le 8, 3) := by decide +kernel
theorem dX12_doubtBy_92 : decode cX12_doubtBy 92 = .ok (.bipush 9, 2) := by decide +kernel
theorem dX12_doubtBy_94 : decode cX12_doubtBy 94 = .ok (.goto 5, 3) := by decide +kernel
theorem dX12_doubtBy_97 : decode cX12_doubtBy 97 = .ok (.iload 5, 2) := by decide +kernel
theorem dX12_doubtBy_99 : decode cX12_doubtBy 99 = .ok (.ireturn, 1) := by decide +kernel
theorem dX12_ends_0 : decode cX12_ends 0 = .ok (.aload_n 0, 1) := by decide +kernel
theorem dX12_ends_1 : decode cX12_ends 1 = .ok (.invokevirtual 335, 3) := by decide +kernel
theorem dX12_ends_4 : decode cX12_ends 4 = .ok (.aload_n 0, 1) := by decide +kernel
theorem dX12_ends_5 : decode cX12_ends 5 = .ok (.getfield 119, 3) := by decide +kernel
theorem dX12_ends_8 : decode cX12_ends 8 = .ok (.iload_n 1, 1) := by decide +kernel
theorem dX12_ends_9 : decode cX12_ends 9 = .ok (.iconst 0, 1) := by decide +kernel
theorem dX12_ends_10 : decode cX12_ends 10 = .ok (.iadd, 1) := by decide +kernel
theorem dX12_ends_11 : decode cX12_ends 11 = .ok (.iaload, 1) := by decide +kernel
theorem dX12_ends_12 : decode cX12_ends 12 = .ok (.aload_n 0, 1) := by decide +kernel
theorem dX12_ends_13 : decode cX12_ends 13 = .ok (.invokevirtual 285, 3) := by decide +kernel
theorem dX12_ends_16 : decode cX12_ends 16 = .ok (.if_icmp .ge 12, 3) := by decide +kernel
theorem dX12_ends_19 : decode cX12_ends 19 = .ok (.aload_n 0, 1) := by decide +kernel
theorem dX12_ends_20 : decode cX12_ends 20 = .ok (.iload_n 1, 1) := by decide +kernel
theorem dX12_ends_21 : decode cX12_ends 21 = .ok (.invokevirtual 338, 3) := by decide +kernel
theorem dX12_ends_24 : decode cX12_ends 24 = .ok (.pop, 1) := by decide +kernel
theorem dX12_ends_25 : decode cX12_ends 25 = .ok (.goto (-21), 3) := by decide +kernel
theorem dX12_ends_28 : decode cX12_ends 28 = .ok (.return_, 1) := by decide +kernel
theorem dX12_talks_0 : decode cX12_talks 0 = .ok (.iconst 0, 1) := by decide +kernel
theorem dX12_talks_1 : decode cX12_talks 1 = .ok (.istore 4, 2) := by decide +kernel
theorem dX12_talks_3 : decode cX12_talks 3 = .ok (.iconst 0, 1) := by decide +kernel
theorem dX12_talks_4 : decode cX12_talks 4 = .ok (.istore 5, 2) := by decide +kernel
theorem dX12_talks_6 : decode cX12_talks 6 = .ok (.iload 5, 2) := by decide +kernel
theorem dX12_talks_8 : decode cX12_talks 8 = .ok (.aload_n 0, 1) := by decide +kernel
theorem dX12_talks_9 : decode cX12_talks 9 = .ok (.invokevirtual 297, 3) := by decide +kernel
theorem dX12_talks_12 : decode cX12_talks 12 = .ok (.if_icmp .ge 107, 3) := by decide +kernel
theorem dX12_talks_15 : decode cX12_talks 15 = .ok (.aload_n 0, 1) := by decide +kernel
theorem dX12_talks_16 : decode cX12_talks 16 = .ok (.iload_n 1, 1) := by decide +kernel
theorem dX12_talks_17 : decode cX12_talks 17 = .ok (.iload_n 2, 1) := by decide +kernel
theorem dX12_talks_18 : decode cX12_talks 18 = .ok (.iload 5, 2) := by decide +kernel
theorem dX12_talks_20 : decode cX12_talks 20 = .ok (.invokevirtual 325, 3) := by decide +kernel
theorem dX12_talks_23 : decode cX12_talks 23 = .ok (.istore 6, 2) := by decide +kernel
theorem dX12_talks_25 : decode cX12_talks 25 = .ok (.aload_n 0, 1) := by decide +kernel
theorem dX12_talks_26 : decode cX12_talks 26 = .ok (.iload_n 1, 1) := by decide +kernel
theorem dX12_talks_27 : decode cX12_talks 27 = .ok (.iload_n 3, 1) := by decide +kernel
theorem dX12_talks_28 : decode cX12_talks 28 = .ok (.iload 5, 2) := by decide +kernel
theorem dX12_talks_30 : decode cX12_talks 30 = .ok (.invokevirtual 325, 3) := by decide +kernel
theorem dX12_talks_33 : decode cX12_talks 33 = .ok (.istore 7, 2) := by decide +kernel
theorem dX12_talks_35 : decode cX12_talks 35 = .ok (.iload 6, 2) := by decide +kernel
theorem dX12_talks_37 : decode cX12_talks 37 = .ok (.ifCond .lt 29, 3) := by decide +kernel
theorem dX12_talks_40 : decode cX12_talks 40 = .ok (.iload 6, 2) := by decide +kernel
theorem dX12_talks_42 : decode cX12_talks 42 = .ok (.iload 7, 2) := by decide +kernel
theorem dX12_talks_44 : decode cX12_talks 44 = .ok (.if_icmp .eq 22, 3) := by decide +kernel
theorem dX12_talks_47 : decode cX12_talks 47 = .ok (.iload 7, 2) := by decide +kernel
theorem dX12_talks_49 : decode cX12_talks 49 = .ok (.ifCond .lt 13, 3) := by decide +kernel
theorem dX12_talks_52 : decode cX12_talks 52 = .ok (.aload_n 0, 1) := by decide +kernel
theorem dX12_talks_53 : decode cX12_talks 53 = .ok (.iload_n 3, 1) := by decide +kernel
theorem dX12_talks_54 : decode cX12_talks 54 = .ok (.iconst 1, 1) := by decide +kernel
theorem dX12_talks_55 : decode cX12_talks 55 = .ok (.invokevirtual 310, 3) := by decide +kernel
theorem dX12_talks_58 : decode cX12_talks 58 = .ok (.iconst 4, 1) := by decide +kernel
theorem dX12_talks_59 : decode cX12_talks 59 = .ok (.if_icmp .le 7, 3) := by decide +kernel
theorem dX12_talks_62 : decode cX12_talks 62 = .ok (.iconst 1, 1) := by decide +kernel
theorem dX12_talks_63 : decode cX12_talks 63 = .ok (.goto 4, 3) := by decide +kernel
theorem dX12_talks_66 : decode cX12_talks 66 = .ok (.iconst 0, 1) := by decide +kernel
theorem dX12_talks_67 : decode cX12_talks 67 = .ok (.istore 8, 2) := by decide +kernel
theorem dX12_talks_69 : decode cX12_talks 69 = .ok (.aload_n 0, 1) := by decide +kernel
theorem dX12_talks_70 : decode cX12_talks 70 = .ok (.getfield 119, 3) := by decide +kernel
theorem dX12_talks_73 : decode cX12_talks 73 = .ok (.iload_n 1, 1) := by decide +kernel
theorem dX12_talks_74 : decode cX12_talks 74 = .ok (.bipush 20, 2) := by decide +kernel
theorem dX12_talks_76 : decode cX12_talks 76 = .ok (.iadd, 1) := by decide +kernel
theorem dX12_talks_77 : decode cX12_talks 77 = .ok (.bipush 6, 2) := by decide +kernel
theorem dX12_talks_79 : decode cX12_talks 79 = .ok (.iload_n 3, 1) := by decide +kernel
theorem dX12_talks_80 : decode cX12_talks 80 = .ok (.imul, 1) := by decide +kernel
theorem dX12_talks_81 : decode cX12_talks 81 = .ok (.iadd, 1) := by decide +kernel
theorem dX12_talks_82 : decode cX12_talks 82 = .ok (.iload 5, 2) := by decide +kernel
theorem dX12_talks_84 : decode cX12_talks 84 = .ok (.iadd, 1) := by decide +kernel
theorem dX12_talks_85 : decode cX12_talks 85 = .ok (.iload 8, 2) := by decide +kernel
theorem dX12_talks_87 : decode cX12_talks 87 = .ok (.ifCond .eq 8, 3) := by decide +kernel
theorem dX12_talks_90 : decode cX12_talks 90 = .ok (.iload 6, 2) := by decide +kernel
theorem dX12_talks_92 : decode cX12_talks 92 = .ok (.goto 5, 3) := by decide +kernel
theorem dX12_talks_95 : decode cX12_talks 95 = .ok (.iload 7, 2) := by decide +kernel
theorem dX12_talks_97 : decode cX12_talks 97 = .ok (.iastore, 1) := by decide +kernel
theorem dX12_talks_98 : decode cX12_talks 98 = .ok (.iload 4, 2) := by decide +kernel
theorem dX12_talks_100 : decode cX12_talks 100 = .ok (.iload 8, 2) := by decide +kernel
theorem dX12_talks_102 : decode cX12_talks 102 = .ok (.ifCond .eq 7, 3) := by decide +kernel
theorem dX12_talks_105 : decode cX12_talks 105 = .ok (.iconst 1, 1) := by decide +kernel
theorem dX12_talks_106 : decode cX12_talks 106 = .ok (.goto 4, 3) := by decide +kernel
theorem dX12_talks_109 : decode cX12_talks 109 = .ok (.iconst 0, 1) := by decide +kernel
theorem dX12_talks_110 : decode cX12_talks 110 = .ok (.iadd, 1) := by decide +kernel
theorem dX12_talks_111 : decode cX12_talks 111 = .ok (.istore 4, 2) := by decide +kernel
theorem dX12_talks_113 : decode cX12_talks 113 = .ok (.iinc 5 1, 3) := by decide +kernel
theorem dX12_talks_116 : decode cX12_talks 116 = .ok (.goto (-110), 3) := by decide +kernel
theorem dX12_talks_119 : decode cX12_talks 119 = .ok (.iload 4, 2) := by decide +kernel
theorem dX12_talks_121 : decode cX12_talks 121 = .ok (.ireturn, 1) := by decide +kernel
theorem dX12_scene_0 : decode cX12_scene 0 = .ok (.aload_n 0, 1) := by decide +kernel
theorem dX12_scene_1 : decode cX12_scene 1 = .ok (.iconst 0, 1) := by decide +kernel
theorem dX12_scene_2 : decode cX12_scene 2 = .ok (.putfield 1, 3) := by decide +kernel
theorem dX12_scene_5 : decode cX12_scene 5 = .ok (.aload_n 0, 1) := by decide +kernel
theorem dX12_scene_6 : decode cX12_scene 6 = .ok (.iload_n 1, 1) := by decide +kernel
theorem dX12_scene_7 : decode cX12_scene 7 = .ok (.invokevirtual 341, 3) := by decide +kernel
theorem dX12_scene_10 : decode cX12_scene 10 = .ok (.ifCond .eq 12, 3) := by decide +kernel
theorem dX12_scene_13 : decode cX12_scene 13 = .ok (.iload_n 2, 1) := by decide +kernel
theorem dX12_scene_14 : decode cX12_scene 14 = .ok (.iconst 0, 1) := by decide +kernel
theorem dX12_scene_15 : decode cX12_scene 15 = .ok (.iconst 5, 1) := by decide +kernel
theorem dX12_scene_16 : decode cX12_scene 16 = .ok (.invokestatic 207, 3) := by decide +kernel
theorem dX12_scene_19 : decode cX12_scene 19 = .ok (.ifCond .ne 6, 3) := by decide +kernel
theorem dX12_scene_22 : decode cX12_scene 22 = .ok (.bipush (-2), 2) := by decide +kernel
theorem dX12_scene_24 : decode cX12_scene 24 = .ok (.ireturn, 1) := by decide +kernel
theorem dX12_scene_25 : decode cX12_scene 25 = .ok (.iload_n 2, 1) := by decide +kernel
theorem dX12_scene_26 : decode cX12_scene 26 = .ok (.tableswitch 82 0 4 #[34, 41, 48, 57, 67], 34) := by decide +kernel
theorem dX12_scene_60 : decode cX12_scene 60 = .ok (.aload_n 0, 1) := by decide +kernel
theorem dX12_scene_61 : decode cX12_scene 61 = .ok (.iconst 0, 1) := by decide +kernel
theorem dX12_scene_62 : decode cX12_scene 62 = .ok (.iload_n 1, 1) := by decide +kernel
theorem dX12_scene_63 : decode cX12_scene 63 = .ok (.invokevirtual 304, 3) := by decide +kernel
theorem dX12_scene_66 : decode cX12_scene 66 = .ok (.ireturn, 1) := by decide +kernel
theorem dX12_scene_67 : decode cX12_scene 67 = .ok (.aload_n 0, 1) := by decide +kernel
theorem dX12_scene_68 : decode cX12_scene 68 = .ok (.iconst 0, 1) := by decide +kernel
theorem dX12_scene_69 : decode cX12_scene 69 = .ok (.iload_n 1, 1) := by decide +kernel
theorem dX12_scene_70 : decode cX12_scene 70 = .ok (.invokevirtual 307, 3) := by decide +kernel
theorem dX12_scene_73 : decode cX12_scene 73 = .ok (.ireturn, 1) := by decide +kernel
theorem dX12_scene_74 : decode cX12_scene 74 = .ok (.aload_n 0, 1) := by decide +kernel
theorem dX12_scene_75 : decode cX12_scene 75 = .ok (.getfield 119, 3) := by decide +kernel
theorem dX12_scene_78 : decode cX12_scene 78 = .ok (.iconst 4, 1) := by decide +kernel
theorem dX12_scene_79 : decode cX12_scene 79 = .ok (.iload_n 1, 1) := by decide +kernel
theorem dX12_scene_80 : decode cX12_scene 80 = .ok (.iadd, 1) := by decide +kernel
theorem dX12_scene_81 : decode cX12_scene 81 = .ok (.iaload, 1) := by decide +kernel
theorem dX12_scene_82 : decode cX12_scene 82 = .ok (.ireturn, 1) := by decide +kernel
theorem dX12_scene_83 : decode cX12_scene 83 = .ok (.aload_n 0, 1) := by decide +kernel
theorem dX12_scene_84 : decode cX12_scene 84 = .ok (.getfield 119, 3) := by decide +kernel
theorem dX12_scene_87 : decode cX12_scene 87 = .ok (.bipush 12, 2) := by decide +kernel
theorem dX12_scene_89 : decode cX12_scene 89 = .ok (.iload_n 1, 1) := by decide +kernel
theorem dX12_scene_90 : decode cX12_scene 90 = .ok (.iadd, 1) := by decide +kernel
theorem dX12_scene_91 : decode cX12_scene 91 = .ok (.iaload, 1) := by decide +kernel
theorem dX12_scene_92 : decode cX12_scene 92 = .ok (.ireturn, 1) := by decide +kernel
theorem dX12_scene_93 : decode cX12_scene 93 = .ok (.aload_n 0, 1) := by decide +kernel
theorem dX12_scene_94 : decode cX12_scene 94 = .ok (.iconst 0, 1) := by decide +kernel
theorem dX12_scene_95 : decode cX12_scene 95 = .ok (.iload_n 1, 1) := by decide +kernel
theorem dX12_scene_96 : decode cX12_scene 96 = .ok (.invokevirtual 300, 3) := by decide +kernel
theorem dX12_scene_99 : decode cX12_scene 99 = .ok (.ifCond .eq 7, 3) := by decide +kernel
theorem dX12_scene_102 : decode cX12_scene 102 = .ok (.iconst 1, 1) := by decide +kernel
theorem dX12_scene_103 : decode cX12_scene 103 = .ok (.goto 4, 3) := by decide +kernel
theorem dX12_scene_106 : decode cX12_scene 106 = .ok (.iconst 0, 1) := by decide +kernel
theorem dX12_scene_107 : decode cX12_scene 107 = .ok (.ireturn, 1) := by decide +kernel
theorem dX12_scene_108 : decode cX12_scene 108 = .ok (.iload_n 1, 1) := by decide +kernel
theorem dX12_scene_109 : decode cX12_scene 109 = .ok (.aload_n 0, 1) := by decide +kernel
theorem dX12_scene_110 : decode cX12_scene 110 = .ok (.getfield 119, 3) := by decide +kernel
theorem dX12_scene_113 : decode cX12_scene 113 = .ok (.iconst 0, 1) := by decide +kernel
theorem dX12_scene_114 : decode cX12_scene 114 = .ok (.iaload, 1) := by decide +kernel
theorem dX12_scene_115 : decode cX12_scene 115 = .ok (.if_icmp .ge 7, 3) := by decide +kernel
theorem dX12_scene_118 : decode cX12_scene 118 = .ok (.iconst 1, 1) := by decide +kernel
theorem dX12_scene_119 : decode cX12_scene 119 = .ok (.goto 4, 3) := by decide +kernel
theorem dX12_scene_122 : decode cX12_scene 122 = .ok (.iconst 0, 1) := by decide +kernel
theorem dX12_scene_123 : decode cX12_scene 123 = .ok (.ireturn, 1) := by decide +kernel
theorem dX12_watcher_0 : decode cX12_watcher 0 = .ok (.aload_n 0, 1) := by decide +kernel
theorem dX12_watcher_1 : decode cX12_watcher 1 = .ok (.iconst 0, 1) := by decide +kernel
theorem dX12_watcher_2 : decode cX12_watcher 2 = .ok (.putfield 1, 3) := by decide +kernel
theorem dX12_watcher_5 : decode cX12_watcher 5 = .ok (.aload_n 0, 1) := by decide +kernel
theorem dX12_watcher_6 : decode cX12_watcher 6 = .ok (.iload_n 1, 1) := by decide +kernel
theorem dX12_watcher_7 : decode cX12_watcher 7 = .ok (.invokevirtual 344, 3) := by decide +kernel
theorem dX12_watcher_10 : decode cX12_watcher 10 = .ok (.ifCond .eq 12, 3) := by decide +kernel
theorem dX12_watcher_13 : decode cX12_watcher 13 = .ok (.iload_n 2, 1) := by decide +kernel
theorem dX12_watcher_14 : decode cX12_watcher 14 = .ok (.iconst 0, 1) := by decide +kernel
theorem dX12_watcher_15 : decode cX12_watcher 15 = .ok (.iconst 4, 1) := by decide +kernel
theorem dX12_watcher_16 : decode cX12_watcher 16 = .ok (.invokestatic 207, 3) := by decide +kernel
theorem dX12_watcher_19 : decode cX12_watcher 19 = .ok (.ifCond .ne 5, 3) := by decide +kernel
theorem dX12_watcher_22 : decode cX12_watcher 22 = .ok (.iconst (-1), 1) := by decide +kernel
theorem dX12_watcher_23 : decode cX12_watcher 23 = .ok (.ireturn, 1) := by decide +kernel
theorem dX12_watcher_24 : decode cX12_watcher 24 = .ok (.iload_n 2, 1) := by decide +kernel
theorem dX12_watcher_25 : decode cX12_watcher 25 = .ok (.iconst 3, 1) := by decide +kernel
theorem dX12_watcher_26 : decode cX12_watcher 26 = .ok (.if_icmp .ge 12, 3) := by decide +kernel
theorem dX12_watcher_29 : decode cX12_watcher 29 = .ok (.aload_n 0, 1) := by decide +kernel
theorem dX12_watcher_30 : decode cX12_watcher 30 = .ok (.iload_n 1, 1) := by decide +kernel
theorem dX12_watcher_31 : decode cX12_watcher 31 = .ok (.iload_n 2, 1) := by decide +kernel
theorem dX12_watcher_32 : decode cX12_watcher 32 = .ok (.invokevirtual 310, 3) := by decide +kernel
theorem dX12_watcher_35 : decode cX12_watcher 35 = .ok (.goto 34, 3) := by decide +kernel
theorem dX12_watcher_38 : decode cX12_watcher 38 = .ok (.iload_n 2, 1) := by decide +kernel
theorem dX12_watcher_39 : decode cX12_watcher 39 = .ok (.iconst 3, 1) := by decide +kernel
theorem dX12_watcher_40 : decode cX12_watcher 40 = .ok (.if_icmp .ne 15, 3) := by decide +kernel
theorem dX12_watcher_43 : decode cX12_watcher 43 = .ok (.aload_n 0, 1) := by decide +kernel
theorem dX12_watcher_44 : decode cX12_watcher 44 = .ok (.getfield 119, 3) := by decide +kernel
theorem dX12_watcher_47 : decode cX12_watcher 47 = .ok (.bipush 56, 2) := by decide +kernel
theorem dX12_watcher_49 : decode cX12_watcher 49 = .ok (.iload_n 1, 1) := by decide +kernel
theorem dX12_watcher_50 : decode cX12_watcher 50 = .ok (.iadd, 1) := by decide +kernel
theorem dX12_watcher_51 : decode cX12_watcher 51 = .ok (.iaload, 1) := by decide +kernel
theorem dX12_watcher_52 : decode cX12_watcher 52 = .ok (.goto 17, 3) := by decide +kernel
theorem dX12_watcher_55 : decode cX12_watcher 55 = .ok (.aload_n 0, 1) := by decide +kernel
theorem dX12_watcher_56 : decode cX12_watcher 56 = .ok (.iconst 0, 1) := by decide +kernel
theorem dX12_watcher_57 : decode cX12_watcher 57 = .ok (.iload_n 1, 1) := by decide +kernel
theorem dX12_watcher_58 : decode cX12_watcher 58 = .ok (.invokevirtual 319, 3) := by decide +kernel
theorem dX12_watcher_61 : decode cX12_watcher 61 = .ok (.ifCond .eq 7, 3) := by decide +kernel
theorem dX12_watcher_64 : decode cX12_watcher 64 = .ok (.iconst 1, 1) := by decide +kernel
theorem dX12_watcher_65 : decode cX12_watcher 65 = .ok (.goto 4, 3) := by decide +kernel
theorem dX12_watcher_68 : decode cX12_watcher 68 = .ok (.iconst 0, 1) := by decide +kernel
theorem dX12_watcher_69 : decode cX12_watcher 69 = .ok (.ireturn, 1) := by decide +kernel
theorem dX12_thinks_0 : decode cX12_thinks 0 = .ok (.aload_n 0, 1) := by decide +kernel
theorem dX12_thinks_1 : decode cX12_thinks 1 = .ok (.iconst 0, 1) := by decide +kernel
theorem dX12_thinks_2 : decode cX12_thinks 2 = .ok (.putfield 1, 3) := by decide +kernel
theorem dX12_thinks_5 : decode cX12_thinks 5 = .ok (.aload_n 0, 1) := by decide +kernel
theorem dX12_thinks_6 : decode cX12_thinks 6 = .ok (.iload_n 1, 1) := by decide +kernel
theorem dX12_thinks_7 : decode cX12_thinks 7 = .ok (.invokevirtual 344, 3) := by decide +kernel
theorem dX12_thinks_10 : decode cX12_thinks 10 = .ok (.ifCond .eq 21, 3) := by decide +kernel
theorem dX12_thinks_13 : decode cX12_thinks 13 = .ok (.aload_n 0, 1) := by decide +kernel
theorem dX12_thinks_14 : decode cX12_thinks 14 = .ok (.iload_n 2, 1) := by decide +kernel
theorem dX12_thinks_15 : decode cX12_thinks 15 = .ok (.invokevirtual 347, 3) := by decide +kernel
theorem dX12_thinks_18 : decode cX12_thinks 18 = .ok (.ifCond .eq 13, 3) := by decide +kernel
theorem dX12_thinks_21 : decode cX12_thinks 21 = .ok (.aload_n 0, 1) := by decide +kernel
theorem dX12_thinks_22 : decode cX12_thinks 22 = .ok (.iconst 0, 1) := by decide +kernel
theorem dX12_thinks_23 : decode cX12_thinks 23 = .ok (.iload_n 1, 1) := by decide +kernel
theorem dX12_thinks_24 : decode cX12_thinks 24 = .ok (.iload_n 2, 1) := by decide +kernel
theorem dX12_thinks_25 : decode cX12_thinks 25 = .ok (.invokevirtual 325, 3) := by decide +kernel
theorem dX12_thinks_28 : decode cX12_thinks 28 = .ok (.goto 5, 3) := by decide +kernel
theorem dX12_thinks_31 : decode cX12_thinks 31 = .ok (.bipush (-2), 2) := by decide +kernel
theorem dX12_thinks_33 : decode cX12_thinks 33 = .ok (.ireturn, 1) := by decide +kernel
theorem dX12_takes_0 : decode cX12_takes 0 = .ok (.aload_n 0, 1) := by decide +kernel
theorem dX12_takes_1 : decode cX12_takes 1 = .ok (.iconst 0, 1) := by decide +kernel
theorem dX12_takes_2 : decode cX12_takes 2 = .ok (.putfield 1, 3) := by decide +kernel
theorem dX12_takes_5 : decode cX12_takes 5 = .ok (.aload_n 0, 1) := by decide +kernel
theorem dX12_takes_6 : decode cX12_takes 6 = .ok (.iload_n 1, 1) := by decide +kernel
theorem dX12_takes_7 : decode cX12_takes 7 = .ok (.invokevirtual 344, 3) := by decide +kernel
theorem dX12_takes_10 : decode cX12_takes 10 = .ok (.ifCond .eq 11, 3) := by decide +kernel
theorem dX12_takes_13 : decode cX12_takes 13 = .ok (.aload_n 0, 1) := by decide +kernel
theorem dX12_takes_14 : decode cX12_takes 14 = .ok (.iload_n 2, 1) := by decide +kernel
theorem dX12_takes_15 : decode cX12_takes 15 = .ok (.invokevirtual 341, 3) := by decide +kernel
theorem dX12_takes_18 : decode cX12_takes 18 = .ok (.ifCond .ne 6, 3) := by decide +kernel
theorem dX12_takes_21 : decode cX12_takes 21 = .ok (.bipush (-2), 2) := by decide +kernel
theorem dX12_takes_23 : decode cX12_takes 23 = .ok (.ireturn, 1) := by decide +kernel
theorem dX12_takes_24 : decode cX12_takes 24 = .ok (.aload_n 0, 1) := by decide +kernel
theorem dX12_takes_25 : decode cX12_takes 25 = .ok (.iconst 0, 1) := by decide +kernel
theorem dX12_takes_26 : decode cX12_takes 26 = .ok (.iload_n 1, 1) := by decide +kernel
theorem dX12_takes_27 : decode cX12_takes 27 = .ok (.iload_n 2, 1) := by decide +kernel
theorem dX12_takes_28 : decode cX12_takes 28 = .ok (.invokevirtual 313, 3) := by decide +kernel
theorem dX12_takes_31 : decode cX12_takes 31 = .ok (.istore_n 3, 1) := by decide +kernel
theorem dX12_takes_32 : decode cX12_takes 32 = .ok (.iload_n 3, 1) := by decide +kernel
theorem dX12_takes_33 : decode cX12_takes 33 = .ok (.ifCond .eq 14, 3) := by decide +kernel
theorem dX12_takes_36 : decode cX12_takes 36 = .ok (.aload_n 0, 1) := by decide +kernel
theorem dX12_takes_37 : decode cX12_takes 37 = .ok (.getfield 119, 3) := by decide +kernel
theorem dX12_takes_40 : decode cX12_takes 40 = .ok (.iconst 4, 1) := by decide +kernel
theorem dX12_takes_41 : decode cX12_takes 41 = .ok (.iload_n 2, 1) := by decide +kernel
theorem dX12_takes_42 : decode cX12_takes 42 = .ok (.iadd, 1) := by decide +kernel
theorem dX12_takes_43 : decode cX12_takes 43 = .ok (.iaload, 1) := by decide +kernel
theorem dX12_takes_44 : decode cX12_takes 44 = .ok (.goto 9, 3) := by decide +kernel
theorem dX12_takes_47 : decode cX12_takes 47 = .ok (.aload_n 0, 1) := by decide +kernel
theorem dX12_takes_48 : decode cX12_takes 48 = .ok (.iconst 0, 1) := by decide +kernel
theorem dX12_takes_49 : decode cX12_takes 49 = .ok (.iload_n 2, 1) := by decide +kernel
theorem dX12_takes_50 : decode cX12_takes 50 = .ok (.invokevirtual 304, 3) := by decide +kernel
theorem dX12_takes_53 : decode cX12_takes 53 = .ok (.istore 4, 2) := by decide +kernel
theorem dX12_takes_55 : decode cX12_takes 55 = .ok (.iload_n 3, 1) := by decide +kernel
theorem dX12_takes_56 : decode cX12_takes 56 = .ok (.ifCond .eq 15, 3) := by decide +kernel
theorem dX12_takes_59 : decode cX12_takes 59 = .ok (.aload_n 0, 1) := by decide +kernel
theorem dX12_takes_60 : decode cX12_takes 60 = .ok (.getfield 119, 3) := by decide +kernel
theorem dX12_takes_63 : decode cX12_takes 63 = .ok (.bipush 12, 2) := by decide +kernel
theorem dX12_takes_65 : decode cX12_takes 65 = .ok (.iload_n 2, 1) := by decide +kernel
theorem dX12_takes_66 : decode cX12_takes 66 = .ok (.iadd, 1) := by decide +kernel
theorem dX12_takes_67 : decode cX12_takes 67 = .ok (.iaload, 1) := by decide +kernel
theorem dX12_takes_68 : decode cX12_takes 68 = .ok (.goto 9, 3) := by decide +kernel
theorem dX12_takes_71 : decode cX12_takes 71 = .ok (.aload_n 0, 1) := by decide +kernel
theorem dX12_takes_72 : decode cX12_takes 72 = .ok (.iconst 0, 1) := by decide +kernel
theorem dX12_takes_73 : decode cX12_takes 73 = .ok (.iload_n 2, 1) := by decide +kernel
theorem dX12_takes_74 : decode cX12_takes 74 = .ok (.invokevirtual 307, 3) := by decide +kernel
theorem dX12_takes_77 : decode cX12_takes 77 = .ok (.istore 5, 2) := by decide +kernel
theorem dX12_takes_79 : decode cX12_takes 79 = .ok (.aload_n 0, 1) := by decide +kernel
theorem dX12_takes_80 : decode cX12_takes 80 = .ok (.iconst 0, 1) := by decide +kernel
theorem dX12_takes_81 : decode cX12_takes 81 = .ok (.iload_n 1, 1) := by decide +kernel
theorem dX12_takes_82 : decode cX12_takes 82 = .ok (.iload_n 2, 1) := by decide +kernel
theorem dX12_takes_83 : decode cX12_takes 83 = .ok (.invokevirtual 322, 3) := by decide +kernel
theorem dX12_takes_86 : decode cX12_takes 86 = .ok (.ifCond .eq 13, 3) := by decide +kernel
theorem dX12_takes_89 : decode cX12_takes 89 = .ok (.iconst 2, 1) := by decide +kernel
theorem dX12_takes_90 : decode cX12_takes 90 = .ok (.iload 4, 2) := by decide +kernel
theorem dX12_takes_92 : decode cX12_takes 92 = .ok (.imul, 1) := by decide +kernel
theorem dX12_takes_93 : decode cX12_takes 93 = .ok (.iload 5, 2) := by decide +kernel
theorem dX12_takes_95 : decode cX12_takes 95 = .ok (.iadd, 1) := by decide +kernel
theorem dX12_takes_96 : decode cX12_takes 96 = .ok (.goto 4, 3) := by decide +kernel
theorem dX12_takes_99 : decode cX12_takes 99 = .ok (.iconst (-1), 1) := by decide +kernel
theorem dX12_takes_100 : decode cX12_takes 100 = .ok (.ireturn, 1) := by decide +kernel
theorem dX12_blank_0 : decode cX12_blank 0 = .ok (.aload_n 0, 1) := by decide +kernel
theorem dX12_blank_1 : decode cX12_blank 1 = .ok (.iconst 0, 1) := by decide +kernel
theorem dX12_blank_2 : decode cX12_blank 2 = .ok (.putfield 1, 3) := by decide +kernel
theorem dX12_blank_5 : decode cX12_blank 5 = .ok (.aload_n 0, 1) := by decide +kernel
theorem dX12_blank_6 : decode cX12_blank 6 = .ok (.iload_n 1, 1) := by decide +kernel
theorem dX12_blank_7 : decode cX12_blank 7 = .ok (.invokevirtual 344, 3) := by decide +kernel
theorem dX12_blank_10 : decode cX12_blank 10 = .ok (.ifCond .ne 5, 3) := by decide +kernel
theorem dX12_blank_13 : decode cX12_blank 13 = .ok (.iconst (-1), 1) := by decide +kernel
theorem dX12_blank_14 : decode cX12_blank 14 = .ok (.ireturn, 1) := by decide +kernel
theorem dX12_blank_15 : decode cX12_blank 15 = .ok (.iconst 0, 1) := by decide +kernel
theorem dX12_blank_16 : decode cX12_blank 16 = .ok (.istore_n 2, 1) := by decide +kernel
theorem dX12_blank_17 : decode cX12_blank 17 = .ok (.iconst 0, 1) := by decide +kernel
theorem dX12_blank_18 : decode cX12_blank 18 = .ok (.istore_n 3, 1) := by decide +kernel
theorem dX12_blank_19 : decode cX12_blank 19 = .ok (.iload_n 3, 1) := by decide +kernel
theorem dX12_blank_20 : decode cX12_blank 20 = .ok (.aload_n 0, 1) := by decide +kernel
theorem dX12_blank_21 : decode cX12_blank 21 = .ok (.invokevirtual 297, 3) := by decide +kernel
theorem dX12_blank_24 : decode cX12_blank 24 = .ok (.if_icmp .ge 29, 3) := by decide +kernel
theorem dX12_blank_27 : decode cX12_blank 27 = .ok (.iload_n 2, 1) := by decide +kernel
theorem dX12_blank_28 : decode cX12_blank 28 = .ok (.aload_n 0, 1) := by decide +kernel
theorem dX12_blank_29 : decode cX12_blank 29 = .ok (.iconst 0, 1) := by decide +kernel
theorem dX12_blank_30 : decode cX12_blank 30 = .ok (.iload_n 1, 1) := by decide +kernel
theorem dX12_blank_31 : decode cX12_blank 31 = .ok (.iload_n 3, 1) := by decide +kernel
theorem dX12_blank_32 : decode cX12_blank 32 = .ok (.invokevirtual 325, 3) := by decide +kernel
theorem dX12_blank_35 : decode cX12_blank 35 = .ok (.ifCond .ge 9, 3) := by decide +kernel
theorem dX12_blank_38 : decode cX12_blank 38 = .ok (.iconst 1, 1) := by decide +kernel
theorem dX12_blank_39 : decode cX12_blank 39 = .ok (.iload_n 3, 1) := by decide +kernel
theorem dX12_blank_40 : decode cX12_blank 40 = .ok (.ishl, 1) := by decide +kernel
theorem dX12_blank_41 : decode cX12_blank 41 = .ok (.goto 4, 3) := by decide +kernel
theorem dX12_blank_44 : decode cX12_blank 44 = .ok (.iconst 0, 1) := by decide +kernel
theorem dX12_blank_45 : decode cX12_blank 45 = .ok (.ior, 1) := by decide +kernel
theorem dX12_blank_46 : decode cX12_blank 46 = .ok (.istore_n 2, 1) := by decide +kernel
theorem dX12_blank_47 : decode cX12_blank 47 = .ok (.iinc 3 1, 3) := by decide +kernel
theorem dX12_blank_50 : decode cX12_blank 50 = .ok (.goto (-31), 3) := by decide +kernel
theorem dX12_blank_53 : decode cX12_blank 53 = .ok (.iload_n 2, 1) := by decide +kernel
theorem dX12_blank_54 : decode cX12_blank 54 = .ok (.ireturn, 1) := by decide +kernel
theorem dX12_show_0 : decode cX12_show 0 = .ok (.aload_n 0, 1) := by decide +kernel
theorem dX12_show_1 : decode cX12_show 1 = .ok (.iconst 0, 1) := by decide +kernel
theorem dX12_show_2 : decode cX12_show 2 = .ok (.putfield 1, 3) := by decide +kernel
theorem dX12_show_5 : decode cX12_show 5 = .ok (.aload_n 0, 1) := by decide +kernel
theorem dX12_show_6 : decode cX12_show 6 = .ok (.getfield 119, 3) := by decide +kernel
theorem dX12_show_9 : decode cX12_show 9 = .ok (.iconst 0, 1) := by decide +kernel
theorem dX12_show_10 : decode cX12_show 10 = .ok (.iaload, 1) := by decide +kernel
theorem dX12_show_11 : decode cX12_show 11 = .ok (.aload_n 0, 1) := by decide +kernel
theorem dX12_show_12 : decode cX12_show 12 = .ok (.invokevirtual 285, 3) := by decide +kernel
theorem dX12_show_15 : decode cX12_show 15 = .ok (.if_icmp .lt 5, 3) := by decide +kernel
theorem dX12_show_18 : decode cX12_show 18 = .ok (.iconst (-1), 1) := by decide +kernel
theorem dX12_show_19 : decode cX12_show 19 = .ok (.ireturn, 1) := by decide +kernel
theorem dX12_show_20 : decode cX12_show 20 = .ok (.aload_n 0, 1) := by decide +kernel
theorem dX12_show_21 : decode cX12_show 21 = .ok (.invokevirtual 350, 3) := by decide +kernel
theorem dX12_show_24 : decode cX12_show 24 = .ok (.aload_n 0, 1) := by decide +kernel
theorem dX12_show_25 : decode cX12_show 25 = .ok (.iconst 0, 1) := by decide +kernel
theorem dX12_show_26 : decode cX12_show 26 = .ok (.invokevirtual 338, 3) := by decide +kernel
theorem dX12_show_29 : decode cX12_show 29 = .ok (.ireturn, 1) := by decide +kernel
theorem dX12_isToCome_0 : decode cX12_isToCome 0 = .ok (.aload_n 0, 1) := by decide +kernel
theorem dX12_isToCome_1 : decode cX12_isToCome 1 = .ok (.iload_n 2, 1) := by decide +kernel
theorem dX12_isToCome_2 : decode cX12_isToCome 2 = .ok (.invokevirtual 341, 3) := by decide +kernel
theorem dX12_isToCome_5 : decode cX12_isToCome 5 = .ok (.ifCond .eq 19, 3) := by decide +kernel
theorem dX12_isToCome_8 : decode cX12_isToCome 8 = .ok (.iload_n 2, 1) := by decide +kernel
theorem dX12_isToCome_9 : decode cX12_isToCome 9 = .ok (.aload_n 0, 1) := by decide +kernel
theorem dX12_isToCome_10 : decode cX12_isToCome 10 = .ok (.getfield 119, 3) := by decide +kernel
theorem dX12_isToCome_13 : decode cX12_isToCome 13 = .ok (.iload_n 1, 1) := by decide +kernel
theorem dX12_isToCome_14 : decode cX12_isToCome 14 = .ok (.iconst 0, 1) := by decide +kernel
theorem dX12_isToCome_15 : decode cX12_isToCome 15 = .ok (.iadd, 1) := by decide +kernel
theorem dX12_isToCome_16 : decode cX12_isToCome 16 = .ok (.iaload, 1) := by decide +kernel
theorem dX12_isToCome_17 : decode cX12_isToCome 17 = .ok (.if_icmp .lt 7, 3) := by decide +kernel
theorem dX12_isToCome_20 : decode cX12_isToCome 20 = .ok (.iconst 1, 1) := by decide +kernel
theorem dX12_isToCome_21 : decode cX12_isToCome 21 = .ok (.goto 4, 3) := by decide +kernel
theorem dX12_isToCome_24 : decode cX12_isToCome 24 = .ok (.iconst 0, 1) := by decide +kernel
theorem dX12_isToCome_25 : decode cX12_isToCome 25 = .ok (.ireturn, 1) := by decide +kernel
theorem dX12_writes_0 : decode cX12_writes 0 = .ok (.aload_n 0, 1) := by decide +kernel
theorem dX12_writes_1 : decode cX12_writes 1 = .ok (.getfield 119, 3) := by decide +kernel
theorem dX12_writes_4 : decode cX12_writes 4 = .ok (.iload_n 1, 1) := by decide +kernel
theorem dX12_writes_5 : decode cX12_writes 5 = .ok (.iconst 4, 1) := by decide +kernel
theorem dX12_writes_6 : decode cX12_writes 6 = .ok (.iadd, 1) := by decide +kernel
theorem dX12_writes_7 : decode cX12_writes 7 = .ok (.iload_n 2, 1) := by decide +kernel
theorem dX12_writes_8 : decode cX12_writes 8 = .ok (.iadd, 1) := by decide +kernel
theorem dX12_writes_9 : decode cX12_writes 9 = .ok (.iload_n 3, 1) := by decide +kernel
theorem dX12_writes_10 : decode cX12_writes 10 = .ok (.iastore, 1) := by decide +kernel
theorem dX12_writes_11 : decode cX12_writes 11 = .ok (.aload_n 0, 1) := by decide +kernel
theorem dX12_writes_12 : decode cX12_writes 12 = .ok (.getfield 119, 3) := by decide +kernel
theorem dX12_writes_15 : decode cX12_writes 15 = .ok (.iload_n 1, 1) := by decide +kernel
theorem dX12_writes_16 : decode cX12_writes 16 = .ok (.bipush 12, 2) := by decide +kernel
theorem dX12_writes_18 : decode cX12_writes 18 = .ok (.iadd, 1) := by decide +kernel
theorem dX12_writes_19 : decode cX12_writes 19 = .ok (.iload_n 2, 1) := by decide +kernel
theorem dX12_writes_20 : decode cX12_writes 20 = .ok (.iadd, 1) := by decide +kernel
theorem dX12_writes_21 : decode cX12_writes 21 = .ok (.iload 4, 2) := by decide +kernel
theorem dX12_writes_23 : decode cX12_writes 23 = .ok (.iastore, 1) := by decide +kernel
theorem dX12_writes_24 : decode cX12_writes 24 = .ok (.return_, 1) := by decide +kernel
theorem dX12_write_0 : decode cX12_write 0 = .ok (.aload_n 0, 1) := by decide +kernel
theorem dX12_write_1 : decode cX12_write 1 = .ok (.iconst 0, 1) := by decide +kernel
theorem dX12_write_2 : decode cX12_write 2 = .ok (.putfield 1, 3) := by decide +kernel
theorem dX12_write_5 : decode cX12_write 5 = .ok (.aload_n 0, 1) := by decide +kernel
theorem dX12_write_6 : decode cX12_write 6 = .ok (.iconst 0, 1) := by decide +kernel
theorem dX12_write_7 : decode cX12_write 7 = .ok (.iload_n 1, 1) := by decide +kernel
theorem dX12_write_8 : decode cX12_write 8 = .ok (.invokevirtual 353, 3) := by decide +kernel
theorem dX12_write_11 : decode cX12_write 11 = .ok (.ifCond .eq 11, 3) := by decide +kernel
theorem dX12_write_14 : decode cX12_write 14 = .ok (.aload_n 0, 1) := by decide +kernel
theorem dX12_write_15 : decode cX12_write 15 = .ok (.iload_n 2, 1) := by decide +kernel
theorem dX12_write_16 : decode cX12_write 16 = .ok (.invokevirtual 347, 3) := by decide +kernel
theorem dX12_write_19 : decode cX12_write 19 = .ok (.ifCond .ne 5, 3) := by decide +kernel
theorem dX12_write_22 : decode cX12_write 22 = .ok (.iconst 0, 1) := by decide +kernel
theorem dX12_write_23 : decode cX12_write 23 = .ok (.ireturn, 1) := by decide +kernel
theorem dX12_write_24 : decode cX12_write 24 = .ok (.aload_n 0, 1) := by decide +kernel
theorem dX12_write_25 : decode cX12_write 25 = .ok (.invokevirtual 350, 3) := by decide +kernel
theorem dX12_write_28 : decode cX12_write 28 = .ok (.aload_n 0, 1) := by decide +kernel
theorem dX12_write_29 : decode cX12_write 29 = .ok (.iconst 0, 1) := by decide +kernel
theorem dX12_write_30 : decode cX12_write 30 = .ok (.iload_n 1, 1) := by decide +kernel
theorem dX12_write_31 : decode cX12_write 31 = .ok (.iload_n 2, 1) := by decide +kernel
theorem dX12_write_32 : decode cX12_write 32 = .ok (.iload_n 3, 1) := by decide +kernel
theorem dX12_write_33 : decode cX12_write 33 = .ok (.ifCond .eq 7, 3) := by decide +kernel
theorem dX12_write_36 : decode cX12_write 36 = .ok (.iconst 1, 1) := by decide +kernel
theorem dX12_write_37 : decode cX12_write 37 = .ok (.goto 4, 3) := by decide +kernel
theorem dX12_write_40 : decode cX12_write 40 = .ok (.iconst 0, 1) := by decide +kernel
theorem dX12_write_41 : decode cX12_write 41 = .ok (.invokevirtual 356, 3) := by decide +kernel
theorem dX12_write_44 : decode cX12_write 44 = .ok (.iconst 1, 1) := by decide +kernel
theorem dX12_write_45 : decode cX12_write 45 = .ok (.ireturn, 1) := by decide +kernel
theorem dX12_cut_0 : decode cX12_cut 0 = .ok (.aload_n 0, 1) := by decide +kernel
theorem dX12_cut_1 : decode cX12_cut 1 = .ok (.iconst 0, 1) := by decide +kernel
theorem dX12_cut_2 : decode cX12_cut 2 = .ok (.putfield 1, 3) := by decide +kernel
theorem dX12_cut_5 : decode cX12_cut 5 = .ok (.aload_n 0, 1) := by decide +kernel
theorem dX12_cut_6 : decode cX12_cut 6 = .ok (.iconst 0, 1) := by decide +kernel
theorem dX12_cut_7 : decode cX12_cut 7 = .ok (.iload_n 1, 1) := by decide +kernel
theorem dX12_cut_8 : decode cX12_cut 8 = .ok (.invokevirtual 353, 3) := by decide +kernel
theorem dX12_cut_11 : decode cX12_cut 11 = .ok (.ifCond .eq 12, 3) := by decide +kernel
theorem dX12_cut_14 : decode cX12_cut 14 = .ok (.aload_n 0, 1) := by decide +kernel
theorem dX12_cut_15 : decode cX12_cut 15 = .ok (.iconst 0, 1) := by decide +kernel
theorem dX12_cut_16 : decode cX12_cut 16 = .ok (.iload_n 1, 1) := by decide +kernel
theorem dX12_cut_17 : decode cX12_cut 17 = .ok (.invokevirtual 300, 3) := by decide +kernel
theorem dX12_cut_20 : decode cX12_cut 20 = .ok (.ifCond .eq 5, 3) := by decide +kernel
theorem dX12_cut_23 : decode cX12_cut 23 = .ok (.iconst 0, 1) := by decide +kernel
theorem dX12_cut_24 : decode cX12_cut 24 = .ok (.ireturn, 1) := by decide +kernel
theorem dX12_cut_25 : decode cX12_cut 25 = .ok (.aload_n 0, 1) := by decide +kernel
theorem dX12_cut_26 : decode cX12_cut 26 = .ok (.invokevirtual 350, 3) := by decide +kernel
theorem dX12_cut_29 : decode cX12_cut 29 = .ok (.aload_n 0, 1) := by decide +kernel
theorem dX12_cut_30 : decode cX12_cut 30 = .ok (.getfield 119, 3) := by decide +kernel
theorem dX12_cut_33 : decode cX12_cut 33 = .ok (.iconst 3, 1) := by decide +kernel
theorem dX12_cut_34 : decode cX12_cut 34 = .ok (.dup2, 1) := by decide +kernel
theorem dX12_cut_35 : decode cX12_cut 35 = .ok (.iaload, 1) := by decide +kernel
theorem dX12_cut_36 : decode cX12_cut 36 = .ok (.iconst 1, 1) := by decide +kernel
theorem dX12_cut_37 : decode cX12_cut 37 = .ok (.iload_n 1, 1) := by decide +kernel
theorem dX12_cut_38 : decode cX12_cut 38 = .ok (.ishl, 1) := by decide +kernel
theorem dX12_cut_39 : decode cX12_cut 39 = .ok (.ior, 1) := by decide +kernel
theorem dX12_cut_40 : decode cX12_cut 40 = .ok (.iastore, 1) := by decide +kernel
theorem dX12_cut_41 : decode cX12_cut 41 = .ok (.iconst 1, 1) := by decide +kernel
theorem dX12_cut_42 : decode cX12_cut 42 = .ok (.ireturn, 1) := by decide +kernel
theorem dX12_talk_0 : decode cX12_talk 0 = .ok (.aload_n 0, 1) := by decide +kernel
theorem dX12_talk_1 : decode cX12_talk 1 = .ok (.iconst 0, 1) := by decide +kernel
theorem dX12_talk_2 : decode cX12_talk 2 = .ok (.putfield 1, 3) := by decide +kernel
theorem dX12_talk_5 : decode cX12_talk 5 = .ok (.aload_n 0, 1) := by decide +kernel
theorem dX12_talk_6 : decode cX12_talk 6 = .ok (.iload_n 1, 1) := by decide +kernel
theorem dX12_talk_7 : decode cX12_talk 7 = .ok (.invokevirtual 344, 3) := by decide +kernel
theorem dX12_talk_10 : decode cX12_talk 10 = .ok (.ifCond .eq 34, 3) := by decide +kernel
theorem dX12_talk_13 : decode cX12_talk 13 = .ok (.aload_n 0, 1) := by decide +kernel
theorem dX12_talk_14 : decode cX12_talk 14 = .ok (.iload_n 2, 1) := by decide +kernel
theorem dX12_talk_15 : decode cX12_talk 15 = .ok (.invokevirtual 344, 3) := by decide +kernel
theorem dX12_talk_18 : decode cX12_talk 18 = .ok (.ifCond .eq 26, 3) := by decide +kernel
theorem dX12_talk_21 : decode cX12_talk 21 = .ok (.iload_n 1, 1) := by decide +kernel
theorem dX12_talk_22 : decode cX12_talk 22 = .ok (.iload_n 2, 1) := by decide +kernel
theorem dX12_talk_23 : decode cX12_talk 23 = .ok (.if_icmp .eq 21, 3) := by decide +kernel
theorem dX12_talk_26 : decode cX12_talk 26 = .ok (.aload_n 0, 1) := by decide +kernel
theorem dX12_talk_27 : decode cX12_talk 27 = .ok (.iconst 0, 1) := by decide +kernel
theorem dX12_talk_28 : decode cX12_talk 28 = .ok (.iload_n 1, 1) := by decide +kernel
theorem dX12_talk_29 : decode cX12_talk 29 = .ok (.invokevirtual 319, 3) := by decide +kernel
theorem dX12_talk_32 : decode cX12_talk 32 = .ok (.ifCond .eq 12, 3) := by decide +kernel
theorem dX12_talk_35 : decode cX12_talk 35 = .ok (.aload_n 0, 1) := by decide +kernel
theorem dX12_talk_36 : decode cX12_talk 36 = .ok (.iconst 0, 1) := by decide +kernel
theorem dX12_talk_37 : decode cX12_talk 37 = .ok (.iload_n 2, 1) := by decide +kernel
theorem dX12_talk_38 : decode cX12_talk 38 = .ok (.invokevirtual 319, 3) := by decide +kernel
theorem dX12_talk_41 : decode cX12_talk 41 = .ok (.ifCond .ne 5, 3) := by decide +kernel
theorem dX12_talk_44 : decode cX12_talk 44 = .ok (.iconst (-1), 1) := by decide +kernel
theorem dX12_talk_45 : decode cX12_talk 45 = .ok (.ireturn, 1) := by decide +kernel
theorem dX12_talk_46 : decode cX12_talk 46 = .ok (.aload_n 0, 1) := by decide +kernel
theorem dX12_talk_47 : decode cX12_talk 47 = .ok (.invokevirtual 350, 3) := by decide +kernel
theorem dX12_talk_50 : decode cX12_talk 50 = .ok (.aload_n 0, 1) := by decide +kernel
theorem dX12_talk_51 : decode cX12_talk 51 = .ok (.iconst 0, 1) := by decide +kernel
theorem dX12_talk_52 : decode cX12_talk 52 = .ok (.iload_n 1, 1) := by decide +kernel
theorem dX12_talk_53 : decode cX12_talk 53 = .ok (.iload_n 2, 1) := by decide +kernel
theorem dX12_talk_54 : decode cX12_talk 54 = .ok (.invokevirtual 360, 3) := by decide +kernel
theorem dX12_talk_57 : decode cX12_talk 57 = .ok (.ireturn, 1) := by decide +kernel
theorem dX12_begunAgain_0 : decode cX12_begunAgain 0 = .ok (.aload_n 0, 1) := by decide +kernel
theorem dX12_begunAgain_1 : decode cX12_begunAgain 1 = .ok (.getfield 119, 3) := by decide +kernel
theorem dX12_begunAgain_4 : decode cX12_begunAgain 4 = .ok (.iload_n 1, 1) := by decide +kernel
theorem dX12_begunAgain_5 : decode cX12_begunAgain 5 = .ok (.iconst 0, 1) := by decide +kernel
theorem dX12_begunAgain_6 : decode cX12_begunAgain 6 = .ok (.iadd, 1) := by decide +kernel
theorem dX12_begunAgain_7 : decode cX12_begunAgain 7 = .ok (.iconst 0, 1) := by decide +kernel
theorem dX12_begunAgain_8 : decode cX12_begunAgain 8 = .ok (.iastore, 1) := by decide +kernel
theorem dX12_begunAgain_9 : decode cX12_begunAgain 9 = .ok (.aload_n 0, 1) := by decide +kernel
theorem dX12_begunAgain_10 : decode cX12_begunAgain 10 = .ok (.getfield 119, 3) := by decide +kernel
theorem dX12_begunAgain_13 : decode cX12_begunAgain 13 = .ok (.iload_n 1, 1) := by decide +kernel
theorem dX12_begunAgain_14 : decode cX12_begunAgain 14 = .ok (.iconst 1, 1) := by decide +kernel
theorem dX12_begunAgain_15 : decode cX12_begunAgain 15 = .ok (.iadd, 1) := by decide +kernel
theorem dX12_begunAgain_16 : decode cX12_begunAgain 16 = .ok (.dup2, 1) := by decide +kernel
theorem dX12_begunAgain_17 : decode cX12_begunAgain 17 = .ok (.iaload, 1) := by decide +kernel
theorem dX12_begunAgain_18 : decode cX12_begunAgain 18 = .ok (.iconst 1, 1) := by decide +kernel
theorem dX12_begunAgain_19 : decode cX12_begunAgain 19 = .ok (.iadd, 1) := by decide +kernel
theorem dX12_begunAgain_20 : decode cX12_begunAgain 20 = .ok (.iastore, 1) := by decide +kernel
theorem dX12_begunAgain_21 : decode cX12_begunAgain 21 = .ok (.return_, 1) := by decide +kernel
theorem dX12_again_0 : decode cX12_again 0 = .ok (.aload_n 0, 1) := by decide +kernel
theorem dX12_again_1 : decode cX12_again 1 = .ok (.iconst 0, 1) := by decide +kernel
theorem dX12_again_2 : decode cX12_again 2 = .ok (.putfield 1, 3) := by decide +kernel
theorem dX12_again_5 : decode cX12_again 5 = .ok (.aload_n 0, 1) := by decide +kernel
theorem dX12_again_6 : decode cX12_again 6 = .ok (.getfield 119, 3) := by decide +kernel
theorem dX12_again_9 : decode cX12_again 9 = .ok (.iconst 0, 1) := by decide +kernel
theorem dX12_again_10 : decode cX12_again 10 = .ok (.iaload, 1) := by decide +kernel
theorem dX12_again_11 : decode cX12_again 11 = .ok (.aload_n 0, 1) := by decide +kernel
theorem dX12_again_12 : decode cX12_again 12 = .ok (.invokevirtual 285, 3) := by decide +kernel
theorem dX12_again_15 : decode cX12_again 15 = .ok (.if_icmp .ge 5, 3) := by decide +kernel
theorem dX12_again_18 : decode cX12_again 18 = .ok (.iconst (-1), 1) := by decide +kernel
theorem dX12_again_19 : decode cX12_again 19 = .ok (.ireturn, 1) := by decide +kernel
theorem dX12_again_20 : decode cX12_again 20 = .ok (.aload_n 0, 1) := by decide +kernel
theorem dX12_again_21 : decode cX12_again 21 = .ok (.invokevirtual 350, 3) := by decide +kernel
theorem dX12_again_24 : decode cX12_again 24 = .ok (.aload_n 0, 1) := by decide +kernel
theorem dX12_again_25 : decode cX12_again 25 = .ok (.iconst 0, 1) := by decide +kernel
theorem dX12_again_26 : decode cX12_again 26 = .ok (.invokevirtual 363, 3) := by decide +kernel
theorem dX12_again_29 : decode cX12_again 29 = .ok (.aload_n 0, 1) := by decide +kernel
theorem dX12_again_30 : decode cX12_again 30 = .ok (.getfield 119, 3) := by decide +kernel
theorem dX12_again_33 : decode cX12_again 33 = .ok (.iconst 1, 1) := by decide +kernel
theorem dX12_again_34 : decode cX12_again 34 = .ok (.iaload, 1) := by decide +kernel
theorem dX12_again_35 : decode cX12_again 35 = .ok (.ireturn, 1) := by decide +kernel
theorem dX12_undo_0 : decode cX12_undo 0 = .ok (.aload_n 0, 1) := by decide +kernel
theorem dX12_undo_1 : decode cX12_undo 1 = .ok (.iconst 0, 1) := by decide +kernel
theorem dX12_undo_2 : decode cX12_undo 2 = .ok (.putfield 1, 3) := by decide +kernel
theorem dX12_undo_5 : decode cX12_undo 5 = .ok (.aload_n 0, 1) := by decide +kernel
theorem dX12_undo_6 : decode cX12_undo 6 = .ok (.getfield 291, 3) := by decide +kernel
theorem dX12_undo_9 : decode cX12_undo 9 = .ok (.ifCond .ne 5, 3) := by decide +kernel
theorem dX12_undo_12 : decode cX12_undo 12 = .ok (.iconst 0, 1) := by decide +kernel
theorem dX12_undo_13 : decode cX12_undo 13 = .ok (.ireturn, 1) := by decide +kernel
theorem dX12_undo_14 : decode cX12_undo 14 = .ok (.aload_n 0, 1) := by decide +kernel
theorem dX12_undo_15 : decode cX12_undo 15 = .ok (.dup, 1) := by decide +kernel
theorem dX12_undo_16 : decode cX12_undo 16 = .ok (.getfield 291, 3) := by decide +kernel
theorem dX12_undo_19 : decode cX12_undo 19 = .ok (.iconst 1, 1) := by decide +kernel
theorem dX12_undo_20 : decode cX12_undo 20 = .ok (.isub, 1) := by decide +kernel
theorem dX12_undo_21 : decode cX12_undo 21 = .ok (.putfield 291, 3) := by decide +kernel
theorem dX12_undo_24 : decode cX12_undo 24 = .ok (.aload_n 0, 1) := by decide +kernel
theorem dX12_undo_25 : decode cX12_undo 25 = .ok (.bipush 98, 2) := by decide +kernel
theorem dX12_undo_27 : decode cX12_undo 27 = .ok (.iconst 5, 1) := by decide +kernel
theorem dX12_undo_28 : decode cX12_undo 28 = .ok (.aload_n 0, 1) := by decide +kernel
theorem dX12_undo_29 : decode cX12_undo 29 = .ok (.getfield 291, 3) := by decide +kernel
theorem dX12_undo_32 : decode cX12_undo 32 = .ok (.iadd, 1) := by decide +kernel
theorem dX12_undo_33 : decode cX12_undo 33 = .ok (.imul, 1) := by decide +kernel
theorem dX12_undo_34 : decode cX12_undo 34 = .ok (.iconst 0, 1) := by decide +kernel
theorem dX12_undo_35 : decode cX12_undo 35 = .ok (.bipush 62, 2) := by decide +kernel
theorem dX12_undo_37 : decode cX12_undo 37 = .ok (.invokevirtual 294, 3) := by decide +kernel
theorem dX12_undo_40 : decode cX12_undo 40 = .ok (.iconst 1, 1) := by decide +kernel
theorem dX12_undo_41 : decode cX12_undo 41 = .ok (.ireturn, 1) := by decide +kernel
theorem dX12_may_0 : decode cX12_may 0 = .ok (.iload_n 1, 1) := by decide +kernel
theorem dX12_may_1 : decode cX12_may 1 = .ok (.ifCond .eq 8, 3) := by decide +kernel
theorem dX12_may_4 : decode cX12_may 4 = .ok (.iload_n 1, 1) := by decide +kernel
theorem dX12_may_5 : decode cX12_may 5 = .ok (.iconst 4, 1) := by decide +kernel
theorem dX12_may_6 : decode cX12_may 6 = .ok (.if_icmp .ne 41, 3) := by decide +kernel
theorem dX12_may_9 : decode cX12_may 9 = .ok (.iload_n 1, 1) := by decide +kernel
theorem dX12_may_10 : decode cX12_may 10 = .ok (.ifCond .ne 7, 3) := by decide +kernel
theorem dX12_may_13 : decode cX12_may 13 = .ok (.iconst 1, 1) := by decide +kernel
theorem dX12_may_14 : decode cX12_may 14 = .ok (.goto 4, 3) := by decide +kernel
theorem dX12_may_17 : decode cX12_may 17 = .ok (.iconst 0, 1) := by decide +kernel
theorem dX12_may_18 : decode cX12_may 18 = .ok (.aload_n 0, 1) := by decide +kernel
theorem dX12_may_19 : decode cX12_may 19 = .ok (.getfield 119, 3) := by decide +kernel
theorem dX12_may_22 : decode cX12_may 22 = .ok (.sipush 2058, 3) := by decide +kernel
theorem dX12_may_25 : decode cX12_may 25 = .ok (.iaload, 1) := by decide +kernel
theorem dX12_may_26 : decode cX12_may 26 = .ok (.aload_n 0, 1) := by decide +kernel
theorem dX12_may_27 : decode cX12_may 27 = .ok (.invokevirtual 285, 3) := by decide +kernel
theorem dX12_may_30 : decode cX12_may 30 = .ok (.if_icmp .ge 7, 3) := by decide +kernel
theorem dX12_may_33 : decode cX12_may 33 = .ok (.iconst 1, 1) := by decide +kernel
theorem dX12_may_34 : decode cX12_may 34 = .ok (.goto 4, 3) := by decide +kernel
theorem dX12_may_37 : decode cX12_may 37 = .ok (.iconst 0, 1) := by decide +kernel
theorem dX12_may_38 : decode cX12_may 38 = .ok (.if_icmp .ne 7, 3) := by decide +kernel
theorem dX12_may_41 : decode cX12_may 41 = .ok (.iconst 1, 1) := by decide +kernel
theorem dX12_may_42 : decode cX12_may 42 = .ok (.goto 4, 3) := by decide +kernel
theorem dX12_may_45 : decode cX12_may 45 = .ok (.iconst 0, 1) := by decide +kernel
theorem dX12_may_46 : decode cX12_may 46 = .ok (.ireturn, 1) := by decide +kernel
theorem dX12_may_47 : decode cX12_may 47 = .ok (.iload_n 1, 1) := by decide +kernel
theorem dX12_may_48 : decode cX12_may 48 = .ok (.iconst 3, 1) := by decide +kernel
theorem dX12_may_49 : decode cX12_may 49 = .ok (.if_icmp .ne 33, 3) := by decide +kernel
theorem dX12_may_52 : decode cX12_may 52 = .ok (.aload_n 0, 1) := by decide +kernel
theorem dX12_may_53 : decode cX12_may 53 = .ok (.sipush 2058, 3) := by decide +kernel
theorem dX12_may_56 : decode cX12_may 56 = .ok (.iload_n 2, 1) := by decide +kernel
theorem dX12_may_57 : decode cX12_may 57 = .ok (.invokevirtual 319, 3) := by decide +kernel
theorem dX12_may_60 : decode cX12_may 60 = .ok (.ifCond .eq 18, 3) := by decide +kernel
theorem dX12_may_63 : decode cX12_may 63 = .ok (.aload_n 0, 1) := by decide +kernel
theorem dX12_may_64 : decode cX12_may 64 = .ok (.sipush 2058, 3) := by decide +kernel
theorem dX12_may_67 : decode cX12_may 67 = .ok (.iload_n 3, 1) := by decide +kernel
theorem dX12_may_68 : decode cX12_may 68 = .ok (.invokevirtual 319, 3) := by decide +kernel
theorem dX12_may_71 : decode cX12_may 71 = .ok (.ifCond .eq 7, 3) := by decide +kernel
theorem dX12_may_74 : decode cX12_may 74 = .ok (.iconst 1, 1) := by decide +kernel
theorem dX12_may_75 : decode cX12_may 75 = .ok (.goto 39, 3) := by decide +kernel
theorem dX12_may_78 : decode cX12_may 78 = .ok (.iconst 0, 1) := by decide +kernel
theorem dX12_may_79 : decode cX12_may 79 = .ok (.goto 35, 3) := by decide +kernel
theorem dX12_may_82 : decode cX12_may 82 = .ok (.aload_n 0, 1) := by decide +kernel
theorem dX12_may_83 : decode cX12_may 83 = .ok (.sipush 2058, 3) := by decide +kernel
theorem dX12_may_86 : decode cX12_may 86 = .ok (.iload_n 2, 1) := by decide +kernel
theorem dX12_may_87 : decode cX12_may 87 = .ok (.invokevirtual 353, 3) := by decide +kernel
theorem dX12_may_90 : decode cX12_may 90 = .ok (.ifCond .eq 23, 3) := by decide +kernel
theorem dX12_may_93 : decode cX12_may 93 = .ok (.iload_n 1, 1) := by decide +kernel
theorem dX12_may_94 : decode cX12_may 94 = .ok (.iconst 1, 1) := by decide +kernel
theorem dX12_may_95 : decode cX12_may 95 = .ok (.if_icmp .eq 14, 3) := by decide +kernel
theorem dX12_may_98 : decode cX12_may 98 = .ok (.aload_n 0, 1) := by decide +kernel
theorem dX12_may_99 : decode cX12_may 99 = .ok (.sipush 2058, 3) := by decide +kernel
theorem dX12_may_102 : decode cX12_may 102 = .ok (.iload_n 2, 1) := by decide +kernel
theorem dX12_may_103 : decode cX12_may 103 = .ok (.invokevirtual 300, 3) := by decide +kernel
theorem dX12_may_106 : decode cX12_may 106 = .ok (.ifCond .ne 7, 3) := by decide +kernel
theorem dX12_may_109 : decode cX12_may 109 = .ok (.iconst 1, 1) := by decide +kernel
theorem dX12_may_110 : decode cX12_may 110 = .ok (.goto 4, 3) := by decide +kernel
theorem dX12_may_113 : decode cX12_may 113 = .ok (.iconst 0, 1) := by decide +kernel
theorem dX12_may_114 : decode cX12_may 114 = .ok (.ireturn, 1) := by decide +kernel
theorem dX12_bits_0 : decode cX12_bits 0 = .ok (.iconst 0, 1) := by decide +kernel
theorem dX12_bits_1 : decode cX12_bits 1 = .ok (.istore_n 1, 1) := by decide +kernel
theorem dX12_bits_2 : decode cX12_bits 2 = .ok (.iconst 0, 1) := by decide +kernel
theorem dX12_bits_3 : decode cX12_bits 3 = .ok (.istore_n 2, 1) := by decide +kernel
theorem dX12_bits_4 : decode cX12_bits 4 = .ok (.iload_n 2, 1) := by decide +kernel
theorem dX12_bits_5 : decode cX12_bits 5 = .ok (.bipush 30, 2) := by decide +kernel
theorem dX12_bits_7 : decode cX12_bits 7 = .ok (.if_icmp .ge 17, 3) := by decide +kernel
theorem dX12_bits_10 : decode cX12_bits 10 = .ok (.iload_n 1, 1) := by decide +kernel
theorem dX12_bits_11 : decode cX12_bits 11 = .ok (.iload_n 0, 1) := by decide +kernel
theorem dX12_bits_12 : decode cX12_bits 12 = .ok (.iload_n 2, 1) := by decide +kernel
theorem dX12_bits_13 : decode cX12_bits 13 = .ok (.ishr, 1) := by decide +kernel
theorem dX12_bits_14 : decode cX12_bits 14 = .ok (.iconst 1, 1) := by decide +kernel
theorem dX12_bits_15 : decode cX12_bits 15 = .ok (.iand, 1) := by decide +kernel
theorem dX12_bits_16 : decode cX12_bits 16 = .ok (.iadd, 1) := by decide +kernel
theorem dX12_bits_17 : decode cX12_bits 17 = .ok (.istore_n 1, 1) := by decide +kernel
theorem dX12_bits_18 : decode cX12_bits 18 = .ok (.iinc 2 1, 3) := by decide +kernel
theorem dX12_bits_21 : decode cX12_bits 21 = .ok (.goto (-17), 3) := by decide +kernel
theorem dX12_bits_24 : decode cX12_bits 24 = .ok (.iload_n 1, 1) := by decide +kernel
theorem dX12_bits_25 : decode cX12_bits 25 = .ok (.ireturn, 1) := by decide +kernel
theorem dX12_judged_0 : decode cX12_judged 0 = .ok (.aload_n 0, 1) := by decide +kernel
theorem dX12_judged_1 : decode cX12_judged 1 = .ok (.iconst 0, 1) := by decide +kernel
theorem dX12_judged_2 : decode cX12_judged 2 = .ok (.putfield 1, 3) := by decide +kernel
theorem dX12_judged_5 : decode cX12_judged 5 = .ok (.iload_n 1, 1) := by decide +kernel
theorem dX12_judged_6 : decode cX12_judged 6 = .ok (.iconst 0, 1) := by decide +kernel
theorem dX12_judged_7 : decode cX12_judged 7 = .ok (.iconst 2, 1) := by decide +kernel
theorem dX12_judged_8 : decode cX12_judged 8 = .ok (.invokestatic 207, 3) := by decide +kernel
theorem dX12_judged_11 : decode cX12_judged 11 = .ok (.ifCond .ne 6, 3) := by decide +kernel
theorem dX12_judged_14 : decode cX12_judged 14 = .ok (.bipush (-2), 2) := by decide +kernel
theorem dX12_judged_16 : decode cX12_judged 16 = .ok (.ireturn, 1) := by decide +kernel
theorem dX12_judged_17 : decode cX12_judged 17 = .ok (.aload_n 0, 1) := by decide +kernel
theorem dX12_judged_18 : decode cX12_judged 18 = .ok (.sipush 2058, 3) := by decide +kernel
theorem dX12_judged_21 : decode cX12_judged 21 = .ok (.invokevirtual 288, 3) := by decide +kernel
theorem dX12_judged_24 : decode cX12_judged 24 = .ok (.iconst (-1), 1) := by decide +kernel
theorem dX12_judged_25 : decode cX12_judged 25 = .ok (.istore_n 2, 1) := by decide +kernel
theorem dX12_judged_26 : decode cX12_judged 26 = .ok (.iconst (-1), 1) := by decide +kernel
theorem dX12_judged_27 : decode cX12_judged 27 = .ok (.istore_n 3, 1) := by decide +kernel
theorem dX12_judged_28 : decode cX12_judged 28 = .ok (.iconst 0, 1) := by decide +kernel
theorem dX12_judged_29 : decode cX12_judged 29 = .ok (.istore 4, 2) := by decide +kernel
theorem dX12_judged_31 : decode cX12_judged 31 = .ok (.iload 4, 2) := by decide +kernel
theorem dX12_judged_33 : decode cX12_judged 33 = .ok (.aload_n 0, 1) := by decide +kernel
theorem dX12_judged_34 : decode cX12_judged 34 = .ok (.getfield 110, 3) := by decide +kernel
theorem dX12_judged_37 : decode cX12_judged 37 = .ok (.iconst 0, 1) := by decide +kernel
theorem dX12_judged_38 : decode cX12_judged 38 = .ok (.iaload, 1) := by decide +kernel
theorem dX12_judged_39 : decode cX12_judged 39 = .ok (.if_icmp .ge 213, 3) := by decide +kernel
theorem dX12_judged_42 : decode cX12_judged 42 = .ok (.aload_n 0, 1) := by decide +kernel
theorem dX12_judged_43 : decode cX12_judged 43 = .ok (.getfield 110, 3) := by decide +kernel
theorem dX12_judged_46 : decode cX12_judged 46 = .ok (.iconst 1, 1) := by decide +kernel
theorem dX12_judged_47 : decode cX12_judged 47 = .ok (.iconst 4, 1) := by decide +kernel
theorem dX12_judged_48 : decode cX12_judged 48 = .ok (.iload 4, 2) := by decide +kernel
theorem dX12_judged_50 : decode cX12_judged 50 = .ok (.imul, 1) := by decide +kernel
theorem dX12_judged_51 : decode cX12_judged 51 = .ok (.iadd, 1) := by decide +kernel
theorem dX12_judged_52 : decode cX12_judged 52 = .ok (.iaload, 1) := by decide +kernel
theorem dX12_judged_53 : decode cX12_judged 53 = .ok (.istore 5, 2) := by decide +kernel
theorem dX12_judged_55 : decode cX12_judged 55 = .ok (.aload_n 0, 1) := by decide +kernel
theorem dX12_judged_56 : decode cX12_judged 56 = .ok (.getfield 110, 3) := by decide +kernel
theorem dX12_judged_59 : decode cX12_judged 59 = .ok (.iconst 2, 1) := by decide +kernel
theorem dX12_judged_60 : decode cX12_judged 60 = .ok (.iconst 4, 1) := by decide +kernel
theorem dX12_judged_61 : decode cX12_judged 61 = .ok (.iload 4, 2) := by decide +kernel
theorem dX12_judged_63 : decode cX12_judged 63 = .ok (.imul, 1) := by decide +kernel
theorem dX12_judged_64 : decode cX12_judged 64 = .ok (.iadd, 1) := by decide +kernel
theorem dX12_judged_65 : decode cX12_judged 65 = .ok (.iaload, 1) := by decide +kernel
theorem dX12_judged_66 : decode cX12_judged 66 = .ok (.istore 6, 2) := by decide +kernel
theorem dX12_judged_68 : decode cX12_judged 68 = .ok (.aload_n 0, 1) := by decide +kernel
theorem dX12_judged_69 : decode cX12_judged 69 = .ok (.getfield 110, 3) := by decide +kernel
theorem dX12_judged_72 : decode cX12_judged 72 = .ok (.iconst 3, 1) := by decide +kernel
theorem dX12_judged_73 : decode cX12_judged 73 = .ok (.iconst 4, 1) := by decide +kernel
theorem dX12_judged_74 : decode cX12_judged 74 = .ok (.iload 4, 2) := by decide +kernel
theorem dX12_judged_76 : decode cX12_judged 76 = .ok (.imul, 1) := by decide +kernel
theorem dX12_judged_77 : decode cX12_judged 77 = .ok (.iadd, 1) := by decide +kernel
theorem dX12_judged_78 : decode cX12_judged 78 = .ok (.iaload, 1) := by decide +kernel
theorem dX12_judged_79 : decode cX12_judged 79 = .ok (.istore 7, 2) := by decide +kernel
theorem dX12_judged_81 : decode cX12_judged 81 = .ok (.aload_n 0, 1) := by decide +kernel
theorem dX12_judged_82 : decode cX12_judged 82 = .ok (.iload 5, 2) := by decide +kernel
theorem dX12_judged_84 : decode cX12_judged 84 = .ok (.iload 6, 2) := by decide +kernel
theorem dX12_judged_86 : decode cX12_judged 86 = .ok (.iload 7, 2) := by decide +kernel
theorem dX12_judged_88 : decode cX12_judged 88 = .ok (.invokevirtual 366, 3) := by decide +kernel
theorem dX12_judged_91 : decode cX12_judged 91 = .ok (.istore 8, 2) := by decide +kernel
theorem dX12_judged_93 : decode cX12_judged 93 = .ok (.iload 8, 2) := by decide +kernel
theorem dX12_judged_95 : decode cX12_judged 95 = .ok (.ifCond .ne 12, 3) := by decide +kernel
theorem dX12_judged_98 : decode cX12_judged 98 = .ok (.iload_n 2, 1) := by decide +kernel
theorem dX12_judged_99 : decode cX12_judged 99 = .ok (.ifCond .ge 8, 3) := by decide +kernel
theorem dX12_judged_102 : decode cX12_judged 102 = .ok (.iload 4, 2) := by decide +kernel
theorem dX12_judged_104 : decode cX12_judged 104 = .ok (.goto 4, 3) := by decide +kernel
theorem dX12_judged_107 : decode cX12_judged 107 = .ok (.iload_n 2, 1) := by decide +kernel
theorem dX12_judged_108 : decode cX12_judged 108 = .ok (.istore_n 2, 1) := by decide +kernel
theorem dX12_judged_109 : decode cX12_judged 109 = .ok (.iload 8, 2) := by decide +kernel
theorem dX12_judged_111 : decode cX12_judged 111 = .ok (.ifCond .eq 32, 3) := by decide +kernel
theorem dX12_judged_114 : decode cX12_judged 114 = .ok (.iload 5, 2) := by decide +kernel
theorem dX12_judged_116 : decode cX12_judged 116 = .ok (.ifCond .ne 27, 3) := by decide +kernel
theorem dX12_judged_119 : decode cX12_judged 119 = .ok (.aload_n 0, 1) := by decide +kernel
theorem dX12_judged_120 : decode cX12_judged 120 = .ok (.sipush 2058, 3) := by decide +kernel
theorem dX12_judged_123 : decode cX12_judged 123 = .ok (.invokevirtual 338, 3) := by decide +kernel
theorem dX12_judged_126 : decode cX12_judged 126 = .ok (.ifCond .eq 12, 3) := by decide +kernel
theorem dX12_judged_129 : decode cX12_judged 129 = .ok (.iload_n 3, 1) := by decide +kernel
theorem dX12_judged_130 : decode cX12_judged 130 = .ok (.ifCond .ge 8, 3) := by decide +kernel
theorem dX12_judged_133 : decode cX12_judged 133 = .ok (.iload 4, 2) := by decide +kernel
theorem dX12_judged_135 : decode cX12_judged 135 = .ok (.goto 4, 3) := by decide +kernel
theorem dX12_judged_138 : decode cX12_judged 138 = .ok (.iload_n 3, 1) := by decide +kernel
theorem dX12_judged_139 : decode cX12_judged 139 = .ok (.istore_n 3, 1) := by decide +kernel
theorem dX12_judged_140 : decode cX12_judged 140 = .ok (.goto 106, 3) := by decide +kernel
theorem dX12_judged_143 : decode cX12_judged 143 = .ok (.iload 8, 2) := by decide +kernel
theorem dX12_judged_145 : decode cX12_judged 145 = .ok (.ifCond .eq 34, 3) := by decide +kernel
theorem dX12_judged_148 : decode cX12_judged 148 = .ok (.iload 5, 2) := by decide +kernel
theorem dX12_judged_150 : decode cX12_judged 150 = .ok (.iconst 1, 1) := by decide +kernel
theorem dX12_judged_151 : decode cX12_judged 151 = .ok (.if_icmp .ne 28, 3) := by decide +kernel
theorem dX12_judged_154 : decode cX12_judged 154 = .ok (.aload_n 0, 1) := by decide +kernel
theorem dX12_judged_155 : decode cX12_judged 155 = .ok (.sipush 2058, 3) := by decide +kernel
theorem dX12_judged_158 : decode cX12_judged 158 = .ok (.iload 6, 2) := by decide +kernel
theorem dX12_judged_160 : decode cX12_judged 160 = .ok (.iload 7, 2) := by decide +kernel
theorem dX12_judged_162 : decode cX12_judged 162 = .ok (.aload_n 0, 1) := by decide +kernel
theorem dX12_judged_163 : decode cX12_judged 163 = .ok (.getfield 110, 3) := by decide +kernel
theorem dX12_judged_166 : decode cX12_judged 166 = .ok (.iconst 4, 1) := by decide +kernel
theorem dX12_judged_167 : decode cX12_judged 167 = .ok (.iconst 4, 1) := by decide +kernel
theorem dX12_judged_168 : decode cX12_judged 168 = .ok (.iload 4, 2) := by decide +kernel
theorem dX12_judged_170 : decode cX12_judged 170 = .ok (.imul, 1) := by decide +kernel
theorem dX12_judged_171 : decode cX12_judged 171 = .ok (.iadd, 1) := by decide +kernel
theorem dX12_judged_172 : decode cX12_judged 172 = .ok (.iaload, 1) := by decide +kernel
theorem dX12_judged_173 : decode cX12_judged 173 = .ok (.invokevirtual 356, 3) := by decide +kernel
theorem dX12_judged_176 : decode cX12_judged 176 = .ok (.goto 70, 3) := by decide +kernel
theorem dX12_judged_179 : decode cX12_judged 179 = .ok (.iload 8, 2) := by decide +kernel
theorem dX12_judged_181 : decode cX12_judged 181 = .ok (.ifCond .eq 27, 3) := by decide +kernel
theorem dX12_judged_184 : decode cX12_judged 184 = .ok (.iload 5, 2) := by decide +kernel
theorem dX12_judged_186 : decode cX12_judged 186 = .ok (.iconst 2, 1) := by decide +kernel
theorem dX12_judged_187 : decode cX12_judged 187 = .ok (.if_icmp .ne 21, 3) := by decide +kernel
theorem dX12_judged_190 : decode cX12_judged 190 = .ok (.aload_n 0, 1) := by decide +kernel
theorem dX12_judged_191 : decode cX12_judged 191 = .ok (.getfield 119, 3) := by decide +kernel
theorem dX12_judged_194 : decode cX12_judged 194 = .ok (.sipush 2061, 3) := by decide +kernel
theorem dX12_judged_197 : decode cX12_judged 197 = .ok (.dup2, 1) := by decide +kernel
theorem dX12_judged_198 : decode cX12_judged 198 = .ok (.iaload, 1) := by decide +kernel
theorem dX12_judged_199 : decode cX12_judged 199 = .ok (.iconst 1, 1) := by decide +kernel
theorem dX12_judged_200 : decode cX12_judged 200 = .ok (.iload 6, 2) := by decide +kernel
theorem dX12_judged_202 : decode cX12_judged 202 = .ok (.ishl, 1) := by decide +kernel
theorem dX12_judged_203 : decode cX12_judged 203 = .ok (.ior, 1) := by decide +kernel
theorem dX12_judged_204 : decode cX12_judged 204 = .ok (.iastore, 1) := by decide +kernel
theorem dX12_judged_205 : decode cX12_judged 205 = .ok (.goto 41, 3) := by decide +kernel
theorem dX12_judged_208 : decode cX12_judged 208 = .ok (.iload 8, 2) := by decide +kernel
theorem dX12_judged_210 : decode cX12_judged 210 = .ok (.ifCond .eq 24, 3) := by decide +kernel
theorem dX12_judged_213 : decode cX12_judged 213 = .ok (.iload 5, 2) := by decide +kernel
theorem dX12_judged_215 : decode cX12_judged 215 = .ok (.iconst 3, 1) := by decide +kernel
theorem dX12_judged_216 : decode cX12_judged 216 = .ok (.if_icmp .ne 18, 3) := by decide +kernel
theorem dX12_judged_219 : decode cX12_judged 219 = .ok (.aload_n 0, 1) := by decide +kernel
theorem dX12_judged_220 : decode cX12_judged 220 = .ok (.sipush 2058, 3) := by decide +kernel
theorem dX12_judged_223 : decode cX12_judged 223 = .ok (.iload 6, 2) := by decide +kernel
theorem dX12_judged_225 : decode cX12_judged 225 = .ok (.iload 7, 2) := by decide +kernel
theorem dX12_judged_227 : decode cX12_judged 227 = .ok (.invokevirtual 360, 3) := by decide +kernel
theorem dX12_judged_230 : decode cX12_judged 230 = .ok (.pop, 1) := by decide +kernel
theorem dX12_judged_231 : decode cX12_judged 231 = .ok (.goto 15, 3) := by decide +kernel
theorem dX12_judged_234 : decode cX12_judged 234 = .ok (.iload 8, 2) := by decide +kernel
theorem dX12_judged_236 : decode cX12_judged 236 = .ok (.ifCond .eq 10, 3) := by decide +kernel
theorem dX12_judged_239 : decode cX12_judged 239 = .ok (.aload_n 0, 1) := by decide +kernel
theorem dX12_judged_240 : decode cX12_judged 240 = .ok (.sipush 2058, 3) := by decide +kernel
theorem dX12_judged_243 : decode cX12_judged 243 = .ok (.invokevirtual 363, 3) := by decide +kernel
theorem dX12_judged_246 : decode cX12_judged 246 = .ok (.iinc 4 1, 3) := by decide +kernel
theorem dX12_judged_249 : decode cX12_judged 249 = .ok (.goto (-218), 3) := by decide +kernel
theorem dX12_judged_252 : decode cX12_judged 252 = .ok (.iload_n 1, 1) := by decide +kernel
theorem dX12_judged_253 : decode cX12_judged 253 = .ok (.ifCond .ne 7, 3) := by decide +kernel
theorem dX12_judged_256 : decode cX12_judged 256 = .ok (.iload_n 2, 1) := by decide +kernel
theorem dX12_judged_257 : decode cX12_judged 257 = .ok (.goto 23, 3) := by decide +kernel
theorem dX12_judged_260 : decode cX12_judged 260 = .ok (.iload_n 1, 1) := by decide +kernel
theorem dX12_judged_261 : decode cX12_judged 261 = .ok (.iconst 1, 1) := by decide +kernel
theorem dX12_judged_262 : decode cX12_judged 262 = .ok (.if_icmp .ne 7, 3) := by decide +kernel
theorem dX12_judged_265 : decode cX12_judged 265 = .ok (.iload_n 3, 1) := by decide +kernel
theorem dX12_judged_266 : decode cX12_judged 266 = .ok (.goto 14, 3) := by decide +kernel
theorem dX12_judged_269 : decode cX12_judged 269 = .ok (.aload_n 0, 1) := by decide +kernel
theorem dX12_judged_270 : decode cX12_judged 270 = .ok (.getfield 119, 3) := by decide +kernel
theorem dX12_judged_273 : decode cX12_judged 273 = .ok (.sipush 2060, 3) := by decide +kernel
theorem dX12_judged_276 : decode cX12_judged 276 = .ok (.iaload, 1) := by decide +kernel
theorem dX12_judged_277 : decode cX12_judged 277 = .ok (.invokestatic 369, 3) := by decide +kernel
theorem dX12_judged_280 : decode cX12_judged 280 = .ok (.ireturn, 1) := by decide +kernel
theorem dX12_end_0 : decode cX12_end 0 = .ok (.aload_n 0, 1) := by decide +kernel
theorem dX12_end_1 : decode cX12_end 1 = .ok (.iconst 0, 1) := by decide +kernel
theorem dX12_end_2 : decode cX12_end 2 = .ok (.putfield 1, 3) := by decide +kernel
theorem dX12_end_5 : decode cX12_end 5 = .ok (.aload_n 0, 1) := by decide +kernel
theorem dX12_end_6 : decode cX12_end 6 = .ok (.iload_n 1, 1) := by decide +kernel
theorem dX12_end_7 : decode cX12_end 7 = .ok (.invokevirtual 344, 3) := by decide +kernel
theorem dX12_end_10 : decode cX12_end 10 = .ok (.ifCond .eq 11, 3) := by decide +kernel
theorem dX12_end_13 : decode cX12_end 13 = .ok (.aload_n 0, 1) := by decide +kernel
theorem dX12_end_14 : decode cX12_end 14 = .ok (.iload_n 2, 1) := by decide +kernel
theorem dX12_end_15 : decode cX12_end 15 = .ok (.invokevirtual 347, 3) := by decide +kernel
theorem dX12_end_18 : decode cX12_end 18 = .ok (.ifCond .ne 6, 3) := by decide +kernel
theorem dX12_end_21 : decode cX12_end 21 = .ok (.bipush (-2), 2) := by decide +kernel
theorem dX12_end_23 : decode cX12_end 23 = .ok (.ireturn, 1) := by decide +kernel
theorem dX12_end_24 : decode cX12_end 24 = .ok (.aload_n 0, 1) := by decide +kernel
theorem dX12_end_25 : decode cX12_end 25 = .ok (.iconst 0, 1) := by decide +kernel
theorem dX12_end_26 : decode cX12_end 26 = .ok (.sipush 2058, 3) := by decide +kernel
theorem dX12_end_29 : decode cX12_end 29 = .ok (.bipush 62, 2) := by decide +kernel
theorem dX12_end_31 : decode cX12_end 31 = .ok (.invokevirtual 294, 3) := by decide +kernel
theorem dX12_end_34 : decode cX12_end 34 = .ok (.aload_n 0, 1) := by decide +kernel
theorem dX12_end_35 : decode cX12_end 35 = .ok (.sipush 2058, 3) := by decide +kernel
theorem dX12_end_38 : decode cX12_end 38 = .ok (.invokevirtual 372, 3) := by decide +kernel
theorem dX12_end_41 : decode cX12_end 41 = .ok (.aload_n 0, 1) := by decide +kernel
theorem dX12_end_42 : decode cX12_end 42 = .ok (.sipush 2058, 3) := by decide +kernel
theorem dX12_end_45 : decode cX12_end 45 = .ok (.iload_n 1, 1) := by decide +kernel
theorem dX12_end_46 : decode cX12_end 46 = .ok (.iload_n 2, 1) := by decide +kernel
theorem dX12_end_47 : decode cX12_end 47 = .ok (.invokevirtual 325, 3) := by decide +kernel
theorem dX12_end_50 : decode cX12_end 50 = .ok (.ireturn, 1) := by decide +kernel
theorem dX12_first_0 : decode cX12_first 0 = .ok (.aload_n 0, 1) := by decide +kernel
theorem dX12_first_1 : decode cX12_first 1 = .ok (.iconst 0, 1) := by decide +kernel
theorem dX12_first_2 : decode cX12_first 2 = .ok (.putfield 1, 3) := by decide +kernel
theorem dX12_first_5 : decode cX12_first 5 = .ok (.iload_n 1, 1) := by decide +kernel
theorem dX12_first_6 : decode cX12_first 6 = .ok (.iconst 0, 1) := by decide +kernel
theorem dX12_first_7 : decode cX12_first 7 = .ok (.iconst 1, 1) := by decide +kernel
theorem dX12_first_8 : decode cX12_first 8 = .ok (.invokestatic 207, 3) := by decide +kernel
theorem dX12_first_11 : decode cX12_first 11 = .ok (.ifCond .ne 5, 3) := by decide +kernel
theorem dX12_first_14 : decode cX12_first 14 = .ok (.iconst (-1), 1) := by decide +kernel
theorem dX12_first_15 : decode cX12_first 15 = .ok (.ireturn, 1) := by decide +kernel
theorem dX12_first_16 : decode cX12_first 16 = .ok (.aload_n 0, 1) := by decide +kernel
theorem dX12_first_17 : decode cX12_first 17 = .ok (.iconst 0, 1) := by decide +kernel
theorem dX12_first_18 : decode cX12_first 18 = .ok (.sipush 2058, 3) := by decide +kernel
theorem dX12_first_21 : decode cX12_first 21 = .ok (.bipush 62, 2) := by decide +kernel
theorem dX12_first_23 : decode cX12_first 23 = .ok (.invokevirtual 294, 3) := by decide +kernel
theorem dX12_first_26 : decode cX12_first 26 = .ok (.aload_n 0, 1) := by decide +kernel
theorem dX12_first_27 : decode cX12_first 27 = .ok (.getfield 119, 3) := by decide +kernel
theorem dX12_first_30 : decode cX12_first 30 = .ok (.sipush 2058, 3) := by decide +kernel
theorem dX12_first_33 : decode cX12_first 33 = .ok (.iaload, 1) := by decide +kernel
theorem dX12_first_34 : decode cX12_first 34 = .ok (.aload_n 0, 1) := by decide +kernel
theorem dX12_first_35 : decode cX12_first 35 = .ok (.invokevirtual 285, 3) := by decide +kernel
theorem dX12_first_38 : decode cX12_first 38 = .ok (.if_icmp .ge 58, 3) := by decide +kernel
theorem dX12_first_41 : decode cX12_first 41 = .ok (.aload_n 0, 1) := by decide +kernel
theorem dX12_first_42 : decode cX12_first 42 = .ok (.sipush 2058, 3) := by decide +kernel
theorem dX12_first_45 : decode cX12_first 45 = .ok (.invokevirtual 338, 3) := by decide +kernel
theorem dX12_first_48 : decode cX12_first 48 = .ok (.istore_n 2, 1) := by decide +kernel
theorem dX12_first_49 : decode cX12_first 49 = .ok (.iconst 0, 1) := by decide +kernel
theorem dX12_first_50 : decode cX12_first 50 = .ok (.istore_n 3, 1) := by decide +kernel
theorem dX12_first_51 : decode cX12_first 51 = .ok (.iload_n 3, 1) := by decide +kernel
theorem dX12_first_52 : decode cX12_first 52 = .ok (.aload_n 0, 1) := by decide +kernel
theorem dX12_first_53 : decode cX12_first 53 = .ok (.invokevirtual 282, 3) := by decide +kernel
theorem dX12_first_56 : decode cX12_first 56 = .ok (.if_icmp .ge 37, 3) := by decide +kernel
theorem dX12_first_59 : decode cX12_first 59 = .ok (.iload_n 2, 1) := by decide +kernel
theorem dX12_first_60 : decode cX12_first 60 = .ok (.iload_n 3, 1) := by decide +kernel
theorem dX12_first_61 : decode cX12_first 61 = .ok (.ishr, 1) := by decide +kernel
theorem dX12_first_62 : decode cX12_first 62 = .ok (.iconst 1, 1) := by decide +kernel
theorem dX12_first_63 : decode cX12_first 63 = .ok (.iand, 1) := by decide +kernel
theorem dX12_first_64 : decode cX12_first 64 = .ok (.iconst 1, 1) := by decide +kernel
theorem dX12_first_65 : decode cX12_first 65 = .ok (.if_icmp .ne 22, 3) := by decide +kernel
theorem dX12_first_68 : decode cX12_first 68 = .ok (.iload_n 1, 1) := by decide +kernel
theorem dX12_first_69 : decode cX12_first 69 = .ok (.ifCond .ne 7, 3) := by decide +kernel
theorem dX12_first_72 : decode cX12_first 72 = .ok (.iload_n 3, 1) := by decide +kernel
theorem dX12_first_73 : decode cX12_first 73 = .ok (.goto 13, 3) := by decide +kernel
theorem dX12_first_76 : decode cX12_first 76 = .ok (.aload_n 0, 1) := by decide +kernel
theorem dX12_first_77 : decode cX12_first 77 = .ok (.getfield 119, 3) := by decide +kernel
theorem dX12_first_80 : decode cX12_first 80 = .ok (.sipush 2058, 3) := by decide +kernel
theorem dX12_first_83 : decode cX12_first 83 = .ok (.iaload, 1) := by decide +kernel
theorem dX12_first_84 : decode cX12_first 84 = .ok (.iconst 1, 1) := by decide +kernel
theorem dX12_first_85 : decode cX12_first 85 = .ok (.isub, 1) := by decide +kernel
theorem dX12_first_86 : decode cX12_first 86 = .ok (.ireturn, 1) := by decide +kernel
theorem dX12_first_87 : decode cX12_first 87 = .ok (.iinc 3 1, 3) := by decide +kernel
theorem dX12_first_90 : decode cX12_first 90 = .ok (.goto (-39), 3) := by decide +kernel
theorem dX12_first_93 : decode cX12_first 93 = .ok (.goto (-67), 3) := by decide +kernel
theorem dX12_first_96 : decode cX12_first 96 = .ok (.iconst (-1), 1) := by decide +kernel
theorem dX12_first_97 : decode cX12_first 97 = .ok (.ireturn, 1) := by decide +kernel
theorem dX12_wavers_0 : decode cX12_wavers 0 = .ok (.aload_n 0, 1) := by decide +kernel
theorem dX12_wavers_1 : decode cX12_wavers 1 = .ok (.iconst 0, 1) := by decide +kernel
theorem dX12_wavers_2 : decode cX12_wavers 2 = .ok (.putfield 1, 3) := by decide +kernel
theorem dX12_wavers_5 : decode cX12_wavers 5 = .ok (.aload_n 0, 1) := by decide +kernel
theorem dX12_wavers_6 : decode cX12_wavers 6 = .ok (.iload_n 1, 1) := by decide +kernel
theorem dX12_wavers_7 : decode cX12_wavers 7 = .ok (.invokevirtual 344, 3) := by decide +kernel
theorem dX12_wavers_10 : decode cX12_wavers 10 = .ok (.ifCond .ne 5, 3) := by decide +kernel
theorem dX12_wavers_13 : decode cX12_wavers 13 = .ok (.iconst (-1), 1) := by decide +kernel
theorem dX12_wavers_14 : decode cX12_wavers 14 = .ok (.ireturn, 1) := by decide +kernel
theorem dX12_wavers_15 : decode cX12_wavers 15 = .ok (.aload_n 0, 1) := by decide +kernel
theorem dX12_wavers_16 : decode cX12_wavers 16 = .ok (.iconst 0, 1) := by decide +kernel
theorem dX12_wavers_17 : decode cX12_wavers 17 = .ok (.sipush 2058, 3) := by decide +kernel
theorem dX12_wavers_20 : decode cX12_wavers 20 = .ok (.bipush 62, 2) := by decide +kernel
theorem dX12_wavers_22 : decode cX12_wavers 22 = .ok (.invokevirtual 294, 3) := by decide +kernel
theorem dX12_wavers_25 : decode cX12_wavers 25 = .ok (.aload_n 0, 1) := by decide +kernel
theorem dX12_wavers_26 : decode cX12_wavers 26 = .ok (.sipush 2058, 3) := by decide +kernel
theorem dX12_wavers_29 : decode cX12_wavers 29 = .ok (.invokevirtual 372, 3) := by decide +kernel
theorem dX12_wavers_32 : decode cX12_wavers 32 = .ok (.aload_n 0, 1) := by decide +kernel
theorem dX12_wavers_33 : decode cX12_wavers 33 = .ok (.getfield 126, 3) := by decide +kernel
theorem dX12_wavers_36 : decode cX12_wavers 36 = .ok (.iload_n 1, 1) := by decide +kernel
theorem dX12_wavers_37 : decode cX12_wavers 37 = .ok (.iaload, 1) := by decide +kernel
theorem dX12_wavers_38 : decode cX12_wavers 38 = .ok (.ireturn, 1) := by decide +kernel
theorem dX12_toCome_0 : decode cX12_toCome 0 = .ok (.iconst 1, 1) := by decide +kernel
theorem dX12_toCome_1 : decode cX12_toCome 1 = .ok (.aload_n 0, 1) := by decide +kernel
theorem dX12_toCome_2 : decode cX12_toCome 2 = .ok (.invokevirtual 285, 3) := by decide +kernel
theorem dX12_toCome_5 : decode cX12_toCome 5 = .ok (.ishl, 1) := by decide +kernel
theorem dX12_toCome_6 : decode cX12_toCome 6 = .ok (.iconst 1, 1) := by decide +kernel
theorem dX12_toCome_7 : decode cX12_toCome 7 = .ok (.aload_n 0, 1) := by decide +kernel
theorem dX12_toCome_8 : decode cX12_toCome 8 = .ok (.getfield 119, 3) := by decide +kernel
theorem dX12_toCome_11 : decode cX12_toCome 11 = .ok (.iconst 0, 1) := by decide +kernel
theorem dX12_toCome_12 : decode cX12_toCome 12 = .ok (.iaload, 1) := by decide +kernel
theorem dX12_toCome_13 : decode cX12_toCome 13 = .ok (.ishl, 1) := by decide +kernel
theorem dX12_toCome_14 : decode cX12_toCome 14 = .ok (.isub, 1) := by decide +kernel
theorem dX12_toCome_15 : decode cX12_toCome 15 = .ok (.ireturn, 1) := by decide +kernel
theorem dX12_forge_0 : decode cX12_forge 0 = .ok (.aload_n 0, 1) := by decide +kernel
theorem dX12_forge_1 : decode cX12_forge 1 = .ok (.iconst 0, 1) := by decide +kernel
theorem dX12_forge_2 : decode cX12_forge 2 = .ok (.putfield 1, 3) := by decide +kernel
theorem dX12_forge_5 : decode cX12_forge 5 = .ok (.aload_n 0, 1) := by decide +kernel
theorem dX12_forge_6 : decode cX12_forge 6 = .ok (.iload_n 1, 1) := by decide +kernel
theorem dX12_forge_7 : decode cX12_forge 7 = .ok (.invokevirtual 344, 3) := by decide +kernel
theorem dX12_forge_10 : decode cX12_forge 10 = .ok (.ifCond .eq 11, 3) := by decide +kernel
theorem dX12_forge_13 : decode cX12_forge 13 = .ok (.aload_n 0, 1) := by decide +kernel
theorem dX12_forge_14 : decode cX12_forge 14 = .ok (.iload_n 2, 1) := by decide +kernel
theorem dX12_forge_15 : decode cX12_forge 15 = .ok (.invokevirtual 347, 3) := by decide +kernel
theorem dX12_forge_18 : decode cX12_forge 18 = .ok (.ifCond .ne 5, 3) := by decide +kernel
theorem dX12_forge_21 : decode cX12_forge 21 = .ok (.iconst (-1), 1) := by decide +kernel
theorem dX12_forge_22 : decode cX12_forge 22 = .ok (.ireturn, 1) := by decide +kernel
theorem dX12_forge_23 : decode cX12_forge 23 = .ok (.aload_n 0, 1) := by decide +kernel
theorem dX12_forge_24 : decode cX12_forge 24 = .ok (.iconst 0, 1) := by decide +kernel
theorem dX12_forge_25 : decode cX12_forge 25 = .ok (.sipush 2058, 3) := by decide +kernel
theorem dX12_forge_28 : decode cX12_forge 28 = .ok (.bipush 62, 2) := by decide +kernel
theorem dX12_forge_30 : decode cX12_forge 30 = .ok (.invokevirtual 294, 3) := by decide +kernel
theorem dX12_forge_33 : decode cX12_forge 33 = .ok (.aload_n 0, 1) := by decide +kernel
theorem dX12_forge_34 : decode cX12_forge 34 = .ok (.sipush 2058, 3) := by decide +kernel
theorem dX12_forge_37 : decode cX12_forge 37 = .ok (.invokevirtual 372, 3) := by decide +kernel
theorem dX12_forge_40 : decode cX12_forge 40 = .ok (.aload_n 0, 1) := by decide +kernel
theorem dX12_forge_41 : decode cX12_forge 41 = .ok (.getfield 119, 3) := by decide +kernel
theorem dX12_forge_44 : decode cX12_forge 44 = .ok (.sipush 2060, 3) := by decide +kernel
theorem dX12_forge_47 : decode cX12_forge 47 = .ok (.iaload, 1) := by decide +kernel
theorem dX12_forge_48 : decode cX12_forge 48 = .ok (.istore 4, 2) := by decide +kernel
theorem dX12_forge_50 : decode cX12_forge 50 = .ok (.iconst (-1), 1) := by decide +kernel
theorem dX12_forge_51 : decode cX12_forge 51 = .ok (.istore 5, 2) := by decide +kernel
theorem dX12_forge_53 : decode cX12_forge 53 = .ok (.iconst 0, 1) := by decide +kernel
theorem dX12_forge_54 : decode cX12_forge 54 = .ok (.istore 6, 2) := by decide +kernel
theorem dX12_forge_56 : decode cX12_forge 56 = .ok (.iload 6, 2) := by decide +kernel
theorem dX12_forge_58 : decode cX12_forge 58 = .ok (.iconst 1, 1) := by decide +kernel
theorem dX12_forge_59 : decode cX12_forge 59 = .ok (.aload_n 0, 1) := by decide +kernel
theorem dX12_forge_60 : decode cX12_forge 60 = .ok (.invokevirtual 285, 3) := by decide +kernel
theorem dX12_forge_63 : decode cX12_forge 63 = .ok (.ishl, 1) := by decide +kernel
theorem dX12_forge_64 : decode cX12_forge 64 = .ok (.if_icmp .ge 150, 3) := by decide +kernel
theorem dX12_forge_67 : decode cX12_forge 67 = .ok (.iload 6, 2) := by decide +kernel
theorem dX12_forge_69 : decode cX12_forge 69 = .ok (.aload_n 0, 1) := by decide +kernel
theorem dX12_forge_70 : decode cX12_forge 70 = .ok (.invokevirtual 375, 3) := by decide +kernel
theorem dX12_forge_73 : decode cX12_forge 73 = .ok (.iconst (-1), 1) := by decide +kernel
theorem dX12_forge_74 : decode cX12_forge 74 = .ok (.ixor, 1) := by decide +kernel
theorem dX12_forge_75 : decode cX12_forge 75 = .ok (.iand, 1) := by decide +kernel
theorem dX12_forge_76 : decode cX12_forge 76 = .ok (.ifCond .ne 132, 3) := by decide +kernel
theorem dX12_forge_79 : decode cX12_forge 79 = .ok (.iload 5, 2) := by decide +kernel
theorem dX12_forge_81 : decode cX12_forge 81 = .ok (.ifCond .lt 16, 3) := by decide +kernel
theorem dX12_forge_84 : decode cX12_forge 84 = .ok (.iload 6, 2) := by decide +kernel
theorem dX12_forge_86 : decode cX12_forge 86 = .ok (.invokestatic 369, 3) := by decide +kernel
theorem dX12_forge_89 : decode cX12_forge 89 = .ok (.iload 5, 2) := by decide +kernel
theorem dX12_forge_91 : decode cX12_forge 91 = .ok (.invokestatic 369, 3) := by decide +kernel
theorem dX12_forge_94 : decode cX12_forge 94 = .ok (.if_icmp .ge 114, 3) := by decide +kernel
theorem dX12_forge_97 : decode cX12_forge 97 = .ok (.aload_n 0, 1) := by decide +kernel
theorem dX12_forge_98 : decode cX12_forge 98 = .ok (.iconst 0, 1) := by decide +kernel
theorem dX12_forge_99 : decode cX12_forge 99 = .ok (.sipush 2058, 3) := by decide +kernel
theorem dX12_forge_102 : decode cX12_forge 102 = .ok (.bipush 62, 2) := by decide +kernel
theorem dX12_forge_104 : decode cX12_forge 104 = .ok (.invokevirtual 294, 3) := by decide +kernel
theorem dX12_forge_107 : decode cX12_forge 107 = .ok (.iconst 0, 1) := by decide +kernel
theorem dX12_forge_108 : decode cX12_forge 108 = .ok (.istore 7, 2) := by decide +kernel
theorem dX12_forge_110 : decode cX12_forge 110 = .ok (.iload 7, 2) := by decide +kernel
theorem dX12_forge_112 : decode cX12_forge 112 = .ok (.aload_n 0, 1) := by decide +kernel
theorem dX12_forge_113 : decode cX12_forge 113 = .ok (.invokevirtual 285, 3) := by decide +kernel
theorem dX12_forge_116 : decode cX12_forge 116 = .ok (.if_icmp .ge 39, 3) := by decide +kernel
theorem dX12_forge_119 : decode cX12_forge 119 = .ok (.iload 6, 2) := by decide +kernel
theorem dX12_forge_121 : decode cX12_forge 121 = .ok (.iload 7, 2) := by decide +kernel
theorem dX12_forge_123 : decode cX12_forge 123 = .ok (.ishr, 1) := by decide +kernel
theorem dX12_forge_124 : decode cX12_forge 124 = .ok (.iconst 1, 1) := by decide +kernel
theorem dX12_forge_125 : decode cX12_forge 125 = .ok (.iand, 1) := by decide +kernel
theorem dX12_forge_126 : decode cX12_forge 126 = .ok (.iconst 1, 1) := by decide +kernel
theorem dX12_forge_127 : decode cX12_forge 127 = .ok (.if_icmp .ne 22, 3) := by decide +kernel
theorem dX12_forge_130 : decode cX12_forge 130 = .ok (.aload_n 0, 1) := by decide +kernel
theorem dX12_forge_131 : decode cX12_forge 131 = .ok (.sipush 2058, 3) := by decide +kernel
theorem dX12_forge_134 : decode cX12_forge 134 = .ok (.iload 7, 2) := by decide +kernel
theorem dX12_forge_136 : decode cX12_forge 136 = .ok (.iload_n 2, 1) := by decide +kernel
theorem dX12_forge_137 : decode cX12_forge 137 = .ok (.iload_n 3, 1) := by decide +kernel
theorem dX12_forge_138 : decode cX12_forge 138 = .ok (.ifCond .eq 7, 3) := by decide +kernel
theorem dX12_forge_141 : decode cX12_forge 141 = .ok (.iconst 1, 1) := by decide +kernel
theorem dX12_forge_142 : decode cX12_forge 142 = .ok (.goto 4, 3) := by decide +kernel
theorem dX12_forge_145 : decode cX12_forge 145 = .ok (.iconst 0, 1) := by decide +kernel
theorem dX12_forge_146 : decode cX12_forge 146 = .ok (.invokevirtual 356, 3) := by decide +kernel
theorem dX12_forge_149 : decode cX12_forge 149 = .ok (.iinc 7 1, 3) := by decide +kernel
theorem dX12_forge_152 : decode cX12_forge 152 = .ok (.goto (-42), 3) := by decide +kernel
theorem dX12_forge_155 : decode cX12_forge 155 = .ok (.aload_n 0, 1) := by decide +kernel
theorem dX12_forge_156 : decode cX12_forge 156 = .ok (.sipush 2058, 3) := by decide +kernel
theorem dX12_forge_159 : decode cX12_forge 159 = .ok (.invokevirtual 372, 3) := by decide +kernel
theorem dX12_forge_162 : decode cX12_forge 162 = .ok (.aload_n 0, 1) := by decide +kernel
theorem dX12_forge_163 : decode cX12_forge 163 = .ok (.sipush 2058, 3) := by decide +kernel
theorem dX12_forge_166 : decode cX12_forge 166 = .ok (.iload_n 1, 1) := by decide +kernel
theorem dX12_forge_167 : decode cX12_forge 167 = .ok (.iload_n 2, 1) := by decide +kernel
theorem dX12_forge_168 : decode cX12_forge 168 = .ok (.invokevirtual 325, 3) := by decide +kernel
theorem dX12_forge_171 : decode cX12_forge 171 = .ok (.iload_n 3, 1) := by decide +kernel
theorem dX12_forge_172 : decode cX12_forge 172 = .ok (.ifCond .eq 7, 3) := by decide +kernel
theorem dX12_forge_175 : decode cX12_forge 175 = .ok (.iconst 1, 1) := by decide +kernel
theorem dX12_forge_176 : decode cX12_forge 176 = .ok (.goto 4, 3) := by decide +kernel
theorem dX12_forge_179 : decode cX12_forge 179 = .ok (.iconst 0, 1) := by decide +kernel
theorem dX12_forge_180 : decode cX12_forge 180 = .ok (.if_icmp .ne 24, 3) := by decide +kernel
theorem dX12_forge_183 : decode cX12_forge 183 = .ok (.iload 4, 2) := by decide +kernel
theorem dX12_forge_185 : decode cX12_forge 185 = .ok (.aload_n 0, 1) := by decide +kernel
theorem dX12_forge_186 : decode cX12_forge 186 = .ok (.getfield 119, 3) := by decide +kernel
theorem dX12_forge_189 : decode cX12_forge 189 = .ok (.sipush 2060, 3) := by decide +kernel
theorem dX12_forge_192 : decode cX12_forge 192 = .ok (.iaload, 1) := by decide +kernel
theorem dX12_forge_193 : decode cX12_forge 193 = .ok (.iconst (-1), 1) := by decide +kernel
theorem dX12_forge_194 : decode cX12_forge 194 = .ok (.ixor, 1) := by decide +kernel
theorem dX12_forge_195 : decode cX12_forge 195 = .ok (.iand, 1) := by decide +kernel
theorem dX12_forge_196 : decode cX12_forge 196 = .ok (.ifCond .ne 8, 3) := by decide +kernel
theorem dX12_forge_199 : decode cX12_forge 199 = .ok (.iload 6, 2) := by decide +kernel
theorem dX12_forge_201 : decode cX12_forge 201 = .ok (.goto 5, 3) := by decide +kernel
theorem dX12_forge_204 : decode cX12_forge 204 = .ok (.iload 5, 2) := by decide +kernel
theorem dX12_forge_206 : decode cX12_forge 206 = .ok (.istore 5, 2) := by decide +kernel
theorem dX12_forge_208 : decode cX12_forge 208 = .ok (.iinc 6 1, 3) := by decide +kernel
theorem dX12_forge_211 : decode cX12_forge 211 = .ok (.goto (-155), 3) := by decide +kernel
theorem dX12_forge_214 : decode cX12_forge 214 = .ok (.iload 5, 2) := by decide +kernel
theorem dX12_forge_216 : decode cX12_forge 216 = .ok (.ireturn, 1) := by decide +kernel
theorem dX12_spare_0 : decode cX12_spare 0 = .ok (.aload_n 0, 1) := by decide +kernel
theorem dX12_spare_1 : decode cX12_spare 1 = .ok (.iconst 0, 1) := by decide +kernel
theorem dX12_spare_2 : decode cX12_spare 2 = .ok (.putfield 1, 3) := by decide +kernel
theorem dX12_spare_5 : decode cX12_spare 5 = .ok (.aload_n 0, 1) := by decide +kernel
theorem dX12_spare_6 : decode cX12_spare 6 = .ok (.iload_n 1, 1) := by decide +kernel
theorem dX12_spare_7 : decode cX12_spare 7 = .ok (.invokevirtual 344, 3) := by decide +kernel
theorem dX12_spare_10 : decode cX12_spare 10 = .ok (.ifCond .eq 12, 3) := by decide +kernel
theorem dX12_spare_13 : decode cX12_spare 13 = .ok (.aload_n 0, 1) := by decide +kernel
theorem dX12_spare_14 : decode cX12_spare 14 = .ok (.iconst 0, 1) := by decide +kernel
theorem dX12_spare_15 : decode cX12_spare 15 = .ok (.iload_n 1, 1) := by decide +kernel
theorem dX12_spare_16 : decode cX12_spare 16 = .ok (.invokevirtual 319, 3) := by decide +kernel
theorem dX12_spare_19 : decode cX12_spare 19 = .ok (.ifCond .ne 5, 3) := by decide +kernel
theorem dX12_spare_22 : decode cX12_spare 22 = .ok (.iconst (-1), 1) := by decide +kernel
theorem dX12_spare_23 : decode cX12_spare 23 = .ok (.ireturn, 1) := by decide +kernel
theorem dX12_spare_24 : decode cX12_spare 24 = .ok (.aload_n 0, 1) := by decide +kernel
theorem dX12_spare_25 : decode cX12_spare 25 = .ok (.invokevirtual 375, 3) := by decide +kernel
theorem dX12_spare_28 : decode cX12_spare 28 = .ok (.aload_n 0, 1) := by decide +kernel
theorem dX12_spare_29 : decode cX12_spare 29 = .ok (.getfield 119, 3) := by decide +kernel
theorem dX12_spare_32 : decode cX12_spare 32 = .ok (.iconst 3, 1) := by decide +kernel
theorem dX12_spare_33 : decode cX12_spare 33 = .ok (.iaload, 1) := by decide +kernel
theorem dX12_spare_34 : decode cX12_spare 34 = .ok (.iconst (-1), 1) := by decide +kernel
theorem dX12_spare_35 : decode cX12_spare 35 = .ok (.ixor, 1) := by decide +kernel
theorem dX12_spare_36 : decode cX12_spare 36 = .ok (.iand, 1) := by decide +kernel
theorem dX12_spare_37 : decode cX12_spare 37 = .ok (.istore_n 2, 1) := by decide +kernel
theorem dX12_spare_38 : decode cX12_spare 38 = .ok (.iconst (-1), 1) := by decide +kernel
theorem dX12_spare_39 : decode cX12_spare 39 = .ok (.istore_n 3, 1) := by decide +kernel
theorem dX12_spare_40 : decode cX12_spare 40 = .ok (.iconst 0, 1) := by decide +kernel
theorem dX12_spare_41 : decode cX12_spare 41 = .ok (.istore 4, 2) := by decide +kernel
theorem dX12_spare_43 : decode cX12_spare 43 = .ok (.iload 4, 2) := by decide +kernel
theorem dX12_spare_45 : decode cX12_spare 45 = .ok (.iconst 1, 1) := by decide +kernel
theorem dX12_spare_46 : decode cX12_spare 46 = .ok (.aload_n 0, 1) := by decide +kernel
theorem dX12_spare_47 : decode cX12_spare 47 = .ok (.invokevirtual 285, 3) := by decide +kernel
theorem dX12_spare_50 : decode cX12_spare 50 = .ok (.ishl, 1) := by decide +kernel
theorem dX12_spare_51 : decode cX12_spare 51 = .ok (.if_icmp .ge 58, 3) := by decide +kernel
theorem dX12_spare_54 : decode cX12_spare 54 = .ok (.iload 4, 2) := by decide +kernel
theorem dX12_spare_56 : decode cX12_spare 56 = .ok (.iload_n 2, 1) := by decide +kernel
theorem dX12_spare_57 : decode cX12_spare 57 = .ok (.iconst (-1), 1) := by decide +kernel
theorem dX12_spare_58 : decode cX12_spare 58 = .ok (.ixor, 1) := by decide +kernel
theorem dX12_spare_59 : decode cX12_spare 59 = .ok (.iand, 1) := by decide +kernel
theorem dX12_spare_60 : decode cX12_spare 60 = .ok (.ifCond .ne 43, 3) := by decide +kernel
theorem dX12_spare_63 : decode cX12_spare 63 = .ok (.iload_n 3, 1) := by decide +kernel
theorem dX12_spare_64 : decode cX12_spare 64 = .ok (.ifCond .lt 15, 3) := by decide +kernel
theorem dX12_spare_67 : decode cX12_spare 67 = .ok (.iload 4, 2) := by decide +kernel
theorem dX12_spare_69 : decode cX12_spare 69 = .ok (.invokestatic 369, 3) := by decide +kernel
theorem dX12_spare_72 : decode cX12_spare 72 = .ok (.iload_n 3, 1) := by decide +kernel
theorem dX12_spare_73 : decode cX12_spare 73 = .ok (.invokestatic 369, 3) := by decide +kernel
theorem dX12_spare_76 : decode cX12_spare 76 = .ok (.if_icmp .ge 27, 3) := by decide +kernel
theorem dX12_spare_79 : decode cX12_spare 79 = .ok (.aload_n 0, 1) := by decide +kernel
theorem dX12_spare_80 : decode cX12_spare 80 = .ok (.iload 4, 2) := by decide +kernel
theorem dX12_spare_82 : decode cX12_spare 82 = .ok (.invokevirtual 378, 3) := by decide +kernel
theorem dX12_spare_85 : decode cX12_spare 85 = .ok (.aload_n 0, 1) := by decide +kernel
theorem dX12_spare_86 : decode cX12_spare 86 = .ok (.sipush 2058, 3) := by decide +kernel
theorem dX12_spare_89 : decode cX12_spare 89 = .ok (.iload_n 1, 1) := by decide +kernel
theorem dX12_spare_90 : decode cX12_spare 90 = .ok (.invokevirtual 319, 3) := by decide +kernel
theorem dX12_spare_93 : decode cX12_spare 93 = .ok (.ifCond .eq 8, 3) := by decide +kernel
theorem dX12_spare_96 : decode cX12_spare 96 = .ok (.iload 4, 2) := by decide +kernel
theorem dX12_spare_98 : decode cX12_spare 98 = .ok (.goto 4, 3) := by decide +kernel
theorem dX12_spare_101 : decode cX12_spare 101 = .ok (.iload_n 3, 1) := by decide +kernel
theorem dX12_spare_102 : decode cX12_spare 102 = .ok (.istore_n 3, 1) := by decide +kernel
theorem dX12_spare_103 : decode cX12_spare 103 = .ok (.iinc 4 1, 3) := by decide +kernel
theorem dX12_spare_106 : decode cX12_spare 106 = .ok (.goto (-63), 3) := by decide +kernel
theorem dX12_spare_109 : decode cX12_spare 109 = .ok (.iload_n 3, 1) := by decide +kernel
theorem dX12_spare_110 : decode cX12_spare 110 = .ok (.ireturn, 1) := by decide +kernel
theorem dX12_endsCut_0 : decode cX12_endsCut 0 = .ok (.aload_n 0, 1) := by decide +kernel
theorem dX12_endsCut_1 : decode cX12_endsCut 1 = .ok (.iconst 0, 1) := by decide +kernel
theorem dX12_endsCut_2 : decode cX12_endsCut 2 = .ok (.sipush 2058, 3) := by decide +kernel
theorem dX12_endsCut_5 : decode cX12_endsCut 5 = .ok (.bipush 62, 2) := by decide +kernel
theorem dX12_endsCut_7 : decode cX12_endsCut 7 = .ok (.invokevirtual 294, 3) := by decide +kernel
theorem dX12_endsCut_10 : decode cX12_endsCut 10 = .ok (.aload_n 0, 1) := by decide +kernel
theorem dX12_endsCut_11 : decode cX12_endsCut 11 = .ok (.getfield 119, 3) := by decide +kernel
theorem dX12_endsCut_14 : decode cX12_endsCut 14 = .ok (.sipush 2061, 3) := by decide +kernel
theorem dX12_endsCut_17 : decode cX12_endsCut 17 = .ok (.dup2, 1) := by decide +kernel
theorem dX12_endsCut_18 : decode cX12_endsCut 18 = .ok (.iaload, 1) := by decide +kernel
theorem dX12_endsCut_19 : decode cX12_endsCut 19 = .ok (.iload_n 1, 1) := by decide +kernel
theorem dX12_endsCut_20 : decode cX12_endsCut 20 = .ok (.ior, 1) := by decide +kernel
theorem dX12_endsCut_21 : decode cX12_endsCut 21 = .ok (.iastore, 1) := by decide +kernel
theorem dX12_endsCut_22 : decode cX12_endsCut 22 = .ok (.aload_n 0, 1) := by decide +kernel
theorem dX12_endsCut_23 : decode cX12_endsCut 23 = .ok (.sipush 2058, 3) := by decide +kernel
theorem dX12_endsCut_26 : decode cX12_endsCut 26 = .ok (.invokevirtual 372, 3) := by decide +kernel
theorem dX12_endsCut_29 : decode cX12_endsCut 29 = .ok (.return_, 1) := by decide +kernel
theorem dX12_mentions_0 : decode cX12_mentions 0 = .ok (.aload_n 0, 1) := by decide +kernel
theorem dX12_mentions_1 : decode cX12_mentions 1 = .ok (.iconst 0, 1) := by decide +kernel
theorem dX12_mentions_2 : decode cX12_mentions 2 = .ok (.putfield 1, 3) := by decide +kernel
theorem dX12_mentions_5 : decode cX12_mentions 5 = .ok (.aload_n 0, 1) := by decide +kernel
theorem dX12_mentions_6 : decode cX12_mentions 6 = .ok (.iload_n 1, 1) := by decide +kernel
theorem dX12_mentions_7 : decode cX12_mentions 7 = .ok (.invokevirtual 347, 3) := by decide +kernel
theorem dX12_mentions_10 : decode cX12_mentions 10 = .ok (.ifCond .eq 12, 3) := by decide +kernel
theorem dX12_mentions_13 : decode cX12_mentions 13 = .ok (.iload_n 2, 1) := by decide +kernel
theorem dX12_mentions_14 : decode cX12_mentions 14 = .ok (.iconst 0, 1) := by decide +kernel
theorem dX12_mentions_15 : decode cX12_mentions 15 = .ok (.iconst 1, 1) := by decide +kernel
theorem dX12_mentions_16 : decode cX12_mentions 16 = .ok (.invokestatic 207, 3) := by decide +kernel
theorem dX12_mentions_19 : decode cX12_mentions 19 = .ok (.ifCond .ne 5, 3) := by decide +kernel
theorem dX12_mentions_22 : decode cX12_mentions 22 = .ok (.iconst (-1), 1) := by decide +kernel
theorem dX12_mentions_23 : decode cX12_mentions 23 = .ok (.ireturn, 1) := by decide +kernel
theorem dX12_mentions_24 : decode cX12_mentions 24 = .ok (.iconst 0, 1) := by decide +kernel
theorem dX12_mentions_25 : decode cX12_mentions 25 = .ok (.istore_n 3, 1) := by decide +kernel
theorem dX12_mentions_26 : decode cX12_mentions 26 = .ok (.iconst 0, 1) := by decide +kernel
theorem dX12_mentions_27 : decode cX12_mentions 27 = .ok (.istore 4, 2) := by decide +kernel
theorem dX12_mentions_29 : decode cX12_mentions 29 = .ok (.iload 4, 2) := by decide +kernel
theorem dX12_mentions_31 : decode cX12_mentions 31 = .ok (.aload_n 0, 1) := by decide +kernel
theorem dX12_mentions_32 : decode cX12_mentions 32 = .ok (.invokevirtual 285, 3) := by decide +kernel
theorem dX12_mentions_35 : decode cX12_mentions 35 = .ok (.if_icmp .ge 47, 3) := by decide +kernel
theorem dX12_mentions_38 : decode cX12_mentions 38 = .ok (.iload_n 3, 1) := by decide +kernel
theorem dX12_mentions_39 : decode cX12_mentions 39 = .ok (.iload_n 2, 1) := by decide +kernel
theorem dX12_mentions_40 : decode cX12_mentions 40 = .ok (.ifCond .ne 13, 3) := by decide +kernel
theorem dX12_mentions_43 : decode cX12_mentions 43 = .ok (.aload_n 0, 1) := by decide +kernel
theorem dX12_mentions_44 : decode cX12_mentions 44 = .ok (.iconst 0, 1) := by decide +kernel
theorem dX12_mentions_45 : decode cX12_mentions 45 = .ok (.iload 4, 2) := by decide +kernel
theorem dX12_mentions_47 : decode cX12_mentions 47 = .ok (.invokevirtual 304, 3) := by decide +kernel
theorem dX12_mentions_50 : decode cX12_mentions 50 = .ok (.goto 12, 3) := by decide +kernel
theorem dX12_mentions_53 : decode cX12_mentions 53 = .ok (.aload_n 0, 1) := by decide +kernel
theorem dX12_mentions_54 : decode cX12_mentions 54 = .ok (.getfield 119, 3) := by decide +kernel
theorem dX12_mentions_57 : decode cX12_mentions 57 = .ok (.iconst 4, 1) := by decide +kernel
theorem dX12_mentions_58 : decode cX12_mentions 58 = .ok (.iload 4, 2) := by decide +kernel
theorem dX12_mentions_60 : decode cX12_mentions 60 = .ok (.iadd, 1) := by decide +kernel
theorem dX12_mentions_61 : decode cX12_mentions 61 = .ok (.iaload, 1) := by decide +kernel
theorem dX12_mentions_62 : decode cX12_mentions 62 = .ok (.iload_n 1, 1) := by decide +kernel
theorem dX12_mentions_63 : decode cX12_mentions 63 = .ok (.if_icmp .ne 10, 3) := by decide +kernel
theorem dX12_mentions_66 : decode cX12_mentions 66 = .ok (.iconst 1, 1) := by decide +kernel
theorem dX12_mentions_67 : decode cX12_mentions 67 = .ok (.iload 4, 2) := by decide +kernel
theorem dX12_mentions_69 : decode cX12_mentions 69 = .ok (.ishl, 1) := by decide +kernel
theorem dX12_mentions_70 : decode cX12_mentions 70 = .ok (.goto 4, 3) := by decide +kernel
theorem dX12_mentions_73 : decode cX12_mentions 73 = .ok (.iconst 0, 1) := by decide +kernel
theorem dX12_mentions_74 : decode cX12_mentions 74 = .ok (.ior, 1) := by decide +kernel
theorem dX12_mentions_75 : decode cX12_mentions 75 = .ok (.istore_n 3, 1) := by decide +kernel
theorem dX12_mentions_76 : decode cX12_mentions 76 = .ok (.iinc 4 1, 3) := by decide +kernel
theorem dX12_mentions_79 : decode cX12_mentions 79 = .ok (.goto (-50), 3) := by decide +kernel
theorem dX12_mentions_82 : decode cX12_mentions 82 = .ok (.iload_n 3, 1) := by decide +kernel
theorem dX12_mentions_83 : decode cX12_mentions 83 = .ok (.ireturn, 1) := by decide +kernel
theorem dX12_lastSaid_0 : decode cX12_lastSaid 0 = .ok (.iconst (-1), 1) := by decide +kernel
theorem dX12_lastSaid_1 : decode cX12_lastSaid 1 = .ok (.istore_n 2, 1) := by decide +kernel
theorem dX12_lastSaid_2 : decode cX12_lastSaid 2 = .ok (.iconst 0, 1) := by decide +kernel
theorem dX12_lastSaid_3 : decode cX12_lastSaid 3 = .ok (.istore_n 3, 1) := by decide +kernel
theorem dX12_lastSaid_4 : decode cX12_lastSaid 4 = .ok (.iload_n 3, 1) := by decide +kernel
theorem dX12_lastSaid_5 : decode cX12_lastSaid 5 = .ok (.aload_n 0, 1) := by decide +kernel
theorem dX12_lastSaid_6 : decode cX12_lastSaid 6 = .ok (.invokevirtual 285, 3) := by decide +kernel
theorem dX12_lastSaid_9 : decode cX12_lastSaid 9 = .ok (.if_icmp .ge 30, 3) := by decide +kernel
theorem dX12_lastSaid_12 : decode cX12_lastSaid 12 = .ok (.aload_n 0, 1) := by decide +kernel
theorem dX12_lastSaid_13 : decode cX12_lastSaid 13 = .ok (.iconst 0, 1) := by decide +kernel
theorem dX12_lastSaid_14 : decode cX12_lastSaid 14 = .ok (.iload_n 3, 1) := by decide +kernel
theorem dX12_lastSaid_15 : decode cX12_lastSaid 15 = .ok (.invokevirtual 304, 3) := by decide +kernel
theorem dX12_lastSaid_18 : decode cX12_lastSaid 18 = .ok (.iload_n 1, 1) := by decide +kernel
theorem dX12_lastSaid_19 : decode cX12_lastSaid 19 = .ok (.if_icmp .ne 12, 3) := by decide +kernel
theorem dX12_lastSaid_22 : decode cX12_lastSaid 22 = .ok (.aload_n 0, 1) := by decide +kernel
theorem dX12_lastSaid_23 : decode cX12_lastSaid 23 = .ok (.iconst 0, 1) := by decide +kernel
theorem dX12_lastSaid_24 : decode cX12_lastSaid 24 = .ok (.iload_n 3, 1) := by decide +kernel
theorem dX12_lastSaid_25 : decode cX12_lastSaid 25 = .ok (.invokevirtual 307, 3) := by decide +kernel
theorem dX12_lastSaid_28 : decode cX12_lastSaid 28 = .ok (.goto 4, 3) := by decide +kernel
theorem dX12_lastSaid_31 : decode cX12_lastSaid 31 = .ok (.iload_n 2, 1) := by decide +kernel
theorem dX12_lastSaid_32 : decode cX12_lastSaid 32 = .ok (.istore_n 2, 1) := by decide +kernel
theorem dX12_lastSaid_33 : decode cX12_lastSaid 33 = .ok (.iinc 3 1, 3) := by decide +kernel
theorem dX12_lastSaid_36 : decode cX12_lastSaid 36 = .ok (.goto (-32), 3) := by decide +kernel
theorem dX12_lastSaid_39 : decode cX12_lastSaid 39 = .ok (.iload_n 2, 1) := by decide +kernel
theorem dX12_lastSaid_40 : decode cX12_lastSaid 40 = .ok (.ireturn, 1) := by decide +kernel
theorem dX12_lastWritten_0 : decode cX12_lastWritten 0 = .ok (.iconst (-1), 1) := by decide +kernel
theorem dX12_lastWritten_1 : decode cX12_lastWritten 1 = .ok (.istore_n 2, 1) := by decide +kernel
theorem dX12_lastWritten_2 : decode cX12_lastWritten 2 = .ok (.iconst 0, 1) := by decide +kernel
theorem dX12_lastWritten_3 : decode cX12_lastWritten 3 = .ok (.istore_n 3, 1) := by decide +kernel
theorem dX12_lastWritten_4 : decode cX12_lastWritten 4 = .ok (.iload_n 3, 1) := by decide +kernel
theorem dX12_lastWritten_5 : decode cX12_lastWritten 5 = .ok (.aload_n 0, 1) := by decide +kernel
theorem dX12_lastWritten_6 : decode cX12_lastWritten 6 = .ok (.invokevirtual 285, 3) := by decide +kernel
theorem dX12_lastWritten_9 : decode cX12_lastWritten 9 = .ok (.if_icmp .ge 35, 3) := by decide +kernel
theorem dX12_lastWritten_12 : decode cX12_lastWritten 12 = .ok (.aload_n 0, 1) := by decide +kernel
theorem dX12_lastWritten_13 : decode cX12_lastWritten 13 = .ok (.getfield 119, 3) := by decide +kernel
theorem dX12_lastWritten_16 : decode cX12_lastWritten 16 = .ok (.iconst 4, 1) := by decide +kernel
theorem dX12_lastWritten_17 : decode cX12_lastWritten 17 = .ok (.iload_n 3, 1) := by decide +kernel
theorem dX12_lastWritten_18 : decode cX12_lastWritten 18 = .ok (.iadd, 1) := by decide +kernel
theorem dX12_lastWritten_19 : decode cX12_lastWritten 19 = .ok (.iaload, 1) := by decide +kernel
theorem dX12_lastWritten_20 : decode cX12_lastWritten 20 = .ok (.iload_n 1, 1) := by decide +kernel
theorem dX12_lastWritten_21 : decode cX12_lastWritten 21 = .ok (.if_icmp .ne 15, 3) := by decide +kernel
theorem dX12_lastWritten_24 : decode cX12_lastWritten 24 = .ok (.aload_n 0, 1) := by decide +kernel
theorem dX12_lastWritten_25 : decode cX12_lastWritten 25 = .ok (.getfield 119, 3) := by decide +kernel
theorem dX12_lastWritten_28 : decode cX12_lastWritten 28 = .ok (.bipush 12, 2) := by decide +kernel
theorem dX12_lastWritten_30 : decode cX12_lastWritten 30 = .ok (.iload_n 3, 1) := by decide +kernel
theorem dX12_lastWritten_31 : decode cX12_lastWritten 31 = .ok (.iadd, 1) := by decide +kernel
theorem dX12_lastWritten_32 : decode cX12_lastWritten 32 = .ok (.iaload, 1) := by decide +kernel
theorem dX12_lastWritten_33 : decode cX12_lastWritten 33 = .ok (.goto 4, 3) := by decide +kernel
theorem dX12_lastWritten_36 : decode cX12_lastWritten 36 = .ok (.iload_n 2, 1) := by decide +kernel
theorem dX12_lastWritten_37 : decode cX12_lastWritten 37 = .ok (.istore_n 2, 1) := by decide +kernel
theorem dX12_lastWritten_38 : decode cX12_lastWritten 38 = .ok (.iinc 3 1, 3) := by decide +kernel
theorem dX12_lastWritten_41 : decode cX12_lastWritten 41 = .ok (.goto (-37), 3) := by decide +kernel
theorem dX12_lastWritten_44 : decode cX12_lastWritten 44 = .ok (.iload_n 2, 1) := by decide +kernel
theorem dX12_lastWritten_45 : decode cX12_lastWritten 45 = .ok (.ireturn, 1) := by decide +kernel
theorem dX12_fooled_0 : decode cX12_fooled 0 = .ok (.aload_n 0, 1) := by decide +kernel
theorem dX12_fooled_1 : decode cX12_fooled 1 = .ok (.iconst 0, 1) := by decide +kernel
theorem dX12_fooled_2 : decode cX12_fooled 2 = .ok (.putfield 1, 3) := by decide +kernel
theorem dX12_fooled_5 : decode cX12_fooled 5 = .ok (.aload_n 0, 1) := by decide +kernel
theorem dX12_fooled_6 : decode cX12_fooled 6 = .ok (.iload_n 1, 1) := by decide +kernel
theorem dX12_fooled_7 : decode cX12_fooled 7 = .ok (.invokevirtual 347, 3) := by decide +kernel
theorem dX12_fooled_10 : decode cX12_fooled 10 = .ok (.ifCond .ne 5, 3) := by decide +kernel
theorem dX12_fooled_13 : decode cX12_fooled 13 = .ok (.iconst (-1), 1) := by decide +kernel
theorem dX12_fooled_14 : decode cX12_fooled 14 = .ok (.ireturn, 1) := by decide +kernel
theorem dX12_fooled_15 : decode cX12_fooled 15 = .ok (.aload_n 0, 1) := by decide +kernel
theorem dX12_fooled_16 : decode cX12_fooled 16 = .ok (.iload_n 1, 1) := by decide +kernel
theorem dX12_fooled_17 : decode cX12_fooled 17 = .ok (.invokevirtual 381, 3) := by decide +kernel
theorem dX12_fooled_20 : decode cX12_fooled 20 = .ok (.istore_n 2, 1) := by decide +kernel
theorem dX12_fooled_21 : decode cX12_fooled 21 = .ok (.iconst 0, 1) := by decide +kernel
theorem dX12_fooled_22 : decode cX12_fooled 22 = .ok (.istore_n 3, 1) := by decide +kernel
theorem dX12_fooled_23 : decode cX12_fooled 23 = .ok (.iconst 0, 1) := by decide +kernel
theorem dX12_fooled_24 : decode cX12_fooled 24 = .ok (.istore 4, 2) := by decide +kernel
theorem dX12_fooled_26 : decode cX12_fooled 26 = .ok (.iload 4, 2) := by decide +kernel
theorem dX12_fooled_28 : decode cX12_fooled 28 = .ok (.aload_n 0, 1) := by decide +kernel
theorem dX12_fooled_29 : decode cX12_fooled 29 = .ok (.invokevirtual 282, 3) := by decide +kernel
theorem dX12_fooled_32 : decode cX12_fooled 32 = .ok (.if_icmp .ge 48, 3) := by decide +kernel
theorem dX12_fooled_35 : decode cX12_fooled 35 = .ok (.iload_n 3, 1) := by decide +kernel
theorem dX12_fooled_36 : decode cX12_fooled 36 = .ok (.iload_n 2, 1) := by decide +kernel
theorem dX12_fooled_37 : decode cX12_fooled 37 = .ok (.ifCond .lt 34, 3) := by decide +kernel
theorem dX12_fooled_40 : decode cX12_fooled 40 = .ok (.aload_n 0, 1) := by decide +kernel
theorem dX12_fooled_41 : decode cX12_fooled 41 = .ok (.iconst 0, 1) := by decide +kernel
theorem dX12_fooled_42 : decode cX12_fooled 42 = .ok (.iload 4, 2) := by decide +kernel
theorem dX12_fooled_44 : decode cX12_fooled 44 = .ok (.invokevirtual 319, 3) := by decide +kernel
theorem dX12_fooled_47 : decode cX12_fooled 47 = .ok (.ifCond .eq 24, 3) := by decide +kernel
theorem dX12_fooled_50 : decode cX12_fooled 50 = .ok (.aload_n 0, 1) := by decide +kernel
theorem dX12_fooled_51 : decode cX12_fooled 51 = .ok (.iconst 0, 1) := by decide +kernel
theorem dX12_fooled_52 : decode cX12_fooled 52 = .ok (.iload 4, 2) := by decide +kernel
theorem dX12_fooled_54 : decode cX12_fooled 54 = .ok (.iload_n 1, 1) := by decide +kernel
theorem dX12_fooled_55 : decode cX12_fooled 55 = .ok (.invokevirtual 325, 3) := by decide +kernel
theorem dX12_fooled_58 : decode cX12_fooled 58 = .ok (.iconst 1, 1) := by decide +kernel
theorem dX12_fooled_59 : decode cX12_fooled 59 = .ok (.iload_n 2, 1) := by decide +kernel
theorem dX12_fooled_60 : decode cX12_fooled 60 = .ok (.isub, 1) := by decide +kernel
theorem dX12_fooled_61 : decode cX12_fooled 61 = .ok (.if_icmp .ne 10, 3) := by decide +kernel
theorem dX12_fooled_64 : decode cX12_fooled 64 = .ok (.iconst 1, 1) := by decide +kernel
theorem dX12_fooled_65 : decode cX12_fooled 65 = .ok (.iload 4, 2) := by decide +kernel
theorem dX12_fooled_67 : decode cX12_fooled 67 = .ok (.ishl, 1) := by decide +kernel
theorem dX12_fooled_68 : decode cX12_fooled 68 = .ok (.goto 4, 3) := by decide +kernel
theorem dX12_fooled_71 : decode cX12_fooled 71 = .ok (.iconst 0, 1) := by decide +kernel
theorem dX12_fooled_72 : decode cX12_fooled 72 = .ok (.ior, 1) := by decide +kernel
theorem dX12_fooled_73 : decode cX12_fooled 73 = .ok (.istore_n 3, 1) := by decide +kernel
theorem dX12_fooled_74 : decode cX12_fooled 74 = .ok (.iinc 4 1, 3) := by decide +kernel
theorem dX12_fooled_77 : decode cX12_fooled 77 = .ok (.goto (-51), 3) := by decide +kernel
theorem dX12_fooled_80 : decode cX12_fooled 80 = .ok (.iload_n 3, 1) := by decide +kernel
theorem dX12_fooled_81 : decode cX12_fooled 81 = .ok (.ireturn, 1) := by decide +kernel
theorem dX12_moves_0 : decode cX12_moves 0 = .ok (.aload_n 0, 1) := by decide +kernel
theorem dX12_moves_1 : decode cX12_moves 1 = .ok (.iconst 0, 1) := by decide +kernel
theorem dX12_moves_2 : decode cX12_moves 2 = .ok (.putfield 1, 3) := by decide +kernel
theorem dX12_moves_5 : decode cX12_moves 5 = .ok (.iconst 0, 1) := by decide +kernel
theorem dX12_moves_6 : decode cX12_moves 6 = .ok (.istore_n 1, 1) := by decide +kernel
theorem dX12_moves_7 : decode cX12_moves 7 = .ok (.iconst 0, 1) := by decide +kernel
theorem dX12_moves_8 : decode cX12_moves 8 = .ok (.istore_n 2, 1) := by decide +kernel
theorem dX12_moves_9 : decode cX12_moves 9 = .ok (.iload_n 2, 1) := by decide +kernel
theorem dX12_moves_10 : decode cX12_moves 10 = .ok (.aload_n 0, 1) := by decide +kernel
theorem dX12_moves_11 : decode cX12_moves 11 = .ok (.invokevirtual 297, 3) := by decide +kernel
theorem dX12_moves_14 : decode cX12_moves 14 = .ok (.if_icmp .ge 32, 3) := by decide +kernel
theorem dX12_moves_17 : decode cX12_moves 17 = .ok (.iload_n 1, 1) := by decide +kernel
theorem dX12_moves_18 : decode cX12_moves 18 = .ok (.aload_n 0, 1) := by decide +kernel
theorem dX12_moves_19 : decode cX12_moves 19 = .ok (.iload_n 2, 1) := by decide +kernel
theorem dX12_moves_20 : decode cX12_moves 20 = .ok (.invokevirtual 381, 3) := by decide +kernel
theorem dX12_moves_23 : decode cX12_moves 23 = .ok (.aload_n 0, 1) := by decide +kernel
theorem dX12_moves_24 : decode cX12_moves 24 = .ok (.iload_n 2, 1) := by decide +kernel
theorem dX12_moves_25 : decode cX12_moves 25 = .ok (.invokevirtual 384, 3) := by decide +kernel
theorem dX12_moves_28 : decode cX12_moves 28 = .ok (.if_icmp .eq 9, 3) := by decide +kernel
theorem dX12_moves_31 : decode cX12_moves 31 = .ok (.iconst 1, 1) := by decide +kernel
theorem dX12_moves_32 : decode cX12_moves 32 = .ok (.iload_n 2, 1) := by decide +kernel
theorem dX12_moves_33 : decode cX12_moves 33 = .ok (.ishl, 1) := by decide +kernel
theorem dX12_moves_34 : decode cX12_moves 34 = .ok (.goto 4, 3) := by decide +kernel
theorem dX12_moves_37 : decode cX12_moves 37 = .ok (.iconst 0, 1) := by decide +kernel
theorem dX12_moves_38 : decode cX12_moves 38 = .ok (.ior, 1) := by decide +kernel
theorem dX12_moves_39 : decode cX12_moves 39 = .ok (.istore_n 1, 1) := by decide +kernel
theorem dX12_moves_40 : decode cX12_moves 40 = .ok (.iinc 2 1, 3) := by decide +kernel
theorem dX12_moves_43 : decode cX12_moves 43 = .ok (.goto (-34), 3) := by decide +kernel
theorem dX12_moves_46 : decode cX12_moves 46 = .ok (.iload_n 1, 1) := by decide +kernel
theorem dX12_moves_47 : decode cX12_moves 47 = .ok (.ireturn, 1) := by decide +kernel
theorem dX12_sway_0 : decode cX12_sway 0 = .ok (.aload_n 0, 1) := by decide +kernel
theorem dX12_sway_1 : decode cX12_sway 1 = .ok (.iconst 0, 1) := by decide +kernel
theorem dX12_sway_2 : decode cX12_sway 2 = .ok (.putfield 1, 3) := by decide +kernel
theorem dX12_sway_5 : decode cX12_sway 5 = .ok (.iconst (-1), 1) := by decide +kernel
theorem dX12_sway_6 : decode cX12_sway 6 = .ok (.istore_n 1, 1) := by decide +kernel
theorem dX12_sway_7 : decode cX12_sway 7 = .ok (.iconst 0, 1) := by decide +kernel
theorem dX12_sway_8 : decode cX12_sway 8 = .ok (.istore_n 2, 1) := by decide +kernel
theorem dX12_sway_9 : decode cX12_sway 9 = .ok (.iconst 0, 1) := by decide +kernel
theorem dX12_sway_10 : decode cX12_sway 10 = .ok (.istore_n 3, 1) := by decide +kernel
theorem dX12_sway_11 : decode cX12_sway 11 = .ok (.iload_n 3, 1) := by decide +kernel
theorem dX12_sway_12 : decode cX12_sway 12 = .ok (.aload_n 0, 1) := by decide +kernel
theorem dX12_sway_13 : decode cX12_sway 13 = .ok (.invokevirtual 282, 3) := by decide +kernel
theorem dX12_sway_16 : decode cX12_sway 16 = .ok (.if_icmp .ge 105, 3) := by decide +kernel
theorem dX12_sway_19 : decode cX12_sway 19 = .ok (.iconst 0, 1) := by decide +kernel
theorem dX12_sway_20 : decode cX12_sway 20 = .ok (.istore 4, 2) := by decide +kernel
theorem dX12_sway_22 : decode cX12_sway 22 = .ok (.iload 4, 2) := by decide +kernel
theorem dX12_sway_24 : decode cX12_sway 24 = .ok (.aload_n 0, 1) := by decide +kernel
theorem dX12_sway_25 : decode cX12_sway 25 = .ok (.invokevirtual 282, 3) := by decide +kernel
theorem dX12_sway_28 : decode cX12_sway 28 = .ok (.if_icmp .ge 87, 3) := by decide +kernel
theorem dX12_sway_31 : decode cX12_sway 31 = .ok (.iload_n 3, 1) := by decide +kernel
theorem dX12_sway_32 : decode cX12_sway 32 = .ok (.iload 4, 2) := by decide +kernel
theorem dX12_sway_34 : decode cX12_sway 34 = .ok (.if_icmp .eq 75, 3) := by decide +kernel
theorem dX12_sway_37 : decode cX12_sway 37 = .ok (.aload_n 0, 1) := by decide +kernel
theorem dX12_sway_38 : decode cX12_sway 38 = .ok (.iconst 0, 1) := by decide +kernel
theorem dX12_sway_39 : decode cX12_sway 39 = .ok (.iload_n 3, 1) := by decide +kernel
theorem dX12_sway_40 : decode cX12_sway 40 = .ok (.invokevirtual 319, 3) := by decide +kernel
theorem dX12_sway_43 : decode cX12_sway 43 = .ok (.ifCond .eq 66, 3) := by decide +kernel
theorem dX12_sway_46 : decode cX12_sway 46 = .ok (.aload_n 0, 1) := by decide +kernel
theorem dX12_sway_47 : decode cX12_sway 47 = .ok (.iconst 0, 1) := by decide +kernel
theorem dX12_sway_48 : decode cX12_sway 48 = .ok (.iload 4, 2) := by decide +kernel
theorem dX12_sway_50 : decode cX12_sway 50 = .ok (.invokevirtual 319, 3) := by decide +kernel
theorem dX12_sway_53 : decode cX12_sway 53 = .ok (.ifCond .eq 56, 3) := by decide +kernel
theorem dX12_sway_56 : decode cX12_sway 56 = .ok (.aload_n 0, 1) := by decide +kernel
theorem dX12_sway_57 : decode cX12_sway 57 = .ok (.iconst 0, 1) := by decide +kernel
theorem dX12_sway_58 : decode cX12_sway 58 = .ok (.sipush 2058, 3) := by decide +kernel
theorem dX12_sway_61 : decode cX12_sway 61 = .ok (.bipush 62, 2) := by decide +kernel
theorem dX12_sway_63 : decode cX12_sway 63 = .ok (.invokevirtual 294, 3) := by decide +kernel
theorem dX12_sway_66 : decode cX12_sway 66 = .ok (.aload_n 0, 1) := by decide +kernel
theorem dX12_sway_67 : decode cX12_sway 67 = .ok (.sipush 2058, 3) := by decide +kernel
theorem dX12_sway_70 : decode cX12_sway 70 = .ok (.iload_n 3, 1) := by decide +kernel
theorem dX12_sway_71 : decode cX12_sway 71 = .ok (.iload 4, 2) := by decide +kernel
theorem dX12_sway_73 : decode cX12_sway 73 = .ok (.invokevirtual 360, 3) := by decide +kernel
theorem dX12_sway_76 : decode cX12_sway 76 = .ok (.istore 5, 2) := by decide +kernel
theorem dX12_sway_78 : decode cX12_sway 78 = .ok (.iload 5, 2) := by decide +kernel
theorem dX12_sway_80 : decode cX12_sway 80 = .ok (.iload_n 2, 1) := by decide +kernel
theorem dX12_sway_81 : decode cX12_sway 81 = .ok (.if_icmp .le 13, 3) := by decide +kernel
theorem dX12_sway_84 : decode cX12_sway 84 = .ok (.bipush 8, 2) := by decide +kernel
theorem dX12_sway_86 : decode cX12_sway 86 = .ok (.iload_n 3, 1) := by decide +kernel
theorem dX12_sway_87 : decode cX12_sway 87 = .ok (.imul, 1) := by decide +kernel
theorem dX12_sway_88 : decode cX12_sway 88 = .ok (.iload 4, 2) := by decide +kernel
theorem dX12_sway_90 : decode cX12_sway 90 = .ok (.iadd, 1) := by decide +kernel
theorem dX12_sway_91 : decode cX12_sway 91 = .ok (.goto 4, 3) := by decide +kernel
theorem dX12_sway_94 : decode cX12_sway 94 = .ok (.iload_n 1, 1) := by decide +kernel
theorem dX12_sway_95 : decode cX12_sway 95 = .ok (.istore_n 1, 1) := by decide +kernel
theorem dX12_sway_96 : decode cX12_sway 96 = .ok (.iload 5, 2) := by decide +kernel
theorem dX12_sway_98 : decode cX12_sway 98 = .ok (.iload_n 2, 1) := by decide +kernel
theorem dX12_sway_99 : decode cX12_sway 99 = .ok (.if_icmp .le 8, 3) := by decide +kernel
theorem dX12_sway_102 : decode cX12_sway 102 = .ok (.iload 5, 2) := by decide +kernel
theorem dX12_sway_104 : decode cX12_sway 104 = .ok (.goto 4, 3) := by decide +kernel
theorem dX12_sway_107 : decode cX12_sway 107 = .ok (.iload_n 2, 1) := by decide +kernel
theorem dX12_sway_108 : decode cX12_sway 108 = .ok (.istore_n 2, 1) := by decide +kernel
theorem dX12_sway_109 : decode cX12_sway 109 = .ok (.iinc 4 1, 3) := by decide +kernel
theorem dX12_sway_112 : decode cX12_sway 112 = .ok (.goto (-90), 3) := by decide +kernel
theorem dX12_sway_115 : decode cX12_sway 115 = .ok (.iinc 3 1, 3) := by decide +kernel
theorem dX12_sway_118 : decode cX12_sway 118 = .ok (.goto (-107), 3) := by decide +kernel
theorem dX12_sway_121 : decode cX12_sway 121 = .ok (.iload_n 1, 1) := by decide +kernel
theorem dX12_sway_122 : decode cX12_sway 122 = .ok (.ireturn, 1) := by decide +kernel
theorem dX12_quarrels_0 : decode cX12_quarrels 0 = .ok (.aload_n 0, 1) := by decide +kernel
theorem dX12_quarrels_1 : decode cX12_quarrels 1 = .ok (.iconst 0, 1) := by decide +kernel
theorem dX12_quarrels_2 : decode cX12_quarrels 2 = .ok (.putfield 1, 3) := by decide +kernel
theorem dX12_quarrels_5 : decode cX12_quarrels 5 = .ok (.iconst 0, 1) := by decide +kernel
theorem dX12_quarrels_6 : decode cX12_quarrels 6 = .ok (.istore_n 1, 1) := by decide +kernel
theorem dX12_quarrels_7 : decode cX12_quarrels 7 = .ok (.iconst 0, 1) := by decide +kernel
theorem dX12_quarrels_8 : decode cX12_quarrels 8 = .ok (.istore_n 2, 1) := by decide +kernel
theorem dX12_quarrels_9 : decode cX12_quarrels 9 = .ok (.iload_n 2, 1) := by decide +kernel
theorem dX12_quarrels_10 : decode cX12_quarrels 10 = .ok (.aload_n 0, 1) := by decide +kernel
theorem dX12_quarrels_11 : decode cX12_quarrels 11 = .ok (.invokevirtual 282, 3) := by decide +kernel
theorem dX12_quarrels_14 : decode cX12_quarrels 14 = .ok (.if_icmp .ge 123, 3) := by decide +kernel
theorem dX12_quarrels_17 : decode cX12_quarrels 17 = .ok (.iload_n 2, 1) := by decide +kernel
theorem dX12_quarrels_18 : decode cX12_quarrels 18 = .ok (.iconst 1, 1) := by decide +kernel
theorem dX12_quarrels_19 : decode cX12_quarrels 19 = .ok (.iadd, 1) := by decide +kernel
theorem dX12_quarrels_20 : decode cX12_quarrels 20 = .ok (.istore_n 3, 1) := by decide +kernel
theorem dX12_quarrels_21 : decode cX12_quarrels 21 = .ok (.iload_n 3, 1) := by decide +kernel
theorem dX12_quarrels_22 : decode cX12_quarrels 22 = .ok (.aload_n 0, 1) := by decide +kernel
theorem dX12_quarrels_23 : decode cX12_quarrels 23 = .ok (.invokevirtual 282, 3) := by decide +kernel
theorem dX12_quarrels_26 : decode cX12_quarrels 26 = .ok (.if_icmp .ge 105, 3) := by decide +kernel
theorem dX12_quarrels_29 : decode cX12_quarrels 29 = .ok (.iconst 0, 1) := by decide +kernel
theorem dX12_quarrels_30 : decode cX12_quarrels 30 = .ok (.istore 4, 2) := by decide +kernel
theorem dX12_quarrels_32 : decode cX12_quarrels 32 = .ok (.iconst 0, 1) := by decide +kernel
theorem dX12_quarrels_33 : decode cX12_quarrels 33 = .ok (.istore 5, 2) := by decide +kernel
theorem dX12_quarrels_35 : decode cX12_quarrels 35 = .ok (.iload 5, 2) := by decide +kernel
theorem dX12_quarrels_37 : decode cX12_quarrels 37 = .ok (.aload_n 0, 1) := by decide +kernel
theorem dX12_quarrels_38 : decode cX12_quarrels 38 = .ok (.invokevirtual 297, 3) := by decide +kernel
theorem dX12_quarrels_41 : decode cX12_quarrels 41 = .ok (.if_icmp .ge 53, 3) := by decide +kernel
theorem dX12_quarrels_44 : decode cX12_quarrels 44 = .ok (.iload 4, 2) := by decide +kernel
theorem dX12_quarrels_46 : decode cX12_quarrels 46 = .ok (.ifCond .ne 35, 3) := by decide +kernel
theorem dX12_quarrels_49 : decode cX12_quarrels 49 = .ok (.aload_n 0, 1) := by decide +kernel
theorem dX12_quarrels_50 : decode cX12_quarrels 50 = .ok (.iconst 0, 1) := by decide +kernel
theorem dX12_quarrels_51 : decode cX12_quarrels 51 = .ok (.iload_n 2, 1) := by decide +kernel
theorem dX12_quarrels_52 : decode cX12_quarrels 52 = .ok (.iload 5, 2) := by decide +kernel
theorem dX12_quarrels_54 : decode cX12_quarrels 54 = .ok (.invokevirtual 325, 3) := by decide +kernel
theorem dX12_quarrels_57 : decode cX12_quarrels 57 = .ok (.ifCond .lt 28, 3) := by decide +kernel
theorem dX12_quarrels_60 : decode cX12_quarrels 60 = .ok (.aload_n 0, 1) := by decide +kernel
theorem dX12_quarrels_61 : decode cX12_quarrels 61 = .ok (.iconst 0, 1) := by decide +kernel
theorem dX12_quarrels_62 : decode cX12_quarrels 62 = .ok (.iload_n 3, 1) := by decide +kernel
theorem dX12_quarrels_63 : decode cX12_quarrels 63 = .ok (.iload 5, 2) := by decide +kernel
theorem dX12_quarrels_65 : decode cX12_quarrels 65 = .ok (.invokevirtual 325, 3) := by decide +kernel
theorem dX12_quarrels_68 : decode cX12_quarrels 68 = .ok (.iconst 1, 1) := by decide +kernel
theorem dX12_quarrels_69 : decode cX12_quarrels 69 = .ok (.aload_n 0, 1) := by decide +kernel
theorem dX12_quarrels_70 : decode cX12_quarrels 70 = .ok (.iconst 0, 1) := by decide +kernel
theorem dX12_quarrels_71 : decode cX12_quarrels 71 = .ok (.iload_n 2, 1) := by decide +kernel
theorem dX12_quarrels_72 : decode cX12_quarrels 72 = .ok (.iload 5, 2) := by decide +kernel
theorem dX12_quarrels_74 : decode cX12_quarrels 74 = .ok (.invokevirtual 325, 3) := by decide +kernel
theorem dX12_quarrels_77 : decode cX12_quarrels 77 = .ok (.isub, 1) := by decide +kernel
theorem dX12_quarrels_78 : decode cX12_quarrels 78 = .ok (.if_icmp .ne 7, 3) := by decide +kernel
theorem dX12_quarrels_81 : decode cX12_quarrels 81 = .ok (.iconst 1, 1) := by decide +kernel
theorem dX12_quarrels_82 : decode cX12_quarrels 82 = .ok (.goto 4, 3) := by decide +kernel
theorem dX12_quarrels_85 : decode cX12_quarrels 85 = .ok (.iconst 0, 1) := by decide +kernel
theorem dX12_quarrels_86 : decode cX12_quarrels 86 = .ok (.istore 4, 2) := by decide +kernel
theorem dX12_quarrels_88 : decode cX12_quarrels 88 = .ok (.iinc 5 1, 3) := by decide +kernel
theorem dX12_quarrels_91 : decode cX12_quarrels 91 = .ok (.goto (-56), 3) := by decide +kernel
theorem dX12_quarrels_94 : decode cX12_quarrels 94 = .ok (.iload_n 1, 1) := by decide +kernel
theorem dX12_quarrels_95 : decode cX12_quarrels 95 = .ok (.iload 4, 2) := by decide +kernel
theorem dX12_quarrels_97 : decode cX12_quarrels 97 = .ok (.ifCond .eq 25, 3) := by decide +kernel
theorem dX12_quarrels_100 : decode cX12_quarrels 100 = .ok (.aload_n 0, 1) := by decide +kernel
theorem dX12_quarrels_101 : decode cX12_quarrels 101 = .ok (.iconst 0, 1) := by decide +kernel
theorem dX12_quarrels_102 : decode cX12_quarrels 102 = .ok (.iload_n 2, 1) := by decide +kernel
theorem dX12_quarrels_103 : decode cX12_quarrels 103 = .ok (.invokevirtual 319, 3) := by decide +kernel
theorem dX12_quarrels_106 : decode cX12_quarrels 106 = .ok (.ifCond .eq 16, 3) := by decide +kernel
theorem dX12_quarrels_109 : decode cX12_quarrels 109 = .ok (.aload_n 0, 1) := by decide +kernel
theorem dX12_quarrels_110 : decode cX12_quarrels 110 = .ok (.iconst 0, 1) := by decide +kernel
theorem dX12_quarrels_111 : decode cX12_quarrels 111 = .ok (.iload_n 3, 1) := by decide +kernel
theorem dX12_quarrels_112 : decode cX12_quarrels 112 = .ok (.invokevirtual 319, 3) := by decide +kernel
theorem dX12_quarrels_115 : decode cX12_quarrels 115 = .ok (.ifCond .eq 7, 3) := by decide +kernel
theorem dX12_quarrels_118 : decode cX12_quarrels 118 = .ok (.iconst 1, 1) := by decide +kernel
theorem dX12_quarrels_119 : decode cX12_quarrels 119 = .ok (.goto 4, 3) := by decide +kernel
theorem dX12_quarrels_122 : decode cX12_quarrels 122 = .ok (.iconst 0, 1) := by decide +kernel
theorem dX12_quarrels_123 : decode cX12_quarrels 123 = .ok (.iadd, 1) := by decide +kernel
theorem dX12_quarrels_124 : decode cX12_quarrels 124 = .ok (.istore_n 1, 1) := by decide +kernel
theorem dX12_quarrels_125 : decode cX12_quarrels 125 = .ok (.iinc 3 1, 3) := by decide +kernel
theorem dX12_quarrels_128 : decode cX12_quarrels 128 = .ok (.goto (-107), 3) := by decide +kernel
theorem dX12_quarrels_131 : decode cX12_quarrels 131 = .ok (.iinc 2 1, 3) := by decide +kernel
theorem dX12_quarrels_134 : decode cX12_quarrels 134 = .ok (.goto (-125), 3) := by decide +kernel
theorem dX12_quarrels_137 : decode cX12_quarrels 137 = .ok (.iload_n 1, 1) := by decide +kernel
theorem dX12_quarrels_138 : decode cX12_quarrels 138 = .ok (.ireturn, 1) := by decide +kernel
theorem dX12_areAlike_0 : decode cX12_areAlike 0 = .ok (.iconst 1, 1) := by decide +kernel
theorem dX12_areAlike_1 : decode cX12_areAlike 1 = .ok (.istore_n 3, 1) := by decide +kernel
theorem dX12_areAlike_2 : decode cX12_areAlike 2 = .ok (.iconst 0, 1) := by decide +kernel
theorem dX12_areAlike_3 : decode cX12_areAlike 3 = .ok (.istore 4, 2) := by decide +kernel
theorem dX12_areAlike_5 : decode cX12_areAlike 5 = .ok (.iload 4, 2) := by decide +kernel
theorem dX12_areAlike_7 : decode cX12_areAlike 7 = .ok (.aload_n 0, 1) := by decide +kernel
theorem dX12_areAlike_8 : decode cX12_areAlike 8 = .ok (.invokevirtual 297, 3) := by decide +kernel
theorem dX12_areAlike_11 : decode cX12_areAlike 11 = .ok (.if_icmp .ge 38, 3) := by decide +kernel
theorem dX12_areAlike_14 : decode cX12_areAlike 14 = .ok (.iload_n 3, 1) := by decide +kernel
theorem dX12_areAlike_15 : decode cX12_areAlike 15 = .ok (.ifCond .eq 26, 3) := by decide +kernel
theorem dX12_areAlike_18 : decode cX12_areAlike 18 = .ok (.aload_n 0, 1) := by decide +kernel
theorem dX12_areAlike_19 : decode cX12_areAlike 19 = .ok (.iconst 0, 1) := by decide +kernel
theorem dX12_areAlike_20 : decode cX12_areAlike 20 = .ok (.iload_n 1, 1) := by decide +kernel
theorem dX12_areAlike_21 : decode cX12_areAlike 21 = .ok (.iload 4, 2) := by decide +kernel
theorem dX12_areAlike_23 : decode cX12_areAlike 23 = .ok (.invokevirtual 325, 3) := by decide +kernel
theorem dX12_areAlike_26 : decode cX12_areAlike 26 = .ok (.aload_n 0, 1) := by decide +kernel
theorem dX12_areAlike_27 : decode cX12_areAlike 27 = .ok (.iconst 0, 1) := by decide +kernel
theorem dX12_areAlike_28 : decode cX12_areAlike 28 = .ok (.iload_n 2, 1) := by decide +kernel
theorem dX12_areAlike_29 : decode cX12_areAlike 29 = .ok (.iload 4, 2) := by decide +kernel
theorem dX12_areAlike_31 : decode cX12_areAlike 31 = .ok (.invokevirtual 325, 3) := by decide +kernel
theorem dX12_areAlike_34 : decode cX12_areAlike 34 = .ok (.if_icmp .ne 7, 3) := by decide +kernel
theorem dX12_areAlike_37 : decode cX12_areAlike 37 = .ok (.iconst 1, 1) := by decide +kernel
theorem dX12_areAlike_38 : decode cX12_areAlike 38 = .ok (.goto 4, 3) := by decide +kernel
theorem dX12_areAlike_41 : decode cX12_areAlike 41 = .ok (.iconst 0, 1) := by decide +kernel
theorem dX12_areAlike_42 : decode cX12_areAlike 42 = .ok (.istore_n 3, 1) := by decide +kernel
theorem dX12_areAlike_43 : decode cX12_areAlike 43 = .ok (.iinc 4 1, 3) := by decide +kernel
theorem dX12_areAlike_46 : decode cX12_areAlike 46 = .ok (.goto (-41), 3) := by decide +kernel
theorem dX12_areAlike_49 : decode cX12_areAlike 49 = .ok (.iload_n 3, 1) := by decide +kernel
theorem dX12_areAlike_50 : decode cX12_areAlike 50 = .ok (.ireturn, 1) := by decide +kernel
theorem dX12_couples_0 : decode cX12_couples 0 = .ok (.aload_n 0, 1) := by decide +kernel
theorem dX12_couples_1 : decode cX12_couples 1 = .ok (.iconst 0, 1) := by decide +kernel
theorem dX12_couples_2 : decode cX12_couples 2 = .ok (.putfield 1, 3) := by decide +kernel
theorem dX12_couples_5 : decode cX12_couples 5 = .ok (.iconst 0, 1) := by decide +kernel
theorem dX12_couples_6 : decode cX12_couples 6 = .ok (.istore_n 1, 1) := by decide +kernel
theorem dX12_couples_7 : decode cX12_couples 7 = .ok (.iconst 0, 1) := by decide +kernel
theorem dX12_couples_8 : decode cX12_couples 8 = .ok (.istore_n 2, 1) := by decide +kernel
theorem dX12_couples_9 : decode cX12_couples 9 = .ok (.iconst 0, 1) := by decide +kernel
theorem dX12_couples_10 : decode cX12_couples 10 = .ok (.istore_n 3, 1) := by decide +kernel
theorem dX12_couples_11 : decode cX12_couples 11 = .ok (.iload_n 3, 1) := by decide +kernel
theorem dX12_couples_12 : decode cX12_couples 12 = .ok (.aload_n 0, 1) := by decide +kernel
theorem dX12_couples_13 : decode cX12_couples 13 = .ok (.invokevirtual 282, 3) := by decide +kernel
theorem dX12_couples_16 : decode cX12_couples 16 = .ok (.if_icmp .ge 111, 3) := by decide +kernel
theorem dX12_couples_19 : decode cX12_couples 19 = .ok (.iload_n 3, 1) := by decide +kernel
theorem dX12_couples_20 : decode cX12_couples 20 = .ok (.iconst 1, 1) := by decide +kernel
theorem dX12_couples_21 : decode cX12_couples 21 = .ok (.iadd, 1) := by decide +kernel
theorem dX12_couples_22 : decode cX12_couples 22 = .ok (.istore 4, 2) := by decide +kernel
theorem dX12_couples_24 : decode cX12_couples 24 = .ok (.iload 4, 2) := by decide +kernel
theorem dX12_couples_26 : decode cX12_couples 26 = .ok (.aload_n 0, 1) := by decide +kernel
theorem dX12_couples_27 : decode cX12_couples 27 = .ok (.invokevirtual 282, 3) := by decide +kernel
theorem dX12_couples_30 : decode cX12_couples 30 = .ok (.if_icmp .ge 91, 3) := by decide +kernel
theorem dX12_couples_33 : decode cX12_couples 33 = .ok (.iload_n 1, 1) := by decide +kernel
theorem dX12_couples_34 : decode cX12_couples 34 = .ok (.iload_n 3, 1) := by decide +kernel
theorem dX12_couples_35 : decode cX12_couples 35 = .ok (.ishr, 1) := by decide +kernel
theorem dX12_couples_36 : decode cX12_couples 36 = .ok (.iload_n 1, 1) := by decide +kernel
theorem dX12_couples_37 : decode cX12_couples 37 = .ok (.iload 4, 2) := by decide +kernel
theorem dX12_couples_39 : decode cX12_couples 39 = .ok (.ishr, 1) := by decide +kernel
theorem dX12_couples_40 : decode cX12_couples 40 = .ok (.ior, 1) := by decide +kernel
theorem dX12_couples_41 : decode cX12_couples 41 = .ok (.iconst 1, 1) := by decide +kernel
theorem dX12_couples_42 : decode cX12_couples 42 = .ok (.iand, 1) := by decide +kernel
theorem dX12_couples_43 : decode cX12_couples 43 = .ok (.ifCond .ne 36, 3) := by decide +kernel
theorem dX12_couples_46 : decode cX12_couples 46 = .ok (.aload_n 0, 1) := by decide +kernel
theorem dX12_couples_47 : decode cX12_couples 47 = .ok (.iconst 0, 1) := by decide +kernel
theorem dX12_couples_48 : decode cX12_couples 48 = .ok (.iload_n 3, 1) := by decide +kernel
theorem dX12_couples_49 : decode cX12_couples 49 = .ok (.invokevirtual 319, 3) := by decide +kernel
theorem dX12_couples_52 : decode cX12_couples 52 = .ok (.ifCond .eq 27, 3) := by decide +kernel
theorem dX12_couples_55 : decode cX12_couples 55 = .ok (.aload_n 0, 1) := by decide +kernel
theorem dX12_couples_56 : decode cX12_couples 56 = .ok (.iconst 0, 1) := by decide +kernel
theorem dX12_couples_57 : decode cX12_couples 57 = .ok (.iload 4, 2) := by decide +kernel
theorem dX12_couples_59 : decode cX12_couples 59 = .ok (.invokevirtual 319, 3) := by decide +kernel
theorem dX12_couples_62 : decode cX12_couples 62 = .ok (.ifCond .eq 17, 3) := by decide +kernel
theorem dX12_couples_65 : decode cX12_couples 65 = .ok (.aload_n 0, 1) := by decide +kernel
theorem dX12_couples_66 : decode cX12_couples 66 = .ok (.iload_n 3, 1) := by decide +kernel
theorem dX12_couples_67 : decode cX12_couples 67 = .ok (.iload 4, 2) := by decide +kernel
theorem dX12_couples_69 : decode cX12_couples 69 = .ok (.invokevirtual 387, 3) := by decide +kernel
theorem dX12_couples_72 : decode cX12_couples 72 = .ok (.ifCond .eq 7, 3) := by decide +kernel
theorem dX12_couples_75 : decode cX12_couples 75 = .ok (.iconst 1, 1) := by decide +kernel
theorem dX12_couples_76 : decode cX12_couples 76 = .ok (.goto 4, 3) := by decide +kernel
theorem dX12_couples_79 : decode cX12_couples 79 = .ok (.iconst 0, 1) := by decide +kernel
theorem dX12_couples_80 : decode cX12_couples 80 = .ok (.istore 5, 2) := by decide +kernel
theorem dX12_couples_82 : decode cX12_couples 82 = .ok (.iload_n 1, 1) := by decide +kernel
theorem dX12_couples_83 : decode cX12_couples 83 = .ok (.iload 5, 2) := by decide +kernel
theorem dX12_couples_85 : decode cX12_couples 85 = .ok (.ifCond .eq 14, 3) := by decide +kernel
theorem dX12_couples_88 : decode cX12_couples 88 = .ok (.iconst 1, 1) := by decide +kernel
theorem dX12_couples_89 : decode cX12_couples 89 = .ok (.iload_n 3, 1) := by decide +kernel
theorem dX12_couples_90 : decode cX12_couples 90 = .ok (.ishl, 1) := by decide +kernel
theorem dX12_couples_91 : decode cX12_couples 91 = .ok (.iconst 1, 1) := by decide +kernel
theorem dX12_couples_92 : decode cX12_couples 92 = .ok (.iload 4, 2) := by decide +kernel
theorem dX12_couples_94 : decode cX12_couples 94 = .ok (.ishl, 1) := by decide +kernel
theorem dX12_couples_95 : decode cX12_couples 95 = .ok (.ior, 1) := by decide +kernel
theorem dX12_couples_96 : decode cX12_couples 96 = .ok (.goto 4, 3) := by decide +kernel
theorem dX12_couples_99 : decode cX12_couples 99 = .ok (.iconst 0, 1) := by decide +kernel
theorem dX12_couples_100 : decode cX12_couples 100 = .ok (.ior, 1) := by decide +kernel
theorem dX12_couples_101 : decode cX12_couples 101 = .ok (.istore_n 1, 1) := by decide +kernel
theorem dX12_couples_102 : decode cX12_couples 102 = .ok (.iload_n 2, 1) := by decide +kernel
theorem dX12_couples_103 : decode cX12_couples 103 = .ok (.iload 5, 2) := by decide +kernel
theorem dX12_couples_105 : decode cX12_couples 105 = .ok (.ifCond .eq 7, 3) := by decide +kernel
theorem dX12_couples_108 : decode cX12_couples 108 = .ok (.iconst 1, 1) := by decide +kernel
theorem dX12_couples_109 : decode cX12_couples 109 = .ok (.goto 4, 3) := by decide +kernel
theorem dX12_couples_112 : decode cX12_couples 112 = .ok (.iconst 0, 1) := by decide +kernel
theorem dX12_couples_113 : decode cX12_couples 113 = .ok (.iadd, 1) := by decide +kernel
theorem dX12_couples_114 : decode cX12_couples 114 = .ok (.istore_n 2, 1) := by decide +kernel
theorem dX12_couples_115 : decode cX12_couples 115 = .ok (.iinc 4 1, 3) := by decide +kernel
theorem dX12_couples_118 : decode cX12_couples 118 = .ok (.goto (-94), 3) := by decide +kernel
theorem dX12_couples_121 : decode cX12_couples 121 = .ok (.iinc 3 1, 3) := by decide +kernel
theorem dX12_couples_124 : decode cX12_couples 124 = .ok (.goto (-113), 3) := by decide +kernel
theorem dX12_couples_127 : decode cX12_couples 127 = .ok (.iload_n 2, 1) := by decide +kernel
theorem dX12_couples_128 : decode cX12_couples 128 = .ok (.ireturn, 1) := by decide +kernel
theorem dX12_lone_0 : decode cX12_lone 0 = .ok (.aload_n 0, 1) := by decide +kernel
theorem dX12_lone_1 : decode cX12_lone 1 = .ok (.iconst 0, 1) := by decide +kernel
theorem dX12_lone_2 : decode cX12_lone 2 = .ok (.putfield 1, 3) := by decide +kernel
theorem dX12_lone_5 : decode cX12_lone 5 = .ok (.aload_n 0, 1) := by decide +kernel
theorem dX12_lone_6 : decode cX12_lone 6 = .ok (.iload_n 1, 1) := by decide +kernel
theorem dX12_lone_7 : decode cX12_lone 7 = .ok (.invokevirtual 344, 3) := by decide +kernel
theorem dX12_lone_10 : decode cX12_lone 10 = .ok (.ifCond .ne 5, 3) := by decide +kernel
theorem dX12_lone_13 : decode cX12_lone 13 = .ok (.iconst (-1), 1) := by decide +kernel
theorem dX12_lone_14 : decode cX12_lone 14 = .ok (.ireturn, 1) := by decide +kernel
theorem dX12_lone_15 : decode cX12_lone 15 = .ok (.iconst 0, 1) := by decide +kernel
theorem dX12_lone_16 : decode cX12_lone 16 = .ok (.istore_n 2, 1) := by decide +kernel
theorem dX12_lone_17 : decode cX12_lone 17 = .ok (.iconst 0, 1) := by decide +kernel
theorem dX12_lone_18 : decode cX12_lone 18 = .ok (.istore_n 3, 1) := by decide +kernel
theorem dX12_lone_19 : decode cX12_lone 19 = .ok (.iload_n 3, 1) := by decide +kernel
theorem dX12_lone_20 : decode cX12_lone 20 = .ok (.aload_n 0, 1) := by decide +kernel
theorem dX12_lone_21 : decode cX12_lone 21 = .ok (.invokevirtual 297, 3) := by decide +kernel
theorem dX12_lone_24 : decode cX12_lone 24 = .ok (.if_icmp .ge 105, 3) := by decide +kernel
theorem dX12_lone_27 : decode cX12_lone 27 = .ok (.aload_n 0, 1) := by decide +kernel
theorem dX12_lone_28 : decode cX12_lone 28 = .ok (.iconst 0, 1) := by decide +kernel
theorem dX12_lone_29 : decode cX12_lone 29 = .ok (.iload_n 1, 1) := by decide +kernel
theorem dX12_lone_30 : decode cX12_lone 30 = .ok (.iload_n 3, 1) := by decide +kernel
theorem dX12_lone_31 : decode cX12_lone 31 = .ok (.invokevirtual 325, 3) := by decide +kernel
theorem dX12_lone_34 : decode cX12_lone 34 = .ok (.ifCond .lt 7, 3) := by decide +kernel
theorem dX12_lone_37 : decode cX12_lone 37 = .ok (.iconst 1, 1) := by decide +kernel
theorem dX12_lone_38 : decode cX12_lone 38 = .ok (.goto 4, 3) := by decide +kernel
theorem dX12_lone_41 : decode cX12_lone 41 = .ok (.iconst 0, 1) := by decide +kernel
theorem dX12_lone_42 : decode cX12_lone 42 = .ok (.istore 4, 2) := by decide +kernel
theorem dX12_lone_44 : decode cX12_lone 44 = .ok (.iconst 0, 1) := by decide +kernel
theorem dX12_lone_45 : decode cX12_lone 45 = .ok (.istore 5, 2) := by decide +kernel
theorem dX12_lone_47 : decode cX12_lone 47 = .ok (.iload 5, 2) := by decide +kernel
theorem dX12_lone_49 : decode cX12_lone 49 = .ok (.aload_n 0, 1) := by decide +kernel
theorem dX12_lone_50 : decode cX12_lone 50 = .ok (.invokevirtual 282, 3) := by decide +kernel
theorem dX12_lone_53 : decode cX12_lone 53 = .ok (.if_icmp .ge 55, 3) := by decide +kernel
theorem dX12_lone_56 : decode cX12_lone 56 = .ok (.iload 4, 2) := by decide +kernel
theorem dX12_lone_58 : decode cX12_lone 58 = .ok (.ifCond .eq 41, 3) := by decide +kernel
theorem dX12_lone_61 : decode cX12_lone 61 = .ok (.iload 5, 2) := by decide +kernel
theorem dX12_lone_63 : decode cX12_lone 63 = .ok (.iload_n 1, 1) := by decide +kernel
theorem dX12_lone_64 : decode cX12_lone 64 = .ok (.if_icmp .eq 31, 3) := by decide +kernel
theorem dX12_lone_67 : decode cX12_lone 67 = .ok (.aload_n 0, 1) := by decide +kernel
theorem dX12_lone_68 : decode cX12_lone 68 = .ok (.iconst 0, 1) := by decide +kernel
theorem dX12_lone_69 : decode cX12_lone 69 = .ok (.iload 5, 2) := by decide +kernel
theorem dX12_lone_71 : decode cX12_lone 71 = .ok (.invokevirtual 319, 3) := by decide +kernel
theorem dX12_lone_74 : decode cX12_lone 74 = .ok (.ifCond .eq 21, 3) := by decide +kernel
theorem dX12_lone_77 : decode cX12_lone 77 = .ok (.aload_n 0, 1) := by decide +kernel
theorem dX12_lone_78 : decode cX12_lone 78 = .ok (.iconst 0, 1) := by decide +kernel
theorem dX12_lone_79 : decode cX12_lone 79 = .ok (.iload 5, 2) := by decide +kernel
theorem dX12_lone_81 : decode cX12_lone 81 = .ok (.iload_n 3, 1) := by decide +kernel
theorem dX12_lone_82 : decode cX12_lone 82 = .ok (.invokevirtual 325, 3) := by decide +kernel
theorem dX12_lone_85 : decode cX12_lone 85 = .ok (.aload_n 0, 1) := by decide +kernel
theorem dX12_lone_86 : decode cX12_lone 86 = .ok (.iconst 0, 1) := by decide +kernel
theorem dX12_lone_87 : decode cX12_lone 87 = .ok (.iload_n 1, 1) := by decide +kernel
theorem dX12_lone_88 : decode cX12_lone 88 = .ok (.iload_n 3, 1) := by decide +kernel
theorem dX12_lone_89 : decode cX12_lone 89 = .ok (.invokevirtual 325, 3) := by decide +kernel
theorem dX12_lone_92 : decode cX12_lone 92 = .ok (.if_icmp .eq 7, 3) := by decide +kernel
theorem dX12_lone_95 : decode cX12_lone 95 = .ok (.iconst 1, 1) := by decide +kernel
theorem dX12_lone_96 : decode cX12_lone 96 = .ok (.goto 4, 3) := by decide +kernel
theorem dX12_lone_99 : decode cX12_lone 99 = .ok (.iconst 0, 1) := by decide +kernel
theorem dX12_lone_100 : decode cX12_lone 100 = .ok (.istore 4, 2) := by decide +kernel
theorem dX12_lone_102 : decode cX12_lone 102 = .ok (.iinc 5 1, 3) := by decide +kernel
theorem dX12_lone_105 : decode cX12_lone 105 = .ok (.goto (-58), 3) := by decide +kernel
theorem dX12_lone_108 : decode cX12_lone 108 = .ok (.iload_n 2, 1) := by decide +kernel
theorem dX12_lone_109 : decode cX12_lone 109 = .ok (.iload 4, 2) := by decide +kernel
theorem dX12_lone_111 : decode cX12_lone 111 = .ok (.ifCond .eq 9, 3) := by decide +kernel
theorem dX12_lone_114 : decode cX12_lone 114 = .ok (.iconst 1, 1) := by decide +kernel
theorem dX12_lone_115 : decode cX12_lone 115 = .ok (.iload_n 3, 1) := by decide +kernel
theorem dX12_lone_116 : decode cX12_lone 116 = .ok (.ishl, 1) := by decide +kernel
theorem dX12_lone_117 : decode cX12_lone 117 = .ok (.goto 4, 3) := by decide +kernel
theorem dX12_lone_120 : decode cX12_lone 120 = .ok (.iconst 0, 1) := by decide +kernel
theorem dX12_lone_121 : decode cX12_lone 121 = .ok (.ior, 1) := by decide +kernel
theorem dX12_lone_122 : decode cX12_lone 122 = .ok (.istore_n 2, 1) := by decide +kernel
theorem dX12_lone_123 : decode cX12_lone 123 = .ok (.iinc 3 1, 3) := by decide +kernel
theorem dX12_lone_126 : decode cX12_lone 126 = .ok (.goto (-107), 3) := by decide +kernel
theorem dX12_lone_129 : decode cX12_lone 129 = .ok (.iload_n 2, 1) := by decide +kernel
theorem dX12_lone_130 : decode cX12_lone 130 = .ok (.ireturn, 1) := by decide +kernel
theorem dX12_who_0 : decode cX12_who 0 = .ok (.aload_n 0, 1) := by decide +kernel
theorem dX12_who_1 : decode cX12_who 1 = .ok (.iconst 0, 1) := by decide +kernel
theorem dX12_who_2 : decode cX12_who 2 = .ok (.putfield 1, 3) := by decide +kernel
theorem dX12_who_5 : decode cX12_who 5 = .ok (.aload_n 0, 1) := by decide +kernel
theorem dX12_who_6 : decode cX12_who 6 = .ok (.iload_n 1, 1) := by decide +kernel
theorem dX12_who_7 : decode cX12_who 7 = .ok (.invokevirtual 347, 3) := by decide +kernel
theorem dX12_who_10 : decode cX12_who 10 = .ok (.ifCond .eq 12, 3) := by decide +kernel
theorem dX12_who_13 : decode cX12_who 13 = .ok (.iload_n 2, 1) := by decide +kernel
theorem dX12_who_14 : decode cX12_who 14 = .ok (.iconst (-1), 1) := by decide +kernel
theorem dX12_who_15 : decode cX12_who 15 = .ok (.iconst 1, 1) := by decide +kernel
theorem dX12_who_16 : decode cX12_who 16 = .ok (.invokestatic 207, 3) := by decide +kernel
theorem dX12_who_19 : decode cX12_who 19 = .ok (.ifCond .ne 5, 3) := by decide +kernel
theorem dX12_who_22 : decode cX12_who 22 = .ok (.iconst (-1), 1) := by decide +kernel
theorem dX12_who_23 : decode cX12_who 23 = .ok (.ireturn, 1) := by decide +kernel
theorem dX12_who_24 : decode cX12_who 24 = .ok (.iconst 0, 1) := by decide +kernel
theorem dX12_who_25 : decode cX12_who 25 = .ok (.istore_n 3, 1) := by decide +kernel
theorem dX12_who_26 : decode cX12_who 26 = .ok (.iconst 0, 1) := by decide +kernel
theorem dX12_who_27 : decode cX12_who 27 = .ok (.istore 4, 2) := by decide +kernel
theorem dX12_who_29 : decode cX12_who 29 = .ok (.iload 4, 2) := by decide +kernel
theorem dX12_who_31 : decode cX12_who 31 = .ok (.aload_n 0, 1) := by decide +kernel
theorem dX12_who_32 : decode cX12_who 32 = .ok (.invokevirtual 282, 3) := by decide +kernel
theorem dX12_who_35 : decode cX12_who 35 = .ok (.if_icmp .ge 42, 3) := by decide +kernel
theorem dX12_who_38 : decode cX12_who 38 = .ok (.iload_n 3, 1) := by decide +kernel
theorem dX12_who_39 : decode cX12_who 39 = .ok (.aload_n 0, 1) := by decide +kernel
theorem dX12_who_40 : decode cX12_who 40 = .ok (.iconst 0, 1) := by decide +kernel
theorem dX12_who_41 : decode cX12_who 41 = .ok (.iload 4, 2) := by decide +kernel
theorem dX12_who_43 : decode cX12_who 43 = .ok (.invokevirtual 319, 3) := by decide +kernel
theorem dX12_who_46 : decode cX12_who 46 = .ok (.ifCond .eq 22, 3) := by decide +kernel
theorem dX12_who_49 : decode cX12_who 49 = .ok (.aload_n 0, 1) := by decide +kernel
theorem dX12_who_50 : decode cX12_who 50 = .ok (.iconst 0, 1) := by decide +kernel
theorem dX12_who_51 : decode cX12_who 51 = .ok (.iload 4, 2) := by decide +kernel
theorem dX12_who_53 : decode cX12_who 53 = .ok (.iload_n 1, 1) := by decide +kernel
theorem dX12_who_54 : decode cX12_who 54 = .ok (.invokevirtual 325, 3) := by decide +kernel
theorem dX12_who_57 : decode cX12_who 57 = .ok (.iload_n 2, 1) := by decide +kernel
theorem dX12_who_58 : decode cX12_who 58 = .ok (.if_icmp .ne 10, 3) := by decide +kernel
theorem dX12_who_61 : decode cX12_who 61 = .ok (.iconst 1, 1) := by decide +kernel
theorem dX12_who_62 : decode cX12_who 62 = .ok (.iload 4, 2) := by decide +kernel
theorem dX12_who_64 : decode cX12_who 64 = .ok (.ishl, 1) := by decide +kernel
theorem dX12_who_65 : decode cX12_who 65 = .ok (.goto 4, 3) := by decide +kernel
theorem dX12_who_68 : decode cX12_who 68 = .ok (.iconst 0, 1) := by decide +kernel
theorem dX12_who_69 : decode cX12_who 69 = .ok (.ior, 1) := by decide +kernel
theorem dX12_who_70 : decode cX12_who 70 = .ok (.istore_n 3, 1) := by decide +kernel
theorem dX12_who_71 : decode cX12_who 71 = .ok (.iinc 4 1, 3) := by decide +kernel
theorem dX12_who_74 : decode cX12_who 74 = .ok (.goto (-45), 3) := by decide +kernel
theorem dX12_who_77 : decode cX12_who 77 = .ok (.iload_n 3, 1) := by decide +kernel
theorem dX12_who_78 : decode cX12_who 78 = .ok (.ireturn, 1) := by decide +kernel
theorem dX12_clashes_0 : decode cX12_clashes 0 = .ok (.aload_n 0, 1) := by decide +kernel
theorem dX12_clashes_1 : decode cX12_clashes 1 = .ok (.iconst 0, 1) := by decide +kernel
theorem dX12_clashes_2 : decode cX12_clashes 2 = .ok (.putfield 1, 3) := by decide +kernel
theorem dX12_clashes_5 : decode cX12_clashes 5 = .ok (.iconst 0, 1) := by decide +kernel
theorem dX12_clashes_6 : decode cX12_clashes 6 = .ok (.istore_n 1, 1) := by decide +kernel
theorem dX12_clashes_7 : decode cX12_clashes 7 = .ok (.iconst 0, 1) := by decide +kernel
theorem dX12_clashes_8 : decode cX12_clashes 8 = .ok (.istore_n 2, 1) := by decide +kernel
theorem dX12_clashes_9 : decode cX12_clashes 9 = .ok (.iload_n 2, 1) := by decide +kernel
theorem dX12_clashes_10 : decode cX12_clashes 10 = .ok (.aload_n 0, 1) := by decide +kernel
theorem dX12_clashes_11 : decode cX12_clashes 11 = .ok (.invokevirtual 285, 3) := by decide +kernel
theorem dX12_clashes_14 : decode cX12_clashes 14 = .ok (.if_icmp .ge 28, 3) := by decide +kernel
theorem dX12_clashes_17 : decode cX12_clashes 17 = .ok (.iload_n 1, 1) := by decide +kernel
theorem dX12_clashes_18 : decode cX12_clashes 18 = .ok (.aload_n 0, 1) := by decide +kernel
theorem dX12_clashes_19 : decode cX12_clashes 19 = .ok (.iconst 0, 1) := by decide +kernel
theorem dX12_clashes_20 : decode cX12_clashes 20 = .ok (.iload_n 2, 1) := by decide +kernel
theorem dX12_clashes_21 : decode cX12_clashes 21 = .ok (.invokevirtual 316, 3) := by decide +kernel
theorem dX12_clashes_24 : decode cX12_clashes 24 = .ok (.ifCond .eq 9, 3) := by decide +kernel
theorem dX12_clashes_27 : decode cX12_clashes 27 = .ok (.iconst 1, 1) := by decide +kernel
theorem dX12_clashes_28 : decode cX12_clashes 28 = .ok (.iload_n 2, 1) := by decide +kernel
theorem dX12_clashes_29 : decode cX12_clashes 29 = .ok (.ishl, 1) := by decide +kernel
theorem dX12_clashes_30 : decode cX12_clashes 30 = .ok (.goto 4, 3) := by decide +kernel
theorem dX12_clashes_33 : decode cX12_clashes 33 = .ok (.iconst 0, 1) := by decide +kernel
theorem dX12_clashes_34 : decode cX12_clashes 34 = .ok (.ior, 1) := by decide +kernel
theorem dX12_clashes_35 : decode cX12_clashes 35 = .ok (.istore_n 1, 1) := by decide +kernel
theorem dX12_clashes_36 : decode cX12_clashes 36 = .ok (.iinc 2 1, 3) := by decide +kernel
theorem dX12_clashes_39 : decode cX12_clashes 39 = .ok (.goto (-30), 3) := by decide +kernel
theorem dX12_clashes_42 : decode cX12_clashes 42 = .ok (.iload_n 1, 1) := by decide +kernel
theorem dX12_clashes_43 : decode cX12_clashes 43 = .ok (.ireturn, 1) := by decide +kernel
theorem dX12_nextIn_0 : decode cX12_nextIn 0 = .ok (.iload_n 1, 1) := by decide +kernel
theorem dX12_nextIn_1 : decode cX12_nextIn 1 = .ok (.istore_n 2, 1) := by decide +kernel
theorem dX12_nextIn_2 : decode cX12_nextIn 2 = .ok (.iload_n 2, 1) := by decide +kernel
theorem dX12_nextIn_3 : decode cX12_nextIn 3 = .ok (.iconst 1, 1) := by decide +kernel
theorem dX12_nextIn_4 : decode cX12_nextIn 4 = .ok (.iadd, 1) := by decide +kernel
theorem dX12_nextIn_5 : decode cX12_nextIn 5 = .ok (.aload_n 0, 1) := by decide +kernel
theorem dX12_nextIn_6 : decode cX12_nextIn 6 = .ok (.invokevirtual 282, 3) := by decide +kernel
theorem dX12_nextIn_9 : decode cX12_nextIn 9 = .ok (.irem, 1) := by decide +kernel
theorem dX12_nextIn_10 : decode cX12_nextIn 10 = .ok (.istore_n 2, 1) := by decide +kernel
theorem dX12_nextIn_11 : decode cX12_nextIn 11 = .ok (.aload_n 0, 1) := by decide +kernel
theorem dX12_nextIn_12 : decode cX12_nextIn 12 = .ok (.sipush 2058, 3) := by decide +kernel
theorem dX12_nextIn_15 : decode cX12_nextIn 15 = .ok (.iload_n 2, 1) := by decide +kernel
theorem dX12_nextIn_16 : decode cX12_nextIn 16 = .ok (.invokevirtual 319, 3) := by decide +kernel
theorem dX12_nextIn_19 : decode cX12_nextIn 19 = .ok (.ifCond .eq (-17), 3) := by decide +kernel
theorem dX12_nextIn_22 : decode cX12_nextIn 22 = .ok (.iload_n 2, 1) := by decide +kernel
theorem dX12_nextIn_23 : decode cX12_nextIn 23 = .ok (.ireturn, 1) := by decide +kernel
theorem dX12_agree_0 : decode cX12_agree 0 = .ok (.aload_n 0, 1) := by decide +kernel
theorem dX12_agree_1 : decode cX12_agree 1 = .ok (.iconst 0, 1) := by decide +kernel
theorem dX12_agree_2 : decode cX12_agree 2 = .ok (.putfield 1, 3) := by decide +kernel
theorem dX12_agree_5 : decode cX12_agree 5 = .ok (.aload_n 0, 1) := by decide +kernel
theorem dX12_agree_6 : decode cX12_agree 6 = .ok (.iconst 0, 1) := by decide +kernel
theorem dX12_agree_7 : decode cX12_agree 7 = .ok (.sipush 2058, 3) := by decide +kernel
theorem dX12_agree_10 : decode cX12_agree 10 = .ok (.bipush 62, 2) := by decide +kernel
theorem dX12_agree_12 : decode cX12_agree 12 = .ok (.invokevirtual 294, 3) := by decide +kernel
theorem dX12_agree_15 : decode cX12_agree 15 = .ok (.iconst 0, 1) := by decide +kernel
theorem dX12_agree_16 : decode cX12_agree 16 = .ok (.istore_n 1, 1) := by decide +kernel
theorem dX12_agree_17 : decode cX12_agree 17 = .ok (.iload_n 1, 1) := by decide +kernel
theorem dX12_agree_18 : decode cX12_agree 18 = .ok (.bipush 20, 2) := by decide +kernel
theorem dX12_agree_20 : decode cX12_agree 20 = .ok (.if_icmp .gt 60, 3) := by decide +kernel
theorem dX12_agree_23 : decode cX12_agree 23 = .ok (.iconst 0, 1) := by decide +kernel
theorem dX12_agree_24 : decode cX12_agree 24 = .ok (.istore_n 2, 1) := by decide +kernel
theorem dX12_agree_25 : decode cX12_agree 25 = .ok (.iconst 0, 1) := by decide +kernel
theorem dX12_agree_26 : decode cX12_agree 26 = .ok (.istore_n 3, 1) := by decide +kernel
theorem dX12_agree_27 : decode cX12_agree 27 = .ok (.iload_n 3, 1) := by decide +kernel
theorem dX12_agree_28 : decode cX12_agree 28 = .ok (.aload_n 0, 1) := by decide +kernel
theorem dX12_agree_29 : decode cX12_agree 29 = .ok (.invokevirtual 282, 3) := by decide +kernel
theorem dX12_agree_32 : decode cX12_agree 32 = .ok (.if_icmp .ge 36, 3) := by decide +kernel
theorem dX12_agree_35 : decode cX12_agree 35 = .ok (.aload_n 0, 1) := by decide +kernel
theorem dX12_agree_36 : decode cX12_agree 36 = .ok (.sipush 2058, 3) := by decide +kernel
theorem dX12_agree_39 : decode cX12_agree 39 = .ok (.iload_n 3, 1) := by decide +kernel
theorem dX12_agree_40 : decode cX12_agree 40 = .ok (.invokevirtual 319, 3) := by decide +kernel
theorem dX12_agree_43 : decode cX12_agree 43 = .ok (.ifCond .eq 19, 3) := by decide +kernel
theorem dX12_agree_46 : decode cX12_agree 46 = .ok (.iload_n 2, 1) := by decide +kernel
theorem dX12_agree_47 : decode cX12_agree 47 = .ok (.aload_n 0, 1) := by decide +kernel
theorem dX12_agree_48 : decode cX12_agree 48 = .ok (.sipush 2058, 3) := by decide +kernel
theorem dX12_agree_51 : decode cX12_agree 51 = .ok (.iload_n 3, 1) := by decide +kernel
theorem dX12_agree_52 : decode cX12_agree 52 = .ok (.aload_n 0, 1) := by decide +kernel
theorem dX12_agree_53 : decode cX12_agree 53 = .ok (.iload_n 3, 1) := by decide +kernel
theorem dX12_agree_54 : decode cX12_agree 54 = .ok (.invokevirtual 390, 3) := by decide +kernel
theorem dX12_agree_57 : decode cX12_agree 57 = .ok (.invokevirtual 360, 3) := by decide +kernel
theorem dX12_agree_60 : decode cX12_agree 60 = .ok (.iadd, 1) := by decide +kernel
theorem dX12_agree_61 : decode cX12_agree 61 = .ok (.istore_n 2, 1) := by decide +kernel
theorem dX12_agree_62 : decode cX12_agree 62 = .ok (.iinc 3 1, 3) := by decide +kernel
theorem dX12_agree_65 : decode cX12_agree 65 = .ok (.goto (-38), 3) := by decide +kernel
theorem dX12_agree_68 : decode cX12_agree 68 = .ok (.iload_n 2, 1) := by decide +kernel
theorem dX12_agree_69 : decode cX12_agree 69 = .ok (.ifCond .ne 5, 3) := by decide +kernel
theorem dX12_agree_72 : decode cX12_agree 72 = .ok (.iload_n 1, 1) := by decide +kernel
theorem dX12_agree_73 : decode cX12_agree 73 = .ok (.ireturn, 1) := by decide +kernel
theorem dX12_agree_74 : decode cX12_agree 74 = .ok (.iinc 1 1, 3) := by decide +kernel
theorem dX12_agree_77 : decode cX12_agree 77 = .ok (.goto (-60), 3) := by decide +kernel
theorem dX12_agree_80 : decode cX12_agree 80 = .ok (.iconst (-1), 1) := by decide +kernel
theorem dX12_agree_81 : decode cX12_agree 81 = .ok (.ireturn, 1) := by decide +kernel
theorem dX12_tell_0 : decode cX12_tell 0 = .ok (.aload_n 0, 1) := by decide +kernel
theorem dX12_tell_1 : decode cX12_tell 1 = .ok (.iconst 0, 1) := by decide +kernel
theorem dX12_tell_2 : decode cX12_tell 2 = .ok (.putfield 1, 3) := by decide +kernel
theorem dX12_tell_5 : decode cX12_tell 5 = .ok (.aload_n 0, 1) := by decide +kernel
theorem dX12_tell_6 : decode cX12_tell 6 = .ok (.iload_n 1, 1) := by decide +kernel
theorem dX12_tell_7 : decode cX12_tell 7 = .ok (.invokevirtual 344, 3) := by decide +kernel
theorem dX12_tell_10 : decode cX12_tell 10 = .ok (.ifCond .eq 20, 3) := by decide +kernel
theorem dX12_tell_13 : decode cX12_tell 13 = .ok (.aload_n 0, 1) := by decide +kernel
theorem dX12_tell_14 : decode cX12_tell 14 = .ok (.iload_n 2, 1) := by decide +kernel
theorem dX12_tell_15 : decode cX12_tell 15 = .ok (.invokevirtual 347, 3) := by decide +kernel
theorem dX12_tell_18 : decode cX12_tell 18 = .ok (.ifCond .eq 12, 3) := by decide +kernel
theorem dX12_tell_21 : decode cX12_tell 21 = .ok (.iload_n 3, 1) := by decide +kernel
theorem dX12_tell_22 : decode cX12_tell 22 = .ok (.iconst (-1), 1) := by decide +kernel
theorem dX12_tell_23 : decode cX12_tell 23 = .ok (.iconst 1, 1) := by decide +kernel
theorem dX12_tell_24 : decode cX12_tell 24 = .ok (.invokestatic 207, 3) := by decide +kernel
theorem dX12_tell_27 : decode cX12_tell 27 = .ok (.ifCond .ne 5, 3) := by decide +kernel
theorem dX12_tell_30 : decode cX12_tell 30 = .ok (.iconst 0, 1) := by decide +kernel
theorem dX12_tell_31 : decode cX12_tell 31 = .ok (.ireturn, 1) := by decide +kernel
theorem dX12_tell_32 : decode cX12_tell 32 = .ok (.aload_n 0, 1) := by decide +kernel
theorem dX12_tell_33 : decode cX12_tell 33 = .ok (.getfield 119, 3) := by decide +kernel
theorem dX12_tell_36 : decode cX12_tell 36 = .ok (.bipush 62, 2) := by decide +kernel
theorem dX12_tell_38 : decode cX12_tell 38 = .ok (.bipush 6, 2) := by decide +kernel
theorem dX12_tell_40 : decode cX12_tell 40 = .ok (.iload_n 1, 1) := by decide +kernel
theorem dX12_tell_41 : decode cX12_tell 41 = .ok (.imul, 1) := by decide +kernel
theorem dX12_tell_42 : decode cX12_tell 42 = .ok (.iadd, 1) := by decide +kernel
theorem dX12_tell_43 : decode cX12_tell 43 = .ok (.iload_n 2, 1) := by decide +kernel
theorem dX12_tell_44 : decode cX12_tell 44 = .ok (.iadd, 1) := by decide +kernel
theorem dX12_tell_45 : decode cX12_tell 45 = .ok (.iload_n 3, 1) := by decide +kernel
theorem dX12_tell_46 : decode cX12_tell 46 = .ok (.iastore, 1) := by decide +kernel
theorem dX12_tell_47 : decode cX12_tell 47 = .ok (.iconst 1, 1) := by decide +kernel
theorem dX12_tell_48 : decode cX12_tell 48 = .ok (.ireturn, 1) := by decide +kernel
theorem dX12_isTold_0 : decode cX12_isTold 0 = .ok (.iload_n 1, 1) := by decide +kernel
theorem dX12_isTold_1 : decode cX12_isTold 1 = .ok (.aload_n 0, 1) := by decide +kernel
theorem dX12_isTold_2 : decode cX12_isTold 2 = .ok (.invokevirtual 375, 3) := by decide +kernel
theorem dX12_isTold_5 : decode cX12_isTold 5 = .ok (.aload_n 0, 1) := by decide +kernel
theorem dX12_isTold_6 : decode cX12_isTold 6 = .ok (.getfield 119, 3) := by decide +kernel
theorem dX12_isTold_9 : decode cX12_isTold 9 = .ok (.iconst 3, 1) := by decide +kernel
theorem dX12_isTold_10 : decode cX12_isTold 10 = .ok (.iaload, 1) := by decide +kernel
theorem dX12_isTold_11 : decode cX12_isTold 11 = .ok (.iconst (-1), 1) := by decide +kernel
theorem dX12_isTold_12 : decode cX12_isTold 12 = .ok (.ixor, 1) := by decide +kernel
theorem dX12_isTold_13 : decode cX12_isTold 13 = .ok (.iand, 1) := by decide +kernel
theorem dX12_isTold_14 : decode cX12_isTold 14 = .ok (.iconst (-1), 1) := by decide +kernel
theorem dX12_isTold_15 : decode cX12_isTold 15 = .ok (.ixor, 1) := by decide +kernel
theorem dX12_isTold_16 : decode cX12_isTold 16 = .ok (.iand, 1) := by decide +kernel
theorem dX12_isTold_17 : decode cX12_isTold 17 = .ok (.ifCond .eq 5, 3) := by decide +kernel
theorem dX12_isTold_20 : decode cX12_isTold 20 = .ok (.iconst 0, 1) := by decide +kernel
theorem dX12_isTold_21 : decode cX12_isTold 21 = .ok (.ireturn, 1) := by decide +kernel
theorem dX12_isTold_22 : decode cX12_isTold 22 = .ok (.aload_n 0, 1) := by decide +kernel
theorem dX12_isTold_23 : decode cX12_isTold 23 = .ok (.iload_n 1, 1) := by decide +kernel
theorem dX12_isTold_24 : decode cX12_isTold 24 = .ok (.invokevirtual 378, 3) := by decide +kernel
theorem dX12_isTold_27 : decode cX12_isTold 27 = .ok (.iconst 1, 1) := by decide +kernel
theorem dX12_isTold_28 : decode cX12_isTold 28 = .ok (.istore_n 2, 1) := by decide +kernel
theorem dX12_isTold_29 : decode cX12_isTold 29 = .ok (.iconst 0, 1) := by decide +kernel
theorem dX12_isTold_30 : decode cX12_isTold 30 = .ok (.istore_n 3, 1) := by decide +kernel
theorem dX12_isTold_31 : decode cX12_isTold 31 = .ok (.iload_n 3, 1) := by decide +kernel
theorem dX12_isTold_32 : decode cX12_isTold 32 = .ok (.aload_n 0, 1) := by decide +kernel
theorem dX12_isTold_33 : decode cX12_isTold 33 = .ok (.invokevirtual 282, 3) := by decide +kernel
theorem dX12_isTold_36 : decode cX12_isTold 36 = .ok (.if_icmp .ge 76, 3) := by decide +kernel
theorem dX12_isTold_39 : decode cX12_isTold 39 = .ok (.iconst 0, 1) := by decide +kernel
theorem dX12_isTold_40 : decode cX12_isTold 40 = .ok (.istore 4, 2) := by decide +kernel
theorem dX12_isTold_42 : decode cX12_isTold 42 = .ok (.iload 4, 2) := by decide +kernel
theorem dX12_isTold_44 : decode cX12_isTold 44 = .ok (.aload_n 0, 1) := by decide +kernel
theorem dX12_isTold_45 : decode cX12_isTold 45 = .ok (.invokevirtual 297, 3) := by decide +kernel
theorem dX12_isTold_48 : decode cX12_isTold 48 = .ok (.if_icmp .ge 58, 3) := by decide +kernel
theorem dX12_isTold_51 : decode cX12_isTold 51 = .ok (.aload_n 0, 1) := by decide +kernel
theorem dX12_isTold_52 : decode cX12_isTold 52 = .ok (.getfield 119, 3) := by decide +kernel
theorem dX12_isTold_55 : decode cX12_isTold 55 = .ok (.bipush 62, 2) := by decide +kernel
theorem dX12_isTold_57 : decode cX12_isTold 57 = .ok (.bipush 6, 2) := by decide +kernel
theorem dX12_isTold_59 : decode cX12_isTold 59 = .ok (.iload_n 3, 1) := by decide +kernel
theorem dX12_isTold_60 : decode cX12_isTold 60 = .ok (.imul, 1) := by decide +kernel
theorem dX12_isTold_61 : decode cX12_isTold 61 = .ok (.iadd, 1) := by decide +kernel
theorem dX12_isTold_62 : decode cX12_isTold 62 = .ok (.iload 4, 2) := by decide +kernel
theorem dX12_isTold_64 : decode cX12_isTold 64 = .ok (.iadd, 1) := by decide +kernel
theorem dX12_isTold_65 : decode cX12_isTold 65 = .ok (.iaload, 1) := by decide +kernel
theorem dX12_isTold_66 : decode cX12_isTold 66 = .ok (.istore 5, 2) := by decide +kernel
theorem dX12_isTold_68 : decode cX12_isTold 68 = .ok (.iload_n 2, 1) := by decide +kernel
theorem dX12_isTold_69 : decode cX12_isTold 69 = .ok (.ifCond .eq 29, 3) := by decide +kernel
theorem dX12_isTold_72 : decode cX12_isTold 72 = .ok (.iload 5, 2) := by decide +kernel
theorem dX12_isTold_74 : decode cX12_isTold 74 = .ok (.bipush (-2), 2) := by decide +kernel
theorem dX12_isTold_76 : decode cX12_isTold 76 = .ok (.if_icmp .eq 18, 3) := by decide +kernel
theorem dX12_isTold_79 : decode cX12_isTold 79 = .ok (.iload 5, 2) := by decide +kernel
theorem dX12_isTold_81 : decode cX12_isTold 81 = .ok (.aload_n 0, 1) := by decide +kernel
theorem dX12_isTold_82 : decode cX12_isTold 82 = .ok (.sipush 2058, 3) := by decide +kernel
theorem dX12_isTold_85 : decode cX12_isTold 85 = .ok (.iload_n 3, 1) := by decide +kernel
theorem dX12_isTold_86 : decode cX12_isTold 86 = .ok (.iload 4, 2) := by decide +kernel
theorem dX12_isTold_88 : decode cX12_isTold 88 = .ok (.invokevirtual 325, 3) := by decide +kernel
theorem dX12_isTold_91 : decode cX12_isTold 91 = .ok (.if_icmp .ne 7, 3) := by decide +kernel
theorem dX12_isTold_94 : decode cX12_isTold 94 = .ok (.iconst 1, 1) := by decide +kernel
theorem dX12_isTold_95 : decode cX12_isTold 95 = .ok (.goto 4, 3) := by decide +kernel
theorem dX12_isTold_98 : decode cX12_isTold 98 = .ok (.iconst 0, 1) := by decide +kernel
theorem dX12_isTold_99 : decode cX12_isTold 99 = .ok (.istore_n 2, 1) := by decide +kernel
theorem dX12_isTold_100 : decode cX12_isTold 100 = .ok (.iinc 4 1, 3) := by decide +kernel
theorem dX12_isTold_103 : decode cX12_isTold 103 = .ok (.goto (-61), 3) := by decide +kernel
theorem dX12_isTold_106 : decode cX12_isTold 106 = .ok (.iinc 3 1, 3) := by decide +kernel
theorem dX12_isTold_109 : decode cX12_isTold 109 = .ok (.goto (-78), 3) := by decide +kernel
theorem dX12_isTold_112 : decode cX12_isTold 112 = .ok (.iload_n 2, 1) := by decide +kernel
theorem dX12_isTold_113 : decode cX12_isTold 113 = .ok (.ireturn, 1) := by decide +kernel
theorem dX12_sets_0 : decode cX12_sets 0 = .ok (.aload_n 0, 1) := by decide +kernel
theorem dX12_sets_1 : decode cX12_sets 1 = .ok (.iconst 0, 1) := by decide +kernel
theorem dX12_sets_2 : decode cX12_sets 2 = .ok (.putfield 1, 3) := by decide +kernel
theorem dX12_sets_5 : decode cX12_sets 5 = .ok (.iload_n 1, 1) := by decide +kernel
theorem dX12_sets_6 : decode cX12_sets 6 = .ok (.iconst 0, 1) := by decide +kernel
theorem dX12_sets_7 : decode cX12_sets 7 = .ok (.iconst 2, 1) := by decide +kernel
theorem dX12_sets_8 : decode cX12_sets 8 = .ok (.invokestatic 207, 3) := by decide +kernel
theorem dX12_sets_11 : decode cX12_sets 11 = .ok (.ifCond .ne 5, 3) := by decide +kernel
theorem dX12_sets_14 : decode cX12_sets 14 = .ok (.iconst (-1), 1) := by decide +kernel
theorem dX12_sets_15 : decode cX12_sets 15 = .ok (.ireturn, 1) := by decide +kernel
theorem dX12_sets_16 : decode cX12_sets 16 = .ok (.iconst 0, 1) := by decide +kernel
theorem dX12_sets_17 : decode cX12_sets 17 = .ok (.istore_n 2, 1) := by decide +kernel
theorem dX12_sets_18 : decode cX12_sets 18 = .ok (.iconst 1, 1) := by decide +kernel
theorem dX12_sets_19 : decode cX12_sets 19 = .ok (.aload_n 0, 1) := by decide +kernel
theorem dX12_sets_20 : decode cX12_sets 20 = .ok (.invokevirtual 285, 3) := by decide +kernel
theorem dX12_sets_23 : decode cX12_sets 23 = .ok (.ishl, 1) := by decide +kernel
theorem dX12_sets_24 : decode cX12_sets 24 = .ok (.iconst 1, 1) := by decide +kernel
theorem dX12_sets_25 : decode cX12_sets 25 = .ok (.isub, 1) := by decide +kernel
theorem dX12_sets_26 : decode cX12_sets 26 = .ok (.istore_n 3, 1) := by decide +kernel
theorem dX12_sets_27 : decode cX12_sets 27 = .ok (.iconst 0, 1) := by decide +kernel
theorem dX12_sets_28 : decode cX12_sets 28 = .ok (.istore 4, 2) := by decide +kernel
theorem dX12_sets_30 : decode cX12_sets 30 = .ok (.iconst 0, 1) := by decide +kernel
theorem dX12_sets_31 : decode cX12_sets 31 = .ok (.istore 5, 2) := by decide +kernel
theorem dX12_sets_33 : decode cX12_sets 33 = .ok (.iload 5, 2) := by decide +kernel
theorem dX12_sets_35 : decode cX12_sets 35 = .ok (.iconst 1, 1) := by decide +kernel
theorem dX12_sets_36 : decode cX12_sets 36 = .ok (.aload_n 0, 1) := by decide +kernel
theorem dX12_sets_37 : decode cX12_sets 37 = .ok (.invokevirtual 285, 3) := by decide +kernel
theorem dX12_sets_40 : decode cX12_sets 40 = .ok (.ishl, 1) := by decide +kernel
theorem dX12_sets_41 : decode cX12_sets 41 = .ok (.if_icmp .ge 33, 3) := by decide +kernel
theorem dX12_sets_44 : decode cX12_sets 44 = .ok (.aload_n 0, 1) := by decide +kernel
theorem dX12_sets_45 : decode cX12_sets 45 = .ok (.iload 5, 2) := by decide +kernel
theorem dX12_sets_47 : decode cX12_sets 47 = .ok (.invokevirtual 393, 3) := by decide +kernel
theorem dX12_sets_50 : decode cX12_sets 50 = .ok (.ifCond .eq 18, 3) := by decide +kernel
theorem dX12_sets_53 : decode cX12_sets 53 = .ok (.iinc 2 1, 3) := by decide +kernel
theorem dX12_sets_56 : decode cX12_sets 56 = .ok (.iload_n 3, 1) := by decide +kernel
theorem dX12_sets_57 : decode cX12_sets 57 = .ok (.iload 5, 2) := by decide +kernel
theorem dX12_sets_59 : decode cX12_sets 59 = .ok (.iand, 1) := by decide +kernel
theorem dX12_sets_60 : decode cX12_sets 60 = .ok (.istore_n 3, 1) := by decide +kernel
theorem dX12_sets_61 : decode cX12_sets 61 = .ok (.iload 4, 2) := by decide +kernel
theorem dX12_sets_63 : decode cX12_sets 63 = .ok (.iload 5, 2) := by decide +kernel
theorem dX12_sets_65 : decode cX12_sets 65 = .ok (.ior, 1) := by decide +kernel
theorem dX12_sets_66 : decode cX12_sets 66 = .ok (.istore 4, 2) := by decide +kernel
theorem dX12_sets_68 : decode cX12_sets 68 = .ok (.iinc 5 1, 3) := by decide +kernel
theorem dX12_sets_71 : decode cX12_sets 71 = .ok (.goto (-38), 3) := by decide +kernel
theorem dX12_sets_74 : decode cX12_sets 74 = .ok (.iload_n 1, 1) := by decide +kernel
theorem dX12_sets_75 : decode cX12_sets 75 = .ok (.ifCond .ne 7, 3) := by decide +kernel
theorem dX12_sets_78 : decode cX12_sets 78 = .ok (.iload_n 2, 1) := by decide +kernel
theorem dX12_sets_79 : decode cX12_sets 79 = .ok (.goto 22, 3) := by decide +kernel
theorem dX12_sets_82 : decode cX12_sets 82 = .ok (.iload_n 2, 1) := by decide +kernel
theorem dX12_sets_83 : decode cX12_sets 83 = .ok (.ifCond .ne 7, 3) := by decide +kernel
theorem dX12_sets_86 : decode cX12_sets 86 = .ok (.iconst (-1), 1) := by decide +kernel
theorem dX12_sets_87 : decode cX12_sets 87 = .ok (.goto 14, 3) := by decide +kernel
theorem dX12_sets_90 : decode cX12_sets 90 = .ok (.iload_n 1, 1) := by decide +kernel
theorem dX12_sets_91 : decode cX12_sets 91 = .ok (.iconst 1, 1) := by decide +kernel
theorem dX12_sets_92 : decode cX12_sets 92 = .ok (.if_icmp .ne 7, 3) := by decide +kernel
theorem dX12_sets_95 : decode cX12_sets 95 = .ok (.iload_n 3, 1) := by decide +kernel
theorem dX12_sets_96 : decode cX12_sets 96 = .ok (.goto 5, 3) := by decide +kernel
theorem dX12_sets_99 : decode cX12_sets 99 = .ok (.iload 4, 2) := by decide +kernel
theorem dX12_sets_101 : decode cX12_sets 101 = .ok (.ireturn, 1) := by decide +kernel
theorem dX12_ask_0 : decode cX12_ask 0 = .ok (.aload_n 0, 1) := by decide +kernel
theorem dX12_ask_1 : decode cX12_ask 1 = .ok (.iconst 0, 1) := by decide +kernel
theorem dX12_ask_2 : decode cX12_ask 2 = .ok (.putfield 1, 3) := by decide +kernel
theorem dX12_ask_5 : decode cX12_ask 5 = .ok (.iconst 0, 1) := by decide +kernel
theorem dX12_ask_6 : decode cX12_ask 6 = .ok (.istore_n 1, 1) := by decide +kernel
theorem dX12_ask_7 : decode cX12_ask 7 = .ok (.iload_n 1, 1) := by decide +kernel
theorem dX12_ask_8 : decode cX12_ask 8 = .ok (.bipush 108, 2) := by decide +kernel
theorem dX12_ask_10 : decode cX12_ask 10 = .ok (.if_icmp .ge 16, 3) := by decide +kernel
theorem dX12_ask_13 : decode cX12_ask 13 = .ok (.aload_n 0, 1) := by decide +kernel
theorem dX12_ask_14 : decode cX12_ask 14 = .ok (.getfield 129, 3) := by decide +kernel
theorem dX12_ask_17 : decode cX12_ask 17 = .ok (.iload_n 1, 1) := by decide +kernel
theorem dX12_ask_18 : decode cX12_ask 18 = .ok (.iconst 0, 1) := by decide +kernel
theorem dX12_ask_19 : decode cX12_ask 19 = .ok (.iastore, 1) := by decide +kernel
theorem dX12_ask_20 : decode cX12_ask 20 = .ok (.iinc 1 1, 3) := by decide +kernel
theorem dX12_ask_23 : decode cX12_ask 23 = .ok (.goto (-16), 3) := by decide +kernel
theorem dX12_ask_26 : decode cX12_ask 26 = .ok (.iconst 0, 1) := by decide +kernel
theorem dX12_ask_27 : decode cX12_ask 27 = .ok (.istore_n 1, 1) := by decide +kernel
theorem dX12_ask_28 : decode cX12_ask 28 = .ok (.iconst 0, 1) := by decide +kernel
theorem dX12_ask_29 : decode cX12_ask 29 = .ok (.istore_n 2, 1) := by decide +kernel
theorem dX12_ask_30 : decode cX12_ask 30 = .ok (.iload_n 2, 1) := by decide +kernel
theorem dX12_ask_31 : decode cX12_ask 31 = .ok (.iconst 1, 1) := by decide +kernel
theorem dX12_ask_32 : decode cX12_ask 32 = .ok (.aload_n 0, 1) := by decide +kernel
theorem dX12_ask_33 : decode cX12_ask 33 = .ok (.invokevirtual 285, 3) := by decide +kernel
theorem dX12_ask_36 : decode cX12_ask 36 = .ok (.ishl, 1) := by decide +kernel
theorem dX12_ask_37 : decode cX12_ask 37 = .ok (.if_icmp .ge 59, 3) := by decide +kernel
theorem dX12_ask_40 : decode cX12_ask 40 = .ok (.aload_n 0, 1) := by decide +kernel
theorem dX12_ask_41 : decode cX12_ask 41 = .ok (.iload_n 2, 1) := by decide +kernel
theorem dX12_ask_42 : decode cX12_ask 42 = .ok (.invokevirtual 393, 3) := by decide +kernel
theorem dX12_ask_45 : decode cX12_ask 45 = .ok (.ifCond .eq 45, 3) := by decide +kernel
theorem dX12_ask_48 : decode cX12_ask 48 = .ok (.iinc 1 1, 3) := by decide +kernel
theorem dX12_ask_51 : decode cX12_ask 51 = .ok (.iconst 0, 1) := by decide +kernel
theorem dX12_ask_52 : decode cX12_ask 52 = .ok (.istore_n 3, 1) := by decide +kernel
theorem dX12_ask_53 : decode cX12_ask 53 = .ok (.iload_n 3, 1) := by decide +kernel
theorem dX12_ask_54 : decode cX12_ask 54 = .ok (.bipush 36, 2) := by decide +kernel
theorem dX12_ask_56 : decode cX12_ask 56 = .ok (.if_icmp .ge 34, 3) := by decide +kernel
theorem dX12_ask_59 : decode cX12_ask 59 = .ok (.aload_n 0, 1) := by decide +kernel
theorem dX12_ask_60 : decode cX12_ask 60 = .ok (.getfield 129, 3) := by decide +kernel
theorem dX12_ask_63 : decode cX12_ask 63 = .ok (.iconst 3, 1) := by decide +kernel
theorem dX12_ask_64 : decode cX12_ask 64 = .ok (.iload_n 3, 1) := by decide +kernel
theorem dX12_ask_65 : decode cX12_ask 65 = .ok (.imul, 1) := by decide +kernel
theorem dX12_ask_66 : decode cX12_ask 66 = .ok (.iconst 1, 1) := by decide +kernel
theorem dX12_ask_67 : decode cX12_ask 67 = .ok (.iadd, 1) := by decide +kernel
theorem dX12_ask_68 : decode cX12_ask 68 = .ok (.aload_n 0, 1) := by decide +kernel
theorem dX12_ask_69 : decode cX12_ask 69 = .ok (.getfield 119, 3) := by decide +kernel
theorem dX12_ask_72 : decode cX12_ask 72 = .ok (.sipush 2078, 3) := by decide +kernel
theorem dX12_ask_75 : decode cX12_ask 75 = .ok (.iload_n 3, 1) := by decide +kernel
theorem dX12_ask_76 : decode cX12_ask 76 = .ok (.iadd, 1) := by decide +kernel
theorem dX12_ask_77 : decode cX12_ask 77 = .ok (.iaload, 1) := by decide +kernel
theorem dX12_ask_78 : decode cX12_ask 78 = .ok (.iadd, 1) := by decide +kernel
theorem dX12_ask_79 : decode cX12_ask 79 = .ok (.dup2, 1) := by decide +kernel
theorem dX12_ask_80 : decode cX12_ask 80 = .ok (.iaload, 1) := by decide +kernel
theorem dX12_ask_81 : decode cX12_ask 81 = .ok (.iconst 1, 1) := by decide +kernel
theorem dX12_ask_82 : decode cX12_ask 82 = .ok (.iadd, 1) := by decide +kernel
theorem dX12_ask_83 : decode cX12_ask 83 = .ok (.iastore, 1) := by decide +kernel
theorem dX12_ask_84 : decode cX12_ask 84 = .ok (.iinc 3 1, 3) := by decide +kernel
theorem dX12_ask_87 : decode cX12_ask 87 = .ok (.goto (-34), 3) := by decide +kernel
theorem dX12_ask_90 : decode cX12_ask 90 = .ok (.iinc 2 1, 3) := by decide +kernel
theorem dX12_ask_93 : decode cX12_ask 93 = .ok (.goto (-63), 3) := by decide +kernel
theorem dX12_ask_96 : decode cX12_ask 96 = .ok (.iconst (-1), 1) := by decide +kernel
theorem dX12_ask_97 : decode cX12_ask 97 = .ok (.istore_n 2, 1) := by decide +kernel
theorem dX12_ask_98 : decode cX12_ask 98 = .ok (.iload_n 1, 1) := by decide +kernel
theorem dX12_ask_99 : decode cX12_ask 99 = .ok (.istore_n 3, 1) := by decide +kernel
theorem dX12_ask_100 : decode cX12_ask 100 = .ok (.iconst 0, 1) := by decide +kernel
theorem dX12_ask_101 : decode cX12_ask 101 = .ok (.istore 4, 2) := by decide +kernel
theorem dX12_ask_103 : decode cX12_ask 103 = .ok (.iload 4, 2) := by decide +kernel
theorem dX12_ask_105 : decode cX12_ask 105 = .ok (.aload_n 0, 1) := by decide +kernel
theorem dX12_ask_106 : decode cX12_ask 106 = .ok (.invokevirtual 282, 3) := by decide +kernel
theorem dX12_ask_109 : decode cX12_ask 109 = .ok (.if_icmp .ge 149, 3) := by decide +kernel
theorem dX12_ask_112 : decode cX12_ask 112 = .ok (.iconst 0, 1) := by decide +kernel
theorem dX12_ask_113 : decode cX12_ask 113 = .ok (.istore 5, 2) := by decide +kernel
theorem dX12_ask_115 : decode cX12_ask 115 = .ok (.iload 5, 2) := by decide +kernel
theorem dX12_ask_117 : decode cX12_ask 117 = .ok (.aload_n 0, 1) := by decide +kernel
theorem dX12_ask_118 : decode cX12_ask 118 = .ok (.invokevirtual 297, 3) := by decide +kernel
theorem dX12_ask_121 : decode cX12_ask 121 = .ok (.if_icmp .ge 131, 3) := by decide +kernel
theorem dX12_ask_124 : decode cX12_ask 124 = .ok (.bipush 6, 2) := by decide +kernel
theorem dX12_ask_126 : decode cX12_ask 126 = .ok (.iload 4, 2) := by decide +kernel
theorem dX12_ask_128 : decode cX12_ask 128 = .ok (.imul, 1) := by decide +kernel
theorem dX12_ask_129 : decode cX12_ask 129 = .ok (.iload 5, 2) := by decide +kernel
theorem dX12_ask_131 : decode cX12_ask 131 = .ok (.iadd, 1) := by decide +kernel
theorem dX12_ask_132 : decode cX12_ask 132 = .ok (.istore 6, 2) := by decide +kernel
theorem dX12_ask_134 : decode cX12_ask 134 = .ok (.iconst 0, 1) := by decide +kernel
theorem dX12_ask_135 : decode cX12_ask 135 = .ok (.istore 7, 2) := by decide +kernel
theorem dX12_ask_137 : decode cX12_ask 137 = .ok (.iconst 0, 1) := by decide +kernel
theorem dX12_ask_138 : decode cX12_ask 138 = .ok (.istore 8, 2) := by decide +kernel
theorem dX12_ask_140 : decode cX12_ask 140 = .ok (.iload 8, 2) := by decide +kernel
theorem dX12_ask_142 : decode cX12_ask 142 = .ok (.iconst 3, 1) := by decide +kernel
theorem dX12_ask_143 : decode cX12_ask 143 = .ok (.if_icmp .ge 45, 3) := by decide +kernel
theorem dX12_ask_146 : decode cX12_ask 146 = .ok (.aload_n 0, 1) := by decide +kernel
theorem dX12_ask_147 : decode cX12_ask 147 = .ok (.getfield 129, 3) := by decide +kernel
theorem dX12_ask_150 : decode cX12_ask 150 = .ok (.iconst 3, 1) := by decide +kernel
theorem dX12_ask_151 : decode cX12_ask 151 = .ok (.iload 6, 2) := by decide +kernel
theorem dX12_ask_153 : decode cX12_ask 153 = .ok (.imul, 1) := by decide +kernel
theorem dX12_ask_154 : decode cX12_ask 154 = .ok (.iload 8, 2) := by decide +kernel
theorem dX12_ask_156 : decode cX12_ask 156 = .ok (.iadd, 1) := by decide +kernel
theorem dX12_ask_157 : decode cX12_ask 157 = .ok (.iaload, 1) := by decide +kernel
theorem dX12_ask_158 : decode cX12_ask 158 = .ok (.iload 7, 2) := by decide +kernel
theorem dX12_ask_160 : decode cX12_ask 160 = .ok (.if_icmp .le 18, 3) := by decide +kernel
theorem dX12_ask_163 : decode cX12_ask 163 = .ok (.aload_n 0, 1) := by decide +kernel
theorem dX12_ask_164 : decode cX12_ask 164 = .ok (.getfield 129, 3) := by decide +kernel
theorem dX12_ask_167 : decode cX12_ask 167 = .ok (.iconst 3, 1) := by decide +kernel
theorem dX12_ask_168 : decode cX12_ask 168 = .ok (.iload 6, 2) := by decide +kernel
theorem dX12_ask_170 : decode cX12_ask 170 = .ok (.imul, 1) := by decide +kernel
theorem dX12_ask_171 : decode cX12_ask 171 = .ok (.iload 8, 2) := by decide +kernel
theorem dX12_ask_173 : decode cX12_ask 173 = .ok (.iadd, 1) := by decide +kernel
theorem dX12_ask_174 : decode cX12_ask 174 = .ok (.iaload, 1) := by decide +kernel
theorem dX12_ask_175 : decode cX12_ask 175 = .ok (.goto 5, 3) := by decide +kernel
theorem dX12_ask_178 : decode cX12_ask 178 = .ok (.iload 7, 2) := by decide +kernel
theorem dX12_ask_180 : decode cX12_ask 180 = .ok (.istore 7, 2) := by decide +kernel
theorem dX12_ask_182 : decode cX12_ask 182 = .ok (.iinc 8 1, 3) := by decide +kernel
theorem dX12_ask_185 : decode cX12_ask 185 = .ok (.goto (-45), 3) := by decide +kernel
theorem dX12_ask_188 : decode cX12_ask 188 = .ok (.aload_n 0, 1) := by decide +kernel
theorem dX12_ask_189 : decode cX12_ask 189 = .ok (.getfield 119, 3) := by decide +kernel
theorem dX12_ask_192 : decode cX12_ask 192 = .ok (.bipush 62, 2) := by decide +kernel
theorem dX12_ask_194 : decode cX12_ask 194 = .ok (.iload 6, 2) := by decide +kernel
theorem dX12_ask_196 : decode cX12_ask 196 = .ok (.iadd, 1) := by decide +kernel
theorem dX12_ask_197 : decode cX12_ask 197 = .ok (.iaload, 1) := by decide +kernel
theorem dX12_ask_198 : decode cX12_ask 198 = .ok (.bipush (-2), 2) := by decide +kernel
theorem dX12_ask_200 : decode cX12_ask 200 = .ok (.if_icmp .ne 13, 3) := by decide +kernel
theorem dX12_ask_203 : decode cX12_ask 203 = .ok (.iload 7, 2) := by decide +kernel
theorem dX12_ask_205 : decode cX12_ask 205 = .ok (.iload_n 3, 1) := by decide +kernel
theorem dX12_ask_206 : decode cX12_ask 206 = .ok (.if_icmp .ge 7, 3) := by decide +kernel
theorem dX12_ask_209 : decode cX12_ask 209 = .ok (.iconst 1, 1) := by decide +kernel
theorem dX12_ask_210 : decode cX12_ask 210 = .ok (.goto 4, 3) := by decide +kernel
theorem dX12_ask_213 : decode cX12_ask 213 = .ok (.iconst 0, 1) := by decide +kernel
theorem dX12_ask_214 : decode cX12_ask 214 = .ok (.istore 8, 2) := by decide +kernel
theorem dX12_ask_216 : decode cX12_ask 216 = .ok (.iload 8, 2) := by decide +kernel
theorem dX12_ask_218 : decode cX12_ask 218 = .ok (.ifCond .eq 14, 3) := by decide +kernel
theorem dX12_ask_221 : decode cX12_ask 221 = .ok (.bipush 8, 2) := by decide +kernel
theorem dX12_ask_223 : decode cX12_ask 223 = .ok (.iload 4, 2) := by decide +kernel
theorem dX12_ask_225 : decode cX12_ask 225 = .ok (.imul, 1) := by decide +kernel
theorem dX12_ask_226 : decode cX12_ask 226 = .ok (.iload 5, 2) := by decide +kernel
theorem dX12_ask_228 : decode cX12_ask 228 = .ok (.iadd, 1) := by decide +kernel
theorem dX12_ask_229 : decode cX12_ask 229 = .ok (.goto 4, 3) := by decide +kernel
theorem dX12_ask_232 : decode cX12_ask 232 = .ok (.iload_n 2, 1) := by decide +kernel
theorem dX12_ask_233 : decode cX12_ask 233 = .ok (.istore_n 2, 1) := by decide +kernel
theorem dX12_ask_234 : decode cX12_ask 234 = .ok (.iload 8, 2) := by decide +kernel
theorem dX12_ask_236 : decode cX12_ask 236 = .ok (.ifCond .eq 8, 3) := by decide +kernel
theorem dX12_ask_239 : decode cX12_ask 239 = .ok (.iload 7, 2) := by decide +kernel
theorem dX12_ask_241 : decode cX12_ask 241 = .ok (.goto 4, 3) := by decide +kernel
theorem dX12_ask_244 : decode cX12_ask 244 = .ok (.iload_n 3, 1) := by decide +kernel
theorem dX12_ask_245 : decode cX12_ask 245 = .ok (.istore_n 3, 1) := by decide +kernel
theorem dX12_ask_246 : decode cX12_ask 246 = .ok (.iinc 5 1, 3) := by decide +kernel
theorem dX12_ask_249 : decode cX12_ask 249 = .ok (.goto (-134), 3) := by decide +kernel
theorem dX12_ask_252 : decode cX12_ask 252 = .ok (.iinc 4 1, 3) := by decide +kernel
theorem dX12_ask_255 : decode cX12_ask 255 = .ok (.goto (-152), 3) := by decide +kernel
theorem dX12_ask_258 : decode cX12_ask 258 = .ok (.iload_n 2, 1) := by decide +kernel
theorem dX12_ask_259 : decode cX12_ask 259 = .ok (.ireturn, 1) := by decide +kernel
theorem dX12_chance_0 : decode cX12_chance 0 = .ok (.aload_n 0, 1) := by decide +kernel
theorem dX12_chance_1 : decode cX12_chance 1 = .ok (.iconst 0, 1) := by decide +kernel
theorem dX12_chance_2 : decode cX12_chance 2 = .ok (.putfield 1, 3) := by decide +kernel
theorem dX12_chance_5 : decode cX12_chance 5 = .ok (.aload_n 0, 1) := by decide +kernel
theorem dX12_chance_6 : decode cX12_chance 6 = .ok (.iload_n 1, 1) := by decide +kernel
theorem dX12_chance_7 : decode cX12_chance 7 = .ok (.invokevirtual 344, 3) := by decide +kernel
theorem dX12_chance_10 : decode cX12_chance 10 = .ok (.ifCond .eq 21, 3) := by decide +kernel
theorem dX12_chance_13 : decode cX12_chance 13 = .ok (.aload_n 0, 1) := by decide +kernel
theorem dX12_chance_14 : decode cX12_chance 14 = .ok (.iload_n 2, 1) := by decide +kernel
theorem dX12_chance_15 : decode cX12_chance 15 = .ok (.invokevirtual 347, 3) := by decide +kernel
theorem dX12_chance_18 : decode cX12_chance 18 = .ok (.ifCond .eq 13, 3) := by decide +kernel
theorem dX12_chance_21 : decode cX12_chance 21 = .ok (.iload_n 3, 1) := by decide +kernel
theorem dX12_chance_22 : decode cX12_chance 22 = .ok (.iconst 0, 1) := by decide +kernel
theorem dX12_chance_23 : decode cX12_chance 23 = .ok (.bipush 10, 2) := by decide +kernel
theorem dX12_chance_25 : decode cX12_chance 25 = .ok (.invokestatic 207, 3) := by decide +kernel
theorem dX12_chance_28 : decode cX12_chance 28 = .ok (.ifCond .ne 5, 3) := by decide +kernel
theorem dX12_chance_31 : decode cX12_chance 31 = .ok (.iconst (-1), 1) := by decide +kernel
theorem dX12_chance_32 : decode cX12_chance 32 = .ok (.ireturn, 1) := by decide +kernel
theorem dX12_chance_33 : decode cX12_chance 33 = .ok (.aload_n 0, 1) := by decide +kernel
theorem dX12_chance_34 : decode cX12_chance 34 = .ok (.invokevirtual 375, 3) := by decide +kernel
theorem dX12_chance_37 : decode cX12_chance 37 = .ok (.aload_n 0, 1) := by decide +kernel
theorem dX12_chance_38 : decode cX12_chance 38 = .ok (.getfield 119, 3) := by decide +kernel
theorem dX12_chance_41 : decode cX12_chance 41 = .ok (.iconst 3, 1) := by decide +kernel
theorem dX12_chance_42 : decode cX12_chance 42 = .ok (.iaload, 1) := by decide +kernel
theorem dX12_chance_43 : decode cX12_chance 43 = .ok (.iconst (-1), 1) := by decide +kernel
theorem dX12_chance_44 : decode cX12_chance 44 = .ok (.ixor, 1) := by decide +kernel
theorem dX12_chance_45 : decode cX12_chance 45 = .ok (.iand, 1) := by decide +kernel
theorem dX12_chance_46 : decode cX12_chance 46 = .ok (.istore 4, 2) := by decide +kernel
theorem dX12_chance_48 : decode cX12_chance 48 = .ok (.lconst 1, 1) := by decide +kernel
theorem dX12_chance_49 : decode cX12_chance 49 = .ok (.lstore 5, 2) := by decide +kernel
theorem dX12_chance_51 : decode cX12_chance 51 = .ok (.lconst 0, 1) := by decide +kernel
theorem dX12_chance_52 : decode cX12_chance 52 = .ok (.lstore 7, 2) := by decide +kernel
theorem dX12_chance_54 : decode cX12_chance 54 = .ok (.iload 4, 2) := by decide +kernel
theorem dX12_chance_56 : decode cX12_chance 56 = .ok (.invokestatic 369, 3) := by decide +kernel
theorem dX12_chance_59 : decode cX12_chance 59 = .ok (.istore 9, 2) := by decide +kernel
theorem dX12_chance_61 : decode cX12_chance 61 = .ok (.iload 9, 2) := by decide +kernel
theorem dX12_chance_63 : decode cX12_chance 63 = .ok (.ifCond .le 17, 3) := by decide +kernel
theorem dX12_chance_66 : decode cX12_chance 66 = .ok (.lload 5, 2) := by decide +kernel
theorem dX12_chance_68 : decode cX12_chance 68 = .ok (.ldc2_w 155, 3) := by decide +kernel
theorem dX12_chance_71 : decode cX12_chance 71 = .ok (.lmul, 1) := by decide +kernel
theorem dX12_chance_72 : decode cX12_chance 72 = .ok (.lstore 5, 2) := by decide +kernel
theorem dX12_chance_74 : decode cX12_chance 74 = .ok (.iinc 9 (-1), 3) := by decide +kernel
theorem dX12_chance_77 : decode cX12_chance 77 = .ok (.goto (-16), 3) := by decide +kernel
theorem dX12_chance_80 : decode cX12_chance 80 = .ok (.iconst 0, 1) := by decide +kernel
theorem dX12_chance_81 : decode cX12_chance 81 = .ok (.istore 9, 2) := by decide +kernel
theorem dX12_chance_83 : decode cX12_chance 83 = .ok (.iload 9, 2) := by decide +kernel
theorem dX12_chance_85 : decode cX12_chance 85 = .ok (.iconst 1, 1) := by decide +kernel
theorem dX12_chance_86 : decode cX12_chance 86 = .ok (.aload_n 0, 1) := by decide +kernel
theorem dX12_chance_87 : decode cX12_chance 87 = .ok (.invokevirtual 285, 3) := by decide +kernel
theorem dX12_chance_90 : decode cX12_chance 90 = .ok (.ishl, 1) := by decide +kernel
theorem dX12_chance_91 : decode cX12_chance 91 = .ok (.if_icmp .ge 117, 3) := by decide +kernel
theorem dX12_chance_94 : decode cX12_chance 94 = .ok (.iload 9, 2) := by decide +kernel
theorem dX12_chance_96 : decode cX12_chance 96 = .ok (.iload 4, 2) := by decide +kernel
theorem dX12_chance_98 : decode cX12_chance 98 = .ok (.iconst (-1), 1) := by decide +kernel
theorem dX12_chance_99 : decode cX12_chance 99 = .ok (.ixor, 1) := by decide +kernel
theorem dX12_chance_100 : decode cX12_chance 100 = .ok (.iand, 1) := by decide +kernel
theorem dX12_chance_101 : decode cX12_chance 101 = .ok (.ifCond .ne 101, 3) := by decide +kernel
theorem dX12_chance_104 : decode cX12_chance 104 = .ok (.lconst 1, 1) := by decide +kernel
theorem dX12_chance_105 : decode cX12_chance 105 = .ok (.lstore 10, 2) := by decide +kernel
theorem dX12_chance_107 : decode cX12_chance 107 = .ok (.iconst 0, 1) := by decide +kernel
theorem dX12_chance_108 : decode cX12_chance 108 = .ok (.istore 12, 2) := by decide +kernel
theorem dX12_chance_110 : decode cX12_chance 110 = .ok (.iload 12, 2) := by decide +kernel
theorem dX12_chance_112 : decode cX12_chance 112 = .ok (.aload_n 0, 1) := by decide +kernel
theorem dX12_chance_113 : decode cX12_chance 113 = .ok (.invokevirtual 285, 3) := by decide +kernel
theorem dX12_chance_116 : decode cX12_chance 116 = .ok (.if_icmp .ge 49, 3) := by decide +kernel
theorem dX12_chance_119 : decode cX12_chance 119 = .ok (.lload 10, 2) := by decide +kernel
theorem dX12_chance_121 : decode cX12_chance 121 = .ok (.iload 4, 2) := by decide +kernel
theorem dX12_chance_123 : decode cX12_chance 123 = .ok (.iload 12, 2) := by decide +kernel
theorem dX12_chance_125 : decode cX12_chance 125 = .ok (.ishr, 1) := by decide +kernel
theorem dX12_chance_126 : decode cX12_chance 126 = .ok (.iconst 1, 1) := by decide +kernel
theorem dX12_chance_127 : decode cX12_chance 127 = .ok (.iand, 1) := by decide +kernel
theorem dX12_chance_128 : decode cX12_chance 128 = .ok (.ifCond .ne 7, 3) := by decide +kernel
theorem dX12_chance_131 : decode cX12_chance 131 = .ok (.lconst 1, 1) := by decide +kernel
theorem dX12_chance_132 : decode cX12_chance 132 = .ok (.goto 24, 3) := by decide +kernel
theorem dX12_chance_135 : decode cX12_chance 135 = .ok (.iload 9, 2) := by decide +kernel
theorem dX12_chance_137 : decode cX12_chance 137 = .ok (.iload 12, 2) := by decide +kernel
theorem dX12_chance_139 : decode cX12_chance 139 = .ok (.ishr, 1) := by decide +kernel
theorem dX12_chance_140 : decode cX12_chance 140 = .ok (.iconst 1, 1) := by decide +kernel
theorem dX12_chance_141 : decode cX12_chance 141 = .ok (.iand, 1) := by decide +kernel
theorem dX12_chance_142 : decode cX12_chance 142 = .ok (.iconst 1, 1) := by decide +kernel
theorem dX12_chance_143 : decode cX12_chance 143 = .ok (.if_icmp .ne 8, 3) := by decide +kernel
theorem dX12_chance_146 : decode cX12_chance 146 = .ok (.iload_n 3, 1) := by decide +kernel
theorem dX12_chance_147 : decode cX12_chance 147 = .ok (.i2l, 1) := by decide +kernel
theorem dX12_chance_148 : decode cX12_chance 148 = .ok (.goto 8, 3) := by decide +kernel
theorem dX12_chance_151 : decode cX12_chance 151 = .ok (.bipush 10, 2) := by decide +kernel
theorem dX12_chance_153 : decode cX12_chance 153 = .ok (.iload_n 3, 1) := by decide +kernel
theorem dX12_chance_154 : decode cX12_chance 154 = .ok (.isub, 1) := by decide +kernel
theorem dX12_chance_155 : decode cX12_chance 155 = .ok (.i2l, 1) := by decide +kernel
theorem dX12_chance_156 : decode cX12_chance 156 = .ok (.lmul, 1) := by decide +kernel
theorem dX12_chance_157 : decode cX12_chance 157 = .ok (.lstore 10, 2) := by decide +kernel
theorem dX12_chance_159 : decode cX12_chance 159 = .ok (.iinc 12 1, 3) := by decide +kernel
theorem dX12_chance_162 : decode cX12_chance 162 = .ok (.goto (-52), 3) := by decide +kernel
theorem dX12_chance_165 : decode cX12_chance 165 = .ok (.lload 10, 2) := by decide +kernel
theorem dX12_chance_167 : decode cX12_chance 167 = .ok (.lconst 0, 1) := by decide +kernel
theorem dX12_chance_168 : decode cX12_chance 168 = .ok (.lcmp, 1) := by decide +kernel
theorem dX12_chance_169 : decode cX12_chance 169 = .ok (.ifCond .le 33, 3) := by decide +kernel
theorem dX12_chance_172 : decode cX12_chance 172 = .ok (.aload_n 0, 1) := by decide +kernel
theorem dX12_chance_173 : decode cX12_chance 173 = .ok (.iload 9, 2) := by decide +kernel
theorem dX12_chance_175 : decode cX12_chance 175 = .ok (.invokevirtual 378, 3) := by decide +kernel
theorem dX12_chance_178 : decode cX12_chance 178 = .ok (.lload 7, 2) := by decide +kernel
theorem dX12_chance_180 : decode cX12_chance 180 = .ok (.aload_n 0, 1) := by decide +kernel
theorem dX12_chance_181 : decode cX12_chance 181 = .ok (.sipush 2058, 3) := by decide +kernel
theorem dX12_chance_184 : decode cX12_chance 184 = .ok (.iload_n 1, 1) := by decide +kernel
theorem dX12_chance_185 : decode cX12_chance 185 = .ok (.iload_n 2, 1) := by decide +kernel
theorem dX12_chance_186 : decode cX12_chance 186 = .ok (.invokevirtual 325, 3) := by decide +kernel
theorem dX12_chance_189 : decode cX12_chance 189 = .ok (.iconst 1, 1) := by decide +kernel
theorem dX12_chance_190 : decode cX12_chance 190 = .ok (.if_icmp .ne 8, 3) := by decide +kernel
theorem dX12_chance_193 : decode cX12_chance 193 = .ok (.lload 10, 2) := by decide +kernel
theorem dX12_chance_195 : decode cX12_chance 195 = .ok (.goto 4, 3) := by decide +kernel
theorem dX12_chance_198 : decode cX12_chance 198 = .ok (.lconst 0, 1) := by decide +kernel
theorem dX12_chance_199 : decode cX12_chance 199 = .ok (.ladd, 1) := by decide +kernel
theorem dX12_chance_200 : decode cX12_chance 200 = .ok (.lstore 7, 2) := by decide +kernel
theorem dX12_chance_202 : decode cX12_chance 202 = .ok (.iinc 9 1, 3) := by decide +kernel
theorem dX12_chance_205 : decode cX12_chance 205 = .ok (.goto (-122), 3) := by decide +kernel
theorem dX12_chance_208 : decode cX12_chance 208 = .ok (.lload 7, 2) := by decide +kernel
theorem dX12_chance_210 : decode cX12_chance 210 = .ok (.ldc2_w 396, 3) := by decide +kernel
theorem dX12_chance_213 : decode cX12_chance 213 = .ok (.lmul, 1) := by decide +kernel
theorem dX12_chance_214 : decode cX12_chance 214 = .ok (.lload 5, 2) := by decide +kernel
theorem dX12_chance_216 : decode cX12_chance 216 = .ok (.ldiv, 1) := by decide +kernel
theorem dX12_chance_217 : decode cX12_chance 217 = .ok (.l2i, 1) := by decide +kernel
theorem dX12_chance_218 : decode cX12_chance 218 = .ok (.ireturn, 1) := by decide +kernel
theorem dX12_getsBy_0 : decode cX12_getsBy 0 = .ok (.iload_n 0, 1) := by decide +kernel
theorem dX12_getsBy_1 : decode cX12_getsBy 1 = .ok (.iconst 1, 1) := by decide +kernel
theorem dX12_getsBy_2 : decode cX12_getsBy 2 = .ok (.if_icmp .ne 18, 3) := by decide +kernel
theorem dX12_getsBy_5 : decode cX12_getsBy 5 = .ok (.iload_n 1, 1) := by decide +kernel
theorem dX12_getsBy_6 : decode cX12_getsBy 6 = .ok (.iconst 1, 1) := by decide +kernel
theorem dX12_getsBy_7 : decode cX12_getsBy 7 = .ok (.if_icmp .ne 9, 3) := by decide +kernel
theorem dX12_getsBy_10 : decode cX12_getsBy 10 = .ok (.iload 4, 2) := by decide +kernel
theorem dX12_getsBy_12 : decode cX12_getsBy 12 = .ok (.ineg, 1) := by decide +kernel
theorem dX12_getsBy_13 : decode cX12_getsBy 13 = .ok (.goto 17, 3) := by decide +kernel
theorem dX12_getsBy_16 : decode cX12_getsBy 16 = .ok (.iload_n 3, 1) := by decide +kernel
theorem dX12_getsBy_17 : decode cX12_getsBy 17 = .ok (.goto 13, 3) := by decide +kernel
theorem dX12_getsBy_20 : decode cX12_getsBy 20 = .ok (.iload_n 1, 1) := by decide +kernel
theorem dX12_getsBy_21 : decode cX12_getsBy 21 = .ok (.iconst 1, 1) := by decide +kernel
theorem dX12_getsBy_22 : decode cX12_getsBy 22 = .ok (.if_icmp .ne 7, 3) := by decide +kernel
theorem dX12_getsBy_25 : decode cX12_getsBy 25 = .ok (.iconst 0, 1) := by decide +kernel
theorem dX12_getsBy_26 : decode cX12_getsBy 26 = .ok (.goto 4, 3) := by decide +kernel
theorem dX12_getsBy_29 : decode cX12_getsBy 29 = .ok (.iload_n 2, 1) := by decide +kernel
theorem dX12_getsBy_30 : decode cX12_getsBy 30 = .ok (.ireturn, 1) := by decide +kernel
theorem dX12_rests_0 : decode cX12_rests 0 = .ok (.iload_n 1, 1) := by decide +kernel
theorem dX12_rests_1 : decode cX12_rests 1 = .ok (.iconst 0, 1) := by decide +kernel
theorem dX12_rests_2 : decode cX12_rests 2 = .ok (.bipush 9, 2) := by decide +kernel
theorem dX12_rests_4 : decode cX12_rests 4 = .ok (.invokestatic 207, 3) := by decide +kernel
theorem dX12_rests_7 : decode cX12_rests 7 = .ok (.ifCond .eq 33, 3) := by decide +kernel
theorem dX12_rests_10 : decode cX12_rests 10 = .ok (.iload_n 2, 1) := by decide +kernel
theorem dX12_rests_11 : decode cX12_rests 11 = .ok (.iconst 0, 1) := by decide +kernel
theorem dX12_rests_12 : decode cX12_rests 12 = .ok (.bipush 9, 2) := by decide +kernel
theorem dX12_rests_14 : decode cX12_rests 14 = .ok (.invokestatic 207, 3) := by decide +kernel
theorem dX12_rests_17 : decode cX12_rests 17 = .ok (.ifCond .eq 23, 3) := by decide +kernel
theorem dX12_rests_20 : decode cX12_rests 20 = .ok (.iload_n 3, 1) := by decide +kernel
theorem dX12_rests_21 : decode cX12_rests 21 = .ok (.iconst 0, 1) := by decide +kernel
theorem dX12_rests_22 : decode cX12_rests 22 = .ok (.bipush 9, 2) := by decide +kernel
theorem dX12_rests_24 : decode cX12_rests 24 = .ok (.invokestatic 207, 3) := by decide +kernel
theorem dX12_rests_27 : decode cX12_rests 27 = .ok (.ifCond .eq 13, 3) := by decide +kernel
theorem dX12_rests_30 : decode cX12_rests 30 = .ok (.iload 4, 2) := by decide +kernel
theorem dX12_rests_32 : decode cX12_rests 32 = .ok (.iconst (-1), 1) := by decide +kernel
theorem dX12_rests_33 : decode cX12_rests 33 = .ok (.if_icmp .lt 7, 3) := by decide +kernel
theorem dX12_rests_36 : decode cX12_rests 36 = .ok (.iconst 1, 1) := by decide +kernel
theorem dX12_rests_37 : decode cX12_rests 37 = .ok (.goto 4, 3) := by decide +kernel
theorem dX12_rests_40 : decode cX12_rests 40 = .ok (.iconst 0, 1) := by decide +kernel
theorem dX12_rests_41 : decode cX12_rests 41 = .ok (.istore 5, 2) := by decide +kernel
theorem dX12_rests_43 : decode cX12_rests 43 = .ok (.iconst 0, 1) := by decide +kernel
theorem dX12_rests_44 : decode cX12_rests 44 = .ok (.istore 6, 2) := by decide +kernel
theorem dX12_rests_46 : decode cX12_rests 46 = .ok (.iconst (-1), 1) := by decide +kernel
theorem dX12_rests_47 : decode cX12_rests 47 = .ok (.istore 7, 2) := by decide +kernel
theorem dX12_rests_49 : decode cX12_rests 49 = .ok (.iconst 0, 1) := by decide +kernel
theorem dX12_rests_50 : decode cX12_rests 50 = .ok (.istore 8, 2) := by decide +kernel
theorem dX12_rests_52 : decode cX12_rests 52 = .ok (.iload 8, 2) := by decide +kernel
theorem dX12_rests_54 : decode cX12_rests 54 = .ok (.iconst 4, 1) := by decide +kernel
theorem dX12_rests_55 : decode cX12_rests 55 = .ok (.if_icmp .ge 119, 3) := by decide +kernel
theorem dX12_rests_58 : decode cX12_rests 58 = .ok (.iload 5, 2) := by decide +kernel
theorem dX12_rests_60 : decode cX12_rests 60 = .ok (.ifCond .eq 114, 3) := by decide +kernel
theorem dX12_rests_63 : decode cX12_rests 63 = .ok (.iload 8, 2) := by decide +kernel
theorem dX12_rests_65 : decode cX12_rests 65 = .ok (.iconst 2, 1) := by decide +kernel
theorem dX12_rests_66 : decode cX12_rests 66 = .ok (.idiv, 1) := by decide +kernel
theorem dX12_rests_67 : decode cX12_rests 67 = .ok (.istore 9, 2) := by decide +kernel
theorem dX12_rests_69 : decode cX12_rests 69 = .ok (.iload 8, 2) := by decide +kernel
theorem dX12_rests_71 : decode cX12_rests 71 = .ok (.iconst 2, 1) := by decide +kernel
theorem dX12_rests_72 : decode cX12_rests 72 = .ok (.irem, 1) := by decide +kernel
theorem dX12_rests_73 : decode cX12_rests 73 = .ok (.istore 10, 2) := by decide +kernel
theorem dX12_rests_75 : decode cX12_rests 75 = .ok (.iconst 1, 1) := by decide +kernel
theorem dX12_rests_76 : decode cX12_rests 76 = .ok (.iload 9, 2) := by decide +kernel
theorem dX12_rests_78 : decode cX12_rests 78 = .ok (.isub, 1) := by decide +kernel
theorem dX12_rests_79 : decode cX12_rests 79 = .ok (.iload 10, 2) := by decide +kernel
theorem dX12_rests_81 : decode cX12_rests 81 = .ok (.iload_n 1, 1) := by decide +kernel
theorem dX12_rests_82 : decode cX12_rests 82 = .ok (.iload_n 2, 1) := by decide +kernel
theorem dX12_rests_83 : decode cX12_rests 83 = .ok (.iload_n 3, 1) := by decide +kernel
theorem dX12_rests_84 : decode cX12_rests 84 = .ok (.invokestatic 398, 3) := by decide +kernel
theorem dX12_rests_87 : decode cX12_rests 87 = .ok (.iload 9, 2) := by decide +kernel
theorem dX12_rests_89 : decode cX12_rests 89 = .ok (.iload 10, 2) := by decide +kernel
theorem dX12_rests_91 : decode cX12_rests 91 = .ok (.iload_n 1, 1) := by decide +kernel
theorem dX12_rests_92 : decode cX12_rests 92 = .ok (.iload_n 2, 1) := by decide +kernel
theorem dX12_rests_93 : decode cX12_rests 93 = .ok (.iload_n 3, 1) := by decide +kernel
theorem dX12_rests_94 : decode cX12_rests 94 = .ok (.invokestatic 398, 3) := by decide +kernel
theorem dX12_rests_97 : decode cX12_rests 97 = .ok (.if_icmp .gt 32, 3) := by decide +kernel
theorem dX12_rests_100 : decode cX12_rests 100 = .ok (.iconst 1, 1) := by decide +kernel
theorem dX12_rests_101 : decode cX12_rests 101 = .ok (.iload 10, 2) := by decide +kernel
theorem dX12_rests_103 : decode cX12_rests 103 = .ok (.isub, 1) := by decide +kernel
theorem dX12_rests_104 : decode cX12_rests 104 = .ok (.iload 9, 2) := by decide +kernel
theorem dX12_rests_106 : decode cX12_rests 106 = .ok (.iload_n 1, 1) := by decide +kernel
theorem dX12_rests_107 : decode cX12_rests 107 = .ok (.iload_n 2, 1) := by decide +kernel
theorem dX12_rests_108 : decode cX12_rests 108 = .ok (.iload_n 3, 1) := by decide +kernel
theorem dX12_rests_109 : decode cX12_rests 109 = .ok (.invokestatic 398, 3) := by decide +kernel
theorem dX12_rests_112 : decode cX12_rests 112 = .ok (.iload 10, 2) := by decide +kernel
theorem dX12_rests_114 : decode cX12_rests 114 = .ok (.iload 9, 2) := by decide +kernel
theorem dX12_rests_116 : decode cX12_rests 116 = .ok (.iload_n 1, 1) := by decide +kernel
theorem dX12_rests_117 : decode cX12_rests 117 = .ok (.iload_n 2, 1) := by decide +kernel
theorem dX12_rests_118 : decode cX12_rests 118 = .ok (.iload_n 3, 1) := by decide +kernel
theorem dX12_rests_119 : decode cX12_rests 119 = .ok (.invokestatic 398, 3) := by decide +kernel
