theorem dX11_thingOf_2 : decode cX11_thingOf 2 = .ok (.if_icmp .ne 7, 3) := by decide +kernel
theorem dX11_thingOf_5 : decode cX11_thingOf 5 = .ok (.iconst (-1), 1) := by decide +kernel
theorem dX11_thingOf_6 : decode cX11_thingOf 6 = .ok (.goto 6, 3) := by decide +kernel
theorem dX11_thingOf_9 : decode cX11_thingOf 9 = .ok (.iload_n 0, 1) := by decide +kernel
theorem dX11_thingOf_10 : decode cX11_thingOf 10 = .ok (.iconst 1, 1) := by decide +kernel
theorem dX11_thingOf_11 : decode cX11_thingOf 11 = .ok (.ishr, 1) := by decide +kernel
theorem dX11_thingOf_12 : decode cX11_thingOf 12 = .ok (.ireturn, 1) := by decide +kernel
theorem dX11_isOf_0 : decode cX11_isOf 0 = .ok (.iload_n 0, 1) := by decide +kernel
theorem dX11_isOf_1 : decode cX11_isOf 1 = .ok (.iconst (-1), 1) := by decide +kernel
theorem dX11_isOf_2 : decode cX11_isOf 2 = .ok (.if_icmp .ne 7, 3) := by decide +kernel
theorem dX11_isOf_5 : decode cX11_isOf 5 = .ok (.iconst (-1), 1) := by decide +kernel
theorem dX11_isOf_6 : decode cX11_isOf 6 = .ok (.goto 6, 3) := by decide +kernel
theorem dX11_isOf_9 : decode cX11_isOf 9 = .ok (.iload_n 0, 1) := by decide +kernel
theorem dX11_isOf_10 : decode cX11_isOf 10 = .ok (.iconst 1, 1) := by decide +kernel
theorem dX11_isOf_11 : decode cX11_isOf 11 = .ok (.iand, 1) := by decide +kernel
theorem dX11_isOf_12 : decode cX11_isOf 12 = .ok (.ireturn, 1) := by decide +kernel
theorem dX12_thrown_0 : decode cX12_thrown 0 = .ok (.aload_n 0, 1) := by decide +kernel
theorem dX12_thrown_1 : decode cX12_thrown 1 = .ok (.getfield 1, 3) := by decide +kernel
theorem dX12_thrown_4 : decode cX12_thrown 4 = .ok (.ireturn, 1) := by decide +kernel
theorem dX12_feed_0 : decode cX12_feed 0 = .ok (.aload_n 0, 1) := by decide +kernel
theorem dX12_feed_1 : decode cX12_feed 1 = .ok (.iconst 0, 1) := by decide +kernel
theorem dX12_feed_2 : decode cX12_feed 2 = .ok (.putfield 1, 3) := by decide +kernel
theorem dX12_feed_5 : decode cX12_feed 5 = .ok (.aload_n 0, 1) := by decide +kernel
theorem dX12_feed_6 : decode cX12_feed 6 = .ok (.lload_n 1, 1) := by decide +kernel
theorem dX12_feed_7 : decode cX12_feed 7 = .ok (.invokevirtual 7, 3) := by decide +kernel
theorem dX12_feed_10 : decode cX12_feed 10 = .ok (.aload_n 0, 1) := by decide +kernel
theorem dX12_feed_11 : decode cX12_feed 11 = .ok (.lload_n 3, 1) := by decide +kernel
theorem dX12_feed_12 : decode cX12_feed 12 = .ok (.invokevirtual 7, 3) := by decide +kernel
theorem dX12_feed_15 : decode cX12_feed 15 = .ok (.aload_n 0, 1) := by decide +kernel
theorem dX12_feed_16 : decode cX12_feed 16 = .ok (.lload 5, 2) := by decide +kernel
theorem dX12_feed_18 : decode cX12_feed 18 = .ok (.invokevirtual 7, 3) := by decide +kernel
theorem dX12_feed_21 : decode cX12_feed 21 = .ok (.aload_n 0, 1) := by decide +kernel
theorem dX12_feed_22 : decode cX12_feed 22 = .ok (.getfield 11, 3) := by decide +kernel
theorem dX12_feed_25 : decode cX12_feed 25 = .ok (.ireturn, 1) := by decide +kernel
theorem dX12_lay_0 : decode cX12_lay 0 = .ok (.bipush 56, 2) := by decide +kernel
theorem dX12_lay_2 : decode cX12_lay 2 = .ok (.istore_n 3, 1) := by decide +kernel
theorem dX12_lay_3 : decode cX12_lay 3 = .ok (.iload_n 3, 1) := by decide +kernel
theorem dX12_lay_4 : decode cX12_lay 4 = .ok (.ifCond .lt 71, 3) := by decide +kernel
theorem dX12_lay_7 : decode cX12_lay 7 = .ok (.lload_n 1, 1) := by decide +kernel
theorem dX12_lay_8 : decode cX12_lay 8 = .ok (.iload_n 3, 1) := by decide +kernel
theorem dX12_lay_9 : decode cX12_lay 9 = .ok (.lshr, 1) := by decide +kernel
theorem dX12_lay_10 : decode cX12_lay 10 = .ok (.l2i, 1) := by decide +kernel
theorem dX12_lay_11 : decode cX12_lay 11 = .ok (.sipush 255, 3) := by decide +kernel
theorem dX12_lay_14 : decode cX12_lay 14 = .ok (.iand, 1) := by decide +kernel
theorem dX12_lay_15 : decode cX12_lay 15 = .ok (.istore 4, 2) := by decide +kernel
theorem dX12_lay_17 : decode cX12_lay 17 = .ok (.iload 4, 2) := by decide +kernel
theorem dX12_lay_19 : decode cX12_lay 19 = .ok (.bipush 10, 2) := by decide +kernel
theorem dX12_lay_21 : decode cX12_lay 21 = .ok (.if_icmp .eq 17, 3) := by decide +kernel
theorem dX12_lay_24 : decode cX12_lay 24 = .ok (.iload 4, 2) := by decide +kernel
theorem dX12_lay_26 : decode cX12_lay 26 = .ok (.bipush 32, 2) := by decide +kernel
theorem dX12_lay_28 : decode cX12_lay 28 = .ok (.if_icmp .lt 41, 3) := by decide +kernel
theorem dX12_lay_31 : decode cX12_lay 31 = .ok (.iload 4, 2) := by decide +kernel
theorem dX12_lay_33 : decode cX12_lay 33 = .ok (.bipush 126, 2) := by decide +kernel
theorem dX12_lay_35 : decode cX12_lay 35 = .ok (.if_icmp .gt 34, 3) := by decide +kernel
theorem dX12_lay_38 : decode cX12_lay 38 = .ok (.aload_n 0, 1) := by decide +kernel
theorem dX12_lay_39 : decode cX12_lay 39 = .ok (.getfield 11, 3) := by decide +kernel
theorem dX12_lay_42 : decode cX12_lay 42 = .ok (.sipush 1000, 3) := by decide +kernel
theorem dX12_lay_45 : decode cX12_lay 45 = .ok (.if_icmp .ge 24, 3) := by decide +kernel
theorem dX12_lay_48 : decode cX12_lay 48 = .ok (.aload_n 0, 1) := by decide +kernel
theorem dX12_lay_49 : decode cX12_lay 49 = .ok (.getfield 14, 3) := by decide +kernel
theorem dX12_lay_52 : decode cX12_lay 52 = .ok (.aload_n 0, 1) := by decide +kernel
theorem dX12_lay_53 : decode cX12_lay 53 = .ok (.getfield 11, 3) := by decide +kernel
theorem dX12_lay_56 : decode cX12_lay 56 = .ok (.iload 4, 2) := by decide +kernel
theorem dX12_lay_58 : decode cX12_lay 58 = .ok (.iastore, 1) := by decide +kernel
theorem dX12_lay_59 : decode cX12_lay 59 = .ok (.aload_n 0, 1) := by decide +kernel
theorem dX12_lay_60 : decode cX12_lay 60 = .ok (.dup, 1) := by decide +kernel
theorem dX12_lay_61 : decode cX12_lay 61 = .ok (.getfield 11, 3) := by decide +kernel
theorem dX12_lay_64 : decode cX12_lay 64 = .ok (.iconst 1, 1) := by decide +kernel
theorem dX12_lay_65 : decode cX12_lay 65 = .ok (.iadd, 1) := by decide +kernel
theorem dX12_lay_66 : decode cX12_lay 66 = .ok (.putfield 11, 3) := by decide +kernel
theorem dX12_lay_69 : decode cX12_lay 69 = .ok (.iinc 3 (-8), 3) := by decide +kernel
theorem dX12_lay_72 : decode cX12_lay 72 = .ok (.goto (-69), 3) := by decide +kernel
theorem dX12_lay_75 : decode cX12_lay 75 = .ok (.return_, 1) := by decide +kernel
theorem dX12_init_0 : decode cX12_init 0 = .ok (.aload_n 0, 1) := by decide +kernel
theorem dX12_init_1 : decode cX12_init 1 = .ok (.invokespecial 18, 3) := by decide +kernel
theorem dX12_init_4 : decode cX12_init 4 = .ok (.aload_n 0, 1) := by decide +kernel
theorem dX12_init_5 : decode cX12_init 5 = .ok (.sipush 1000, 3) := by decide +kernel
theorem dX12_init_8 : decode cX12_init 8 = .ok (.newarray .int, 2) := by decide +kernel
theorem dX12_init_10 : decode cX12_init 10 = .ok (.putfield 14, 3) := by decide +kernel
theorem dX12_init_13 : decode cX12_init 13 = .ok (.aload_n 0, 1) := by decide +kernel
theorem dX12_init_14 : decode cX12_init 14 = .ok (.sipush 1002, 3) := by decide +kernel
theorem dX12_init_17 : decode cX12_init 17 = .ok (.newarray .int, 2) := by decide +kernel
theorem dX12_init_19 : decode cX12_init 19 = .ok (.putfield 24, 3) := by decide +kernel
theorem dX12_init_22 : decode cX12_init 22 = .ok (.aload_n 0, 1) := by decide +kernel
theorem dX12_init_23 : decode cX12_init 23 = .ok (.sipush 1002, 3) := by decide +kernel
theorem dX12_init_26 : decode cX12_init 26 = .ok (.newarray .int, 2) := by decide +kernel
theorem dX12_init_28 : decode cX12_init 28 = .ok (.putfield 27, 3) := by decide +kernel
theorem dX12_init_31 : decode cX12_init 31 = .ok (.aload_n 0, 1) := by decide +kernel
theorem dX12_init_32 : decode cX12_init 32 = .ok (.sipush 1002, 3) := by decide +kernel
theorem dX12_init_35 : decode cX12_init 35 = .ok (.newarray .long, 2) := by decide +kernel
theorem dX12_init_37 : decode cX12_init 37 = .ok (.putfield 30, 3) := by decide +kernel
theorem dX12_init_40 : decode cX12_init 40 = .ok (.aload_n 0, 1) := by decide +kernel
theorem dX12_init_41 : decode cX12_init 41 = .ok (.bipush 26, 2) := by decide +kernel
theorem dX12_init_43 : decode cX12_init 43 = .ok (.newarray .long, 2) := by decide +kernel
theorem dX12_init_45 : decode cX12_init 45 = .ok (.dup, 1) := by decide +kernel
theorem dX12_init_46 : decode cX12_init 46 = .ok (.iconst 0, 1) := by decide +kernel
theorem dX12_init_47 : decode cX12_init 47 = .ok (.ldc2_w 34, 3) := by decide +kernel
theorem dX12_init_50 : decode cX12_init 50 = .ok (.lastore, 1) := by decide +kernel
theorem dX12_init_51 : decode cX12_init 51 = .ok (.dup, 1) := by decide +kernel
theorem dX12_init_52 : decode cX12_init 52 = .ok (.iconst 1, 1) := by decide +kernel
theorem dX12_init_53 : decode cX12_init 53 = .ok (.ldc2_w 36, 3) := by decide +kernel
theorem dX12_init_56 : decode cX12_init 56 = .ok (.lastore, 1) := by decide +kernel
theorem dX12_init_57 : decode cX12_init 57 = .ok (.dup, 1) := by decide +kernel
theorem dX12_init_58 : decode cX12_init 58 = .ok (.iconst 2, 1) := by decide +kernel
theorem dX12_init_59 : decode cX12_init 59 = .ok (.ldc2_w 38, 3) := by decide +kernel
theorem dX12_init_62 : decode cX12_init 62 = .ok (.lastore, 1) := by decide +kernel
theorem dX12_init_63 : decode cX12_init 63 = .ok (.dup, 1) := by decide +kernel
theorem dX12_init_64 : decode cX12_init 64 = .ok (.iconst 3, 1) := by decide +kernel
theorem dX12_init_65 : decode cX12_init 65 = .ok (.ldc2_w 40, 3) := by decide +kernel
theorem dX12_init_68 : decode cX12_init 68 = .ok (.lastore, 1) := by decide +kernel
theorem dX12_init_69 : decode cX12_init 69 = .ok (.dup, 1) := by decide +kernel
theorem dX12_init_70 : decode cX12_init 70 = .ok (.iconst 4, 1) := by decide +kernel
theorem dX12_init_71 : decode cX12_init 71 = .ok (.ldc2_w 42, 3) := by decide +kernel
theorem dX12_init_74 : decode cX12_init 74 = .ok (.lastore, 1) := by decide +kernel
theorem dX12_init_75 : decode cX12_init 75 = .ok (.dup, 1) := by decide +kernel
theorem dX12_init_76 : decode cX12_init 76 = .ok (.iconst 5, 1) := by decide +kernel
theorem dX12_init_77 : decode cX12_init 77 = .ok (.ldc2_w 44, 3) := by decide +kernel
theorem dX12_init_80 : decode cX12_init 80 = .ok (.lastore, 1) := by decide +kernel
theorem dX12_init_81 : decode cX12_init 81 = .ok (.dup, 1) := by decide +kernel
theorem dX12_init_82 : decode cX12_init 82 = .ok (.bipush 6, 2) := by decide +kernel
theorem dX12_init_84 : decode cX12_init 84 = .ok (.ldc2_w 46, 3) := by decide +kernel
theorem dX12_init_87 : decode cX12_init 87 = .ok (.lastore, 1) := by decide +kernel
theorem dX12_init_88 : decode cX12_init 88 = .ok (.dup, 1) := by decide +kernel
theorem dX12_init_89 : decode cX12_init 89 = .ok (.bipush 7, 2) := by decide +kernel
theorem dX12_init_91 : decode cX12_init 91 = .ok (.ldc2_w 48, 3) := by decide +kernel
theorem dX12_init_94 : decode cX12_init 94 = .ok (.lastore, 1) := by decide +kernel
theorem dX12_init_95 : decode cX12_init 95 = .ok (.dup, 1) := by decide +kernel
theorem dX12_init_96 : decode cX12_init 96 = .ok (.bipush 8, 2) := by decide +kernel
theorem dX12_init_98 : decode cX12_init 98 = .ok (.ldc2_w 50, 3) := by decide +kernel
theorem dX12_init_101 : decode cX12_init 101 = .ok (.lastore, 1) := by decide +kernel
theorem dX12_init_102 : decode cX12_init 102 = .ok (.dup, 1) := by decide +kernel
theorem dX12_init_103 : decode cX12_init 103 = .ok (.bipush 9, 2) := by decide +kernel
theorem dX12_init_105 : decode cX12_init 105 = .ok (.ldc2_w 52, 3) := by decide +kernel
theorem dX12_init_108 : decode cX12_init 108 = .ok (.lastore, 1) := by decide +kernel
theorem dX12_init_109 : decode cX12_init 109 = .ok (.dup, 1) := by decide +kernel
theorem dX12_init_110 : decode cX12_init 110 = .ok (.bipush 10, 2) := by decide +kernel
theorem dX12_init_112 : decode cX12_init 112 = .ok (.ldc2_w 54, 3) := by decide +kernel
theorem dX12_init_115 : decode cX12_init 115 = .ok (.lastore, 1) := by decide +kernel
theorem dX12_init_116 : decode cX12_init 116 = .ok (.dup, 1) := by decide +kernel
theorem dX12_init_117 : decode cX12_init 117 = .ok (.bipush 11, 2) := by decide +kernel
theorem dX12_init_119 : decode cX12_init 119 = .ok (.ldc2_w 56, 3) := by decide +kernel
theorem dX12_init_122 : decode cX12_init 122 = .ok (.lastore, 1) := by decide +kernel
theorem dX12_init_123 : decode cX12_init 123 = .ok (.dup, 1) := by decide +kernel
theorem dX12_init_124 : decode cX12_init 124 = .ok (.bipush 12, 2) := by decide +kernel
theorem dX12_init_126 : decode cX12_init 126 = .ok (.ldc2_w 58, 3) := by decide +kernel
theorem dX12_init_129 : decode cX12_init 129 = .ok (.lastore, 1) := by decide +kernel
theorem dX12_init_130 : decode cX12_init 130 = .ok (.dup, 1) := by decide +kernel
theorem dX12_init_131 : decode cX12_init 131 = .ok (.bipush 13, 2) := by decide +kernel
theorem dX12_init_133 : decode cX12_init 133 = .ok (.ldc2_w 60, 3) := by decide +kernel
theorem dX12_init_136 : decode cX12_init 136 = .ok (.lastore, 1) := by decide +kernel
theorem dX12_init_137 : decode cX12_init 137 = .ok (.dup, 1) := by decide +kernel
theorem dX12_init_138 : decode cX12_init 138 = .ok (.bipush 14, 2) := by decide +kernel
theorem dX12_init_140 : decode cX12_init 140 = .ok (.ldc2_w 62, 3) := by decide +kernel
theorem dX12_init_143 : decode cX12_init 143 = .ok (.lastore, 1) := by decide +kernel
theorem dX12_init_144 : decode cX12_init 144 = .ok (.dup, 1) := by decide +kernel
theorem dX12_init_145 : decode cX12_init 145 = .ok (.bipush 15, 2) := by decide +kernel
theorem dX12_init_147 : decode cX12_init 147 = .ok (.ldc2_w 64, 3) := by decide +kernel
theorem dX12_init_150 : decode cX12_init 150 = .ok (.lastore, 1) := by decide +kernel
theorem dX12_init_151 : decode cX12_init 151 = .ok (.dup, 1) := by decide +kernel
theorem dX12_init_152 : decode cX12_init 152 = .ok (.bipush 16, 2) := by decide +kernel
theorem dX12_init_154 : decode cX12_init 154 = .ok (.ldc2_w 66, 3) := by decide +kernel
theorem dX12_init_157 : decode cX12_init 157 = .ok (.lastore, 1) := by decide +kernel
theorem dX12_init_158 : decode cX12_init 158 = .ok (.dup, 1) := by decide +kernel
theorem dX12_init_159 : decode cX12_init 159 = .ok (.bipush 17, 2) := by decide +kernel
theorem dX12_init_161 : decode cX12_init 161 = .ok (.ldc2_w 68, 3) := by decide +kernel
theorem dX12_init_164 : decode cX12_init 164 = .ok (.lastore, 1) := by decide +kernel
theorem dX12_init_165 : decode cX12_init 165 = .ok (.dup, 1) := by decide +kernel
theorem dX12_init_166 : decode cX12_init 166 = .ok (.bipush 18, 2) := by decide +kernel
theorem dX12_init_168 : decode cX12_init 168 = .ok (.ldc2_w 70, 3) := by decide +kernel
theorem dX12_init_171 : decode cX12_init 171 = .ok (.lastore, 1) := by decide +kernel
theorem dX12_init_172 : decode cX12_init 172 = .ok (.dup, 1) := by decide +kernel
theorem dX12_init_173 : decode cX12_init 173 = .ok (.bipush 19, 2) := by decide +kernel
theorem dX12_init_175 : decode cX12_init 175 = .ok (.ldc2_w 72, 3) := by decide +kernel
theorem dX12_init_178 : decode cX12_init 178 = .ok (.lastore, 1) := by decide +kernel
theorem dX12_init_179 : decode cX12_init 179 = .ok (.dup, 1) := by decide +kernel
theorem dX12_init_180 : decode cX12_init 180 = .ok (.bipush 20, 2) := by decide +kernel
theorem dX12_init_182 : decode cX12_init 182 = .ok (.ldc2_w 74, 3) := by decide +kernel
theorem dX12_init_185 : decode cX12_init 185 = .ok (.lastore, 1) := by decide +kernel
theorem dX12_init_186 : decode cX12_init 186 = .ok (.dup, 1) := by decide +kernel
theorem dX12_init_187 : decode cX12_init 187 = .ok (.bipush 21, 2) := by decide +kernel
theorem dX12_init_189 : decode cX12_init 189 = .ok (.ldc2_w 76, 3) := by decide +kernel
theorem dX12_init_192 : decode cX12_init 192 = .ok (.lastore, 1) := by decide +kernel
theorem dX12_init_193 : decode cX12_init 193 = .ok (.dup, 1) := by decide +kernel
theorem dX12_init_194 : decode cX12_init 194 = .ok (.bipush 22, 2) := by decide +kernel
theorem dX12_init_196 : decode cX12_init 196 = .ok (.ldc2_w 78, 3) := by decide +kernel
theorem dX12_init_199 : decode cX12_init 199 = .ok (.lastore, 1) := by decide +kernel
theorem dX12_init_200 : decode cX12_init 200 = .ok (.dup, 1) := by decide +kernel
theorem dX12_init_201 : decode cX12_init 201 = .ok (.bipush 23, 2) := by decide +kernel
theorem dX12_init_203 : decode cX12_init 203 = .ok (.ldc2_w 80, 3) := by decide +kernel
theorem dX12_init_206 : decode cX12_init 206 = .ok (.lastore, 1) := by decide +kernel
theorem dX12_init_207 : decode cX12_init 207 = .ok (.dup, 1) := by decide +kernel
theorem dX12_init_208 : decode cX12_init 208 = .ok (.bipush 24, 2) := by decide +kernel
theorem dX12_init_210 : decode cX12_init 210 = .ok (.ldc2_w 82, 3) := by decide +kernel
theorem dX12_init_213 : decode cX12_init 213 = .ok (.lastore, 1) := by decide +kernel
theorem dX12_init_214 : decode cX12_init 214 = .ok (.dup, 1) := by decide +kernel
theorem dX12_init_215 : decode cX12_init 215 = .ok (.bipush 25, 2) := by decide +kernel
theorem dX12_init_217 : decode cX12_init 217 = .ok (.ldc2_w 84, 3) := by decide +kernel
theorem dX12_init_220 : decode cX12_init 220 = .ok (.lastore, 1) := by decide +kernel
theorem dX12_init_221 : decode cX12_init 221 = .ok (.putfield 86, 3) := by decide +kernel
theorem dX12_init_224 : decode cX12_init 224 = .ok (.aload_n 0, 1) := by decide +kernel
theorem dX12_init_225 : decode cX12_init 225 = .ok (.bipush 120, 2) := by decide +kernel
theorem dX12_init_227 : decode cX12_init 227 = .ok (.newarray .int, 2) := by decide +kernel
theorem dX12_init_229 : decode cX12_init 229 = .ok (.putfield 89, 3) := by decide +kernel
theorem dX12_init_232 : decode cX12_init 232 = .ok (.aload_n 0, 1) := by decide +kernel
theorem dX12_init_233 : decode cX12_init 233 = .ok (.sipush 2200, 3) := by decide +kernel
theorem dX12_init_236 : decode cX12_init 236 = .ok (.newarray .int, 2) := by decide +kernel
theorem dX12_init_238 : decode cX12_init 238 = .ok (.putfield 92, 3) := by decide +kernel
theorem dX12_init_241 : decode cX12_init 241 = .ok (.aload_n 0, 1) := by decide +kernel
theorem dX12_init_242 : decode cX12_init 242 = .ok (.sipush 2200, 3) := by decide +kernel
theorem dX12_init_245 : decode cX12_init 245 = .ok (.newarray .int, 2) := by decide +kernel
theorem dX12_init_247 : decode cX12_init 247 = .ok (.putfield 95, 3) := by decide +kernel
theorem dX12_init_250 : decode cX12_init 250 = .ok (.aload_n 0, 1) := by decide +kernel
theorem dX12_init_251 : decode cX12_init 251 = .ok (.bipush 12, 2) := by decide +kernel
theorem dX12_init_253 : decode cX12_init 253 = .ok (.newarray .long, 2) := by decide +kernel
theorem dX12_init_255 : decode cX12_init 255 = .ok (.putfield 98, 3) := by decide +kernel
theorem dX12_init_258 : decode cX12_init 258 = .ok (.aload_n 0, 1) := by decide +kernel
theorem dX12_init_259 : decode cX12_init 259 = .ok (.bipush 12, 2) := by decide +kernel
theorem dX12_init_261 : decode cX12_init 261 = .ok (.newarray .long, 2) := by decide +kernel
theorem dX12_init_263 : decode cX12_init 263 = .ok (.putfield 101, 3) := by decide +kernel
theorem dX12_init_266 : decode cX12_init 266 = .ok (.aload_n 0, 1) := by decide +kernel
theorem dX12_init_267 : decode cX12_init 267 = .ok (.bipush 12, 2) := by decide +kernel
theorem dX12_init_269 : decode cX12_init 269 = .ok (.newarray .int, 2) := by decide +kernel
theorem dX12_init_271 : decode cX12_init 271 = .ok (.putfield 104, 3) := by decide +kernel
theorem dX12_init_274 : decode cX12_init 274 = .ok (.aload_n 0, 1) := by decide +kernel
theorem dX12_init_275 : decode cX12_init 275 = .ok (.bipush 12, 2) := by decide +kernel
theorem dX12_init_277 : decode cX12_init 277 = .ok (.newarray .int, 2) := by decide +kernel
theorem dX12_init_279 : decode cX12_init 279 = .ok (.putfield 107, 3) := by decide +kernel
theorem dX12_init_282 : decode cX12_init 282 = .ok (.aload_n 0, 1) := by decide +kernel
theorem dX12_init_283 : decode cX12_init 283 = .ok (.sipush 330, 3) := by decide +kernel
theorem dX12_init_286 : decode cX12_init 286 = .ok (.newarray .int, 2) := by decide +kernel
theorem dX12_init_288 : decode cX12_init 288 = .ok (.putfield 110, 3) := by decide +kernel
theorem dX12_init_291 : decode cX12_init 291 = .ok (.aload_n 0, 1) := by decide +kernel
theorem dX12_init_292 : decode cX12_init 292 = .ok (.iconst 4, 1) := by decide +kernel
theorem dX12_init_293 : decode cX12_init 293 = .ok (.newarray .int, 2) := by decide +kernel
theorem dX12_init_295 : decode cX12_init 295 = .ok (.putfield 113, 3) := by decide +kernel
theorem dX12_init_298 : decode cX12_init 298 = .ok (.aload_n 0, 1) := by decide +kernel
theorem dX12_init_299 : decode cX12_init 299 = .ok (.sipush 1100, 3) := by decide +kernel
theorem dX12_init_302 : decode cX12_init 302 = .ok (.newarray .int, 2) := by decide +kernel
theorem dX12_init_304 : decode cX12_init 304 = .ok (.putfield 116, 3) := by decide +kernel
theorem dX12_init_307 : decode cX12_init 307 = .ok (.aload_n 0, 1) := by decide +kernel
theorem dX12_init_308 : decode cX12_init 308 = .ok (.sipush 2254, 3) := by decide +kernel
theorem dX12_init_311 : decode cX12_init 311 = .ok (.newarray .int, 2) := by decide +kernel
theorem dX12_init_313 : decode cX12_init 313 = .ok (.putfield 119, 3) := by decide +kernel
theorem dX12_init_316 : decode cX12_init 316 = .ok (.aload_n 0, 1) := by decide +kernel
theorem dX12_init_317 : decode cX12_init 317 = .ok (.iconst 4, 1) := by decide +kernel
theorem dX12_init_318 : decode cX12_init 318 = .ok (.newarray .boolean, 2) := by decide +kernel
theorem dX12_init_320 : decode cX12_init 320 = .ok (.putfield 122, 3) := by decide +kernel
theorem dX12_init_323 : decode cX12_init 323 = .ok (.aload_n 0, 1) := by decide +kernel
theorem dX12_init_324 : decode cX12_init 324 = .ok (.bipush 6, 2) := by decide +kernel
theorem dX12_init_326 : decode cX12_init 326 = .ok (.newarray .int, 2) := by decide +kernel
theorem dX12_init_328 : decode cX12_init 328 = .ok (.putfield 126, 3) := by decide +kernel
theorem dX12_init_331 : decode cX12_init 331 = .ok (.aload_n 0, 1) := by decide +kernel
theorem dX12_init_332 : decode cX12_init 332 = .ok (.bipush 108, 2) := by decide +kernel
theorem dX12_init_334 : decode cX12_init 334 = .ok (.newarray .int, 2) := by decide +kernel
theorem dX12_init_336 : decode cX12_init 336 = .ok (.putfield 129, 3) := by decide +kernel
theorem dX12_init_339 : decode cX12_init 339 = .ok (.aload_n 0, 1) := by decide +kernel
theorem dX12_init_340 : decode cX12_init 340 = .ok (.iconst 0, 1) := by decide +kernel
theorem dX12_init_341 : decode cX12_init 341 = .ok (.invokevirtual 132, 3) := by decide +kernel
theorem dX12_init_344 : decode cX12_init 344 = .ok (.aload_n 0, 1) := by decide +kernel
theorem dX12_init_345 : decode cX12_init 345 = .ok (.invokevirtual 136, 3) := by decide +kernel
theorem dX12_init_348 : decode cX12_init 348 = .ok (.return_, 1) := by decide +kernel
theorem dX12_isLetter_0 : decode cX12_isLetter 0 = .ok (.iload_n 0, 1) := by decide +kernel
theorem dX12_isLetter_1 : decode cX12_isLetter 1 = .ok (.bipush 97, 2) := by decide +kernel
theorem dX12_isLetter_3 : decode cX12_isLetter 3 = .ok (.if_icmp .lt 13, 3) := by decide +kernel
theorem dX12_isLetter_6 : decode cX12_isLetter 6 = .ok (.iload_n 0, 1) := by decide +kernel
theorem dX12_isLetter_7 : decode cX12_isLetter 7 = .ok (.bipush 122, 2) := by decide +kernel
theorem dX12_isLetter_9 : decode cX12_isLetter 9 = .ok (.if_icmp .gt 7, 3) := by decide +kernel
theorem dX12_isLetter_12 : decode cX12_isLetter 12 = .ok (.iconst 1, 1) := by decide +kernel
theorem dX12_isLetter_13 : decode cX12_isLetter 13 = .ok (.goto 4, 3) := by decide +kernel
theorem dX12_isLetter_16 : decode cX12_isLetter 16 = .ok (.iconst 0, 1) := by decide +kernel
theorem dX12_isLetter_17 : decode cX12_isLetter 17 = .ok (.ireturn, 1) := by decide +kernel
theorem dX12_isDigit_0 : decode cX12_isDigit 0 = .ok (.iload_n 0, 1) := by decide +kernel
theorem dX12_isDigit_1 : decode cX12_isDigit 1 = .ok (.bipush 48, 2) := by decide +kernel
theorem dX12_isDigit_3 : decode cX12_isDigit 3 = .ok (.if_icmp .lt 13, 3) := by decide +kernel
theorem dX12_isDigit_6 : decode cX12_isDigit 6 = .ok (.iload_n 0, 1) := by decide +kernel
theorem dX12_isDigit_7 : decode cX12_isDigit 7 = .ok (.bipush 57, 2) := by decide +kernel
theorem dX12_isDigit_9 : decode cX12_isDigit 9 = .ok (.if_icmp .gt 7, 3) := by decide +kernel
theorem dX12_isDigit_12 : decode cX12_isDigit 12 = .ok (.iconst 1, 1) := by decide +kernel
theorem dX12_isDigit_13 : decode cX12_isDigit 13 = .ok (.goto 4, 3) := by decide +kernel
theorem dX12_isDigit_16 : decode cX12_isDigit 16 = .ok (.iconst 0, 1) := by decide +kernel
theorem dX12_isDigit_17 : decode cX12_isDigit 17 = .ok (.ireturn, 1) := by decide +kernel
theorem dX12_rank_0 : decode cX12_rank 0 = .ok (.iload_n 0, 1) := by decide +kernel
theorem dX12_rank_1 : decode cX12_rank 1 = .ok (.invokestatic 139, 3) := by decide +kernel
theorem dX12_rank_4 : decode cX12_rank 4 = .ok (.ifCond .eq 10, 3) := by decide +kernel
theorem dX12_rank_7 : decode cX12_rank 7 = .ok (.iload_n 0, 1) := by decide +kernel
theorem dX12_rank_8 : decode cX12_rank 8 = .ok (.bipush 96, 2) := by decide +kernel
theorem dX12_rank_10 : decode cX12_rank 10 = .ok (.isub, 1) := by decide +kernel
theorem dX12_rank_11 : decode cX12_rank 11 = .ok (.goto 7, 3) := by decide +kernel
theorem dX12_rank_14 : decode cX12_rank 14 = .ok (.iload_n 0, 1) := by decide +kernel
theorem dX12_rank_15 : decode cX12_rank 15 = .ok (.bipush 21, 2) := by decide +kernel
theorem dX12_rank_17 : decode cX12_rank 17 = .ok (.isub, 1) := by decide +kernel
theorem dX12_rank_18 : decode cX12_rank 18 = .ok (.ireturn, 1) := by decide +kernel
theorem dX12_isSignOf_0 : decode cX12_isSignOf 0 = .ok (.iload_n 0, 1) := by decide +kernel
theorem dX12_isSignOf_1 : decode cX12_isSignOf 1 = .ok (.bipush 40, 2) := by decide +kernel
theorem dX12_isSignOf_3 : decode cX12_isSignOf 3 = .ok (.if_icmp .eq 45, 3) := by decide +kernel
theorem dX12_isSignOf_6 : decode cX12_isSignOf 6 = .ok (.iload_n 0, 1) := by decide +kernel
theorem dX12_isSignOf_7 : decode cX12_isSignOf 7 = .ok (.bipush 41, 2) := by decide +kernel
theorem dX12_isSignOf_9 : decode cX12_isSignOf 9 = .ok (.if_icmp .eq 39, 3) := by decide +kernel
theorem dX12_isSignOf_12 : decode cX12_isSignOf 12 = .ok (.iload_n 0, 1) := by decide +kernel
theorem dX12_isSignOf_13 : decode cX12_isSignOf 13 = .ok (.bipush 59, 2) := by decide +kernel
theorem dX12_isSignOf_15 : decode cX12_isSignOf 15 = .ok (.if_icmp .eq 33, 3) := by decide +kernel
theorem dX12_isSignOf_18 : decode cX12_isSignOf 18 = .ok (.iload_n 0, 1) := by decide +kernel
theorem dX12_isSignOf_19 : decode cX12_isSignOf 19 = .ok (.bipush 61, 2) := by decide +kernel
theorem dX12_isSignOf_21 : decode cX12_isSignOf 21 = .ok (.if_icmp .eq 27, 3) := by decide +kernel
theorem dX12_isSignOf_24 : decode cX12_isSignOf 24 = .ok (.iload_n 0, 1) := by decide +kernel
theorem dX12_isSignOf_25 : decode cX12_isSignOf 25 = .ok (.bipush 60, 2) := by decide +kernel
theorem dX12_isSignOf_27 : decode cX12_isSignOf 27 = .ok (.if_icmp .eq 21, 3) := by decide +kernel
theorem dX12_isSignOf_30 : decode cX12_isSignOf 30 = .ok (.iload_n 0, 1) := by decide +kernel
theorem dX12_isSignOf_31 : decode cX12_isSignOf 31 = .ok (.bipush 43, 2) := by decide +kernel
theorem dX12_isSignOf_33 : decode cX12_isSignOf 33 = .ok (.if_icmp .eq 15, 3) := by decide +kernel
theorem dX12_isSignOf_36 : decode cX12_isSignOf 36 = .ok (.iload_n 0, 1) := by decide +kernel
theorem dX12_isSignOf_37 : decode cX12_isSignOf 37 = .ok (.bipush 45, 2) := by decide +kernel
theorem dX12_isSignOf_39 : decode cX12_isSignOf 39 = .ok (.if_icmp .eq 9, 3) := by decide +kernel
theorem dX12_isSignOf_42 : decode cX12_isSignOf 42 = .ok (.iload_n 0, 1) := by decide +kernel
theorem dX12_isSignOf_43 : decode cX12_isSignOf 43 = .ok (.bipush 42, 2) := by decide +kernel
theorem dX12_isSignOf_45 : decode cX12_isSignOf 45 = .ok (.if_icmp .ne 7, 3) := by decide +kernel
theorem dX12_isSignOf_48 : decode cX12_isSignOf 48 = .ok (.iconst 1, 1) := by decide +kernel
theorem dX12_isSignOf_49 : decode cX12_isSignOf 49 = .ok (.goto 4, 3) := by decide +kernel
theorem dX12_isSignOf_52 : decode cX12_isSignOf 52 = .ok (.iconst 0, 1) := by decide +kernel
theorem dX12_isSignOf_53 : decode cX12_isSignOf 53 = .ok (.ireturn, 1) := by decide +kernel
theorem dX12_cutAll_0 : decode cX12_cutAll 0 = .ok (.aload_n 0, 1) := by decide +kernel
theorem dX12_cutAll_1 : decode cX12_cutAll 1 = .ok (.aload_n 0, 1) := by decide +kernel
theorem dX12_cutAll_2 : decode cX12_cutAll 2 = .ok (.getfield 11, 3) := by decide +kernel
theorem dX12_cutAll_5 : decode cX12_cutAll 5 = .ok (.putfield 143, 3) := by decide +kernel
theorem dX12_cutAll_8 : decode cX12_cutAll 8 = .ok (.aload_n 0, 1) := by decide +kernel
theorem dX12_cutAll_9 : decode cX12_cutAll 9 = .ok (.iconst 0, 1) := by decide +kernel
theorem dX12_cutAll_10 : decode cX12_cutAll 10 = .ok (.putfield 11, 3) := by decide +kernel
theorem dX12_cutAll_13 : decode cX12_cutAll 13 = .ok (.iconst 0, 1) := by decide +kernel
theorem dX12_cutAll_14 : decode cX12_cutAll 14 = .ok (.istore_n 1, 1) := by decide +kernel
theorem dX12_cutAll_15 : decode cX12_cutAll 15 = .ok (.iconst 0, 1) := by decide +kernel
theorem dX12_cutAll_16 : decode cX12_cutAll 16 = .ok (.istore_n 2, 1) := by decide +kernel
theorem dX12_cutAll_17 : decode cX12_cutAll 17 = .ok (.iload_n 2, 1) := by decide +kernel
theorem dX12_cutAll_18 : decode cX12_cutAll 18 = .ok (.aload_n 0, 1) := by decide +kernel
theorem dX12_cutAll_19 : decode cX12_cutAll 19 = .ok (.getfield 143, 3) := by decide +kernel
theorem dX12_cutAll_22 : decode cX12_cutAll 22 = .ok (.if_icmp .ge 257, 3) := by decide +kernel
theorem dX12_cutAll_25 : decode cX12_cutAll 25 = .ok (.aload_n 0, 1) := by decide +kernel
theorem dX12_cutAll_26 : decode cX12_cutAll 26 = .ok (.getfield 14, 3) := by decide +kernel
theorem dX12_cutAll_29 : decode cX12_cutAll 29 = .ok (.iload_n 2, 1) := by decide +kernel
theorem dX12_cutAll_30 : decode cX12_cutAll 30 = .ok (.iaload, 1) := by decide +kernel
theorem dX12_cutAll_31 : decode cX12_cutAll 31 = .ok (.istore_n 3, 1) := by decide +kernel
theorem dX12_cutAll_32 : decode cX12_cutAll 32 = .ok (.iload_n 3, 1) := by decide +kernel
theorem dX12_cutAll_33 : decode cX12_cutAll 33 = .ok (.bipush 10, 2) := by decide +kernel
theorem dX12_cutAll_35 : decode cX12_cutAll 35 = .ok (.if_icmp .eq 9, 3) := by decide +kernel
theorem dX12_cutAll_38 : decode cX12_cutAll 38 = .ok (.iload_n 3, 1) := by decide +kernel
theorem dX12_cutAll_39 : decode cX12_cutAll 39 = .ok (.bipush 32, 2) := by decide +kernel
theorem dX12_cutAll_41 : decode cX12_cutAll 41 = .ok (.if_icmp .ne 9, 3) := by decide +kernel
theorem dX12_cutAll_44 : decode cX12_cutAll 44 = .ok (.iinc 2 1, 3) := by decide +kernel
theorem dX12_cutAll_47 : decode cX12_cutAll 47 = .ok (.goto (-30), 3) := by decide +kernel
theorem dX12_cutAll_50 : decode cX12_cutAll 50 = .ok (.iload_n 2, 1) := by decide +kernel
theorem dX12_cutAll_51 : decode cX12_cutAll 51 = .ok (.istore 4, 2) := by decide +kernel
theorem dX12_cutAll_53 : decode cX12_cutAll 53 = .ok (.lconst 0, 1) := by decide +kernel
theorem dX12_cutAll_54 : decode cX12_cutAll 54 = .ok (.lstore 5, 2) := by decide +kernel
theorem dX12_cutAll_56 : decode cX12_cutAll 56 = .ok (.aload_n 0, 1) := by decide +kernel
theorem dX12_cutAll_57 : decode cX12_cutAll 57 = .ok (.getfield 27, 3) := by decide +kernel
theorem dX12_cutAll_60 : decode cX12_cutAll 60 = .ok (.iload_n 1, 1) := by decide +kernel
theorem dX12_cutAll_61 : decode cX12_cutAll 61 = .ok (.iload_n 2, 1) := by decide +kernel
theorem dX12_cutAll_62 : decode cX12_cutAll 62 = .ok (.iastore, 1) := by decide +kernel
theorem dX12_cutAll_63 : decode cX12_cutAll 63 = .ok (.iload_n 3, 1) := by decide +kernel
theorem dX12_cutAll_64 : decode cX12_cutAll 64 = .ok (.invokestatic 139, 3) := by decide +kernel
theorem dX12_cutAll_67 : decode cX12_cutAll 67 = .ok (.ifCond .eq 85, 3) := by decide +kernel
theorem dX12_cutAll_70 : decode cX12_cutAll 70 = .ok (.iload_n 2, 1) := by decide +kernel
theorem dX12_cutAll_71 : decode cX12_cutAll 71 = .ok (.aload_n 0, 1) := by decide +kernel
theorem dX12_cutAll_72 : decode cX12_cutAll 72 = .ok (.getfield 143, 3) := by decide +kernel
theorem dX12_cutAll_75 : decode cX12_cutAll 75 = .ok (.if_icmp .ge 54, 3) := by decide +kernel
theorem dX12_cutAll_78 : decode cX12_cutAll 78 = .ok (.aload_n 0, 1) := by decide +kernel
theorem dX12_cutAll_79 : decode cX12_cutAll 79 = .ok (.getfield 14, 3) := by decide +kernel
theorem dX12_cutAll_82 : decode cX12_cutAll 82 = .ok (.iload_n 2, 1) := by decide +kernel
theorem dX12_cutAll_83 : decode cX12_cutAll 83 = .ok (.iaload, 1) := by decide +kernel
theorem dX12_cutAll_84 : decode cX12_cutAll 84 = .ok (.invokestatic 139, 3) := by decide +kernel
theorem dX12_cutAll_87 : decode cX12_cutAll 87 = .ok (.ifCond .eq 42, 3) := by decide +kernel
theorem dX12_cutAll_90 : decode cX12_cutAll 90 = .ok (.iload_n 2, 1) := by decide +kernel
theorem dX12_cutAll_91 : decode cX12_cutAll 91 = .ok (.iload 4, 2) := by decide +kernel
theorem dX12_cutAll_93 : decode cX12_cutAll 93 = .ok (.isub, 1) := by decide +kernel
theorem dX12_cutAll_94 : decode cX12_cutAll 94 = .ok (.bipush 8, 2) := by decide +kernel
theorem dX12_cutAll_96 : decode cX12_cutAll 96 = .ok (.if_icmp .ge 23, 3) := by decide +kernel
theorem dX12_cutAll_99 : decode cX12_cutAll 99 = .ok (.ldc2_w 146, 3) := by decide +kernel
theorem dX12_cutAll_102 : decode cX12_cutAll 102 = .ok (.lload 5, 2) := by decide +kernel
theorem dX12_cutAll_104 : decode cX12_cutAll 104 = .ok (.lmul, 1) := by decide +kernel
theorem dX12_cutAll_105 : decode cX12_cutAll 105 = .ok (.aload_n 0, 1) := by decide +kernel
theorem dX12_cutAll_106 : decode cX12_cutAll 106 = .ok (.getfield 14, 3) := by decide +kernel
theorem dX12_cutAll_109 : decode cX12_cutAll 109 = .ok (.iload_n 2, 1) := by decide +kernel
theorem dX12_cutAll_110 : decode cX12_cutAll 110 = .ok (.iaload, 1) := by decide +kernel
theorem dX12_cutAll_111 : decode cX12_cutAll 111 = .ok (.invokestatic 148, 3) := by decide +kernel
theorem dX12_cutAll_114 : decode cX12_cutAll 114 = .ok (.i2l, 1) := by decide +kernel
theorem dX12_cutAll_115 : decode cX12_cutAll 115 = .ok (.ladd, 1) := by decide +kernel
theorem dX12_cutAll_116 : decode cX12_cutAll 116 = .ok (.goto 5, 3) := by decide +kernel
theorem dX12_cutAll_119 : decode cX12_cutAll 119 = .ok (.lload 5, 2) := by decide +kernel
theorem dX12_cutAll_121 : decode cX12_cutAll 121 = .ok (.lstore 5, 2) := by decide +kernel
theorem dX12_cutAll_123 : decode cX12_cutAll 123 = .ok (.iinc 2 1, 3) := by decide +kernel
theorem dX12_cutAll_126 : decode cX12_cutAll 126 = .ok (.goto (-56), 3) := by decide +kernel
theorem dX12_cutAll_129 : decode cX12_cutAll 129 = .ok (.aload_n 0, 1) := by decide +kernel
theorem dX12_cutAll_130 : decode cX12_cutAll 130 = .ok (.getfield 24, 3) := by decide +kernel
theorem dX12_cutAll_133 : decode cX12_cutAll 133 = .ok (.iload_n 1, 1) := by decide +kernel
theorem dX12_cutAll_134 : decode cX12_cutAll 134 = .ok (.iload_n 2, 1) := by decide +kernel
theorem dX12_cutAll_135 : decode cX12_cutAll 135 = .ok (.iload 4, 2) := by decide +kernel
theorem dX12_cutAll_137 : decode cX12_cutAll 137 = .ok (.isub, 1) := by decide +kernel
theorem dX12_cutAll_138 : decode cX12_cutAll 138 = .ok (.bipush 8, 2) := by decide +kernel
theorem dX12_cutAll_140 : decode cX12_cutAll 140 = .ok (.if_icmp .le 7, 3) := by decide +kernel
theorem dX12_cutAll_143 : decode cX12_cutAll 143 = .ok (.iconst 4, 1) := by decide +kernel
theorem dX12_cutAll_144 : decode cX12_cutAll 144 = .ok (.goto 4, 3) := by decide +kernel
theorem dX12_cutAll_147 : decode cX12_cutAll 147 = .ok (.iconst 1, 1) := by decide +kernel
theorem dX12_cutAll_148 : decode cX12_cutAll 148 = .ok (.iastore, 1) := by decide +kernel
theorem dX12_cutAll_149 : decode cX12_cutAll 149 = .ok (.goto 116, 3) := by decide +kernel
theorem dX12_cutAll_152 : decode cX12_cutAll 152 = .ok (.iload_n 3, 1) := by decide +kernel
theorem dX12_cutAll_153 : decode cX12_cutAll 153 = .ok (.invokestatic 152, 3) := by decide +kernel
theorem dX12_cutAll_156 : decode cX12_cutAll 156 = .ok (.ifCond .eq 84, 3) := by decide +kernel
theorem dX12_cutAll_159 : decode cX12_cutAll 159 = .ok (.iload_n 2, 1) := by decide +kernel
theorem dX12_cutAll_160 : decode cX12_cutAll 160 = .ok (.aload_n 0, 1) := by decide +kernel
theorem dX12_cutAll_161 : decode cX12_cutAll 161 = .ok (.getfield 143, 3) := by decide +kernel
theorem dX12_cutAll_164 : decode cX12_cutAll 164 = .ok (.if_icmp .ge 54, 3) := by decide +kernel
theorem dX12_cutAll_167 : decode cX12_cutAll 167 = .ok (.aload_n 0, 1) := by decide +kernel
theorem dX12_cutAll_168 : decode cX12_cutAll 168 = .ok (.getfield 14, 3) := by decide +kernel
theorem dX12_cutAll_171 : decode cX12_cutAll 171 = .ok (.iload_n 2, 1) := by decide +kernel
theorem dX12_cutAll_172 : decode cX12_cutAll 172 = .ok (.iaload, 1) := by decide +kernel
theorem dX12_cutAll_173 : decode cX12_cutAll 173 = .ok (.invokestatic 152, 3) := by decide +kernel
theorem dX12_cutAll_176 : decode cX12_cutAll 176 = .ok (.ifCond .eq 42, 3) := by decide +kernel
theorem dX12_cutAll_179 : decode cX12_cutAll 179 = .ok (.iload_n 2, 1) := by decide +kernel
theorem dX12_cutAll_180 : decode cX12_cutAll 180 = .ok (.iload 4, 2) := by decide +kernel
theorem dX12_cutAll_182 : decode cX12_cutAll 182 = .ok (.isub, 1) := by decide +kernel
theorem dX12_cutAll_183 : decode cX12_cutAll 183 = .ok (.iconst 4, 1) := by decide +kernel
theorem dX12_cutAll_184 : decode cX12_cutAll 184 = .ok (.if_icmp .ge 24, 3) := by decide +kernel
theorem dX12_cutAll_187 : decode cX12_cutAll 187 = .ok (.ldc2_w 155, 3) := by decide +kernel
theorem dX12_cutAll_190 : decode cX12_cutAll 190 = .ok (.lload 5, 2) := by decide +kernel
theorem dX12_cutAll_192 : decode cX12_cutAll 192 = .ok (.lmul, 1) := by decide +kernel
theorem dX12_cutAll_193 : decode cX12_cutAll 193 = .ok (.aload_n 0, 1) := by decide +kernel
theorem dX12_cutAll_194 : decode cX12_cutAll 194 = .ok (.getfield 14, 3) := by decide +kernel
theorem dX12_cutAll_197 : decode cX12_cutAll 197 = .ok (.iload_n 2, 1) := by decide +kernel
theorem dX12_cutAll_198 : decode cX12_cutAll 198 = .ok (.iaload, 1) := by decide +kernel
theorem dX12_cutAll_199 : decode cX12_cutAll 199 = .ok (.i2l, 1) := by decide +kernel
theorem dX12_cutAll_200 : decode cX12_cutAll 200 = .ok (.ladd, 1) := by decide +kernel
theorem dX12_cutAll_201 : decode cX12_cutAll 201 = .ok (.ldc2_w 157, 3) := by decide +kernel
theorem dX12_cutAll_204 : decode cX12_cutAll 204 = .ok (.lsub, 1) := by decide +kernel
theorem dX12_cutAll_205 : decode cX12_cutAll 205 = .ok (.goto 5, 3) := by decide +kernel
theorem dX12_cutAll_208 : decode cX12_cutAll 208 = .ok (.lload 5, 2) := by decide +kernel
theorem dX12_cutAll_210 : decode cX12_cutAll 210 = .ok (.lstore 5, 2) := by decide +kernel
theorem dX12_cutAll_212 : decode cX12_cutAll 212 = .ok (.iinc 2 1, 3) := by decide +kernel
theorem dX12_cutAll_215 : decode cX12_cutAll 215 = .ok (.goto (-56), 3) := by decide +kernel
theorem dX12_cutAll_218 : decode cX12_cutAll 218 = .ok (.aload_n 0, 1) := by decide +kernel
theorem dX12_cutAll_219 : decode cX12_cutAll 219 = .ok (.getfield 24, 3) := by decide +kernel
theorem dX12_cutAll_222 : decode cX12_cutAll 222 = .ok (.iload_n 1, 1) := by decide +kernel
theorem dX12_cutAll_223 : decode cX12_cutAll 223 = .ok (.iload_n 2, 1) := by decide +kernel
theorem dX12_cutAll_224 : decode cX12_cutAll 224 = .ok (.iload 4, 2) := by decide +kernel
theorem dX12_cutAll_226 : decode cX12_cutAll 226 = .ok (.isub, 1) := by decide +kernel
theorem dX12_cutAll_227 : decode cX12_cutAll 227 = .ok (.iconst 4, 1) := by decide +kernel
theorem dX12_cutAll_228 : decode cX12_cutAll 228 = .ok (.if_icmp .le 7, 3) := by decide +kernel
theorem dX12_cutAll_231 : decode cX12_cutAll 231 = .ok (.iconst 4, 1) := by decide +kernel
theorem dX12_cutAll_232 : decode cX12_cutAll 232 = .ok (.goto 4, 3) := by decide +kernel
theorem dX12_cutAll_235 : decode cX12_cutAll 235 = .ok (.iconst 2, 1) := by decide +kernel
theorem dX12_cutAll_236 : decode cX12_cutAll 236 = .ok (.iastore, 1) := by decide +kernel
theorem dX12_cutAll_237 : decode cX12_cutAll 237 = .ok (.goto 28, 3) := by decide +kernel
theorem dX12_cutAll_240 : decode cX12_cutAll 240 = .ok (.iload_n 3, 1) := by decide +kernel
theorem dX12_cutAll_241 : decode cX12_cutAll 241 = .ok (.i2l, 1) := by decide +kernel
theorem dX12_cutAll_242 : decode cX12_cutAll 242 = .ok (.lstore 5, 2) := by decide +kernel
theorem dX12_cutAll_244 : decode cX12_cutAll 244 = .ok (.aload_n 0, 1) := by decide +kernel
theorem dX12_cutAll_245 : decode cX12_cutAll 245 = .ok (.getfield 24, 3) := by decide +kernel
theorem dX12_cutAll_248 : decode cX12_cutAll 248 = .ok (.iload_n 1, 1) := by decide +kernel
theorem dX12_cutAll_249 : decode cX12_cutAll 249 = .ok (.iload_n 3, 1) := by decide +kernel
theorem dX12_cutAll_250 : decode cX12_cutAll 250 = .ok (.invokestatic 159, 3) := by decide +kernel
theorem dX12_cutAll_253 : decode cX12_cutAll 253 = .ok (.ifCond .eq 7, 3) := by decide +kernel
theorem dX12_cutAll_256 : decode cX12_cutAll 256 = .ok (.iconst 3, 1) := by decide +kernel
theorem dX12_cutAll_257 : decode cX12_cutAll 257 = .ok (.goto 4, 3) := by decide +kernel
theorem dX12_cutAll_260 : decode cX12_cutAll 260 = .ok (.iconst 4, 1) := by decide +kernel
theorem dX12_cutAll_261 : decode cX12_cutAll 261 = .ok (.iastore, 1) := by decide +kernel
theorem dX12_cutAll_262 : decode cX12_cutAll 262 = .ok (.iinc 2 1, 3) := by decide +kernel
theorem dX12_cutAll_265 : decode cX12_cutAll 265 = .ok (.aload_n 0, 1) := by decide +kernel
theorem dX12_cutAll_266 : decode cX12_cutAll 266 = .ok (.getfield 30, 3) := by decide +kernel
theorem dX12_cutAll_269 : decode cX12_cutAll 269 = .ok (.iload_n 1, 1) := by decide +kernel
theorem dX12_cutAll_270 : decode cX12_cutAll 270 = .ok (.lload 5, 2) := by decide +kernel
theorem dX12_cutAll_272 : decode cX12_cutAll 272 = .ok (.lastore, 1) := by decide +kernel
theorem dX12_cutAll_273 : decode cX12_cutAll 273 = .ok (.iinc 1 1, 3) := by decide +kernel
theorem dX12_cutAll_276 : decode cX12_cutAll 276 = .ok (.goto (-259), 3) := by decide +kernel
theorem dX12_cutAll_279 : decode cX12_cutAll 279 = .ok (.aload_n 0, 1) := by decide +kernel
theorem dX12_cutAll_280 : decode cX12_cutAll 280 = .ok (.getfield 24, 3) := by decide +kernel
theorem dX12_cutAll_283 : decode cX12_cutAll 283 = .ok (.iload_n 1, 1) := by decide +kernel
theorem dX12_cutAll_284 : decode cX12_cutAll 284 = .ok (.iconst 0, 1) := by decide +kernel
theorem dX12_cutAll_285 : decode cX12_cutAll 285 = .ok (.iastore, 1) := by decide +kernel
theorem dX12_cutAll_286 : decode cX12_cutAll 286 = .ok (.aload_n 0, 1) := by decide +kernel
theorem dX12_cutAll_287 : decode cX12_cutAll 287 = .ok (.getfield 27, 3) := by decide +kernel
theorem dX12_cutAll_290 : decode cX12_cutAll 290 = .ok (.iload_n 1, 1) := by decide +kernel
theorem dX12_cutAll_291 : decode cX12_cutAll 291 = .ok (.aload_n 0, 1) := by decide +kernel
theorem dX12_cutAll_292 : decode cX12_cutAll 292 = .ok (.getfield 143, 3) := by decide +kernel
theorem dX12_cutAll_295 : decode cX12_cutAll 295 = .ok (.iastore, 1) := by decide +kernel
theorem dX12_cutAll_296 : decode cX12_cutAll 296 = .ok (.aload_n 0, 1) := by decide +kernel
theorem dX12_cutAll_297 : decode cX12_cutAll 297 = .ok (.iconst 0, 1) := by decide +kernel
theorem dX12_cutAll_298 : decode cX12_cutAll 298 = .ok (.putfield 162, 3) := by decide +kernel
theorem dX12_cutAll_301 : decode cX12_cutAll 301 = .ok (.aload_n 0, 1) := by decide +kernel
theorem dX12_cutAll_302 : decode cX12_cutAll 302 = .ok (.iconst 0, 1) := by decide +kernel
theorem dX12_cutAll_303 : decode cX12_cutAll 303 = .ok (.putfield 165, 3) := by decide +kernel
theorem dX12_cutAll_306 : decode cX12_cutAll 306 = .ok (.return_, 1) := by decide +kernel
theorem dX12_wrong_0 : decode cX12_wrong 0 = .ok (.aload_n 0, 1) := by decide +kernel
theorem dX12_wrong_1 : decode cX12_wrong 1 = .ok (.getfield 165, 3) := by decide +kernel
theorem dX12_wrong_4 : decode cX12_wrong 4 = .ok (.ifCond .ne 21, 3) := by decide +kernel
theorem dX12_wrong_7 : decode cX12_wrong 7 = .ok (.aload_n 0, 1) := by decide +kernel
theorem dX12_wrong_8 : decode cX12_wrong 8 = .ok (.iload_n 1, 1) := by decide +kernel
theorem dX12_wrong_9 : decode cX12_wrong 9 = .ok (.bipush 16, 2) := by decide +kernel
theorem dX12_wrong_11 : decode cX12_wrong 11 = .ok (.aload_n 0, 1) := by decide +kernel
theorem dX12_wrong_12 : decode cX12_wrong 12 = .ok (.getfield 27, 3) := by decide +kernel
theorem dX12_wrong_15 : decode cX12_wrong 15 = .ok (.aload_n 0, 1) := by decide +kernel
theorem dX12_wrong_16 : decode cX12_wrong 16 = .ok (.getfield 162, 3) := by decide +kernel
theorem dX12_wrong_19 : decode cX12_wrong 19 = .ok (.iaload, 1) := by decide +kernel
theorem dX12_wrong_20 : decode cX12_wrong 20 = .ok (.imul, 1) := by decide +kernel
theorem dX12_wrong_21 : decode cX12_wrong 21 = .ok (.iadd, 1) := by decide +kernel
theorem dX12_wrong_22 : decode cX12_wrong 22 = .ok (.putfield 165, 3) := by decide +kernel
theorem dX12_wrong_25 : decode cX12_wrong 25 = .ok (.return_, 1) := by decide +kernel
theorem dX12_isSign_0 : decode cX12_isSign 0 = .ok (.aload_n 0, 1) := by decide +kernel
theorem dX12_isSign_1 : decode cX12_isSign 1 = .ok (.getfield 165, 3) := by decide +kernel
theorem dX12_isSign_4 : decode cX12_isSign 4 = .ok (.ifCond .ne 35, 3) := by decide +kernel
theorem dX12_isSign_7 : decode cX12_isSign 7 = .ok (.aload_n 0, 1) := by decide +kernel
theorem dX12_isSign_8 : decode cX12_isSign 8 = .ok (.getfield 24, 3) := by decide +kernel
theorem dX12_isSign_11 : decode cX12_isSign 11 = .ok (.aload_n 0, 1) := by decide +kernel
theorem dX12_isSign_12 : decode cX12_isSign 12 = .ok (.getfield 162, 3) := by decide +kernel
theorem dX12_isSign_15 : decode cX12_isSign 15 = .ok (.iaload, 1) := by decide +kernel
theorem dX12_isSign_16 : decode cX12_isSign 16 = .ok (.iconst 3, 1) := by decide +kernel
theorem dX12_isSign_17 : decode cX12_isSign 17 = .ok (.if_icmp .ne 22, 3) := by decide +kernel
theorem dX12_isSign_20 : decode cX12_isSign 20 = .ok (.aload_n 0, 1) := by decide +kernel
theorem dX12_isSign_21 : decode cX12_isSign 21 = .ok (.getfield 30, 3) := by decide +kernel
theorem dX12_isSign_24 : decode cX12_isSign 24 = .ok (.aload_n 0, 1) := by decide +kernel
theorem dX12_isSign_25 : decode cX12_isSign 25 = .ok (.getfield 162, 3) := by decide +kernel
theorem dX12_isSign_28 : decode cX12_isSign 28 = .ok (.laload, 1) := by decide +kernel
theorem dX12_isSign_29 : decode cX12_isSign 29 = .ok (.iload_n 1, 1) := by decide +kernel
theorem dX12_isSign_30 : decode cX12_isSign 30 = .ok (.i2l, 1) := by decide +kernel
theorem dX12_isSign_31 : decode cX12_isSign 31 = .ok (.lcmp, 1) := by decide +kernel
theorem dX12_isSign_32 : decode cX12_isSign 32 = .ok (.ifCond .ne 7, 3) := by decide +kernel
theorem dX12_isSign_35 : decode cX12_isSign 35 = .ok (.iconst 1, 1) := by decide +kernel
theorem dX12_isSign_36 : decode cX12_isSign 36 = .ok (.goto 4, 3) := by decide +kernel
theorem dX12_isSign_39 : decode cX12_isSign 39 = .ok (.iconst 0, 1) := by decide +kernel
theorem dX12_isSign_40 : decode cX12_isSign 40 = .ok (.ireturn, 1) := by decide +kernel
theorem dX12_isWord_0 : decode cX12_isWord 0 = .ok (.aload_n 0, 1) := by decide +kernel
theorem dX12_isWord_1 : decode cX12_isWord 1 = .ok (.getfield 165, 3) := by decide +kernel
theorem dX12_isWord_4 : decode cX12_isWord 4 = .ok (.ifCond .ne 39, 3) := by decide +kernel
theorem dX12_isWord_7 : decode cX12_isWord 7 = .ok (.aload_n 0, 1) := by decide +kernel
theorem dX12_isWord_8 : decode cX12_isWord 8 = .ok (.getfield 24, 3) := by decide +kernel
theorem dX12_isWord_11 : decode cX12_isWord 11 = .ok (.aload_n 0, 1) := by decide +kernel
theorem dX12_isWord_12 : decode cX12_isWord 12 = .ok (.getfield 162, 3) := by decide +kernel
theorem dX12_isWord_15 : decode cX12_isWord 15 = .ok (.iaload, 1) := by decide +kernel
theorem dX12_isWord_16 : decode cX12_isWord 16 = .ok (.iconst 1, 1) := by decide +kernel
theorem dX12_isWord_17 : decode cX12_isWord 17 = .ok (.if_icmp .ne 26, 3) := by decide +kernel
theorem dX12_isWord_20 : decode cX12_isWord 20 = .ok (.aload_n 0, 1) := by decide +kernel
theorem dX12_isWord_21 : decode cX12_isWord 21 = .ok (.getfield 30, 3) := by decide +kernel
theorem dX12_isWord_24 : decode cX12_isWord 24 = .ok (.aload_n 0, 1) := by decide +kernel
theorem dX12_isWord_25 : decode cX12_isWord 25 = .ok (.getfield 162, 3) := by decide +kernel
theorem dX12_isWord_28 : decode cX12_isWord 28 = .ok (.laload, 1) := by decide +kernel
theorem dX12_isWord_29 : decode cX12_isWord 29 = .ok (.aload_n 0, 1) := by decide +kernel
theorem dX12_isWord_30 : decode cX12_isWord 30 = .ok (.getfield 86, 3) := by decide +kernel
theorem dX12_isWord_33 : decode cX12_isWord 33 = .ok (.iload_n 1, 1) := by decide +kernel
theorem dX12_isWord_34 : decode cX12_isWord 34 = .ok (.laload, 1) := by decide +kernel
theorem dX12_isWord_35 : decode cX12_isWord 35 = .ok (.lcmp, 1) := by decide +kernel
theorem dX12_isWord_36 : decode cX12_isWord 36 = .ok (.ifCond .ne 7, 3) := by decide +kernel
theorem dX12_isWord_39 : decode cX12_isWord 39 = .ok (.iconst 1, 1) := by decide +kernel
theorem dX12_isWord_40 : decode cX12_isWord 40 = .ok (.goto 4, 3) := by decide +kernel
theorem dX12_isWord_43 : decode cX12_isWord 43 = .ok (.iconst 0, 1) := by decide +kernel
theorem dX12_isWord_44 : decode cX12_isWord 44 = .ok (.ireturn, 1) := by decide +kernel
theorem dX12_takeSign_0 : decode cX12_takeSign 0 = .ok (.aload_n 0, 1) := by decide +kernel
theorem dX12_takeSign_1 : decode cX12_takeSign 1 = .ok (.iload_n 1, 1) := by decide +kernel
theorem dX12_takeSign_2 : decode cX12_takeSign 2 = .ok (.invokevirtual 168, 3) := by decide +kernel
theorem dX12_takeSign_5 : decode cX12_takeSign 5 = .ok (.ifCond .eq 16, 3) := by decide +kernel
theorem dX12_takeSign_8 : decode cX12_takeSign 8 = .ok (.aload_n 0, 1) := by decide +kernel
theorem dX12_takeSign_9 : decode cX12_takeSign 9 = .ok (.dup, 1) := by decide +kernel
theorem dX12_takeSign_10 : decode cX12_takeSign 10 = .ok (.getfield 162, 3) := by decide +kernel
theorem dX12_takeSign_13 : decode cX12_takeSign 13 = .ok (.iconst 1, 1) := by decide +kernel
theorem dX12_takeSign_14 : decode cX12_takeSign 14 = .ok (.iadd, 1) := by decide +kernel
theorem dX12_takeSign_15 : decode cX12_takeSign 15 = .ok (.putfield 162, 3) := by decide +kernel
theorem dX12_takeSign_18 : decode cX12_takeSign 18 = .ok (.goto 8, 3) := by decide +kernel
theorem dX12_takeSign_21 : decode cX12_takeSign 21 = .ok (.aload_n 0, 1) := by decide +kernel
theorem dX12_takeSign_22 : decode cX12_takeSign 22 = .ok (.iconst 1, 1) := by decide +kernel
theorem dX12_takeSign_23 : decode cX12_takeSign 23 = .ok (.invokevirtual 171, 3) := by decide +kernel
theorem dX12_takeSign_26 : decode cX12_takeSign 26 = .ok (.return_, 1) := by decide +kernel
theorem dX12_hasSign_0 : decode cX12_hasSign 0 = .ok (.aload_n 0, 1) := by decide +kernel
theorem dX12_hasSign_1 : decode cX12_hasSign 1 = .ok (.iload_n 1, 1) := by decide +kernel
theorem dX12_hasSign_2 : decode cX12_hasSign 2 = .ok (.invokevirtual 168, 3) := by decide +kernel
theorem dX12_hasSign_5 : decode cX12_hasSign 5 = .ok (.istore_n 2, 1) := by decide +kernel
theorem dX12_hasSign_6 : decode cX12_hasSign 6 = .ok (.aload_n 0, 1) := by decide +kernel
theorem dX12_hasSign_7 : decode cX12_hasSign 7 = .ok (.dup, 1) := by decide +kernel
theorem dX12_hasSign_8 : decode cX12_hasSign 8 = .ok (.getfield 162, 3) := by decide +kernel
theorem dX12_hasSign_11 : decode cX12_hasSign 11 = .ok (.iload_n 2, 1) := by decide +kernel
theorem dX12_hasSign_12 : decode cX12_hasSign 12 = .ok (.ifCond .eq 7, 3) := by decide +kernel
theorem dX12_hasSign_15 : decode cX12_hasSign 15 = .ok (.iconst 1, 1) := by decide +kernel
theorem dX12_hasSign_16 : decode cX12_hasSign 16 = .ok (.goto 4, 3) := by decide +kernel
theorem dX12_hasSign_19 : decode cX12_hasSign 19 = .ok (.iconst 0, 1) := by decide +kernel
theorem dX12_hasSign_20 : decode cX12_hasSign 20 = .ok (.iadd, 1) := by decide +kernel
theorem dX12_hasSign_21 : decode cX12_hasSign 21 = .ok (.putfield 162, 3) := by decide +kernel
theorem dX12_hasSign_24 : decode cX12_hasSign 24 = .ok (.iload_n 2, 1) := by decide +kernel
theorem dX12_hasSign_25 : decode cX12_hasSign 25 = .ok (.ireturn, 1) := by decide +kernel
theorem dX12_hasWord_0 : decode cX12_hasWord 0 = .ok (.aload_n 0, 1) := by decide +kernel
theorem dX12_hasWord_1 : decode cX12_hasWord 1 = .ok (.iload_n 1, 1) := by decide +kernel
theorem dX12_hasWord_2 : decode cX12_hasWord 2 = .ok (.invokevirtual 174, 3) := by decide +kernel
theorem dX12_hasWord_5 : decode cX12_hasWord 5 = .ok (.istore_n 2, 1) := by decide +kernel
theorem dX12_hasWord_6 : decode cX12_hasWord 6 = .ok (.aload_n 0, 1) := by decide +kernel
theorem dX12_hasWord_7 : decode cX12_hasWord 7 = .ok (.dup, 1) := by decide +kernel
theorem dX12_hasWord_8 : decode cX12_hasWord 8 = .ok (.getfield 162, 3) := by decide +kernel
theorem dX12_hasWord_11 : decode cX12_hasWord 11 = .ok (.iload_n 2, 1) := by decide +kernel
theorem dX12_hasWord_12 : decode cX12_hasWord 12 = .ok (.ifCond .eq 7, 3) := by decide +kernel
theorem dX12_hasWord_15 : decode cX12_hasWord 15 = .ok (.iconst 1, 1) := by decide +kernel
theorem dX12_hasWord_16 : decode cX12_hasWord 16 = .ok (.goto 4, 3) := by decide +kernel
theorem dX12_hasWord_19 : decode cX12_hasWord 19 = .ok (.iconst 0, 1) := by decide +kernel
theorem dX12_hasWord_20 : decode cX12_hasWord 20 = .ok (.iadd, 1) := by decide +kernel
theorem dX12_hasWord_21 : decode cX12_hasWord 21 = .ok (.putfield 162, 3) := by decide +kernel
theorem dX12_hasWord_24 : decode cX12_hasWord 24 = .ok (.iload_n 2, 1) := by decide +kernel
theorem dX12_hasWord_25 : decode cX12_hasWord 25 = .ok (.ireturn, 1) := by decide +kernel
theorem dX12_takeWord_0 : decode cX12_takeWord 0 = .ok (.aload_n 0, 1) := by decide +kernel
theorem dX12_takeWord_1 : decode cX12_takeWord 1 = .ok (.iload_n 1, 1) := by decide +kernel
theorem dX12_takeWord_2 : decode cX12_takeWord 2 = .ok (.invokevirtual 177, 3) := by decide +kernel
theorem dX12_takeWord_5 : decode cX12_takeWord 5 = .ok (.ifCond .ne 8, 3) := by decide +kernel
theorem dX12_takeWord_8 : decode cX12_takeWord 8 = .ok (.aload_n 0, 1) := by decide +kernel
theorem dX12_takeWord_9 : decode cX12_takeWord 9 = .ok (.iconst 1, 1) := by decide +kernel
theorem dX12_takeWord_10 : decode cX12_takeWord 10 = .ok (.invokevirtual 171, 3) := by decide +kernel
theorem dX12_takeWord_13 : decode cX12_takeWord 13 = .ok (.return_, 1) := by decide +kernel
theorem dX12_within_0 : decode cX12_within 0 = .ok (.iload_n 0, 1) := by decide +kernel
theorem dX12_within_1 : decode cX12_within 1 = .ok (.iload_n 1, 1) := by decide +kernel
theorem dX12_within_2 : decode cX12_within 2 = .ok (.if_icmp .lt 12, 3) := by decide +kernel
theorem dX12_within_5 : decode cX12_within 5 = .ok (.iload_n 0, 1) := by decide +kernel
theorem dX12_within_6 : decode cX12_within 6 = .ok (.iload_n 2, 1) := by decide +kernel
theorem dX12_within_7 : decode cX12_within 7 = .ok (.if_icmp .gt 7, 3) := by decide +kernel
theorem dX12_within_10 : decode cX12_within 10 = .ok (.iconst 1, 1) := by decide +kernel
theorem dX12_within_11 : decode cX12_within 11 = .ok (.goto 4, 3) := by decide +kernel
theorem dX12_within_14 : decode cX12_within 14 = .ok (.iconst 0, 1) := by decide +kernel
theorem dX12_within_15 : decode cX12_within 15 = .ok (.ireturn, 1) := by decide +kernel
theorem dX12_standsAsAlways_0 : decode cX12_standsAsAlways 0 = .ok (.iconst 0, 1) := by decide +kernel
theorem dX12_standsAsAlways_1 : decode cX12_standsAsAlways 1 = .ok (.istore_n 2, 1) := by decide +kernel
theorem dX12_standsAsAlways_2 : decode cX12_standsAsAlways 2 = .ok (.iload_n 2, 1) := by decide +kernel
theorem dX12_standsAsAlways_3 : decode cX12_standsAsAlways 3 = .ok (.bipush 60, 2) := by decide +kernel
theorem dX12_standsAsAlways_5 : decode cX12_standsAsAlways 5 = .ok (.if_icmp .ge 18, 3) := by decide +kernel
theorem dX12_standsAsAlways_8 : decode cX12_standsAsAlways 8 = .ok (.aload_n 0, 1) := by decide +kernel
theorem dX12_standsAsAlways_9 : decode cX12_standsAsAlways 9 = .ok (.getfield 89, 3) := by decide +kernel
theorem dX12_standsAsAlways_12 : decode cX12_standsAsAlways 12 = .ok (.iload_n 1, 1) := by decide +kernel
theorem dX12_standsAsAlways_13 : decode cX12_standsAsAlways 13 = .ok (.iload_n 2, 1) := by decide +kernel
theorem dX12_standsAsAlways_14 : decode cX12_standsAsAlways 14 = .ok (.iadd, 1) := by decide +kernel
theorem dX12_standsAsAlways_15 : decode cX12_standsAsAlways 15 = .ok (.iconst 0, 1) := by decide +kernel
theorem dX12_standsAsAlways_16 : decode cX12_standsAsAlways 16 = .ok (.iastore, 1) := by decide +kernel
theorem dX12_standsAsAlways_17 : decode cX12_standsAsAlways 17 = .ok (.iinc 2 1, 3) := by decide +kernel
theorem dX12_standsAsAlways_20 : decode cX12_standsAsAlways 20 = .ok (.goto (-18), 3) := by decide +kernel
theorem dX12_standsAsAlways_23 : decode cX12_standsAsAlways 23 = .ok (.aload_n 0, 1) := by decide +kernel
theorem dX12_standsAsAlways_24 : decode cX12_standsAsAlways 24 = .ok (.getfield 89, 3) := by decide +kernel
theorem dX12_standsAsAlways_27 : decode cX12_standsAsAlways 27 = .ok (.iload_n 1, 1) := by decide +kernel
theorem dX12_standsAsAlways_28 : decode cX12_standsAsAlways 28 = .ok (.iconst 3, 1) := by decide +kernel
theorem dX12_standsAsAlways_29 : decode cX12_standsAsAlways 29 = .ok (.iadd, 1) := by decide +kernel
theorem dX12_standsAsAlways_30 : decode cX12_standsAsAlways 30 = .ok (.bipush 8, 2) := by decide +kernel
theorem dX12_standsAsAlways_32 : decode cX12_standsAsAlways 32 = .ok (.iastore, 1) := by decide +kernel
theorem dX12_standsAsAlways_33 : decode cX12_standsAsAlways 33 = .ok (.aload_n 0, 1) := by decide +kernel
theorem dX12_standsAsAlways_34 : decode cX12_standsAsAlways 34 = .ok (.getfield 89, 3) := by decide +kernel
theorem dX12_standsAsAlways_37 : decode cX12_standsAsAlways 37 = .ok (.iload_n 1, 1) := by decide +kernel
theorem dX12_standsAsAlways_38 : decode cX12_standsAsAlways 38 = .ok (.iconst 4, 1) := by decide +kernel
theorem dX12_standsAsAlways_39 : decode cX12_standsAsAlways 39 = .ok (.iadd, 1) := by decide +kernel
theorem dX12_standsAsAlways_40 : decode cX12_standsAsAlways 40 = .ok (.iconst (-1), 1) := by decide +kernel
theorem dX12_standsAsAlways_41 : decode cX12_standsAsAlways 41 = .ok (.iastore, 1) := by decide +kernel
theorem dX12_standsAsAlways_42 : decode cX12_standsAsAlways 42 = .ok (.return_, 1) := by decide +kernel
theorem dX12_takeNumber_0 : decode cX12_takeNumber 0 = .ok (.aload_n 0, 1) := by decide +kernel
theorem dX12_takeNumber_1 : decode cX12_takeNumber 1 = .ok (.getfield 165, 3) := by decide +kernel
theorem dX12_takeNumber_4 : decode cX12_takeNumber 4 = .ok (.ifCond .ne 24, 3) := by decide +kernel
theorem dX12_takeNumber_7 : decode cX12_takeNumber 7 = .ok (.aload_n 0, 1) := by decide +kernel
theorem dX12_takeNumber_8 : decode cX12_takeNumber 8 = .ok (.getfield 24, 3) := by decide +kernel
theorem dX12_takeNumber_11 : decode cX12_takeNumber 11 = .ok (.aload_n 0, 1) := by decide +kernel
theorem dX12_takeNumber_12 : decode cX12_takeNumber 12 = .ok (.getfield 162, 3) := by decide +kernel
theorem dX12_takeNumber_15 : decode cX12_takeNumber 15 = .ok (.iaload, 1) := by decide +kernel
theorem dX12_takeNumber_16 : decode cX12_takeNumber 16 = .ok (.iconst 2, 1) := by decide +kernel
theorem dX12_takeNumber_17 : decode cX12_takeNumber 17 = .ok (.if_icmp .eq 11, 3) := by decide +kernel
theorem dX12_takeNumber_20 : decode cX12_takeNumber 20 = .ok (.aload_n 0, 1) := by decide +kernel
theorem dX12_takeNumber_21 : decode cX12_takeNumber 21 = .ok (.iconst 1, 1) := by decide +kernel
theorem dX12_takeNumber_22 : decode cX12_takeNumber 22 = .ok (.invokevirtual 171, 3) := by decide +kernel
theorem dX12_takeNumber_25 : decode cX12_takeNumber 25 = .ok (.goto 45, 3) := by decide +kernel
theorem dX12_takeNumber_28 : decode cX12_takeNumber 28 = .ok (.aload_n 0, 1) := by decide +kernel
theorem dX12_takeNumber_29 : decode cX12_takeNumber 29 = .ok (.getfield 165, 3) := by decide +kernel
theorem dX12_takeNumber_32 : decode cX12_takeNumber 32 = .ok (.ifCond .ne 38, 3) := by decide +kernel
theorem dX12_takeNumber_35 : decode cX12_takeNumber 35 = .ok (.aload_n 0, 1) := by decide +kernel
theorem dX12_takeNumber_36 : decode cX12_takeNumber 36 = .ok (.getfield 30, 3) := by decide +kernel
theorem dX12_takeNumber_39 : decode cX12_takeNumber 39 = .ok (.aload_n 0, 1) := by decide +kernel
theorem dX12_takeNumber_40 : decode cX12_takeNumber 40 = .ok (.getfield 162, 3) := by decide +kernel
theorem dX12_takeNumber_43 : decode cX12_takeNumber 43 = .ok (.laload, 1) := by decide +kernel
theorem dX12_takeNumber_44 : decode cX12_takeNumber 44 = .ok (.iload_n 1, 1) := by decide +kernel
theorem dX12_takeNumber_45 : decode cX12_takeNumber 45 = .ok (.i2l, 1) := by decide +kernel
theorem dX12_takeNumber_46 : decode cX12_takeNumber 46 = .ok (.lcmp, 1) := by decide +kernel
theorem dX12_takeNumber_47 : decode cX12_takeNumber 47 = .ok (.ifCond .lt 18, 3) := by decide +kernel
theorem dX12_takeNumber_50 : decode cX12_takeNumber 50 = .ok (.aload_n 0, 1) := by decide +kernel
theorem dX12_takeNumber_51 : decode cX12_takeNumber 51 = .ok (.getfield 30, 3) := by decide +kernel
theorem dX12_takeNumber_54 : decode cX12_takeNumber 54 = .ok (.aload_n 0, 1) := by decide +kernel
theorem dX12_takeNumber_55 : decode cX12_takeNumber 55 = .ok (.getfield 162, 3) := by decide +kernel
theorem dX12_takeNumber_58 : decode cX12_takeNumber 58 = .ok (.laload, 1) := by decide +kernel
theorem dX12_takeNumber_59 : decode cX12_takeNumber 59 = .ok (.iload_n 2, 1) := by decide +kernel
theorem dX12_takeNumber_60 : decode cX12_takeNumber 60 = .ok (.i2l, 1) := by decide +kernel
theorem dX12_takeNumber_61 : decode cX12_takeNumber 61 = .ok (.lcmp, 1) := by decide +kernel
theorem dX12_takeNumber_62 : decode cX12_takeNumber 62 = .ok (.ifCond .le 8, 3) := by decide +kernel
theorem dX12_takeNumber_65 : decode cX12_takeNumber 65 = .ok (.aload_n 0, 1) := by decide +kernel
theorem dX12_takeNumber_66 : decode cX12_takeNumber 66 = .ok (.iconst 4, 1) := by decide +kernel
theorem dX12_takeNumber_67 : decode cX12_takeNumber 67 = .ok (.invokevirtual 171, 3) := by decide +kernel
theorem dX12_takeNumber_70 : decode cX12_takeNumber 70 = .ok (.aload_n 0, 1) := by decide +kernel
theorem dX12_takeNumber_71 : decode cX12_takeNumber 71 = .ok (.getfield 165, 3) := by decide +kernel
theorem dX12_takeNumber_74 : decode cX12_takeNumber 74 = .ok (.ifCond .le 5, 3) := by decide +kernel
theorem dX12_takeNumber_77 : decode cX12_takeNumber 77 = .ok (.iconst 0, 1) := by decide +kernel
theorem dX12_takeNumber_78 : decode cX12_takeNumber 78 = .ok (.ireturn, 1) := by decide +kernel
theorem dX12_takeNumber_79 : decode cX12_takeNumber 79 = .ok (.aload_n 0, 1) := by decide +kernel
theorem dX12_takeNumber_80 : decode cX12_takeNumber 80 = .ok (.dup, 1) := by decide +kernel
theorem dX12_takeNumber_81 : decode cX12_takeNumber 81 = .ok (.getfield 162, 3) := by decide +kernel
theorem dX12_takeNumber_84 : decode cX12_takeNumber 84 = .ok (.iconst 1, 1) := by decide +kernel
theorem dX12_takeNumber_85 : decode cX12_takeNumber 85 = .ok (.iadd, 1) := by decide +kernel
theorem dX12_takeNumber_86 : decode cX12_takeNumber 86 = .ok (.putfield 162, 3) := by decide +kernel
theorem dX12_takeNumber_89 : decode cX12_takeNumber 89 = .ok (.aload_n 0, 1) := by decide +kernel
theorem dX12_takeNumber_90 : decode cX12_takeNumber 90 = .ok (.getfield 30, 3) := by decide +kernel
theorem dX12_takeNumber_93 : decode cX12_takeNumber 93 = .ok (.aload_n 0, 1) := by decide +kernel
theorem dX12_takeNumber_94 : decode cX12_takeNumber 94 = .ok (.getfield 162, 3) := by decide +kernel
theorem dX12_takeNumber_97 : decode cX12_takeNumber 97 = .ok (.iconst 1, 1) := by decide +kernel
theorem dX12_takeNumber_98 : decode cX12_takeNumber 98 = .ok (.isub, 1) := by decide +kernel
theorem dX12_takeNumber_99 : decode cX12_takeNumber 99 = .ok (.laload, 1) := by decide +kernel
theorem dX12_takeNumber_100 : decode cX12_takeNumber 100 = .ok (.l2i, 1) := by decide +kernel
theorem dX12_takeNumber_101 : decode cX12_takeNumber 101 = .ok (.ireturn, 1) := by decide +kernel
theorem dX12_takeAfter_0 : decode cX12_takeAfter 0 = .ok (.aload_n 0, 1) := by decide +kernel
theorem dX12_takeAfter_1 : decode cX12_takeAfter 1 = .ok (.iload_n 1, 1) := by decide +kernel
theorem dX12_takeAfter_2 : decode cX12_takeAfter 2 = .ok (.invokevirtual 180, 3) := by decide +kernel
theorem dX12_takeAfter_5 : decode cX12_takeAfter 5 = .ok (.aload_n 0, 1) := by decide +kernel
theorem dX12_takeAfter_6 : decode cX12_takeAfter 6 = .ok (.iload_n 2, 1) := by decide +kernel
theorem dX12_takeAfter_7 : decode cX12_takeAfter 7 = .ok (.iload_n 3, 1) := by decide +kernel
theorem dX12_takeAfter_8 : decode cX12_takeAfter 8 = .ok (.invokevirtual 183, 3) := by decide +kernel
theorem dX12_takeAfter_11 : decode cX12_takeAfter 11 = .ok (.ireturn, 1) := by decide +kernel
theorem dX12_wordHere_0 : decode cX12_wordHere 0 = .ok (.iconst (-1), 1) := by decide +kernel
theorem dX12_wordHere_1 : decode cX12_wordHere 1 = .ok (.istore_n 3, 1) := by decide +kernel
theorem dX12_wordHere_2 : decode cX12_wordHere 2 = .ok (.iconst 0, 1) := by decide +kernel
theorem dX12_wordHere_3 : decode cX12_wordHere 3 = .ok (.istore 4, 2) := by decide +kernel
theorem dX12_wordHere_5 : decode cX12_wordHere 5 = .ok (.iload 4, 2) := by decide +kernel
theorem dX12_wordHere_7 : decode cX12_wordHere 7 = .ok (.iload_n 2, 1) := by decide +kernel
theorem dX12_wordHere_8 : decode cX12_wordHere 8 = .ok (.if_icmp .ge 27, 3) := by decide +kernel
theorem dX12_wordHere_11 : decode cX12_wordHere 11 = .ok (.aload_n 0, 1) := by decide +kernel
theorem dX12_wordHere_12 : decode cX12_wordHere 12 = .ok (.iload_n 1, 1) := by decide +kernel
theorem dX12_wordHere_13 : decode cX12_wordHere 13 = .ok (.iload 4, 2) := by decide +kernel
theorem dX12_wordHere_15 : decode cX12_wordHere 15 = .ok (.iadd, 1) := by decide +kernel
theorem dX12_wordHere_16 : decode cX12_wordHere 16 = .ok (.invokevirtual 174, 3) := by decide +kernel
theorem dX12_wordHere_19 : decode cX12_wordHere 19 = .ok (.ifCond .eq 8, 3) := by decide +kernel
theorem dX12_wordHere_22 : decode cX12_wordHere 22 = .ok (.iload 4, 2) := by decide +kernel
theorem dX12_wordHere_24 : decode cX12_wordHere 24 = .ok (.goto 4, 3) := by decide +kernel
theorem dX12_wordHere_27 : decode cX12_wordHere 27 = .ok (.iload_n 3, 1) := by decide +kernel
theorem dX12_wordHere_28 : decode cX12_wordHere 28 = .ok (.istore_n 3, 1) := by decide +kernel
theorem dX12_wordHere_29 : decode cX12_wordHere 29 = .ok (.iinc 4 1, 3) := by decide +kernel
theorem dX12_wordHere_32 : decode cX12_wordHere 32 = .ok (.goto (-27), 3) := by decide +kernel
theorem dX12_wordHere_35 : decode cX12_wordHere 35 = .ok (.iload_n 3, 1) := by decide +kernel
theorem dX12_wordHere_36 : decode cX12_wordHere 36 = .ok (.ireturn, 1) := by decide +kernel
theorem dX12_takeOne_0 : decode cX12_takeOne 0 = .ok (.aload_n 0, 1) := by decide +kernel
theorem dX12_takeOne_1 : decode cX12_takeOne 1 = .ok (.getfield 165, 3) := by decide +kernel
theorem dX12_takeOne_4 : decode cX12_takeOne 4 = .ok (.ifCond .le 7, 3) := by decide +kernel
theorem dX12_takeOne_7 : decode cX12_takeOne 7 = .ok (.iconst (-1), 1) := by decide +kernel
theorem dX12_takeOne_8 : decode cX12_takeOne 8 = .ok (.goto 9, 3) := by decide +kernel
theorem dX12_takeOne_11 : decode cX12_takeOne 11 = .ok (.aload_n 0, 1) := by decide +kernel
theorem dX12_takeOne_12 : decode cX12_takeOne 12 = .ok (.iload_n 1, 1) := by decide +kernel
theorem dX12_takeOne_13 : decode cX12_takeOne 13 = .ok (.iload_n 2, 1) := by decide +kernel
theorem dX12_takeOne_14 : decode cX12_takeOne 14 = .ok (.invokevirtual 187, 3) := by decide +kernel
theorem dX12_takeOne_17 : decode cX12_takeOne 17 = .ok (.istore_n 3, 1) := by decide +kernel
theorem dX12_takeOne_18 : decode cX12_takeOne 18 = .ok (.aload_n 0, 1) := by decide +kernel
theorem dX12_takeOne_19 : decode cX12_takeOne 19 = .ok (.getfield 165, 3) := by decide +kernel
theorem dX12_takeOne_22 : decode cX12_takeOne 22 = .ok (.ifCond .ne 12, 3) := by decide +kernel
theorem dX12_takeOne_25 : decode cX12_takeOne 25 = .ok (.iload_n 3, 1) := by decide +kernel
theorem dX12_takeOne_26 : decode cX12_takeOne 26 = .ok (.ifCond .ge 8, 3) := by decide +kernel
theorem dX12_takeOne_29 : decode cX12_takeOne 29 = .ok (.aload_n 0, 1) := by decide +kernel
theorem dX12_takeOne_30 : decode cX12_takeOne 30 = .ok (.iconst 1, 1) := by decide +kernel
theorem dX12_takeOne_31 : decode cX12_takeOne 31 = .ok (.invokevirtual 171, 3) := by decide +kernel
theorem dX12_takeOne_34 : decode cX12_takeOne 34 = .ok (.aload_n 0, 1) := by decide +kernel
theorem dX12_takeOne_35 : decode cX12_takeOne 35 = .ok (.dup, 1) := by decide +kernel
theorem dX12_takeOne_36 : decode cX12_takeOne 36 = .ok (.getfield 162, 3) := by decide +kernel
theorem dX12_takeOne_39 : decode cX12_takeOne 39 = .ok (.aload_n 0, 1) := by decide +kernel
theorem dX12_takeOne_40 : decode cX12_takeOne 40 = .ok (.getfield 165, 3) := by decide +kernel
theorem dX12_takeOne_43 : decode cX12_takeOne 43 = .ok (.ifCond .le 7, 3) := by decide +kernel
theorem dX12_takeOne_46 : decode cX12_takeOne 46 = .ok (.iconst 0, 1) := by decide +kernel
theorem dX12_takeOne_47 : decode cX12_takeOne 47 = .ok (.goto 4, 3) := by decide +kernel
theorem dX12_takeOne_50 : decode cX12_takeOne 50 = .ok (.iconst 1, 1) := by decide +kernel
theorem dX12_takeOne_51 : decode cX12_takeOne 51 = .ok (.iadd, 1) := by decide +kernel
theorem dX12_takeOne_52 : decode cX12_takeOne 52 = .ok (.putfield 162, 3) := by decide +kernel
theorem dX12_takeOne_55 : decode cX12_takeOne 55 = .ok (.aload_n 0, 1) := by decide +kernel
theorem dX12_takeOne_56 : decode cX12_takeOne 56 = .ok (.getfield 165, 3) := by decide +kernel
theorem dX12_takeOne_59 : decode cX12_takeOne 59 = .ok (.ifCond .le 7, 3) := by decide +kernel
theorem dX12_takeOne_62 : decode cX12_takeOne 62 = .ok (.iconst 0, 1) := by decide +kernel
theorem dX12_takeOne_63 : decode cX12_takeOne 63 = .ok (.goto 4, 3) := by decide +kernel
theorem dX12_takeOne_66 : decode cX12_takeOne 66 = .ok (.iload_n 3, 1) := by decide +kernel
theorem dX12_takeOne_67 : decode cX12_takeOne 67 = .ok (.ireturn, 1) := by decide +kernel
theorem dX12_takeIs_0 : decode cX12_takeIs 0 = .ok (.iconst 1, 1) := by decide +kernel
theorem dX12_takeIs_1 : decode cX12_takeIs 1 = .ok (.aload_n 0, 1) := by decide +kernel
theorem dX12_takeIs_2 : decode cX12_takeIs 2 = .ok (.iconst 2, 1) := by decide +kernel
theorem dX12_takeIs_3 : decode cX12_takeIs 3 = .ok (.iconst 2, 1) := by decide +kernel
theorem dX12_takeIs_4 : decode cX12_takeIs 4 = .ok (.invokevirtual 190, 3) := by decide +kernel
theorem dX12_takeIs_7 : decode cX12_takeIs 7 = .ok (.isub, 1) := by decide +kernel
theorem dX12_takeIs_8 : decode cX12_takeIs 8 = .ok (.ireturn, 1) := by decide +kernel
theorem dX12_isName_0 : decode cX12_isName 0 = .ok (.aload_n 0, 1) := by decide +kernel
theorem dX12_isName_1 : decode cX12_isName 1 = .ok (.getfield 165, 3) := by decide +kernel
theorem dX12_isName_4 : decode cX12_isName 4 = .ok (.ifCond .ne 30, 3) := by decide +kernel
theorem dX12_isName_7 : decode cX12_isName 7 = .ok (.aload_n 0, 1) := by decide +kernel
theorem dX12_isName_8 : decode cX12_isName 8 = .ok (.getfield 24, 3) := by decide +kernel
theorem dX12_isName_11 : decode cX12_isName 11 = .ok (.aload_n 0, 1) := by decide +kernel
theorem dX12_isName_12 : decode cX12_isName 12 = .ok (.getfield 162, 3) := by decide +kernel
theorem dX12_isName_15 : decode cX12_isName 15 = .ok (.iaload, 1) := by decide +kernel
theorem dX12_isName_16 : decode cX12_isName 16 = .ok (.iconst 1, 1) := by decide +kernel
theorem dX12_isName_17 : decode cX12_isName 17 = .ok (.if_icmp .ne 17, 3) := by decide +kernel
theorem dX12_isName_20 : decode cX12_isName 20 = .ok (.aload_n 0, 1) := by decide +kernel
theorem dX12_isName_21 : decode cX12_isName 21 = .ok (.iconst 0, 1) := by decide +kernel
theorem dX12_isName_22 : decode cX12_isName 22 = .ok (.bipush 22, 2) := by decide +kernel
theorem dX12_isName_24 : decode cX12_isName 24 = .ok (.invokevirtual 187, 3) := by decide +kernel
theorem dX12_isName_27 : decode cX12_isName 27 = .ok (.ifCond .ge 7, 3) := by decide +kernel
theorem dX12_isName_30 : decode cX12_isName 30 = .ok (.iconst 1, 1) := by decide +kernel
theorem dX12_isName_31 : decode cX12_isName 31 = .ok (.goto 4, 3) := by decide +kernel
theorem dX12_isName_34 : decode cX12_isName 34 = .ok (.iconst 0, 1) := by decide +kernel
theorem dX12_isName_35 : decode cX12_isName 35 = .ok (.ireturn, 1) := by decide +kernel
theorem dX12_nameAt_0 : decode cX12_nameAt 0 = .ok (.iconst 0, 1) := by decide +kernel
theorem dX12_nameAt_1 : decode cX12_nameAt 1 = .ok (.istore_n 2, 1) := by decide +kernel
theorem dX12_nameAt_2 : decode cX12_nameAt 2 = .ok (.iload_n 2, 1) := by decide +kernel
theorem dX12_nameAt_3 : decode cX12_nameAt 3 = .ok (.iload_n 1, 1) := by decide +kernel
theorem dX12_nameAt_4 : decode cX12_nameAt 4 = .ok (.ifCond .eq 10, 3) := by decide +kernel
theorem dX12_nameAt_7 : decode cX12_nameAt 7 = .ok (.aload_n 0, 1) := by decide +kernel
theorem dX12_nameAt_8 : decode cX12_nameAt 8 = .ok (.getfield 193, 3) := by decide +kernel
theorem dX12_nameAt_11 : decode cX12_nameAt 11 = .ok (.goto 7, 3) := by decide +kernel
theorem dX12_nameAt_14 : decode cX12_nameAt 14 = .ok (.aload_n 0, 1) := by decide +kernel
theorem dX12_nameAt_15 : decode cX12_nameAt 15 = .ok (.getfield 196, 3) := by decide +kernel
theorem dX12_nameAt_18 : decode cX12_nameAt 18 = .ok (.if_icmp .ge 61, 3) := by decide +kernel
theorem dX12_nameAt_21 : decode cX12_nameAt 21 = .ok (.iload_n 1, 1) := by decide +kernel
theorem dX12_nameAt_22 : decode cX12_nameAt 22 = .ok (.ifCond .eq 12, 3) := by decide +kernel
theorem dX12_nameAt_25 : decode cX12_nameAt 25 = .ok (.aload_n 0, 1) := by decide +kernel
theorem dX12_nameAt_26 : decode cX12_nameAt 26 = .ok (.getfield 101, 3) := by decide +kernel
theorem dX12_nameAt_29 : decode cX12_nameAt 29 = .ok (.iload_n 2, 1) := by decide +kernel
theorem dX12_nameAt_30 : decode cX12_nameAt 30 = .ok (.laload, 1) := by decide +kernel
theorem dX12_nameAt_31 : decode cX12_nameAt 31 = .ok (.goto 9, 3) := by decide +kernel
theorem dX12_nameAt_34 : decode cX12_nameAt 34 = .ok (.aload_n 0, 1) := by decide +kernel
theorem dX12_nameAt_35 : decode cX12_nameAt 35 = .ok (.getfield 98, 3) := by decide +kernel
theorem dX12_nameAt_38 : decode cX12_nameAt 38 = .ok (.iload_n 2, 1) := by decide +kernel
theorem dX12_nameAt_39 : decode cX12_nameAt 39 = .ok (.laload, 1) := by decide +kernel
theorem dX12_nameAt_40 : decode cX12_nameAt 40 = .ok (.aload_n 0, 1) := by decide +kernel
theorem dX12_nameAt_41 : decode cX12_nameAt 41 = .ok (.getfield 30, 3) := by decide +kernel
theorem dX12_nameAt_44 : decode cX12_nameAt 44 = .ok (.aload_n 0, 1) := by decide +kernel
theorem dX12_nameAt_45 : decode cX12_nameAt 45 = .ok (.getfield 162, 3) := by decide +kernel
theorem dX12_nameAt_48 : decode cX12_nameAt 48 = .ok (.laload, 1) := by decide +kernel
theorem dX12_nameAt_49 : decode cX12_nameAt 49 = .ok (.lcmp, 1) := by decide +kernel
theorem dX12_nameAt_50 : decode cX12_nameAt 50 = .ok (.ifCond .ne 23, 3) := by decide +kernel
theorem dX12_nameAt_53 : decode cX12_nameAt 53 = .ok (.iload_n 1, 1) := by decide +kernel
theorem dX12_nameAt_54 : decode cX12_nameAt 54 = .ok (.ifCond .eq 12, 3) := by decide +kernel
theorem dX12_nameAt_57 : decode cX12_nameAt 57 = .ok (.aload_n 0, 1) := by decide +kernel
theorem dX12_nameAt_58 : decode cX12_nameAt 58 = .ok (.getfield 107, 3) := by decide +kernel
theorem dX12_nameAt_61 : decode cX12_nameAt 61 = .ok (.iload_n 2, 1) := by decide +kernel
theorem dX12_nameAt_62 : decode cX12_nameAt 62 = .ok (.iaload, 1) := by decide +kernel
theorem dX12_nameAt_63 : decode cX12_nameAt 63 = .ok (.goto 9, 3) := by decide +kernel
theorem dX12_nameAt_66 : decode cX12_nameAt 66 = .ok (.aload_n 0, 1) := by decide +kernel
theorem dX12_nameAt_67 : decode cX12_nameAt 67 = .ok (.getfield 104, 3) := by decide +kernel
theorem dX12_nameAt_70 : decode cX12_nameAt 70 = .ok (.iload_n 2, 1) := by decide +kernel
theorem dX12_nameAt_71 : decode cX12_nameAt 71 = .ok (.iaload, 1) := by decide +kernel
theorem dX12_nameAt_72 : decode cX12_nameAt 72 = .ok (.ireturn, 1) := by decide +kernel
theorem dX12_nameAt_73 : decode cX12_nameAt 73 = .ok (.iinc 2 1, 3) := by decide +kernel
theorem dX12_nameAt_76 : decode cX12_nameAt 76 = .ok (.goto (-74), 3) := by decide +kernel
theorem dX12_nameAt_79 : decode cX12_nameAt 79 = .ok (.iconst (-1), 1) := by decide +kernel
theorem dX12_nameAt_80 : decode cX12_nameAt 80 = .ok (.ireturn, 1) := by decide +kernel
theorem dX12_toldHere_0 : decode cX12_toldHere 0 = .ok (.aload_n 0, 1) := by decide +kernel
theorem dX12_toldHere_1 : decode cX12_toldHere 1 = .ok (.getfield 165, 3) := by decide +kernel
theorem dX12_toldHere_4 : decode cX12_toldHere 4 = .ok (.ifCond .ne 15, 3) := by decide +kernel
theorem dX12_toldHere_7 : decode cX12_toldHere 7 = .ok (.aload_n 0, 1) := by decide +kernel
theorem dX12_toldHere_8 : decode cX12_toldHere 8 = .ok (.invokevirtual 199, 3) := by decide +kernel
theorem dX12_toldHere_11 : decode cX12_toldHere 11 = .ok (.ifCond .ne 8, 3) := by decide +kernel
theorem dX12_toldHere_14 : decode cX12_toldHere 14 = .ok (.aload_n 0, 1) := by decide +kernel
theorem dX12_toldHere_15 : decode cX12_toldHere 15 = .ok (.iconst 1, 1) := by decide +kernel
theorem dX12_toldHere_16 : decode cX12_toldHere 16 = .ok (.invokevirtual 171, 3) := by decide +kernel
theorem dX12_toldHere_19 : decode cX12_toldHere 19 = .ok (.aload_n 0, 1) := by decide +kernel
theorem dX12_toldHere_20 : decode cX12_toldHere 20 = .ok (.getfield 165, 3) := by decide +kernel
theorem dX12_toldHere_23 : decode cX12_toldHere 23 = .ok (.ifCond .le 7, 3) := by decide +kernel
theorem dX12_toldHere_26 : decode cX12_toldHere 26 = .ok (.iconst (-1), 1) := by decide +kernel
theorem dX12_toldHere_27 : decode cX12_toldHere 27 = .ok (.goto 10, 3) := by decide +kernel
theorem dX12_toldHere_30 : decode cX12_toldHere 30 = .ok (.aload_n 0, 1) := by decide +kernel
theorem dX12_toldHere_31 : decode cX12_toldHere 31 = .ok (.iload_n 1, 1) := by decide +kernel
theorem dX12_toldHere_32 : decode cX12_toldHere 32 = .ok (.invokevirtual 203, 3) := by decide +kernel
theorem dX12_toldHere_35 : decode cX12_toldHere 35 = .ok (.iload_n 2, 1) := by decide +kernel
theorem dX12_toldHere_36 : decode cX12_toldHere 36 = .ok (.isub, 1) := by decide +kernel
theorem dX12_toldHere_37 : decode cX12_toldHere 37 = .ok (.istore_n 3, 1) := by decide +kernel
theorem dX12_toldHere_38 : decode cX12_toldHere 38 = .ok (.aload_n 0, 1) := by decide +kernel
theorem dX12_toldHere_39 : decode cX12_toldHere 39 = .ok (.getfield 165, 3) := by decide +kernel
theorem dX12_toldHere_42 : decode cX12_toldHere 42 = .ok (.ifCond .ne 17, 3) := by decide +kernel
theorem dX12_toldHere_45 : decode cX12_toldHere 45 = .ok (.iload_n 3, 1) := by decide +kernel
theorem dX12_toldHere_46 : decode cX12_toldHere 46 = .ok (.iconst 0, 1) := by decide +kernel
theorem dX12_toldHere_47 : decode cX12_toldHere 47 = .ok (.iconst 5, 1) := by decide +kernel
theorem dX12_toldHere_48 : decode cX12_toldHere 48 = .ok (.invokestatic 207, 3) := by decide +kernel
theorem dX12_toldHere_51 : decode cX12_toldHere 51 = .ok (.ifCond .ne 8, 3) := by decide +kernel
theorem dX12_toldHere_54 : decode cX12_toldHere 54 = .ok (.aload_n 0, 1) := by decide +kernel
theorem dX12_toldHere_55 : decode cX12_toldHere 55 = .ok (.iconst 2, 1) := by decide +kernel
theorem dX12_toldHere_56 : decode cX12_toldHere 56 = .ok (.invokevirtual 171, 3) := by decide +kernel
theorem dX12_toldHere_59 : decode cX12_toldHere 59 = .ok (.aload_n 0, 1) := by decide +kernel
theorem dX12_toldHere_60 : decode cX12_toldHere 60 = .ok (.getfield 165, 3) := by decide +kernel
theorem dX12_toldHere_63 : decode cX12_toldHere 63 = .ok (.ifCond .le 7, 3) := by decide +kernel
theorem dX12_toldHere_66 : decode cX12_toldHere 66 = .ok (.iconst 0, 1) := by decide +kernel
theorem dX12_toldHere_67 : decode cX12_toldHere 67 = .ok (.goto 4, 3) := by decide +kernel
theorem dX12_toldHere_70 : decode cX12_toldHere 70 = .ok (.iload_n 3, 1) := by decide +kernel
theorem dX12_toldHere_71 : decode cX12_toldHere 71 = .ok (.ireturn, 1) := by decide +kernel
theorem dX12_takeTold_0 : decode cX12_takeTold 0 = .ok (.aload_n 0, 1) := by decide +kernel
theorem dX12_takeTold_1 : decode cX12_takeTold 1 = .ok (.iload_n 1, 1) := by decide +kernel
theorem dX12_takeTold_2 : decode cX12_takeTold 2 = .ok (.iload_n 2, 1) := by decide +kernel
theorem dX12_takeTold_3 : decode cX12_takeTold 3 = .ok (.invokevirtual 211, 3) := by decide +kernel
theorem dX12_takeTold_6 : decode cX12_takeTold 6 = .ok (.istore_n 3, 1) := by decide +kernel
theorem dX12_takeTold_7 : decode cX12_takeTold 7 = .ok (.aload_n 0, 1) := by decide +kernel
theorem dX12_takeTold_8 : decode cX12_takeTold 8 = .ok (.dup, 1) := by decide +kernel
theorem dX12_takeTold_9 : decode cX12_takeTold 9 = .ok (.getfield 162, 3) := by decide +kernel
theorem dX12_takeTold_12 : decode cX12_takeTold 12 = .ok (.aload_n 0, 1) := by decide +kernel
theorem dX12_takeTold_13 : decode cX12_takeTold 13 = .ok (.getfield 165, 3) := by decide +kernel
theorem dX12_takeTold_16 : decode cX12_takeTold 16 = .ok (.ifCond .le 7, 3) := by decide +kernel
theorem dX12_takeTold_19 : decode cX12_takeTold 19 = .ok (.iconst 0, 1) := by decide +kernel
theorem dX12_takeTold_20 : decode cX12_takeTold 20 = .ok (.goto 4, 3) := by decide +kernel
theorem dX12_takeTold_23 : decode cX12_takeTold 23 = .ok (.iconst 1, 1) := by decide +kernel
theorem dX12_takeTold_24 : decode cX12_takeTold 24 = .ok (.iadd, 1) := by decide +kernel
theorem dX12_takeTold_25 : decode cX12_takeTold 25 = .ok (.putfield 162, 3) := by decide +kernel
theorem dX12_takeTold_28 : decode cX12_takeTold 28 = .ok (.iload_n 3, 1) := by decide +kernel
theorem dX12_takeTold_29 : decode cX12_takeTold 29 = .ok (.ireturn, 1) := by decide +kernel
theorem dX12_film_0 : decode cX12_film 0 = .ok (.aload_n 0, 1) := by decide +kernel
theorem dX12_film_1 : decode cX12_film 1 = .ok (.iconst 0, 1) := by decide +kernel
theorem dX12_film_2 : decode cX12_film 2 = .ok (.putfield 1, 3) := by decide +kernel
theorem dX12_film_5 : decode cX12_film 5 = .ok (.aload_n 0, 1) := by decide +kernel
theorem dX12_film_6 : decode cX12_film 6 = .ok (.invokevirtual 215, 3) := by decide +kernel
theorem dX12_film_9 : decode cX12_film 9 = .ok (.aload_n 0, 1) := by decide +kernel
theorem dX12_film_10 : decode cX12_film 10 = .ok (.iconst 0, 1) := by decide +kernel
theorem dX12_film_11 : decode cX12_film 11 = .ok (.putfield 218, 3) := by decide +kernel
theorem dX12_film_14 : decode cX12_film 14 = .ok (.aload_n 0, 1) := by decide +kernel
theorem dX12_film_15 : decode cX12_film 15 = .ok (.iconst 0, 1) := by decide +kernel
theorem dX12_film_16 : decode cX12_film 16 = .ok (.putfield 193, 3) := by decide +kernel
theorem dX12_film_19 : decode cX12_film 19 = .ok (.aload_n 0, 1) := by decide +kernel
theorem dX12_film_20 : decode cX12_film 20 = .ok (.iconst 0, 1) := by decide +kernel
theorem dX12_film_21 : decode cX12_film 21 = .ok (.putfield 221, 3) := by decide +kernel
theorem dX12_film_24 : decode cX12_film 24 = .ok (.aload_n 0, 1) := by decide +kernel
theorem dX12_film_25 : decode cX12_film 25 = .ok (.bipush 60, 2) := by decide +kernel
theorem dX12_film_27 : decode cX12_film 27 = .ok (.invokevirtual 132, 3) := by decide +kernel
theorem dX12_film_30 : decode cX12_film 30 = .ok (.aload_n 0, 1) := by decide +kernel
theorem dX12_film_31 : decode cX12_film 31 = .ok (.getfield 165, 3) := by decide +kernel
theorem dX12_film_34 : decode cX12_film 34 = .ok (.ifCond .ne 28, 3) := by decide +kernel
theorem dX12_film_37 : decode cX12_film 37 = .ok (.aload_n 0, 1) := by decide +kernel
theorem dX12_film_38 : decode cX12_film 38 = .ok (.getfield 24, 3) := by decide +kernel
theorem dX12_film_41 : decode cX12_film 41 = .ok (.aload_n 0, 1) := by decide +kernel
theorem dX12_film_42 : decode cX12_film 42 = .ok (.getfield 162, 3) := by decide +kernel
theorem dX12_film_45 : decode cX12_film 45 = .ok (.iaload, 1) := by decide +kernel
theorem dX12_film_46 : decode cX12_film 46 = .ok (.ifCond .eq 16, 3) := by decide +kernel
theorem dX12_film_49 : decode cX12_film 49 = .ok (.aload_n 0, 1) := by decide +kernel
theorem dX12_film_50 : decode cX12_film 50 = .ok (.invokevirtual 224, 3) := by decide +kernel
theorem dX12_film_53 : decode cX12_film 53 = .ok (.aload_n 0, 1) := by decide +kernel
theorem dX12_film_54 : decode cX12_film 54 = .ok (.bipush 59, 2) := by decide +kernel
theorem dX12_film_56 : decode cX12_film 56 = .ok (.invokevirtual 227, 3) := by decide +kernel
theorem dX12_film_59 : decode cX12_film 59 = .ok (.goto (-29), 3) := by decide +kernel
theorem dX12_film_62 : decode cX12_film 62 = .ok (.aload_n 0, 1) := by decide +kernel
theorem dX12_film_63 : decode cX12_film 63 = .ok (.getfield 165, 3) := by decide +kernel
theorem dX12_film_66 : decode cX12_film 66 = .ok (.ifCond .le 8, 3) := by decide +kernel
theorem dX12_film_69 : decode cX12_film 69 = .ok (.aload_n 0, 1) := by decide +kernel
theorem dX12_film_70 : decode cX12_film 70 = .ok (.getfield 165, 3) := by decide +kernel
theorem dX12_film_73 : decode cX12_film 73 = .ok (.ireturn, 1) := by decide +kernel
theorem dX12_film_74 : decode cX12_film 74 = .ok (.iconst 0, 1) := by decide +kernel
theorem dX12_film_75 : decode cX12_film 75 = .ok (.istore_n 1, 1) := by decide +kernel
theorem dX12_film_76 : decode cX12_film 76 = .ok (.iload_n 1, 1) := by decide +kernel
theorem dX12_film_77 : decode cX12_film 77 = .ok (.bipush 60, 2) := by decide +kernel
theorem dX12_film_79 : decode cX12_film 79 = .ok (.if_icmp .ge 24, 3) := by decide +kernel
theorem dX12_film_82 : decode cX12_film 82 = .ok (.aload_n 0, 1) := by decide +kernel
theorem dX12_film_83 : decode cX12_film 83 = .ok (.getfield 89, 3) := by decide +kernel
theorem dX12_film_86 : decode cX12_film 86 = .ok (.iload_n 1, 1) := by decide +kernel
theorem dX12_film_87 : decode cX12_film 87 = .ok (.aload_n 0, 1) := by decide +kernel
theorem dX12_film_88 : decode cX12_film 88 = .ok (.getfield 89, 3) := by decide +kernel
theorem dX12_film_91 : decode cX12_film 91 = .ok (.bipush 60, 2) := by decide +kernel
theorem dX12_film_93 : decode cX12_film 93 = .ok (.iload_n 1, 1) := by decide +kernel
theorem dX12_film_94 : decode cX12_film 94 = .ok (.iadd, 1) := by decide +kernel
theorem dX12_film_95 : decode cX12_film 95 = .ok (.iaload, 1) := by decide +kernel
theorem dX12_film_96 : decode cX12_film 96 = .ok (.iastore, 1) := by decide +kernel
theorem dX12_film_97 : decode cX12_film 97 = .ok (.iinc 1 1, 3) := by decide +kernel
theorem dX12_film_100 : decode cX12_film 100 = .ok (.goto (-24), 3) := by decide +kernel
theorem dX12_film_103 : decode cX12_film 103 = .ok (.iconst 0, 1) := by decide +kernel
theorem dX12_film_104 : decode cX12_film 104 = .ok (.istore_n 1, 1) := by decide +kernel
theorem dX12_film_105 : decode cX12_film 105 = .ok (.iload_n 1, 1) := by decide +kernel
theorem dX12_film_106 : decode cX12_film 106 = .ok (.aload_n 0, 1) := by decide +kernel
theorem dX12_film_107 : decode cX12_film 107 = .ok (.getfield 218, 3) := by decide +kernel
theorem dX12_film_110 : decode cX12_film 110 = .ok (.if_icmp .ge 41, 3) := by decide +kernel
theorem dX12_film_113 : decode cX12_film 113 = .ok (.aload_n 0, 1) := by decide +kernel
theorem dX12_film_114 : decode cX12_film 114 = .ok (.getfield 92, 3) := by decide +kernel
theorem dX12_film_117 : decode cX12_film 117 = .ok (.iload_n 1, 1) := by decide +kernel
theorem dX12_film_118 : decode cX12_film 118 = .ok (.aload_n 0, 1) := by decide +kernel
theorem dX12_film_119 : decode cX12_film 119 = .ok (.getfield 92, 3) := by decide +kernel
theorem dX12_film_122 : decode cX12_film 122 = .ok (.sipush 1100, 3) := by decide +kernel
theorem dX12_film_125 : decode cX12_film 125 = .ok (.iload_n 1, 1) := by decide +kernel
theorem dX12_film_126 : decode cX12_film 126 = .ok (.iadd, 1) := by decide +kernel
theorem dX12_film_127 : decode cX12_film 127 = .ok (.iaload, 1) := by decide +kernel
theorem dX12_film_128 : decode cX12_film 128 = .ok (.iastore, 1) := by decide +kernel
theorem dX12_film_129 : decode cX12_film 129 = .ok (.aload_n 0, 1) := by decide +kernel
theorem dX12_film_130 : decode cX12_film 130 = .ok (.getfield 95, 3) := by decide +kernel
theorem dX12_film_133 : decode cX12_film 133 = .ok (.iload_n 1, 1) := by decide +kernel
theorem dX12_film_134 : decode cX12_film 134 = .ok (.aload_n 0, 1) := by decide +kernel
theorem dX12_film_135 : decode cX12_film 135 = .ok (.getfield 95, 3) := by decide +kernel
theorem dX12_film_138 : decode cX12_film 138 = .ok (.sipush 1100, 3) := by decide +kernel
theorem dX12_film_141 : decode cX12_film 141 = .ok (.iload_n 1, 1) := by decide +kernel
theorem dX12_film_142 : decode cX12_film 142 = .ok (.iadd, 1) := by decide +kernel
theorem dX12_film_143 : decode cX12_film 143 = .ok (.iaload, 1) := by decide +kernel
theorem dX12_film_144 : decode cX12_film 144 = .ok (.iastore, 1) := by decide +kernel
theorem dX12_film_145 : decode cX12_film 145 = .ok (.iinc 1 1, 3) := by decide +kernel
theorem dX12_film_148 : decode cX12_film 148 = .ok (.goto (-43), 3) := by decide +kernel
theorem dX12_film_151 : decode cX12_film 151 = .ok (.iconst 0, 1) := by decide +kernel
theorem dX12_film_152 : decode cX12_film 152 = .ok (.istore_n 1, 1) := by decide +kernel
theorem dX12_film_153 : decode cX12_film 153 = .ok (.iload_n 1, 1) := by decide +kernel
theorem dX12_film_154 : decode cX12_film 154 = .ok (.aload_n 0, 1) := by decide +kernel
theorem dX12_film_155 : decode cX12_film 155 = .ok (.getfield 193, 3) := by decide +kernel
theorem dX12_film_158 : decode cX12_film 158 = .ok (.if_icmp .ge 33, 3) := by decide +kernel
theorem dX12_film_161 : decode cX12_film 161 = .ok (.aload_n 0, 1) := by decide +kernel
theorem dX12_film_162 : decode cX12_film 162 = .ok (.getfield 98, 3) := by decide +kernel
theorem dX12_film_165 : decode cX12_film 165 = .ok (.iload_n 1, 1) := by decide +kernel
theorem dX12_film_166 : decode cX12_film 166 = .ok (.aload_n 0, 1) := by decide +kernel
theorem dX12_film_167 : decode cX12_film 167 = .ok (.getfield 101, 3) := by decide +kernel
theorem dX12_film_170 : decode cX12_film 170 = .ok (.iload_n 1, 1) := by decide +kernel
theorem dX12_film_171 : decode cX12_film 171 = .ok (.laload, 1) := by decide +kernel
theorem dX12_film_172 : decode cX12_film 172 = .ok (.lastore, 1) := by decide +kernel
theorem dX12_film_173 : decode cX12_film 173 = .ok (.aload_n 0, 1) := by decide +kernel
theorem dX12_film_174 : decode cX12_film 174 = .ok (.getfield 104, 3) := by decide +kernel
theorem dX12_film_177 : decode cX12_film 177 = .ok (.iload_n 1, 1) := by decide +kernel
theorem dX12_film_178 : decode cX12_film 178 = .ok (.aload_n 0, 1) := by decide +kernel
theorem dX12_film_179 : decode cX12_film 179 = .ok (.getfield 107, 3) := by decide +kernel
theorem dX12_film_182 : decode cX12_film 182 = .ok (.iload_n 1, 1) := by decide +kernel
theorem dX12_film_183 : decode cX12_film 183 = .ok (.iaload, 1) := by decide +kernel
theorem dX12_film_184 : decode cX12_film 184 = .ok (.iastore, 1) := by decide +kernel
theorem dX12_film_185 : decode cX12_film 185 = .ok (.iinc 1 1, 3) := by decide +kernel
theorem dX12_film_188 : decode cX12_film 188 = .ok (.goto (-35), 3) := by decide +kernel
theorem dX12_film_191 : decode cX12_film 191 = .ok (.aload_n 0, 1) := by decide +kernel
theorem dX12_film_192 : decode cX12_film 192 = .ok (.aload_n 0, 1) := by decide +kernel
theorem dX12_film_193 : decode cX12_film 193 = .ok (.getfield 193, 3) := by decide +kernel
theorem dX12_film_196 : decode cX12_film 196 = .ok (.putfield 196, 3) := by decide +kernel
theorem dX12_film_199 : decode cX12_film 199 = .ok (.aload_n 0, 1) := by decide +kernel
theorem dX12_film_200 : decode cX12_film 200 = .ok (.invokevirtual 136, 3) := by decide +kernel
theorem dX12_film_203 : decode cX12_film 203 = .ok (.iconst 0, 1) := by decide +kernel
theorem dX12_film_204 : decode cX12_film 204 = .ok (.ireturn, 1) := by decide +kernel
theorem dX12_readLine_0 : decode cX12_readLine 0 = .ok (.aload_n 0, 1) := by decide +kernel
theorem dX12_readLine_1 : decode cX12_readLine 1 = .ok (.iconst 0, 1) := by decide +kernel
theorem dX12_readLine_2 : decode cX12_readLine 2 = .ok (.invokevirtual 174, 3) := by decide +kernel
theorem dX12_readLine_5 : decode cX12_readLine 5 = .ok (.ifCond .eq 14, 3) := by decide +kernel
theorem dX12_readLine_8 : decode cX12_readLine 8 = .ok (.aload_n 0, 1) := by decide +kernel
theorem dX12_readLine_9 : decode cX12_readLine 9 = .ok (.iconst 0, 1) := by decide +kernel
theorem dX12_readLine_10 : decode cX12_readLine 10 = .ok (.bipush 6, 2) := by decide +kernel
theorem dX12_readLine_12 : decode cX12_readLine 12 = .ok (.iconst 0, 1) := by decide +kernel
theorem dX12_readLine_13 : decode cX12_readLine 13 = .ok (.invokevirtual 230, 3) := by decide +kernel
theorem dX12_readLine_16 : decode cX12_readLine 16 = .ok (.goto 37, 3) := by decide +kernel
theorem dX12_readLine_19 : decode cX12_readLine 19 = .ok (.aload_n 0, 1) := by decide +kernel
theorem dX12_readLine_20 : decode cX12_readLine 20 = .ok (.iconst 1, 1) := by decide +kernel
theorem dX12_readLine_21 : decode cX12_readLine 21 = .ok (.invokevirtual 174, 3) := by decide +kernel
theorem dX12_readLine_24 : decode cX12_readLine 24 = .ok (.ifCond .eq 10, 3) := by decide +kernel
theorem dX12_readLine_27 : decode cX12_readLine 27 = .ok (.aload_n 0, 1) := by decide +kernel
theorem dX12_readLine_28 : decode cX12_readLine 28 = .ok (.invokevirtual 234, 3) := by decide +kernel
theorem dX12_readLine_31 : decode cX12_readLine 31 = .ok (.goto 22, 3) := by decide +kernel
theorem dX12_readLine_34 : decode cX12_readLine 34 = .ok (.aload_n 0, 1) := by decide +kernel
theorem dX12_readLine_35 : decode cX12_readLine 35 = .ok (.iconst 5, 1) := by decide +kernel
theorem dX12_readLine_36 : decode cX12_readLine 36 = .ok (.invokevirtual 174, 3) := by decide +kernel
theorem dX12_readLine_39 : decode cX12_readLine 39 = .ok (.ifCond .eq 10, 3) := by decide +kernel
theorem dX12_readLine_42 : decode cX12_readLine 42 = .ok (.aload_n 0, 1) := by decide +kernel
theorem dX12_readLine_43 : decode cX12_readLine 43 = .ok (.invokevirtual 237, 3) := by decide +kernel
theorem dX12_readLine_46 : decode cX12_readLine 46 = .ok (.goto 7, 3) := by decide +kernel
theorem dX12_readLine_49 : decode cX12_readLine 49 = .ok (.aload_n 0, 1) := by decide +kernel
theorem dX12_readLine_50 : decode cX12_readLine 50 = .ok (.invokevirtual 240, 3) := by decide +kernel
theorem dX12_readLine_53 : decode cX12_readLine 53 = .ok (.return_, 1) := by decide +kernel
theorem dX12_readName_0 : decode cX12_readName 0 = .ok (.aload_n 0, 1) := by decide +kernel
theorem dX12_readName_1 : decode cX12_readName 1 = .ok (.getfield 89, 3) := by decide +kernel
theorem dX12_readName_4 : decode cX12_readName 4 = .ok (.bipush 60, 2) := by decide +kernel
theorem dX12_readName_6 : decode cX12_readName 6 = .ok (.iload_n 1, 1) := by decide +kernel
theorem dX12_readName_7 : decode cX12_readName 7 = .ok (.iadd, 1) := by decide +kernel
theorem dX12_readName_8 : decode cX12_readName 8 = .ok (.iaload, 1) := by decide +kernel
theorem dX12_readName_9 : decode cX12_readName 9 = .ok (.istore 4, 2) := by decide +kernel
theorem dX12_readName_11 : decode cX12_readName 11 = .ok (.iload 4, 2) := by decide +kernel
theorem dX12_readName_13 : decode cX12_readName 13 = .ok (.iload_n 2, 1) := by decide +kernel
theorem dX12_readName_14 : decode cX12_readName 14 = .ok (.if_icmp .ne 9, 3) := by decide +kernel
theorem dX12_readName_17 : decode cX12_readName 17 = .ok (.aload_n 0, 1) := by decide +kernel
theorem dX12_readName_18 : decode cX12_readName 18 = .ok (.iconst 5, 1) := by decide +kernel
theorem dX12_readName_19 : decode cX12_readName 19 = .ok (.invokevirtual 171, 3) := by decide +kernel
theorem dX12_readName_22 : decode cX12_readName 22 = .ok (.return_, 1) := by decide +kernel
theorem dX12_readName_23 : decode cX12_readName 23 = .ok (.aload_n 0, 1) := by decide +kernel
theorem dX12_readName_24 : decode cX12_readName 24 = .ok (.dup, 1) := by decide +kernel
theorem dX12_readName_25 : decode cX12_readName 25 = .ok (.getfield 162, 3) := by decide +kernel
theorem dX12_readName_28 : decode cX12_readName 28 = .ok (.iconst 1, 1) := by decide +kernel
theorem dX12_readName_29 : decode cX12_readName 29 = .ok (.iadd, 1) := by decide +kernel
theorem dX12_readName_30 : decode cX12_readName 30 = .ok (.putfield 162, 3) := by decide +kernel
theorem dX12_readName_33 : decode cX12_readName 33 = .ok (.aload_n 0, 1) := by decide +kernel
theorem dX12_readName_34 : decode cX12_readName 34 = .ok (.invokevirtual 199, 3) := by decide +kernel
theorem dX12_readName_37 : decode cX12_readName 37 = .ok (.ifCond .ne 11, 3) := by decide +kernel
theorem dX12_readName_40 : decode cX12_readName 40 = .ok (.aload_n 0, 1) := by decide +kernel
theorem dX12_readName_41 : decode cX12_readName 41 = .ok (.iconst 1, 1) := by decide +kernel
theorem dX12_readName_42 : decode cX12_readName 42 = .ok (.invokevirtual 171, 3) := by decide +kernel
theorem dX12_readName_45 : decode cX12_readName 45 = .ok (.goto 16, 3) := by decide +kernel
theorem dX12_readName_48 : decode cX12_readName 48 = .ok (.aload_n 0, 1) := by decide +kernel
theorem dX12_readName_49 : decode cX12_readName 49 = .ok (.iconst 1, 1) := by decide +kernel
theorem dX12_readName_50 : decode cX12_readName 50 = .ok (.invokevirtual 203, 3) := by decide +kernel
theorem dX12_readName_53 : decode cX12_readName 53 = .ok (.ifCond .lt 8, 3) := by decide +kernel
theorem dX12_readName_56 : decode cX12_readName 56 = .ok (.aload_n 0, 1) := by decide +kernel
theorem dX12_readName_57 : decode cX12_readName 57 = .ok (.iconst 3, 1) := by decide +kernel
theorem dX12_readName_58 : decode cX12_readName 58 = .ok (.invokevirtual 171, 3) := by decide +kernel
theorem dX12_readName_61 : decode cX12_readName 61 = .ok (.aload_n 0, 1) := by decide +kernel
theorem dX12_readName_62 : decode cX12_readName 62 = .ok (.getfield 165, 3) := by decide +kernel
theorem dX12_readName_65 : decode cX12_readName 65 = .ok (.ifCond .ne 67, 3) := by decide +kernel
theorem dX12_readName_68 : decode cX12_readName 68 = .ok (.aload_n 0, 1) := by decide +kernel
theorem dX12_readName_69 : decode cX12_readName 69 = .ok (.getfield 101, 3) := by decide +kernel
theorem dX12_readName_72 : decode cX12_readName 72 = .ok (.aload_n 0, 1) := by decide +kernel
theorem dX12_readName_73 : decode cX12_readName 73 = .ok (.getfield 193, 3) := by decide +kernel
theorem dX12_readName_76 : decode cX12_readName 76 = .ok (.aload_n 0, 1) := by decide +kernel
theorem dX12_readName_77 : decode cX12_readName 77 = .ok (.getfield 30, 3) := by decide +kernel
theorem dX12_readName_80 : decode cX12_readName 80 = .ok (.aload_n 0, 1) := by decide +kernel
theorem dX12_readName_81 : decode cX12_readName 81 = .ok (.getfield 162, 3) := by decide +kernel
theorem dX12_readName_84 : decode cX12_readName 84 = .ok (.laload, 1) := by decide +kernel
theorem dX12_readName_85 : decode cX12_readName 85 = .ok (.lastore, 1) := by decide +kernel
theorem dX12_readName_86 : decode cX12_readName 86 = .ok (.aload_n 0, 1) := by decide +kernel
theorem dX12_readName_87 : decode cX12_readName 87 = .ok (.getfield 107, 3) := by decide +kernel
theorem dX12_readName_90 : decode cX12_readName 90 = .ok (.aload_n 0, 1) := by decide +kernel
theorem dX12_readName_91 : decode cX12_readName 91 = .ok (.getfield 193, 3) := by decide +kernel
theorem dX12_readName_94 : decode cX12_readName 94 = .ok (.iload_n 3, 1) := by decide +kernel
theorem dX12_readName_95 : decode cX12_readName 95 = .ok (.iload 4, 2) := by decide +kernel
theorem dX12_readName_97 : decode cX12_readName 97 = .ok (.iadd, 1) := by decide +kernel
theorem dX12_readName_98 : decode cX12_readName 98 = .ok (.iastore, 1) := by decide +kernel
theorem dX12_readName_99 : decode cX12_readName 99 = .ok (.aload_n 0, 1) := by decide +kernel
theorem dX12_readName_100 : decode cX12_readName 100 = .ok (.dup, 1) := by decide +kernel
theorem dX12_readName_101 : decode cX12_readName 101 = .ok (.getfield 193, 3) := by decide +kernel
theorem dX12_readName_104 : decode cX12_readName 104 = .ok (.iconst 1, 1) := by decide +kernel
theorem dX12_readName_105 : decode cX12_readName 105 = .ok (.iadd, 1) := by decide +kernel
theorem dX12_readName_106 : decode cX12_readName 106 = .ok (.putfield 193, 3) := by decide +kernel
theorem dX12_readName_109 : decode cX12_readName 109 = .ok (.aload_n 0, 1) := by decide +kernel
theorem dX12_readName_110 : decode cX12_readName 110 = .ok (.dup, 1) := by decide +kernel
theorem dX12_readName_111 : decode cX12_readName 111 = .ok (.getfield 162, 3) := by decide +kernel
theorem dX12_readName_114 : decode cX12_readName 114 = .ok (.iconst 1, 1) := by decide +kernel
theorem dX12_readName_115 : decode cX12_readName 115 = .ok (.iadd, 1) := by decide +kernel
theorem dX12_readName_116 : decode cX12_readName 116 = .ok (.putfield 162, 3) := by decide +kernel
theorem dX12_readName_119 : decode cX12_readName 119 = .ok (.aload_n 0, 1) := by decide +kernel
theorem dX12_readName_120 : decode cX12_readName 120 = .ok (.getfield 89, 3) := by decide +kernel
theorem dX12_readName_123 : decode cX12_readName 123 = .ok (.bipush 60, 2) := by decide +kernel
theorem dX12_readName_125 : decode cX12_readName 125 = .ok (.iload_n 1, 1) := by decide +kernel
theorem dX12_readName_126 : decode cX12_readName 126 = .ok (.iadd, 1) := by decide +kernel
theorem dX12_readName_127 : decode cX12_readName 127 = .ok (.dup2, 1) := by decide +kernel
theorem dX12_readName_128 : decode cX12_readName 128 = .ok (.iaload, 1) := by decide +kernel
theorem dX12_readName_129 : decode cX12_readName 129 = .ok (.iconst 1, 1) := by decide +kernel
theorem dX12_readName_130 : decode cX12_readName 130 = .ok (.iadd, 1) := by decide +kernel
theorem dX12_readName_131 : decode cX12_readName 131 = .ok (.iastore, 1) := by decide +kernel
theorem dX12_readName_132 : decode cX12_readName 132 = .ok (.return_, 1) := by decide +kernel
theorem dX12_readScene_0 : decode cX12_readScene 0 = .ok (.aload_n 0, 1) := by decide +kernel
theorem dX12_readScene_1 : decode cX12_readScene 1 = .ok (.getfield 89, 3) := by decide +kernel
theorem dX12_readScene_4 : decode cX12_readScene 4 = .ok (.bipush 61, 2) := by decide +kernel
theorem dX12_readScene_6 : decode cX12_readScene 6 = .ok (.iaload, 1) := by decide +kernel
theorem dX12_readScene_7 : decode cX12_readScene 7 = .ok (.istore_n 1, 1) := by decide +kernel
theorem dX12_readScene_8 : decode cX12_readScene 8 = .ok (.iload_n 1, 1) := by decide +kernel
theorem dX12_readScene_9 : decode cX12_readScene 9 = .ok (.bipush 8, 2) := by decide +kernel
theorem dX12_readScene_11 : decode cX12_readScene 11 = .ok (.if_icmp .ne 9, 3) := by decide +kernel
theorem dX12_readScene_14 : decode cX12_readScene 14 = .ok (.aload_n 0, 1) := by decide +kernel
theorem dX12_readScene_15 : decode cX12_readScene 15 = .ok (.iconst 5, 1) := by decide +kernel
theorem dX12_readScene_16 : decode cX12_readScene 16 = .ok (.invokevirtual 171, 3) := by decide +kernel
theorem dX12_readScene_19 : decode cX12_readScene 19 = .ok (.return_, 1) := by decide +kernel
theorem dX12_readScene_20 : decode cX12_readScene 20 = .ok (.aload_n 0, 1) := by decide +kernel
theorem dX12_readScene_21 : decode cX12_readScene 21 = .ok (.dup, 1) := by decide +kernel
theorem dX12_readScene_22 : decode cX12_readScene 22 = .ok (.getfield 162, 3) := by decide +kernel
theorem dX12_readScene_25 : decode cX12_readScene 25 = .ok (.iconst 1, 1) := by decide +kernel
theorem dX12_readScene_26 : decode cX12_readScene 26 = .ok (.iadd, 1) := by decide +kernel
theorem dX12_readScene_27 : decode cX12_readScene 27 = .ok (.putfield 162, 3) := by decide +kernel
theorem dX12_readScene_30 : decode cX12_readScene 30 = .ok (.aload_n 0, 1) := by decide +kernel
theorem dX12_readScene_31 : decode cX12_readScene 31 = .ok (.iconst 1, 1) := by decide +kernel
theorem dX12_readScene_32 : decode cX12_readScene 32 = .ok (.iconst 0, 1) := by decide +kernel
theorem dX12_readScene_33 : decode cX12_readScene 33 = .ok (.invokevirtual 243, 3) := by decide +kernel
theorem dX12_readScene_36 : decode cX12_readScene 36 = .ok (.istore_n 2, 1) := by decide +kernel
theorem dX12_readScene_37 : decode cX12_readScene 37 = .ok (.aload_n 0, 1) := by decide +kernel
theorem dX12_readScene_38 : decode cX12_readScene 38 = .ok (.invokevirtual 246, 3) := by decide +kernel
theorem dX12_readScene_41 : decode cX12_readScene 41 = .ok (.istore_n 3, 1) := by decide +kernel
theorem dX12_readScene_42 : decode cX12_readScene 42 = .ok (.aload_n 0, 1) := by decide +kernel
theorem dX12_readScene_43 : decode cX12_readScene 43 = .ok (.iconst 4, 1) := by decide +kernel
theorem dX12_readScene_44 : decode cX12_readScene 44 = .ok (.invokevirtual 180, 3) := by decide +kernel
theorem dX12_readScene_47 : decode cX12_readScene 47 = .ok (.aload_n 0, 1) := by decide +kernel
theorem dX12_readScene_48 : decode cX12_readScene 48 = .ok (.iconst 1, 1) := by decide +kernel
theorem dX12_readScene_49 : decode cX12_readScene 49 = .ok (.iconst 0, 1) := by decide +kernel
theorem dX12_readScene_50 : decode cX12_readScene 50 = .ok (.invokevirtual 243, 3) := by decide +kernel
theorem dX12_readScene_53 : decode cX12_readScene 53 = .ok (.istore 4, 2) := by decide +kernel
theorem dX12_readScene_55 : decode cX12_readScene 55 = .ok (.aload_n 0, 1) := by decide +kernel
theorem dX12_readScene_56 : decode cX12_readScene 56 = .ok (.invokevirtual 246, 3) := by decide +kernel
theorem dX12_readScene_59 : decode cX12_readScene 59 = .ok (.istore 5, 2) := by decide +kernel
theorem dX12_readScene_61 : decode cX12_readScene 61 = .ok (.aload_n 0, 1) := by decide +kernel
theorem dX12_readScene_62 : decode cX12_readScene 62 = .ok (.getfield 165, 3) := by decide +kernel
theorem dX12_readScene_65 : decode cX12_readScene 65 = .ok (.ifCond .ne 62, 3) := by decide +kernel
theorem dX12_readScene_68 : decode cX12_readScene 68 = .ok (.bipush 65, 2) := by decide +kernel
theorem dX12_readScene_70 : decode cX12_readScene 70 = .ok (.iconst 4, 1) := by decide +kernel
theorem dX12_readScene_71 : decode cX12_readScene 71 = .ok (.iload_n 1, 1) := by decide +kernel
theorem dX12_readScene_72 : decode cX12_readScene 72 = .ok (.imul, 1) := by decide +kernel
theorem dX12_readScene_73 : decode cX12_readScene 73 = .ok (.iadd, 1) := by decide +kernel
theorem dX12_readScene_74 : decode cX12_readScene 74 = .ok (.istore 6, 2) := by decide +kernel
theorem dX12_readScene_76 : decode cX12_readScene 76 = .ok (.aload_n 0, 1) := by decide +kernel
theorem dX12_readScene_77 : decode cX12_readScene 77 = .ok (.getfield 89, 3) := by decide +kernel
theorem dX12_readScene_80 : decode cX12_readScene 80 = .ok (.iload 6, 2) := by decide +kernel
theorem dX12_readScene_82 : decode cX12_readScene 82 = .ok (.iload_n 2, 1) := by decide +kernel
theorem dX12_readScene_83 : decode cX12_readScene 83 = .ok (.iastore, 1) := by decide +kernel
theorem dX12_readScene_84 : decode cX12_readScene 84 = .ok (.aload_n 0, 1) := by decide +kernel
theorem dX12_readScene_85 : decode cX12_readScene 85 = .ok (.getfield 89, 3) := by decide +kernel
theorem dX12_readScene_88 : decode cX12_readScene 88 = .ok (.iload 6, 2) := by decide +kernel
theorem dX12_readScene_90 : decode cX12_readScene 90 = .ok (.iconst 1, 1) := by decide +kernel
theorem dX12_readScene_91 : decode cX12_readScene 91 = .ok (.iadd, 1) := by decide +kernel
theorem dX12_readScene_92 : decode cX12_readScene 92 = .ok (.iload_n 3, 1) := by decide +kernel
theorem dX12_readScene_93 : decode cX12_readScene 93 = .ok (.iastore, 1) := by decide +kernel
theorem dX12_readScene_94 : decode cX12_readScene 94 = .ok (.aload_n 0, 1) := by decide +kernel
theorem dX12_readScene_95 : decode cX12_readScene 95 = .ok (.getfield 89, 3) := by decide +kernel
theorem dX12_readScene_98 : decode cX12_readScene 98 = .ok (.iload 6, 2) := by decide +kernel
theorem dX12_readScene_100 : decode cX12_readScene 100 = .ok (.iconst 2, 1) := by decide +kernel
theorem dX12_readScene_101 : decode cX12_readScene 101 = .ok (.iadd, 1) := by decide +kernel
theorem dX12_readScene_102 : decode cX12_readScene 102 = .ok (.iload 4, 2) := by decide +kernel
theorem dX12_readScene_104 : decode cX12_readScene 104 = .ok (.iastore, 1) := by decide +kernel
theorem dX12_readScene_105 : decode cX12_readScene 105 = .ok (.aload_n 0, 1) := by decide +kernel
theorem dX12_readScene_106 : decode cX12_readScene 106 = .ok (.getfield 89, 3) := by decide +kernel
theorem dX12_readScene_109 : decode cX12_readScene 109 = .ok (.iload 6, 2) := by decide +kernel
theorem dX12_readScene_111 : decode cX12_readScene 111 = .ok (.iconst 3, 1) := by decide +kernel
theorem dX12_readScene_112 : decode cX12_readScene 112 = .ok (.iadd, 1) := by decide +kernel
theorem dX12_readScene_113 : decode cX12_readScene 113 = .ok (.iload 5, 2) := by decide +kernel
theorem dX12_readScene_115 : decode cX12_readScene 115 = .ok (.iastore, 1) := by decide +kernel
theorem dX12_readScene_116 : decode cX12_readScene 116 = .ok (.aload_n 0, 1) := by decide +kernel
theorem dX12_readScene_117 : decode cX12_readScene 117 = .ok (.getfield 89, 3) := by decide +kernel
theorem dX12_readScene_120 : decode cX12_readScene 120 = .ok (.bipush 61, 2) := by decide +kernel
theorem dX12_readScene_122 : decode cX12_readScene 122 = .ok (.dup2, 1) := by decide +kernel
theorem dX12_readScene_123 : decode cX12_readScene 123 = .ok (.iaload, 1) := by decide +kernel
theorem dX12_readScene_124 : decode cX12_readScene 124 = .ok (.iconst 1, 1) := by decide +kernel
theorem dX12_readScene_125 : decode cX12_readScene 125 = .ok (.iadd, 1) := by decide +kernel
theorem dX12_readScene_126 : decode cX12_readScene 126 = .ok (.iastore, 1) := by decide +kernel
theorem dX12_readScene_127 : decode cX12_readScene 127 = .ok (.return_, 1) := by decide +kernel
theorem dX12_readWatcher_0 : decode cX12_readWatcher 0 = .ok (.bipush 97, 2) := by decide +kernel
theorem dX12_readWatcher_2 : decode cX12_readWatcher 2 = .ok (.iconst 3, 1) := by decide +kernel
theorem dX12_readWatcher_3 : decode cX12_readWatcher 3 = .ok (.aload_n 0, 1) := by decide +kernel
theorem dX12_readWatcher_4 : decode cX12_readWatcher 4 = .ok (.getfield 89, 3) := by decide +kernel
theorem dX12_readWatcher_7 : decode cX12_readWatcher 7 = .ok (.bipush 62, 2) := by decide +kernel
theorem dX12_readWatcher_9 : decode cX12_readWatcher 9 = .ok (.iaload, 1) := by decide +kernel
theorem dX12_readWatcher_10 : decode cX12_readWatcher 10 = .ok (.imul, 1) := by decide +kernel
theorem dX12_readWatcher_11 : decode cX12_readWatcher 11 = .ok (.iadd, 1) := by decide +kernel
theorem dX12_readWatcher_12 : decode cX12_readWatcher 12 = .ok (.istore_n 1, 1) := by decide +kernel
theorem dX12_readWatcher_13 : decode cX12_readWatcher 13 = .ok (.aload_n 0, 1) := by decide +kernel
theorem dX12_readWatcher_14 : decode cX12_readWatcher 14 = .ok (.iconst 2, 1) := by decide +kernel
theorem dX12_readWatcher_15 : decode cX12_readWatcher 15 = .ok (.bipush 6, 2) := by decide +kernel
theorem dX12_readWatcher_17 : decode cX12_readWatcher 17 = .ok (.bipush 20, 2) := by decide +kernel
theorem dX12_readWatcher_19 : decode cX12_readWatcher 19 = .ok (.invokevirtual 230, 3) := by decide +kernel
theorem dX12_readWatcher_22 : decode cX12_readWatcher 22 = .ok (.aload_n 0, 1) := by decide +kernel
theorem dX12_readWatcher_23 : decode cX12_readWatcher 23 = .ok (.bipush 15, 2) := by decide +kernel
theorem dX12_readWatcher_25 : decode cX12_readWatcher 25 = .ok (.iconst 4, 1) := by decide +kernel
theorem dX12_readWatcher_26 : decode cX12_readWatcher 26 = .ok (.invokevirtual 190, 3) := by decide +kernel
theorem dX12_readWatcher_29 : decode cX12_readWatcher 29 = .ok (.istore_n 2, 1) := by decide +kernel
theorem dX12_readWatcher_30 : decode cX12_readWatcher 30 = .ok (.aload_n 0, 1) := by decide +kernel
theorem dX12_readWatcher_31 : decode cX12_readWatcher 31 = .ok (.bipush 6, 2) := by decide +kernel
theorem dX12_readWatcher_33 : decode cX12_readWatcher 33 = .ok (.iconst 0, 1) := by decide +kernel
theorem dX12_readWatcher_34 : decode cX12_readWatcher 34 = .ok (.bipush 9, 2) := by decide +kernel
theorem dX12_readWatcher_36 : decode cX12_readWatcher 36 = .ok (.invokevirtual 250, 3) := by decide +kernel
theorem dX12_readWatcher_39 : decode cX12_readWatcher 39 = .ok (.istore_n 3, 1) := by decide +kernel
theorem dX12_readWatcher_40 : decode cX12_readWatcher 40 = .ok (.aload_n 0, 1) := by decide +kernel
theorem dX12_readWatcher_41 : decode cX12_readWatcher 41 = .ok (.bipush 7, 2) := by decide +kernel
theorem dX12_readWatcher_43 : decode cX12_readWatcher 43 = .ok (.iconst 1, 1) := by decide +kernel
theorem dX12_readWatcher_44 : decode cX12_readWatcher 44 = .ok (.bipush 30, 2) := by decide +kernel
theorem dX12_readWatcher_46 : decode cX12_readWatcher 46 = .ok (.invokevirtual 250, 3) := by decide +kernel
theorem dX12_readWatcher_49 : decode cX12_readWatcher 49 = .ok (.istore 4, 2) := by decide +kernel
theorem dX12_readWatcher_51 : decode cX12_readWatcher 51 = .ok (.aload_n 0, 1) := by decide +kernel
theorem dX12_readWatcher_52 : decode cX12_readWatcher 52 = .ok (.getfield 165, 3) := by decide +kernel
theorem dX12_readWatcher_55 : decode cX12_readWatcher 55 = .ok (.ifCond .ne 29, 3) := by decide +kernel
theorem dX12_readWatcher_58 : decode cX12_readWatcher 58 = .ok (.aload_n 0, 1) := by decide +kernel
theorem dX12_readWatcher_59 : decode cX12_readWatcher 59 = .ok (.getfield 89, 3) := by decide +kernel
theorem dX12_readWatcher_62 : decode cX12_readWatcher 62 = .ok (.iload_n 1, 1) := by decide +kernel
theorem dX12_readWatcher_63 : decode cX12_readWatcher 63 = .ok (.iload_n 2, 1) := by decide +kernel
theorem dX12_readWatcher_64 : decode cX12_readWatcher 64 = .ok (.iastore, 1) := by decide +kernel
theorem dX12_readWatcher_65 : decode cX12_readWatcher 65 = .ok (.aload_n 0, 1) := by decide +kernel
theorem dX12_readWatcher_66 : decode cX12_readWatcher 66 = .ok (.getfield 89, 3) := by decide +kernel
theorem dX12_readWatcher_69 : decode cX12_readWatcher 69 = .ok (.iload_n 1, 1) := by decide +kernel
theorem dX12_readWatcher_70 : decode cX12_readWatcher 70 = .ok (.iconst 1, 1) := by decide +kernel
theorem dX12_readWatcher_71 : decode cX12_readWatcher 71 = .ok (.iadd, 1) := by decide +kernel
theorem dX12_readWatcher_72 : decode cX12_readWatcher 72 = .ok (.iload_n 3, 1) := by decide +kernel
theorem dX12_readWatcher_73 : decode cX12_readWatcher 73 = .ok (.iastore, 1) := by decide +kernel
theorem dX12_readWatcher_74 : decode cX12_readWatcher 74 = .ok (.aload_n 0, 1) := by decide +kernel
theorem dX12_readWatcher_75 : decode cX12_readWatcher 75 = .ok (.getfield 89, 3) := by decide +kernel
theorem dX12_readWatcher_78 : decode cX12_readWatcher 78 = .ok (.iload_n 1, 1) := by decide +kernel
theorem dX12_readWatcher_79 : decode cX12_readWatcher 79 = .ok (.iconst 2, 1) := by decide +kernel
theorem dX12_readWatcher_80 : decode cX12_readWatcher 80 = .ok (.iadd, 1) := by decide +kernel
theorem dX12_readWatcher_81 : decode cX12_readWatcher 81 = .ok (.iload 4, 2) := by decide +kernel
theorem dX12_readWatcher_83 : decode cX12_readWatcher 83 = .ok (.iastore, 1) := by decide +kernel
theorem dX12_readWatcher_84 : decode cX12_readWatcher 84 = .ok (.return_, 1) := by decide +kernel
theorem dX12_readOnce_0 : decode cX12_readOnce 0 = .ok (.aload_n 0, 1) := by decide +kernel
theorem dX12_readOnce_1 : decode cX12_readOnce 1 = .ok (.bipush 8, 2) := by decide +kernel
theorem dX12_readOnce_3 : decode cX12_readOnce 3 = .ok (.iconst 2, 1) := by decide +kernel
theorem dX12_readOnce_4 : decode cX12_readOnce 4 = .ok (.invokevirtual 187, 3) := by decide +kernel
theorem dX12_readOnce_7 : decode cX12_readOnce 7 = .ok (.istore_n 1, 1) := by decide +kernel
theorem dX12_readOnce_8 : decode cX12_readOnce 8 = .ok (.iload_n 1, 1) := by decide +kernel
theorem dX12_readOnce_9 : decode cX12_readOnce 9 = .ok (.ifCond .ge 11, 3) := by decide +kernel
theorem dX12_readOnce_12 : decode cX12_readOnce 12 = .ok (.aload_n 0, 1) := by decide +kernel
theorem dX12_readOnce_13 : decode cX12_readOnce 13 = .ok (.iconst 1, 1) := by decide +kernel
theorem dX12_readOnce_14 : decode cX12_readOnce 14 = .ok (.invokevirtual 171, 3) := by decide +kernel
theorem dX12_readOnce_17 : decode cX12_readOnce 17 = .ok (.goto 20, 3) := by decide +kernel
theorem dX12_readOnce_20 : decode cX12_readOnce 20 = .ok (.aload_n 0, 1) := by decide +kernel
theorem dX12_readOnce_21 : decode cX12_readOnce 21 = .ok (.getfield 221, 3) := by decide +kernel
theorem dX12_readOnce_24 : decode cX12_readOnce 24 = .ok (.iload_n 1, 1) := by decide +kernel
theorem dX12_readOnce_25 : decode cX12_readOnce 25 = .ok (.ishr, 1) := by decide +kernel
theorem dX12_readOnce_26 : decode cX12_readOnce 26 = .ok (.iconst 1, 1) := by decide +kernel
theorem dX12_readOnce_27 : decode cX12_readOnce 27 = .ok (.iand, 1) := by decide +kernel
theorem dX12_readOnce_28 : decode cX12_readOnce 28 = .ok (.iconst 1, 1) := by decide +kernel
theorem dX12_readOnce_29 : decode cX12_readOnce 29 = .ok (.if_icmp .ne 8, 3) := by decide +kernel
theorem dX12_readOnce_32 : decode cX12_readOnce 32 = .ok (.aload_n 0, 1) := by decide +kernel
theorem dX12_readOnce_33 : decode cX12_readOnce 33 = .ok (.iconst 3, 1) := by decide +kernel
theorem dX12_readOnce_34 : decode cX12_readOnce 34 = .ok (.invokevirtual 171, 3) := by decide +kernel
theorem dX12_readOnce_37 : decode cX12_readOnce 37 = .ok (.aload_n 0, 1) := by decide +kernel
theorem dX12_readOnce_38 : decode cX12_readOnce 38 = .ok (.getfield 165, 3) := by decide +kernel
theorem dX12_readOnce_41 : decode cX12_readOnce 41 = .ok (.ifCond .le 4, 3) := by decide +kernel
theorem dX12_readOnce_44 : decode cX12_readOnce 44 = .ok (.return_, 1) := by decide +kernel
theorem dX12_readOnce_45 : decode cX12_readOnce 45 = .ok (.aload_n 0, 1) := by decide +kernel
theorem dX12_readOnce_46 : decode cX12_readOnce 46 = .ok (.dup, 1) := by decide +kernel
theorem dX12_readOnce_47 : decode cX12_readOnce 47 = .ok (.getfield 221, 3) := by decide +kernel
theorem dX12_readOnce_50 : decode cX12_readOnce 50 = .ok (.iconst 1, 1) := by decide +kernel
theorem dX12_readOnce_51 : decode cX12_readOnce 51 = .ok (.iload_n 1, 1) := by decide +kernel
theorem dX12_readOnce_52 : decode cX12_readOnce 52 = .ok (.ishl, 1) := by decide +kernel
theorem dX12_readOnce_53 : decode cX12_readOnce 53 = .ok (.ior, 1) := by decide +kernel
theorem dX12_readOnce_54 : decode cX12_readOnce 54 = .ok (.putfield 221, 3) := by decide +kernel
theorem dX12_readOnce_57 : decode cX12_readOnce 57 = .ok (.aload_n 0, 1) := by decide +kernel
theorem dX12_readOnce_58 : decode cX12_readOnce 58 = .ok (.dup, 1) := by decide +kernel
theorem dX12_readOnce_59 : decode cX12_readOnce 59 = .ok (.getfield 162, 3) := by decide +kernel
theorem dX12_readOnce_62 : decode cX12_readOnce 62 = .ok (.iconst 1, 1) := by decide +kernel
theorem dX12_readOnce_63 : decode cX12_readOnce 63 = .ok (.iadd, 1) := by decide +kernel
theorem dX12_readOnce_64 : decode cX12_readOnce 64 = .ok (.putfield 162, 3) := by decide +kernel
theorem dX12_readOnce_67 : decode cX12_readOnce 67 = .ok (.iload_n 1, 1) := by decide +kernel
theorem dX12_readOnce_68 : decode cX12_readOnce 68 = .ok (.ifCond .ne 20, 3) := by decide +kernel
theorem dX12_readOnce_71 : decode cX12_readOnce 71 = .ok (.aload_n 0, 1) := by decide +kernel
theorem dX12_readOnce_72 : decode cX12_readOnce 72 = .ok (.getfield 89, 3) := by decide +kernel
theorem dX12_readOnce_75 : decode cX12_readOnce 75 = .ok (.bipush 63, 2) := by decide +kernel
theorem dX12_readOnce_77 : decode cX12_readOnce 77 = .ok (.aload_n 0, 1) := by decide +kernel
theorem dX12_readOnce_78 : decode cX12_readOnce 78 = .ok (.iconst 0, 1) := by decide +kernel
theorem dX12_readOnce_79 : decode cX12_readOnce 79 = .ok (.bipush 8, 2) := by decide +kernel
theorem dX12_readOnce_81 : decode cX12_readOnce 81 = .ok (.invokevirtual 183, 3) := by decide +kernel
theorem dX12_readOnce_84 : decode cX12_readOnce 84 = .ok (.iastore, 1) := by decide +kernel
theorem dX12_readOnce_85 : decode cX12_readOnce 85 = .ok (.goto 25, 3) := by decide +kernel
theorem dX12_readOnce_88 : decode cX12_readOnce 88 = .ok (.aload_n 0, 1) := by decide +kernel
theorem dX12_readOnce_89 : decode cX12_readOnce 89 = .ok (.getfield 89, 3) := by decide +kernel
theorem dX12_readOnce_92 : decode cX12_readOnce 92 = .ok (.bipush 64, 2) := by decide +kernel
theorem dX12_readOnce_94 : decode cX12_readOnce 94 = .ok (.aload_n 0, 1) := by decide +kernel
theorem dX12_readOnce_95 : decode cX12_readOnce 95 = .ok (.getfield 218, 3) := by decide +kernel
theorem dX12_readOnce_98 : decode cX12_readOnce 98 = .ok (.iastore, 1) := by decide +kernel
theorem dX12_readOnce_99 : decode cX12_readOnce 99 = .ok (.aload_n 0, 1) := by decide +kernel
theorem dX12_readOnce_100 : decode cX12_readOnce 100 = .ok (.iconst 0, 1) := by decide +kernel
theorem dX12_readOnce_101 : decode cX12_readOnce 101 = .ok (.invokevirtual 254, 3) := by decide +kernel
theorem dX12_readOnce_104 : decode cX12_readOnce 104 = .ok (.aload_n 0, 1) := by decide +kernel
theorem dX12_readOnce_105 : decode cX12_readOnce 105 = .ok (.iconst 0, 1) := by decide +kernel
theorem dX12_readOnce_106 : decode cX12_readOnce 106 = .ok (.iconst 0, 1) := by decide +kernel
theorem dX12_readOnce_107 : decode cX12_readOnce 107 = .ok (.invokevirtual 257, 3) := by decide +kernel
theorem dX12_readOnce_110 : decode cX12_readOnce 110 = .ok (.return_, 1) := by decide +kernel
theorem dX12_evening_0 : decode cX12_evening 0 = .ok (.aload_n 0, 1) := by decide +kernel
theorem dX12_evening_1 : decode cX12_evening 1 = .ok (.iconst 0, 1) := by decide +kernel
theorem dX12_evening_2 : decode cX12_evening 2 = .ok (.putfield 1, 3) := by decide +kernel
theorem dX12_evening_5 : decode cX12_evening 5 = .ok (.aload_n 0, 1) := by decide +kernel
theorem dX12_evening_6 : decode cX12_evening 6 = .ok (.invokevirtual 215, 3) := by decide +kernel
theorem dX12_evening_9 : decode cX12_evening 9 = .ok (.iconst 0, 1) := by decide +kernel
theorem dX12_evening_10 : decode cX12_evening 10 = .ok (.istore_n 1, 1) := by decide +kernel
theorem dX12_evening_11 : decode cX12_evening 11 = .ok (.aload_n 0, 1) := by decide +kernel
theorem dX12_evening_12 : decode cX12_evening 12 = .ok (.getfield 165, 3) := by decide +kernel
theorem dX12_evening_15 : decode cX12_evening 15 = .ok (.ifCond .ne 83, 3) := by decide +kernel
theorem dX12_evening_18 : decode cX12_evening 18 = .ok (.aload_n 0, 1) := by decide +kernel
theorem dX12_evening_19 : decode cX12_evening 19 = .ok (.getfield 24, 3) := by decide +kernel
theorem dX12_evening_22 : decode cX12_evening 22 = .ok (.aload_n 0, 1) := by decide +kernel
theorem dX12_evening_23 : decode cX12_evening 23 = .ok (.getfield 162, 3) := by decide +kernel
theorem dX12_evening_26 : decode cX12_evening 26 = .ok (.iaload, 1) := by decide +kernel
theorem dX12_evening_27 : decode cX12_evening 27 = .ok (.ifCond .eq 71, 3) := by decide +kernel
theorem dX12_evening_30 : decode cX12_evening 30 = .ok (.aload_n 0, 1) := by decide +kernel
theorem dX12_evening_31 : decode cX12_evening 31 = .ok (.bipush 10, 2) := by decide +kernel
theorem dX12_evening_33 : decode cX12_evening 33 = .ok (.iconst 5, 1) := by decide +kernel
theorem dX12_evening_34 : decode cX12_evening 34 = .ok (.invokevirtual 187, 3) := by decide +kernel
theorem dX12_evening_37 : decode cX12_evening 37 = .ok (.istore_n 2, 1) := by decide +kernel
theorem dX12_evening_38 : decode cX12_evening 38 = .ok (.iload_n 2, 1) := by decide +kernel
theorem dX12_evening_39 : decode cX12_evening 39 = .ok (.ifCond .ge 11, 3) := by decide +kernel
theorem dX12_evening_42 : decode cX12_evening 42 = .ok (.aload_n 0, 1) := by decide +kernel
theorem dX12_evening_43 : decode cX12_evening 43 = .ok (.iconst 1, 1) := by decide +kernel
theorem dX12_evening_44 : decode cX12_evening 44 = .ok (.invokevirtual 171, 3) := by decide +kernel
theorem dX12_evening_47 : decode cX12_evening 47 = .ok (.goto 42, 3) := by decide +kernel
theorem dX12_evening_50 : decode cX12_evening 50 = .ok (.iload_n 1, 1) := by decide +kernel
theorem dX12_evening_51 : decode cX12_evening 51 = .ok (.bipush 40, 2) := by decide +kernel
theorem dX12_evening_53 : decode cX12_evening 53 = .ok (.if_icmp .ne 11, 3) := by decide +kernel
theorem dX12_evening_56 : decode cX12_evening 56 = .ok (.aload_n 0, 1) := by decide +kernel
theorem dX12_evening_57 : decode cX12_evening 57 = .ok (.iconst 5, 1) := by decide +kernel
theorem dX12_evening_58 : decode cX12_evening 58 = .ok (.invokevirtual 171, 3) := by decide +kernel
theorem dX12_evening_61 : decode cX12_evening 61 = .ok (.goto 28, 3) := by decide +kernel
theorem dX12_evening_64 : decode cX12_evening 64 = .ok (.aload_n 0, 1) := by decide +kernel
theorem dX12_evening_65 : decode cX12_evening 65 = .ok (.dup, 1) := by decide +kernel
theorem dX12_evening_66 : decode cX12_evening 66 = .ok (.getfield 162, 3) := by decide +kernel
theorem dX12_evening_69 : decode cX12_evening 69 = .ok (.iconst 1, 1) := by decide +kernel
theorem dX12_evening_70 : decode cX12_evening 70 = .ok (.iadd, 1) := by decide +kernel
theorem dX12_evening_71 : decode cX12_evening 71 = .ok (.putfield 162, 3) := by decide +kernel
theorem dX12_evening_74 : decode cX12_evening 74 = .ok (.aload_n 0, 1) := by decide +kernel
theorem dX12_evening_75 : decode cX12_evening 75 = .ok (.iload_n 2, 1) := by decide +kernel
theorem dX12_evening_76 : decode cX12_evening 76 = .ok (.sipush 165, 3) := by decide +kernel
theorem dX12_evening_79 : decode cX12_evening 79 = .ok (.iconst 4, 1) := by decide +kernel
theorem dX12_evening_80 : decode cX12_evening 80 = .ok (.iload_n 1, 1) := by decide +kernel
theorem dX12_evening_81 : decode cX12_evening 81 = .ok (.imul, 1) := by decide +kernel
theorem dX12_evening_82 : decode cX12_evening 82 = .ok (.iadd, 1) := by decide +kernel
theorem dX12_evening_83 : decode cX12_evening 83 = .ok (.invokevirtual 261, 3) := by decide +kernel
theorem dX12_evening_86 : decode cX12_evening 86 = .ok (.iinc 1 1, 3) := by decide +kernel
theorem dX12_evening_89 : decode cX12_evening 89 = .ok (.aload_n 0, 1) := by decide +kernel
theorem dX12_evening_90 : decode cX12_evening 90 = .ok (.bipush 59, 2) := by decide +kernel
theorem dX12_evening_92 : decode cX12_evening 92 = .ok (.invokevirtual 227, 3) := by decide +kernel
theorem dX12_evening_95 : decode cX12_evening 95 = .ok (.goto (-84), 3) := by decide +kernel
theorem dX12_evening_98 : decode cX12_evening 98 = .ok (.aload_n 0, 1) := by decide +kernel
theorem dX12_evening_99 : decode cX12_evening 99 = .ok (.getfield 165, 3) := by decide +kernel
theorem dX12_evening_102 : decode cX12_evening 102 = .ok (.ifCond .le 8, 3) := by decide +kernel
theorem dX12_evening_105 : decode cX12_evening 105 = .ok (.aload_n 0, 1) := by decide +kernel
theorem dX12_evening_106 : decode cX12_evening 106 = .ok (.getfield 165, 3) := by decide +kernel
theorem dX12_evening_109 : decode cX12_evening 109 = .ok (.ireturn, 1) := by decide +kernel
theorem dX12_evening_110 : decode cX12_evening 110 = .ok (.aload_n 0, 1) := by decide +kernel
theorem dX12_evening_111 : decode cX12_evening 111 = .ok (.getfield 110, 3) := by decide +kernel
theorem dX12_evening_114 : decode cX12_evening 114 = .ok (.iconst 0, 1) := by decide +kernel
theorem dX12_evening_115 : decode cX12_evening 115 = .ok (.iload_n 1, 1) := by decide +kernel
theorem dX12_evening_116 : decode cX12_evening 116 = .ok (.iastore, 1) := by decide +kernel
theorem dX12_evening_117 : decode cX12_evening 117 = .ok (.iconst 0, 1) := by decide +kernel
theorem dX12_evening_118 : decode cX12_evening 118 = .ok (.istore_n 2, 1) := by decide +kernel
theorem dX12_evening_119 : decode cX12_evening 119 = .ok (.iload_n 2, 1) := by decide +kernel
theorem dX12_evening_120 : decode cX12_evening 120 = .ok (.iconst 4, 1) := by decide +kernel
theorem dX12_evening_121 : decode cX12_evening 121 = .ok (.iload_n 1, 1) := by decide +kernel
theorem dX12_evening_122 : decode cX12_evening 122 = .ok (.imul, 1) := by decide +kernel
theorem dX12_evening_123 : decode cX12_evening 123 = .ok (.if_icmp .ge 27, 3) := by decide +kernel
theorem dX12_evening_126 : decode cX12_evening 126 = .ok (.aload_n 0, 1) := by decide +kernel
theorem dX12_evening_127 : decode cX12_evening 127 = .ok (.getfield 110, 3) := by decide +kernel
theorem dX12_evening_130 : decode cX12_evening 130 = .ok (.iconst 1, 1) := by decide +kernel
theorem dX12_evening_131 : decode cX12_evening 131 = .ok (.iload_n 2, 1) := by decide +kernel
theorem dX12_evening_132 : decode cX12_evening 132 = .ok (.iadd, 1) := by decide +kernel
theorem dX12_evening_133 : decode cX12_evening 133 = .ok (.aload_n 0, 1) := by decide +kernel
theorem dX12_evening_134 : decode cX12_evening 134 = .ok (.getfield 110, 3) := by decide +kernel
theorem dX12_evening_137 : decode cX12_evening 137 = .ok (.sipush 165, 3) := by decide +kernel
theorem dX12_evening_140 : decode cX12_evening 140 = .ok (.iload_n 2, 1) := by decide +kernel
theorem dX12_evening_141 : decode cX12_evening 141 = .ok (.iadd, 1) := by decide +kernel
theorem dX12_evening_142 : decode cX12_evening 142 = .ok (.iaload, 1) := by decide +kernel
theorem dX12_evening_143 : decode cX12_evening 143 = .ok (.iastore, 1) := by decide +kernel
theorem dX12_evening_144 : decode cX12_evening 144 = .ok (.iinc 2 1, 3) := by decide +kernel
theorem dX12_evening_147 : decode cX12_evening 147 = .ok (.goto (-28), 3) := by decide +kernel
theorem dX12_evening_150 : decode cX12_evening 150 = .ok (.iconst 0, 1) := by decide +kernel
theorem dX12_evening_151 : decode cX12_evening 151 = .ok (.ireturn, 1) := by decide +kernel
theorem dX12_readEvening_0 : decode cX12_readEvening 0 = .ok (.aload_n 0, 1) := by decide +kernel
theorem dX12_readEvening_1 : decode cX12_readEvening 1 = .ok (.getfield 110, 3) := by decide +kernel
theorem dX12_readEvening_4 : decode cX12_readEvening 4 = .ok (.iload_n 2, 1) := by decide +kernel
theorem dX12_readEvening_5 : decode cX12_readEvening 5 = .ok (.iload_n 1, 1) := by decide +kernel
theorem dX12_readEvening_6 : decode cX12_readEvening 6 = .ok (.iastore, 1) := by decide +kernel
theorem dX12_readEvening_7 : decode cX12_readEvening 7 = .ok (.aload_n 0, 1) := by decide +kernel
theorem dX12_readEvening_8 : decode cX12_readEvening 8 = .ok (.getfield 110, 3) := by decide +kernel
theorem dX12_readEvening_11 : decode cX12_readEvening 11 = .ok (.iload_n 2, 1) := by decide +kernel
theorem dX12_readEvening_12 : decode cX12_readEvening 12 = .ok (.iconst 1, 1) := by decide +kernel
theorem dX12_readEvening_13 : decode cX12_readEvening 13 = .ok (.iadd, 1) := by decide +kernel
theorem dX12_readEvening_14 : decode cX12_readEvening 14 = .ok (.iload_n 1, 1) := by decide +kernel
theorem dX12_readEvening_15 : decode cX12_readEvening 15 = .ok (.iconst 1, 1) := by decide +kernel
theorem dX12_readEvening_16 : decode cX12_readEvening 16 = .ok (.if_icmp .eq 8, 3) := by decide +kernel
theorem dX12_readEvening_19 : decode cX12_readEvening 19 = .ok (.iload_n 1, 1) := by decide +kernel
theorem dX12_readEvening_20 : decode cX12_readEvening 20 = .ok (.iconst 2, 1) := by decide +kernel
theorem dX12_readEvening_21 : decode cX12_readEvening 21 = .ok (.if_icmp .ne 13, 3) := by decide +kernel
theorem dX12_readEvening_24 : decode cX12_readEvening 24 = .ok (.aload_n 0, 1) := by decide +kernel
theorem dX12_readEvening_25 : decode cX12_readEvening 25 = .ok (.iconst 0, 1) := by decide +kernel
theorem dX12_readEvening_26 : decode cX12_readEvening 26 = .ok (.bipush 7, 2) := by decide +kernel
theorem dX12_readEvening_28 : decode cX12_readEvening 28 = .ok (.invokevirtual 183, 3) := by decide +kernel
theorem dX12_readEvening_31 : decode cX12_readEvening 31 = .ok (.goto 19, 3) := by decide +kernel
theorem dX12_readEvening_34 : decode cX12_readEvening 34 = .ok (.iload_n 1, 1) := by decide +kernel
theorem dX12_readEvening_35 : decode cX12_readEvening 35 = .ok (.iconst 3, 1) := by decide +kernel
theorem dX12_readEvening_36 : decode cX12_readEvening 36 = .ok (.if_icmp .ne 13, 3) := by decide +kernel
theorem dX12_readEvening_39 : decode cX12_readEvening 39 = .ok (.aload_n 0, 1) := by decide +kernel
theorem dX12_readEvening_40 : decode cX12_readEvening 40 = .ok (.iconst 0, 1) := by decide +kernel
theorem dX12_readEvening_41 : decode cX12_readEvening 41 = .ok (.bipush 20, 2) := by decide +kernel
theorem dX12_readEvening_43 : decode cX12_readEvening 43 = .ok (.invokevirtual 243, 3) := by decide +kernel
theorem dX12_readEvening_46 : decode cX12_readEvening 46 = .ok (.goto 4, 3) := by decide +kernel
theorem dX12_readEvening_49 : decode cX12_readEvening 49 = .ok (.iconst 0, 1) := by decide +kernel
theorem dX12_readEvening_50 : decode cX12_readEvening 50 = .ok (.iastore, 1) := by decide +kernel
theorem dX12_readEvening_51 : decode cX12_readEvening 51 = .ok (.aload_n 0, 1) := by decide +kernel
theorem dX12_readEvening_52 : decode cX12_readEvening 52 = .ok (.getfield 110, 3) := by decide +kernel
theorem dX12_readEvening_55 : decode cX12_readEvening 55 = .ok (.iload_n 2, 1) := by decide +kernel
theorem dX12_readEvening_56 : decode cX12_readEvening 56 = .ok (.iconst 2, 1) := by decide +kernel
theorem dX12_readEvening_57 : decode cX12_readEvening 57 = .ok (.iadd, 1) := by decide +kernel
theorem dX12_readEvening_58 : decode cX12_readEvening 58 = .ok (.iconst 0, 1) := by decide +kernel
theorem dX12_readEvening_59 : decode cX12_readEvening 59 = .ok (.iastore, 1) := by decide +kernel
theorem dX12_readEvening_60 : decode cX12_readEvening 60 = .ok (.aload_n 0, 1) := by decide +kernel
theorem dX12_readEvening_61 : decode cX12_readEvening 61 = .ok (.getfield 110, 3) := by decide +kernel
theorem dX12_readEvening_64 : decode cX12_readEvening 64 = .ok (.iload_n 2, 1) := by decide +kernel
theorem dX12_readEvening_65 : decode cX12_readEvening 65 = .ok (.iconst 3, 1) := by decide +kernel
theorem dX12_readEvening_66 : decode cX12_readEvening 66 = .ok (.iadd, 1) := by decide +kernel
theorem dX12_readEvening_67 : decode cX12_readEvening 67 = .ok (.iconst 0, 1) := by decide +kernel
theorem dX12_readEvening_68 : decode cX12_readEvening 68 = .ok (.iastore, 1) := by decide +kernel
theorem dX12_readEvening_69 : decode cX12_readEvening 69 = .ok (.iload_n 1, 1) := by decide +kernel
theorem dX12_readEvening_70 : decode cX12_readEvening 70 = .ok (.iconst 1, 1) := by decide +kernel
theorem dX12_readEvening_71 : decode cX12_readEvening 71 = .ok (.if_icmp .ne 32, 3) := by decide +kernel
theorem dX12_readEvening_74 : decode cX12_readEvening 74 = .ok (.aload_n 0, 1) := by decide +kernel
theorem dX12_readEvening_75 : decode cX12_readEvening 75 = .ok (.getfield 110, 3) := by decide +kernel
theorem dX12_readEvening_78 : decode cX12_readEvening 78 = .ok (.iload_n 2, 1) := by decide +kernel
theorem dX12_readEvening_79 : decode cX12_readEvening 79 = .ok (.iconst 2, 1) := by decide +kernel
theorem dX12_readEvening_80 : decode cX12_readEvening 80 = .ok (.iadd, 1) := by decide +kernel
theorem dX12_readEvening_81 : decode cX12_readEvening 81 = .ok (.aload_n 0, 1) := by decide +kernel
theorem dX12_readEvening_82 : decode cX12_readEvening 82 = .ok (.iconst 0, 1) := by decide +kernel
theorem dX12_readEvening_83 : decode cX12_readEvening 83 = .ok (.iconst 0, 1) := by decide +kernel
theorem dX12_readEvening_84 : decode cX12_readEvening 84 = .ok (.invokevirtual 243, 3) := by decide +kernel
theorem dX12_readEvening_87 : decode cX12_readEvening 87 = .ok (.iastore, 1) := by decide +kernel
theorem dX12_readEvening_88 : decode cX12_readEvening 88 = .ok (.aload_n 0, 1) := by decide +kernel
theorem dX12_readEvening_89 : decode cX12_readEvening 89 = .ok (.getfield 110, 3) := by decide +kernel
theorem dX12_readEvening_92 : decode cX12_readEvening 92 = .ok (.iload_n 2, 1) := by decide +kernel
theorem dX12_readEvening_93 : decode cX12_readEvening 93 = .ok (.iconst 3, 1) := by decide +kernel
theorem dX12_readEvening_94 : decode cX12_readEvening 94 = .ok (.iadd, 1) := by decide +kernel
theorem dX12_readEvening_95 : decode cX12_readEvening 95 = .ok (.aload_n 0, 1) := by decide +kernel
theorem dX12_readEvening_96 : decode cX12_readEvening 96 = .ok (.invokevirtual 246, 3) := by decide +kernel
theorem dX12_readEvening_99 : decode cX12_readEvening 99 = .ok (.iastore, 1) := by decide +kernel
theorem dX12_readEvening_100 : decode cX12_readEvening 100 = .ok (.goto 75, 3) := by decide +kernel
theorem dX12_readEvening_103 : decode cX12_readEvening 103 = .ok (.iload_n 1, 1) := by decide +kernel
theorem dX12_readEvening_104 : decode cX12_readEvening 104 = .ok (.iconst 3, 1) := by decide +kernel
theorem dX12_readEvening_105 : decode cX12_readEvening 105 = .ok (.if_icmp .ne 70, 3) := by decide +kernel
theorem dX12_readEvening_108 : decode cX12_readEvening 108 = .ok (.aload_n 0, 1) := by decide +kernel
theorem dX12_readEvening_109 : decode cX12_readEvening 109 = .ok (.getfield 110, 3) := by decide +kernel
theorem dX12_readEvening_112 : decode cX12_readEvening 112 = .ok (.iload_n 2, 1) := by decide +kernel
theorem dX12_readEvening_113 : decode cX12_readEvening 113 = .ok (.iconst 2, 1) := by decide +kernel
theorem dX12_readEvening_114 : decode cX12_readEvening 114 = .ok (.iadd, 1) := by decide +kernel
theorem dX12_readEvening_115 : decode cX12_readEvening 115 = .ok (.aload_n 0, 1) := by decide +kernel
theorem dX12_readEvening_116 : decode cX12_readEvening 116 = .ok (.iconst 0, 1) := by decide +kernel
theorem dX12_readEvening_117 : decode cX12_readEvening 117 = .ok (.bipush 20, 2) := by decide +kernel
theorem dX12_readEvening_119 : decode cX12_readEvening 119 = .ok (.invokevirtual 211, 3) := by decide +kernel
theorem dX12_readEvening_122 : decode cX12_readEvening 122 = .ok (.iastore, 1) := by decide +kernel
theorem dX12_readEvening_123 : decode cX12_readEvening 123 = .ok (.aload_n 0, 1) := by decide +kernel
theorem dX12_readEvening_124 : decode cX12_readEvening 124 = .ok (.getfield 165, 3) := by decide +kernel
theorem dX12_readEvening_127 : decode cX12_readEvening 127 = .ok (.ifCond .ne 27, 3) := by decide +kernel
theorem dX12_readEvening_130 : decode cX12_readEvening 130 = .ok (.aload_n 0, 1) := by decide +kernel
theorem dX12_readEvening_131 : decode cX12_readEvening 131 = .ok (.getfield 110, 3) := by decide +kernel
theorem dX12_readEvening_134 : decode cX12_readEvening 134 = .ok (.iload_n 2, 1) := by decide +kernel
theorem dX12_readEvening_135 : decode cX12_readEvening 135 = .ok (.iconst 2, 1) := by decide +kernel
theorem dX12_readEvening_136 : decode cX12_readEvening 136 = .ok (.iadd, 1) := by decide +kernel
theorem dX12_readEvening_137 : decode cX12_readEvening 137 = .ok (.iaload, 1) := by decide +kernel
theorem dX12_readEvening_138 : decode cX12_readEvening 138 = .ok (.aload_n 0, 1) := by decide +kernel
theorem dX12_readEvening_139 : decode cX12_readEvening 139 = .ok (.getfield 110, 3) := by decide +kernel
theorem dX12_readEvening_142 : decode cX12_readEvening 142 = .ok (.iload_n 2, 1) := by decide +kernel
theorem dX12_readEvening_143 : decode cX12_readEvening 143 = .ok (.iconst 1, 1) := by decide +kernel
theorem dX12_readEvening_144 : decode cX12_readEvening 144 = .ok (.iadd, 1) := by decide +kernel
theorem dX12_readEvening_145 : decode cX12_readEvening 145 = .ok (.iaload, 1) := by decide +kernel
theorem dX12_readEvening_146 : decode cX12_readEvening 146 = .ok (.if_icmp .ne 8, 3) := by decide +kernel
theorem dX12_readEvening_149 : decode cX12_readEvening 149 = .ok (.aload_n 0, 1) := by decide +kernel
theorem dX12_readEvening_150 : decode cX12_readEvening 150 = .ok (.iconst 3, 1) := by decide +kernel
theorem dX12_readEvening_151 : decode cX12_readEvening 151 = .ok (.invokevirtual 171, 3) := by decide +kernel
theorem dX12_readEvening_154 : decode cX12_readEvening 154 = .ok (.aload_n 0, 1) := by decide +kernel
theorem dX12_readEvening_155 : decode cX12_readEvening 155 = .ok (.dup, 1) := by decide +kernel
theorem dX12_readEvening_156 : decode cX12_readEvening 156 = .ok (.getfield 162, 3) := by decide +kernel
theorem dX12_readEvening_159 : decode cX12_readEvening 159 = .ok (.aload_n 0, 1) := by decide +kernel
theorem dX12_readEvening_160 : decode cX12_readEvening 160 = .ok (.getfield 165, 3) := by decide +kernel
theorem dX12_readEvening_163 : decode cX12_readEvening 163 = .ok (.ifCond .le 7, 3) := by decide +kernel
theorem dX12_readEvening_166 : decode cX12_readEvening 166 = .ok (.iconst 0, 1) := by decide +kernel
theorem dX12_readEvening_167 : decode cX12_readEvening 167 = .ok (.goto 4, 3) := by decide +kernel
theorem dX12_readEvening_170 : decode cX12_readEvening 170 = .ok (.iconst 1, 1) := by decide +kernel
theorem dX12_readEvening_171 : decode cX12_readEvening 171 = .ok (.iadd, 1) := by decide +kernel
theorem dX12_readEvening_172 : decode cX12_readEvening 172 = .ok (.putfield 162, 3) := by decide +kernel
theorem dX12_readEvening_175 : decode cX12_readEvening 175 = .ok (.return_, 1) := by decide +kernel
theorem dX12_emit_0 : decode cX12_emit 0 = .ok (.aload_n 0, 1) := by decide +kernel
theorem dX12_emit_1 : decode cX12_emit 1 = .ok (.getfield 92, 3) := by decide +kernel
theorem dX12_emit_4 : decode cX12_emit 4 = .ok (.sipush 1100, 3) := by decide +kernel
theorem dX12_emit_7 : decode cX12_emit 7 = .ok (.aload_n 0, 1) := by decide +kernel
theorem dX12_emit_8 : decode cX12_emit 8 = .ok (.getfield 218, 3) := by decide +kernel
theorem dX12_emit_11 : decode cX12_emit 11 = .ok (.iadd, 1) := by decide +kernel
theorem dX12_emit_12 : decode cX12_emit 12 = .ok (.iload_n 1, 1) := by decide +kernel
theorem dX12_emit_13 : decode cX12_emit 13 = .ok (.iastore, 1) := by decide +kernel
theorem dX12_emit_14 : decode cX12_emit 14 = .ok (.aload_n 0, 1) := by decide +kernel
theorem dX12_emit_15 : decode cX12_emit 15 = .ok (.getfield 95, 3) := by decide +kernel
theorem dX12_emit_18 : decode cX12_emit 18 = .ok (.sipush 1100, 3) := by decide +kernel
theorem dX12_emit_21 : decode cX12_emit 21 = .ok (.aload_n 0, 1) := by decide +kernel
theorem dX12_emit_22 : decode cX12_emit 22 = .ok (.getfield 218, 3) := by decide +kernel
theorem dX12_emit_25 : decode cX12_emit 25 = .ok (.iadd, 1) := by decide +kernel
theorem dX12_emit_26 : decode cX12_emit 26 = .ok (.iload_n 2, 1) := by decide +kernel
theorem dX12_emit_27 : decode cX12_emit 27 = .ok (.iastore, 1) := by decide +kernel
theorem dX12_emit_28 : decode cX12_emit 28 = .ok (.aload_n 0, 1) := by decide +kernel
theorem dX12_emit_29 : decode cX12_emit 29 = .ok (.dup, 1) := by decide +kernel
theorem dX12_emit_30 : decode cX12_emit 30 = .ok (.getfield 218, 3) := by decide +kernel
theorem dX12_emit_33 : decode cX12_emit 33 = .ok (.iconst 1, 1) := by decide +kernel
theorem dX12_emit_34 : decode cX12_emit 34 = .ok (.iadd, 1) := by decide +kernel
theorem dX12_emit_35 : decode cX12_emit 35 = .ok (.putfield 218, 3) := by decide +kernel
theorem dX12_emit_38 : decode cX12_emit 38 = .ok (.return_, 1) := by decide +kernel
theorem dX12_whole_0 : decode cX12_whole 0 = .ok (.aload_n 0, 1) := by decide +kernel
theorem dX12_whole_1 : decode cX12_whole 1 = .ok (.iload_n 1, 1) := by decide +kernel
theorem dX12_whole_2 : decode cX12_whole 2 = .ok (.invokevirtual 264, 3) := by decide +kernel
theorem dX12_whole_5 : decode cX12_whole 5 = .ok (.aload_n 0, 1) := by decide +kernel
theorem dX12_whole_6 : decode cX12_whole 6 = .ok (.bipush 20, 2) := by decide +kernel
theorem dX12_whole_8 : decode cX12_whole 8 = .ok (.invokevirtual 174, 3) := by decide +kernel
theorem dX12_whole_11 : decode cX12_whole 11 = .ok (.ifCond .ne 12, 3) := by decide +kernel
theorem dX12_whole_14 : decode cX12_whole 14 = .ok (.aload_n 0, 1) := by decide +kernel
theorem dX12_whole_15 : decode cX12_whole 15 = .ok (.bipush 21, 2) := by decide +kernel
theorem dX12_whole_17 : decode cX12_whole 17 = .ok (.invokevirtual 174, 3) := by decide +kernel
theorem dX12_whole_20 : decode cX12_whole 20 = .ok (.ifCond .eq 44, 3) := by decide +kernel
theorem dX12_whole_23 : decode cX12_whole 23 = .ok (.aload_n 0, 1) := by decide +kernel
theorem dX12_whole_24 : decode cX12_whole 24 = .ok (.bipush 20, 2) := by decide +kernel
theorem dX12_whole_26 : decode cX12_whole 26 = .ok (.invokevirtual 174, 3) := by decide +kernel
theorem dX12_whole_29 : decode cX12_whole 29 = .ok (.istore_n 2, 1) := by decide +kernel
theorem dX12_whole_30 : decode cX12_whole 30 = .ok (.aload_n 0, 1) := by decide +kernel
theorem dX12_whole_31 : decode cX12_whole 31 = .ok (.dup, 1) := by decide +kernel
theorem dX12_whole_32 : decode cX12_whole 32 = .ok (.getfield 162, 3) := by decide +kernel
theorem dX12_whole_35 : decode cX12_whole 35 = .ok (.iconst 1, 1) := by decide +kernel
theorem dX12_whole_36 : decode cX12_whole 36 = .ok (.iadd, 1) := by decide +kernel
theorem dX12_whole_37 : decode cX12_whole 37 = .ok (.putfield 162, 3) := by decide +kernel
theorem dX12_whole_40 : decode cX12_whole 40 = .ok (.aload_n 0, 1) := by decide +kernel
theorem dX12_whole_41 : decode cX12_whole 41 = .ok (.iload_n 1, 1) := by decide +kernel
theorem dX12_whole_42 : decode cX12_whole 42 = .ok (.invokevirtual 264, 3) := by decide +kernel
theorem dX12_whole_45 : decode cX12_whole 45 = .ok (.aload_n 0, 1) := by decide +kernel
theorem dX12_whole_46 : decode cX12_whole 46 = .ok (.iload_n 2, 1) := by decide +kernel
theorem dX12_whole_47 : decode cX12_whole 47 = .ok (.ifCond .eq 8, 3) := by decide +kernel
theorem dX12_whole_50 : decode cX12_whole 50 = .ok (.bipush 9, 2) := by decide +kernel
theorem dX12_whole_52 : decode cX12_whole 52 = .ok (.goto 5, 3) := by decide +kernel
theorem dX12_whole_55 : decode cX12_whole 55 = .ok (.bipush 10, 2) := by decide +kernel
theorem dX12_whole_57 : decode cX12_whole 57 = .ok (.iconst 0, 1) := by decide +kernel
theorem dX12_whole_58 : decode cX12_whole 58 = .ok (.invokevirtual 257, 3) := by decide +kernel
theorem dX12_whole_61 : decode cX12_whole 61 = .ok (.goto (-56), 3) := by decide +kernel
theorem dX12_whole_64 : decode cX12_whole 64 = .ok (.return_, 1) := by decide +kernel
theorem dX12_test_0 : decode cX12_test 0 = .ok (.aload_n 0, 1) := by decide +kernel
theorem dX12_test_1 : decode cX12_test 1 = .ok (.iload_n 1, 1) := by decide +kernel
theorem dX12_test_2 : decode cX12_test 2 = .ok (.invokevirtual 267, 3) := by decide +kernel
theorem dX12_test_5 : decode cX12_test 5 = .ok (.aload_n 0, 1) := by decide +kernel
theorem dX12_test_6 : decode cX12_test 6 = .ok (.bipush 60, 2) := by decide +kernel
theorem dX12_test_8 : decode cX12_test 8 = .ok (.invokevirtual 168, 3) := by decide +kernel
theorem dX12_test_11 : decode cX12_test 11 = .ok (.istore_n 2, 1) := by decide +kernel
theorem dX12_test_12 : decode cX12_test 12 = .ok (.aload_n 0, 1) := by decide +kernel
theorem dX12_test_13 : decode cX12_test 13 = .ok (.bipush 60, 2) := by decide +kernel
theorem dX12_test_15 : decode cX12_test 15 = .ok (.invokevirtual 270, 3) := by decide +kernel
theorem dX12_test_18 : decode cX12_test 18 = .ok (.ifCond .ne 12, 3) := by decide +kernel
theorem dX12_test_21 : decode cX12_test 21 = .ok (.aload_n 0, 1) := by decide +kernel
theorem dX12_test_22 : decode cX12_test 22 = .ok (.bipush 61, 2) := by decide +kernel
theorem dX12_test_24 : decode cX12_test 24 = .ok (.invokevirtual 270, 3) := by decide +kernel
theorem dX12_test_27 : decode cX12_test 27 = .ok (.ifCond .eq 24, 3) := by decide +kernel
theorem dX12_test_30 : decode cX12_test 30 = .ok (.aload_n 0, 1) := by decide +kernel
theorem dX12_test_31 : decode cX12_test 31 = .ok (.iload_n 1, 1) := by decide +kernel
theorem dX12_test_32 : decode cX12_test 32 = .ok (.invokevirtual 267, 3) := by decide +kernel
theorem dX12_test_35 : decode cX12_test 35 = .ok (.aload_n 0, 1) := by decide +kernel
theorem dX12_test_36 : decode cX12_test 36 = .ok (.iload_n 2, 1) := by decide +kernel
theorem dX12_test_37 : decode cX12_test 37 = .ok (.ifCond .eq 8, 3) := by decide +kernel
theorem dX12_test_40 : decode cX12_test 40 = .ok (.bipush 7, 2) := by decide +kernel
theorem dX12_test_42 : decode cX12_test 42 = .ok (.goto 5, 3) := by decide +kernel
theorem dX12_test_45 : decode cX12_test 45 = .ok (.bipush 8, 2) := by decide +kernel
theorem dX12_test_47 : decode cX12_test 47 = .ok (.iconst 0, 1) := by decide +kernel
theorem dX12_test_48 : decode cX12_test 48 = .ok (.invokevirtual 257, 3) := by decide +kernel
theorem dX12_test_51 : decode cX12_test 51 = .ok (.return_, 1) := by decide +kernel
theorem dX12_sums_0 : decode cX12_sums 0 = .ok (.aload_n 0, 1) := by decide +kernel
theorem dX12_sums_1 : decode cX12_sums 1 = .ok (.iload_n 1, 1) := by decide +kernel
theorem dX12_sums_2 : decode cX12_sums 2 = .ok (.invokevirtual 273, 3) := by decide +kernel
theorem dX12_sums_5 : decode cX12_sums 5 = .ok (.aload_n 0, 1) := by decide +kernel
theorem dX12_sums_6 : decode cX12_sums 6 = .ok (.bipush 43, 2) := by decide +kernel
theorem dX12_sums_8 : decode cX12_sums 8 = .ok (.invokevirtual 168, 3) := by decide +kernel
theorem dX12_sums_11 : decode cX12_sums 11 = .ok (.ifCond .ne 12, 3) := by decide +kernel
theorem dX12_sums_14 : decode cX12_sums 14 = .ok (.aload_n 0, 1) := by decide +kernel
theorem dX12_sums_15 : decode cX12_sums 15 = .ok (.bipush 45, 2) := by decide +kernel
theorem dX12_sums_17 : decode cX12_sums 17 = .ok (.invokevirtual 168, 3) := by decide +kernel
theorem dX12_sums_20 : decode cX12_sums 20 = .ok (.ifCond .eq 42, 3) := by decide +kernel
theorem dX12_sums_23 : decode cX12_sums 23 = .ok (.aload_n 0, 1) := by decide +kernel
theorem dX12_sums_24 : decode cX12_sums 24 = .ok (.bipush 43, 2) := by decide +kernel
theorem dX12_sums_26 : decode cX12_sums 26 = .ok (.invokevirtual 168, 3) := by decide +kernel
theorem dX12_sums_29 : decode cX12_sums 29 = .ok (.istore_n 2, 1) := by decide +kernel
theorem dX12_sums_30 : decode cX12_sums 30 = .ok (.aload_n 0, 1) := by decide +kernel
theorem dX12_sums_31 : decode cX12_sums 31 = .ok (.dup, 1) := by decide +kernel
theorem dX12_sums_32 : decode cX12_sums 32 = .ok (.getfield 162, 3) := by decide +kernel
theorem dX12_sums_35 : decode cX12_sums 35 = .ok (.iconst 1, 1) := by decide +kernel
theorem dX12_sums_36 : decode cX12_sums 36 = .ok (.iadd, 1) := by decide +kernel
theorem dX12_sums_37 : decode cX12_sums 37 = .ok (.putfield 162, 3) := by decide +kernel
theorem dX12_sums_40 : decode cX12_sums 40 = .ok (.aload_n 0, 1) := by decide +kernel
theorem dX12_sums_41 : decode cX12_sums 41 = .ok (.iload_n 1, 1) := by decide +kernel
theorem dX12_sums_42 : decode cX12_sums 42 = .ok (.invokevirtual 273, 3) := by decide +kernel
theorem dX12_sums_45 : decode cX12_sums 45 = .ok (.aload_n 0, 1) := by decide +kernel
theorem dX12_sums_46 : decode cX12_sums 46 = .ok (.iload_n 2, 1) := by decide +kernel
theorem dX12_sums_47 : decode cX12_sums 47 = .ok (.ifCond .eq 7, 3) := by decide +kernel
theorem dX12_sums_50 : decode cX12_sums 50 = .ok (.iconst 4, 1) := by decide +kernel
theorem dX12_sums_51 : decode cX12_sums 51 = .ok (.goto 4, 3) := by decide +kernel
theorem dX12_sums_54 : decode cX12_sums 54 = .ok (.iconst 5, 1) := by decide +kernel
theorem dX12_sums_55 : decode cX12_sums 55 = .ok (.iconst 0, 1) := by decide +kernel
theorem dX12_sums_56 : decode cX12_sums 56 = .ok (.invokevirtual 257, 3) := by decide +kernel
theorem dX12_sums_59 : decode cX12_sums 59 = .ok (.goto (-54), 3) := by decide +kernel
theorem dX12_sums_62 : decode cX12_sums 62 = .ok (.return_, 1) := by decide +kernel
theorem dX12_products_0 : decode cX12_products 0 = .ok (.aload_n 0, 1) := by decide +kernel
theorem dX12_products_1 : decode cX12_products 1 = .ok (.iload_n 1, 1) := by decide +kernel
theorem dX12_products_2 : decode cX12_products 2 = .ok (.invokevirtual 276, 3) := by decide +kernel
theorem dX12_products_5 : decode cX12_products 5 = .ok (.aload_n 0, 1) := by decide +kernel
theorem dX12_products_6 : decode cX12_products 6 = .ok (.bipush 42, 2) := by decide +kernel
theorem dX12_products_8 : decode cX12_products 8 = .ok (.invokevirtual 270, 3) := by decide +kernel
theorem dX12_products_11 : decode cX12_products 11 = .ok (.ifCond .eq 18, 3) := by decide +kernel
theorem dX12_products_14 : decode cX12_products 14 = .ok (.aload_n 0, 1) := by decide +kernel
theorem dX12_products_15 : decode cX12_products 15 = .ok (.iload_n 1, 1) := by decide +kernel
theorem dX12_products_16 : decode cX12_products 16 = .ok (.invokevirtual 276, 3) := by decide +kernel
theorem dX12_products_19 : decode cX12_products 19 = .ok (.aload_n 0, 1) := by decide +kernel
theorem dX12_products_20 : decode cX12_products 20 = .ok (.bipush 6, 2) := by decide +kernel
theorem dX12_products_22 : decode cX12_products 22 = .ok (.iconst 0, 1) := by decide +kernel
theorem dX12_products_23 : decode cX12_products 23 = .ok (.invokevirtual 257, 3) := by decide +kernel
theorem dX12_products_26 : decode cX12_products 26 = .ok (.goto (-21), 3) := by decide +kernel
theorem dX12_products_29 : decode cX12_products 29 = .ok (.return_, 1) := by decide +kernel
theorem dX12_takePart_0 : decode cX12_takePart 0 = .ok (.aload_n 0, 1) := by decide +kernel
theorem dX12_takePart_1 : decode cX12_takePart 1 = .ok (.getfield 165, 3) := by decide +kernel
theorem dX12_takePart_4 : decode cX12_takePart 4 = .ok (.ifCond .le 4, 3) := by decide +kernel
theorem dX12_takePart_7 : decode cX12_takePart 7 = .ok (.return_, 1) := by decide +kernel
theorem dX12_takePart_8 : decode cX12_takePart 8 = .ok (.aload_n 0, 1) := by decide +kernel
theorem dX12_takePart_9 : decode cX12_takePart 9 = .ok (.getfield 24, 3) := by decide +kernel
theorem dX12_takePart_12 : decode cX12_takePart 12 = .ok (.aload_n 0, 1) := by decide +kernel
theorem dX12_takePart_13 : decode cX12_takePart 13 = .ok (.getfield 162, 3) := by decide +kernel
theorem dX12_takePart_16 : decode cX12_takePart 16 = .ok (.iaload, 1) := by decide +kernel
theorem dX12_takePart_17 : decode cX12_takePart 17 = .ok (.iconst 2, 1) := by decide +kernel
theorem dX12_takePart_18 : decode cX12_takePart 18 = .ok (.if_icmp .ne 7, 3) := by decide +kernel
theorem dX12_takePart_21 : decode cX12_takePart 21 = .ok (.iconst 1, 1) := by decide +kernel
theorem dX12_takePart_22 : decode cX12_takePart 22 = .ok (.goto 4, 3) := by decide +kernel
theorem dX12_takePart_25 : decode cX12_takePart 25 = .ok (.iconst 0, 1) := by decide +kernel
theorem dX12_takePart_26 : decode cX12_takePart 26 = .ok (.istore_n 2, 1) := by decide +kernel
theorem dX12_takePart_27 : decode cX12_takePart 27 = .ok (.aload_n 0, 1) := by decide +kernel
theorem dX12_takePart_28 : decode cX12_takePart 28 = .ok (.bipush 22, 2) := by decide +kernel
theorem dX12_takePart_30 : decode cX12_takePart 30 = .ok (.iconst 4, 1) := by decide +kernel
theorem dX12_takePart_31 : decode cX12_takePart 31 = .ok (.invokevirtual 187, 3) := by decide +kernel
theorem dX12_takePart_34 : decode cX12_takePart 34 = .ok (.istore_n 3, 1) := by decide +kernel
theorem dX12_takePart_35 : decode cX12_takePart 35 = .ok (.iload_n 3, 1) := by decide +kernel
theorem dX12_takePart_36 : decode cX12_takePart 36 = .ok (.ifCond .ge 33, 3) := by decide +kernel
theorem dX12_takePart_39 : decode cX12_takePart 39 = .ok (.iload_n 2, 1) := by decide +kernel
theorem dX12_takePart_40 : decode cX12_takePart 40 = .ok (.ifCond .ne 29, 3) := by decide +kernel
theorem dX12_takePart_43 : decode cX12_takePart 43 = .ok (.aload_n 0, 1) := by decide +kernel
theorem dX12_takePart_44 : decode cX12_takePart 44 = .ok (.bipush 40, 2) := by decide +kernel
theorem dX12_takePart_46 : decode cX12_takePart 46 = .ok (.invokevirtual 168, 3) := by decide +kernel
theorem dX12_takePart_49 : decode cX12_takePart 49 = .ok (.ifCond .ne 20, 3) := by decide +kernel
theorem dX12_takePart_52 : decode cX12_takePart 52 = .ok (.aload_n 0, 1) := by decide +kernel
theorem dX12_takePart_53 : decode cX12_takePart 53 = .ok (.bipush 19, 2) := by decide +kernel
theorem dX12_takePart_55 : decode cX12_takePart 55 = .ok (.invokevirtual 174, 3) := by decide +kernel
theorem dX12_takePart_58 : decode cX12_takePart 58 = .ok (.ifCond .ne 11, 3) := by decide +kernel
theorem dX12_takePart_61 : decode cX12_takePart 61 = .ok (.aload_n 0, 1) := by decide +kernel
theorem dX12_takePart_62 : decode cX12_takePart 62 = .ok (.iconst 1, 1) := by decide +kernel
theorem dX12_takePart_63 : decode cX12_takePart 63 = .ok (.invokevirtual 171, 3) := by decide +kernel
theorem dX12_takePart_66 : decode cX12_takePart 66 = .ok (.goto 13, 3) := by decide +kernel
theorem dX12_takePart_69 : decode cX12_takePart 69 = .ok (.iload_n 1, 1) := by decide +kernel
theorem dX12_takePart_70 : decode cX12_takePart 70 = .ok (.iconst 5, 1) := by decide +kernel
theorem dX12_takePart_71 : decode cX12_takePart 71 = .ok (.if_icmp .ne 8, 3) := by decide +kernel
theorem dX12_takePart_74 : decode cX12_takePart 74 = .ok (.aload_n 0, 1) := by decide +kernel
theorem dX12_takePart_75 : decode cX12_takePart 75 = .ok (.iconst 5, 1) := by decide +kernel
theorem dX12_takePart_76 : decode cX12_takePart 76 = .ok (.invokevirtual 171, 3) := by decide +kernel
theorem dX12_takePart_79 : decode cX12_takePart 79 = .ok (.aload_n 0, 1) := by decide +kernel
theorem dX12_takePart_80 : decode cX12_takePart 80 = .ok (.getfield 165, 3) := by decide +kernel
theorem dX12_takePart_83 : decode cX12_takePart 83 = .ok (.ifCond .le 4, 3) := by decide +kernel
theorem dX12_takePart_86 : decode cX12_takePart 86 = .ok (.return_, 1) := by decide +kernel
theorem dX12_takePart_87 : decode cX12_takePart 87 = .ok (.aload_n 0, 1) := by decide +kernel
theorem dX12_takePart_88 : decode cX12_takePart 88 = .ok (.bipush 19, 2) := by decide +kernel
theorem dX12_takePart_90 : decode cX12_takePart 90 = .ok (.invokevirtual 177, 3) := by decide +kernel
theorem dX12_takePart_93 : decode cX12_takePart 93 = .ok (.ifCond .eq 19, 3) := by decide +kernel
theorem dX12_takePart_96 : decode cX12_takePart 96 = .ok (.aload_n 0, 1) := by decide +kernel
theorem dX12_takePart_97 : decode cX12_takePart 97 = .ok (.iload_n 1, 1) := by decide +kernel
theorem dX12_takePart_98 : decode cX12_takePart 98 = .ok (.iconst 1, 1) := by decide +kernel
theorem dX12_takePart_99 : decode cX12_takePart 99 = .ok (.iadd, 1) := by decide +kernel
theorem dX12_takePart_100 : decode cX12_takePart 100 = .ok (.invokevirtual 276, 3) := by decide +kernel
theorem dX12_takePart_103 : decode cX12_takePart 103 = .ok (.aload_n 0, 1) := by decide +kernel
theorem dX12_takePart_104 : decode cX12_takePart 104 = .ok (.iconst 3, 1) := by decide +kernel
theorem dX12_takePart_105 : decode cX12_takePart 105 = .ok (.iconst 0, 1) := by decide +kernel
theorem dX12_takePart_106 : decode cX12_takePart 106 = .ok (.invokevirtual 257, 3) := by decide +kernel
theorem dX12_takePart_109 : decode cX12_takePart 109 = .ok (.goto 69, 3) := by decide +kernel
theorem dX12_takePart_112 : decode cX12_takePart 112 = .ok (.aload_n 0, 1) := by decide +kernel
theorem dX12_takePart_113 : decode cX12_takePart 113 = .ok (.bipush 40, 2) := by decide +kernel
theorem dX12_takePart_115 : decode cX12_takePart 115 = .ok (.invokevirtual 270, 3) := by decide +kernel
theorem dX12_takePart_118 : decode cX12_takePart 118 = .ok (.ifCond .eq 19, 3) := by decide +kernel
theorem dX12_takePart_121 : decode cX12_takePart 121 = .ok (.aload_n 0, 1) := by decide +kernel
theorem dX12_takePart_122 : decode cX12_takePart 122 = .ok (.iload_n 1, 1) := by decide +kernel
theorem dX12_takePart_123 : decode cX12_takePart 123 = .ok (.iconst 1, 1) := by decide +kernel
theorem dX12_takePart_124 : decode cX12_takePart 124 = .ok (.iadd, 1) := by decide +kernel
theorem dX12_takePart_125 : decode cX12_takePart 125 = .ok (.invokevirtual 254, 3) := by decide +kernel
theorem dX12_takePart_128 : decode cX12_takePart 128 = .ok (.aload_n 0, 1) := by decide +kernel
theorem dX12_takePart_129 : decode cX12_takePart 129 = .ok (.bipush 41, 2) := by decide +kernel
theorem dX12_takePart_131 : decode cX12_takePart 131 = .ok (.invokevirtual 227, 3) := by decide +kernel
theorem dX12_takePart_134 : decode cX12_takePart 134 = .ok (.goto 44, 3) := by decide +kernel
theorem dX12_takePart_137 : decode cX12_takePart 137 = .ok (.aload_n 0, 1) := by decide +kernel
theorem dX12_takePart_138 : decode cX12_takePart 138 = .ok (.iload_n 2, 1) := by decide +kernel
theorem dX12_takePart_139 : decode cX12_takePart 139 = .ok (.ifCond .eq 7, 3) := by decide +kernel
theorem dX12_takePart_142 : decode cX12_takePart 142 = .ok (.iconst 1, 1) := by decide +kernel
theorem dX12_takePart_143 : decode cX12_takePart 143 = .ok (.goto 4, 3) := by decide +kernel
theorem dX12_takePart_146 : decode cX12_takePart 146 = .ok (.iconst 2, 1) := by decide +kernel
theorem dX12_takePart_147 : decode cX12_takePart 147 = .ok (.iload_n 2, 1) := by decide +kernel
theorem dX12_takePart_148 : decode cX12_takePart 148 = .ok (.ifCond .eq 16, 3) := by decide +kernel
theorem dX12_takePart_151 : decode cX12_takePart 151 = .ok (.aload_n 0, 1) := by decide +kernel
theorem dX12_takePart_152 : decode cX12_takePart 152 = .ok (.getfield 30, 3) := by decide +kernel
theorem dX12_takePart_155 : decode cX12_takePart 155 = .ok (.aload_n 0, 1) := by decide +kernel
theorem dX12_takePart_156 : decode cX12_takePart 156 = .ok (.getfield 162, 3) := by decide +kernel
theorem dX12_takePart_159 : decode cX12_takePart 159 = .ok (.laload, 1) := by decide +kernel
theorem dX12_takePart_160 : decode cX12_takePart 160 = .ok (.l2i, 1) := by decide +kernel
theorem dX12_takePart_161 : decode cX12_takePart 161 = .ok (.goto 4, 3) := by decide +kernel
theorem dX12_takePart_164 : decode cX12_takePart 164 = .ok (.iload_n 3, 1) := by decide +kernel
theorem dX12_takePart_165 : decode cX12_takePart 165 = .ok (.invokevirtual 257, 3) := by decide +kernel
theorem dX12_takePart_168 : decode cX12_takePart 168 = .ok (.aload_n 0, 1) := by decide +kernel
theorem dX12_takePart_169 : decode cX12_takePart 169 = .ok (.dup, 1) := by decide +kernel
theorem dX12_takePart_170 : decode cX12_takePart 170 = .ok (.getfield 162, 3) := by decide +kernel
theorem dX12_takePart_173 : decode cX12_takePart 173 = .ok (.iconst 1, 1) := by decide +kernel
theorem dX12_takePart_174 : decode cX12_takePart 174 = .ok (.iadd, 1) := by decide +kernel
theorem dX12_takePart_175 : decode cX12_takePart 175 = .ok (.putfield 162, 3) := by decide +kernel
theorem dX12_takePart_178 : decode cX12_takePart 178 = .ok (.return_, 1) := by decide +kernel
theorem dX12_worthAt_0 : decode cX12_worthAt 0 = .ok (.iconst 0, 1) := by decide +kernel
theorem dX12_worthAt_1 : decode cX12_worthAt 1 = .ok (.istore_n 2, 1) := by decide +kernel
theorem dX12_worthAt_2 : decode cX12_worthAt 2 = .ok (.iload_n 1, 1) := by decide +kernel
theorem dX12_worthAt_3 : decode cX12_worthAt 3 = .ok (.istore_n 3, 1) := by decide +kernel
theorem dX12_worthAt_4 : decode cX12_worthAt 4 = .ok (.aload_n 0, 1) := by decide +kernel
theorem dX12_worthAt_5 : decode cX12_worthAt 5 = .ok (.getfield 92, 3) := by decide +kernel
theorem dX12_worthAt_8 : decode cX12_worthAt 8 = .ok (.iload_n 3, 1) := by decide +kernel
theorem dX12_worthAt_9 : decode cX12_worthAt 9 = .ok (.iaload, 1) := by decide +kernel
theorem dX12_worthAt_10 : decode cX12_worthAt 10 = .ok (.ifCond .eq 130, 3) := by decide +kernel
theorem dX12_worthAt_13 : decode cX12_worthAt 13 = .ok (.aload_n 0, 1) := by decide +kernel
theorem dX12_worthAt_14 : decode cX12_worthAt 14 = .ok (.getfield 92, 3) := by decide +kernel
theorem dX12_worthAt_17 : decode cX12_worthAt 17 = .ok (.iload_n 3, 1) := by decide +kernel
theorem dX12_worthAt_18 : decode cX12_worthAt 18 = .ok (.iaload, 1) := by decide +kernel
theorem dX12_worthAt_19 : decode cX12_worthAt 19 = .ok (.istore 4, 2) := by decide +kernel
theorem dX12_worthAt_21 : decode cX12_worthAt 21 = .ok (.iload 4, 2) := by decide +kernel
theorem dX12_worthAt_23 : decode cX12_worthAt 23 = .ok (.iconst 1, 1) := by decide +kernel
theorem dX12_worthAt_24 : decode cX12_worthAt 24 = .ok (.if_icmp .eq 9, 3) := by decide +kernel
theorem dX12_worthAt_27 : decode cX12_worthAt 27 = .ok (.iload 4, 2) := by decide +kernel
theorem dX12_worthAt_29 : decode cX12_worthAt 29 = .ok (.iconst 2, 1) := by decide +kernel
theorem dX12_worthAt_30 : decode cX12_worthAt 30 = .ok (.if_icmp .ne 41, 3) := by decide +kernel
theorem dX12_worthAt_33 : decode cX12_worthAt 33 = .ok (.aload_n 0, 1) := by decide +kernel
theorem dX12_worthAt_34 : decode cX12_worthAt 34 = .ok (.getfield 116, 3) := by decide +kernel
theorem dX12_worthAt_37 : decode cX12_worthAt 37 = .ok (.iload_n 2, 1) := by decide +kernel
theorem dX12_worthAt_38 : decode cX12_worthAt 38 = .ok (.iload 4, 2) := by decide +kernel
theorem dX12_worthAt_40 : decode cX12_worthAt 40 = .ok (.iconst 1, 1) := by decide +kernel
theorem dX12_worthAt_41 : decode cX12_worthAt 41 = .ok (.if_icmp .ne 12, 3) := by decide +kernel
theorem dX12_worthAt_44 : decode cX12_worthAt 44 = .ok (.aload_n 0, 1) := by decide +kernel
theorem dX12_worthAt_45 : decode cX12_worthAt 45 = .ok (.getfield 95, 3) := by decide +kernel
theorem dX12_worthAt_48 : decode cX12_worthAt 48 = .ok (.iload_n 3, 1) := by decide +kernel
theorem dX12_worthAt_49 : decode cX12_worthAt 49 = .ok (.iaload, 1) := by decide +kernel
theorem dX12_worthAt_50 : decode cX12_worthAt 50 = .ok (.goto 14, 3) := by decide +kernel
theorem dX12_worthAt_53 : decode cX12_worthAt 53 = .ok (.aload_n 0, 1) := by decide +kernel
theorem dX12_worthAt_54 : decode cX12_worthAt 54 = .ok (.getfield 113, 3) := by decide +kernel
theorem dX12_worthAt_57 : decode cX12_worthAt 57 = .ok (.aload_n 0, 1) := by decide +kernel
theorem dX12_worthAt_58 : decode cX12_worthAt 58 = .ok (.getfield 95, 3) := by decide +kernel
theorem dX12_worthAt_61 : decode cX12_worthAt 61 = .ok (.iload_n 3, 1) := by decide +kernel
theorem dX12_worthAt_62 : decode cX12_worthAt 62 = .ok (.iaload, 1) := by decide +kernel
theorem dX12_worthAt_63 : decode cX12_worthAt 63 = .ok (.iaload, 1) := by decide +kernel
theorem dX12_worthAt_64 : decode cX12_worthAt 64 = .ok (.iastore, 1) := by decide +kernel
theorem dX12_worthAt_65 : decode cX12_worthAt 65 = .ok (.iinc 2 1, 3) := by decide +kernel
theorem dX12_worthAt_68 : decode cX12_worthAt 68 = .ok (.goto 66, 3) := by decide +kernel
theorem dX12_worthAt_71 : decode cX12_worthAt 71 = .ok (.iload 4, 2) := by decide +kernel
theorem dX12_worthAt_73 : decode cX12_worthAt 73 = .ok (.iconst 3, 1) := by decide +kernel
theorem dX12_worthAt_74 : decode cX12_worthAt 74 = .ok (.if_icmp .ne 30, 3) := by decide +kernel
theorem dX12_worthAt_77 : decode cX12_worthAt 77 = .ok (.aload_n 0, 1) := by decide +kernel
theorem dX12_worthAt_78 : decode cX12_worthAt 78 = .ok (.getfield 116, 3) := by decide +kernel
theorem dX12_worthAt_81 : decode cX12_worthAt 81 = .ok (.iload_n 2, 1) := by decide +kernel
theorem dX12_worthAt_82 : decode cX12_worthAt 82 = .ok (.iconst 1, 1) := by decide +kernel
theorem dX12_worthAt_83 : decode cX12_worthAt 83 = .ok (.isub, 1) := by decide +kernel
theorem dX12_worthAt_84 : decode cX12_worthAt 84 = .ok (.aload_n 0, 1) := by decide +kernel
theorem dX12_worthAt_85 : decode cX12_worthAt 85 = .ok (.getfield 116, 3) := by decide +kernel
theorem dX12_worthAt_88 : decode cX12_worthAt 88 = .ok (.iload_n 2, 1) := by decide +kernel
theorem dX12_worthAt_89 : decode cX12_worthAt 89 = .ok (.iconst 1, 1) := by decide +kernel
theorem dX12_worthAt_90 : decode cX12_worthAt 90 = .ok (.isub, 1) := by decide +kernel
theorem dX12_worthAt_91 : decode cX12_worthAt 91 = .ok (.iaload, 1) := by decide +kernel
theorem dX12_worthAt_92 : decode cX12_worthAt 92 = .ok (.ifCond .ne 7, 3) := by decide +kernel
theorem dX12_worthAt_95 : decode cX12_worthAt 95 = .ok (.iconst 1, 1) := by decide +kernel
theorem dX12_worthAt_96 : decode cX12_worthAt 96 = .ok (.goto 4, 3) := by decide +kernel
theorem dX12_worthAt_99 : decode cX12_worthAt 99 = .ok (.iconst 0, 1) := by decide +kernel
theorem dX12_worthAt_100 : decode cX12_worthAt 100 = .ok (.iastore, 1) := by decide +kernel
theorem dX12_worthAt_101 : decode cX12_worthAt 101 = .ok (.goto 33, 3) := by decide +kernel
theorem dX12_worthAt_104 : decode cX12_worthAt 104 = .ok (.iinc 2 (-1), 3) := by decide +kernel
theorem dX12_worthAt_107 : decode cX12_worthAt 107 = .ok (.aload_n 0, 1) := by decide +kernel
theorem dX12_worthAt_108 : decode cX12_worthAt 108 = .ok (.getfield 116, 3) := by decide +kernel
theorem dX12_worthAt_111 : decode cX12_worthAt 111 = .ok (.iload_n 2, 1) := by decide +kernel
theorem dX12_worthAt_112 : decode cX12_worthAt 112 = .ok (.iconst 1, 1) := by decide +kernel
theorem dX12_worthAt_113 : decode cX12_worthAt 113 = .ok (.isub, 1) := by decide +kernel
theorem dX12_worthAt_114 : decode cX12_worthAt 114 = .ok (.iload 4, 2) := by decide +kernel
theorem dX12_worthAt_116 : decode cX12_worthAt 116 = .ok (.aload_n 0, 1) := by decide +kernel
theorem dX12_worthAt_117 : decode cX12_worthAt 117 = .ok (.getfield 116, 3) := by decide +kernel
theorem dX12_worthAt_120 : decode cX12_worthAt 120 = .ok (.iload_n 2, 1) := by decide +kernel
theorem dX12_worthAt_121 : decode cX12_worthAt 121 = .ok (.iconst 1, 1) := by decide +kernel
theorem dX12_worthAt_122 : decode cX12_worthAt 122 = .ok (.isub, 1) := by decide +kernel
theorem dX12_worthAt_123 : decode cX12_worthAt 123 = .ok (.iaload, 1) := by decide +kernel
theorem dX12_worthAt_124 : decode cX12_worthAt 124 = .ok (.aload_n 0, 1) := by decide +kernel
theorem dX12_worthAt_125 : decode cX12_worthAt 125 = .ok (.getfield 116, 3) := by decide +kernel
theorem dX12_worthAt_128 : decode cX12_worthAt 128 = .ok (.iload_n 2, 1) := by decide +kernel
theorem dX12_worthAt_129 : decode cX12_worthAt 129 = .ok (.iaload, 1) := by decide +kernel
theorem dX12_worthAt_130 : decode cX12_worthAt 130 = .ok (.invokestatic 279, 3) := by decide +kernel
theorem dX12_worthAt_133 : decode cX12_worthAt 133 = .ok (.iastore, 1) := by decide +kernel
theorem dX12_worthAt_134 : decode cX12_worthAt 134 = .ok (.iinc 3 1, 3) := by decide +kernel
theorem dX12_worthAt_137 : decode cX12_worthAt 137 = .ok (.goto (-133), 3) := by decide +kernel
theorem dX12_worthAt_140 : decode cX12_worthAt 140 = .ok (.aload_n 0, 1) := by decide +kernel
theorem dX12_worthAt_141 : decode cX12_worthAt 141 = .ok (.getfield 116, 3) := by decide +kernel
theorem dX12_worthAt_144 : decode cX12_worthAt 144 = .ok (.iconst 0, 1) := by decide +kernel
theorem dX12_worthAt_145 : decode cX12_worthAt 145 = .ok (.iaload, 1) := by decide +kernel
theorem dX12_worthAt_146 : decode cX12_worthAt 146 = .ok (.ireturn, 1) := by decide +kernel
theorem dX12_both_0 : decode cX12_both 0 = .ok (.iload_n 0, 1) := by decide +kernel
theorem dX12_both_1 : decode cX12_both 1 = .ok (.tableswitch 87 4 9 #[39, 43, 47, 51, 62, 73], 39) := by decide +kernel
theorem dX12_both_40 : decode cX12_both 40 = .ok (.iload_n 1, 1) := by decide +kernel
theorem dX12_both_41 : decode cX12_both 41 = .ok (.iload_n 2, 1) := by decide +kernel
theorem dX12_both_42 : decode cX12_both 42 = .ok (.iadd, 1) := by decide +kernel
theorem dX12_both_43 : decode cX12_both 43 = .ok (.ireturn, 1) := by decide +kernel
theorem dX12_both_44 : decode cX12_both 44 = .ok (.iload_n 1, 1) := by decide +kernel
theorem dX12_both_45 : decode cX12_both 45 = .ok (.iload_n 2, 1) := by decide +kernel
theorem dX12_both_46 : decode cX12_both 46 = .ok (.isub, 1) := by decide +kernel
theorem dX12_both_47 : decode cX12_both 47 = .ok (.ireturn, 1) := by decide +kernel
theorem dX12_both_48 : decode cX12_both 48 = .ok (.iload_n 1, 1) := by decide +kernel
theorem dX12_both_49 : decode cX12_both 49 = .ok (.iload_n 2, 1) := by decide +kernel
theorem dX12_both_50 : decode cX12_both 50 = .ok (.imul, 1) := by decide +kernel
theorem dX12_both_51 : decode cX12_both 51 = .ok (.ireturn, 1) := by decide +kernel
theorem dX12_both_52 : decode cX12_both 52 = .ok (.iload_n 1, 1) := by decide +kernel
theorem dX12_both_53 : decode cX12_both 53 = .ok (.iload_n 2, 1) := by decide +kernel
theorem dX12_both_54 : decode cX12_both 54 = .ok (.if_icmp .ge 7, 3) := by decide +kernel
theorem dX12_both_57 : decode cX12_both 57 = .ok (.iconst 1, 1) := by decide +kernel
theorem dX12_both_58 : decode cX12_both 58 = .ok (.goto 4, 3) := by decide +kernel
theorem dX12_both_61 : decode cX12_both 61 = .ok (.iconst 0, 1) := by decide +kernel
theorem dX12_both_62 : decode cX12_both 62 = .ok (.ireturn, 1) := by decide +kernel
theorem dX12_both_63 : decode cX12_both 63 = .ok (.iload_n 1, 1) := by decide +kernel
theorem dX12_both_64 : decode cX12_both 64 = .ok (.iload_n 2, 1) := by decide +kernel
theorem dX12_both_65 : decode cX12_both 65 = .ok (.if_icmp .ne 7, 3) := by decide +kernel
theorem dX12_both_68 : decode cX12_both 68 = .ok (.iconst 1, 1) := by decide +kernel
theorem dX12_both_69 : decode cX12_both 69 = .ok (.goto 4, 3) := by decide +kernel
theorem dX12_both_72 : decode cX12_both 72 = .ok (.iconst 0, 1) := by decide +kernel
theorem dX12_both_73 : decode cX12_both 73 = .ok (.ireturn, 1) := by decide +kernel
theorem dX12_both_74 : decode cX12_both 74 = .ok (.iload_n 1, 1) := by decide +kernel
theorem dX12_both_75 : decode cX12_both 75 = .ok (.ifCond .eq 11, 3) := by decide +kernel
theorem dX12_both_78 : decode cX12_both 78 = .ok (.iload_n 2, 1) := by decide +kernel
theorem dX12_both_79 : decode cX12_both 79 = .ok (.ifCond .eq 7, 3) := by decide +kernel
theorem dX12_both_82 : decode cX12_both 82 = .ok (.iconst 1, 1) := by decide +kernel
theorem dX12_both_83 : decode cX12_both 83 = .ok (.goto 4, 3) := by decide +kernel
theorem dX12_both_86 : decode cX12_both 86 = .ok (.iconst 0, 1) := by decide +kernel
theorem dX12_both_87 : decode cX12_both 87 = .ok (.ireturn, 1) := by decide +kernel
theorem dX12_both_88 : decode cX12_both 88 = .ok (.iload_n 1, 1) := by decide +kernel
theorem dX12_both_89 : decode cX12_both 89 = .ok (.ifCond .ne 7, 3) := by decide +kernel
theorem dX12_both_92 : decode cX12_both 92 = .ok (.iload_n 2, 1) := by decide +kernel
theorem dX12_both_93 : decode cX12_both 93 = .ok (.ifCond .eq 7, 3) := by decide +kernel
theorem dX12_both_96 : decode cX12_both 96 = .ok (.iconst 1, 1) := by decide +kernel
theorem dX12_both_97 : decode cX12_both 97 = .ok (.goto 4, 3) := by decide +kernel
theorem dX12_both_100 : decode cX12_both 100 = .ok (.iconst 0, 1) := by decide +kernel
theorem dX12_both_101 : decode cX12_both 101 = .ok (.ireturn, 1) := by decide +kernel
theorem dX12_copies_0 : decode cX12_copies 0 = .ok (.iconst 0, 1) := by decide +kernel
theorem dX12_copies_1 : decode cX12_copies 1 = .ok (.istore 4, 2) := by decide +kernel
theorem dX12_copies_3 : decode cX12_copies 3 = .ok (.iload 4, 2) := by decide +kernel
theorem dX12_copies_5 : decode cX12_copies 5 = .ok (.iload_n 3, 1) := by decide +kernel
theorem dX12_copies_6 : decode cX12_copies 6 = .ok (.if_icmp .ge 27, 3) := by decide +kernel
theorem dX12_copies_9 : decode cX12_copies 9 = .ok (.aload_n 0, 1) := by decide +kernel
theorem dX12_copies_10 : decode cX12_copies 10 = .ok (.getfield 119, 3) := by decide +kernel
theorem dX12_copies_13 : decode cX12_copies 13 = .ok (.iload_n 2, 1) := by decide +kernel
theorem dX12_copies_14 : decode cX12_copies 14 = .ok (.iload 4, 2) := by decide +kernel
theorem dX12_copies_16 : decode cX12_copies 16 = .ok (.iadd, 1) := by decide +kernel
theorem dX12_copies_17 : decode cX12_copies 17 = .ok (.aload_n 0, 1) := by decide +kernel
theorem dX12_copies_18 : decode cX12_copies 18 = .ok (.getfield 119, 3) := by decide +kernel
theorem dX12_copies_21 : decode cX12_copies 21 = .ok (.iload_n 1, 1) := by decide +kernel
theorem dX12_copies_22 : decode cX12_copies 22 = .ok (.iload 4, 2) := by decide +kernel
theorem dX12_copies_24 : decode cX12_copies 24 = .ok (.iadd, 1) := by decide +kernel
theorem dX12_copies_25 : decode cX12_copies 25 = .ok (.iaload, 1) := by decide +kernel
theorem dX12_copies_26 : decode cX12_copies 26 = .ok (.iastore, 1) := by decide +kernel
theorem dX12_copies_27 : decode cX12_copies 27 = .ok (.iinc 4 1, 3) := by decide +kernel
theorem dX12_copies_30 : decode cX12_copies 30 = .ok (.goto (-27), 3) := by decide +kernel
theorem dX12_copies_33 : decode cX12_copies 33 = .ok (.return_, 1) := by decide +kernel
theorem dX12_starts_0 : decode cX12_starts 0 = .ok (.iconst 0, 1) := by decide +kernel
theorem dX12_starts_1 : decode cX12_starts 1 = .ok (.istore_n 2, 1) := by decide +kernel
theorem dX12_starts_2 : decode cX12_starts 2 = .ok (.iload_n 2, 1) := by decide +kernel
theorem dX12_starts_3 : decode cX12_starts 3 = .ok (.bipush 62, 2) := by decide +kernel
theorem dX12_starts_5 : decode cX12_starts 5 = .ok (.if_icmp .ge 34, 3) := by decide +kernel
theorem dX12_starts_8 : decode cX12_starts 8 = .ok (.aload_n 0, 1) := by decide +kernel
theorem dX12_starts_9 : decode cX12_starts 9 = .ok (.getfield 119, 3) := by decide +kernel
theorem dX12_starts_12 : decode cX12_starts 12 = .ok (.iload_n 1, 1) := by decide +kernel
theorem dX12_starts_13 : decode cX12_starts 13 = .ok (.iload_n 2, 1) := by decide +kernel
theorem dX12_starts_14 : decode cX12_starts 14 = .ok (.iadd, 1) := by decide +kernel
theorem dX12_starts_15 : decode cX12_starts 15 = .ok (.iload_n 2, 1) := by decide +kernel
theorem dX12_starts_16 : decode cX12_starts 16 = .ok (.bipush 20, 2) := by decide +kernel
theorem dX12_starts_18 : decode cX12_starts 18 = .ok (.if_icmp .lt 13, 3) := by decide +kernel
theorem dX12_starts_21 : decode cX12_starts 21 = .ok (.iload_n 2, 1) := by decide +kernel
theorem dX12_starts_22 : decode cX12_starts 22 = .ok (.bipush 56, 2) := by decide +kernel
theorem dX12_starts_24 : decode cX12_starts 24 = .ok (.if_icmp .ge 7, 3) := by decide +kernel
theorem dX12_starts_27 : decode cX12_starts 27 = .ok (.iconst (-1), 1) := by decide +kernel
theorem dX12_starts_28 : decode cX12_starts 28 = .ok (.goto 4, 3) := by decide +kernel
theorem dX12_starts_31 : decode cX12_starts 31 = .ok (.iconst 0, 1) := by decide +kernel
theorem dX12_starts_32 : decode cX12_starts 32 = .ok (.iastore, 1) := by decide +kernel
theorem dX12_starts_33 : decode cX12_starts 33 = .ok (.iinc 2 1, 3) := by decide +kernel
theorem dX12_starts_36 : decode cX12_starts 36 = .ok (.goto (-34), 3) := by decide +kernel
theorem dX12_starts_39 : decode cX12_starts 39 = .ok (.aload_n 0, 1) := by decide +kernel
theorem dX12_starts_40 : decode cX12_starts 40 = .ok (.getfield 119, 3) := by decide +kernel
theorem dX12_starts_43 : decode cX12_starts 43 = .ok (.iload_n 1, 1) := by decide +kernel
theorem dX12_starts_44 : decode cX12_starts 44 = .ok (.iconst 2, 1) := by decide +kernel
theorem dX12_starts_45 : decode cX12_starts 45 = .ok (.iadd, 1) := by decide +kernel
theorem dX12_starts_46 : decode cX12_starts 46 = .ok (.iconst 1, 1) := by decide +kernel
theorem dX12_starts_47 : decode cX12_starts 47 = .ok (.aload_n 0, 1) := by decide +kernel
theorem dX12_starts_48 : decode cX12_starts 48 = .ok (.invokevirtual 282, 3) := by decide +kernel
theorem dX12_starts_51 : decode cX12_starts 51 = .ok (.ishl, 1) := by decide +kernel
theorem dX12_starts_52 : decode cX12_starts 52 = .ok (.iconst 1, 1) := by decide +kernel
theorem dX12_starts_53 : decode cX12_starts 53 = .ok (.isub, 1) := by decide +kernel
theorem dX12_starts_54 : decode cX12_starts 54 = .ok (.iastore, 1) := by decide +kernel
theorem dX12_starts_55 : decode cX12_starts 55 = .ok (.iconst 0, 1) := by decide +kernel
theorem dX12_starts_56 : decode cX12_starts 56 = .ok (.istore_n 2, 1) := by decide +kernel
theorem dX12_starts_57 : decode cX12_starts 57 = .ok (.iload_n 2, 1) := by decide +kernel
theorem dX12_starts_58 : decode cX12_starts 58 = .ok (.aload_n 0, 1) := by decide +kernel
theorem dX12_starts_59 : decode cX12_starts 59 = .ok (.invokevirtual 285, 3) := by decide +kernel
theorem dX12_starts_62 : decode cX12_starts 62 = .ok (.if_icmp .ge 54, 3) := by decide +kernel
theorem dX12_starts_65 : decode cX12_starts 65 = .ok (.aload_n 0, 1) := by decide +kernel
theorem dX12_starts_66 : decode cX12_starts 66 = .ok (.getfield 119, 3) := by decide +kernel
theorem dX12_starts_69 : decode cX12_starts 69 = .ok (.iload_n 1, 1) := by decide +kernel
theorem dX12_starts_70 : decode cX12_starts 70 = .ok (.iconst 4, 1) := by decide +kernel
theorem dX12_starts_71 : decode cX12_starts 71 = .ok (.iadd, 1) := by decide +kernel
theorem dX12_starts_72 : decode cX12_starts 72 = .ok (.iload_n 2, 1) := by decide +kernel
theorem dX12_starts_73 : decode cX12_starts 73 = .ok (.iadd, 1) := by decide +kernel
theorem dX12_starts_74 : decode cX12_starts 74 = .ok (.aload_n 0, 1) := by decide +kernel
theorem dX12_starts_75 : decode cX12_starts 75 = .ok (.getfield 89, 3) := by decide +kernel
theorem dX12_starts_78 : decode cX12_starts 78 = .ok (.iconst 5, 1) := by decide +kernel
theorem dX12_starts_79 : decode cX12_starts 79 = .ok (.iconst 4, 1) := by decide +kernel
theorem dX12_starts_80 : decode cX12_starts 80 = .ok (.iload_n 2, 1) := by decide +kernel
theorem dX12_starts_81 : decode cX12_starts 81 = .ok (.imul, 1) := by decide +kernel
theorem dX12_starts_82 : decode cX12_starts 82 = .ok (.iadd, 1) := by decide +kernel
theorem dX12_starts_83 : decode cX12_starts 83 = .ok (.iconst 2, 1) := by decide +kernel
theorem dX12_starts_84 : decode cX12_starts 84 = .ok (.iadd, 1) := by decide +kernel
theorem dX12_starts_85 : decode cX12_starts 85 = .ok (.iaload, 1) := by decide +kernel
theorem dX12_starts_86 : decode cX12_starts 86 = .ok (.iastore, 1) := by decide +kernel
theorem dX12_starts_87 : decode cX12_starts 87 = .ok (.aload_n 0, 1) := by decide +kernel
theorem dX12_starts_88 : decode cX12_starts 88 = .ok (.getfield 119, 3) := by decide +kernel
theorem dX12_starts_91 : decode cX12_starts 91 = .ok (.iload_n 1, 1) := by decide +kernel
theorem dX12_starts_92 : decode cX12_starts 92 = .ok (.bipush 12, 2) := by decide +kernel
theorem dX12_starts_94 : decode cX12_starts 94 = .ok (.iadd, 1) := by decide +kernel
theorem dX12_starts_95 : decode cX12_starts 95 = .ok (.iload_n 2, 1) := by decide +kernel
theorem dX12_starts_96 : decode cX12_starts 96 = .ok (.iadd, 1) := by decide +kernel
theorem dX12_starts_97 : decode cX12_starts 97 = .ok (.aload_n 0, 1) := by decide +kernel
theorem dX12_starts_98 : decode cX12_starts 98 = .ok (.getfield 89, 3) := by decide +kernel
theorem dX12_starts_101 : decode cX12_starts 101 = .ok (.iconst 5, 1) := by decide +kernel
theorem dX12_starts_102 : decode cX12_starts 102 = .ok (.iconst 4, 1) := by decide +kernel
theorem dX12_starts_103 : decode cX12_starts 103 = .ok (.iload_n 2, 1) := by decide +kernel
theorem dX12_starts_104 : decode cX12_starts 104 = .ok (.imul, 1) := by decide +kernel
theorem dX12_starts_105 : decode cX12_starts 105 = .ok (.iadd, 1) := by decide +kernel
theorem dX12_starts_106 : decode cX12_starts 106 = .ok (.iconst 3, 1) := by decide +kernel
theorem dX12_starts_107 : decode cX12_starts 107 = .ok (.iadd, 1) := by decide +kernel
theorem dX12_starts_108 : decode cX12_starts 108 = .ok (.iaload, 1) := by decide +kernel
theorem dX12_starts_109 : decode cX12_starts 109 = .ok (.iastore, 1) := by decide +kernel
theorem dX12_starts_110 : decode cX12_starts 110 = .ok (.iinc 2 1, 3) := by decide +kernel
theorem dX12_starts_113 : decode cX12_starts 113 = .ok (.goto (-56), 3) := by decide +kernel
theorem dX12_starts_116 : decode cX12_starts 116 = .ok (.return_, 1) := by decide +kernel
theorem dX12_begins_0 : decode cX12_begins 0 = .ok (.aload_n 0, 1) := by decide +kernel
theorem dX12_begins_1 : decode cX12_begins 1 = .ok (.iconst 0, 1) := by decide +kernel
theorem dX12_begins_2 : decode cX12_begins 2 = .ok (.invokevirtual 288, 3) := by decide +kernel
theorem dX12_begins_5 : decode cX12_begins 5 = .ok (.iconst 0, 1) := by decide +kernel
theorem dX12_begins_6 : decode cX12_begins 6 = .ok (.istore_n 1, 1) := by decide +kernel
theorem dX12_begins_7 : decode cX12_begins 7 = .ok (.iload_n 1, 1) := by decide +kernel
theorem dX12_begins_8 : decode cX12_begins 8 = .ok (.bipush 36, 2) := by decide +kernel
theorem dX12_begins_10 : decode cX12_begins 10 = .ok (.if_icmp .ge 20, 3) := by decide +kernel
theorem dX12_begins_13 : decode cX12_begins 13 = .ok (.aload_n 0, 1) := by decide +kernel
theorem dX12_begins_14 : decode cX12_begins 14 = .ok (.getfield 119, 3) := by decide +kernel
theorem dX12_begins_17 : decode cX12_begins 17 = .ok (.bipush 62, 2) := by decide +kernel
theorem dX12_begins_19 : decode cX12_begins 19 = .ok (.iload_n 1, 1) := by decide +kernel
theorem dX12_begins_20 : decode cX12_begins 20 = .ok (.iadd, 1) := by decide +kernel
theorem dX12_begins_21 : decode cX12_begins 21 = .ok (.bipush (-2), 2) := by decide +kernel
theorem dX12_begins_23 : decode cX12_begins 23 = .ok (.iastore, 1) := by decide +kernel
theorem dX12_begins_24 : decode cX12_begins 24 = .ok (.iinc 1 1, 3) := by decide +kernel
theorem dX12_begins_27 : decode cX12_begins 27 = .ok (.goto (-20), 3) := by decide +kernel
theorem dX12_begins_30 : decode cX12_begins 30 = .ok (.aload_n 0, 1) := by decide +kernel
theorem dX12_begins_31 : decode cX12_begins 31 = .ok (.getfield 110, 3) := by decide +kernel
theorem dX12_begins_34 : decode cX12_begins 34 = .ok (.iconst 0, 1) := by decide +kernel
theorem dX12_begins_35 : decode cX12_begins 35 = .ok (.iconst 0, 1) := by decide +kernel
theorem dX12_begins_36 : decode cX12_begins 36 = .ok (.iastore, 1) := by decide +kernel
theorem dX12_begins_37 : decode cX12_begins 37 = .ok (.aload_n 0, 1) := by decide +kernel
theorem dX12_begins_38 : decode cX12_begins 38 = .ok (.iconst 0, 1) := by decide +kernel
theorem dX12_begins_39 : decode cX12_begins 39 = .ok (.putfield 291, 3) := by decide +kernel
theorem dX12_begins_42 : decode cX12_begins 42 = .ok (.iconst 0, 1) := by decide +kernel
theorem dX12_begins_43 : decode cX12_begins 43 = .ok (.istore_n 1, 1) := by decide +kernel
theorem dX12_begins_44 : decode cX12_begins 44 = .ok (.iload_n 1, 1) := by decide +kernel
theorem dX12_begins_45 : decode cX12_begins 45 = .ok (.iconst 4, 1) := by decide +kernel
theorem dX12_begins_46 : decode cX12_begins 46 = .ok (.if_icmp .ge 16, 3) := by decide +kernel
theorem dX12_begins_49 : decode cX12_begins 49 = .ok (.aload_n 0, 1) := by decide +kernel
theorem dX12_begins_50 : decode cX12_begins 50 = .ok (.getfield 122, 3) := by decide +kernel
theorem dX12_begins_53 : decode cX12_begins 53 = .ok (.iload_n 1, 1) := by decide +kernel
theorem dX12_begins_54 : decode cX12_begins 54 = .ok (.iconst 0, 1) := by decide +kernel
theorem dX12_begins_55 : decode cX12_begins 55 = .ok (.bastore, 1) := by decide +kernel
theorem dX12_begins_56 : decode cX12_begins 56 = .ok (.iinc 1 1, 3) := by decide +kernel
theorem dX12_begins_59 : decode cX12_begins 59 = .ok (.goto (-15), 3) := by decide +kernel
theorem dX12_begins_62 : decode cX12_begins 62 = .ok (.return_, 1) := by decide +kernel
theorem dX12_keeps_0 : decode cX12_keeps 0 = .ok (.aload_n 0, 1) := by decide +kernel
theorem dX12_keeps_1 : decode cX12_keeps 1 = .ok (.getfield 291, 3) := by decide +kernel
theorem dX12_keeps_4 : decode cX12_keeps 4 = .ok (.bipush 16, 2) := by decide +kernel
theorem dX12_keeps_6 : decode cX12_keeps 6 = .ok (.if_icmp .ne 47, 3) := by decide +kernel
theorem dX12_keeps_9 : decode cX12_keeps 9 = .ok (.iconst 1, 1) := by decide +kernel
theorem dX12_keeps_10 : decode cX12_keeps 10 = .ok (.istore_n 1, 1) := by decide +kernel
theorem dX12_keeps_11 : decode cX12_keeps 11 = .ok (.iload_n 1, 1) := by decide +kernel
theorem dX12_keeps_12 : decode cX12_keeps 12 = .ok (.bipush 16, 2) := by decide +kernel
theorem dX12_keeps_14 : decode cX12_keeps 14 = .ok (.if_icmp .ge 29, 3) := by decide +kernel
theorem dX12_keeps_17 : decode cX12_keeps 17 = .ok (.aload_n 0, 1) := by decide +kernel
theorem dX12_keeps_18 : decode cX12_keeps 18 = .ok (.bipush 98, 2) := by decide +kernel
theorem dX12_keeps_20 : decode cX12_keeps 20 = .ok (.iconst 5, 1) := by decide +kernel
theorem dX12_keeps_21 : decode cX12_keeps 21 = .ok (.iload_n 1, 1) := by decide +kernel
theorem dX12_keeps_22 : decode cX12_keeps 22 = .ok (.iadd, 1) := by decide +kernel
theorem dX12_keeps_23 : decode cX12_keeps 23 = .ok (.imul, 1) := by decide +kernel
theorem dX12_keeps_24 : decode cX12_keeps 24 = .ok (.bipush 98, 2) := by decide +kernel
theorem dX12_keeps_26 : decode cX12_keeps 26 = .ok (.iconst 5, 1) := by decide +kernel
theorem dX12_keeps_27 : decode cX12_keeps 27 = .ok (.iload_n 1, 1) := by decide +kernel
theorem dX12_keeps_28 : decode cX12_keeps 28 = .ok (.iadd, 1) := by decide +kernel
theorem dX12_keeps_29 : decode cX12_keeps 29 = .ok (.iconst 1, 1) := by decide +kernel
theorem dX12_keeps_30 : decode cX12_keeps 30 = .ok (.isub, 1) := by decide +kernel
theorem dX12_keeps_31 : decode cX12_keeps 31 = .ok (.imul, 1) := by decide +kernel
theorem dX12_keeps_32 : decode cX12_keeps 32 = .ok (.bipush 62, 2) := by decide +kernel
theorem dX12_keeps_34 : decode cX12_keeps 34 = .ok (.invokevirtual 294, 3) := by decide +kernel
theorem dX12_keeps_37 : decode cX12_keeps 37 = .ok (.iinc 1 1, 3) := by decide +kernel
theorem dX12_keeps_40 : decode cX12_keeps 40 = .ok (.goto (-29), 3) := by decide +kernel
theorem dX12_keeps_43 : decode cX12_keeps 43 = .ok (.aload_n 0, 1) := by decide +kernel
theorem dX12_keeps_44 : decode cX12_keeps 44 = .ok (.dup, 1) := by decide +kernel
theorem dX12_keeps_45 : decode cX12_keeps 45 = .ok (.getfield 291, 3) := by decide +kernel
theorem dX12_keeps_48 : decode cX12_keeps 48 = .ok (.iconst 1, 1) := by decide +kernel
theorem dX12_keeps_49 : decode cX12_keeps 49 = .ok (.isub, 1) := by decide +kernel
theorem dX12_keeps_50 : decode cX12_keeps 50 = .ok (.putfield 291, 3) := by decide +kernel
theorem dX12_keeps_53 : decode cX12_keeps 53 = .ok (.aload_n 0, 1) := by decide +kernel
theorem dX12_keeps_54 : decode cX12_keeps 54 = .ok (.iconst 0, 1) := by decide +kernel
theorem dX12_keeps_55 : decode cX12_keeps 55 = .ok (.bipush 98, 2) := by decide +kernel
theorem dX12_keeps_57 : decode cX12_keeps 57 = .ok (.iconst 5, 1) := by decide +kernel
theorem dX12_keeps_58 : decode cX12_keeps 58 = .ok (.aload_n 0, 1) := by decide +kernel
theorem dX12_keeps_59 : decode cX12_keeps 59 = .ok (.getfield 291, 3) := by decide +kernel
theorem dX12_keeps_62 : decode cX12_keeps 62 = .ok (.iadd, 1) := by decide +kernel
theorem dX12_keeps_63 : decode cX12_keeps 63 = .ok (.imul, 1) := by decide +kernel
theorem dX12_keeps_64 : decode cX12_keeps 64 = .ok (.bipush 62, 2) := by decide +kernel
theorem dX12_keeps_66 : decode cX12_keeps 66 = .ok (.invokevirtual 294, 3) := by decide +kernel
theorem dX12_keeps_69 : decode cX12_keeps 69 = .ok (.aload_n 0, 1) := by decide +kernel
theorem dX12_keeps_70 : decode cX12_keeps 70 = .ok (.dup, 1) := by decide +kernel
theorem dX12_keeps_71 : decode cX12_keeps 71 = .ok (.getfield 291, 3) := by decide +kernel
theorem dX12_keeps_74 : decode cX12_keeps 74 = .ok (.iconst 1, 1) := by decide +kernel
theorem dX12_keeps_75 : decode cX12_keeps 75 = .ok (.iadd, 1) := by decide +kernel
theorem dX12_keeps_76 : decode cX12_keeps 76 = .ok (.putfield 291, 3) := by decide +kernel
theorem dX12_keeps_79 : decode cX12_keeps 79 = .ok (.return_, 1) := by decide +kernel
theorem dX12_things_0 : decode cX12_things 0 = .ok (.aload_n 0, 1) := by decide +kernel
theorem dX12_things_1 : decode cX12_things 1 = .ok (.getfield 89, 3) := by decide +kernel
theorem dX12_things_4 : decode cX12_things 4 = .ok (.iconst 0, 1) := by decide +kernel
theorem dX12_things_5 : decode cX12_things 5 = .ok (.iaload, 1) := by decide +kernel
theorem dX12_things_6 : decode cX12_things 6 = .ok (.ireturn, 1) := by decide +kernel
theorem dX12_scenes_0 : decode cX12_scenes 0 = .ok (.aload_n 0, 1) := by decide +kernel
theorem dX12_scenes_1 : decode cX12_scenes 1 = .ok (.getfield 89, 3) := by decide +kernel
theorem dX12_scenes_4 : decode cX12_scenes 4 = .ok (.iconst 1, 1) := by decide +kernel
theorem dX12_scenes_5 : decode cX12_scenes 5 = .ok (.iaload, 1) := by decide +kernel
theorem dX12_scenes_6 : decode cX12_scenes 6 = .ok (.ireturn, 1) := by decide +kernel
theorem dX12_watchers_0 : decode cX12_watchers 0 = .ok (.aload_n 0, 1) := by decide +kernel
theorem dX12_watchers_1 : decode cX12_watchers 1 = .ok (.getfield 89, 3) := by decide +kernel
theorem dX12_watchers_4 : decode cX12_watchers 4 = .ok (.iconst 2, 1) := by decide +kernel
theorem dX12_watchers_5 : decode cX12_watchers 5 = .ok (.iaload, 1) := by decide +kernel
theorem dX12_watchers_6 : decode cX12_watchers 6 = .ok (.ireturn, 1) := by decide +kernel
theorem dX12_watcherOf_0 : decode cX12_watcherOf 0 = .ok (.aload_n 0, 1) := by decide +kernel
theorem dX12_watcherOf_1 : decode cX12_watcherOf 1 = .ok (.getfield 89, 3) := by decide +kernel
theorem dX12_watcherOf_4 : decode cX12_watcherOf 4 = .ok (.bipush 37, 2) := by decide +kernel
theorem dX12_watcherOf_6 : decode cX12_watcherOf 6 = .ok (.iconst 3, 1) := by decide +kernel
theorem dX12_watcherOf_7 : decode cX12_watcherOf 7 = .ok (.iload_n 1, 1) := by decide +kernel
theorem dX12_watcherOf_8 : decode cX12_watcherOf 8 = .ok (.imul, 1) := by decide +kernel
theorem dX12_watcherOf_9 : decode cX12_watcherOf 9 = .ok (.iadd, 1) := by decide +kernel
theorem dX12_watcherOf_10 : decode cX12_watcherOf 10 = .ok (.iload_n 2, 1) := by decide +kernel
theorem dX12_watcherOf_11 : decode cX12_watcherOf 11 = .ok (.iadd, 1) := by decide +kernel
theorem dX12_watcherOf_12 : decode cX12_watcherOf 12 = .ok (.iaload, 1) := by decide +kernel
theorem dX12_watcherOf_13 : decode cX12_watcherOf 13 = .ok (.ireturn, 1) := by decide +kernel
theorem dX12_isThing_0 : decode cX12_isThing 0 = .ok (.iload_n 1, 1) := by decide +kernel
theorem dX12_isThing_1 : decode cX12_isThing 1 = .ok (.ifCond .lt 15, 3) := by decide +kernel
theorem dX12_isThing_4 : decode cX12_isThing 4 = .ok (.iload_n 1, 1) := by decide +kernel
theorem dX12_isThing_5 : decode cX12_isThing 5 = .ok (.aload_n 0, 1) := by decide +kernel
theorem dX12_isThing_6 : decode cX12_isThing 6 = .ok (.invokevirtual 297, 3) := by decide +kernel
theorem dX12_isThing_9 : decode cX12_isThing 9 = .ok (.if_icmp .ge 7, 3) := by decide +kernel
theorem dX12_isThing_12 : decode cX12_isThing 12 = .ok (.iconst 1, 1) := by decide +kernel
theorem dX12_isThing_13 : decode cX12_isThing 13 = .ok (.goto 4, 3) := by decide +kernel
theorem dX12_isThing_16 : decode cX12_isThing 16 = .ok (.iconst 0, 1) := by decide +kernel
theorem dX12_isThing_17 : decode cX12_isThing 17 = .ok (.ireturn, 1) := by decide +kernel
theorem dX12_isScene_0 : decode cX12_isScene 0 = .ok (.iload_n 1, 1) := by decide +kernel
theorem dX12_isScene_1 : decode cX12_isScene 1 = .ok (.ifCond .lt 15, 3) := by decide +kernel
theorem dX12_isScene_4 : decode cX12_isScene 4 = .ok (.iload_n 1, 1) := by decide +kernel
theorem dX12_isScene_5 : decode cX12_isScene 5 = .ok (.aload_n 0, 1) := by decide +kernel
theorem dX12_isScene_6 : decode cX12_isScene 6 = .ok (.invokevirtual 285, 3) := by decide +kernel
theorem dX12_isScene_9 : decode cX12_isScene 9 = .ok (.if_icmp .ge 7, 3) := by decide +kernel
theorem dX12_isScene_12 : decode cX12_isScene 12 = .ok (.iconst 1, 1) := by decide +kernel
theorem dX12_isScene_13 : decode cX12_isScene 13 = .ok (.goto 4, 3) := by decide +kernel
theorem dX12_isScene_16 : decode cX12_isScene 16 = .ok (.iconst 0, 1) := by decide +kernel
theorem dX12_isScene_17 : decode cX12_isScene 17 = .ok (.ireturn, 1) := by decide +kernel
theorem dX12_isWatcher_0 : decode cX12_isWatcher 0 = .ok (.iload_n 1, 1) := by decide +kernel
theorem dX12_isWatcher_1 : decode cX12_isWatcher 1 = .ok (.ifCond .lt 15, 3) := by decide +kernel
theorem dX12_isWatcher_4 : decode cX12_isWatcher 4 = .ok (.iload_n 1, 1) := by decide +kernel
theorem dX12_isWatcher_5 : decode cX12_isWatcher 5 = .ok (.aload_n 0, 1) := by decide +kernel
theorem dX12_isWatcher_6 : decode cX12_isWatcher 6 = .ok (.invokevirtual 282, 3) := by decide +kernel
theorem dX12_isWatcher_9 : decode cX12_isWatcher 9 = .ok (.if_icmp .ge 7, 3) := by decide +kernel
theorem dX12_isWatcher_12 : decode cX12_isWatcher 12 = .ok (.iconst 1, 1) := by decide +kernel
theorem dX12_isWatcher_13 : decode cX12_isWatcher 13 = .ok (.goto 4, 3) := by decide +kernel
theorem dX12_isWatcher_16 : decode cX12_isWatcher 16 = .ok (.iconst 0, 1) := by decide +kernel
theorem dX12_isWatcher_17 : decode cX12_isWatcher 17 = .ok (.ireturn, 1) := by decide +kernel
theorem dX12_isIn_0 : decode cX12_isIn 0 = .ok (.aload_n 0, 1) := by decide +kernel
theorem dX12_isIn_1 : decode cX12_isIn 1 = .ok (.getfield 119, 3) := by decide +kernel
theorem dX12_isIn_4 : decode cX12_isIn 4 = .ok (.iload_n 1, 1) := by decide +kernel
theorem dX12_isIn_5 : decode cX12_isIn 5 = .ok (.iconst 2, 1) := by decide +kernel
theorem dX12_isIn_6 : decode cX12_isIn 6 = .ok (.iadd, 1) := by decide +kernel
theorem dX12_isIn_7 : decode cX12_isIn 7 = .ok (.iaload, 1) := by decide +kernel
theorem dX12_isIn_8 : decode cX12_isIn 8 = .ok (.iload_n 2, 1) := by decide +kernel
theorem dX12_isIn_9 : decode cX12_isIn 9 = .ok (.ishr, 1) := by decide +kernel
theorem dX12_isIn_10 : decode cX12_isIn 10 = .ok (.iconst 1, 1) := by decide +kernel
theorem dX12_isIn_11 : decode cX12_isIn 11 = .ok (.iand, 1) := by decide +kernel
theorem dX12_isIn_12 : decode cX12_isIn 12 = .ok (.iconst 1, 1) := by decide +kernel
theorem dX12_isIn_13 : decode cX12_isIn 13 = .ok (.if_icmp .ne 7, 3) := by decide +kernel
theorem dX12_isIn_16 : decode cX12_isIn 16 = .ok (.iconst 1, 1) := by decide +kernel
theorem dX12_isIn_17 : decode cX12_isIn 17 = .ok (.goto 4, 3) := by decide +kernel
theorem dX12_isIn_20 : decode cX12_isIn 20 = .ok (.iconst 0, 1) := by decide +kernel
theorem dX12_isIn_21 : decode cX12_isIn 21 = .ok (.ireturn, 1) := by decide +kernel
theorem dX12_isCut_0 : decode cX12_isCut 0 = .ok (.aload_n 0, 1) := by decide +kernel
theorem dX12_isCut_1 : decode cX12_isCut 1 = .ok (.getfield 119, 3) := by decide +kernel
theorem dX12_isCut_4 : decode cX12_isCut 4 = .ok (.iload_n 1, 1) := by decide +kernel
theorem dX12_isCut_5 : decode cX12_isCut 5 = .ok (.iconst 3, 1) := by decide +kernel
theorem dX12_isCut_6 : decode cX12_isCut 6 = .ok (.iadd, 1) := by decide +kernel
theorem dX12_isCut_7 : decode cX12_isCut 7 = .ok (.iaload, 1) := by decide +kernel
theorem dX12_isCut_8 : decode cX12_isCut 8 = .ok (.iload_n 2, 1) := by decide +kernel
theorem dX12_isCut_9 : decode cX12_isCut 9 = .ok (.ishr, 1) := by decide +kernel
theorem dX12_isCut_10 : decode cX12_isCut 10 = .ok (.iconst 1, 1) := by decide +kernel
theorem dX12_isCut_11 : decode cX12_isCut 11 = .ok (.iand, 1) := by decide +kernel
theorem dX12_isCut_12 : decode cX12_isCut 12 = .ok (.iconst 1, 1) := by decide +kernel
theorem dX12_isCut_13 : decode cX12_isCut 13 = .ok (.if_icmp .ne 7, 3) := by decide +kernel
theorem dX12_isCut_16 : decode cX12_isCut 16 = .ok (.iconst 1, 1) := by decide +kernel
theorem dX12_isCut_17 : decode cX12_isCut 17 = .ok (.goto 4, 3) := by decide +kernel
theorem dX12_isCut_20 : decode cX12_isCut 20 = .ok (.iconst 0, 1) := by decide +kernel
theorem dX12_isCut_21 : decode cX12_isCut 21 = .ok (.ireturn, 1) := by decide +kernel
theorem dX12_thoughtOf_0 : decode cX12_thoughtOf 0 = .ok (.aload_n 0, 1) := by decide +kernel
theorem dX12_thoughtOf_1 : decode cX12_thoughtOf 1 = .ok (.getfield 119, 3) := by decide +kernel
theorem dX12_thoughtOf_4 : decode cX12_thoughtOf 4 = .ok (.iload_n 1, 1) := by decide +kernel
theorem dX12_thoughtOf_5 : decode cX12_thoughtOf 5 = .ok (.bipush 20, 2) := by decide +kernel
theorem dX12_thoughtOf_7 : decode cX12_thoughtOf 7 = .ok (.iadd, 1) := by decide +kernel
theorem dX12_thoughtOf_8 : decode cX12_thoughtOf 8 = .ok (.bipush 6, 2) := by decide +kernel
theorem dX12_thoughtOf_10 : decode cX12_thoughtOf 10 = .ok (.iload_n 2, 1) := by decide +kernel
theorem dX12_thoughtOf_11 : decode cX12_thoughtOf 11 = .ok (.imul, 1) := by decide +kernel
theorem dX12_thoughtOf_12 : decode cX12_thoughtOf 12 = .ok (.iadd, 1) := by decide +kernel
theorem dX12_thoughtOf_13 : decode cX12_thoughtOf 13 = .ok (.iload_n 3, 1) := by decide +kernel
theorem dX12_thoughtOf_14 : decode cX12_thoughtOf 14 = .ok (.iadd, 1) := by decide +kernel
theorem dX12_thoughtOf_15 : decode cX12_thoughtOf 15 = .ok (.iaload, 1) := by decide +kernel
theorem dX12_thoughtOf_16 : decode cX12_thoughtOf 16 = .ok (.ireturn, 1) := by decide +kernel
theorem dX12_saidThing_0 : decode cX12_saidThing 0 = .ok (.aload_n 0, 1) := by decide +kernel
theorem dX12_saidThing_1 : decode cX12_saidThing 1 = .ok (.iload_n 1, 1) := by decide +kernel
theorem dX12_saidThing_2 : decode cX12_saidThing 2 = .ok (.iload_n 2, 1) := by decide +kernel
theorem dX12_saidThing_3 : decode cX12_saidThing 3 = .ok (.invokevirtual 300, 3) := by decide +kernel
theorem dX12_saidThing_6 : decode cX12_saidThing 6 = .ok (.ifCond .eq 7, 3) := by decide +kernel
theorem dX12_saidThing_9 : decode cX12_saidThing 9 = .ok (.iconst (-1), 1) := by decide +kernel
theorem dX12_saidThing_10 : decode cX12_saidThing 10 = .ok (.goto 13, 3) := by decide +kernel
theorem dX12_saidThing_13 : decode cX12_saidThing 13 = .ok (.aload_n 0, 1) := by decide +kernel
theorem dX12_saidThing_14 : decode cX12_saidThing 14 = .ok (.getfield 89, 3) := by decide +kernel
theorem dX12_saidThing_17 : decode cX12_saidThing 17 = .ok (.iconst 5, 1) := by decide +kernel
theorem dX12_saidThing_18 : decode cX12_saidThing 18 = .ok (.iconst 4, 1) := by decide +kernel
theorem dX12_saidThing_19 : decode cX12_saidThing 19 = .ok (.iload_n 2, 1) := by decide +kernel
theorem dX12_saidThing_20 : decode cX12_saidThing 20 = .ok (.imul, 1) := by decide +kernel
theorem dX12_saidThing_21 : decode cX12_saidThing 21 = .ok (.iadd, 1) := by decide +kernel
theorem dX12_saidThing_22 : decode cX12_saidThing 22 = .ok (.iaload, 1) := by decide +kernel
theorem dX12_saidThing_23 : decode cX12_saidThing 23 = .ok (.ireturn, 1) := by decide +kernel
theorem dX12_saidIs_0 : decode cX12_saidIs 0 = .ok (.aload_n 0, 1) := by decide +kernel
theorem dX12_saidIs_1 : decode cX12_saidIs 1 = .ok (.iload_n 1, 1) := by decide +kernel
theorem dX12_saidIs_2 : decode cX12_saidIs 2 = .ok (.iload_n 2, 1) := by decide +kernel
theorem dX12_saidIs_3 : decode cX12_saidIs 3 = .ok (.invokevirtual 304, 3) := by decide +kernel
theorem dX12_saidIs_6 : decode cX12_saidIs 6 = .ok (.istore_n 3, 1) := by decide +kernel
theorem dX12_saidIs_7 : decode cX12_saidIs 7 = .ok (.aload_n 0, 1) := by decide +kernel
theorem dX12_saidIs_8 : decode cX12_saidIs 8 = .ok (.getfield 89, 3) := by decide +kernel
theorem dX12_saidIs_11 : decode cX12_saidIs 11 = .ok (.iconst 5, 1) := by decide +kernel
theorem dX12_saidIs_12 : decode cX12_saidIs 12 = .ok (.iconst 4, 1) := by decide +kernel
theorem dX12_saidIs_13 : decode cX12_saidIs 13 = .ok (.iload_n 2, 1) := by decide +kernel
theorem dX12_saidIs_14 : decode cX12_saidIs 14 = .ok (.imul, 1) := by decide +kernel
theorem dX12_saidIs_15 : decode cX12_saidIs 15 = .ok (.iadd, 1) := by decide +kernel
theorem dX12_saidIs_16 : decode cX12_saidIs 16 = .ok (.iconst 1, 1) := by decide +kernel
theorem dX12_saidIs_17 : decode cX12_saidIs 17 = .ok (.iadd, 1) := by decide +kernel
theorem dX12_saidIs_18 : decode cX12_saidIs 18 = .ok (.iaload, 1) := by decide +kernel
theorem dX12_saidIs_19 : decode cX12_saidIs 19 = .ok (.istore 4, 2) := by decide +kernel
theorem dX12_saidIs_21 : decode cX12_saidIs 21 = .ok (.iconst 0, 1) := by decide +kernel
theorem dX12_saidIs_22 : decode cX12_saidIs 22 = .ok (.istore 5, 2) := by decide +kernel
theorem dX12_saidIs_24 : decode cX12_saidIs 24 = .ok (.iload 5, 2) := by decide +kernel
theorem dX12_saidIs_26 : decode cX12_saidIs 26 = .ok (.iload_n 2, 1) := by decide +kernel
theorem dX12_saidIs_27 : decode cX12_saidIs 27 = .ok (.if_icmp .ge 53, 3) := by decide +kernel
theorem dX12_saidIs_30 : decode cX12_saidIs 30 = .ok (.iload_n 2, 1) := by decide +kernel
theorem dX12_saidIs_31 : decode cX12_saidIs 31 = .ok (.aload_n 0, 1) := by decide +kernel
theorem dX12_saidIs_32 : decode cX12_saidIs 32 = .ok (.getfield 89, 3) := by decide +kernel
theorem dX12_saidIs_35 : decode cX12_saidIs 35 = .ok (.iconst 3, 1) := by decide +kernel
theorem dX12_saidIs_36 : decode cX12_saidIs 36 = .ok (.iaload, 1) := by decide +kernel
theorem dX12_saidIs_37 : decode cX12_saidIs 37 = .ok (.if_icmp .lt 43, 3) := by decide +kernel
theorem dX12_saidIs_40 : decode cX12_saidIs 40 = .ok (.aload_n 0, 1) := by decide +kernel
theorem dX12_saidIs_41 : decode cX12_saidIs 41 = .ok (.getfield 119, 3) := by decide +kernel
theorem dX12_saidIs_44 : decode cX12_saidIs 44 = .ok (.iload_n 1, 1) := by decide +kernel
theorem dX12_saidIs_45 : decode cX12_saidIs 45 = .ok (.iconst 4, 1) := by decide +kernel
theorem dX12_saidIs_46 : decode cX12_saidIs 46 = .ok (.iadd, 1) := by decide +kernel
theorem dX12_saidIs_47 : decode cX12_saidIs 47 = .ok (.iload 5, 2) := by decide +kernel
theorem dX12_saidIs_49 : decode cX12_saidIs 49 = .ok (.iadd, 1) := by decide +kernel
theorem dX12_saidIs_50 : decode cX12_saidIs 50 = .ok (.iaload, 1) := by decide +kernel
theorem dX12_saidIs_51 : decode cX12_saidIs 51 = .ok (.iload_n 3, 1) := by decide +kernel
theorem dX12_saidIs_52 : decode cX12_saidIs 52 = .ok (.if_icmp .ne 18, 3) := by decide +kernel
theorem dX12_saidIs_55 : decode cX12_saidIs 55 = .ok (.aload_n 0, 1) := by decide +kernel
theorem dX12_saidIs_56 : decode cX12_saidIs 56 = .ok (.getfield 119, 3) := by decide +kernel
theorem dX12_saidIs_59 : decode cX12_saidIs 59 = .ok (.iload_n 1, 1) := by decide +kernel
theorem dX12_saidIs_60 : decode cX12_saidIs 60 = .ok (.bipush 12, 2) := by decide +kernel
theorem dX12_saidIs_62 : decode cX12_saidIs 62 = .ok (.iadd, 1) := by decide +kernel
theorem dX12_saidIs_63 : decode cX12_saidIs 63 = .ok (.iload 5, 2) := by decide +kernel
theorem dX12_saidIs_65 : decode cX12_saidIs 65 = .ok (.iadd, 1) := by decide +kernel
theorem dX12_saidIs_66 : decode cX12_saidIs 66 = .ok (.iaload, 1) := by decide +kernel
theorem dX12_saidIs_67 : decode cX12_saidIs 67 = .ok (.goto 5, 3) := by decide +kernel
theorem dX12_saidIs_70 : decode cX12_saidIs 70 = .ok (.iload 4, 2) := by decide +kernel
theorem dX12_saidIs_72 : decode cX12_saidIs 72 = .ok (.istore 4, 2) := by decide +kernel
theorem dX12_saidIs_74 : decode cX12_saidIs 74 = .ok (.iinc 5 1, 3) := by decide +kernel
theorem dX12_saidIs_77 : decode cX12_saidIs 77 = .ok (.goto (-53), 3) := by decide +kernel
theorem dX12_saidIs_80 : decode cX12_saidIs 80 = .ok (.iload_n 3, 1) := by decide +kernel
theorem dX12_saidIs_81 : decode cX12_saidIs 81 = .ok (.ifCond .ge 7, 3) := by decide +kernel
theorem dX12_saidIs_84 : decode cX12_saidIs 84 = .ok (.iconst (-1), 1) := by decide +kernel
theorem dX12_saidIs_85 : decode cX12_saidIs 85 = .ok (.goto 5, 3) := by decide +kernel
theorem dX12_saidIs_88 : decode cX12_saidIs 88 = .ok (.iload 4, 2) := by decide +kernel
theorem dX12_saidIs_90 : decode cX12_saidIs 90 = .ok (.ireturn, 1) := by decide +kernel
theorem dX12_doesClash_0 : decode cX12_doesClash 0 = .ok (.aload_n 0, 1) := by decide +kernel
theorem dX12_doesClash_1 : decode cX12_doesClash 1 = .ok (.iload_n 1, 1) := by decide +kernel
theorem dX12_doesClash_2 : decode cX12_doesClash 2 = .ok (.iload_n 2, 1) := by decide +kernel
theorem dX12_doesClash_3 : decode cX12_doesClash 3 = .ok (.invokevirtual 304, 3) := by decide +kernel
theorem dX12_doesClash_6 : decode cX12_doesClash 6 = .ok (.ifCond .lt 46, 3) := by decide +kernel
theorem dX12_doesClash_9 : decode cX12_doesClash 9 = .ok (.aload_n 0, 1) := by decide +kernel
theorem dX12_doesClash_10 : decode cX12_doesClash 10 = .ok (.iload_n 1, 1) := by decide +kernel
theorem dX12_doesClash_11 : decode cX12_doesClash 11 = .ok (.iload_n 2, 1) := by decide +kernel
theorem dX12_doesClash_12 : decode cX12_doesClash 12 = .ok (.invokevirtual 304, 3) := by decide +kernel
theorem dX12_doesClash_15 : decode cX12_doesClash 15 = .ok (.aload_n 0, 1) := by decide +kernel
theorem dX12_doesClash_16 : decode cX12_doesClash 16 = .ok (.getfield 119, 3) := by decide +kernel
theorem dX12_doesClash_19 : decode cX12_doesClash 19 = .ok (.iload_n 1, 1) := by decide +kernel
theorem dX12_doesClash_20 : decode cX12_doesClash 20 = .ok (.iconst 4, 1) := by decide +kernel
theorem dX12_doesClash_21 : decode cX12_doesClash 21 = .ok (.iadd, 1) := by decide +kernel
theorem dX12_doesClash_22 : decode cX12_doesClash 22 = .ok (.iload_n 2, 1) := by decide +kernel
theorem dX12_doesClash_23 : decode cX12_doesClash 23 = .ok (.iadd, 1) := by decide +kernel
theorem dX12_doesClash_24 : decode cX12_doesClash 24 = .ok (.iaload, 1) := by decide +kernel
theorem dX12_doesClash_25 : decode cX12_doesClash 25 = .ok (.if_icmp .ne 27, 3) := by decide +kernel
theorem dX12_doesClash_28 : decode cX12_doesClash 28 = .ok (.aload_n 0, 1) := by decide +kernel
theorem dX12_doesClash_29 : decode cX12_doesClash 29 = .ok (.iload_n 1, 1) := by decide +kernel
theorem dX12_doesClash_30 : decode cX12_doesClash 30 = .ok (.iload_n 2, 1) := by decide +kernel
theorem dX12_doesClash_31 : decode cX12_doesClash 31 = .ok (.invokevirtual 307, 3) := by decide +kernel
theorem dX12_doesClash_34 : decode cX12_doesClash 34 = .ok (.aload_n 0, 1) := by decide +kernel
theorem dX12_doesClash_35 : decode cX12_doesClash 35 = .ok (.getfield 119, 3) := by decide +kernel
theorem dX12_doesClash_38 : decode cX12_doesClash 38 = .ok (.iload_n 1, 1) := by decide +kernel
theorem dX12_doesClash_39 : decode cX12_doesClash 39 = .ok (.bipush 12, 2) := by decide +kernel
theorem dX12_doesClash_41 : decode cX12_doesClash 41 = .ok (.iadd, 1) := by decide +kernel
theorem dX12_doesClash_42 : decode cX12_doesClash 42 = .ok (.iload_n 2, 1) := by decide +kernel
theorem dX12_doesClash_43 : decode cX12_doesClash 43 = .ok (.iadd, 1) := by decide +kernel
theorem dX12_doesClash_44 : decode cX12_doesClash 44 = .ok (.iaload, 1) := by decide +kernel
theorem dX12_doesClash_45 : decode cX12_doesClash 45 = .ok (.if_icmp .eq 7, 3) := by decide +kernel
theorem dX12_doesClash_48 : decode cX12_doesClash 48 = .ok (.iconst 1, 1) := by decide +kernel
theorem dX12_doesClash_49 : decode cX12_doesClash 49 = .ok (.goto 4, 3) := by decide +kernel
theorem dX12_doesClash_52 : decode cX12_doesClash 52 = .ok (.iconst 0, 1) := by decide +kernel
theorem dX12_doesClash_53 : decode cX12_doesClash 53 = .ok (.ireturn, 1) := by decide +kernel
theorem dX12_doesRead_0 : decode cX12_doesRead 0 = .ok (.aload_n 0, 1) := by decide +kernel
theorem dX12_doesRead_1 : decode cX12_doesRead 1 = .ok (.iload_n 2, 1) := by decide +kernel
theorem dX12_doesRead_2 : decode cX12_doesRead 2 = .ok (.iconst 0, 1) := by decide +kernel
theorem dX12_doesRead_3 : decode cX12_doesRead 3 = .ok (.invokevirtual 310, 3) := by decide +kernel
theorem dX12_doesRead_6 : decode cX12_doesRead 6 = .ok (.istore 4, 2) := by decide +kernel
theorem dX12_doesRead_8 : decode cX12_doesRead 8 = .ok (.iload 4, 2) := by decide +kernel
theorem dX12_doesRead_10 : decode cX12_doesRead 10 = .ok (.iconst 1, 1) := by decide +kernel
theorem dX12_doesRead_11 : decode cX12_doesRead 11 = .ok (.if_icmp .eq 28, 3) := by decide +kernel
theorem dX12_doesRead_14 : decode cX12_doesRead 14 = .ok (.iload 4, 2) := by decide +kernel
theorem dX12_doesRead_16 : decode cX12_doesRead 16 = .ok (.iconst 2, 1) := by decide +kernel
theorem dX12_doesRead_17 : decode cX12_doesRead 17 = .ok (.if_icmp .ne 26, 3) := by decide +kernel
theorem dX12_doesRead_20 : decode cX12_doesRead 20 = .ok (.aload_n 0, 1) := by decide +kernel
theorem dX12_doesRead_21 : decode cX12_doesRead 21 = .ok (.iload_n 2, 1) := by decide +kernel
theorem dX12_doesRead_22 : decode cX12_doesRead 22 = .ok (.iconst 1, 1) := by decide +kernel
theorem dX12_doesRead_23 : decode cX12_doesRead 23 = .ok (.invokevirtual 310, 3) := by decide +kernel
theorem dX12_doesRead_26 : decode cX12_doesRead 26 = .ok (.iconst 4, 1) := by decide +kernel
theorem dX12_doesRead_27 : decode cX12_doesRead 27 = .ok (.if_icmp .gt 12, 3) := by decide +kernel
theorem dX12_doesRead_30 : decode cX12_doesRead 30 = .ok (.aload_n 0, 1) := by decide +kernel
theorem dX12_doesRead_31 : decode cX12_doesRead 31 = .ok (.iload_n 1, 1) := by decide +kernel
theorem dX12_doesRead_32 : decode cX12_doesRead 32 = .ok (.iload_n 3, 1) := by decide +kernel
theorem dX12_doesRead_33 : decode cX12_doesRead 33 = .ok (.invokevirtual 300, 3) := by decide +kernel
theorem dX12_doesRead_36 : decode cX12_doesRead 36 = .ok (.ifCond .eq 7, 3) := by decide +kernel
theorem dX12_doesRead_39 : decode cX12_doesRead 39 = .ok (.iconst 1, 1) := by decide +kernel
theorem dX12_doesRead_40 : decode cX12_doesRead 40 = .ok (.goto 4, 3) := by decide +kernel
theorem dX12_doesRead_43 : decode cX12_doesRead 43 = .ok (.iconst 0, 1) := by decide +kernel
theorem dX12_doesRead_44 : decode cX12_doesRead 44 = .ok (.ireturn, 1) := by decide +kernel
theorem dX12_doesTake_0 : decode cX12_doesTake 0 = .ok (.aload_n 0, 1) := by decide +kernel
theorem dX12_doesTake_1 : decode cX12_doesTake 1 = .ok (.iload_n 1, 1) := by decide +kernel
theorem dX12_doesTake_2 : decode cX12_doesTake 2 = .ok (.iload_n 3, 1) := by decide +kernel
theorem dX12_doesTake_3 : decode cX12_doesTake 3 = .ok (.invokevirtual 304, 3) := by decide +kernel
theorem dX12_doesTake_6 : decode cX12_doesTake 6 = .ok (.aload_n 0, 1) := by decide +kernel
theorem dX12_doesTake_7 : decode cX12_doesTake 7 = .ok (.getfield 119, 3) := by decide +kernel
theorem dX12_doesTake_10 : decode cX12_doesTake 10 = .ok (.iload_n 1, 1) := by decide +kernel
theorem dX12_doesTake_11 : decode cX12_doesTake 11 = .ok (.iconst 4, 1) := by decide +kernel
theorem dX12_doesTake_12 : decode cX12_doesTake 12 = .ok (.iadd, 1) := by decide +kernel
theorem dX12_doesTake_13 : decode cX12_doesTake 13 = .ok (.iload_n 3, 1) := by decide +kernel
theorem dX12_doesTake_14 : decode cX12_doesTake 14 = .ok (.iadd, 1) := by decide +kernel
theorem dX12_doesTake_15 : decode cX12_doesTake 15 = .ok (.iaload, 1) := by decide +kernel
theorem dX12_doesTake_16 : decode cX12_doesTake 16 = .ok (.if_icmp .ne 27, 3) := by decide +kernel
theorem dX12_doesTake_19 : decode cX12_doesTake 19 = .ok (.aload_n 0, 1) := by decide +kernel
theorem dX12_doesTake_20 : decode cX12_doesTake 20 = .ok (.iload_n 1, 1) := by decide +kernel
theorem dX12_doesTake_21 : decode cX12_doesTake 21 = .ok (.iload_n 3, 1) := by decide +kernel
theorem dX12_doesTake_22 : decode cX12_doesTake 22 = .ok (.invokevirtual 307, 3) := by decide +kernel
theorem dX12_doesTake_25 : decode cX12_doesTake 25 = .ok (.aload_n 0, 1) := by decide +kernel
theorem dX12_doesTake_26 : decode cX12_doesTake 26 = .ok (.getfield 119, 3) := by decide +kernel
theorem dX12_doesTake_29 : decode cX12_doesTake 29 = .ok (.iload_n 1, 1) := by decide +kernel
theorem dX12_doesTake_30 : decode cX12_doesTake 30 = .ok (.bipush 12, 2) := by decide +kernel
theorem dX12_doesTake_32 : decode cX12_doesTake 32 = .ok (.iadd, 1) := by decide +kernel
theorem dX12_doesTake_33 : decode cX12_doesTake 33 = .ok (.iload_n 3, 1) := by decide +kernel
theorem dX12_doesTake_34 : decode cX12_doesTake 34 = .ok (.iadd, 1) := by decide +kernel
theorem dX12_doesTake_35 : decode cX12_doesTake 35 = .ok (.iaload, 1) := by decide +kernel
theorem dX12_doesTake_36 : decode cX12_doesTake 36 = .ok (.if_icmp .ne 7, 3) := by decide +kernel
theorem dX12_doesTake_39 : decode cX12_doesTake 39 = .ok (.iconst 1, 1) := by decide +kernel
theorem dX12_doesTake_40 : decode cX12_doesTake 40 = .ok (.goto 4, 3) := by decide +kernel
theorem dX12_doesTake_43 : decode cX12_doesTake 43 = .ok (.iconst 0, 1) := by decide +kernel
theorem dX12_doesTake_44 : decode cX12_doesTake 44 = .ok (.istore 4, 2) := by decide +kernel
theorem dX12_doesTake_46 : decode cX12_doesTake 46 = .ok (.aload_n 0, 1) := by decide +kernel
theorem dX12_doesTake_47 : decode cX12_doesTake 47 = .ok (.iload_n 1, 1) := by decide +kernel
theorem dX12_doesTake_48 : decode cX12_doesTake 48 = .ok (.iload_n 2, 1) := by decide +kernel
theorem dX12_doesTake_49 : decode cX12_doesTake 49 = .ok (.iload_n 3, 1) := by decide +kernel
theorem dX12_doesTake_50 : decode cX12_doesTake 50 = .ok (.invokevirtual 313, 3) := by decide +kernel
theorem dX12_doesTake_53 : decode cX12_doesTake 53 = .ok (.ifCond .ne 27, 3) := by decide +kernel
theorem dX12_doesTake_56 : decode cX12_doesTake 56 = .ok (.aload_n 0, 1) := by decide +kernel
theorem dX12_doesTake_57 : decode cX12_doesTake 57 = .ok (.iload_n 1, 1) := by decide +kernel
theorem dX12_doesTake_58 : decode cX12_doesTake 58 = .ok (.iload_n 3, 1) := by decide +kernel
theorem dX12_doesTake_59 : decode cX12_doesTake 59 = .ok (.invokevirtual 300, 3) := by decide +kernel
theorem dX12_doesTake_62 : decode cX12_doesTake 62 = .ok (.ifCond .ne 22, 3) := by decide +kernel
theorem dX12_doesTake_65 : decode cX12_doesTake 65 = .ok (.aload_n 0, 1) := by decide +kernel
theorem dX12_doesTake_66 : decode cX12_doesTake 66 = .ok (.iload_n 2, 1) := by decide +kernel
theorem dX12_doesTake_67 : decode cX12_doesTake 67 = .ok (.iconst 0, 1) := by decide +kernel
theorem dX12_doesTake_68 : decode cX12_doesTake 68 = .ok (.invokevirtual 310, 3) := by decide +kernel
theorem dX12_doesTake_71 : decode cX12_doesTake 71 = .ok (.iconst 3, 1) := by decide +kernel
theorem dX12_doesTake_72 : decode cX12_doesTake 72 = .ok (.if_icmp .ne 8, 3) := by decide +kernel
theorem dX12_doesTake_75 : decode cX12_doesTake 75 = .ok (.iload 4, 2) := by decide +kernel
theorem dX12_doesTake_77 : decode cX12_doesTake 77 = .ok (.ifCond .eq 7, 3) := by decide +kernel
theorem dX12_doesTake_80 : decode cX12_doesTake 80 = .ok (.iconst 1, 1) := by decide +kernel
theorem dX12_doesTake_81 : decode cX12_doesTake 81 = .ok (.goto 4, 3) := by decide +kernel
theorem dX12_doesTake_84 : decode cX12_doesTake 84 = .ok (.iconst 0, 1) := by decide +kernel
theorem dX12_doesTake_85 : decode cX12_doesTake 85 = .ok (.ireturn, 1) := by decide +kernel
theorem dX12_clearWavers_0 : decode cX12_clearWavers 0 = .ok (.iconst 0, 1) := by decide +kernel
theorem dX12_clearWavers_1 : decode cX12_clearWavers 1 = .ok (.istore_n 1, 1) := by decide +kernel
theorem dX12_clearWavers_2 : decode cX12_clearWavers 2 = .ok (.iload_n 1, 1) := by decide +kernel
theorem dX12_clearWavers_3 : decode cX12_clearWavers 3 = .ok (.bipush 6, 2) := by decide +kernel
theorem dX12_clearWavers_5 : decode cX12_clearWavers 5 = .ok (.if_icmp .ge 16, 3) := by decide +kernel
theorem dX12_clearWavers_8 : decode cX12_clearWavers 8 = .ok (.aload_n 0, 1) := by decide +kernel
theorem dX12_clearWavers_9 : decode cX12_clearWavers 9 = .ok (.getfield 126, 3) := by decide +kernel
theorem dX12_clearWavers_12 : decode cX12_clearWavers 12 = .ok (.iload_n 1, 1) := by decide +kernel
theorem dX12_clearWavers_13 : decode cX12_clearWavers 13 = .ok (.iconst 0, 1) := by decide +kernel
theorem dX12_clearWavers_14 : decode cX12_clearWavers 14 = .ok (.iastore, 1) := by decide +kernel
theorem dX12_clearWavers_15 : decode cX12_clearWavers 15 = .ok (.iinc 1 1, 3) := by decide +kernel
theorem dX12_clearWavers_18 : decode cX12_clearWavers 18 = .ok (.goto (-16), 3) := by decide +kernel
theorem dX12_clearWavers_21 : decode cX12_clearWavers 21 = .ok (.return_, 1) := by decide +kernel
theorem dX12_shows_0 : decode cX12_shows 0 = .ok (.aload_n 0, 1) := by decide +kernel
theorem dX12_shows_1 : decode cX12_shows 1 = .ok (.getfield 119, 3) := by decide +kernel
theorem dX12_shows_4 : decode cX12_shows 4 = .ok (.iload_n 1, 1) := by decide +kernel
theorem dX12_shows_5 : decode cX12_shows 5 = .ok (.iconst 0, 1) := by decide +kernel
theorem dX12_shows_6 : decode cX12_shows 6 = .ok (.iadd, 1) := by decide +kernel
theorem dX12_shows_7 : decode cX12_shows 7 = .ok (.iaload, 1) := by decide +kernel
theorem dX12_shows_8 : decode cX12_shows 8 = .ok (.istore_n 2, 1) := by decide +kernel
theorem dX12_shows_9 : decode cX12_shows 9 = .ok (.aload_n 0, 1) := by decide +kernel
theorem dX12_shows_10 : decode cX12_shows 10 = .ok (.iload_n 1, 1) := by decide +kernel
theorem dX12_shows_11 : decode cX12_shows 11 = .ok (.iload_n 2, 1) := by decide +kernel
theorem dX12_shows_12 : decode cX12_shows 12 = .ok (.invokevirtual 316, 3) := by decide +kernel
theorem dX12_shows_15 : decode cX12_shows 15 = .ok (.ifCond .eq 7, 3) := by decide +kernel
theorem dX12_shows_18 : decode cX12_shows 18 = .ok (.iconst 1, 1) := by decide +kernel
theorem dX12_shows_19 : decode cX12_shows 19 = .ok (.goto 4, 3) := by decide +kernel
theorem dX12_shows_22 : decode cX12_shows 22 = .ok (.iconst 0, 1) := by decide +kernel
theorem dX12_shows_23 : decode cX12_shows 23 = .ok (.istore_n 3, 1) := by decide +kernel
theorem dX12_shows_24 : decode cX12_shows 24 = .ok (.iconst 0, 1) := by decide +kernel
theorem dX12_shows_25 : decode cX12_shows 25 = .ok (.istore 4, 2) := by decide +kernel
theorem dX12_shows_27 : decode cX12_shows 27 = .ok (.iconst 0, 1) := by decide +kernel
theorem dX12_shows_28 : decode cX12_shows 28 = .ok (.istore 5, 2) := by decide +kernel
theorem dX12_shows_30 : decode cX12_shows 30 = .ok (.iload 5, 2) := by decide +kernel
theorem dX12_shows_32 : decode cX12_shows 32 = .ok (.aload_n 0, 1) := by decide +kernel
theorem dX12_shows_33 : decode cX12_shows 33 = .ok (.invokevirtual 282, 3) := by decide +kernel
theorem dX12_shows_36 : decode cX12_shows 36 = .ok (.if_icmp .ge 227, 3) := by decide +kernel
theorem dX12_shows_39 : decode cX12_shows 39 = .ok (.aload_n 0, 1) := by decide +kernel
theorem dX12_shows_40 : decode cX12_shows 40 = .ok (.iload_n 1, 1) := by decide +kernel
theorem dX12_shows_41 : decode cX12_shows 41 = .ok (.iload 5, 2) := by decide +kernel
theorem dX12_shows_43 : decode cX12_shows 43 = .ok (.invokevirtual 319, 3) := by decide +kernel
theorem dX12_shows_46 : decode cX12_shows 46 = .ok (.ifCond .eq 211, 3) := by decide +kernel
theorem dX12_shows_49 : decode cX12_shows 49 = .ok (.aload_n 0, 1) := by decide +kernel
theorem dX12_shows_50 : decode cX12_shows 50 = .ok (.iload_n 1, 1) := by decide +kernel
theorem dX12_shows_51 : decode cX12_shows 51 = .ok (.iload 5, 2) := by decide +kernel
theorem dX12_shows_53 : decode cX12_shows 53 = .ok (.iload_n 2, 1) := by decide +kernel
theorem dX12_shows_54 : decode cX12_shows 54 = .ok (.invokevirtual 313, 3) := by decide +kernel
theorem dX12_shows_57 : decode cX12_shows 57 = .ok (.istore 6, 2) := by decide +kernel
theorem dX12_shows_59 : decode cX12_shows 59 = .ok (.aload_n 0, 1) := by decide +kernel
theorem dX12_shows_60 : decode cX12_shows 60 = .ok (.iload_n 1, 1) := by decide +kernel
theorem dX12_shows_61 : decode cX12_shows 61 = .ok (.iload 5, 2) := by decide +kernel
