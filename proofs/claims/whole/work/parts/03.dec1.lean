theorem dX10_named_10 : decode cX10_named 10 = .ok (.getstatic 125, 3) := by decide +kernel
theorem dX10_named_13 : decode cX10_named 13 = .ok (.iload_n 2, 1) := by decide +kernel
theorem dX10_named_14 : decode cX10_named 14 = .ok (.aaload, 1) := by decide +kernel
theorem dX10_named_15 : decode cX10_named 15 = .ok (.ifnull 22, 3) := by decide +kernel
theorem dX10_named_18 : decode cX10_named 18 = .ok (.getstatic 125, 3) := by decide +kernel
theorem dX10_named_21 : decode cX10_named 21 = .ok (.iload_n 2, 1) := by decide +kernel
theorem dX10_named_22 : decode cX10_named 22 = .ok (.aaload, 1) := by decide +kernel
theorem dX10_named_23 : decode cX10_named 23 = .ok (.getfield 117, 3) := by decide +kernel
theorem dX10_named_26 : decode cX10_named 26 = .ok (.lload_n 0, 1) := by decide +kernel
theorem dX10_named_27 : decode cX10_named 27 = .ok (.lcmp, 1) := by decide +kernel
theorem dX10_named_28 : decode cX10_named 28 = .ok (.ifCond .ne 9, 3) := by decide +kernel
theorem dX10_named_31 : decode cX10_named 31 = .ok (.getstatic 125, 3) := by decide +kernel
theorem dX10_named_34 : decode cX10_named 34 = .ok (.iload_n 2, 1) := by decide +kernel
theorem dX10_named_35 : decode cX10_named 35 = .ok (.aaload, 1) := by decide +kernel
theorem dX10_named_36 : decode cX10_named 36 = .ok (.areturn, 1) := by decide +kernel
theorem dX10_named_37 : decode cX10_named 37 = .ok (.iinc 2 1, 3) := by decide +kernel
theorem dX10_named_40 : decode cX10_named 40 = .ok (.goto (-38), 3) := by decide +kernel
theorem dX10_named_43 : decode cX10_named 43 = .ok (.aconst_null, 1) := by decide +kernel
theorem dX10_named_44 : decode cX10_named 44 = .ok (.areturn, 1) := by decide +kernel
theorem dX11_init_0 : decode cX11_init 0 = .ok (.aload_n 0, 1) := by decide +kernel
theorem dX11_init_1 : decode cX11_init 1 = .ok (.invokespecial 3, 3) := by decide +kernel
theorem dX11_init_4 : decode cX11_init 4 = .ok (.aload_n 0, 1) := by decide +kernel
theorem dX11_init_5 : decode cX11_init 5 = .ok (.new 9, 3) := by decide +kernel
theorem dX11_init_8 : decode cX11_init 8 = .ok (.dup, 1) := by decide +kernel
theorem dX11_init_9 : decode cX11_init 9 = .ok (.invokespecial 11, 3) := by decide +kernel
theorem dX11_init_12 : decode cX11_init 12 = .ok (.putfield 12, 3) := by decide +kernel
theorem dX11_init_15 : decode cX11_init 15 = .ok (.aload_n 0, 1) := by decide +kernel
theorem dX11_init_16 : decode cX11_init 16 = .ok (.new 16, 3) := by decide +kernel
theorem dX11_init_19 : decode cX11_init 19 = .ok (.dup, 1) := by decide +kernel
theorem dX11_init_20 : decode cX11_init 20 = .ok (.invokespecial 18, 3) := by decide +kernel
theorem dX11_init_23 : decode cX11_init 23 = .ok (.putfield 19, 3) := by decide +kernel
theorem dX11_init_26 : decode cX11_init 26 = .ok (.aload_n 0, 1) := by decide +kernel
theorem dX11_init_27 : decode cX11_init 27 = .ok (.new 23, 3) := by decide +kernel
theorem dX11_init_30 : decode cX11_init 30 = .ok (.dup, 1) := by decide +kernel
theorem dX11_init_31 : decode cX11_init 31 = .ok (.invokespecial 25, 3) := by decide +kernel
theorem dX11_init_34 : decode cX11_init 34 = .ok (.putfield 26, 3) := by decide +kernel
theorem dX11_init_37 : decode cX11_init 37 = .ok (.aload_n 0, 1) := by decide +kernel
theorem dX11_init_38 : decode cX11_init 38 = .ok (.new 23, 3) := by decide +kernel
theorem dX11_init_41 : decode cX11_init 41 = .ok (.dup, 1) := by decide +kernel
theorem dX11_init_42 : decode cX11_init 42 = .ok (.invokespecial 25, 3) := by decide +kernel
theorem dX11_init_45 : decode cX11_init 45 = .ok (.putfield 30, 3) := by decide +kernel
theorem dX11_init_48 : decode cX11_init 48 = .ok (.aload_n 0, 1) := by decide +kernel
theorem dX11_init_49 : decode cX11_init 49 = .ok (.new 33, 3) := by decide +kernel
theorem dX11_init_52 : decode cX11_init 52 = .ok (.dup, 1) := by decide +kernel
theorem dX11_init_53 : decode cX11_init 53 = .ok (.invokespecial 35, 3) := by decide +kernel
theorem dX11_init_56 : decode cX11_init 56 = .ok (.putfield 36, 3) := by decide +kernel
theorem dX11_init_59 : decode cX11_init 59 = .ok (.aload_n 0, 1) := by decide +kernel
theorem dX11_init_60 : decode cX11_init 60 = .ok (.new 33, 3) := by decide +kernel
theorem dX11_init_63 : decode cX11_init 63 = .ok (.dup, 1) := by decide +kernel
theorem dX11_init_64 : decode cX11_init 64 = .ok (.invokespecial 35, 3) := by decide +kernel
theorem dX11_init_67 : decode cX11_init 67 = .ok (.putfield 40, 3) := by decide +kernel
theorem dX11_init_70 : decode cX11_init 70 = .ok (.aload_n 0, 1) := by decide +kernel
theorem dX11_init_71 : decode cX11_init 71 = .ok (.new 43, 3) := by decide +kernel
theorem dX11_init_74 : decode cX11_init 74 = .ok (.dup, 1) := by decide +kernel
theorem dX11_init_75 : decode cX11_init 75 = .ok (.invokespecial 45, 3) := by decide +kernel
theorem dX11_init_78 : decode cX11_init 78 = .ok (.putfield 46, 3) := by decide +kernel
theorem dX11_init_81 : decode cX11_init 81 = .ok (.aload_n 0, 1) := by decide +kernel
theorem dX11_init_82 : decode cX11_init 82 = .ok (.new 43, 3) := by decide +kernel
theorem dX11_init_85 : decode cX11_init 85 = .ok (.dup, 1) := by decide +kernel
theorem dX11_init_86 : decode cX11_init 86 = .ok (.invokespecial 45, 3) := by decide +kernel
theorem dX11_init_89 : decode cX11_init 89 = .ok (.putfield 50, 3) := by decide +kernel
theorem dX11_init_92 : decode cX11_init 92 = .ok (.aload_n 0, 1) := by decide +kernel
theorem dX11_init_93 : decode cX11_init 93 = .ok (.new 53, 3) := by decide +kernel
theorem dX11_init_96 : decode cX11_init 96 = .ok (.dup, 1) := by decide +kernel
theorem dX11_init_97 : decode cX11_init 97 = .ok (.invokespecial 55, 3) := by decide +kernel
theorem dX11_init_100 : decode cX11_init 100 = .ok (.putfield 56, 3) := by decide +kernel
theorem dX11_init_103 : decode cX11_init 103 = .ok (.aload_n 0, 1) := by decide +kernel
theorem dX11_init_104 : decode cX11_init 104 = .ok (.iconst 4, 1) := by decide +kernel
theorem dX11_init_105 : decode cX11_init 105 = .ok (.anewarray 60, 3) := by decide +kernel
theorem dX11_init_108 : decode cX11_init 108 = .ok (.putfield 62, 3) := by decide +kernel
theorem dX11_init_111 : decode cX11_init 111 = .ok (.aload_n 0, 1) := by decide +kernel
theorem dX11_init_112 : decode cX11_init 112 = .ok (.bipush 36, 2) := by decide +kernel
theorem dX11_init_114 : decode cX11_init 114 = .ok (.newarray .int, 2) := by decide +kernel
theorem dX11_init_116 : decode cX11_init 116 = .ok (.putfield 66, 3) := by decide +kernel
theorem dX11_init_119 : decode cX11_init 119 = .ok (.aload_n 0, 1) := by decide +kernel
theorem dX11_init_120 : decode cX11_init 120 = .ok (.bipush 108, 2) := by decide +kernel
theorem dX11_init_122 : decode cX11_init 122 = .ok (.newarray .int, 2) := by decide +kernel
theorem dX11_init_124 : decode cX11_init 124 = .ok (.putfield 70, 3) := by decide +kernel
theorem dX11_init_127 : decode cX11_init 127 = .ok (.aload_n 0, 1) := by decide +kernel
theorem dX11_init_128 : decode cX11_init 128 = .ok (.new 73, 3) := by decide +kernel
theorem dX11_init_131 : decode cX11_init 131 = .ok (.dup, 1) := by decide +kernel
theorem dX11_init_132 : decode cX11_init 132 = .ok (.invokespecial 75, 3) := by decide +kernel
theorem dX11_init_135 : decode cX11_init 135 = .ok (.putfield 76, 3) := by decide +kernel
theorem dX11_init_138 : decode cX11_init 138 = .ok (.iconst 0, 1) := by decide +kernel
theorem dX11_init_139 : decode cX11_init 139 = .ok (.istore_n 1, 1) := by decide +kernel
theorem dX11_init_140 : decode cX11_init 140 = .ok (.iload_n 1, 1) := by decide +kernel
theorem dX11_init_141 : decode cX11_init 141 = .ok (.aload_n 0, 1) := by decide +kernel
theorem dX11_init_142 : decode cX11_init 142 = .ok (.getfield 62, 3) := by decide +kernel
theorem dX11_init_145 : decode cX11_init 145 = .ok (.arraylength, 1) := by decide +kernel
theorem dX11_init_146 : decode cX11_init 146 = .ok (.if_icmp .ge 22, 3) := by decide +kernel
theorem dX11_init_149 : decode cX11_init 149 = .ok (.aload_n 0, 1) := by decide +kernel
theorem dX11_init_150 : decode cX11_init 150 = .ok (.getfield 62, 3) := by decide +kernel
theorem dX11_init_153 : decode cX11_init 153 = .ok (.iload_n 1, 1) := by decide +kernel
theorem dX11_init_154 : decode cX11_init 154 = .ok (.new 60, 3) := by decide +kernel
theorem dX11_init_157 : decode cX11_init 157 = .ok (.dup, 1) := by decide +kernel
theorem dX11_init_158 : decode cX11_init 158 = .ok (.invokespecial 80, 3) := by decide +kernel
theorem dX11_init_161 : decode cX11_init 161 = .ok (.aastore, 1) := by decide +kernel
theorem dX11_init_162 : decode cX11_init 162 = .ok (.iinc 1 1, 3) := by decide +kernel
theorem dX11_init_165 : decode cX11_init 165 = .ok (.goto (-25), 3) := by decide +kernel
theorem dX11_init_168 : decode cX11_init 168 = .ok (.aload_n 0, 1) := by decide +kernel
theorem dX11_init_169 : decode cX11_init 169 = .ok (.getfield 26, 3) := by decide +kernel
theorem dX11_init_172 : decode cX11_init 172 = .ok (.aload_n 0, 1) := by decide +kernel
theorem dX11_init_173 : decode cX11_init 173 = .ok (.getfield 46, 3) := by decide +kernel
theorem dX11_init_176 : decode cX11_init 176 = .ok (.invokevirtual 81, 3) := by decide +kernel
theorem dX11_init_179 : decode cX11_init 179 = .ok (.return_, 1) := by decide +kernel
theorem dX11_feed_0 : decode cX11_feed 0 = .ok (.aload_n 0, 1) := by decide +kernel
theorem dX11_feed_1 : decode cX11_feed 1 = .ok (.getfield 12, 3) := by decide +kernel
theorem dX11_feed_4 : decode cX11_feed 4 = .ok (.lload_n 1, 1) := by decide +kernel
theorem dX11_feed_5 : decode cX11_feed 5 = .ok (.invokevirtual 85, 3) := by decide +kernel
theorem dX11_feed_8 : decode cX11_feed 8 = .ok (.aload_n 0, 1) := by decide +kernel
theorem dX11_feed_9 : decode cX11_feed 9 = .ok (.getfield 12, 3) := by decide +kernel
theorem dX11_feed_12 : decode cX11_feed 12 = .ok (.lload_n 3, 1) := by decide +kernel
theorem dX11_feed_13 : decode cX11_feed 13 = .ok (.invokevirtual 85, 3) := by decide +kernel
theorem dX11_feed_16 : decode cX11_feed 16 = .ok (.aload_n 0, 1) := by decide +kernel
theorem dX11_feed_17 : decode cX11_feed 17 = .ok (.getfield 12, 3) := by decide +kernel
theorem dX11_feed_20 : decode cX11_feed 20 = .ok (.lload 5, 2) := by decide +kernel
theorem dX11_feed_22 : decode cX11_feed 22 = .ok (.invokevirtual 85, 3) := by decide +kernel
theorem dX11_feed_25 : decode cX11_feed 25 = .ok (.aload_n 0, 1) := by decide +kernel
theorem dX11_feed_26 : decode cX11_feed 26 = .ok (.getfield 12, 3) := by decide +kernel
theorem dX11_feed_29 : decode cX11_feed 29 = .ok (.getfield 89, 3) := by decide +kernel
theorem dX11_feed_32 : decode cX11_feed 32 = .ok (.ireturn, 1) := by decide +kernel
theorem dX11_film_0 : decode cX11_film 0 = .ok (.aload_n 0, 1) := by decide +kernel
theorem dX11_film_1 : decode cX11_film 1 = .ok (.getfield 19, 3) := by decide +kernel
theorem dX11_film_4 : decode cX11_film 4 = .ok (.aload_n 0, 1) := by decide +kernel
theorem dX11_film_5 : decode cX11_film 5 = .ok (.getfield 12, 3) := by decide +kernel
theorem dX11_film_8 : decode cX11_film 8 = .ok (.aload_n 0, 1) := by decide +kernel
theorem dX11_film_9 : decode cX11_film 9 = .ok (.getfield 30, 3) := by decide +kernel
theorem dX11_film_12 : decode cX11_film 12 = .ok (.invokevirtual 93, 3) := by decide +kernel
theorem dX11_film_15 : decode cX11_film 15 = .ok (.istore_n 1, 1) := by decide +kernel
theorem dX11_film_16 : decode cX11_film 16 = .ok (.aload_n 0, 1) := by decide +kernel
theorem dX11_film_17 : decode cX11_film 17 = .ok (.getfield 12, 3) := by decide +kernel
theorem dX11_film_20 : decode cX11_film 20 = .ok (.iconst 0, 1) := by decide +kernel
theorem dX11_film_21 : decode cX11_film 21 = .ok (.putfield 89, 3) := by decide +kernel
theorem dX11_film_24 : decode cX11_film 24 = .ok (.iload_n 1, 1) := by decide +kernel
theorem dX11_film_25 : decode cX11_film 25 = .ok (.ifCond .ne 25, 3) := by decide +kernel
theorem dX11_film_28 : decode cX11_film 28 = .ok (.aload_n 0, 1) := by decide +kernel
theorem dX11_film_29 : decode cX11_film 29 = .ok (.getfield 26, 3) := by decide +kernel
theorem dX11_film_32 : decode cX11_film 32 = .ok (.astore_n 2, 1) := by decide +kernel
theorem dX11_film_33 : decode cX11_film 33 = .ok (.aload_n 0, 1) := by decide +kernel
theorem dX11_film_34 : decode cX11_film 34 = .ok (.aload_n 0, 1) := by decide +kernel
theorem dX11_film_35 : decode cX11_film 35 = .ok (.getfield 30, 3) := by decide +kernel
theorem dX11_film_38 : decode cX11_film 38 = .ok (.putfield 26, 3) := by decide +kernel
theorem dX11_film_41 : decode cX11_film 41 = .ok (.aload_n 0, 1) := by decide +kernel
theorem dX11_film_42 : decode cX11_film 42 = .ok (.aload_n 2, 1) := by decide +kernel
theorem dX11_film_43 : decode cX11_film 43 = .ok (.putfield 30, 3) := by decide +kernel
theorem dX11_film_46 : decode cX11_film 46 = .ok (.aload_n 0, 1) := by decide +kernel
theorem dX11_film_47 : decode cX11_film 47 = .ok (.invokevirtual 97, 3) := by decide +kernel
theorem dX11_film_50 : decode cX11_film 50 = .ok (.iload_n 1, 1) := by decide +kernel
theorem dX11_film_51 : decode cX11_film 51 = .ok (.ireturn, 1) := by decide +kernel
theorem dX11_begin_0 : decode cX11_begin 0 = .ok (.aload_n 0, 1) := by decide +kernel
theorem dX11_begin_1 : decode cX11_begin 1 = .ok (.getfield 26, 3) := by decide +kernel
theorem dX11_begin_4 : decode cX11_begin 4 = .ok (.aload_n 0, 1) := by decide +kernel
theorem dX11_begin_5 : decode cX11_begin 5 = .ok (.getfield 46, 3) := by decide +kernel
theorem dX11_begin_8 : decode cX11_begin 8 = .ok (.invokevirtual 81, 3) := by decide +kernel
theorem dX11_begin_11 : decode cX11_begin 11 = .ok (.aload_n 0, 1) := by decide +kernel
theorem dX11_begin_12 : decode cX11_begin 12 = .ok (.getfield 36, 3) := by decide +kernel
theorem dX11_begin_15 : decode cX11_begin 15 = .ok (.iconst 0, 1) := by decide +kernel
theorem dX11_begin_16 : decode cX11_begin 16 = .ok (.putfield 100, 3) := by decide +kernel
theorem dX11_begin_19 : decode cX11_begin 19 = .ok (.aload_n 0, 1) := by decide +kernel
theorem dX11_begin_20 : decode cX11_begin 20 = .ok (.getfield 56, 3) := by decide +kernel
theorem dX11_begin_23 : decode cX11_begin 23 = .ok (.iconst 0, 1) := by decide +kernel
theorem dX11_begin_24 : decode cX11_begin 24 = .ok (.putfield 103, 3) := by decide +kernel
theorem dX11_begin_27 : decode cX11_begin 27 = .ok (.aload_n 0, 1) := by decide +kernel
theorem dX11_begin_28 : decode cX11_begin 28 = .ok (.getfield 66, 3) := by decide +kernel
theorem dX11_begin_31 : decode cX11_begin 31 = .ok (.iconst 0, 1) := by decide +kernel
theorem dX11_begin_32 : decode cX11_begin 32 = .ok (.invokestatic 106, 3) := by decide +kernel
theorem dX11_begin_35 : decode cX11_begin 35 = .ok (.iconst 0, 1) := by decide +kernel
theorem dX11_begin_36 : decode cX11_begin 36 = .ok (.istore_n 1, 1) := by decide +kernel
theorem dX11_begin_37 : decode cX11_begin 37 = .ok (.iload_n 1, 1) := by decide +kernel
theorem dX11_begin_38 : decode cX11_begin 38 = .ok (.aload_n 0, 1) := by decide +kernel
theorem dX11_begin_39 : decode cX11_begin 39 = .ok (.getfield 62, 3) := by decide +kernel
theorem dX11_begin_42 : decode cX11_begin 42 = .ok (.arraylength, 1) := by decide +kernel
theorem dX11_begin_43 : decode cX11_begin 43 = .ok (.if_icmp .ge 28, 3) := by decide +kernel
theorem dX11_begin_46 : decode cX11_begin 46 = .ok (.aload_n 0, 1) := by decide +kernel
theorem dX11_begin_47 : decode cX11_begin 47 = .ok (.getfield 62, 3) := by decide +kernel
theorem dX11_begin_50 : decode cX11_begin 50 = .ok (.iload_n 1, 1) := by decide +kernel
theorem dX11_begin_51 : decode cX11_begin 51 = .ok (.aaload, 1) := by decide +kernel
theorem dX11_begin_52 : decode cX11_begin 52 = .ok (.ifnull 13, 3) := by decide +kernel
theorem dX11_begin_55 : decode cX11_begin 55 = .ok (.aload_n 0, 1) := by decide +kernel
theorem dX11_begin_56 : decode cX11_begin 56 = .ok (.getfield 62, 3) := by decide +kernel
theorem dX11_begin_59 : decode cX11_begin 59 = .ok (.iload_n 1, 1) := by decide +kernel
theorem dX11_begin_60 : decode cX11_begin 60 = .ok (.aaload, 1) := by decide +kernel
theorem dX11_begin_61 : decode cX11_begin 61 = .ok (.iconst 0, 1) := by decide +kernel
theorem dX11_begin_62 : decode cX11_begin 62 = .ok (.putfield 112, 3) := by decide +kernel
theorem dX11_begin_65 : decode cX11_begin 65 = .ok (.iinc 1 1, 3) := by decide +kernel
theorem dX11_begin_68 : decode cX11_begin 68 = .ok (.goto (-31), 3) := by decide +kernel
theorem dX11_begin_71 : decode cX11_begin 71 = .ok (.return_, 1) := by decide +kernel
theorem dX11_evening_0 : decode cX11_evening 0 = .ok (.aload_n 0, 1) := by decide +kernel
theorem dX11_evening_1 : decode cX11_evening 1 = .ok (.getfield 19, 3) := by decide +kernel
theorem dX11_evening_4 : decode cX11_evening 4 = .ok (.aload_n 0, 1) := by decide +kernel
theorem dX11_evening_5 : decode cX11_evening 5 = .ok (.getfield 12, 3) := by decide +kernel
theorem dX11_evening_8 : decode cX11_evening 8 = .ok (.aload_n 0, 1) := by decide +kernel
theorem dX11_evening_9 : decode cX11_evening 9 = .ok (.getfield 26, 3) := by decide +kernel
theorem dX11_evening_12 : decode cX11_evening 12 = .ok (.aload_n 0, 1) := by decide +kernel
theorem dX11_evening_13 : decode cX11_evening 13 = .ok (.getfield 40, 3) := by decide +kernel
theorem dX11_evening_16 : decode cX11_evening 16 = .ok (.invokevirtual 116, 3) := by decide +kernel
theorem dX11_evening_19 : decode cX11_evening 19 = .ok (.istore_n 1, 1) := by decide +kernel
theorem dX11_evening_20 : decode cX11_evening 20 = .ok (.aload_n 0, 1) := by decide +kernel
theorem dX11_evening_21 : decode cX11_evening 21 = .ok (.getfield 12, 3) := by decide +kernel
theorem dX11_evening_24 : decode cX11_evening 24 = .ok (.iconst 0, 1) := by decide +kernel
theorem dX11_evening_25 : decode cX11_evening 25 = .ok (.putfield 89, 3) := by decide +kernel
theorem dX11_evening_28 : decode cX11_evening 28 = .ok (.iload_n 1, 1) := by decide +kernel
theorem dX11_evening_29 : decode cX11_evening 29 = .ok (.ifCond .ne 21, 3) := by decide +kernel
theorem dX11_evening_32 : decode cX11_evening 32 = .ok (.aload_n 0, 1) := by decide +kernel
theorem dX11_evening_33 : decode cX11_evening 33 = .ok (.getfield 36, 3) := by decide +kernel
theorem dX11_evening_36 : decode cX11_evening 36 = .ok (.astore_n 2, 1) := by decide +kernel
theorem dX11_evening_37 : decode cX11_evening 37 = .ok (.aload_n 0, 1) := by decide +kernel
theorem dX11_evening_38 : decode cX11_evening 38 = .ok (.aload_n 0, 1) := by decide +kernel
theorem dX11_evening_39 : decode cX11_evening 39 = .ok (.getfield 40, 3) := by decide +kernel
theorem dX11_evening_42 : decode cX11_evening 42 = .ok (.putfield 36, 3) := by decide +kernel
theorem dX11_evening_45 : decode cX11_evening 45 = .ok (.aload_n 0, 1) := by decide +kernel
theorem dX11_evening_46 : decode cX11_evening 46 = .ok (.aload_n 2, 1) := by decide +kernel
theorem dX11_evening_47 : decode cX11_evening 47 = .ok (.putfield 40, 3) := by decide +kernel
theorem dX11_evening_50 : decode cX11_evening 50 = .ok (.iload_n 1, 1) := by decide +kernel
theorem dX11_evening_51 : decode cX11_evening 51 = .ok (.ireturn, 1) := by decide +kernel
theorem dX11_scene_0 : decode cX11_scene 0 = .ok (.aload_n 0, 1) := by decide +kernel
theorem dX11_scene_1 : decode cX11_scene 1 = .ok (.getfield 26, 3) := by decide +kernel
theorem dX11_scene_4 : decode cX11_scene 4 = .ok (.iload_n 1, 1) := by decide +kernel
theorem dX11_scene_5 : decode cX11_scene 5 = .ok (.invokevirtual 120, 3) := by decide +kernel
theorem dX11_scene_8 : decode cX11_scene 8 = .ok (.ifCond .ne 6, 3) := by decide +kernel
theorem dX11_scene_11 : decode cX11_scene 11 = .ok (.bipush (-2), 2) := by decide +kernel
theorem dX11_scene_13 : decode cX11_scene 13 = .ok (.ireturn, 1) := by decide +kernel
theorem dX11_scene_14 : decode cX11_scene 14 = .ok (.iload_n 2, 1) := by decide +kernel
theorem dX11_scene_15 : decode cX11_scene 15 = .ok (.tableswitch 127 0 5 #[37, 53, 69, 81, 93, 110], 37) := by decide +kernel
theorem dX11_scene_52 : decode cX11_scene 52 = .ok (.aload_n 0, 1) := by decide +kernel
theorem dX11_scene_53 : decode cX11_scene 53 = .ok (.getfield 26, 3) := by decide +kernel
theorem dX11_scene_56 : decode cX11_scene 56 = .ok (.aload_n 0, 1) := by decide +kernel
theorem dX11_scene_57 : decode cX11_scene 57 = .ok (.getfield 46, 3) := by decide +kernel
theorem dX11_scene_60 : decode cX11_scene 60 = .ok (.iload_n 1, 1) := by decide +kernel
theorem dX11_scene_61 : decode cX11_scene 61 = .ok (.invokevirtual 124, 3) := by decide +kernel
theorem dX11_scene_64 : decode cX11_scene 64 = .ok (.invokestatic 128, 3) := by decide +kernel
theorem dX11_scene_67 : decode cX11_scene 67 = .ok (.ireturn, 1) := by decide +kernel
theorem dX11_scene_68 : decode cX11_scene 68 = .ok (.aload_n 0, 1) := by decide +kernel
theorem dX11_scene_69 : decode cX11_scene 69 = .ok (.getfield 26, 3) := by decide +kernel
theorem dX11_scene_72 : decode cX11_scene 72 = .ok (.aload_n 0, 1) := by decide +kernel
theorem dX11_scene_73 : decode cX11_scene 73 = .ok (.getfield 46, 3) := by decide +kernel
theorem dX11_scene_76 : decode cX11_scene 76 = .ok (.iload_n 1, 1) := by decide +kernel
theorem dX11_scene_77 : decode cX11_scene 77 = .ok (.invokevirtual 124, 3) := by decide +kernel
theorem dX11_scene_80 : decode cX11_scene 80 = .ok (.invokestatic 132, 3) := by decide +kernel
theorem dX11_scene_83 : decode cX11_scene 83 = .ok (.ireturn, 1) := by decide +kernel
theorem dX11_scene_84 : decode cX11_scene 84 = .ok (.aload_n 0, 1) := by decide +kernel
theorem dX11_scene_85 : decode cX11_scene 85 = .ok (.getfield 46, 3) := by decide +kernel
theorem dX11_scene_88 : decode cX11_scene 88 = .ok (.iload_n 1, 1) := by decide +kernel
theorem dX11_scene_89 : decode cX11_scene 89 = .ok (.invokevirtual 135, 3) := by decide +kernel
theorem dX11_scene_92 : decode cX11_scene 92 = .ok (.invokestatic 128, 3) := by decide +kernel
theorem dX11_scene_95 : decode cX11_scene 95 = .ok (.ireturn, 1) := by decide +kernel
theorem dX11_scene_96 : decode cX11_scene 96 = .ok (.aload_n 0, 1) := by decide +kernel
theorem dX11_scene_97 : decode cX11_scene 97 = .ok (.getfield 46, 3) := by decide +kernel
theorem dX11_scene_100 : decode cX11_scene 100 = .ok (.iload_n 1, 1) := by decide +kernel
theorem dX11_scene_101 : decode cX11_scene 101 = .ok (.invokevirtual 135, 3) := by decide +kernel
theorem dX11_scene_104 : decode cX11_scene 104 = .ok (.invokestatic 132, 3) := by decide +kernel
theorem dX11_scene_107 : decode cX11_scene 107 = .ok (.ireturn, 1) := by decide +kernel
theorem dX11_scene_108 : decode cX11_scene 108 = .ok (.aload_n 0, 1) := by decide +kernel
theorem dX11_scene_109 : decode cX11_scene 109 = .ok (.getfield 46, 3) := by decide +kernel
theorem dX11_scene_112 : decode cX11_scene 112 = .ok (.iload_n 1, 1) := by decide +kernel
theorem dX11_scene_113 : decode cX11_scene 113 = .ok (.invokevirtual 138, 3) := by decide +kernel
theorem dX11_scene_116 : decode cX11_scene 116 = .ok (.ifCond .eq 7, 3) := by decide +kernel
theorem dX11_scene_119 : decode cX11_scene 119 = .ok (.iconst 1, 1) := by decide +kernel
theorem dX11_scene_120 : decode cX11_scene 120 = .ok (.goto 4, 3) := by decide +kernel
theorem dX11_scene_123 : decode cX11_scene 123 = .ok (.iconst 0, 1) := by decide +kernel
theorem dX11_scene_124 : decode cX11_scene 124 = .ok (.ireturn, 1) := by decide +kernel
theorem dX11_scene_125 : decode cX11_scene 125 = .ok (.iload_n 1, 1) := by decide +kernel
theorem dX11_scene_126 : decode cX11_scene 126 = .ok (.aload_n 0, 1) := by decide +kernel
theorem dX11_scene_127 : decode cX11_scene 127 = .ok (.getfield 46, 3) := by decide +kernel
theorem dX11_scene_130 : decode cX11_scene 130 = .ok (.getfield 141, 3) := by decide +kernel
theorem dX11_scene_133 : decode cX11_scene 133 = .ok (.if_icmp .ge 7, 3) := by decide +kernel
theorem dX11_scene_136 : decode cX11_scene 136 = .ok (.iconst 1, 1) := by decide +kernel
theorem dX11_scene_137 : decode cX11_scene 137 = .ok (.goto 4, 3) := by decide +kernel
theorem dX11_scene_140 : decode cX11_scene 140 = .ok (.iconst 0, 1) := by decide +kernel
theorem dX11_scene_141 : decode cX11_scene 141 = .ok (.ireturn, 1) := by decide +kernel
theorem dX11_scene_142 : decode cX11_scene 142 = .ok (.bipush (-2), 2) := by decide +kernel
theorem dX11_scene_144 : decode cX11_scene 144 = .ok (.ireturn, 1) := by decide +kernel
theorem dX11_watcher_0 : decode cX11_watcher 0 = .ok (.aload_n 0, 1) := by decide +kernel
theorem dX11_watcher_1 : decode cX11_watcher 1 = .ok (.getfield 26, 3) := by decide +kernel
theorem dX11_watcher_4 : decode cX11_watcher 4 = .ok (.iload_n 1, 1) := by decide +kernel
theorem dX11_watcher_5 : decode cX11_watcher 5 = .ok (.invokevirtual 144, 3) := by decide +kernel
theorem dX11_watcher_8 : decode cX11_watcher 8 = .ok (.ifCond .ne 5, 3) := by decide +kernel
theorem dX11_watcher_11 : decode cX11_watcher 11 = .ok (.iconst (-1), 1) := by decide +kernel
theorem dX11_watcher_12 : decode cX11_watcher 12 = .ok (.ireturn, 1) := by decide +kernel
theorem dX11_watcher_13 : decode cX11_watcher 13 = .ok (.iload_n 2, 1) := by decide +kernel
theorem dX11_watcher_14 : decode cX11_watcher 14 = .ok (.tableswitch 99 0 4 #[34, 46, 58, 70, 82], 34) := by decide +kernel
theorem dX11_watcher_48 : decode cX11_watcher 48 = .ok (.aload_n 0, 1) := by decide +kernel
theorem dX11_watcher_49 : decode cX11_watcher 49 = .ok (.getfield 26, 3) := by decide +kernel
theorem dX11_watcher_52 : decode cX11_watcher 52 = .ok (.getfield 147, 3) := by decide +kernel
theorem dX11_watcher_55 : decode cX11_watcher 55 = .ok (.iload_n 1, 1) := by decide +kernel
theorem dX11_watcher_56 : decode cX11_watcher 56 = .ok (.invokestatic 150, 3) := by decide +kernel
theorem dX11_watcher_59 : decode cX11_watcher 59 = .ok (.ireturn, 1) := by decide +kernel
theorem dX11_watcher_60 : decode cX11_watcher 60 = .ok (.aload_n 0, 1) := by decide +kernel
theorem dX11_watcher_61 : decode cX11_watcher 61 = .ok (.getfield 26, 3) := by decide +kernel
theorem dX11_watcher_64 : decode cX11_watcher 64 = .ok (.getfield 156, 3) := by decide +kernel
theorem dX11_watcher_67 : decode cX11_watcher 67 = .ok (.iload_n 1, 1) := by decide +kernel
theorem dX11_watcher_68 : decode cX11_watcher 68 = .ok (.invokestatic 150, 3) := by decide +kernel
theorem dX11_watcher_71 : decode cX11_watcher 71 = .ok (.ireturn, 1) := by decide +kernel
theorem dX11_watcher_72 : decode cX11_watcher 72 = .ok (.aload_n 0, 1) := by decide +kernel
theorem dX11_watcher_73 : decode cX11_watcher 73 = .ok (.getfield 26, 3) := by decide +kernel
theorem dX11_watcher_76 : decode cX11_watcher 76 = .ok (.getfield 159, 3) := by decide +kernel
theorem dX11_watcher_79 : decode cX11_watcher 79 = .ok (.iload_n 1, 1) := by decide +kernel
theorem dX11_watcher_80 : decode cX11_watcher 80 = .ok (.invokestatic 150, 3) := by decide +kernel
theorem dX11_watcher_83 : decode cX11_watcher 83 = .ok (.ireturn, 1) := by decide +kernel
theorem dX11_watcher_84 : decode cX11_watcher 84 = .ok (.aload_n 0, 1) := by decide +kernel
theorem dX11_watcher_85 : decode cX11_watcher 85 = .ok (.getfield 46, 3) := by decide +kernel
theorem dX11_watcher_88 : decode cX11_watcher 88 = .ok (.getfield 162, 3) := by decide +kernel
theorem dX11_watcher_91 : decode cX11_watcher 91 = .ok (.iload_n 1, 1) := by decide +kernel
theorem dX11_watcher_92 : decode cX11_watcher 92 = .ok (.invokestatic 150, 3) := by decide +kernel
theorem dX11_watcher_95 : decode cX11_watcher 95 = .ok (.ireturn, 1) := by decide +kernel
theorem dX11_watcher_96 : decode cX11_watcher 96 = .ok (.aload_n 0, 1) := by decide +kernel
theorem dX11_watcher_97 : decode cX11_watcher 97 = .ok (.getfield 46, 3) := by decide +kernel
theorem dX11_watcher_100 : decode cX11_watcher 100 = .ok (.iload_n 1, 1) := by decide +kernel
theorem dX11_watcher_101 : decode cX11_watcher 101 = .ok (.invokevirtual 165, 3) := by decide +kernel
theorem dX11_watcher_104 : decode cX11_watcher 104 = .ok (.ifCond .eq 7, 3) := by decide +kernel
theorem dX11_watcher_107 : decode cX11_watcher 107 = .ok (.iconst 1, 1) := by decide +kernel
theorem dX11_watcher_108 : decode cX11_watcher 108 = .ok (.goto 4, 3) := by decide +kernel
theorem dX11_watcher_111 : decode cX11_watcher 111 = .ok (.iconst 0, 1) := by decide +kernel
theorem dX11_watcher_112 : decode cX11_watcher 112 = .ok (.ireturn, 1) := by decide +kernel
theorem dX11_watcher_113 : decode cX11_watcher 113 = .ok (.iconst (-1), 1) := by decide +kernel
theorem dX11_watcher_114 : decode cX11_watcher 114 = .ok (.ireturn, 1) := by decide +kernel
theorem dX11_thinks_0 : decode cX11_thinks 0 = .ok (.aload_n 0, 1) := by decide +kernel
theorem dX11_thinks_1 : decode cX11_thinks 1 = .ok (.getfield 26, 3) := by decide +kernel
theorem dX11_thinks_4 : decode cX11_thinks 4 = .ok (.iload_n 1, 1) := by decide +kernel
theorem dX11_thinks_5 : decode cX11_thinks 5 = .ok (.iload_n 2, 1) := by decide +kernel
theorem dX11_thinks_6 : decode cX11_thinks 6 = .ok (.invokevirtual 168, 3) := by decide +kernel
theorem dX11_thinks_9 : decode cX11_thinks 9 = .ok (.ifCond .eq 15, 3) := by decide +kernel
theorem dX11_thinks_12 : decode cX11_thinks 12 = .ok (.aload_n 0, 1) := by decide +kernel
theorem dX11_thinks_13 : decode cX11_thinks 13 = .ok (.getfield 46, 3) := by decide +kernel
theorem dX11_thinks_16 : decode cX11_thinks 16 = .ok (.iload_n 1, 1) := by decide +kernel
theorem dX11_thinks_17 : decode cX11_thinks 17 = .ok (.iload_n 2, 1) := by decide +kernel
theorem dX11_thinks_18 : decode cX11_thinks 18 = .ok (.invokevirtual 172, 3) := by decide +kernel
theorem dX11_thinks_21 : decode cX11_thinks 21 = .ok (.goto 5, 3) := by decide +kernel
theorem dX11_thinks_24 : decode cX11_thinks 24 = .ok (.bipush (-2), 2) := by decide +kernel
theorem dX11_thinks_26 : decode cX11_thinks 26 = .ok (.ireturn, 1) := by decide +kernel
theorem dX11_show_0 : decode cX11_show 0 = .ok (.aload_n 0, 1) := by decide +kernel
theorem dX11_show_1 : decode cX11_show 1 = .ok (.getfield 50, 3) := by decide +kernel
theorem dX11_show_4 : decode cX11_show 4 = .ok (.aload_n 0, 1) := by decide +kernel
theorem dX11_show_5 : decode cX11_show 5 = .ok (.getfield 46, 3) := by decide +kernel
theorem dX11_show_8 : decode cX11_show 8 = .ok (.invokevirtual 176, 3) := by decide +kernel
theorem dX11_show_11 : decode cX11_show 11 = .ok (.aload_n 0, 1) := by decide +kernel
theorem dX11_show_12 : decode cX11_show 12 = .ok (.getfield 26, 3) := by decide +kernel
theorem dX11_show_15 : decode cX11_show 15 = .ok (.aload_n 0, 1) := by decide +kernel
theorem dX11_show_16 : decode cX11_show 16 = .ok (.getfield 46, 3) := by decide +kernel
theorem dX11_show_19 : decode cX11_show 19 = .ok (.invokevirtual 179, 3) := by decide +kernel
theorem dX11_show_22 : decode cX11_show 22 = .ok (.istore_n 1, 1) := by decide +kernel
theorem dX11_show_23 : decode cX11_show 23 = .ok (.aload_n 0, 1) := by decide +kernel
theorem dX11_show_24 : decode cX11_show 24 = .ok (.iload_n 1, 1) := by decide +kernel
theorem dX11_show_25 : decode cX11_show 25 = .ok (.iconst (-1), 1) := by decide +kernel
theorem dX11_show_26 : decode cX11_show 26 = .ok (.if_icmp .eq 7, 3) := by decide +kernel
theorem dX11_show_29 : decode cX11_show 29 = .ok (.iconst 1, 1) := by decide +kernel
theorem dX11_show_30 : decode cX11_show 30 = .ok (.goto 4, 3) := by decide +kernel
theorem dX11_show_33 : decode cX11_show 33 = .ok (.iconst 0, 1) := by decide +kernel
theorem dX11_show_34 : decode cX11_show 34 = .ok (.invokevirtual 183, 3) := by decide +kernel
theorem dX11_show_37 : decode cX11_show 37 = .ok (.iload_n 1, 1) := by decide +kernel
theorem dX11_show_38 : decode cX11_show 38 = .ok (.ireturn, 1) := by decide +kernel
theorem dX11_write_0 : decode cX11_write 0 = .ok (.aload_n 0, 1) := by decide +kernel
theorem dX11_write_1 : decode cX11_write 1 = .ok (.getfield 50, 3) := by decide +kernel
theorem dX11_write_4 : decode cX11_write 4 = .ok (.aload_n 0, 1) := by decide +kernel
theorem dX11_write_5 : decode cX11_write 5 = .ok (.getfield 46, 3) := by decide +kernel
theorem dX11_write_8 : decode cX11_write 8 = .ok (.invokevirtual 176, 3) := by decide +kernel
theorem dX11_write_11 : decode cX11_write 11 = .ok (.aload_n 0, 1) := by decide +kernel
theorem dX11_write_12 : decode cX11_write 12 = .ok (.getfield 26, 3) := by decide +kernel
theorem dX11_write_15 : decode cX11_write 15 = .ok (.iload_n 2, 1) := by decide +kernel
theorem dX11_write_16 : decode cX11_write 16 = .ok (.invokevirtual 187, 3) := by decide +kernel
theorem dX11_write_19 : decode cX11_write 19 = .ok (.ifCond .eq 27, 3) := by decide +kernel
theorem dX11_write_22 : decode cX11_write 22 = .ok (.aload_n 0, 1) := by decide +kernel
theorem dX11_write_23 : decode cX11_write 23 = .ok (.getfield 26, 3) := by decide +kernel
theorem dX11_write_26 : decode cX11_write 26 = .ok (.aload_n 0, 1) := by decide +kernel
theorem dX11_write_27 : decode cX11_write 27 = .ok (.getfield 46, 3) := by decide +kernel
theorem dX11_write_30 : decode cX11_write 30 = .ok (.iload_n 1, 1) := by decide +kernel
theorem dX11_write_31 : decode cX11_write 31 = .ok (.iload_n 2, 1) := by decide +kernel
theorem dX11_write_32 : decode cX11_write 32 = .ok (.iload_n 3, 1) := by decide +kernel
theorem dX11_write_33 : decode cX11_write 33 = .ok (.invokestatic 190, 3) := by decide +kernel
theorem dX11_write_36 : decode cX11_write 36 = .ok (.invokevirtual 194, 3) := by decide +kernel
theorem dX11_write_39 : decode cX11_write 39 = .ok (.ifCond .eq 7, 3) := by decide +kernel
theorem dX11_write_42 : decode cX11_write 42 = .ok (.iconst 1, 1) := by decide +kernel
theorem dX11_write_43 : decode cX11_write 43 = .ok (.goto 4, 3) := by decide +kernel
theorem dX11_write_46 : decode cX11_write 46 = .ok (.iconst 0, 1) := by decide +kernel
theorem dX11_write_47 : decode cX11_write 47 = .ok (.istore 4, 2) := by decide +kernel
theorem dX11_write_49 : decode cX11_write 49 = .ok (.aload_n 0, 1) := by decide +kernel
theorem dX11_write_50 : decode cX11_write 50 = .ok (.iload 4, 2) := by decide +kernel
theorem dX11_write_52 : decode cX11_write 52 = .ok (.invokevirtual 183, 3) := by decide +kernel
theorem dX11_write_55 : decode cX11_write 55 = .ok (.iload 4, 2) := by decide +kernel
theorem dX11_write_57 : decode cX11_write 57 = .ok (.ireturn, 1) := by decide +kernel
theorem dX11_cut_0 : decode cX11_cut 0 = .ok (.aload_n 0, 1) := by decide +kernel
theorem dX11_cut_1 : decode cX11_cut 1 = .ok (.getfield 50, 3) := by decide +kernel
theorem dX11_cut_4 : decode cX11_cut 4 = .ok (.aload_n 0, 1) := by decide +kernel
theorem dX11_cut_5 : decode cX11_cut 5 = .ok (.getfield 46, 3) := by decide +kernel
theorem dX11_cut_8 : decode cX11_cut 8 = .ok (.invokevirtual 176, 3) := by decide +kernel
theorem dX11_cut_11 : decode cX11_cut 11 = .ok (.aload_n 0, 1) := by decide +kernel
theorem dX11_cut_12 : decode cX11_cut 12 = .ok (.getfield 26, 3) := by decide +kernel
theorem dX11_cut_15 : decode cX11_cut 15 = .ok (.aload_n 0, 1) := by decide +kernel
theorem dX11_cut_16 : decode cX11_cut 16 = .ok (.getfield 46, 3) := by decide +kernel
theorem dX11_cut_19 : decode cX11_cut 19 = .ok (.iload_n 1, 1) := by decide +kernel
theorem dX11_cut_20 : decode cX11_cut 20 = .ok (.invokevirtual 198, 3) := by decide +kernel
theorem dX11_cut_23 : decode cX11_cut 23 = .ok (.istore_n 2, 1) := by decide +kernel
theorem dX11_cut_24 : decode cX11_cut 24 = .ok (.aload_n 0, 1) := by decide +kernel
theorem dX11_cut_25 : decode cX11_cut 25 = .ok (.iload_n 2, 1) := by decide +kernel
theorem dX11_cut_26 : decode cX11_cut 26 = .ok (.invokevirtual 183, 3) := by decide +kernel
theorem dX11_cut_29 : decode cX11_cut 29 = .ok (.iload_n 2, 1) := by decide +kernel
theorem dX11_cut_30 : decode cX11_cut 30 = .ok (.ireturn, 1) := by decide +kernel
theorem dX11_talk_0 : decode cX11_talk 0 = .ok (.aload_n 0, 1) := by decide +kernel
theorem dX11_talk_1 : decode cX11_talk 1 = .ok (.getfield 50, 3) := by decide +kernel
theorem dX11_talk_4 : decode cX11_talk 4 = .ok (.aload_n 0, 1) := by decide +kernel
theorem dX11_talk_5 : decode cX11_talk 5 = .ok (.getfield 46, 3) := by decide +kernel
theorem dX11_talk_8 : decode cX11_talk 8 = .ok (.invokevirtual 176, 3) := by decide +kernel
theorem dX11_talk_11 : decode cX11_talk 11 = .ok (.aload_n 0, 1) := by decide +kernel
theorem dX11_talk_12 : decode cX11_talk 12 = .ok (.getfield 26, 3) := by decide +kernel
theorem dX11_talk_15 : decode cX11_talk 15 = .ok (.aload_n 0, 1) := by decide +kernel
theorem dX11_talk_16 : decode cX11_talk 16 = .ok (.getfield 46, 3) := by decide +kernel
theorem dX11_talk_19 : decode cX11_talk 19 = .ok (.iload_n 1, 1) := by decide +kernel
theorem dX11_talk_20 : decode cX11_talk 20 = .ok (.iload_n 2, 1) := by decide +kernel
theorem dX11_talk_21 : decode cX11_talk 21 = .ok (.invokevirtual 202, 3) := by decide +kernel
theorem dX11_talk_24 : decode cX11_talk 24 = .ok (.istore_n 3, 1) := by decide +kernel
theorem dX11_talk_25 : decode cX11_talk 25 = .ok (.aload_n 0, 1) := by decide +kernel
theorem dX11_talk_26 : decode cX11_talk 26 = .ok (.iload_n 3, 1) := by decide +kernel
theorem dX11_talk_27 : decode cX11_talk 27 = .ok (.iconst (-1), 1) := by decide +kernel
theorem dX11_talk_28 : decode cX11_talk 28 = .ok (.if_icmp .eq 7, 3) := by decide +kernel
theorem dX11_talk_31 : decode cX11_talk 31 = .ok (.iconst 1, 1) := by decide +kernel
theorem dX11_talk_32 : decode cX11_talk 32 = .ok (.goto 4, 3) := by decide +kernel
theorem dX11_talk_35 : decode cX11_talk 35 = .ok (.iconst 0, 1) := by decide +kernel
theorem dX11_talk_36 : decode cX11_talk 36 = .ok (.invokevirtual 183, 3) := by decide +kernel
theorem dX11_talk_39 : decode cX11_talk 39 = .ok (.iload_n 3, 1) := by decide +kernel
theorem dX11_talk_40 : decode cX11_talk 40 = .ok (.ireturn, 1) := by decide +kernel
theorem dX11_again_0 : decode cX11_again 0 = .ok (.aload_n 0, 1) := by decide +kernel
theorem dX11_again_1 : decode cX11_again 1 = .ok (.getfield 50, 3) := by decide +kernel
theorem dX11_again_4 : decode cX11_again 4 = .ok (.aload_n 0, 1) := by decide +kernel
theorem dX11_again_5 : decode cX11_again 5 = .ok (.getfield 46, 3) := by decide +kernel
theorem dX11_again_8 : decode cX11_again 8 = .ok (.invokevirtual 176, 3) := by decide +kernel
theorem dX11_again_11 : decode cX11_again 11 = .ok (.aload_n 0, 1) := by decide +kernel
theorem dX11_again_12 : decode cX11_again 12 = .ok (.getfield 26, 3) := by decide +kernel
theorem dX11_again_15 : decode cX11_again 15 = .ok (.aload_n 0, 1) := by decide +kernel
theorem dX11_again_16 : decode cX11_again 16 = .ok (.getfield 46, 3) := by decide +kernel
theorem dX11_again_19 : decode cX11_again 19 = .ok (.invokevirtual 206, 3) := by decide +kernel
theorem dX11_again_22 : decode cX11_again 22 = .ok (.istore_n 1, 1) := by decide +kernel
theorem dX11_again_23 : decode cX11_again 23 = .ok (.aload_n 0, 1) := by decide +kernel
theorem dX11_again_24 : decode cX11_again 24 = .ok (.iload_n 1, 1) := by decide +kernel
theorem dX11_again_25 : decode cX11_again 25 = .ok (.iconst (-1), 1) := by decide +kernel
theorem dX11_again_26 : decode cX11_again 26 = .ok (.if_icmp .eq 7, 3) := by decide +kernel
theorem dX11_again_29 : decode cX11_again 29 = .ok (.iconst 1, 1) := by decide +kernel
theorem dX11_again_30 : decode cX11_again 30 = .ok (.goto 4, 3) := by decide +kernel
theorem dX11_again_33 : decode cX11_again 33 = .ok (.iconst 0, 1) := by decide +kernel
theorem dX11_again_34 : decode cX11_again 34 = .ok (.invokevirtual 183, 3) := by decide +kernel
theorem dX11_again_37 : decode cX11_again 37 = .ok (.iload_n 1, 1) := by decide +kernel
theorem dX11_again_38 : decode cX11_again 38 = .ok (.ireturn, 1) := by decide +kernel
theorem dX11_keepPast_0 : decode cX11_keepPast 0 = .ok (.iload_n 1, 1) := by decide +kernel
theorem dX11_keepPast_1 : decode cX11_keepPast 1 = .ok (.ifCond .eq 14, 3) := by decide +kernel
theorem dX11_keepPast_4 : decode cX11_keepPast 4 = .ok (.aload_n 0, 1) := by decide +kernel
theorem dX11_keepPast_5 : decode cX11_keepPast 5 = .ok (.getfield 56, 3) := by decide +kernel
theorem dX11_keepPast_8 : decode cX11_keepPast 8 = .ok (.aload_n 0, 1) := by decide +kernel
theorem dX11_keepPast_9 : decode cX11_keepPast 9 = .ok (.getfield 50, 3) := by decide +kernel
theorem dX11_keepPast_12 : decode cX11_keepPast 12 = .ok (.invokevirtual 209, 3) := by decide +kernel
theorem dX11_keepPast_15 : decode cX11_keepPast 15 = .ok (.return_, 1) := by decide +kernel
theorem dX11_undo_0 : decode cX11_undo 0 = .ok (.aload_n 0, 1) := by decide +kernel
theorem dX11_undo_1 : decode cX11_undo 1 = .ok (.getfield 56, 3) := by decide +kernel
theorem dX11_undo_4 : decode cX11_undo 4 = .ok (.aload_n 0, 1) := by decide +kernel
theorem dX11_undo_5 : decode cX11_undo 5 = .ok (.getfield 46, 3) := by decide +kernel
theorem dX11_undo_8 : decode cX11_undo 8 = .ok (.invokevirtual 212, 3) := by decide +kernel
theorem dX11_undo_11 : decode cX11_undo 11 = .ok (.ireturn, 1) := by decide +kernel
theorem dX11_judged_0 : decode cX11_judged 0 = .ok (.iload_n 1, 1) := by decide +kernel
theorem dX11_judged_1 : decode cX11_judged 1 = .ok (.ifCond .lt 8, 3) := by decide +kernel
theorem dX11_judged_4 : decode cX11_judged 4 = .ok (.iload_n 1, 1) := by decide +kernel
theorem dX11_judged_5 : decode cX11_judged 5 = .ok (.iconst 2, 1) := by decide +kernel
theorem dX11_judged_6 : decode cX11_judged 6 = .ok (.if_icmp .le 6, 3) := by decide +kernel
theorem dX11_judged_9 : decode cX11_judged 9 = .ok (.bipush (-2), 2) := by decide +kernel
theorem dX11_judged_11 : decode cX11_judged 11 = .ok (.ireturn, 1) := by decide +kernel
theorem dX11_judged_12 : decode cX11_judged 12 = .ok (.aload_n 0, 1) := by decide +kernel
theorem dX11_judged_13 : decode cX11_judged 13 = .ok (.getfield 26, 3) := by decide +kernel
theorem dX11_judged_16 : decode cX11_judged 16 = .ok (.aload_n 0, 1) := by decide +kernel
theorem dX11_judged_17 : decode cX11_judged 17 = .ok (.getfield 50, 3) := by decide +kernel
theorem dX11_judged_20 : decode cX11_judged 20 = .ok (.invokevirtual 81, 3) := by decide +kernel
theorem dX11_judged_23 : decode cX11_judged 23 = .ok (.iconst (-1), 1) := by decide +kernel
theorem dX11_judged_24 : decode cX11_judged 24 = .ok (.istore_n 2, 1) := by decide +kernel
theorem dX11_judged_25 : decode cX11_judged 25 = .ok (.iconst (-1), 1) := by decide +kernel
theorem dX11_judged_26 : decode cX11_judged 26 = .ok (.istore_n 3, 1) := by decide +kernel
theorem dX11_judged_27 : decode cX11_judged 27 = .ok (.iconst 0, 1) := by decide +kernel
theorem dX11_judged_28 : decode cX11_judged 28 = .ok (.istore 4, 2) := by decide +kernel
theorem dX11_judged_30 : decode cX11_judged 30 = .ok (.iload 4, 2) := by decide +kernel
theorem dX11_judged_32 : decode cX11_judged 32 = .ok (.aload_n 0, 1) := by decide +kernel
theorem dX11_judged_33 : decode cX11_judged 33 = .ok (.getfield 36, 3) := by decide +kernel
theorem dX11_judged_36 : decode cX11_judged 36 = .ok (.getfield 100, 3) := by decide +kernel
theorem dX11_judged_39 : decode cX11_judged 39 = .ok (.if_icmp .ge 44, 3) := by decide +kernel
theorem dX11_judged_42 : decode cX11_judged 42 = .ok (.aload_n 0, 1) := by decide +kernel
theorem dX11_judged_43 : decode cX11_judged 43 = .ok (.iload 4, 2) := by decide +kernel
theorem dX11_judged_45 : decode cX11_judged 45 = .ok (.invokevirtual 216, 3) := by decide +kernel
theorem dX11_judged_48 : decode cX11_judged 48 = .ok (.istore 5, 2) := by decide +kernel
theorem dX11_judged_50 : decode cX11_judged 50 = .ok (.iload 5, 2) := by decide +kernel
theorem dX11_judged_52 : decode cX11_judged 52 = .ok (.iconst (-1), 1) := by decide +kernel
theorem dX11_judged_53 : decode cX11_judged 53 = .ok (.if_icmp .ne 11, 3) := by decide +kernel
theorem dX11_judged_56 : decode cX11_judged 56 = .ok (.iload_n 2, 1) := by decide +kernel
theorem dX11_judged_57 : decode cX11_judged 57 = .ok (.iconst (-1), 1) := by decide +kernel
theorem dX11_judged_58 : decode cX11_judged 58 = .ok (.if_icmp .ne 6, 3) := by decide +kernel
theorem dX11_judged_61 : decode cX11_judged 61 = .ok (.iload 4, 2) := by decide +kernel
theorem dX11_judged_63 : decode cX11_judged 63 = .ok (.istore_n 2, 1) := by decide +kernel
theorem dX11_judged_64 : decode cX11_judged 64 = .ok (.iload 5, 2) := by decide +kernel
theorem dX11_judged_66 : decode cX11_judged 66 = .ok (.ifCond .le 11, 3) := by decide +kernel
theorem dX11_judged_69 : decode cX11_judged 69 = .ok (.iload_n 3, 1) := by decide +kernel
theorem dX11_judged_70 : decode cX11_judged 70 = .ok (.iconst (-1), 1) := by decide +kernel
theorem dX11_judged_71 : decode cX11_judged 71 = .ok (.if_icmp .ne 6, 3) := by decide +kernel
theorem dX11_judged_74 : decode cX11_judged 74 = .ok (.iload 4, 2) := by decide +kernel
theorem dX11_judged_76 : decode cX11_judged 76 = .ok (.istore_n 3, 1) := by decide +kernel
theorem dX11_judged_77 : decode cX11_judged 77 = .ok (.iinc 4 1, 3) := by decide +kernel
theorem dX11_judged_80 : decode cX11_judged 80 = .ok (.goto (-50), 3) := by decide +kernel
theorem dX11_judged_83 : decode cX11_judged 83 = .ok (.iload_n 1, 1) := by decide +kernel
theorem dX11_judged_84 : decode cX11_judged 84 = .ok (.iconst 2, 1) := by decide +kernel
theorem dX11_judged_85 : decode cX11_judged 85 = .ok (.if_icmp .ne 14, 3) := by decide +kernel
theorem dX11_judged_88 : decode cX11_judged 88 = .ok (.aload_n 0, 1) := by decide +kernel
theorem dX11_judged_89 : decode cX11_judged 89 = .ok (.getfield 50, 3) := by decide +kernel
theorem dX11_judged_92 : decode cX11_judged 92 = .ok (.getfield 219, 3) := by decide +kernel
theorem dX11_judged_95 : decode cX11_judged 95 = .ok (.invokestatic 222, 3) := by decide +kernel
theorem dX11_judged_98 : decode cX11_judged 98 = .ok (.ireturn, 1) := by decide +kernel
theorem dX11_judged_99 : decode cX11_judged 99 = .ok (.iload_n 1, 1) := by decide +kernel
theorem dX11_judged_100 : decode cX11_judged 100 = .ok (.ifCond .ne 7, 3) := by decide +kernel
theorem dX11_judged_103 : decode cX11_judged 103 = .ok (.iload_n 2, 1) := by decide +kernel
theorem dX11_judged_104 : decode cX11_judged 104 = .ok (.goto 4, 3) := by decide +kernel
theorem dX11_judged_107 : decode cX11_judged 107 = .ok (.iload_n 3, 1) := by decide +kernel
theorem dX11_judged_108 : decode cX11_judged 108 = .ok (.ireturn, 1) := by decide +kernel
theorem dX11_play_0 : decode cX11_play 0 = .ok (.aload_n 0, 1) := by decide +kernel
theorem dX11_play_1 : decode cX11_play 1 = .ok (.getfield 36, 3) := by decide +kernel
theorem dX11_play_4 : decode cX11_play 4 = .ok (.getfield 227, 3) := by decide +kernel
theorem dX11_play_7 : decode cX11_play 7 = .ok (.iload_n 1, 1) := by decide +kernel
theorem dX11_play_8 : decode cX11_play 8 = .ok (.invokestatic 150, 3) := by decide +kernel
theorem dX11_play_11 : decode cX11_play 11 = .ok (.istore_n 2, 1) := by decide +kernel
theorem dX11_play_12 : decode cX11_play 12 = .ok (.aload_n 0, 1) := by decide +kernel
theorem dX11_play_13 : decode cX11_play 13 = .ok (.getfield 36, 3) := by decide +kernel
theorem dX11_play_16 : decode cX11_play 16 = .ok (.getfield 230, 3) := by decide +kernel
theorem dX11_play_19 : decode cX11_play 19 = .ok (.iload_n 1, 1) := by decide +kernel
theorem dX11_play_20 : decode cX11_play 20 = .ok (.invokestatic 150, 3) := by decide +kernel
theorem dX11_play_23 : decode cX11_play 23 = .ok (.istore_n 3, 1) := by decide +kernel
theorem dX11_play_24 : decode cX11_play 24 = .ok (.aload_n 0, 1) := by decide +kernel
theorem dX11_play_25 : decode cX11_play 25 = .ok (.getfield 36, 3) := by decide +kernel
theorem dX11_play_28 : decode cX11_play 28 = .ok (.getfield 233, 3) := by decide +kernel
theorem dX11_play_31 : decode cX11_play 31 = .ok (.iload_n 1, 1) := by decide +kernel
theorem dX11_play_32 : decode cX11_play 32 = .ok (.invokestatic 150, 3) := by decide +kernel
theorem dX11_play_35 : decode cX11_play 35 = .ok (.tableswitch 107 0 3 #[29, 41, 63, 84], 29) := by decide +kernel
theorem dX11_play_64 : decode cX11_play 64 = .ok (.aload_n 0, 1) := by decide +kernel
theorem dX11_play_65 : decode cX11_play 65 = .ok (.getfield 26, 3) := by decide +kernel
theorem dX11_play_68 : decode cX11_play 68 = .ok (.aload_n 0, 1) := by decide +kernel
theorem dX11_play_69 : decode cX11_play 69 = .ok (.getfield 50, 3) := by decide +kernel
theorem dX11_play_72 : decode cX11_play 72 = .ok (.invokevirtual 179, 3) := by decide +kernel
theorem dX11_play_75 : decode cX11_play 75 = .ok (.ireturn, 1) := by decide +kernel
theorem dX11_play_76 : decode cX11_play 76 = .ok (.aload_n 0, 1) := by decide +kernel
theorem dX11_play_77 : decode cX11_play 77 = .ok (.getfield 26, 3) := by decide +kernel
theorem dX11_play_80 : decode cX11_play 80 = .ok (.aload_n 0, 1) := by decide +kernel
theorem dX11_play_81 : decode cX11_play 81 = .ok (.getfield 50, 3) := by decide +kernel
theorem dX11_play_84 : decode cX11_play 84 = .ok (.iload_n 2, 1) := by decide +kernel
theorem dX11_play_85 : decode cX11_play 85 = .ok (.iload_n 3, 1) := by decide +kernel
theorem dX11_play_86 : decode cX11_play 86 = .ok (.invokevirtual 194, 3) := by decide +kernel
theorem dX11_play_89 : decode cX11_play 89 = .ok (.ifCond .eq 7, 3) := by decide +kernel
theorem dX11_play_92 : decode cX11_play 92 = .ok (.iconst 0, 1) := by decide +kernel
theorem dX11_play_93 : decode cX11_play 93 = .ok (.goto 4, 3) := by decide +kernel
theorem dX11_play_96 : decode cX11_play 96 = .ok (.iconst (-1), 1) := by decide +kernel
theorem dX11_play_97 : decode cX11_play 97 = .ok (.ireturn, 1) := by decide +kernel
theorem dX11_play_98 : decode cX11_play 98 = .ok (.aload_n 0, 1) := by decide +kernel
theorem dX11_play_99 : decode cX11_play 99 = .ok (.getfield 26, 3) := by decide +kernel
theorem dX11_play_102 : decode cX11_play 102 = .ok (.aload_n 0, 1) := by decide +kernel
theorem dX11_play_103 : decode cX11_play 103 = .ok (.getfield 50, 3) := by decide +kernel
theorem dX11_play_106 : decode cX11_play 106 = .ok (.iload_n 2, 1) := by decide +kernel
theorem dX11_play_107 : decode cX11_play 107 = .ok (.invokevirtual 198, 3) := by decide +kernel
theorem dX11_play_110 : decode cX11_play 110 = .ok (.ifCond .eq 7, 3) := by decide +kernel
theorem dX11_play_113 : decode cX11_play 113 = .ok (.iconst 0, 1) := by decide +kernel
theorem dX11_play_114 : decode cX11_play 114 = .ok (.goto 4, 3) := by decide +kernel
theorem dX11_play_117 : decode cX11_play 117 = .ok (.iconst (-1), 1) := by decide +kernel
theorem dX11_play_118 : decode cX11_play 118 = .ok (.ireturn, 1) := by decide +kernel
theorem dX11_play_119 : decode cX11_play 119 = .ok (.aload_n 0, 1) := by decide +kernel
theorem dX11_play_120 : decode cX11_play 120 = .ok (.getfield 26, 3) := by decide +kernel
theorem dX11_play_123 : decode cX11_play 123 = .ok (.aload_n 0, 1) := by decide +kernel
theorem dX11_play_124 : decode cX11_play 124 = .ok (.getfield 50, 3) := by decide +kernel
theorem dX11_play_127 : decode cX11_play 127 = .ok (.iload_n 2, 1) := by decide +kernel
theorem dX11_play_128 : decode cX11_play 128 = .ok (.iload_n 3, 1) := by decide +kernel
theorem dX11_play_129 : decode cX11_play 129 = .ok (.invokevirtual 202, 3) := by decide +kernel
theorem dX11_play_132 : decode cX11_play 132 = .ok (.iconst (-1), 1) := by decide +kernel
theorem dX11_play_133 : decode cX11_play 133 = .ok (.if_icmp .eq 7, 3) := by decide +kernel
theorem dX11_play_136 : decode cX11_play 136 = .ok (.iconst 0, 1) := by decide +kernel
theorem dX11_play_137 : decode cX11_play 137 = .ok (.goto 4, 3) := by decide +kernel
theorem dX11_play_140 : decode cX11_play 140 = .ok (.iconst (-1), 1) := by decide +kernel
theorem dX11_play_141 : decode cX11_play 141 = .ok (.ireturn, 1) := by decide +kernel
theorem dX11_play_142 : decode cX11_play 142 = .ok (.aload_n 0, 1) := by decide +kernel
theorem dX11_play_143 : decode cX11_play 143 = .ok (.getfield 26, 3) := by decide +kernel
theorem dX11_play_146 : decode cX11_play 146 = .ok (.aload_n 0, 1) := by decide +kernel
theorem dX11_play_147 : decode cX11_play 147 = .ok (.getfield 50, 3) := by decide +kernel
theorem dX11_play_150 : decode cX11_play 150 = .ok (.invokevirtual 206, 3) := by decide +kernel
theorem dX11_play_153 : decode cX11_play 153 = .ok (.iconst (-1), 1) := by decide +kernel
theorem dX11_play_154 : decode cX11_play 154 = .ok (.if_icmp .eq 7, 3) := by decide +kernel
theorem dX11_play_157 : decode cX11_play 157 = .ok (.iconst 0, 1) := by decide +kernel
theorem dX11_play_158 : decode cX11_play 158 = .ok (.goto 4, 3) := by decide +kernel
theorem dX11_play_161 : decode cX11_play 161 = .ok (.iconst (-1), 1) := by decide +kernel
theorem dX11_play_162 : decode cX11_play 162 = .ok (.ireturn, 1) := by decide +kernel
theorem dX11_end_0 : decode cX11_end 0 = .ok (.aload_n 0, 1) := by decide +kernel
theorem dX11_end_1 : decode cX11_end 1 = .ok (.getfield 26, 3) := by decide +kernel
theorem dX11_end_4 : decode cX11_end 4 = .ok (.iload_n 1, 1) := by decide +kernel
theorem dX11_end_5 : decode cX11_end 5 = .ok (.iload_n 2, 1) := by decide +kernel
theorem dX11_end_6 : decode cX11_end 6 = .ok (.invokevirtual 168, 3) := by decide +kernel
theorem dX11_end_9 : decode cX11_end 9 = .ok (.ifCond .ne 6, 3) := by decide +kernel
theorem dX11_end_12 : decode cX11_end 12 = .ok (.bipush (-2), 2) := by decide +kernel
theorem dX11_end_14 : decode cX11_end 14 = .ok (.ireturn, 1) := by decide +kernel
theorem dX11_end_15 : decode cX11_end 15 = .ok (.aload_n 0, 1) := by decide +kernel
theorem dX11_end_16 : decode cX11_end 16 = .ok (.getfield 50, 3) := by decide +kernel
theorem dX11_end_19 : decode cX11_end 19 = .ok (.aload_n 0, 1) := by decide +kernel
theorem dX11_end_20 : decode cX11_end 20 = .ok (.getfield 46, 3) := by decide +kernel
theorem dX11_end_23 : decode cX11_end 23 = .ok (.invokevirtual 176, 3) := by decide +kernel
theorem dX11_end_26 : decode cX11_end 26 = .ok (.aload_n 0, 1) := by decide +kernel
theorem dX11_end_27 : decode cX11_end 27 = .ok (.getfield 26, 3) := by decide +kernel
theorem dX11_end_30 : decode cX11_end 30 = .ok (.aload_n 0, 1) := by decide +kernel
theorem dX11_end_31 : decode cX11_end 31 = .ok (.getfield 50, 3) := by decide +kernel
theorem dX11_end_34 : decode cX11_end 34 = .ok (.invokevirtual 236, 3) := by decide +kernel
theorem dX11_end_37 : decode cX11_end 37 = .ok (.aload_n 0, 1) := by decide +kernel
theorem dX11_end_38 : decode cX11_end 38 = .ok (.getfield 50, 3) := by decide +kernel
theorem dX11_end_41 : decode cX11_end 41 = .ok (.iload_n 1, 1) := by decide +kernel
theorem dX11_end_42 : decode cX11_end 42 = .ok (.iload_n 2, 1) := by decide +kernel
theorem dX11_end_43 : decode cX11_end 43 = .ok (.invokevirtual 172, 3) := by decide +kernel
theorem dX11_end_46 : decode cX11_end 46 = .ok (.ireturn, 1) := by decide +kernel
theorem dX11_first_0 : decode cX11_first 0 = .ok (.iload_n 1, 1) := by decide +kernel
theorem dX11_first_1 : decode cX11_first 1 = .ok (.ifCond .lt 8, 3) := by decide +kernel
theorem dX11_first_4 : decode cX11_first 4 = .ok (.iload_n 1, 1) := by decide +kernel
theorem dX11_first_5 : decode cX11_first 5 = .ok (.iconst 1, 1) := by decide +kernel
theorem dX11_first_6 : decode cX11_first 6 = .ok (.if_icmp .le 5, 3) := by decide +kernel
theorem dX11_first_9 : decode cX11_first 9 = .ok (.iconst (-1), 1) := by decide +kernel
theorem dX11_first_10 : decode cX11_first 10 = .ok (.ireturn, 1) := by decide +kernel
theorem dX11_first_11 : decode cX11_first 11 = .ok (.aload_n 0, 1) := by decide +kernel
theorem dX11_first_12 : decode cX11_first 12 = .ok (.getfield 50, 3) := by decide +kernel
theorem dX11_first_15 : decode cX11_first 15 = .ok (.aload_n 0, 1) := by decide +kernel
theorem dX11_first_16 : decode cX11_first 16 = .ok (.getfield 46, 3) := by decide +kernel
theorem dX11_first_19 : decode cX11_first 19 = .ok (.invokevirtual 176, 3) := by decide +kernel
theorem dX11_first_22 : decode cX11_first 22 = .ok (.aload_n 0, 1) := by decide +kernel
theorem dX11_first_23 : decode cX11_first 23 = .ok (.getfield 46, 3) := by decide +kernel
theorem dX11_first_26 : decode cX11_first 26 = .ok (.getfield 141, 3) := by decide +kernel
theorem dX11_first_29 : decode cX11_first 29 = .ok (.istore_n 2, 1) := by decide +kernel
theorem dX11_first_30 : decode cX11_first 30 = .ok (.iload_n 2, 1) := by decide +kernel
theorem dX11_first_31 : decode cX11_first 31 = .ok (.aload_n 0, 1) := by decide +kernel
theorem dX11_first_32 : decode cX11_first 32 = .ok (.getfield 26, 3) := by decide +kernel
theorem dX11_first_35 : decode cX11_first 35 = .ok (.getfield 239, 3) := by decide +kernel
theorem dX11_first_38 : decode cX11_first 38 = .ok (.if_icmp .ge 38, 3) := by decide +kernel
theorem dX11_first_41 : decode cX11_first 41 = .ok (.aload_n 0, 1) := by decide +kernel
theorem dX11_first_42 : decode cX11_first 42 = .ok (.getfield 26, 3) := by decide +kernel
theorem dX11_first_45 : decode cX11_first 45 = .ok (.aload_n 0, 1) := by decide +kernel
theorem dX11_first_46 : decode cX11_first 46 = .ok (.getfield 50, 3) := by decide +kernel
theorem dX11_first_49 : decode cX11_first 49 = .ok (.invokevirtual 179, 3) := by decide +kernel
theorem dX11_first_52 : decode cX11_first 52 = .ok (.istore_n 3, 1) := by decide +kernel
theorem dX11_first_53 : decode cX11_first 53 = .ok (.iload_n 3, 1) := by decide +kernel
theorem dX11_first_54 : decode cX11_first 54 = .ok (.ifCond .le 16, 3) := by decide +kernel
theorem dX11_first_57 : decode cX11_first 57 = .ok (.iload_n 1, 1) := by decide +kernel
theorem dX11_first_58 : decode cX11_first 58 = .ok (.ifCond .ne 10, 3) := by decide +kernel
theorem dX11_first_61 : decode cX11_first 61 = .ok (.iload_n 3, 1) := by decide +kernel
theorem dX11_first_62 : decode cX11_first 62 = .ok (.invokestatic 242, 3) := by decide +kernel
theorem dX11_first_65 : decode cX11_first 65 = .ok (.goto 4, 3) := by decide +kernel
theorem dX11_first_68 : decode cX11_first 68 = .ok (.iload_n 2, 1) := by decide +kernel
theorem dX11_first_69 : decode cX11_first 69 = .ok (.ireturn, 1) := by decide +kernel
theorem dX11_first_70 : decode cX11_first 70 = .ok (.iinc 2 1, 3) := by decide +kernel
theorem dX11_first_73 : decode cX11_first 73 = .ok (.goto (-43), 3) := by decide +kernel
theorem dX11_first_76 : decode cX11_first 76 = .ok (.iconst (-1), 1) := by decide +kernel
theorem dX11_first_77 : decode cX11_first 77 = .ok (.ireturn, 1) := by decide +kernel
theorem dX11_forge_0 : decode cX11_forge 0 = .ok (.aload_n 0, 1) := by decide +kernel
theorem dX11_forge_1 : decode cX11_forge 1 = .ok (.getfield 26, 3) := by decide +kernel
theorem dX11_forge_4 : decode cX11_forge 4 = .ok (.iload_n 1, 1) := by decide +kernel
theorem dX11_forge_5 : decode cX11_forge 5 = .ok (.iload_n 2, 1) := by decide +kernel
theorem dX11_forge_6 : decode cX11_forge 6 = .ok (.invokevirtual 168, 3) := by decide +kernel
theorem dX11_forge_9 : decode cX11_forge 9 = .ok (.ifCond .ne 5, 3) := by decide +kernel
theorem dX11_forge_12 : decode cX11_forge 12 = .ok (.iconst (-1), 1) := by decide +kernel
theorem dX11_forge_13 : decode cX11_forge 13 = .ok (.ireturn, 1) := by decide +kernel
theorem dX11_forge_14 : decode cX11_forge 14 = .ok (.aload_n 0, 1) := by decide +kernel
theorem dX11_forge_15 : decode cX11_forge 15 = .ok (.getfield 50, 3) := by decide +kernel
theorem dX11_forge_18 : decode cX11_forge 18 = .ok (.aload_n 0, 1) := by decide +kernel
theorem dX11_forge_19 : decode cX11_forge 19 = .ok (.getfield 46, 3) := by decide +kernel
theorem dX11_forge_22 : decode cX11_forge 22 = .ok (.invokevirtual 176, 3) := by decide +kernel
theorem dX11_forge_25 : decode cX11_forge 25 = .ok (.aload_n 0, 1) := by decide +kernel
theorem dX11_forge_26 : decode cX11_forge 26 = .ok (.getfield 26, 3) := by decide +kernel
theorem dX11_forge_29 : decode cX11_forge 29 = .ok (.aload_n 0, 1) := by decide +kernel
theorem dX11_forge_30 : decode cX11_forge 30 = .ok (.getfield 50, 3) := by decide +kernel
theorem dX11_forge_33 : decode cX11_forge 33 = .ok (.invokevirtual 236, 3) := by decide +kernel
theorem dX11_forge_36 : decode cX11_forge 36 = .ok (.aload_n 0, 1) := by decide +kernel
theorem dX11_forge_37 : decode cX11_forge 37 = .ok (.getfield 50, 3) := by decide +kernel
theorem dX11_forge_40 : decode cX11_forge 40 = .ok (.getfield 219, 3) := by decide +kernel
theorem dX11_forge_43 : decode cX11_forge 43 = .ok (.istore 4, 2) := by decide +kernel
theorem dX11_forge_45 : decode cX11_forge 45 = .ok (.aload_n 0, 1) := by decide +kernel
theorem dX11_forge_46 : decode cX11_forge 46 = .ok (.invokevirtual 245, 3) := by decide +kernel
theorem dX11_forge_49 : decode cX11_forge 49 = .ok (.istore 5, 2) := by decide +kernel
theorem dX11_forge_51 : decode cX11_forge 51 = .ok (.iconst (-1), 1) := by decide +kernel
theorem dX11_forge_52 : decode cX11_forge 52 = .ok (.istore 6, 2) := by decide +kernel
theorem dX11_forge_54 : decode cX11_forge 54 = .ok (.iconst 0, 1) := by decide +kernel
theorem dX11_forge_55 : decode cX11_forge 55 = .ok (.istore 7, 2) := by decide +kernel
theorem dX11_forge_57 : decode cX11_forge 57 = .ok (.iload 7, 2) := by decide +kernel
theorem dX11_forge_59 : decode cX11_forge 59 = .ok (.sipush 256, 3) := by decide +kernel
theorem dX11_forge_62 : decode cX11_forge 62 = .ok (.if_icmp .ge 80, 3) := by decide +kernel
theorem dX11_forge_65 : decode cX11_forge 65 = .ok (.iload 7, 2) := by decide +kernel
theorem dX11_forge_67 : decode cX11_forge 67 = .ok (.iload 5, 2) := by decide +kernel
theorem dX11_forge_69 : decode cX11_forge 69 = .ok (.iconst (-1), 1) := by decide +kernel
theorem dX11_forge_70 : decode cX11_forge 70 = .ok (.ixor, 1) := by decide +kernel
theorem dX11_forge_71 : decode cX11_forge 71 = .ok (.iand, 1) := by decide +kernel
theorem dX11_forge_72 : decode cX11_forge 72 = .ok (.ifCond .ne 64, 3) := by decide +kernel
theorem dX11_forge_75 : decode cX11_forge 75 = .ok (.iload 7, 2) := by decide +kernel
theorem dX11_forge_77 : decode cX11_forge 77 = .ok (.iload 6, 2) := by decide +kernel
theorem dX11_forge_79 : decode cX11_forge 79 = .ok (.invokestatic 249, 3) := by decide +kernel
theorem dX11_forge_82 : decode cX11_forge 82 = .ok (.ifCond .eq 54, 3) := by decide +kernel
theorem dX11_forge_85 : decode cX11_forge 85 = .ok (.aload_n 0, 1) := by decide +kernel
theorem dX11_forge_86 : decode cX11_forge 86 = .ok (.iload 7, 2) := by decide +kernel
theorem dX11_forge_88 : decode cX11_forge 88 = .ok (.iload_n 2, 1) := by decide +kernel
theorem dX11_forge_89 : decode cX11_forge 89 = .ok (.iload_n 3, 1) := by decide +kernel
theorem dX11_forge_90 : decode cX11_forge 90 = .ok (.invokestatic 190, 3) := by decide +kernel
theorem dX11_forge_93 : decode cX11_forge 93 = .ok (.invokevirtual 252, 3) := by decide +kernel
theorem dX11_forge_96 : decode cX11_forge 96 = .ok (.aload_n 0, 1) := by decide +kernel
theorem dX11_forge_97 : decode cX11_forge 97 = .ok (.getfield 50, 3) := by decide +kernel
theorem dX11_forge_100 : decode cX11_forge 100 = .ok (.iload_n 1, 1) := by decide +kernel
theorem dX11_forge_101 : decode cX11_forge 101 = .ok (.iload_n 2, 1) := by decide +kernel
theorem dX11_forge_102 : decode cX11_forge 102 = .ok (.invokevirtual 172, 3) := by decide +kernel
theorem dX11_forge_105 : decode cX11_forge 105 = .ok (.iload_n 3, 1) := by decide +kernel
theorem dX11_forge_106 : decode cX11_forge 106 = .ok (.ifCond .eq 7, 3) := by decide +kernel
theorem dX11_forge_109 : decode cX11_forge 109 = .ok (.iconst 1, 1) := by decide +kernel
theorem dX11_forge_110 : decode cX11_forge 110 = .ok (.goto 4, 3) := by decide +kernel
theorem dX11_forge_113 : decode cX11_forge 113 = .ok (.iconst 0, 1) := by decide +kernel
theorem dX11_forge_114 : decode cX11_forge 114 = .ok (.if_icmp .ne 22, 3) := by decide +kernel
theorem dX11_forge_117 : decode cX11_forge 117 = .ok (.iload 4, 2) := by decide +kernel
theorem dX11_forge_119 : decode cX11_forge 119 = .ok (.aload_n 0, 1) := by decide +kernel
theorem dX11_forge_120 : decode cX11_forge 120 = .ok (.getfield 50, 3) := by decide +kernel
theorem dX11_forge_123 : decode cX11_forge 123 = .ok (.getfield 219, 3) := by decide +kernel
theorem dX11_forge_126 : decode cX11_forge 126 = .ok (.iconst (-1), 1) := by decide +kernel
theorem dX11_forge_127 : decode cX11_forge 127 = .ok (.ixor, 1) := by decide +kernel
theorem dX11_forge_128 : decode cX11_forge 128 = .ok (.iand, 1) := by decide +kernel
theorem dX11_forge_129 : decode cX11_forge 129 = .ok (.ifCond .ne 7, 3) := by decide +kernel
theorem dX11_forge_132 : decode cX11_forge 132 = .ok (.iload 7, 2) := by decide +kernel
theorem dX11_forge_134 : decode cX11_forge 134 = .ok (.istore 6, 2) := by decide +kernel
theorem dX11_forge_136 : decode cX11_forge 136 = .ok (.iinc 7 1, 3) := by decide +kernel
theorem dX11_forge_139 : decode cX11_forge 139 = .ok (.goto (-82), 3) := by decide +kernel
theorem dX11_forge_142 : decode cX11_forge 142 = .ok (.iload 6, 2) := by decide +kernel
theorem dX11_forge_144 : decode cX11_forge 144 = .ok (.ireturn, 1) := by decide +kernel
theorem dX11_isFewer_0 : decode cX11_isFewer 0 = .ok (.iload_n 1, 1) := by decide +kernel
theorem dX11_isFewer_1 : decode cX11_isFewer 1 = .ok (.iconst (-1), 1) := by decide +kernel
theorem dX11_isFewer_2 : decode cX11_isFewer 2 = .ok (.if_icmp .eq 14, 3) := by decide +kernel
theorem dX11_isFewer_5 : decode cX11_isFewer 5 = .ok (.iload_n 0, 1) := by decide +kernel
theorem dX11_isFewer_6 : decode cX11_isFewer 6 = .ok (.invokestatic 222, 3) := by decide +kernel
theorem dX11_isFewer_9 : decode cX11_isFewer 9 = .ok (.iload_n 1, 1) := by decide +kernel
theorem dX11_isFewer_10 : decode cX11_isFewer 10 = .ok (.invokestatic 222, 3) := by decide +kernel
theorem dX11_isFewer_13 : decode cX11_isFewer 13 = .ok (.if_icmp .ge 7, 3) := by decide +kernel
theorem dX11_isFewer_16 : decode cX11_isFewer 16 = .ok (.iconst 1, 1) := by decide +kernel
theorem dX11_isFewer_17 : decode cX11_isFewer 17 = .ok (.goto 4, 3) := by decide +kernel
theorem dX11_isFewer_20 : decode cX11_isFewer 20 = .ok (.iconst 0, 1) := by decide +kernel
theorem dX11_isFewer_21 : decode cX11_isFewer 21 = .ok (.ireturn, 1) := by decide +kernel
theorem dX11_finishWritten_0 : decode cX11_finishWritten 0 = .ok (.aload_n 0, 1) := by decide +kernel
theorem dX11_finishWritten_1 : decode cX11_finishWritten 1 = .ok (.getfield 50, 3) := by decide +kernel
theorem dX11_finishWritten_4 : decode cX11_finishWritten 4 = .ok (.aload_n 0, 1) := by decide +kernel
theorem dX11_finishWritten_5 : decode cX11_finishWritten 5 = .ok (.getfield 46, 3) := by decide +kernel
theorem dX11_finishWritten_8 : decode cX11_finishWritten 8 = .ok (.invokevirtual 176, 3) := by decide +kernel
theorem dX11_finishWritten_11 : decode cX11_finishWritten 11 = .ok (.iconst 0, 1) := by decide +kernel
theorem dX11_finishWritten_12 : decode cX11_finishWritten 12 = .ok (.istore_n 3, 1) := by decide +kernel
theorem dX11_finishWritten_13 : decode cX11_finishWritten 13 = .ok (.iload_n 3, 1) := by decide +kernel
theorem dX11_finishWritten_14 : decode cX11_finishWritten 14 = .ok (.aload_n 0, 1) := by decide +kernel
theorem dX11_finishWritten_15 : decode cX11_finishWritten 15 = .ok (.getfield 26, 3) := by decide +kernel
theorem dX11_finishWritten_18 : decode cX11_finishWritten 18 = .ok (.getfield 239, 3) := by decide +kernel
theorem dX11_finishWritten_21 : decode cX11_finishWritten 21 = .ok (.if_icmp .ge 30, 3) := by decide +kernel
theorem dX11_finishWritten_24 : decode cX11_finishWritten 24 = .ok (.iload_n 1, 1) := by decide +kernel
theorem dX11_finishWritten_25 : decode cX11_finishWritten 25 = .ok (.iload_n 3, 1) := by decide +kernel
theorem dX11_finishWritten_26 : decode cX11_finishWritten 26 = .ok (.ishr, 1) := by decide +kernel
theorem dX11_finishWritten_27 : decode cX11_finishWritten 27 = .ok (.iconst 1, 1) := by decide +kernel
theorem dX11_finishWritten_28 : decode cX11_finishWritten 28 = .ok (.iand, 1) := by decide +kernel
theorem dX11_finishWritten_29 : decode cX11_finishWritten 29 = .ok (.iconst 1, 1) := by decide +kernel
theorem dX11_finishWritten_30 : decode cX11_finishWritten 30 = .ok (.if_icmp .ne 15, 3) := by decide +kernel
theorem dX11_finishWritten_33 : decode cX11_finishWritten 33 = .ok (.aload_n 0, 1) := by decide +kernel
theorem dX11_finishWritten_34 : decode cX11_finishWritten 34 = .ok (.getfield 50, 3) := by decide +kernel
theorem dX11_finishWritten_37 : decode cX11_finishWritten 37 = .ok (.getfield 256, 3) := by decide +kernel
theorem dX11_finishWritten_40 : decode cX11_finishWritten 40 = .ok (.iload_n 3, 1) := by decide +kernel
theorem dX11_finishWritten_41 : decode cX11_finishWritten 41 = .ok (.iload_n 2, 1) := by decide +kernel
theorem dX11_finishWritten_42 : decode cX11_finishWritten 42 = .ok (.invokestatic 259, 3) := by decide +kernel
theorem dX11_finishWritten_45 : decode cX11_finishWritten 45 = .ok (.iinc 3 1, 3) := by decide +kernel
theorem dX11_finishWritten_48 : decode cX11_finishWritten 48 = .ok (.goto (-35), 3) := by decide +kernel
theorem dX11_finishWritten_51 : decode cX11_finishWritten 51 = .ok (.aload_n 0, 1) := by decide +kernel
theorem dX11_finishWritten_52 : decode cX11_finishWritten 52 = .ok (.getfield 26, 3) := by decide +kernel
theorem dX11_finishWritten_55 : decode cX11_finishWritten 55 = .ok (.aload_n 0, 1) := by decide +kernel
theorem dX11_finishWritten_56 : decode cX11_finishWritten 56 = .ok (.getfield 50, 3) := by decide +kernel
theorem dX11_finishWritten_59 : decode cX11_finishWritten 59 = .ok (.invokevirtual 236, 3) := by decide +kernel
theorem dX11_finishWritten_62 : decode cX11_finishWritten 62 = .ok (.return_, 1) := by decide +kernel
theorem dX11_finishCut_0 : decode cX11_finishCut 0 = .ok (.aload_n 0, 1) := by decide +kernel
theorem dX11_finishCut_1 : decode cX11_finishCut 1 = .ok (.getfield 50, 3) := by decide +kernel
theorem dX11_finishCut_4 : decode cX11_finishCut 4 = .ok (.aload_n 0, 1) := by decide +kernel
theorem dX11_finishCut_5 : decode cX11_finishCut 5 = .ok (.getfield 46, 3) := by decide +kernel
theorem dX11_finishCut_8 : decode cX11_finishCut 8 = .ok (.invokevirtual 176, 3) := by decide +kernel
theorem dX11_finishCut_11 : decode cX11_finishCut 11 = .ok (.aload_n 0, 1) := by decide +kernel
theorem dX11_finishCut_12 : decode cX11_finishCut 12 = .ok (.getfield 50, 3) := by decide +kernel
theorem dX11_finishCut_15 : decode cX11_finishCut 15 = .ok (.dup, 1) := by decide +kernel
theorem dX11_finishCut_16 : decode cX11_finishCut 16 = .ok (.getfield 263, 3) := by decide +kernel
theorem dX11_finishCut_19 : decode cX11_finishCut 19 = .ok (.iload_n 1, 1) := by decide +kernel
theorem dX11_finishCut_20 : decode cX11_finishCut 20 = .ok (.ior, 1) := by decide +kernel
theorem dX11_finishCut_21 : decode cX11_finishCut 21 = .ok (.putfield 263, 3) := by decide +kernel
theorem dX11_finishCut_24 : decode cX11_finishCut 24 = .ok (.aload_n 0, 1) := by decide +kernel
theorem dX11_finishCut_25 : decode cX11_finishCut 25 = .ok (.getfield 26, 3) := by decide +kernel
theorem dX11_finishCut_28 : decode cX11_finishCut 28 = .ok (.aload_n 0, 1) := by decide +kernel
theorem dX11_finishCut_29 : decode cX11_finishCut 29 = .ok (.getfield 50, 3) := by decide +kernel
theorem dX11_finishCut_32 : decode cX11_finishCut 32 = .ok (.invokevirtual 236, 3) := by decide +kernel
theorem dX11_finishCut_35 : decode cX11_finishCut 35 = .ok (.return_, 1) := by decide +kernel
theorem dX11_notShown_0 : decode cX11_notShown 0 = .ok (.aload_n 0, 1) := by decide +kernel
theorem dX11_notShown_1 : decode cX11_notShown 1 = .ok (.getfield 26, 3) := by decide +kernel
theorem dX11_notShown_4 : decode cX11_notShown 4 = .ok (.invokevirtual 266, 3) := by decide +kernel
theorem dX11_notShown_7 : decode cX11_notShown 7 = .ok (.iconst 1, 1) := by decide +kernel
theorem dX11_notShown_8 : decode cX11_notShown 8 = .ok (.aload_n 0, 1) := by decide +kernel
theorem dX11_notShown_9 : decode cX11_notShown 9 = .ok (.getfield 46, 3) := by decide +kernel
theorem dX11_notShown_12 : decode cX11_notShown 12 = .ok (.getfield 141, 3) := by decide +kernel
theorem dX11_notShown_15 : decode cX11_notShown 15 = .ok (.ishl, 1) := by decide +kernel
theorem dX11_notShown_16 : decode cX11_notShown 16 = .ok (.iconst 1, 1) := by decide +kernel
theorem dX11_notShown_17 : decode cX11_notShown 17 = .ok (.isub, 1) := by decide +kernel
theorem dX11_notShown_18 : decode cX11_notShown 18 = .ok (.iconst (-1), 1) := by decide +kernel
theorem dX11_notShown_19 : decode cX11_notShown 19 = .ok (.ixor, 1) := by decide +kernel
theorem dX11_notShown_20 : decode cX11_notShown 20 = .ok (.iand, 1) := by decide +kernel
theorem dX11_notShown_21 : decode cX11_notShown 21 = .ok (.ireturn, 1) := by decide +kernel
theorem dX11_cuttable_0 : decode cX11_cuttable 0 = .ok (.aload_n 0, 1) := by decide +kernel
theorem dX11_cuttable_1 : decode cX11_cuttable 1 = .ok (.invokevirtual 245, 3) := by decide +kernel
theorem dX11_cuttable_4 : decode cX11_cuttable 4 = .ok (.aload_n 0, 1) := by decide +kernel
theorem dX11_cuttable_5 : decode cX11_cuttable 5 = .ok (.getfield 46, 3) := by decide +kernel
theorem dX11_cuttable_8 : decode cX11_cuttable 8 = .ok (.getfield 263, 3) := by decide +kernel
theorem dX11_cuttable_11 : decode cX11_cuttable 11 = .ok (.iconst (-1), 1) := by decide +kernel
theorem dX11_cuttable_12 : decode cX11_cuttable 12 = .ok (.ixor, 1) := by decide +kernel
theorem dX11_cuttable_13 : decode cX11_cuttable 13 = .ok (.iand, 1) := by decide +kernel
theorem dX11_cuttable_14 : decode cX11_cuttable 14 = .ok (.ireturn, 1) := by decide +kernel
theorem dX11_spare_0 : decode cX11_spare 0 = .ok (.aload_n 0, 1) := by decide +kernel
theorem dX11_spare_1 : decode cX11_spare 1 = .ok (.getfield 26, 3) := by decide +kernel
theorem dX11_spare_4 : decode cX11_spare 4 = .ok (.iload_n 1, 1) := by decide +kernel
theorem dX11_spare_5 : decode cX11_spare 5 = .ok (.invokevirtual 144, 3) := by decide +kernel
theorem dX11_spare_8 : decode cX11_spare 8 = .ok (.ifCond .eq 14, 3) := by decide +kernel
theorem dX11_spare_11 : decode cX11_spare 11 = .ok (.aload_n 0, 1) := by decide +kernel
theorem dX11_spare_12 : decode cX11_spare 12 = .ok (.getfield 46, 3) := by decide +kernel
theorem dX11_spare_15 : decode cX11_spare 15 = .ok (.iload_n 1, 1) := by decide +kernel
theorem dX11_spare_16 : decode cX11_spare 16 = .ok (.invokevirtual 165, 3) := by decide +kernel
theorem dX11_spare_19 : decode cX11_spare 19 = .ok (.ifCond .ne 5, 3) := by decide +kernel
theorem dX11_spare_22 : decode cX11_spare 22 = .ok (.iconst (-1), 1) := by decide +kernel
theorem dX11_spare_23 : decode cX11_spare 23 = .ok (.ireturn, 1) := by decide +kernel
theorem dX11_spare_24 : decode cX11_spare 24 = .ok (.aload_n 0, 1) := by decide +kernel
theorem dX11_spare_25 : decode cX11_spare 25 = .ok (.invokevirtual 269, 3) := by decide +kernel
theorem dX11_spare_28 : decode cX11_spare 28 = .ok (.istore_n 2, 1) := by decide +kernel
theorem dX11_spare_29 : decode cX11_spare 29 = .ok (.iconst (-1), 1) := by decide +kernel
theorem dX11_spare_30 : decode cX11_spare 30 = .ok (.istore_n 3, 1) := by decide +kernel
theorem dX11_spare_31 : decode cX11_spare 31 = .ok (.iconst 0, 1) := by decide +kernel
theorem dX11_spare_32 : decode cX11_spare 32 = .ok (.istore 4, 2) := by decide +kernel
theorem dX11_spare_34 : decode cX11_spare 34 = .ok (.iload 4, 2) := by decide +kernel
theorem dX11_spare_36 : decode cX11_spare 36 = .ok (.sipush 256, 3) := by decide +kernel
theorem dX11_spare_39 : decode cX11_spare 39 = .ok (.if_icmp .ge 47, 3) := by decide +kernel
theorem dX11_spare_42 : decode cX11_spare 42 = .ok (.iload 4, 2) := by decide +kernel
theorem dX11_spare_44 : decode cX11_spare 44 = .ok (.iload_n 2, 1) := by decide +kernel
theorem dX11_spare_45 : decode cX11_spare 45 = .ok (.iconst (-1), 1) := by decide +kernel
theorem dX11_spare_46 : decode cX11_spare 46 = .ok (.ixor, 1) := by decide +kernel
theorem dX11_spare_47 : decode cX11_spare 47 = .ok (.iand, 1) := by decide +kernel
theorem dX11_spare_48 : decode cX11_spare 48 = .ok (.ifCond .ne 32, 3) := by decide +kernel
theorem dX11_spare_51 : decode cX11_spare 51 = .ok (.iload 4, 2) := by decide +kernel
theorem dX11_spare_53 : decode cX11_spare 53 = .ok (.iload_n 3, 1) := by decide +kernel
theorem dX11_spare_54 : decode cX11_spare 54 = .ok (.invokestatic 249, 3) := by decide +kernel
theorem dX11_spare_57 : decode cX11_spare 57 = .ok (.ifCond .eq 23, 3) := by decide +kernel
theorem dX11_spare_60 : decode cX11_spare 60 = .ok (.aload_n 0, 1) := by decide +kernel
theorem dX11_spare_61 : decode cX11_spare 61 = .ok (.iload 4, 2) := by decide +kernel
theorem dX11_spare_63 : decode cX11_spare 63 = .ok (.invokevirtual 272, 3) := by decide +kernel
theorem dX11_spare_66 : decode cX11_spare 66 = .ok (.aload_n 0, 1) := by decide +kernel
theorem dX11_spare_67 : decode cX11_spare 67 = .ok (.getfield 50, 3) := by decide +kernel
theorem dX11_spare_70 : decode cX11_spare 70 = .ok (.iload_n 1, 1) := by decide +kernel
theorem dX11_spare_71 : decode cX11_spare 71 = .ok (.invokevirtual 165, 3) := by decide +kernel
theorem dX11_spare_74 : decode cX11_spare 74 = .ok (.ifCond .eq 6, 3) := by decide +kernel
theorem dX11_spare_77 : decode cX11_spare 77 = .ok (.iload 4, 2) := by decide +kernel
theorem dX11_spare_79 : decode cX11_spare 79 = .ok (.istore_n 3, 1) := by decide +kernel
theorem dX11_spare_80 : decode cX11_spare 80 = .ok (.iinc 4 1, 3) := by decide +kernel
theorem dX11_spare_83 : decode cX11_spare 83 = .ok (.goto (-49), 3) := by decide +kernel
theorem dX11_spare_86 : decode cX11_spare 86 = .ok (.iload_n 3, 1) := by decide +kernel
theorem dX11_spare_87 : decode cX11_spare 87 = .ok (.ireturn, 1) := by decide +kernel
theorem dX11_takes_0 : decode cX11_takes 0 = .ok (.aload_n 0, 1) := by decide +kernel
theorem dX11_takes_1 : decode cX11_takes 1 = .ok (.getfield 26, 3) := by decide +kernel
theorem dX11_takes_4 : decode cX11_takes 4 = .ok (.iload_n 1, 1) := by decide +kernel
theorem dX11_takes_5 : decode cX11_takes 5 = .ok (.invokevirtual 144, 3) := by decide +kernel
theorem dX11_takes_8 : decode cX11_takes 8 = .ok (.ifCond .eq 14, 3) := by decide +kernel
theorem dX11_takes_11 : decode cX11_takes 11 = .ok (.aload_n 0, 1) := by decide +kernel
theorem dX11_takes_12 : decode cX11_takes 12 = .ok (.getfield 26, 3) := by decide +kernel
theorem dX11_takes_15 : decode cX11_takes 15 = .ok (.iload_n 2, 1) := by decide +kernel
theorem dX11_takes_16 : decode cX11_takes 16 = .ok (.invokevirtual 120, 3) := by decide +kernel
theorem dX11_takes_19 : decode cX11_takes 19 = .ok (.ifCond .ne 6, 3) := by decide +kernel
theorem dX11_takes_22 : decode cX11_takes 22 = .ok (.bipush (-2), 2) := by decide +kernel
theorem dX11_takes_24 : decode cX11_takes 24 = .ok (.ireturn, 1) := by decide +kernel
theorem dX11_takes_25 : decode cX11_takes 25 = .ok (.aload_n 0, 1) := by decide +kernel
theorem dX11_takes_26 : decode cX11_takes 26 = .ok (.getfield 26, 3) := by decide +kernel
theorem dX11_takes_29 : decode cX11_takes 29 = .ok (.iload_n 1, 1) := by decide +kernel
theorem dX11_takes_30 : decode cX11_takes 30 = .ok (.aload_n 0, 1) := by decide +kernel
theorem dX11_takes_31 : decode cX11_takes 31 = .ok (.getfield 26, 3) := by decide +kernel
theorem dX11_takes_34 : decode cX11_takes 34 = .ok (.aload_n 0, 1) := by decide +kernel
theorem dX11_takes_35 : decode cX11_takes 35 = .ok (.getfield 46, 3) := by decide +kernel
theorem dX11_takes_38 : decode cX11_takes 38 = .ok (.iload_n 2, 1) := by decide +kernel
theorem dX11_takes_39 : decode cX11_takes 39 = .ok (.invokevirtual 124, 3) := by decide +kernel
theorem dX11_takes_42 : decode cX11_takes 42 = .ok (.aload_n 0, 1) := by decide +kernel
theorem dX11_takes_43 : decode cX11_takes 43 = .ok (.getfield 46, 3) := by decide +kernel
theorem dX11_takes_46 : decode cX11_takes 46 = .ok (.iload_n 2, 1) := by decide +kernel
theorem dX11_takes_47 : decode cX11_takes 47 = .ok (.invokevirtual 135, 3) := by decide +kernel
theorem dX11_takes_50 : decode cX11_takes 50 = .ok (.invokevirtual 276, 3) := by decide +kernel
theorem dX11_takes_53 : decode cX11_takes 53 = .ok (.ireturn, 1) := by decide +kernel
theorem dX11_blank_0 : decode cX11_blank 0 = .ok (.aload_n 0, 1) := by decide +kernel
theorem dX11_blank_1 : decode cX11_blank 1 = .ok (.getfield 26, 3) := by decide +kernel
theorem dX11_blank_4 : decode cX11_blank 4 = .ok (.iload_n 1, 1) := by decide +kernel
theorem dX11_blank_5 : decode cX11_blank 5 = .ok (.invokevirtual 144, 3) := by decide +kernel
theorem dX11_blank_8 : decode cX11_blank 8 = .ok (.ifCond .ne 5, 3) := by decide +kernel
theorem dX11_blank_11 : decode cX11_blank 11 = .ok (.iconst (-1), 1) := by decide +kernel
theorem dX11_blank_12 : decode cX11_blank 12 = .ok (.ireturn, 1) := by decide +kernel
theorem dX11_blank_13 : decode cX11_blank 13 = .ok (.iconst 0, 1) := by decide +kernel
theorem dX11_blank_14 : decode cX11_blank 14 = .ok (.istore_n 2, 1) := by decide +kernel
theorem dX11_blank_15 : decode cX11_blank 15 = .ok (.iconst 0, 1) := by decide +kernel
theorem dX11_blank_16 : decode cX11_blank 16 = .ok (.istore_n 3, 1) := by decide +kernel
theorem dX11_blank_17 : decode cX11_blank 17 = .ok (.iload_n 3, 1) := by decide +kernel
theorem dX11_blank_18 : decode cX11_blank 18 = .ok (.aload_n 0, 1) := by decide +kernel
theorem dX11_blank_19 : decode cX11_blank 19 = .ok (.getfield 26, 3) := by decide +kernel
theorem dX11_blank_22 : decode cX11_blank 22 = .ok (.getfield 280, 3) := by decide +kernel
theorem dX11_blank_25 : decode cX11_blank 25 = .ok (.if_icmp .ge 28, 3) := by decide +kernel
theorem dX11_blank_28 : decode cX11_blank 28 = .ok (.aload_n 0, 1) := by decide +kernel
theorem dX11_blank_29 : decode cX11_blank 29 = .ok (.getfield 46, 3) := by decide +kernel
theorem dX11_blank_32 : decode cX11_blank 32 = .ok (.iload_n 1, 1) := by decide +kernel
theorem dX11_blank_33 : decode cX11_blank 33 = .ok (.iload_n 3, 1) := by decide +kernel
theorem dX11_blank_34 : decode cX11_blank 34 = .ok (.invokevirtual 172, 3) := by decide +kernel
theorem dX11_blank_37 : decode cX11_blank 37 = .ok (.iconst (-1), 1) := by decide +kernel
theorem dX11_blank_38 : decode cX11_blank 38 = .ok (.if_icmp .ne 9, 3) := by decide +kernel
theorem dX11_blank_41 : decode cX11_blank 41 = .ok (.iload_n 2, 1) := by decide +kernel
theorem dX11_blank_42 : decode cX11_blank 42 = .ok (.iconst 1, 1) := by decide +kernel
theorem dX11_blank_43 : decode cX11_blank 43 = .ok (.iload_n 3, 1) := by decide +kernel
theorem dX11_blank_44 : decode cX11_blank 44 = .ok (.ishl, 1) := by decide +kernel
theorem dX11_blank_45 : decode cX11_blank 45 = .ok (.ior, 1) := by decide +kernel
theorem dX11_blank_46 : decode cX11_blank 46 = .ok (.istore_n 2, 1) := by decide +kernel
theorem dX11_blank_47 : decode cX11_blank 47 = .ok (.iinc 3 1, 3) := by decide +kernel
theorem dX11_blank_50 : decode cX11_blank 50 = .ok (.goto (-33), 3) := by decide +kernel
theorem dX11_blank_53 : decode cX11_blank 53 = .ok (.iload_n 2, 1) := by decide +kernel
theorem dX11_blank_54 : decode cX11_blank 54 = .ok (.ireturn, 1) := by decide +kernel
theorem dX11_mentions_0 : decode cX11_mentions 0 = .ok (.aload_n 0, 1) := by decide +kernel
theorem dX11_mentions_1 : decode cX11_mentions 1 = .ok (.getfield 26, 3) := by decide +kernel
theorem dX11_mentions_4 : decode cX11_mentions 4 = .ok (.iload_n 1, 1) := by decide +kernel
theorem dX11_mentions_5 : decode cX11_mentions 5 = .ok (.invokevirtual 187, 3) := by decide +kernel
theorem dX11_mentions_8 : decode cX11_mentions 8 = .ok (.ifCond .eq 12, 3) := by decide +kernel
theorem dX11_mentions_11 : decode cX11_mentions 11 = .ok (.iload_n 2, 1) := by decide +kernel
theorem dX11_mentions_12 : decode cX11_mentions 12 = .ok (.ifCond .lt 8, 3) := by decide +kernel
theorem dX11_mentions_15 : decode cX11_mentions 15 = .ok (.iload_n 2, 1) := by decide +kernel
theorem dX11_mentions_16 : decode cX11_mentions 16 = .ok (.iconst 1, 1) := by decide +kernel
theorem dX11_mentions_17 : decode cX11_mentions 17 = .ok (.if_icmp .le 5, 3) := by decide +kernel
theorem dX11_mentions_20 : decode cX11_mentions 20 = .ok (.iconst (-1), 1) := by decide +kernel
theorem dX11_mentions_21 : decode cX11_mentions 21 = .ok (.ireturn, 1) := by decide +kernel
theorem dX11_mentions_22 : decode cX11_mentions 22 = .ok (.iconst 0, 1) := by decide +kernel
theorem dX11_mentions_23 : decode cX11_mentions 23 = .ok (.istore_n 3, 1) := by decide +kernel
theorem dX11_mentions_24 : decode cX11_mentions 24 = .ok (.iconst 0, 1) := by decide +kernel
theorem dX11_mentions_25 : decode cX11_mentions 25 = .ok (.istore 4, 2) := by decide +kernel
theorem dX11_mentions_27 : decode cX11_mentions 27 = .ok (.iload 4, 2) := by decide +kernel
theorem dX11_mentions_29 : decode cX11_mentions 29 = .ok (.aload_n 0, 1) := by decide +kernel
theorem dX11_mentions_30 : decode cX11_mentions 30 = .ok (.getfield 26, 3) := by decide +kernel
theorem dX11_mentions_33 : decode cX11_mentions 33 = .ok (.getfield 239, 3) := by decide +kernel
theorem dX11_mentions_36 : decode cX11_mentions 36 = .ok (.if_icmp .ge 30, 3) := by decide +kernel
theorem dX11_mentions_39 : decode cX11_mentions 39 = .ok (.aload_n 0, 1) := by decide +kernel
theorem dX11_mentions_40 : decode cX11_mentions 40 = .ok (.iload 4, 2) := by decide +kernel
theorem dX11_mentions_42 : decode cX11_mentions 42 = .ok (.iload_n 2, 1) := by decide +kernel
theorem dX11_mentions_43 : decode cX11_mentions 43 = .ok (.invokevirtual 283, 3) := by decide +kernel
theorem dX11_mentions_46 : decode cX11_mentions 46 = .ok (.invokestatic 128, 3) := by decide +kernel
theorem dX11_mentions_49 : decode cX11_mentions 49 = .ok (.iload_n 1, 1) := by decide +kernel
theorem dX11_mentions_50 : decode cX11_mentions 50 = .ok (.if_icmp .ne 10, 3) := by decide +kernel
theorem dX11_mentions_53 : decode cX11_mentions 53 = .ok (.iload_n 3, 1) := by decide +kernel
theorem dX11_mentions_54 : decode cX11_mentions 54 = .ok (.iconst 1, 1) := by decide +kernel
theorem dX11_mentions_55 : decode cX11_mentions 55 = .ok (.iload 4, 2) := by decide +kernel
theorem dX11_mentions_57 : decode cX11_mentions 57 = .ok (.ishl, 1) := by decide +kernel
theorem dX11_mentions_58 : decode cX11_mentions 58 = .ok (.ior, 1) := by decide +kernel
theorem dX11_mentions_59 : decode cX11_mentions 59 = .ok (.istore_n 3, 1) := by decide +kernel
theorem dX11_mentions_60 : decode cX11_mentions 60 = .ok (.iinc 4 1, 3) := by decide +kernel
theorem dX11_mentions_63 : decode cX11_mentions 63 = .ok (.goto (-36), 3) := by decide +kernel
theorem dX11_mentions_66 : decode cX11_mentions 66 = .ok (.iload_n 3, 1) := by decide +kernel
theorem dX11_mentions_67 : decode cX11_mentions 67 = .ok (.ireturn, 1) := by decide +kernel
theorem dX11_claimOf_0 : decode cX11_claimOf 0 = .ok (.iload_n 2, 1) := by decide +kernel
theorem dX11_claimOf_1 : decode cX11_claimOf 1 = .ok (.ifCond .ne 18, 3) := by decide +kernel
theorem dX11_claimOf_4 : decode cX11_claimOf 4 = .ok (.aload_n 0, 1) := by decide +kernel
theorem dX11_claimOf_5 : decode cX11_claimOf 5 = .ok (.getfield 26, 3) := by decide +kernel
theorem dX11_claimOf_8 : decode cX11_claimOf 8 = .ok (.aload_n 0, 1) := by decide +kernel
theorem dX11_claimOf_9 : decode cX11_claimOf 9 = .ok (.getfield 46, 3) := by decide +kernel
theorem dX11_claimOf_12 : decode cX11_claimOf 12 = .ok (.iload_n 1, 1) := by decide +kernel
theorem dX11_claimOf_13 : decode cX11_claimOf 13 = .ok (.invokevirtual 124, 3) := by decide +kernel
theorem dX11_claimOf_16 : decode cX11_claimOf 16 = .ok (.goto 11, 3) := by decide +kernel
theorem dX11_claimOf_19 : decode cX11_claimOf 19 = .ok (.aload_n 0, 1) := by decide +kernel
theorem dX11_claimOf_20 : decode cX11_claimOf 20 = .ok (.getfield 46, 3) := by decide +kernel
theorem dX11_claimOf_23 : decode cX11_claimOf 23 = .ok (.iload_n 1, 1) := by decide +kernel
theorem dX11_claimOf_24 : decode cX11_claimOf 24 = .ok (.invokevirtual 135, 3) := by decide +kernel
theorem dX11_claimOf_27 : decode cX11_claimOf 27 = .ok (.ireturn, 1) := by decide +kernel
theorem dX11_last_0 : decode cX11_last 0 = .ok (.iconst (-1), 1) := by decide +kernel
theorem dX11_last_1 : decode cX11_last 1 = .ok (.istore_n 3, 1) := by decide +kernel
theorem dX11_last_2 : decode cX11_last 2 = .ok (.iconst 0, 1) := by decide +kernel
theorem dX11_last_3 : decode cX11_last 3 = .ok (.istore 4, 2) := by decide +kernel
theorem dX11_last_5 : decode cX11_last 5 = .ok (.iload 4, 2) := by decide +kernel
theorem dX11_last_7 : decode cX11_last 7 = .ok (.aload_n 0, 1) := by decide +kernel
theorem dX11_last_8 : decode cX11_last 8 = .ok (.getfield 26, 3) := by decide +kernel
theorem dX11_last_11 : decode cX11_last 11 = .ok (.getfield 239, 3) := by decide +kernel
theorem dX11_last_14 : decode cX11_last 14 = .ok (.if_icmp .ge 34, 3) := by decide +kernel
theorem dX11_last_17 : decode cX11_last 17 = .ok (.aload_n 0, 1) := by decide +kernel
theorem dX11_last_18 : decode cX11_last 18 = .ok (.iload 4, 2) := by decide +kernel
theorem dX11_last_20 : decode cX11_last 20 = .ok (.iload_n 2, 1) := by decide +kernel
theorem dX11_last_21 : decode cX11_last 21 = .ok (.invokevirtual 283, 3) := by decide +kernel
theorem dX11_last_24 : decode cX11_last 24 = .ok (.invokestatic 128, 3) := by decide +kernel
theorem dX11_last_27 : decode cX11_last 27 = .ok (.iload_n 1, 1) := by decide +kernel
theorem dX11_last_28 : decode cX11_last 28 = .ok (.if_icmp .ne 14, 3) := by decide +kernel
theorem dX11_last_31 : decode cX11_last 31 = .ok (.aload_n 0, 1) := by decide +kernel
theorem dX11_last_32 : decode cX11_last 32 = .ok (.iload 4, 2) := by decide +kernel
theorem dX11_last_34 : decode cX11_last 34 = .ok (.iload_n 2, 1) := by decide +kernel
theorem dX11_last_35 : decode cX11_last 35 = .ok (.invokevirtual 283, 3) := by decide +kernel
theorem dX11_last_38 : decode cX11_last 38 = .ok (.invokestatic 132, 3) := by decide +kernel
theorem dX11_last_41 : decode cX11_last 41 = .ok (.istore_n 3, 1) := by decide +kernel
theorem dX11_last_42 : decode cX11_last 42 = .ok (.iinc 4 1, 3) := by decide +kernel
theorem dX11_last_45 : decode cX11_last 45 = .ok (.goto (-40), 3) := by decide +kernel
theorem dX11_last_48 : decode cX11_last 48 = .ok (.iload_n 3, 1) := by decide +kernel
theorem dX11_last_49 : decode cX11_last 49 = .ok (.ireturn, 1) := by decide +kernel
theorem dX11_fooled_0 : decode cX11_fooled 0 = .ok (.aload_n 0, 1) := by decide +kernel
theorem dX11_fooled_1 : decode cX11_fooled 1 = .ok (.getfield 26, 3) := by decide +kernel
theorem dX11_fooled_4 : decode cX11_fooled 4 = .ok (.iload_n 1, 1) := by decide +kernel
theorem dX11_fooled_5 : decode cX11_fooled 5 = .ok (.invokevirtual 187, 3) := by decide +kernel
theorem dX11_fooled_8 : decode cX11_fooled 8 = .ok (.ifCond .ne 5, 3) := by decide +kernel
theorem dX11_fooled_11 : decode cX11_fooled 11 = .ok (.iconst (-1), 1) := by decide +kernel
theorem dX11_fooled_12 : decode cX11_fooled 12 = .ok (.ireturn, 1) := by decide +kernel
theorem dX11_fooled_13 : decode cX11_fooled 13 = .ok (.aload_n 0, 1) := by decide +kernel
theorem dX11_fooled_14 : decode cX11_fooled 14 = .ok (.iload_n 1, 1) := by decide +kernel
theorem dX11_fooled_15 : decode cX11_fooled 15 = .ok (.iconst 0, 1) := by decide +kernel
theorem dX11_fooled_16 : decode cX11_fooled 16 = .ok (.invokevirtual 286, 3) := by decide +kernel
theorem dX11_fooled_19 : decode cX11_fooled 19 = .ok (.istore_n 2, 1) := by decide +kernel
theorem dX11_fooled_20 : decode cX11_fooled 20 = .ok (.iload_n 2, 1) := by decide +kernel
theorem dX11_fooled_21 : decode cX11_fooled 21 = .ok (.iconst (-1), 1) := by decide +kernel
theorem dX11_fooled_22 : decode cX11_fooled 22 = .ok (.if_icmp .ne 5, 3) := by decide +kernel
theorem dX11_fooled_25 : decode cX11_fooled 25 = .ok (.iconst 0, 1) := by decide +kernel
theorem dX11_fooled_26 : decode cX11_fooled 26 = .ok (.ireturn, 1) := by decide +kernel
theorem dX11_fooled_27 : decode cX11_fooled 27 = .ok (.iconst 0, 1) := by decide +kernel
theorem dX11_fooled_28 : decode cX11_fooled 28 = .ok (.istore_n 3, 1) := by decide +kernel
theorem dX11_fooled_29 : decode cX11_fooled 29 = .ok (.iconst 0, 1) := by decide +kernel
theorem dX11_fooled_30 : decode cX11_fooled 30 = .ok (.istore 4, 2) := by decide +kernel
theorem dX11_fooled_32 : decode cX11_fooled 32 = .ok (.iload 4, 2) := by decide +kernel
theorem dX11_fooled_34 : decode cX11_fooled 34 = .ok (.aload_n 0, 1) := by decide +kernel
theorem dX11_fooled_35 : decode cX11_fooled 35 = .ok (.getfield 26, 3) := by decide +kernel
theorem dX11_fooled_38 : decode cX11_fooled 38 = .ok (.getfield 289, 3) := by decide +kernel
theorem dX11_fooled_41 : decode cX11_fooled 41 = .ok (.if_icmp .ge 52, 3) := by decide +kernel
theorem dX11_fooled_44 : decode cX11_fooled 44 = .ok (.aload_n 0, 1) := by decide +kernel
theorem dX11_fooled_45 : decode cX11_fooled 45 = .ok (.getfield 46, 3) := by decide +kernel
theorem dX11_fooled_48 : decode cX11_fooled 48 = .ok (.iload 4, 2) := by decide +kernel
theorem dX11_fooled_50 : decode cX11_fooled 50 = .ok (.iload_n 1, 1) := by decide +kernel
theorem dX11_fooled_51 : decode cX11_fooled 51 = .ok (.invokevirtual 172, 3) := by decide +kernel
theorem dX11_fooled_54 : decode cX11_fooled 54 = .ok (.istore 5, 2) := by decide +kernel
theorem dX11_fooled_56 : decode cX11_fooled 56 = .ok (.aload_n 0, 1) := by decide +kernel
theorem dX11_fooled_57 : decode cX11_fooled 57 = .ok (.getfield 46, 3) := by decide +kernel
theorem dX11_fooled_60 : decode cX11_fooled 60 = .ok (.iload 4, 2) := by decide +kernel
theorem dX11_fooled_62 : decode cX11_fooled 62 = .ok (.invokevirtual 165, 3) := by decide +kernel
theorem dX11_fooled_65 : decode cX11_fooled 65 = .ok (.ifCond .eq 22, 3) := by decide +kernel
theorem dX11_fooled_68 : decode cX11_fooled 68 = .ok (.iload 5, 2) := by decide +kernel
theorem dX11_fooled_70 : decode cX11_fooled 70 = .ok (.iconst (-1), 1) := by decide +kernel
theorem dX11_fooled_71 : decode cX11_fooled 71 = .ok (.if_icmp .eq 16, 3) := by decide +kernel
theorem dX11_fooled_74 : decode cX11_fooled 74 = .ok (.iload 5, 2) := by decide +kernel
theorem dX11_fooled_76 : decode cX11_fooled 76 = .ok (.iload_n 2, 1) := by decide +kernel
theorem dX11_fooled_77 : decode cX11_fooled 77 = .ok (.if_icmp .eq 10, 3) := by decide +kernel
theorem dX11_fooled_80 : decode cX11_fooled 80 = .ok (.iload_n 3, 1) := by decide +kernel
theorem dX11_fooled_81 : decode cX11_fooled 81 = .ok (.iconst 1, 1) := by decide +kernel
theorem dX11_fooled_82 : decode cX11_fooled 82 = .ok (.iload 4, 2) := by decide +kernel
theorem dX11_fooled_84 : decode cX11_fooled 84 = .ok (.ishl, 1) := by decide +kernel
theorem dX11_fooled_85 : decode cX11_fooled 85 = .ok (.ior, 1) := by decide +kernel
theorem dX11_fooled_86 : decode cX11_fooled 86 = .ok (.istore_n 3, 1) := by decide +kernel
theorem dX11_fooled_87 : decode cX11_fooled 87 = .ok (.iinc 4 1, 3) := by decide +kernel
theorem dX11_fooled_90 : decode cX11_fooled 90 = .ok (.goto (-58), 3) := by decide +kernel
theorem dX11_fooled_93 : decode cX11_fooled 93 = .ok (.iload_n 3, 1) := by decide +kernel
theorem dX11_fooled_94 : decode cX11_fooled 94 = .ok (.ireturn, 1) := by decide +kernel
theorem dX11_sway_0 : decode cX11_sway 0 = .ok (.iconst 0, 1) := by decide +kernel
theorem dX11_sway_1 : decode cX11_sway 1 = .ok (.istore_n 1, 1) := by decide +kernel
theorem dX11_sway_2 : decode cX11_sway 2 = .ok (.iconst (-1), 1) := by decide +kernel
theorem dX11_sway_3 : decode cX11_sway 3 = .ok (.istore_n 2, 1) := by decide +kernel
theorem dX11_sway_4 : decode cX11_sway 4 = .ok (.iconst 0, 1) := by decide +kernel
theorem dX11_sway_5 : decode cX11_sway 5 = .ok (.istore_n 3, 1) := by decide +kernel
theorem dX11_sway_6 : decode cX11_sway 6 = .ok (.iload_n 3, 1) := by decide +kernel
theorem dX11_sway_7 : decode cX11_sway 7 = .ok (.aload_n 0, 1) := by decide +kernel
theorem dX11_sway_8 : decode cX11_sway 8 = .ok (.getfield 26, 3) := by decide +kernel
theorem dX11_sway_11 : decode cX11_sway 11 = .ok (.getfield 289, 3) := by decide +kernel
theorem dX11_sway_14 : decode cX11_sway 14 = .ok (.if_icmp .ge 63, 3) := by decide +kernel
theorem dX11_sway_17 : decode cX11_sway 17 = .ok (.iconst 0, 1) := by decide +kernel
theorem dX11_sway_18 : decode cX11_sway 18 = .ok (.istore 4, 2) := by decide +kernel
theorem dX11_sway_20 : decode cX11_sway 20 = .ok (.iload 4, 2) := by decide +kernel
theorem dX11_sway_22 : decode cX11_sway 22 = .ok (.aload_n 0, 1) := by decide +kernel
theorem dX11_sway_23 : decode cX11_sway 23 = .ok (.getfield 26, 3) := by decide +kernel
theorem dX11_sway_26 : decode cX11_sway 26 = .ok (.getfield 289, 3) := by decide +kernel
theorem dX11_sway_29 : decode cX11_sway 29 = .ok (.if_icmp .ge 42, 3) := by decide +kernel
theorem dX11_sway_32 : decode cX11_sway 32 = .ok (.aload_n 0, 1) := by decide +kernel
theorem dX11_sway_33 : decode cX11_sway 33 = .ok (.getfield 26, 3) := by decide +kernel
theorem dX11_sway_36 : decode cX11_sway 36 = .ok (.aload_n 0, 1) := by decide +kernel
theorem dX11_sway_37 : decode cX11_sway 37 = .ok (.getfield 46, 3) := by decide +kernel
theorem dX11_sway_40 : decode cX11_sway 40 = .ok (.iload_n 3, 1) := by decide +kernel
theorem dX11_sway_41 : decode cX11_sway 41 = .ok (.iload 4, 2) := by decide +kernel
theorem dX11_sway_43 : decode cX11_sway 43 = .ok (.invokevirtual 292, 3) := by decide +kernel
theorem dX11_sway_46 : decode cX11_sway 46 = .ok (.istore 5, 2) := by decide +kernel
theorem dX11_sway_48 : decode cX11_sway 48 = .ok (.iload 5, 2) := by decide +kernel
theorem dX11_sway_50 : decode cX11_sway 50 = .ok (.iload_n 1, 1) := by decide +kernel
theorem dX11_sway_51 : decode cX11_sway 51 = .ok (.if_icmp .le 14, 3) := by decide +kernel
theorem dX11_sway_54 : decode cX11_sway 54 = .ok (.iload 5, 2) := by decide +kernel
theorem dX11_sway_56 : decode cX11_sway 56 = .ok (.istore_n 1, 1) := by decide +kernel
theorem dX11_sway_57 : decode cX11_sway 57 = .ok (.bipush 8, 2) := by decide +kernel
theorem dX11_sway_59 : decode cX11_sway 59 = .ok (.iload_n 3, 1) := by decide +kernel
theorem dX11_sway_60 : decode cX11_sway 60 = .ok (.imul, 1) := by decide +kernel
theorem dX11_sway_61 : decode cX11_sway 61 = .ok (.iload 4, 2) := by decide +kernel
theorem dX11_sway_63 : decode cX11_sway 63 = .ok (.iadd, 1) := by decide +kernel
theorem dX11_sway_64 : decode cX11_sway 64 = .ok (.istore_n 2, 1) := by decide +kernel
theorem dX11_sway_65 : decode cX11_sway 65 = .ok (.iinc 4 1, 3) := by decide +kernel
theorem dX11_sway_68 : decode cX11_sway 68 = .ok (.goto (-48), 3) := by decide +kernel
theorem dX11_sway_71 : decode cX11_sway 71 = .ok (.iinc 3 1, 3) := by decide +kernel
theorem dX11_sway_74 : decode cX11_sway 74 = .ok (.goto (-68), 3) := by decide +kernel
theorem dX11_sway_77 : decode cX11_sway 77 = .ok (.iload_n 2, 1) := by decide +kernel
theorem dX11_sway_78 : decode cX11_sway 78 = .ok (.ireturn, 1) := by decide +kernel
theorem dX11_quarrels_0 : decode cX11_quarrels 0 = .ok (.iconst 0, 1) := by decide +kernel
theorem dX11_quarrels_1 : decode cX11_quarrels 1 = .ok (.istore_n 1, 1) := by decide +kernel
theorem dX11_quarrels_2 : decode cX11_quarrels 2 = .ok (.iconst 0, 1) := by decide +kernel
theorem dX11_quarrels_3 : decode cX11_quarrels 3 = .ok (.istore_n 2, 1) := by decide +kernel
theorem dX11_quarrels_4 : decode cX11_quarrels 4 = .ok (.iload_n 2, 1) := by decide +kernel
theorem dX11_quarrels_5 : decode cX11_quarrels 5 = .ok (.aload_n 0, 1) := by decide +kernel
theorem dX11_quarrels_6 : decode cX11_quarrels 6 = .ok (.getfield 26, 3) := by decide +kernel
theorem dX11_quarrels_9 : decode cX11_quarrels 9 = .ok (.getfield 289, 3) := by decide +kernel
theorem dX11_quarrels_12 : decode cX11_quarrels 12 = .ok (.if_icmp .ge 64, 3) := by decide +kernel
theorem dX11_quarrels_15 : decode cX11_quarrels 15 = .ok (.iload_n 2, 1) := by decide +kernel
theorem dX11_quarrels_16 : decode cX11_quarrels 16 = .ok (.iconst 1, 1) := by decide +kernel
theorem dX11_quarrels_17 : decode cX11_quarrels 17 = .ok (.iadd, 1) := by decide +kernel
theorem dX11_quarrels_18 : decode cX11_quarrels 18 = .ok (.istore_n 3, 1) := by decide +kernel
theorem dX11_quarrels_19 : decode cX11_quarrels 19 = .ok (.iload_n 3, 1) := by decide +kernel
theorem dX11_quarrels_20 : decode cX11_quarrels 20 = .ok (.aload_n 0, 1) := by decide +kernel
theorem dX11_quarrels_21 : decode cX11_quarrels 21 = .ok (.getfield 26, 3) := by decide +kernel
theorem dX11_quarrels_24 : decode cX11_quarrels 24 = .ok (.getfield 289, 3) := by decide +kernel
theorem dX11_quarrels_27 : decode cX11_quarrels 27 = .ok (.if_icmp .ge 43, 3) := by decide +kernel
theorem dX11_quarrels_30 : decode cX11_quarrels 30 = .ok (.aload_n 0, 1) := by decide +kernel
theorem dX11_quarrels_31 : decode cX11_quarrels 31 = .ok (.getfield 46, 3) := by decide +kernel
theorem dX11_quarrels_34 : decode cX11_quarrels 34 = .ok (.iload_n 2, 1) := by decide +kernel
theorem dX11_quarrels_35 : decode cX11_quarrels 35 = .ok (.invokevirtual 165, 3) := by decide +kernel
theorem dX11_quarrels_38 : decode cX11_quarrels 38 = .ok (.ifCond .eq 26, 3) := by decide +kernel
theorem dX11_quarrels_41 : decode cX11_quarrels 41 = .ok (.aload_n 0, 1) := by decide +kernel
theorem dX11_quarrels_42 : decode cX11_quarrels 42 = .ok (.getfield 46, 3) := by decide +kernel
theorem dX11_quarrels_45 : decode cX11_quarrels 45 = .ok (.iload_n 3, 1) := by decide +kernel
theorem dX11_quarrels_46 : decode cX11_quarrels 46 = .ok (.invokevirtual 165, 3) := by decide +kernel
theorem dX11_quarrels_49 : decode cX11_quarrels 49 = .ok (.ifCond .eq 15, 3) := by decide +kernel
theorem dX11_quarrels_52 : decode cX11_quarrels 52 = .ok (.aload_n 0, 1) := by decide +kernel
theorem dX11_quarrels_53 : decode cX11_quarrels 53 = .ok (.iload_n 2, 1) := by decide +kernel
theorem dX11_quarrels_54 : decode cX11_quarrels 54 = .ok (.iload_n 3, 1) := by decide +kernel
theorem dX11_quarrels_55 : decode cX11_quarrels 55 = .ok (.invokevirtual 295, 3) := by decide +kernel
theorem dX11_quarrels_58 : decode cX11_quarrels 58 = .ok (.ifCond .eq 6, 3) := by decide +kernel
theorem dX11_quarrels_61 : decode cX11_quarrels 61 = .ok (.iinc 1 1, 3) := by decide +kernel
theorem dX11_quarrels_64 : decode cX11_quarrels 64 = .ok (.iinc 3 1, 3) := by decide +kernel
theorem dX11_quarrels_67 : decode cX11_quarrels 67 = .ok (.goto (-48), 3) := by decide +kernel
theorem dX11_quarrels_70 : decode cX11_quarrels 70 = .ok (.iinc 2 1, 3) := by decide +kernel
theorem dX11_quarrels_73 : decode cX11_quarrels 73 = .ok (.goto (-69), 3) := by decide +kernel
theorem dX11_quarrels_76 : decode cX11_quarrels 76 = .ok (.iload_n 1, 1) := by decide +kernel
theorem dX11_quarrels_77 : decode cX11_quarrels 77 = .ok (.ireturn, 1) := by decide +kernel
theorem dX11_quarrel_0 : decode cX11_quarrel 0 = .ok (.iconst 0, 1) := by decide +kernel
theorem dX11_quarrel_1 : decode cX11_quarrel 1 = .ok (.istore_n 3, 1) := by decide +kernel
theorem dX11_quarrel_2 : decode cX11_quarrel 2 = .ok (.iload_n 3, 1) := by decide +kernel
theorem dX11_quarrel_3 : decode cX11_quarrel 3 = .ok (.aload_n 0, 1) := by decide +kernel
theorem dX11_quarrel_4 : decode cX11_quarrel 4 = .ok (.getfield 26, 3) := by decide +kernel
theorem dX11_quarrel_7 : decode cX11_quarrel 7 = .ok (.getfield 280, 3) := by decide +kernel
theorem dX11_quarrel_10 : decode cX11_quarrel 10 = .ok (.if_icmp .ge 52, 3) := by decide +kernel
theorem dX11_quarrel_13 : decode cX11_quarrel 13 = .ok (.aload_n 0, 1) := by decide +kernel
theorem dX11_quarrel_14 : decode cX11_quarrel 14 = .ok (.getfield 46, 3) := by decide +kernel
theorem dX11_quarrel_17 : decode cX11_quarrel 17 = .ok (.iload_n 1, 1) := by decide +kernel
theorem dX11_quarrel_18 : decode cX11_quarrel 18 = .ok (.iload_n 3, 1) := by decide +kernel
theorem dX11_quarrel_19 : decode cX11_quarrel 19 = .ok (.invokevirtual 172, 3) := by decide +kernel
theorem dX11_quarrel_22 : decode cX11_quarrel 22 = .ok (.istore 4, 2) := by decide +kernel
theorem dX11_quarrel_24 : decode cX11_quarrel 24 = .ok (.aload_n 0, 1) := by decide +kernel
theorem dX11_quarrel_25 : decode cX11_quarrel 25 = .ok (.getfield 46, 3) := by decide +kernel
theorem dX11_quarrel_28 : decode cX11_quarrel 28 = .ok (.iload_n 2, 1) := by decide +kernel
theorem dX11_quarrel_29 : decode cX11_quarrel 29 = .ok (.iload_n 3, 1) := by decide +kernel
theorem dX11_quarrel_30 : decode cX11_quarrel 30 = .ok (.invokevirtual 172, 3) := by decide +kernel
theorem dX11_quarrel_33 : decode cX11_quarrel 33 = .ok (.istore 5, 2) := by decide +kernel
theorem dX11_quarrel_35 : decode cX11_quarrel 35 = .ok (.iload 4, 2) := by decide +kernel
theorem dX11_quarrel_37 : decode cX11_quarrel 37 = .ok (.iconst (-1), 1) := by decide +kernel
theorem dX11_quarrel_38 : decode cX11_quarrel 38 = .ok (.if_icmp .eq 18, 3) := by decide +kernel
theorem dX11_quarrel_41 : decode cX11_quarrel 41 = .ok (.iload 5, 2) := by decide +kernel
theorem dX11_quarrel_43 : decode cX11_quarrel 43 = .ok (.iconst (-1), 1) := by decide +kernel
theorem dX11_quarrel_44 : decode cX11_quarrel 44 = .ok (.if_icmp .eq 12, 3) := by decide +kernel
theorem dX11_quarrel_47 : decode cX11_quarrel 47 = .ok (.iload 4, 2) := by decide +kernel
theorem dX11_quarrel_49 : decode cX11_quarrel 49 = .ok (.iload 5, 2) := by decide +kernel
theorem dX11_quarrel_51 : decode cX11_quarrel 51 = .ok (.if_icmp .eq 5, 3) := by decide +kernel
theorem dX11_quarrel_54 : decode cX11_quarrel 54 = .ok (.iconst 1, 1) := by decide +kernel
theorem dX11_quarrel_55 : decode cX11_quarrel 55 = .ok (.ireturn, 1) := by decide +kernel
theorem dX11_quarrel_56 : decode cX11_quarrel 56 = .ok (.iinc 3 1, 3) := by decide +kernel
theorem dX11_quarrel_59 : decode cX11_quarrel 59 = .ok (.goto (-57), 3) := by decide +kernel
theorem dX11_quarrel_62 : decode cX11_quarrel 62 = .ok (.iconst 0, 1) := by decide +kernel
theorem dX11_quarrel_63 : decode cX11_quarrel 63 = .ok (.ireturn, 1) := by decide +kernel
theorem dX11_couples_0 : decode cX11_couples 0 = .ok (.iconst 0, 1) := by decide +kernel
theorem dX11_couples_1 : decode cX11_couples 1 = .ok (.istore_n 1, 1) := by decide +kernel
theorem dX11_couples_2 : decode cX11_couples 2 = .ok (.aload_n 0, 1) := by decide +kernel
theorem dX11_couples_3 : decode cX11_couples 3 = .ok (.getfield 46, 3) := by decide +kernel
theorem dX11_couples_6 : decode cX11_couples 6 = .ok (.getfield 219, 3) := by decide +kernel
theorem dX11_couples_9 : decode cX11_couples 9 = .ok (.istore_n 2, 1) := by decide +kernel
theorem dX11_couples_10 : decode cX11_couples 10 = .ok (.iconst 0, 1) := by decide +kernel
theorem dX11_couples_11 : decode cX11_couples 11 = .ok (.istore_n 3, 1) := by decide +kernel
theorem dX11_couples_12 : decode cX11_couples 12 = .ok (.iload_n 3, 1) := by decide +kernel
theorem dX11_couples_13 : decode cX11_couples 13 = .ok (.aload_n 0, 1) := by decide +kernel
theorem dX11_couples_14 : decode cX11_couples 14 = .ok (.getfield 26, 3) := by decide +kernel
theorem dX11_couples_17 : decode cX11_couples 17 = .ok (.getfield 289, 3) := by decide +kernel
theorem dX11_couples_20 : decode cX11_couples 20 = .ok (.if_icmp .ge 52, 3) := by decide +kernel
theorem dX11_couples_23 : decode cX11_couples 23 = .ok (.iload_n 2, 1) := by decide +kernel
theorem dX11_couples_24 : decode cX11_couples 24 = .ok (.iload_n 3, 1) := by decide +kernel
theorem dX11_couples_25 : decode cX11_couples 25 = .ok (.ishr, 1) := by decide +kernel
theorem dX11_couples_26 : decode cX11_couples 26 = .ok (.iconst 1, 1) := by decide +kernel
theorem dX11_couples_27 : decode cX11_couples 27 = .ok (.iand, 1) := by decide +kernel
theorem dX11_couples_28 : decode cX11_couples 28 = .ok (.iconst 1, 1) := by decide +kernel
theorem dX11_couples_29 : decode cX11_couples 29 = .ok (.if_icmp .ne 12, 3) := by decide +kernel
theorem dX11_couples_32 : decode cX11_couples 32 = .ok (.aload_n 0, 1) := by decide +kernel
theorem dX11_couples_33 : decode cX11_couples 33 = .ok (.iload_n 3, 1) := by decide +kernel
theorem dX11_couples_34 : decode cX11_couples 34 = .ok (.iload_n 2, 1) := by decide +kernel
theorem dX11_couples_35 : decode cX11_couples 35 = .ok (.invokevirtual 298, 3) := by decide +kernel
theorem dX11_couples_38 : decode cX11_couples 38 = .ok (.goto 4, 3) := by decide +kernel
theorem dX11_couples_41 : decode cX11_couples 41 = .ok (.iconst (-1), 1) := by decide +kernel
theorem dX11_couples_42 : decode cX11_couples 42 = .ok (.istore 4, 2) := by decide +kernel
theorem dX11_couples_44 : decode cX11_couples 44 = .ok (.iload 4, 2) := by decide +kernel
theorem dX11_couples_46 : decode cX11_couples 46 = .ok (.iconst (-1), 1) := by decide +kernel
theorem dX11_couples_47 : decode cX11_couples 47 = .ok (.if_icmp .eq 19, 3) := by decide +kernel
theorem dX11_couples_50 : decode cX11_couples 50 = .ok (.iload_n 2, 1) := by decide +kernel
theorem dX11_couples_51 : decode cX11_couples 51 = .ok (.iconst 1, 1) := by decide +kernel
theorem dX11_couples_52 : decode cX11_couples 52 = .ok (.iload_n 3, 1) := by decide +kernel
theorem dX11_couples_53 : decode cX11_couples 53 = .ok (.ishl, 1) := by decide +kernel
theorem dX11_couples_54 : decode cX11_couples 54 = .ok (.iconst 1, 1) := by decide +kernel
theorem dX11_couples_55 : decode cX11_couples 55 = .ok (.iload 4, 2) := by decide +kernel
theorem dX11_couples_57 : decode cX11_couples 57 = .ok (.ishl, 1) := by decide +kernel
theorem dX11_couples_58 : decode cX11_couples 58 = .ok (.ior, 1) := by decide +kernel
theorem dX11_couples_59 : decode cX11_couples 59 = .ok (.iconst (-1), 1) := by decide +kernel
theorem dX11_couples_60 : decode cX11_couples 60 = .ok (.ixor, 1) := by decide +kernel
theorem dX11_couples_61 : decode cX11_couples 61 = .ok (.iand, 1) := by decide +kernel
theorem dX11_couples_62 : decode cX11_couples 62 = .ok (.istore_n 2, 1) := by decide +kernel
theorem dX11_couples_63 : decode cX11_couples 63 = .ok (.iinc 1 1, 3) := by decide +kernel
theorem dX11_couples_66 : decode cX11_couples 66 = .ok (.iinc 3 1, 3) := by decide +kernel
theorem dX11_couples_69 : decode cX11_couples 69 = .ok (.goto (-57), 3) := by decide +kernel
theorem dX11_couples_72 : decode cX11_couples 72 = .ok (.iload_n 1, 1) := by decide +kernel
theorem dX11_couples_73 : decode cX11_couples 73 = .ok (.ireturn, 1) := by decide +kernel
theorem dX11_partner_0 : decode cX11_partner 0 = .ok (.iload_n 1, 1) := by decide +kernel
theorem dX11_partner_1 : decode cX11_partner 1 = .ok (.iconst 1, 1) := by decide +kernel
theorem dX11_partner_2 : decode cX11_partner 2 = .ok (.iadd, 1) := by decide +kernel
theorem dX11_partner_3 : decode cX11_partner 3 = .ok (.istore_n 3, 1) := by decide +kernel
theorem dX11_partner_4 : decode cX11_partner 4 = .ok (.iload_n 3, 1) := by decide +kernel
theorem dX11_partner_5 : decode cX11_partner 5 = .ok (.aload_n 0, 1) := by decide +kernel
theorem dX11_partner_6 : decode cX11_partner 6 = .ok (.getfield 26, 3) := by decide +kernel
theorem dX11_partner_9 : decode cX11_partner 9 = .ok (.getfield 289, 3) := by decide +kernel
theorem dX11_partner_12 : decode cX11_partner 12 = .ok (.if_icmp .ge 29, 3) := by decide +kernel
theorem dX11_partner_15 : decode cX11_partner 15 = .ok (.iload_n 2, 1) := by decide +kernel
theorem dX11_partner_16 : decode cX11_partner 16 = .ok (.iload_n 3, 1) := by decide +kernel
theorem dX11_partner_17 : decode cX11_partner 17 = .ok (.ishr, 1) := by decide +kernel
theorem dX11_partner_18 : decode cX11_partner 18 = .ok (.iconst 1, 1) := by decide +kernel
theorem dX11_partner_19 : decode cX11_partner 19 = .ok (.iand, 1) := by decide +kernel
theorem dX11_partner_20 : decode cX11_partner 20 = .ok (.iconst 1, 1) := by decide +kernel
theorem dX11_partner_21 : decode cX11_partner 21 = .ok (.if_icmp .ne 14, 3) := by decide +kernel
theorem dX11_partner_24 : decode cX11_partner 24 = .ok (.aload_n 0, 1) := by decide +kernel
theorem dX11_partner_25 : decode cX11_partner 25 = .ok (.iload_n 1, 1) := by decide +kernel
theorem dX11_partner_26 : decode cX11_partner 26 = .ok (.iload_n 3, 1) := by decide +kernel
theorem dX11_partner_27 : decode cX11_partner 27 = .ok (.invokevirtual 301, 3) := by decide +kernel
theorem dX11_partner_30 : decode cX11_partner 30 = .ok (.ifCond .eq 5, 3) := by decide +kernel
theorem dX11_partner_33 : decode cX11_partner 33 = .ok (.iload_n 3, 1) := by decide +kernel
theorem dX11_partner_34 : decode cX11_partner 34 = .ok (.ireturn, 1) := by decide +kernel
theorem dX11_partner_35 : decode cX11_partner 35 = .ok (.iinc 3 1, 3) := by decide +kernel
theorem dX11_partner_38 : decode cX11_partner 38 = .ok (.goto (-34), 3) := by decide +kernel
theorem dX11_partner_41 : decode cX11_partner 41 = .ok (.iconst (-1), 1) := by decide +kernel
theorem dX11_partner_42 : decode cX11_partner 42 = .ok (.ireturn, 1) := by decide +kernel
theorem dX11_alike_0 : decode cX11_alike 0 = .ok (.iconst 0, 1) := by decide +kernel
theorem dX11_alike_1 : decode cX11_alike 1 = .ok (.istore_n 3, 1) := by decide +kernel
theorem dX11_alike_2 : decode cX11_alike 2 = .ok (.iload_n 3, 1) := by decide +kernel
theorem dX11_alike_3 : decode cX11_alike 3 = .ok (.aload_n 0, 1) := by decide +kernel
theorem dX11_alike_4 : decode cX11_alike 4 = .ok (.getfield 26, 3) := by decide +kernel
theorem dX11_alike_7 : decode cX11_alike 7 = .ok (.getfield 280, 3) := by decide +kernel
theorem dX11_alike_10 : decode cX11_alike 10 = .ok (.if_icmp .ge 32, 3) := by decide +kernel
theorem dX11_alike_13 : decode cX11_alike 13 = .ok (.aload_n 0, 1) := by decide +kernel
theorem dX11_alike_14 : decode cX11_alike 14 = .ok (.getfield 46, 3) := by decide +kernel
theorem dX11_alike_17 : decode cX11_alike 17 = .ok (.iload_n 1, 1) := by decide +kernel
theorem dX11_alike_18 : decode cX11_alike 18 = .ok (.iload_n 3, 1) := by decide +kernel
theorem dX11_alike_19 : decode cX11_alike 19 = .ok (.invokevirtual 172, 3) := by decide +kernel
theorem dX11_alike_22 : decode cX11_alike 22 = .ok (.aload_n 0, 1) := by decide +kernel
theorem dX11_alike_23 : decode cX11_alike 23 = .ok (.getfield 46, 3) := by decide +kernel
theorem dX11_alike_26 : decode cX11_alike 26 = .ok (.iload_n 2, 1) := by decide +kernel
theorem dX11_alike_27 : decode cX11_alike 27 = .ok (.iload_n 3, 1) := by decide +kernel
theorem dX11_alike_28 : decode cX11_alike 28 = .ok (.invokevirtual 172, 3) := by decide +kernel
theorem dX11_alike_31 : decode cX11_alike 31 = .ok (.if_icmp .eq 5, 3) := by decide +kernel
theorem dX11_alike_34 : decode cX11_alike 34 = .ok (.iconst 0, 1) := by decide +kernel
theorem dX11_alike_35 : decode cX11_alike 35 = .ok (.ireturn, 1) := by decide +kernel
theorem dX11_alike_36 : decode cX11_alike 36 = .ok (.iinc 3 1, 3) := by decide +kernel
theorem dX11_alike_39 : decode cX11_alike 39 = .ok (.goto (-37), 3) := by decide +kernel
theorem dX11_alike_42 : decode cX11_alike 42 = .ok (.iconst 1, 1) := by decide +kernel
theorem dX11_alike_43 : decode cX11_alike 43 = .ok (.ireturn, 1) := by decide +kernel
theorem dX11_tell_0 : decode cX11_tell 0 = .ok (.aload_n 0, 1) := by decide +kernel
theorem dX11_tell_1 : decode cX11_tell 1 = .ok (.getfield 26, 3) := by decide +kernel
theorem dX11_tell_4 : decode cX11_tell 4 = .ok (.iload_n 1, 1) := by decide +kernel
theorem dX11_tell_5 : decode cX11_tell 5 = .ok (.iload_n 2, 1) := by decide +kernel
theorem dX11_tell_6 : decode cX11_tell 6 = .ok (.invokevirtual 168, 3) := by decide +kernel
theorem dX11_tell_9 : decode cX11_tell 9 = .ok (.ifCond .eq 13, 3) := by decide +kernel
theorem dX11_tell_12 : decode cX11_tell 12 = .ok (.iload_n 3, 1) := by decide +kernel
theorem dX11_tell_13 : decode cX11_tell 13 = .ok (.iconst (-1), 1) := by decide +kernel
theorem dX11_tell_14 : decode cX11_tell 14 = .ok (.if_icmp .lt 8, 3) := by decide +kernel
theorem dX11_tell_17 : decode cX11_tell 17 = .ok (.iload_n 3, 1) := by decide +kernel
theorem dX11_tell_18 : decode cX11_tell 18 = .ok (.iconst 1, 1) := by decide +kernel
theorem dX11_tell_19 : decode cX11_tell 19 = .ok (.if_icmp .le 5, 3) := by decide +kernel
theorem dX11_tell_22 : decode cX11_tell 22 = .ok (.iconst 0, 1) := by decide +kernel
theorem dX11_tell_23 : decode cX11_tell 23 = .ok (.ireturn, 1) := by decide +kernel
theorem dX11_tell_24 : decode cX11_tell 24 = .ok (.aload_n 0, 1) := by decide +kernel
theorem dX11_tell_25 : decode cX11_tell 25 = .ok (.getfield 66, 3) := by decide +kernel
theorem dX11_tell_28 : decode cX11_tell 28 = .ok (.iload_n 1, 1) := by decide +kernel
theorem dX11_tell_29 : decode cX11_tell 29 = .ok (.bipush 6, 2) := by decide +kernel
theorem dX11_tell_31 : decode cX11_tell 31 = .ok (.imul, 1) := by decide +kernel
theorem dX11_tell_32 : decode cX11_tell 32 = .ok (.iload_n 2, 1) := by decide +kernel
theorem dX11_tell_33 : decode cX11_tell 33 = .ok (.iadd, 1) := by decide +kernel
theorem dX11_tell_34 : decode cX11_tell 34 = .ok (.iload_n 3, 1) := by decide +kernel
theorem dX11_tell_35 : decode cX11_tell 35 = .ok (.iconst 2, 1) := by decide +kernel
theorem dX11_tell_36 : decode cX11_tell 36 = .ok (.iadd, 1) := by decide +kernel
theorem dX11_tell_37 : decode cX11_tell 37 = .ok (.invokestatic 259, 3) := by decide +kernel
theorem dX11_tell_40 : decode cX11_tell 40 = .ok (.iconst 1, 1) := by decide +kernel
theorem dX11_tell_41 : decode cX11_tell 41 = .ok (.ireturn, 1) := by decide +kernel
theorem dX11_isTold_0 : decode cX11_isTold 0 = .ok (.aload_n 0, 1) := by decide +kernel
theorem dX11_isTold_1 : decode cX11_isTold 1 = .ok (.getfield 66, 3) := by decide +kernel
theorem dX11_isTold_4 : decode cX11_isTold 4 = .ok (.iload_n 1, 1) := by decide +kernel
theorem dX11_isTold_5 : decode cX11_isTold 5 = .ok (.bipush 6, 2) := by decide +kernel
theorem dX11_isTold_7 : decode cX11_isTold 7 = .ok (.imul, 1) := by decide +kernel
theorem dX11_isTold_8 : decode cX11_isTold 8 = .ok (.iload_n 2, 1) := by decide +kernel
theorem dX11_isTold_9 : decode cX11_isTold 9 = .ok (.iadd, 1) := by decide +kernel
theorem dX11_isTold_10 : decode cX11_isTold 10 = .ok (.invokestatic 150, 3) := by decide +kernel
theorem dX11_isTold_13 : decode cX11_isTold 13 = .ok (.ifCond .le 7, 3) := by decide +kernel
theorem dX11_isTold_16 : decode cX11_isTold 16 = .ok (.iconst 1, 1) := by decide +kernel
theorem dX11_isTold_17 : decode cX11_isTold 17 = .ok (.goto 4, 3) := by decide +kernel
theorem dX11_isTold_20 : decode cX11_isTold 20 = .ok (.iconst 0, 1) := by decide +kernel
theorem dX11_isTold_21 : decode cX11_isTold 21 = .ok (.ireturn, 1) := by decide +kernel
theorem dX11_sets_0 : decode cX11_sets 0 = .ok (.iload_n 1, 1) := by decide +kernel
theorem dX11_sets_1 : decode cX11_sets 1 = .ok (.ifCond .lt 8, 3) := by decide +kernel
theorem dX11_sets_4 : decode cX11_sets 4 = .ok (.iload_n 1, 1) := by decide +kernel
theorem dX11_sets_5 : decode cX11_sets 5 = .ok (.iconst 2, 1) := by decide +kernel
theorem dX11_sets_6 : decode cX11_sets 6 = .ok (.if_icmp .le 5, 3) := by decide +kernel
theorem dX11_sets_9 : decode cX11_sets 9 = .ok (.iconst (-1), 1) := by decide +kernel
theorem dX11_sets_10 : decode cX11_sets 10 = .ok (.ireturn, 1) := by decide +kernel
theorem dX11_sets_11 : decode cX11_sets 11 = .ok (.aload_n 0, 1) := by decide +kernel
theorem dX11_sets_12 : decode cX11_sets 12 = .ok (.invokevirtual 269, 3) := by decide +kernel
theorem dX11_sets_15 : decode cX11_sets 15 = .ok (.istore_n 2, 1) := by decide +kernel
theorem dX11_sets_16 : decode cX11_sets 16 = .ok (.iconst 0, 1) := by decide +kernel
theorem dX11_sets_17 : decode cX11_sets 17 = .ok (.istore_n 3, 1) := by decide +kernel
theorem dX11_sets_18 : decode cX11_sets 18 = .ok (.iload_n 2, 1) := by decide +kernel
theorem dX11_sets_19 : decode cX11_sets 19 = .ok (.istore 4, 2) := by decide +kernel
theorem dX11_sets_21 : decode cX11_sets 21 = .ok (.iconst 0, 1) := by decide +kernel
theorem dX11_sets_22 : decode cX11_sets 22 = .ok (.istore 5, 2) := by decide +kernel
theorem dX11_sets_24 : decode cX11_sets 24 = .ok (.iconst 0, 1) := by decide +kernel
theorem dX11_sets_25 : decode cX11_sets 25 = .ok (.istore 6, 2) := by decide +kernel
theorem dX11_sets_27 : decode cX11_sets 27 = .ok (.iload 6, 2) := by decide +kernel
theorem dX11_sets_29 : decode cX11_sets 29 = .ok (.sipush 256, 3) := by decide +kernel
theorem dX11_sets_32 : decode cX11_sets 32 = .ok (.if_icmp .ge 48, 3) := by decide +kernel
theorem dX11_sets_35 : decode cX11_sets 35 = .ok (.iload 6, 2) := by decide +kernel
theorem dX11_sets_37 : decode cX11_sets 37 = .ok (.iload_n 2, 1) := by decide +kernel
theorem dX11_sets_38 : decode cX11_sets 38 = .ok (.iconst (-1), 1) := by decide +kernel
theorem dX11_sets_39 : decode cX11_sets 39 = .ok (.ixor, 1) := by decide +kernel
theorem dX11_sets_40 : decode cX11_sets 40 = .ok (.iand, 1) := by decide +kernel
theorem dX11_sets_41 : decode cX11_sets 41 = .ok (.ifCond .ne 33, 3) := by decide +kernel
theorem dX11_sets_44 : decode cX11_sets 44 = .ok (.aload_n 0, 1) := by decide +kernel
theorem dX11_sets_45 : decode cX11_sets 45 = .ok (.iload 6, 2) := by decide +kernel
theorem dX11_sets_47 : decode cX11_sets 47 = .ok (.invokevirtual 272, 3) := by decide +kernel
theorem dX11_sets_50 : decode cX11_sets 50 = .ok (.aload_n 0, 1) := by decide +kernel
theorem dX11_sets_51 : decode cX11_sets 51 = .ok (.invokevirtual 304, 3) := by decide +kernel
theorem dX11_sets_54 : decode cX11_sets 54 = .ok (.ifCond .eq 20, 3) := by decide +kernel
theorem dX11_sets_57 : decode cX11_sets 57 = .ok (.iinc 3 1, 3) := by decide +kernel
theorem dX11_sets_60 : decode cX11_sets 60 = .ok (.iload 4, 2) := by decide +kernel
theorem dX11_sets_62 : decode cX11_sets 62 = .ok (.iload 6, 2) := by decide +kernel
theorem dX11_sets_64 : decode cX11_sets 64 = .ok (.iand, 1) := by decide +kernel
theorem dX11_sets_65 : decode cX11_sets 65 = .ok (.istore 4, 2) := by decide +kernel
theorem dX11_sets_67 : decode cX11_sets 67 = .ok (.iload 5, 2) := by decide +kernel
theorem dX11_sets_69 : decode cX11_sets 69 = .ok (.iload 6, 2) := by decide +kernel
theorem dX11_sets_71 : decode cX11_sets 71 = .ok (.ior, 1) := by decide +kernel
theorem dX11_sets_72 : decode cX11_sets 72 = .ok (.istore 5, 2) := by decide +kernel
theorem dX11_sets_74 : decode cX11_sets 74 = .ok (.iinc 6 1, 3) := by decide +kernel
theorem dX11_sets_77 : decode cX11_sets 77 = .ok (.goto (-50), 3) := by decide +kernel
theorem dX11_sets_80 : decode cX11_sets 80 = .ok (.iload_n 1, 1) := by decide +kernel
theorem dX11_sets_81 : decode cX11_sets 81 = .ok (.ifCond .ne 5, 3) := by decide +kernel
theorem dX11_sets_84 : decode cX11_sets 84 = .ok (.iload_n 3, 1) := by decide +kernel
theorem dX11_sets_85 : decode cX11_sets 85 = .ok (.ireturn, 1) := by decide +kernel
theorem dX11_sets_86 : decode cX11_sets 86 = .ok (.iload_n 3, 1) := by decide +kernel
theorem dX11_sets_87 : decode cX11_sets 87 = .ok (.ifCond .ne 5, 3) := by decide +kernel
theorem dX11_sets_90 : decode cX11_sets 90 = .ok (.iconst (-1), 1) := by decide +kernel
theorem dX11_sets_91 : decode cX11_sets 91 = .ok (.ireturn, 1) := by decide +kernel
theorem dX11_sets_92 : decode cX11_sets 92 = .ok (.iload_n 1, 1) := by decide +kernel
theorem dX11_sets_93 : decode cX11_sets 93 = .ok (.iconst 1, 1) := by decide +kernel
theorem dX11_sets_94 : decode cX11_sets 94 = .ok (.if_icmp .ne 8, 3) := by decide +kernel
theorem dX11_sets_97 : decode cX11_sets 97 = .ok (.iload 4, 2) := by decide +kernel
theorem dX11_sets_99 : decode cX11_sets 99 = .ok (.goto 5, 3) := by decide +kernel
theorem dX11_sets_102 : decode cX11_sets 102 = .ok (.iload 5, 2) := by decide +kernel
theorem dX11_sets_104 : decode cX11_sets 104 = .ok (.ireturn, 1) := by decide +kernel
theorem dX11_isAsTold_0 : decode cX11_isAsTold 0 = .ok (.iconst 0, 1) := by decide +kernel
theorem dX11_isAsTold_1 : decode cX11_isAsTold 1 = .ok (.istore_n 1, 1) := by decide +kernel
theorem dX11_isAsTold_2 : decode cX11_isAsTold 2 = .ok (.iload_n 1, 1) := by decide +kernel
theorem dX11_isAsTold_3 : decode cX11_isAsTold 3 = .ok (.aload_n 0, 1) := by decide +kernel
theorem dX11_isAsTold_4 : decode cX11_isAsTold 4 = .ok (.getfield 26, 3) := by decide +kernel
theorem dX11_isAsTold_7 : decode cX11_isAsTold 7 = .ok (.getfield 289, 3) := by decide +kernel
theorem dX11_isAsTold_10 : decode cX11_isAsTold 10 = .ok (.if_icmp .ge 68, 3) := by decide +kernel
theorem dX11_isAsTold_13 : decode cX11_isAsTold 13 = .ok (.iconst 0, 1) := by decide +kernel
theorem dX11_isAsTold_14 : decode cX11_isAsTold 14 = .ok (.istore_n 2, 1) := by decide +kernel
theorem dX11_isAsTold_15 : decode cX11_isAsTold 15 = .ok (.iload_n 2, 1) := by decide +kernel
theorem dX11_isAsTold_16 : decode cX11_isAsTold 16 = .ok (.aload_n 0, 1) := by decide +kernel
theorem dX11_isAsTold_17 : decode cX11_isAsTold 17 = .ok (.getfield 26, 3) := by decide +kernel
theorem dX11_isAsTold_20 : decode cX11_isAsTold 20 = .ok (.getfield 280, 3) := by decide +kernel
theorem dX11_isAsTold_23 : decode cX11_isAsTold 23 = .ok (.if_icmp .ge 49, 3) := by decide +kernel
theorem dX11_isAsTold_26 : decode cX11_isAsTold 26 = .ok (.aload_n 0, 1) := by decide +kernel
theorem dX11_isAsTold_27 : decode cX11_isAsTold 27 = .ok (.getfield 66, 3) := by decide +kernel
theorem dX11_isAsTold_30 : decode cX11_isAsTold 30 = .ok (.iload_n 1, 1) := by decide +kernel
theorem dX11_isAsTold_31 : decode cX11_isAsTold 31 = .ok (.bipush 6, 2) := by decide +kernel
theorem dX11_isAsTold_33 : decode cX11_isAsTold 33 = .ok (.imul, 1) := by decide +kernel
theorem dX11_isAsTold_34 : decode cX11_isAsTold 34 = .ok (.iload_n 2, 1) := by decide +kernel
theorem dX11_isAsTold_35 : decode cX11_isAsTold 35 = .ok (.iadd, 1) := by decide +kernel
theorem dX11_isAsTold_36 : decode cX11_isAsTold 36 = .ok (.invokestatic 150, 3) := by decide +kernel
theorem dX11_isAsTold_39 : decode cX11_isAsTold 39 = .ok (.iconst 2, 1) := by decide +kernel
theorem dX11_isAsTold_40 : decode cX11_isAsTold 40 = .ok (.isub, 1) := by decide +kernel
theorem dX11_isAsTold_41 : decode cX11_isAsTold 41 = .ok (.istore_n 3, 1) := by decide +kernel
theorem dX11_isAsTold_42 : decode cX11_isAsTold 42 = .ok (.aload_n 0, 1) := by decide +kernel
theorem dX11_isAsTold_43 : decode cX11_isAsTold 43 = .ok (.iload_n 1, 1) := by decide +kernel
theorem dX11_isAsTold_44 : decode cX11_isAsTold 44 = .ok (.iload_n 2, 1) := by decide +kernel
theorem dX11_isAsTold_45 : decode cX11_isAsTold 45 = .ok (.invokevirtual 308, 3) := by decide +kernel
theorem dX11_isAsTold_48 : decode cX11_isAsTold 48 = .ok (.ifCond .eq 18, 3) := by decide +kernel
theorem dX11_isAsTold_51 : decode cX11_isAsTold 51 = .ok (.iload_n 3, 1) := by decide +kernel
theorem dX11_isAsTold_52 : decode cX11_isAsTold 52 = .ok (.aload_n 0, 1) := by decide +kernel
theorem dX11_isAsTold_53 : decode cX11_isAsTold 53 = .ok (.getfield 50, 3) := by decide +kernel
theorem dX11_isAsTold_56 : decode cX11_isAsTold 56 = .ok (.iload_n 1, 1) := by decide +kernel
theorem dX11_isAsTold_57 : decode cX11_isAsTold 57 = .ok (.iload_n 2, 1) := by decide +kernel
theorem dX11_isAsTold_58 : decode cX11_isAsTold 58 = .ok (.invokevirtual 172, 3) := by decide +kernel
theorem dX11_isAsTold_61 : decode cX11_isAsTold 61 = .ok (.if_icmp .eq 5, 3) := by decide +kernel
theorem dX11_isAsTold_64 : decode cX11_isAsTold 64 = .ok (.iconst 0, 1) := by decide +kernel
theorem dX11_isAsTold_65 : decode cX11_isAsTold 65 = .ok (.ireturn, 1) := by decide +kernel
theorem dX11_isAsTold_66 : decode cX11_isAsTold 66 = .ok (.iinc 2 1, 3) := by decide +kernel
theorem dX11_isAsTold_69 : decode cX11_isAsTold 69 = .ok (.goto (-54), 3) := by decide +kernel
theorem dX11_isAsTold_72 : decode cX11_isAsTold 72 = .ok (.iinc 1 1, 3) := by decide +kernel
theorem dX11_isAsTold_75 : decode cX11_isAsTold 75 = .ok (.goto (-73), 3) := by decide +kernel
theorem dX11_isAsTold_78 : decode cX11_isAsTold 78 = .ok (.iconst 1, 1) := by decide +kernel
theorem dX11_isAsTold_79 : decode cX11_isAsTold 79 = .ok (.ireturn, 1) := by decide +kernel
theorem dX11_ask_0 : decode cX11_ask 0 = .ok (.aload_n 0, 1) := by decide +kernel
theorem dX11_ask_1 : decode cX11_ask 1 = .ok (.invokevirtual 269, 3) := by decide +kernel
theorem dX11_ask_4 : decode cX11_ask 4 = .ok (.istore_n 1, 1) := by decide +kernel
theorem dX11_ask_5 : decode cX11_ask 5 = .ok (.iconst 0, 1) := by decide +kernel
theorem dX11_ask_6 : decode cX11_ask 6 = .ok (.istore_n 2, 1) := by decide +kernel
theorem dX11_ask_7 : decode cX11_ask 7 = .ok (.aload_n 0, 1) := by decide +kernel
theorem dX11_ask_8 : decode cX11_ask 8 = .ok (.getfield 70, 3) := by decide +kernel
theorem dX11_ask_11 : decode cX11_ask 11 = .ok (.iconst 0, 1) := by decide +kernel
theorem dX11_ask_12 : decode cX11_ask 12 = .ok (.invokestatic 106, 3) := by decide +kernel
theorem dX11_ask_15 : decode cX11_ask 15 = .ok (.iconst 0, 1) := by decide +kernel
theorem dX11_ask_16 : decode cX11_ask 16 = .ok (.istore_n 3, 1) := by decide +kernel
theorem dX11_ask_17 : decode cX11_ask 17 = .ok (.iload_n 3, 1) := by decide +kernel
theorem dX11_ask_18 : decode cX11_ask 18 = .ok (.sipush 256, 3) := by decide +kernel
theorem dX11_ask_21 : decode cX11_ask 21 = .ok (.if_icmp .ge 36, 3) := by decide +kernel
theorem dX11_ask_24 : decode cX11_ask 24 = .ok (.iload_n 3, 1) := by decide +kernel
theorem dX11_ask_25 : decode cX11_ask 25 = .ok (.iload_n 1, 1) := by decide +kernel
theorem dX11_ask_26 : decode cX11_ask 26 = .ok (.iconst (-1), 1) := by decide +kernel
theorem dX11_ask_27 : decode cX11_ask 27 = .ok (.ixor, 1) := by decide +kernel
theorem dX11_ask_28 : decode cX11_ask 28 = .ok (.iand, 1) := by decide +kernel
theorem dX11_ask_29 : decode cX11_ask 29 = .ok (.ifCond .ne 22, 3) := by decide +kernel
theorem dX11_ask_32 : decode cX11_ask 32 = .ok (.aload_n 0, 1) := by decide +kernel
theorem dX11_ask_33 : decode cX11_ask 33 = .ok (.iload_n 3, 1) := by decide +kernel
theorem dX11_ask_34 : decode cX11_ask 34 = .ok (.invokevirtual 272, 3) := by decide +kernel
theorem dX11_ask_37 : decode cX11_ask 37 = .ok (.aload_n 0, 1) := by decide +kernel
theorem dX11_ask_38 : decode cX11_ask 38 = .ok (.invokevirtual 304, 3) := by decide +kernel
theorem dX11_ask_41 : decode cX11_ask 41 = .ok (.ifCond .eq 10, 3) := by decide +kernel
theorem dX11_ask_44 : decode cX11_ask 44 = .ok (.iinc 2 1, 3) := by decide +kernel
theorem dX11_ask_47 : decode cX11_ask 47 = .ok (.aload_n 0, 1) := by decide +kernel
theorem dX11_ask_48 : decode cX11_ask 48 = .ok (.invokevirtual 311, 3) := by decide +kernel
theorem dX11_ask_51 : decode cX11_ask 51 = .ok (.iinc 3 1, 3) := by decide +kernel
theorem dX11_ask_54 : decode cX11_ask 54 = .ok (.goto (-37), 3) := by decide +kernel
theorem dX11_ask_57 : decode cX11_ask 57 = .ok (.iconst (-1), 1) := by decide +kernel
theorem dX11_ask_58 : decode cX11_ask 58 = .ok (.istore_n 3, 1) := by decide +kernel
theorem dX11_ask_59 : decode cX11_ask 59 = .ok (.iconst 0, 1) := by decide +kernel
theorem dX11_ask_60 : decode cX11_ask 60 = .ok (.istore 4, 2) := by decide +kernel
theorem dX11_ask_62 : decode cX11_ask 62 = .ok (.iload 4, 2) := by decide +kernel
theorem dX11_ask_64 : decode cX11_ask 64 = .ok (.aload_n 0, 1) := by decide +kernel
theorem dX11_ask_65 : decode cX11_ask 65 = .ok (.getfield 26, 3) := by decide +kernel
theorem dX11_ask_68 : decode cX11_ask 68 = .ok (.getfield 289, 3) := by decide +kernel
theorem dX11_ask_71 : decode cX11_ask 71 = .ok (.if_icmp .ge 73, 3) := by decide +kernel
theorem dX11_ask_74 : decode cX11_ask 74 = .ok (.iconst 0, 1) := by decide +kernel
theorem dX11_ask_75 : decode cX11_ask 75 = .ok (.istore 5, 2) := by decide +kernel
theorem dX11_ask_77 : decode cX11_ask 77 = .ok (.iload 5, 2) := by decide +kernel
theorem dX11_ask_79 : decode cX11_ask 79 = .ok (.aload_n 0, 1) := by decide +kernel
theorem dX11_ask_80 : decode cX11_ask 80 = .ok (.getfield 26, 3) := by decide +kernel
theorem dX11_ask_83 : decode cX11_ask 83 = .ok (.getfield 280, 3) := by decide +kernel
theorem dX11_ask_86 : decode cX11_ask 86 = .ok (.if_icmp .ge 52, 3) := by decide +kernel
theorem dX11_ask_89 : decode cX11_ask 89 = .ok (.aload_n 0, 1) := by decide +kernel
theorem dX11_ask_90 : decode cX11_ask 90 = .ok (.iload 4, 2) := by decide +kernel
theorem dX11_ask_92 : decode cX11_ask 92 = .ok (.bipush 6, 2) := by decide +kernel
theorem dX11_ask_94 : decode cX11_ask 94 = .ok (.imul, 1) := by decide +kernel
theorem dX11_ask_95 : decode cX11_ask 95 = .ok (.iload 5, 2) := by decide +kernel
theorem dX11_ask_97 : decode cX11_ask 97 = .ok (.iadd, 1) := by decide +kernel
theorem dX11_ask_98 : decode cX11_ask 98 = .ok (.invokevirtual 314, 3) := by decide +kernel
theorem dX11_ask_101 : decode cX11_ask 101 = .ok (.istore 6, 2) := by decide +kernel
theorem dX11_ask_103 : decode cX11_ask 103 = .ok (.aload_n 0, 1) := by decide +kernel
theorem dX11_ask_104 : decode cX11_ask 104 = .ok (.iload 4, 2) := by decide +kernel
theorem dX11_ask_106 : decode cX11_ask 106 = .ok (.iload 5, 2) := by decide +kernel
theorem dX11_ask_108 : decode cX11_ask 108 = .ok (.invokevirtual 308, 3) := by decide +kernel
theorem dX11_ask_111 : decode cX11_ask 111 = .ok (.ifCond .ne 21, 3) := by decide +kernel
theorem dX11_ask_114 : decode cX11_ask 114 = .ok (.iload 6, 2) := by decide +kernel
theorem dX11_ask_116 : decode cX11_ask 116 = .ok (.iload_n 2, 1) := by decide +kernel
theorem dX11_ask_117 : decode cX11_ask 117 = .ok (.if_icmp .ge 15, 3) := by decide +kernel
theorem dX11_ask_120 : decode cX11_ask 120 = .ok (.iload 6, 2) := by decide +kernel
theorem dX11_ask_122 : decode cX11_ask 122 = .ok (.istore_n 2, 1) := by decide +kernel
theorem dX11_ask_123 : decode cX11_ask 123 = .ok (.bipush 8, 2) := by decide +kernel
theorem dX11_ask_125 : decode cX11_ask 125 = .ok (.iload 4, 2) := by decide +kernel
theorem dX11_ask_127 : decode cX11_ask 127 = .ok (.imul, 1) := by decide +kernel
theorem dX11_ask_128 : decode cX11_ask 128 = .ok (.iload 5, 2) := by decide +kernel
theorem dX11_ask_130 : decode cX11_ask 130 = .ok (.iadd, 1) := by decide +kernel
theorem dX11_ask_131 : decode cX11_ask 131 = .ok (.istore_n 3, 1) := by decide +kernel
theorem dX11_ask_132 : decode cX11_ask 132 = .ok (.iinc 5 1, 3) := by decide +kernel
theorem dX11_ask_135 : decode cX11_ask 135 = .ok (.goto (-58), 3) := by decide +kernel
theorem dX11_ask_138 : decode cX11_ask 138 = .ok (.iinc 4 1, 3) := by decide +kernel
theorem dX11_ask_141 : decode cX11_ask 141 = .ok (.goto (-79), 3) := by decide +kernel
theorem dX11_ask_144 : decode cX11_ask 144 = .ok (.iload_n 3, 1) := by decide +kernel
theorem dX11_ask_145 : decode cX11_ask 145 = .ok (.ireturn, 1) := by decide +kernel
theorem dX11_tallyEnd_0 : decode cX11_tallyEnd 0 = .ok (.iconst 0, 1) := by decide +kernel
theorem dX11_tallyEnd_1 : decode cX11_tallyEnd 1 = .ok (.istore_n 1, 1) := by decide +kernel
theorem dX11_tallyEnd_2 : decode cX11_tallyEnd 2 = .ok (.iload_n 1, 1) := by decide +kernel
theorem dX11_tallyEnd_3 : decode cX11_tallyEnd 3 = .ok (.aload_n 0, 1) := by decide +kernel
theorem dX11_tallyEnd_4 : decode cX11_tallyEnd 4 = .ok (.getfield 26, 3) := by decide +kernel
theorem dX11_tallyEnd_7 : decode cX11_tallyEnd 7 = .ok (.getfield 289, 3) := by decide +kernel
theorem dX11_tallyEnd_10 : decode cX11_tallyEnd 10 = .ok (.if_icmp .ge 72, 3) := by decide +kernel
theorem dX11_tallyEnd_13 : decode cX11_tallyEnd 13 = .ok (.iconst 0, 1) := by decide +kernel
theorem dX11_tallyEnd_14 : decode cX11_tallyEnd 14 = .ok (.istore_n 2, 1) := by decide +kernel
theorem dX11_tallyEnd_15 : decode cX11_tallyEnd 15 = .ok (.iload_n 2, 1) := by decide +kernel
theorem dX11_tallyEnd_16 : decode cX11_tallyEnd 16 = .ok (.aload_n 0, 1) := by decide +kernel
theorem dX11_tallyEnd_17 : decode cX11_tallyEnd 17 = .ok (.getfield 26, 3) := by decide +kernel
theorem dX11_tallyEnd_20 : decode cX11_tallyEnd 20 = .ok (.getfield 280, 3) := by decide +kernel
theorem dX11_tallyEnd_23 : decode cX11_tallyEnd 23 = .ok (.if_icmp .ge 53, 3) := by decide +kernel
theorem dX11_tallyEnd_26 : decode cX11_tallyEnd 26 = .ok (.iload_n 1, 1) := by decide +kernel
theorem dX11_tallyEnd_27 : decode cX11_tallyEnd 27 = .ok (.bipush 6, 2) := by decide +kernel
theorem dX11_tallyEnd_29 : decode cX11_tallyEnd 29 = .ok (.imul, 1) := by decide +kernel
theorem dX11_tallyEnd_30 : decode cX11_tallyEnd 30 = .ok (.iload_n 2, 1) := by decide +kernel
theorem dX11_tallyEnd_31 : decode cX11_tallyEnd 31 = .ok (.iadd, 1) := by decide +kernel
theorem dX11_tallyEnd_32 : decode cX11_tallyEnd 32 = .ok (.istore_n 3, 1) := by decide +kernel
theorem dX11_tallyEnd_33 : decode cX11_tallyEnd 33 = .ok (.iload_n 3, 1) := by decide +kernel
theorem dX11_tallyEnd_34 : decode cX11_tallyEnd 34 = .ok (.iconst 3, 1) := by decide +kernel
theorem dX11_tallyEnd_35 : decode cX11_tallyEnd 35 = .ok (.imul, 1) := by decide +kernel
theorem dX11_tallyEnd_36 : decode cX11_tallyEnd 36 = .ok (.aload_n 0, 1) := by decide +kernel
theorem dX11_tallyEnd_37 : decode cX11_tallyEnd 37 = .ok (.getfield 50, 3) := by decide +kernel
theorem dX11_tallyEnd_40 : decode cX11_tallyEnd 40 = .ok (.iload_n 1, 1) := by decide +kernel
theorem dX11_tallyEnd_41 : decode cX11_tallyEnd 41 = .ok (.iload_n 2, 1) := by decide +kernel
theorem dX11_tallyEnd_42 : decode cX11_tallyEnd 42 = .ok (.invokevirtual 172, 3) := by decide +kernel
theorem dX11_tallyEnd_45 : decode cX11_tallyEnd 45 = .ok (.iadd, 1) := by decide +kernel
theorem dX11_tallyEnd_46 : decode cX11_tallyEnd 46 = .ok (.iconst 1, 1) := by decide +kernel
theorem dX11_tallyEnd_47 : decode cX11_tallyEnd 47 = .ok (.iadd, 1) := by decide +kernel
theorem dX11_tallyEnd_48 : decode cX11_tallyEnd 48 = .ok (.istore 4, 2) := by decide +kernel
theorem dX11_tallyEnd_50 : decode cX11_tallyEnd 50 = .ok (.aload_n 0, 1) := by decide +kernel
theorem dX11_tallyEnd_51 : decode cX11_tallyEnd 51 = .ok (.getfield 70, 3) := by decide +kernel
theorem dX11_tallyEnd_54 : decode cX11_tallyEnd 54 = .ok (.iload 4, 2) := by decide +kernel
theorem dX11_tallyEnd_56 : decode cX11_tallyEnd 56 = .ok (.aload_n 0, 1) := by decide +kernel
theorem dX11_tallyEnd_57 : decode cX11_tallyEnd 57 = .ok (.getfield 70, 3) := by decide +kernel
theorem dX11_tallyEnd_60 : decode cX11_tallyEnd 60 = .ok (.iload 4, 2) := by decide +kernel
theorem dX11_tallyEnd_62 : decode cX11_tallyEnd 62 = .ok (.invokestatic 150, 3) := by decide +kernel
theorem dX11_tallyEnd_65 : decode cX11_tallyEnd 65 = .ok (.iconst 1, 1) := by decide +kernel
theorem dX11_tallyEnd_66 : decode cX11_tallyEnd 66 = .ok (.iadd, 1) := by decide +kernel
theorem dX11_tallyEnd_67 : decode cX11_tallyEnd 67 = .ok (.invokestatic 259, 3) := by decide +kernel
theorem dX11_tallyEnd_70 : decode cX11_tallyEnd 70 = .ok (.iinc 2 1, 3) := by decide +kernel
theorem dX11_tallyEnd_73 : decode cX11_tallyEnd 73 = .ok (.goto (-58), 3) := by decide +kernel
theorem dX11_tallyEnd_76 : decode cX11_tallyEnd 76 = .ok (.iinc 1 1, 3) := by decide +kernel
theorem dX11_tallyEnd_79 : decode cX11_tallyEnd 79 = .ok (.goto (-77), 3) := by decide +kernel
theorem dX11_tallyEnd_82 : decode cX11_tallyEnd 82 = .ok (.return_, 1) := by decide +kernel
theorem dX11_greatestTally_0 : decode cX11_greatestTally 0 = .ok (.aload_n 0, 1) := by decide +kernel
theorem dX11_greatestTally_1 : decode cX11_greatestTally 1 = .ok (.getfield 70, 3) := by decide +kernel
theorem dX11_greatestTally_4 : decode cX11_greatestTally 4 = .ok (.iload_n 1, 1) := by decide +kernel
theorem dX11_greatestTally_5 : decode cX11_greatestTally 5 = .ok (.iconst 3, 1) := by decide +kernel
theorem dX11_greatestTally_6 : decode cX11_greatestTally 6 = .ok (.imul, 1) := by decide +kernel
theorem dX11_greatestTally_7 : decode cX11_greatestTally 7 = .ok (.invokestatic 150, 3) := by decide +kernel
theorem dX11_greatestTally_10 : decode cX11_greatestTally 10 = .ok (.istore_n 2, 1) := by decide +kernel
theorem dX11_greatestTally_11 : decode cX11_greatestTally 11 = .ok (.aload_n 0, 1) := by decide +kernel
theorem dX11_greatestTally_12 : decode cX11_greatestTally 12 = .ok (.getfield 70, 3) := by decide +kernel
theorem dX11_greatestTally_15 : decode cX11_greatestTally 15 = .ok (.iload_n 1, 1) := by decide +kernel
theorem dX11_greatestTally_16 : decode cX11_greatestTally 16 = .ok (.iconst 3, 1) := by decide +kernel
theorem dX11_greatestTally_17 : decode cX11_greatestTally 17 = .ok (.imul, 1) := by decide +kernel
theorem dX11_greatestTally_18 : decode cX11_greatestTally 18 = .ok (.iconst 1, 1) := by decide +kernel
theorem dX11_greatestTally_19 : decode cX11_greatestTally 19 = .ok (.iadd, 1) := by decide +kernel
theorem dX11_greatestTally_20 : decode cX11_greatestTally 20 = .ok (.invokestatic 150, 3) := by decide +kernel
theorem dX11_greatestTally_23 : decode cX11_greatestTally 23 = .ok (.istore_n 3, 1) := by decide +kernel
theorem dX11_greatestTally_24 : decode cX11_greatestTally 24 = .ok (.aload_n 0, 1) := by decide +kernel
theorem dX11_greatestTally_25 : decode cX11_greatestTally 25 = .ok (.getfield 70, 3) := by decide +kernel
theorem dX11_greatestTally_28 : decode cX11_greatestTally 28 = .ok (.iload_n 1, 1) := by decide +kernel
theorem dX11_greatestTally_29 : decode cX11_greatestTally 29 = .ok (.iconst 3, 1) := by decide +kernel
theorem dX11_greatestTally_30 : decode cX11_greatestTally 30 = .ok (.imul, 1) := by decide +kernel
theorem dX11_greatestTally_31 : decode cX11_greatestTally 31 = .ok (.iconst 2, 1) := by decide +kernel
theorem dX11_greatestTally_32 : decode cX11_greatestTally 32 = .ok (.iadd, 1) := by decide +kernel
theorem dX11_greatestTally_33 : decode cX11_greatestTally 33 = .ok (.invokestatic 150, 3) := by decide +kernel
theorem dX11_greatestTally_36 : decode cX11_greatestTally 36 = .ok (.istore 4, 2) := by decide +kernel
theorem dX11_greatestTally_38 : decode cX11_greatestTally 38 = .ok (.iload_n 2, 1) := by decide +kernel
theorem dX11_greatestTally_39 : decode cX11_greatestTally 39 = .ok (.iload_n 3, 1) := by decide +kernel
theorem dX11_greatestTally_40 : decode cX11_greatestTally 40 = .ok (.iload 4, 2) := by decide +kernel
theorem dX11_greatestTally_42 : decode cX11_greatestTally 42 = .ok (.invokestatic 317, 3) := by decide +kernel
theorem dX11_greatestTally_45 : decode cX11_greatestTally 45 = .ok (.invokestatic 317, 3) := by decide +kernel
theorem dX11_greatestTally_48 : decode cX11_greatestTally 48 = .ok (.ireturn, 1) := by decide +kernel
theorem dX11_clashes_0 : decode cX11_clashes 0 = .ok (.iconst 0, 1) := by decide +kernel
theorem dX11_clashes_1 : decode cX11_clashes 1 = .ok (.istore_n 1, 1) := by decide +kernel
theorem dX11_clashes_2 : decode cX11_clashes 2 = .ok (.iconst 0, 1) := by decide +kernel
theorem dX11_clashes_3 : decode cX11_clashes 3 = .ok (.istore_n 2, 1) := by decide +kernel
theorem dX11_clashes_4 : decode cX11_clashes 4 = .ok (.iload_n 2, 1) := by decide +kernel
theorem dX11_clashes_5 : decode cX11_clashes 5 = .ok (.aload_n 0, 1) := by decide +kernel
theorem dX11_clashes_6 : decode cX11_clashes 6 = .ok (.getfield 26, 3) := by decide +kernel
theorem dX11_clashes_9 : decode cX11_clashes 9 = .ok (.getfield 239, 3) := by decide +kernel
theorem dX11_clashes_12 : decode cX11_clashes 12 = .ok (.if_icmp .ge 37, 3) := by decide +kernel
theorem dX11_clashes_15 : decode cX11_clashes 15 = .ok (.iload_n 1, 1) := by decide +kernel
theorem dX11_clashes_16 : decode cX11_clashes 16 = .ok (.aload_n 0, 1) := by decide +kernel
theorem dX11_clashes_17 : decode cX11_clashes 17 = .ok (.getfield 26, 3) := by decide +kernel
theorem dX11_clashes_20 : decode cX11_clashes 20 = .ok (.aload_n 0, 1) := by decide +kernel
theorem dX11_clashes_21 : decode cX11_clashes 21 = .ok (.getfield 46, 3) := by decide +kernel
theorem dX11_clashes_24 : decode cX11_clashes 24 = .ok (.iload_n 2, 1) := by decide +kernel
theorem dX11_clashes_25 : decode cX11_clashes 25 = .ok (.invokevirtual 124, 3) := by decide +kernel
theorem dX11_clashes_28 : decode cX11_clashes 28 = .ok (.aload_n 0, 1) := by decide +kernel
theorem dX11_clashes_29 : decode cX11_clashes 29 = .ok (.getfield 46, 3) := by decide +kernel
theorem dX11_clashes_32 : decode cX11_clashes 32 = .ok (.iload_n 2, 1) := by decide +kernel
theorem dX11_clashes_33 : decode cX11_clashes 33 = .ok (.invokevirtual 135, 3) := by decide +kernel
theorem dX11_clashes_36 : decode cX11_clashes 36 = .ok (.invokestatic 322, 3) := by decide +kernel
theorem dX11_clashes_39 : decode cX11_clashes 39 = .ok (.iload_n 2, 1) := by decide +kernel
theorem dX11_clashes_40 : decode cX11_clashes 40 = .ok (.ishl, 1) := by decide +kernel
theorem dX11_clashes_41 : decode cX11_clashes 41 = .ok (.ior, 1) := by decide +kernel
theorem dX11_clashes_42 : decode cX11_clashes 42 = .ok (.istore_n 1, 1) := by decide +kernel
theorem dX11_clashes_43 : decode cX11_clashes 43 = .ok (.iinc 2 1, 3) := by decide +kernel
theorem dX11_clashes_46 : decode cX11_clashes 46 = .ok (.goto (-42), 3) := by decide +kernel
theorem dX11_clashes_49 : decode cX11_clashes 49 = .ok (.iload_n 1, 1) := by decide +kernel
theorem dX11_clashes_50 : decode cX11_clashes 50 = .ok (.ireturn, 1) := by decide +kernel
theorem dX11_wavers_0 : decode cX11_wavers 0 = .ok (.aload_n 0, 1) := by decide +kernel
theorem dX11_wavers_1 : decode cX11_wavers 1 = .ok (.getfield 26, 3) := by decide +kernel
theorem dX11_wavers_4 : decode cX11_wavers 4 = .ok (.iload_n 1, 1) := by decide +kernel
theorem dX11_wavers_5 : decode cX11_wavers 5 = .ok (.invokevirtual 144, 3) := by decide +kernel
theorem dX11_wavers_8 : decode cX11_wavers 8 = .ok (.ifCond .ne 5, 3) := by decide +kernel
theorem dX11_wavers_11 : decode cX11_wavers 11 = .ok (.iconst (-1), 1) := by decide +kernel
theorem dX11_wavers_12 : decode cX11_wavers 12 = .ok (.ireturn, 1) := by decide +kernel
theorem dX11_wavers_13 : decode cX11_wavers 13 = .ok (.aload_n 0, 1) := by decide +kernel
theorem dX11_wavers_14 : decode cX11_wavers 14 = .ok (.getfield 50, 3) := by decide +kernel
theorem dX11_wavers_17 : decode cX11_wavers 17 = .ok (.aload_n 0, 1) := by decide +kernel
theorem dX11_wavers_18 : decode cX11_wavers 18 = .ok (.getfield 46, 3) := by decide +kernel
theorem dX11_wavers_21 : decode cX11_wavers 21 = .ok (.invokevirtual 176, 3) := by decide +kernel
theorem dX11_wavers_24 : decode cX11_wavers 24 = .ok (.iconst 0, 1) := by decide +kernel
theorem dX11_wavers_25 : decode cX11_wavers 25 = .ok (.istore_n 2, 1) := by decide +kernel
theorem dX11_wavers_26 : decode cX11_wavers 26 = .ok (.aload_n 0, 1) := by decide +kernel
theorem dX11_wavers_27 : decode cX11_wavers 27 = .ok (.getfield 46, 3) := by decide +kernel
theorem dX11_wavers_30 : decode cX11_wavers 30 = .ok (.getfield 141, 3) := by decide +kernel
theorem dX11_wavers_33 : decode cX11_wavers 33 = .ok (.istore_n 3, 1) := by decide +kernel
theorem dX11_wavers_34 : decode cX11_wavers 34 = .ok (.iload_n 3, 1) := by decide +kernel
theorem dX11_wavers_35 : decode cX11_wavers 35 = .ok (.aload_n 0, 1) := by decide +kernel
theorem dX11_wavers_36 : decode cX11_wavers 36 = .ok (.getfield 26, 3) := by decide +kernel
theorem dX11_wavers_39 : decode cX11_wavers 39 = .ok (.getfield 239, 3) := by decide +kernel
theorem dX11_wavers_42 : decode cX11_wavers 42 = .ok (.if_icmp .ge 75, 3) := by decide +kernel
theorem dX11_wavers_45 : decode cX11_wavers 45 = .ok (.aload_n 0, 1) := by decide +kernel
theorem dX11_wavers_46 : decode cX11_wavers 46 = .ok (.getfield 26, 3) := by decide +kernel
theorem dX11_wavers_49 : decode cX11_wavers 49 = .ok (.iload_n 1, 1) := by decide +kernel
theorem dX11_wavers_50 : decode cX11_wavers 50 = .ok (.aload_n 0, 1) := by decide +kernel
theorem dX11_wavers_51 : decode cX11_wavers 51 = .ok (.getfield 26, 3) := by decide +kernel
theorem dX11_wavers_54 : decode cX11_wavers 54 = .ok (.aload_n 0, 1) := by decide +kernel
theorem dX11_wavers_55 : decode cX11_wavers 55 = .ok (.getfield 50, 3) := by decide +kernel
theorem dX11_wavers_58 : decode cX11_wavers 58 = .ok (.iload_n 3, 1) := by decide +kernel
theorem dX11_wavers_59 : decode cX11_wavers 59 = .ok (.invokevirtual 124, 3) := by decide +kernel
theorem dX11_wavers_62 : decode cX11_wavers 62 = .ok (.aload_n 0, 1) := by decide +kernel
theorem dX11_wavers_63 : decode cX11_wavers 63 = .ok (.getfield 50, 3) := by decide +kernel
theorem dX11_wavers_66 : decode cX11_wavers 66 = .ok (.iload_n 3, 1) := by decide +kernel
theorem dX11_wavers_67 : decode cX11_wavers 67 = .ok (.invokevirtual 135, 3) := by decide +kernel
theorem dX11_wavers_70 : decode cX11_wavers 70 = .ok (.invokevirtual 276, 3) := by decide +kernel
theorem dX11_wavers_73 : decode cX11_wavers 73 = .ok (.istore 4, 2) := by decide +kernel
theorem dX11_wavers_75 : decode cX11_wavers 75 = .ok (.aload_n 0, 1) := by decide +kernel
theorem dX11_wavers_76 : decode cX11_wavers 76 = .ok (.getfield 50, 3) := by decide +kernel
theorem dX11_wavers_79 : decode cX11_wavers 79 = .ok (.iload_n 1, 1) := by decide +kernel
theorem dX11_wavers_80 : decode cX11_wavers 80 = .ok (.invokevirtual 165, 3) := by decide +kernel
theorem dX11_wavers_83 : decode cX11_wavers 83 = .ok (.ifCond .eq 16, 3) := by decide +kernel
theorem dX11_wavers_86 : decode cX11_wavers 86 = .ok (.iload_n 2, 1) := by decide +kernel
theorem dX11_wavers_87 : decode cX11_wavers 87 = .ok (.aload_n 0, 1) := by decide +kernel
theorem dX11_wavers_88 : decode cX11_wavers 88 = .ok (.getfield 50, 3) := by decide +kernel
theorem dX11_wavers_91 : decode cX11_wavers 91 = .ok (.iload_n 1, 1) := by decide +kernel
theorem dX11_wavers_92 : decode cX11_wavers 92 = .ok (.iload 4, 2) := by decide +kernel
theorem dX11_wavers_94 : decode cX11_wavers 94 = .ok (.invokestatic 325, 3) := by decide +kernel
theorem dX11_wavers_97 : decode cX11_wavers 97 = .ok (.iadd, 1) := by decide +kernel
theorem dX11_wavers_98 : decode cX11_wavers 98 = .ok (.istore_n 2, 1) := by decide +kernel
theorem dX11_wavers_99 : decode cX11_wavers 99 = .ok (.aload_n 0, 1) := by decide +kernel
theorem dX11_wavers_100 : decode cX11_wavers 100 = .ok (.getfield 26, 3) := by decide +kernel
theorem dX11_wavers_103 : decode cX11_wavers 103 = .ok (.aload_n 0, 1) := by decide +kernel
theorem dX11_wavers_104 : decode cX11_wavers 104 = .ok (.getfield 50, 3) := by decide +kernel
theorem dX11_wavers_107 : decode cX11_wavers 107 = .ok (.invokevirtual 179, 3) := by decide +kernel
theorem dX11_wavers_110 : decode cX11_wavers 110 = .ok (.pop, 1) := by decide +kernel
theorem dX11_wavers_111 : decode cX11_wavers 111 = .ok (.iinc 3 1, 3) := by decide +kernel
theorem dX11_wavers_114 : decode cX11_wavers 114 = .ok (.goto (-80), 3) := by decide +kernel
theorem dX11_wavers_117 : decode cX11_wavers 117 = .ok (.iload_n 2, 1) := by decide +kernel
theorem dX11_wavers_118 : decode cX11_wavers 118 = .ok (.ireturn, 1) := by decide +kernel
theorem dX11_lone_0 : decode cX11_lone 0 = .ok (.aload_n 0, 1) := by decide +kernel
theorem dX11_lone_1 : decode cX11_lone 1 = .ok (.getfield 26, 3) := by decide +kernel
theorem dX11_lone_4 : decode cX11_lone 4 = .ok (.iload_n 1, 1) := by decide +kernel
theorem dX11_lone_5 : decode cX11_lone 5 = .ok (.invokevirtual 144, 3) := by decide +kernel
theorem dX11_lone_8 : decode cX11_lone 8 = .ok (.ifCond .ne 5, 3) := by decide +kernel
theorem dX11_lone_11 : decode cX11_lone 11 = .ok (.iconst (-1), 1) := by decide +kernel
theorem dX11_lone_12 : decode cX11_lone 12 = .ok (.ireturn, 1) := by decide +kernel
theorem dX11_lone_13 : decode cX11_lone 13 = .ok (.iconst 0, 1) := by decide +kernel
theorem dX11_lone_14 : decode cX11_lone 14 = .ok (.istore_n 2, 1) := by decide +kernel
theorem dX11_lone_15 : decode cX11_lone 15 = .ok (.iconst 0, 1) := by decide +kernel
theorem dX11_lone_16 : decode cX11_lone 16 = .ok (.istore_n 3, 1) := by decide +kernel
theorem dX11_lone_17 : decode cX11_lone 17 = .ok (.iload_n 3, 1) := by decide +kernel
theorem dX11_lone_18 : decode cX11_lone 18 = .ok (.aload_n 0, 1) := by decide +kernel
theorem dX11_lone_19 : decode cX11_lone 19 = .ok (.getfield 26, 3) := by decide +kernel
theorem dX11_lone_22 : decode cX11_lone 22 = .ok (.getfield 280, 3) := by decide +kernel
theorem dX11_lone_25 : decode cX11_lone 25 = .ok (.if_icmp .ge 48, 3) := by decide +kernel
theorem dX11_lone_28 : decode cX11_lone 28 = .ok (.aload_n 0, 1) := by decide +kernel
theorem dX11_lone_29 : decode cX11_lone 29 = .ok (.getfield 46, 3) := by decide +kernel
theorem dX11_lone_32 : decode cX11_lone 32 = .ok (.iload_n 1, 1) := by decide +kernel
theorem dX11_lone_33 : decode cX11_lone 33 = .ok (.iload_n 3, 1) := by decide +kernel
theorem dX11_lone_34 : decode cX11_lone 34 = .ok (.invokevirtual 172, 3) := by decide +kernel
theorem dX11_lone_37 : decode cX11_lone 37 = .ok (.istore 4, 2) := by decide +kernel
theorem dX11_lone_39 : decode cX11_lone 39 = .ok (.iload 4, 2) := by decide +kernel
theorem dX11_lone_41 : decode cX11_lone 41 = .ok (.iconst (-1), 1) := by decide +kernel
theorem dX11_lone_42 : decode cX11_lone 42 = .ok (.if_icmp .eq 25, 3) := by decide +kernel
theorem dX11_lone_45 : decode cX11_lone 45 = .ok (.aload_n 0, 1) := by decide +kernel
theorem dX11_lone_46 : decode cX11_lone 46 = .ok (.iload_n 3, 1) := by decide +kernel
theorem dX11_lone_47 : decode cX11_lone 47 = .ok (.iload 4, 2) := by decide +kernel
theorem dX11_lone_49 : decode cX11_lone 49 = .ok (.invokevirtual 328, 3) := by decide +kernel
theorem dX11_lone_52 : decode cX11_lone 52 = .ok (.iconst 1, 1) := by decide +kernel
theorem dX11_lone_53 : decode cX11_lone 53 = .ok (.iload_n 1, 1) := by decide +kernel
theorem dX11_lone_54 : decode cX11_lone 54 = .ok (.ishl, 1) := by decide +kernel
theorem dX11_lone_55 : decode cX11_lone 55 = .ok (.iconst (-1), 1) := by decide +kernel
theorem dX11_lone_56 : decode cX11_lone 56 = .ok (.ixor, 1) := by decide +kernel
theorem dX11_lone_57 : decode cX11_lone 57 = .ok (.iand, 1) := by decide +kernel
theorem dX11_lone_58 : decode cX11_lone 58 = .ok (.ifCond .ne 9, 3) := by decide +kernel
theorem dX11_lone_61 : decode cX11_lone 61 = .ok (.iload_n 2, 1) := by decide +kernel
theorem dX11_lone_62 : decode cX11_lone 62 = .ok (.iconst 1, 1) := by decide +kernel
theorem dX11_lone_63 : decode cX11_lone 63 = .ok (.iload_n 3, 1) := by decide +kernel
theorem dX11_lone_64 : decode cX11_lone 64 = .ok (.ishl, 1) := by decide +kernel
theorem dX11_lone_65 : decode cX11_lone 65 = .ok (.ior, 1) := by decide +kernel
theorem dX11_lone_66 : decode cX11_lone 66 = .ok (.istore_n 2, 1) := by decide +kernel
theorem dX11_lone_67 : decode cX11_lone 67 = .ok (.iinc 3 1, 3) := by decide +kernel
theorem dX11_lone_70 : decode cX11_lone 70 = .ok (.goto (-53), 3) := by decide +kernel
theorem dX11_lone_73 : decode cX11_lone 73 = .ok (.iload_n 2, 1) := by decide +kernel
theorem dX11_lone_74 : decode cX11_lone 74 = .ok (.ireturn, 1) := by decide +kernel
theorem dX11_moves_0 : decode cX11_moves 0 = .ok (.iconst 0, 1) := by decide +kernel
theorem dX11_moves_1 : decode cX11_moves 1 = .ok (.istore_n 1, 1) := by decide +kernel
theorem dX11_moves_2 : decode cX11_moves 2 = .ok (.iconst 0, 1) := by decide +kernel
theorem dX11_moves_3 : decode cX11_moves 3 = .ok (.istore_n 2, 1) := by decide +kernel
theorem dX11_moves_4 : decode cX11_moves 4 = .ok (.iload_n 2, 1) := by decide +kernel
theorem dX11_moves_5 : decode cX11_moves 5 = .ok (.aload_n 0, 1) := by decide +kernel
theorem dX11_moves_6 : decode cX11_moves 6 = .ok (.getfield 26, 3) := by decide +kernel
theorem dX11_moves_9 : decode cX11_moves 9 = .ok (.getfield 280, 3) := by decide +kernel
theorem dX11_moves_12 : decode cX11_moves 12 = .ok (.if_icmp .ge 30, 3) := by decide +kernel
theorem dX11_moves_15 : decode cX11_moves 15 = .ok (.aload_n 0, 1) := by decide +kernel
theorem dX11_moves_16 : decode cX11_moves 16 = .ok (.iload_n 2, 1) := by decide +kernel
theorem dX11_moves_17 : decode cX11_moves 17 = .ok (.iconst 1, 1) := by decide +kernel
theorem dX11_moves_18 : decode cX11_moves 18 = .ok (.invokevirtual 286, 3) := by decide +kernel
theorem dX11_moves_21 : decode cX11_moves 21 = .ok (.aload_n 0, 1) := by decide +kernel
theorem dX11_moves_22 : decode cX11_moves 22 = .ok (.iload_n 2, 1) := by decide +kernel
theorem dX11_moves_23 : decode cX11_moves 23 = .ok (.iconst 0, 1) := by decide +kernel
theorem dX11_moves_24 : decode cX11_moves 24 = .ok (.invokevirtual 286, 3) := by decide +kernel
theorem dX11_moves_27 : decode cX11_moves 27 = .ok (.if_icmp .eq 9, 3) := by decide +kernel
theorem dX11_moves_30 : decode cX11_moves 30 = .ok (.iload_n 1, 1) := by decide +kernel
theorem dX11_moves_31 : decode cX11_moves 31 = .ok (.iconst 1, 1) := by decide +kernel
theorem dX11_moves_32 : decode cX11_moves 32 = .ok (.iload_n 2, 1) := by decide +kernel
theorem dX11_moves_33 : decode cX11_moves 33 = .ok (.ishl, 1) := by decide +kernel
theorem dX11_moves_34 : decode cX11_moves 34 = .ok (.ior, 1) := by decide +kernel
theorem dX11_moves_35 : decode cX11_moves 35 = .ok (.istore_n 1, 1) := by decide +kernel
theorem dX11_moves_36 : decode cX11_moves 36 = .ok (.iinc 2 1, 3) := by decide +kernel
theorem dX11_moves_39 : decode cX11_moves 39 = .ok (.goto (-35), 3) := by decide +kernel
theorem dX11_moves_42 : decode cX11_moves 42 = .ok (.iload_n 1, 1) := by decide +kernel
theorem dX11_moves_43 : decode cX11_moves 43 = .ok (.ireturn, 1) := by decide +kernel
theorem dX11_agree_0 : decode cX11_agree 0 = .ok (.aload_n 0, 1) := by decide +kernel
theorem dX11_agree_1 : decode cX11_agree 1 = .ok (.getfield 50, 3) := by decide +kernel
theorem dX11_agree_4 : decode cX11_agree 4 = .ok (.aload_n 0, 1) := by decide +kernel
theorem dX11_agree_5 : decode cX11_agree 5 = .ok (.getfield 46, 3) := by decide +kernel
theorem dX11_agree_8 : decode cX11_agree 8 = .ok (.invokevirtual 176, 3) := by decide +kernel
theorem dX11_agree_11 : decode cX11_agree 11 = .ok (.iconst 0, 1) := by decide +kernel
theorem dX11_agree_12 : decode cX11_agree 12 = .ok (.istore_n 1, 1) := by decide +kernel
theorem dX11_agree_13 : decode cX11_agree 13 = .ok (.iload_n 1, 1) := by decide +kernel
theorem dX11_agree_14 : decode cX11_agree 14 = .ok (.bipush 20, 2) := by decide +kernel
theorem dX11_agree_16 : decode cX11_agree 16 = .ok (.if_icmp .gt 18, 3) := by decide +kernel
theorem dX11_agree_19 : decode cX11_agree 19 = .ok (.aload_n 0, 1) := by decide +kernel
theorem dX11_agree_20 : decode cX11_agree 20 = .ok (.invokevirtual 331, 3) := by decide +kernel
theorem dX11_agree_23 : decode cX11_agree 23 = .ok (.ifCond .ne 5, 3) := by decide +kernel
theorem dX11_agree_26 : decode cX11_agree 26 = .ok (.iload_n 1, 1) := by decide +kernel
theorem dX11_agree_27 : decode cX11_agree 27 = .ok (.ireturn, 1) := by decide +kernel
theorem dX11_agree_28 : decode cX11_agree 28 = .ok (.iinc 1 1, 3) := by decide +kernel
theorem dX11_agree_31 : decode cX11_agree 31 = .ok (.goto (-18), 3) := by decide +kernel
theorem dX11_agree_34 : decode cX11_agree 34 = .ok (.iconst (-1), 1) := by decide +kernel
theorem dX11_agree_35 : decode cX11_agree 35 = .ok (.ireturn, 1) := by decide +kernel
theorem dX11_talkRound_0 : decode cX11_talkRound 0 = .ok (.iconst 0, 1) := by decide +kernel
theorem dX11_talkRound_1 : decode cX11_talkRound 1 = .ok (.istore_n 1, 1) := by decide +kernel
theorem dX11_talkRound_2 : decode cX11_talkRound 2 = .ok (.iconst 0, 1) := by decide +kernel
theorem dX11_talkRound_3 : decode cX11_talkRound 3 = .ok (.istore_n 2, 1) := by decide +kernel
theorem dX11_talkRound_4 : decode cX11_talkRound 4 = .ok (.iload_n 2, 1) := by decide +kernel
theorem dX11_talkRound_5 : decode cX11_talkRound 5 = .ok (.aload_n 0, 1) := by decide +kernel
theorem dX11_talkRound_6 : decode cX11_talkRound 6 = .ok (.getfield 26, 3) := by decide +kernel
theorem dX11_talkRound_9 : decode cX11_talkRound 9 = .ok (.getfield 289, 3) := by decide +kernel
theorem dX11_talkRound_12 : decode cX11_talkRound 12 = .ok (.if_icmp .ge 31, 3) := by decide +kernel
theorem dX11_talkRound_15 : decode cX11_talkRound 15 = .ok (.aload_n 0, 1) := by decide +kernel
theorem dX11_talkRound_16 : decode cX11_talkRound 16 = .ok (.getfield 26, 3) := by decide +kernel
theorem dX11_talkRound_19 : decode cX11_talkRound 19 = .ok (.aload_n 0, 1) := by decide +kernel
theorem dX11_talkRound_20 : decode cX11_talkRound 20 = .ok (.getfield 50, 3) := by decide +kernel
theorem dX11_talkRound_23 : decode cX11_talkRound 23 = .ok (.iload_n 2, 1) := by decide +kernel
theorem dX11_talkRound_24 : decode cX11_talkRound 24 = .ok (.aload_n 0, 1) := by decide +kernel
theorem dX11_talkRound_25 : decode cX11_talkRound 25 = .ok (.iload_n 2, 1) := by decide +kernel
theorem dX11_talkRound_26 : decode cX11_talkRound 26 = .ok (.invokevirtual 334, 3) := by decide +kernel
theorem dX11_talkRound_29 : decode cX11_talkRound 29 = .ok (.invokevirtual 202, 3) := by decide +kernel
theorem dX11_talkRound_32 : decode cX11_talkRound 32 = .ok (.ifCond .le 5, 3) := by decide +kernel
theorem dX11_talkRound_35 : decode cX11_talkRound 35 = .ok (.iconst 1, 1) := by decide +kernel
theorem dX11_talkRound_36 : decode cX11_talkRound 36 = .ok (.istore_n 1, 1) := by decide +kernel
theorem dX11_talkRound_37 : decode cX11_talkRound 37 = .ok (.iinc 2 1, 3) := by decide +kernel
theorem dX11_talkRound_40 : decode cX11_talkRound 40 = .ok (.goto (-36), 3) := by decide +kernel
theorem dX11_talkRound_43 : decode cX11_talkRound 43 = .ok (.iload_n 1, 1) := by decide +kernel
theorem dX11_talkRound_44 : decode cX11_talkRound 44 = .ok (.ireturn, 1) := by decide +kernel
theorem dX11_nextIn_0 : decode cX11_nextIn 0 = .ok (.iconst 1, 1) := by decide +kernel
theorem dX11_nextIn_1 : decode cX11_nextIn 1 = .ok (.istore_n 2, 1) := by decide +kernel
theorem dX11_nextIn_2 : decode cX11_nextIn 2 = .ok (.iload_n 2, 1) := by decide +kernel
theorem dX11_nextIn_3 : decode cX11_nextIn 3 = .ok (.aload_n 0, 1) := by decide +kernel
theorem dX11_nextIn_4 : decode cX11_nextIn 4 = .ok (.getfield 26, 3) := by decide +kernel
theorem dX11_nextIn_7 : decode cX11_nextIn 7 = .ok (.getfield 289, 3) := by decide +kernel
theorem dX11_nextIn_10 : decode cX11_nextIn 10 = .ok (.if_icmp .ge 53, 3) := by decide +kernel
theorem dX11_nextIn_13 : decode cX11_nextIn 13 = .ok (.iload_n 1, 1) := by decide +kernel
theorem dX11_nextIn_14 : decode cX11_nextIn 14 = .ok (.iload_n 2, 1) := by decide +kernel
theorem dX11_nextIn_15 : decode cX11_nextIn 15 = .ok (.iadd, 1) := by decide +kernel
theorem dX11_nextIn_16 : decode cX11_nextIn 16 = .ok (.aload_n 0, 1) := by decide +kernel
theorem dX11_nextIn_17 : decode cX11_nextIn 17 = .ok (.getfield 26, 3) := by decide +kernel
theorem dX11_nextIn_20 : decode cX11_nextIn 20 = .ok (.getfield 289, 3) := by decide +kernel
theorem dX11_nextIn_23 : decode cX11_nextIn 23 = .ok (.if_icmp .ge 9, 3) := by decide +kernel
theorem dX11_nextIn_26 : decode cX11_nextIn 26 = .ok (.iload_n 1, 1) := by decide +kernel
theorem dX11_nextIn_27 : decode cX11_nextIn 27 = .ok (.iload_n 2, 1) := by decide +kernel
theorem dX11_nextIn_28 : decode cX11_nextIn 28 = .ok (.iadd, 1) := by decide +kernel
theorem dX11_nextIn_29 : decode cX11_nextIn 29 = .ok (.goto 14, 3) := by decide +kernel
theorem dX11_nextIn_32 : decode cX11_nextIn 32 = .ok (.iload_n 1, 1) := by decide +kernel
theorem dX11_nextIn_33 : decode cX11_nextIn 33 = .ok (.iload_n 2, 1) := by decide +kernel
theorem dX11_nextIn_34 : decode cX11_nextIn 34 = .ok (.iadd, 1) := by decide +kernel
theorem dX11_nextIn_35 : decode cX11_nextIn 35 = .ok (.aload_n 0, 1) := by decide +kernel
theorem dX11_nextIn_36 : decode cX11_nextIn 36 = .ok (.getfield 26, 3) := by decide +kernel
theorem dX11_nextIn_39 : decode cX11_nextIn 39 = .ok (.getfield 289, 3) := by decide +kernel
theorem dX11_nextIn_42 : decode cX11_nextIn 42 = .ok (.isub, 1) := by decide +kernel
theorem dX11_nextIn_43 : decode cX11_nextIn 43 = .ok (.istore_n 3, 1) := by decide +kernel
theorem dX11_nextIn_44 : decode cX11_nextIn 44 = .ok (.aload_n 0, 1) := by decide +kernel
theorem dX11_nextIn_45 : decode cX11_nextIn 45 = .ok (.getfield 50, 3) := by decide +kernel
theorem dX11_nextIn_48 : decode cX11_nextIn 48 = .ok (.iload_n 3, 1) := by decide +kernel
theorem dX11_nextIn_49 : decode cX11_nextIn 49 = .ok (.invokevirtual 165, 3) := by decide +kernel
theorem dX11_nextIn_52 : decode cX11_nextIn 52 = .ok (.ifCond .eq 5, 3) := by decide +kernel
theorem dX11_nextIn_55 : decode cX11_nextIn 55 = .ok (.iload_n 3, 1) := by decide +kernel
theorem dX11_nextIn_56 : decode cX11_nextIn 56 = .ok (.ireturn, 1) := by decide +kernel
theorem dX11_nextIn_57 : decode cX11_nextIn 57 = .ok (.iinc 2 1, 3) := by decide +kernel
theorem dX11_nextIn_60 : decode cX11_nextIn 60 = .ok (.goto (-58), 3) := by decide +kernel
theorem dX11_nextIn_63 : decode cX11_nextIn 63 = .ok (.iload_n 1, 1) := by decide +kernel
theorem dX11_nextIn_64 : decode cX11_nextIn 64 = .ok (.ireturn, 1) := by decide +kernel
theorem dX11_chance_0 : decode cX11_chance 0 = .ok (.aload_n 0, 1) := by decide +kernel
theorem dX11_chance_1 : decode cX11_chance 1 = .ok (.getfield 26, 3) := by decide +kernel
theorem dX11_chance_4 : decode cX11_chance 4 = .ok (.iload_n 1, 1) := by decide +kernel
theorem dX11_chance_5 : decode cX11_chance 5 = .ok (.iload_n 2, 1) := by decide +kernel
theorem dX11_chance_6 : decode cX11_chance 6 = .ok (.invokevirtual 168, 3) := by decide +kernel
theorem dX11_chance_9 : decode cX11_chance 9 = .ok (.ifCond .eq 13, 3) := by decide +kernel
theorem dX11_chance_12 : decode cX11_chance 12 = .ok (.iload_n 3, 1) := by decide +kernel
theorem dX11_chance_13 : decode cX11_chance 13 = .ok (.ifCond .lt 9, 3) := by decide +kernel
theorem dX11_chance_16 : decode cX11_chance 16 = .ok (.iload_n 3, 1) := by decide +kernel
theorem dX11_chance_17 : decode cX11_chance 17 = .ok (.bipush 10, 2) := by decide +kernel
theorem dX11_chance_19 : decode cX11_chance 19 = .ok (.if_icmp .le 5, 3) := by decide +kernel
theorem dX11_chance_22 : decode cX11_chance 22 = .ok (.iconst (-1), 1) := by decide +kernel
theorem dX11_chance_23 : decode cX11_chance 23 = .ok (.ireturn, 1) := by decide +kernel
theorem dX11_chance_24 : decode cX11_chance 24 = .ok (.aload_n 0, 1) := by decide +kernel
theorem dX11_chance_25 : decode cX11_chance 25 = .ok (.invokevirtual 245, 3) := by decide +kernel
theorem dX11_chance_28 : decode cX11_chance 28 = .ok (.istore 4, 2) := by decide +kernel
theorem dX11_chance_30 : decode cX11_chance 30 = .ok (.lconst 0, 1) := by decide +kernel
theorem dX11_chance_31 : decode cX11_chance 31 = .ok (.lstore 5, 2) := by decide +kernel
theorem dX11_chance_33 : decode cX11_chance 33 = .ok (.lconst 0, 1) := by decide +kernel
theorem dX11_chance_34 : decode cX11_chance 34 = .ok (.lstore 7, 2) := by decide +kernel
theorem dX11_chance_36 : decode cX11_chance 36 = .ok (.iconst 0, 1) := by decide +kernel
theorem dX11_chance_37 : decode cX11_chance 37 = .ok (.istore 9, 2) := by decide +kernel
theorem dX11_chance_39 : decode cX11_chance 39 = .ok (.iload 9, 2) := by decide +kernel
theorem dX11_chance_41 : decode cX11_chance 41 = .ok (.sipush 256, 3) := by decide +kernel
theorem dX11_chance_44 : decode cX11_chance 44 = .ok (.if_icmp .ge 66, 3) := by decide +kernel
theorem dX11_chance_47 : decode cX11_chance 47 = .ok (.iload 9, 2) := by decide +kernel
theorem dX11_chance_49 : decode cX11_chance 49 = .ok (.iload 4, 2) := by decide +kernel
theorem dX11_chance_51 : decode cX11_chance 51 = .ok (.iconst (-1), 1) := by decide +kernel
theorem dX11_chance_52 : decode cX11_chance 52 = .ok (.ixor, 1) := by decide +kernel
theorem dX11_chance_53 : decode cX11_chance 53 = .ok (.iand, 1) := by decide +kernel
theorem dX11_chance_54 : decode cX11_chance 54 = .ok (.ifCond .ne 50, 3) := by decide +kernel
theorem dX11_chance_57 : decode cX11_chance 57 = .ok (.iload 9, 2) := by decide +kernel
theorem dX11_chance_59 : decode cX11_chance 59 = .ok (.iload 4, 2) := by decide +kernel
theorem dX11_chance_61 : decode cX11_chance 61 = .ok (.iload_n 3, 1) := by decide +kernel
theorem dX11_chance_62 : decode cX11_chance 62 = .ok (.invokestatic 337, 3) := by decide +kernel
theorem dX11_chance_65 : decode cX11_chance 65 = .ok (.lstore 10, 2) := by decide +kernel
theorem dX11_chance_67 : decode cX11_chance 67 = .ok (.aload_n 0, 1) := by decide +kernel
theorem dX11_chance_68 : decode cX11_chance 68 = .ok (.iload 9, 2) := by decide +kernel
theorem dX11_chance_70 : decode cX11_chance 70 = .ok (.invokevirtual 272, 3) := by decide +kernel
theorem dX11_chance_73 : decode cX11_chance 73 = .ok (.lload 5, 2) := by decide +kernel
theorem dX11_chance_75 : decode cX11_chance 75 = .ok (.lload 10, 2) := by decide +kernel
theorem dX11_chance_77 : decode cX11_chance 77 = .ok (.ladd, 1) := by decide +kernel
theorem dX11_chance_78 : decode cX11_chance 78 = .ok (.lstore 5, 2) := by decide +kernel
theorem dX11_chance_80 : decode cX11_chance 80 = .ok (.lload 7, 2) := by decide +kernel
theorem dX11_chance_82 : decode cX11_chance 82 = .ok (.aload_n 0, 1) := by decide +kernel
theorem dX11_chance_83 : decode cX11_chance 83 = .ok (.getfield 50, 3) := by decide +kernel
theorem dX11_chance_86 : decode cX11_chance 86 = .ok (.iload_n 1, 1) := by decide +kernel
theorem dX11_chance_87 : decode cX11_chance 87 = .ok (.iload_n 2, 1) := by decide +kernel
theorem dX11_chance_88 : decode cX11_chance 88 = .ok (.invokevirtual 172, 3) := by decide +kernel
theorem dX11_chance_91 : decode cX11_chance 91 = .ok (.iconst 1, 1) := by decide +kernel
theorem dX11_chance_92 : decode cX11_chance 92 = .ok (.if_icmp .ne 8, 3) := by decide +kernel
theorem dX11_chance_95 : decode cX11_chance 95 = .ok (.lload 10, 2) := by decide +kernel
theorem dX11_chance_97 : decode cX11_chance 97 = .ok (.goto 4, 3) := by decide +kernel
theorem dX11_chance_100 : decode cX11_chance 100 = .ok (.lconst 0, 1) := by decide +kernel
theorem dX11_chance_101 : decode cX11_chance 101 = .ok (.ladd, 1) := by decide +kernel
theorem dX11_chance_102 : decode cX11_chance 102 = .ok (.lstore 7, 2) := by decide +kernel
theorem dX11_chance_104 : decode cX11_chance 104 = .ok (.iinc 9 1, 3) := by decide +kernel
theorem dX11_chance_107 : decode cX11_chance 107 = .ok (.goto (-68), 3) := by decide +kernel
theorem dX11_chance_110 : decode cX11_chance 110 = .ok (.lload 5, 2) := by decide +kernel
theorem dX11_chance_112 : decode cX11_chance 112 = .ok (.lconst 0, 1) := by decide +kernel
theorem dX11_chance_113 : decode cX11_chance 113 = .ok (.lcmp, 1) := by decide +kernel
theorem dX11_chance_114 : decode cX11_chance 114 = .ok (.ifCond .le 16, 3) := by decide +kernel
theorem dX11_chance_117 : decode cX11_chance 117 = .ok (.lload 7, 2) := by decide +kernel
theorem dX11_chance_119 : decode cX11_chance 119 = .ok (.ldc2_w 341, 3) := by decide +kernel
theorem dX11_chance_122 : decode cX11_chance 122 = .ok (.lmul, 1) := by decide +kernel
theorem dX11_chance_123 : decode cX11_chance 123 = .ok (.lload 5, 2) := by decide +kernel
theorem dX11_chance_125 : decode cX11_chance 125 = .ok (.ldiv, 1) := by decide +kernel
theorem dX11_chance_126 : decode cX11_chance 126 = .ok (.l2i, 1) := by decide +kernel
theorem dX11_chance_127 : decode cX11_chance 127 = .ok (.goto 4, 3) := by decide +kernel
theorem dX11_chance_130 : decode cX11_chance 130 = .ok (.iconst 0, 1) := by decide +kernel
theorem dX11_chance_131 : decode cX11_chance 131 = .ok (.ireturn, 1) := by decide +kernel
theorem dX11_weight_0 : decode cX11_weight 0 = .ok (.lconst 1, 1) := by decide +kernel
theorem dX11_weight_1 : decode cX11_weight 1 = .ok (.lstore_n 3, 1) := by decide +kernel
theorem dX11_weight_2 : decode cX11_weight 2 = .ok (.iconst 0, 1) := by decide +kernel
theorem dX11_weight_3 : decode cX11_weight 3 = .ok (.istore 5, 2) := by decide +kernel
theorem dX11_weight_5 : decode cX11_weight 5 = .ok (.iload 5, 2) := by decide +kernel
theorem dX11_weight_7 : decode cX11_weight 7 = .ok (.bipush 8, 2) := by decide +kernel
theorem dX11_weight_9 : decode cX11_weight 9 = .ok (.if_icmp .ge 42, 3) := by decide +kernel
theorem dX11_weight_12 : decode cX11_weight 12 = .ok (.iload_n 1, 1) := by decide +kernel
theorem dX11_weight_13 : decode cX11_weight 13 = .ok (.iload 5, 2) := by decide +kernel
theorem dX11_weight_15 : decode cX11_weight 15 = .ok (.ishr, 1) := by decide +kernel
theorem dX11_weight_16 : decode cX11_weight 16 = .ok (.iconst 1, 1) := by decide +kernel
theorem dX11_weight_17 : decode cX11_weight 17 = .ok (.iand, 1) := by decide +kernel
theorem dX11_weight_18 : decode cX11_weight 18 = .ok (.iconst 1, 1) := by decide +kernel
theorem dX11_weight_19 : decode cX11_weight 19 = .ok (.if_icmp .ne 26, 3) := by decide +kernel
theorem dX11_weight_22 : decode cX11_weight 22 = .ok (.lload_n 3, 1) := by decide +kernel
theorem dX11_weight_23 : decode cX11_weight 23 = .ok (.iload_n 0, 1) := by decide +kernel
theorem dX11_weight_24 : decode cX11_weight 24 = .ok (.iload 5, 2) := by decide +kernel
theorem dX11_weight_26 : decode cX11_weight 26 = .ok (.ishr, 1) := by decide +kernel
theorem dX11_weight_27 : decode cX11_weight 27 = .ok (.iconst 1, 1) := by decide +kernel
theorem dX11_weight_28 : decode cX11_weight 28 = .ok (.iand, 1) := by decide +kernel
theorem dX11_weight_29 : decode cX11_weight 29 = .ok (.iconst 1, 1) := by decide +kernel
theorem dX11_weight_30 : decode cX11_weight 30 = .ok (.if_icmp .ne 8, 3) := by decide +kernel
theorem dX11_weight_33 : decode cX11_weight 33 = .ok (.iload_n 2, 1) := by decide +kernel
theorem dX11_weight_34 : decode cX11_weight 34 = .ok (.i2l, 1) := by decide +kernel
theorem dX11_weight_35 : decode cX11_weight 35 = .ok (.goto 8, 3) := by decide +kernel
theorem dX11_weight_38 : decode cX11_weight 38 = .ok (.bipush 10, 2) := by decide +kernel
theorem dX11_weight_40 : decode cX11_weight 40 = .ok (.iload_n 2, 1) := by decide +kernel
theorem dX11_weight_41 : decode cX11_weight 41 = .ok (.isub, 1) := by decide +kernel
theorem dX11_weight_42 : decode cX11_weight 42 = .ok (.i2l, 1) := by decide +kernel
theorem dX11_weight_43 : decode cX11_weight 43 = .ok (.lmul, 1) := by decide +kernel
theorem dX11_weight_44 : decode cX11_weight 44 = .ok (.lstore_n 3, 1) := by decide +kernel
theorem dX11_weight_45 : decode cX11_weight 45 = .ok (.iinc 5 1, 3) := by decide +kernel
theorem dX11_weight_48 : decode cX11_weight 48 = .ok (.goto (-43), 3) := by decide +kernel
theorem dX11_weight_51 : decode cX11_weight 51 = .ok (.lload_n 3, 1) := by decide +kernel
theorem dX11_weight_52 : decode cX11_weight 52 = .ok (.lreturn, 1) := by decide +kernel
theorem dX11_who_0 : decode cX11_who 0 = .ok (.aload_n 0, 1) := by decide +kernel
theorem dX11_who_1 : decode cX11_who 1 = .ok (.getfield 26, 3) := by decide +kernel
theorem dX11_who_4 : decode cX11_who 4 = .ok (.iload_n 1, 1) := by decide +kernel
theorem dX11_who_5 : decode cX11_who 5 = .ok (.invokevirtual 187, 3) := by decide +kernel
theorem dX11_who_8 : decode cX11_who 8 = .ok (.ifCond .eq 13, 3) := by decide +kernel
theorem dX11_who_11 : decode cX11_who 11 = .ok (.iload_n 2, 1) := by decide +kernel
theorem dX11_who_12 : decode cX11_who 12 = .ok (.iconst (-1), 1) := by decide +kernel
theorem dX11_who_13 : decode cX11_who 13 = .ok (.if_icmp .lt 8, 3) := by decide +kernel
theorem dX11_who_16 : decode cX11_who 16 = .ok (.iload_n 2, 1) := by decide +kernel
theorem dX11_who_17 : decode cX11_who 17 = .ok (.iconst 1, 1) := by decide +kernel
theorem dX11_who_18 : decode cX11_who 18 = .ok (.if_icmp .le 5, 3) := by decide +kernel
theorem dX11_who_21 : decode cX11_who 21 = .ok (.iconst (-1), 1) := by decide +kernel
theorem dX11_who_22 : decode cX11_who 22 = .ok (.ireturn, 1) := by decide +kernel
theorem dX11_who_23 : decode cX11_who 23 = .ok (.aload_n 0, 1) := by decide +kernel
theorem dX11_who_24 : decode cX11_who 24 = .ok (.iload_n 1, 1) := by decide +kernel
theorem dX11_who_25 : decode cX11_who 25 = .ok (.iload_n 2, 1) := by decide +kernel
theorem dX11_who_26 : decode cX11_who 26 = .ok (.invokevirtual 328, 3) := by decide +kernel
theorem dX11_who_29 : decode cX11_who 29 = .ok (.ireturn, 1) := by decide +kernel
theorem dX11_thinkers_0 : decode cX11_thinkers 0 = .ok (.iconst 0, 1) := by decide +kernel
theorem dX11_thinkers_1 : decode cX11_thinkers 1 = .ok (.istore_n 3, 1) := by decide +kernel
theorem dX11_thinkers_2 : decode cX11_thinkers 2 = .ok (.iconst 0, 1) := by decide +kernel
theorem dX11_thinkers_3 : decode cX11_thinkers 3 = .ok (.istore 4, 2) := by decide +kernel
theorem dX11_thinkers_5 : decode cX11_thinkers 5 = .ok (.iload 4, 2) := by decide +kernel
theorem dX11_thinkers_7 : decode cX11_thinkers 7 = .ok (.aload_n 0, 1) := by decide +kernel
theorem dX11_thinkers_8 : decode cX11_thinkers 8 = .ok (.getfield 26, 3) := by decide +kernel
theorem dX11_thinkers_11 : decode cX11_thinkers 11 = .ok (.getfield 289, 3) := by decide +kernel
theorem dX11_thinkers_14 : decode cX11_thinkers 14 = .ok (.if_icmp .ge 42, 3) := by decide +kernel
theorem dX11_thinkers_17 : decode cX11_thinkers 17 = .ok (.aload_n 0, 1) := by decide +kernel
theorem dX11_thinkers_18 : decode cX11_thinkers 18 = .ok (.getfield 46, 3) := by decide +kernel
theorem dX11_thinkers_21 : decode cX11_thinkers 21 = .ok (.iload 4, 2) := by decide +kernel
theorem dX11_thinkers_23 : decode cX11_thinkers 23 = .ok (.invokevirtual 165, 3) := by decide +kernel
theorem dX11_thinkers_26 : decode cX11_thinkers 26 = .ok (.ifCond .eq 24, 3) := by decide +kernel
theorem dX11_thinkers_29 : decode cX11_thinkers 29 = .ok (.aload_n 0, 1) := by decide +kernel
theorem dX11_thinkers_30 : decode cX11_thinkers 30 = .ok (.getfield 46, 3) := by decide +kernel
theorem dX11_thinkers_33 : decode cX11_thinkers 33 = .ok (.iload 4, 2) := by decide +kernel
theorem dX11_thinkers_35 : decode cX11_thinkers 35 = .ok (.iload_n 1, 1) := by decide +kernel
theorem dX11_thinkers_36 : decode cX11_thinkers 36 = .ok (.invokevirtual 172, 3) := by decide +kernel
theorem dX11_thinkers_39 : decode cX11_thinkers 39 = .ok (.iload_n 2, 1) := by decide +kernel
theorem dX11_thinkers_40 : decode cX11_thinkers 40 = .ok (.if_icmp .ne 10, 3) := by decide +kernel
theorem dX11_thinkers_43 : decode cX11_thinkers 43 = .ok (.iload_n 3, 1) := by decide +kernel
theorem dX11_thinkers_44 : decode cX11_thinkers 44 = .ok (.iconst 1, 1) := by decide +kernel
theorem dX11_thinkers_45 : decode cX11_thinkers 45 = .ok (.iload 4, 2) := by decide +kernel
theorem dX11_thinkers_47 : decode cX11_thinkers 47 = .ok (.ishl, 1) := by decide +kernel
theorem dX11_thinkers_48 : decode cX11_thinkers 48 = .ok (.ior, 1) := by decide +kernel
theorem dX11_thinkers_49 : decode cX11_thinkers 49 = .ok (.istore_n 3, 1) := by decide +kernel
theorem dX11_thinkers_50 : decode cX11_thinkers 50 = .ok (.iinc 4 1, 3) := by decide +kernel
theorem dX11_thinkers_53 : decode cX11_thinkers 53 = .ok (.goto (-48), 3) := by decide +kernel
theorem dX11_thinkers_56 : decode cX11_thinkers 56 = .ok (.iload_n 3, 1) := by decide +kernel
theorem dX11_thinkers_57 : decode cX11_thinkers 57 = .ok (.ireturn, 1) := by decide +kernel
theorem dX11_rests_0 : decode cX11_rests 0 = .ok (.iload_n 1, 1) := by decide +kernel
theorem dX11_rests_1 : decode cX11_rests 1 = .ok (.invokestatic 343, 3) := by decide +kernel
theorem dX11_rests_4 : decode cX11_rests 4 = .ok (.ifCond .eq 23, 3) := by decide +kernel
theorem dX11_rests_7 : decode cX11_rests 7 = .ok (.iload_n 2, 1) := by decide +kernel
theorem dX11_rests_8 : decode cX11_rests 8 = .ok (.invokestatic 343, 3) := by decide +kernel
theorem dX11_rests_11 : decode cX11_rests 11 = .ok (.ifCond .eq 16, 3) := by decide +kernel
theorem dX11_rests_14 : decode cX11_rests 14 = .ok (.iload_n 3, 1) := by decide +kernel
theorem dX11_rests_15 : decode cX11_rests 15 = .ok (.invokestatic 343, 3) := by decide +kernel
theorem dX11_rests_18 : decode cX11_rests 18 = .ok (.ifCond .eq 9, 3) := by decide +kernel
theorem dX11_rests_21 : decode cX11_rests 21 = .ok (.iload 4, 2) := by decide +kernel
theorem dX11_rests_23 : decode cX11_rests 23 = .ok (.iconst (-1), 1) := by decide +kernel
theorem dX11_rests_24 : decode cX11_rests 24 = .ok (.if_icmp .ge 11, 3) := by decide +kernel
theorem dX11_rests_27 : decode cX11_rests 27 = .ok (.new 346, 3) := by decide +kernel
theorem dX11_rests_30 : decode cX11_rests 30 = .ok (.dup, 1) := by decide +kernel
theorem dX11_rests_31 : decode cX11_rests 31 = .ok (.invokespecial 348, 3) := by decide +kernel
theorem dX11_rests_34 : decode cX11_rests 34 = .ok (.athrow, 1) := by decide +kernel
theorem dX11_rests_35 : decode cX11_rests 35 = .ok (.iconst 0, 1) := by decide +kernel
theorem dX11_rests_36 : decode cX11_rests 36 = .ok (.istore 5, 2) := by decide +kernel
theorem dX11_rests_38 : decode cX11_rests 38 = .ok (.iconst 0, 1) := by decide +kernel
theorem dX11_rests_39 : decode cX11_rests 39 = .ok (.istore 6, 2) := by decide +kernel
theorem dX11_rests_41 : decode cX11_rests 41 = .ok (.iload 6, 2) := by decide +kernel
theorem dX11_rests_43 : decode cX11_rests 43 = .ok (.iconst 4, 1) := by decide +kernel
theorem dX11_rests_44 : decode cX11_rests 44 = .ok (.if_icmp .ge 56, 3) := by decide +kernel
theorem dX11_rests_47 : decode cX11_rests 47 = .ok (.iload 6, 2) := by decide +kernel
theorem dX11_rests_49 : decode cX11_rests 49 = .ok (.iconst 1, 1) := by decide +kernel
theorem dX11_rests_50 : decode cX11_rests 50 = .ok (.ishr, 1) := by decide +kernel
theorem dX11_rests_51 : decode cX11_rests 51 = .ok (.iload 6, 2) := by decide +kernel
theorem dX11_rests_53 : decode cX11_rests 53 = .ok (.iconst 1, 1) := by decide +kernel
theorem dX11_rests_54 : decode cX11_rests 54 = .ok (.iand, 1) := by decide +kernel
theorem dX11_rests_55 : decode cX11_rests 55 = .ok (.iload_n 1, 1) := by decide +kernel
theorem dX11_rests_56 : decode cX11_rests 56 = .ok (.iload_n 2, 1) := by decide +kernel
theorem dX11_rests_57 : decode cX11_rests 57 = .ok (.iload_n 3, 1) := by decide +kernel
theorem dX11_rests_58 : decode cX11_rests 58 = .ok (.invokestatic 349, 3) := by decide +kernel
theorem dX11_rests_61 : decode cX11_rests 61 = .ok (.ifCond .eq 33, 3) := by decide +kernel
theorem dX11_rests_64 : decode cX11_rests 64 = .ok (.iload 6, 2) := by decide +kernel
theorem dX11_rests_66 : decode cX11_rests 66 = .ok (.iconst 1, 1) := by decide +kernel
theorem dX11_rests_67 : decode cX11_rests 67 = .ok (.iand, 1) := by decide +kernel
theorem dX11_rests_68 : decode cX11_rests 68 = .ok (.iload 6, 2) := by decide +kernel
theorem dX11_rests_70 : decode cX11_rests 70 = .ok (.iconst 1, 1) := by decide +kernel
theorem dX11_rests_71 : decode cX11_rests 71 = .ok (.ishr, 1) := by decide +kernel
theorem dX11_rests_72 : decode cX11_rests 72 = .ok (.iload_n 1, 1) := by decide +kernel
theorem dX11_rests_73 : decode cX11_rests 73 = .ok (.iload_n 2, 1) := by decide +kernel
theorem dX11_rests_74 : decode cX11_rests 74 = .ok (.iload_n 3, 1) := by decide +kernel
theorem dX11_rests_75 : decode cX11_rests 75 = .ok (.invokestatic 349, 3) := by decide +kernel
theorem dX11_rests_78 : decode cX11_rests 78 = .ok (.ifCond .eq 16, 3) := by decide +kernel
theorem dX11_rests_81 : decode cX11_rests 81 = .ok (.iload 5, 2) := by decide +kernel
theorem dX11_rests_83 : decode cX11_rests 83 = .ok (.iload 4, 2) := by decide +kernel
theorem dX11_rests_85 : decode cX11_rests 85 = .ok (.if_icmp .ne 6, 3) := by decide +kernel
theorem dX11_rests_88 : decode cX11_rests 88 = .ok (.iload 6, 2) := by decide +kernel
theorem dX11_rests_90 : decode cX11_rests 90 = .ok (.ireturn, 1) := by decide +kernel
theorem dX11_rests_91 : decode cX11_rests 91 = .ok (.iinc 5 1, 3) := by decide +kernel
theorem dX11_rests_94 : decode cX11_rests 94 = .ok (.iinc 6 1, 3) := by decide +kernel
theorem dX11_rests_97 : decode cX11_rests 97 = .ok (.goto (-56), 3) := by decide +kernel
theorem dX11_rests_100 : decode cX11_rests 100 = .ok (.iload 4, 2) := by decide +kernel
theorem dX11_rests_102 : decode cX11_rests 102 = .ok (.iconst (-1), 1) := by decide +kernel
theorem dX11_rests_103 : decode cX11_rests 103 = .ok (.if_icmp .ne 6, 3) := by decide +kernel
theorem dX11_rests_106 : decode cX11_rests 106 = .ok (.iload 5, 2) := by decide +kernel
theorem dX11_rests_108 : decode cX11_rests 108 = .ok (.ireturn, 1) := by decide +kernel
theorem dX11_rests_109 : decode cX11_rests 109 = .ok (.new 346, 3) := by decide +kernel
theorem dX11_rests_112 : decode cX11_rests 112 = .ok (.dup, 1) := by decide +kernel
theorem dX11_rests_113 : decode cX11_rests 113 = .ok (.invokespecial 348, 3) := by decide +kernel
theorem dX11_rests_116 : decode cX11_rests 116 = .ok (.athrow, 1) := by decide +kernel
theorem dX11_isDigit_0 : decode cX11_isDigit 0 = .ok (.iload_n 0, 1) := by decide +kernel
theorem dX11_isDigit_1 : decode cX11_isDigit 1 = .ok (.ifCond .lt 13, 3) := by decide +kernel
theorem dX11_isDigit_4 : decode cX11_isDigit 4 = .ok (.iload_n 0, 1) := by decide +kernel
theorem dX11_isDigit_5 : decode cX11_isDigit 5 = .ok (.bipush 9, 2) := by decide +kernel
theorem dX11_isDigit_7 : decode cX11_isDigit 7 = .ok (.if_icmp .gt 7, 3) := by decide +kernel
theorem dX11_isDigit_10 : decode cX11_isDigit 10 = .ok (.iconst 1, 1) := by decide +kernel
theorem dX11_isDigit_11 : decode cX11_isDigit 11 = .ok (.goto 4, 3) := by decide +kernel
theorem dX11_isDigit_14 : decode cX11_isDigit 14 = .ok (.iconst 0, 1) := by decide +kernel
theorem dX11_isDigit_15 : decode cX11_isDigit 15 = .ok (.ireturn, 1) := by decide +kernel
theorem dX11_rest_0 : decode cX11_rest 0 = .ok (.iconst 1, 1) := by decide +kernel
theorem dX11_rest_1 : decode cX11_rest 1 = .ok (.iload_n 0, 1) := by decide +kernel
theorem dX11_rest_2 : decode cX11_rest 2 = .ok (.isub, 1) := by decide +kernel
theorem dX11_rest_3 : decode cX11_rest 3 = .ok (.iload_n 1, 1) := by decide +kernel
theorem dX11_rest_4 : decode cX11_rest 4 = .ok (.iload_n 2, 1) := by decide +kernel
theorem dX11_rest_5 : decode cX11_rest 5 = .ok (.iload_n 3, 1) := by decide +kernel
theorem dX11_rest_6 : decode cX11_rest 6 = .ok (.iload 4, 2) := by decide +kernel
theorem dX11_rest_8 : decode cX11_rest 8 = .ok (.invokestatic 353, 3) := by decide +kernel
theorem dX11_rest_11 : decode cX11_rest 11 = .ok (.iload_n 0, 1) := by decide +kernel
theorem dX11_rest_12 : decode cX11_rest 12 = .ok (.iload_n 1, 1) := by decide +kernel
theorem dX11_rest_13 : decode cX11_rest 13 = .ok (.iload_n 2, 1) := by decide +kernel
theorem dX11_rest_14 : decode cX11_rest 14 = .ok (.iload_n 3, 1) := by decide +kernel
theorem dX11_rest_15 : decode cX11_rest 15 = .ok (.iload 4, 2) := by decide +kernel
theorem dX11_rest_17 : decode cX11_rest 17 = .ok (.invokestatic 353, 3) := by decide +kernel
theorem dX11_rest_20 : decode cX11_rest 20 = .ok (.if_icmp .gt 7, 3) := by decide +kernel
theorem dX11_rest_23 : decode cX11_rest 23 = .ok (.iconst 1, 1) := by decide +kernel
theorem dX11_rest_24 : decode cX11_rest 24 = .ok (.goto 4, 3) := by decide +kernel
theorem dX11_rest_27 : decode cX11_rest 27 = .ok (.iconst 0, 1) := by decide +kernel
theorem dX11_rest_28 : decode cX11_rest 28 = .ok (.ireturn, 1) := by decide +kernel
theorem dX11_gain_0 : decode cX11_gain 0 = .ok (.iload_n 1, 1) := by decide +kernel
theorem dX11_gain_1 : decode cX11_gain 1 = .ok (.iconst 1, 1) := by decide +kernel
theorem dX11_gain_2 : decode cX11_gain 2 = .ok (.if_icmp .ne 16, 3) := by decide +kernel
theorem dX11_gain_5 : decode cX11_gain 5 = .ok (.iload_n 0, 1) := by decide +kernel
theorem dX11_gain_6 : decode cX11_gain 6 = .ok (.iconst 1, 1) := by decide +kernel
theorem dX11_gain_7 : decode cX11_gain 7 = .ok (.if_icmp .ne 9, 3) := by decide +kernel
theorem dX11_gain_10 : decode cX11_gain 10 = .ok (.iload 4, 2) := by decide +kernel
theorem dX11_gain_12 : decode cX11_gain 12 = .ok (.ineg, 1) := by decide +kernel
theorem dX11_gain_13 : decode cX11_gain 13 = .ok (.goto 4, 3) := by decide +kernel
theorem dX11_gain_16 : decode cX11_gain 16 = .ok (.iconst 0, 1) := by decide +kernel
theorem dX11_gain_17 : decode cX11_gain 17 = .ok (.ireturn, 1) := by decide +kernel
theorem dX11_gain_18 : decode cX11_gain 18 = .ok (.iload_n 0, 1) := by decide +kernel
theorem dX11_gain_19 : decode cX11_gain 19 = .ok (.iconst 1, 1) := by decide +kernel
theorem dX11_gain_20 : decode cX11_gain 20 = .ok (.if_icmp .ne 7, 3) := by decide +kernel
theorem dX11_gain_23 : decode cX11_gain 23 = .ok (.iload_n 3, 1) := by decide +kernel
theorem dX11_gain_24 : decode cX11_gain 24 = .ok (.goto 4, 3) := by decide +kernel
theorem dX11_gain_27 : decode cX11_gain 27 = .ok (.iload_n 2, 1) := by decide +kernel
theorem dX11_gain_28 : decode cX11_gain 28 = .ok (.ireturn, 1) := by decide +kernel
theorem dX11_years_0 : decode cX11_years 0 = .ok (.iload_n 1, 1) := by decide +kernel
theorem dX11_years_1 : decode cX11_years 1 = .ok (.ifCond .lt 30, 3) := by decide +kernel
theorem dX11_years_4 : decode cX11_years 4 = .ok (.iload_n 1, 1) := by decide +kernel
theorem dX11_years_5 : decode cX11_years 5 = .ok (.sipush 9999, 3) := by decide +kernel
theorem dX11_years_8 : decode cX11_years 8 = .ok (.if_icmp .gt 23, 3) := by decide +kernel
theorem dX11_years_11 : decode cX11_years 11 = .ok (.iload_n 2, 1) := by decide +kernel
theorem dX11_years_12 : decode cX11_years 12 = .ok (.iconst 1, 1) := by decide +kernel
theorem dX11_years_13 : decode cX11_years 13 = .ok (.if_icmp .lt 18, 3) := by decide +kernel
theorem dX11_years_16 : decode cX11_years 16 = .ok (.iload_n 2, 1) := by decide +kernel
theorem dX11_years_17 : decode cX11_years 17 = .ok (.bipush 99, 2) := by decide +kernel
theorem dX11_years_19 : decode cX11_years 19 = .ok (.if_icmp .gt 12, 3) := by decide +kernel
theorem dX11_years_22 : decode cX11_years 22 = .ok (.iload_n 3, 1) := by decide +kernel
theorem dX11_years_23 : decode cX11_years 23 = .ok (.ifCond .lt 8, 3) := by decide +kernel
theorem dX11_years_26 : decode cX11_years 26 = .ok (.iload_n 3, 1) := by decide +kernel
theorem dX11_years_27 : decode cX11_years 27 = .ok (.iconst 2, 1) := by decide +kernel
theorem dX11_years_28 : decode cX11_years 28 = .ok (.if_icmp .le 5, 3) := by decide +kernel
theorem dX11_years_31 : decode cX11_years 31 = .ok (.iconst (-1), 1) := by decide +kernel
theorem dX11_years_32 : decode cX11_years 32 = .ok (.ireturn, 1) := by decide +kernel
theorem dX11_years_33 : decode cX11_years 33 = .ok (.aload_n 0, 1) := by decide +kernel
theorem dX11_years_34 : decode cX11_years 34 = .ok (.getfield 50, 3) := by decide +kernel
theorem dX11_years_37 : decode cX11_years 37 = .ok (.aload_n 0, 1) := by decide +kernel
theorem dX11_years_38 : decode cX11_years 38 = .ok (.getfield 46, 3) := by decide +kernel
theorem dX11_years_41 : decode cX11_years 41 = .ok (.invokevirtual 176, 3) := by decide +kernel
theorem dX11_years_44 : decode cX11_years 44 = .ok (.aload_n 0, 1) := by decide +kernel
theorem dX11_years_45 : decode cX11_years 45 = .ok (.getfield 76, 3) := by decide +kernel
theorem dX11_years_48 : decode cX11_years 48 = .ok (.iload_n 1, 1) := by decide +kernel
theorem dX11_years_49 : decode cX11_years 49 = .ok (.i2l, 1) := by decide +kernel
theorem dX11_years_50 : decode cX11_years 50 = .ok (.putfield 357, 3) := by decide +kernel
theorem dX11_years_53 : decode cX11_years 53 = .ok (.iconst 0, 1) := by decide +kernel
theorem dX11_years_54 : decode cX11_years 54 = .ok (.istore 4, 2) := by decide +kernel
theorem dX11_years_56 : decode cX11_years 56 = .ok (.iload 4, 2) := by decide +kernel
theorem dX11_years_58 : decode cX11_years 58 = .ok (.iload_n 2, 1) := by decide +kernel
theorem dX11_years_59 : decode cX11_years 59 = .ok (.if_icmp .ge 13, 3) := by decide +kernel
theorem dX11_years_62 : decode cX11_years 62 = .ok (.aload_n 0, 1) := by decide +kernel
theorem dX11_years_63 : decode cX11_years 63 = .ok (.invokevirtual 360, 3) := by decide +kernel
theorem dX11_years_66 : decode cX11_years 66 = .ok (.iinc 4 1, 3) := by decide +kernel
theorem dX11_years_69 : decode cX11_years 69 = .ok (.goto (-13), 3) := by decide +kernel
theorem dX11_years_72 : decode cX11_years 72 = .ok (.iload_n 3, 1) := by decide +kernel
theorem dX11_years_73 : decode cX11_years 73 = .ok (.ifCond .ne 11, 3) := by decide +kernel
theorem dX11_years_76 : decode cX11_years 76 = .ok (.aload_n 0, 1) := by decide +kernel
theorem dX11_years_77 : decode cX11_years 77 = .ok (.getfield 50, 3) := by decide +kernel
theorem dX11_years_80 : decode cX11_years 80 = .ok (.getfield 219, 3) := by decide +kernel
theorem dX11_years_83 : decode cX11_years 83 = .ok (.ireturn, 1) := by decide +kernel
theorem dX11_years_84 : decode cX11_years 84 = .ok (.iload_n 3, 1) := by decide +kernel
theorem dX11_years_85 : decode cX11_years 85 = .ok (.iconst 1, 1) := by decide +kernel
theorem dX11_years_86 : decode cX11_years 86 = .ok (.if_icmp .ne 14, 3) := by decide +kernel
theorem dX11_years_89 : decode cX11_years 89 = .ok (.aload_n 0, 1) := by decide +kernel
theorem dX11_years_90 : decode cX11_years 90 = .ok (.aload_n 0, 1) := by decide +kernel
theorem dX11_years_91 : decode cX11_years 91 = .ok (.getfield 50, 3) := by decide +kernel
theorem dX11_years_94 : decode cX11_years 94 = .ok (.invokevirtual 363, 3) := by decide +kernel
theorem dX11_years_97 : decode cX11_years 97 = .ok (.goto 7, 3) := by decide +kernel
theorem dX11_years_100 : decode cX11_years 100 = .ok (.aload_n 0, 1) := by decide +kernel
theorem dX11_years_101 : decode cX11_years 101 = .ok (.invokevirtual 366, 3) := by decide +kernel
theorem dX11_years_104 : decode cX11_years 104 = .ok (.ireturn, 1) := by decide +kernel
theorem dX11_passYear_0 : decode cX11_passYear 0 = .ok (.aload_n 0, 1) := by decide +kernel
theorem dX11_passYear_1 : decode cX11_passYear 1 = .ok (.getfield 26, 3) := by decide +kernel
theorem dX11_passYear_4 : decode cX11_passYear 4 = .ok (.aload_n 0, 1) := by decide +kernel
theorem dX11_passYear_5 : decode cX11_passYear 5 = .ok (.getfield 50, 3) := by decide +kernel
theorem dX11_passYear_8 : decode cX11_passYear 8 = .ok (.invokevirtual 179, 3) := by decide +kernel
theorem dX11_passYear_11 : decode cX11_passYear 11 = .ok (.iconst (-1), 1) := by decide +kernel
theorem dX11_passYear_12 : decode cX11_passYear 12 = .ok (.if_icmp .ne 15, 3) := by decide +kernel
theorem dX11_passYear_15 : decode cX11_passYear 15 = .ok (.aload_n 0, 1) := by decide +kernel
theorem dX11_passYear_16 : decode cX11_passYear 16 = .ok (.getfield 26, 3) := by decide +kernel
theorem dX11_passYear_19 : decode cX11_passYear 19 = .ok (.aload_n 0, 1) := by decide +kernel
theorem dX11_passYear_20 : decode cX11_passYear 20 = .ok (.getfield 50, 3) := by decide +kernel
theorem dX11_passYear_23 : decode cX11_passYear 23 = .ok (.invokevirtual 206, 3) := by decide +kernel
theorem dX11_passYear_26 : decode cX11_passYear 26 = .ok (.pop, 1) := by decide +kernel
theorem dX11_passYear_27 : decode cX11_passYear 27 = .ok (.aload_n 0, 1) := by decide +kernel
theorem dX11_passYear_28 : decode cX11_passYear 28 = .ok (.getfield 26, 3) := by decide +kernel
theorem dX11_passYear_31 : decode cX11_passYear 31 = .ok (.getfield 289, 3) := by decide +kernel
theorem dX11_passYear_34 : decode cX11_passYear 34 = .ok (.ifCond .le 47, 3) := by decide +kernel
theorem dX11_passYear_37 : decode cX11_passYear 37 = .ok (.aload_n 0, 1) := by decide +kernel
theorem dX11_passYear_38 : decode cX11_passYear 38 = .ok (.getfield 76, 3) := by decide +kernel
theorem dX11_passYear_41 : decode cX11_passYear 41 = .ok (.aload_n 0, 1) := by decide +kernel
theorem dX11_passYear_42 : decode cX11_passYear 42 = .ok (.getfield 26, 3) := by decide +kernel
theorem dX11_passYear_45 : decode cX11_passYear 45 = .ok (.getfield 289, 3) := by decide +kernel
theorem dX11_passYear_48 : decode cX11_passYear 48 = .ok (.invokevirtual 369, 3) := by decide +kernel
theorem dX11_passYear_51 : decode cX11_passYear 51 = .ok (.istore_n 1, 1) := by decide +kernel
theorem dX11_passYear_52 : decode cX11_passYear 52 = .ok (.aload_n 0, 1) := by decide +kernel
theorem dX11_passYear_53 : decode cX11_passYear 53 = .ok (.getfield 76, 3) := by decide +kernel
theorem dX11_passYear_56 : decode cX11_passYear 56 = .ok (.aload_n 0, 1) := by decide +kernel
theorem dX11_passYear_57 : decode cX11_passYear 57 = .ok (.getfield 26, 3) := by decide +kernel
theorem dX11_passYear_60 : decode cX11_passYear 60 = .ok (.getfield 289, 3) := by decide +kernel
theorem dX11_passYear_63 : decode cX11_passYear 63 = .ok (.invokevirtual 369, 3) := by decide +kernel
theorem dX11_passYear_66 : decode cX11_passYear 66 = .ok (.istore_n 2, 1) := by decide +kernel
theorem dX11_passYear_67 : decode cX11_passYear 67 = .ok (.aload_n 0, 1) := by decide +kernel
theorem dX11_passYear_68 : decode cX11_passYear 68 = .ok (.getfield 26, 3) := by decide +kernel
theorem dX11_passYear_71 : decode cX11_passYear 71 = .ok (.aload_n 0, 1) := by decide +kernel
theorem dX11_passYear_72 : decode cX11_passYear 72 = .ok (.getfield 50, 3) := by decide +kernel
theorem dX11_passYear_75 : decode cX11_passYear 75 = .ok (.iload_n 1, 1) := by decide +kernel
theorem dX11_passYear_76 : decode cX11_passYear 76 = .ok (.iload_n 2, 1) := by decide +kernel
theorem dX11_passYear_77 : decode cX11_passYear 77 = .ok (.invokevirtual 202, 3) := by decide +kernel
theorem dX11_passYear_80 : decode cX11_passYear 80 = .ok (.pop, 1) := by decide +kernel
theorem dX11_passYear_81 : decode cX11_passYear 81 = .ok (.aload_n 0, 1) := by decide +kernel
theorem dX11_passYear_82 : decode cX11_passYear 82 = .ok (.getfield 26, 3) := by decide +kernel
theorem dX11_passYear_85 : decode cX11_passYear 85 = .ok (.getfield 239, 3) := by decide +kernel
theorem dX11_passYear_88 : decode cX11_passYear 88 = .ok (.ifCond .le 91, 3) := by decide +kernel
theorem dX11_passYear_91 : decode cX11_passYear 91 = .ok (.aload_n 0, 1) := by decide +kernel
theorem dX11_passYear_92 : decode cX11_passYear 92 = .ok (.getfield 26, 3) := by decide +kernel
theorem dX11_passYear_95 : decode cX11_passYear 95 = .ok (.getfield 280, 3) := by decide +kernel
theorem dX11_passYear_98 : decode cX11_passYear 98 = .ok (.ifCond .le 81, 3) := by decide +kernel
theorem dX11_passYear_101 : decode cX11_passYear 101 = .ok (.aload_n 0, 1) := by decide +kernel
theorem dX11_passYear_102 : decode cX11_passYear 102 = .ok (.getfield 76, 3) := by decide +kernel
theorem dX11_passYear_105 : decode cX11_passYear 105 = .ok (.bipush 9, 2) := by decide +kernel
theorem dX11_passYear_107 : decode cX11_passYear 107 = .ok (.invokevirtual 369, 3) := by decide +kernel
theorem dX11_passYear_110 : decode cX11_passYear 110 = .ok (.ifCond .ne 69, 3) := by decide +kernel
theorem dX11_passYear_113 : decode cX11_passYear 113 = .ok (.aload_n 0, 1) := by decide +kernel
theorem dX11_passYear_114 : decode cX11_passYear 114 = .ok (.getfield 76, 3) := by decide +kernel
theorem dX11_passYear_117 : decode cX11_passYear 117 = .ok (.aload_n 0, 1) := by decide +kernel
theorem dX11_passYear_118 : decode cX11_passYear 118 = .ok (.getfield 26, 3) := by decide +kernel
theorem dX11_passYear_121 : decode cX11_passYear 121 = .ok (.getfield 239, 3) := by decide +kernel
theorem dX11_passYear_124 : decode cX11_passYear 124 = .ok (.invokevirtual 369, 3) := by decide +kernel
theorem dX11_passYear_127 : decode cX11_passYear 127 = .ok (.istore_n 1, 1) := by decide +kernel
theorem dX11_passYear_128 : decode cX11_passYear 128 = .ok (.aload_n 0, 1) := by decide +kernel
theorem dX11_passYear_129 : decode cX11_passYear 129 = .ok (.getfield 76, 3) := by decide +kernel
theorem dX11_passYear_132 : decode cX11_passYear 132 = .ok (.aload_n 0, 1) := by decide +kernel
theorem dX11_passYear_133 : decode cX11_passYear 133 = .ok (.getfield 26, 3) := by decide +kernel
theorem dX11_passYear_136 : decode cX11_passYear 136 = .ok (.getfield 280, 3) := by decide +kernel
theorem dX11_passYear_139 : decode cX11_passYear 139 = .ok (.invokevirtual 369, 3) := by decide +kernel
theorem dX11_passYear_142 : decode cX11_passYear 142 = .ok (.istore_n 2, 1) := by decide +kernel
theorem dX11_passYear_143 : decode cX11_passYear 143 = .ok (.aload_n 0, 1) := by decide +kernel
theorem dX11_passYear_144 : decode cX11_passYear 144 = .ok (.getfield 76, 3) := by decide +kernel
theorem dX11_passYear_147 : decode cX11_passYear 147 = .ok (.iconst 2, 1) := by decide +kernel
theorem dX11_passYear_148 : decode cX11_passYear 148 = .ok (.invokevirtual 369, 3) := by decide +kernel
theorem dX11_passYear_151 : decode cX11_passYear 151 = .ok (.iconst 1, 1) := by decide +kernel
theorem dX11_passYear_152 : decode cX11_passYear 152 = .ok (.if_icmp .ne 7, 3) := by decide +kernel
theorem dX11_passYear_155 : decode cX11_passYear 155 = .ok (.iconst 1, 1) := by decide +kernel
theorem dX11_passYear_156 : decode cX11_passYear 156 = .ok (.goto 4, 3) := by decide +kernel
theorem dX11_passYear_159 : decode cX11_passYear 159 = .ok (.iconst 0, 1) := by decide +kernel
theorem dX11_passYear_160 : decode cX11_passYear 160 = .ok (.istore_n 3, 1) := by decide +kernel
theorem dX11_passYear_161 : decode cX11_passYear 161 = .ok (.aload_n 0, 1) := by decide +kernel
theorem dX11_passYear_162 : decode cX11_passYear 162 = .ok (.getfield 26, 3) := by decide +kernel
theorem dX11_passYear_165 : decode cX11_passYear 165 = .ok (.aload_n 0, 1) := by decide +kernel
theorem dX11_passYear_166 : decode cX11_passYear 166 = .ok (.getfield 50, 3) := by decide +kernel
theorem dX11_passYear_169 : decode cX11_passYear 169 = .ok (.iload_n 1, 1) := by decide +kernel
theorem dX11_passYear_170 : decode cX11_passYear 170 = .ok (.iload_n 2, 1) := by decide +kernel
theorem dX11_passYear_171 : decode cX11_passYear 171 = .ok (.iload_n 3, 1) := by decide +kernel
theorem dX11_passYear_172 : decode cX11_passYear 172 = .ok (.invokestatic 190, 3) := by decide +kernel
theorem dX11_passYear_175 : decode cX11_passYear 175 = .ok (.invokevirtual 194, 3) := by decide +kernel
theorem dX11_passYear_178 : decode cX11_passYear 178 = .ok (.pop, 1) := by decide +kernel
theorem dX11_passYear_179 : decode cX11_passYear 179 = .ok (.return_, 1) := by decide +kernel
theorem dX11_yesOfAll_0 : decode cX11_yesOfAll 0 = .ok (.iconst 0, 1) := by decide +kernel
theorem dX11_yesOfAll_1 : decode cX11_yesOfAll 1 = .ok (.istore_n 1, 1) := by decide +kernel
theorem dX11_yesOfAll_2 : decode cX11_yesOfAll 2 = .ok (.iconst 0, 1) := by decide +kernel
theorem dX11_yesOfAll_3 : decode cX11_yesOfAll 3 = .ok (.istore_n 2, 1) := by decide +kernel
theorem dX11_yesOfAll_4 : decode cX11_yesOfAll 4 = .ok (.iload_n 2, 1) := by decide +kernel
theorem dX11_yesOfAll_5 : decode cX11_yesOfAll 5 = .ok (.aload_n 0, 1) := by decide +kernel
theorem dX11_yesOfAll_6 : decode cX11_yesOfAll 6 = .ok (.getfield 26, 3) := by decide +kernel
theorem dX11_yesOfAll_9 : decode cX11_yesOfAll 9 = .ok (.getfield 289, 3) := by decide +kernel
theorem dX11_yesOfAll_12 : decode cX11_yesOfAll 12 = .ok (.if_icmp .ge 49, 3) := by decide +kernel
theorem dX11_yesOfAll_15 : decode cX11_yesOfAll 15 = .ok (.iconst 0, 1) := by decide +kernel
theorem dX11_yesOfAll_16 : decode cX11_yesOfAll 16 = .ok (.istore_n 3, 1) := by decide +kernel
theorem dX11_yesOfAll_17 : decode cX11_yesOfAll 17 = .ok (.iload_n 3, 1) := by decide +kernel
theorem dX11_yesOfAll_18 : decode cX11_yesOfAll 18 = .ok (.aload_n 0, 1) := by decide +kernel
theorem dX11_yesOfAll_19 : decode cX11_yesOfAll 19 = .ok (.getfield 26, 3) := by decide +kernel
theorem dX11_yesOfAll_22 : decode cX11_yesOfAll 22 = .ok (.getfield 280, 3) := by decide +kernel
theorem dX11_yesOfAll_25 : decode cX11_yesOfAll 25 = .ok (.if_icmp .ge 30, 3) := by decide +kernel
theorem dX11_yesOfAll_28 : decode cX11_yesOfAll 28 = .ok (.iload_n 1, 1) := by decide +kernel
theorem dX11_yesOfAll_29 : decode cX11_yesOfAll 29 = .ok (.aload_n 0, 1) := by decide +kernel
theorem dX11_yesOfAll_30 : decode cX11_yesOfAll 30 = .ok (.getfield 50, 3) := by decide +kernel
theorem dX11_yesOfAll_33 : decode cX11_yesOfAll 33 = .ok (.iload_n 2, 1) := by decide +kernel
theorem dX11_yesOfAll_34 : decode cX11_yesOfAll 34 = .ok (.iload_n 3, 1) := by decide +kernel
theorem dX11_yesOfAll_35 : decode cX11_yesOfAll 35 = .ok (.invokevirtual 172, 3) := by decide +kernel
theorem dX11_yesOfAll_38 : decode cX11_yesOfAll 38 = .ok (.iconst 1, 1) := by decide +kernel
theorem dX11_yesOfAll_39 : decode cX11_yesOfAll 39 = .ok (.if_icmp .ne 7, 3) := by decide +kernel
theorem dX11_yesOfAll_42 : decode cX11_yesOfAll 42 = .ok (.iconst 1, 1) := by decide +kernel
theorem dX11_yesOfAll_43 : decode cX11_yesOfAll 43 = .ok (.goto 4, 3) := by decide +kernel
theorem dX11_yesOfAll_46 : decode cX11_yesOfAll 46 = .ok (.iconst 0, 1) := by decide +kernel
theorem dX11_yesOfAll_47 : decode cX11_yesOfAll 47 = .ok (.iadd, 1) := by decide +kernel
theorem dX11_yesOfAll_48 : decode cX11_yesOfAll 48 = .ok (.istore_n 1, 1) := by decide +kernel
theorem dX11_yesOfAll_49 : decode cX11_yesOfAll 49 = .ok (.iinc 3 1, 3) := by decide +kernel
theorem dX11_yesOfAll_52 : decode cX11_yesOfAll 52 = .ok (.goto (-35), 3) := by decide +kernel
theorem dX11_yesOfAll_55 : decode cX11_yesOfAll 55 = .ok (.iinc 2 1, 3) := by decide +kernel
theorem dX11_yesOfAll_58 : decode cX11_yesOfAll 58 = .ok (.goto (-54), 3) := by decide +kernel
theorem dX11_yesOfAll_61 : decode cX11_yesOfAll 61 = .ok (.iload_n 1, 1) := by decide +kernel
theorem dX11_yesOfAll_62 : decode cX11_yesOfAll 62 = .ok (.ireturn, 1) := by decide +kernel
theorem dX11_doubtOfAll_0 : decode cX11_doubtOfAll 0 = .ok (.iconst 0, 1) := by decide +kernel
theorem dX11_doubtOfAll_1 : decode cX11_doubtOfAll 1 = .ok (.istore_n 2, 1) := by decide +kernel
theorem dX11_doubtOfAll_2 : decode cX11_doubtOfAll 2 = .ok (.iconst 0, 1) := by decide +kernel
theorem dX11_doubtOfAll_3 : decode cX11_doubtOfAll 3 = .ok (.istore_n 3, 1) := by decide +kernel
theorem dX11_doubtOfAll_4 : decode cX11_doubtOfAll 4 = .ok (.iload_n 3, 1) := by decide +kernel
theorem dX11_doubtOfAll_5 : decode cX11_doubtOfAll 5 = .ok (.aload_n 0, 1) := by decide +kernel
theorem dX11_doubtOfAll_6 : decode cX11_doubtOfAll 6 = .ok (.getfield 26, 3) := by decide +kernel
theorem dX11_doubtOfAll_9 : decode cX11_doubtOfAll 9 = .ok (.getfield 289, 3) := by decide +kernel
theorem dX11_doubtOfAll_12 : decode cX11_doubtOfAll 12 = .ok (.if_icmp .ge 20, 3) := by decide +kernel
theorem dX11_doubtOfAll_15 : decode cX11_doubtOfAll 15 = .ok (.iload_n 2, 1) := by decide +kernel
theorem dX11_doubtOfAll_16 : decode cX11_doubtOfAll 16 = .ok (.aload_n 1, 1) := by decide +kernel
theorem dX11_doubtOfAll_17 : decode cX11_doubtOfAll 17 = .ok (.getfield 162, 3) := by decide +kernel
theorem dX11_doubtOfAll_20 : decode cX11_doubtOfAll 20 = .ok (.iload_n 3, 1) := by decide +kernel
theorem dX11_doubtOfAll_21 : decode cX11_doubtOfAll 21 = .ok (.invokestatic 150, 3) := by decide +kernel
theorem dX11_doubtOfAll_24 : decode cX11_doubtOfAll 24 = .ok (.iadd, 1) := by decide +kernel
theorem dX11_doubtOfAll_25 : decode cX11_doubtOfAll 25 = .ok (.istore_n 2, 1) := by decide +kernel
theorem dX11_doubtOfAll_26 : decode cX11_doubtOfAll 26 = .ok (.iinc 3 1, 3) := by decide +kernel
theorem dX11_doubtOfAll_29 : decode cX11_doubtOfAll 29 = .ok (.goto (-25), 3) := by decide +kernel
theorem dX11_doubtOfAll_32 : decode cX11_doubtOfAll 32 = .ok (.iload_n 2, 1) := by decide +kernel
theorem dX11_doubtOfAll_33 : decode cX11_doubtOfAll 33 = .ok (.ireturn, 1) := by decide +kernel
theorem dX11_mark_0 : decode cX11_mark 0 = .ok (.iload_n 1, 1) := by decide +kernel
theorem dX11_mark_1 : decode cX11_mark 1 = .ok (.ifCond .lt 21, 3) := by decide +kernel
theorem dX11_mark_4 : decode cX11_mark 4 = .ok (.iload_n 1, 1) := by decide +kernel
theorem dX11_mark_5 : decode cX11_mark 5 = .ok (.aload_n 0, 1) := by decide +kernel
theorem dX11_mark_6 : decode cX11_mark 6 = .ok (.getfield 62, 3) := by decide +kernel
theorem dX11_mark_9 : decode cX11_mark 9 = .ok (.arraylength, 1) := by decide +kernel
theorem dX11_mark_10 : decode cX11_mark 10 = .ok (.if_icmp .ge 12, 3) := by decide +kernel
theorem dX11_mark_13 : decode cX11_mark 13 = .ok (.aload_n 0, 1) := by decide +kernel
theorem dX11_mark_14 : decode cX11_mark 14 = .ok (.getfield 62, 3) := by decide +kernel
theorem dX11_mark_17 : decode cX11_mark 17 = .ok (.iload_n 1, 1) := by decide +kernel
theorem dX11_mark_18 : decode cX11_mark 18 = .ok (.aaload, 1) := by decide +kernel
theorem dX11_mark_19 : decode cX11_mark 19 = .ok (.ifnonnull 5, 3) := by decide +kernel
theorem dX11_mark_22 : decode cX11_mark 22 = .ok (.iconst 0, 1) := by decide +kernel
theorem dX11_mark_23 : decode cX11_mark 23 = .ok (.ireturn, 1) := by decide +kernel
theorem dX11_mark_24 : decode cX11_mark 24 = .ok (.aload_n 0, 1) := by decide +kernel
theorem dX11_mark_25 : decode cX11_mark 25 = .ok (.getfield 62, 3) := by decide +kernel
theorem dX11_mark_28 : decode cX11_mark 28 = .ok (.iload_n 1, 1) := by decide +kernel
theorem dX11_mark_29 : decode cX11_mark 29 = .ok (.aaload, 1) := by decide +kernel
theorem dX11_mark_30 : decode cX11_mark 30 = .ok (.astore_n 3, 1) := by decide +kernel
theorem dX11_mark_31 : decode cX11_mark 31 = .ok (.iload_n 2, 1) := by decide +kernel
theorem dX11_mark_32 : decode cX11_mark 32 = .ok (.ifCond .ne 17, 3) := by decide +kernel
theorem dX11_mark_35 : decode cX11_mark 35 = .ok (.aload_n 3, 1) := by decide +kernel
theorem dX11_mark_36 : decode cX11_mark 36 = .ok (.aload_n 0, 1) := by decide +kernel
theorem dX11_mark_37 : decode cX11_mark 37 = .ok (.getfield 46, 3) := by decide +kernel
theorem dX11_mark_40 : decode cX11_mark 40 = .ok (.aload_n 0, 1) := by decide +kernel
theorem dX11_mark_41 : decode cX11_mark 41 = .ok (.getfield 66, 3) := by decide +kernel
theorem dX11_mark_44 : decode cX11_mark 44 = .ok (.invokevirtual 372, 3) := by decide +kernel
theorem dX11_mark_47 : decode cX11_mark 47 = .ok (.iconst 1, 1) := by decide +kernel
theorem dX11_mark_48 : decode cX11_mark 48 = .ok (.ireturn, 1) := by decide +kernel
theorem dX11_mark_49 : decode cX11_mark 49 = .ok (.aload_n 3, 1) := by decide +kernel
theorem dX11_mark_50 : decode cX11_mark 50 = .ok (.getfield 112, 3) := by decide +kernel
theorem dX11_mark_53 : decode cX11_mark 53 = .ok (.ifCond .ne 5, 3) := by decide +kernel
theorem dX11_mark_56 : decode cX11_mark 56 = .ok (.iconst 0, 1) := by decide +kernel
theorem dX11_mark_57 : decode cX11_mark 57 = .ok (.ireturn, 1) := by decide +kernel
theorem dX11_mark_58 : decode cX11_mark 58 = .ok (.aload_n 3, 1) := by decide +kernel
theorem dX11_mark_59 : decode cX11_mark 59 = .ok (.aload_n 0, 1) := by decide +kernel
theorem dX11_mark_60 : decode cX11_mark 60 = .ok (.getfield 46, 3) := by decide +kernel
theorem dX11_mark_63 : decode cX11_mark 63 = .ok (.aload_n 0, 1) := by decide +kernel
theorem dX11_mark_64 : decode cX11_mark 64 = .ok (.getfield 66, 3) := by decide +kernel
theorem dX11_mark_67 : decode cX11_mark 67 = .ok (.invokevirtual 376, 3) := by decide +kernel
theorem dX11_mark_70 : decode cX11_mark 70 = .ok (.aload_n 0, 1) := by decide +kernel
theorem dX11_mark_71 : decode cX11_mark 71 = .ok (.getfield 56, 3) := by decide +kernel
theorem dX11_mark_74 : decode cX11_mark 74 = .ok (.iconst 0, 1) := by decide +kernel
theorem dX11_mark_75 : decode cX11_mark 75 = .ok (.putfield 103, 3) := by decide +kernel
theorem dX11_mark_78 : decode cX11_mark 78 = .ok (.iconst 1, 1) := by decide +kernel
theorem dX11_mark_79 : decode cX11_mark 79 = .ok (.ireturn, 1) := by decide +kernel
theorem dX11_count_0 : decode cX11_count 0 = .ok (.iload_n 1, 1) := by decide +kernel
theorem dX11_count_1 : decode cX11_count 1 = .ok (.tableswitch 169 0 12 #[67, 75, 83, 91, 99, 107, 115, 123, 132, 140, 148, 153, 161], 67) := by decide +kernel
theorem dX11_count_68 : decode cX11_count 68 = .ok (.aload_n 0, 1) := by decide +kernel
theorem dX11_count_69 : decode cX11_count 69 = .ok (.getfield 26, 3) := by decide +kernel
theorem dX11_count_72 : decode cX11_count 72 = .ok (.getfield 280, 3) := by decide +kernel
theorem dX11_count_75 : decode cX11_count 75 = .ok (.ireturn, 1) := by decide +kernel
theorem dX11_count_76 : decode cX11_count 76 = .ok (.aload_n 0, 1) := by decide +kernel
theorem dX11_count_77 : decode cX11_count 77 = .ok (.getfield 26, 3) := by decide +kernel
theorem dX11_count_80 : decode cX11_count 80 = .ok (.getfield 239, 3) := by decide +kernel
theorem dX11_count_83 : decode cX11_count 83 = .ok (.ireturn, 1) := by decide +kernel
theorem dX11_count_84 : decode cX11_count 84 = .ok (.aload_n 0, 1) := by decide +kernel
theorem dX11_count_85 : decode cX11_count 85 = .ok (.getfield 26, 3) := by decide +kernel
theorem dX11_count_88 : decode cX11_count 88 = .ok (.getfield 289, 3) := by decide +kernel
theorem dX11_count_91 : decode cX11_count 91 = .ok (.ireturn, 1) := by decide +kernel
theorem dX11_count_92 : decode cX11_count 92 = .ok (.aload_n 0, 1) := by decide +kernel
theorem dX11_count_93 : decode cX11_count 93 = .ok (.getfield 46, 3) := by decide +kernel
theorem dX11_count_96 : decode cX11_count 96 = .ok (.getfield 141, 3) := by decide +kernel
theorem dX11_count_99 : decode cX11_count 99 = .ok (.ireturn, 1) := by decide +kernel
theorem dX11_count_100 : decode cX11_count 100 = .ok (.aload_n 0, 1) := by decide +kernel
theorem dX11_count_101 : decode cX11_count 101 = .ok (.getfield 46, 3) := by decide +kernel
theorem dX11_count_104 : decode cX11_count 104 = .ok (.getfield 378, 3) := by decide +kernel
theorem dX11_count_107 : decode cX11_count 107 = .ok (.ireturn, 1) := by decide +kernel
theorem dX11_count_108 : decode cX11_count 108 = .ok (.aload_n 0, 1) := by decide +kernel
theorem dX11_count_109 : decode cX11_count 109 = .ok (.getfield 46, 3) := by decide +kernel
theorem dX11_count_112 : decode cX11_count 112 = .ok (.getfield 219, 3) := by decide +kernel
theorem dX11_count_115 : decode cX11_count 115 = .ok (.ireturn, 1) := by decide +kernel
theorem dX11_count_116 : decode cX11_count 116 = .ok (.aload_n 0, 1) := by decide +kernel
theorem dX11_count_117 : decode cX11_count 117 = .ok (.getfield 46, 3) := by decide +kernel
theorem dX11_count_120 : decode cX11_count 120 = .ok (.getfield 263, 3) := by decide +kernel
theorem dX11_count_123 : decode cX11_count 123 = .ok (.ireturn, 1) := by decide +kernel
theorem dX11_count_124 : decode cX11_count 124 = .ok (.aload_n 0, 1) := by decide +kernel
theorem dX11_count_125 : decode cX11_count 125 = .ok (.aload_n 0, 1) := by decide +kernel
theorem dX11_count_126 : decode cX11_count 126 = .ok (.getfield 46, 3) := by decide +kernel
theorem dX11_count_129 : decode cX11_count 129 = .ok (.invokevirtual 363, 3) := by decide +kernel
theorem dX11_count_132 : decode cX11_count 132 = .ok (.ireturn, 1) := by decide +kernel
theorem dX11_count_133 : decode cX11_count 133 = .ok (.aload_n 0, 1) := by decide +kernel
theorem dX11_count_134 : decode cX11_count 134 = .ok (.getfield 26, 3) := by decide +kernel
theorem dX11_count_137 : decode cX11_count 137 = .ok (.getfield 381, 3) := by decide +kernel
theorem dX11_count_140 : decode cX11_count 140 = .ok (.ireturn, 1) := by decide +kernel
theorem dX11_count_141 : decode cX11_count 141 = .ok (.aload_n 0, 1) := by decide +kernel
theorem dX11_count_142 : decode cX11_count 142 = .ok (.getfield 36, 3) := by decide +kernel
theorem dX11_count_145 : decode cX11_count 145 = .ok (.getfield 100, 3) := by decide +kernel
theorem dX11_count_148 : decode cX11_count 148 = .ok (.ireturn, 1) := by decide +kernel
theorem dX11_count_149 : decode cX11_count 149 = .ok (.aload_n 0, 1) := by decide +kernel
theorem dX11_count_150 : decode cX11_count 150 = .ok (.invokevirtual 384, 3) := by decide +kernel
theorem dX11_count_153 : decode cX11_count 153 = .ok (.ireturn, 1) := by decide +kernel
theorem dX11_count_154 : decode cX11_count 154 = .ok (.aload_n 0, 1) := by decide +kernel
theorem dX11_count_155 : decode cX11_count 155 = .ok (.getfield 56, 3) := by decide +kernel
theorem dX11_count_158 : decode cX11_count 158 = .ok (.getfield 103, 3) := by decide +kernel
theorem dX11_count_161 : decode cX11_count 161 = .ok (.ireturn, 1) := by decide +kernel
theorem dX11_count_162 : decode cX11_count 162 = .ok (.aload_n 0, 1) := by decide +kernel
theorem dX11_count_163 : decode cX11_count 163 = .ok (.getfield 12, 3) := by decide +kernel
theorem dX11_count_166 : decode cX11_count 166 = .ok (.getfield 89, 3) := by decide +kernel
theorem dX11_count_169 : decode cX11_count 169 = .ok (.ireturn, 1) := by decide +kernel
theorem dX11_count_170 : decode cX11_count 170 = .ok (.iconst (-1), 1) := by decide +kernel
theorem dX11_count_171 : decode cX11_count 171 = .ok (.ireturn, 1) := by decide +kernel
theorem dX11_toldCount_0 : decode cX11_toldCount 0 = .ok (.iconst 0, 1) := by decide +kernel
theorem dX11_toldCount_1 : decode cX11_toldCount 1 = .ok (.istore_n 1, 1) := by decide +kernel
theorem dX11_toldCount_2 : decode cX11_toldCount 2 = .ok (.iconst 0, 1) := by decide +kernel
theorem dX11_toldCount_3 : decode cX11_toldCount 3 = .ok (.istore_n 2, 1) := by decide +kernel
theorem dX11_toldCount_4 : decode cX11_toldCount 4 = .ok (.iload_n 2, 1) := by decide +kernel
theorem dX11_toldCount_5 : decode cX11_toldCount 5 = .ok (.aload_n 0, 1) := by decide +kernel
theorem dX11_toldCount_6 : decode cX11_toldCount 6 = .ok (.getfield 66, 3) := by decide +kernel
theorem dX11_toldCount_9 : decode cX11_toldCount 9 = .ok (.arraylength, 1) := by decide +kernel
theorem dX11_toldCount_10 : decode cX11_toldCount 10 = .ok (.if_icmp .ge 26, 3) := by decide +kernel
theorem dX11_toldCount_13 : decode cX11_toldCount 13 = .ok (.iload_n 1, 1) := by decide +kernel
theorem dX11_toldCount_14 : decode cX11_toldCount 14 = .ok (.aload_n 0, 1) := by decide +kernel
theorem dX11_toldCount_15 : decode cX11_toldCount 15 = .ok (.getfield 66, 3) := by decide +kernel
theorem dX11_toldCount_18 : decode cX11_toldCount 18 = .ok (.iload_n 2, 1) := by decide +kernel
theorem dX11_toldCount_19 : decode cX11_toldCount 19 = .ok (.iaload, 1) := by decide +kernel
theorem dX11_toldCount_20 : decode cX11_toldCount 20 = .ok (.ifCond .le 7, 3) := by decide +kernel
theorem dX11_toldCount_23 : decode cX11_toldCount 23 = .ok (.iconst 1, 1) := by decide +kernel
theorem dX11_toldCount_24 : decode cX11_toldCount 24 = .ok (.goto 4, 3) := by decide +kernel
theorem dX11_toldCount_27 : decode cX11_toldCount 27 = .ok (.iconst 0, 1) := by decide +kernel
theorem dX11_toldCount_28 : decode cX11_toldCount 28 = .ok (.iadd, 1) := by decide +kernel
theorem dX11_toldCount_29 : decode cX11_toldCount 29 = .ok (.istore_n 1, 1) := by decide +kernel
theorem dX11_toldCount_30 : decode cX11_toldCount 30 = .ok (.iinc 2 1, 3) := by decide +kernel
theorem dX11_toldCount_33 : decode cX11_toldCount 33 = .ok (.goto (-29), 3) := by decide +kernel
theorem dX11_toldCount_36 : decode cX11_toldCount 36 = .ok (.iload_n 1, 1) := by decide +kernel
theorem dX11_toldCount_37 : decode cX11_toldCount 37 = .ok (.ireturn, 1) := by decide +kernel
theorem dX11_claim_0 : decode cX11_claim 0 = .ok (.iconst 2, 1) := by decide +kernel
theorem dX11_claim_1 : decode cX11_claim 1 = .ok (.iload_n 0, 1) := by decide +kernel
theorem dX11_claim_2 : decode cX11_claim 2 = .ok (.imul, 1) := by decide +kernel
theorem dX11_claim_3 : decode cX11_claim 3 = .ok (.iload_n 1, 1) := by decide +kernel
theorem dX11_claim_4 : decode cX11_claim 4 = .ok (.ifCond .eq 7, 3) := by decide +kernel
theorem dX11_claim_7 : decode cX11_claim 7 = .ok (.iconst 1, 1) := by decide +kernel
theorem dX11_claim_8 : decode cX11_claim 8 = .ok (.goto 4, 3) := by decide +kernel
theorem dX11_claim_11 : decode cX11_claim 11 = .ok (.iconst 0, 1) := by decide +kernel
theorem dX11_claim_12 : decode cX11_claim 12 = .ok (.iadd, 1) := by decide +kernel
theorem dX11_claim_13 : decode cX11_claim 13 = .ok (.ireturn, 1) := by decide +kernel
theorem dX11_thingOf_0 : decode cX11_thingOf 0 = .ok (.iload_n 0, 1) := by decide +kernel
theorem dX11_thingOf_1 : decode cX11_thingOf 1 = .ok (.iconst (-1), 1) := by decide +kernel
