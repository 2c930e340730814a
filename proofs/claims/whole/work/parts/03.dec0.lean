theorem dX0_init_0 : decode cX0_init 0 = .ok (.aload_n 0, 1) := by decide +kernel
theorem dX0_init_1 : decode cX0_init 1 = .ok (.invokespecial 1, 3) := by decide +kernel
theorem dX0_init_4 : decode cX0_init 4 = .ok (.return_, 1) := by decide +kernel
theorem dX0_below_0 : decode cX0_below 0 = .ok (.aload_n 0, 1) := by decide +kernel
theorem dX0_below_1 : decode cX0_below 1 = .ok (.aload_n 0, 1) := by decide +kernel
theorem dX0_below_2 : decode cX0_below 2 = .ok (.getfield 7, 3) := by decide +kernel
theorem dX0_below_5 : decode cX0_below 5 = .ok (.ldc2_w 13, 3) := by decide +kernel
theorem dX0_below_8 : decode cX0_below 8 = .ok (.lmul, 1) := by decide +kernel
theorem dX0_below_9 : decode cX0_below 9 = .ok (.ldc2_w 15, 3) := by decide +kernel
theorem dX0_below_12 : decode cX0_below 12 = .ok (.ladd, 1) := by decide +kernel
theorem dX0_below_13 : decode cX0_below 13 = .ok (.ldc2_w 17, 3) := by decide +kernel
theorem dX0_below_16 : decode cX0_below 16 = .ok (.lrem, 1) := by decide +kernel
theorem dX0_below_17 : decode cX0_below 17 = .ok (.putfield 7, 3) := by decide +kernel
theorem dX0_below_20 : decode cX0_below 20 = .ok (.iload_n 1, 1) := by decide +kernel
theorem dX0_below_21 : decode cX0_below 21 = .ok (.ifCond .le 18, 3) := by decide +kernel
theorem dX0_below_24 : decode cX0_below 24 = .ok (.aload_n 0, 1) := by decide +kernel
theorem dX0_below_25 : decode cX0_below 25 = .ok (.getfield 7, 3) := by decide +kernel
theorem dX0_below_28 : decode cX0_below 28 = .ok (.ldc2_w 19, 3) := by decide +kernel
theorem dX0_below_31 : decode cX0_below 31 = .ok (.ldiv, 1) := by decide +kernel
theorem dX0_below_32 : decode cX0_below 32 = .ok (.iload_n 1, 1) := by decide +kernel
theorem dX0_below_33 : decode cX0_below 33 = .ok (.i2l, 1) := by decide +kernel
theorem dX0_below_34 : decode cX0_below 34 = .ok (.lrem, 1) := by decide +kernel
theorem dX0_below_35 : decode cX0_below 35 = .ok (.l2i, 1) := by decide +kernel
theorem dX0_below_36 : decode cX0_below 36 = .ok (.goto 4, 3) := by decide +kernel
theorem dX0_below_39 : decode cX0_below 39 = .ok (.iconst 0, 1) := by decide +kernel
theorem dX0_below_40 : decode cX0_below 40 = .ok (.ireturn, 1) := by decide +kernel
theorem dX1_init_0 : decode cX1_init 0 = .ok (.aload_n 0, 1) := by decide +kernel
theorem dX1_init_1 : decode cX1_init 1 = .ok (.invokespecial 3, 3) := by decide +kernel
theorem dX1_init_4 : decode cX1_init 4 = .ok (.aload_n 0, 1) := by decide +kernel
theorem dX1_init_5 : decode cX1_init 5 = .ok (.bipush 40, 2) := by decide +kernel
theorem dX1_init_7 : decode cX1_init 7 = .ok (.newarray .int, 2) := by decide +kernel
theorem dX1_init_9 : decode cX1_init 9 = .ok (.putfield 9, 3) := by decide +kernel
theorem dX1_init_12 : decode cX1_init 12 = .ok (.aload_n 0, 1) := by decide +kernel
theorem dX1_init_13 : decode cX1_init 13 = .ok (.bipush 40, 2) := by decide +kernel
theorem dX1_init_15 : decode cX1_init 15 = .ok (.newarray .int, 2) := by decide +kernel
theorem dX1_init_17 : decode cX1_init 17 = .ok (.putfield 15, 3) := by decide +kernel
theorem dX1_init_20 : decode cX1_init 20 = .ok (.aload_n 0, 1) := by decide +kernel
theorem dX1_init_21 : decode cX1_init 21 = .ok (.bipush 40, 2) := by decide +kernel
theorem dX1_init_23 : decode cX1_init 23 = .ok (.newarray .int, 2) := by decide +kernel
theorem dX1_init_25 : decode cX1_init 25 = .ok (.putfield 18, 3) := by decide +kernel
theorem dX1_init_28 : decode cX1_init 28 = .ok (.return_, 1) := by decide +kernel
theorem dX1_add_0 : decode cX1_add 0 = .ok (.aload_n 0, 1) := by decide +kernel
theorem dX1_add_1 : decode cX1_add 1 = .ok (.getfield 21, 3) := by decide +kernel
theorem dX1_add_4 : decode cX1_add 4 = .ok (.bipush 40, 2) := by decide +kernel
theorem dX1_add_6 : decode cX1_add 6 = .ok (.if_icmp .ge 49, 3) := by decide +kernel
theorem dX1_add_9 : decode cX1_add 9 = .ok (.aload_n 0, 1) := by decide +kernel
theorem dX1_add_10 : decode cX1_add 10 = .ok (.getfield 9, 3) := by decide +kernel
theorem dX1_add_13 : decode cX1_add 13 = .ok (.aload_n 0, 1) := by decide +kernel
theorem dX1_add_14 : decode cX1_add 14 = .ok (.getfield 21, 3) := by decide +kernel
theorem dX1_add_17 : decode cX1_add 17 = .ok (.iload_n 1, 1) := by decide +kernel
theorem dX1_add_18 : decode cX1_add 18 = .ok (.invokestatic 25, 3) := by decide +kernel
theorem dX1_add_21 : decode cX1_add 21 = .ok (.aload_n 0, 1) := by decide +kernel
theorem dX1_add_22 : decode cX1_add 22 = .ok (.getfield 15, 3) := by decide +kernel
theorem dX1_add_25 : decode cX1_add 25 = .ok (.aload_n 0, 1) := by decide +kernel
theorem dX1_add_26 : decode cX1_add 26 = .ok (.getfield 21, 3) := by decide +kernel
theorem dX1_add_29 : decode cX1_add 29 = .ok (.iload_n 2, 1) := by decide +kernel
theorem dX1_add_30 : decode cX1_add 30 = .ok (.invokestatic 25, 3) := by decide +kernel
theorem dX1_add_33 : decode cX1_add 33 = .ok (.aload_n 0, 1) := by decide +kernel
theorem dX1_add_34 : decode cX1_add 34 = .ok (.getfield 18, 3) := by decide +kernel
theorem dX1_add_37 : decode cX1_add 37 = .ok (.aload_n 0, 1) := by decide +kernel
theorem dX1_add_38 : decode cX1_add 38 = .ok (.getfield 21, 3) := by decide +kernel
theorem dX1_add_41 : decode cX1_add 41 = .ok (.iload_n 3, 1) := by decide +kernel
theorem dX1_add_42 : decode cX1_add 42 = .ok (.invokestatic 25, 3) := by decide +kernel
theorem dX1_add_45 : decode cX1_add 45 = .ok (.aload_n 0, 1) := by decide +kernel
theorem dX1_add_46 : decode cX1_add 46 = .ok (.dup, 1) := by decide +kernel
theorem dX1_add_47 : decode cX1_add 47 = .ok (.getfield 21, 3) := by decide +kernel
theorem dX1_add_50 : decode cX1_add 50 = .ok (.iconst 1, 1) := by decide +kernel
theorem dX1_add_51 : decode cX1_add 51 = .ok (.iadd, 1) := by decide +kernel
theorem dX1_add_52 : decode cX1_add 52 = .ok (.putfield 21, 3) := by decide +kernel
theorem dX1_add_55 : decode cX1_add 55 = .ok (.return_, 1) := by decide +kernel
theorem dX2_init_0 : decode cX2_init 0 = .ok (.aload_n 0, 1) := by decide +kernel
theorem dX2_init_1 : decode cX2_init 1 = .ok (.invokespecial 3, 3) := by decide +kernel
theorem dX2_init_4 : decode cX2_init 4 = .ok (.aload_n 0, 1) := by decide +kernel
theorem dX2_init_5 : decode cX2_init 5 = .ok (.bipush 8, 2) := by decide +kernel
theorem dX2_init_7 : decode cX2_init 7 = .ok (.putfield 9, 3) := by decide +kernel
theorem dX2_init_10 : decode cX2_init 10 = .ok (.aload_n 0, 1) := by decide +kernel
theorem dX2_init_11 : decode cX2_init 11 = .ok (.bipush 6, 2) := by decide +kernel
theorem dX2_init_13 : decode cX2_init 13 = .ok (.newarray .long, 2) := by decide +kernel
theorem dX2_init_15 : decode cX2_init 15 = .ok (.putfield 15, 3) := by decide +kernel
theorem dX2_init_18 : decode cX2_init 18 = .ok (.aload_n 0, 1) := by decide +kernel
theorem dX2_init_19 : decode cX2_init 19 = .ok (.bipush 6, 2) := by decide +kernel
theorem dX2_init_21 : decode cX2_init 21 = .ok (.newarray .long, 2) := by decide +kernel
theorem dX2_init_23 : decode cX2_init 23 = .ok (.putfield 19, 3) := by decide +kernel
theorem dX2_init_26 : decode cX2_init 26 = .ok (.aload_n 0, 1) := by decide +kernel
theorem dX2_init_27 : decode cX2_init 27 = .ok (.bipush 8, 2) := by decide +kernel
theorem dX2_init_29 : decode cX2_init 29 = .ok (.newarray .int, 2) := by decide +kernel
theorem dX2_init_31 : decode cX2_init 31 = .ok (.putfield 22, 3) := by decide +kernel
theorem dX2_init_34 : decode cX2_init 34 = .ok (.aload_n 0, 1) := by decide +kernel
theorem dX2_init_35 : decode cX2_init 35 = .ok (.bipush 8, 2) := by decide +kernel
theorem dX2_init_37 : decode cX2_init 37 = .ok (.newarray .int, 2) := by decide +kernel
theorem dX2_init_39 : decode cX2_init 39 = .ok (.putfield 26, 3) := by decide +kernel
theorem dX2_init_42 : decode cX2_init 42 = .ok (.aload_n 0, 1) := by decide +kernel
theorem dX2_init_43 : decode cX2_init 43 = .ok (.bipush 6, 2) := by decide +kernel
theorem dX2_init_45 : decode cX2_init 45 = .ok (.newarray .int, 2) := by decide +kernel
theorem dX2_init_47 : decode cX2_init 47 = .ok (.putfield 29, 3) := by decide +kernel
theorem dX2_init_50 : decode cX2_init 50 = .ok (.aload_n 0, 1) := by decide +kernel
theorem dX2_init_51 : decode cX2_init 51 = .ok (.bipush 6, 2) := by decide +kernel
theorem dX2_init_53 : decode cX2_init 53 = .ok (.newarray .int, 2) := by decide +kernel
theorem dX2_init_55 : decode cX2_init 55 = .ok (.putfield 32, 3) := by decide +kernel
theorem dX2_init_58 : decode cX2_init 58 = .ok (.aload_n 0, 1) := by decide +kernel
theorem dX2_init_59 : decode cX2_init 59 = .ok (.bipush 6, 2) := by decide +kernel
theorem dX2_init_61 : decode cX2_init 61 = .ok (.newarray .int, 2) := by decide +kernel
theorem dX2_init_63 : decode cX2_init 63 = .ok (.putfield 35, 3) := by decide +kernel
theorem dX2_init_66 : decode cX2_init 66 = .ok (.aload_n 0, 1) := by decide +kernel
theorem dX2_init_67 : decode cX2_init 67 = .ok (.sipush 192, 3) := by decide +kernel
theorem dX2_init_70 : decode cX2_init 70 = .ok (.newarray .int, 2) := by decide +kernel
theorem dX2_init_72 : decode cX2_init 72 = .ok (.putfield 38, 3) := by decide +kernel
theorem dX2_init_75 : decode cX2_init 75 = .ok (.return_, 1) := by decide +kernel
theorem dX2_clear_0 : decode cX2_clear 0 = .ok (.aload_n 0, 1) := by decide +kernel
theorem dX2_clear_1 : decode cX2_clear 1 = .ok (.iconst 0, 1) := by decide +kernel
theorem dX2_clear_2 : decode cX2_clear 2 = .ok (.putfield 41, 3) := by decide +kernel
theorem dX2_clear_5 : decode cX2_clear 5 = .ok (.aload_n 0, 1) := by decide +kernel
theorem dX2_clear_6 : decode cX2_clear 6 = .ok (.iconst 0, 1) := by decide +kernel
theorem dX2_clear_7 : decode cX2_clear 7 = .ok (.putfield 44, 3) := by decide +kernel
theorem dX2_clear_10 : decode cX2_clear 10 = .ok (.aload_n 0, 1) := by decide +kernel
theorem dX2_clear_11 : decode cX2_clear 11 = .ok (.iconst 0, 1) := by decide +kernel
theorem dX2_clear_12 : decode cX2_clear 12 = .ok (.putfield 47, 3) := by decide +kernel
theorem dX2_clear_15 : decode cX2_clear 15 = .ok (.aload_n 0, 1) := by decide +kernel
theorem dX2_clear_16 : decode cX2_clear 16 = .ok (.bipush 8, 2) := by decide +kernel
theorem dX2_clear_18 : decode cX2_clear 18 = .ok (.putfield 9, 3) := by decide +kernel
theorem dX2_clear_21 : decode cX2_clear 21 = .ok (.return_, 1) := by decide +kernel
theorem dX2_addThing_0 : decode cX2_addThing 0 = .ok (.aload_n 0, 1) := by decide +kernel
theorem dX2_addThing_1 : decode cX2_addThing 1 = .ok (.getfield 41, 3) := by decide +kernel
theorem dX2_addThing_4 : decode cX2_addThing 4 = .ok (.aload_n 0, 1) := by decide +kernel
theorem dX2_addThing_5 : decode cX2_addThing 5 = .ok (.getfield 15, 3) := by decide +kernel
theorem dX2_addThing_8 : decode cX2_addThing 8 = .ok (.arraylength, 1) := by decide +kernel
theorem dX2_addThing_9 : decode cX2_addThing 9 = .ok (.if_icmp .ge 23, 3) := by decide +kernel
theorem dX2_addThing_12 : decode cX2_addThing 12 = .ok (.aload_n 0, 1) := by decide +kernel
theorem dX2_addThing_13 : decode cX2_addThing 13 = .ok (.getfield 15, 3) := by decide +kernel
theorem dX2_addThing_16 : decode cX2_addThing 16 = .ok (.aload_n 0, 1) := by decide +kernel
theorem dX2_addThing_17 : decode cX2_addThing 17 = .ok (.getfield 41, 3) := by decide +kernel
theorem dX2_addThing_20 : decode cX2_addThing 20 = .ok (.lload_n 1, 1) := by decide +kernel
theorem dX2_addThing_21 : decode cX2_addThing 21 = .ok (.lastore, 1) := by decide +kernel
theorem dX2_addThing_22 : decode cX2_addThing 22 = .ok (.aload_n 0, 1) := by decide +kernel
theorem dX2_addThing_23 : decode cX2_addThing 23 = .ok (.dup, 1) := by decide +kernel
theorem dX2_addThing_24 : decode cX2_addThing 24 = .ok (.getfield 41, 3) := by decide +kernel
theorem dX2_addThing_27 : decode cX2_addThing 27 = .ok (.iconst 1, 1) := by decide +kernel
theorem dX2_addThing_28 : decode cX2_addThing 28 = .ok (.iadd, 1) := by decide +kernel
theorem dX2_addThing_29 : decode cX2_addThing 29 = .ok (.putfield 41, 3) := by decide +kernel
theorem dX2_addThing_32 : decode cX2_addThing 32 = .ok (.return_, 1) := by decide +kernel
theorem dX2_addScene_0 : decode cX2_addScene 0 = .ok (.aload_n 0, 1) := by decide +kernel
theorem dX2_addScene_1 : decode cX2_addScene 1 = .ok (.getfield 44, 3) := by decide +kernel
theorem dX2_addScene_4 : decode cX2_addScene 4 = .ok (.bipush 8, 2) := by decide +kernel
theorem dX2_addScene_6 : decode cX2_addScene 6 = .ok (.if_icmp .ge 37, 3) := by decide +kernel
theorem dX2_addScene_9 : decode cX2_addScene 9 = .ok (.aload_n 0, 1) := by decide +kernel
theorem dX2_addScene_10 : decode cX2_addScene 10 = .ok (.getfield 22, 3) := by decide +kernel
theorem dX2_addScene_13 : decode cX2_addScene 13 = .ok (.aload_n 0, 1) := by decide +kernel
theorem dX2_addScene_14 : decode cX2_addScene 14 = .ok (.getfield 44, 3) := by decide +kernel
theorem dX2_addScene_17 : decode cX2_addScene 17 = .ok (.iload_n 1, 1) := by decide +kernel
theorem dX2_addScene_18 : decode cX2_addScene 18 = .ok (.invokestatic 50, 3) := by decide +kernel
theorem dX2_addScene_21 : decode cX2_addScene 21 = .ok (.aload_n 0, 1) := by decide +kernel
theorem dX2_addScene_22 : decode cX2_addScene 22 = .ok (.getfield 26, 3) := by decide +kernel
theorem dX2_addScene_25 : decode cX2_addScene 25 = .ok (.aload_n 0, 1) := by decide +kernel
theorem dX2_addScene_26 : decode cX2_addScene 26 = .ok (.getfield 44, 3) := by decide +kernel
theorem dX2_addScene_29 : decode cX2_addScene 29 = .ok (.iload_n 2, 1) := by decide +kernel
theorem dX2_addScene_30 : decode cX2_addScene 30 = .ok (.invokestatic 50, 3) := by decide +kernel
theorem dX2_addScene_33 : decode cX2_addScene 33 = .ok (.aload_n 0, 1) := by decide +kernel
theorem dX2_addScene_34 : decode cX2_addScene 34 = .ok (.dup, 1) := by decide +kernel
theorem dX2_addScene_35 : decode cX2_addScene 35 = .ok (.getfield 44, 3) := by decide +kernel
theorem dX2_addScene_38 : decode cX2_addScene 38 = .ok (.iconst 1, 1) := by decide +kernel
theorem dX2_addScene_39 : decode cX2_addScene 39 = .ok (.iadd, 1) := by decide +kernel
theorem dX2_addScene_40 : decode cX2_addScene 40 = .ok (.putfield 44, 3) := by decide +kernel
theorem dX2_addScene_43 : decode cX2_addScene 43 = .ok (.return_, 1) := by decide +kernel
theorem dX2_addWatcher_0 : decode cX2_addWatcher 0 = .ok (.aload_n 0, 1) := by decide +kernel
theorem dX2_addWatcher_1 : decode cX2_addWatcher 1 = .ok (.getfield 47, 3) := by decide +kernel
theorem dX2_addWatcher_4 : decode cX2_addWatcher 4 = .ok (.aload_n 0, 1) := by decide +kernel
theorem dX2_addWatcher_5 : decode cX2_addWatcher 5 = .ok (.getfield 19, 3) := by decide +kernel
theorem dX2_addWatcher_8 : decode cX2_addWatcher 8 = .ok (.arraylength, 1) := by decide +kernel
theorem dX2_addWatcher_9 : decode cX2_addWatcher 9 = .ok (.if_icmp .ge 61, 3) := by decide +kernel
theorem dX2_addWatcher_12 : decode cX2_addWatcher 12 = .ok (.aload_n 0, 1) := by decide +kernel
theorem dX2_addWatcher_13 : decode cX2_addWatcher 13 = .ok (.getfield 19, 3) := by decide +kernel
theorem dX2_addWatcher_16 : decode cX2_addWatcher 16 = .ok (.aload_n 0, 1) := by decide +kernel
theorem dX2_addWatcher_17 : decode cX2_addWatcher 17 = .ok (.getfield 47, 3) := by decide +kernel
theorem dX2_addWatcher_20 : decode cX2_addWatcher 20 = .ok (.lload_n 1, 1) := by decide +kernel
theorem dX2_addWatcher_21 : decode cX2_addWatcher 21 = .ok (.lastore, 1) := by decide +kernel
theorem dX2_addWatcher_22 : decode cX2_addWatcher 22 = .ok (.aload_n 0, 1) := by decide +kernel
theorem dX2_addWatcher_23 : decode cX2_addWatcher 23 = .ok (.getfield 29, 3) := by decide +kernel
theorem dX2_addWatcher_26 : decode cX2_addWatcher 26 = .ok (.aload_n 0, 1) := by decide +kernel
theorem dX2_addWatcher_27 : decode cX2_addWatcher 27 = .ok (.getfield 47, 3) := by decide +kernel
theorem dX2_addWatcher_30 : decode cX2_addWatcher 30 = .ok (.iload_n 3, 1) := by decide +kernel
theorem dX2_addWatcher_31 : decode cX2_addWatcher 31 = .ok (.invokestatic 50, 3) := by decide +kernel
theorem dX2_addWatcher_34 : decode cX2_addWatcher 34 = .ok (.aload_n 0, 1) := by decide +kernel
theorem dX2_addWatcher_35 : decode cX2_addWatcher 35 = .ok (.getfield 32, 3) := by decide +kernel
theorem dX2_addWatcher_38 : decode cX2_addWatcher 38 = .ok (.aload_n 0, 1) := by decide +kernel
theorem dX2_addWatcher_39 : decode cX2_addWatcher 39 = .ok (.getfield 47, 3) := by decide +kernel
theorem dX2_addWatcher_42 : decode cX2_addWatcher 42 = .ok (.iload 4, 2) := by decide +kernel
theorem dX2_addWatcher_44 : decode cX2_addWatcher 44 = .ok (.invokestatic 50, 3) := by decide +kernel
theorem dX2_addWatcher_47 : decode cX2_addWatcher 47 = .ok (.aload_n 0, 1) := by decide +kernel
theorem dX2_addWatcher_48 : decode cX2_addWatcher 48 = .ok (.getfield 35, 3) := by decide +kernel
theorem dX2_addWatcher_51 : decode cX2_addWatcher 51 = .ok (.aload_n 0, 1) := by decide +kernel
theorem dX2_addWatcher_52 : decode cX2_addWatcher 52 = .ok (.getfield 47, 3) := by decide +kernel
theorem dX2_addWatcher_55 : decode cX2_addWatcher 55 = .ok (.iload 5, 2) := by decide +kernel
theorem dX2_addWatcher_57 : decode cX2_addWatcher 57 = .ok (.invokestatic 50, 3) := by decide +kernel
theorem dX2_addWatcher_60 : decode cX2_addWatcher 60 = .ok (.aload_n 0, 1) := by decide +kernel
theorem dX2_addWatcher_61 : decode cX2_addWatcher 61 = .ok (.dup, 1) := by decide +kernel
theorem dX2_addWatcher_62 : decode cX2_addWatcher 62 = .ok (.getfield 47, 3) := by decide +kernel
theorem dX2_addWatcher_65 : decode cX2_addWatcher 65 = .ok (.iconst 1, 1) := by decide +kernel
theorem dX2_addWatcher_66 : decode cX2_addWatcher 66 = .ok (.iadd, 1) := by decide +kernel
theorem dX2_addWatcher_67 : decode cX2_addWatcher 67 = .ok (.putfield 47, 3) := by decide +kernel
theorem dX2_addWatcher_70 : decode cX2_addWatcher 70 = .ok (.return_, 1) := by decide +kernel
theorem dX2_setDoubts_0 : decode cX2_setDoubts 0 = .ok (.iconst 0, 1) := by decide +kernel
theorem dX2_setDoubts_1 : decode cX2_setDoubts 1 = .ok (.istore_n 2, 1) := by decide +kernel
theorem dX2_setDoubts_2 : decode cX2_setDoubts 2 = .ok (.iload_n 2, 1) := by decide +kernel
theorem dX2_setDoubts_3 : decode cX2_setDoubts 3 = .ok (.aload_n 0, 1) := by decide +kernel
theorem dX2_setDoubts_4 : decode cX2_setDoubts 4 = .ok (.getfield 47, 3) := by decide +kernel
theorem dX2_setDoubts_7 : decode cX2_setDoubts 7 = .ok (.if_icmp .ge 118, 3) := by decide +kernel
theorem dX2_setDoubts_10 : decode cX2_setDoubts 10 = .ok (.iconst 0, 1) := by decide +kernel
theorem dX2_setDoubts_11 : decode cX2_setDoubts 11 = .ok (.istore_n 3, 1) := by decide +kernel
theorem dX2_setDoubts_12 : decode cX2_setDoubts 12 = .ok (.iload_n 3, 1) := by decide +kernel
theorem dX2_setDoubts_13 : decode cX2_setDoubts 13 = .ok (.aload_n 0, 1) := by decide +kernel
theorem dX2_setDoubts_14 : decode cX2_setDoubts 14 = .ok (.getfield 44, 3) := by decide +kernel
theorem dX2_setDoubts_17 : decode cX2_setDoubts 17 = .ok (.if_icmp .ge 102, 3) := by decide +kernel
theorem dX2_setDoubts_20 : decode cX2_setDoubts 20 = .ok (.iconst 0, 1) := by decide +kernel
theorem dX2_setDoubts_21 : decode cX2_setDoubts 21 = .ok (.istore 4, 2) := by decide +kernel
theorem dX2_setDoubts_23 : decode cX2_setDoubts 23 = .ok (.iload 4, 2) := by decide +kernel
theorem dX2_setDoubts_25 : decode cX2_setDoubts 25 = .ok (.iconst 4, 1) := by decide +kernel
theorem dX2_setDoubts_26 : decode cX2_setDoubts 26 = .ok (.if_icmp .ge 87, 3) := by decide +kernel
theorem dX2_setDoubts_29 : decode cX2_setDoubts 29 = .ok (.aload_n 1, 1) := by decide +kernel
theorem dX2_setDoubts_30 : decode cX2_setDoubts 30 = .ok (.ifnonnull 19, 3) := by decide +kernel
theorem dX2_setDoubts_33 : decode cX2_setDoubts 33 = .ok (.aload_n 0, 1) := by decide +kernel
theorem dX2_setDoubts_34 : decode cX2_setDoubts 34 = .ok (.iload_n 2, 1) := by decide +kernel
theorem dX2_setDoubts_35 : decode cX2_setDoubts 35 = .ok (.iload 4, 2) := by decide +kernel
theorem dX2_setDoubts_37 : decode cX2_setDoubts 37 = .ok (.iconst 1, 1) := by decide +kernel
theorem dX2_setDoubts_38 : decode cX2_setDoubts 38 = .ok (.ishr, 1) := by decide +kernel
theorem dX2_setDoubts_39 : decode cX2_setDoubts 39 = .ok (.iload 4, 2) := by decide +kernel
theorem dX2_setDoubts_41 : decode cX2_setDoubts 41 = .ok (.iconst 1, 1) := by decide +kernel
theorem dX2_setDoubts_42 : decode cX2_setDoubts 42 = .ok (.iand, 1) := by decide +kernel
theorem dX2_setDoubts_43 : decode cX2_setDoubts 43 = .ok (.invokevirtual 56, 3) := by decide +kernel
theorem dX2_setDoubts_46 : decode cX2_setDoubts 46 = .ok (.goto 24, 3) := by decide +kernel
theorem dX2_setDoubts_49 : decode cX2_setDoubts 49 = .ok (.aload_n 1, 1) := by decide +kernel
theorem dX2_setDoubts_50 : decode cX2_setDoubts 50 = .ok (.iload 4, 2) := by decide +kernel
theorem dX2_setDoubts_52 : decode cX2_setDoubts 52 = .ok (.iconst 1, 1) := by decide +kernel
theorem dX2_setDoubts_53 : decode cX2_setDoubts 53 = .ok (.ishr, 1) := by decide +kernel
theorem dX2_setDoubts_54 : decode cX2_setDoubts 54 = .ok (.aload_n 0, 1) := by decide +kernel
theorem dX2_setDoubts_55 : decode cX2_setDoubts 55 = .ok (.getfield 32, 3) := by decide +kernel
theorem dX2_setDoubts_58 : decode cX2_setDoubts 58 = .ok (.iload_n 2, 1) := by decide +kernel
theorem dX2_setDoubts_59 : decode cX2_setDoubts 59 = .ok (.invokestatic 60, 3) := by decide +kernel
theorem dX2_setDoubts_62 : decode cX2_setDoubts 62 = .ok (.iload 4, 2) := by decide +kernel
theorem dX2_setDoubts_64 : decode cX2_setDoubts 64 = .ok (.iconst 1, 1) := by decide +kernel
theorem dX2_setDoubts_65 : decode cX2_setDoubts 65 = .ok (.iand, 1) := by decide +kernel
theorem dX2_setDoubts_66 : decode cX2_setDoubts 66 = .ok (.iload_n 3, 1) := by decide +kernel
theorem dX2_setDoubts_67 : decode cX2_setDoubts 67 = .ok (.invokevirtual 64, 3) := by decide +kernel
theorem dX2_setDoubts_70 : decode cX2_setDoubts 70 = .ok (.istore 5, 2) := by decide +kernel
theorem dX2_setDoubts_72 : decode cX2_setDoubts 72 = .ok (.iload_n 2, 1) := by decide +kernel
theorem dX2_setDoubts_73 : decode cX2_setDoubts 73 = .ok (.iload_n 3, 1) := by decide +kernel
theorem dX2_setDoubts_74 : decode cX2_setDoubts 74 = .ok (.iload 4, 2) := by decide +kernel
theorem dX2_setDoubts_76 : decode cX2_setDoubts 76 = .ok (.iconst 1, 1) := by decide +kernel
theorem dX2_setDoubts_77 : decode cX2_setDoubts 77 = .ok (.ishr, 1) := by decide +kernel
theorem dX2_setDoubts_78 : decode cX2_setDoubts 78 = .ok (.iload 4, 2) := by decide +kernel
theorem dX2_setDoubts_80 : decode cX2_setDoubts 80 = .ok (.iconst 1, 1) := by decide +kernel
theorem dX2_setDoubts_81 : decode cX2_setDoubts 81 = .ok (.iand, 1) := by decide +kernel
theorem dX2_setDoubts_82 : decode cX2_setDoubts 82 = .ok (.invokestatic 70, 3) := by decide +kernel
theorem dX2_setDoubts_85 : decode cX2_setDoubts 85 = .ok (.istore 6, 2) := by decide +kernel
theorem dX2_setDoubts_87 : decode cX2_setDoubts 87 = .ok (.aload_n 0, 1) := by decide +kernel
theorem dX2_setDoubts_88 : decode cX2_setDoubts 88 = .ok (.getfield 38, 3) := by decide +kernel
theorem dX2_setDoubts_91 : decode cX2_setDoubts 91 = .ok (.iload 6, 2) := by decide +kernel
theorem dX2_setDoubts_93 : decode cX2_setDoubts 93 = .ok (.iconst 0, 1) := by decide +kernel
theorem dX2_setDoubts_94 : decode cX2_setDoubts 94 = .ok (.bipush 9, 2) := by decide +kernel
theorem dX2_setDoubts_96 : decode cX2_setDoubts 96 = .ok (.iload 5, 2) := by decide +kernel
theorem dX2_setDoubts_98 : decode cX2_setDoubts 98 = .ok (.invokestatic 73, 3) := by decide +kernel
theorem dX2_setDoubts_101 : decode cX2_setDoubts 101 = .ok (.invokestatic 79, 3) := by decide +kernel
theorem dX2_setDoubts_104 : decode cX2_setDoubts 104 = .ok (.invokestatic 50, 3) := by decide +kernel
theorem dX2_setDoubts_107 : decode cX2_setDoubts 107 = .ok (.iinc 4 1, 3) := by decide +kernel
theorem dX2_setDoubts_110 : decode cX2_setDoubts 110 = .ok (.goto (-87), 3) := by decide +kernel
theorem dX2_setDoubts_113 : decode cX2_setDoubts 113 = .ok (.iinc 3 1, 3) := by decide +kernel
theorem dX2_setDoubts_116 : decode cX2_setDoubts 116 = .ok (.goto (-104), 3) := by decide +kernel
theorem dX2_setDoubts_119 : decode cX2_setDoubts 119 = .ok (.iinc 2 1, 3) := by decide +kernel
theorem dX2_setDoubts_122 : decode cX2_setDoubts 122 = .ok (.goto (-120), 3) := by decide +kernel
theorem dX2_setDoubts_125 : decode cX2_setDoubts 125 = .ok (.return_, 1) := by decide +kernel
theorem dX2_plainDoubt_0 : decode cX2_plainDoubt 0 = .ok (.aload_n 0, 1) := by decide +kernel
theorem dX2_plainDoubt_1 : decode cX2_plainDoubt 1 = .ok (.getfield 29, 3) := by decide +kernel
theorem dX2_plainDoubt_4 : decode cX2_plainDoubt 4 = .ok (.iload_n 1, 1) := by decide +kernel
theorem dX2_plainDoubt_5 : decode cX2_plainDoubt 5 = .ok (.invokestatic 60, 3) := by decide +kernel
theorem dX2_plainDoubt_8 : decode cX2_plainDoubt 8 = .ok (.iconst 2, 1) := by decide +kernel
theorem dX2_plainDoubt_9 : decode cX2_plainDoubt 9 = .ok (.if_icmp .ne 11, 3) := by decide +kernel
theorem dX2_plainDoubt_12 : decode cX2_plainDoubt 12 = .ok (.iconst 2, 1) := by decide +kernel
theorem dX2_plainDoubt_13 : decode cX2_plainDoubt 13 = .ok (.iload_n 2, 1) := by decide +kernel
theorem dX2_plainDoubt_14 : decode cX2_plainDoubt 14 = .ok (.imul, 1) := by decide +kernel
theorem dX2_plainDoubt_15 : decode cX2_plainDoubt 15 = .ok (.iload_n 3, 1) := by decide +kernel
theorem dX2_plainDoubt_16 : decode cX2_plainDoubt 16 = .ok (.iadd, 1) := by decide +kernel
theorem dX2_plainDoubt_17 : decode cX2_plainDoubt 17 = .ok (.goto 4, 3) := by decide +kernel
theorem dX2_plainDoubt_20 : decode cX2_plainDoubt 20 = .ok (.iload_n 3, 1) := by decide +kernel
theorem dX2_plainDoubt_21 : decode cX2_plainDoubt 21 = .ok (.ireturn, 1) := by decide +kernel
theorem dX2_doubtAt_0 : decode cX2_doubtAt 0 = .ok (.iload_n 0, 1) := by decide +kernel
theorem dX2_doubtAt_1 : decode cX2_doubtAt 1 = .ok (.bipush 8, 2) := by decide +kernel
theorem dX2_doubtAt_3 : decode cX2_doubtAt 3 = .ok (.imul, 1) := by decide +kernel
theorem dX2_doubtAt_4 : decode cX2_doubtAt 4 = .ok (.iload_n 1, 1) := by decide +kernel
theorem dX2_doubtAt_5 : decode cX2_doubtAt 5 = .ok (.iadd, 1) := by decide +kernel
theorem dX2_doubtAt_6 : decode cX2_doubtAt 6 = .ok (.iconst 4, 1) := by decide +kernel
theorem dX2_doubtAt_7 : decode cX2_doubtAt 7 = .ok (.imul, 1) := by decide +kernel
theorem dX2_doubtAt_8 : decode cX2_doubtAt 8 = .ok (.iconst 2, 1) := by decide +kernel
theorem dX2_doubtAt_9 : decode cX2_doubtAt 9 = .ok (.iload_n 2, 1) := by decide +kernel
theorem dX2_doubtAt_10 : decode cX2_doubtAt 10 = .ok (.imul, 1) := by decide +kernel
theorem dX2_doubtAt_11 : decode cX2_doubtAt 11 = .ok (.iadd, 1) := by decide +kernel
theorem dX2_doubtAt_12 : decode cX2_doubtAt 12 = .ok (.iload_n 3, 1) := by decide +kernel
theorem dX2_doubtAt_13 : decode cX2_doubtAt 13 = .ok (.iadd, 1) := by decide +kernel
theorem dX2_doubtAt_14 : decode cX2_doubtAt 14 = .ok (.ireturn, 1) := by decide +kernel
theorem dX2_thingNamed_0 : decode cX2_thingNamed 0 = .ok (.iconst 0, 1) := by decide +kernel
theorem dX2_thingNamed_1 : decode cX2_thingNamed 1 = .ok (.istore_n 3, 1) := by decide +kernel
theorem dX2_thingNamed_2 : decode cX2_thingNamed 2 = .ok (.iload_n 3, 1) := by decide +kernel
theorem dX2_thingNamed_3 : decode cX2_thingNamed 3 = .ok (.aload_n 0, 1) := by decide +kernel
theorem dX2_thingNamed_4 : decode cX2_thingNamed 4 = .ok (.getfield 41, 3) := by decide +kernel
theorem dX2_thingNamed_7 : decode cX2_thingNamed 7 = .ok (.if_icmp .ge 31, 3) := by decide +kernel
theorem dX2_thingNamed_10 : decode cX2_thingNamed 10 = .ok (.iload_n 3, 1) := by decide +kernel
theorem dX2_thingNamed_11 : decode cX2_thingNamed 11 = .ok (.aload_n 0, 1) := by decide +kernel
theorem dX2_thingNamed_12 : decode cX2_thingNamed 12 = .ok (.getfield 15, 3) := by decide +kernel
theorem dX2_thingNamed_15 : decode cX2_thingNamed 15 = .ok (.arraylength, 1) := by decide +kernel
theorem dX2_thingNamed_16 : decode cX2_thingNamed 16 = .ok (.if_icmp .ge 22, 3) := by decide +kernel
theorem dX2_thingNamed_19 : decode cX2_thingNamed 19 = .ok (.aload_n 0, 1) := by decide +kernel
theorem dX2_thingNamed_20 : decode cX2_thingNamed 20 = .ok (.getfield 15, 3) := by decide +kernel
theorem dX2_thingNamed_23 : decode cX2_thingNamed 23 = .ok (.iload_n 3, 1) := by decide +kernel
theorem dX2_thingNamed_24 : decode cX2_thingNamed 24 = .ok (.laload, 1) := by decide +kernel
theorem dX2_thingNamed_25 : decode cX2_thingNamed 25 = .ok (.lload_n 1, 1) := by decide +kernel
theorem dX2_thingNamed_26 : decode cX2_thingNamed 26 = .ok (.lcmp, 1) := by decide +kernel
theorem dX2_thingNamed_27 : decode cX2_thingNamed 27 = .ok (.ifCond .ne 5, 3) := by decide +kernel
theorem dX2_thingNamed_30 : decode cX2_thingNamed 30 = .ok (.iload_n 3, 1) := by decide +kernel
theorem dX2_thingNamed_31 : decode cX2_thingNamed 31 = .ok (.ireturn, 1) := by decide +kernel
theorem dX2_thingNamed_32 : decode cX2_thingNamed 32 = .ok (.iinc 3 1, 3) := by decide +kernel
theorem dX2_thingNamed_35 : decode cX2_thingNamed 35 = .ok (.goto (-33), 3) := by decide +kernel
theorem dX2_thingNamed_38 : decode cX2_thingNamed 38 = .ok (.iconst (-1), 1) := by decide +kernel
theorem dX2_thingNamed_39 : decode cX2_thingNamed 39 = .ok (.ireturn, 1) := by decide +kernel
theorem dX2_watcherNamed_0 : decode cX2_watcherNamed 0 = .ok (.iconst 0, 1) := by decide +kernel
theorem dX2_watcherNamed_1 : decode cX2_watcherNamed 1 = .ok (.istore_n 3, 1) := by decide +kernel
theorem dX2_watcherNamed_2 : decode cX2_watcherNamed 2 = .ok (.iload_n 3, 1) := by decide +kernel
theorem dX2_watcherNamed_3 : decode cX2_watcherNamed 3 = .ok (.aload_n 0, 1) := by decide +kernel
theorem dX2_watcherNamed_4 : decode cX2_watcherNamed 4 = .ok (.getfield 47, 3) := by decide +kernel
theorem dX2_watcherNamed_7 : decode cX2_watcherNamed 7 = .ok (.if_icmp .ge 31, 3) := by decide +kernel
theorem dX2_watcherNamed_10 : decode cX2_watcherNamed 10 = .ok (.iload_n 3, 1) := by decide +kernel
theorem dX2_watcherNamed_11 : decode cX2_watcherNamed 11 = .ok (.aload_n 0, 1) := by decide +kernel
theorem dX2_watcherNamed_12 : decode cX2_watcherNamed 12 = .ok (.getfield 19, 3) := by decide +kernel
theorem dX2_watcherNamed_15 : decode cX2_watcherNamed 15 = .ok (.arraylength, 1) := by decide +kernel
theorem dX2_watcherNamed_16 : decode cX2_watcherNamed 16 = .ok (.if_icmp .ge 22, 3) := by decide +kernel
theorem dX2_watcherNamed_19 : decode cX2_watcherNamed 19 = .ok (.aload_n 0, 1) := by decide +kernel
theorem dX2_watcherNamed_20 : decode cX2_watcherNamed 20 = .ok (.getfield 19, 3) := by decide +kernel
theorem dX2_watcherNamed_23 : decode cX2_watcherNamed 23 = .ok (.iload_n 3, 1) := by decide +kernel
theorem dX2_watcherNamed_24 : decode cX2_watcherNamed 24 = .ok (.laload, 1) := by decide +kernel
theorem dX2_watcherNamed_25 : decode cX2_watcherNamed 25 = .ok (.lload_n 1, 1) := by decide +kernel
theorem dX2_watcherNamed_26 : decode cX2_watcherNamed 26 = .ok (.lcmp, 1) := by decide +kernel
theorem dX2_watcherNamed_27 : decode cX2_watcherNamed 27 = .ok (.ifCond .ne 5, 3) := by decide +kernel
theorem dX2_watcherNamed_30 : decode cX2_watcherNamed 30 = .ok (.iload_n 3, 1) := by decide +kernel
theorem dX2_watcherNamed_31 : decode cX2_watcherNamed 31 = .ok (.ireturn, 1) := by decide +kernel
theorem dX2_watcherNamed_32 : decode cX2_watcherNamed 32 = .ok (.iinc 3 1, 3) := by decide +kernel
theorem dX2_watcherNamed_35 : decode cX2_watcherNamed 35 = .ok (.goto (-33), 3) := by decide +kernel
theorem dX2_watcherNamed_38 : decode cX2_watcherNamed 38 = .ok (.iconst (-1), 1) := by decide +kernel
theorem dX2_watcherNamed_39 : decode cX2_watcherNamed 39 = .ok (.ireturn, 1) := by decide +kernel
theorem dX2_hasThing_0 : decode cX2_hasThing 0 = .ok (.iload_n 1, 1) := by decide +kernel
theorem dX2_hasThing_1 : decode cX2_hasThing 1 = .ok (.ifCond .lt 15, 3) := by decide +kernel
theorem dX2_hasThing_4 : decode cX2_hasThing 4 = .ok (.iload_n 1, 1) := by decide +kernel
theorem dX2_hasThing_5 : decode cX2_hasThing 5 = .ok (.aload_n 0, 1) := by decide +kernel
theorem dX2_hasThing_6 : decode cX2_hasThing 6 = .ok (.getfield 41, 3) := by decide +kernel
theorem dX2_hasThing_9 : decode cX2_hasThing 9 = .ok (.if_icmp .ge 7, 3) := by decide +kernel
theorem dX2_hasThing_12 : decode cX2_hasThing 12 = .ok (.iconst 1, 1) := by decide +kernel
theorem dX2_hasThing_13 : decode cX2_hasThing 13 = .ok (.goto 4, 3) := by decide +kernel
theorem dX2_hasThing_16 : decode cX2_hasThing 16 = .ok (.iconst 0, 1) := by decide +kernel
theorem dX2_hasThing_17 : decode cX2_hasThing 17 = .ok (.ireturn, 1) := by decide +kernel
theorem dX2_hasScene_0 : decode cX2_hasScene 0 = .ok (.iload_n 1, 1) := by decide +kernel
theorem dX2_hasScene_1 : decode cX2_hasScene 1 = .ok (.ifCond .lt 15, 3) := by decide +kernel
theorem dX2_hasScene_4 : decode cX2_hasScene 4 = .ok (.iload_n 1, 1) := by decide +kernel
theorem dX2_hasScene_5 : decode cX2_hasScene 5 = .ok (.aload_n 0, 1) := by decide +kernel
theorem dX2_hasScene_6 : decode cX2_hasScene 6 = .ok (.getfield 44, 3) := by decide +kernel
theorem dX2_hasScene_9 : decode cX2_hasScene 9 = .ok (.if_icmp .ge 7, 3) := by decide +kernel
theorem dX2_hasScene_12 : decode cX2_hasScene 12 = .ok (.iconst 1, 1) := by decide +kernel
theorem dX2_hasScene_13 : decode cX2_hasScene 13 = .ok (.goto 4, 3) := by decide +kernel
theorem dX2_hasScene_16 : decode cX2_hasScene 16 = .ok (.iconst 0, 1) := by decide +kernel
theorem dX2_hasScene_17 : decode cX2_hasScene 17 = .ok (.ireturn, 1) := by decide +kernel
theorem dX2_hasWatcher_0 : decode cX2_hasWatcher 0 = .ok (.iload_n 1, 1) := by decide +kernel
theorem dX2_hasWatcher_1 : decode cX2_hasWatcher 1 = .ok (.ifCond .lt 15, 3) := by decide +kernel
theorem dX2_hasWatcher_4 : decode cX2_hasWatcher 4 = .ok (.iload_n 1, 1) := by decide +kernel
theorem dX2_hasWatcher_5 : decode cX2_hasWatcher 5 = .ok (.aload_n 0, 1) := by decide +kernel
theorem dX2_hasWatcher_6 : decode cX2_hasWatcher 6 = .ok (.getfield 47, 3) := by decide +kernel
theorem dX2_hasWatcher_9 : decode cX2_hasWatcher 9 = .ok (.if_icmp .ge 7, 3) := by decide +kernel
theorem dX2_hasWatcher_12 : decode cX2_hasWatcher 12 = .ok (.iconst 1, 1) := by decide +kernel
theorem dX2_hasWatcher_13 : decode cX2_hasWatcher 13 = .ok (.goto 4, 3) := by decide +kernel
theorem dX2_hasWatcher_16 : decode cX2_hasWatcher 16 = .ok (.iconst 0, 1) := by decide +kernel
theorem dX2_hasWatcher_17 : decode cX2_hasWatcher 17 = .ok (.ireturn, 1) := by decide +kernel
theorem dX2_hasView_0 : decode cX2_hasView 0 = .ok (.aload_n 0, 1) := by decide +kernel
theorem dX2_hasView_1 : decode cX2_hasView 1 = .ok (.iload_n 1, 1) := by decide +kernel
theorem dX2_hasView_2 : decode cX2_hasView 2 = .ok (.invokevirtual 82, 3) := by decide +kernel
theorem dX2_hasView_5 : decode cX2_hasView 5 = .ok (.ifCond .eq 15, 3) := by decide +kernel
theorem dX2_hasView_8 : decode cX2_hasView 8 = .ok (.aload_n 0, 1) := by decide +kernel
theorem dX2_hasView_9 : decode cX2_hasView 9 = .ok (.iload_n 2, 1) := by decide +kernel
theorem dX2_hasView_10 : decode cX2_hasView 10 = .ok (.invokevirtual 86, 3) := by decide +kernel
theorem dX2_hasView_13 : decode cX2_hasView 13 = .ok (.ifCond .eq 7, 3) := by decide +kernel
theorem dX2_hasView_16 : decode cX2_hasView 16 = .ok (.iconst 1, 1) := by decide +kernel
theorem dX2_hasView_17 : decode cX2_hasView 17 = .ok (.goto 4, 3) := by decide +kernel
theorem dX2_hasView_20 : decode cX2_hasView 20 = .ok (.iconst 0, 1) := by decide +kernel
theorem dX2_hasView_21 : decode cX2_hasView 21 = .ok (.ireturn, 1) := by decide +kernel
theorem dX2_allScenes_0 : decode cX2_allScenes 0 = .ok (.iconst 1, 1) := by decide +kernel
theorem dX2_allScenes_1 : decode cX2_allScenes 1 = .ok (.aload_n 0, 1) := by decide +kernel
theorem dX2_allScenes_2 : decode cX2_allScenes 2 = .ok (.getfield 44, 3) := by decide +kernel
theorem dX2_allScenes_5 : decode cX2_allScenes 5 = .ok (.ishl, 1) := by decide +kernel
theorem dX2_allScenes_6 : decode cX2_allScenes 6 = .ok (.iconst 1, 1) := by decide +kernel
theorem dX2_allScenes_7 : decode cX2_allScenes 7 = .ok (.isub, 1) := by decide +kernel
theorem dX2_allScenes_8 : decode cX2_allScenes 8 = .ok (.ireturn, 1) := by decide +kernel
theorem dX2_open_0 : decode cX2_open 0 = .ok (.aload_n 1, 1) := by decide +kernel
theorem dX2_open_1 : decode cX2_open 1 = .ok (.iconst 0, 1) := by decide +kernel
theorem dX2_open_2 : decode cX2_open 2 = .ok (.putfield 89, 3) := by decide +kernel
theorem dX2_open_5 : decode cX2_open 5 = .ok (.aload_n 1, 1) := by decide +kernel
theorem dX2_open_6 : decode cX2_open 6 = .ok (.iconst 0, 1) := by decide +kernel
theorem dX2_open_7 : decode cX2_open 7 = .ok (.putfield 94, 3) := by decide +kernel
theorem dX2_open_10 : decode cX2_open 10 = .ok (.aload_n 1, 1) := by decide +kernel
theorem dX2_open_11 : decode cX2_open 11 = .ok (.iconst 1, 1) := by decide +kernel
theorem dX2_open_12 : decode cX2_open 12 = .ok (.aload_n 0, 1) := by decide +kernel
theorem dX2_open_13 : decode cX2_open 13 = .ok (.getfield 47, 3) := by decide +kernel
theorem dX2_open_16 : decode cX2_open 16 = .ok (.ishl, 1) := by decide +kernel
theorem dX2_open_17 : decode cX2_open 17 = .ok (.iconst 1, 1) := by decide +kernel
theorem dX2_open_18 : decode cX2_open 18 = .ok (.isub, 1) := by decide +kernel
theorem dX2_open_19 : decode cX2_open 19 = .ok (.putfield 97, 3) := by decide +kernel
theorem dX2_open_22 : decode cX2_open 22 = .ok (.aload_n 1, 1) := by decide +kernel
theorem dX2_open_23 : decode cX2_open 23 = .ok (.iconst 0, 1) := by decide +kernel
theorem dX2_open_24 : decode cX2_open 24 = .ok (.putfield 100, 3) := by decide +kernel
theorem dX2_open_27 : decode cX2_open 27 = .ok (.aload_n 0, 1) := by decide +kernel
theorem dX2_open_28 : decode cX2_open 28 = .ok (.getfield 26, 3) := by decide +kernel
theorem dX2_open_31 : decode cX2_open 31 = .ok (.aload_n 1, 1) := by decide +kernel
theorem dX2_open_32 : decode cX2_open 32 = .ok (.getfield 103, 3) := by decide +kernel
theorem dX2_open_35 : decode cX2_open 35 = .ok (.invokestatic 106, 3) := by decide +kernel
theorem dX2_open_38 : decode cX2_open 38 = .ok (.aload_n 1, 1) := by decide +kernel
theorem dX2_open_39 : decode cX2_open 39 = .ok (.getfield 110, 3) := by decide +kernel
theorem dX2_open_42 : decode cX2_open 42 = .ok (.iconst (-1), 1) := by decide +kernel
theorem dX2_open_43 : decode cX2_open 43 = .ok (.invokestatic 113, 3) := by decide +kernel
theorem dX2_open_46 : decode cX2_open 46 = .ok (.aload_n 1, 1) := by decide +kernel
theorem dX2_open_47 : decode cX2_open 47 = .ok (.getfield 119, 3) := by decide +kernel
theorem dX2_open_50 : decode cX2_open 50 = .ok (.iconst 0, 1) := by decide +kernel
theorem dX2_open_51 : decode cX2_open 51 = .ok (.invokestatic 113, 3) := by decide +kernel
theorem dX2_open_54 : decode cX2_open 54 = .ok (.return_, 1) := by decide +kernel
theorem dX2_saying_0 : decode cX2_saying 0 = .ok (.aload_n 1, 1) := by decide +kernel
theorem dX2_saying_1 : decode cX2_saying 1 = .ok (.iload_n 2, 1) := by decide +kernel
theorem dX2_saying_2 : decode cX2_saying 2 = .ok (.invokevirtual 122, 3) := by decide +kernel
theorem dX2_saying_5 : decode cX2_saying 5 = .ok (.ifCond .eq 5, 3) := by decide +kernel
theorem dX2_saying_8 : decode cX2_saying 8 = .ok (.iconst (-1), 1) := by decide +kernel
theorem dX2_saying_9 : decode cX2_saying 9 = .ok (.ireturn, 1) := by decide +kernel
theorem dX2_saying_10 : decode cX2_saying 10 = .ok (.aload_n 0, 1) := by decide +kernel
theorem dX2_saying_11 : decode cX2_saying 11 = .ok (.getfield 22, 3) := by decide +kernel
theorem dX2_saying_14 : decode cX2_saying 14 = .ok (.iload_n 2, 1) := by decide +kernel
theorem dX2_saying_15 : decode cX2_saying 15 = .ok (.invokestatic 60, 3) := by decide +kernel
theorem dX2_saying_18 : decode cX2_saying 18 = .ok (.istore_n 3, 1) := by decide +kernel
theorem dX2_saying_19 : decode cX2_saying 19 = .ok (.iload_n 2, 1) := by decide +kernel
theorem dX2_saying_20 : decode cX2_saying 20 = .ok (.aload_n 0, 1) := by decide +kernel
theorem dX2_saying_21 : decode cX2_saying 21 = .ok (.getfield 9, 3) := by decide +kernel
theorem dX2_saying_24 : decode cX2_saying 24 = .ok (.if_icmp .ge 5, 3) := by decide +kernel
theorem dX2_saying_27 : decode cX2_saying 27 = .ok (.iload_n 3, 1) := by decide +kernel
theorem dX2_saying_28 : decode cX2_saying 28 = .ok (.ireturn, 1) := by decide +kernel
theorem dX2_saying_29 : decode cX2_saying 29 = .ok (.iload_n 2, 1) := by decide +kernel
theorem dX2_saying_30 : decode cX2_saying 30 = .ok (.iconst 1, 1) := by decide +kernel
theorem dX2_saying_31 : decode cX2_saying 31 = .ok (.isub, 1) := by decide +kernel
theorem dX2_saying_32 : decode cX2_saying 32 = .ok (.istore 4, 2) := by decide +kernel
theorem dX2_saying_34 : decode cX2_saying 34 = .ok (.iload 4, 2) := by decide +kernel
theorem dX2_saying_36 : decode cX2_saying 36 = .ok (.ifCond .lt 32, 3) := by decide +kernel
theorem dX2_saying_39 : decode cX2_saying 39 = .ok (.aload_n 1, 1) := by decide +kernel
theorem dX2_saying_40 : decode cX2_saying 40 = .ok (.iload 4, 2) := by decide +kernel
theorem dX2_saying_42 : decode cX2_saying 42 = .ok (.invokevirtual 125, 3) := by decide +kernel
theorem dX2_saying_45 : decode cX2_saying 45 = .ok (.invokestatic 129, 3) := by decide +kernel
theorem dX2_saying_48 : decode cX2_saying 48 = .ok (.iload_n 3, 1) := by decide +kernel
theorem dX2_saying_49 : decode cX2_saying 49 = .ok (.invokestatic 129, 3) := by decide +kernel
theorem dX2_saying_52 : decode cX2_saying 52 = .ok (.if_icmp .ne 10, 3) := by decide +kernel
theorem dX2_saying_55 : decode cX2_saying 55 = .ok (.aload_n 1, 1) := by decide +kernel
theorem dX2_saying_56 : decode cX2_saying 56 = .ok (.iload 4, 2) := by decide +kernel
theorem dX2_saying_58 : decode cX2_saying 58 = .ok (.invokevirtual 125, 3) := by decide +kernel
theorem dX2_saying_61 : decode cX2_saying 61 = .ok (.ireturn, 1) := by decide +kernel
theorem dX2_saying_62 : decode cX2_saying 62 = .ok (.iinc 4 (-1), 3) := by decide +kernel
theorem dX2_saying_65 : decode cX2_saying 65 = .ok (.goto (-31), 3) := by decide +kernel
theorem dX2_saying_68 : decode cX2_saying 68 = .ok (.iload_n 3, 1) := by decide +kernel
theorem dX2_saying_69 : decode cX2_saying 69 = .ok (.ireturn, 1) := by decide +kernel
theorem dX2_taken_0 : decode cX2_taken 0 = .ok (.aload_n 0, 1) := by decide +kernel
theorem dX2_taken_1 : decode cX2_taken 1 = .ok (.getfield 29, 3) := by decide +kernel
theorem dX2_taken_4 : decode cX2_taken 4 = .ok (.iload_n 1, 1) := by decide +kernel
theorem dX2_taken_5 : decode cX2_taken 5 = .ok (.invokestatic 60, 3) := by decide +kernel
theorem dX2_taken_8 : decode cX2_taken 8 = .ok (.tableswitch 55 0 2 #[28, 30, 32], 28) := by decide +kernel
theorem dX2_taken_36 : decode cX2_taken 36 = .ok (.iload_n 2, 1) := by decide +kernel
theorem dX2_taken_37 : decode cX2_taken 37 = .ok (.ireturn, 1) := by decide +kernel
theorem dX2_taken_38 : decode cX2_taken 38 = .ok (.iload_n 3, 1) := by decide +kernel
theorem dX2_taken_39 : decode cX2_taken 39 = .ok (.ireturn, 1) := by decide +kernel
theorem dX2_taken_40 : decode cX2_taken 40 = .ok (.iload_n 2, 1) := by decide +kernel
theorem dX2_taken_41 : decode cX2_taken 41 = .ok (.iconst (-1), 1) := by decide +kernel
theorem dX2_taken_42 : decode cX2_taken 42 = .ok (.if_icmp .eq 19, 3) := by decide +kernel
theorem dX2_taken_45 : decode cX2_taken 45 = .ok (.aload_n 0, 1) := by decide +kernel
theorem dX2_taken_46 : decode cX2_taken 46 = .ok (.getfield 32, 3) := by decide +kernel
theorem dX2_taken_49 : decode cX2_taken 49 = .ok (.iload_n 1, 1) := by decide +kernel
theorem dX2_taken_50 : decode cX2_taken 50 = .ok (.invokestatic 60, 3) := by decide +kernel
theorem dX2_taken_53 : decode cX2_taken 53 = .ok (.iconst 5, 1) := by decide +kernel
theorem dX2_taken_54 : decode cX2_taken 54 = .ok (.if_icmp .ge 7, 3) := by decide +kernel
theorem dX2_taken_57 : decode cX2_taken 57 = .ok (.iload_n 2, 1) := by decide +kernel
theorem dX2_taken_58 : decode cX2_taken 58 = .ok (.goto 4, 3) := by decide +kernel
theorem dX2_taken_61 : decode cX2_taken 61 = .ok (.iload_n 3, 1) := by decide +kernel
theorem dX2_taken_62 : decode cX2_taken 62 = .ok (.ireturn, 1) := by decide +kernel
theorem dX2_taken_63 : decode cX2_taken 63 = .ok (.iload_n 2, 1) := by decide +kernel
theorem dX2_taken_64 : decode cX2_taken 64 = .ok (.iload_n 3, 1) := by decide +kernel
theorem dX2_taken_65 : decode cX2_taken 65 = .ok (.if_icmp .ne 7, 3) := by decide +kernel
theorem dX2_taken_68 : decode cX2_taken 68 = .ok (.iload_n 2, 1) := by decide +kernel
theorem dX2_taken_69 : decode cX2_taken 69 = .ok (.goto 4, 3) := by decide +kernel
theorem dX2_taken_72 : decode cX2_taken 72 = .ok (.iconst (-1), 1) := by decide +kernel
theorem dX2_taken_73 : decode cX2_taken 73 = .ok (.ireturn, 1) := by decide +kernel
theorem dX2_clash_0 : decode cX2_clash 0 = .ok (.iload_n 0, 1) := by decide +kernel
theorem dX2_clash_1 : decode cX2_clash 1 = .ok (.invokestatic 129, 3) := by decide +kernel
theorem dX2_clash_4 : decode cX2_clash 4 = .ok (.iload_n 1, 1) := by decide +kernel
theorem dX2_clash_5 : decode cX2_clash 5 = .ok (.invokestatic 129, 3) := by decide +kernel
theorem dX2_clash_8 : decode cX2_clash 8 = .ok (.if_icmp .ne 12, 3) := by decide +kernel
theorem dX2_clash_11 : decode cX2_clash 11 = .ok (.iload_n 0, 1) := by decide +kernel
theorem dX2_clash_12 : decode cX2_clash 12 = .ok (.iload_n 1, 1) := by decide +kernel
theorem dX2_clash_13 : decode cX2_clash 13 = .ok (.if_icmp .eq 7, 3) := by decide +kernel
theorem dX2_clash_16 : decode cX2_clash 16 = .ok (.iconst 1, 1) := by decide +kernel
theorem dX2_clash_17 : decode cX2_clash 17 = .ok (.goto 4, 3) := by decide +kernel
theorem dX2_clash_20 : decode cX2_clash 20 = .ok (.iconst 0, 1) := by decide +kernel
theorem dX2_clash_21 : decode cX2_clash 21 = .ok (.ireturn, 1) := by decide +kernel
theorem dX2_odd_0 : decode cX2_odd 0 = .ok (.iload_n 2, 1) := by decide +kernel
theorem dX2_odd_1 : decode cX2_odd 1 = .ok (.iconst (-1), 1) := by decide +kernel
theorem dX2_odd_2 : decode cX2_odd 2 = .ok (.if_icmp .ne 5, 3) := by decide +kernel
theorem dX2_odd_5 : decode cX2_odd 5 = .ok (.iconst 0, 1) := by decide +kernel
theorem dX2_odd_6 : decode cX2_odd 6 = .ok (.ireturn, 1) := by decide +kernel
theorem dX2_odd_7 : decode cX2_odd 7 = .ok (.aload_n 0, 1) := by decide +kernel
theorem dX2_odd_8 : decode cX2_odd 8 = .ok (.iload_n 1, 1) := by decide +kernel
theorem dX2_odd_9 : decode cX2_odd 9 = .ok (.iload_n 2, 1) := by decide +kernel
theorem dX2_odd_10 : decode cX2_odd 10 = .ok (.invokestatic 129, 3) := by decide +kernel
theorem dX2_odd_13 : decode cX2_odd 13 = .ok (.invokevirtual 132, 3) := by decide +kernel
theorem dX2_odd_16 : decode cX2_odd 16 = .ok (.istore_n 3, 1) := by decide +kernel
theorem dX2_odd_17 : decode cX2_odd 17 = .ok (.iload_n 3, 1) := by decide +kernel
theorem dX2_odd_18 : decode cX2_odd 18 = .ok (.iconst (-1), 1) := by decide +kernel
theorem dX2_odd_19 : decode cX2_odd 19 = .ok (.if_icmp .eq 15, 3) := by decide +kernel
theorem dX2_odd_22 : decode cX2_odd 22 = .ok (.iload_n 3, 1) := by decide +kernel
theorem dX2_odd_23 : decode cX2_odd 23 = .ok (.iload_n 2, 1) := by decide +kernel
theorem dX2_odd_24 : decode cX2_odd 24 = .ok (.invokestatic 135, 3) := by decide +kernel
theorem dX2_odd_27 : decode cX2_odd 27 = .ok (.if_icmp .eq 7, 3) := by decide +kernel
theorem dX2_odd_30 : decode cX2_odd 30 = .ok (.iconst 1, 1) := by decide +kernel
theorem dX2_odd_31 : decode cX2_odd 31 = .ok (.goto 4, 3) := by decide +kernel
theorem dX2_odd_34 : decode cX2_odd 34 = .ok (.iconst 0, 1) := by decide +kernel
theorem dX2_odd_35 : decode cX2_odd 35 = .ok (.ireturn, 1) := by decide +kernel
theorem dX2_screen_0 : decode cX2_screen 0 = .ok (.aload_n 1, 1) := by decide +kernel
theorem dX2_screen_1 : decode cX2_screen 1 = .ok (.getfield 89, 3) := by decide +kernel
theorem dX2_screen_4 : decode cX2_screen 4 = .ok (.aload_n 0, 1) := by decide +kernel
theorem dX2_screen_5 : decode cX2_screen 5 = .ok (.getfield 44, 3) := by decide +kernel
theorem dX2_screen_8 : decode cX2_screen 8 = .ok (.if_icmp .lt 5, 3) := by decide +kernel
theorem dX2_screen_11 : decode cX2_screen 11 = .ok (.iconst (-1), 1) := by decide +kernel
theorem dX2_screen_12 : decode cX2_screen 12 = .ok (.ireturn, 1) := by decide +kernel
theorem dX2_screen_13 : decode cX2_screen 13 = .ok (.aload_n 0, 1) := by decide +kernel
theorem dX2_screen_14 : decode cX2_screen 14 = .ok (.aload_n 1, 1) := by decide +kernel
theorem dX2_screen_15 : decode cX2_screen 15 = .ok (.aload_n 1, 1) := by decide +kernel
theorem dX2_screen_16 : decode cX2_screen 16 = .ok (.getfield 89, 3) := by decide +kernel
theorem dX2_screen_19 : decode cX2_screen 19 = .ok (.invokevirtual 138, 3) := by decide +kernel
theorem dX2_screen_22 : decode cX2_screen 22 = .ok (.istore_n 2, 1) := by decide +kernel
theorem dX2_screen_23 : decode cX2_screen 23 = .ok (.aload_n 1, 1) := by decide +kernel
theorem dX2_screen_24 : decode cX2_screen 24 = .ok (.aload_n 1, 1) := by decide +kernel
theorem dX2_screen_25 : decode cX2_screen 25 = .ok (.getfield 89, 3) := by decide +kernel
theorem dX2_screen_28 : decode cX2_screen 28 = .ok (.invokevirtual 125, 3) := by decide +kernel
theorem dX2_screen_31 : decode cX2_screen 31 = .ok (.istore_n 3, 1) := by decide +kernel
theorem dX2_screen_32 : decode cX2_screen 32 = .ok (.iconst 0, 1) := by decide +kernel
theorem dX2_screen_33 : decode cX2_screen 33 = .ok (.istore 4, 2) := by decide +kernel
theorem dX2_screen_35 : decode cX2_screen 35 = .ok (.iconst 0, 1) := by decide +kernel
theorem dX2_screen_36 : decode cX2_screen 36 = .ok (.istore 5, 2) := by decide +kernel
theorem dX2_screen_38 : decode cX2_screen 38 = .ok (.iload 5, 2) := by decide +kernel
theorem dX2_screen_40 : decode cX2_screen 40 = .ok (.aload_n 0, 1) := by decide +kernel
theorem dX2_screen_41 : decode cX2_screen 41 = .ok (.getfield 47, 3) := by decide +kernel
theorem dX2_screen_44 : decode cX2_screen 44 = .ok (.if_icmp .ge 39, 3) := by decide +kernel
theorem dX2_screen_47 : decode cX2_screen 47 = .ok (.aload_n 1, 1) := by decide +kernel
theorem dX2_screen_48 : decode cX2_screen 48 = .ok (.iload 5, 2) := by decide +kernel
theorem dX2_screen_50 : decode cX2_screen 50 = .ok (.invokevirtual 142, 3) := by decide +kernel
theorem dX2_screen_53 : decode cX2_screen 53 = .ok (.ifCond .eq 24, 3) := by decide +kernel
theorem dX2_screen_56 : decode cX2_screen 56 = .ok (.aload_n 0, 1) := by decide +kernel
theorem dX2_screen_57 : decode cX2_screen 57 = .ok (.aload_n 1, 1) := by decide +kernel
theorem dX2_screen_58 : decode cX2_screen 58 = .ok (.iload 5, 2) := by decide +kernel
theorem dX2_screen_60 : decode cX2_screen 60 = .ok (.iload_n 2, 1) := by decide +kernel
theorem dX2_screen_61 : decode cX2_screen 61 = .ok (.iload_n 3, 1) := by decide +kernel
theorem dX2_screen_62 : decode cX2_screen 62 = .ok (.invokevirtual 145, 3) := by decide +kernel
theorem dX2_screen_65 : decode cX2_screen 65 = .ok (.ifCond .eq 12, 3) := by decide +kernel
theorem dX2_screen_68 : decode cX2_screen 68 = .ok (.iload 4, 2) := by decide +kernel
theorem dX2_screen_70 : decode cX2_screen 70 = .ok (.iconst 1, 1) := by decide +kernel
theorem dX2_screen_71 : decode cX2_screen 71 = .ok (.iload 5, 2) := by decide +kernel
theorem dX2_screen_73 : decode cX2_screen 73 = .ok (.ishl, 1) := by decide +kernel
theorem dX2_screen_74 : decode cX2_screen 74 = .ok (.ior, 1) := by decide +kernel
theorem dX2_screen_75 : decode cX2_screen 75 = .ok (.istore 4, 2) := by decide +kernel
theorem dX2_screen_77 : decode cX2_screen 77 = .ok (.iinc 5 1, 3) := by decide +kernel
theorem dX2_screen_80 : decode cX2_screen 80 = .ok (.goto (-42), 3) := by decide +kernel
theorem dX2_screen_83 : decode cX2_screen 83 = .ok (.aload_n 1, 1) := by decide +kernel
theorem dX2_screen_84 : decode cX2_screen 84 = .ok (.dup, 1) := by decide +kernel
theorem dX2_screen_85 : decode cX2_screen 85 = .ok (.getfield 97, 3) := by decide +kernel
theorem dX2_screen_88 : decode cX2_screen 88 = .ok (.iload 4, 2) := by decide +kernel
theorem dX2_screen_90 : decode cX2_screen 90 = .ok (.iconst (-1), 1) := by decide +kernel
theorem dX2_screen_91 : decode cX2_screen 91 = .ok (.ixor, 1) := by decide +kernel
theorem dX2_screen_92 : decode cX2_screen 92 = .ok (.iand, 1) := by decide +kernel
theorem dX2_screen_93 : decode cX2_screen 93 = .ok (.putfield 97, 3) := by decide +kernel
theorem dX2_screen_96 : decode cX2_screen 96 = .ok (.aload_n 1, 1) := by decide +kernel
theorem dX2_screen_97 : decode cX2_screen 97 = .ok (.dup, 1) := by decide +kernel
theorem dX2_screen_98 : decode cX2_screen 98 = .ok (.getfield 89, 3) := by decide +kernel
theorem dX2_screen_101 : decode cX2_screen 101 = .ok (.iconst 1, 1) := by decide +kernel
theorem dX2_screen_102 : decode cX2_screen 102 = .ok (.iadd, 1) := by decide +kernel
theorem dX2_screen_103 : decode cX2_screen 103 = .ok (.putfield 89, 3) := by decide +kernel
theorem dX2_screen_106 : decode cX2_screen 106 = .ok (.iload 4, 2) := by decide +kernel
theorem dX2_screen_108 : decode cX2_screen 108 = .ok (.ireturn, 1) := by decide +kernel
theorem dX2_watch_0 : decode cX2_watch 0 = .ok (.aload_n 0, 1) := by decide +kernel
theorem dX2_watch_1 : decode cX2_watch 1 = .ok (.iload_n 2, 1) := by decide +kernel
theorem dX2_watch_2 : decode cX2_watch 2 = .ok (.iload_n 3, 1) := by decide +kernel
theorem dX2_watch_3 : decode cX2_watch 3 = .ok (.iload 4, 2) := by decide +kernel
theorem dX2_watch_5 : decode cX2_watch 5 = .ok (.invokevirtual 149, 3) := by decide +kernel
theorem dX2_watch_8 : decode cX2_watch 8 = .ok (.istore 5, 2) := by decide +kernel
theorem dX2_watch_10 : decode cX2_watch 10 = .ok (.iload_n 2, 1) := by decide +kernel
theorem dX2_watch_11 : decode cX2_watch 11 = .ok (.aload_n 1, 1) := by decide +kernel
theorem dX2_watch_12 : decode cX2_watch 12 = .ok (.getfield 89, 3) := by decide +kernel
theorem dX2_watch_15 : decode cX2_watch 15 = .ok (.iload_n 3, 1) := by decide +kernel
theorem dX2_watch_16 : decode cX2_watch 16 = .ok (.iload 4, 2) := by decide +kernel
theorem dX2_watch_18 : decode cX2_watch 18 = .ok (.invokestatic 152, 3) := by decide +kernel
theorem dX2_watch_21 : decode cX2_watch 21 = .ok (.aload_n 1, 1) := by decide +kernel
theorem dX2_watch_22 : decode cX2_watch 22 = .ok (.iload_n 2, 1) := by decide +kernel
theorem dX2_watch_23 : decode cX2_watch 23 = .ok (.iload 5, 2) := by decide +kernel
theorem dX2_watch_25 : decode cX2_watch 25 = .ok (.invokestatic 155, 3) := by decide +kernel
theorem dX2_watch_28 : decode cX2_watch 28 = .ok (.invokestatic 70, 3) := by decide +kernel
theorem dX2_watch_31 : decode cX2_watch 31 = .ok (.istore 6, 2) := by decide +kernel
theorem dX2_watch_33 : decode cX2_watch 33 = .ok (.aload_n 1, 1) := by decide +kernel
theorem dX2_watch_34 : decode cX2_watch 34 = .ok (.getfield 119, 3) := by decide +kernel
theorem dX2_watch_37 : decode cX2_watch 37 = .ok (.iload_n 2, 1) := by decide +kernel
theorem dX2_watch_38 : decode cX2_watch 38 = .ok (.invokestatic 60, 3) := by decide +kernel
theorem dX2_watch_41 : decode cX2_watch 41 = .ok (.aload_n 0, 1) := by decide +kernel
theorem dX2_watch_42 : decode cX2_watch 42 = .ok (.getfield 38, 3) := by decide +kernel
theorem dX2_watch_45 : decode cX2_watch 45 = .ok (.iload 6, 2) := by decide +kernel
theorem dX2_watch_47 : decode cX2_watch 47 = .ok (.invokestatic 60, 3) := by decide +kernel
theorem dX2_watch_50 : decode cX2_watch 50 = .ok (.iadd, 1) := by decide +kernel
theorem dX2_watch_51 : decode cX2_watch 51 = .ok (.istore 7, 2) := by decide +kernel
theorem dX2_watch_53 : decode cX2_watch 53 = .ok (.aload_n 1, 1) := by decide +kernel
theorem dX2_watch_54 : decode cX2_watch 54 = .ok (.getfield 119, 3) := by decide +kernel
theorem dX2_watch_57 : decode cX2_watch 57 = .ok (.iload_n 2, 1) := by decide +kernel
theorem dX2_watch_58 : decode cX2_watch 58 = .ok (.iload 7, 2) := by decide +kernel
theorem dX2_watch_60 : decode cX2_watch 60 = .ok (.invokestatic 50, 3) := by decide +kernel
theorem dX2_watch_63 : decode cX2_watch 63 = .ok (.iload 5, 2) := by decide +kernel
theorem dX2_watch_65 : decode cX2_watch 65 = .ok (.iconst (-1), 1) := by decide +kernel
theorem dX2_watch_66 : decode cX2_watch 66 = .ok (.if_icmp .eq 18, 3) := by decide +kernel
theorem dX2_watch_69 : decode cX2_watch 69 = .ok (.aload_n 1, 1) := by decide +kernel
theorem dX2_watch_70 : decode cX2_watch 70 = .ok (.iload_n 2, 1) := by decide +kernel
theorem dX2_watch_71 : decode cX2_watch 71 = .ok (.iload 5, 2) := by decide +kernel
theorem dX2_watch_73 : decode cX2_watch 73 = .ok (.invokestatic 129, 3) := by decide +kernel
theorem dX2_watch_76 : decode cX2_watch 76 = .ok (.iload 5, 2) := by decide +kernel
theorem dX2_watch_78 : decode cX2_watch 78 = .ok (.invokestatic 135, 3) := by decide +kernel
theorem dX2_watch_81 : decode cX2_watch 81 = .ok (.invokevirtual 159, 3) := by decide +kernel
theorem dX2_watch_84 : decode cX2_watch 84 = .ok (.iload 7, 2) := by decide +kernel
theorem dX2_watch_86 : decode cX2_watch 86 = .ok (.aload_n 0, 1) := by decide +kernel
theorem dX2_watch_87 : decode cX2_watch 87 = .ok (.getfield 35, 3) := by decide +kernel
theorem dX2_watch_90 : decode cX2_watch 90 = .ok (.iload_n 2, 1) := by decide +kernel
theorem dX2_watch_91 : decode cX2_watch 91 = .ok (.invokestatic 60, 3) := by decide +kernel
theorem dX2_watch_94 : decode cX2_watch 94 = .ok (.if_icmp .lt 7, 3) := by decide +kernel
theorem dX2_watch_97 : decode cX2_watch 97 = .ok (.iconst 1, 1) := by decide +kernel
theorem dX2_watch_98 : decode cX2_watch 98 = .ok (.goto 4, 3) := by decide +kernel
theorem dX2_watch_101 : decode cX2_watch 101 = .ok (.iconst 0, 1) := by decide +kernel
theorem dX2_watch_102 : decode cX2_watch 102 = .ok (.ireturn, 1) := by decide +kernel
theorem dX2_finish_0 : decode cX2_finish 0 = .ok (.aload_n 1, 1) := by decide +kernel
theorem dX2_finish_1 : decode cX2_finish 1 = .ok (.getfield 89, 3) := by decide +kernel
theorem dX2_finish_4 : decode cX2_finish 4 = .ok (.istore_n 2, 1) := by decide +kernel
theorem dX2_finish_5 : decode cX2_finish 5 = .ok (.iload_n 2, 1) := by decide +kernel
theorem dX2_finish_6 : decode cX2_finish 6 = .ok (.aload_n 0, 1) := by decide +kernel
theorem dX2_finish_7 : decode cX2_finish 7 = .ok (.getfield 44, 3) := by decide +kernel
theorem dX2_finish_10 : decode cX2_finish 10 = .ok (.if_icmp .ge 15, 3) := by decide +kernel
theorem dX2_finish_13 : decode cX2_finish 13 = .ok (.aload_n 0, 1) := by decide +kernel
theorem dX2_finish_14 : decode cX2_finish 14 = .ok (.aload_n 1, 1) := by decide +kernel
theorem dX2_finish_15 : decode cX2_finish 15 = .ok (.invokevirtual 163, 3) := by decide +kernel
theorem dX2_finish_18 : decode cX2_finish 18 = .ok (.pop, 1) := by decide +kernel
theorem dX2_finish_19 : decode cX2_finish 19 = .ok (.iinc 2 1, 3) := by decide +kernel
theorem dX2_finish_22 : decode cX2_finish 22 = .ok (.goto (-17), 3) := by decide +kernel
theorem dX2_finish_25 : decode cX2_finish 25 = .ok (.return_, 1) := by decide +kernel
theorem dX2_rewrite_0 : decode cX2_rewrite 0 = .ok (.aload_n 0, 1) := by decide +kernel
theorem dX2_rewrite_1 : decode cX2_rewrite 1 = .ok (.iload_n 2, 1) := by decide +kernel
theorem dX2_rewrite_2 : decode cX2_rewrite 2 = .ok (.invokevirtual 167, 3) := by decide +kernel
theorem dX2_rewrite_5 : decode cX2_rewrite 5 = .ok (.ifCond .eq 11, 3) := by decide +kernel
theorem dX2_rewrite_8 : decode cX2_rewrite 8 = .ok (.iload_n 2, 1) := by decide +kernel
theorem dX2_rewrite_9 : decode cX2_rewrite 9 = .ok (.aload_n 1, 1) := by decide +kernel
theorem dX2_rewrite_10 : decode cX2_rewrite 10 = .ok (.getfield 89, 3) := by decide +kernel
theorem dX2_rewrite_13 : decode cX2_rewrite 13 = .ok (.if_icmp .ge 5, 3) := by decide +kernel
theorem dX2_rewrite_16 : decode cX2_rewrite 16 = .ok (.iconst 0, 1) := by decide +kernel
theorem dX2_rewrite_17 : decode cX2_rewrite 17 = .ok (.ireturn, 1) := by decide +kernel
theorem dX2_rewrite_18 : decode cX2_rewrite 18 = .ok (.aload_n 1, 1) := by decide +kernel
theorem dX2_rewrite_19 : decode cX2_rewrite 19 = .ok (.getfield 103, 3) := by decide +kernel
theorem dX2_rewrite_22 : decode cX2_rewrite 22 = .ok (.iload_n 2, 1) := by decide +kernel
theorem dX2_rewrite_23 : decode cX2_rewrite 23 = .ok (.iload_n 3, 1) := by decide +kernel
theorem dX2_rewrite_24 : decode cX2_rewrite 24 = .ok (.invokestatic 50, 3) := by decide +kernel
theorem dX2_rewrite_27 : decode cX2_rewrite 27 = .ok (.iconst 1, 1) := by decide +kernel
theorem dX2_rewrite_28 : decode cX2_rewrite 28 = .ok (.ireturn, 1) := by decide +kernel
theorem dX2_takeAway_0 : decode cX2_takeAway 0 = .ok (.aload_n 0, 1) := by decide +kernel
theorem dX2_takeAway_1 : decode cX2_takeAway 1 = .ok (.iload_n 2, 1) := by decide +kernel
theorem dX2_takeAway_2 : decode cX2_takeAway 2 = .ok (.invokevirtual 167, 3) := by decide +kernel
theorem dX2_takeAway_5 : decode cX2_takeAway 5 = .ok (.ifCond .eq 19, 3) := by decide +kernel
theorem dX2_takeAway_8 : decode cX2_takeAway 8 = .ok (.iload_n 2, 1) := by decide +kernel
theorem dX2_takeAway_9 : decode cX2_takeAway 9 = .ok (.aload_n 1, 1) := by decide +kernel
theorem dX2_takeAway_10 : decode cX2_takeAway 10 = .ok (.getfield 89, 3) := by decide +kernel
theorem dX2_takeAway_13 : decode cX2_takeAway 13 = .ok (.if_icmp .lt 11, 3) := by decide +kernel
theorem dX2_takeAway_16 : decode cX2_takeAway 16 = .ok (.aload_n 1, 1) := by decide +kernel
theorem dX2_takeAway_17 : decode cX2_takeAway 17 = .ok (.iload_n 2, 1) := by decide +kernel
theorem dX2_takeAway_18 : decode cX2_takeAway 18 = .ok (.invokevirtual 122, 3) := by decide +kernel
theorem dX2_takeAway_21 : decode cX2_takeAway 21 = .ok (.ifCond .eq 5, 3) := by decide +kernel
theorem dX2_takeAway_24 : decode cX2_takeAway 24 = .ok (.iconst 0, 1) := by decide +kernel
theorem dX2_takeAway_25 : decode cX2_takeAway 25 = .ok (.ireturn, 1) := by decide +kernel
theorem dX2_takeAway_26 : decode cX2_takeAway 26 = .ok (.aload_n 1, 1) := by decide +kernel
theorem dX2_takeAway_27 : decode cX2_takeAway 27 = .ok (.dup, 1) := by decide +kernel
theorem dX2_takeAway_28 : decode cX2_takeAway 28 = .ok (.getfield 100, 3) := by decide +kernel
theorem dX2_takeAway_31 : decode cX2_takeAway 31 = .ok (.iconst 1, 1) := by decide +kernel
theorem dX2_takeAway_32 : decode cX2_takeAway 32 = .ok (.iload_n 2, 1) := by decide +kernel
theorem dX2_takeAway_33 : decode cX2_takeAway 33 = .ok (.ishl, 1) := by decide +kernel
theorem dX2_takeAway_34 : decode cX2_takeAway 34 = .ok (.ior, 1) := by decide +kernel
theorem dX2_takeAway_35 : decode cX2_takeAway 35 = .ok (.putfield 100, 3) := by decide +kernel
theorem dX2_takeAway_38 : decode cX2_takeAway 38 = .ok (.iconst 1, 1) := by decide +kernel
theorem dX2_takeAway_39 : decode cX2_takeAway 39 = .ok (.ireturn, 1) := by decide +kernel
theorem dX2_persuasions_0 : decode cX2_persuasions 0 = .ok (.aload_n 0, 1) := by decide +kernel
theorem dX2_persuasions_1 : decode cX2_persuasions 1 = .ok (.iload_n 2, 1) := by decide +kernel
theorem dX2_persuasions_2 : decode cX2_persuasions 2 = .ok (.invokevirtual 82, 3) := by decide +kernel
theorem dX2_persuasions_5 : decode cX2_persuasions 5 = .ok (.ifCond .eq 32, 3) := by decide +kernel
theorem dX2_persuasions_8 : decode cX2_persuasions 8 = .ok (.aload_n 0, 1) := by decide +kernel
theorem dX2_persuasions_9 : decode cX2_persuasions 9 = .ok (.iload_n 3, 1) := by decide +kernel
theorem dX2_persuasions_10 : decode cX2_persuasions 10 = .ok (.invokevirtual 82, 3) := by decide +kernel
theorem dX2_persuasions_13 : decode cX2_persuasions 13 = .ok (.ifCond .eq 24, 3) := by decide +kernel
theorem dX2_persuasions_16 : decode cX2_persuasions 16 = .ok (.iload_n 2, 1) := by decide +kernel
theorem dX2_persuasions_17 : decode cX2_persuasions 17 = .ok (.iload_n 3, 1) := by decide +kernel
theorem dX2_persuasions_18 : decode cX2_persuasions 18 = .ok (.if_icmp .eq 19, 3) := by decide +kernel
theorem dX2_persuasions_21 : decode cX2_persuasions 21 = .ok (.aload_n 1, 1) := by decide +kernel
theorem dX2_persuasions_22 : decode cX2_persuasions 22 = .ok (.iload_n 2, 1) := by decide +kernel
theorem dX2_persuasions_23 : decode cX2_persuasions 23 = .ok (.invokevirtual 142, 3) := by decide +kernel
theorem dX2_persuasions_26 : decode cX2_persuasions 26 = .ok (.ifCond .eq 11, 3) := by decide +kernel
theorem dX2_persuasions_29 : decode cX2_persuasions 29 = .ok (.aload_n 1, 1) := by decide +kernel
theorem dX2_persuasions_30 : decode cX2_persuasions 30 = .ok (.iload_n 3, 1) := by decide +kernel
theorem dX2_persuasions_31 : decode cX2_persuasions 31 = .ok (.invokevirtual 142, 3) := by decide +kernel
theorem dX2_persuasions_34 : decode cX2_persuasions 34 = .ok (.ifCond .ne 5, 3) := by decide +kernel
theorem dX2_persuasions_37 : decode cX2_persuasions 37 = .ok (.iconst (-1), 1) := by decide +kernel
theorem dX2_persuasions_38 : decode cX2_persuasions 38 = .ok (.ireturn, 1) := by decide +kernel
theorem dX2_persuasions_39 : decode cX2_persuasions 39 = .ok (.iconst 0, 1) := by decide +kernel
theorem dX2_persuasions_40 : decode cX2_persuasions 40 = .ok (.istore 4, 2) := by decide +kernel
theorem dX2_persuasions_42 : decode cX2_persuasions 42 = .ok (.iconst 0, 1) := by decide +kernel
theorem dX2_persuasions_43 : decode cX2_persuasions 43 = .ok (.istore 5, 2) := by decide +kernel
theorem dX2_persuasions_45 : decode cX2_persuasions 45 = .ok (.iload 5, 2) := by decide +kernel
theorem dX2_persuasions_47 : decode cX2_persuasions 47 = .ok (.aload_n 0, 1) := by decide +kernel
theorem dX2_persuasions_48 : decode cX2_persuasions 48 = .ok (.getfield 41, 3) := by decide +kernel
theorem dX2_persuasions_51 : decode cX2_persuasions 51 = .ok (.if_icmp .ge 31, 3) := by decide +kernel
theorem dX2_persuasions_54 : decode cX2_persuasions 54 = .ok (.iload 4, 2) := by decide +kernel
theorem dX2_persuasions_56 : decode cX2_persuasions 56 = .ok (.aload_n 0, 1) := by decide +kernel
theorem dX2_persuasions_57 : decode cX2_persuasions 57 = .ok (.aload_n 1, 1) := by decide +kernel
theorem dX2_persuasions_58 : decode cX2_persuasions 58 = .ok (.iload_n 2, 1) := by decide +kernel
theorem dX2_persuasions_59 : decode cX2_persuasions 59 = .ok (.iload_n 3, 1) := by decide +kernel
theorem dX2_persuasions_60 : decode cX2_persuasions 60 = .ok (.iload 5, 2) := by decide +kernel
theorem dX2_persuasions_62 : decode cX2_persuasions 62 = .ok (.invokevirtual 170, 3) := by decide +kernel
theorem dX2_persuasions_65 : decode cX2_persuasions 65 = .ok (.ifCond .eq 7, 3) := by decide +kernel
theorem dX2_persuasions_68 : decode cX2_persuasions 68 = .ok (.iconst 1, 1) := by decide +kernel
theorem dX2_persuasions_69 : decode cX2_persuasions 69 = .ok (.goto 4, 3) := by decide +kernel
theorem dX2_persuasions_72 : decode cX2_persuasions 72 = .ok (.iconst 0, 1) := by decide +kernel
theorem dX2_persuasions_73 : decode cX2_persuasions 73 = .ok (.iadd, 1) := by decide +kernel
theorem dX2_persuasions_74 : decode cX2_persuasions 74 = .ok (.istore 4, 2) := by decide +kernel
theorem dX2_persuasions_76 : decode cX2_persuasions 76 = .ok (.iinc 5 1, 3) := by decide +kernel
theorem dX2_persuasions_79 : decode cX2_persuasions 79 = .ok (.goto (-34), 3) := by decide +kernel
theorem dX2_persuasions_82 : decode cX2_persuasions 82 = .ok (.iload 4, 2) := by decide +kernel
theorem dX2_persuasions_84 : decode cX2_persuasions 84 = .ok (.ireturn, 1) := by decide +kernel
theorem dX2_persuades_0 : decode cX2_persuades 0 = .ok (.aload_n 1, 1) := by decide +kernel
theorem dX2_persuades_1 : decode cX2_persuades 1 = .ok (.iload_n 2, 1) := by decide +kernel
theorem dX2_persuades_2 : decode cX2_persuades 2 = .ok (.iload 4, 2) := by decide +kernel
theorem dX2_persuades_4 : decode cX2_persuades 4 = .ok (.invokevirtual 132, 3) := by decide +kernel
theorem dX2_persuades_7 : decode cX2_persuades 7 = .ok (.istore 5, 2) := by decide +kernel
theorem dX2_persuades_9 : decode cX2_persuades 9 = .ok (.aload_n 1, 1) := by decide +kernel
theorem dX2_persuades_10 : decode cX2_persuades 10 = .ok (.iload_n 3, 1) := by decide +kernel
theorem dX2_persuades_11 : decode cX2_persuades 11 = .ok (.iload 4, 2) := by decide +kernel
theorem dX2_persuades_13 : decode cX2_persuades 13 = .ok (.invokevirtual 132, 3) := by decide +kernel
theorem dX2_persuades_16 : decode cX2_persuades 16 = .ok (.istore 6, 2) := by decide +kernel
theorem dX2_persuades_18 : decode cX2_persuades 18 = .ok (.iload 5, 2) := by decide +kernel
theorem dX2_persuades_20 : decode cX2_persuades 20 = .ok (.iconst (-1), 1) := by decide +kernel
theorem dX2_persuades_21 : decode cX2_persuades 21 = .ok (.if_icmp .eq 32, 3) := by decide +kernel
theorem dX2_persuades_24 : decode cX2_persuades 24 = .ok (.iload 5, 2) := by decide +kernel
theorem dX2_persuades_26 : decode cX2_persuades 26 = .ok (.iload 6, 2) := by decide +kernel
theorem dX2_persuades_28 : decode cX2_persuades 28 = .ok (.if_icmp .eq 25, 3) := by decide +kernel
theorem dX2_persuades_31 : decode cX2_persuades 31 = .ok (.iload 6, 2) := by decide +kernel
theorem dX2_persuades_33 : decode cX2_persuades 33 = .ok (.iconst (-1), 1) := by decide +kernel
theorem dX2_persuades_34 : decode cX2_persuades 34 = .ok (.if_icmp .eq 15, 3) := by decide +kernel
theorem dX2_persuades_37 : decode cX2_persuades 37 = .ok (.aload_n 0, 1) := by decide +kernel
theorem dX2_persuades_38 : decode cX2_persuades 38 = .ok (.getfield 32, 3) := by decide +kernel
theorem dX2_persuades_41 : decode cX2_persuades 41 = .ok (.iload_n 3, 1) := by decide +kernel
theorem dX2_persuades_42 : decode cX2_persuades 42 = .ok (.invokestatic 60, 3) := by decide +kernel
theorem dX2_persuades_45 : decode cX2_persuades 45 = .ok (.iconst 4, 1) := by decide +kernel
theorem dX2_persuades_46 : decode cX2_persuades 46 = .ok (.if_icmp .le 7, 3) := by decide +kernel
theorem dX2_persuades_49 : decode cX2_persuades 49 = .ok (.iconst 1, 1) := by decide +kernel
theorem dX2_persuades_50 : decode cX2_persuades 50 = .ok (.goto 4, 3) := by decide +kernel
theorem dX2_persuades_53 : decode cX2_persuades 53 = .ok (.iconst 0, 1) := by decide +kernel
theorem dX2_persuades_54 : decode cX2_persuades 54 = .ok (.ireturn, 1) := by decide +kernel
theorem dX2_persuade_0 : decode cX2_persuade 0 = .ok (.aload_n 0, 1) := by decide +kernel
theorem dX2_persuade_1 : decode cX2_persuade 1 = .ok (.aload_n 1, 1) := by decide +kernel
theorem dX2_persuade_2 : decode cX2_persuade 2 = .ok (.iload_n 2, 1) := by decide +kernel
theorem dX2_persuade_3 : decode cX2_persuade 3 = .ok (.iload_n 3, 1) := by decide +kernel
theorem dX2_persuade_4 : decode cX2_persuade 4 = .ok (.invokevirtual 173, 3) := by decide +kernel
theorem dX2_persuade_7 : decode cX2_persuade 7 = .ok (.istore 4, 2) := by decide +kernel
theorem dX2_persuade_9 : decode cX2_persuade 9 = .ok (.iconst 0, 1) := by decide +kernel
theorem dX2_persuade_10 : decode cX2_persuade 10 = .ok (.istore 5, 2) := by decide +kernel
theorem dX2_persuade_12 : decode cX2_persuade 12 = .ok (.iload 5, 2) := by decide +kernel
theorem dX2_persuade_14 : decode cX2_persuade 14 = .ok (.aload_n 0, 1) := by decide +kernel
theorem dX2_persuade_15 : decode cX2_persuade 15 = .ok (.getfield 41, 3) := by decide +kernel
theorem dX2_persuade_18 : decode cX2_persuade 18 = .ok (.if_icmp .ge 40, 3) := by decide +kernel
theorem dX2_persuade_21 : decode cX2_persuade 21 = .ok (.iload 4, 2) := by decide +kernel
theorem dX2_persuade_23 : decode cX2_persuade 23 = .ok (.ifCond .le 35, 3) := by decide +kernel
theorem dX2_persuade_26 : decode cX2_persuade 26 = .ok (.aload_n 0, 1) := by decide +kernel
theorem dX2_persuade_27 : decode cX2_persuade 27 = .ok (.aload_n 1, 1) := by decide +kernel
theorem dX2_persuade_28 : decode cX2_persuade 28 = .ok (.iload_n 2, 1) := by decide +kernel
theorem dX2_persuade_29 : decode cX2_persuade 29 = .ok (.iload_n 3, 1) := by decide +kernel
theorem dX2_persuade_30 : decode cX2_persuade 30 = .ok (.iload 5, 2) := by decide +kernel
theorem dX2_persuade_32 : decode cX2_persuade 32 = .ok (.invokevirtual 170, 3) := by decide +kernel
theorem dX2_persuade_35 : decode cX2_persuade 35 = .ok (.ifCond .eq 17, 3) := by decide +kernel
theorem dX2_persuade_38 : decode cX2_persuade 38 = .ok (.aload_n 1, 1) := by decide +kernel
theorem dX2_persuade_39 : decode cX2_persuade 39 = .ok (.iload_n 3, 1) := by decide +kernel
theorem dX2_persuade_40 : decode cX2_persuade 40 = .ok (.iload 5, 2) := by decide +kernel
theorem dX2_persuade_42 : decode cX2_persuade 42 = .ok (.aload_n 1, 1) := by decide +kernel
theorem dX2_persuade_43 : decode cX2_persuade 43 = .ok (.iload_n 2, 1) := by decide +kernel
theorem dX2_persuade_44 : decode cX2_persuade 44 = .ok (.iload 5, 2) := by decide +kernel
theorem dX2_persuade_46 : decode cX2_persuade 46 = .ok (.invokevirtual 132, 3) := by decide +kernel
theorem dX2_persuade_49 : decode cX2_persuade 49 = .ok (.invokevirtual 159, 3) := by decide +kernel
theorem dX2_persuade_52 : decode cX2_persuade 52 = .ok (.iinc 5 1, 3) := by decide +kernel
theorem dX2_persuade_55 : decode cX2_persuade 55 = .ok (.goto (-43), 3) := by decide +kernel
theorem dX2_persuade_58 : decode cX2_persuade 58 = .ok (.iload 4, 2) := by decide +kernel
theorem dX2_persuade_60 : decode cX2_persuade 60 = .ok (.ireturn, 1) := by decide +kernel
theorem dX2_reissue_0 : decode cX2_reissue 0 = .ok (.aload_n 1, 1) := by decide +kernel
theorem dX2_reissue_1 : decode cX2_reissue 1 = .ok (.getfield 89, 3) := by decide +kernel
theorem dX2_reissue_4 : decode cX2_reissue 4 = .ok (.aload_n 0, 1) := by decide +kernel
theorem dX2_reissue_5 : decode cX2_reissue 5 = .ok (.getfield 44, 3) := by decide +kernel
theorem dX2_reissue_8 : decode cX2_reissue 8 = .ok (.if_icmp .ge 5, 3) := by decide +kernel
theorem dX2_reissue_11 : decode cX2_reissue 11 = .ok (.iconst (-1), 1) := by decide +kernel
theorem dX2_reissue_12 : decode cX2_reissue 12 = .ok (.ireturn, 1) := by decide +kernel
theorem dX2_reissue_13 : decode cX2_reissue 13 = .ok (.aload_n 1, 1) := by decide +kernel
theorem dX2_reissue_14 : decode cX2_reissue 14 = .ok (.iconst 0, 1) := by decide +kernel
theorem dX2_reissue_15 : decode cX2_reissue 15 = .ok (.putfield 89, 3) := by decide +kernel
theorem dX2_reissue_18 : decode cX2_reissue 18 = .ok (.aload_n 1, 1) := by decide +kernel
theorem dX2_reissue_19 : decode cX2_reissue 19 = .ok (.dup, 1) := by decide +kernel
theorem dX2_reissue_20 : decode cX2_reissue 20 = .ok (.getfield 94, 3) := by decide +kernel
theorem dX2_reissue_23 : decode cX2_reissue 23 = .ok (.iconst 1, 1) := by decide +kernel
theorem dX2_reissue_24 : decode cX2_reissue 24 = .ok (.iadd, 1) := by decide +kernel
theorem dX2_reissue_25 : decode cX2_reissue 25 = .ok (.putfield 94, 3) := by decide +kernel
theorem dX2_reissue_28 : decode cX2_reissue 28 = .ok (.aload_n 1, 1) := by decide +kernel
theorem dX2_reissue_29 : decode cX2_reissue 29 = .ok (.getfield 94, 3) := by decide +kernel
theorem dX2_reissue_32 : decode cX2_reissue 32 = .ok (.ireturn, 1) := by decide +kernel
theorem dX3_init_0 : decode cX3_init 0 = .ok (.aload_n 0, 1) := by decide +kernel
theorem dX3_init_1 : decode cX3_init 1 = .ok (.invokespecial 3, 3) := by decide +kernel
theorem dX3_init_4 : decode cX3_init 4 = .ok (.aload_n 0, 1) := by decide +kernel
theorem dX3_init_5 : decode cX3_init 5 = .ok (.bipush 8, 2) := by decide +kernel
theorem dX3_init_7 : decode cX3_init 7 = .ok (.newarray .int, 2) := by decide +kernel
theorem dX3_init_9 : decode cX3_init 9 = .ok (.putfield 9, 3) := by decide +kernel
theorem dX3_init_12 : decode cX3_init 12 = .ok (.aload_n 0, 1) := by decide +kernel
theorem dX3_init_13 : decode cX3_init 13 = .ok (.bipush 36, 2) := by decide +kernel
theorem dX3_init_15 : decode cX3_init 15 = .ok (.newarray .int, 2) := by decide +kernel
theorem dX3_init_17 : decode cX3_init 17 = .ok (.putfield 15, 3) := by decide +kernel
theorem dX3_init_20 : decode cX3_init 20 = .ok (.aload_n 0, 1) := by decide +kernel
theorem dX3_init_21 : decode cX3_init 21 = .ok (.bipush 6, 2) := by decide +kernel
theorem dX3_init_23 : decode cX3_init 23 = .ok (.newarray .int, 2) := by decide +kernel
theorem dX3_init_25 : decode cX3_init 25 = .ok (.putfield 18, 3) := by decide +kernel
theorem dX3_init_28 : decode cX3_init 28 = .ok (.return_, 1) := by decide +kernel
theorem dX3_copy_0 : decode cX3_copy 0 = .ok (.aload_n 0, 1) := by decide +kernel
theorem dX3_copy_1 : decode cX3_copy 1 = .ok (.aload_n 1, 1) := by decide +kernel
theorem dX3_copy_2 : decode cX3_copy 2 = .ok (.getfield 21, 3) := by decide +kernel
theorem dX3_copy_5 : decode cX3_copy 5 = .ok (.putfield 21, 3) := by decide +kernel
theorem dX3_copy_8 : decode cX3_copy 8 = .ok (.aload_n 0, 1) := by decide +kernel
theorem dX3_copy_9 : decode cX3_copy 9 = .ok (.aload_n 1, 1) := by decide +kernel
theorem dX3_copy_10 : decode cX3_copy 10 = .ok (.getfield 25, 3) := by decide +kernel
theorem dX3_copy_13 : decode cX3_copy 13 = .ok (.putfield 25, 3) := by decide +kernel
theorem dX3_copy_16 : decode cX3_copy 16 = .ok (.aload_n 0, 1) := by decide +kernel
theorem dX3_copy_17 : decode cX3_copy 17 = .ok (.aload_n 1, 1) := by decide +kernel
theorem dX3_copy_18 : decode cX3_copy 18 = .ok (.getfield 28, 3) := by decide +kernel
theorem dX3_copy_21 : decode cX3_copy 21 = .ok (.putfield 28, 3) := by decide +kernel
theorem dX3_copy_24 : decode cX3_copy 24 = .ok (.aload_n 0, 1) := by decide +kernel
theorem dX3_copy_25 : decode cX3_copy 25 = .ok (.aload_n 1, 1) := by decide +kernel
theorem dX3_copy_26 : decode cX3_copy 26 = .ok (.getfield 31, 3) := by decide +kernel
theorem dX3_copy_29 : decode cX3_copy 29 = .ok (.putfield 31, 3) := by decide +kernel
theorem dX3_copy_32 : decode cX3_copy 32 = .ok (.aload_n 1, 1) := by decide +kernel
theorem dX3_copy_33 : decode cX3_copy 33 = .ok (.getfield 9, 3) := by decide +kernel
theorem dX3_copy_36 : decode cX3_copy 36 = .ok (.aload_n 0, 1) := by decide +kernel
theorem dX3_copy_37 : decode cX3_copy 37 = .ok (.getfield 9, 3) := by decide +kernel
theorem dX3_copy_40 : decode cX3_copy 40 = .ok (.invokestatic 34, 3) := by decide +kernel
theorem dX3_copy_43 : decode cX3_copy 43 = .ok (.aload_n 1, 1) := by decide +kernel
theorem dX3_copy_44 : decode cX3_copy 44 = .ok (.getfield 15, 3) := by decide +kernel
theorem dX3_copy_47 : decode cX3_copy 47 = .ok (.aload_n 0, 1) := by decide +kernel
theorem dX3_copy_48 : decode cX3_copy 48 = .ok (.getfield 15, 3) := by decide +kernel
theorem dX3_copy_51 : decode cX3_copy 51 = .ok (.invokestatic 34, 3) := by decide +kernel
theorem dX3_copy_54 : decode cX3_copy 54 = .ok (.aload_n 1, 1) := by decide +kernel
theorem dX3_copy_55 : decode cX3_copy 55 = .ok (.getfield 18, 3) := by decide +kernel
theorem dX3_copy_58 : decode cX3_copy 58 = .ok (.aload_n 0, 1) := by decide +kernel
theorem dX3_copy_59 : decode cX3_copy 59 = .ok (.getfield 18, 3) := by decide +kernel
theorem dX3_copy_62 : decode cX3_copy 62 = .ok (.invokestatic 34, 3) := by decide +kernel
theorem dX3_copy_65 : decode cX3_copy 65 = .ok (.return_, 1) := by decide +kernel
theorem dX3_isIn_0 : decode cX3_isIn 0 = .ok (.aload_n 0, 1) := by decide +kernel
theorem dX3_isIn_1 : decode cX3_isIn 1 = .ok (.getfield 28, 3) := by decide +kernel
theorem dX3_isIn_4 : decode cX3_isIn 4 = .ok (.iload_n 1, 1) := by decide +kernel
theorem dX3_isIn_5 : decode cX3_isIn 5 = .ok (.ishr, 1) := by decide +kernel
theorem dX3_isIn_6 : decode cX3_isIn 6 = .ok (.iconst 1, 1) := by decide +kernel
theorem dX3_isIn_7 : decode cX3_isIn 7 = .ok (.iand, 1) := by decide +kernel
theorem dX3_isIn_8 : decode cX3_isIn 8 = .ok (.iconst 1, 1) := by decide +kernel
theorem dX3_isIn_9 : decode cX3_isIn 9 = .ok (.if_icmp .ne 7, 3) := by decide +kernel
theorem dX3_isIn_12 : decode cX3_isIn 12 = .ok (.iconst 1, 1) := by decide +kernel
theorem dX3_isIn_13 : decode cX3_isIn 13 = .ok (.goto 4, 3) := by decide +kernel
theorem dX3_isIn_16 : decode cX3_isIn 16 = .ok (.iconst 0, 1) := by decide +kernel
theorem dX3_isIn_17 : decode cX3_isIn 17 = .ok (.ireturn, 1) := by decide +kernel
theorem dX3_isCut_0 : decode cX3_isCut 0 = .ok (.aload_n 0, 1) := by decide +kernel
theorem dX3_isCut_1 : decode cX3_isCut 1 = .ok (.getfield 31, 3) := by decide +kernel
theorem dX3_isCut_4 : decode cX3_isCut 4 = .ok (.iload_n 1, 1) := by decide +kernel
theorem dX3_isCut_5 : decode cX3_isCut 5 = .ok (.ishr, 1) := by decide +kernel
theorem dX3_isCut_6 : decode cX3_isCut 6 = .ok (.iconst 1, 1) := by decide +kernel
theorem dX3_isCut_7 : decode cX3_isCut 7 = .ok (.iand, 1) := by decide +kernel
theorem dX3_isCut_8 : decode cX3_isCut 8 = .ok (.iconst 1, 1) := by decide +kernel
theorem dX3_isCut_9 : decode cX3_isCut 9 = .ok (.if_icmp .ne 7, 3) := by decide +kernel
theorem dX3_isCut_12 : decode cX3_isCut 12 = .ok (.iconst 1, 1) := by decide +kernel
theorem dX3_isCut_13 : decode cX3_isCut 13 = .ok (.goto 4, 3) := by decide +kernel
theorem dX3_isCut_16 : decode cX3_isCut 16 = .ok (.iconst 0, 1) := by decide +kernel
theorem dX3_isCut_17 : decode cX3_isCut 17 = .ok (.ireturn, 1) := by decide +kernel
theorem dX3_writing_0 : decode cX3_writing 0 = .ok (.aload_n 0, 1) := by decide +kernel
theorem dX3_writing_1 : decode cX3_writing 1 = .ok (.getfield 9, 3) := by decide +kernel
theorem dX3_writing_4 : decode cX3_writing 4 = .ok (.iload_n 1, 1) := by decide +kernel
theorem dX3_writing_5 : decode cX3_writing 5 = .ok (.invokestatic 40, 3) := by decide +kernel
theorem dX3_writing_8 : decode cX3_writing 8 = .ok (.ireturn, 1) := by decide +kernel
theorem dX3_thought_0 : decode cX3_thought 0 = .ok (.iload_n 1, 1) := by decide +kernel
theorem dX3_thought_1 : decode cX3_thought 1 = .ok (.bipush 6, 2) := by decide +kernel
theorem dX3_thought_3 : decode cX3_thought 3 = .ok (.imul, 1) := by decide +kernel
theorem dX3_thought_4 : decode cX3_thought 4 = .ok (.iload_n 2, 1) := by decide +kernel
theorem dX3_thought_5 : decode cX3_thought 5 = .ok (.iadd, 1) := by decide +kernel
theorem dX3_thought_6 : decode cX3_thought 6 = .ok (.istore_n 3, 1) := by decide +kernel
theorem dX3_thought_7 : decode cX3_thought 7 = .ok (.iload_n 3, 1) := by decide +kernel
theorem dX3_thought_8 : decode cX3_thought 8 = .ok (.ifCond .lt 21, 3) := by decide +kernel
theorem dX3_thought_11 : decode cX3_thought 11 = .ok (.iload_n 3, 1) := by decide +kernel
theorem dX3_thought_12 : decode cX3_thought 12 = .ok (.aload_n 0, 1) := by decide +kernel
theorem dX3_thought_13 : decode cX3_thought 13 = .ok (.getfield 15, 3) := by decide +kernel
theorem dX3_thought_16 : decode cX3_thought 16 = .ok (.arraylength, 1) := by decide +kernel
theorem dX3_thought_17 : decode cX3_thought 17 = .ok (.if_icmp .ge 12, 3) := by decide +kernel
theorem dX3_thought_20 : decode cX3_thought 20 = .ok (.aload_n 0, 1) := by decide +kernel
theorem dX3_thought_21 : decode cX3_thought 21 = .ok (.getfield 15, 3) := by decide +kernel
theorem dX3_thought_24 : decode cX3_thought 24 = .ok (.iload_n 3, 1) := by decide +kernel
theorem dX3_thought_25 : decode cX3_thought 25 = .ok (.iaload, 1) := by decide +kernel
theorem dX3_thought_26 : decode cX3_thought 26 = .ok (.goto 4, 3) := by decide +kernel
theorem dX3_thought_29 : decode cX3_thought 29 = .ok (.iconst (-1), 1) := by decide +kernel
theorem dX3_thought_30 : decode cX3_thought 30 = .ok (.ireturn, 1) := by decide +kernel
theorem dX3_think_0 : decode cX3_think 0 = .ok (.aload_n 0, 1) := by decide +kernel
theorem dX3_think_1 : decode cX3_think 1 = .ok (.getfield 15, 3) := by decide +kernel
theorem dX3_think_4 : decode cX3_think 4 = .ok (.iload_n 1, 1) := by decide +kernel
theorem dX3_think_5 : decode cX3_think 5 = .ok (.bipush 6, 2) := by decide +kernel
theorem dX3_think_7 : decode cX3_think 7 = .ok (.imul, 1) := by decide +kernel
theorem dX3_think_8 : decode cX3_think 8 = .ok (.iload_n 2, 1) := by decide +kernel
theorem dX3_think_9 : decode cX3_think 9 = .ok (.iadd, 1) := by decide +kernel
theorem dX3_think_10 : decode cX3_think 10 = .ok (.iload_n 3, 1) := by decide +kernel
theorem dX3_think_11 : decode cX3_think 11 = .ok (.invokestatic 44, 3) := by decide +kernel
theorem dX3_think_14 : decode cX3_think 14 = .ok (.return_, 1) := by decide +kernel
theorem dX4_init_0 : decode cX4_init 0 = .ok (.aload_n 0, 1) := by decide +kernel
theorem dX4_init_1 : decode cX4_init 1 = .ok (.invokespecial 3, 3) := by decide +kernel
theorem dX4_init_4 : decode cX4_init 4 = .ok (.aload_n 0, 1) := by decide +kernel
theorem dX4_init_5 : decode cX4_init 5 = .ok (.sipush 1000, 3) := by decide +kernel
theorem dX4_init_8 : decode cX4_init 8 = .ok (.newarray .int, 2) := by decide +kernel
theorem dX4_init_10 : decode cX4_init 10 = .ok (.putfield 9, 3) := by decide +kernel
theorem dX4_init_13 : decode cX4_init 13 = .ok (.aload_n 0, 1) := by decide +kernel
theorem dX4_init_14 : decode cX4_init 14 = .ok (.bipush 24, 2) := by decide +kernel
theorem dX4_init_16 : decode cX4_init 16 = .ok (.newarray .int, 2) := by decide +kernel
theorem dX4_init_18 : decode cX4_init 18 = .ok (.putfield 15, 3) := by decide +kernel
theorem dX4_init_21 : decode cX4_init 21 = .ok (.return_, 1) := by decide +kernel
theorem dX4_emit_0 : decode cX4_emit 0 = .ok (.aload_n 0, 1) := by decide +kernel
theorem dX4_emit_1 : decode cX4_emit 1 = .ok (.getfield 18, 3) := by decide +kernel
theorem dX4_emit_4 : decode cX4_emit 4 = .ok (.aload_n 0, 1) := by decide +kernel
theorem dX4_emit_5 : decode cX4_emit 5 = .ok (.getfield 9, 3) := by decide +kernel
theorem dX4_emit_8 : decode cX4_emit 8 = .ok (.arraylength, 1) := by decide +kernel
theorem dX4_emit_9 : decode cX4_emit 9 = .ok (.if_icmp .ge 25, 3) := by decide +kernel
theorem dX4_emit_12 : decode cX4_emit 12 = .ok (.aload_n 0, 1) := by decide +kernel
theorem dX4_emit_13 : decode cX4_emit 13 = .ok (.getfield 9, 3) := by decide +kernel
theorem dX4_emit_16 : decode cX4_emit 16 = .ok (.aload_n 0, 1) := by decide +kernel
theorem dX4_emit_17 : decode cX4_emit 17 = .ok (.getfield 18, 3) := by decide +kernel
theorem dX4_emit_20 : decode cX4_emit 20 = .ok (.iload_n 1, 1) := by decide +kernel
theorem dX4_emit_21 : decode cX4_emit 21 = .ok (.invokestatic 22, 3) := by decide +kernel
theorem dX4_emit_24 : decode cX4_emit 24 = .ok (.aload_n 0, 1) := by decide +kernel
theorem dX4_emit_25 : decode cX4_emit 25 = .ok (.dup, 1) := by decide +kernel
theorem dX4_emit_26 : decode cX4_emit 26 = .ok (.getfield 18, 3) := by decide +kernel
theorem dX4_emit_29 : decode cX4_emit 29 = .ok (.iconst 1, 1) := by decide +kernel
theorem dX4_emit_30 : decode cX4_emit 30 = .ok (.iadd, 1) := by decide +kernel
theorem dX4_emit_31 : decode cX4_emit 31 = .ok (.putfield 18, 3) := by decide +kernel
theorem dX4_emit_34 : decode cX4_emit 34 = .ok (.return_, 1) := by decide +kernel
theorem dX4_readAll_0 : decode cX4_readAll 0 = .ok (.aload_n 0, 1) := by decide +kernel
theorem dX4_readAll_1 : decode cX4_readAll 1 = .ok (.aload_n 1, 1) := by decide +kernel
theorem dX4_readAll_2 : decode cX4_readAll 2 = .ok (.iload_n 2, 1) := by decide +kernel
theorem dX4_readAll_3 : decode cX4_readAll 3 = .ok (.invokevirtual 28, 3) := by decide +kernel
theorem dX4_readAll_6 : decode cX4_readAll 6 = .ok (.iconst 0, 1) := by decide +kernel
theorem dX4_readAll_7 : decode cX4_readAll 7 = .ok (.istore_n 3, 1) := by decide +kernel
theorem dX4_readAll_8 : decode cX4_readAll 8 = .ok (.iload_n 3, 1) := by decide +kernel
theorem dX4_readAll_9 : decode cX4_readAll 9 = .ok (.sipush 1000, 3) := by decide +kernel
theorem dX4_readAll_12 : decode cX4_readAll 12 = .ok (.if_icmp .ge 64, 3) := by decide +kernel
theorem dX4_readAll_15 : decode cX4_readAll 15 = .ok (.aload_n 1, 1) := by decide +kernel
theorem dX4_readAll_16 : decode cX4_readAll 16 = .ok (.getstatic 32, 3) := by decide +kernel
theorem dX4_readAll_19 : decode cX4_readAll 19 = .ok (.invokevirtual 38, 3) := by decide +kernel
theorem dX4_readAll_22 : decode cX4_readAll 22 = .ok (.ifCond .ne 13, 3) := by decide +kernel
theorem dX4_readAll_25 : decode cX4_readAll 25 = .ok (.aload_n 1, 1) := by decide +kernel
theorem dX4_readAll_26 : decode cX4_readAll 26 = .ok (.getstatic 44, 3) := by decide +kernel
theorem dX4_readAll_29 : decode cX4_readAll 29 = .ok (.invokevirtual 38, 3) := by decide +kernel
theorem dX4_readAll_32 : decode cX4_readAll 32 = .ok (.ifCond .eq 44, 3) := by decide +kernel
theorem dX4_readAll_35 : decode cX4_readAll 35 = .ok (.aload_n 1, 1) := by decide +kernel
theorem dX4_readAll_36 : decode cX4_readAll 36 = .ok (.getstatic 32, 3) := by decide +kernel
theorem dX4_readAll_39 : decode cX4_readAll 39 = .ok (.invokevirtual 38, 3) := by decide +kernel
theorem dX4_readAll_42 : decode cX4_readAll 42 = .ok (.ifCond .eq 8, 3) := by decide +kernel
theorem dX4_readAll_45 : decode cX4_readAll 45 = .ok (.bipush (-11), 2) := by decide +kernel
theorem dX4_readAll_47 : decode cX4_readAll 47 = .ok (.goto 5, 3) := by decide +kernel
theorem dX4_readAll_50 : decode cX4_readAll 50 = .ok (.bipush (-12), 2) := by decide +kernel
theorem dX4_readAll_52 : decode cX4_readAll 52 = .ok (.istore 4, 2) := by decide +kernel
theorem dX4_readAll_54 : decode cX4_readAll 54 = .ok (.aload_n 1, 1) := by decide +kernel
theorem dX4_readAll_55 : decode cX4_readAll 55 = .ok (.invokevirtual 47, 3) := by decide +kernel
theorem dX4_readAll_58 : decode cX4_readAll 58 = .ok (.aload_n 0, 1) := by decide +kernel
theorem dX4_readAll_59 : decode cX4_readAll 59 = .ok (.aload_n 1, 1) := by decide +kernel
theorem dX4_readAll_60 : decode cX4_readAll 60 = .ok (.iload_n 2, 1) := by decide +kernel
theorem dX4_readAll_61 : decode cX4_readAll 61 = .ok (.invokevirtual 28, 3) := by decide +kernel
theorem dX4_readAll_64 : decode cX4_readAll 64 = .ok (.aload_n 0, 1) := by decide +kernel
theorem dX4_readAll_65 : decode cX4_readAll 65 = .ok (.iload 4, 2) := by decide +kernel
theorem dX4_readAll_67 : decode cX4_readAll 67 = .ok (.invokevirtual 50, 3) := by decide +kernel
theorem dX4_readAll_70 : decode cX4_readAll 70 = .ok (.iinc 3 1, 3) := by decide +kernel
theorem dX4_readAll_73 : decode cX4_readAll 73 = .ok (.goto (-65), 3) := by decide +kernel
theorem dX4_readAll_76 : decode cX4_readAll 76 = .ok (.return_, 1) := by decide +kernel
theorem dX4_readTest_0 : decode cX4_readTest 0 = .ok (.aload_n 0, 1) := by decide +kernel
theorem dX4_readTest_1 : decode cX4_readTest 1 = .ok (.aload_n 1, 1) := by decide +kernel
theorem dX4_readTest_2 : decode cX4_readTest 2 = .ok (.iload_n 2, 1) := by decide +kernel
theorem dX4_readTest_3 : decode cX4_readTest 3 = .ok (.invokevirtual 54, 3) := by decide +kernel
theorem dX4_readTest_6 : decode cX4_readTest 6 = .ok (.aload_n 1, 1) := by decide +kernel
theorem dX4_readTest_7 : decode cX4_readTest 7 = .ok (.bipush 60, 2) := by decide +kernel
theorem dX4_readTest_9 : decode cX4_readTest 9 = .ok (.invokevirtual 57, 3) := by decide +kernel
theorem dX4_readTest_12 : decode cX4_readTest 12 = .ok (.ifCond .ne 12, 3) := by decide +kernel
theorem dX4_readTest_15 : decode cX4_readTest 15 = .ok (.aload_n 1, 1) := by decide +kernel
theorem dX4_readTest_16 : decode cX4_readTest 16 = .ok (.bipush 61, 2) := by decide +kernel
theorem dX4_readTest_18 : decode cX4_readTest 18 = .ok (.invokevirtual 57, 3) := by decide +kernel
theorem dX4_readTest_21 : decode cX4_readTest 21 = .ok (.ifCond .eq 35, 3) := by decide +kernel
theorem dX4_readTest_24 : decode cX4_readTest 24 = .ok (.aload_n 1, 1) := by decide +kernel
theorem dX4_readTest_25 : decode cX4_readTest 25 = .ok (.bipush 60, 2) := by decide +kernel
theorem dX4_readTest_27 : decode cX4_readTest 27 = .ok (.invokevirtual 57, 3) := by decide +kernel
theorem dX4_readTest_30 : decode cX4_readTest 30 = .ok (.ifCond .eq 8, 3) := by decide +kernel
theorem dX4_readTest_33 : decode cX4_readTest 33 = .ok (.bipush (-9), 2) := by decide +kernel
theorem dX4_readTest_35 : decode cX4_readTest 35 = .ok (.goto 5, 3) := by decide +kernel
theorem dX4_readTest_38 : decode cX4_readTest 38 = .ok (.bipush (-10), 2) := by decide +kernel
theorem dX4_readTest_40 : decode cX4_readTest 40 = .ok (.istore_n 3, 1) := by decide +kernel
theorem dX4_readTest_41 : decode cX4_readTest 41 = .ok (.aload_n 1, 1) := by decide +kernel
theorem dX4_readTest_42 : decode cX4_readTest 42 = .ok (.invokevirtual 47, 3) := by decide +kernel
theorem dX4_readTest_45 : decode cX4_readTest 45 = .ok (.aload_n 0, 1) := by decide +kernel
theorem dX4_readTest_46 : decode cX4_readTest 46 = .ok (.aload_n 1, 1) := by decide +kernel
theorem dX4_readTest_47 : decode cX4_readTest 47 = .ok (.iload_n 2, 1) := by decide +kernel
theorem dX4_readTest_48 : decode cX4_readTest 48 = .ok (.invokevirtual 54, 3) := by decide +kernel
theorem dX4_readTest_51 : decode cX4_readTest 51 = .ok (.aload_n 0, 1) := by decide +kernel
theorem dX4_readTest_52 : decode cX4_readTest 52 = .ok (.iload_n 3, 1) := by decide +kernel
theorem dX4_readTest_53 : decode cX4_readTest 53 = .ok (.invokevirtual 50, 3) := by decide +kernel
theorem dX4_readTest_56 : decode cX4_readTest 56 = .ok (.return_, 1) := by decide +kernel
theorem dX4_readSum_0 : decode cX4_readSum 0 = .ok (.aload_n 0, 1) := by decide +kernel
theorem dX4_readSum_1 : decode cX4_readSum 1 = .ok (.aload_n 1, 1) := by decide +kernel
theorem dX4_readSum_2 : decode cX4_readSum 2 = .ok (.iload_n 2, 1) := by decide +kernel
theorem dX4_readSum_3 : decode cX4_readSum 3 = .ok (.invokevirtual 61, 3) := by decide +kernel
theorem dX4_readSum_6 : decode cX4_readSum 6 = .ok (.iconst 0, 1) := by decide +kernel
theorem dX4_readSum_7 : decode cX4_readSum 7 = .ok (.istore_n 3, 1) := by decide +kernel
theorem dX4_readSum_8 : decode cX4_readSum 8 = .ok (.iload_n 3, 1) := by decide +kernel
theorem dX4_readSum_9 : decode cX4_readSum 9 = .ok (.sipush 1000, 3) := by decide +kernel
theorem dX4_readSum_12 : decode cX4_readSum 12 = .ok (.if_icmp .ge 61, 3) := by decide +kernel
theorem dX4_readSum_15 : decode cX4_readSum 15 = .ok (.aload_n 1, 1) := by decide +kernel
theorem dX4_readSum_16 : decode cX4_readSum 16 = .ok (.bipush 43, 2) := by decide +kernel
theorem dX4_readSum_18 : decode cX4_readSum 18 = .ok (.invokevirtual 57, 3) := by decide +kernel
theorem dX4_readSum_21 : decode cX4_readSum 21 = .ok (.ifCond .ne 12, 3) := by decide +kernel
theorem dX4_readSum_24 : decode cX4_readSum 24 = .ok (.aload_n 1, 1) := by decide +kernel
theorem dX4_readSum_25 : decode cX4_readSum 25 = .ok (.bipush 45, 2) := by decide +kernel
theorem dX4_readSum_27 : decode cX4_readSum 27 = .ok (.invokevirtual 57, 3) := by decide +kernel
theorem dX4_readSum_30 : decode cX4_readSum 30 = .ok (.ifCond .eq 43, 3) := by decide +kernel
theorem dX4_readSum_33 : decode cX4_readSum 33 = .ok (.aload_n 1, 1) := by decide +kernel
theorem dX4_readSum_34 : decode cX4_readSum 34 = .ok (.bipush 43, 2) := by decide +kernel
theorem dX4_readSum_36 : decode cX4_readSum 36 = .ok (.invokevirtual 57, 3) := by decide +kernel
theorem dX4_readSum_39 : decode cX4_readSum 39 = .ok (.ifCond .eq 8, 3) := by decide +kernel
theorem dX4_readSum_42 : decode cX4_readSum 42 = .ok (.bipush (-7), 2) := by decide +kernel
theorem dX4_readSum_44 : decode cX4_readSum 44 = .ok (.goto 5, 3) := by decide +kernel
theorem dX4_readSum_47 : decode cX4_readSum 47 = .ok (.bipush (-8), 2) := by decide +kernel
theorem dX4_readSum_49 : decode cX4_readSum 49 = .ok (.istore 4, 2) := by decide +kernel
theorem dX4_readSum_51 : decode cX4_readSum 51 = .ok (.aload_n 1, 1) := by decide +kernel
theorem dX4_readSum_52 : decode cX4_readSum 52 = .ok (.invokevirtual 47, 3) := by decide +kernel
theorem dX4_readSum_55 : decode cX4_readSum 55 = .ok (.aload_n 0, 1) := by decide +kernel
theorem dX4_readSum_56 : decode cX4_readSum 56 = .ok (.aload_n 1, 1) := by decide +kernel
theorem dX4_readSum_57 : decode cX4_readSum 57 = .ok (.iload_n 2, 1) := by decide +kernel
theorem dX4_readSum_58 : decode cX4_readSum 58 = .ok (.invokevirtual 61, 3) := by decide +kernel
theorem dX4_readSum_61 : decode cX4_readSum 61 = .ok (.aload_n 0, 1) := by decide +kernel
theorem dX4_readSum_62 : decode cX4_readSum 62 = .ok (.iload 4, 2) := by decide +kernel
theorem dX4_readSum_64 : decode cX4_readSum 64 = .ok (.invokevirtual 50, 3) := by decide +kernel
theorem dX4_readSum_67 : decode cX4_readSum 67 = .ok (.iinc 3 1, 3) := by decide +kernel
theorem dX4_readSum_70 : decode cX4_readSum 70 = .ok (.goto (-62), 3) := by decide +kernel
theorem dX4_readSum_73 : decode cX4_readSum 73 = .ok (.return_, 1) := by decide +kernel
theorem dX4_readProduct_0 : decode cX4_readProduct 0 = .ok (.aload_n 0, 1) := by decide +kernel
theorem dX4_readProduct_1 : decode cX4_readProduct 1 = .ok (.aload_n 1, 1) := by decide +kernel
theorem dX4_readProduct_2 : decode cX4_readProduct 2 = .ok (.iload_n 2, 1) := by decide +kernel
theorem dX4_readProduct_3 : decode cX4_readProduct 3 = .ok (.invokevirtual 64, 3) := by decide +kernel
theorem dX4_readProduct_6 : decode cX4_readProduct 6 = .ok (.iconst 0, 1) := by decide +kernel
theorem dX4_readProduct_7 : decode cX4_readProduct 7 = .ok (.istore_n 3, 1) := by decide +kernel
theorem dX4_readProduct_8 : decode cX4_readProduct 8 = .ok (.iload_n 3, 1) := by decide +kernel
theorem dX4_readProduct_9 : decode cX4_readProduct 9 = .ok (.sipush 1000, 3) := by decide +kernel
theorem dX4_readProduct_12 : decode cX4_readProduct 12 = .ok (.if_icmp .ge 34, 3) := by decide +kernel
theorem dX4_readProduct_15 : decode cX4_readProduct 15 = .ok (.aload_n 1, 1) := by decide +kernel
theorem dX4_readProduct_16 : decode cX4_readProduct 16 = .ok (.bipush 42, 2) := by decide +kernel
theorem dX4_readProduct_18 : decode cX4_readProduct 18 = .ok (.invokevirtual 57, 3) := by decide +kernel
theorem dX4_readProduct_21 : decode cX4_readProduct 21 = .ok (.ifCond .eq 25, 3) := by decide +kernel
theorem dX4_readProduct_24 : decode cX4_readProduct 24 = .ok (.aload_n 1, 1) := by decide +kernel
theorem dX4_readProduct_25 : decode cX4_readProduct 25 = .ok (.invokevirtual 47, 3) := by decide +kernel
theorem dX4_readProduct_28 : decode cX4_readProduct 28 = .ok (.aload_n 0, 1) := by decide +kernel
theorem dX4_readProduct_29 : decode cX4_readProduct 29 = .ok (.aload_n 1, 1) := by decide +kernel
theorem dX4_readProduct_30 : decode cX4_readProduct 30 = .ok (.iload_n 2, 1) := by decide +kernel
theorem dX4_readProduct_31 : decode cX4_readProduct 31 = .ok (.invokevirtual 64, 3) := by decide +kernel
theorem dX4_readProduct_34 : decode cX4_readProduct 34 = .ok (.aload_n 0, 1) := by decide +kernel
theorem dX4_readProduct_35 : decode cX4_readProduct 35 = .ok (.bipush (-6), 2) := by decide +kernel
theorem dX4_readProduct_37 : decode cX4_readProduct 37 = .ok (.invokevirtual 50, 3) := by decide +kernel
theorem dX4_readProduct_40 : decode cX4_readProduct 40 = .ok (.iinc 3 1, 3) := by decide +kernel
theorem dX4_readProduct_43 : decode cX4_readProduct 43 = .ok (.goto (-35), 3) := by decide +kernel
theorem dX4_readProduct_46 : decode cX4_readProduct 46 = .ok (.return_, 1) := by decide +kernel
theorem dX4_readPart_0 : decode cX4_readPart 0 = .ok (.aload_n 1, 1) := by decide +kernel
theorem dX4_readPart_1 : decode cX4_readPart 1 = .ok (.invokestatic 67, 3) := by decide +kernel
theorem dX4_readPart_4 : decode cX4_readPart 4 = .ok (.istore_n 3, 1) := by decide +kernel
theorem dX4_readPart_5 : decode cX4_readPart 5 = .ok (.aload_n 1, 1) := by decide +kernel
theorem dX4_readPart_6 : decode cX4_readPart 6 = .ok (.getfield 71, 3) := by decide +kernel
theorem dX4_readPart_9 : decode cX4_readPart 9 = .ok (.iconst 3, 1) := by decide +kernel
theorem dX4_readPart_10 : decode cX4_readPart 10 = .ok (.if_icmp .ne 7, 3) := by decide +kernel
theorem dX4_readPart_13 : decode cX4_readPart 13 = .ok (.iconst 1, 1) := by decide +kernel
theorem dX4_readPart_14 : decode cX4_readPart 14 = .ok (.goto 4, 3) := by decide +kernel
theorem dX4_readPart_17 : decode cX4_readPart 17 = .ok (.iconst 0, 1) := by decide +kernel
theorem dX4_readPart_18 : decode cX4_readPart 18 = .ok (.istore 4, 2) := by decide +kernel
theorem dX4_readPart_20 : decode cX4_readPart 20 = .ok (.aload_n 1, 1) := by decide +kernel
theorem dX4_readPart_21 : decode cX4_readPart 21 = .ok (.getstatic 74, 3) := by decide +kernel
theorem dX4_readPart_24 : decode cX4_readPart 24 = .ok (.invokevirtual 38, 3) := by decide +kernel
theorem dX4_readPart_27 : decode cX4_readPart 27 = .ok (.istore 5, 2) := by decide +kernel
theorem dX4_readPart_29 : decode cX4_readPart 29 = .ok (.iload 4, 2) := by decide +kernel
theorem dX4_readPart_31 : decode cX4_readPart 31 = .ok (.ifCond .ne 26, 3) := by decide +kernel
theorem dX4_readPart_34 : decode cX4_readPart 34 = .ok (.iload 5, 2) := by decide +kernel
theorem dX4_readPart_36 : decode cX4_readPart 36 = .ok (.ifCond .ne 21, 3) := by decide +kernel
theorem dX4_readPart_39 : decode cX4_readPart 39 = .ok (.iload_n 3, 1) := by decide +kernel
theorem dX4_readPart_40 : decode cX4_readPart 40 = .ok (.ifCond .ne 17, 3) := by decide +kernel
theorem dX4_readPart_43 : decode cX4_readPart 43 = .ok (.aload_n 1, 1) := by decide +kernel
theorem dX4_readPart_44 : decode cX4_readPart 44 = .ok (.bipush 40, 2) := by decide +kernel
theorem dX4_readPart_46 : decode cX4_readPart 46 = .ok (.invokevirtual 57, 3) := by decide +kernel
theorem dX4_readPart_49 : decode cX4_readPart 49 = .ok (.ifCond .ne 8, 3) := by decide +kernel
theorem dX4_readPart_52 : decode cX4_readPart 52 = .ok (.aload_n 1, 1) := by decide +kernel
theorem dX4_readPart_53 : decode cX4_readPart 53 = .ok (.iconst 1, 1) := by decide +kernel
theorem dX4_readPart_54 : decode cX4_readPart 54 = .ok (.invokevirtual 77, 3) := by decide +kernel
theorem dX4_readPart_57 : decode cX4_readPart 57 = .ok (.iload_n 2, 1) := by decide +kernel
theorem dX4_readPart_58 : decode cX4_readPart 58 = .ok (.iconst 5, 1) := by decide +kernel
theorem dX4_readPart_59 : decode cX4_readPart 59 = .ok (.if_icmp .lt 8, 3) := by decide +kernel
theorem dX4_readPart_62 : decode cX4_readPart 62 = .ok (.aload_n 1, 1) := by decide +kernel
theorem dX4_readPart_63 : decode cX4_readPart 63 = .ok (.iconst 5, 1) := by decide +kernel
theorem dX4_readPart_64 : decode cX4_readPart 64 = .ok (.invokevirtual 77, 3) := by decide +kernel
theorem dX4_readPart_67 : decode cX4_readPart 67 = .ok (.aload_n 1, 1) := by decide +kernel
theorem dX4_readPart_68 : decode cX4_readPart 68 = .ok (.getfield 80, 3) := by decide +kernel
theorem dX4_readPart_71 : decode cX4_readPart 71 = .ok (.ifCond .eq 4, 3) := by decide +kernel
theorem dX4_readPart_74 : decode cX4_readPart 74 = .ok (.return_, 1) := by decide +kernel
theorem dX4_readPart_75 : decode cX4_readPart 75 = .ok (.aload_n 1, 1) := by decide +kernel
theorem dX4_readPart_76 : decode cX4_readPart 76 = .ok (.getfield 83, 3) := by decide +kernel
theorem dX4_readPart_79 : decode cX4_readPart 79 = .ok (.istore 6, 2) := by decide +kernel
theorem dX4_readPart_81 : decode cX4_readPart 81 = .ok (.aload_n 1, 1) := by decide +kernel
theorem dX4_readPart_82 : decode cX4_readPart 82 = .ok (.invokevirtual 47, 3) := by decide +kernel
theorem dX4_readPart_85 : decode cX4_readPart 85 = .ok (.iload 4, 2) := by decide +kernel
theorem dX4_readPart_87 : decode cX4_readPart 87 = .ok (.ifCond .eq 12, 3) := by decide +kernel
theorem dX4_readPart_90 : decode cX4_readPart 90 = .ok (.aload_n 0, 1) := by decide +kernel
theorem dX4_readPart_91 : decode cX4_readPart 91 = .ok (.iload 6, 2) := by decide +kernel
theorem dX4_readPart_93 : decode cX4_readPart 93 = .ok (.invokevirtual 50, 3) := by decide +kernel
theorem dX4_readPart_96 : decode cX4_readPart 96 = .ok (.goto 51, 3) := by decide +kernel
theorem dX4_readPart_99 : decode cX4_readPart 99 = .ok (.iload_n 3, 1) := by decide +kernel
theorem dX4_readPart_100 : decode cX4_readPart 100 = .ok (.ifCond .eq 11, 3) := by decide +kernel
theorem dX4_readPart_103 : decode cX4_readPart 103 = .ok (.aload_n 0, 1) := by decide +kernel
theorem dX4_readPart_104 : decode cX4_readPart 104 = .ok (.iload_n 3, 1) := by decide +kernel
theorem dX4_readPart_105 : decode cX4_readPart 105 = .ok (.invokevirtual 50, 3) := by decide +kernel
theorem dX4_readPart_108 : decode cX4_readPart 108 = .ok (.goto 39, 3) := by decide +kernel
theorem dX4_readPart_111 : decode cX4_readPart 111 = .ok (.iload 5, 2) := by decide +kernel
theorem dX4_readPart_113 : decode cX4_readPart 113 = .ok (.ifCond .eq 20, 3) := by decide +kernel
theorem dX4_readPart_116 : decode cX4_readPart 116 = .ok (.aload_n 0, 1) := by decide +kernel
theorem dX4_readPart_117 : decode cX4_readPart 117 = .ok (.aload_n 1, 1) := by decide +kernel
theorem dX4_readPart_118 : decode cX4_readPart 118 = .ok (.iload_n 2, 1) := by decide +kernel
theorem dX4_readPart_119 : decode cX4_readPart 119 = .ok (.iconst 1, 1) := by decide +kernel
theorem dX4_readPart_120 : decode cX4_readPart 120 = .ok (.iadd, 1) := by decide +kernel
theorem dX4_readPart_121 : decode cX4_readPart 121 = .ok (.invokevirtual 64, 3) := by decide +kernel
theorem dX4_readPart_124 : decode cX4_readPart 124 = .ok (.aload_n 0, 1) := by decide +kernel
theorem dX4_readPart_125 : decode cX4_readPart 125 = .ok (.bipush (-5), 2) := by decide +kernel
theorem dX4_readPart_127 : decode cX4_readPart 127 = .ok (.invokevirtual 50, 3) := by decide +kernel
theorem dX4_readPart_130 : decode cX4_readPart 130 = .ok (.goto 17, 3) := by decide +kernel
theorem dX4_readPart_133 : decode cX4_readPart 133 = .ok (.aload_n 0, 1) := by decide +kernel
theorem dX4_readPart_134 : decode cX4_readPart 134 = .ok (.aload_n 1, 1) := by decide +kernel
theorem dX4_readPart_135 : decode cX4_readPart 135 = .ok (.iload_n 2, 1) := by decide +kernel
theorem dX4_readPart_136 : decode cX4_readPart 136 = .ok (.iconst 1, 1) := by decide +kernel
theorem dX4_readPart_137 : decode cX4_readPart 137 = .ok (.iadd, 1) := by decide +kernel
theorem dX4_readPart_138 : decode cX4_readPart 138 = .ok (.invokevirtual 86, 3) := by decide +kernel
theorem dX4_readPart_141 : decode cX4_readPart 141 = .ok (.aload_n 1, 1) := by decide +kernel
theorem dX4_readPart_142 : decode cX4_readPart 142 = .ok (.bipush 41, 2) := by decide +kernel
theorem dX4_readPart_144 : decode cX4_readPart 144 = .ok (.invokevirtual 89, 3) := by decide +kernel
theorem dX4_readPart_147 : decode cX4_readPart 147 = .ok (.return_, 1) := by decide +kernel
theorem dX4_factAt_0 : decode cX4_factAt 0 = .ok (.aload_n 0, 1) := by decide +kernel
theorem dX4_factAt_1 : decode cX4_factAt 1 = .ok (.getstatic 93, 3) := by decide +kernel
theorem dX4_factAt_4 : decode cX4_factAt 4 = .ok (.invokevirtual 38, 3) := by decide +kernel
theorem dX4_factAt_7 : decode cX4_factAt 7 = .ok (.ifCond .eq 5, 3) := by decide +kernel
theorem dX4_factAt_10 : decode cX4_factAt 10 = .ok (.iconst (-1), 1) := by decide +kernel
theorem dX4_factAt_11 : decode cX4_factAt 11 = .ok (.ireturn, 1) := by decide +kernel
theorem dX4_factAt_12 : decode cX4_factAt 12 = .ok (.aload_n 0, 1) := by decide +kernel
theorem dX4_factAt_13 : decode cX4_factAt 13 = .ok (.getstatic 96, 3) := by decide +kernel
theorem dX4_factAt_16 : decode cX4_factAt 16 = .ok (.invokevirtual 38, 3) := by decide +kernel
theorem dX4_factAt_19 : decode cX4_factAt 19 = .ok (.ifCond .eq 6, 3) := by decide +kernel
theorem dX4_factAt_22 : decode cX4_factAt 22 = .ok (.bipush (-2), 2) := by decide +kernel
theorem dX4_factAt_24 : decode cX4_factAt 24 = .ok (.ireturn, 1) := by decide +kernel
theorem dX4_factAt_25 : decode cX4_factAt 25 = .ok (.aload_n 0, 1) := by decide +kernel
theorem dX4_factAt_26 : decode cX4_factAt 26 = .ok (.getstatic 99, 3) := by decide +kernel
theorem dX4_factAt_29 : decode cX4_factAt 29 = .ok (.invokevirtual 38, 3) := by decide +kernel
theorem dX4_factAt_32 : decode cX4_factAt 32 = .ok (.ifCond .eq 6, 3) := by decide +kernel
theorem dX4_factAt_35 : decode cX4_factAt 35 = .ok (.bipush (-3), 2) := by decide +kernel
theorem dX4_factAt_37 : decode cX4_factAt 37 = .ok (.ireturn, 1) := by decide +kernel
theorem dX4_factAt_38 : decode cX4_factAt 38 = .ok (.aload_n 0, 1) := by decide +kernel
theorem dX4_factAt_39 : decode cX4_factAt 39 = .ok (.getstatic 102, 3) := by decide +kernel
theorem dX4_factAt_42 : decode cX4_factAt 42 = .ok (.invokevirtual 38, 3) := by decide +kernel
theorem dX4_factAt_45 : decode cX4_factAt 45 = .ok (.ifCond .eq 8, 3) := by decide +kernel
theorem dX4_factAt_48 : decode cX4_factAt 48 = .ok (.bipush (-4), 2) := by decide +kernel
theorem dX4_factAt_50 : decode cX4_factAt 50 = .ok (.goto 4, 3) := by decide +kernel
theorem dX4_factAt_53 : decode cX4_factAt 53 = .ok (.iconst 0, 1) := by decide +kernel
theorem dX4_factAt_54 : decode cX4_factAt 54 = .ok (.ireturn, 1) := by decide +kernel
theorem dX4_value_0 : decode cX4_value 0 = .ok (.iconst 0, 1) := by decide +kernel
theorem dX4_value_1 : decode cX4_value 1 = .ok (.istore 5, 2) := by decide +kernel
theorem dX4_value_3 : decode cX4_value 3 = .ok (.iconst 0, 1) := by decide +kernel
theorem dX4_value_4 : decode cX4_value 4 = .ok (.istore 6, 2) := by decide +kernel
theorem dX4_value_6 : decode cX4_value 6 = .ok (.iload 6, 2) := by decide +kernel
theorem dX4_value_8 : decode cX4_value 8 = .ok (.aload_n 0, 1) := by decide +kernel
theorem dX4_value_9 : decode cX4_value 9 = .ok (.getfield 18, 3) := by decide +kernel
theorem dX4_value_12 : decode cX4_value 12 = .ok (.if_icmp .ge 141, 3) := by decide +kernel
theorem dX4_value_15 : decode cX4_value 15 = .ok (.aload_n 0, 1) := by decide +kernel
theorem dX4_value_16 : decode cX4_value 16 = .ok (.getfield 9, 3) := by decide +kernel
theorem dX4_value_19 : decode cX4_value 19 = .ok (.iload 6, 2) := by decide +kernel
theorem dX4_value_21 : decode cX4_value 21 = .ok (.invokestatic 105, 3) := by decide +kernel
theorem dX4_value_24 : decode cX4_value 24 = .ok (.istore 7, 2) := by decide +kernel
theorem dX4_value_26 : decode cX4_value 26 = .ok (.iload 7, 2) := by decide +kernel
theorem dX4_value_28 : decode cX4_value 28 = .ok (.bipush (-5), 2) := by decide +kernel
theorem dX4_value_30 : decode cX4_value 30 = .ok (.if_icmp .le 38, 3) := by decide +kernel
theorem dX4_value_33 : decode cX4_value 33 = .ok (.aload_n 0, 1) := by decide +kernel
theorem dX4_value_34 : decode cX4_value 34 = .ok (.getfield 15, 3) := by decide +kernel
theorem dX4_value_37 : decode cX4_value 37 = .ok (.iload 5, 2) := by decide +kernel
theorem dX4_value_39 : decode cX4_value 39 = .ok (.iload 7, 2) := by decide +kernel
theorem dX4_value_41 : decode cX4_value 41 = .ok (.ifCond .lt 8, 3) := by decide +kernel
theorem dX4_value_44 : decode cX4_value 44 = .ok (.iload 7, 2) := by decide +kernel
theorem dX4_value_46 : decode cX4_value 46 = .ok (.goto 13, 3) := by decide +kernel
theorem dX4_value_49 : decode cX4_value 49 = .ok (.iload 7, 2) := by decide +kernel
theorem dX4_value_51 : decode cX4_value 51 = .ok (.iload_n 1, 1) := by decide +kernel
theorem dX4_value_52 : decode cX4_value 52 = .ok (.iload_n 2, 1) := by decide +kernel
theorem dX4_value_53 : decode cX4_value 53 = .ok (.iload_n 3, 1) := by decide +kernel
theorem dX4_value_54 : decode cX4_value 54 = .ok (.iload 4, 2) := by decide +kernel
theorem dX4_value_56 : decode cX4_value 56 = .ok (.invokestatic 109, 3) := by decide +kernel
theorem dX4_value_59 : decode cX4_value 59 = .ok (.invokestatic 22, 3) := by decide +kernel
theorem dX4_value_62 : decode cX4_value 62 = .ok (.iinc 5 1, 3) := by decide +kernel
theorem dX4_value_65 : decode cX4_value 65 = .ok (.goto 82, 3) := by decide +kernel
theorem dX4_value_68 : decode cX4_value 68 = .ok (.iload 7, 2) := by decide +kernel
theorem dX4_value_70 : decode cX4_value 70 = .ok (.bipush (-5), 2) := by decide +kernel
theorem dX4_value_72 : decode cX4_value 72 = .ok (.if_icmp .ne 36, 3) := by decide +kernel
theorem dX4_value_75 : decode cX4_value 75 = .ok (.aload_n 0, 1) := by decide +kernel
theorem dX4_value_76 : decode cX4_value 76 = .ok (.getfield 15, 3) := by decide +kernel
theorem dX4_value_79 : decode cX4_value 79 = .ok (.iload 5, 2) := by decide +kernel
theorem dX4_value_81 : decode cX4_value 81 = .ok (.iconst 1, 1) := by decide +kernel
theorem dX4_value_82 : decode cX4_value 82 = .ok (.isub, 1) := by decide +kernel
theorem dX4_value_83 : decode cX4_value 83 = .ok (.aload_n 0, 1) := by decide +kernel
theorem dX4_value_84 : decode cX4_value 84 = .ok (.getfield 15, 3) := by decide +kernel
theorem dX4_value_87 : decode cX4_value 87 = .ok (.iload 5, 2) := by decide +kernel
theorem dX4_value_89 : decode cX4_value 89 = .ok (.iconst 1, 1) := by decide +kernel
theorem dX4_value_90 : decode cX4_value 90 = .ok (.isub, 1) := by decide +kernel
theorem dX4_value_91 : decode cX4_value 91 = .ok (.invokestatic 105, 3) := by decide +kernel
theorem dX4_value_94 : decode cX4_value 94 = .ok (.ifCond .ne 7, 3) := by decide +kernel
theorem dX4_value_97 : decode cX4_value 97 = .ok (.iconst 1, 1) := by decide +kernel
theorem dX4_value_98 : decode cX4_value 98 = .ok (.goto 4, 3) := by decide +kernel
theorem dX4_value_101 : decode cX4_value 101 = .ok (.iconst 0, 1) := by decide +kernel
theorem dX4_value_102 : decode cX4_value 102 = .ok (.invokestatic 22, 3) := by decide +kernel
theorem dX4_value_105 : decode cX4_value 105 = .ok (.goto 42, 3) := by decide +kernel
theorem dX4_value_108 : decode cX4_value 108 = .ok (.iinc 5 (-1), 3) := by decide +kernel
theorem dX4_value_111 : decode cX4_value 111 = .ok (.aload_n 0, 1) := by decide +kernel
theorem dX4_value_112 : decode cX4_value 112 = .ok (.getfield 15, 3) := by decide +kernel
theorem dX4_value_115 : decode cX4_value 115 = .ok (.iload 5, 2) := by decide +kernel
theorem dX4_value_117 : decode cX4_value 117 = .ok (.iconst 1, 1) := by decide +kernel
theorem dX4_value_118 : decode cX4_value 118 = .ok (.isub, 1) := by decide +kernel
theorem dX4_value_119 : decode cX4_value 119 = .ok (.iload 7, 2) := by decide +kernel
theorem dX4_value_121 : decode cX4_value 121 = .ok (.aload_n 0, 1) := by decide +kernel
theorem dX4_value_122 : decode cX4_value 122 = .ok (.getfield 15, 3) := by decide +kernel
theorem dX4_value_125 : decode cX4_value 125 = .ok (.iload 5, 2) := by decide +kernel
theorem dX4_value_127 : decode cX4_value 127 = .ok (.iconst 1, 1) := by decide +kernel
theorem dX4_value_128 : decode cX4_value 128 = .ok (.isub, 1) := by decide +kernel
theorem dX4_value_129 : decode cX4_value 129 = .ok (.invokestatic 105, 3) := by decide +kernel
theorem dX4_value_132 : decode cX4_value 132 = .ok (.aload_n 0, 1) := by decide +kernel
theorem dX4_value_133 : decode cX4_value 133 = .ok (.getfield 15, 3) := by decide +kernel
theorem dX4_value_136 : decode cX4_value 136 = .ok (.iload 5, 2) := by decide +kernel
theorem dX4_value_138 : decode cX4_value 138 = .ok (.invokestatic 105, 3) := by decide +kernel
theorem dX4_value_141 : decode cX4_value 141 = .ok (.invokestatic 113, 3) := by decide +kernel
theorem dX4_value_144 : decode cX4_value 144 = .ok (.invokestatic 22, 3) := by decide +kernel
theorem dX4_value_147 : decode cX4_value 147 = .ok (.iinc 6 1, 3) := by decide +kernel
theorem dX4_value_150 : decode cX4_value 150 = .ok (.goto (-144), 3) := by decide +kernel
theorem dX4_value_153 : decode cX4_value 153 = .ok (.aload_n 0, 1) := by decide +kernel
theorem dX4_value_154 : decode cX4_value 154 = .ok (.getfield 15, 3) := by decide +kernel
theorem dX4_value_157 : decode cX4_value 157 = .ok (.iconst 0, 1) := by decide +kernel
theorem dX4_value_158 : decode cX4_value 158 = .ok (.invokestatic 105, 3) := by decide +kernel
theorem dX4_value_161 : decode cX4_value 161 = .ok (.ireturn, 1) := by decide +kernel
theorem dX4_fact_0 : decode cX4_fact 0 = .ok (.iload_n 0, 1) := by decide +kernel
theorem dX4_fact_1 : decode cX4_fact 1 = .ok (.tableswitch 33 (-3) (-1) #[31, 29, 27], 27) := by decide +kernel
theorem dX4_fact_28 : decode cX4_fact 28 = .ok (.iload_n 1, 1) := by decide +kernel
theorem dX4_fact_29 : decode cX4_fact 29 = .ok (.ireturn, 1) := by decide +kernel
theorem dX4_fact_30 : decode cX4_fact 30 = .ok (.iload_n 2, 1) := by decide +kernel
theorem dX4_fact_31 : decode cX4_fact 31 = .ok (.ireturn, 1) := by decide +kernel
theorem dX4_fact_32 : decode cX4_fact 32 = .ok (.iload_n 3, 1) := by decide +kernel
theorem dX4_fact_33 : decode cX4_fact 33 = .ok (.ireturn, 1) := by decide +kernel
theorem dX4_fact_34 : decode cX4_fact 34 = .ok (.iload 4, 2) := by decide +kernel
theorem dX4_fact_36 : decode cX4_fact 36 = .ok (.ireturn, 1) := by decide +kernel
theorem dX4_both_0 : decode cX4_both 0 = .ok (.iload_n 0, 1) := by decide +kernel
theorem dX4_both_1 : decode cX4_both 1 = .ok (.tableswitch 87 (-11) (-6) #[73, 62, 51, 47, 43, 39], 39) := by decide +kernel
theorem dX4_both_40 : decode cX4_both 40 = .ok (.iload_n 1, 1) := by decide +kernel
theorem dX4_both_41 : decode cX4_both 41 = .ok (.iload_n 2, 1) := by decide +kernel
theorem dX4_both_42 : decode cX4_both 42 = .ok (.imul, 1) := by decide +kernel
theorem dX4_both_43 : decode cX4_both 43 = .ok (.ireturn, 1) := by decide +kernel
theorem dX4_both_44 : decode cX4_both 44 = .ok (.iload_n 1, 1) := by decide +kernel
theorem dX4_both_45 : decode cX4_both 45 = .ok (.iload_n 2, 1) := by decide +kernel
theorem dX4_both_46 : decode cX4_both 46 = .ok (.iadd, 1) := by decide +kernel
theorem dX4_both_47 : decode cX4_both 47 = .ok (.ireturn, 1) := by decide +kernel
theorem dX4_both_48 : decode cX4_both 48 = .ok (.iload_n 1, 1) := by decide +kernel
theorem dX4_both_49 : decode cX4_both 49 = .ok (.iload_n 2, 1) := by decide +kernel
theorem dX4_both_50 : decode cX4_both 50 = .ok (.isub, 1) := by decide +kernel
theorem dX4_both_51 : decode cX4_both 51 = .ok (.ireturn, 1) := by decide +kernel
theorem dX4_both_52 : decode cX4_both 52 = .ok (.iload_n 1, 1) := by decide +kernel
theorem dX4_both_53 : decode cX4_both 53 = .ok (.iload_n 2, 1) := by decide +kernel
theorem dX4_both_54 : decode cX4_both 54 = .ok (.if_icmp .ge 7, 3) := by decide +kernel
theorem dX4_both_57 : decode cX4_both 57 = .ok (.iconst 1, 1) := by decide +kernel
theorem dX4_both_58 : decode cX4_both 58 = .ok (.goto 4, 3) := by decide +kernel
theorem dX4_both_61 : decode cX4_both 61 = .ok (.iconst 0, 1) := by decide +kernel
theorem dX4_both_62 : decode cX4_both 62 = .ok (.ireturn, 1) := by decide +kernel
theorem dX4_both_63 : decode cX4_both 63 = .ok (.iload_n 1, 1) := by decide +kernel
theorem dX4_both_64 : decode cX4_both 64 = .ok (.iload_n 2, 1) := by decide +kernel
theorem dX4_both_65 : decode cX4_both 65 = .ok (.if_icmp .ne 7, 3) := by decide +kernel
theorem dX4_both_68 : decode cX4_both 68 = .ok (.iconst 1, 1) := by decide +kernel
theorem dX4_both_69 : decode cX4_both 69 = .ok (.goto 4, 3) := by decide +kernel
theorem dX4_both_72 : decode cX4_both 72 = .ok (.iconst 0, 1) := by decide +kernel
theorem dX4_both_73 : decode cX4_both 73 = .ok (.ireturn, 1) := by decide +kernel
theorem dX4_both_74 : decode cX4_both 74 = .ok (.iload_n 1, 1) := by decide +kernel
theorem dX4_both_75 : decode cX4_both 75 = .ok (.ifCond .eq 11, 3) := by decide +kernel
theorem dX4_both_78 : decode cX4_both 78 = .ok (.iload_n 2, 1) := by decide +kernel
theorem dX4_both_79 : decode cX4_both 79 = .ok (.ifCond .eq 7, 3) := by decide +kernel
theorem dX4_both_82 : decode cX4_both 82 = .ok (.iconst 1, 1) := by decide +kernel
theorem dX4_both_83 : decode cX4_both 83 = .ok (.goto 4, 3) := by decide +kernel
theorem dX4_both_86 : decode cX4_both 86 = .ok (.iconst 0, 1) := by decide +kernel
theorem dX4_both_87 : decode cX4_both 87 = .ok (.ireturn, 1) := by decide +kernel
theorem dX4_both_88 : decode cX4_both 88 = .ok (.iload_n 1, 1) := by decide +kernel
theorem dX4_both_89 : decode cX4_both 89 = .ok (.ifCond .ne 7, 3) := by decide +kernel
theorem dX4_both_92 : decode cX4_both 92 = .ok (.iload_n 2, 1) := by decide +kernel
theorem dX4_both_93 : decode cX4_both 93 = .ok (.ifCond .eq 7, 3) := by decide +kernel
theorem dX4_both_96 : decode cX4_both 96 = .ok (.iconst 1, 1) := by decide +kernel
theorem dX4_both_97 : decode cX4_both 97 = .ok (.goto 4, 3) := by decide +kernel
theorem dX4_both_100 : decode cX4_both 100 = .ok (.iconst 0, 1) := by decide +kernel
theorem dX4_both_101 : decode cX4_both 101 = .ok (.ireturn, 1) := by decide +kernel
theorem dX5_init_0 : decode cX5_init 0 = .ok (.aload_n 0, 1) := by decide +kernel
theorem dX5_init_1 : decode cX5_init 1 = .ok (.invokespecial 3, 3) := by decide +kernel
theorem dX5_init_4 : decode cX5_init 4 = .ok (.aload_n 0, 1) := by decide +kernel
theorem dX5_init_5 : decode cX5_init 5 = .ok (.new 9, 3) := by decide +kernel
theorem dX5_init_8 : decode cX5_init 8 = .ok (.dup, 1) := by decide +kernel
theorem dX5_init_9 : decode cX5_init 9 = .ok (.invokespecial 11, 3) := by decide +kernel
theorem dX5_init_12 : decode cX5_init 12 = .ok (.putfield 12, 3) := by decide +kernel
theorem dX5_init_15 : decode cX5_init 15 = .ok (.aload_n 0, 1) := by decide +kernel
theorem dX5_init_16 : decode cX5_init 16 = .ok (.bipush 36, 2) := by decide +kernel
theorem dX5_init_18 : decode cX5_init 18 = .ok (.newarray .int, 2) := by decide +kernel
theorem dX5_init_20 : decode cX5_init 20 = .ok (.putfield 18, 3) := by decide +kernel
theorem dX5_init_23 : decode cX5_init 23 = .ok (.return_, 1) := by decide +kernel
theorem dX5_lay_0 : decode cX5_lay 0 = .ok (.aload_n 0, 1) := by decide +kernel
theorem dX5_lay_1 : decode cX5_lay 1 = .ok (.iconst 1, 1) := by decide +kernel
theorem dX5_lay_2 : decode cX5_lay 2 = .ok (.putfield 22, 3) := by decide +kernel
theorem dX5_lay_5 : decode cX5_lay 5 = .ok (.aload_n 0, 1) := by decide +kernel
theorem dX5_lay_6 : decode cX5_lay 6 = .ok (.getfield 12, 3) := by decide +kernel
theorem dX5_lay_9 : decode cX5_lay 9 = .ok (.aload_n 1, 1) := by decide +kernel
theorem dX5_lay_10 : decode cX5_lay 10 = .ok (.invokevirtual 26, 3) := by decide +kernel
theorem dX5_lay_13 : decode cX5_lay 13 = .ok (.aload_n 2, 1) := by decide +kernel
theorem dX5_lay_14 : decode cX5_lay 14 = .ok (.aload_n 0, 1) := by decide +kernel
theorem dX5_lay_15 : decode cX5_lay 15 = .ok (.getfield 18, 3) := by decide +kernel
theorem dX5_lay_18 : decode cX5_lay 18 = .ok (.invokestatic 30, 3) := by decide +kernel
theorem dX5_lay_21 : decode cX5_lay 21 = .ok (.return_, 1) := by decide +kernel
theorem dX5_bringBack_0 : decode cX5_bringBack 0 = .ok (.aload_n 1, 1) := by decide +kernel
theorem dX5_bringBack_1 : decode cX5_bringBack 1 = .ok (.aload_n 0, 1) := by decide +kernel
theorem dX5_bringBack_2 : decode cX5_bringBack 2 = .ok (.getfield 12, 3) := by decide +kernel
theorem dX5_bringBack_5 : decode cX5_bringBack 5 = .ok (.invokevirtual 26, 3) := by decide +kernel
theorem dX5_bringBack_8 : decode cX5_bringBack 8 = .ok (.aload_n 0, 1) := by decide +kernel
theorem dX5_bringBack_9 : decode cX5_bringBack 9 = .ok (.getfield 18, 3) := by decide +kernel
theorem dX5_bringBack_12 : decode cX5_bringBack 12 = .ok (.aload_n 2, 1) := by decide +kernel
theorem dX5_bringBack_13 : decode cX5_bringBack 13 = .ok (.invokestatic 30, 3) := by decide +kernel
theorem dX5_bringBack_16 : decode cX5_bringBack 16 = .ok (.return_, 1) := by decide +kernel
theorem dX6_init_0 : decode cX6_init 0 = .ok (.aload_n 0, 1) := by decide +kernel
theorem dX6_init_1 : decode cX6_init 1 = .ok (.invokespecial 3, 3) := by decide +kernel
theorem dX6_init_4 : decode cX6_init 4 = .ok (.aload_n 0, 1) := by decide +kernel
theorem dX6_init_5 : decode cX6_init 5 = .ok (.bipush 16, 2) := by decide +kernel
theorem dX6_init_7 : decode cX6_init 7 = .ok (.anewarray 9, 3) := by decide +kernel
theorem dX6_init_10 : decode cX6_init 10 = .ok (.putfield 11, 3) := by decide +kernel
theorem dX6_init_13 : decode cX6_init 13 = .ok (.iconst 0, 1) := by decide +kernel
theorem dX6_init_14 : decode cX6_init 14 = .ok (.istore_n 1, 1) := by decide +kernel
theorem dX6_init_15 : decode cX6_init 15 = .ok (.iload_n 1, 1) := by decide +kernel
theorem dX6_init_16 : decode cX6_init 16 = .ok (.aload_n 0, 1) := by decide +kernel
theorem dX6_init_17 : decode cX6_init 17 = .ok (.getfield 11, 3) := by decide +kernel
theorem dX6_init_20 : decode cX6_init 20 = .ok (.arraylength, 1) := by decide +kernel
theorem dX6_init_21 : decode cX6_init 21 = .ok (.if_icmp .ge 22, 3) := by decide +kernel
theorem dX6_init_24 : decode cX6_init 24 = .ok (.aload_n 0, 1) := by decide +kernel
theorem dX6_init_25 : decode cX6_init 25 = .ok (.getfield 11, 3) := by decide +kernel
theorem dX6_init_28 : decode cX6_init 28 = .ok (.iload_n 1, 1) := by decide +kernel
theorem dX6_init_29 : decode cX6_init 29 = .ok (.new 9, 3) := by decide +kernel
theorem dX6_init_32 : decode cX6_init 32 = .ok (.dup, 1) := by decide +kernel
theorem dX6_init_33 : decode cX6_init 33 = .ok (.invokespecial 17, 3) := by decide +kernel
theorem dX6_init_36 : decode cX6_init 36 = .ok (.aastore, 1) := by decide +kernel
theorem dX6_init_37 : decode cX6_init 37 = .ok (.iinc 1 1, 3) := by decide +kernel
theorem dX6_init_40 : decode cX6_init 40 = .ok (.goto (-25), 3) := by decide +kernel
theorem dX6_init_43 : decode cX6_init 43 = .ok (.return_, 1) := by decide +kernel
theorem dX6_keep_0 : decode cX6_keep 0 = .ok (.aload_n 0, 1) := by decide +kernel
theorem dX6_keep_1 : decode cX6_keep 1 = .ok (.getfield 18, 3) := by decide +kernel
theorem dX6_keep_4 : decode cX6_keep 4 = .ok (.ifCond .lt 27, 3) := by decide +kernel
theorem dX6_keep_7 : decode cX6_keep 7 = .ok (.aload_n 0, 1) := by decide +kernel
theorem dX6_keep_8 : decode cX6_keep 8 = .ok (.getfield 18, 3) := by decide +kernel
theorem dX6_keep_11 : decode cX6_keep 11 = .ok (.aload_n 0, 1) := by decide +kernel
theorem dX6_keep_12 : decode cX6_keep 12 = .ok (.getfield 11, 3) := by decide +kernel
theorem dX6_keep_15 : decode cX6_keep 15 = .ok (.arraylength, 1) := by decide +kernel
theorem dX6_keep_16 : decode cX6_keep 16 = .ok (.if_icmp .ge 15, 3) := by decide +kernel
theorem dX6_keep_19 : decode cX6_keep 19 = .ok (.aload_n 0, 1) := by decide +kernel
theorem dX6_keep_20 : decode cX6_keep 20 = .ok (.getfield 11, 3) := by decide +kernel
theorem dX6_keep_23 : decode cX6_keep 23 = .ok (.aload_n 0, 1) := by decide +kernel
theorem dX6_keep_24 : decode cX6_keep 24 = .ok (.getfield 18, 3) := by decide +kernel
theorem dX6_keep_27 : decode cX6_keep 27 = .ok (.aaload, 1) := by decide +kernel
theorem dX6_keep_28 : decode cX6_keep 28 = .ok (.ifnonnull 4, 3) := by decide +kernel
theorem dX6_keep_31 : decode cX6_keep 31 = .ok (.return_, 1) := by decide +kernel
theorem dX6_keep_32 : decode cX6_keep 32 = .ok (.aload_n 0, 1) := by decide +kernel
theorem dX6_keep_33 : decode cX6_keep 33 = .ok (.getfield 11, 3) := by decide +kernel
theorem dX6_keep_36 : decode cX6_keep 36 = .ok (.aload_n 0, 1) := by decide +kernel
theorem dX6_keep_37 : decode cX6_keep 37 = .ok (.getfield 18, 3) := by decide +kernel
theorem dX6_keep_40 : decode cX6_keep 40 = .ok (.aaload, 1) := by decide +kernel
theorem dX6_keep_41 : decode cX6_keep 41 = .ok (.aload_n 1, 1) := by decide +kernel
theorem dX6_keep_42 : decode cX6_keep 42 = .ok (.invokevirtual 22, 3) := by decide +kernel
theorem dX6_keep_45 : decode cX6_keep 45 = .ok (.aload_n 0, 1) := by decide +kernel
theorem dX6_keep_46 : decode cX6_keep 46 = .ok (.aload_n 0, 1) := by decide +kernel
theorem dX6_keep_47 : decode cX6_keep 47 = .ok (.getfield 18, 3) := by decide +kernel
theorem dX6_keep_50 : decode cX6_keep 50 = .ok (.iconst 1, 1) := by decide +kernel
theorem dX6_keep_51 : decode cX6_keep 51 = .ok (.iadd, 1) := by decide +kernel
theorem dX6_keep_52 : decode cX6_keep 52 = .ok (.aload_n 0, 1) := by decide +kernel
theorem dX6_keep_53 : decode cX6_keep 53 = .ok (.getfield 11, 3) := by decide +kernel
theorem dX6_keep_56 : decode cX6_keep 56 = .ok (.arraylength, 1) := by decide +kernel
theorem dX6_keep_57 : decode cX6_keep 57 = .ok (.if_icmp .ge 12, 3) := by decide +kernel
theorem dX6_keep_60 : decode cX6_keep 60 = .ok (.aload_n 0, 1) := by decide +kernel
theorem dX6_keep_61 : decode cX6_keep 61 = .ok (.getfield 18, 3) := by decide +kernel
theorem dX6_keep_64 : decode cX6_keep 64 = .ok (.iconst 1, 1) := by decide +kernel
theorem dX6_keep_65 : decode cX6_keep 65 = .ok (.iadd, 1) := by decide +kernel
theorem dX6_keep_66 : decode cX6_keep 66 = .ok (.goto 4, 3) := by decide +kernel
theorem dX6_keep_69 : decode cX6_keep 69 = .ok (.iconst 0, 1) := by decide +kernel
theorem dX6_keep_70 : decode cX6_keep 70 = .ok (.putfield 18, 3) := by decide +kernel
theorem dX6_keep_73 : decode cX6_keep 73 = .ok (.aload_n 0, 1) := by decide +kernel
theorem dX6_keep_74 : decode cX6_keep 74 = .ok (.aload_n 0, 1) := by decide +kernel
theorem dX6_keep_75 : decode cX6_keep 75 = .ok (.getfield 26, 3) := by decide +kernel
theorem dX6_keep_78 : decode cX6_keep 78 = .ok (.iconst 1, 1) := by decide +kernel
theorem dX6_keep_79 : decode cX6_keep 79 = .ok (.iadd, 1) := by decide +kernel
theorem dX6_keep_80 : decode cX6_keep 80 = .ok (.aload_n 0, 1) := by decide +kernel
theorem dX6_keep_81 : decode cX6_keep 81 = .ok (.getfield 11, 3) := by decide +kernel
theorem dX6_keep_84 : decode cX6_keep 84 = .ok (.arraylength, 1) := by decide +kernel
theorem dX6_keep_85 : decode cX6_keep 85 = .ok (.invokestatic 29, 3) := by decide +kernel
theorem dX6_keep_88 : decode cX6_keep 88 = .ok (.putfield 26, 3) := by decide +kernel
theorem dX6_keep_91 : decode cX6_keep 91 = .ok (.return_, 1) := by decide +kernel
theorem dX6_bringBack_0 : decode cX6_bringBack 0 = .ok (.aload_n 0, 1) := by decide +kernel
theorem dX6_bringBack_1 : decode cX6_bringBack 1 = .ok (.getfield 18, 3) := by decide +kernel
theorem dX6_bringBack_4 : decode cX6_bringBack 4 = .ok (.ifCond .le 12, 3) := by decide +kernel
theorem dX6_bringBack_7 : decode cX6_bringBack 7 = .ok (.aload_n 0, 1) := by decide +kernel
theorem dX6_bringBack_8 : decode cX6_bringBack 8 = .ok (.getfield 18, 3) := by decide +kernel
theorem dX6_bringBack_11 : decode cX6_bringBack 11 = .ok (.iconst 1, 1) := by decide +kernel
theorem dX6_bringBack_12 : decode cX6_bringBack 12 = .ok (.isub, 1) := by decide +kernel
theorem dX6_bringBack_13 : decode cX6_bringBack 13 = .ok (.goto 10, 3) := by decide +kernel
theorem dX6_bringBack_16 : decode cX6_bringBack 16 = .ok (.aload_n 0, 1) := by decide +kernel
theorem dX6_bringBack_17 : decode cX6_bringBack 17 = .ok (.getfield 11, 3) := by decide +kernel
theorem dX6_bringBack_20 : decode cX6_bringBack 20 = .ok (.arraylength, 1) := by decide +kernel
theorem dX6_bringBack_21 : decode cX6_bringBack 21 = .ok (.iconst 1, 1) := by decide +kernel
theorem dX6_bringBack_22 : decode cX6_bringBack 22 = .ok (.isub, 1) := by decide +kernel
theorem dX6_bringBack_23 : decode cX6_bringBack 23 = .ok (.istore_n 2, 1) := by decide +kernel
theorem dX6_bringBack_24 : decode cX6_bringBack 24 = .ok (.aload_n 0, 1) := by decide +kernel
theorem dX6_bringBack_25 : decode cX6_bringBack 25 = .ok (.getfield 26, 3) := by decide +kernel
theorem dX6_bringBack_28 : decode cX6_bringBack 28 = .ok (.ifCond .le 25, 3) := by decide +kernel
theorem dX6_bringBack_31 : decode cX6_bringBack 31 = .ok (.iload_n 2, 1) := by decide +kernel
theorem dX6_bringBack_32 : decode cX6_bringBack 32 = .ok (.ifCond .lt 21, 3) := by decide +kernel
theorem dX6_bringBack_35 : decode cX6_bringBack 35 = .ok (.iload_n 2, 1) := by decide +kernel
theorem dX6_bringBack_36 : decode cX6_bringBack 36 = .ok (.aload_n 0, 1) := by decide +kernel
theorem dX6_bringBack_37 : decode cX6_bringBack 37 = .ok (.getfield 11, 3) := by decide +kernel
theorem dX6_bringBack_40 : decode cX6_bringBack 40 = .ok (.arraylength, 1) := by decide +kernel
theorem dX6_bringBack_41 : decode cX6_bringBack 41 = .ok (.if_icmp .ge 12, 3) := by decide +kernel
theorem dX6_bringBack_44 : decode cX6_bringBack 44 = .ok (.aload_n 0, 1) := by decide +kernel
theorem dX6_bringBack_45 : decode cX6_bringBack 45 = .ok (.getfield 11, 3) := by decide +kernel
theorem dX6_bringBack_48 : decode cX6_bringBack 48 = .ok (.iload_n 2, 1) := by decide +kernel
theorem dX6_bringBack_49 : decode cX6_bringBack 49 = .ok (.aaload, 1) := by decide +kernel
theorem dX6_bringBack_50 : decode cX6_bringBack 50 = .ok (.ifnonnull 5, 3) := by decide +kernel
theorem dX6_bringBack_53 : decode cX6_bringBack 53 = .ok (.iconst 0, 1) := by decide +kernel
theorem dX6_bringBack_54 : decode cX6_bringBack 54 = .ok (.ireturn, 1) := by decide +kernel
theorem dX6_bringBack_55 : decode cX6_bringBack 55 = .ok (.aload_n 1, 1) := by decide +kernel
theorem dX6_bringBack_56 : decode cX6_bringBack 56 = .ok (.aload_n 0, 1) := by decide +kernel
theorem dX6_bringBack_57 : decode cX6_bringBack 57 = .ok (.getfield 11, 3) := by decide +kernel
theorem dX6_bringBack_60 : decode cX6_bringBack 60 = .ok (.iload_n 2, 1) := by decide +kernel
theorem dX6_bringBack_61 : decode cX6_bringBack 61 = .ok (.aaload, 1) := by decide +kernel
theorem dX6_bringBack_62 : decode cX6_bringBack 62 = .ok (.invokevirtual 22, 3) := by decide +kernel
theorem dX6_bringBack_65 : decode cX6_bringBack 65 = .ok (.aload_n 0, 1) := by decide +kernel
theorem dX6_bringBack_66 : decode cX6_bringBack 66 = .ok (.iload_n 2, 1) := by decide +kernel
theorem dX6_bringBack_67 : decode cX6_bringBack 67 = .ok (.putfield 18, 3) := by decide +kernel
theorem dX6_bringBack_70 : decode cX6_bringBack 70 = .ok (.aload_n 0, 1) := by decide +kernel
theorem dX6_bringBack_71 : decode cX6_bringBack 71 = .ok (.dup, 1) := by decide +kernel
theorem dX6_bringBack_72 : decode cX6_bringBack 72 = .ok (.getfield 26, 3) := by decide +kernel
theorem dX6_bringBack_75 : decode cX6_bringBack 75 = .ok (.iconst 1, 1) := by decide +kernel
theorem dX6_bringBack_76 : decode cX6_bringBack 76 = .ok (.isub, 1) := by decide +kernel
theorem dX6_bringBack_77 : decode cX6_bringBack 77 = .ok (.putfield 26, 3) := by decide +kernel
theorem dX6_bringBack_80 : decode cX6_bringBack 80 = .ok (.iconst 1, 1) := by decide +kernel
theorem dX6_bringBack_81 : decode cX6_bringBack 81 = .ok (.ireturn, 1) := by decide +kernel
theorem dX7_init_0 : decode cX7_init 0 = .ok (.aload_n 0, 1) := by decide +kernel
theorem dX7_init_1 : decode cX7_init 1 = .ok (.invokespecial 3, 3) := by decide +kernel
theorem dX7_init_4 : decode cX7_init 4 = .ok (.aload_n 0, 1) := by decide +kernel
theorem dX7_init_5 : decode cX7_init 5 = .ok (.new 9, 3) := by decide +kernel
theorem dX7_init_8 : decode cX7_init 8 = .ok (.dup, 1) := by decide +kernel
theorem dX7_init_9 : decode cX7_init 9 = .ok (.invokespecial 11, 3) := by decide +kernel
theorem dX7_init_12 : decode cX7_init 12 = .ok (.putfield 12, 3) := by decide +kernel
theorem dX7_init_15 : decode cX7_init 15 = .ok (.return_, 1) := by decide +kernel
theorem dX7_readFilm_0 : decode cX7_readFilm 0 = .ok (.aload_n 2, 1) := by decide +kernel
theorem dX7_readFilm_1 : decode cX7_readFilm 1 = .ok (.invokevirtual 18, 3) := by decide +kernel
theorem dX7_readFilm_4 : decode cX7_readFilm 4 = .ok (.aload_n 0, 1) := by decide +kernel
theorem dX7_readFilm_5 : decode cX7_readFilm 5 = .ok (.iconst 0, 1) := by decide +kernel
theorem dX7_readFilm_6 : decode cX7_readFilm 6 = .ok (.putfield 23, 3) := by decide +kernel
theorem dX7_readFilm_9 : decode cX7_readFilm 9 = .ok (.aload_n 0, 1) := by decide +kernel
theorem dX7_readFilm_10 : decode cX7_readFilm 10 = .ok (.iconst 0, 1) := by decide +kernel
theorem dX7_readFilm_11 : decode cX7_readFilm 11 = .ok (.putfield 27, 3) := by decide +kernel
theorem dX7_readFilm_14 : decode cX7_readFilm 14 = .ok (.aload_n 1, 1) := by decide +kernel
theorem dX7_readFilm_15 : decode cX7_readFilm 15 = .ok (.invokevirtual 30, 3) := by decide +kernel
theorem dX7_readFilm_18 : decode cX7_readFilm 18 = .ok (.iconst 0, 1) := by decide +kernel
theorem dX7_readFilm_19 : decode cX7_readFilm 19 = .ok (.istore_n 3, 1) := by decide +kernel
theorem dX7_readFilm_20 : decode cX7_readFilm 20 = .ok (.iload_n 3, 1) := by decide +kernel
theorem dX7_readFilm_21 : decode cX7_readFilm 21 = .ok (.sipush 1000, 3) := by decide +kernel
theorem dX7_readFilm_24 : decode cX7_readFilm 24 = .ok (.if_icmp .ge 115, 3) := by decide +kernel
theorem dX7_readFilm_27 : decode cX7_readFilm 27 = .ok (.aload_n 1, 1) := by decide +kernel
theorem dX7_readFilm_28 : decode cX7_readFilm 28 = .ok (.invokevirtual 35, 3) := by decide +kernel
theorem dX7_readFilm_31 : decode cX7_readFilm 31 = .ok (.ifCond .eq 108, 3) := by decide +kernel
theorem dX7_readFilm_34 : decode cX7_readFilm 34 = .ok (.aload_n 1, 1) := by decide +kernel
theorem dX7_readFilm_35 : decode cX7_readFilm 35 = .ok (.getstatic 39, 3) := by decide +kernel
theorem dX7_readFilm_38 : decode cX7_readFilm 38 = .ok (.invokevirtual 45, 3) := by decide +kernel
theorem dX7_readFilm_41 : decode cX7_readFilm 41 = .ok (.ifCond .eq 12, 3) := by decide +kernel
theorem dX7_readFilm_44 : decode cX7_readFilm 44 = .ok (.aload_n 0, 1) := by decide +kernel
theorem dX7_readFilm_45 : decode cX7_readFilm 45 = .ok (.aload_n 1, 1) := by decide +kernel
theorem dX7_readFilm_46 : decode cX7_readFilm 46 = .ok (.aload_n 2, 1) := by decide +kernel
theorem dX7_readFilm_47 : decode cX7_readFilm 47 = .ok (.invokevirtual 49, 3) := by decide +kernel
theorem dX7_readFilm_50 : decode cX7_readFilm 50 = .ok (.goto 83, 3) := by decide +kernel
theorem dX7_readFilm_53 : decode cX7_readFilm 53 = .ok (.aload_n 1, 1) := by decide +kernel
theorem dX7_readFilm_54 : decode cX7_readFilm 54 = .ok (.getstatic 53, 3) := by decide +kernel
theorem dX7_readFilm_57 : decode cX7_readFilm 57 = .ok (.invokevirtual 45, 3) := by decide +kernel
theorem dX7_readFilm_60 : decode cX7_readFilm 60 = .ok (.ifCond .eq 12, 3) := by decide +kernel
theorem dX7_readFilm_63 : decode cX7_readFilm 63 = .ok (.aload_n 0, 1) := by decide +kernel
theorem dX7_readFilm_64 : decode cX7_readFilm 64 = .ok (.aload_n 1, 1) := by decide +kernel
theorem dX7_readFilm_65 : decode cX7_readFilm 65 = .ok (.aload_n 2, 1) := by decide +kernel
theorem dX7_readFilm_66 : decode cX7_readFilm 66 = .ok (.invokevirtual 56, 3) := by decide +kernel
theorem dX7_readFilm_69 : decode cX7_readFilm 69 = .ok (.goto 64, 3) := by decide +kernel
theorem dX7_readFilm_72 : decode cX7_readFilm 72 = .ok (.aload_n 1, 1) := by decide +kernel
theorem dX7_readFilm_73 : decode cX7_readFilm 73 = .ok (.getstatic 59, 3) := by decide +kernel
theorem dX7_readFilm_76 : decode cX7_readFilm 76 = .ok (.invokevirtual 45, 3) := by decide +kernel
theorem dX7_readFilm_79 : decode cX7_readFilm 79 = .ok (.ifCond .eq 12, 3) := by decide +kernel
theorem dX7_readFilm_82 : decode cX7_readFilm 82 = .ok (.aload_n 0, 1) := by decide +kernel
theorem dX7_readFilm_83 : decode cX7_readFilm 83 = .ok (.aload_n 1, 1) := by decide +kernel
theorem dX7_readFilm_84 : decode cX7_readFilm 84 = .ok (.aload_n 2, 1) := by decide +kernel
theorem dX7_readFilm_85 : decode cX7_readFilm 85 = .ok (.invokevirtual 62, 3) := by decide +kernel
theorem dX7_readFilm_88 : decode cX7_readFilm 88 = .ok (.goto 45, 3) := by decide +kernel
theorem dX7_readFilm_91 : decode cX7_readFilm 91 = .ok (.aload_n 1, 1) := by decide +kernel
theorem dX7_readFilm_92 : decode cX7_readFilm 92 = .ok (.getstatic 65, 3) := by decide +kernel
theorem dX7_readFilm_95 : decode cX7_readFilm 95 = .ok (.invokevirtual 45, 3) := by decide +kernel
theorem dX7_readFilm_98 : decode cX7_readFilm 98 = .ok (.ifCond .eq 12, 3) := by decide +kernel
theorem dX7_readFilm_101 : decode cX7_readFilm 101 = .ok (.aload_n 0, 1) := by decide +kernel
theorem dX7_readFilm_102 : decode cX7_readFilm 102 = .ok (.aload_n 1, 1) := by decide +kernel
theorem dX7_readFilm_103 : decode cX7_readFilm 103 = .ok (.aload_n 2, 1) := by decide +kernel
theorem dX7_readFilm_104 : decode cX7_readFilm 104 = .ok (.invokevirtual 68, 3) := by decide +kernel
theorem dX7_readFilm_107 : decode cX7_readFilm 107 = .ok (.goto 26, 3) := by decide +kernel
theorem dX7_readFilm_110 : decode cX7_readFilm 110 = .ok (.aload_n 1, 1) := by decide +kernel
theorem dX7_readFilm_111 : decode cX7_readFilm 111 = .ok (.getstatic 71, 3) := by decide +kernel
theorem dX7_readFilm_114 : decode cX7_readFilm 114 = .ok (.invokevirtual 45, 3) := by decide +kernel
theorem dX7_readFilm_117 : decode cX7_readFilm 117 = .ok (.ifCond .eq 11, 3) := by decide +kernel
theorem dX7_readFilm_120 : decode cX7_readFilm 120 = .ok (.aload_n 0, 1) := by decide +kernel
theorem dX7_readFilm_121 : decode cX7_readFilm 121 = .ok (.aload_n 1, 1) := by decide +kernel
theorem dX7_readFilm_122 : decode cX7_readFilm 122 = .ok (.invokevirtual 74, 3) := by decide +kernel
theorem dX7_readFilm_125 : decode cX7_readFilm 125 = .ok (.goto 8, 3) := by decide +kernel
theorem dX7_readFilm_128 : decode cX7_readFilm 128 = .ok (.aload_n 1, 1) := by decide +kernel
theorem dX7_readFilm_129 : decode cX7_readFilm 129 = .ok (.iconst 1, 1) := by decide +kernel
theorem dX7_readFilm_130 : decode cX7_readFilm 130 = .ok (.invokevirtual 78, 3) := by decide +kernel
theorem dX7_readFilm_133 : decode cX7_readFilm 133 = .ok (.iinc 3 1, 3) := by decide +kernel
theorem dX7_readFilm_136 : decode cX7_readFilm 136 = .ok (.goto (-116), 3) := by decide +kernel
theorem dX7_readFilm_139 : decode cX7_readFilm 139 = .ok (.aload_n 1, 1) := by decide +kernel
theorem dX7_readFilm_140 : decode cX7_readFilm 140 = .ok (.getfield 82, 3) := by decide +kernel
theorem dX7_readFilm_143 : decode cX7_readFilm 143 = .ok (.ifCond .ne 22, 3) := by decide +kernel
theorem dX7_readFilm_146 : decode cX7_readFilm 146 = .ok (.aload_n 2, 1) := by decide +kernel
theorem dX7_readFilm_147 : decode cX7_readFilm 147 = .ok (.aload_n 0, 1) := by decide +kernel
theorem dX7_readFilm_148 : decode cX7_readFilm 148 = .ok (.getfield 27, 3) := by decide +kernel
theorem dX7_readFilm_151 : decode cX7_readFilm 151 = .ok (.ifCond .eq 10, 3) := by decide +kernel
theorem dX7_readFilm_154 : decode cX7_readFilm 154 = .ok (.aload_n 0, 1) := by decide +kernel
theorem dX7_readFilm_155 : decode cX7_readFilm 155 = .ok (.getfield 12, 3) := by decide +kernel
theorem dX7_readFilm_158 : decode cX7_readFilm 158 = .ok (.goto 4, 3) := by decide +kernel
theorem dX7_readFilm_161 : decode cX7_readFilm 161 = .ok (.aconst_null, 1) := by decide +kernel
theorem dX7_readFilm_162 : decode cX7_readFilm 162 = .ok (.invokevirtual 86, 3) := by decide +kernel
theorem dX7_readFilm_165 : decode cX7_readFilm 165 = .ok (.aload_n 1, 1) := by decide +kernel
theorem dX7_readFilm_166 : decode cX7_readFilm 166 = .ok (.getfield 82, 3) := by decide +kernel
theorem dX7_readFilm_169 : decode cX7_readFilm 169 = .ok (.ireturn, 1) := by decide +kernel
theorem dX7_readThing_0 : decode cX7_readThing 0 = .ok (.aload_n 2, 1) := by decide +kernel
theorem dX7_readThing_1 : decode cX7_readThing 1 = .ok (.getfield 90, 3) := by decide +kernel
theorem dX7_readThing_4 : decode cX7_readThing 4 = .ok (.bipush 6, 2) := by decide +kernel
theorem dX7_readThing_6 : decode cX7_readThing 6 = .ok (.if_icmp .lt 8, 3) := by decide +kernel
theorem dX7_readThing_9 : decode cX7_readThing 9 = .ok (.aload_n 1, 1) := by decide +kernel
theorem dX7_readThing_10 : decode cX7_readThing 10 = .ok (.iconst 5, 1) := by decide +kernel
theorem dX7_readThing_11 : decode cX7_readThing 11 = .ok (.invokevirtual 78, 3) := by decide +kernel
theorem dX7_readThing_14 : decode cX7_readThing 14 = .ok (.aload_n 1, 1) := by decide +kernel
theorem dX7_readThing_15 : decode cX7_readThing 15 = .ok (.invokevirtual 93, 3) := by decide +kernel
theorem dX7_readThing_18 : decode cX7_readThing 18 = .ok (.aload_n 1, 1) := by decide +kernel
theorem dX7_readThing_19 : decode cX7_readThing 19 = .ok (.aload_n 2, 1) := by decide +kernel
theorem dX7_readThing_20 : decode cX7_readThing 20 = .ok (.invokestatic 96, 3) := by decide +kernel
theorem dX7_readThing_23 : decode cX7_readThing 23 = .ok (.lstore_n 3, 1) := by decide +kernel
theorem dX7_readThing_24 : decode cX7_readThing 24 = .ok (.aload_n 1, 1) := by decide +kernel
theorem dX7_readThing_25 : decode cX7_readThing 25 = .ok (.bipush 59, 2) := by decide +kernel
theorem dX7_readThing_27 : decode cX7_readThing 27 = .ok (.invokevirtual 100, 3) := by decide +kernel
theorem dX7_readThing_30 : decode cX7_readThing 30 = .ok (.aload_n 1, 1) := by decide +kernel
theorem dX7_readThing_31 : decode cX7_readThing 31 = .ok (.getfield 82, 3) := by decide +kernel
theorem dX7_readThing_34 : decode cX7_readThing 34 = .ok (.ifCond .ne 8, 3) := by decide +kernel
theorem dX7_readThing_37 : decode cX7_readThing 37 = .ok (.aload_n 2, 1) := by decide +kernel
theorem dX7_readThing_38 : decode cX7_readThing 38 = .ok (.lload_n 3, 1) := by decide +kernel
theorem dX7_readThing_39 : decode cX7_readThing 39 = .ok (.invokevirtual 104, 3) := by decide +kernel
theorem dX7_readThing_42 : decode cX7_readThing 42 = .ok (.return_, 1) := by decide +kernel
theorem dX7_readScene_0 : decode cX7_readScene 0 = .ok (.aload_n 2, 1) := by decide +kernel
theorem dX7_readScene_1 : decode cX7_readScene 1 = .ok (.getfield 108, 3) := by decide +kernel
theorem dX7_readScene_4 : decode cX7_readScene 4 = .ok (.bipush 8, 2) := by decide +kernel
theorem dX7_readScene_6 : decode cX7_readScene 6 = .ok (.if_icmp .lt 8, 3) := by decide +kernel
theorem dX7_readScene_9 : decode cX7_readScene 9 = .ok (.aload_n 1, 1) := by decide +kernel
theorem dX7_readScene_10 : decode cX7_readScene 10 = .ok (.iconst 5, 1) := by decide +kernel
theorem dX7_readScene_11 : decode cX7_readScene 11 = .ok (.invokevirtual 78, 3) := by decide +kernel
theorem dX7_readScene_14 : decode cX7_readScene 14 = .ok (.aload_n 1, 1) := by decide +kernel
theorem dX7_readScene_15 : decode cX7_readScene 15 = .ok (.invokevirtual 93, 3) := by decide +kernel
theorem dX7_readScene_18 : decode cX7_readScene 18 = .ok (.aload_n 1, 1) := by decide +kernel
theorem dX7_readScene_19 : decode cX7_readScene 19 = .ok (.aload_n 2, 1) := by decide +kernel
theorem dX7_readScene_20 : decode cX7_readScene 20 = .ok (.invokestatic 111, 3) := by decide +kernel
theorem dX7_readScene_23 : decode cX7_readScene 23 = .ok (.istore_n 3, 1) := by decide +kernel
theorem dX7_readScene_24 : decode cX7_readScene 24 = .ok (.aload_n 1, 1) := by decide +kernel
theorem dX7_readScene_25 : decode cX7_readScene 25 = .ok (.getstatic 115, 3) := by decide +kernel
theorem dX7_readScene_28 : decode cX7_readScene 28 = .ok (.invokevirtual 118, 3) := by decide +kernel
theorem dX7_readScene_31 : decode cX7_readScene 31 = .ok (.aload_n 1, 1) := by decide +kernel
theorem dX7_readScene_32 : decode cX7_readScene 32 = .ok (.aload_n 2, 1) := by decide +kernel
theorem dX7_readScene_33 : decode cX7_readScene 33 = .ok (.invokestatic 111, 3) := by decide +kernel
theorem dX7_readScene_36 : decode cX7_readScene 36 = .ok (.istore 4, 2) := by decide +kernel
theorem dX7_readScene_38 : decode cX7_readScene 38 = .ok (.aload_n 1, 1) := by decide +kernel
theorem dX7_readScene_39 : decode cX7_readScene 39 = .ok (.bipush 59, 2) := by decide +kernel
theorem dX7_readScene_41 : decode cX7_readScene 41 = .ok (.invokevirtual 100, 3) := by decide +kernel
theorem dX7_readScene_44 : decode cX7_readScene 44 = .ok (.aload_n 1, 1) := by decide +kernel
theorem dX7_readScene_45 : decode cX7_readScene 45 = .ok (.getfield 82, 3) := by decide +kernel
theorem dX7_readScene_48 : decode cX7_readScene 48 = .ok (.ifCond .ne 10, 3) := by decide +kernel
theorem dX7_readScene_51 : decode cX7_readScene 51 = .ok (.aload_n 2, 1) := by decide +kernel
theorem dX7_readScene_52 : decode cX7_readScene 52 = .ok (.iload_n 3, 1) := by decide +kernel
theorem dX7_readScene_53 : decode cX7_readScene 53 = .ok (.iload 4, 2) := by decide +kernel
theorem dX7_readScene_55 : decode cX7_readScene 55 = .ok (.invokevirtual 122, 3) := by decide +kernel
theorem dX7_readScene_58 : decode cX7_readScene 58 = .ok (.return_, 1) := by decide +kernel
theorem dX7_readWatcher_0 : decode cX7_readWatcher 0 = .ok (.aload_n 2, 1) := by decide +kernel
theorem dX7_readWatcher_1 : decode cX7_readWatcher 1 = .ok (.getfield 126, 3) := by decide +kernel
theorem dX7_readWatcher_4 : decode cX7_readWatcher 4 = .ok (.bipush 6, 2) := by decide +kernel
theorem dX7_readWatcher_6 : decode cX7_readWatcher 6 = .ok (.if_icmp .lt 8, 3) := by decide +kernel
theorem dX7_readWatcher_9 : decode cX7_readWatcher 9 = .ok (.aload_n 1, 1) := by decide +kernel
theorem dX7_readWatcher_10 : decode cX7_readWatcher 10 = .ok (.iconst 5, 1) := by decide +kernel
theorem dX7_readWatcher_11 : decode cX7_readWatcher 11 = .ok (.invokevirtual 78, 3) := by decide +kernel
theorem dX7_readWatcher_14 : decode cX7_readWatcher 14 = .ok (.aload_n 1, 1) := by decide +kernel
theorem dX7_readWatcher_15 : decode cX7_readWatcher 15 = .ok (.invokevirtual 93, 3) := by decide +kernel
theorem dX7_readWatcher_18 : decode cX7_readWatcher 18 = .ok (.aload_n 1, 1) := by decide +kernel
theorem dX7_readWatcher_19 : decode cX7_readWatcher 19 = .ok (.aload_n 2, 1) := by decide +kernel
theorem dX7_readWatcher_20 : decode cX7_readWatcher 20 = .ok (.invokestatic 96, 3) := by decide +kernel
theorem dX7_readWatcher_23 : decode cX7_readWatcher 23 = .ok (.lstore_n 3, 1) := by decide +kernel
theorem dX7_readWatcher_24 : decode cX7_readWatcher 24 = .ok (.aload_n 1, 1) := by decide +kernel
theorem dX7_readWatcher_25 : decode cX7_readWatcher 25 = .ok (.invokestatic 129, 3) := by decide +kernel
theorem dX7_readWatcher_28 : decode cX7_readWatcher 28 = .ok (.istore 5, 2) := by decide +kernel
theorem dX7_readWatcher_30 : decode cX7_readWatcher 30 = .ok (.aload_n 1, 1) := by decide +kernel
theorem dX7_readWatcher_31 : decode cX7_readWatcher 31 = .ok (.getstatic 133, 3) := by decide +kernel
theorem dX7_readWatcher_34 : decode cX7_readWatcher 34 = .ok (.invokevirtual 118, 3) := by decide +kernel
theorem dX7_readWatcher_37 : decode cX7_readWatcher 37 = .ok (.aload_n 1, 1) := by decide +kernel
theorem dX7_readWatcher_38 : decode cX7_readWatcher 38 = .ok (.iconst 0, 1) := by decide +kernel
theorem dX7_readWatcher_39 : decode cX7_readWatcher 39 = .ok (.bipush 9, 2) := by decide +kernel
theorem dX7_readWatcher_41 : decode cX7_readWatcher 41 = .ok (.invokevirtual 136, 3) := by decide +kernel
theorem dX7_readWatcher_44 : decode cX7_readWatcher 44 = .ok (.istore 6, 2) := by decide +kernel
theorem dX7_readWatcher_46 : decode cX7_readWatcher 46 = .ok (.aload_n 1, 1) := by decide +kernel
theorem dX7_readWatcher_47 : decode cX7_readWatcher 47 = .ok (.getstatic 140, 3) := by decide +kernel
theorem dX7_readWatcher_50 : decode cX7_readWatcher 50 = .ok (.invokevirtual 118, 3) := by decide +kernel
theorem dX7_readWatcher_53 : decode cX7_readWatcher 53 = .ok (.aload_n 1, 1) := by decide +kernel
theorem dX7_readWatcher_54 : decode cX7_readWatcher 54 = .ok (.iconst 1, 1) := by decide +kernel
theorem dX7_readWatcher_55 : decode cX7_readWatcher 55 = .ok (.bipush 30, 2) := by decide +kernel
theorem dX7_readWatcher_57 : decode cX7_readWatcher 57 = .ok (.invokevirtual 136, 3) := by decide +kernel
theorem dX7_readWatcher_60 : decode cX7_readWatcher 60 = .ok (.istore 7, 2) := by decide +kernel
theorem dX7_readWatcher_62 : decode cX7_readWatcher 62 = .ok (.aload_n 1, 1) := by decide +kernel
theorem dX7_readWatcher_63 : decode cX7_readWatcher 63 = .ok (.bipush 59, 2) := by decide +kernel
theorem dX7_readWatcher_65 : decode cX7_readWatcher 65 = .ok (.invokevirtual 100, 3) := by decide +kernel
theorem dX7_readWatcher_68 : decode cX7_readWatcher 68 = .ok (.aload_n 1, 1) := by decide +kernel
theorem dX7_readWatcher_69 : decode cX7_readWatcher 69 = .ok (.getfield 82, 3) := by decide +kernel
theorem dX7_readWatcher_72 : decode cX7_readWatcher 72 = .ok (.ifCond .ne 14, 3) := by decide +kernel
theorem dX7_readWatcher_75 : decode cX7_readWatcher 75 = .ok (.aload_n 2, 1) := by decide +kernel
theorem dX7_readWatcher_76 : decode cX7_readWatcher 76 = .ok (.lload_n 3, 1) := by decide +kernel
theorem dX7_readWatcher_77 : decode cX7_readWatcher 77 = .ok (.iload 5, 2) := by decide +kernel
theorem dX7_readWatcher_79 : decode cX7_readWatcher 79 = .ok (.iload 6, 2) := by decide +kernel
theorem dX7_readWatcher_81 : decode cX7_readWatcher 81 = .ok (.iload 7, 2) := by decide +kernel
theorem dX7_readWatcher_83 : decode cX7_readWatcher 83 = .ok (.invokevirtual 143, 3) := by decide +kernel
theorem dX7_readWatcher_86 : decode cX7_readWatcher 86 = .ok (.return_, 1) := by decide +kernel
theorem dX7_readStar_0 : decode cX7_readStar 0 = .ok (.aload_n 0, 1) := by decide +kernel
theorem dX7_readStar_1 : decode cX7_readStar 1 = .ok (.getfield 23, 3) := by decide +kernel
theorem dX7_readStar_4 : decode cX7_readStar 4 = .ok (.ifCond .eq 8, 3) := by decide +kernel
theorem dX7_readStar_7 : decode cX7_readStar 7 = .ok (.aload_n 1, 1) := by decide +kernel
theorem dX7_readStar_8 : decode cX7_readStar 8 = .ok (.iconst 3, 1) := by decide +kernel
theorem dX7_readStar_9 : decode cX7_readStar 9 = .ok (.invokevirtual 78, 3) := by decide +kernel
theorem dX7_readStar_12 : decode cX7_readStar 12 = .ok (.aload_n 0, 1) := by decide +kernel
theorem dX7_readStar_13 : decode cX7_readStar 13 = .ok (.iconst 1, 1) := by decide +kernel
theorem dX7_readStar_14 : decode cX7_readStar 14 = .ok (.putfield 23, 3) := by decide +kernel
theorem dX7_readStar_17 : decode cX7_readStar 17 = .ok (.aload_n 1, 1) := by decide +kernel
theorem dX7_readStar_18 : decode cX7_readStar 18 = .ok (.invokevirtual 93, 3) := by decide +kernel
theorem dX7_readStar_21 : decode cX7_readStar 21 = .ok (.aload_n 2, 1) := by decide +kernel
theorem dX7_readStar_22 : decode cX7_readStar 22 = .ok (.aload_n 1, 1) := by decide +kernel
theorem dX7_readStar_23 : decode cX7_readStar 23 = .ok (.iconst 0, 1) := by decide +kernel
theorem dX7_readStar_24 : decode cX7_readStar 24 = .ok (.bipush 8, 2) := by decide +kernel
theorem dX7_readStar_26 : decode cX7_readStar 26 = .ok (.invokevirtual 136, 3) := by decide +kernel
theorem dX7_readStar_29 : decode cX7_readStar 29 = .ok (.putfield 147, 3) := by decide +kernel
theorem dX7_readStar_32 : decode cX7_readStar 32 = .ok (.aload_n 1, 1) := by decide +kernel
theorem dX7_readStar_33 : decode cX7_readStar 33 = .ok (.bipush 59, 2) := by decide +kernel
theorem dX7_readStar_35 : decode cX7_readStar 35 = .ok (.invokevirtual 100, 3) := by decide +kernel
theorem dX7_readStar_38 : decode cX7_readStar 38 = .ok (.return_, 1) := by decide +kernel
theorem dX7_readDoubts_0 : decode cX7_readDoubts 0 = .ok (.aload_n 0, 1) := by decide +kernel
theorem dX7_readDoubts_1 : decode cX7_readDoubts 1 = .ok (.getfield 27, 3) := by decide +kernel
theorem dX7_readDoubts_4 : decode cX7_readDoubts 4 = .ok (.ifCond .eq 8, 3) := by decide +kernel
theorem dX7_readDoubts_7 : decode cX7_readDoubts 7 = .ok (.aload_n 1, 1) := by decide +kernel
theorem dX7_readDoubts_8 : decode cX7_readDoubts 8 = .ok (.iconst 3, 1) := by decide +kernel
theorem dX7_readDoubts_9 : decode cX7_readDoubts 9 = .ok (.invokevirtual 78, 3) := by decide +kernel
theorem dX7_readDoubts_12 : decode cX7_readDoubts 12 = .ok (.aload_n 0, 1) := by decide +kernel
theorem dX7_readDoubts_13 : decode cX7_readDoubts 13 = .ok (.iconst 1, 1) := by decide +kernel
theorem dX7_readDoubts_14 : decode cX7_readDoubts 14 = .ok (.putfield 27, 3) := by decide +kernel
theorem dX7_readDoubts_17 : decode cX7_readDoubts 17 = .ok (.aload_n 1, 1) := by decide +kernel
theorem dX7_readDoubts_18 : decode cX7_readDoubts 18 = .ok (.invokevirtual 93, 3) := by decide +kernel
theorem dX7_readDoubts_21 : decode cX7_readDoubts 21 = .ok (.aload_n 0, 1) := by decide +kernel
theorem dX7_readDoubts_22 : decode cX7_readDoubts 22 = .ok (.getfield 12, 3) := by decide +kernel
theorem dX7_readDoubts_25 : decode cX7_readDoubts 25 = .ok (.iconst 0, 1) := by decide +kernel
theorem dX7_readDoubts_26 : decode cX7_readDoubts 26 = .ok (.putfield 150, 3) := by decide +kernel
theorem dX7_readDoubts_29 : decode cX7_readDoubts 29 = .ok (.aload_n 0, 1) := by decide +kernel
theorem dX7_readDoubts_30 : decode cX7_readDoubts 30 = .ok (.getfield 12, 3) := by decide +kernel
theorem dX7_readDoubts_33 : decode cX7_readDoubts 33 = .ok (.aload_n 1, 1) := by decide +kernel
theorem dX7_readDoubts_34 : decode cX7_readDoubts 34 = .ok (.iconst 0, 1) := by decide +kernel
theorem dX7_readDoubts_35 : decode cX7_readDoubts 35 = .ok (.invokevirtual 153, 3) := by decide +kernel
theorem dX7_readDoubts_38 : decode cX7_readDoubts 38 = .ok (.aload_n 1, 1) := by decide +kernel
theorem dX7_readDoubts_39 : decode cX7_readDoubts 39 = .ok (.bipush 59, 2) := by decide +kernel
theorem dX7_readDoubts_41 : decode cX7_readDoubts 41 = .ok (.invokevirtual 100, 3) := by decide +kernel
theorem dX7_readDoubts_44 : decode cX7_readDoubts 44 = .ok (.return_, 1) := by decide +kernel
theorem dX7_newName_0 : decode cX7_newName 0 = .ok (.aload_n 0, 1) := by decide +kernel
theorem dX7_newName_1 : decode cX7_newName 1 = .ok (.getfield 157, 3) := by decide +kernel
theorem dX7_newName_4 : decode cX7_newName 4 = .ok (.lstore_n 2, 1) := by decide +kernel
theorem dX7_newName_5 : decode cX7_newName 5 = .ok (.aload_n 0, 1) := by decide +kernel
theorem dX7_newName_6 : decode cX7_newName 6 = .ok (.invokevirtual 161, 3) := by decide +kernel
theorem dX7_newName_9 : decode cX7_newName 9 = .ok (.ifCond .ne 11, 3) := by decide +kernel
theorem dX7_newName_12 : decode cX7_newName 12 = .ok (.aload_n 0, 1) := by decide +kernel
theorem dX7_newName_13 : decode cX7_newName 13 = .ok (.iconst 1, 1) := by decide +kernel
theorem dX7_newName_14 : decode cX7_newName 14 = .ok (.invokevirtual 78, 3) := by decide +kernel
theorem dX7_newName_17 : decode cX7_newName 17 = .ok (.goto 26, 3) := by decide +kernel
theorem dX7_newName_20 : decode cX7_newName 20 = .ok (.aload_n 1, 1) := by decide +kernel
theorem dX7_newName_21 : decode cX7_newName 21 = .ok (.lload_n 2, 1) := by decide +kernel
theorem dX7_newName_22 : decode cX7_newName 22 = .ok (.invokevirtual 164, 3) := by decide +kernel
theorem dX7_newName_25 : decode cX7_newName 25 = .ok (.iconst (-1), 1) := by decide +kernel
theorem dX7_newName_26 : decode cX7_newName 26 = .ok (.if_icmp .ne 12, 3) := by decide +kernel
theorem dX7_newName_29 : decode cX7_newName 29 = .ok (.aload_n 1, 1) := by decide +kernel
theorem dX7_newName_30 : decode cX7_newName 30 = .ok (.lload_n 2, 1) := by decide +kernel
theorem dX7_newName_31 : decode cX7_newName 31 = .ok (.invokevirtual 168, 3) := by decide +kernel
theorem dX7_newName_34 : decode cX7_newName 34 = .ok (.iconst (-1), 1) := by decide +kernel
theorem dX7_newName_35 : decode cX7_newName 35 = .ok (.if_icmp .eq 8, 3) := by decide +kernel
theorem dX7_newName_38 : decode cX7_newName 38 = .ok (.aload_n 0, 1) := by decide +kernel
theorem dX7_newName_39 : decode cX7_newName 39 = .ok (.iconst 3, 1) := by decide +kernel
theorem dX7_newName_40 : decode cX7_newName 40 = .ok (.invokevirtual 78, 3) := by decide +kernel
theorem dX7_newName_43 : decode cX7_newName 43 = .ok (.aload_n 0, 1) := by decide +kernel
theorem dX7_newName_44 : decode cX7_newName 44 = .ok (.invokevirtual 93, 3) := by decide +kernel
theorem dX7_newName_47 : decode cX7_newName 47 = .ok (.lload_n 2, 1) := by decide +kernel
theorem dX7_newName_48 : decode cX7_newName 48 = .ok (.lreturn, 1) := by decide +kernel
theorem dX7_readKind_0 : decode cX7_readKind 0 = .ok (.iconst (-1), 1) := by decide +kernel
theorem dX7_readKind_1 : decode cX7_readKind 1 = .ok (.istore_n 1, 1) := by decide +kernel
theorem dX7_readKind_2 : decode cX7_readKind 2 = .ok (.aload_n 0, 1) := by decide +kernel
theorem dX7_readKind_3 : decode cX7_readKind 3 = .ok (.getstatic 171, 3) := by decide +kernel
theorem dX7_readKind_6 : decode cX7_readKind 6 = .ok (.invokevirtual 45, 3) := by decide +kernel
theorem dX7_readKind_9 : decode cX7_readKind 9 = .ok (.ifCond .eq 8, 3) := by decide +kernel
theorem dX7_readKind_12 : decode cX7_readKind 12 = .ok (.iconst 0, 1) := by decide +kernel
theorem dX7_readKind_13 : decode cX7_readKind 13 = .ok (.istore_n 1, 1) := by decide +kernel
theorem dX7_readKind_14 : decode cX7_readKind 14 = .ok (.goto 53, 3) := by decide +kernel
theorem dX7_readKind_17 : decode cX7_readKind 17 = .ok (.aload_n 0, 1) := by decide +kernel
theorem dX7_readKind_18 : decode cX7_readKind 18 = .ok (.getstatic 174, 3) := by decide +kernel
theorem dX7_readKind_21 : decode cX7_readKind 21 = .ok (.invokevirtual 45, 3) := by decide +kernel
theorem dX7_readKind_24 : decode cX7_readKind 24 = .ok (.ifCond .eq 8, 3) := by decide +kernel
theorem dX7_readKind_27 : decode cX7_readKind 27 = .ok (.iconst 1, 1) := by decide +kernel
theorem dX7_readKind_28 : decode cX7_readKind 28 = .ok (.istore_n 1, 1) := by decide +kernel
theorem dX7_readKind_29 : decode cX7_readKind 29 = .ok (.goto 38, 3) := by decide +kernel
theorem dX7_readKind_32 : decode cX7_readKind 32 = .ok (.aload_n 0, 1) := by decide +kernel
theorem dX7_readKind_33 : decode cX7_readKind 33 = .ok (.getstatic 177, 3) := by decide +kernel
theorem dX7_readKind_36 : decode cX7_readKind 36 = .ok (.invokevirtual 45, 3) := by decide +kernel
theorem dX7_readKind_39 : decode cX7_readKind 39 = .ok (.ifCond .eq 8, 3) := by decide +kernel
theorem dX7_readKind_42 : decode cX7_readKind 42 = .ok (.iconst 2, 1) := by decide +kernel
theorem dX7_readKind_43 : decode cX7_readKind 43 = .ok (.istore_n 1, 1) := by decide +kernel
theorem dX7_readKind_44 : decode cX7_readKind 44 = .ok (.goto 23, 3) := by decide +kernel
theorem dX7_readKind_47 : decode cX7_readKind 47 = .ok (.aload_n 0, 1) := by decide +kernel
theorem dX7_readKind_48 : decode cX7_readKind 48 = .ok (.getstatic 180, 3) := by decide +kernel
theorem dX7_readKind_51 : decode cX7_readKind 51 = .ok (.invokevirtual 45, 3) := by decide +kernel
theorem dX7_readKind_54 : decode cX7_readKind 54 = .ok (.ifCond .eq 8, 3) := by decide +kernel
theorem dX7_readKind_57 : decode cX7_readKind 57 = .ok (.iconst 3, 1) := by decide +kernel
theorem dX7_readKind_58 : decode cX7_readKind 58 = .ok (.istore_n 1, 1) := by decide +kernel
theorem dX7_readKind_59 : decode cX7_readKind 59 = .ok (.goto 8, 3) := by decide +kernel
theorem dX7_readKind_62 : decode cX7_readKind 62 = .ok (.aload_n 0, 1) := by decide +kernel
theorem dX7_readKind_63 : decode cX7_readKind 63 = .ok (.iconst 1, 1) := by decide +kernel
theorem dX7_readKind_64 : decode cX7_readKind 64 = .ok (.invokevirtual 78, 3) := by decide +kernel
theorem dX7_readKind_67 : decode cX7_readKind 67 = .ok (.aload_n 0, 1) := by decide +kernel
theorem dX7_readKind_68 : decode cX7_readKind 68 = .ok (.invokevirtual 93, 3) := by decide +kernel
theorem dX7_readKind_71 : decode cX7_readKind 71 = .ok (.iload_n 1, 1) := by decide +kernel
theorem dX7_readKind_72 : decode cX7_readKind 72 = .ok (.ireturn, 1) := by decide +kernel
theorem dX7_readClaim_0 : decode cX7_readClaim 0 = .ok (.aload_n 1, 1) := by decide +kernel
theorem dX7_readClaim_1 : decode cX7_readClaim 1 = .ok (.aload_n 0, 1) := by decide +kernel
theorem dX7_readClaim_2 : decode cX7_readClaim 2 = .ok (.getfield 157, 3) := by decide +kernel
theorem dX7_readClaim_5 : decode cX7_readClaim 5 = .ok (.invokevirtual 164, 3) := by decide +kernel
theorem dX7_readClaim_8 : decode cX7_readClaim 8 = .ok (.istore_n 2, 1) := by decide +kernel
theorem dX7_readClaim_9 : decode cX7_readClaim 9 = .ok (.aload_n 0, 1) := by decide +kernel
theorem dX7_readClaim_10 : decode cX7_readClaim 10 = .ok (.invokevirtual 161, 3) := by decide +kernel
theorem dX7_readClaim_13 : decode cX7_readClaim 13 = .ok (.ifCond .ne 11, 3) := by decide +kernel
theorem dX7_readClaim_16 : decode cX7_readClaim 16 = .ok (.aload_n 0, 1) := by decide +kernel
theorem dX7_readClaim_17 : decode cX7_readClaim 17 = .ok (.iconst 1, 1) := by decide +kernel
theorem dX7_readClaim_18 : decode cX7_readClaim 18 = .ok (.invokevirtual 78, 3) := by decide +kernel
theorem dX7_readClaim_21 : decode cX7_readClaim 21 = .ok (.goto 13, 3) := by decide +kernel
theorem dX7_readClaim_24 : decode cX7_readClaim 24 = .ok (.iload_n 2, 1) := by decide +kernel
theorem dX7_readClaim_25 : decode cX7_readClaim 25 = .ok (.iconst (-1), 1) := by decide +kernel
theorem dX7_readClaim_26 : decode cX7_readClaim 26 = .ok (.if_icmp .ne 8, 3) := by decide +kernel
theorem dX7_readClaim_29 : decode cX7_readClaim 29 = .ok (.aload_n 0, 1) := by decide +kernel
theorem dX7_readClaim_30 : decode cX7_readClaim 30 = .ok (.iconst 2, 1) := by decide +kernel
theorem dX7_readClaim_31 : decode cX7_readClaim 31 = .ok (.invokevirtual 78, 3) := by decide +kernel
theorem dX7_readClaim_34 : decode cX7_readClaim 34 = .ok (.aload_n 0, 1) := by decide +kernel
theorem dX7_readClaim_35 : decode cX7_readClaim 35 = .ok (.invokevirtual 93, 3) := by decide +kernel
theorem dX7_readClaim_38 : decode cX7_readClaim 38 = .ok (.aload_n 0, 1) := by decide +kernel
theorem dX7_readClaim_39 : decode cX7_readClaim 39 = .ok (.getstatic 183, 3) := by decide +kernel
theorem dX7_readClaim_42 : decode cX7_readClaim 42 = .ok (.invokevirtual 45, 3) := by decide +kernel
theorem dX7_readClaim_45 : decode cX7_readClaim 45 = .ok (.istore_n 3, 1) := by decide +kernel
theorem dX7_readClaim_46 : decode cX7_readClaim 46 = .ok (.iload_n 3, 1) := by decide +kernel
theorem dX7_readClaim_47 : decode cX7_readClaim 47 = .ok (.ifCond .ne 18, 3) := by decide +kernel
theorem dX7_readClaim_50 : decode cX7_readClaim 50 = .ok (.aload_n 0, 1) := by decide +kernel
theorem dX7_readClaim_51 : decode cX7_readClaim 51 = .ok (.getstatic 186, 3) := by decide +kernel
theorem dX7_readClaim_54 : decode cX7_readClaim 54 = .ok (.invokevirtual 45, 3) := by decide +kernel
theorem dX7_readClaim_57 : decode cX7_readClaim 57 = .ok (.ifCond .ne 8, 3) := by decide +kernel
theorem dX7_readClaim_60 : decode cX7_readClaim 60 = .ok (.aload_n 0, 1) := by decide +kernel
theorem dX7_readClaim_61 : decode cX7_readClaim 61 = .ok (.iconst 1, 1) := by decide +kernel
theorem dX7_readClaim_62 : decode cX7_readClaim 62 = .ok (.invokevirtual 78, 3) := by decide +kernel
theorem dX7_readClaim_65 : decode cX7_readClaim 65 = .ok (.aload_n 0, 1) := by decide +kernel
theorem dX7_readClaim_66 : decode cX7_readClaim 66 = .ok (.invokevirtual 93, 3) := by decide +kernel
theorem dX7_readClaim_69 : decode cX7_readClaim 69 = .ok (.iload_n 2, 1) := by decide +kernel
theorem dX7_readClaim_70 : decode cX7_readClaim 70 = .ok (.iload_n 3, 1) := by decide +kernel
theorem dX7_readClaim_71 : decode cX7_readClaim 71 = .ok (.invokestatic 189, 3) := by decide +kernel
theorem dX7_readClaim_74 : decode cX7_readClaim 74 = .ok (.ireturn, 1) := by decide +kernel
theorem dX7_readEvening_0 : decode cX7_readEvening 0 = .ok (.aload_n 3, 1) := by decide +kernel
theorem dX7_readEvening_1 : decode cX7_readEvening 1 = .ok (.iconst 0, 1) := by decide +kernel
theorem dX7_readEvening_2 : decode cX7_readEvening 2 = .ok (.putfield 193, 3) := by decide +kernel
theorem dX7_readEvening_5 : decode cX7_readEvening 5 = .ok (.aload_n 1, 1) := by decide +kernel
theorem dX7_readEvening_6 : decode cX7_readEvening 6 = .ok (.invokevirtual 30, 3) := by decide +kernel
theorem dX7_readEvening_9 : decode cX7_readEvening 9 = .ok (.iconst 0, 1) := by decide +kernel
theorem dX7_readEvening_10 : decode cX7_readEvening 10 = .ok (.istore 4, 2) := by decide +kernel
theorem dX7_readEvening_12 : decode cX7_readEvening 12 = .ok (.iload 4, 2) := by decide +kernel
theorem dX7_readEvening_14 : decode cX7_readEvening 14 = .ok (.sipush 1000, 3) := by decide +kernel
theorem dX7_readEvening_17 : decode cX7_readEvening 17 = .ok (.if_icmp .ge 22, 3) := by decide +kernel
theorem dX7_readEvening_20 : decode cX7_readEvening 20 = .ok (.aload_n 1, 1) := by decide +kernel
theorem dX7_readEvening_21 : decode cX7_readEvening 21 = .ok (.invokevirtual 35, 3) := by decide +kernel
theorem dX7_readEvening_24 : decode cX7_readEvening 24 = .ok (.ifCond .eq 15, 3) := by decide +kernel
theorem dX7_readEvening_27 : decode cX7_readEvening 27 = .ok (.aload_n 1, 1) := by decide +kernel
theorem dX7_readEvening_28 : decode cX7_readEvening 28 = .ok (.aload_n 2, 1) := by decide +kernel
theorem dX7_readEvening_29 : decode cX7_readEvening 29 = .ok (.aload_n 3, 1) := by decide +kernel
theorem dX7_readEvening_30 : decode cX7_readEvening 30 = .ok (.invokestatic 198, 3) := by decide +kernel
theorem dX7_readEvening_33 : decode cX7_readEvening 33 = .ok (.iinc 4 1, 3) := by decide +kernel
theorem dX7_readEvening_36 : decode cX7_readEvening 36 = .ok (.goto (-24), 3) := by decide +kernel
theorem dX7_readEvening_39 : decode cX7_readEvening 39 = .ok (.aload_n 1, 1) := by decide +kernel
theorem dX7_readEvening_40 : decode cX7_readEvening 40 = .ok (.getfield 82, 3) := by decide +kernel
theorem dX7_readEvening_43 : decode cX7_readEvening 43 = .ok (.ireturn, 1) := by decide +kernel
theorem dX7_readEveningLine_0 : decode cX7_readEveningLine 0 = .ok (.aload_n 0, 1) := by decide +kernel
theorem dX7_readEveningLine_1 : decode cX7_readEveningLine 1 = .ok (.invokestatic 202, 3) := by decide +kernel
theorem dX7_readEveningLine_4 : decode cX7_readEveningLine 4 = .ok (.istore_n 3, 1) := by decide +kernel
theorem dX7_readEveningLine_5 : decode cX7_readEveningLine 5 = .ok (.iload_n 3, 1) := by decide +kernel
theorem dX7_readEveningLine_6 : decode cX7_readEveningLine 6 = .ok (.iconst (-1), 1) := by decide +kernel
theorem dX7_readEveningLine_7 : decode cX7_readEveningLine 7 = .ok (.if_icmp .ne 11, 3) := by decide +kernel
theorem dX7_readEveningLine_10 : decode cX7_readEveningLine 10 = .ok (.aload_n 0, 1) := by decide +kernel
theorem dX7_readEveningLine_11 : decode cX7_readEveningLine 11 = .ok (.iconst 1, 1) := by decide +kernel
theorem dX7_readEveningLine_12 : decode cX7_readEveningLine 12 = .ok (.invokevirtual 78, 3) := by decide +kernel
theorem dX7_readEveningLine_15 : decode cX7_readEveningLine 15 = .ok (.goto 17, 3) := by decide +kernel
theorem dX7_readEveningLine_18 : decode cX7_readEveningLine 18 = .ok (.aload_n 2, 1) := by decide +kernel
theorem dX7_readEveningLine_19 : decode cX7_readEveningLine 19 = .ok (.getfield 193, 3) := by decide +kernel
theorem dX7_readEveningLine_22 : decode cX7_readEveningLine 22 = .ok (.bipush 40, 2) := by decide +kernel
theorem dX7_readEveningLine_24 : decode cX7_readEveningLine 24 = .ok (.if_icmp .lt 8, 3) := by decide +kernel
theorem dX7_readEveningLine_27 : decode cX7_readEveningLine 27 = .ok (.aload_n 0, 1) := by decide +kernel
theorem dX7_readEveningLine_28 : decode cX7_readEveningLine 28 = .ok (.iconst 5, 1) := by decide +kernel
theorem dX7_readEveningLine_29 : decode cX7_readEveningLine 29 = .ok (.invokevirtual 78, 3) := by decide +kernel
theorem dX7_readEveningLine_32 : decode cX7_readEveningLine 32 = .ok (.aload_n 0, 1) := by decide +kernel
theorem dX7_readEveningLine_33 : decode cX7_readEveningLine 33 = .ok (.invokevirtual 93, 3) := by decide +kernel
theorem dX7_readEveningLine_36 : decode cX7_readEveningLine 36 = .ok (.iconst 0, 1) := by decide +kernel
theorem dX7_readEveningLine_37 : decode cX7_readEveningLine 37 = .ok (.istore 4, 2) := by decide +kernel
theorem dX7_readEveningLine_39 : decode cX7_readEveningLine 39 = .ok (.iconst 0, 1) := by decide +kernel
theorem dX7_readEveningLine_40 : decode cX7_readEveningLine 40 = .ok (.istore 5, 2) := by decide +kernel
theorem dX7_readEveningLine_42 : decode cX7_readEveningLine 42 = .ok (.iload_n 3, 1) := by decide +kernel
theorem dX7_readEveningLine_43 : decode cX7_readEveningLine 43 = .ok (.iconst 1, 1) := by decide +kernel
theorem dX7_readEveningLine_44 : decode cX7_readEveningLine 44 = .ok (.if_icmp .eq 8, 3) := by decide +kernel
theorem dX7_readEveningLine_47 : decode cX7_readEveningLine 47 = .ok (.iload_n 3, 1) := by decide +kernel
theorem dX7_readEveningLine_48 : decode cX7_readEveningLine 48 = .ok (.iconst 2, 1) := by decide +kernel
theorem dX7_readEveningLine_49 : decode cX7_readEveningLine 49 = .ok (.if_icmp .ne 12, 3) := by decide +kernel
theorem dX7_readEveningLine_52 : decode cX7_readEveningLine 52 = .ok (.aload_n 0, 1) := by decide +kernel
theorem dX7_readEveningLine_53 : decode cX7_readEveningLine 53 = .ok (.iconst 0, 1) := by decide +kernel
theorem dX7_readEveningLine_54 : decode cX7_readEveningLine 54 = .ok (.bipush 7, 2) := by decide +kernel
theorem dX7_readEveningLine_56 : decode cX7_readEveningLine 56 = .ok (.invokevirtual 136, 3) := by decide +kernel
theorem dX7_readEveningLine_59 : decode cX7_readEveningLine 59 = .ok (.istore 4, 2) := by decide +kernel
theorem dX7_readEveningLine_61 : decode cX7_readEveningLine 61 = .ok (.iload_n 3, 1) := by decide +kernel
theorem dX7_readEveningLine_62 : decode cX7_readEveningLine 62 = .ok (.iconst 1, 1) := by decide +kernel
theorem dX7_readEveningLine_63 : decode cX7_readEveningLine 63 = .ok (.if_icmp .ne 10, 3) := by decide +kernel
theorem dX7_readEveningLine_66 : decode cX7_readEveningLine 66 = .ok (.aload_n 0, 1) := by decide +kernel
theorem dX7_readEveningLine_67 : decode cX7_readEveningLine 67 = .ok (.aload_n 1, 1) := by decide +kernel
theorem dX7_readEveningLine_68 : decode cX7_readEveningLine 68 = .ok (.invokestatic 111, 3) := by decide +kernel
theorem dX7_readEveningLine_71 : decode cX7_readEveningLine 71 = .ok (.istore 5, 2) := by decide +kernel
theorem dX7_readEveningLine_73 : decode cX7_readEveningLine 73 = .ok (.iload_n 3, 1) := by decide +kernel
theorem dX7_readEveningLine_74 : decode cX7_readEveningLine 74 = .ok (.iconst 3, 1) := by decide +kernel
theorem dX7_readEveningLine_75 : decode cX7_readEveningLine 75 = .ok (.if_icmp .ne 20, 3) := by decide +kernel
theorem dX7_readEveningLine_78 : decode cX7_readEveningLine 78 = .ok (.aload_n 0, 1) := by decide +kernel
theorem dX7_readEveningLine_79 : decode cX7_readEveningLine 79 = .ok (.aload_n 1, 1) := by decide +kernel
theorem dX7_readEveningLine_80 : decode cX7_readEveningLine 80 = .ok (.iconst (-1), 1) := by decide +kernel
theorem dX7_readEveningLine_81 : decode cX7_readEveningLine 81 = .ok (.invokestatic 205, 3) := by decide +kernel
theorem dX7_readEveningLine_84 : decode cX7_readEveningLine 84 = .ok (.istore 4, 2) := by decide +kernel
theorem dX7_readEveningLine_86 : decode cX7_readEveningLine 86 = .ok (.aload_n 0, 1) := by decide +kernel
theorem dX7_readEveningLine_87 : decode cX7_readEveningLine 87 = .ok (.aload_n 1, 1) := by decide +kernel
theorem dX7_readEveningLine_88 : decode cX7_readEveningLine 88 = .ok (.iload 4, 2) := by decide +kernel
theorem dX7_readEveningLine_90 : decode cX7_readEveningLine 90 = .ok (.invokestatic 205, 3) := by decide +kernel
theorem dX7_readEveningLine_93 : decode cX7_readEveningLine 93 = .ok (.istore 5, 2) := by decide +kernel
theorem dX7_readEveningLine_95 : decode cX7_readEveningLine 95 = .ok (.aload_n 0, 1) := by decide +kernel
theorem dX7_readEveningLine_96 : decode cX7_readEveningLine 96 = .ok (.bipush 59, 2) := by decide +kernel
theorem dX7_readEveningLine_98 : decode cX7_readEveningLine 98 = .ok (.invokevirtual 100, 3) := by decide +kernel
theorem dX7_readEveningLine_101 : decode cX7_readEveningLine 101 = .ok (.aload_n 0, 1) := by decide +kernel
theorem dX7_readEveningLine_102 : decode cX7_readEveningLine 102 = .ok (.getfield 82, 3) := by decide +kernel
theorem dX7_readEveningLine_105 : decode cX7_readEveningLine 105 = .ok (.ifCond .ne 12, 3) := by decide +kernel
theorem dX7_readEveningLine_108 : decode cX7_readEveningLine 108 = .ok (.aload_n 2, 1) := by decide +kernel
theorem dX7_readEveningLine_109 : decode cX7_readEveningLine 109 = .ok (.iload_n 3, 1) := by decide +kernel
theorem dX7_readEveningLine_110 : decode cX7_readEveningLine 110 = .ok (.iload 4, 2) := by decide +kernel
theorem dX7_readEveningLine_112 : decode cX7_readEveningLine 112 = .ok (.iload 5, 2) := by decide +kernel
theorem dX7_readEveningLine_114 : decode cX7_readEveningLine 114 = .ok (.invokevirtual 209, 3) := by decide +kernel
theorem dX7_readEveningLine_117 : decode cX7_readEveningLine 117 = .ok (.return_, 1) := by decide +kernel
theorem dX7_deedAt_0 : decode cX7_deedAt 0 = .ok (.aload_n 0, 1) := by decide +kernel
theorem dX7_deedAt_1 : decode cX7_deedAt 1 = .ok (.getstatic 213, 3) := by decide +kernel
theorem dX7_deedAt_4 : decode cX7_deedAt 4 = .ok (.invokevirtual 45, 3) := by decide +kernel
theorem dX7_deedAt_7 : decode cX7_deedAt 7 = .ok (.ifCond .eq 5, 3) := by decide +kernel
theorem dX7_deedAt_10 : decode cX7_deedAt 10 = .ok (.iconst 0, 1) := by decide +kernel
theorem dX7_deedAt_11 : decode cX7_deedAt 11 = .ok (.ireturn, 1) := by decide +kernel
theorem dX7_deedAt_12 : decode cX7_deedAt 12 = .ok (.aload_n 0, 1) := by decide +kernel
theorem dX7_deedAt_13 : decode cX7_deedAt 13 = .ok (.getstatic 216, 3) := by decide +kernel
theorem dX7_deedAt_16 : decode cX7_deedAt 16 = .ok (.invokevirtual 45, 3) := by decide +kernel
theorem dX7_deedAt_19 : decode cX7_deedAt 19 = .ok (.ifCond .eq 5, 3) := by decide +kernel
theorem dX7_deedAt_22 : decode cX7_deedAt 22 = .ok (.iconst 1, 1) := by decide +kernel
theorem dX7_deedAt_23 : decode cX7_deedAt 23 = .ok (.ireturn, 1) := by decide +kernel
theorem dX7_deedAt_24 : decode cX7_deedAt 24 = .ok (.aload_n 0, 1) := by decide +kernel
theorem dX7_deedAt_25 : decode cX7_deedAt 25 = .ok (.getstatic 219, 3) := by decide +kernel
theorem dX7_deedAt_28 : decode cX7_deedAt 28 = .ok (.invokevirtual 45, 3) := by decide +kernel
theorem dX7_deedAt_31 : decode cX7_deedAt 31 = .ok (.ifCond .eq 5, 3) := by decide +kernel
theorem dX7_deedAt_34 : decode cX7_deedAt 34 = .ok (.iconst 2, 1) := by decide +kernel
theorem dX7_deedAt_35 : decode cX7_deedAt 35 = .ok (.ireturn, 1) := by decide +kernel
theorem dX7_deedAt_36 : decode cX7_deedAt 36 = .ok (.aload_n 0, 1) := by decide +kernel
theorem dX7_deedAt_37 : decode cX7_deedAt 37 = .ok (.getstatic 222, 3) := by decide +kernel
theorem dX7_deedAt_40 : decode cX7_deedAt 40 = .ok (.invokevirtual 45, 3) := by decide +kernel
theorem dX7_deedAt_43 : decode cX7_deedAt 43 = .ok (.ifCond .eq 5, 3) := by decide +kernel
theorem dX7_deedAt_46 : decode cX7_deedAt 46 = .ok (.iconst 3, 1) := by decide +kernel
theorem dX7_deedAt_47 : decode cX7_deedAt 47 = .ok (.ireturn, 1) := by decide +kernel
theorem dX7_deedAt_48 : decode cX7_deedAt 48 = .ok (.aload_n 0, 1) := by decide +kernel
theorem dX7_deedAt_49 : decode cX7_deedAt 49 = .ok (.getstatic 225, 3) := by decide +kernel
theorem dX7_deedAt_52 : decode cX7_deedAt 52 = .ok (.invokevirtual 45, 3) := by decide +kernel
theorem dX7_deedAt_55 : decode cX7_deedAt 55 = .ok (.ifCond .eq 7, 3) := by decide +kernel
theorem dX7_deedAt_58 : decode cX7_deedAt 58 = .ok (.iconst 4, 1) := by decide +kernel
theorem dX7_deedAt_59 : decode cX7_deedAt 59 = .ok (.goto 4, 3) := by decide +kernel
theorem dX7_deedAt_62 : decode cX7_deedAt 62 = .ok (.iconst (-1), 1) := by decide +kernel
theorem dX7_deedAt_63 : decode cX7_deedAt 63 = .ok (.ireturn, 1) := by decide +kernel
theorem dX7_readTalker_0 : decode cX7_readTalker 0 = .ok (.aload_n 1, 1) := by decide +kernel
theorem dX7_readTalker_1 : decode cX7_readTalker 1 = .ok (.aload_n 0, 1) := by decide +kernel
theorem dX7_readTalker_2 : decode cX7_readTalker 2 = .ok (.getfield 157, 3) := by decide +kernel
theorem dX7_readTalker_5 : decode cX7_readTalker 5 = .ok (.invokevirtual 168, 3) := by decide +kernel
theorem dX7_readTalker_8 : decode cX7_readTalker 8 = .ok (.istore_n 3, 1) := by decide +kernel
theorem dX7_readTalker_9 : decode cX7_readTalker 9 = .ok (.aload_n 0, 1) := by decide +kernel
theorem dX7_readTalker_10 : decode cX7_readTalker 10 = .ok (.invokevirtual 161, 3) := by decide +kernel
theorem dX7_readTalker_13 : decode cX7_readTalker 13 = .ok (.ifCond .ne 11, 3) := by decide +kernel
theorem dX7_readTalker_16 : decode cX7_readTalker 16 = .ok (.aload_n 0, 1) := by decide +kernel
theorem dX7_readTalker_17 : decode cX7_readTalker 17 = .ok (.iconst 1, 1) := by decide +kernel
theorem dX7_readTalker_18 : decode cX7_readTalker 18 = .ok (.invokevirtual 78, 3) := by decide +kernel
theorem dX7_readTalker_21 : decode cX7_readTalker 21 = .ok (.goto 26, 3) := by decide +kernel
theorem dX7_readTalker_24 : decode cX7_readTalker 24 = .ok (.iload_n 3, 1) := by decide +kernel
theorem dX7_readTalker_25 : decode cX7_readTalker 25 = .ok (.iconst (-1), 1) := by decide +kernel
theorem dX7_readTalker_26 : decode cX7_readTalker 26 = .ok (.if_icmp .ne 11, 3) := by decide +kernel
theorem dX7_readTalker_29 : decode cX7_readTalker 29 = .ok (.aload_n 0, 1) := by decide +kernel
theorem dX7_readTalker_30 : decode cX7_readTalker 30 = .ok (.iconst 2, 1) := by decide +kernel
theorem dX7_readTalker_31 : decode cX7_readTalker 31 = .ok (.invokevirtual 78, 3) := by decide +kernel
theorem dX7_readTalker_34 : decode cX7_readTalker 34 = .ok (.goto 13, 3) := by decide +kernel
theorem dX7_readTalker_37 : decode cX7_readTalker 37 = .ok (.iload_n 3, 1) := by decide +kernel
theorem dX7_readTalker_38 : decode cX7_readTalker 38 = .ok (.iload_n 2, 1) := by decide +kernel
theorem dX7_readTalker_39 : decode cX7_readTalker 39 = .ok (.if_icmp .ne 8, 3) := by decide +kernel
theorem dX7_readTalker_42 : decode cX7_readTalker 42 = .ok (.aload_n 0, 1) := by decide +kernel
theorem dX7_readTalker_43 : decode cX7_readTalker 43 = .ok (.iconst 3, 1) := by decide +kernel
theorem dX7_readTalker_44 : decode cX7_readTalker 44 = .ok (.invokevirtual 78, 3) := by decide +kernel
theorem dX7_readTalker_47 : decode cX7_readTalker 47 = .ok (.aload_n 0, 1) := by decide +kernel
theorem dX7_readTalker_48 : decode cX7_readTalker 48 = .ok (.invokevirtual 93, 3) := by decide +kernel
theorem dX7_readTalker_51 : decode cX7_readTalker 51 = .ok (.iload_n 3, 1) := by decide +kernel
theorem dX7_readTalker_52 : decode cX7_readTalker 52 = .ok (.ireturn, 1) := by decide +kernel
theorem dX8_get_0 : decode cX8_get 0 = .ok (.iload_n 1, 1) := by decide +kernel
theorem dX8_get_1 : decode cX8_get 1 = .ok (.ifCond .lt 15, 3) := by decide +kernel
theorem dX8_get_4 : decode cX8_get 4 = .ok (.iload_n 1, 1) := by decide +kernel
theorem dX8_get_5 : decode cX8_get 5 = .ok (.aload_n 0, 1) := by decide +kernel
theorem dX8_get_6 : decode cX8_get 6 = .ok (.arraylength, 1) := by decide +kernel
theorem dX8_get_7 : decode cX8_get 7 = .ok (.if_icmp .ge 9, 3) := by decide +kernel
theorem dX8_get_10 : decode cX8_get 10 = .ok (.aload_n 0, 1) := by decide +kernel
theorem dX8_get_11 : decode cX8_get 11 = .ok (.iload_n 1, 1) := by decide +kernel
theorem dX8_get_12 : decode cX8_get 12 = .ok (.iaload, 1) := by decide +kernel
theorem dX8_get_13 : decode cX8_get 13 = .ok (.goto 4, 3) := by decide +kernel
theorem dX8_get_16 : decode cX8_get 16 = .ok (.iconst (-1), 1) := by decide +kernel
theorem dX8_get_17 : decode cX8_get 17 = .ok (.ireturn, 1) := by decide +kernel
theorem dX8_set_0 : decode cX8_set 0 = .ok (.iload_n 1, 1) := by decide +kernel
theorem dX8_set_1 : decode cX8_set 1 = .ok (.ifCond .lt 13, 3) := by decide +kernel
theorem dX8_set_4 : decode cX8_set 4 = .ok (.iload_n 1, 1) := by decide +kernel
theorem dX8_set_5 : decode cX8_set 5 = .ok (.aload_n 0, 1) := by decide +kernel
theorem dX8_set_6 : decode cX8_set 6 = .ok (.arraylength, 1) := by decide +kernel
theorem dX8_set_7 : decode cX8_set 7 = .ok (.if_icmp .ge 7, 3) := by decide +kernel
theorem dX8_set_10 : decode cX8_set 10 = .ok (.aload_n 0, 1) := by decide +kernel
theorem dX8_set_11 : decode cX8_set 11 = .ok (.iload_n 1, 1) := by decide +kernel
theorem dX8_set_12 : decode cX8_set 12 = .ok (.iload_n 2, 1) := by decide +kernel
theorem dX8_set_13 : decode cX8_set 13 = .ok (.iastore, 1) := by decide +kernel
theorem dX8_set_14 : decode cX8_set 14 = .ok (.return_, 1) := by decide +kernel
theorem dX8_copy_0 : decode cX8_copy 0 = .ok (.aload_n 0, 1) := by decide +kernel
theorem dX8_copy_1 : decode cX8_copy 1 = .ok (.iconst 0, 1) := by decide +kernel
theorem dX8_copy_2 : decode cX8_copy 2 = .ok (.aload_n 1, 1) := by decide +kernel
theorem dX8_copy_3 : decode cX8_copy 3 = .ok (.iconst 0, 1) := by decide +kernel
theorem dX8_copy_4 : decode cX8_copy 4 = .ok (.aload_n 0, 1) := by decide +kernel
theorem dX8_copy_5 : decode cX8_copy 5 = .ok (.arraylength, 1) := by decide +kernel
theorem dX8_copy_6 : decode cX8_copy 6 = .ok (.aload_n 1, 1) := by decide +kernel
theorem dX8_copy_7 : decode cX8_copy 7 = .ok (.arraylength, 1) := by decide +kernel
theorem dX8_copy_8 : decode cX8_copy 8 = .ok (.invokestatic 9, 3) := by decide +kernel
theorem dX8_copy_11 : decode cX8_copy 11 = .ok (.invokestatic 15, 3) := by decide +kernel
theorem dX8_copy_14 : decode cX8_copy 14 = .ok (.return_, 1) := by decide +kernel
theorem dX9_init_0 : decode cX9_init 0 = .ok (.aload_n 0, 1) := by decide +kernel
theorem dX9_init_1 : decode cX9_init 1 = .ok (.invokespecial 3, 3) := by decide +kernel
theorem dX9_init_4 : decode cX9_init 4 = .ok (.aload_n 0, 1) := by decide +kernel
theorem dX9_init_5 : decode cX9_init 5 = .ok (.sipush 1000, 3) := by decide +kernel
theorem dX9_init_8 : decode cX9_init 8 = .ok (.newarray .char, 2) := by decide +kernel
theorem dX9_init_10 : decode cX9_init 10 = .ok (.putfield 9, 3) := by decide +kernel
theorem dX9_init_13 : decode cX9_init 13 = .ok (.return_, 1) := by decide +kernel
theorem dX9_add_0 : decode cX9_add 0 = .ok (.bipush 56, 2) := by decide +kernel
theorem dX9_add_2 : decode cX9_add 2 = .ok (.istore_n 3, 1) := by decide +kernel
theorem dX9_add_3 : decode cX9_add 3 = .ok (.iload_n 3, 1) := by decide +kernel
theorem dX9_add_4 : decode cX9_add 4 = .ok (.ifCond .lt 81, 3) := by decide +kernel
theorem dX9_add_7 : decode cX9_add 7 = .ok (.lload_n 1, 1) := by decide +kernel
theorem dX9_add_8 : decode cX9_add 8 = .ok (.iload_n 3, 1) := by decide +kernel
theorem dX9_add_9 : decode cX9_add 9 = .ok (.lushr, 1) := by decide +kernel
theorem dX9_add_10 : decode cX9_add 10 = .ok (.ldc2_w 15, 3) := by decide +kernel
theorem dX9_add_13 : decode cX9_add 13 = .ok (.land, 1) := by decide +kernel
theorem dX9_add_14 : decode cX9_add 14 = .ok (.l2i, 1) := by decide +kernel
theorem dX9_add_15 : decode cX9_add 15 = .ok (.i2c, 1) := by decide +kernel
theorem dX9_add_16 : decode cX9_add 16 = .ok (.istore 4, 2) := by decide +kernel
theorem dX9_add_18 : decode cX9_add 18 = .ok (.iload 4, 2) := by decide +kernel
theorem dX9_add_20 : decode cX9_add 20 = .ok (.bipush 10, 2) := by decide +kernel
theorem dX9_add_22 : decode cX9_add 22 = .ok (.if_icmp .eq 17, 3) := by decide +kernel
theorem dX9_add_25 : decode cX9_add 25 = .ok (.iload 4, 2) := by decide +kernel
theorem dX9_add_27 : decode cX9_add 27 = .ok (.bipush 32, 2) := by decide +kernel
theorem dX9_add_29 : decode cX9_add 29 = .ok (.if_icmp .lt 50, 3) := by decide +kernel
theorem dX9_add_32 : decode cX9_add 32 = .ok (.iload 4, 2) := by decide +kernel
theorem dX9_add_34 : decode cX9_add 34 = .ok (.bipush 126, 2) := by decide +kernel
theorem dX9_add_36 : decode cX9_add 36 = .ok (.if_icmp .gt 43, 3) := by decide +kernel
theorem dX9_add_39 : decode cX9_add 39 = .ok (.aload_n 0, 1) := by decide +kernel
theorem dX9_add_40 : decode cX9_add 40 = .ok (.getfield 17, 3) := by decide +kernel
theorem dX9_add_43 : decode cX9_add 43 = .ok (.ifCond .lt 36, 3) := by decide +kernel
theorem dX9_add_46 : decode cX9_add 46 = .ok (.aload_n 0, 1) := by decide +kernel
theorem dX9_add_47 : decode cX9_add 47 = .ok (.getfield 17, 3) := by decide +kernel
theorem dX9_add_50 : decode cX9_add 50 = .ok (.aload_n 0, 1) := by decide +kernel
theorem dX9_add_51 : decode cX9_add 51 = .ok (.getfield 9, 3) := by decide +kernel
theorem dX9_add_54 : decode cX9_add 54 = .ok (.arraylength, 1) := by decide +kernel
theorem dX9_add_55 : decode cX9_add 55 = .ok (.if_icmp .ge 24, 3) := by decide +kernel
theorem dX9_add_58 : decode cX9_add 58 = .ok (.aload_n 0, 1) := by decide +kernel
theorem dX9_add_59 : decode cX9_add 59 = .ok (.getfield 9, 3) := by decide +kernel
theorem dX9_add_62 : decode cX9_add 62 = .ok (.aload_n 0, 1) := by decide +kernel
theorem dX9_add_63 : decode cX9_add 63 = .ok (.getfield 17, 3) := by decide +kernel
theorem dX9_add_66 : decode cX9_add 66 = .ok (.iload 4, 2) := by decide +kernel
theorem dX9_add_68 : decode cX9_add 68 = .ok (.castore, 1) := by decide +kernel
theorem dX9_add_69 : decode cX9_add 69 = .ok (.aload_n 0, 1) := by decide +kernel
theorem dX9_add_70 : decode cX9_add 70 = .ok (.dup, 1) := by decide +kernel
theorem dX9_add_71 : decode cX9_add 71 = .ok (.getfield 17, 3) := by decide +kernel
theorem dX9_add_74 : decode cX9_add 74 = .ok (.iconst 1, 1) := by decide +kernel
theorem dX9_add_75 : decode cX9_add 75 = .ok (.iadd, 1) := by decide +kernel
theorem dX9_add_76 : decode cX9_add 76 = .ok (.putfield 17, 3) := by decide +kernel
theorem dX9_add_79 : decode cX9_add 79 = .ok (.iinc 3 (-8), 3) := by decide +kernel
theorem dX9_add_82 : decode cX9_add 82 = .ok (.goto (-79), 3) := by decide +kernel
theorem dX9_add_85 : decode cX9_add 85 = .ok (.return_, 1) := by decide +kernel
theorem dX9_begin_0 : decode cX9_begin 0 = .ok (.aload_n 0, 1) := by decide +kernel
theorem dX9_begin_1 : decode cX9_begin 1 = .ok (.iconst 0, 1) := by decide +kernel
theorem dX9_begin_2 : decode cX9_begin 2 = .ok (.putfield 21, 3) := by decide +kernel
theorem dX9_begin_5 : decode cX9_begin 5 = .ok (.aload_n 0, 1) := by decide +kernel
theorem dX9_begin_6 : decode cX9_begin 6 = .ok (.iconst 0, 1) := by decide +kernel
theorem dX9_begin_7 : decode cX9_begin 7 = .ok (.putfield 24, 3) := by decide +kernel
theorem dX9_begin_10 : decode cX9_begin 10 = .ok (.aload_n 0, 1) := by decide +kernel
theorem dX9_begin_11 : decode cX9_begin 11 = .ok (.invokevirtual 27, 3) := by decide +kernel
theorem dX9_begin_14 : decode cX9_begin 14 = .ok (.return_, 1) := by decide +kernel
theorem dX9_refuse_0 : decode cX9_refuse 0 = .ok (.aload_n 0, 1) := by decide +kernel
theorem dX9_refuse_1 : decode cX9_refuse 1 = .ok (.getfield 24, 3) := by decide +kernel
theorem dX9_refuse_4 : decode cX9_refuse 4 = .ok (.ifCond .ne 16, 3) := by decide +kernel
theorem dX9_refuse_7 : decode cX9_refuse 7 = .ok (.aload_n 0, 1) := by decide +kernel
theorem dX9_refuse_8 : decode cX9_refuse 8 = .ok (.iload_n 1, 1) := by decide +kernel
theorem dX9_refuse_9 : decode cX9_refuse 9 = .ok (.bipush 16, 2) := by decide +kernel
theorem dX9_refuse_11 : decode cX9_refuse 11 = .ok (.aload_n 0, 1) := by decide +kernel
theorem dX9_refuse_12 : decode cX9_refuse 12 = .ok (.getfield 30, 3) := by decide +kernel
theorem dX9_refuse_15 : decode cX9_refuse 15 = .ok (.imul, 1) := by decide +kernel
theorem dX9_refuse_16 : decode cX9_refuse 16 = .ok (.iadd, 1) := by decide +kernel
theorem dX9_refuse_17 : decode cX9_refuse 17 = .ok (.putfield 24, 3) := by decide +kernel
theorem dX9_refuse_20 : decode cX9_refuse 20 = .ok (.return_, 1) := by decide +kernel
theorem dX9_step_0 : decode cX9_step 0 = .ok (.aload_n 0, 1) := by decide +kernel
theorem dX9_step_1 : decode cX9_step 1 = .ok (.getfield 24, 3) := by decide +kernel
theorem dX9_step_4 : decode cX9_step 4 = .ok (.ifCond .eq 4, 3) := by decide +kernel
theorem dX9_step_7 : decode cX9_step 7 = .ok (.return_, 1) := by decide +kernel
theorem dX9_step_8 : decode cX9_step 8 = .ok (.aload_n 0, 1) := by decide +kernel
theorem dX9_step_9 : decode cX9_step 9 = .ok (.getfield 21, 3) := by decide +kernel
theorem dX9_step_12 : decode cX9_step 12 = .ok (.aload_n 0, 1) := by decide +kernel
theorem dX9_step_13 : decode cX9_step 13 = .ok (.getfield 17, 3) := by decide +kernel
theorem dX9_step_16 : decode cX9_step 16 = .ok (.if_icmp .ge 42, 3) := by decide +kernel
theorem dX9_step_19 : decode cX9_step 19 = .ok (.aload_n 0, 1) := by decide +kernel
theorem dX9_step_20 : decode cX9_step 20 = .ok (.aload_n 0, 1) := by decide +kernel
theorem dX9_step_21 : decode cX9_step 21 = .ok (.getfield 21, 3) := by decide +kernel
theorem dX9_step_24 : decode cX9_step 24 = .ok (.invokevirtual 33, 3) := by decide +kernel
theorem dX9_step_27 : decode cX9_step 27 = .ok (.bipush 10, 2) := by decide +kernel
theorem dX9_step_29 : decode cX9_step 29 = .ok (.if_icmp .eq 16, 3) := by decide +kernel
theorem dX9_step_32 : decode cX9_step 32 = .ok (.aload_n 0, 1) := by decide +kernel
theorem dX9_step_33 : decode cX9_step 33 = .ok (.aload_n 0, 1) := by decide +kernel
theorem dX9_step_34 : decode cX9_step 34 = .ok (.getfield 21, 3) := by decide +kernel
theorem dX9_step_37 : decode cX9_step 37 = .ok (.invokevirtual 33, 3) := by decide +kernel
theorem dX9_step_40 : decode cX9_step 40 = .ok (.bipush 32, 2) := by decide +kernel
theorem dX9_step_42 : decode cX9_step 42 = .ok (.if_icmp .ne 16, 3) := by decide +kernel
theorem dX9_step_45 : decode cX9_step 45 = .ok (.aload_n 0, 1) := by decide +kernel
theorem dX9_step_46 : decode cX9_step 46 = .ok (.dup, 1) := by decide +kernel
theorem dX9_step_47 : decode cX9_step 47 = .ok (.getfield 21, 3) := by decide +kernel
theorem dX9_step_50 : decode cX9_step 50 = .ok (.iconst 1, 1) := by decide +kernel
theorem dX9_step_51 : decode cX9_step 51 = .ok (.iadd, 1) := by decide +kernel
theorem dX9_step_52 : decode cX9_step 52 = .ok (.putfield 21, 3) := by decide +kernel
theorem dX9_step_55 : decode cX9_step 55 = .ok (.goto (-47), 3) := by decide +kernel
theorem dX9_step_58 : decode cX9_step 58 = .ok (.aload_n 0, 1) := by decide +kernel
theorem dX9_step_59 : decode cX9_step 59 = .ok (.aload_n 0, 1) := by decide +kernel
theorem dX9_step_60 : decode cX9_step 60 = .ok (.getfield 21, 3) := by decide +kernel
theorem dX9_step_63 : decode cX9_step 63 = .ok (.putfield 30, 3) := by decide +kernel
theorem dX9_step_66 : decode cX9_step 66 = .ok (.aload_n 0, 1) := by decide +kernel
theorem dX9_step_67 : decode cX9_step 67 = .ok (.aconst_null, 1) := by decide +kernel
theorem dX9_step_68 : decode cX9_step 68 = .ok (.putfield 37, 3) := by decide +kernel
theorem dX9_step_71 : decode cX9_step 71 = .ok (.aload_n 0, 1) := by decide +kernel
theorem dX9_step_72 : decode cX9_step 72 = .ok (.aload_n 0, 1) := by decide +kernel
theorem dX9_step_73 : decode cX9_step 73 = .ok (.getfield 21, 3) := by decide +kernel
theorem dX9_step_76 : decode cX9_step 76 = .ok (.invokevirtual 33, 3) := by decide +kernel
theorem dX9_step_79 : decode cX9_step 79 = .ok (.istore_n 1, 1) := by decide +kernel
theorem dX9_step_80 : decode cX9_step 80 = .ok (.aload_n 0, 1) := by decide +kernel
theorem dX9_step_81 : decode cX9_step 81 = .ok (.getfield 21, 3) := by decide +kernel
theorem dX9_step_84 : decode cX9_step 84 = .ok (.aload_n 0, 1) := by decide +kernel
theorem dX9_step_85 : decode cX9_step 85 = .ok (.getfield 17, 3) := by decide +kernel
theorem dX9_step_88 : decode cX9_step 88 = .ok (.if_icmp .lt 11, 3) := by decide +kernel
theorem dX9_step_91 : decode cX9_step 91 = .ok (.aload_n 0, 1) := by decide +kernel
theorem dX9_step_92 : decode cX9_step 92 = .ok (.iconst 0, 1) := by decide +kernel
theorem dX9_step_93 : decode cX9_step 93 = .ok (.putfield 41, 3) := by decide +kernel
theorem dX9_step_96 : decode cX9_step 96 = .ok (.goto 64, 3) := by decide +kernel
theorem dX9_step_99 : decode cX9_step 99 = .ok (.iload_n 1, 1) := by decide +kernel
theorem dX9_step_100 : decode cX9_step 100 = .ok (.invokestatic 44, 3) := by decide +kernel
theorem dX9_step_103 : decode cX9_step 103 = .ok (.ifCond .eq 10, 3) := by decide +kernel
theorem dX9_step_106 : decode cX9_step 106 = .ok (.aload_n 0, 1) := by decide +kernel
theorem dX9_step_107 : decode cX9_step 107 = .ok (.invokevirtual 48, 3) := by decide +kernel
theorem dX9_step_110 : decode cX9_step 110 = .ok (.goto 50, 3) := by decide +kernel
theorem dX9_step_113 : decode cX9_step 113 = .ok (.iload_n 1, 1) := by decide +kernel
theorem dX9_step_114 : decode cX9_step 114 = .ok (.invokestatic 51, 3) := by decide +kernel
theorem dX9_step_117 : decode cX9_step 117 = .ok (.ifCond .eq 10, 3) := by decide +kernel
theorem dX9_step_120 : decode cX9_step 120 = .ok (.aload_n 0, 1) := by decide +kernel
theorem dX9_step_121 : decode cX9_step 121 = .ok (.invokevirtual 54, 3) := by decide +kernel
theorem dX9_step_124 : decode cX9_step 124 = .ok (.goto 36, 3) := by decide +kernel
theorem dX9_step_127 : decode cX9_step 127 = .ok (.aload_n 0, 1) := by decide +kernel
theorem dX9_step_128 : decode cX9_step 128 = .ok (.ldc 57, 2) := by decide +kernel
theorem dX9_step_130 : decode cX9_step 130 = .ok (.iload_n 1, 1) := by decide +kernel
theorem dX9_step_131 : decode cX9_step 131 = .ok (.invokevirtual 59, 3) := by decide +kernel
theorem dX9_step_134 : decode cX9_step 134 = .ok (.ifCond .lt 7, 3) := by decide +kernel
theorem dX9_step_137 : decode cX9_step 137 = .ok (.iconst 4, 1) := by decide +kernel
theorem dX9_step_138 : decode cX9_step 138 = .ok (.goto 4, 3) := by decide +kernel
theorem dX9_step_141 : decode cX9_step 141 = .ok (.iconst 1, 1) := by decide +kernel
theorem dX9_step_142 : decode cX9_step 142 = .ok (.putfield 41, 3) := by decide +kernel
theorem dX9_step_145 : decode cX9_step 145 = .ok (.aload_n 0, 1) := by decide +kernel
theorem dX9_step_146 : decode cX9_step 146 = .ok (.iload_n 1, 1) := by decide +kernel
theorem dX9_step_147 : decode cX9_step 147 = .ok (.putfield 65, 3) := by decide +kernel
theorem dX9_step_150 : decode cX9_step 150 = .ok (.aload_n 0, 1) := by decide +kernel
theorem dX9_step_151 : decode cX9_step 151 = .ok (.dup, 1) := by decide +kernel
theorem dX9_step_152 : decode cX9_step 152 = .ok (.getfield 21, 3) := by decide +kernel
theorem dX9_step_155 : decode cX9_step 155 = .ok (.iconst 1, 1) := by decide +kernel
theorem dX9_step_156 : decode cX9_step 156 = .ok (.iadd, 1) := by decide +kernel
theorem dX9_step_157 : decode cX9_step 157 = .ok (.putfield 21, 3) := by decide +kernel
theorem dX9_step_160 : decode cX9_step 160 = .ok (.return_, 1) := by decide +kernel
theorem dX9_readWord_0 : decode cX9_readWord 0 = .ok (.aload_n 0, 1) := by decide +kernel
theorem dX9_readWord_1 : decode cX9_readWord 1 = .ok (.lconst 0, 1) := by decide +kernel
theorem dX9_readWord_2 : decode cX9_readWord 2 = .ok (.putfield 68, 3) := by decide +kernel
theorem dX9_readWord_5 : decode cX9_readWord 5 = .ok (.aload_n 0, 1) := by decide +kernel
theorem dX9_readWord_6 : decode cX9_readWord 6 = .ok (.getfield 21, 3) := by decide +kernel
theorem dX9_readWord_9 : decode cX9_readWord 9 = .ok (.aload_n 0, 1) := by decide +kernel
theorem dX9_readWord_10 : decode cX9_readWord 10 = .ok (.getfield 17, 3) := by decide +kernel
theorem dX9_readWord_13 : decode cX9_readWord 13 = .ok (.if_icmp .ge 49, 3) := by decide +kernel
theorem dX9_readWord_16 : decode cX9_readWord 16 = .ok (.aload_n 0, 1) := by decide +kernel
theorem dX9_readWord_17 : decode cX9_readWord 17 = .ok (.aload_n 0, 1) := by decide +kernel
theorem dX9_readWord_18 : decode cX9_readWord 18 = .ok (.getfield 21, 3) := by decide +kernel
theorem dX9_readWord_21 : decode cX9_readWord 21 = .ok (.invokevirtual 33, 3) := by decide +kernel
theorem dX9_readWord_24 : decode cX9_readWord 24 = .ok (.invokestatic 44, 3) := by decide +kernel
theorem dX9_readWord_27 : decode cX9_readWord 27 = .ok (.ifCond .eq 35, 3) := by decide +kernel
theorem dX9_readWord_30 : decode cX9_readWord 30 = .ok (.aload_n 0, 1) := by decide +kernel
theorem dX9_readWord_31 : decode cX9_readWord 31 = .ok (.aload_n 0, 1) := by decide +kernel
theorem dX9_readWord_32 : decode cX9_readWord 32 = .ok (.getfield 68, 3) := by decide +kernel
theorem dX9_readWord_35 : decode cX9_readWord 35 = .ok (.aload_n 0, 1) := by decide +kernel
theorem dX9_readWord_36 : decode cX9_readWord 36 = .ok (.aload_n 0, 1) := by decide +kernel
theorem dX9_readWord_37 : decode cX9_readWord 37 = .ok (.getfield 21, 3) := by decide +kernel
theorem dX9_readWord_40 : decode cX9_readWord 40 = .ok (.invokevirtual 33, 3) := by decide +kernel
theorem dX9_readWord_43 : decode cX9_readWord 43 = .ok (.invokestatic 72, 3) := by decide +kernel
theorem dX9_readWord_46 : decode cX9_readWord 46 = .ok (.putfield 68, 3) := by decide +kernel
theorem dX9_readWord_49 : decode cX9_readWord 49 = .ok (.aload_n 0, 1) := by decide +kernel
theorem dX9_readWord_50 : decode cX9_readWord 50 = .ok (.dup, 1) := by decide +kernel
theorem dX9_readWord_51 : decode cX9_readWord 51 = .ok (.getfield 21, 3) := by decide +kernel
theorem dX9_readWord_54 : decode cX9_readWord 54 = .ok (.iconst 1, 1) := by decide +kernel
theorem dX9_readWord_55 : decode cX9_readWord 55 = .ok (.iadd, 1) := by decide +kernel
theorem dX9_readWord_56 : decode cX9_readWord 56 = .ok (.putfield 21, 3) := by decide +kernel
theorem dX9_readWord_59 : decode cX9_readWord 59 = .ok (.goto (-54), 3) := by decide +kernel
theorem dX9_readWord_62 : decode cX9_readWord 62 = .ok (.aload_n 0, 1) := by decide +kernel
theorem dX9_readWord_63 : decode cX9_readWord 63 = .ok (.aload_n 0, 1) := by decide +kernel
theorem dX9_readWord_64 : decode cX9_readWord 64 = .ok (.getfield 21, 3) := by decide +kernel
theorem dX9_readWord_67 : decode cX9_readWord 67 = .ok (.aload_n 0, 1) := by decide +kernel
theorem dX9_readWord_68 : decode cX9_readWord 68 = .ok (.getfield 30, 3) := by decide +kernel
theorem dX9_readWord_71 : decode cX9_readWord 71 = .ok (.isub, 1) := by decide +kernel
theorem dX9_readWord_72 : decode cX9_readWord 72 = .ok (.bipush 8, 2) := by decide +kernel
theorem dX9_readWord_74 : decode cX9_readWord 74 = .ok (.if_icmp .gt 7, 3) := by decide +kernel
theorem dX9_readWord_77 : decode cX9_readWord 77 = .ok (.iconst 2, 1) := by decide +kernel
theorem dX9_readWord_78 : decode cX9_readWord 78 = .ok (.goto 4, 3) := by decide +kernel
theorem dX9_readWord_81 : decode cX9_readWord 81 = .ok (.iconst 1, 1) := by decide +kernel
theorem dX9_readWord_82 : decode cX9_readWord 82 = .ok (.putfield 41, 3) := by decide +kernel
theorem dX9_readWord_85 : decode cX9_readWord 85 = .ok (.aload_n 0, 1) := by decide +kernel
theorem dX9_readWord_86 : decode cX9_readWord 86 = .ok (.aload_n 0, 1) := by decide +kernel
theorem dX9_readWord_87 : decode cX9_readWord 87 = .ok (.getfield 68, 3) := by decide +kernel
theorem dX9_readWord_90 : decode cX9_readWord 90 = .ok (.invokestatic 76, 3) := by decide +kernel
theorem dX9_readWord_93 : decode cX9_readWord 93 = .ok (.putfield 37, 3) := by decide +kernel
theorem dX9_readWord_96 : decode cX9_readWord 96 = .ok (.return_, 1) := by decide +kernel
theorem dX9_longer_0 : decode cX9_longer 0 = .ok (.lload_n 0, 1) := by decide +kernel
theorem dX9_longer_1 : decode cX9_longer 1 = .ok (.ldc2_w 82, 3) := by decide +kernel
theorem dX9_longer_4 : decode cX9_longer 4 = .ok (.lmul, 1) := by decide +kernel
theorem dX9_longer_5 : decode cX9_longer 5 = .ok (.iload_n 2, 1) := by decide +kernel
theorem dX9_longer_6 : decode cX9_longer 6 = .ok (.i2l, 1) := by decide +kernel
theorem dX9_longer_7 : decode cX9_longer 7 = .ok (.ladd, 1) := by decide +kernel
theorem dX9_longer_8 : decode cX9_longer 8 = .ok (.ldc2_w 84, 3) := by decide +kernel
theorem dX9_longer_11 : decode cX9_longer 11 = .ok (.lsub, 1) := by decide +kernel
theorem dX9_longer_12 : decode cX9_longer 12 = .ok (.lconst 1, 1) := by decide +kernel
theorem dX9_longer_13 : decode cX9_longer 13 = .ok (.ladd, 1) := by decide +kernel
theorem dX9_longer_14 : decode cX9_longer 14 = .ok (.lreturn, 1) := by decide +kernel
theorem dX9_readNumber_0 : decode cX9_readNumber 0 = .ok (.aload_n 0, 1) := by decide +kernel
theorem dX9_readNumber_1 : decode cX9_readNumber 1 = .ok (.iconst 0, 1) := by decide +kernel
theorem dX9_readNumber_2 : decode cX9_readNumber 2 = .ok (.putfield 65, 3) := by decide +kernel
theorem dX9_readNumber_5 : decode cX9_readNumber 5 = .ok (.aload_n 0, 1) := by decide +kernel
theorem dX9_readNumber_6 : decode cX9_readNumber 6 = .ok (.getfield 21, 3) := by decide +kernel
theorem dX9_readNumber_9 : decode cX9_readNumber 9 = .ok (.aload_n 0, 1) := by decide +kernel
theorem dX9_readNumber_10 : decode cX9_readNumber 10 = .ok (.getfield 17, 3) := by decide +kernel
theorem dX9_readNumber_13 : decode cX9_readNumber 13 = .ok (.if_icmp .ge 53, 3) := by decide +kernel
theorem dX9_readNumber_16 : decode cX9_readNumber 16 = .ok (.aload_n 0, 1) := by decide +kernel
theorem dX9_readNumber_17 : decode cX9_readNumber 17 = .ok (.aload_n 0, 1) := by decide +kernel
theorem dX9_readNumber_18 : decode cX9_readNumber 18 = .ok (.getfield 21, 3) := by decide +kernel
theorem dX9_readNumber_21 : decode cX9_readNumber 21 = .ok (.invokevirtual 33, 3) := by decide +kernel
theorem dX9_readNumber_24 : decode cX9_readNumber 24 = .ok (.invokestatic 51, 3) := by decide +kernel
theorem dX9_readNumber_27 : decode cX9_readNumber 27 = .ok (.ifCond .eq 39, 3) := by decide +kernel
theorem dX9_readNumber_30 : decode cX9_readNumber 30 = .ok (.aload_n 0, 1) := by decide +kernel
theorem dX9_readNumber_31 : decode cX9_readNumber 31 = .ok (.aload_n 0, 1) := by decide +kernel
theorem dX9_readNumber_32 : decode cX9_readNumber 32 = .ok (.getfield 65, 3) := by decide +kernel
theorem dX9_readNumber_35 : decode cX9_readNumber 35 = .ok (.bipush 10, 2) := by decide +kernel
theorem dX9_readNumber_37 : decode cX9_readNumber 37 = .ok (.imul, 1) := by decide +kernel
theorem dX9_readNumber_38 : decode cX9_readNumber 38 = .ok (.aload_n 0, 1) := by decide +kernel
theorem dX9_readNumber_39 : decode cX9_readNumber 39 = .ok (.aload_n 0, 1) := by decide +kernel
theorem dX9_readNumber_40 : decode cX9_readNumber 40 = .ok (.getfield 21, 3) := by decide +kernel
theorem dX9_readNumber_43 : decode cX9_readNumber 43 = .ok (.invokevirtual 33, 3) := by decide +kernel
theorem dX9_readNumber_46 : decode cX9_readNumber 46 = .ok (.iadd, 1) := by decide +kernel
theorem dX9_readNumber_47 : decode cX9_readNumber 47 = .ok (.bipush 48, 2) := by decide +kernel
theorem dX9_readNumber_49 : decode cX9_readNumber 49 = .ok (.isub, 1) := by decide +kernel
theorem dX9_readNumber_50 : decode cX9_readNumber 50 = .ok (.putfield 65, 3) := by decide +kernel
theorem dX9_readNumber_53 : decode cX9_readNumber 53 = .ok (.aload_n 0, 1) := by decide +kernel
theorem dX9_readNumber_54 : decode cX9_readNumber 54 = .ok (.dup, 1) := by decide +kernel
theorem dX9_readNumber_55 : decode cX9_readNumber 55 = .ok (.getfield 21, 3) := by decide +kernel
theorem dX9_readNumber_58 : decode cX9_readNumber 58 = .ok (.iconst 1, 1) := by decide +kernel
theorem dX9_readNumber_59 : decode cX9_readNumber 59 = .ok (.iadd, 1) := by decide +kernel
theorem dX9_readNumber_60 : decode cX9_readNumber 60 = .ok (.putfield 21, 3) := by decide +kernel
theorem dX9_readNumber_63 : decode cX9_readNumber 63 = .ok (.goto (-58), 3) := by decide +kernel
theorem dX9_readNumber_66 : decode cX9_readNumber 66 = .ok (.aload_n 0, 1) := by decide +kernel
theorem dX9_readNumber_67 : decode cX9_readNumber 67 = .ok (.aload_n 0, 1) := by decide +kernel
theorem dX9_readNumber_68 : decode cX9_readNumber 68 = .ok (.getfield 21, 3) := by decide +kernel
theorem dX9_readNumber_71 : decode cX9_readNumber 71 = .ok (.aload_n 0, 1) := by decide +kernel
theorem dX9_readNumber_72 : decode cX9_readNumber 72 = .ok (.getfield 30, 3) := by decide +kernel
theorem dX9_readNumber_75 : decode cX9_readNumber 75 = .ok (.isub, 1) := by decide +kernel
theorem dX9_readNumber_76 : decode cX9_readNumber 76 = .ok (.iconst 4, 1) := by decide +kernel
theorem dX9_readNumber_77 : decode cX9_readNumber 77 = .ok (.if_icmp .gt 7, 3) := by decide +kernel
theorem dX9_readNumber_80 : decode cX9_readNumber 80 = .ok (.iconst 3, 1) := by decide +kernel
theorem dX9_readNumber_81 : decode cX9_readNumber 81 = .ok (.goto 4, 3) := by decide +kernel
theorem dX9_readNumber_84 : decode cX9_readNumber 84 = .ok (.iconst 1, 1) := by decide +kernel
theorem dX9_readNumber_85 : decode cX9_readNumber 85 = .ok (.putfield 41, 3) := by decide +kernel
theorem dX9_readNumber_88 : decode cX9_readNumber 88 = .ok (.return_, 1) := by decide +kernel
theorem dX9_signAt_0 : decode cX9_signAt 0 = .ok (.iload_n 1, 1) := by decide +kernel
theorem dX9_signAt_1 : decode cX9_signAt 1 = .ok (.ifCond .lt 29, 3) := by decide +kernel
theorem dX9_signAt_4 : decode cX9_signAt 4 = .ok (.iload_n 1, 1) := by decide +kernel
theorem dX9_signAt_5 : decode cX9_signAt 5 = .ok (.aload_n 0, 1) := by decide +kernel
theorem dX9_signAt_6 : decode cX9_signAt 6 = .ok (.getfield 17, 3) := by decide +kernel
theorem dX9_signAt_9 : decode cX9_signAt 9 = .ok (.if_icmp .ge 21, 3) := by decide +kernel
theorem dX9_signAt_12 : decode cX9_signAt 12 = .ok (.iload_n 1, 1) := by decide +kernel
theorem dX9_signAt_13 : decode cX9_signAt 13 = .ok (.aload_n 0, 1) := by decide +kernel
theorem dX9_signAt_14 : decode cX9_signAt 14 = .ok (.getfield 9, 3) := by decide +kernel
theorem dX9_signAt_17 : decode cX9_signAt 17 = .ok (.arraylength, 1) := by decide +kernel
theorem dX9_signAt_18 : decode cX9_signAt 18 = .ok (.if_icmp .ge 12, 3) := by decide +kernel
theorem dX9_signAt_21 : decode cX9_signAt 21 = .ok (.aload_n 0, 1) := by decide +kernel
theorem dX9_signAt_22 : decode cX9_signAt 22 = .ok (.getfield 9, 3) := by decide +kernel
theorem dX9_signAt_25 : decode cX9_signAt 25 = .ok (.iload_n 1, 1) := by decide +kernel
theorem dX9_signAt_26 : decode cX9_signAt 26 = .ok (.caload, 1) := by decide +kernel
theorem dX9_signAt_27 : decode cX9_signAt 27 = .ok (.goto 4, 3) := by decide +kernel
theorem dX9_signAt_30 : decode cX9_signAt 30 = .ok (.iconst 0, 1) := by decide +kernel
theorem dX9_signAt_31 : decode cX9_signAt 31 = .ok (.ireturn, 1) := by decide +kernel
theorem dX9_isLetter_0 : decode cX9_isLetter 0 = .ok (.iload_n 0, 1) := by decide +kernel
theorem dX9_isLetter_1 : decode cX9_isLetter 1 = .ok (.bipush 97, 2) := by decide +kernel
theorem dX9_isLetter_3 : decode cX9_isLetter 3 = .ok (.if_icmp .lt 13, 3) := by decide +kernel
theorem dX9_isLetter_6 : decode cX9_isLetter 6 = .ok (.iload_n 0, 1) := by decide +kernel
theorem dX9_isLetter_7 : decode cX9_isLetter 7 = .ok (.bipush 122, 2) := by decide +kernel
theorem dX9_isLetter_9 : decode cX9_isLetter 9 = .ok (.if_icmp .gt 7, 3) := by decide +kernel
theorem dX9_isLetter_12 : decode cX9_isLetter 12 = .ok (.iconst 1, 1) := by decide +kernel
theorem dX9_isLetter_13 : decode cX9_isLetter 13 = .ok (.goto 4, 3) := by decide +kernel
theorem dX9_isLetter_16 : decode cX9_isLetter 16 = .ok (.iconst 0, 1) := by decide +kernel
theorem dX9_isLetter_17 : decode cX9_isLetter 17 = .ok (.ireturn, 1) := by decide +kernel
theorem dX9_isDigit_0 : decode cX9_isDigit 0 = .ok (.iload_n 0, 1) := by decide +kernel
theorem dX9_isDigit_1 : decode cX9_isDigit 1 = .ok (.bipush 48, 2) := by decide +kernel
theorem dX9_isDigit_3 : decode cX9_isDigit 3 = .ok (.if_icmp .lt 13, 3) := by decide +kernel
theorem dX9_isDigit_6 : decode cX9_isDigit 6 = .ok (.iload_n 0, 1) := by decide +kernel
theorem dX9_isDigit_7 : decode cX9_isDigit 7 = .ok (.bipush 57, 2) := by decide +kernel
theorem dX9_isDigit_9 : decode cX9_isDigit 9 = .ok (.if_icmp .gt 7, 3) := by decide +kernel
theorem dX9_isDigit_12 : decode cX9_isDigit 12 = .ok (.iconst 1, 1) := by decide +kernel
theorem dX9_isDigit_13 : decode cX9_isDigit 13 = .ok (.goto 4, 3) := by decide +kernel
theorem dX9_isDigit_16 : decode cX9_isDigit 16 = .ok (.iconst 0, 1) := by decide +kernel
theorem dX9_isDigit_17 : decode cX9_isDigit 17 = .ok (.ireturn, 1) := by decide +kernel
theorem dX9_goesOn_0 : decode cX9_goesOn 0 = .ok (.aload_n 0, 1) := by decide +kernel
theorem dX9_goesOn_1 : decode cX9_goesOn 1 = .ok (.getfield 24, 3) := by decide +kernel
theorem dX9_goesOn_4 : decode cX9_goesOn 4 = .ok (.ifCond .ne 14, 3) := by decide +kernel
theorem dX9_goesOn_7 : decode cX9_goesOn 7 = .ok (.aload_n 0, 1) := by decide +kernel
theorem dX9_goesOn_8 : decode cX9_goesOn 8 = .ok (.getfield 41, 3) := by decide +kernel
theorem dX9_goesOn_11 : decode cX9_goesOn 11 = .ok (.ifCond .eq 7, 3) := by decide +kernel
theorem dX9_goesOn_14 : decode cX9_goesOn 14 = .ok (.iconst 1, 1) := by decide +kernel
theorem dX9_goesOn_15 : decode cX9_goesOn 15 = .ok (.goto 4, 3) := by decide +kernel
theorem dX9_goesOn_18 : decode cX9_goesOn 18 = .ok (.iconst 0, 1) := by decide +kernel
theorem dX9_goesOn_19 : decode cX9_goesOn 19 = .ok (.ireturn, 1) := by decide +kernel
theorem dX9_isSign_0 : decode cX9_isSign 0 = .ok (.aload_n 0, 1) := by decide +kernel
theorem dX9_isSign_1 : decode cX9_isSign 1 = .ok (.getfield 24, 3) := by decide +kernel
theorem dX9_isSign_4 : decode cX9_isSign 4 = .ok (.ifCond .ne 23, 3) := by decide +kernel
theorem dX9_isSign_7 : decode cX9_isSign 7 = .ok (.aload_n 0, 1) := by decide +kernel
theorem dX9_isSign_8 : decode cX9_isSign 8 = .ok (.getfield 41, 3) := by decide +kernel
theorem dX9_isSign_11 : decode cX9_isSign 11 = .ok (.iconst 4, 1) := by decide +kernel
theorem dX9_isSign_12 : decode cX9_isSign 12 = .ok (.if_icmp .ne 15, 3) := by decide +kernel
theorem dX9_isSign_15 : decode cX9_isSign 15 = .ok (.aload_n 0, 1) := by decide +kernel
theorem dX9_isSign_16 : decode cX9_isSign 16 = .ok (.getfield 65, 3) := by decide +kernel
theorem dX9_isSign_19 : decode cX9_isSign 19 = .ok (.iload_n 1, 1) := by decide +kernel
theorem dX9_isSign_20 : decode cX9_isSign 20 = .ok (.if_icmp .ne 7, 3) := by decide +kernel
theorem dX9_isSign_23 : decode cX9_isSign 23 = .ok (.iconst 1, 1) := by decide +kernel
theorem dX9_isSign_24 : decode cX9_isSign 24 = .ok (.goto 4, 3) := by decide +kernel
theorem dX9_isSign_27 : decode cX9_isSign 27 = .ok (.iconst 0, 1) := by decide +kernel
theorem dX9_isSign_28 : decode cX9_isSign 28 = .ok (.ireturn, 1) := by decide +kernel
theorem dX9_isWord_0 : decode cX9_isWord 0 = .ok (.aload_n 0, 1) := by decide +kernel
theorem dX9_isWord_1 : decode cX9_isWord 1 = .ok (.getfield 24, 3) := by decide +kernel
theorem dX9_isWord_4 : decode cX9_isWord 4 = .ok (.ifCond .ne 23, 3) := by decide +kernel
theorem dX9_isWord_7 : decode cX9_isWord 7 = .ok (.aload_n 0, 1) := by decide +kernel
theorem dX9_isWord_8 : decode cX9_isWord 8 = .ok (.getfield 41, 3) := by decide +kernel
theorem dX9_isWord_11 : decode cX9_isWord 11 = .ok (.iconst 2, 1) := by decide +kernel
theorem dX9_isWord_12 : decode cX9_isWord 12 = .ok (.if_icmp .ne 15, 3) := by decide +kernel
theorem dX9_isWord_15 : decode cX9_isWord 15 = .ok (.aload_n 0, 1) := by decide +kernel
theorem dX9_isWord_16 : decode cX9_isWord 16 = .ok (.getfield 37, 3) := by decide +kernel
theorem dX9_isWord_19 : decode cX9_isWord 19 = .ok (.aload_n 1, 1) := by decide +kernel
theorem dX9_isWord_20 : decode cX9_isWord 20 = .ok (.if_acmp .ne 7, 3) := by decide +kernel
theorem dX9_isWord_23 : decode cX9_isWord 23 = .ok (.iconst 1, 1) := by decide +kernel
theorem dX9_isWord_24 : decode cX9_isWord 24 = .ok (.goto 4, 3) := by decide +kernel
theorem dX9_isWord_27 : decode cX9_isWord 27 = .ok (.iconst 0, 1) := by decide +kernel
theorem dX9_isWord_28 : decode cX9_isWord 28 = .ok (.ireturn, 1) := by decide +kernel
theorem dX9_isName_0 : decode cX9_isName 0 = .ok (.aload_n 0, 1) := by decide +kernel
theorem dX9_isName_1 : decode cX9_isName 1 = .ok (.getfield 41, 3) := by decide +kernel
theorem dX9_isName_4 : decode cX9_isName 4 = .ok (.iconst 2, 1) := by decide +kernel
theorem dX9_isName_5 : decode cX9_isName 5 = .ok (.if_icmp .ne 24, 3) := by decide +kernel
theorem dX9_isName_8 : decode cX9_isName 8 = .ok (.aload_n 0, 1) := by decide +kernel
theorem dX9_isName_9 : decode cX9_isName 9 = .ok (.getfield 37, 3) := by decide +kernel
theorem dX9_isName_12 : decode cX9_isName 12 = .ok (.ifnull 13, 3) := by decide +kernel
theorem dX9_isName_15 : decode cX9_isName 15 = .ok (.aload_n 0, 1) := by decide +kernel
theorem dX9_isName_16 : decode cX9_isName 16 = .ok (.getfield 37, 3) := by decide +kernel
theorem dX9_isName_19 : decode cX9_isName 19 = .ok (.getfield 86, 3) := by decide +kernel
theorem dX9_isName_22 : decode cX9_isName 22 = .ok (.ifCond .ne 7, 3) := by decide +kernel
theorem dX9_isName_25 : decode cX9_isName 25 = .ok (.iconst 1, 1) := by decide +kernel
theorem dX9_isName_26 : decode cX9_isName 26 = .ok (.goto 4, 3) := by decide +kernel
theorem dX9_isName_29 : decode cX9_isName 29 = .ok (.iconst 0, 1) := by decide +kernel
theorem dX9_isName_30 : decode cX9_isName 30 = .ok (.ireturn, 1) := by decide +kernel
theorem dX9_need_0 : decode cX9_need 0 = .ok (.aload_n 0, 1) := by decide +kernel
theorem dX9_need_1 : decode cX9_need 1 = .ok (.aload_n 1, 1) := by decide +kernel
theorem dX9_need_2 : decode cX9_need 2 = .ok (.invokevirtual 90, 3) := by decide +kernel
theorem dX9_need_5 : decode cX9_need 5 = .ok (.ifCond .ne 8, 3) := by decide +kernel
theorem dX9_need_8 : decode cX9_need 8 = .ok (.aload_n 0, 1) := by decide +kernel
theorem dX9_need_9 : decode cX9_need 9 = .ok (.iconst 1, 1) := by decide +kernel
theorem dX9_need_10 : decode cX9_need 10 = .ok (.invokevirtual 94, 3) := by decide +kernel
theorem dX9_need_13 : decode cX9_need 13 = .ok (.aload_n 0, 1) := by decide +kernel
theorem dX9_need_14 : decode cX9_need 14 = .ok (.invokevirtual 27, 3) := by decide +kernel
theorem dX9_need_17 : decode cX9_need 17 = .ok (.return_, 1) := by decide +kernel
theorem dX9_needSign_0 : decode cX9_needSign 0 = .ok (.aload_n 0, 1) := by decide +kernel
theorem dX9_needSign_1 : decode cX9_needSign 1 = .ok (.iload_n 1, 1) := by decide +kernel
theorem dX9_needSign_2 : decode cX9_needSign 2 = .ok (.invokevirtual 98, 3) := by decide +kernel
theorem dX9_needSign_5 : decode cX9_needSign 5 = .ok (.ifCond .ne 8, 3) := by decide +kernel
theorem dX9_needSign_8 : decode cX9_needSign 8 = .ok (.aload_n 0, 1) := by decide +kernel
theorem dX9_needSign_9 : decode cX9_needSign 9 = .ok (.iconst 1, 1) := by decide +kernel
theorem dX9_needSign_10 : decode cX9_needSign 10 = .ok (.invokevirtual 94, 3) := by decide +kernel
theorem dX9_needSign_13 : decode cX9_needSign 13 = .ok (.aload_n 0, 1) := by decide +kernel
theorem dX9_needSign_14 : decode cX9_needSign 14 = .ok (.invokevirtual 27, 3) := by decide +kernel
theorem dX9_needSign_17 : decode cX9_needSign 17 = .ok (.return_, 1) := by decide +kernel
theorem dX9_number_0 : decode cX9_number 0 = .ok (.aload_n 0, 1) := by decide +kernel
theorem dX9_number_1 : decode cX9_number 1 = .ok (.getfield 41, 3) := by decide +kernel
theorem dX9_number_4 : decode cX9_number 4 = .ok (.iconst 3, 1) := by decide +kernel
theorem dX9_number_5 : decode cX9_number 5 = .ok (.if_icmp .eq 11, 3) := by decide +kernel
theorem dX9_number_8 : decode cX9_number 8 = .ok (.aload_n 0, 1) := by decide +kernel
theorem dX9_number_9 : decode cX9_number 9 = .ok (.iconst 1, 1) := by decide +kernel
theorem dX9_number_10 : decode cX9_number 10 = .ok (.invokevirtual 94, 3) := by decide +kernel
theorem dX9_number_13 : decode cX9_number 13 = .ok (.goto 24, 3) := by decide +kernel
theorem dX9_number_16 : decode cX9_number 16 = .ok (.aload_n 0, 1) := by decide +kernel
theorem dX9_number_17 : decode cX9_number 17 = .ok (.getfield 65, 3) := by decide +kernel
theorem dX9_number_20 : decode cX9_number 20 = .ok (.iload_n 1, 1) := by decide +kernel
theorem dX9_number_21 : decode cX9_number 21 = .ok (.if_icmp .lt 11, 3) := by decide +kernel
theorem dX9_number_24 : decode cX9_number 24 = .ok (.aload_n 0, 1) := by decide +kernel
theorem dX9_number_25 : decode cX9_number 25 = .ok (.getfield 65, 3) := by decide +kernel
theorem dX9_number_28 : decode cX9_number 28 = .ok (.iload_n 2, 1) := by decide +kernel
theorem dX9_number_29 : decode cX9_number 29 = .ok (.if_icmp .le 8, 3) := by decide +kernel
theorem dX9_number_32 : decode cX9_number 32 = .ok (.aload_n 0, 1) := by decide +kernel
theorem dX9_number_33 : decode cX9_number 33 = .ok (.iconst 4, 1) := by decide +kernel
theorem dX9_number_34 : decode cX9_number 34 = .ok (.invokevirtual 94, 3) := by decide +kernel
theorem dX9_number_37 : decode cX9_number 37 = .ok (.aload_n 0, 1) := by decide +kernel
theorem dX9_number_38 : decode cX9_number 38 = .ok (.getfield 65, 3) := by decide +kernel
theorem dX9_number_41 : decode cX9_number 41 = .ok (.istore_n 3, 1) := by decide +kernel
theorem dX9_number_42 : decode cX9_number 42 = .ok (.aload_n 0, 1) := by decide +kernel
theorem dX9_number_43 : decode cX9_number 43 = .ok (.invokevirtual 27, 3) := by decide +kernel
theorem dX9_number_46 : decode cX9_number 46 = .ok (.iload_n 3, 1) := by decide +kernel
theorem dX9_number_47 : decode cX9_number 47 = .ok (.ireturn, 1) := by decide +kernel
theorem dX10_named_0 : decode cX10_named 0 = .ok (.iconst 0, 1) := by decide +kernel
theorem dX10_named_1 : decode cX10_named 1 = .ok (.istore_n 2, 1) := by decide +kernel
theorem dX10_named_2 : decode cX10_named 2 = .ok (.iload_n 2, 1) := by decide +kernel
theorem dX10_named_3 : decode cX10_named 3 = .ok (.getstatic 125, 3) := by decide +kernel
theorem dX10_named_6 : decode cX10_named 6 = .ok (.arraylength, 1) := by decide +kernel
theorem dX10_named_7 : decode cX10_named 7 = .ok (.if_icmp .ge 36, 3) := by decide +kernel
