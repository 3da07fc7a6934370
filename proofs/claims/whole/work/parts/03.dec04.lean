theorem dX8_shave_19 : decode cX8_shave 19 = .ok (.getfield 7, 3) := by decide +kernel
theorem dX8_shave_22 : decode cX8_shave 22 = .ok (.iconst 4, 1) := by decide +kernel
theorem dX8_shave_23 : decode cX8_shave 23 = .ok (.iload_n 1, 1) := by decide +kernel
theorem dX8_shave_24 : decode cX8_shave 24 = .ok (.imul, 1) := by decide +kernel
theorem dX8_shave_25 : decode cX8_shave 25 = .ok (.iload_n 2, 1) := by decide +kernel
theorem dX8_shave_26 : decode cX8_shave 26 = .ok (.iadd, 1) := by decide +kernel
theorem dX8_shave_27 : decode cX8_shave 27 = .ok (.iaload, 1) := by decide +kernel
theorem dX8_shave_28 : decode cX8_shave 28 = .ok (.aload_n 0, 1) := by decide +kernel
theorem dX8_shave_29 : decode cX8_shave 29 = .ok (.getfield 13, 3) := by decide +kernel
theorem dX8_shave_32 : decode cX8_shave 32 = .ok (.if_icmp .gt 6, 3) := by decide +kernel
theorem dX8_shave_35 : decode cX8_shave 35 = .ok (.bipush (-3), 2) := by decide +kernel
theorem dX8_shave_37 : decode cX8_shave 37 = .ok (.ireturn, 1) := by decide +kernel
theorem dX8_shave_38 : decode cX8_shave 38 = .ok (.aload_n 0, 1) := by decide +kernel
theorem dX8_shave_39 : decode cX8_shave 39 = .ok (.getfield 17, 3) := by decide +kernel
theorem dX8_shave_42 : decode cX8_shave 42 = .ok (.iload_n 1, 1) := by decide +kernel
theorem dX8_shave_43 : decode cX8_shave 43 = .ok (.iaload, 1) := by decide +kernel
theorem dX8_shave_44 : decode cX8_shave 44 = .ok (.bipush 20, 2) := by decide +kernel
theorem dX8_shave_46 : decode cX8_shave 46 = .ok (.if_icmp .ne 6, 3) := by decide +kernel
theorem dX8_shave_49 : decode cX8_shave 49 = .ok (.bipush (-4), 2) := by decide +kernel
theorem dX8_shave_51 : decode cX8_shave 51 = .ok (.ireturn, 1) := by decide +kernel
theorem dX8_shave_52 : decode cX8_shave 52 = .ok (.aload_n 0, 1) := by decide +kernel
theorem dX8_shave_53 : decode cX8_shave 53 = .ok (.iload_n 1, 1) := by decide +kernel
theorem dX8_shave_54 : decode cX8_shave 54 = .ok (.iload_n 2, 1) := by decide +kernel
theorem dX8_shave_55 : decode cX8_shave 55 = .ok (.invokevirtual 77, 3) := by decide +kernel
theorem dX8_shave_58 : decode cX8_shave 58 = .ok (.aload_n 0, 1) := by decide +kernel
theorem dX8_shave_59 : decode cX8_shave 59 = .ok (.getfield 7, 3) := by decide +kernel
theorem dX8_shave_62 : decode cX8_shave 62 = .ok (.iconst 4, 1) := by decide +kernel
theorem dX8_shave_63 : decode cX8_shave 63 = .ok (.iload_n 1, 1) := by decide +kernel
theorem dX8_shave_64 : decode cX8_shave 64 = .ok (.imul, 1) := by decide +kernel
theorem dX8_shave_65 : decode cX8_shave 65 = .ok (.iload_n 2, 1) := by decide +kernel
theorem dX8_shave_66 : decode cX8_shave 66 = .ok (.iadd, 1) := by decide +kernel
theorem dX8_shave_67 : decode cX8_shave 67 = .ok (.iaload, 1) := by decide +kernel
theorem dX8_shave_68 : decode cX8_shave 68 = .ok (.ireturn, 1) := by decide +kernel
set_option maxRecDepth 20000 in
theorem ggX8_undo_X8_isPlate : GoodIn wsX8_undo wsX8_isPlate := goodIn_r _ [8, 9, 10, 11, 7, 12, 13, 14, 15, 16, 17, 18, 19, 20, 21, 22, 23, 24, 25, 26, 27, 28, 29, 30, 31, 32] (by decide +kernel) (by decide +kernel)
set_option maxRecDepth 20000 in
theorem gX8_undo_X8_isPlate : GoodIn wsX8_undo (wsV RX8 71 RX8 yX8_isPlate wsX8_isPlate) := goodIn_app (goodIn_of _ (by decide +kernel)) ggX8_undo_X8_isPlate
theorem dX8_undo_0 : decode cX8_undo 0 = .ok (.aload_n 0, 1) := by decide +kernel
theorem dX8_undo_1 : decode cX8_undo 1 = .ok (.iload_n 1, 1) := by decide +kernel
theorem dX8_undo_2 : decode cX8_undo 2 = .ok (.invokevirtual 71, 3) := by decide +kernel
theorem dX8_undo_5 : decode cX8_undo 5 = .ok (.ifCond .ne 6, 3) := by decide +kernel
theorem dX8_undo_8 : decode cX8_undo 8 = .ok (.bipush (-2), 2) := by decide +kernel
theorem dX8_undo_10 : decode cX8_undo 10 = .ok (.ireturn, 1) := by decide +kernel
theorem dX8_undo_11 : decode cX8_undo 11 = .ok (.aload_n 0, 1) := by decide +kernel
theorem dX8_undo_12 : decode cX8_undo 12 = .ok (.getfield 17, 3) := by decide +kernel
theorem dX8_undo_15 : decode cX8_undo 15 = .ok (.iload_n 1, 1) := by decide +kernel
theorem dX8_undo_16 : decode cX8_undo 16 = .ok (.iaload, 1) := by decide +kernel
theorem dX8_undo_17 : decode cX8_undo 17 = .ok (.ifCond .ne 6, 3) := by decide +kernel
theorem dX8_undo_20 : decode cX8_undo 20 = .ok (.bipush (-3), 2) := by decide +kernel
theorem dX8_undo_22 : decode cX8_undo 22 = .ok (.ireturn, 1) := by decide +kernel
theorem dX8_undo_23 : decode cX8_undo 23 = .ok (.aload_n 0, 1) := by decide +kernel
theorem dX8_undo_24 : decode cX8_undo 24 = .ok (.getfield 17, 3) := by decide +kernel
theorem dX8_undo_27 : decode cX8_undo 27 = .ok (.iload_n 1, 1) := by decide +kernel
theorem dX8_undo_28 : decode cX8_undo 28 = .ok (.dup2, 1) := by decide +kernel
theorem dX8_undo_29 : decode cX8_undo 29 = .ok (.iaload, 1) := by decide +kernel
theorem dX8_undo_30 : decode cX8_undo 30 = .ok (.iconst 1, 1) := by decide +kernel
theorem dX8_undo_31 : decode cX8_undo 31 = .ok (.isub, 1) := by decide +kernel
theorem dX8_undo_32 : decode cX8_undo 32 = .ok (.iastore, 1) := by decide +kernel
theorem dX8_undo_33 : decode cX8_undo 33 = .ok (.aload_n 0, 1) := by decide +kernel
theorem dX8_undo_34 : decode cX8_undo 34 = .ok (.getfield 20, 3) := by decide +kernel
theorem dX8_undo_37 : decode cX8_undo 37 = .ok (.bipush 20, 2) := by decide +kernel
theorem dX8_undo_39 : decode cX8_undo 39 = .ok (.iload_n 1, 1) := by decide +kernel
theorem dX8_undo_40 : decode cX8_undo 40 = .ok (.imul, 1) := by decide +kernel
theorem dX8_undo_41 : decode cX8_undo 41 = .ok (.aload_n 0, 1) := by decide +kernel
theorem dX8_undo_42 : decode cX8_undo 42 = .ok (.getfield 17, 3) := by decide +kernel
theorem dX8_undo_45 : decode cX8_undo 45 = .ok (.iload_n 1, 1) := by decide +kernel
theorem dX8_undo_46 : decode cX8_undo 46 = .ok (.iaload, 1) := by decide +kernel
theorem dX8_undo_47 : decode cX8_undo 47 = .ok (.iadd, 1) := by decide +kernel
theorem dX8_undo_48 : decode cX8_undo 48 = .ok (.iaload, 1) := by decide +kernel
theorem dX8_undo_49 : decode cX8_undo 49 = .ok (.istore_n 2, 1) := by decide +kernel
theorem dX8_undo_50 : decode cX8_undo 50 = .ok (.aload_n 0, 1) := by decide +kernel
theorem dX8_undo_51 : decode cX8_undo 51 = .ok (.getfield 7, 3) := by decide +kernel
theorem dX8_undo_54 : decode cX8_undo 54 = .ok (.iconst 4, 1) := by decide +kernel
theorem dX8_undo_55 : decode cX8_undo 55 = .ok (.iload_n 1, 1) := by decide +kernel
theorem dX8_undo_56 : decode cX8_undo 56 = .ok (.imul, 1) := by decide +kernel
theorem dX8_undo_57 : decode cX8_undo 57 = .ok (.iload_n 2, 1) := by decide +kernel
theorem dX8_undo_58 : decode cX8_undo 58 = .ok (.iadd, 1) := by decide +kernel
theorem dX8_undo_59 : decode cX8_undo 59 = .ok (.dup2, 1) := by decide +kernel
theorem dX8_undo_60 : decode cX8_undo 60 = .ok (.iaload, 1) := by decide +kernel
theorem dX8_undo_61 : decode cX8_undo 61 = .ok (.iconst 1, 1) := by decide +kernel
theorem dX8_undo_62 : decode cX8_undo 62 = .ok (.iadd, 1) := by decide +kernel
theorem dX8_undo_63 : decode cX8_undo 63 = .ok (.iastore, 1) := by decide +kernel
theorem dX8_undo_64 : decode cX8_undo 64 = .ok (.iload_n 2, 1) := by decide +kernel
theorem dX8_undo_65 : decode cX8_undo 65 = .ok (.ireturn, 1) := by decide +kernel
set_option maxRecDepth 20000 in
theorem ggX8_mirror_X8_isPlate : GoodIn wsX8_mirror wsX8_isPlate := goodIn_r _ [7, 8, 9, 10, 6, 11, 12, 13, 14, 15, 16, 17, 18, 19, 20, 21, 22, 23, 24, 25, 26, 27, 28, 29, 30, 31] (by decide +kernel) (by decide +kernel)
set_option maxRecDepth 20000 in
theorem gX8_mirror_X8_isPlate : GoodIn wsX8_mirror (wsV RX8 71 RX8 yX8_isPlate wsX8_isPlate) := goodIn_app (goodIn_of _ (by decide +kernel)) ggX8_mirror_X8_isPlate
theorem dX8_mirror_0 : decode cX8_mirror 0 = .ok (.aload_n 0, 1) := by decide +kernel
theorem dX8_mirror_1 : decode cX8_mirror 1 = .ok (.iload_n 1, 1) := by decide +kernel
theorem dX8_mirror_2 : decode cX8_mirror 2 = .ok (.invokevirtual 71, 3) := by decide +kernel
theorem dX8_mirror_5 : decode cX8_mirror 5 = .ok (.ifCond .ne 6, 3) := by decide +kernel
theorem dX8_mirror_8 : decode cX8_mirror 8 = .ok (.bipush (-2), 2) := by decide +kernel
theorem dX8_mirror_10 : decode cX8_mirror 10 = .ok (.ireturn, 1) := by decide +kernel
theorem dX8_mirror_11 : decode cX8_mirror 11 = .ok (.iconst 0, 1) := by decide +kernel
theorem dX8_mirror_12 : decode cX8_mirror 12 = .ok (.istore_n 2, 1) := by decide +kernel
theorem dX8_mirror_13 : decode cX8_mirror 13 = .ok (.iload_n 2, 1) := by decide +kernel
theorem dX8_mirror_14 : decode cX8_mirror 14 = .ok (.iconst 2, 1) := by decide +kernel
theorem dX8_mirror_15 : decode cX8_mirror 15 = .ok (.if_icmp .ge 55, 3) := by decide +kernel
theorem dX8_mirror_18 : decode cX8_mirror 18 = .ok (.aload_n 0, 1) := by decide +kernel
theorem dX8_mirror_19 : decode cX8_mirror 19 = .ok (.getfield 7, 3) := by decide +kernel
theorem dX8_mirror_22 : decode cX8_mirror 22 = .ok (.iconst 4, 1) := by decide +kernel
theorem dX8_mirror_23 : decode cX8_mirror 23 = .ok (.iload_n 1, 1) := by decide +kernel
theorem dX8_mirror_24 : decode cX8_mirror 24 = .ok (.imul, 1) := by decide +kernel
theorem dX8_mirror_25 : decode cX8_mirror 25 = .ok (.iload_n 2, 1) := by decide +kernel
theorem dX8_mirror_26 : decode cX8_mirror 26 = .ok (.iadd, 1) := by decide +kernel
theorem dX8_mirror_27 : decode cX8_mirror 27 = .ok (.iaload, 1) := by decide +kernel
theorem dX8_mirror_28 : decode cX8_mirror 28 = .ok (.istore_n 3, 1) := by decide +kernel
theorem dX8_mirror_29 : decode cX8_mirror 29 = .ok (.aload_n 0, 1) := by decide +kernel
theorem dX8_mirror_30 : decode cX8_mirror 30 = .ok (.getfield 7, 3) := by decide +kernel
theorem dX8_mirror_33 : decode cX8_mirror 33 = .ok (.iconst 4, 1) := by decide +kernel
theorem dX8_mirror_34 : decode cX8_mirror 34 = .ok (.iload_n 1, 1) := by decide +kernel
theorem dX8_mirror_35 : decode cX8_mirror 35 = .ok (.imul, 1) := by decide +kernel
theorem dX8_mirror_36 : decode cX8_mirror 36 = .ok (.iload_n 2, 1) := by decide +kernel
theorem dX8_mirror_37 : decode cX8_mirror 37 = .ok (.iadd, 1) := by decide +kernel
theorem dX8_mirror_38 : decode cX8_mirror 38 = .ok (.aload_n 0, 1) := by decide +kernel
theorem dX8_mirror_39 : decode cX8_mirror 39 = .ok (.getfield 7, 3) := by decide +kernel
theorem dX8_mirror_42 : decode cX8_mirror 42 = .ok (.iconst 4, 1) := by decide +kernel
theorem dX8_mirror_43 : decode cX8_mirror 43 = .ok (.iload_n 1, 1) := by decide +kernel
theorem dX8_mirror_44 : decode cX8_mirror 44 = .ok (.imul, 1) := by decide +kernel
theorem dX8_mirror_45 : decode cX8_mirror 45 = .ok (.iconst 3, 1) := by decide +kernel
theorem dX8_mirror_46 : decode cX8_mirror 46 = .ok (.iadd, 1) := by decide +kernel
theorem dX8_mirror_47 : decode cX8_mirror 47 = .ok (.iload_n 2, 1) := by decide +kernel
theorem dX8_mirror_48 : decode cX8_mirror 48 = .ok (.isub, 1) := by decide +kernel
theorem dX8_mirror_49 : decode cX8_mirror 49 = .ok (.iaload, 1) := by decide +kernel
theorem dX8_mirror_50 : decode cX8_mirror 50 = .ok (.iastore, 1) := by decide +kernel
theorem dX8_mirror_51 : decode cX8_mirror 51 = .ok (.aload_n 0, 1) := by decide +kernel
theorem dX8_mirror_52 : decode cX8_mirror 52 = .ok (.getfield 7, 3) := by decide +kernel
theorem dX8_mirror_55 : decode cX8_mirror 55 = .ok (.iconst 4, 1) := by decide +kernel
theorem dX8_mirror_56 : decode cX8_mirror 56 = .ok (.iload_n 1, 1) := by decide +kernel
theorem dX8_mirror_57 : decode cX8_mirror 57 = .ok (.imul, 1) := by decide +kernel
theorem dX8_mirror_58 : decode cX8_mirror 58 = .ok (.iconst 3, 1) := by decide +kernel
theorem dX8_mirror_59 : decode cX8_mirror 59 = .ok (.iadd, 1) := by decide +kernel
theorem dX8_mirror_60 : decode cX8_mirror 60 = .ok (.iload_n 2, 1) := by decide +kernel
theorem dX8_mirror_61 : decode cX8_mirror 61 = .ok (.isub, 1) := by decide +kernel
theorem dX8_mirror_62 : decode cX8_mirror 62 = .ok (.iload_n 3, 1) := by decide +kernel
theorem dX8_mirror_63 : decode cX8_mirror 63 = .ok (.iastore, 1) := by decide +kernel
theorem dX8_mirror_64 : decode cX8_mirror 64 = .ok (.iinc 2 1, 3) := by decide +kernel
theorem dX8_mirror_67 : decode cX8_mirror 67 = .ok (.goto (-54), 3) := by decide +kernel
theorem dX8_mirror_70 : decode cX8_mirror 70 = .ok (.aload_n 0, 1) := by decide +kernel
theorem dX8_mirror_71 : decode cX8_mirror 71 = .ok (.getfield 17, 3) := by decide +kernel
theorem dX8_mirror_74 : decode cX8_mirror 74 = .ok (.iload_n 1, 1) := by decide +kernel
theorem dX8_mirror_75 : decode cX8_mirror 75 = .ok (.iconst 0, 1) := by decide +kernel
theorem dX8_mirror_76 : decode cX8_mirror 76 = .ok (.iastore, 1) := by decide +kernel
theorem dX8_mirror_77 : decode cX8_mirror 77 = .ok (.iconst 1, 1) := by decide +kernel
theorem dX8_mirror_78 : decode cX8_mirror 78 = .ok (.ireturn, 1) := by decide +kernel
theorem dX8_take_0 : decode cX8_take 0 = .ok (.iconst 0, 1) := by decide +kernel
theorem dX8_take_1 : decode cX8_take 1 = .ok (.istore_n 3, 1) := by decide +kernel
theorem dX8_take_2 : decode cX8_take 2 = .ok (.iload_n 3, 1) := by decide +kernel
theorem dX8_take_3 : decode cX8_take 3 = .ok (.iconst 4, 1) := by decide +kernel
theorem dX8_take_4 : decode cX8_take 4 = .ok (.if_icmp .ge 22, 3) := by decide +kernel
theorem dX8_take_7 : decode cX8_take 7 = .ok (.aload_n 0, 1) := by decide +kernel
theorem dX8_take_8 : decode cX8_take 8 = .ok (.getfield 48, 3) := by decide +kernel
theorem dX8_take_11 : decode cX8_take 11 = .ok (.iload_n 3, 1) := by decide +kernel
theorem dX8_take_12 : decode cX8_take 12 = .ok (.aload_n 1, 1) := by decide +kernel
theorem dX8_take_13 : decode cX8_take 13 = .ok (.iconst 4, 1) := by decide +kernel
theorem dX8_take_14 : decode cX8_take 14 = .ok (.iload_n 2, 1) := by decide +kernel
theorem dX8_take_15 : decode cX8_take 15 = .ok (.imul, 1) := by decide +kernel
theorem dX8_take_16 : decode cX8_take 16 = .ok (.iload_n 3, 1) := by decide +kernel
theorem dX8_take_17 : decode cX8_take 17 = .ok (.iadd, 1) := by decide +kernel
theorem dX8_take_18 : decode cX8_take 18 = .ok (.iaload, 1) := by decide +kernel
theorem dX8_take_19 : decode cX8_take 19 = .ok (.iastore, 1) := by decide +kernel
theorem dX8_take_20 : decode cX8_take 20 = .ok (.iinc 3 1, 3) := by decide +kernel
theorem dX8_take_23 : decode cX8_take 23 = .ok (.goto (-21), 3) := by decide +kernel
theorem dX8_take_26 : decode cX8_take 26 = .ok (.return_, 1) := by decide +kernel
theorem dX8_bondOf_0 : decode cX8_bondOf 0 = .ok (.iload_n 2, 1) := by decide +kernel
theorem dX8_bondOf_1 : decode cX8_bondOf 1 = .ok (.ifCond .eq 8, 3) := by decide +kernel
theorem dX8_bondOf_4 : decode cX8_bondOf 4 = .ok (.iload_n 2, 1) := by decide +kernel
theorem dX8_bondOf_5 : decode cX8_bondOf 5 = .ok (.iconst 4, 1) := by decide +kernel
theorem dX8_bondOf_6 : decode cX8_bondOf 6 = .ok (.if_icmp .ne 36, 3) := by decide +kernel
theorem dX8_bondOf_9 : decode cX8_bondOf 9 = .ok (.aload_n 0, 1) := by decide +kernel
theorem dX8_bondOf_10 : decode cX8_bondOf 10 = .ok (.getfield 48, 3) := by decide +kernel
theorem dX8_bondOf_13 : decode cX8_bondOf 13 = .ok (.iload_n 2, 1) := by decide +kernel
theorem dX8_bondOf_14 : decode cX8_bondOf 14 = .ok (.ifCond .ne 7, 3) := by decide +kernel
theorem dX8_bondOf_17 : decode cX8_bondOf 17 = .ok (.iconst 0, 1) := by decide +kernel
theorem dX8_bondOf_18 : decode cX8_bondOf 18 = .ok (.goto 4, 3) := by decide +kernel
theorem dX8_bondOf_21 : decode cX8_bondOf 21 = .ok (.iconst 3, 1) := by decide +kernel
theorem dX8_bondOf_22 : decode cX8_bondOf 22 = .ok (.iaload, 1) := by decide +kernel
theorem dX8_bondOf_23 : decode cX8_bondOf 23 = .ok (.istore_n 3, 1) := by decide +kernel
theorem dX8_bondOf_24 : decode cX8_bondOf 24 = .ok (.iload_n 1, 1) := by decide +kernel
theorem dX8_bondOf_25 : decode cX8_bondOf 25 = .ok (.i2l, 1) := by decide +kernel
theorem dX8_bondOf_26 : decode cX8_bondOf 26 = .ok (.iload_n 3, 1) := by decide +kernel
theorem dX8_bondOf_27 : decode cX8_bondOf 27 = .ok (.i2l, 1) := by decide +kernel
theorem dX8_bondOf_28 : decode cX8_bondOf 28 = .ok (.lmul, 1) := by decide +kernel
theorem dX8_bondOf_29 : decode cX8_bondOf 29 = .ok (.iload_n 3, 1) := by decide +kernel
theorem dX8_bondOf_30 : decode cX8_bondOf 30 = .ok (.i2l, 1) := by decide +kernel
theorem dX8_bondOf_31 : decode cX8_bondOf 31 = .ok (.lmul, 1) := by decide +kernel
theorem dX8_bondOf_32 : decode cX8_bondOf 32 = .ok (.iload_n 3, 1) := by decide +kernel
theorem dX8_bondOf_33 : decode cX8_bondOf 33 = .ok (.i2l, 1) := by decide +kernel
theorem dX8_bondOf_34 : decode cX8_bondOf 34 = .ok (.lmul, 1) := by decide +kernel
theorem dX8_bondOf_35 : decode cX8_bondOf 35 = .ok (.ldc2_w 81, 3) := by decide +kernel
theorem dX8_bondOf_38 : decode cX8_bondOf 38 = .ok (.ldiv, 1) := by decide +kernel
theorem dX8_bondOf_39 : decode cX8_bondOf 39 = .ok (.lconst 1, 1) := by decide +kernel
theorem dX8_bondOf_40 : decode cX8_bondOf 40 = .ok (.ladd, 1) := by decide +kernel
theorem dX8_bondOf_41 : decode cX8_bondOf 41 = .ok (.lreturn, 1) := by decide +kernel
theorem dX8_bondOf_42 : decode cX8_bondOf 42 = .ok (.aload_n 0, 1) := by decide +kernel
theorem dX8_bondOf_43 : decode cX8_bondOf 43 = .ok (.getfield 48, 3) := by decide +kernel
theorem dX8_bondOf_46 : decode cX8_bondOf 46 = .ok (.iload_n 2, 1) := by decide +kernel
theorem dX8_bondOf_47 : decode cX8_bondOf 47 = .ok (.iaload, 1) := by decide +kernel
theorem dX8_bondOf_48 : decode cX8_bondOf 48 = .ok (.aload_n 0, 1) := by decide +kernel
theorem dX8_bondOf_49 : decode cX8_bondOf 49 = .ok (.getfield 48, 3) := by decide +kernel
theorem dX8_bondOf_52 : decode cX8_bondOf 52 = .ok (.iload_n 2, 1) := by decide +kernel
theorem dX8_bondOf_53 : decode cX8_bondOf 53 = .ok (.iconst 1, 1) := by decide +kernel
theorem dX8_bondOf_54 : decode cX8_bondOf 54 = .ok (.isub, 1) := by decide +kernel
theorem dX8_bondOf_55 : decode cX8_bondOf 55 = .ok (.iaload, 1) := by decide +kernel
theorem dX8_bondOf_56 : decode cX8_bondOf 56 = .ok (.if_icmp .ge 12, 3) := by decide +kernel
theorem dX8_bondOf_59 : decode cX8_bondOf 59 = .ok (.aload_n 0, 1) := by decide +kernel
theorem dX8_bondOf_60 : decode cX8_bondOf 60 = .ok (.getfield 48, 3) := by decide +kernel
theorem dX8_bondOf_63 : decode cX8_bondOf 63 = .ok (.iload_n 2, 1) := by decide +kernel
theorem dX8_bondOf_64 : decode cX8_bondOf 64 = .ok (.iaload, 1) := by decide +kernel
theorem dX8_bondOf_65 : decode cX8_bondOf 65 = .ok (.goto 11, 3) := by decide +kernel
theorem dX8_bondOf_68 : decode cX8_bondOf 68 = .ok (.aload_n 0, 1) := by decide +kernel
theorem dX8_bondOf_69 : decode cX8_bondOf 69 = .ok (.getfield 48, 3) := by decide +kernel
theorem dX8_bondOf_72 : decode cX8_bondOf 72 = .ok (.iload_n 2, 1) := by decide +kernel
theorem dX8_bondOf_73 : decode cX8_bondOf 73 = .ok (.iconst 1, 1) := by decide +kernel
theorem dX8_bondOf_74 : decode cX8_bondOf 74 = .ok (.isub, 1) := by decide +kernel
theorem dX8_bondOf_75 : decode cX8_bondOf 75 = .ok (.iaload, 1) := by decide +kernel
theorem dX8_bondOf_76 : decode cX8_bondOf 76 = .ok (.istore_n 3, 1) := by decide +kernel
theorem dX8_bondOf_77 : decode cX8_bondOf 77 = .ok (.iload_n 1, 1) := by decide +kernel
theorem dX8_bondOf_78 : decode cX8_bondOf 78 = .ok (.i2l, 1) := by decide +kernel
theorem dX8_bondOf_79 : decode cX8_bondOf 79 = .ok (.iload_n 3, 1) := by decide +kernel
theorem dX8_bondOf_80 : decode cX8_bondOf 80 = .ok (.i2l, 1) := by decide +kernel
theorem dX8_bondOf_81 : decode cX8_bondOf 81 = .ok (.lmul, 1) := by decide +kernel
theorem dX8_bondOf_82 : decode cX8_bondOf 82 = .ok (.iload_n 3, 1) := by decide +kernel
theorem dX8_bondOf_83 : decode cX8_bondOf 83 = .ok (.i2l, 1) := by decide +kernel
theorem dX8_bondOf_84 : decode cX8_bondOf 84 = .ok (.lmul, 1) := by decide +kernel
theorem dX8_bondOf_85 : decode cX8_bondOf 85 = .ok (.iload_n 3, 1) := by decide +kernel
theorem dX8_bondOf_86 : decode cX8_bondOf 86 = .ok (.i2l, 1) := by decide +kernel
theorem dX8_bondOf_87 : decode cX8_bondOf 87 = .ok (.lmul, 1) := by decide +kernel
theorem dX8_bondOf_88 : decode cX8_bondOf 88 = .ok (.ldc2_w 83, 3) := by decide +kernel
theorem dX8_bondOf_91 : decode cX8_bondOf 91 = .ok (.ldiv, 1) := by decide +kernel
theorem dX8_bondOf_92 : decode cX8_bondOf 92 = .ok (.lconst 1, 1) := by decide +kernel
theorem dX8_bondOf_93 : decode cX8_bondOf 93 = .ok (.ladd, 1) := by decide +kernel
theorem dX8_bondOf_94 : decode cX8_bondOf 94 = .ok (.lreturn, 1) := by decide +kernel
set_option maxRecDepth 20000 in
theorem ggX8_belowOf_X8_bondOf : GoodIn wsX8_belowOf wsX8_bondOf := goodIn_r _ [6, 1, 7, 8, 9, 10, 11, 12, 13, 14, 15, 16, 17, 18, 19, 20, 21, 22, 23, 24, 25, 26, 27, 28] (by decide +kernel) (by decide +kernel)
set_option maxRecDepth 20000 in
theorem gX8_belowOf_X8_bondOf : GoodIn wsX8_belowOf (wsV RX8 85 RX8 yX8_bondOf wsX8_bondOf) := goodIn_app (goodIn_of _ (by decide +kernel)) ggX8_belowOf_X8_bondOf
theorem dX8_belowOf_0 : decode cX8_belowOf 0 = .ok (.lconst 0, 1) := by decide +kernel
theorem dX8_belowOf_1 : decode cX8_belowOf 1 = .ok (.lstore 4, 2) := by decide +kernel
theorem dX8_belowOf_3 : decode cX8_belowOf 3 = .ok (.lconst 1, 1) := by decide +kernel
theorem dX8_belowOf_4 : decode cX8_belowOf 4 = .ok (.lstore 6, 2) := by decide +kernel
theorem dX8_belowOf_6 : decode cX8_belowOf 6 = .ok (.lconst 1, 1) := by decide +kernel
theorem dX8_belowOf_7 : decode cX8_belowOf 7 = .ok (.lstore 8, 2) := by decide +kernel
theorem dX8_belowOf_9 : decode cX8_belowOf 9 = .ok (.iconst 0, 1) := by decide +kernel
theorem dX8_belowOf_10 : decode cX8_belowOf 10 = .ok (.istore 10, 2) := by decide +kernel
theorem dX8_belowOf_12 : decode cX8_belowOf 12 = .ok (.iconst 0, 1) := by decide +kernel
theorem dX8_belowOf_13 : decode cX8_belowOf 13 = .ok (.istore 11, 2) := by decide +kernel
theorem dX8_belowOf_15 : decode cX8_belowOf 15 = .ok (.iload 11, 2) := by decide +kernel
theorem dX8_belowOf_17 : decode cX8_belowOf 17 = .ok (.iconst 4, 1) := by decide +kernel
theorem dX8_belowOf_18 : decode cX8_belowOf 18 = .ok (.if_icmp .ge 129, 3) := by decide +kernel
theorem dX8_belowOf_21 : decode cX8_belowOf 21 = .ok (.iload 11, 2) := by decide +kernel
theorem dX8_belowOf_23 : decode cX8_belowOf 23 = .ok (.ifCond .ne 7, 3) := by decide +kernel
theorem dX8_belowOf_26 : decode cX8_belowOf 26 = .ok (.lconst 0, 1) := by decide +kernel
theorem dX8_belowOf_27 : decode cX8_belowOf 27 = .ok (.goto 10, 3) := by decide +kernel
theorem dX8_belowOf_30 : decode cX8_belowOf 30 = .ok (.aload_n 0, 1) := by decide +kernel
theorem dX8_belowOf_31 : decode cX8_belowOf 31 = .ok (.iload_n 1, 1) := by decide +kernel
theorem dX8_belowOf_32 : decode cX8_belowOf 32 = .ok (.iload 11, 2) := by decide +kernel
theorem dX8_belowOf_34 : decode cX8_belowOf 34 = .ok (.invokevirtual 85, 3) := by decide +kernel
theorem dX8_belowOf_37 : decode cX8_belowOf 37 = .ok (.lstore 12, 2) := by decide +kernel
theorem dX8_belowOf_39 : decode cX8_belowOf 39 = .ok (.aload_n 0, 1) := by decide +kernel
theorem dX8_belowOf_40 : decode cX8_belowOf 40 = .ok (.iload_n 1, 1) := by decide +kernel
theorem dX8_belowOf_41 : decode cX8_belowOf 41 = .ok (.iload 11, 2) := by decide +kernel
theorem dX8_belowOf_43 : decode cX8_belowOf 43 = .ok (.invokevirtual 85, 3) := by decide +kernel
theorem dX8_belowOf_46 : decode cX8_belowOf 46 = .ok (.aload_n 0, 1) := by decide +kernel
theorem dX8_belowOf_47 : decode cX8_belowOf 47 = .ok (.iload_n 1, 1) := by decide +kernel
theorem dX8_belowOf_48 : decode cX8_belowOf 48 = .ok (.iload 11, 2) := by decide +kernel
theorem dX8_belowOf_50 : decode cX8_belowOf 50 = .ok (.iconst 1, 1) := by decide +kernel
theorem dX8_belowOf_51 : decode cX8_belowOf 51 = .ok (.iadd, 1) := by decide +kernel
theorem dX8_belowOf_52 : decode cX8_belowOf 52 = .ok (.invokevirtual 85, 3) := by decide +kernel
theorem dX8_belowOf_55 : decode cX8_belowOf 55 = .ok (.ladd, 1) := by decide +kernel
theorem dX8_belowOf_56 : decode cX8_belowOf 56 = .ok (.iload_n 3, 1) := by decide +kernel
theorem dX8_belowOf_57 : decode cX8_belowOf 57 = .ok (.i2l, 1) := by decide +kernel
theorem dX8_belowOf_58 : decode cX8_belowOf 58 = .ok (.iload_n 2, 1) := by decide +kernel
theorem dX8_belowOf_59 : decode cX8_belowOf 59 = .ok (.i2l, 1) := by decide +kernel
theorem dX8_belowOf_60 : decode cX8_belowOf 60 = .ok (.lmul, 1) := by decide +kernel
theorem dX8_belowOf_61 : decode cX8_belowOf 61 = .ok (.aload_n 0, 1) := by decide +kernel
theorem dX8_belowOf_62 : decode cX8_belowOf 62 = .ok (.getfield 48, 3) := by decide +kernel
theorem dX8_belowOf_65 : decode cX8_belowOf 65 = .ok (.iload 11, 2) := by decide +kernel
theorem dX8_belowOf_67 : decode cX8_belowOf 67 = .ok (.iaload, 1) := by decide +kernel
theorem dX8_belowOf_68 : decode cX8_belowOf 68 = .ok (.i2l, 1) := by decide +kernel
theorem dX8_belowOf_69 : decode cX8_belowOf 69 = .ok (.lmul, 1) := by decide +kernel
theorem dX8_belowOf_70 : decode cX8_belowOf 70 = .ok (.lsub, 1) := by decide +kernel
theorem dX8_belowOf_71 : decode cX8_belowOf 71 = .ok (.lload 6, 2) := by decide +kernel
theorem dX8_belowOf_73 : decode cX8_belowOf 73 = .ok (.lmul, 1) := by decide +kernel
theorem dX8_belowOf_74 : decode cX8_belowOf 74 = .ok (.lload 12, 2) := by decide +kernel
theorem dX8_belowOf_76 : decode cX8_belowOf 76 = .ok (.lload 12, 2) := by decide +kernel
theorem dX8_belowOf_78 : decode cX8_belowOf 78 = .ok (.lmul, 1) := by decide +kernel
theorem dX8_belowOf_79 : decode cX8_belowOf 79 = .ok (.lload 4, 2) := by decide +kernel
theorem dX8_belowOf_81 : decode cX8_belowOf 81 = .ok (.lmul, 1) := by decide +kernel
theorem dX8_belowOf_82 : decode cX8_belowOf 82 = .ok (.lsub, 1) := by decide +kernel
theorem dX8_belowOf_83 : decode cX8_belowOf 83 = .ok (.lstore 14, 2) := by decide +kernel
theorem dX8_belowOf_85 : decode cX8_belowOf 85 = .ok (.lload 6, 2) := by decide +kernel
theorem dX8_belowOf_87 : decode cX8_belowOf 87 = .ok (.lstore 4, 2) := by decide +kernel
theorem dX8_belowOf_89 : decode cX8_belowOf 89 = .ok (.lload 14, 2) := by decide +kernel
theorem dX8_belowOf_91 : decode cX8_belowOf 91 = .ok (.lstore 6, 2) := by decide +kernel
theorem dX8_belowOf_93 : decode cX8_belowOf 93 = .ok (.lload 6, 2) := by decide +kernel
theorem dX8_belowOf_95 : decode cX8_belowOf 95 = .ok (.lconst 0, 1) := by decide +kernel
theorem dX8_belowOf_96 : decode cX8_belowOf 96 = .ok (.lcmp, 1) := by decide +kernel
theorem dX8_belowOf_97 : decode cX8_belowOf 97 = .ok (.ifCond .eq 44, 3) := by decide +kernel
theorem dX8_belowOf_100 : decode cX8_belowOf 100 = .ok (.iload 10, 2) := by decide +kernel
theorem dX8_belowOf_102 : decode cX8_belowOf 102 = .ok (.lload 6, 2) := by decide +kernel
theorem dX8_belowOf_104 : decode cX8_belowOf 104 = .ok (.lconst 0, 1) := by decide +kernel
theorem dX8_belowOf_105 : decode cX8_belowOf 105 = .ok (.lcmp, 1) := by decide +kernel
theorem dX8_belowOf_106 : decode cX8_belowOf 106 = .ok (.ifCond .le 7, 3) := by decide +kernel
theorem dX8_belowOf_109 : decode cX8_belowOf 109 = .ok (.iconst 1, 1) := by decide +kernel
theorem dX8_belowOf_110 : decode cX8_belowOf 110 = .ok (.goto 4, 3) := by decide +kernel
theorem dX8_belowOf_113 : decode cX8_belowOf 113 = .ok (.iconst 0, 1) := by decide +kernel
theorem dX8_belowOf_114 : decode cX8_belowOf 114 = .ok (.lload 8, 2) := by decide +kernel
theorem dX8_belowOf_116 : decode cX8_belowOf 116 = .ok (.lconst 0, 1) := by decide +kernel
theorem dX8_belowOf_117 : decode cX8_belowOf 117 = .ok (.lcmp, 1) := by decide +kernel
theorem dX8_belowOf_118 : decode cX8_belowOf 118 = .ok (.ifCond .le 7, 3) := by decide +kernel
theorem dX8_belowOf_121 : decode cX8_belowOf 121 = .ok (.iconst 1, 1) := by decide +kernel
theorem dX8_belowOf_122 : decode cX8_belowOf 122 = .ok (.goto 4, 3) := by decide +kernel
theorem dX8_belowOf_125 : decode cX8_belowOf 125 = .ok (.iconst 0, 1) := by decide +kernel
theorem dX8_belowOf_126 : decode cX8_belowOf 126 = .ok (.if_icmp .ne 7, 3) := by decide +kernel
theorem dX8_belowOf_129 : decode cX8_belowOf 129 = .ok (.iconst 0, 1) := by decide +kernel
theorem dX8_belowOf_130 : decode cX8_belowOf 130 = .ok (.goto 4, 3) := by decide +kernel
theorem dX8_belowOf_133 : decode cX8_belowOf 133 = .ok (.iconst 1, 1) := by decide +kernel
theorem dX8_belowOf_134 : decode cX8_belowOf 134 = .ok (.iadd, 1) := by decide +kernel
theorem dX8_belowOf_135 : decode cX8_belowOf 135 = .ok (.istore 10, 2) := by decide +kernel
theorem dX8_belowOf_137 : decode cX8_belowOf 137 = .ok (.lload 6, 2) := by decide +kernel
theorem dX8_belowOf_139 : decode cX8_belowOf 139 = .ok (.lstore 8, 2) := by decide +kernel
theorem dX8_belowOf_141 : decode cX8_belowOf 141 = .ok (.iinc 11 1, 3) := by decide +kernel
theorem dX8_belowOf_144 : decode cX8_belowOf 144 = .ok (.goto (-129), 3) := by decide +kernel
theorem dX8_belowOf_147 : decode cX8_belowOf 147 = .ok (.iload 10, 2) := by decide +kernel
theorem dX8_belowOf_149 : decode cX8_belowOf 149 = .ok (.ireturn, 1) := by decide +kernel
set_option maxRecDepth 20000 in
theorem ggX8_toneOf_X8_belowOf : GoodIn wsX8_toneOf wsX8_belowOf := goodIn_r _ [5, 6, 7, 8, 9, 4, 10, 11, 12, 13, 14, 15, 16, 17, 18, 19, 20, 21, 22, 23, 24, 25, 26, 27, 28, 29, 30, 31, 32] (by decide +kernel) (by decide +kernel)
set_option maxRecDepth 20000 in
theorem gX8_toneOf_X8_belowOf : GoodIn wsX8_toneOf (wsV RX8 89 RX8 yX8_belowOf wsX8_belowOf) := goodIn_app (goodIn_of _ (by decide +kernel)) ggX8_toneOf_X8_belowOf
theorem dX8_toneOf_0 : decode cX8_toneOf 0 = .ok (.iconst 0, 1) := by decide +kernel
theorem dX8_toneOf_1 : decode cX8_toneOf 1 = .ok (.istore 4, 2) := by decide +kernel
theorem dX8_toneOf_3 : decode cX8_toneOf 3 = .ok (.sipush 500, 3) := by decide +kernel
theorem dX8_toneOf_6 : decode cX8_toneOf 6 = .ok (.istore 5, 2) := by decide +kernel
theorem dX8_toneOf_8 : decode cX8_toneOf 8 = .ok (.iload 4, 2) := by decide +kernel
theorem dX8_toneOf_10 : decode cX8_toneOf 10 = .ok (.iload 5, 2) := by decide +kernel
theorem dX8_toneOf_12 : decode cX8_toneOf 12 = .ok (.if_icmp .ge 42, 3) := by decide +kernel
theorem dX8_toneOf_15 : decode cX8_toneOf 15 = .ok (.iload 4, 2) := by decide +kernel
theorem dX8_toneOf_17 : decode cX8_toneOf 17 = .ok (.iload 5, 2) := by decide +kernel
theorem dX8_toneOf_19 : decode cX8_toneOf 19 = .ok (.iadd, 1) := by decide +kernel
theorem dX8_toneOf_20 : decode cX8_toneOf 20 = .ok (.iconst 1, 1) := by decide +kernel
theorem dX8_toneOf_21 : decode cX8_toneOf 21 = .ok (.iadd, 1) := by decide +kernel
theorem dX8_toneOf_22 : decode cX8_toneOf 22 = .ok (.iconst 2, 1) := by decide +kernel
theorem dX8_toneOf_23 : decode cX8_toneOf 23 = .ok (.idiv, 1) := by decide +kernel
theorem dX8_toneOf_24 : decode cX8_toneOf 24 = .ok (.istore 6, 2) := by decide +kernel
theorem dX8_toneOf_26 : decode cX8_toneOf 26 = .ok (.aload_n 0, 1) := by decide +kernel
theorem dX8_toneOf_27 : decode cX8_toneOf 27 = .ok (.iload_n 1, 1) := by decide +kernel
theorem dX8_toneOf_28 : decode cX8_toneOf 28 = .ok (.iload_n 2, 1) := by decide +kernel
theorem dX8_toneOf_29 : decode cX8_toneOf 29 = .ok (.iload 6, 2) := by decide +kernel
theorem dX8_toneOf_31 : decode cX8_toneOf 31 = .ok (.invokevirtual 89, 3) := by decide +kernel
theorem dX8_toneOf_34 : decode cX8_toneOf 34 = .ok (.iload_n 3, 1) := by decide +kernel
theorem dX8_toneOf_35 : decode cX8_toneOf 35 = .ok (.if_icmp .gt 10, 3) := by decide +kernel
theorem dX8_toneOf_38 : decode cX8_toneOf 38 = .ok (.iload 6, 2) := by decide +kernel
theorem dX8_toneOf_40 : decode cX8_toneOf 40 = .ok (.istore 4, 2) := by decide +kernel
theorem dX8_toneOf_42 : decode cX8_toneOf 42 = .ok (.goto 9, 3) := by decide +kernel
theorem dX8_toneOf_45 : decode cX8_toneOf 45 = .ok (.iload 6, 2) := by decide +kernel
theorem dX8_toneOf_47 : decode cX8_toneOf 47 = .ok (.iconst 1, 1) := by decide +kernel
theorem dX8_toneOf_48 : decode cX8_toneOf 48 = .ok (.isub, 1) := by decide +kernel
theorem dX8_toneOf_49 : decode cX8_toneOf 49 = .ok (.istore 5, 2) := by decide +kernel
theorem dX8_toneOf_51 : decode cX8_toneOf 51 = .ok (.goto (-43), 3) := by decide +kernel
theorem dX8_toneOf_54 : decode cX8_toneOf 54 = .ok (.iload 4, 2) := by decide +kernel
theorem dX8_toneOf_56 : decode cX8_toneOf 56 = .ok (.ireturn, 1) := by decide +kernel
set_option maxRecDepth 20000 in
theorem ggX8_isWood_X8_isThick : GoodIn wsX8_isWood wsX8_isThick := goodIn_r _ [4, 5, 6, 3, 7] (by decide +kernel) (by decide +kernel)
set_option maxRecDepth 20000 in
theorem gX8_isWood_X8_isThick : GoodIn wsX8_isWood (va_wsS RX8 67 yX8_isThick wsX8_isThick) := goodIn_app (goodIn_of _ (by decide +kernel)) ggX8_isWood_X8_isThick
theorem dX8_isWood_0 : decode cX8_isWood 0 = .ok (.iload_n 0, 1) := by decide +kernel
theorem dX8_isWood_1 : decode cX8_isWood 1 = .ok (.invokestatic 67, 3) := by decide +kernel
theorem dX8_isWood_4 : decode cX8_isWood 4 = .ok (.ifCond .eq 14, 3) := by decide +kernel
theorem dX8_isWood_7 : decode cX8_isWood 7 = .ok (.iload_n 1, 1) := by decide +kernel
theorem dX8_isWood_8 : decode cX8_isWood 8 = .ok (.invokestatic 67, 3) := by decide +kernel
theorem dX8_isWood_11 : decode cX8_isWood 11 = .ok (.ifCond .eq 7, 3) := by decide +kernel
theorem dX8_isWood_14 : decode cX8_isWood 14 = .ok (.iconst 1, 1) := by decide +kernel
theorem dX8_isWood_15 : decode cX8_isWood 15 = .ok (.goto 4, 3) := by decide +kernel
theorem dX8_isWood_18 : decode cX8_isWood 18 = .ok (.iconst 0, 1) := by decide +kernel
theorem dX8_isWood_19 : decode cX8_isWood 19 = .ok (.ireturn, 1) := by decide +kernel
set_option maxRecDepth 20000 in
theorem ggX8_tone_X8_isPlate : GoodIn wsX8_tone wsX8_isPlate := goodIn_r _ [6, 7, 8, 9, 5, 10, 39, 40, 41, 42, 43, 44, 45, 46, 47, 48, 49, 50, 51, 52, 53, 54, 55, 56, 57, 58] (by decide +kernel) (by decide +kernel)
set_option maxRecDepth 20000 in
theorem gX8_tone_X8_isPlate : GoodIn wsX8_tone (wsV RX8 71 RX8 yX8_isPlate wsX8_isPlate) := goodIn_app (goodIn_of _ (by decide +kernel)) ggX8_tone_X8_isPlate
set_option maxRecDepth 20000 in
theorem ggX8_tone_X8_isWood : GoodIn wsX8_tone wsX8_isWood := goodIn_r _ [13, 14, 15, 5, 16, 8, 9, 10] (by decide +kernel) (by decide +kernel)
set_option maxRecDepth 20000 in
theorem gX8_tone_X8_isWood : GoodIn wsX8_tone (va_wsS RX8 93 yX8_isWood wsX8_isWood) := goodIn_app (goodIn_of _ (by decide +kernel)) ggX8_tone_X8_isWood
set_option maxRecDepth 20000 in
theorem ggX8_tone_X8_isFour : GoodIn wsX8_tone wsX8_isFour := goodIn_r _ [19, 8, 9, 5, 10] (by decide +kernel) (by decide +kernel)
set_option maxRecDepth 20000 in
theorem gX8_tone_X8_isFour : GoodIn wsX8_tone (va_wsS RX8 74 yX8_isFour wsX8_isFour) := goodIn_app (goodIn_of _ (by decide +kernel)) ggX8_tone_X8_isFour
set_option maxRecDepth 20000 in
theorem ggX8_tone_X8_take : GoodIn wsX8_tone wsX8_take := goodIn_r _ [23, 24, 39, 40, 41, 42, 43, 44, 45, 46, 47, 48, 49, 50, 51, 52, 53, 54, 55, 56, 57, 58] (by decide +kernel) (by decide +kernel)
set_option maxRecDepth 20000 in
theorem gX8_tone_X8_take : GoodIn wsX8_tone (wsV RX8 97 RX8 yX8_take wsX8_take) := goodIn_app (goodIn_of _ (by decide +kernel)) ggX8_tone_X8_take
set_option maxRecDepth 20000 in
theorem ggX8_tone_X8_toneOf : GoodIn wsX8_tone wsX8_toneOf := goodIn_r _ [28, 29, 30, 31, 5, 32, 24, 33, 34, 35, 36, 37, 38, 39, 40, 41, 42, 43, 44, 45, 46, 47, 48, 49, 50, 51, 52, 53, 54, 55, 56, 57, 58] (by decide +kernel) (by decide +kernel)
set_option maxRecDepth 20000 in
theorem gX8_tone_X8_toneOf : GoodIn wsX8_tone (wsV RX8 101 RX8 yX8_toneOf wsX8_toneOf) := goodIn_app (goodIn_of _ (by decide +kernel)) ggX8_tone_X8_toneOf
theorem dX8_tone_0 : decode cX8_tone 0 = .ok (.aload_n 0, 1) := by decide +kernel
theorem dX8_tone_1 : decode cX8_tone 1 = .ok (.iload_n 1, 1) := by decide +kernel
theorem dX8_tone_2 : decode cX8_tone 2 = .ok (.invokevirtual 71, 3) := by decide +kernel
theorem dX8_tone_5 : decode cX8_tone 5 = .ok (.ifCond .eq 19, 3) := by decide +kernel
theorem dX8_tone_8 : decode cX8_tone 8 = .ok (.iload_n 2, 1) := by decide +kernel
theorem dX8_tone_9 : decode cX8_tone 9 = .ok (.iload_n 3, 1) := by decide +kernel
theorem dX8_tone_10 : decode cX8_tone 10 = .ok (.invokestatic 93, 3) := by decide +kernel
theorem dX8_tone_13 : decode cX8_tone 13 = .ok (.ifCond .eq 11, 3) := by decide +kernel
theorem dX8_tone_16 : decode cX8_tone 16 = .ok (.iload 4, 2) := by decide +kernel
theorem dX8_tone_18 : decode cX8_tone 18 = .ok (.invokestatic 74, 3) := by decide +kernel
theorem dX8_tone_21 : decode cX8_tone 21 = .ok (.ifCond .ne 6, 3) := by decide +kernel
theorem dX8_tone_24 : decode cX8_tone 24 = .ok (.bipush (-2), 2) := by decide +kernel
theorem dX8_tone_26 : decode cX8_tone 26 = .ok (.ireturn, 1) := by decide +kernel
theorem dX8_tone_27 : decode cX8_tone 27 = .ok (.aload_n 0, 1) := by decide +kernel
theorem dX8_tone_28 : decode cX8_tone 28 = .ok (.aload_n 0, 1) := by decide +kernel
theorem dX8_tone_29 : decode cX8_tone 29 = .ok (.getfield 7, 3) := by decide +kernel
theorem dX8_tone_32 : decode cX8_tone 32 = .ok (.iload_n 1, 1) := by decide +kernel
theorem dX8_tone_33 : decode cX8_tone 33 = .ok (.invokevirtual 97, 3) := by decide +kernel
theorem dX8_tone_36 : decode cX8_tone 36 = .ok (.aload_n 0, 1) := by decide +kernel
theorem dX8_tone_37 : decode cX8_tone 37 = .ok (.iload_n 2, 1) := by decide +kernel
theorem dX8_tone_38 : decode cX8_tone 38 = .ok (.iload_n 3, 1) := by decide +kernel
theorem dX8_tone_39 : decode cX8_tone 39 = .ok (.iload 4, 2) := by decide +kernel
theorem dX8_tone_41 : decode cX8_tone 41 = .ok (.invokevirtual 101, 3) := by decide +kernel
theorem dX8_tone_44 : decode cX8_tone 44 = .ok (.ireturn, 1) := by decide +kernel
set_option maxRecDepth 20000 in
theorem ggX8_below_X8_isPlate : GoodIn wsX8_below wsX8_isPlate := goodIn_r _ [6, 7, 8, 9, 5, 10, 32, 33, 34, 35, 36, 37, 38, 39, 40, 41, 42, 43, 44, 45, 46, 47, 48, 49, 50, 51] (by decide +kernel) (by decide +kernel)
set_option maxRecDepth 20000 in
theorem gX8_below_X8_isPlate : GoodIn wsX8_below (wsV RX8 71 RX8 yX8_isPlate wsX8_isPlate) := goodIn_app (goodIn_of _ (by decide +kernel)) ggX8_below_X8_isPlate
set_option maxRecDepth 20000 in
theorem ggX8_below_X8_isWood : GoodIn wsX8_below wsX8_isWood := goodIn_r _ [13, 14, 15, 5, 16, 8, 9, 10] (by decide +kernel) (by decide +kernel)
set_option maxRecDepth 20000 in
theorem gX8_below_X8_isWood : GoodIn wsX8_below (va_wsS RX8 93 yX8_isWood wsX8_isWood) := goodIn_app (goodIn_of _ (by decide +kernel)) ggX8_below_X8_isWood
set_option maxRecDepth 20000 in
theorem ggX8_below_X8_in : GoodIn wsX8_below wsX8_in := goodIn_r _ [10] (by decide +kernel) (by decide +kernel)
set_option maxRecDepth 20000 in
theorem gX8_below_X8_in : GoodIn wsX8_below (va_wsS RX8 60 yX8_in wsX8_in) := goodIn_app (goodIn_of _ (by decide +kernel)) ggX8_below_X8_in
set_option maxRecDepth 20000 in
theorem ggX8_below_X8_take : GoodIn wsX8_below wsX8_take := goodIn_r _ [20, 21, 32, 33, 34, 35, 36, 37, 38, 39, 40, 41, 42, 43, 44, 45, 46, 47, 48, 49, 50, 51] (by decide +kernel) (by decide +kernel)
set_option maxRecDepth 20000 in
theorem gX8_below_X8_take : GoodIn wsX8_below (wsV RX8 97 RX8 yX8_take wsX8_take) := goodIn_app (goodIn_of _ (by decide +kernel)) ggX8_below_X8_take
set_option maxRecDepth 20000 in
theorem ggX8_below_X8_belowOf : GoodIn wsX8_below wsX8_belowOf := goodIn_r _ [25, 21, 26, 27, 28, 5, 29, 30, 31, 32, 33, 34, 35, 36, 37, 38, 39, 40, 41, 42, 43, 44, 45, 46, 47, 48, 49, 50, 51] (by decide +kernel) (by decide +kernel)
set_option maxRecDepth 20000 in
theorem gX8_below_X8_belowOf : GoodIn wsX8_below (wsV RX8 89 RX8 yX8_belowOf wsX8_belowOf) := goodIn_app (goodIn_of _ (by decide +kernel)) ggX8_below_X8_belowOf
theorem dX8_below_0 : decode cX8_below 0 = .ok (.aload_n 0, 1) := by decide +kernel
theorem dX8_below_1 : decode cX8_below 1 = .ok (.iload_n 1, 1) := by decide +kernel
theorem dX8_below_2 : decode cX8_below 2 = .ok (.invokevirtual 71, 3) := by decide +kernel
theorem dX8_below_5 : decode cX8_below 5 = .ok (.ifCond .eq 23, 3) := by decide +kernel
theorem dX8_below_8 : decode cX8_below 8 = .ok (.iload_n 2, 1) := by decide +kernel
theorem dX8_below_9 : decode cX8_below 9 = .ok (.iload_n 3, 1) := by decide +kernel
theorem dX8_below_10 : decode cX8_below 10 = .ok (.invokestatic 93, 3) := by decide +kernel
theorem dX8_below_13 : decode cX8_below 13 = .ok (.ifCond .eq 15, 3) := by decide +kernel
theorem dX8_below_16 : decode cX8_below 16 = .ok (.iload 4, 2) := by decide +kernel
theorem dX8_below_18 : decode cX8_below 18 = .ok (.iconst 0, 1) := by decide +kernel
theorem dX8_below_19 : decode cX8_below 19 = .ok (.sipush 500, 3) := by decide +kernel
theorem dX8_below_22 : decode cX8_below 22 = .ok (.invokestatic 60, 3) := by decide +kernel
theorem dX8_below_25 : decode cX8_below 25 = .ok (.ifCond .ne 6, 3) := by decide +kernel
theorem dX8_below_28 : decode cX8_below 28 = .ok (.bipush (-2), 2) := by decide +kernel
theorem dX8_below_30 : decode cX8_below 30 = .ok (.ireturn, 1) := by decide +kernel
theorem dX8_below_31 : decode cX8_below 31 = .ok (.aload_n 0, 1) := by decide +kernel
theorem dX8_below_32 : decode cX8_below 32 = .ok (.aload_n 0, 1) := by decide +kernel
theorem dX8_below_33 : decode cX8_below 33 = .ok (.getfield 7, 3) := by decide +kernel
theorem dX8_below_36 : decode cX8_below 36 = .ok (.iload_n 1, 1) := by decide +kernel
theorem dX8_below_37 : decode cX8_below 37 = .ok (.invokevirtual 97, 3) := by decide +kernel
theorem dX8_below_40 : decode cX8_below 40 = .ok (.aload_n 0, 1) := by decide +kernel
theorem dX8_below_41 : decode cX8_below 41 = .ok (.iload_n 2, 1) := by decide +kernel
theorem dX8_below_42 : decode cX8_below 42 = .ok (.iload_n 3, 1) := by decide +kernel
theorem dX8_below_43 : decode cX8_below 43 = .ok (.iload 4, 2) := by decide +kernel
theorem dX8_below_45 : decode cX8_below 45 = .ok (.invokevirtual 89, 3) := by decide +kernel
theorem dX8_below_48 : decode cX8_below 48 = .ok (.ireturn, 1) := by decide +kernel
set_option maxRecDepth 20000 in
theorem ggX8_bond_X8_isPlate : GoodIn wsX8_bond wsX8_isPlate := goodIn_r _ [6, 7, 8, 9, 5, 10, 25, 26, 27, 28, 29, 30, 31, 32, 33, 34, 35, 36, 37, 38, 39, 40, 41, 42, 43, 44] (by decide +kernel) (by decide +kernel)
set_option maxRecDepth 20000 in
theorem gX8_bond_X8_isPlate : GoodIn wsX8_bond (wsV RX8 71 RX8 yX8_isPlate wsX8_isPlate) := goodIn_app (goodIn_of _ (by decide +kernel)) ggX8_bond_X8_isPlate
set_option maxRecDepth 20000 in
theorem ggX8_bond_X8_isThick : GoodIn wsX8_bond wsX8_isThick := goodIn_r _ [13, 8, 9, 5, 10] (by decide +kernel) (by decide +kernel)
set_option maxRecDepth 20000 in
theorem gX8_bond_X8_isThick : GoodIn wsX8_bond (va_wsS RX8 67 yX8_isThick wsX8_isThick) := goodIn_app (goodIn_of _ (by decide +kernel)) ggX8_bond_X8_isThick
set_option maxRecDepth 20000 in
theorem ggX8_bond_X8_in : GoodIn wsX8_bond wsX8_in := goodIn_r _ [10] (by decide +kernel) (by decide +kernel)
set_option maxRecDepth 20000 in
theorem gX8_bond_X8_in : GoodIn wsX8_bond (va_wsS RX8 60 yX8_in wsX8_in) := goodIn_app (goodIn_of _ (by decide +kernel)) ggX8_bond_X8_in
set_option maxRecDepth 20000 in
theorem ggX8_bond_X8_take : GoodIn wsX8_bond wsX8_take := goodIn_r _ [17, 18, 25, 26, 27, 28, 29, 30, 31, 32, 33, 34, 35, 36, 37, 38, 39, 40, 41, 42, 43, 44] (by decide +kernel) (by decide +kernel)
set_option maxRecDepth 20000 in
theorem gX8_bond_X8_take : GoodIn wsX8_bond (wsV RX8 97 RX8 yX8_take wsX8_take) := goodIn_app (goodIn_of _ (by decide +kernel)) ggX8_bond_X8_take
set_option maxRecDepth 20000 in
theorem ggX8_bond_X8_bondOf : GoodIn wsX8_bond wsX8_bondOf := goodIn_r _ [22, 18, 23, 24, 25, 26, 27, 28, 29, 30, 31, 32, 33, 34, 35, 36, 37, 38, 39, 40, 41, 42, 43, 44] (by decide +kernel) (by decide +kernel)
set_option maxRecDepth 20000 in
theorem gX8_bond_X8_bondOf : GoodIn wsX8_bond (wsV RX8 85 RX8 yX8_bondOf wsX8_bondOf) := goodIn_app (goodIn_of _ (by decide +kernel)) ggX8_bond_X8_bondOf
theorem dX8_bond_0 : decode cX8_bond 0 = .ok (.aload_n 0, 1) := by decide +kernel
theorem dX8_bond_1 : decode cX8_bond 1 = .ok (.iload_n 1, 1) := by decide +kernel
theorem dX8_bond_2 : decode cX8_bond 2 = .ok (.invokevirtual 71, 3) := by decide +kernel
theorem dX8_bond_5 : decode cX8_bond 5 = .ok (.ifCond .eq 19, 3) := by decide +kernel
theorem dX8_bond_8 : decode cX8_bond 8 = .ok (.iload_n 2, 1) := by decide +kernel
theorem dX8_bond_9 : decode cX8_bond 9 = .ok (.invokestatic 67, 3) := by decide +kernel
theorem dX8_bond_12 : decode cX8_bond 12 = .ok (.ifCond .eq 12, 3) := by decide +kernel
theorem dX8_bond_15 : decode cX8_bond 15 = .ok (.iload_n 3, 1) := by decide +kernel
theorem dX8_bond_16 : decode cX8_bond 16 = .ok (.iconst 0, 1) := by decide +kernel
theorem dX8_bond_17 : decode cX8_bond 17 = .ok (.iconst 4, 1) := by decide +kernel
theorem dX8_bond_18 : decode cX8_bond 18 = .ok (.invokestatic 60, 3) := by decide +kernel
theorem dX8_bond_21 : decode cX8_bond 21 = .ok (.ifCond .ne 6, 3) := by decide +kernel
theorem dX8_bond_24 : decode cX8_bond 24 = .ok (.bipush (-2), 2) := by decide +kernel
theorem dX8_bond_26 : decode cX8_bond 26 = .ok (.ireturn, 1) := by decide +kernel
theorem dX8_bond_27 : decode cX8_bond 27 = .ok (.aload_n 0, 1) := by decide +kernel
theorem dX8_bond_28 : decode cX8_bond 28 = .ok (.aload_n 0, 1) := by decide +kernel
theorem dX8_bond_29 : decode cX8_bond 29 = .ok (.getfield 7, 3) := by decide +kernel
theorem dX8_bond_32 : decode cX8_bond 32 = .ok (.iload_n 1, 1) := by decide +kernel
theorem dX8_bond_33 : decode cX8_bond 33 = .ok (.invokevirtual 97, 3) := by decide +kernel
theorem dX8_bond_36 : decode cX8_bond 36 = .ok (.aload_n 0, 1) := by decide +kernel
theorem dX8_bond_37 : decode cX8_bond 37 = .ok (.iload_n 2, 1) := by decide +kernel
theorem dX8_bond_38 : decode cX8_bond 38 = .ok (.iload_n 3, 1) := by decide +kernel
theorem dX8_bond_39 : decode cX8_bond 39 = .ok (.invokevirtual 85, 3) := by decide +kernel
theorem dX8_bond_42 : decode cX8_bond 42 = .ok (.l2i, 1) := by decide +kernel
theorem dX8_bond_43 : decode cX8_bond 43 = .ok (.ireturn, 1) := by decide +kernel
set_option maxRecDepth 20000 in
theorem ggX8_tap_X8_isPlate : GoodIn wsX8_tap wsX8_isPlate := goodIn_r _ [11, 12, 13, 14, 10, 15, 19, 20, 21, 22, 23, 24, 25, 26, 27, 28, 29, 30, 31, 32, 33, 34, 35, 36, 37, 38] (by decide +kernel) (by decide +kernel)
set_option maxRecDepth 20000 in
theorem gX8_tap_X8_isPlate : GoodIn wsX8_tap (wsV RX8 71 RX8 yX8_isPlate wsX8_isPlate) := goodIn_app (goodIn_of _ (by decide +kernel)) ggX8_tap_X8_isPlate
set_option maxRecDepth 20000 in
theorem ggX8_tap_X8_isFour : GoodIn wsX8_tap wsX8_isFour := goodIn_r _ [18, 13, 14, 10, 15] (by decide +kernel) (by decide +kernel)
set_option maxRecDepth 20000 in
theorem gX8_tap_X8_isFour : GoodIn wsX8_tap (va_wsS RX8 74 yX8_isFour wsX8_isFour) := goodIn_app (goodIn_of _ (by decide +kernel)) ggX8_tap_X8_isFour
set_option maxRecDepth 20000 in
theorem ggX8_tap_X8_in : GoodIn wsX8_tap wsX8_in := goodIn_r _ [15] (by decide +kernel) (by decide +kernel)
set_option maxRecDepth 20000 in
theorem gX8_tap_X8_in : GoodIn wsX8_tap (va_wsS RX8 60 yX8_in wsX8_in) := goodIn_app (goodIn_of _ (by decide +kernel)) ggX8_tap_X8_in
theorem dX8_tap_0 : decode cX8_tap 0 = .ok (.aload_n 0, 1) := by decide +kernel
theorem dX8_tap_1 : decode cX8_tap 1 = .ok (.iload_n 1, 1) := by decide +kernel
theorem dX8_tap_2 : decode cX8_tap 2 = .ok (.invokevirtual 71, 3) := by decide +kernel
theorem dX8_tap_5 : decode cX8_tap 5 = .ok (.ifCond .eq 33, 3) := by decide +kernel
theorem dX8_tap_8 : decode cX8_tap 8 = .ok (.iload_n 2, 1) := by decide +kernel
theorem dX8_tap_9 : decode cX8_tap 9 = .ok (.invokestatic 74, 3) := by decide +kernel
theorem dX8_tap_12 : decode cX8_tap 12 = .ok (.ifCond .eq 26, 3) := by decide +kernel
theorem dX8_tap_15 : decode cX8_tap 15 = .ok (.iload_n 3, 1) := by decide +kernel
theorem dX8_tap_16 : decode cX8_tap 16 = .ok (.iconst 0, 1) := by decide +kernel
theorem dX8_tap_17 : decode cX8_tap 17 = .ok (.sipush 500, 3) := by decide +kernel
theorem dX8_tap_20 : decode cX8_tap 20 = .ok (.invokestatic 60, 3) := by decide +kernel
theorem dX8_tap_23 : decode cX8_tap 23 = .ok (.ifCond .eq 15, 3) := by decide +kernel
theorem dX8_tap_26 : decode cX8_tap 26 = .ok (.iload 4, 2) := by decide +kernel
theorem dX8_tap_28 : decode cX8_tap 28 = .ok (.iload_n 3, 1) := by decide +kernel
theorem dX8_tap_29 : decode cX8_tap 29 = .ok (.sipush 500, 3) := by decide +kernel
theorem dX8_tap_32 : decode cX8_tap 32 = .ok (.invokestatic 60, 3) := by decide +kernel
theorem dX8_tap_35 : decode cX8_tap 35 = .ok (.ifCond .ne 6, 3) := by decide +kernel
theorem dX8_tap_38 : decode cX8_tap 38 = .ok (.bipush (-2), 2) := by decide +kernel
theorem dX8_tap_40 : decode cX8_tap 40 = .ok (.ireturn, 1) := by decide +kernel
theorem dX8_tap_41 : decode cX8_tap 41 = .ok (.aload_n 0, 1) := by decide +kernel
theorem dX8_tap_42 : decode cX8_tap 42 = .ok (.getfield 104, 3) := by decide +kernel
theorem dX8_tap_45 : decode cX8_tap 45 = .ok (.bipush 12, 2) := by decide +kernel
theorem dX8_tap_47 : decode cX8_tap 47 = .ok (.if_icmp .ne 6, 3) := by decide +kernel
theorem dX8_tap_50 : decode cX8_tap 50 = .ok (.bipush (-4), 2) := by decide +kernel
theorem dX8_tap_52 : decode cX8_tap 52 = .ok (.ireturn, 1) := by decide +kernel
theorem dX8_tap_53 : decode cX8_tap 53 = .ok (.iconst 0, 1) := by decide +kernel
theorem dX8_tap_54 : decode cX8_tap 54 = .ok (.istore 5, 2) := by decide +kernel
theorem dX8_tap_56 : decode cX8_tap 56 = .ok (.iload 5, 2) := by decide +kernel
theorem dX8_tap_58 : decode cX8_tap 58 = .ok (.iconst 4, 1) := by decide +kernel
theorem dX8_tap_59 : decode cX8_tap 59 = .ok (.if_icmp .ge 34, 3) := by decide +kernel
theorem dX8_tap_62 : decode cX8_tap 62 = .ok (.aload_n 0, 1) := by decide +kernel
theorem dX8_tap_63 : decode cX8_tap 63 = .ok (.getfield 23, 3) := by decide +kernel
theorem dX8_tap_66 : decode cX8_tap 66 = .ok (.iconst 4, 1) := by decide +kernel
theorem dX8_tap_67 : decode cX8_tap 67 = .ok (.aload_n 0, 1) := by decide +kernel
theorem dX8_tap_68 : decode cX8_tap 68 = .ok (.getfield 104, 3) := by decide +kernel
theorem dX8_tap_71 : decode cX8_tap 71 = .ok (.imul, 1) := by decide +kernel
theorem dX8_tap_72 : decode cX8_tap 72 = .ok (.iload 5, 2) := by decide +kernel
theorem dX8_tap_74 : decode cX8_tap 74 = .ok (.iadd, 1) := by decide +kernel
theorem dX8_tap_75 : decode cX8_tap 75 = .ok (.aload_n 0, 1) := by decide +kernel
theorem dX8_tap_76 : decode cX8_tap 76 = .ok (.getfield 7, 3) := by decide +kernel
theorem dX8_tap_79 : decode cX8_tap 79 = .ok (.iconst 4, 1) := by decide +kernel
theorem dX8_tap_80 : decode cX8_tap 80 = .ok (.iload_n 1, 1) := by decide +kernel
theorem dX8_tap_81 : decode cX8_tap 81 = .ok (.imul, 1) := by decide +kernel
theorem dX8_tap_82 : decode cX8_tap 82 = .ok (.iload 5, 2) := by decide +kernel
theorem dX8_tap_84 : decode cX8_tap 84 = .ok (.iadd, 1) := by decide +kernel
theorem dX8_tap_85 : decode cX8_tap 85 = .ok (.iaload, 1) := by decide +kernel
theorem dX8_tap_86 : decode cX8_tap 86 = .ok (.iastore, 1) := by decide +kernel
theorem dX8_tap_87 : decode cX8_tap 87 = .ok (.iinc 5 1, 3) := by decide +kernel
theorem dX8_tap_90 : decode cX8_tap 90 = .ok (.goto (-34), 3) := by decide +kernel
theorem dX8_tap_93 : decode cX8_tap 93 = .ok (.aload_n 0, 1) := by decide +kernel
theorem dX8_tap_94 : decode cX8_tap 94 = .ok (.getfield 26, 3) := by decide +kernel
theorem dX8_tap_97 : decode cX8_tap 97 = .ok (.aload_n 0, 1) := by decide +kernel
theorem dX8_tap_98 : decode cX8_tap 98 = .ok (.getfield 104, 3) := by decide +kernel
theorem dX8_tap_101 : decode cX8_tap 101 = .ok (.iload_n 2, 1) := by decide +kernel
theorem dX8_tap_102 : decode cX8_tap 102 = .ok (.iastore, 1) := by decide +kernel
theorem dX8_tap_103 : decode cX8_tap 103 = .ok (.aload_n 0, 1) := by decide +kernel
theorem dX8_tap_104 : decode cX8_tap 104 = .ok (.getfield 29, 3) := by decide +kernel
theorem dX8_tap_107 : decode cX8_tap 107 = .ok (.aload_n 0, 1) := by decide +kernel
theorem dX8_tap_108 : decode cX8_tap 108 = .ok (.getfield 104, 3) := by decide +kernel
theorem dX8_tap_111 : decode cX8_tap 111 = .ok (.iload_n 3, 1) := by decide +kernel
theorem dX8_tap_112 : decode cX8_tap 112 = .ok (.iastore, 1) := by decide +kernel
theorem dX8_tap_113 : decode cX8_tap 113 = .ok (.aload_n 0, 1) := by decide +kernel
theorem dX8_tap_114 : decode cX8_tap 114 = .ok (.getfield 32, 3) := by decide +kernel
theorem dX8_tap_117 : decode cX8_tap 117 = .ok (.aload_n 0, 1) := by decide +kernel
theorem dX8_tap_118 : decode cX8_tap 118 = .ok (.getfield 104, 3) := by decide +kernel
theorem dX8_tap_121 : decode cX8_tap 121 = .ok (.iload 4, 2) := by decide +kernel
theorem dX8_tap_123 : decode cX8_tap 123 = .ok (.iastore, 1) := by decide +kernel
theorem dX8_tap_124 : decode cX8_tap 124 = .ok (.aload_n 0, 1) := by decide +kernel
theorem dX8_tap_125 : decode cX8_tap 125 = .ok (.dup, 1) := by decide +kernel
theorem dX8_tap_126 : decode cX8_tap 126 = .ok (.getfield 104, 3) := by decide +kernel
theorem dX8_tap_129 : decode cX8_tap 129 = .ok (.iconst 1, 1) := by decide +kernel
theorem dX8_tap_130 : decode cX8_tap 130 = .ok (.iadd, 1) := by decide +kernel
theorem dX8_tap_131 : decode cX8_tap 131 = .ok (.putfield 104, 3) := by decide +kernel
theorem dX8_tap_134 : decode cX8_tap 134 = .ok (.aload_n 0, 1) := by decide +kernel
theorem dX8_tap_135 : decode cX8_tap 135 = .ok (.getfield 104, 3) := by decide +kernel
theorem dX8_tap_138 : decode cX8_tap 138 = .ok (.iconst 1, 1) := by decide +kernel
theorem dX8_tap_139 : decode cX8_tap 139 = .ok (.isub, 1) := by decide +kernel
theorem dX8_tap_140 : decode cX8_tap 140 = .ok (.ireturn, 1) := by decide +kernel
set_option maxRecDepth 20000 in
theorem ggX8_untap_X8_in : GoodIn wsX8_untap wsX8_in := goodIn_r _ [9] (by decide +kernel) (by decide +kernel)
set_option maxRecDepth 20000 in
theorem gX8_untap_X8_in : GoodIn wsX8_untap (va_wsS RX8 60 yX8_in wsX8_in) := goodIn_app (goodIn_of _ (by decide +kernel)) ggX8_untap_X8_in
theorem dX8_untap_0 : decode cX8_untap 0 = .ok (.iload_n 1, 1) := by decide +kernel
theorem dX8_untap_1 : decode cX8_untap 1 = .ok (.iconst 0, 1) := by decide +kernel
theorem dX8_untap_2 : decode cX8_untap 2 = .ok (.aload_n 0, 1) := by decide +kernel
theorem dX8_untap_3 : decode cX8_untap 3 = .ok (.getfield 104, 3) := by decide +kernel
theorem dX8_untap_6 : decode cX8_untap 6 = .ok (.iconst 1, 1) := by decide +kernel
theorem dX8_untap_7 : decode cX8_untap 7 = .ok (.isub, 1) := by decide +kernel
theorem dX8_untap_8 : decode cX8_untap 8 = .ok (.invokestatic 60, 3) := by decide +kernel
theorem dX8_untap_11 : decode cX8_untap 11 = .ok (.ifCond .ne 6, 3) := by decide +kernel
theorem dX8_untap_14 : decode cX8_untap 14 = .ok (.bipush (-2), 2) := by decide +kernel
theorem dX8_untap_16 : decode cX8_untap 16 = .ok (.ireturn, 1) := by decide +kernel
theorem dX8_untap_17 : decode cX8_untap 17 = .ok (.aload_n 0, 1) := by decide +kernel
theorem dX8_untap_18 : decode cX8_untap 18 = .ok (.dup, 1) := by decide +kernel
theorem dX8_untap_19 : decode cX8_untap 19 = .ok (.getfield 104, 3) := by decide +kernel
theorem dX8_untap_22 : decode cX8_untap 22 = .ok (.iconst 1, 1) := by decide +kernel
theorem dX8_untap_23 : decode cX8_untap 23 = .ok (.isub, 1) := by decide +kernel
theorem dX8_untap_24 : decode cX8_untap 24 = .ok (.putfield 104, 3) := by decide +kernel
theorem dX8_untap_27 : decode cX8_untap 27 = .ok (.iload_n 1, 1) := by decide +kernel
theorem dX8_untap_28 : decode cX8_untap 28 = .ok (.istore_n 2, 1) := by decide +kernel
theorem dX8_untap_29 : decode cX8_untap 29 = .ok (.iload_n 2, 1) := by decide +kernel
theorem dX8_untap_30 : decode cX8_untap 30 = .ok (.aload_n 0, 1) := by decide +kernel
theorem dX8_untap_31 : decode cX8_untap 31 = .ok (.getfield 104, 3) := by decide +kernel
theorem dX8_untap_34 : decode cX8_untap 34 = .ok (.if_icmp .ge 86, 3) := by decide +kernel
theorem dX8_untap_37 : decode cX8_untap 37 = .ok (.iconst 0, 1) := by decide +kernel
theorem dX8_untap_38 : decode cX8_untap 38 = .ok (.istore_n 3, 1) := by decide +kernel
theorem dX8_untap_39 : decode cX8_untap 39 = .ok (.iload_n 3, 1) := by decide +kernel
theorem dX8_untap_40 : decode cX8_untap 40 = .ok (.iconst 4, 1) := by decide +kernel
theorem dX8_untap_41 : decode cX8_untap 41 = .ok (.if_icmp .ge 31, 3) := by decide +kernel
theorem dX8_untap_44 : decode cX8_untap 44 = .ok (.aload_n 0, 1) := by decide +kernel
theorem dX8_untap_45 : decode cX8_untap 45 = .ok (.getfield 23, 3) := by decide +kernel
theorem dX8_untap_48 : decode cX8_untap 48 = .ok (.iconst 4, 1) := by decide +kernel
theorem dX8_untap_49 : decode cX8_untap 49 = .ok (.iload_n 2, 1) := by decide +kernel
theorem dX8_untap_50 : decode cX8_untap 50 = .ok (.imul, 1) := by decide +kernel
theorem dX8_untap_51 : decode cX8_untap 51 = .ok (.iload_n 3, 1) := by decide +kernel
theorem dX8_untap_52 : decode cX8_untap 52 = .ok (.iadd, 1) := by decide +kernel
theorem dX8_untap_53 : decode cX8_untap 53 = .ok (.aload_n 0, 1) := by decide +kernel
theorem dX8_untap_54 : decode cX8_untap 54 = .ok (.getfield 23, 3) := by decide +kernel
theorem dX8_untap_57 : decode cX8_untap 57 = .ok (.iconst 4, 1) := by decide +kernel
theorem dX8_untap_58 : decode cX8_untap 58 = .ok (.iload_n 2, 1) := by decide +kernel
theorem dX8_untap_59 : decode cX8_untap 59 = .ok (.imul, 1) := by decide +kernel
theorem dX8_untap_60 : decode cX8_untap 60 = .ok (.iconst 4, 1) := by decide +kernel
theorem dX8_untap_61 : decode cX8_untap 61 = .ok (.iadd, 1) := by decide +kernel
theorem dX8_untap_62 : decode cX8_untap 62 = .ok (.iload_n 3, 1) := by decide +kernel
theorem dX8_untap_63 : decode cX8_untap 63 = .ok (.iadd, 1) := by decide +kernel
theorem dX8_untap_64 : decode cX8_untap 64 = .ok (.iaload, 1) := by decide +kernel
