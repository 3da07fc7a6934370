theorem dX7_init_98 : decode cX7_init 98 = .ok (.iload_n 1, 1) := by decide +kernel
theorem dX7_init_99 : decode cX7_init 99 = .ok (.new 9, 3) := by decide +kernel
theorem dX7_init_102 : decode cX7_init 102 = .ok (.dup, 1) := by decide +kernel
theorem dX7_init_103 : decode cX7_init 103 = .ok (.invokespecial 60, 3) := by decide +kernel
theorem dX7_init_106 : decode cX7_init 106 = .ok (.aastore, 1) := by decide +kernel
theorem dX7_init_107 : decode cX7_init 107 = .ok (.iinc 1 1, 3) := by decide +kernel
theorem dX7_init_110 : decode cX7_init 110 = .ok (.goto (-21), 3) := by decide +kernel
theorem dX7_init_113 : decode cX7_init 113 = .ok (.return_, 1) := by decide +kernel
set_option maxRecDepth 20000 in
theorem ggX7_plate_X7_isThickness : GoodIn wsX7_plate wsX7_isThickness := goodIn_r _ [6] (by decide +kernel) (by decide +kernel)
set_option maxRecDepth 20000 in
theorem gX7_plate_X7_isThickness : GoodIn wsX7_plate (va_wsS RX7 61 yX7_isThickness wsX7_isThickness) := goodIn_app (goodIn_of _ (by decide +kernel)) ggX7_plate_X7_isThickness
set_option maxRecDepth 20000 in
theorem ggX7_plate_X4_lay : GoodIn wsX7_plate wsX4_lay := goodIn_r _ [11, 12, 23, 24, 25] (by decide +kernel) (by decide +kernel)
set_option maxRecDepth 20000 in
theorem gX7_plate_X4_lay : GoodIn wsX7_plate (wsV RX7 65 RX4 yX4_lay wsX4_lay) := goodIn_app (goodIn_of _ (by decide +kernel)) ggX7_plate_X4_lay
theorem dX7_plate_0 : decode cX7_plate 0 = .ok (.iload_n 1, 1) := by decide +kernel
theorem dX7_plate_1 : decode cX7_plate 1 = .ok (.invokestatic 61, 3) := by decide +kernel
theorem dX7_plate_4 : decode cX7_plate 4 = .ok (.ifCond .eq 25, 3) := by decide +kernel
theorem dX7_plate_7 : decode cX7_plate 7 = .ok (.iload_n 2, 1) := by decide +kernel
theorem dX7_plate_8 : decode cX7_plate 8 = .ok (.invokestatic 61, 3) := by decide +kernel
theorem dX7_plate_11 : decode cX7_plate 11 = .ok (.ifCond .eq 18, 3) := by decide +kernel
theorem dX7_plate_14 : decode cX7_plate 14 = .ok (.iload_n 3, 1) := by decide +kernel
theorem dX7_plate_15 : decode cX7_plate 15 = .ok (.invokestatic 61, 3) := by decide +kernel
theorem dX7_plate_18 : decode cX7_plate 18 = .ok (.ifCond .eq 11, 3) := by decide +kernel
theorem dX7_plate_21 : decode cX7_plate 21 = .ok (.iload 4, 2) := by decide +kernel
theorem dX7_plate_23 : decode cX7_plate 23 = .ok (.invokestatic 61, 3) := by decide +kernel
theorem dX7_plate_26 : decode cX7_plate 26 = .ok (.ifCond .ne 6, 3) := by decide +kernel
theorem dX7_plate_29 : decode cX7_plate 29 = .ok (.bipush (-2), 2) := by decide +kernel
theorem dX7_plate_31 : decode cX7_plate 31 = .ok (.ireturn, 1) := by decide +kernel
theorem dX7_plate_32 : decode cX7_plate 32 = .ok (.aload_n 0, 1) := by decide +kernel
theorem dX7_plate_33 : decode cX7_plate 33 = .ok (.getfield 50, 3) := by decide +kernel
theorem dX7_plate_36 : decode cX7_plate 36 = .ok (.iconst 4, 1) := by decide +kernel
theorem dX7_plate_37 : decode cX7_plate 37 = .ok (.if_icmp .lt 6, 3) := by decide +kernel
theorem dX7_plate_40 : decode cX7_plate 40 = .ok (.bipush (-4), 2) := by decide +kernel
theorem dX7_plate_42 : decode cX7_plate 42 = .ok (.ireturn, 1) := by decide +kernel
theorem dX7_plate_43 : decode cX7_plate 43 = .ok (.aload_n 0, 1) := by decide +kernel
theorem dX7_plate_44 : decode cX7_plate 44 = .ok (.getfield 11, 3) := by decide +kernel
theorem dX7_plate_47 : decode cX7_plate 47 = .ok (.aload_n 0, 1) := by decide +kernel
theorem dX7_plate_48 : decode cX7_plate 48 = .ok (.getfield 50, 3) := by decide +kernel
theorem dX7_plate_51 : decode cX7_plate 51 = .ok (.aaload, 1) := by decide +kernel
theorem dX7_plate_52 : decode cX7_plate 52 = .ok (.iload_n 1, 1) := by decide +kernel
theorem dX7_plate_53 : decode cX7_plate 53 = .ok (.iload_n 2, 1) := by decide +kernel
theorem dX7_plate_54 : decode cX7_plate 54 = .ok (.iload_n 3, 1) := by decide +kernel
theorem dX7_plate_55 : decode cX7_plate 55 = .ok (.iload 4, 2) := by decide +kernel
theorem dX7_plate_57 : decode cX7_plate 57 = .ok (.invokevirtual 65, 3) := by decide +kernel
theorem dX7_plate_60 : decode cX7_plate 60 = .ok (.aload_n 0, 1) := by decide +kernel
theorem dX7_plate_61 : decode cX7_plate 61 = .ok (.dup, 1) := by decide +kernel
theorem dX7_plate_62 : decode cX7_plate 62 = .ok (.getfield 50, 3) := by decide +kernel
theorem dX7_plate_65 : decode cX7_plate 65 = .ok (.iconst 1, 1) := by decide +kernel
theorem dX7_plate_66 : decode cX7_plate 66 = .ok (.iadd, 1) := by decide +kernel
theorem dX7_plate_67 : decode cX7_plate 67 = .ok (.putfield 50, 3) := by decide +kernel
theorem dX7_plate_70 : decode cX7_plate 70 = .ok (.aload_n 0, 1) := by decide +kernel
theorem dX7_plate_71 : decode cX7_plate 71 = .ok (.getfield 50, 3) := by decide +kernel
theorem dX7_plate_74 : decode cX7_plate 74 = .ok (.iconst 1, 1) := by decide +kernel
theorem dX7_plate_75 : decode cX7_plate 75 = .ok (.isub, 1) := by decide +kernel
theorem dX7_plate_76 : decode cX7_plate 76 = .ok (.ireturn, 1) := by decide +kernel
set_option maxRecDepth 20000 in
theorem ggX7_thick_X7_isPlate : GoodIn wsX7_thick wsX7_isPlate := goodIn_r _ [7, 8, 12, 13, 14, 15, 16, 17, 18, 19, 20, 21] (by decide +kernel) (by decide +kernel)
set_option maxRecDepth 20000 in
theorem gX7_thick_X7_isPlate : GoodIn wsX7_thick (wsV RX7 69 RX7 yX7_isPlate wsX7_isPlate) := goodIn_app (goodIn_of _ (by decide +kernel)) ggX7_thick_X7_isPlate
set_option maxRecDepth 20000 in
theorem ggX7_thick_X7_isStrip : GoodIn wsX7_thick wsX7_isStrip := goodIn_r _ [11] (by decide +kernel) (by decide +kernel)
set_option maxRecDepth 20000 in
theorem gX7_thick_X7_isStrip : GoodIn wsX7_thick (va_wsS RX7 72 yX7_isStrip wsX7_isStrip) := goodIn_app (goodIn_of _ (by decide +kernel)) ggX7_thick_X7_isStrip
theorem dX7_thick_0 : decode cX7_thick 0 = .ok (.aload_n 0, 1) := by decide +kernel
theorem dX7_thick_1 : decode cX7_thick 1 = .ok (.iload_n 1, 1) := by decide +kernel
theorem dX7_thick_2 : decode cX7_thick 2 = .ok (.invokevirtual 69, 3) := by decide +kernel
theorem dX7_thick_5 : decode cX7_thick 5 = .ok (.ifCond .eq 10, 3) := by decide +kernel
theorem dX7_thick_8 : decode cX7_thick 8 = .ok (.iload_n 2, 1) := by decide +kernel
theorem dX7_thick_9 : decode cX7_thick 9 = .ok (.invokestatic 72, 3) := by decide +kernel
theorem dX7_thick_12 : decode cX7_thick 12 = .ok (.ifCond .ne 6, 3) := by decide +kernel
theorem dX7_thick_15 : decode cX7_thick 15 = .ok (.bipush (-2), 2) := by decide +kernel
theorem dX7_thick_17 : decode cX7_thick 17 = .ok (.ireturn, 1) := by decide +kernel
theorem dX7_thick_18 : decode cX7_thick 18 = .ok (.aload_n 0, 1) := by decide +kernel
theorem dX7_thick_19 : decode cX7_thick 19 = .ok (.getfield 11, 3) := by decide +kernel
theorem dX7_thick_22 : decode cX7_thick 22 = .ok (.iload_n 1, 1) := by decide +kernel
theorem dX7_thick_23 : decode cX7_thick 23 = .ok (.aaload, 1) := by decide +kernel
theorem dX7_thick_24 : decode cX7_thick 24 = .ok (.getfield 75, 3) := by decide +kernel
theorem dX7_thick_27 : decode cX7_thick 27 = .ok (.iload_n 2, 1) := by decide +kernel
theorem dX7_thick_28 : decode cX7_thick 28 = .ok (.iaload, 1) := by decide +kernel
theorem dX7_thick_29 : decode cX7_thick 29 = .ok (.ireturn, 1) := by decide +kernel
set_option maxRecDepth 20000 in
theorem ggX7_least_X7_isThickness : GoodIn wsX7_least wsX7_isThickness := goodIn_r _ [6] (by decide +kernel) (by decide +kernel)
set_option maxRecDepth 20000 in
theorem gX7_least_X7_isThickness : GoodIn wsX7_least (va_wsS RX7 61 yX7_isThickness wsX7_isThickness) := goodIn_app (goodIn_of _ (by decide +kernel)) ggX7_least_X7_isThickness
set_option maxRecDepth 20000 in
theorem ggX7_least_X3_forget : GoodIn wsX7_least wsX3_forget := goodIn_r _ [11, 12, 23, 24, 25, 26, 27] (by decide +kernel) (by decide +kernel)
set_option maxRecDepth 20000 in
theorem gX7_least_X3_forget : GoodIn wsX7_least (wsV RX7 78 RX3 yX3_forget wsX3_forget) := goodIn_app (goodIn_of _ (by decide +kernel)) ggX7_least_X3_forget
theorem dX7_least_0 : decode cX7_least 0 = .ok (.iload_n 1, 1) := by decide +kernel
theorem dX7_least_1 : decode cX7_least 1 = .ok (.invokestatic 61, 3) := by decide +kernel
theorem dX7_least_4 : decode cX7_least 4 = .ok (.ifCond .ne 6, 3) := by decide +kernel
theorem dX7_least_7 : decode cX7_least 7 = .ok (.bipush (-2), 2) := by decide +kernel
theorem dX7_least_9 : decode cX7_least 9 = .ok (.ireturn, 1) := by decide +kernel
theorem dX7_least_10 : decode cX7_least 10 = .ok (.aload_n 0, 1) := by decide +kernel
theorem dX7_least_11 : decode cX7_least 11 = .ok (.getfield 54, 3) := by decide +kernel
theorem dX7_least_14 : decode cX7_least 14 = .ok (.istore_n 2, 1) := by decide +kernel
theorem dX7_least_15 : decode cX7_least 15 = .ok (.aload_n 0, 1) := by decide +kernel
theorem dX7_least_16 : decode cX7_least 16 = .ok (.iload_n 1, 1) := by decide +kernel
theorem dX7_least_17 : decode cX7_least 17 = .ok (.putfield 54, 3) := by decide +kernel
theorem dX7_least_20 : decode cX7_least 20 = .ok (.aload_n 0, 1) := by decide +kernel
theorem dX7_least_21 : decode cX7_least 21 = .ok (.getfield 32, 3) := by decide +kernel
theorem dX7_least_24 : decode cX7_least 24 = .ok (.invokevirtual 78, 3) := by decide +kernel
theorem dX7_least_27 : decode cX7_least 27 = .ok (.iload_n 2, 1) := by decide +kernel
theorem dX7_least_28 : decode cX7_least 28 = .ok (.ireturn, 1) := by decide +kernel
set_option maxRecDepth 20000 in
theorem ggX7_shave_X7_isPlate : GoodIn wsX7_shave wsX7_isPlate := goodIn_r _ [10, 11, 29, 30, 31, 32, 33, 34, 35, 36, 37, 38] (by decide +kernel) (by decide +kernel)
set_option maxRecDepth 20000 in
theorem gX7_shave_X7_isPlate : GoodIn wsX7_shave (wsV RX7 69 RX7 yX7_isPlate wsX7_isPlate) := goodIn_app (goodIn_of _ (by decide +kernel)) ggX7_shave_X7_isPlate
set_option maxRecDepth 20000 in
theorem ggX7_shave_X7_isStrip : GoodIn wsX7_shave wsX7_isStrip := goodIn_r _ [14] (by decide +kernel) (by decide +kernel)
set_option maxRecDepth 20000 in
theorem gX7_shave_X7_isStrip : GoodIn wsX7_shave (va_wsS RX7 72 yX7_isStrip wsX7_isStrip) := goodIn_app (goodIn_of _ (by decide +kernel)) ggX7_shave_X7_isStrip
set_option maxRecDepth 20000 in
theorem ggX7_shave_X4_takeOff : GoodIn wsX7_shave wsX4_takeOff := goodIn_r _ [19, 20, 21, 22, 13, 9, 14, 39, 40, 41] (by decide +kernel) (by decide +kernel)
set_option maxRecDepth 20000 in
theorem gX7_shave_X4_takeOff : GoodIn wsX7_shave (wsV RX7 84 RX4 yX4_takeOff wsX4_takeOff) := goodIn_app (goodIn_of _ (by decide +kernel)) ggX7_shave_X4_takeOff
set_option maxRecDepth 20000 in
theorem ggX7_shave_X3_forget : GoodIn wsX7_shave wsX3_forget := goodIn_r _ [27, 28, 42, 43, 44, 45, 46] (by decide +kernel) (by decide +kernel)
set_option maxRecDepth 20000 in
theorem gX7_shave_X3_forget : GoodIn wsX7_shave (wsV RX7 78 RX3 yX3_forget wsX3_forget) := goodIn_app (goodIn_of _ (by decide +kernel)) ggX7_shave_X3_forget
theorem dX7_shave_0 : decode cX7_shave 0 = .ok (.aload_n 0, 1) := by decide +kernel
theorem dX7_shave_1 : decode cX7_shave 1 = .ok (.iload_n 1, 1) := by decide +kernel
theorem dX7_shave_2 : decode cX7_shave 2 = .ok (.invokevirtual 69, 3) := by decide +kernel
theorem dX7_shave_5 : decode cX7_shave 5 = .ok (.ifCond .eq 10, 3) := by decide +kernel
theorem dX7_shave_8 : decode cX7_shave 8 = .ok (.iload_n 2, 1) := by decide +kernel
theorem dX7_shave_9 : decode cX7_shave 9 = .ok (.invokestatic 72, 3) := by decide +kernel
theorem dX7_shave_12 : decode cX7_shave 12 = .ok (.ifCond .ne 6, 3) := by decide +kernel
theorem dX7_shave_15 : decode cX7_shave 15 = .ok (.bipush (-2), 2) := by decide +kernel
theorem dX7_shave_17 : decode cX7_shave 17 = .ok (.ireturn, 1) := by decide +kernel
theorem dX7_shave_18 : decode cX7_shave 18 = .ok (.aload_n 0, 1) := by decide +kernel
theorem dX7_shave_19 : decode cX7_shave 19 = .ok (.getfield 11, 3) := by decide +kernel
theorem dX7_shave_22 : decode cX7_shave 22 = .ok (.iload_n 1, 1) := by decide +kernel
theorem dX7_shave_23 : decode cX7_shave 23 = .ok (.aaload, 1) := by decide +kernel
theorem dX7_shave_24 : decode cX7_shave 24 = .ok (.astore_n 3, 1) := by decide +kernel
theorem dX7_shave_25 : decode cX7_shave 25 = .ok (.aload_n 3, 1) := by decide +kernel
theorem dX7_shave_26 : decode cX7_shave 26 = .ok (.getfield 75, 3) := by decide +kernel
theorem dX7_shave_29 : decode cX7_shave 29 = .ok (.iload_n 2, 1) := by decide +kernel
theorem dX7_shave_30 : decode cX7_shave 30 = .ok (.iaload, 1) := by decide +kernel
theorem dX7_shave_31 : decode cX7_shave 31 = .ok (.aload_n 0, 1) := by decide +kernel
theorem dX7_shave_32 : decode cX7_shave 32 = .ok (.getfield 54, 3) := by decide +kernel
theorem dX7_shave_35 : decode cX7_shave 35 = .ok (.if_icmp .gt 6, 3) := by decide +kernel
theorem dX7_shave_38 : decode cX7_shave 38 = .ok (.bipush (-3), 2) := by decide +kernel
theorem dX7_shave_40 : decode cX7_shave 40 = .ok (.ireturn, 1) := by decide +kernel
theorem dX7_shave_41 : decode cX7_shave 41 = .ok (.aload_n 3, 1) := by decide +kernel
theorem dX7_shave_42 : decode cX7_shave 42 = .ok (.getfield 81, 3) := by decide +kernel
theorem dX7_shave_45 : decode cX7_shave 45 = .ok (.bipush 20, 2) := by decide +kernel
theorem dX7_shave_47 : decode cX7_shave 47 = .ok (.if_icmp .lt 6, 3) := by decide +kernel
theorem dX7_shave_50 : decode cX7_shave 50 = .ok (.bipush (-4), 2) := by decide +kernel
theorem dX7_shave_52 : decode cX7_shave 52 = .ok (.ireturn, 1) := by decide +kernel
theorem dX7_shave_53 : decode cX7_shave 53 = .ok (.aload_n 3, 1) := by decide +kernel
theorem dX7_shave_54 : decode cX7_shave 54 = .ok (.iload_n 2, 1) := by decide +kernel
theorem dX7_shave_55 : decode cX7_shave 55 = .ok (.invokevirtual 84, 3) := by decide +kernel
theorem dX7_shave_58 : decode cX7_shave 58 = .ok (.aload_n 0, 1) := by decide +kernel
theorem dX7_shave_59 : decode cX7_shave 59 = .ok (.getfield 32, 3) := by decide +kernel
theorem dX7_shave_62 : decode cX7_shave 62 = .ok (.invokevirtual 78, 3) := by decide +kernel
theorem dX7_shave_65 : decode cX7_shave 65 = .ok (.aload_n 3, 1) := by decide +kernel
theorem dX7_shave_66 : decode cX7_shave 66 = .ok (.getfield 75, 3) := by decide +kernel
theorem dX7_shave_69 : decode cX7_shave 69 = .ok (.iload_n 2, 1) := by decide +kernel
theorem dX7_shave_70 : decode cX7_shave 70 = .ok (.iaload, 1) := by decide +kernel
theorem dX7_shave_71 : decode cX7_shave 71 = .ok (.ireturn, 1) := by decide +kernel
set_option maxRecDepth 20000 in
theorem ggX7_undo_X7_isPlate : GoodIn wsX7_undo wsX7_isPlate := goodIn_r _ [8, 9, 24, 25, 26, 27, 28, 29, 30, 31, 32, 33] (by decide +kernel) (by decide +kernel)
set_option maxRecDepth 20000 in
theorem gX7_undo_X7_isPlate : GoodIn wsX7_undo (wsV RX7 69 RX7 yX7_isPlate wsX7_isPlate) := goodIn_app (goodIn_of _ (by decide +kernel)) ggX7_undo_X7_isPlate
set_option maxRecDepth 20000 in
theorem ggX7_undo_X3_forget : GoodIn wsX7_undo wsX3_forget := goodIn_r _ [14, 15, 37, 38, 39, 40, 41] (by decide +kernel) (by decide +kernel)
set_option maxRecDepth 20000 in
theorem gX7_undo_X3_forget : GoodIn wsX7_undo (wsV RX7 78 RX3 yX3_forget wsX3_forget) := goodIn_app (goodIn_of _ (by decide +kernel)) ggX7_undo_X3_forget
set_option maxRecDepth 20000 in
theorem ggX7_undo_X4_putBack : GoodIn wsX7_undo wsX4_putBack := goodIn_r _ [20, 21, 22, 23, 34, 35, 36] (by decide +kernel) (by decide +kernel)
set_option maxRecDepth 20000 in
theorem gX7_undo_X4_putBack : GoodIn wsX7_undo (wsV RX7 88 RX4 yX4_putBack wsX4_putBack) := goodIn_app (goodIn_of _ (by decide +kernel)) ggX7_undo_X4_putBack
theorem dX7_undo_0 : decode cX7_undo 0 = .ok (.aload_n 0, 1) := by decide +kernel
theorem dX7_undo_1 : decode cX7_undo 1 = .ok (.iload_n 1, 1) := by decide +kernel
theorem dX7_undo_2 : decode cX7_undo 2 = .ok (.invokevirtual 69, 3) := by decide +kernel
theorem dX7_undo_5 : decode cX7_undo 5 = .ok (.ifCond .ne 6, 3) := by decide +kernel
theorem dX7_undo_8 : decode cX7_undo 8 = .ok (.bipush (-2), 2) := by decide +kernel
theorem dX7_undo_10 : decode cX7_undo 10 = .ok (.ireturn, 1) := by decide +kernel
theorem dX7_undo_11 : decode cX7_undo 11 = .ok (.aload_n 0, 1) := by decide +kernel
theorem dX7_undo_12 : decode cX7_undo 12 = .ok (.getfield 11, 3) := by decide +kernel
theorem dX7_undo_15 : decode cX7_undo 15 = .ok (.iload_n 1, 1) := by decide +kernel
theorem dX7_undo_16 : decode cX7_undo 16 = .ok (.aaload, 1) := by decide +kernel
theorem dX7_undo_17 : decode cX7_undo 17 = .ok (.getfield 81, 3) := by decide +kernel
theorem dX7_undo_20 : decode cX7_undo 20 = .ok (.ifCond .gt 6, 3) := by decide +kernel
theorem dX7_undo_23 : decode cX7_undo 23 = .ok (.bipush (-3), 2) := by decide +kernel
theorem dX7_undo_25 : decode cX7_undo 25 = .ok (.ireturn, 1) := by decide +kernel
theorem dX7_undo_26 : decode cX7_undo 26 = .ok (.aload_n 0, 1) := by decide +kernel
theorem dX7_undo_27 : decode cX7_undo 27 = .ok (.getfield 32, 3) := by decide +kernel
theorem dX7_undo_30 : decode cX7_undo 30 = .ok (.invokevirtual 78, 3) := by decide +kernel
theorem dX7_undo_33 : decode cX7_undo 33 = .ok (.aload_n 0, 1) := by decide +kernel
theorem dX7_undo_34 : decode cX7_undo 34 = .ok (.getfield 11, 3) := by decide +kernel
theorem dX7_undo_37 : decode cX7_undo 37 = .ok (.iload_n 1, 1) := by decide +kernel
theorem dX7_undo_38 : decode cX7_undo 38 = .ok (.aaload, 1) := by decide +kernel
theorem dX7_undo_39 : decode cX7_undo 39 = .ok (.invokevirtual 88, 3) := by decide +kernel
theorem dX7_undo_42 : decode cX7_undo 42 = .ok (.ireturn, 1) := by decide +kernel
set_option maxRecDepth 20000 in
theorem ggX7_mirror_X7_isPlate : GoodIn wsX7_mirror wsX7_isPlate := goodIn_r _ [7, 8, 26, 27, 28, 29, 30, 31, 32, 33, 34, 35] (by decide +kernel) (by decide +kernel)
set_option maxRecDepth 20000 in
theorem gX7_mirror_X7_isPlate : GoodIn wsX7_mirror (wsV RX7 69 RX7 yX7_isPlate wsX7_isPlate) := goodIn_app (goodIn_of _ (by decide +kernel)) ggX7_mirror_X7_isPlate
set_option maxRecDepth 20000 in
theorem ggX7_mirror_X4_turn : GoodIn wsX7_mirror wsX4_turn := goodIn_r _ [13, 14, 15, 16, 17, 18, 12, 19, 36, 37, 38] (by decide +kernel) (by decide +kernel)
set_option maxRecDepth 20000 in
theorem gX7_mirror_X4_turn : GoodIn wsX7_mirror (wsV RX7 92 RX4 yX4_turn wsX4_turn) := goodIn_app (goodIn_of _ (by decide +kernel)) ggX7_mirror_X4_turn
set_option maxRecDepth 20000 in
theorem ggX7_mirror_X3_forget : GoodIn wsX7_mirror wsX3_forget := goodIn_r _ [24, 25, 39, 40, 41, 42, 43] (by decide +kernel) (by decide +kernel)
set_option maxRecDepth 20000 in
theorem gX7_mirror_X3_forget : GoodIn wsX7_mirror (wsV RX7 78 RX3 yX3_forget wsX3_forget) := goodIn_app (goodIn_of _ (by decide +kernel)) ggX7_mirror_X3_forget
theorem dX7_mirror_0 : decode cX7_mirror 0 = .ok (.aload_n 0, 1) := by decide +kernel
theorem dX7_mirror_1 : decode cX7_mirror 1 = .ok (.iload_n 1, 1) := by decide +kernel
theorem dX7_mirror_2 : decode cX7_mirror 2 = .ok (.invokevirtual 69, 3) := by decide +kernel
theorem dX7_mirror_5 : decode cX7_mirror 5 = .ok (.ifCond .ne 6, 3) := by decide +kernel
theorem dX7_mirror_8 : decode cX7_mirror 8 = .ok (.bipush (-2), 2) := by decide +kernel
theorem dX7_mirror_10 : decode cX7_mirror 10 = .ok (.ireturn, 1) := by decide +kernel
theorem dX7_mirror_11 : decode cX7_mirror 11 = .ok (.aload_n 0, 1) := by decide +kernel
theorem dX7_mirror_12 : decode cX7_mirror 12 = .ok (.getfield 11, 3) := by decide +kernel
theorem dX7_mirror_15 : decode cX7_mirror 15 = .ok (.iload_n 1, 1) := by decide +kernel
theorem dX7_mirror_16 : decode cX7_mirror 16 = .ok (.aaload, 1) := by decide +kernel
theorem dX7_mirror_17 : decode cX7_mirror 17 = .ok (.invokevirtual 92, 3) := by decide +kernel
theorem dX7_mirror_20 : decode cX7_mirror 20 = .ok (.aload_n 0, 1) := by decide +kernel
theorem dX7_mirror_21 : decode cX7_mirror 21 = .ok (.getfield 32, 3) := by decide +kernel
theorem dX7_mirror_24 : decode cX7_mirror 24 = .ok (.invokevirtual 78, 3) := by decide +kernel
theorem dX7_mirror_27 : decode cX7_mirror 27 = .ok (.iconst 1, 1) := by decide +kernel
theorem dX7_mirror_28 : decode cX7_mirror 28 = .ok (.ireturn, 1) := by decide +kernel
set_option maxRecDepth 20000 in
theorem ggX7_tone_X7_isPlate : GoodIn wsX7_tone wsX7_isPlate := goodIn_r _ [7, 8, 28, 29, 30, 31, 32, 33, 34, 35, 36, 37] (by decide +kernel) (by decide +kernel)
set_option maxRecDepth 20000 in
theorem gX7_tone_X7_isPlate : GoodIn wsX7_tone (wsV RX7 69 RX7 yX7_isPlate wsX7_isPlate) := goodIn_app (goodIn_of _ (by decide +kernel)) ggX7_tone_X7_isPlate
set_option maxRecDepth 20000 in
theorem ggX7_tone_X7_isWood : GoodIn wsX7_tone wsX7_isWood := goodIn_r _ [11] (by decide +kernel) (by decide +kernel)
set_option maxRecDepth 20000 in
theorem gX7_tone_X7_isWood : GoodIn wsX7_tone (va_wsS RX7 95 yX7_isWood wsX7_isWood) := goodIn_app (goodIn_of _ (by decide +kernel)) ggX7_tone_X7_isWood
set_option maxRecDepth 20000 in
theorem ggX7_tone_X7_isTone : GoodIn wsX7_tone wsX7_isTone := goodIn_r _ [14] (by decide +kernel) (by decide +kernel)
set_option maxRecDepth 20000 in
theorem gX7_tone_X7_isTone : GoodIn wsX7_tone (va_wsS RX7 99 yX7_isTone wsX7_isTone) := goodIn_app (goodIn_of _ (by decide +kernel)) ggX7_tone_X7_isTone
set_option maxRecDepth 20000 in
theorem ggX7_tone_X5_wholeValue : GoodIn wsX7_tone wsX5_wholeValue := goodIn_r _ [18, 19, 20, 17, 21, 22, 23, 24] (by decide +kernel) (by decide +kernel)
set_option maxRecDepth 20000 in
theorem gX7_tone_X5_wholeValue : GoodIn wsX7_tone (va_wsS RX7 102 yX5_wholeValue wsX5_wholeValue) := goodIn_app (goodIn_of _ (by decide +kernel)) ggX7_tone_X5_wholeValue
set_option maxRecDepth 20000 in
theorem ggX7_tone_X5_byWeight : GoodIn wsX7_tone wsX5_byWeight := goodIn_r _ [27] (by decide +kernel) (by decide +kernel)
set_option maxRecDepth 20000 in
theorem gX7_tone_X5_byWeight : GoodIn wsX7_tone (va_wsS RX7 108 yX5_byWeight wsX5_byWeight) := goodIn_app (goodIn_of _ (by decide +kernel)) ggX7_tone_X5_byWeight
theorem dX7_tone_0 : decode cX7_tone 0 = .ok (.aload_n 0, 1) := by decide +kernel
theorem dX7_tone_1 : decode cX7_tone 1 = .ok (.iload_n 1, 1) := by decide +kernel
theorem dX7_tone_2 : decode cX7_tone 2 = .ok (.invokevirtual 69, 3) := by decide +kernel
theorem dX7_tone_5 : decode cX7_tone 5 = .ok (.ifCond .eq 19, 3) := by decide +kernel
theorem dX7_tone_8 : decode cX7_tone 8 = .ok (.iload_n 2, 1) := by decide +kernel
theorem dX7_tone_9 : decode cX7_tone 9 = .ok (.iload_n 3, 1) := by decide +kernel
theorem dX7_tone_10 : decode cX7_tone 10 = .ok (.invokestatic 95, 3) := by decide +kernel
theorem dX7_tone_13 : decode cX7_tone 13 = .ok (.ifCond .eq 11, 3) := by decide +kernel
theorem dX7_tone_16 : decode cX7_tone 16 = .ok (.iload 4, 2) := by decide +kernel
theorem dX7_tone_18 : decode cX7_tone 18 = .ok (.invokestatic 99, 3) := by decide +kernel
theorem dX7_tone_21 : decode cX7_tone 21 = .ok (.ifCond .ne 6, 3) := by decide +kernel
theorem dX7_tone_24 : decode cX7_tone 24 = .ok (.bipush (-2), 2) := by decide +kernel
theorem dX7_tone_26 : decode cX7_tone 26 = .ok (.ireturn, 1) := by decide +kernel
theorem dX7_tone_27 : decode cX7_tone 27 = .ok (.aload_n 0, 1) := by decide +kernel
theorem dX7_tone_28 : decode cX7_tone 28 = .ok (.getfield 11, 3) := by decide +kernel
theorem dX7_tone_31 : decode cX7_tone 31 = .ok (.iload_n 1, 1) := by decide +kernel
theorem dX7_tone_32 : decode cX7_tone 32 = .ok (.aaload, 1) := by decide +kernel
theorem dX7_tone_33 : decode cX7_tone 33 = .ok (.getfield 75, 3) := by decide +kernel
theorem dX7_tone_36 : decode cX7_tone 36 = .ok (.iload_n 2, 1) := by decide +kernel
theorem dX7_tone_37 : decode cX7_tone 37 = .ok (.iload 4, 2) := by decide +kernel
theorem dX7_tone_39 : decode cX7_tone 39 = .ok (.invokestatic 102, 3) := by decide +kernel
theorem dX7_tone_42 : decode cX7_tone 42 = .ok (.iload_n 3, 1) := by decide +kernel
theorem dX7_tone_43 : decode cX7_tone 43 = .ok (.invokestatic 108, 3) := by decide +kernel
theorem dX7_tone_46 : decode cX7_tone 46 = .ok (.ireturn, 1) := by decide +kernel
set_option maxRecDepth 20000 in
theorem ggX7_below_X7_isPlate : GoodIn wsX7_below wsX7_isPlate := goodIn_r _ [7, 8, 22, 23, 24, 25, 26, 27, 28, 29, 30, 31] (by decide +kernel) (by decide +kernel)
set_option maxRecDepth 20000 in
theorem gX7_below_X7_isPlate : GoodIn wsX7_below (wsV RX7 69 RX7 yX7_isPlate wsX7_isPlate) := goodIn_app (goodIn_of _ (by decide +kernel)) ggX7_below_X7_isPlate
set_option maxRecDepth 20000 in
theorem ggX7_below_X7_isWood : GoodIn wsX7_below wsX7_isWood := goodIn_r _ [11] (by decide +kernel) (by decide +kernel)
set_option maxRecDepth 20000 in
theorem gX7_below_X7_isWood : GoodIn wsX7_below (va_wsS RX7 95 yX7_isWood wsX7_isWood) := goodIn_app (goodIn_of _ (by decide +kernel)) ggX7_below_X7_isWood
set_option maxRecDepth 20000 in
theorem ggX7_below_X7_isNumber : GoodIn wsX7_below wsX7_isNumber := goodIn_r _ [14] (by decide +kernel) (by decide +kernel)
set_option maxRecDepth 20000 in
theorem gX7_below_X7_isNumber : GoodIn wsX7_below (va_wsS RX7 112 yX7_isNumber wsX7_isNumber) := goodIn_app (goodIn_of _ (by decide +kernel)) ggX7_below_X7_isNumber
set_option maxRecDepth 20000 in
theorem ggX7_below_X5_valuesBelow : GoodIn wsX7_below wsX5_valuesBelow := goodIn_r _ [18, 19, 20, 17, 21] (by decide +kernel) (by decide +kernel)
set_option maxRecDepth 20000 in
theorem gX7_below_X5_valuesBelow : GoodIn wsX7_below (va_wsS RX7 115 yX5_valuesBelow wsX5_valuesBelow) := goodIn_app (goodIn_of _ (by decide +kernel)) ggX7_below_X5_valuesBelow
theorem dX7_below_0 : decode cX7_below 0 = .ok (.aload_n 0, 1) := by decide +kernel
theorem dX7_below_1 : decode cX7_below 1 = .ok (.iload_n 1, 1) := by decide +kernel
theorem dX7_below_2 : decode cX7_below 2 = .ok (.invokevirtual 69, 3) := by decide +kernel
theorem dX7_below_5 : decode cX7_below 5 = .ok (.ifCond .eq 19, 3) := by decide +kernel
theorem dX7_below_8 : decode cX7_below 8 = .ok (.iload_n 2, 1) := by decide +kernel
theorem dX7_below_9 : decode cX7_below 9 = .ok (.iload_n 3, 1) := by decide +kernel
theorem dX7_below_10 : decode cX7_below 10 = .ok (.invokestatic 95, 3) := by decide +kernel
theorem dX7_below_13 : decode cX7_below 13 = .ok (.ifCond .eq 11, 3) := by decide +kernel
theorem dX7_below_16 : decode cX7_below 16 = .ok (.iload 4, 2) := by decide +kernel
theorem dX7_below_18 : decode cX7_below 18 = .ok (.invokestatic 112, 3) := by decide +kernel
theorem dX7_below_21 : decode cX7_below 21 = .ok (.ifCond .ne 6, 3) := by decide +kernel
theorem dX7_below_24 : decode cX7_below 24 = .ok (.bipush (-2), 2) := by decide +kernel
theorem dX7_below_26 : decode cX7_below 26 = .ok (.ireturn, 1) := by decide +kernel
theorem dX7_below_27 : decode cX7_below 27 = .ok (.aload_n 0, 1) := by decide +kernel
theorem dX7_below_28 : decode cX7_below 28 = .ok (.getfield 11, 3) := by decide +kernel
theorem dX7_below_31 : decode cX7_below 31 = .ok (.iload_n 1, 1) := by decide +kernel
theorem dX7_below_32 : decode cX7_below 32 = .ok (.aaload, 1) := by decide +kernel
theorem dX7_below_33 : decode cX7_below 33 = .ok (.getfield 75, 3) := by decide +kernel
theorem dX7_below_36 : decode cX7_below 36 = .ok (.iload_n 2, 1) := by decide +kernel
theorem dX7_below_37 : decode cX7_below 37 = .ok (.iload 4, 2) := by decide +kernel
theorem dX7_below_39 : decode cX7_below 39 = .ok (.iload_n 3, 1) := by decide +kernel
theorem dX7_below_40 : decode cX7_below 40 = .ok (.imul, 1) := by decide +kernel
theorem dX7_below_41 : decode cX7_below 41 = .ok (.invokestatic 115, 3) := by decide +kernel
theorem dX7_below_44 : decode cX7_below 44 = .ok (.ireturn, 1) := by decide +kernel
set_option maxRecDepth 20000 in
theorem ggX7_bond_X7_isPlate : GoodIn wsX7_bond wsX7_isPlate := goodIn_r _ [7, 8, 13, 14, 15, 16, 17, 18, 19, 20, 21, 22] (by decide +kernel) (by decide +kernel)
set_option maxRecDepth 20000 in
theorem gX7_bond_X7_isPlate : GoodIn wsX7_bond (wsV RX7 69 RX7 yX7_isPlate wsX7_isPlate) := goodIn_app (goodIn_of _ (by decide +kernel)) ggX7_bond_X7_isPlate
set_option maxRecDepth 20000 in
theorem ggX7_bond_X5_bondAt : GoodIn wsX7_bond wsX5_bondAt := goodIn_r _ [12] (by decide +kernel) (by decide +kernel)
set_option maxRecDepth 20000 in
theorem gX7_bond_X5_bondAt : GoodIn wsX7_bond (va_wsS RX7 118 yX5_bondAt wsX5_bondAt) := goodIn_app (goodIn_of _ (by decide +kernel)) ggX7_bond_X5_bondAt
theorem dX7_bond_0 : decode cX7_bond 0 = .ok (.aload_n 0, 1) := by decide +kernel
theorem dX7_bond_1 : decode cX7_bond 1 = .ok (.iload_n 1, 1) := by decide +kernel
theorem dX7_bond_2 : decode cX7_bond 2 = .ok (.invokevirtual 69, 3) := by decide +kernel
theorem dX7_bond_5 : decode cX7_bond 5 = .ok (.ifCond .eq 23, 3) := by decide +kernel
theorem dX7_bond_8 : decode cX7_bond 8 = .ok (.iload_n 2, 1) := by decide +kernel
theorem dX7_bond_9 : decode cX7_bond 9 = .ok (.iconst 1, 1) := by decide +kernel
theorem dX7_bond_10 : decode cX7_bond 10 = .ok (.if_icmp .lt 18, 3) := by decide +kernel
theorem dX7_bond_13 : decode cX7_bond 13 = .ok (.iload_n 2, 1) := by decide +kernel
theorem dX7_bond_14 : decode cX7_bond 14 = .ok (.bipush 9, 2) := by decide +kernel
theorem dX7_bond_16 : decode cX7_bond 16 = .ok (.if_icmp .gt 12, 3) := by decide +kernel
theorem dX7_bond_19 : decode cX7_bond 19 = .ok (.iload_n 3, 1) := by decide +kernel
theorem dX7_bond_20 : decode cX7_bond 20 = .ok (.ifCond .lt 8, 3) := by decide +kernel
theorem dX7_bond_23 : decode cX7_bond 23 = .ok (.iload_n 3, 1) := by decide +kernel
theorem dX7_bond_24 : decode cX7_bond 24 = .ok (.iconst 4, 1) := by decide +kernel
theorem dX7_bond_25 : decode cX7_bond 25 = .ok (.if_icmp .le 6, 3) := by decide +kernel
theorem dX7_bond_28 : decode cX7_bond 28 = .ok (.bipush (-2), 2) := by decide +kernel
theorem dX7_bond_30 : decode cX7_bond 30 = .ok (.ireturn, 1) := by decide +kernel
theorem dX7_bond_31 : decode cX7_bond 31 = .ok (.aload_n 0, 1) := by decide +kernel
theorem dX7_bond_32 : decode cX7_bond 32 = .ok (.getfield 11, 3) := by decide +kernel
theorem dX7_bond_35 : decode cX7_bond 35 = .ok (.iload_n 1, 1) := by decide +kernel
theorem dX7_bond_36 : decode cX7_bond 36 = .ok (.aaload, 1) := by decide +kernel
theorem dX7_bond_37 : decode cX7_bond 37 = .ok (.getfield 75, 3) := by decide +kernel
theorem dX7_bond_40 : decode cX7_bond 40 = .ok (.iload_n 2, 1) := by decide +kernel
theorem dX7_bond_41 : decode cX7_bond 41 = .ok (.iload_n 3, 1) := by decide +kernel
theorem dX7_bond_42 : decode cX7_bond 42 = .ok (.invokestatic 118, 3) := by decide +kernel
theorem dX7_bond_45 : decode cX7_bond 45 = .ok (.ireturn, 1) := by decide +kernel
set_option maxRecDepth 20000 in
theorem ggX7_tap_X7_isPlate : GoodIn wsX7_tap wsX7_isPlate := goodIn_r _ [10, 11, 82, 83, 84, 85, 86, 87, 88, 89, 90, 91] (by decide +kernel) (by decide +kernel)
set_option maxRecDepth 20000 in
theorem gX7_tap_X7_isPlate : GoodIn wsX7_tap (wsV RX7 69 RX7 yX7_isPlate wsX7_isPlate) := goodIn_app (goodIn_of _ (by decide +kernel)) ggX7_tap_X7_isPlate
set_option maxRecDepth 20000 in
theorem ggX7_tap_X7_isTone : GoodIn wsX7_tap wsX7_isTone := goodIn_r _ [14] (by decide +kernel) (by decide +kernel)
set_option maxRecDepth 20000 in
theorem gX7_tap_X7_isTone : GoodIn wsX7_tap (va_wsS RX7 99 yX7_isTone wsX7_isTone) := goodIn_app (goodIn_of _ (by decide +kernel)) ggX7_tap_X7_isTone
set_option maxRecDepth 20000 in
theorem ggX7_tap_X7_isSpan : GoodIn wsX7_tap wsX7_isSpan := goodIn_r _ [17, 18, 19, 9, 20] (by decide +kernel) (by decide +kernel)
set_option maxRecDepth 20000 in
theorem gX7_tap_X7_isSpan : GoodIn wsX7_tap (va_wsS RX7 121 yX7_isSpan wsX7_isSpan) := goodIn_app (goodIn_of _ (by decide +kernel)) ggX7_tap_X7_isSpan
set_option maxRecDepth 20000 in
theorem ggX7_tap_X2_addTap : GoodIn wsX7_tap wsX2_addTap := goodIn_r _ [25, 26, 27, 28, 29, 30, 31, 32, 33, 34, 35, 36, 37, 38, 39, 40, 41, 42, 43, 44, 45, 46, 24, 47, 48, 49, 50, 51, 52, 53, 54, 55, 56, 57, 58, 59, 60, 61, 62, 63, 64, 65, 66, 67, 68, 69, 70, 71, 72, 73, 74, 75, 92, 93, 94, 95, 96, 97, 98, 102, 103, 104] (by decide +kernel) (by decide +kernel)
set_option maxRecDepth 20000 in
theorem gX7_tap_X2_addTap : GoodIn wsX7_tap (wsV RX7 127 RX2 yX2_addTap wsX2_addTap) := goodIn_app (goodIn_of _ (by decide +kernel)) ggX7_tap_X2_addTap
set_option maxRecDepth 20000 in
theorem ggX7_tap_X3_forget : GoodIn wsX7_tap wsX3_forget := goodIn_r _ [80, 81, 105, 106, 107, 108, 109] (by decide +kernel) (by decide +kernel)
set_option maxRecDepth 20000 in
theorem gX7_tap_X3_forget : GoodIn wsX7_tap (wsV RX7 78 RX3 yX3_forget wsX3_forget) := goodIn_app (goodIn_of _ (by decide +kernel)) ggX7_tap_X3_forget
theorem dX7_tap_0 : decode cX7_tap 0 = .ok (.aload_n 0, 1) := by decide +kernel
theorem dX7_tap_1 : decode cX7_tap 1 = .ok (.iload_n 1, 1) := by decide +kernel
theorem dX7_tap_2 : decode cX7_tap 2 = .ok (.invokevirtual 69, 3) := by decide +kernel
theorem dX7_tap_5 : decode cX7_tap 5 = .ok (.ifCond .eq 19, 3) := by decide +kernel
theorem dX7_tap_8 : decode cX7_tap 8 = .ok (.iload_n 2, 1) := by decide +kernel
theorem dX7_tap_9 : decode cX7_tap 9 = .ok (.invokestatic 99, 3) := by decide +kernel
theorem dX7_tap_12 : decode cX7_tap 12 = .ok (.ifCond .eq 12, 3) := by decide +kernel
theorem dX7_tap_15 : decode cX7_tap 15 = .ok (.iload_n 3, 1) := by decide +kernel
theorem dX7_tap_16 : decode cX7_tap 16 = .ok (.iload 4, 2) := by decide +kernel
theorem dX7_tap_18 : decode cX7_tap 18 = .ok (.invokestatic 121, 3) := by decide +kernel
theorem dX7_tap_21 : decode cX7_tap 21 = .ok (.ifCond .ne 6, 3) := by decide +kernel
theorem dX7_tap_24 : decode cX7_tap 24 = .ok (.bipush (-2), 2) := by decide +kernel
theorem dX7_tap_26 : decode cX7_tap 26 = .ok (.ireturn, 1) := by decide +kernel
theorem dX7_tap_27 : decode cX7_tap 27 = .ok (.aload_n 0, 1) := by decide +kernel
theorem dX7_tap_28 : decode cX7_tap 28 = .ok (.getfield 18, 3) := by decide +kernel
theorem dX7_tap_31 : decode cX7_tap 31 = .ok (.getfield 124, 3) := by decide +kernel
theorem dX7_tap_34 : decode cX7_tap 34 = .ok (.bipush 12, 2) := by decide +kernel
theorem dX7_tap_36 : decode cX7_tap 36 = .ok (.if_icmp .lt 6, 3) := by decide +kernel
theorem dX7_tap_39 : decode cX7_tap 39 = .ok (.bipush (-4), 2) := by decide +kernel
theorem dX7_tap_41 : decode cX7_tap 41 = .ok (.ireturn, 1) := by decide +kernel
theorem dX7_tap_42 : decode cX7_tap 42 = .ok (.aload_n 0, 1) := by decide +kernel
theorem dX7_tap_43 : decode cX7_tap 43 = .ok (.getfield 18, 3) := by decide +kernel
theorem dX7_tap_46 : decode cX7_tap 46 = .ok (.aload_n 0, 1) := by decide +kernel
theorem dX7_tap_47 : decode cX7_tap 47 = .ok (.getfield 11, 3) := by decide +kernel
theorem dX7_tap_50 : decode cX7_tap 50 = .ok (.iload_n 1, 1) := by decide +kernel
theorem dX7_tap_51 : decode cX7_tap 51 = .ok (.aaload, 1) := by decide +kernel
theorem dX7_tap_52 : decode cX7_tap 52 = .ok (.getfield 75, 3) := by decide +kernel
theorem dX7_tap_55 : decode cX7_tap 55 = .ok (.iload_n 2, 1) := by decide +kernel
theorem dX7_tap_56 : decode cX7_tap 56 = .ok (.iload_n 3, 1) := by decide +kernel
theorem dX7_tap_57 : decode cX7_tap 57 = .ok (.iload 4, 2) := by decide +kernel
theorem dX7_tap_59 : decode cX7_tap 59 = .ok (.invokevirtual 127, 3) := by decide +kernel
theorem dX7_tap_62 : decode cX7_tap 62 = .ok (.aload_n 0, 1) := by decide +kernel
theorem dX7_tap_63 : decode cX7_tap 63 = .ok (.getfield 32, 3) := by decide +kernel
theorem dX7_tap_66 : decode cX7_tap 66 = .ok (.invokevirtual 78, 3) := by decide +kernel
theorem dX7_tap_69 : decode cX7_tap 69 = .ok (.aload_n 0, 1) := by decide +kernel
theorem dX7_tap_70 : decode cX7_tap 70 = .ok (.getfield 18, 3) := by decide +kernel
theorem dX7_tap_73 : decode cX7_tap 73 = .ok (.getfield 124, 3) := by decide +kernel
theorem dX7_tap_76 : decode cX7_tap 76 = .ok (.iconst 1, 1) := by decide +kernel
theorem dX7_tap_77 : decode cX7_tap 77 = .ok (.isub, 1) := by decide +kernel
theorem dX7_tap_78 : decode cX7_tap 78 = .ok (.ireturn, 1) := by decide +kernel
set_option maxRecDepth 20000 in
theorem ggX7_untap_X2_dropTap : GoodIn wsX7_untap wsX2_dropTap := goodIn_r _ [8, 9, 10, 11, 12, 13, 7, 14, 15, 16, 17, 18, 19, 20, 21, 22, 23, 24, 25, 26, 27, 28, 29, 30, 31, 32, 33, 34, 35, 36, 37, 38, 39, 40, 41, 42, 43, 60, 61, 62, 63, 64, 65, 66, 67, 68, 69] (by decide +kernel) (by decide +kernel)
set_option maxRecDepth 20000 in
theorem gX7_untap_X2_dropTap : GoodIn wsX7_untap (wsV RX7 131 RX2 yX2_dropTap wsX2_dropTap) := goodIn_app (goodIn_of _ (by decide +kernel)) ggX7_untap_X2_dropTap
set_option maxRecDepth 20000 in
theorem ggX7_untap_X3_forget : GoodIn wsX7_untap wsX3_forget := goodIn_r _ [48, 49, 70, 71, 72, 73, 74] (by decide +kernel) (by decide +kernel)
set_option maxRecDepth 20000 in
theorem gX7_untap_X3_forget : GoodIn wsX7_untap (wsV RX7 78 RX3 yX3_forget wsX3_forget) := goodIn_app (goodIn_of _ (by decide +kernel)) ggX7_untap_X3_forget
theorem dX7_untap_0 : decode cX7_untap 0 = .ok (.iload_n 1, 1) := by decide +kernel
theorem dX7_untap_1 : decode cX7_untap 1 = .ok (.ifCond .lt 14, 3) := by decide +kernel
theorem dX7_untap_4 : decode cX7_untap 4 = .ok (.iload_n 1, 1) := by decide +kernel
theorem dX7_untap_5 : decode cX7_untap 5 = .ok (.aload_n 0, 1) := by decide +kernel
theorem dX7_untap_6 : decode cX7_untap 6 = .ok (.getfield 18, 3) := by decide +kernel
theorem dX7_untap_9 : decode cX7_untap 9 = .ok (.getfield 124, 3) := by decide +kernel
theorem dX7_untap_12 : decode cX7_untap 12 = .ok (.if_icmp .lt 6, 3) := by decide +kernel
theorem dX7_untap_15 : decode cX7_untap 15 = .ok (.bipush (-2), 2) := by decide +kernel
theorem dX7_untap_17 : decode cX7_untap 17 = .ok (.ireturn, 1) := by decide +kernel
theorem dX7_untap_18 : decode cX7_untap 18 = .ok (.aload_n 0, 1) := by decide +kernel
theorem dX7_untap_19 : decode cX7_untap 19 = .ok (.getfield 18, 3) := by decide +kernel
theorem dX7_untap_22 : decode cX7_untap 22 = .ok (.iload_n 1, 1) := by decide +kernel
theorem dX7_untap_23 : decode cX7_untap 23 = .ok (.invokevirtual 131, 3) := by decide +kernel
theorem dX7_untap_26 : decode cX7_untap 26 = .ok (.aload_n 0, 1) := by decide +kernel
theorem dX7_untap_27 : decode cX7_untap 27 = .ok (.getfield 32, 3) := by decide +kernel
theorem dX7_untap_30 : decode cX7_untap 30 = .ok (.invokevirtual 78, 3) := by decide +kernel
theorem dX7_untap_33 : decode cX7_untap 33 = .ok (.iconst 1, 1) := by decide +kernel
theorem dX7_untap_34 : decode cX7_untap 34 = .ok (.ireturn, 1) := by decide +kernel
theorem dX7_woods_0 : decode cX7_woods 0 = .ok (.aload_n 0, 1) := by decide +kernel
theorem dX7_woods_1 : decode cX7_woods 1 = .ok (.getfield 18, 3) := by decide +kernel
theorem dX7_woods_4 : decode cX7_woods 4 = .ok (.getfield 134, 3) := by decide +kernel
theorem dX7_woods_7 : decode cX7_woods 7 = .ok (.ireturn, 1) := by decide +kernel
set_option maxRecDepth 20000 in
theorem ggX7_wood_X7_isOneOfTwo : GoodIn wsX7_wood wsX7_isOneOfTwo := goodIn_r _ [8] (by decide +kernel) (by decide +kernel)
set_option maxRecDepth 20000 in
theorem gX7_wood_X7_isOneOfTwo : GoodIn wsX7_wood (va_wsS RX7 137 yX7_isOneOfTwo wsX7_isOneOfTwo) := goodIn_app (goodIn_of _ (by decide +kernel)) ggX7_wood_X7_isOneOfTwo
theorem dX7_wood_0 : decode cX7_wood 0 = .ok (.iload_n 1, 1) := by decide +kernel
theorem dX7_wood_1 : decode cX7_wood 1 = .ok (.ifCond .lt 21, 3) := by decide +kernel
theorem dX7_wood_4 : decode cX7_wood 4 = .ok (.iload_n 1, 1) := by decide +kernel
theorem dX7_wood_5 : decode cX7_wood 5 = .ok (.aload_n 0, 1) := by decide +kernel
theorem dX7_wood_6 : decode cX7_wood 6 = .ok (.getfield 18, 3) := by decide +kernel
theorem dX7_wood_9 : decode cX7_wood 9 = .ok (.getfield 134, 3) := by decide +kernel
theorem dX7_wood_12 : decode cX7_wood 12 = .ok (.if_icmp .ge 10, 3) := by decide +kernel
theorem dX7_wood_15 : decode cX7_wood 15 = .ok (.iload_n 2, 1) := by decide +kernel
theorem dX7_wood_16 : decode cX7_wood 16 = .ok (.invokestatic 137, 3) := by decide +kernel
theorem dX7_wood_19 : decode cX7_wood 19 = .ok (.ifCond .ne 6, 3) := by decide +kernel
theorem dX7_wood_22 : decode cX7_wood 22 = .ok (.bipush (-2), 2) := by decide +kernel
theorem dX7_wood_24 : decode cX7_wood 24 = .ok (.ireturn, 1) := by decide +kernel
theorem dX7_wood_25 : decode cX7_wood 25 = .ok (.iload_n 2, 1) := by decide +kernel
theorem dX7_wood_26 : decode cX7_wood 26 = .ok (.ifCond .ne 15, 3) := by decide +kernel
theorem dX7_wood_29 : decode cX7_wood 29 = .ok (.aload_n 0, 1) := by decide +kernel
theorem dX7_wood_30 : decode cX7_wood 30 = .ok (.getfield 18, 3) := by decide +kernel
theorem dX7_wood_33 : decode cX7_wood 33 = .ok (.getfield 140, 3) := by decide +kernel
theorem dX7_wood_36 : decode cX7_wood 36 = .ok (.iload_n 1, 1) := by decide +kernel
theorem dX7_wood_37 : decode cX7_wood 37 = .ok (.iaload, 1) := by decide +kernel
theorem dX7_wood_38 : decode cX7_wood 38 = .ok (.goto 12, 3) := by decide +kernel
theorem dX7_wood_41 : decode cX7_wood 41 = .ok (.aload_n 0, 1) := by decide +kernel
theorem dX7_wood_42 : decode cX7_wood 42 = .ok (.getfield 18, 3) := by decide +kernel
theorem dX7_wood_45 : decode cX7_wood 45 = .ok (.getfield 143, 3) := by decide +kernel
theorem dX7_wood_48 : decode cX7_wood 48 = .ok (.iload_n 1, 1) := by decide +kernel
theorem dX7_wood_49 : decode cX7_wood 49 = .ok (.iaload, 1) := by decide +kernel
theorem dX7_wood_50 : decode cX7_wood 50 = .ok (.ireturn, 1) := by decide +kernel
set_option maxRecDepth 20000 in
theorem ggX7_span_X7_isPlate : GoodIn wsX7_span wsX7_isPlate := goodIn_r _ [10, 11, 52, 53, 54, 55, 56, 57, 58, 59, 60, 61] (by decide +kernel) (by decide +kernel)
set_option maxRecDepth 20000 in
theorem gX7_span_X7_isPlate : GoodIn wsX7_span (wsV RX7 69 RX7 yX7_isPlate wsX7_isPlate) := goodIn_app (goodIn_of _ (by decide +kernel)) ggX7_span_X7_isPlate
set_option maxRecDepth 20000 in
theorem ggX7_span_X7_isTone : GoodIn wsX7_span wsX7_isTone := goodIn_r _ [14] (by decide +kernel) (by decide +kernel)
set_option maxRecDepth 20000 in
theorem gX7_span_X7_isTone : GoodIn wsX7_span (va_wsS RX7 99 yX7_isTone wsX7_isTone) := goodIn_app (goodIn_of _ (by decide +kernel)) ggX7_span_X7_isTone
set_option maxRecDepth 20000 in
theorem ggX7_span_X7_isOneOfTwo : GoodIn wsX7_span wsX7_isOneOfTwo := goodIn_r _ [17] (by decide +kernel) (by decide +kernel)
set_option maxRecDepth 20000 in
theorem gX7_span_X7_isOneOfTwo : GoodIn wsX7_span (va_wsS RX7 137 yX7_isOneOfTwo wsX7_isOneOfTwo) := goodIn_app (goodIn_of _ (by decide +kernel)) ggX7_span_X7_isOneOfTwo
set_option maxRecDepth 20000 in
theorem ggX7_span_X5_fillWholeValues : GoodIn wsX7_span wsX5_fillWholeValues := goodIn_r _ [21, 22, 23, 20, 24, 25, 26, 27, 28, 29, 30] (by decide +kernel) (by decide +kernel)
set_option maxRecDepth 20000 in
theorem gX7_span_X5_fillWholeValues : GoodIn wsX7_span (va_wsS RX7 146 yX5_fillWholeValues wsX5_fillWholeValues) := goodIn_app (goodIn_of _ (by decide +kernel)) ggX7_span_X5_fillWholeValues
set_option maxRecDepth 20000 in
theorem ggX7_span_X2_leastTone : GoodIn wsX7_span wsX2_leastTone := goodIn_r _ [35, 36, 37, 38, 39, 40, 41, 42, 20, 43, 62, 63, 64, 65, 66, 67, 68] (by decide +kernel) (by decide +kernel)
set_option maxRecDepth 20000 in
theorem gX7_span_X2_leastTone : GoodIn wsX7_span (wsV RX7 150 RX2 yX2_leastTone wsX2_leastTone) := goodIn_app (goodIn_of _ (by decide +kernel)) ggX7_span_X2_leastTone
set_option maxRecDepth 20000 in
theorem ggX7_span_X2_greatestTone : GoodIn wsX7_span wsX2_greatestTone := goodIn_r _ [47, 48, 49, 50, 39, 51, 41, 42, 20, 43, 62, 63, 64, 65, 66, 67, 68] (by decide +kernel) (by decide +kernel)
set_option maxRecDepth 20000 in
theorem gX7_span_X2_greatestTone : GoodIn wsX7_span (wsV RX7 154 RX2 yX2_greatestTone wsX2_greatestTone) := goodIn_app (goodIn_of _ (by decide +kernel)) ggX7_span_X2_greatestTone
theorem dX7_span_0 : decode cX7_span 0 = .ok (.aload_n 0, 1) := by decide +kernel
theorem dX7_span_1 : decode cX7_span 1 = .ok (.iload_n 1, 1) := by decide +kernel
theorem dX7_span_2 : decode cX7_span 2 = .ok (.invokevirtual 69, 3) := by decide +kernel
theorem dX7_span_5 : decode cX7_span 5 = .ok (.ifCond .eq 17, 3) := by decide +kernel
theorem dX7_span_8 : decode cX7_span 8 = .ok (.iload_n 2, 1) := by decide +kernel
theorem dX7_span_9 : decode cX7_span 9 = .ok (.invokestatic 99, 3) := by decide +kernel
theorem dX7_span_12 : decode cX7_span 12 = .ok (.ifCond .eq 10, 3) := by decide +kernel
theorem dX7_span_15 : decode cX7_span 15 = .ok (.iload_n 3, 1) := by decide +kernel
theorem dX7_span_16 : decode cX7_span 16 = .ok (.invokestatic 137, 3) := by decide +kernel
theorem dX7_span_19 : decode cX7_span 19 = .ok (.ifCond .ne 6, 3) := by decide +kernel
theorem dX7_span_22 : decode cX7_span 22 = .ok (.bipush (-2), 2) := by decide +kernel
theorem dX7_span_24 : decode cX7_span 24 = .ok (.ireturn, 1) := by decide +kernel
theorem dX7_span_25 : decode cX7_span 25 = .ok (.aload_n 0, 1) := by decide +kernel
theorem dX7_span_26 : decode cX7_span 26 = .ok (.getfield 18, 3) := by decide +kernel
theorem dX7_span_29 : decode cX7_span 29 = .ok (.getfield 134, 3) := by decide +kernel
theorem dX7_span_32 : decode cX7_span 32 = .ok (.ifCond .ne 6, 3) := by decide +kernel
theorem dX7_span_35 : decode cX7_span 35 = .ok (.bipush (-3), 2) := by decide +kernel
theorem dX7_span_37 : decode cX7_span 37 = .ok (.ireturn, 1) := by decide +kernel
theorem dX7_span_38 : decode cX7_span 38 = .ok (.aload_n 0, 1) := by decide +kernel
theorem dX7_span_39 : decode cX7_span 39 = .ok (.getfield 43, 3) := by decide +kernel
theorem dX7_span_42 : decode cX7_span 42 = .ok (.aload_n 0, 1) := by decide +kernel
theorem dX7_span_43 : decode cX7_span 43 = .ok (.getfield 11, 3) := by decide +kernel
theorem dX7_span_46 : decode cX7_span 46 = .ok (.iload_n 1, 1) := by decide +kernel
theorem dX7_span_47 : decode cX7_span 47 = .ok (.aaload, 1) := by decide +kernel
theorem dX7_span_48 : decode cX7_span 48 = .ok (.getfield 75, 3) := by decide +kernel
theorem dX7_span_51 : decode cX7_span 51 = .ok (.iload_n 2, 1) := by decide +kernel
theorem dX7_span_52 : decode cX7_span 52 = .ok (.invokestatic 146, 3) := by decide +kernel
theorem dX7_span_55 : decode cX7_span 55 = .ok (.iload_n 3, 1) := by decide +kernel
theorem dX7_span_56 : decode cX7_span 56 = .ok (.ifCond .ne 17, 3) := by decide +kernel
theorem dX7_span_59 : decode cX7_span 59 = .ok (.aload_n 0, 1) := by decide +kernel
theorem dX7_span_60 : decode cX7_span 60 = .ok (.getfield 18, 3) := by decide +kernel
theorem dX7_span_63 : decode cX7_span 63 = .ok (.aload_n 0, 1) := by decide +kernel
theorem dX7_span_64 : decode cX7_span 64 = .ok (.getfield 43, 3) := by decide +kernel
theorem dX7_span_67 : decode cX7_span 67 = .ok (.invokevirtual 150, 3) := by decide +kernel
theorem dX7_span_70 : decode cX7_span 70 = .ok (.goto 14, 3) := by decide +kernel
theorem dX7_span_73 : decode cX7_span 73 = .ok (.aload_n 0, 1) := by decide +kernel
theorem dX7_span_74 : decode cX7_span 74 = .ok (.getfield 18, 3) := by decide +kernel
theorem dX7_span_77 : decode cX7_span 77 = .ok (.aload_n 0, 1) := by decide +kernel
theorem dX7_span_78 : decode cX7_span 78 = .ok (.getfield 43, 3) := by decide +kernel
theorem dX7_span_81 : decode cX7_span 81 = .ok (.invokevirtual 154, 3) := by decide +kernel
theorem dX7_span_84 : decode cX7_span 84 = .ok (.ireturn, 1) := by decide +kernel
set_option maxRecDepth 20000 in
theorem ggX7_next_X7_isPlate : GoodIn wsX7_next wsX7_isPlate := goodIn_r _ [11, 12, 54, 55, 56, 57, 58, 59, 60, 61, 62, 63] (by decide +kernel) (by decide +kernel)
set_option maxRecDepth 20000 in
theorem gX7_next_X7_isPlate : GoodIn wsX7_next (wsV RX7 69 RX7 yX7_isPlate wsX7_isPlate) := goodIn_app (goodIn_of _ (by decide +kernel)) ggX7_next_X7_isPlate
set_option maxRecDepth 20000 in
theorem ggX7_next_X7_isOneOfTwo : GoodIn wsX7_next wsX7_isOneOfTwo := goodIn_r _ [15] (by decide +kernel) (by decide +kernel)
set_option maxRecDepth 20000 in
theorem gX7_next_X7_isOneOfTwo : GoodIn wsX7_next (va_wsS RX7 137 yX7_isOneOfTwo wsX7_isOneOfTwo) := goodIn_app (goodIn_of _ (by decide +kernel)) ggX7_next_X7_isOneOfTwo
set_option maxRecDepth 20000 in
theorem ggX7_next_X5_fillWholeValues : GoodIn wsX7_next wsX5_fillWholeValues := goodIn_r _ [19, 20, 21, 18, 22, 23, 24, 25, 26, 27, 28] (by decide +kernel) (by decide +kernel)
set_option maxRecDepth 20000 in
theorem gX7_next_X5_fillWholeValues : GoodIn wsX7_next (va_wsS RX7 146 yX5_fillWholeValues wsX5_fillWholeValues) := goodIn_app (goodIn_of _ (by decide +kernel)) ggX7_next_X5_fillWholeValues
set_option maxRecDepth 20000 in
theorem ggX7_next_X1_greatest : GoodIn wsX7_next wsX1_greatest := goodIn_r _ [33, 34, 35, 36, 37, 38, 39, 40, 41, 42, 43, 44, 45, 46, 47, 48, 49, 50, 51, 52, 18, 53, 74, 64, 65, 66, 67, 68, 69, 70] (by decide +kernel) (by decide +kernel)
set_option maxRecDepth 20000 in
theorem gX7_next_X1_greatest : GoodIn wsX7_next (wsV RX7 157 RX1 yX1_greatest wsX1_greatest) := goodIn_app (goodIn_of _ (by decide +kernel)) ggX7_next_X1_greatest
theorem dX7_next_0 : decode cX7_next 0 = .ok (.aload_n 0, 1) := by decide +kernel
theorem dX7_next_1 : decode cX7_next 1 = .ok (.iload_n 1, 1) := by decide +kernel
theorem dX7_next_2 : decode cX7_next 2 = .ok (.invokevirtual 69, 3) := by decide +kernel
theorem dX7_next_5 : decode cX7_next 5 = .ok (.ifCond .eq 10, 3) := by decide +kernel
theorem dX7_next_8 : decode cX7_next 8 = .ok (.iload_n 2, 1) := by decide +kernel
theorem dX7_next_9 : decode cX7_next 9 = .ok (.invokestatic 137, 3) := by decide +kernel
theorem dX7_next_12 : decode cX7_next 12 = .ok (.ifCond .ne 6, 3) := by decide +kernel
theorem dX7_next_15 : decode cX7_next 15 = .ok (.bipush (-2), 2) := by decide +kernel
theorem dX7_next_17 : decode cX7_next 17 = .ok (.ireturn, 1) := by decide +kernel
theorem dX7_next_18 : decode cX7_next 18 = .ok (.aload_n 0, 1) := by decide +kernel
theorem dX7_next_19 : decode cX7_next 19 = .ok (.getfield 18, 3) := by decide +kernel
theorem dX7_next_22 : decode cX7_next 22 = .ok (.getfield 134, 3) := by decide +kernel
theorem dX7_next_25 : decode cX7_next 25 = .ok (.ifCond .ne 6, 3) := by decide +kernel
theorem dX7_next_28 : decode cX7_next 28 = .ok (.bipush (-3), 2) := by decide +kernel
theorem dX7_next_30 : decode cX7_next 30 = .ok (.ireturn, 1) := by decide +kernel
theorem dX7_next_31 : decode cX7_next 31 = .ok (.iconst 0, 1) := by decide +kernel
theorem dX7_next_32 : decode cX7_next 32 = .ok (.istore_n 3, 1) := by decide +kernel
theorem dX7_next_33 : decode cX7_next 33 = .ok (.aload_n 0, 1) := by decide +kernel
theorem dX7_next_34 : decode cX7_next 34 = .ok (.getfield 18, 3) := by decide +kernel
theorem dX7_next_37 : decode cX7_next 37 = .ok (.getfield 134, 3) := by decide +kernel
theorem dX7_next_40 : decode cX7_next 40 = .ok (.iconst 1, 1) := by decide +kernel
theorem dX7_next_41 : decode cX7_next 41 = .ok (.iadd, 1) := by decide +kernel
theorem dX7_next_42 : decode cX7_next 42 = .ok (.istore 4, 2) := by decide +kernel
theorem dX7_next_44 : decode cX7_next 44 = .ok (.iconst 0, 1) := by decide +kernel
theorem dX7_next_45 : decode cX7_next 45 = .ok (.istore 5, 2) := by decide +kernel
theorem dX7_next_47 : decode cX7_next 47 = .ok (.iload 5, 2) := by decide +kernel
theorem dX7_next_49 : decode cX7_next 49 = .ok (.iconst 4, 1) := by decide +kernel
theorem dX7_next_50 : decode cX7_next 50 = .ok (.if_icmp .ge 58, 3) := by decide +kernel
theorem dX7_next_53 : decode cX7_next 53 = .ok (.aload_n 0, 1) := by decide +kernel
theorem dX7_next_54 : decode cX7_next 54 = .ok (.getfield 43, 3) := by decide +kernel
theorem dX7_next_57 : decode cX7_next 57 = .ok (.aload_n 0, 1) := by decide +kernel
theorem dX7_next_58 : decode cX7_next 58 = .ok (.getfield 11, 3) := by decide +kernel
theorem dX7_next_61 : decode cX7_next 61 = .ok (.iload_n 1, 1) := by decide +kernel
theorem dX7_next_62 : decode cX7_next 62 = .ok (.aaload, 1) := by decide +kernel
theorem dX7_next_63 : decode cX7_next 63 = .ok (.getfield 75, 3) := by decide +kernel
theorem dX7_next_66 : decode cX7_next 66 = .ok (.iload 5, 2) := by decide +kernel
theorem dX7_next_68 : decode cX7_next 68 = .ok (.invokestatic 146, 3) := by decide +kernel
theorem dX7_next_71 : decode cX7_next 71 = .ok (.aload_n 0, 1) := by decide +kernel
theorem dX7_next_72 : decode cX7_next 72 = .ok (.getfield 39, 3) := by decide +kernel
theorem dX7_next_75 : decode cX7_next 75 = .ok (.aload_n 0, 1) := by decide +kernel
theorem dX7_next_76 : decode cX7_next 76 = .ok (.getfield 18, 3) := by decide +kernel
theorem dX7_next_79 : decode cX7_next 79 = .ok (.aload_n 0, 1) := by decide +kernel
theorem dX7_next_80 : decode cX7_next 80 = .ok (.getfield 43, 3) := by decide +kernel
theorem dX7_next_83 : decode cX7_next 83 = .ok (.invokevirtual 157, 3) := by decide +kernel
theorem dX7_next_86 : decode cX7_next 86 = .ok (.istore 6, 2) := by decide +kernel
theorem dX7_next_88 : decode cX7_next 88 = .ok (.iload 6, 2) := by decide +kernel
theorem dX7_next_90 : decode cX7_next 90 = .ok (.iload 4, 2) := by decide +kernel
theorem dX7_next_92 : decode cX7_next 92 = .ok (.if_icmp .ge 10, 3) := by decide +kernel
theorem dX7_next_95 : decode cX7_next 95 = .ok (.iload 6, 2) := by decide +kernel
theorem dX7_next_97 : decode cX7_next 97 = .ok (.istore 4, 2) := by decide +kernel
theorem dX7_next_99 : decode cX7_next 99 = .ok (.iload 5, 2) := by decide +kernel
theorem dX7_next_101 : decode cX7_next 101 = .ok (.istore_n 3, 1) := by decide +kernel
theorem dX7_next_102 : decode cX7_next 102 = .ok (.iinc 5 1, 3) := by decide +kernel
theorem dX7_next_105 : decode cX7_next 105 = .ok (.goto (-58), 3) := by decide +kernel
theorem dX7_next_108 : decode cX7_next 108 = .ok (.iload_n 2, 1) := by decide +kernel
theorem dX7_next_109 : decode cX7_next 109 = .ok (.ifCond .ne 7, 3) := by decide +kernel
theorem dX7_next_112 : decode cX7_next 112 = .ok (.iload_n 3, 1) := by decide +kernel
theorem dX7_next_113 : decode cX7_next 113 = .ok (.goto 5, 3) := by decide +kernel
theorem dX7_next_116 : decode cX7_next 116 = .ok (.iload 4, 2) := by decide +kernel
theorem dX7_next_118 : decode cX7_next 118 = .ok (.ireturn, 1) := by decide +kernel
set_option maxRecDepth 20000 in
theorem ggX7_aim_X7_isTone : GoodIn wsX7_aim wsX7_isTone := goodIn_r _ [6] (by decide +kernel) (by decide +kernel)
set_option maxRecDepth 20000 in
theorem gX7_aim_X7_isTone : GoodIn wsX7_aim (va_wsS RX7 99 yX7_isTone wsX7_isTone) := goodIn_app (goodIn_of _ (by decide +kernel)) ggX7_aim_X7_isTone
set_option maxRecDepth 20000 in
theorem ggX7_aim_X7_isSpan : GoodIn wsX7_aim wsX7_isSpan := goodIn_r _ [9, 10, 11, 5, 12] (by decide +kernel) (by decide +kernel)
set_option maxRecDepth 20000 in
theorem gX7_aim_X7_isSpan : GoodIn wsX7_aim (va_wsS RX7 121 yX7_isSpan wsX7_isSpan) := goodIn_app (goodIn_of _ (by decide +kernel)) ggX7_aim_X7_isSpan
set_option maxRecDepth 20000 in
theorem ggX7_aim_X0_put : GoodIn wsX7_aim wsX0_put := goodIn_r _ [17, 18, 19, 20, 4, 5, 6, 37, 38, 39] (by decide +kernel) (by decide +kernel)
set_option maxRecDepth 20000 in
theorem gX7_aim_X0_put : GoodIn wsX7_aim (wsV RX7 161 RX0 yX0_put wsX0_put) := goodIn_app (goodIn_of _ (by decide +kernel)) ggX7_aim_X0_put
set_option maxRecDepth 20000 in
theorem ggX7_aim_X3_forget : GoodIn wsX7_aim wsX3_forget := goodIn_r _ [25, 26, 40, 41, 42, 43, 44] (by decide +kernel) (by decide +kernel)
set_option maxRecDepth 20000 in
theorem gX7_aim_X3_forget : GoodIn wsX7_aim (wsV RX7 78 RX3 yX3_forget wsX3_forget) := goodIn_app (goodIn_of _ (by decide +kernel)) ggX7_aim_X3_forget
theorem dX7_aim_0 : decode cX7_aim 0 = .ok (.iload_n 1, 1) := by decide +kernel
theorem dX7_aim_1 : decode cX7_aim 1 = .ok (.invokestatic 99, 3) := by decide +kernel
theorem dX7_aim_4 : decode cX7_aim 4 = .ok (.ifCond .eq 11, 3) := by decide +kernel
theorem dX7_aim_7 : decode cX7_aim 7 = .ok (.iload_n 2, 1) := by decide +kernel
theorem dX7_aim_8 : decode cX7_aim 8 = .ok (.iload_n 3, 1) := by decide +kernel
theorem dX7_aim_9 : decode cX7_aim 9 = .ok (.invokestatic 121, 3) := by decide +kernel
theorem dX7_aim_12 : decode cX7_aim 12 = .ok (.ifCond .ne 6, 3) := by decide +kernel
theorem dX7_aim_15 : decode cX7_aim 15 = .ok (.bipush (-2), 2) := by decide +kernel
theorem dX7_aim_17 : decode cX7_aim 17 = .ok (.ireturn, 1) := by decide +kernel
theorem dX7_aim_18 : decode cX7_aim 18 = .ok (.aload_n 0, 1) := by decide +kernel
theorem dX7_aim_19 : decode cX7_aim 19 = .ok (.getfield 25, 3) := by decide +kernel
theorem dX7_aim_22 : decode cX7_aim 22 = .ok (.iload_n 1, 1) := by decide +kernel
theorem dX7_aim_23 : decode cX7_aim 23 = .ok (.iload_n 2, 1) := by decide +kernel
theorem dX7_aim_24 : decode cX7_aim 24 = .ok (.iload_n 3, 1) := by decide +kernel
theorem dX7_aim_25 : decode cX7_aim 25 = .ok (.invokevirtual 161, 3) := by decide +kernel
theorem dX7_aim_28 : decode cX7_aim 28 = .ok (.aload_n 0, 1) := by decide +kernel
theorem dX7_aim_29 : decode cX7_aim 29 = .ok (.getfield 32, 3) := by decide +kernel
theorem dX7_aim_32 : decode cX7_aim 32 = .ok (.invokevirtual 78, 3) := by decide +kernel
theorem dX7_aim_35 : decode cX7_aim 35 = .ok (.iconst 1, 1) := by decide +kernel
theorem dX7_aim_36 : decode cX7_aim 36 = .ok (.ireturn, 1) := by decide +kernel
set_option maxRecDepth 20000 in
theorem ggX7_aimless_X0_spans : GoodIn wsX7_aimless wsX0_spans := goodIn_r _ [7, 8, 29, 30, 31] (by decide +kernel) (by decide +kernel)
set_option maxRecDepth 20000 in
theorem gX7_aimless_X0_spans : GoodIn wsX7_aimless (wsV RX7 165 RX0 yX0_spans wsX0_spans) := goodIn_app (goodIn_of _ (by decide +kernel)) ggX7_aimless_X0_spans
set_option maxRecDepth 20000 in
theorem ggX7_aimless_X0_clear : GoodIn wsX7_aimless wsX0_clear := goodIn_r _ [12, 8, 29, 30, 31] (by decide +kernel) (by decide +kernel)
set_option maxRecDepth 20000 in
theorem gX7_aimless_X0_clear : GoodIn wsX7_aimless (wsV RX7 168 RX0 yX0_clear wsX0_clear) := goodIn_app (goodIn_of _ (by decide +kernel)) ggX7_aimless_X0_clear
set_option maxRecDepth 20000 in
theorem ggX7_aimless_X3_forget : GoodIn wsX7_aimless wsX3_forget := goodIn_r _ [17, 18, 32, 33, 34, 35, 36] (by decide +kernel) (by decide +kernel)
set_option maxRecDepth 20000 in
theorem gX7_aimless_X3_forget : GoodIn wsX7_aimless (wsV RX7 78 RX3 yX3_forget wsX3_forget) := goodIn_app (goodIn_of _ (by decide +kernel)) ggX7_aimless_X3_forget
theorem dX7_aimless_0 : decode cX7_aimless 0 = .ok (.aload_n 0, 1) := by decide +kernel
