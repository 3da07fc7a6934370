theorem dX7_aimless_1 : decode cX7_aimless 1 = .ok (.getfield 25, 3) := by decide +kernel
theorem dX7_aimless_4 : decode cX7_aimless 4 = .ok (.invokevirtual 165, 3) := by decide +kernel
theorem dX7_aimless_7 : decode cX7_aimless 7 = .ok (.istore_n 1, 1) := by decide +kernel
theorem dX7_aimless_8 : decode cX7_aimless 8 = .ok (.aload_n 0, 1) := by decide +kernel
theorem dX7_aimless_9 : decode cX7_aimless 9 = .ok (.getfield 25, 3) := by decide +kernel
theorem dX7_aimless_12 : decode cX7_aimless 12 = .ok (.invokevirtual 168, 3) := by decide +kernel
theorem dX7_aimless_15 : decode cX7_aimless 15 = .ok (.aload_n 0, 1) := by decide +kernel
theorem dX7_aimless_16 : decode cX7_aimless 16 = .ok (.getfield 32, 3) := by decide +kernel
theorem dX7_aimless_19 : decode cX7_aimless 19 = .ok (.invokevirtual 78, 3) := by decide +kernel
theorem dX7_aimless_22 : decode cX7_aimless 22 = .ok (.iload_n 1, 1) := by decide +kernel
theorem dX7_aimless_23 : decode cX7_aimless 23 = .ok (.ireturn, 1) := by decide +kernel
set_option maxRecDepth 20000 in
theorem ggX7_plan_X7_isPlate : GoodIn wsX7_plan wsX7_isPlate := goodIn_r _ [9, 10, 61, 62, 63, 64, 65, 66, 67, 68, 69, 70] (by decide +kernel) (by decide +kernel)
set_option maxRecDepth 20000 in
theorem gX7_plan_X7_isPlate : GoodIn wsX7_plan (wsV RX7 69 RX7 yX7_isPlate wsX7_isPlate) := goodIn_app (goodIn_of _ (by decide +kernel)) ggX7_plan_X7_isPlate
set_option maxRecDepth 20000 in
theorem ggX7_plan_X7_makePlan : GoodIn wsX7_plan wsX7_makePlan := goodIn_r _ [14, 3, 15, 16, 17, 18, 1, 19, 20, 21, 22, 23, 24, 25, 26, 27, 28, 29, 30, 31, 32, 33, 34, 35, 36, 37, 38, 39, 40, 41, 42, 43, 44, 45, 46, 47, 48, 49, 50, 51, 52, 53, 54, 55, 56, 57, 58, 59, 60, 61, 62, 63, 64, 65, 66, 67, 68, 69, 70, 78, 79, 80, 81, 82, 83, 84, 85, 86, 87, 88, 71, 72, 73, 74, 75, 76, 77] (by decide +kernel) (by decide +kernel)
set_option maxRecDepth 20000 in
theorem gX7_plan_X7_makePlan : GoodIn wsX7_plan (wsV RX7 171 RX7 yX7_makePlan wsX7_makePlan) := goodIn_app (goodIn_of _ (by decide +kernel)) ggX7_plan_X7_makePlan
theorem dX7_plan_0 : decode cX7_plan 0 = .ok (.aload_n 0, 1) := by decide +kernel
theorem dX7_plan_1 : decode cX7_plan 1 = .ok (.iload_n 1, 1) := by decide +kernel
theorem dX7_plan_2 : decode cX7_plan 2 = .ok (.invokevirtual 69, 3) := by decide +kernel
theorem dX7_plan_5 : decode cX7_plan 5 = .ok (.ifCond .ne 6, 3) := by decide +kernel
theorem dX7_plan_8 : decode cX7_plan 8 = .ok (.bipush (-2), 2) := by decide +kernel
theorem dX7_plan_10 : decode cX7_plan 10 = .ok (.ireturn, 1) := by decide +kernel
theorem dX7_plan_11 : decode cX7_plan 11 = .ok (.aload_n 0, 1) := by decide +kernel
theorem dX7_plan_12 : decode cX7_plan 12 = .ok (.getfield 18, 3) := by decide +kernel
theorem dX7_plan_15 : decode cX7_plan 15 = .ok (.getfield 134, 3) := by decide +kernel
theorem dX7_plan_18 : decode cX7_plan 18 = .ok (.ifCond .ne 6, 3) := by decide +kernel
theorem dX7_plan_21 : decode cX7_plan 21 = .ok (.bipush (-3), 2) := by decide +kernel
theorem dX7_plan_23 : decode cX7_plan 23 = .ok (.ireturn, 1) := by decide +kernel
theorem dX7_plan_24 : decode cX7_plan 24 = .ok (.aload_n 0, 1) := by decide +kernel
theorem dX7_plan_25 : decode cX7_plan 25 = .ok (.iload_n 1, 1) := by decide +kernel
theorem dX7_plan_26 : decode cX7_plan 26 = .ok (.invokevirtual 171, 3) := by decide +kernel
theorem dX7_plan_29 : decode cX7_plan 29 = .ok (.aload_n 0, 1) := by decide +kernel
theorem dX7_plan_30 : decode cX7_plan 30 = .ok (.getfield 32, 3) := by decide +kernel
theorem dX7_plan_33 : decode cX7_plan 33 = .ok (.getfield 174, 3) := by decide +kernel
theorem dX7_plan_36 : decode cX7_plan 36 = .ok (.ireturn, 1) := by decide +kernel
set_option maxRecDepth 20000 in
theorem ggX7_planned_X7_isPlate : GoodIn wsX7_planned wsX7_isPlate := goodIn_r _ [8, 9, 64, 65, 66, 67, 68, 69, 70, 71, 72, 73] (by decide +kernel) (by decide +kernel)
set_option maxRecDepth 20000 in
theorem gX7_planned_X7_isPlate : GoodIn wsX7_planned (wsV RX7 69 RX7 yX7_isPlate wsX7_isPlate) := goodIn_app (goodIn_of _ (by decide +kernel)) ggX7_planned_X7_isPlate
set_option maxRecDepth 20000 in
theorem ggX7_planned_X7_makePlan : GoodIn wsX7_planned wsX7_makePlan := goodIn_r _ [13, 3, 14, 15, 16, 17, 1, 18, 19, 20, 21, 22, 23, 24, 25, 26, 27, 28, 29, 30, 31, 32, 33, 34, 35, 36, 37, 38, 39, 40, 41, 42, 43, 44, 45, 46, 47, 48, 49, 50, 51, 52, 53, 54, 55, 56, 57, 58, 59, 64, 65, 66, 67, 68, 69, 70, 71, 72, 73, 81, 82, 83, 84, 85, 86, 87, 88, 89, 90, 91, 74, 75, 76, 77, 78, 79, 80] (by decide +kernel) (by decide +kernel)
set_option maxRecDepth 20000 in
theorem gX7_planned_X7_makePlan : GoodIn wsX7_planned (wsV RX7 171 RX7 yX7_makePlan wsX7_makePlan) := goodIn_app (goodIn_of _ (by decide +kernel)) ggX7_planned_X7_makePlan
set_option maxRecDepth 20000 in
theorem ggX7_planned_X3_stripOf : GoodIn wsX7_planned wsX3_stripOf := goodIn_r _ [63, 29, 42, 81, 82, 83, 84, 85] (by decide +kernel) (by decide +kernel)
set_option maxRecDepth 20000 in
theorem gX7_planned_X3_stripOf : GoodIn wsX7_planned (wsV RX7 177 RX3 yX3_stripOf wsX3_stripOf) := goodIn_app (goodIn_of _ (by decide +kernel)) ggX7_planned_X3_stripOf
theorem dX7_planned_0 : decode cX7_planned 0 = .ok (.aload_n 0, 1) := by decide +kernel
theorem dX7_planned_1 : decode cX7_planned 1 = .ok (.iload_n 1, 1) := by decide +kernel
theorem dX7_planned_2 : decode cX7_planned 2 = .ok (.invokevirtual 69, 3) := by decide +kernel
theorem dX7_planned_5 : decode cX7_planned 5 = .ok (.ifCond .eq 7, 3) := by decide +kernel
theorem dX7_planned_8 : decode cX7_planned 8 = .ok (.iload_n 2, 1) := by decide +kernel
theorem dX7_planned_9 : decode cX7_planned 9 = .ok (.ifCond .ge 6, 3) := by decide +kernel
theorem dX7_planned_12 : decode cX7_planned 12 = .ok (.bipush (-2), 2) := by decide +kernel
theorem dX7_planned_14 : decode cX7_planned 14 = .ok (.ireturn, 1) := by decide +kernel
theorem dX7_planned_15 : decode cX7_planned 15 = .ok (.aload_n 0, 1) := by decide +kernel
theorem dX7_planned_16 : decode cX7_planned 16 = .ok (.getfield 18, 3) := by decide +kernel
theorem dX7_planned_19 : decode cX7_planned 19 = .ok (.getfield 134, 3) := by decide +kernel
theorem dX7_planned_22 : decode cX7_planned 22 = .ok (.ifCond .ne 6, 3) := by decide +kernel
theorem dX7_planned_25 : decode cX7_planned 25 = .ok (.bipush (-3), 2) := by decide +kernel
theorem dX7_planned_27 : decode cX7_planned 27 = .ok (.ireturn, 1) := by decide +kernel
theorem dX7_planned_28 : decode cX7_planned 28 = .ok (.aload_n 0, 1) := by decide +kernel
theorem dX7_planned_29 : decode cX7_planned 29 = .ok (.iload_n 1, 1) := by decide +kernel
theorem dX7_planned_30 : decode cX7_planned 30 = .ok (.invokevirtual 171, 3) := by decide +kernel
theorem dX7_planned_33 : decode cX7_planned 33 = .ok (.aload_n 0, 1) := by decide +kernel
theorem dX7_planned_34 : decode cX7_planned 34 = .ok (.getfield 32, 3) := by decide +kernel
theorem dX7_planned_37 : decode cX7_planned 37 = .ok (.iload_n 2, 1) := by decide +kernel
theorem dX7_planned_38 : decode cX7_planned 38 = .ok (.invokevirtual 177, 3) := by decide +kernel
theorem dX7_planned_41 : decode cX7_planned 41 = .ok (.ireturn, 1) := by decide +kernel
set_option maxRecDepth 20000 in
theorem ggX7_carve_X7_isPlate : GoodIn wsX7_carve wsX7_isPlate := goodIn_r _ [12, 13, 82, 83, 84, 85, 86, 87, 88, 89, 90, 91] (by decide +kernel) (by decide +kernel)
set_option maxRecDepth 20000 in
theorem gX7_carve_X7_isPlate : GoodIn wsX7_carve (wsV RX7 69 RX7 yX7_isPlate wsX7_isPlate) := goodIn_app (goodIn_of _ (by decide +kernel)) ggX7_carve_X7_isPlate
set_option maxRecDepth 20000 in
theorem ggX7_carve_X7_makePlan : GoodIn wsX7_carve wsX7_makePlan := goodIn_r _ [17, 3, 18, 5, 19, 20, 1, 21, 22, 23, 24, 25, 26, 27, 28, 29, 30, 31, 32, 33, 34, 35, 36, 37, 38, 39, 40, 41, 42, 43, 44, 45, 46, 47, 48, 49, 50, 51, 52, 53, 54, 55, 56, 57, 58, 59, 60, 61, 62, 82, 83, 84, 85, 86, 87, 88, 89, 90, 91, 99, 100, 101, 102, 103, 104, 105, 106, 107, 108, 109, 92, 93, 94, 95, 96, 97, 98] (by decide +kernel) (by decide +kernel)
set_option maxRecDepth 20000 in
theorem gX7_carve_X7_makePlan : GoodIn wsX7_carve (wsV RX7 171 RX7 yX7_makePlan wsX7_makePlan) := goodIn_app (goodIn_of _ (by decide +kernel)) ggX7_carve_X7_makePlan
set_option maxRecDepth 20000 in
theorem ggX7_carve_X4_takeOffAll : GoodIn wsX7_carve wsX4_takeOffAll := goodIn_r _ [67, 68, 69, 70, 66, 71, 72, 73, 74, 75, 11, 76, 104, 105, 106] (by decide +kernel) (by decide +kernel)
set_option maxRecDepth 20000 in
theorem gX7_carve_X4_takeOffAll : GoodIn wsX7_carve (wsV RX7 184 RX4 yX4_takeOffAll wsX4_takeOffAll) := goodIn_app (goodIn_of _ (by decide +kernel)) ggX7_carve_X4_takeOffAll
set_option maxRecDepth 20000 in
theorem ggX7_carve_X3_forget : GoodIn wsX7_carve wsX3_forget := goodIn_r _ [80, 81, 99, 100, 101, 102, 103] (by decide +kernel) (by decide +kernel)
set_option maxRecDepth 20000 in
theorem gX7_carve_X3_forget : GoodIn wsX7_carve (wsV RX7 78 RX3 yX3_forget wsX3_forget) := goodIn_app (goodIn_of _ (by decide +kernel)) ggX7_carve_X3_forget
theorem dX7_carve_0 : decode cX7_carve 0 = .ok (.aload_n 0, 1) := by decide +kernel
theorem dX7_carve_1 : decode cX7_carve 1 = .ok (.iload_n 1, 1) := by decide +kernel
theorem dX7_carve_2 : decode cX7_carve 2 = .ok (.invokevirtual 69, 3) := by decide +kernel
theorem dX7_carve_5 : decode cX7_carve 5 = .ok (.ifCond .ne 6, 3) := by decide +kernel
theorem dX7_carve_8 : decode cX7_carve 8 = .ok (.bipush (-2), 2) := by decide +kernel
theorem dX7_carve_10 : decode cX7_carve 10 = .ok (.ireturn, 1) := by decide +kernel
theorem dX7_carve_11 : decode cX7_carve 11 = .ok (.aload_n 0, 1) := by decide +kernel
theorem dX7_carve_12 : decode cX7_carve 12 = .ok (.getfield 18, 3) := by decide +kernel
theorem dX7_carve_15 : decode cX7_carve 15 = .ok (.getfield 134, 3) := by decide +kernel
theorem dX7_carve_18 : decode cX7_carve 18 = .ok (.ifCond .ne 6, 3) := by decide +kernel
theorem dX7_carve_21 : decode cX7_carve 21 = .ok (.bipush (-3), 2) := by decide +kernel
theorem dX7_carve_23 : decode cX7_carve 23 = .ok (.ireturn, 1) := by decide +kernel
theorem dX7_carve_24 : decode cX7_carve 24 = .ok (.aload_n 0, 1) := by decide +kernel
theorem dX7_carve_25 : decode cX7_carve 25 = .ok (.iload_n 1, 1) := by decide +kernel
theorem dX7_carve_26 : decode cX7_carve 26 = .ok (.invokevirtual 171, 3) := by decide +kernel
theorem dX7_carve_29 : decode cX7_carve 29 = .ok (.aload_n 0, 1) := by decide +kernel
theorem dX7_carve_30 : decode cX7_carve 30 = .ok (.getfield 32, 3) := by decide +kernel
theorem dX7_carve_33 : decode cX7_carve 33 = .ok (.getfield 174, 3) := by decide +kernel
theorem dX7_carve_36 : decode cX7_carve 36 = .ok (.istore_n 2, 1) := by decide +kernel
theorem dX7_carve_37 : decode cX7_carve 37 = .ok (.iload_n 2, 1) := by decide +kernel
theorem dX7_carve_38 : decode cX7_carve 38 = .ok (.iconst (-1), 1) := by decide +kernel
theorem dX7_carve_39 : decode cX7_carve 39 = .ok (.if_icmp .ne 6, 3) := by decide +kernel
theorem dX7_carve_42 : decode cX7_carve 42 = .ok (.bipush (-3), 2) := by decide +kernel
theorem dX7_carve_44 : decode cX7_carve 44 = .ok (.ireturn, 1) := by decide +kernel
theorem dX7_carve_45 : decode cX7_carve 45 = .ok (.aload_n 0, 1) := by decide +kernel
theorem dX7_carve_46 : decode cX7_carve 46 = .ok (.getfield 11, 3) := by decide +kernel
theorem dX7_carve_49 : decode cX7_carve 49 = .ok (.iload_n 1, 1) := by decide +kernel
theorem dX7_carve_50 : decode cX7_carve 50 = .ok (.aaload, 1) := by decide +kernel
theorem dX7_carve_51 : decode cX7_carve 51 = .ok (.getfield 81, 3) := by decide +kernel
theorem dX7_carve_54 : decode cX7_carve 54 = .ok (.iload_n 2, 1) := by decide +kernel
theorem dX7_carve_55 : decode cX7_carve 55 = .ok (.iadd, 1) := by decide +kernel
theorem dX7_carve_56 : decode cX7_carve 56 = .ok (.bipush 20, 2) := by decide +kernel
theorem dX7_carve_58 : decode cX7_carve 58 = .ok (.if_icmp .le 6, 3) := by decide +kernel
theorem dX7_carve_61 : decode cX7_carve 61 = .ok (.bipush (-4), 2) := by decide +kernel
theorem dX7_carve_63 : decode cX7_carve 63 = .ok (.ireturn, 1) := by decide +kernel
theorem dX7_carve_64 : decode cX7_carve 64 = .ok (.aload_n 0, 1) := by decide +kernel
theorem dX7_carve_65 : decode cX7_carve 65 = .ok (.getfield 11, 3) := by decide +kernel
theorem dX7_carve_68 : decode cX7_carve 68 = .ok (.iload_n 1, 1) := by decide +kernel
theorem dX7_carve_69 : decode cX7_carve 69 = .ok (.aaload, 1) := by decide +kernel
theorem dX7_carve_70 : decode cX7_carve 70 = .ok (.aload_n 0, 1) := by decide +kernel
theorem dX7_carve_71 : decode cX7_carve 71 = .ok (.getfield 32, 3) := by decide +kernel
theorem dX7_carve_74 : decode cX7_carve 74 = .ok (.getfield 181, 3) := by decide +kernel
theorem dX7_carve_77 : decode cX7_carve 77 = .ok (.invokevirtual 184, 3) := by decide +kernel
theorem dX7_carve_80 : decode cX7_carve 80 = .ok (.aload_n 0, 1) := by decide +kernel
theorem dX7_carve_81 : decode cX7_carve 81 = .ok (.getfield 32, 3) := by decide +kernel
theorem dX7_carve_84 : decode cX7_carve 84 = .ok (.invokevirtual 78, 3) := by decide +kernel
theorem dX7_carve_87 : decode cX7_carve 87 = .ok (.iload_n 2, 1) := by decide +kernel
theorem dX7_carve_88 : decode cX7_carve 88 = .ok (.ireturn, 1) := by decide +kernel
theorem dX7_off_0 : decode cX7_off 0 = .ok (.iload_n 1, 1) := by decide +kernel
theorem dX7_off_1 : decode cX7_off 1 = .ok (.ifCond .lt 10, 3) := by decide +kernel
theorem dX7_off_4 : decode cX7_off 4 = .ok (.iload_n 1, 1) := by decide +kernel
theorem dX7_off_5 : decode cX7_off 5 = .ok (.sipush 200, 3) := by decide +kernel
theorem dX7_off_8 : decode cX7_off 8 = .ok (.if_icmp .le 6, 3) := by decide +kernel
theorem dX7_off_11 : decode cX7_off 11 = .ok (.bipush (-2), 2) := by decide +kernel
theorem dX7_off_13 : decode cX7_off 13 = .ok (.ireturn, 1) := by decide +kernel
theorem dX7_off_14 : decode cX7_off 14 = .ok (.aload_n 0, 1) := by decide +kernel
theorem dX7_off_15 : decode cX7_off 15 = .ok (.getfield 57, 3) := by decide +kernel
theorem dX7_off_18 : decode cX7_off 18 = .ok (.istore_n 2, 1) := by decide +kernel
theorem dX7_off_19 : decode cX7_off 19 = .ok (.aload_n 0, 1) := by decide +kernel
theorem dX7_off_20 : decode cX7_off 20 = .ok (.iload_n 1, 1) := by decide +kernel
theorem dX7_off_21 : decode cX7_off 21 = .ok (.putfield 57, 3) := by decide +kernel
theorem dX7_off_24 : decode cX7_off 24 = .ok (.iload_n 2, 1) := by decide +kernel
theorem dX7_off_25 : decode cX7_off 25 = .ok (.ireturn, 1) := by decide +kernel
set_option maxRecDepth 20000 in
theorem ggX7_even_X7_isPlate : GoodIn wsX7_even wsX7_isPlate := goodIn_r _ [12, 13, 49, 50, 51, 52, 53, 54, 55, 56, 57, 58] (by decide +kernel) (by decide +kernel)
set_option maxRecDepth 20000 in
theorem gX7_even_X7_isPlate : GoodIn wsX7_even (wsV RX7 69 RX7 yX7_isPlate wsX7_isPlate) := goodIn_app (goodIn_of _ (by decide +kernel)) ggX7_even_X7_isPlate
set_option maxRecDepth 20000 in
theorem ggX7_even_X5_fillWholeValues : GoodIn wsX7_even wsX5_fillWholeValues := goodIn_r _ [17, 18, 19, 16, 20, 21, 22, 23, 24, 25, 26] (by decide +kernel) (by decide +kernel)
set_option maxRecDepth 20000 in
theorem gX7_even_X5_fillWholeValues : GoodIn wsX7_even (va_wsS RX7 146 yX5_fillWholeValues wsX5_fillWholeValues) := goodIn_app (goodIn_of _ (by decide +kernel)) ggX7_even_X5_fillWholeValues
set_option maxRecDepth 20000 in
theorem ggX7_even_X2_farthest : GoodIn wsX7_even wsX2_farthest := goodIn_r _ [31, 32, 33, 34, 35, 36, 37, 38, 39, 40, 41, 42, 30, 43, 44, 45, 46, 47, 16, 48, 59, 60, 61, 62, 63, 64, 65] (by decide +kernel) (by decide +kernel)
set_option maxRecDepth 20000 in
theorem gX7_even_X2_farthest : GoodIn wsX7_even (wsV RX7 188 RX2 yX2_farthest wsX2_farthest) := goodIn_app (goodIn_of _ (by decide +kernel)) ggX7_even_X2_farthest
theorem dX7_even_0 : decode cX7_even 0 = .ok (.aload_n 0, 1) := by decide +kernel
theorem dX7_even_1 : decode cX7_even 1 = .ok (.iload_n 1, 1) := by decide +kernel
theorem dX7_even_2 : decode cX7_even 2 = .ok (.invokevirtual 69, 3) := by decide +kernel
theorem dX7_even_5 : decode cX7_even 5 = .ok (.ifCond .eq 11, 3) := by decide +kernel
theorem dX7_even_8 : decode cX7_even 8 = .ok (.aload_n 0, 1) := by decide +kernel
theorem dX7_even_9 : decode cX7_even 9 = .ok (.iload_n 2, 1) := by decide +kernel
theorem dX7_even_10 : decode cX7_even 10 = .ok (.invokevirtual 69, 3) := by decide +kernel
theorem dX7_even_13 : decode cX7_even 13 = .ok (.ifCond .ne 6, 3) := by decide +kernel
theorem dX7_even_16 : decode cX7_even 16 = .ok (.bipush (-2), 2) := by decide +kernel
theorem dX7_even_18 : decode cX7_even 18 = .ok (.ireturn, 1) := by decide +kernel
theorem dX7_even_19 : decode cX7_even 19 = .ok (.aload_n 0, 1) := by decide +kernel
theorem dX7_even_20 : decode cX7_even 20 = .ok (.getfield 18, 3) := by decide +kernel
theorem dX7_even_23 : decode cX7_even 23 = .ok (.getfield 134, 3) := by decide +kernel
theorem dX7_even_26 : decode cX7_even 26 = .ok (.ifCond .ne 6, 3) := by decide +kernel
theorem dX7_even_29 : decode cX7_even 29 = .ok (.bipush (-3), 2) := by decide +kernel
theorem dX7_even_31 : decode cX7_even 31 = .ok (.ireturn, 1) := by decide +kernel
theorem dX7_even_32 : decode cX7_even 32 = .ok (.aload_n 0, 1) := by decide +kernel
theorem dX7_even_33 : decode cX7_even 33 = .ok (.getfield 43, 3) := by decide +kernel
theorem dX7_even_36 : decode cX7_even 36 = .ok (.aload_n 0, 1) := by decide +kernel
theorem dX7_even_37 : decode cX7_even 37 = .ok (.getfield 11, 3) := by decide +kernel
theorem dX7_even_40 : decode cX7_even 40 = .ok (.iload_n 1, 1) := by decide +kernel
theorem dX7_even_41 : decode cX7_even 41 = .ok (.aaload, 1) := by decide +kernel
theorem dX7_even_42 : decode cX7_even 42 = .ok (.getfield 75, 3) := by decide +kernel
theorem dX7_even_45 : decode cX7_even 45 = .ok (.iconst 0, 1) := by decide +kernel
theorem dX7_even_46 : decode cX7_even 46 = .ok (.invokestatic 146, 3) := by decide +kernel
theorem dX7_even_49 : decode cX7_even 49 = .ok (.aload_n 0, 1) := by decide +kernel
theorem dX7_even_50 : decode cX7_even 50 = .ok (.getfield 47, 3) := by decide +kernel
theorem dX7_even_53 : decode cX7_even 53 = .ok (.aload_n 0, 1) := by decide +kernel
theorem dX7_even_54 : decode cX7_even 54 = .ok (.getfield 11, 3) := by decide +kernel
theorem dX7_even_57 : decode cX7_even 57 = .ok (.iload_n 2, 1) := by decide +kernel
theorem dX7_even_58 : decode cX7_even 58 = .ok (.aaload, 1) := by decide +kernel
theorem dX7_even_59 : decode cX7_even 59 = .ok (.getfield 75, 3) := by decide +kernel
theorem dX7_even_62 : decode cX7_even 62 = .ok (.iconst 0, 1) := by decide +kernel
theorem dX7_even_63 : decode cX7_even 63 = .ok (.invokestatic 146, 3) := by decide +kernel
theorem dX7_even_66 : decode cX7_even 66 = .ok (.aload_n 0, 1) := by decide +kernel
theorem dX7_even_67 : decode cX7_even 67 = .ok (.getfield 18, 3) := by decide +kernel
theorem dX7_even_70 : decode cX7_even 70 = .ok (.aload_n 0, 1) := by decide +kernel
theorem dX7_even_71 : decode cX7_even 71 = .ok (.getfield 43, 3) := by decide +kernel
theorem dX7_even_74 : decode cX7_even 74 = .ok (.aload_n 0, 1) := by decide +kernel
theorem dX7_even_75 : decode cX7_even 75 = .ok (.getfield 47, 3) := by decide +kernel
theorem dX7_even_78 : decode cX7_even 78 = .ok (.invokevirtual 188, 3) := by decide +kernel
theorem dX7_even_81 : decode cX7_even 81 = .ok (.aload_n 0, 1) := by decide +kernel
theorem dX7_even_82 : decode cX7_even 82 = .ok (.getfield 57, 3) := by decide +kernel
theorem dX7_even_85 : decode cX7_even 85 = .ok (.if_icmp .gt 7, 3) := by decide +kernel
theorem dX7_even_88 : decode cX7_even 88 = .ok (.iconst 1, 1) := by decide +kernel
theorem dX7_even_89 : decode cX7_even 89 = .ok (.goto 4, 3) := by decide +kernel
theorem dX7_even_92 : decode cX7_even 92 = .ok (.iconst 0, 1) := by decide +kernel
theorem dX7_even_93 : decode cX7_even 93 = .ok (.ireturn, 1) := by decide +kernel
set_option maxRecDepth 20000 in
theorem ggX7_count_X0_spans : GoodIn wsX7_count wsX0_spans := goodIn_r _ [9, 10, 35, 36, 37] (by decide +kernel) (by decide +kernel)
set_option maxRecDepth 20000 in
theorem gX7_count_X0_spans : GoodIn wsX7_count (wsV RX7 165 RX0 yX0_spans wsX0_spans) := goodIn_app (goodIn_of _ (by decide +kernel)) ggX7_count_X0_spans
set_option maxRecDepth 20000 in
theorem ggX7_count_X7_shavingsInLogs : GoodIn wsX7_count wsX7_shavingsInLogs := goodIn_r _ [15, 1, 16, 17, 18, 19, 20, 21, 22, 23, 24, 25, 26, 27, 38, 39, 40] (by decide +kernel) (by decide +kernel)
set_option maxRecDepth 20000 in
theorem gX7_count_X7_shavingsInLogs : GoodIn wsX7_count (wsV RX7 192 RX7 yX7_shavingsInLogs wsX7_shavingsInLogs) := goodIn_app (goodIn_of _ (by decide +kernel)) ggX7_count_X7_shavingsInLogs
theorem dX7_count_0 : decode cX7_count 0 = .ok (.iload_n 1, 1) := by decide +kernel
theorem dX7_count_1 : decode cX7_count 1 = .ok (.tableswitch 57 0 3 #[31, 36, 44, 52], 31) := by decide +kernel
theorem dX7_count_32 : decode cX7_count 32 = .ok (.aload_n 0, 1) := by decide +kernel
theorem dX7_count_33 : decode cX7_count 33 = .ok (.getfield 50, 3) := by decide +kernel
theorem dX7_count_36 : decode cX7_count 36 = .ok (.ireturn, 1) := by decide +kernel
theorem dX7_count_37 : decode cX7_count 37 = .ok (.aload_n 0, 1) := by decide +kernel
theorem dX7_count_38 : decode cX7_count 38 = .ok (.getfield 18, 3) := by decide +kernel
theorem dX7_count_41 : decode cX7_count 41 = .ok (.getfield 124, 3) := by decide +kernel
theorem dX7_count_44 : decode cX7_count 44 = .ok (.ireturn, 1) := by decide +kernel
theorem dX7_count_45 : decode cX7_count 45 = .ok (.aload_n 0, 1) := by decide +kernel
theorem dX7_count_46 : decode cX7_count 46 = .ok (.getfield 25, 3) := by decide +kernel
theorem dX7_count_49 : decode cX7_count 49 = .ok (.invokevirtual 165, 3) := by decide +kernel
theorem dX7_count_52 : decode cX7_count 52 = .ok (.ireturn, 1) := by decide +kernel
theorem dX7_count_53 : decode cX7_count 53 = .ok (.aload_n 0, 1) := by decide +kernel
theorem dX7_count_54 : decode cX7_count 54 = .ok (.invokevirtual 192, 3) := by decide +kernel
theorem dX7_count_57 : decode cX7_count 57 = .ok (.ireturn, 1) := by decide +kernel
theorem dX7_count_58 : decode cX7_count 58 = .ok (.bipush (-2), 2) := by decide +kernel
theorem dX7_count_60 : decode cX7_count 60 = .ok (.ireturn, 1) := by decide +kernel
theorem dX7_shavingsInLogs_0 : decode cX7_shavingsInLogs 0 = .ok (.iconst 0, 1) := by decide +kernel
theorem dX7_shavingsInLogs_1 : decode cX7_shavingsInLogs 1 = .ok (.istore_n 1, 1) := by decide +kernel
theorem dX7_shavingsInLogs_2 : decode cX7_shavingsInLogs 2 = .ok (.iconst 0, 1) := by decide +kernel
theorem dX7_shavingsInLogs_3 : decode cX7_shavingsInLogs 3 = .ok (.istore_n 2, 1) := by decide +kernel
theorem dX7_shavingsInLogs_4 : decode cX7_shavingsInLogs 4 = .ok (.iload_n 2, 1) := by decide +kernel
theorem dX7_shavingsInLogs_5 : decode cX7_shavingsInLogs 5 = .ok (.aload_n 0, 1) := by decide +kernel
theorem dX7_shavingsInLogs_6 : decode cX7_shavingsInLogs 6 = .ok (.getfield 50, 3) := by decide +kernel
theorem dX7_shavingsInLogs_9 : decode cX7_shavingsInLogs 9 = .ok (.if_icmp .ge 21, 3) := by decide +kernel
theorem dX7_shavingsInLogs_12 : decode cX7_shavingsInLogs 12 = .ok (.iload_n 1, 1) := by decide +kernel
theorem dX7_shavingsInLogs_13 : decode cX7_shavingsInLogs 13 = .ok (.aload_n 0, 1) := by decide +kernel
theorem dX7_shavingsInLogs_14 : decode cX7_shavingsInLogs 14 = .ok (.getfield 11, 3) := by decide +kernel
theorem dX7_shavingsInLogs_17 : decode cX7_shavingsInLogs 17 = .ok (.iload_n 2, 1) := by decide +kernel
theorem dX7_shavingsInLogs_18 : decode cX7_shavingsInLogs 18 = .ok (.aaload, 1) := by decide +kernel
theorem dX7_shavingsInLogs_19 : decode cX7_shavingsInLogs 19 = .ok (.getfield 81, 3) := by decide +kernel
theorem dX7_shavingsInLogs_22 : decode cX7_shavingsInLogs 22 = .ok (.iadd, 1) := by decide +kernel
theorem dX7_shavingsInLogs_23 : decode cX7_shavingsInLogs 23 = .ok (.istore_n 1, 1) := by decide +kernel
theorem dX7_shavingsInLogs_24 : decode cX7_shavingsInLogs 24 = .ok (.iinc 2 1, 3) := by decide +kernel
theorem dX7_shavingsInLogs_27 : decode cX7_shavingsInLogs 27 = .ok (.goto (-23), 3) := by decide +kernel
theorem dX7_shavingsInLogs_30 : decode cX7_shavingsInLogs 30 = .ok (.iload_n 1, 1) := by decide +kernel
theorem dX7_shavingsInLogs_31 : decode cX7_shavingsInLogs 31 = .ok (.ireturn, 1) := by decide +kernel
set_option maxRecDepth 20000 in
theorem ggX7_makePlan_X3_search : GoodIn wsX7_makePlan wsX3_search := goodIn_r _ [12, 13, 14, 15, 16, 17, 18, 19, 20, 21, 11, 22, 23, 24, 25, 26, 27, 28, 29, 30, 31, 32, 33, 34, 35, 36, 37, 38, 39, 40, 41, 42, 43, 44, 45, 46, 47, 48, 59, 60, 61, 62, 63, 67, 68, 69, 70, 71, 72, 73, 74, 75, 76] (by decide +kernel) (by decide +kernel)
set_option maxRecDepth 20000 in
theorem gX7_makePlan_X3_search : GoodIn wsX7_makePlan (wsV RX7 198 RX3 yX3_search wsX3_search) := goodIn_app (goodIn_of _ (by decide +kernel)) ggX7_makePlan_X3_search
theorem dX7_makePlan_0 : decode cX7_makePlan 0 = .ok (.aload_n 0, 1) := by decide +kernel
theorem dX7_makePlan_1 : decode cX7_makePlan 1 = .ok (.getfield 32, 3) := by decide +kernel
theorem dX7_makePlan_4 : decode cX7_makePlan 4 = .ok (.getfield 195, 3) := by decide +kernel
theorem dX7_makePlan_7 : decode cX7_makePlan 7 = .ok (.iload_n 1, 1) := by decide +kernel
theorem dX7_makePlan_8 : decode cX7_makePlan 8 = .ok (.if_icmp .eq 39, 3) := by decide +kernel
theorem dX7_makePlan_11 : decode cX7_makePlan 11 = .ok (.aload_n 0, 1) := by decide +kernel
theorem dX7_makePlan_12 : decode cX7_makePlan 12 = .ok (.getfield 32, 3) := by decide +kernel
theorem dX7_makePlan_15 : decode cX7_makePlan 15 = .ok (.aload_n 0, 1) := by decide +kernel
theorem dX7_makePlan_16 : decode cX7_makePlan 16 = .ok (.getfield 11, 3) := by decide +kernel
theorem dX7_makePlan_19 : decode cX7_makePlan 19 = .ok (.iload_n 1, 1) := by decide +kernel
theorem dX7_makePlan_20 : decode cX7_makePlan 20 = .ok (.aaload, 1) := by decide +kernel
theorem dX7_makePlan_21 : decode cX7_makePlan 21 = .ok (.getfield 75, 3) := by decide +kernel
theorem dX7_makePlan_24 : decode cX7_makePlan 24 = .ok (.aload_n 0, 1) := by decide +kernel
theorem dX7_makePlan_25 : decode cX7_makePlan 25 = .ok (.getfield 54, 3) := by decide +kernel
theorem dX7_makePlan_28 : decode cX7_makePlan 28 = .ok (.aload_n 0, 1) := by decide +kernel
theorem dX7_makePlan_29 : decode cX7_makePlan 29 = .ok (.getfield 18, 3) := by decide +kernel
theorem dX7_makePlan_32 : decode cX7_makePlan 32 = .ok (.aload_n 0, 1) := by decide +kernel
theorem dX7_makePlan_33 : decode cX7_makePlan 33 = .ok (.getfield 25, 3) := by decide +kernel
theorem dX7_makePlan_36 : decode cX7_makePlan 36 = .ok (.invokevirtual 198, 3) := by decide +kernel
theorem dX7_makePlan_39 : decode cX7_makePlan 39 = .ok (.aload_n 0, 1) := by decide +kernel
theorem dX7_makePlan_40 : decode cX7_makePlan 40 = .ok (.getfield 32, 3) := by decide +kernel
theorem dX7_makePlan_43 : decode cX7_makePlan 43 = .ok (.iload_n 1, 1) := by decide +kernel
theorem dX7_makePlan_44 : decode cX7_makePlan 44 = .ok (.putfield 195, 3) := by decide +kernel
theorem dX7_makePlan_47 : decode cX7_makePlan 47 = .ok (.return_, 1) := by decide +kernel
theorem dX7_isPlate_0 : decode cX7_isPlate 0 = .ok (.iload_n 1, 1) := by decide +kernel
theorem dX7_isPlate_1 : decode cX7_isPlate 1 = .ok (.ifCond .lt 15, 3) := by decide +kernel
theorem dX7_isPlate_4 : decode cX7_isPlate 4 = .ok (.iload_n 1, 1) := by decide +kernel
theorem dX7_isPlate_5 : decode cX7_isPlate 5 = .ok (.aload_n 0, 1) := by decide +kernel
theorem dX7_isPlate_6 : decode cX7_isPlate 6 = .ok (.getfield 50, 3) := by decide +kernel
theorem dX7_isPlate_9 : decode cX7_isPlate 9 = .ok (.if_icmp .ge 7, 3) := by decide +kernel
theorem dX7_isPlate_12 : decode cX7_isPlate 12 = .ok (.iconst 1, 1) := by decide +kernel
theorem dX7_isPlate_13 : decode cX7_isPlate 13 = .ok (.goto 4, 3) := by decide +kernel
theorem dX7_isPlate_16 : decode cX7_isPlate 16 = .ok (.iconst 0, 1) := by decide +kernel
theorem dX7_isPlate_17 : decode cX7_isPlate 17 = .ok (.ireturn, 1) := by decide +kernel
theorem dX7_isStrip_0 : decode cX7_isStrip 0 = .ok (.iload_n 0, 1) := by decide +kernel
theorem dX7_isStrip_1 : decode cX7_isStrip 1 = .ok (.ifCond .lt 12, 3) := by decide +kernel
theorem dX7_isStrip_4 : decode cX7_isStrip 4 = .ok (.iload_n 0, 1) := by decide +kernel
theorem dX7_isStrip_5 : decode cX7_isStrip 5 = .ok (.iconst 4, 1) := by decide +kernel
theorem dX7_isStrip_6 : decode cX7_isStrip 6 = .ok (.if_icmp .ge 7, 3) := by decide +kernel
theorem dX7_isStrip_9 : decode cX7_isStrip 9 = .ok (.iconst 1, 1) := by decide +kernel
theorem dX7_isStrip_10 : decode cX7_isStrip 10 = .ok (.goto 4, 3) := by decide +kernel
theorem dX7_isStrip_13 : decode cX7_isStrip 13 = .ok (.iconst 0, 1) := by decide +kernel
theorem dX7_isStrip_14 : decode cX7_isStrip 14 = .ok (.ireturn, 1) := by decide +kernel
theorem dX7_isTone_0 : decode cX7_isTone 0 = .ok (.iload_n 0, 1) := by decide +kernel
theorem dX7_isTone_1 : decode cX7_isTone 1 = .ok (.ifCond .lt 12, 3) := by decide +kernel
theorem dX7_isTone_4 : decode cX7_isTone 4 = .ok (.iload_n 0, 1) := by decide +kernel
theorem dX7_isTone_5 : decode cX7_isTone 5 = .ok (.iconst 4, 1) := by decide +kernel
theorem dX7_isTone_6 : decode cX7_isTone 6 = .ok (.if_icmp .ge 7, 3) := by decide +kernel
theorem dX7_isTone_9 : decode cX7_isTone 9 = .ok (.iconst 1, 1) := by decide +kernel
theorem dX7_isTone_10 : decode cX7_isTone 10 = .ok (.goto 4, 3) := by decide +kernel
theorem dX7_isTone_13 : decode cX7_isTone 13 = .ok (.iconst 0, 1) := by decide +kernel
theorem dX7_isTone_14 : decode cX7_isTone 14 = .ok (.ireturn, 1) := by decide +kernel
theorem dX7_isThickness_0 : decode cX7_isThickness 0 = .ok (.iload_n 0, 1) := by decide +kernel
theorem dX7_isThickness_1 : decode cX7_isThickness 1 = .ok (.iconst 1, 1) := by decide +kernel
theorem dX7_isThickness_2 : decode cX7_isThickness 2 = .ok (.if_icmp .lt 13, 3) := by decide +kernel
theorem dX7_isThickness_5 : decode cX7_isThickness 5 = .ok (.iload_n 0, 1) := by decide +kernel
theorem dX7_isThickness_6 : decode cX7_isThickness 6 = .ok (.bipush 9, 2) := by decide +kernel
theorem dX7_isThickness_8 : decode cX7_isThickness 8 = .ok (.if_icmp .gt 7, 3) := by decide +kernel
theorem dX7_isThickness_11 : decode cX7_isThickness 11 = .ok (.iconst 1, 1) := by decide +kernel
theorem dX7_isThickness_12 : decode cX7_isThickness 12 = .ok (.goto 4, 3) := by decide +kernel
theorem dX7_isThickness_15 : decode cX7_isThickness 15 = .ok (.iconst 0, 1) := by decide +kernel
theorem dX7_isThickness_16 : decode cX7_isThickness 16 = .ok (.ireturn, 1) := by decide +kernel
theorem dX7_isWood_0 : decode cX7_isWood 0 = .ok (.iload_n 0, 1) := by decide +kernel
theorem dX7_isWood_1 : decode cX7_isWood 1 = .ok (.iconst 1, 1) := by decide +kernel
theorem dX7_isWood_2 : decode cX7_isWood 2 = .ok (.if_icmp .lt 24, 3) := by decide +kernel
theorem dX7_isWood_5 : decode cX7_isWood 5 = .ok (.iload_n 0, 1) := by decide +kernel
theorem dX7_isWood_6 : decode cX7_isWood 6 = .ok (.bipush 9, 2) := by decide +kernel
theorem dX7_isWood_8 : decode cX7_isWood 8 = .ok (.if_icmp .gt 18, 3) := by decide +kernel
theorem dX7_isWood_11 : decode cX7_isWood 11 = .ok (.iload_n 1, 1) := by decide +kernel
theorem dX7_isWood_12 : decode cX7_isWood 12 = .ok (.iconst 1, 1) := by decide +kernel
theorem dX7_isWood_13 : decode cX7_isWood 13 = .ok (.if_icmp .lt 13, 3) := by decide +kernel
theorem dX7_isWood_16 : decode cX7_isWood 16 = .ok (.iload_n 1, 1) := by decide +kernel
theorem dX7_isWood_17 : decode cX7_isWood 17 = .ok (.bipush 9, 2) := by decide +kernel
theorem dX7_isWood_19 : decode cX7_isWood 19 = .ok (.if_icmp .gt 7, 3) := by decide +kernel
theorem dX7_isWood_22 : decode cX7_isWood 22 = .ok (.iconst 1, 1) := by decide +kernel
theorem dX7_isWood_23 : decode cX7_isWood 23 = .ok (.goto 4, 3) := by decide +kernel
theorem dX7_isWood_26 : decode cX7_isWood 26 = .ok (.iconst 0, 1) := by decide +kernel
theorem dX7_isWood_27 : decode cX7_isWood 27 = .ok (.ireturn, 1) := by decide +kernel
theorem dX7_isNumber_0 : decode cX7_isNumber 0 = .ok (.iload_n 0, 1) := by decide +kernel
theorem dX7_isNumber_1 : decode cX7_isNumber 1 = .ok (.ifCond .lt 14, 3) := by decide +kernel
theorem dX7_isNumber_4 : decode cX7_isNumber 4 = .ok (.iload_n 0, 1) := by decide +kernel
theorem dX7_isNumber_5 : decode cX7_isNumber 5 = .ok (.sipush 500, 3) := by decide +kernel
theorem dX7_isNumber_8 : decode cX7_isNumber 8 = .ok (.if_icmp .gt 7, 3) := by decide +kernel
theorem dX7_isNumber_11 : decode cX7_isNumber 11 = .ok (.iconst 1, 1) := by decide +kernel
theorem dX7_isNumber_12 : decode cX7_isNumber 12 = .ok (.goto 4, 3) := by decide +kernel
theorem dX7_isNumber_15 : decode cX7_isNumber 15 = .ok (.iconst 0, 1) := by decide +kernel
theorem dX7_isNumber_16 : decode cX7_isNumber 16 = .ok (.ireturn, 1) := by decide +kernel
set_option maxRecDepth 20000 in
theorem ggX7_isSpan_X7_isNumber : GoodIn wsX7_isSpan wsX7_isNumber := goodIn_r _ [4] (by decide +kernel) (by decide +kernel)
set_option maxRecDepth 20000 in
theorem gX7_isSpan_X7_isNumber : GoodIn wsX7_isSpan (va_wsS RX7 112 yX7_isNumber wsX7_isNumber) := goodIn_app (goodIn_of _ (by decide +kernel)) ggX7_isSpan_X7_isNumber
theorem dX7_isSpan_0 : decode cX7_isSpan 0 = .ok (.iload_n 0, 1) := by decide +kernel
theorem dX7_isSpan_1 : decode cX7_isSpan 1 = .ok (.invokestatic 112, 3) := by decide +kernel
theorem dX7_isSpan_4 : decode cX7_isSpan 4 = .ok (.ifCond .eq 19, 3) := by decide +kernel
theorem dX7_isSpan_7 : decode cX7_isSpan 7 = .ok (.iload_n 1, 1) := by decide +kernel
theorem dX7_isSpan_8 : decode cX7_isSpan 8 = .ok (.invokestatic 112, 3) := by decide +kernel
theorem dX7_isSpan_11 : decode cX7_isSpan 11 = .ok (.ifCond .eq 12, 3) := by decide +kernel
theorem dX7_isSpan_14 : decode cX7_isSpan 14 = .ok (.iload_n 0, 1) := by decide +kernel
theorem dX7_isSpan_15 : decode cX7_isSpan 15 = .ok (.iload_n 1, 1) := by decide +kernel
theorem dX7_isSpan_16 : decode cX7_isSpan 16 = .ok (.if_icmp .gt 7, 3) := by decide +kernel
theorem dX7_isSpan_19 : decode cX7_isSpan 19 = .ok (.iconst 1, 1) := by decide +kernel
theorem dX7_isSpan_20 : decode cX7_isSpan 20 = .ok (.goto 4, 3) := by decide +kernel
theorem dX7_isSpan_23 : decode cX7_isSpan 23 = .ok (.iconst 0, 1) := by decide +kernel
theorem dX7_isSpan_24 : decode cX7_isSpan 24 = .ok (.ireturn, 1) := by decide +kernel
theorem dX7_isOneOfTwo_0 : decode cX7_isOneOfTwo 0 = .ok (.iload_n 0, 1) := by decide +kernel
theorem dX7_isOneOfTwo_1 : decode cX7_isOneOfTwo 1 = .ok (.ifCond .eq 8, 3) := by decide +kernel
theorem dX7_isOneOfTwo_4 : decode cX7_isOneOfTwo 4 = .ok (.iload_n 0, 1) := by decide +kernel
theorem dX7_isOneOfTwo_5 : decode cX7_isOneOfTwo 5 = .ok (.iconst 1, 1) := by decide +kernel
theorem dX7_isOneOfTwo_6 : decode cX7_isOneOfTwo 6 = .ok (.if_icmp .ne 7, 3) := by decide +kernel
theorem dX7_isOneOfTwo_9 : decode cX7_isOneOfTwo 9 = .ok (.iconst 1, 1) := by decide +kernel
theorem dX7_isOneOfTwo_10 : decode cX7_isOneOfTwo 10 = .ok (.goto 4, 3) := by decide +kernel
theorem dX7_isOneOfTwo_13 : decode cX7_isOneOfTwo 13 = .ok (.iconst 0, 1) := by decide +kernel
theorem dX7_isOneOfTwo_14 : decode cX7_isOneOfTwo 14 = .ok (.ireturn, 1) := by decide +kernel
theorem dX8_init_0 : decode cX8_init 0 = .ok (.aload_n 0, 1) := by decide +kernel
theorem dX8_init_1 : decode cX8_init 1 = .ok (.invokespecial 1, 3) := by decide +kernel
theorem dX8_init_4 : decode cX8_init 4 = .ok (.aload_n 0, 1) := by decide +kernel
theorem dX8_init_5 : decode cX8_init 5 = .ok (.bipush 16, 2) := by decide +kernel
theorem dX8_init_7 : decode cX8_init 7 = .ok (.newarray .int, 2) := by decide +kernel
theorem dX8_init_9 : decode cX8_init 9 = .ok (.putfield 7, 3) := by decide +kernel
theorem dX8_init_12 : decode cX8_init 12 = .ok (.aload_n 0, 1) := by decide +kernel
theorem dX8_init_13 : decode cX8_init 13 = .ok (.iconst 2, 1) := by decide +kernel
theorem dX8_init_14 : decode cX8_init 14 = .ok (.putfield 13, 3) := by decide +kernel
theorem dX8_init_17 : decode cX8_init 17 = .ok (.aload_n 0, 1) := by decide +kernel
theorem dX8_init_18 : decode cX8_init 18 = .ok (.iconst 4, 1) := by decide +kernel
theorem dX8_init_19 : decode cX8_init 19 = .ok (.newarray .int, 2) := by decide +kernel
theorem dX8_init_21 : decode cX8_init 21 = .ok (.putfield 17, 3) := by decide +kernel
theorem dX8_init_24 : decode cX8_init 24 = .ok (.aload_n 0, 1) := by decide +kernel
theorem dX8_init_25 : decode cX8_init 25 = .ok (.bipush 80, 2) := by decide +kernel
theorem dX8_init_27 : decode cX8_init 27 = .ok (.newarray .int, 2) := by decide +kernel
theorem dX8_init_29 : decode cX8_init 29 = .ok (.putfield 20, 3) := by decide +kernel
theorem dX8_init_32 : decode cX8_init 32 = .ok (.aload_n 0, 1) := by decide +kernel
theorem dX8_init_33 : decode cX8_init 33 = .ok (.bipush 48, 2) := by decide +kernel
theorem dX8_init_35 : decode cX8_init 35 = .ok (.newarray .int, 2) := by decide +kernel
theorem dX8_init_37 : decode cX8_init 37 = .ok (.putfield 23, 3) := by decide +kernel
theorem dX8_init_40 : decode cX8_init 40 = .ok (.aload_n 0, 1) := by decide +kernel
theorem dX8_init_41 : decode cX8_init 41 = .ok (.bipush 12, 2) := by decide +kernel
theorem dX8_init_43 : decode cX8_init 43 = .ok (.newarray .int, 2) := by decide +kernel
theorem dX8_init_45 : decode cX8_init 45 = .ok (.putfield 26, 3) := by decide +kernel
theorem dX8_init_48 : decode cX8_init 48 = .ok (.aload_n 0, 1) := by decide +kernel
theorem dX8_init_49 : decode cX8_init 49 = .ok (.bipush 12, 2) := by decide +kernel
theorem dX8_init_51 : decode cX8_init 51 = .ok (.newarray .int, 2) := by decide +kernel
theorem dX8_init_53 : decode cX8_init 53 = .ok (.putfield 29, 3) := by decide +kernel
theorem dX8_init_56 : decode cX8_init 56 = .ok (.aload_n 0, 1) := by decide +kernel
theorem dX8_init_57 : decode cX8_init 57 = .ok (.bipush 12, 2) := by decide +kernel
theorem dX8_init_59 : decode cX8_init 59 = .ok (.newarray .int, 2) := by decide +kernel
theorem dX8_init_61 : decode cX8_init 61 = .ok (.putfield 32, 3) := by decide +kernel
theorem dX8_init_64 : decode cX8_init 64 = .ok (.aload_n 0, 1) := by decide +kernel
theorem dX8_init_65 : decode cX8_init 65 = .ok (.iconst 4, 1) := by decide +kernel
theorem dX8_init_66 : decode cX8_init 66 = .ok (.newarray .boolean, 2) := by decide +kernel
theorem dX8_init_68 : decode cX8_init 68 = .ok (.putfield 35, 3) := by decide +kernel
theorem dX8_init_71 : decode cX8_init 71 = .ok (.aload_n 0, 1) := by decide +kernel
theorem dX8_init_72 : decode cX8_init 72 = .ok (.iconst 4, 1) := by decide +kernel
theorem dX8_init_73 : decode cX8_init 73 = .ok (.newarray .int, 2) := by decide +kernel
theorem dX8_init_75 : decode cX8_init 75 = .ok (.putfield 39, 3) := by decide +kernel
theorem dX8_init_78 : decode cX8_init 78 = .ok (.aload_n 0, 1) := by decide +kernel
theorem dX8_init_79 : decode cX8_init 79 = .ok (.iconst 4, 1) := by decide +kernel
theorem dX8_init_80 : decode cX8_init 80 = .ok (.newarray .int, 2) := by decide +kernel
theorem dX8_init_82 : decode cX8_init 82 = .ok (.putfield 42, 3) := by decide +kernel
theorem dX8_init_85 : decode cX8_init 85 = .ok (.aload_n 0, 1) := by decide +kernel
theorem dX8_init_86 : decode cX8_init 86 = .ok (.iconst 5, 1) := by decide +kernel
theorem dX8_init_87 : decode cX8_init 87 = .ok (.putfield 45, 3) := by decide +kernel
theorem dX8_init_90 : decode cX8_init 90 = .ok (.aload_n 0, 1) := by decide +kernel
theorem dX8_init_91 : decode cX8_init 91 = .ok (.iconst 4, 1) := by decide +kernel
theorem dX8_init_92 : decode cX8_init 92 = .ok (.newarray .int, 2) := by decide +kernel
theorem dX8_init_94 : decode cX8_init 94 = .ok (.putfield 48, 3) := by decide +kernel
theorem dX8_init_97 : decode cX8_init 97 = .ok (.aload_n 0, 1) := by decide +kernel
theorem dX8_init_98 : decode cX8_init 98 = .ok (.bipush 81, 2) := by decide +kernel
theorem dX8_init_100 : decode cX8_init 100 = .ok (.newarray .int, 2) := by decide +kernel
theorem dX8_init_102 : decode cX8_init 102 = .ok (.putfield 51, 3) := by decide +kernel
theorem dX8_init_105 : decode cX8_init 105 = .ok (.aload_n 0, 1) := by decide +kernel
theorem dX8_init_106 : decode cX8_init 106 = .ok (.sipush 501, 3) := by decide +kernel
theorem dX8_init_109 : decode cX8_init 109 = .ok (.newarray .int, 2) := by decide +kernel
theorem dX8_init_111 : decode cX8_init 111 = .ok (.putfield 54, 3) := by decide +kernel
theorem dX8_init_114 : decode cX8_init 114 = .ok (.aload_n 0, 1) := by decide +kernel
theorem dX8_init_115 : decode cX8_init 115 = .ok (.iconst 4, 1) := by decide +kernel
theorem dX8_init_116 : decode cX8_init 116 = .ok (.newarray .int, 2) := by decide +kernel
theorem dX8_init_118 : decode cX8_init 118 = .ok (.putfield 57, 3) := by decide +kernel
theorem dX8_init_121 : decode cX8_init 121 = .ok (.return_, 1) := by decide +kernel
theorem dX8_in_0 : decode cX8_in 0 = .ok (.iload_n 0, 1) := by decide +kernel
theorem dX8_in_1 : decode cX8_in 1 = .ok (.iload_n 1, 1) := by decide +kernel
theorem dX8_in_2 : decode cX8_in 2 = .ok (.if_icmp .lt 12, 3) := by decide +kernel
theorem dX8_in_5 : decode cX8_in 5 = .ok (.iload_n 0, 1) := by decide +kernel
theorem dX8_in_6 : decode cX8_in 6 = .ok (.iload_n 2, 1) := by decide +kernel
theorem dX8_in_7 : decode cX8_in 7 = .ok (.if_icmp .gt 7, 3) := by decide +kernel
theorem dX8_in_10 : decode cX8_in 10 = .ok (.iconst 1, 1) := by decide +kernel
theorem dX8_in_11 : decode cX8_in 11 = .ok (.goto 4, 3) := by decide +kernel
theorem dX8_in_14 : decode cX8_in 14 = .ok (.iconst 0, 1) := by decide +kernel
theorem dX8_in_15 : decode cX8_in 15 = .ok (.ireturn, 1) := by decide +kernel
set_option maxRecDepth 20000 in
theorem ggX8_isThick_X8_in : GoodIn wsX8_isThick wsX8_in := goodIn_r _ [4] (by decide +kernel) (by decide +kernel)
set_option maxRecDepth 20000 in
theorem gX8_isThick_X8_in : GoodIn wsX8_isThick (va_wsS RX8 60 yX8_in wsX8_in) := goodIn_app (goodIn_of _ (by decide +kernel)) ggX8_isThick_X8_in
theorem dX8_isThick_0 : decode cX8_isThick 0 = .ok (.iload_n 0, 1) := by decide +kernel
theorem dX8_isThick_1 : decode cX8_isThick 1 = .ok (.iconst 1, 1) := by decide +kernel
theorem dX8_isThick_2 : decode cX8_isThick 2 = .ok (.bipush 9, 2) := by decide +kernel
theorem dX8_isThick_4 : decode cX8_isThick 4 = .ok (.invokestatic 60, 3) := by decide +kernel
theorem dX8_isThick_7 : decode cX8_isThick 7 = .ok (.ireturn, 1) := by decide +kernel
set_option maxRecDepth 20000 in
theorem ggX8_isPlate_X8_in : GoodIn wsX8_isPlate wsX8_in := goodIn_r _ [5] (by decide +kernel) (by decide +kernel)
set_option maxRecDepth 20000 in
theorem gX8_isPlate_X8_in : GoodIn wsX8_isPlate (va_wsS RX8 60 yX8_in wsX8_in) := goodIn_app (goodIn_of _ (by decide +kernel)) ggX8_isPlate_X8_in
theorem dX8_isPlate_0 : decode cX8_isPlate 0 = .ok (.iload_n 1, 1) := by decide +kernel
theorem dX8_isPlate_1 : decode cX8_isPlate 1 = .ok (.iconst 0, 1) := by decide +kernel
theorem dX8_isPlate_2 : decode cX8_isPlate 2 = .ok (.aload_n 0, 1) := by decide +kernel
theorem dX8_isPlate_3 : decode cX8_isPlate 3 = .ok (.getfield 64, 3) := by decide +kernel
theorem dX8_isPlate_6 : decode cX8_isPlate 6 = .ok (.iconst 1, 1) := by decide +kernel
theorem dX8_isPlate_7 : decode cX8_isPlate 7 = .ok (.isub, 1) := by decide +kernel
theorem dX8_isPlate_8 : decode cX8_isPlate 8 = .ok (.invokestatic 60, 3) := by decide +kernel
theorem dX8_isPlate_11 : decode cX8_isPlate 11 = .ok (.ireturn, 1) := by decide +kernel
set_option maxRecDepth 20000 in
theorem ggX8_isFour_X8_in : GoodIn wsX8_isFour wsX8_in := goodIn_r _ [4] (by decide +kernel) (by decide +kernel)
set_option maxRecDepth 20000 in
theorem gX8_isFour_X8_in : GoodIn wsX8_isFour (va_wsS RX8 60 yX8_in wsX8_in) := goodIn_app (goodIn_of _ (by decide +kernel)) ggX8_isFour_X8_in
theorem dX8_isFour_0 : decode cX8_isFour 0 = .ok (.iload_n 0, 1) := by decide +kernel
theorem dX8_isFour_1 : decode cX8_isFour 1 = .ok (.iconst 0, 1) := by decide +kernel
theorem dX8_isFour_2 : decode cX8_isFour 2 = .ok (.iconst 3, 1) := by decide +kernel
theorem dX8_isFour_3 : decode cX8_isFour 3 = .ok (.invokestatic 60, 3) := by decide +kernel
theorem dX8_isFour_6 : decode cX8_isFour 6 = .ok (.ireturn, 1) := by decide +kernel
set_option maxRecDepth 20000 in
theorem ggX8_plate_X8_isThick : GoodIn wsX8_plate wsX8_isThick := goodIn_r _ [6, 7, 8, 5, 9] (by decide +kernel) (by decide +kernel)
set_option maxRecDepth 20000 in
theorem gX8_plate_X8_isThick : GoodIn wsX8_plate (va_wsS RX8 67 yX8_isThick wsX8_isThick) := goodIn_app (goodIn_of _ (by decide +kernel)) ggX8_plate_X8_isThick
theorem dX8_plate_0 : decode cX8_plate 0 = .ok (.iload_n 1, 1) := by decide +kernel
theorem dX8_plate_1 : decode cX8_plate 1 = .ok (.invokestatic 67, 3) := by decide +kernel
theorem dX8_plate_4 : decode cX8_plate 4 = .ok (.ifCond .eq 25, 3) := by decide +kernel
theorem dX8_plate_7 : decode cX8_plate 7 = .ok (.iload_n 2, 1) := by decide +kernel
theorem dX8_plate_8 : decode cX8_plate 8 = .ok (.invokestatic 67, 3) := by decide +kernel
theorem dX8_plate_11 : decode cX8_plate 11 = .ok (.ifCond .eq 18, 3) := by decide +kernel
theorem dX8_plate_14 : decode cX8_plate 14 = .ok (.iload_n 3, 1) := by decide +kernel
theorem dX8_plate_15 : decode cX8_plate 15 = .ok (.invokestatic 67, 3) := by decide +kernel
theorem dX8_plate_18 : decode cX8_plate 18 = .ok (.ifCond .eq 11, 3) := by decide +kernel
theorem dX8_plate_21 : decode cX8_plate 21 = .ok (.iload 4, 2) := by decide +kernel
theorem dX8_plate_23 : decode cX8_plate 23 = .ok (.invokestatic 67, 3) := by decide +kernel
theorem dX8_plate_26 : decode cX8_plate 26 = .ok (.ifCond .ne 6, 3) := by decide +kernel
theorem dX8_plate_29 : decode cX8_plate 29 = .ok (.bipush (-2), 2) := by decide +kernel
theorem dX8_plate_31 : decode cX8_plate 31 = .ok (.ireturn, 1) := by decide +kernel
theorem dX8_plate_32 : decode cX8_plate 32 = .ok (.aload_n 0, 1) := by decide +kernel
theorem dX8_plate_33 : decode cX8_plate 33 = .ok (.getfield 64, 3) := by decide +kernel
theorem dX8_plate_36 : decode cX8_plate 36 = .ok (.iconst 4, 1) := by decide +kernel
theorem dX8_plate_37 : decode cX8_plate 37 = .ok (.if_icmp .ne 6, 3) := by decide +kernel
theorem dX8_plate_40 : decode cX8_plate 40 = .ok (.bipush (-4), 2) := by decide +kernel
theorem dX8_plate_42 : decode cX8_plate 42 = .ok (.ireturn, 1) := by decide +kernel
theorem dX8_plate_43 : decode cX8_plate 43 = .ok (.aload_n 0, 1) := by decide +kernel
theorem dX8_plate_44 : decode cX8_plate 44 = .ok (.getfield 7, 3) := by decide +kernel
theorem dX8_plate_47 : decode cX8_plate 47 = .ok (.iconst 4, 1) := by decide +kernel
theorem dX8_plate_48 : decode cX8_plate 48 = .ok (.aload_n 0, 1) := by decide +kernel
theorem dX8_plate_49 : decode cX8_plate 49 = .ok (.getfield 64, 3) := by decide +kernel
theorem dX8_plate_52 : decode cX8_plate 52 = .ok (.imul, 1) := by decide +kernel
theorem dX8_plate_53 : decode cX8_plate 53 = .ok (.iload_n 1, 1) := by decide +kernel
theorem dX8_plate_54 : decode cX8_plate 54 = .ok (.iastore, 1) := by decide +kernel
theorem dX8_plate_55 : decode cX8_plate 55 = .ok (.aload_n 0, 1) := by decide +kernel
theorem dX8_plate_56 : decode cX8_plate 56 = .ok (.getfield 7, 3) := by decide +kernel
theorem dX8_plate_59 : decode cX8_plate 59 = .ok (.iconst 4, 1) := by decide +kernel
theorem dX8_plate_60 : decode cX8_plate 60 = .ok (.aload_n 0, 1) := by decide +kernel
theorem dX8_plate_61 : decode cX8_plate 61 = .ok (.getfield 64, 3) := by decide +kernel
theorem dX8_plate_64 : decode cX8_plate 64 = .ok (.imul, 1) := by decide +kernel
theorem dX8_plate_65 : decode cX8_plate 65 = .ok (.iconst 1, 1) := by decide +kernel
theorem dX8_plate_66 : decode cX8_plate 66 = .ok (.iadd, 1) := by decide +kernel
theorem dX8_plate_67 : decode cX8_plate 67 = .ok (.iload_n 2, 1) := by decide +kernel
theorem dX8_plate_68 : decode cX8_plate 68 = .ok (.iastore, 1) := by decide +kernel
theorem dX8_plate_69 : decode cX8_plate 69 = .ok (.aload_n 0, 1) := by decide +kernel
theorem dX8_plate_70 : decode cX8_plate 70 = .ok (.getfield 7, 3) := by decide +kernel
theorem dX8_plate_73 : decode cX8_plate 73 = .ok (.iconst 4, 1) := by decide +kernel
theorem dX8_plate_74 : decode cX8_plate 74 = .ok (.aload_n 0, 1) := by decide +kernel
theorem dX8_plate_75 : decode cX8_plate 75 = .ok (.getfield 64, 3) := by decide +kernel
theorem dX8_plate_78 : decode cX8_plate 78 = .ok (.imul, 1) := by decide +kernel
theorem dX8_plate_79 : decode cX8_plate 79 = .ok (.iconst 2, 1) := by decide +kernel
theorem dX8_plate_80 : decode cX8_plate 80 = .ok (.iadd, 1) := by decide +kernel
theorem dX8_plate_81 : decode cX8_plate 81 = .ok (.iload_n 3, 1) := by decide +kernel
theorem dX8_plate_82 : decode cX8_plate 82 = .ok (.iastore, 1) := by decide +kernel
theorem dX8_plate_83 : decode cX8_plate 83 = .ok (.aload_n 0, 1) := by decide +kernel
theorem dX8_plate_84 : decode cX8_plate 84 = .ok (.getfield 7, 3) := by decide +kernel
theorem dX8_plate_87 : decode cX8_plate 87 = .ok (.iconst 4, 1) := by decide +kernel
theorem dX8_plate_88 : decode cX8_plate 88 = .ok (.aload_n 0, 1) := by decide +kernel
theorem dX8_plate_89 : decode cX8_plate 89 = .ok (.getfield 64, 3) := by decide +kernel
theorem dX8_plate_92 : decode cX8_plate 92 = .ok (.imul, 1) := by decide +kernel
theorem dX8_plate_93 : decode cX8_plate 93 = .ok (.iconst 3, 1) := by decide +kernel
theorem dX8_plate_94 : decode cX8_plate 94 = .ok (.iadd, 1) := by decide +kernel
theorem dX8_plate_95 : decode cX8_plate 95 = .ok (.iload 4, 2) := by decide +kernel
theorem dX8_plate_97 : decode cX8_plate 97 = .ok (.iastore, 1) := by decide +kernel
theorem dX8_plate_98 : decode cX8_plate 98 = .ok (.aload_n 0, 1) := by decide +kernel
theorem dX8_plate_99 : decode cX8_plate 99 = .ok (.dup, 1) := by decide +kernel
theorem dX8_plate_100 : decode cX8_plate 100 = .ok (.getfield 64, 3) := by decide +kernel
theorem dX8_plate_103 : decode cX8_plate 103 = .ok (.iconst 1, 1) := by decide +kernel
theorem dX8_plate_104 : decode cX8_plate 104 = .ok (.iadd, 1) := by decide +kernel
theorem dX8_plate_105 : decode cX8_plate 105 = .ok (.putfield 64, 3) := by decide +kernel
theorem dX8_plate_108 : decode cX8_plate 108 = .ok (.aload_n 0, 1) := by decide +kernel
theorem dX8_plate_109 : decode cX8_plate 109 = .ok (.getfield 64, 3) := by decide +kernel
theorem dX8_plate_112 : decode cX8_plate 112 = .ok (.iconst 1, 1) := by decide +kernel
theorem dX8_plate_113 : decode cX8_plate 113 = .ok (.isub, 1) := by decide +kernel
theorem dX8_plate_114 : decode cX8_plate 114 = .ok (.ireturn, 1) := by decide +kernel
set_option maxRecDepth 20000 in
theorem ggX8_thick_X8_isPlate : GoodIn wsX8_thick wsX8_isPlate := goodIn_r _ [6, 7, 8, 9, 5, 10, 14, 15, 16, 17, 18, 19, 20, 21, 22, 23, 24, 25, 26, 27, 28, 29, 30, 31, 32, 33] (by decide +kernel) (by decide +kernel)
set_option maxRecDepth 20000 in
theorem gX8_thick_X8_isPlate : GoodIn wsX8_thick (wsV RX8 71 RX8 yX8_isPlate wsX8_isPlate) := goodIn_app (goodIn_of _ (by decide +kernel)) ggX8_thick_X8_isPlate
set_option maxRecDepth 20000 in
theorem ggX8_thick_X8_isFour : GoodIn wsX8_thick wsX8_isFour := goodIn_r _ [13, 8, 9, 5, 10] (by decide +kernel) (by decide +kernel)
set_option maxRecDepth 20000 in
theorem gX8_thick_X8_isFour : GoodIn wsX8_thick (va_wsS RX8 74 yX8_isFour wsX8_isFour) := goodIn_app (goodIn_of _ (by decide +kernel)) ggX8_thick_X8_isFour
theorem dX8_thick_0 : decode cX8_thick 0 = .ok (.aload_n 0, 1) := by decide +kernel
theorem dX8_thick_1 : decode cX8_thick 1 = .ok (.iload_n 1, 1) := by decide +kernel
theorem dX8_thick_2 : decode cX8_thick 2 = .ok (.invokevirtual 71, 3) := by decide +kernel
theorem dX8_thick_5 : decode cX8_thick 5 = .ok (.ifCond .eq 23, 3) := by decide +kernel
theorem dX8_thick_8 : decode cX8_thick 8 = .ok (.iload_n 2, 1) := by decide +kernel
theorem dX8_thick_9 : decode cX8_thick 9 = .ok (.invokestatic 74, 3) := by decide +kernel
theorem dX8_thick_12 : decode cX8_thick 12 = .ok (.ifCond .eq 16, 3) := by decide +kernel
theorem dX8_thick_15 : decode cX8_thick 15 = .ok (.aload_n 0, 1) := by decide +kernel
theorem dX8_thick_16 : decode cX8_thick 16 = .ok (.getfield 7, 3) := by decide +kernel
theorem dX8_thick_19 : decode cX8_thick 19 = .ok (.iconst 4, 1) := by decide +kernel
theorem dX8_thick_20 : decode cX8_thick 20 = .ok (.iload_n 1, 1) := by decide +kernel
theorem dX8_thick_21 : decode cX8_thick 21 = .ok (.imul, 1) := by decide +kernel
theorem dX8_thick_22 : decode cX8_thick 22 = .ok (.iload_n 2, 1) := by decide +kernel
theorem dX8_thick_23 : decode cX8_thick 23 = .ok (.iadd, 1) := by decide +kernel
theorem dX8_thick_24 : decode cX8_thick 24 = .ok (.iaload, 1) := by decide +kernel
theorem dX8_thick_25 : decode cX8_thick 25 = .ok (.goto 5, 3) := by decide +kernel
theorem dX8_thick_28 : decode cX8_thick 28 = .ok (.bipush (-2), 2) := by decide +kernel
theorem dX8_thick_30 : decode cX8_thick 30 = .ok (.ireturn, 1) := by decide +kernel
set_option maxRecDepth 20000 in
theorem ggX8_least_X8_isThick : GoodIn wsX8_least wsX8_isThick := goodIn_r _ [5, 6, 7, 4, 8] (by decide +kernel) (by decide +kernel)
set_option maxRecDepth 20000 in
theorem gX8_least_X8_isThick : GoodIn wsX8_least (va_wsS RX8 67 yX8_isThick wsX8_isThick) := goodIn_app (goodIn_of _ (by decide +kernel)) ggX8_least_X8_isThick
theorem dX8_least_0 : decode cX8_least 0 = .ok (.iload_n 1, 1) := by decide +kernel
theorem dX8_least_1 : decode cX8_least 1 = .ok (.invokestatic 67, 3) := by decide +kernel
theorem dX8_least_4 : decode cX8_least 4 = .ok (.ifCond .ne 6, 3) := by decide +kernel
theorem dX8_least_7 : decode cX8_least 7 = .ok (.bipush (-2), 2) := by decide +kernel
theorem dX8_least_9 : decode cX8_least 9 = .ok (.ireturn, 1) := by decide +kernel
theorem dX8_least_10 : decode cX8_least 10 = .ok (.aload_n 0, 1) := by decide +kernel
theorem dX8_least_11 : decode cX8_least 11 = .ok (.getfield 13, 3) := by decide +kernel
theorem dX8_least_14 : decode cX8_least 14 = .ok (.istore_n 2, 1) := by decide +kernel
theorem dX8_least_15 : decode cX8_least 15 = .ok (.aload_n 0, 1) := by decide +kernel
theorem dX8_least_16 : decode cX8_least 16 = .ok (.iload_n 1, 1) := by decide +kernel
theorem dX8_least_17 : decode cX8_least 17 = .ok (.putfield 13, 3) := by decide +kernel
theorem dX8_least_20 : decode cX8_least 20 = .ok (.iload_n 2, 1) := by decide +kernel
theorem dX8_least_21 : decode cX8_least 21 = .ok (.ireturn, 1) := by decide +kernel
theorem dX8_shaveOff_0 : decode cX8_shaveOff 0 = .ok (.aload_n 0, 1) := by decide +kernel
theorem dX8_shaveOff_1 : decode cX8_shaveOff 1 = .ok (.getfield 7, 3) := by decide +kernel
theorem dX8_shaveOff_4 : decode cX8_shaveOff 4 = .ok (.iconst 4, 1) := by decide +kernel
theorem dX8_shaveOff_5 : decode cX8_shaveOff 5 = .ok (.iload_n 1, 1) := by decide +kernel
theorem dX8_shaveOff_6 : decode cX8_shaveOff 6 = .ok (.imul, 1) := by decide +kernel
theorem dX8_shaveOff_7 : decode cX8_shaveOff 7 = .ok (.iload_n 2, 1) := by decide +kernel
theorem dX8_shaveOff_8 : decode cX8_shaveOff 8 = .ok (.iadd, 1) := by decide +kernel
theorem dX8_shaveOff_9 : decode cX8_shaveOff 9 = .ok (.dup2, 1) := by decide +kernel
theorem dX8_shaveOff_10 : decode cX8_shaveOff 10 = .ok (.iaload, 1) := by decide +kernel
theorem dX8_shaveOff_11 : decode cX8_shaveOff 11 = .ok (.iconst 1, 1) := by decide +kernel
theorem dX8_shaveOff_12 : decode cX8_shaveOff 12 = .ok (.isub, 1) := by decide +kernel
theorem dX8_shaveOff_13 : decode cX8_shaveOff 13 = .ok (.iastore, 1) := by decide +kernel
theorem dX8_shaveOff_14 : decode cX8_shaveOff 14 = .ok (.aload_n 0, 1) := by decide +kernel
theorem dX8_shaveOff_15 : decode cX8_shaveOff 15 = .ok (.getfield 20, 3) := by decide +kernel
theorem dX8_shaveOff_18 : decode cX8_shaveOff 18 = .ok (.bipush 20, 2) := by decide +kernel
theorem dX8_shaveOff_20 : decode cX8_shaveOff 20 = .ok (.iload_n 1, 1) := by decide +kernel
theorem dX8_shaveOff_21 : decode cX8_shaveOff 21 = .ok (.imul, 1) := by decide +kernel
theorem dX8_shaveOff_22 : decode cX8_shaveOff 22 = .ok (.aload_n 0, 1) := by decide +kernel
theorem dX8_shaveOff_23 : decode cX8_shaveOff 23 = .ok (.getfield 17, 3) := by decide +kernel
theorem dX8_shaveOff_26 : decode cX8_shaveOff 26 = .ok (.iload_n 1, 1) := by decide +kernel
theorem dX8_shaveOff_27 : decode cX8_shaveOff 27 = .ok (.iaload, 1) := by decide +kernel
theorem dX8_shaveOff_28 : decode cX8_shaveOff 28 = .ok (.iadd, 1) := by decide +kernel
theorem dX8_shaveOff_29 : decode cX8_shaveOff 29 = .ok (.iload_n 2, 1) := by decide +kernel
theorem dX8_shaveOff_30 : decode cX8_shaveOff 30 = .ok (.iastore, 1) := by decide +kernel
theorem dX8_shaveOff_31 : decode cX8_shaveOff 31 = .ok (.aload_n 0, 1) := by decide +kernel
theorem dX8_shaveOff_32 : decode cX8_shaveOff 32 = .ok (.getfield 17, 3) := by decide +kernel
theorem dX8_shaveOff_35 : decode cX8_shaveOff 35 = .ok (.iload_n 1, 1) := by decide +kernel
theorem dX8_shaveOff_36 : decode cX8_shaveOff 36 = .ok (.dup2, 1) := by decide +kernel
theorem dX8_shaveOff_37 : decode cX8_shaveOff 37 = .ok (.iaload, 1) := by decide +kernel
theorem dX8_shaveOff_38 : decode cX8_shaveOff 38 = .ok (.iconst 1, 1) := by decide +kernel
theorem dX8_shaveOff_39 : decode cX8_shaveOff 39 = .ok (.iadd, 1) := by decide +kernel
theorem dX8_shaveOff_40 : decode cX8_shaveOff 40 = .ok (.iastore, 1) := by decide +kernel
theorem dX8_shaveOff_41 : decode cX8_shaveOff 41 = .ok (.return_, 1) := by decide +kernel
set_option maxRecDepth 20000 in
theorem ggX8_shave_X8_isPlate : GoodIn wsX8_shave wsX8_isPlate := goodIn_r _ [8, 9, 10, 11, 7, 12, 21, 22, 23, 24, 25, 26, 27, 28, 29, 30, 31, 32, 33, 34, 35, 36, 37, 38, 39, 40] (by decide +kernel) (by decide +kernel)
set_option maxRecDepth 20000 in
theorem gX8_shave_X8_isPlate : GoodIn wsX8_shave (wsV RX8 71 RX8 yX8_isPlate wsX8_isPlate) := goodIn_app (goodIn_of _ (by decide +kernel)) ggX8_shave_X8_isPlate
set_option maxRecDepth 20000 in
theorem ggX8_shave_X8_isFour : GoodIn wsX8_shave wsX8_isFour := goodIn_r _ [15, 10, 11, 7, 12] (by decide +kernel) (by decide +kernel)
set_option maxRecDepth 20000 in
theorem gX8_shave_X8_isFour : GoodIn wsX8_shave (va_wsS RX8 74 yX8_isFour wsX8_isFour) := goodIn_app (goodIn_of _ (by decide +kernel)) ggX8_shave_X8_isFour
set_option maxRecDepth 20000 in
theorem ggX8_shave_X8_shaveOff : GoodIn wsX8_shave wsX8_shaveOff := goodIn_r _ [19, 1, 20, 3, 21, 22, 23, 24, 25, 26, 27, 28, 29, 30, 31, 32, 33, 34, 35, 36, 37, 38, 39, 40] (by decide +kernel) (by decide +kernel)
set_option maxRecDepth 20000 in
theorem gX8_shave_X8_shaveOff : GoodIn wsX8_shave (wsV RX8 77 RX8 yX8_shaveOff wsX8_shaveOff) := goodIn_app (goodIn_of _ (by decide +kernel)) ggX8_shave_X8_shaveOff
theorem dX8_shave_0 : decode cX8_shave 0 = .ok (.aload_n 0, 1) := by decide +kernel
theorem dX8_shave_1 : decode cX8_shave 1 = .ok (.iload_n 1, 1) := by decide +kernel
theorem dX8_shave_2 : decode cX8_shave 2 = .ok (.invokevirtual 71, 3) := by decide +kernel
theorem dX8_shave_5 : decode cX8_shave 5 = .ok (.ifCond .eq 10, 3) := by decide +kernel
theorem dX8_shave_8 : decode cX8_shave 8 = .ok (.iload_n 2, 1) := by decide +kernel
theorem dX8_shave_9 : decode cX8_shave 9 = .ok (.invokestatic 74, 3) := by decide +kernel
theorem dX8_shave_12 : decode cX8_shave 12 = .ok (.ifCond .ne 6, 3) := by decide +kernel
theorem dX8_shave_15 : decode cX8_shave 15 = .ok (.bipush (-2), 2) := by decide +kernel
theorem dX8_shave_17 : decode cX8_shave 17 = .ok (.ireturn, 1) := by decide +kernel
theorem dX8_shave_18 : decode cX8_shave 18 = .ok (.aload_n 0, 1) := by decide +kernel
