theorem dX0_init_0 : decode cX0_init 0 = .ok (.aload_n 0, 1) := by decide +kernel
theorem dX0_init_1 : decode cX0_init 1 = .ok (.invokespecial 3, 3) := by decide +kernel
theorem dX0_init_4 : decode cX0_init 4 = .ok (.aload_n 0, 1) := by decide +kernel
theorem dX0_init_5 : decode cX0_init 5 = .ok (.iconst 4, 1) := by decide +kernel
theorem dX0_init_6 : decode cX0_init 6 = .ok (.newarray .boolean, 2) := by decide +kernel
theorem dX0_init_8 : decode cX0_init 8 = .ok (.putfield 9, 3) := by decide +kernel
theorem dX0_init_11 : decode cX0_init 11 = .ok (.aload_n 0, 1) := by decide +kernel
theorem dX0_init_12 : decode cX0_init 12 = .ok (.iconst 4, 1) := by decide +kernel
theorem dX0_init_13 : decode cX0_init 13 = .ok (.newarray .int, 2) := by decide +kernel
theorem dX0_init_15 : decode cX0_init 15 = .ok (.putfield 15, 3) := by decide +kernel
theorem dX0_init_18 : decode cX0_init 18 = .ok (.aload_n 0, 1) := by decide +kernel
theorem dX0_init_19 : decode cX0_init 19 = .ok (.iconst 4, 1) := by decide +kernel
theorem dX0_init_20 : decode cX0_init 20 = .ok (.newarray .int, 2) := by decide +kernel
theorem dX0_init_22 : decode cX0_init 22 = .ok (.putfield 19, 3) := by decide +kernel
theorem dX0_init_25 : decode cX0_init 25 = .ok (.return_, 1) := by decide +kernel
set_option maxRecDepth 20000 in
theorem ggX0_put_X7_isTone : GoodIn wsX0_put wsX7_isTone := goodIn_r _ [6] (by decide +kernel) (by decide +kernel)
set_option maxRecDepth 20000 in
theorem gX0_put_X7_isTone_n22 : GoodIn wsX0_put (wsX7_isTone) := ggX0_put_X7_isTone
theorem dX0_put_0 : decode cX0_put 0 = .ok (.iload_n 1, 1) := by decide +kernel
theorem dX0_put_1 : decode cX0_put 1 = .ok (.invokestatic 22, 3) := by decide +kernel
theorem dX0_put_4 : decode cX0_put 4 = .ok (.ifCond .eq 24, 3) := by decide +kernel
theorem dX0_put_7 : decode cX0_put 7 = .ok (.aload_n 0, 1) := by decide +kernel
theorem dX0_put_8 : decode cX0_put 8 = .ok (.getfield 9, 3) := by decide +kernel
theorem dX0_put_11 : decode cX0_put 11 = .ok (.iload_n 1, 1) := by decide +kernel
theorem dX0_put_12 : decode cX0_put 12 = .ok (.iconst 1, 1) := by decide +kernel
theorem dX0_put_13 : decode cX0_put 13 = .ok (.bastore, 1) := by decide +kernel
theorem dX0_put_14 : decode cX0_put 14 = .ok (.aload_n 0, 1) := by decide +kernel
theorem dX0_put_15 : decode cX0_put 15 = .ok (.getfield 15, 3) := by decide +kernel
theorem dX0_put_18 : decode cX0_put 18 = .ok (.iload_n 1, 1) := by decide +kernel
theorem dX0_put_19 : decode cX0_put 19 = .ok (.iload_n 2, 1) := by decide +kernel
theorem dX0_put_20 : decode cX0_put 20 = .ok (.iastore, 1) := by decide +kernel
theorem dX0_put_21 : decode cX0_put 21 = .ok (.aload_n 0, 1) := by decide +kernel
theorem dX0_put_22 : decode cX0_put 22 = .ok (.getfield 19, 3) := by decide +kernel
theorem dX0_put_25 : decode cX0_put 25 = .ok (.iload_n 1, 1) := by decide +kernel
theorem dX0_put_26 : decode cX0_put 26 = .ok (.iload_n 3, 1) := by decide +kernel
theorem dX0_put_27 : decode cX0_put 27 = .ok (.iastore, 1) := by decide +kernel
theorem dX0_put_28 : decode cX0_put 28 = .ok (.return_, 1) := by decide +kernel
theorem dX0_clear_0 : decode cX0_clear 0 = .ok (.iconst 0, 1) := by decide +kernel
theorem dX0_clear_1 : decode cX0_clear 1 = .ok (.istore_n 1, 1) := by decide +kernel
theorem dX0_clear_2 : decode cX0_clear 2 = .ok (.iload_n 1, 1) := by decide +kernel
theorem dX0_clear_3 : decode cX0_clear 3 = .ok (.iconst 4, 1) := by decide +kernel
theorem dX0_clear_4 : decode cX0_clear 4 = .ok (.if_icmp .ge 16, 3) := by decide +kernel
theorem dX0_clear_7 : decode cX0_clear 7 = .ok (.aload_n 0, 1) := by decide +kernel
theorem dX0_clear_8 : decode cX0_clear 8 = .ok (.getfield 9, 3) := by decide +kernel
theorem dX0_clear_11 : decode cX0_clear 11 = .ok (.iload_n 1, 1) := by decide +kernel
theorem dX0_clear_12 : decode cX0_clear 12 = .ok (.iconst 0, 1) := by decide +kernel
theorem dX0_clear_13 : decode cX0_clear 13 = .ok (.bastore, 1) := by decide +kernel
theorem dX0_clear_14 : decode cX0_clear 14 = .ok (.iinc 1 1, 3) := by decide +kernel
theorem dX0_clear_17 : decode cX0_clear 17 = .ok (.goto (-15), 3) := by decide +kernel
theorem dX0_clear_20 : decode cX0_clear 20 = .ok (.return_, 1) := by decide +kernel
theorem dX0_spans_0 : decode cX0_spans 0 = .ok (.iconst 0, 1) := by decide +kernel
theorem dX0_spans_1 : decode cX0_spans 1 = .ok (.istore_n 1, 1) := by decide +kernel
theorem dX0_spans_2 : decode cX0_spans 2 = .ok (.iconst 0, 1) := by decide +kernel
theorem dX0_spans_3 : decode cX0_spans 3 = .ok (.istore_n 2, 1) := by decide +kernel
theorem dX0_spans_4 : decode cX0_spans 4 = .ok (.iload_n 2, 1) := by decide +kernel
theorem dX0_spans_5 : decode cX0_spans 5 = .ok (.iconst 4, 1) := by decide +kernel
theorem dX0_spans_6 : decode cX0_spans 6 = .ok (.if_icmp .ge 21, 3) := by decide +kernel
theorem dX0_spans_9 : decode cX0_spans 9 = .ok (.aload_n 0, 1) := by decide +kernel
theorem dX0_spans_10 : decode cX0_spans 10 = .ok (.getfield 9, 3) := by decide +kernel
theorem dX0_spans_13 : decode cX0_spans 13 = .ok (.iload_n 2, 1) := by decide +kernel
theorem dX0_spans_14 : decode cX0_spans 14 = .ok (.baload, 1) := by decide +kernel
theorem dX0_spans_15 : decode cX0_spans 15 = .ok (.ifCond .eq 6, 3) := by decide +kernel
theorem dX0_spans_18 : decode cX0_spans 18 = .ok (.iinc 1 1, 3) := by decide +kernel
theorem dX0_spans_21 : decode cX0_spans 21 = .ok (.iinc 2 1, 3) := by decide +kernel
theorem dX0_spans_24 : decode cX0_spans 24 = .ok (.goto (-20), 3) := by decide +kernel
theorem dX0_spans_27 : decode cX0_spans 27 = .ok (.iload_n 1, 1) := by decide +kernel
theorem dX0_spans_28 : decode cX0_spans 28 = .ok (.ireturn, 1) := by decide +kernel
set_option maxRecDepth 20000 in
theorem ggX0_metBy_X5_valuesBelow : GoodIn wsX0_metBy wsX5_valuesBelow := goodIn_r _ [9, 10, 11, 8, 12] (by decide +kernel) (by decide +kernel)
set_option maxRecDepth 20000 in
theorem gX0_metBy_X5_valuesBelow : GoodIn wsX0_metBy (va_wsS RX0 31 yX5_valuesBelow wsX5_valuesBelow) := goodIn_app (goodIn_of _ (by decide +kernel)) ggX0_metBy_X5_valuesBelow
theorem dX0_metBy_0 : decode cX0_metBy 0 = .ok (.iconst 0, 1) := by decide +kernel
theorem dX0_metBy_1 : decode cX0_metBy 1 = .ok (.istore_n 3, 1) := by decide +kernel
theorem dX0_metBy_2 : decode cX0_metBy 2 = .ok (.iload_n 3, 1) := by decide +kernel
theorem dX0_metBy_3 : decode cX0_metBy 3 = .ok (.iconst 4, 1) := by decide +kernel
theorem dX0_metBy_4 : decode cX0_metBy 4 = .ok (.if_icmp .ge 106, 3) := by decide +kernel
theorem dX0_metBy_7 : decode cX0_metBy 7 = .ok (.iconst 1, 1) := by decide +kernel
theorem dX0_metBy_8 : decode cX0_metBy 8 = .ok (.istore 4, 2) := by decide +kernel
theorem dX0_metBy_10 : decode cX0_metBy 10 = .ok (.aload_n 0, 1) := by decide +kernel
theorem dX0_metBy_11 : decode cX0_metBy 11 = .ok (.getfield 9, 3) := by decide +kernel
theorem dX0_metBy_14 : decode cX0_metBy 14 = .ok (.iload_n 3, 1) := by decide +kernel
theorem dX0_metBy_15 : decode cX0_metBy 15 = .ok (.baload, 1) := by decide +kernel
theorem dX0_metBy_16 : decode cX0_metBy 16 = .ok (.ifCond .eq 88, 3) := by decide +kernel
theorem dX0_metBy_19 : decode cX0_metBy 19 = .ok (.iload 4, 2) := by decide +kernel
theorem dX0_metBy_21 : decode cX0_metBy 21 = .ok (.bipush 9, 2) := by decide +kernel
theorem dX0_metBy_23 : decode cX0_metBy 23 = .ok (.if_icmp .gt 81, 3) := by decide +kernel
theorem dX0_metBy_26 : decode cX0_metBy 26 = .ok (.aload_n 2, 1) := by decide +kernel
theorem dX0_metBy_27 : decode cX0_metBy 27 = .ok (.getfield 26, 3) := by decide +kernel
theorem dX0_metBy_30 : decode cX0_metBy 30 = .ok (.iload 4, 2) := by decide +kernel
theorem dX0_metBy_32 : decode cX0_metBy 32 = .ok (.iaload, 1) := by decide +kernel
theorem dX0_metBy_33 : decode cX0_metBy 33 = .ok (.istore 5, 2) := by decide +kernel
theorem dX0_metBy_35 : decode cX0_metBy 35 = .ok (.iload 5, 2) := by decide +kernel
theorem dX0_metBy_37 : decode cX0_metBy 37 = .ok (.ifCond .le 24, 3) := by decide +kernel
theorem dX0_metBy_40 : decode cX0_metBy 40 = .ok (.aload_n 1, 1) := by decide +kernel
theorem dX0_metBy_41 : decode cX0_metBy 41 = .ok (.iload 4, 2) := by decide +kernel
theorem dX0_metBy_43 : decode cX0_metBy 43 = .ok (.aload_n 0, 1) := by decide +kernel
theorem dX0_metBy_44 : decode cX0_metBy 44 = .ok (.getfield 15, 3) := by decide +kernel
theorem dX0_metBy_47 : decode cX0_metBy 47 = .ok (.iload_n 3, 1) := by decide +kernel
theorem dX0_metBy_48 : decode cX0_metBy 48 = .ok (.iaload, 1) := by decide +kernel
theorem dX0_metBy_49 : decode cX0_metBy 49 = .ok (.iload 5, 2) := by decide +kernel
theorem dX0_metBy_51 : decode cX0_metBy 51 = .ok (.imul, 1) := by decide +kernel
theorem dX0_metBy_52 : decode cX0_metBy 52 = .ok (.invokestatic 31, 3) := by decide +kernel
theorem dX0_metBy_55 : decode cX0_metBy 55 = .ok (.iload_n 3, 1) := by decide +kernel
theorem dX0_metBy_56 : decode cX0_metBy 56 = .ok (.if_icmp .le 5, 3) := by decide +kernel
theorem dX0_metBy_59 : decode cX0_metBy 59 = .ok (.iconst 0, 1) := by decide +kernel
theorem dX0_metBy_60 : decode cX0_metBy 60 = .ok (.ireturn, 1) := by decide +kernel
theorem dX0_metBy_61 : decode cX0_metBy 61 = .ok (.aload_n 2, 1) := by decide +kernel
theorem dX0_metBy_62 : decode cX0_metBy 62 = .ok (.getfield 37, 3) := by decide +kernel
theorem dX0_metBy_65 : decode cX0_metBy 65 = .ok (.iload 4, 2) := by decide +kernel
theorem dX0_metBy_67 : decode cX0_metBy 67 = .ok (.iaload, 1) := by decide +kernel
theorem dX0_metBy_68 : decode cX0_metBy 68 = .ok (.istore 6, 2) := by decide +kernel
theorem dX0_metBy_70 : decode cX0_metBy 70 = .ok (.iload 6, 2) := by decide +kernel
theorem dX0_metBy_72 : decode cX0_metBy 72 = .ok (.ifCond .le 26, 3) := by decide +kernel
theorem dX0_metBy_75 : decode cX0_metBy 75 = .ok (.aload_n 1, 1) := by decide +kernel
theorem dX0_metBy_76 : decode cX0_metBy 76 = .ok (.iload 4, 2) := by decide +kernel
theorem dX0_metBy_78 : decode cX0_metBy 78 = .ok (.aload_n 0, 1) := by decide +kernel
theorem dX0_metBy_79 : decode cX0_metBy 79 = .ok (.getfield 19, 3) := by decide +kernel
theorem dX0_metBy_82 : decode cX0_metBy 82 = .ok (.iload_n 3, 1) := by decide +kernel
theorem dX0_metBy_83 : decode cX0_metBy 83 = .ok (.iaload, 1) := by decide +kernel
theorem dX0_metBy_84 : decode cX0_metBy 84 = .ok (.iconst 1, 1) := by decide +kernel
theorem dX0_metBy_85 : decode cX0_metBy 85 = .ok (.iadd, 1) := by decide +kernel
theorem dX0_metBy_86 : decode cX0_metBy 86 = .ok (.iload 6, 2) := by decide +kernel
theorem dX0_metBy_88 : decode cX0_metBy 88 = .ok (.imul, 1) := by decide +kernel
theorem dX0_metBy_89 : decode cX0_metBy 89 = .ok (.invokestatic 31, 3) := by decide +kernel
theorem dX0_metBy_92 : decode cX0_metBy 92 = .ok (.iload_n 3, 1) := by decide +kernel
theorem dX0_metBy_93 : decode cX0_metBy 93 = .ok (.if_icmp .gt 5, 3) := by decide +kernel
theorem dX0_metBy_96 : decode cX0_metBy 96 = .ok (.iconst 0, 1) := by decide +kernel
theorem dX0_metBy_97 : decode cX0_metBy 97 = .ok (.ireturn, 1) := by decide +kernel
theorem dX0_metBy_98 : decode cX0_metBy 98 = .ok (.iinc 4 1, 3) := by decide +kernel
theorem dX0_metBy_101 : decode cX0_metBy 101 = .ok (.goto (-91), 3) := by decide +kernel
theorem dX0_metBy_104 : decode cX0_metBy 104 = .ok (.iinc 3 1, 3) := by decide +kernel
theorem dX0_metBy_107 : decode cX0_metBy 107 = .ok (.goto (-105), 3) := by decide +kernel
theorem dX0_metBy_110 : decode cX0_metBy 110 = .ok (.iconst 1, 1) := by decide +kernel
theorem dX0_metBy_111 : decode cX0_metBy 111 = .ok (.ireturn, 1) := by decide +kernel
theorem dX1_init_0 : decode cX1_init 0 = .ok (.aload_n 0, 1) := by decide +kernel
theorem dX1_init_1 : decode cX1_init 1 = .ok (.invokespecial 3, 3) := by decide +kernel
theorem dX1_init_4 : decode cX1_init 4 = .ok (.aload_n 0, 1) := by decide +kernel
theorem dX1_init_5 : decode cX1_init 5 = .ok (.sipush 512, 3) := by decide +kernel
theorem dX1_init_8 : decode cX1_init 8 = .ok (.newarray .int, 2) := by decide +kernel
theorem dX1_init_10 : decode cX1_init 10 = .ok (.putfield 9, 3) := by decide +kernel
theorem dX1_init_13 : decode cX1_init 13 = .ok (.return_, 1) := by decide +kernel
set_option maxRecDepth 20000 in
theorem ggX1_greatest_J7_fill_53178 : GoodIn wsX1_greatest wsJ7_fill_53178 := goodIn_r _ [10] (by decide +kernel) (by decide +kernel)
set_option maxRecDepth 20000 in
theorem gX1_greatest_J7_fill_53178 : GoodIn wsX1_greatest (va_wsS RX1 15 yJ7_fill_53178 wsJ7_fill_53178) := goodIn_app (goodIn_of _ (by decide +kernel)) ggX1_greatest_J7_fill_53178
set_option maxRecDepth 20000 in
theorem ggX1_greatest_X2_toneOfLeft : GoodIn wsX1_greatest wsX2_toneOfLeft := goodIn_r _ [15, 16, 17, 18, 19, 20, 21, 23, 24, 25, 26, 27, 28, 29] (by decide +kernel) (by decide +kernel)
set_option maxRecDepth 20000 in
theorem gX1_greatest_X2_toneOfLeft : GoodIn wsX1_greatest (wsV RX1 27 RX2 yX2_toneOfLeft wsX2_toneOfLeft) := goodIn_app (goodIn_of _ (by decide +kernel)) ggX1_greatest_X2_toneOfLeft
theorem dX1_greatest_0 : decode cX1_greatest 0 = .ok (.aload_n 0, 1) := by decide +kernel
theorem dX1_greatest_1 : decode cX1_greatest 1 = .ok (.getfield 9, 3) := by decide +kernel
theorem dX1_greatest_4 : decode cX1_greatest 4 = .ok (.iconst 0, 1) := by decide +kernel
theorem dX1_greatest_5 : decode cX1_greatest 5 = .ok (.invokestatic 15, 3) := by decide +kernel
theorem dX1_greatest_8 : decode cX1_greatest 8 = .ok (.iconst 0, 1) := by decide +kernel
theorem dX1_greatest_9 : decode cX1_greatest 9 = .ok (.istore_n 3, 1) := by decide +kernel
theorem dX1_greatest_10 : decode cX1_greatest 10 = .ok (.iconst 0, 1) := by decide +kernel
theorem dX1_greatest_11 : decode cX1_greatest 11 = .ok (.istore 4, 2) := by decide +kernel
theorem dX1_greatest_13 : decode cX1_greatest 13 = .ok (.iload 4, 2) := by decide +kernel
theorem dX1_greatest_15 : decode cX1_greatest 15 = .ok (.aload_n 1, 1) := by decide +kernel
theorem dX1_greatest_16 : decode cX1_greatest 16 = .ok (.getfield 21, 3) := by decide +kernel
theorem dX1_greatest_19 : decode cX1_greatest 19 = .ok (.if_icmp .ge 56, 3) := by decide +kernel
theorem dX1_greatest_22 : decode cX1_greatest 22 = .ok (.aload_n 1, 1) := by decide +kernel
theorem dX1_greatest_23 : decode cX1_greatest 23 = .ok (.iload 4, 2) := by decide +kernel
theorem dX1_greatest_25 : decode cX1_greatest 25 = .ok (.aload_n 2, 1) := by decide +kernel
theorem dX1_greatest_26 : decode cX1_greatest 26 = .ok (.invokevirtual 27, 3) := by decide +kernel
theorem dX1_greatest_29 : decode cX1_greatest 29 = .ok (.istore 5, 2) := by decide +kernel
theorem dX1_greatest_31 : decode cX1_greatest 31 = .ok (.iload 5, 2) := by decide +kernel
theorem dX1_greatest_33 : decode cX1_greatest 33 = .ok (.ifCond .lt 36, 3) := by decide +kernel
theorem dX1_greatest_36 : decode cX1_greatest 36 = .ok (.iload 5, 2) := by decide +kernel
theorem dX1_greatest_38 : decode cX1_greatest 38 = .ok (.aload_n 0, 1) := by decide +kernel
theorem dX1_greatest_39 : decode cX1_greatest 39 = .ok (.getfield 9, 3) := by decide +kernel
theorem dX1_greatest_42 : decode cX1_greatest 42 = .ok (.arraylength, 1) := by decide +kernel
theorem dX1_greatest_43 : decode cX1_greatest 43 = .ok (.if_icmp .ge 26, 3) := by decide +kernel
theorem dX1_greatest_46 : decode cX1_greatest 46 = .ok (.aload_n 0, 1) := by decide +kernel
theorem dX1_greatest_47 : decode cX1_greatest 47 = .ok (.getfield 9, 3) := by decide +kernel
theorem dX1_greatest_50 : decode cX1_greatest 50 = .ok (.iload 5, 2) := by decide +kernel
theorem dX1_greatest_52 : decode cX1_greatest 52 = .ok (.dup2, 1) := by decide +kernel
theorem dX1_greatest_53 : decode cX1_greatest 53 = .ok (.iaload, 1) := by decide +kernel
theorem dX1_greatest_54 : decode cX1_greatest 54 = .ok (.iconst 1, 1) := by decide +kernel
theorem dX1_greatest_55 : decode cX1_greatest 55 = .ok (.iadd, 1) := by decide +kernel
theorem dX1_greatest_56 : decode cX1_greatest 56 = .ok (.iastore, 1) := by decide +kernel
theorem dX1_greatest_57 : decode cX1_greatest 57 = .ok (.iload_n 3, 1) := by decide +kernel
theorem dX1_greatest_58 : decode cX1_greatest 58 = .ok (.aload_n 0, 1) := by decide +kernel
theorem dX1_greatest_59 : decode cX1_greatest 59 = .ok (.getfield 9, 3) := by decide +kernel
theorem dX1_greatest_62 : decode cX1_greatest 62 = .ok (.iload 5, 2) := by decide +kernel
theorem dX1_greatest_64 : decode cX1_greatest 64 = .ok (.iaload, 1) := by decide +kernel
theorem dX1_greatest_65 : decode cX1_greatest 65 = .ok (.invokestatic 31, 3) := by decide +kernel
theorem dX1_greatest_68 : decode cX1_greatest 68 = .ok (.istore_n 3, 1) := by decide +kernel
theorem dX1_greatest_69 : decode cX1_greatest 69 = .ok (.iinc 4 1, 3) := by decide +kernel
theorem dX1_greatest_72 : decode cX1_greatest 72 = .ok (.goto (-59), 3) := by decide +kernel
theorem dX1_greatest_75 : decode cX1_greatest 75 = .ok (.iload_n 3, 1) := by decide +kernel
theorem dX1_greatest_76 : decode cX1_greatest 76 = .ok (.ireturn, 1) := by decide +kernel
set_option maxRecDepth 20000 in
theorem ggX2_init_X6_init : GoodIn wsX2_init wsX6_init := goodIn_r _ [16, 17, 2, 3, 7, 18, 19, 20, 53, 54, 55] (by decide +kernel) (by decide +kernel)
set_option maxRecDepth 20000 in
theorem gX2_init_X6_init_n37 : GoodIn wsX2_init (wsX6_init) := ggX2_init_X6_init
set_option maxRecDepth 20000 in
theorem ggX2_init_X2_sift : GoodIn wsX2_init wsX2_sift := goodIn_r _ [25, 10, 11, 12, 26, 27, 28, 24, 29, 6, 5, 30, 31, 32, 14, 33, 18, 19, 20, 34, 35, 36, 37, 38, 39, 40, 41, 8, 9, 42, 43, 44, 45, 46, 47, 48, 49, 50, 51, 52, 53, 54, 55] (by decide +kernel) (by decide +kernel)
set_option maxRecDepth 20000 in
theorem gX2_init_X2_sift : GoodIn wsX2_init (wsV RX2 38 RX2 yX2_sift wsX2_sift) := goodIn_app (goodIn_of _ (by decide +kernel)) ggX2_init_X2_sift
theorem dX2_init_0 : decode cX2_init 0 = .ok (.aload_n 0, 1) := by decide +kernel
theorem dX2_init_1 : decode cX2_init 1 = .ok (.invokespecial 3, 3) := by decide +kernel
theorem dX2_init_4 : decode cX2_init 4 = .ok (.aload_n 0, 1) := by decide +kernel
theorem dX2_init_5 : decode cX2_init 5 = .ok (.bipush 12, 2) := by decide +kernel
theorem dX2_init_7 : decode cX2_init 7 = .ok (.anewarray 9, 3) := by decide +kernel
theorem dX2_init_10 : decode cX2_init 10 = .ok (.putfield 11, 3) := by decide +kernel
theorem dX2_init_13 : decode cX2_init 13 = .ok (.aload_n 0, 1) := by decide +kernel
theorem dX2_init_14 : decode cX2_init 14 = .ok (.iconst 0, 1) := by decide +kernel
theorem dX2_init_15 : decode cX2_init 15 = .ok (.putfield 17, 3) := by decide +kernel
theorem dX2_init_18 : decode cX2_init 18 = .ok (.aload_n 0, 1) := by decide +kernel
theorem dX2_init_19 : decode cX2_init 19 = .ok (.bipush 81, 2) := by decide +kernel
theorem dX2_init_21 : decode cX2_init 21 = .ok (.newarray .int, 2) := by decide +kernel
theorem dX2_init_23 : decode cX2_init 23 = .ok (.putfield 21, 3) := by decide +kernel
theorem dX2_init_26 : decode cX2_init 26 = .ok (.aload_n 0, 1) := by decide +kernel
theorem dX2_init_27 : decode cX2_init 27 = .ok (.bipush 81, 2) := by decide +kernel
theorem dX2_init_29 : decode cX2_init 29 = .ok (.newarray .int, 2) := by decide +kernel
theorem dX2_init_31 : decode cX2_init 31 = .ok (.putfield 25, 3) := by decide +kernel
theorem dX2_init_34 : decode cX2_init 34 = .ok (.aload_n 0, 1) := by decide +kernel
theorem dX2_init_35 : decode cX2_init 35 = .ok (.iconst 0, 1) := by decide +kernel
theorem dX2_init_36 : decode cX2_init 36 = .ok (.putfield 28, 3) := by decide +kernel
theorem dX2_init_39 : decode cX2_init 39 = .ok (.aload_n 0, 1) := by decide +kernel
theorem dX2_init_40 : decode cX2_init 40 = .ok (.bipush 10, 2) := by decide +kernel
theorem dX2_init_42 : decode cX2_init 42 = .ok (.newarray .int, 2) := by decide +kernel
theorem dX2_init_44 : decode cX2_init 44 = .ok (.putfield 31, 3) := by decide +kernel
theorem dX2_init_47 : decode cX2_init 47 = .ok (.aload_n 0, 1) := by decide +kernel
theorem dX2_init_48 : decode cX2_init 48 = .ok (.bipush 10, 2) := by decide +kernel
theorem dX2_init_50 : decode cX2_init 50 = .ok (.newarray .int, 2) := by decide +kernel
theorem dX2_init_52 : decode cX2_init 52 = .ok (.putfield 34, 3) := by decide +kernel
theorem dX2_init_55 : decode cX2_init 55 = .ok (.iconst 0, 1) := by decide +kernel
theorem dX2_init_56 : decode cX2_init 56 = .ok (.istore_n 1, 1) := by decide +kernel
theorem dX2_init_57 : decode cX2_init 57 = .ok (.iload_n 1, 1) := by decide +kernel
theorem dX2_init_58 : decode cX2_init 58 = .ok (.bipush 12, 2) := by decide +kernel
theorem dX2_init_60 : decode cX2_init 60 = .ok (.if_icmp .ge 22, 3) := by decide +kernel
theorem dX2_init_63 : decode cX2_init 63 = .ok (.aload_n 0, 1) := by decide +kernel
theorem dX2_init_64 : decode cX2_init 64 = .ok (.getfield 11, 3) := by decide +kernel
theorem dX2_init_67 : decode cX2_init 67 = .ok (.iload_n 1, 1) := by decide +kernel
theorem dX2_init_68 : decode cX2_init 68 = .ok (.new 9, 3) := by decide +kernel
theorem dX2_init_71 : decode cX2_init 71 = .ok (.dup, 1) := by decide +kernel
theorem dX2_init_72 : decode cX2_init 72 = .ok (.invokespecial 37, 3) := by decide +kernel
theorem dX2_init_75 : decode cX2_init 75 = .ok (.aastore, 1) := by decide +kernel
theorem dX2_init_76 : decode cX2_init 76 = .ok (.iinc 1 1, 3) := by decide +kernel
theorem dX2_init_79 : decode cX2_init 79 = .ok (.goto (-22), 3) := by decide +kernel
theorem dX2_init_82 : decode cX2_init 82 = .ok (.aload_n 0, 1) := by decide +kernel
theorem dX2_init_83 : decode cX2_init 83 = .ok (.invokevirtual 38, 3) := by decide +kernel
theorem dX2_init_86 : decode cX2_init 86 = .ok (.return_, 1) := by decide +kernel
set_option maxRecDepth 20000 in
theorem ggX2_addTap_X5_fillWholeValues : GoodIn wsX2_addTap wsX5_fillWholeValues := goodIn_r _ [9, 10, 11, 8, 12, 13, 14, 15, 16, 17, 18] (by decide +kernel) (by decide +kernel)
set_option maxRecDepth 20000 in
theorem gX2_addTap_X5_fillWholeValues : GoodIn wsX2_addTap (va_wsS RX2 44 yX5_fillWholeValues wsX5_fillWholeValues) := goodIn_app (goodIn_of _ (by decide +kernel)) ggX2_addTap_X5_fillWholeValues
set_option maxRecDepth 20000 in
theorem ggX2_addTap_X2_sift : GoodIn wsX2_addTap wsX2_sift := goodIn_r _ [23, 24, 25, 26, 27, 28, 29, 22, 30, 1, 2, 31, 32, 33, 34, 35, 36, 37, 38, 39, 40, 8, 41, 42, 43, 44, 45, 46, 47, 48, 49, 50, 51, 52, 53, 54, 55, 56, 57, 58, 59, 60, 61] (by decide +kernel) (by decide +kernel)
set_option maxRecDepth 20000 in
theorem gX2_addTap_X2_sift : GoodIn wsX2_addTap (wsV RX2 38 RX2 yX2_sift wsX2_sift) := goodIn_app (goodIn_of _ (by decide +kernel)) ggX2_addTap_X2_sift
theorem dX2_addTap_0 : decode cX2_addTap 0 = .ok (.aload_n 0, 1) := by decide +kernel
theorem dX2_addTap_1 : decode cX2_addTap 1 = .ok (.getfield 17, 3) := by decide +kernel
theorem dX2_addTap_4 : decode cX2_addTap 4 = .ok (.bipush 12, 2) := by decide +kernel
theorem dX2_addTap_6 : decode cX2_addTap 6 = .ok (.if_icmp .ge 51, 3) := by decide +kernel
theorem dX2_addTap_9 : decode cX2_addTap 9 = .ok (.aload_n 0, 1) := by decide +kernel
theorem dX2_addTap_10 : decode cX2_addTap 10 = .ok (.getfield 11, 3) := by decide +kernel
theorem dX2_addTap_13 : decode cX2_addTap 13 = .ok (.aload_n 0, 1) := by decide +kernel
theorem dX2_addTap_14 : decode cX2_addTap 14 = .ok (.getfield 17, 3) := by decide +kernel
theorem dX2_addTap_17 : decode cX2_addTap 17 = .ok (.aaload, 1) := by decide +kernel
theorem dX2_addTap_18 : decode cX2_addTap 18 = .ok (.astore 5, 2) := by decide +kernel
theorem dX2_addTap_20 : decode cX2_addTap 20 = .ok (.aload 5, 2) := by decide +kernel
theorem dX2_addTap_22 : decode cX2_addTap 22 = .ok (.getfield 41, 3) := by decide +kernel
theorem dX2_addTap_25 : decode cX2_addTap 25 = .ok (.aload_n 1, 1) := by decide +kernel
theorem dX2_addTap_26 : decode cX2_addTap 26 = .ok (.iload_n 2, 1) := by decide +kernel
theorem dX2_addTap_27 : decode cX2_addTap 27 = .ok (.invokestatic 44, 3) := by decide +kernel
theorem dX2_addTap_30 : decode cX2_addTap 30 = .ok (.aload 5, 2) := by decide +kernel
theorem dX2_addTap_32 : decode cX2_addTap 32 = .ok (.iload_n 3, 1) := by decide +kernel
theorem dX2_addTap_33 : decode cX2_addTap 33 = .ok (.putfield 50, 3) := by decide +kernel
theorem dX2_addTap_36 : decode cX2_addTap 36 = .ok (.aload 5, 2) := by decide +kernel
theorem dX2_addTap_38 : decode cX2_addTap 38 = .ok (.iload 4, 2) := by decide +kernel
theorem dX2_addTap_40 : decode cX2_addTap 40 = .ok (.putfield 53, 3) := by decide +kernel
theorem dX2_addTap_43 : decode cX2_addTap 43 = .ok (.aload_n 0, 1) := by decide +kernel
theorem dX2_addTap_44 : decode cX2_addTap 44 = .ok (.dup, 1) := by decide +kernel
theorem dX2_addTap_45 : decode cX2_addTap 45 = .ok (.getfield 17, 3) := by decide +kernel
theorem dX2_addTap_48 : decode cX2_addTap 48 = .ok (.iconst 1, 1) := by decide +kernel
theorem dX2_addTap_49 : decode cX2_addTap 49 = .ok (.iadd, 1) := by decide +kernel
theorem dX2_addTap_50 : decode cX2_addTap 50 = .ok (.putfield 17, 3) := by decide +kernel
theorem dX2_addTap_53 : decode cX2_addTap 53 = .ok (.aload_n 0, 1) := by decide +kernel
theorem dX2_addTap_54 : decode cX2_addTap 54 = .ok (.invokevirtual 38, 3) := by decide +kernel
theorem dX2_addTap_57 : decode cX2_addTap 57 = .ok (.return_, 1) := by decide +kernel
set_option maxRecDepth 20000 in
theorem ggX2_dropTap_X2_sift : GoodIn wsX2_dropTap wsX2_sift := goodIn_r _ [7, 8, 9, 10, 11, 12, 13, 6, 14, 1, 2, 15, 16, 17, 18, 19, 20, 21, 22, 23, 24, 25, 26, 27, 28, 29, 30, 31, 32, 33, 34, 35, 36, 37, 38, 39, 40, 41, 42, 43, 44, 45, 46] (by decide +kernel) (by decide +kernel)
set_option maxRecDepth 20000 in
theorem gX2_dropTap_X2_sift : GoodIn wsX2_dropTap (wsV RX2 38 RX2 yX2_sift wsX2_sift) := goodIn_app (goodIn_of _ (by decide +kernel)) ggX2_dropTap_X2_sift
theorem dX2_dropTap_0 : decode cX2_dropTap 0 = .ok (.iload_n 1, 1) := by decide +kernel
theorem dX2_dropTap_1 : decode cX2_dropTap 1 = .ok (.ifCond .lt 74, 3) := by decide +kernel
theorem dX2_dropTap_4 : decode cX2_dropTap 4 = .ok (.iload_n 1, 1) := by decide +kernel
theorem dX2_dropTap_5 : decode cX2_dropTap 5 = .ok (.aload_n 0, 1) := by decide +kernel
theorem dX2_dropTap_6 : decode cX2_dropTap 6 = .ok (.getfield 17, 3) := by decide +kernel
theorem dX2_dropTap_9 : decode cX2_dropTap 9 = .ok (.if_icmp .ge 66, 3) := by decide +kernel
theorem dX2_dropTap_12 : decode cX2_dropTap 12 = .ok (.aload_n 0, 1) := by decide +kernel
theorem dX2_dropTap_13 : decode cX2_dropTap 13 = .ok (.getfield 11, 3) := by decide +kernel
theorem dX2_dropTap_16 : decode cX2_dropTap 16 = .ok (.iload_n 1, 1) := by decide +kernel
theorem dX2_dropTap_17 : decode cX2_dropTap 17 = .ok (.aaload, 1) := by decide +kernel
theorem dX2_dropTap_18 : decode cX2_dropTap 18 = .ok (.astore_n 2, 1) := by decide +kernel
theorem dX2_dropTap_19 : decode cX2_dropTap 19 = .ok (.iload_n 1, 1) := by decide +kernel
theorem dX2_dropTap_20 : decode cX2_dropTap 20 = .ok (.istore_n 3, 1) := by decide +kernel
theorem dX2_dropTap_21 : decode cX2_dropTap 21 = .ok (.iload_n 3, 1) := by decide +kernel
theorem dX2_dropTap_22 : decode cX2_dropTap 22 = .ok (.iconst 1, 1) := by decide +kernel
theorem dX2_dropTap_23 : decode cX2_dropTap 23 = .ok (.iadd, 1) := by decide +kernel
theorem dX2_dropTap_24 : decode cX2_dropTap 24 = .ok (.aload_n 0, 1) := by decide +kernel
theorem dX2_dropTap_25 : decode cX2_dropTap 25 = .ok (.getfield 17, 3) := by decide +kernel
theorem dX2_dropTap_28 : decode cX2_dropTap 28 = .ok (.if_icmp .ge 23, 3) := by decide +kernel
theorem dX2_dropTap_31 : decode cX2_dropTap 31 = .ok (.aload_n 0, 1) := by decide +kernel
theorem dX2_dropTap_32 : decode cX2_dropTap 32 = .ok (.getfield 11, 3) := by decide +kernel
theorem dX2_dropTap_35 : decode cX2_dropTap 35 = .ok (.iload_n 3, 1) := by decide +kernel
theorem dX2_dropTap_36 : decode cX2_dropTap 36 = .ok (.aload_n 0, 1) := by decide +kernel
theorem dX2_dropTap_37 : decode cX2_dropTap 37 = .ok (.getfield 11, 3) := by decide +kernel
theorem dX2_dropTap_40 : decode cX2_dropTap 40 = .ok (.iload_n 3, 1) := by decide +kernel
theorem dX2_dropTap_41 : decode cX2_dropTap 41 = .ok (.iconst 1, 1) := by decide +kernel
theorem dX2_dropTap_42 : decode cX2_dropTap 42 = .ok (.iadd, 1) := by decide +kernel
theorem dX2_dropTap_43 : decode cX2_dropTap 43 = .ok (.aaload, 1) := by decide +kernel
theorem dX2_dropTap_44 : decode cX2_dropTap 44 = .ok (.aastore, 1) := by decide +kernel
theorem dX2_dropTap_45 : decode cX2_dropTap 45 = .ok (.iinc 3 1, 3) := by decide +kernel
theorem dX2_dropTap_48 : decode cX2_dropTap 48 = .ok (.goto (-27), 3) := by decide +kernel
theorem dX2_dropTap_51 : decode cX2_dropTap 51 = .ok (.aload_n 0, 1) := by decide +kernel
theorem dX2_dropTap_52 : decode cX2_dropTap 52 = .ok (.dup, 1) := by decide +kernel
theorem dX2_dropTap_53 : decode cX2_dropTap 53 = .ok (.getfield 17, 3) := by decide +kernel
theorem dX2_dropTap_56 : decode cX2_dropTap 56 = .ok (.iconst 1, 1) := by decide +kernel
theorem dX2_dropTap_57 : decode cX2_dropTap 57 = .ok (.isub, 1) := by decide +kernel
theorem dX2_dropTap_58 : decode cX2_dropTap 58 = .ok (.putfield 17, 3) := by decide +kernel
theorem dX2_dropTap_61 : decode cX2_dropTap 61 = .ok (.aload_n 0, 1) := by decide +kernel
theorem dX2_dropTap_62 : decode cX2_dropTap 62 = .ok (.getfield 11, 3) := by decide +kernel
theorem dX2_dropTap_65 : decode cX2_dropTap 65 = .ok (.aload_n 0, 1) := by decide +kernel
theorem dX2_dropTap_66 : decode cX2_dropTap 66 = .ok (.getfield 17, 3) := by decide +kernel
theorem dX2_dropTap_69 : decode cX2_dropTap 69 = .ok (.aload_n 2, 1) := by decide +kernel
theorem dX2_dropTap_70 : decode cX2_dropTap 70 = .ok (.aastore, 1) := by decide +kernel
theorem dX2_dropTap_71 : decode cX2_dropTap 71 = .ok (.aload_n 0, 1) := by decide +kernel
theorem dX2_dropTap_72 : decode cX2_dropTap 72 = .ok (.invokevirtual 38, 3) := by decide +kernel
theorem dX2_dropTap_75 : decode cX2_dropTap 75 = .ok (.return_, 1) := by decide +kernel
set_option maxRecDepth 20000 in
theorem ggX2_sift_X2_fitsAllTaps : GoodIn wsX2_sift wsX2_fitsAllTaps := goodIn_r _ [8, 9, 10, 11, 12, 13, 14, 15, 16, 17, 18, 19, 20, 21, 22, 33, 34, 35, 36, 37, 38, 39, 40, 41, 42] (by decide +kernel) (by decide +kernel)
set_option maxRecDepth 20000 in
theorem gX2_sift_X2_fitsAllTaps : GoodIn wsX2_sift (wsV RX2 56 RX2 yX2_fitsAllTaps wsX2_fitsAllTaps) := goodIn_app (goodIn_of _ (by decide +kernel)) ggX2_sift_X2_fitsAllTaps
set_option maxRecDepth 20000 in
theorem ggX2_sift_X2_keep : GoodIn wsX2_sift wsX2_keep := goodIn_r _ [26, 1, 27, 28, 2, 3, 33, 34, 35, 36, 37, 38, 39] (by decide +kernel) (by decide +kernel)
set_option maxRecDepth 20000 in
theorem gX2_sift_X2_keep : GoodIn wsX2_sift (wsV RX2 60 RX2 yX2_keep wsX2_keep) := goodIn_app (goodIn_of _ (by decide +kernel)) ggX2_sift_X2_keep
set_option maxRecDepth 20000 in
theorem ggX2_sift_X2_dropInnerWoods : GoodIn wsX2_sift wsX2_dropInnerWoods := goodIn_r _ [32, 2, 3, 33, 34, 35, 36, 37, 38, 39] (by decide +kernel) (by decide +kernel)
set_option maxRecDepth 20000 in
theorem gX2_sift_X2_dropInnerWoods : GoodIn wsX2_sift (wsV RX2 64 RX2 yX2_dropInnerWoods wsX2_dropInnerWoods) := goodIn_app (goodIn_of _ (by decide +kernel)) ggX2_sift_X2_dropInnerWoods
theorem dX2_sift_0 : decode cX2_sift 0 = .ok (.aload_n 0, 1) := by decide +kernel
theorem dX2_sift_1 : decode cX2_sift 1 = .ok (.iconst 0, 1) := by decide +kernel
theorem dX2_sift_2 : decode cX2_sift 2 = .ok (.putfield 28, 3) := by decide +kernel
theorem dX2_sift_5 : decode cX2_sift 5 = .ok (.iconst 1, 1) := by decide +kernel
theorem dX2_sift_6 : decode cX2_sift 6 = .ok (.istore_n 1, 1) := by decide +kernel
theorem dX2_sift_7 : decode cX2_sift 7 = .ok (.iload_n 1, 1) := by decide +kernel
theorem dX2_sift_8 : decode cX2_sift 8 = .ok (.bipush 9, 2) := by decide +kernel
theorem dX2_sift_10 : decode cX2_sift 10 = .ok (.if_icmp .gt 52, 3) := by decide +kernel
theorem dX2_sift_13 : decode cX2_sift 13 = .ok (.aload_n 0, 1) := by decide +kernel
theorem dX2_sift_14 : decode cX2_sift 14 = .ok (.getfield 31, 3) := by decide +kernel
theorem dX2_sift_17 : decode cX2_sift 17 = .ok (.iload_n 1, 1) := by decide +kernel
theorem dX2_sift_18 : decode cX2_sift 18 = .ok (.iconst 0, 1) := by decide +kernel
theorem dX2_sift_19 : decode cX2_sift 19 = .ok (.iastore, 1) := by decide +kernel
theorem dX2_sift_20 : decode cX2_sift 20 = .ok (.aload_n 0, 1) := by decide +kernel
theorem dX2_sift_21 : decode cX2_sift 21 = .ok (.getfield 34, 3) := by decide +kernel
theorem dX2_sift_24 : decode cX2_sift 24 = .ok (.iload_n 1, 1) := by decide +kernel
theorem dX2_sift_25 : decode cX2_sift 25 = .ok (.iconst 0, 1) := by decide +kernel
theorem dX2_sift_26 : decode cX2_sift 26 = .ok (.iastore, 1) := by decide +kernel
theorem dX2_sift_27 : decode cX2_sift 27 = .ok (.iconst 1, 1) := by decide +kernel
theorem dX2_sift_28 : decode cX2_sift 28 = .ok (.istore_n 2, 1) := by decide +kernel
theorem dX2_sift_29 : decode cX2_sift 29 = .ok (.iload_n 2, 1) := by decide +kernel
theorem dX2_sift_30 : decode cX2_sift 30 = .ok (.bipush 9, 2) := by decide +kernel
theorem dX2_sift_32 : decode cX2_sift 32 = .ok (.if_icmp .gt 24, 3) := by decide +kernel
theorem dX2_sift_35 : decode cX2_sift 35 = .ok (.aload_n 0, 1) := by decide +kernel
theorem dX2_sift_36 : decode cX2_sift 36 = .ok (.iload_n 1, 1) := by decide +kernel
theorem dX2_sift_37 : decode cX2_sift 37 = .ok (.iload_n 2, 1) := by decide +kernel
theorem dX2_sift_38 : decode cX2_sift 38 = .ok (.invokevirtual 56, 3) := by decide +kernel
theorem dX2_sift_41 : decode cX2_sift 41 = .ok (.ifCond .eq 9, 3) := by decide +kernel
theorem dX2_sift_44 : decode cX2_sift 44 = .ok (.aload_n 0, 1) := by decide +kernel
theorem dX2_sift_45 : decode cX2_sift 45 = .ok (.iload_n 1, 1) := by decide +kernel
theorem dX2_sift_46 : decode cX2_sift 46 = .ok (.iload_n 2, 1) := by decide +kernel
theorem dX2_sift_47 : decode cX2_sift 47 = .ok (.invokevirtual 60, 3) := by decide +kernel
theorem dX2_sift_50 : decode cX2_sift 50 = .ok (.iinc 2 1, 3) := by decide +kernel
theorem dX2_sift_53 : decode cX2_sift 53 = .ok (.goto (-24), 3) := by decide +kernel
theorem dX2_sift_56 : decode cX2_sift 56 = .ok (.iinc 1 1, 3) := by decide +kernel
theorem dX2_sift_59 : decode cX2_sift 59 = .ok (.goto (-52), 3) := by decide +kernel
theorem dX2_sift_62 : decode cX2_sift 62 = .ok (.aload_n 0, 1) := by decide +kernel
theorem dX2_sift_63 : decode cX2_sift 63 = .ok (.invokevirtual 64, 3) := by decide +kernel
theorem dX2_sift_66 : decode cX2_sift 66 = .ok (.return_, 1) := by decide +kernel
set_option maxRecDepth 20000 in
theorem ggX2_fitsAllTaps_X6_fits : GoodIn wsX2_fitsAllTaps wsX6_fits := goodIn_r _ [7, 8, 9, 10, 11, 12, 13, 14, 22, 23, 24] (by decide +kernel) (by decide +kernel)
set_option maxRecDepth 20000 in
theorem gX2_fitsAllTaps_X6_fits : GoodIn wsX2_fitsAllTaps (wsV RX2 67 RX6 yX6_fits wsX6_fits) := goodIn_app (goodIn_of _ (by decide +kernel)) ggX2_fitsAllTaps_X6_fits
theorem dX2_fitsAllTaps_0 : decode cX2_fitsAllTaps 0 = .ok (.iconst 0, 1) := by decide +kernel
theorem dX2_fitsAllTaps_1 : decode cX2_fitsAllTaps 1 = .ok (.istore_n 3, 1) := by decide +kernel
theorem dX2_fitsAllTaps_2 : decode cX2_fitsAllTaps 2 = .ok (.iload_n 3, 1) := by decide +kernel
theorem dX2_fitsAllTaps_3 : decode cX2_fitsAllTaps 3 = .ok (.aload_n 0, 1) := by decide +kernel
theorem dX2_fitsAllTaps_4 : decode cX2_fitsAllTaps 4 = .ok (.getfield 17, 3) := by decide +kernel
theorem dX2_fitsAllTaps_7 : decode cX2_fitsAllTaps 7 = .ok (.if_icmp .ge 25, 3) := by decide +kernel
theorem dX2_fitsAllTaps_10 : decode cX2_fitsAllTaps 10 = .ok (.aload_n 0, 1) := by decide +kernel
theorem dX2_fitsAllTaps_11 : decode cX2_fitsAllTaps 11 = .ok (.getfield 11, 3) := by decide +kernel
theorem dX2_fitsAllTaps_14 : decode cX2_fitsAllTaps 14 = .ok (.iload_n 3, 1) := by decide +kernel
theorem dX2_fitsAllTaps_15 : decode cX2_fitsAllTaps 15 = .ok (.aaload, 1) := by decide +kernel
theorem dX2_fitsAllTaps_16 : decode cX2_fitsAllTaps 16 = .ok (.iload_n 1, 1) := by decide +kernel
theorem dX2_fitsAllTaps_17 : decode cX2_fitsAllTaps 17 = .ok (.iload_n 2, 1) := by decide +kernel
theorem dX2_fitsAllTaps_18 : decode cX2_fitsAllTaps 18 = .ok (.invokevirtual 67, 3) := by decide +kernel
theorem dX2_fitsAllTaps_21 : decode cX2_fitsAllTaps 21 = .ok (.ifCond .ne 5, 3) := by decide +kernel
theorem dX2_fitsAllTaps_24 : decode cX2_fitsAllTaps 24 = .ok (.iconst 0, 1) := by decide +kernel
theorem dX2_fitsAllTaps_25 : decode cX2_fitsAllTaps 25 = .ok (.ireturn, 1) := by decide +kernel
theorem dX2_fitsAllTaps_26 : decode cX2_fitsAllTaps 26 = .ok (.iinc 3 1, 3) := by decide +kernel
theorem dX2_fitsAllTaps_29 : decode cX2_fitsAllTaps 29 = .ok (.goto (-27), 3) := by decide +kernel
theorem dX2_fitsAllTaps_32 : decode cX2_fitsAllTaps 32 = .ok (.iconst 1, 1) := by decide +kernel
theorem dX2_fitsAllTaps_33 : decode cX2_fitsAllTaps 33 = .ok (.ireturn, 1) := by decide +kernel
theorem dX2_keep_0 : decode cX2_keep 0 = .ok (.aload_n 0, 1) := by decide +kernel
theorem dX2_keep_1 : decode cX2_keep 1 = .ok (.getfield 28, 3) := by decide +kernel
theorem dX2_keep_4 : decode cX2_keep 4 = .ok (.aload_n 0, 1) := by decide +kernel
theorem dX2_keep_5 : decode cX2_keep 5 = .ok (.getfield 21, 3) := by decide +kernel
theorem dX2_keep_8 : decode cX2_keep 8 = .ok (.arraylength, 1) := by decide +kernel
theorem dX2_keep_9 : decode cX2_keep 9 = .ok (.if_icmp .ge 56, 3) := by decide +kernel
theorem dX2_keep_12 : decode cX2_keep 12 = .ok (.aload_n 0, 1) := by decide +kernel
theorem dX2_keep_13 : decode cX2_keep 13 = .ok (.getfield 21, 3) := by decide +kernel
theorem dX2_keep_16 : decode cX2_keep 16 = .ok (.aload_n 0, 1) := by decide +kernel
theorem dX2_keep_17 : decode cX2_keep 17 = .ok (.getfield 28, 3) := by decide +kernel
theorem dX2_keep_20 : decode cX2_keep 20 = .ok (.iload_n 1, 1) := by decide +kernel
theorem dX2_keep_21 : decode cX2_keep 21 = .ok (.iastore, 1) := by decide +kernel
theorem dX2_keep_22 : decode cX2_keep 22 = .ok (.aload_n 0, 1) := by decide +kernel
theorem dX2_keep_23 : decode cX2_keep 23 = .ok (.getfield 25, 3) := by decide +kernel
theorem dX2_keep_26 : decode cX2_keep 26 = .ok (.aload_n 0, 1) := by decide +kernel
theorem dX2_keep_27 : decode cX2_keep 27 = .ok (.getfield 28, 3) := by decide +kernel
theorem dX2_keep_30 : decode cX2_keep 30 = .ok (.iload_n 2, 1) := by decide +kernel
theorem dX2_keep_31 : decode cX2_keep 31 = .ok (.iastore, 1) := by decide +kernel
theorem dX2_keep_32 : decode cX2_keep 32 = .ok (.aload_n 0, 1) := by decide +kernel
theorem dX2_keep_33 : decode cX2_keep 33 = .ok (.dup, 1) := by decide +kernel
theorem dX2_keep_34 : decode cX2_keep 34 = .ok (.getfield 28, 3) := by decide +kernel
theorem dX2_keep_37 : decode cX2_keep 37 = .ok (.iconst 1, 1) := by decide +kernel
theorem dX2_keep_38 : decode cX2_keep 38 = .ok (.iadd, 1) := by decide +kernel
theorem dX2_keep_39 : decode cX2_keep 39 = .ok (.putfield 28, 3) := by decide +kernel
theorem dX2_keep_42 : decode cX2_keep 42 = .ok (.aload_n 0, 1) := by decide +kernel
theorem dX2_keep_43 : decode cX2_keep 43 = .ok (.getfield 31, 3) := by decide +kernel
theorem dX2_keep_46 : decode cX2_keep 46 = .ok (.iload_n 1, 1) := by decide +kernel
theorem dX2_keep_47 : decode cX2_keep 47 = .ok (.iload_n 2, 1) := by decide +kernel
theorem dX2_keep_48 : decode cX2_keep 48 = .ok (.iastore, 1) := by decide +kernel
theorem dX2_keep_49 : decode cX2_keep 49 = .ok (.aload_n 0, 1) := by decide +kernel
theorem dX2_keep_50 : decode cX2_keep 50 = .ok (.getfield 34, 3) := by decide +kernel
theorem dX2_keep_53 : decode cX2_keep 53 = .ok (.iload_n 1, 1) := by decide +kernel
theorem dX2_keep_54 : decode cX2_keep 54 = .ok (.iaload, 1) := by decide +kernel
theorem dX2_keep_55 : decode cX2_keep 55 = .ok (.ifCond .ne 10, 3) := by decide +kernel
theorem dX2_keep_58 : decode cX2_keep 58 = .ok (.aload_n 0, 1) := by decide +kernel
theorem dX2_keep_59 : decode cX2_keep 59 = .ok (.getfield 34, 3) := by decide +kernel
theorem dX2_keep_62 : decode cX2_keep 62 = .ok (.iload_n 1, 1) := by decide +kernel
theorem dX2_keep_63 : decode cX2_keep 63 = .ok (.iload_n 2, 1) := by decide +kernel
theorem dX2_keep_64 : decode cX2_keep 64 = .ok (.iastore, 1) := by decide +kernel
theorem dX2_keep_65 : decode cX2_keep 65 = .ok (.return_, 1) := by decide +kernel
theorem dX2_dropInnerWoods_0 : decode cX2_dropInnerWoods 0 = .ok (.iconst 0, 1) := by decide +kernel
theorem dX2_dropInnerWoods_1 : decode cX2_dropInnerWoods 1 = .ok (.istore_n 1, 1) := by decide +kernel
theorem dX2_dropInnerWoods_2 : decode cX2_dropInnerWoods 2 = .ok (.iconst 1, 1) := by decide +kernel
theorem dX2_dropInnerWoods_3 : decode cX2_dropInnerWoods 3 = .ok (.istore_n 2, 1) := by decide +kernel
theorem dX2_dropInnerWoods_4 : decode cX2_dropInnerWoods 4 = .ok (.iload_n 2, 1) := by decide +kernel
theorem dX2_dropInnerWoods_5 : decode cX2_dropInnerWoods 5 = .ok (.bipush 9, 2) := by decide +kernel
theorem dX2_dropInnerWoods_7 : decode cX2_dropInnerWoods 7 = .ok (.if_icmp .gt 36, 3) := by decide +kernel
theorem dX2_dropInnerWoods_10 : decode cX2_dropInnerWoods 10 = .ok (.aload_n 0, 1) := by decide +kernel
theorem dX2_dropInnerWoods_11 : decode cX2_dropInnerWoods 11 = .ok (.getfield 31, 3) := by decide +kernel
theorem dX2_dropInnerWoods_14 : decode cX2_dropInnerWoods 14 = .ok (.iload_n 2, 1) := by decide +kernel
theorem dX2_dropInnerWoods_15 : decode cX2_dropInnerWoods 15 = .ok (.iaload, 1) := by decide +kernel
theorem dX2_dropInnerWoods_16 : decode cX2_dropInnerWoods 16 = .ok (.iload_n 1, 1) := by decide +kernel
theorem dX2_dropInnerWoods_17 : decode cX2_dropInnerWoods 17 = .ok (.if_icmp .gt 13, 3) := by decide +kernel
theorem dX2_dropInnerWoods_20 : decode cX2_dropInnerWoods 20 = .ok (.aload_n 0, 1) := by decide +kernel
theorem dX2_dropInnerWoods_21 : decode cX2_dropInnerWoods 21 = .ok (.getfield 31, 3) := by decide +kernel
theorem dX2_dropInnerWoods_24 : decode cX2_dropInnerWoods 24 = .ok (.iload_n 2, 1) := by decide +kernel
theorem dX2_dropInnerWoods_25 : decode cX2_dropInnerWoods 25 = .ok (.iconst 0, 1) := by decide +kernel
theorem dX2_dropInnerWoods_26 : decode cX2_dropInnerWoods 26 = .ok (.iastore, 1) := by decide +kernel
theorem dX2_dropInnerWoods_27 : decode cX2_dropInnerWoods 27 = .ok (.goto 10, 3) := by decide +kernel
theorem dX2_dropInnerWoods_30 : decode cX2_dropInnerWoods 30 = .ok (.aload_n 0, 1) := by decide +kernel
theorem dX2_dropInnerWoods_31 : decode cX2_dropInnerWoods 31 = .ok (.getfield 31, 3) := by decide +kernel
theorem dX2_dropInnerWoods_34 : decode cX2_dropInnerWoods 34 = .ok (.iload_n 2, 1) := by decide +kernel
theorem dX2_dropInnerWoods_35 : decode cX2_dropInnerWoods 35 = .ok (.iaload, 1) := by decide +kernel
theorem dX2_dropInnerWoods_36 : decode cX2_dropInnerWoods 36 = .ok (.istore_n 1, 1) := by decide +kernel
theorem dX2_dropInnerWoods_37 : decode cX2_dropInnerWoods 37 = .ok (.iinc 2 1, 3) := by decide +kernel
theorem dX2_dropInnerWoods_40 : decode cX2_dropInnerWoods 40 = .ok (.goto (-36), 3) := by decide +kernel
theorem dX2_dropInnerWoods_43 : decode cX2_dropInnerWoods 43 = .ok (.bipush 10, 2) := by decide +kernel
theorem dX2_dropInnerWoods_45 : decode cX2_dropInnerWoods 45 = .ok (.istore_n 2, 1) := by decide +kernel
theorem dX2_dropInnerWoods_46 : decode cX2_dropInnerWoods 46 = .ok (.bipush 9, 2) := by decide +kernel
theorem dX2_dropInnerWoods_48 : decode cX2_dropInnerWoods 48 = .ok (.istore_n 3, 1) := by decide +kernel
theorem dX2_dropInnerWoods_49 : decode cX2_dropInnerWoods 49 = .ok (.iload_n 3, 1) := by decide +kernel
theorem dX2_dropInnerWoods_50 : decode cX2_dropInnerWoods 50 = .ok (.iconst 1, 1) := by decide +kernel
theorem dX2_dropInnerWoods_51 : decode cX2_dropInnerWoods 51 = .ok (.if_icmp .lt 45, 3) := by decide +kernel
theorem dX2_dropInnerWoods_54 : decode cX2_dropInnerWoods 54 = .ok (.aload_n 0, 1) := by decide +kernel
theorem dX2_dropInnerWoods_55 : decode cX2_dropInnerWoods 55 = .ok (.getfield 34, 3) := by decide +kernel
theorem dX2_dropInnerWoods_58 : decode cX2_dropInnerWoods 58 = .ok (.iload_n 3, 1) := by decide +kernel
theorem dX2_dropInnerWoods_59 : decode cX2_dropInnerWoods 59 = .ok (.iaload, 1) := by decide +kernel
theorem dX2_dropInnerWoods_60 : decode cX2_dropInnerWoods 60 = .ok (.iload_n 2, 1) := by decide +kernel
theorem dX2_dropInnerWoods_61 : decode cX2_dropInnerWoods 61 = .ok (.if_icmp .lt 13, 3) := by decide +kernel
theorem dX2_dropInnerWoods_64 : decode cX2_dropInnerWoods 64 = .ok (.aload_n 0, 1) := by decide +kernel
theorem dX2_dropInnerWoods_65 : decode cX2_dropInnerWoods 65 = .ok (.getfield 34, 3) := by decide +kernel
theorem dX2_dropInnerWoods_68 : decode cX2_dropInnerWoods 68 = .ok (.iload_n 3, 1) := by decide +kernel
theorem dX2_dropInnerWoods_69 : decode cX2_dropInnerWoods 69 = .ok (.iconst 0, 1) := by decide +kernel
theorem dX2_dropInnerWoods_70 : decode cX2_dropInnerWoods 70 = .ok (.iastore, 1) := by decide +kernel
theorem dX2_dropInnerWoods_71 : decode cX2_dropInnerWoods 71 = .ok (.goto 19, 3) := by decide +kernel
theorem dX2_dropInnerWoods_74 : decode cX2_dropInnerWoods 74 = .ok (.aload_n 0, 1) := by decide +kernel
theorem dX2_dropInnerWoods_75 : decode cX2_dropInnerWoods 75 = .ok (.getfield 34, 3) := by decide +kernel
theorem dX2_dropInnerWoods_78 : decode cX2_dropInnerWoods 78 = .ok (.iload_n 3, 1) := by decide +kernel
theorem dX2_dropInnerWoods_79 : decode cX2_dropInnerWoods 79 = .ok (.iaload, 1) := by decide +kernel
theorem dX2_dropInnerWoods_80 : decode cX2_dropInnerWoods 80 = .ok (.ifCond .le 10, 3) := by decide +kernel
theorem dX2_dropInnerWoods_83 : decode cX2_dropInnerWoods 83 = .ok (.aload_n 0, 1) := by decide +kernel
theorem dX2_dropInnerWoods_84 : decode cX2_dropInnerWoods 84 = .ok (.getfield 34, 3) := by decide +kernel
theorem dX2_dropInnerWoods_87 : decode cX2_dropInnerWoods 87 = .ok (.iload_n 3, 1) := by decide +kernel
theorem dX2_dropInnerWoods_88 : decode cX2_dropInnerWoods 88 = .ok (.iaload, 1) := by decide +kernel
theorem dX2_dropInnerWoods_89 : decode cX2_dropInnerWoods 89 = .ok (.istore_n 2, 1) := by decide +kernel
theorem dX2_dropInnerWoods_90 : decode cX2_dropInnerWoods 90 = .ok (.iinc 3 (-1), 3) := by decide +kernel
theorem dX2_dropInnerWoods_93 : decode cX2_dropInnerWoods 93 = .ok (.goto (-44), 3) := by decide +kernel
theorem dX2_dropInnerWoods_96 : decode cX2_dropInnerWoods 96 = .ok (.return_, 1) := by decide +kernel
set_option maxRecDepth 20000 in
theorem ggX2_leastTone_X5_byWeight : GoodIn wsX2_leastTone wsX5_byWeight := goodIn_r _ [9] (by decide +kernel) (by decide +kernel)
set_option maxRecDepth 20000 in
theorem gX2_leastTone_X5_byWeight : GoodIn wsX2_leastTone (va_wsS RX2 70 yX5_byWeight wsX5_byWeight) := goodIn_app (goodIn_of _ (by decide +kernel)) ggX2_leastTone_X5_byWeight
theorem dX2_leastTone_0 : decode cX2_leastTone 0 = .ok (.sipush 512, 3) := by decide +kernel
theorem dX2_leastTone_3 : decode cX2_leastTone 3 = .ok (.istore_n 2, 1) := by decide +kernel
theorem dX2_leastTone_4 : decode cX2_leastTone 4 = .ok (.iconst 1, 1) := by decide +kernel
theorem dX2_leastTone_5 : decode cX2_leastTone 5 = .ok (.istore_n 3, 1) := by decide +kernel
theorem dX2_leastTone_6 : decode cX2_leastTone 6 = .ok (.iload_n 3, 1) := by decide +kernel
theorem dX2_leastTone_7 : decode cX2_leastTone 7 = .ok (.bipush 9, 2) := by decide +kernel
theorem dX2_leastTone_9 : decode cX2_leastTone 9 = .ok (.if_icmp .gt 35, 3) := by decide +kernel
theorem dX2_leastTone_12 : decode cX2_leastTone 12 = .ok (.aload_n 0, 1) := by decide +kernel
theorem dX2_leastTone_13 : decode cX2_leastTone 13 = .ok (.getfield 31, 3) := by decide +kernel
theorem dX2_leastTone_16 : decode cX2_leastTone 16 = .ok (.iload_n 3, 1) := by decide +kernel
theorem dX2_leastTone_17 : decode cX2_leastTone 17 = .ok (.iaload, 1) := by decide +kernel
theorem dX2_leastTone_18 : decode cX2_leastTone 18 = .ok (.ifCond .le 20, 3) := by decide +kernel
theorem dX2_leastTone_21 : decode cX2_leastTone 21 = .ok (.iload_n 2, 1) := by decide +kernel
theorem dX2_leastTone_22 : decode cX2_leastTone 22 = .ok (.aload_n 1, 1) := by decide +kernel
theorem dX2_leastTone_23 : decode cX2_leastTone 23 = .ok (.iload_n 3, 1) := by decide +kernel
theorem dX2_leastTone_24 : decode cX2_leastTone 24 = .ok (.iaload, 1) := by decide +kernel
theorem dX2_leastTone_25 : decode cX2_leastTone 25 = .ok (.aload_n 0, 1) := by decide +kernel
theorem dX2_leastTone_26 : decode cX2_leastTone 26 = .ok (.getfield 31, 3) := by decide +kernel
theorem dX2_leastTone_29 : decode cX2_leastTone 29 = .ok (.iload_n 3, 1) := by decide +kernel
theorem dX2_leastTone_30 : decode cX2_leastTone 30 = .ok (.iaload, 1) := by decide +kernel
theorem dX2_leastTone_31 : decode cX2_leastTone 31 = .ok (.invokestatic 70, 3) := by decide +kernel
theorem dX2_leastTone_34 : decode cX2_leastTone 34 = .ok (.invokestatic 74, 3) := by decide +kernel
theorem dX2_leastTone_37 : decode cX2_leastTone 37 = .ok (.istore_n 2, 1) := by decide +kernel
theorem dX2_leastTone_38 : decode cX2_leastTone 38 = .ok (.iinc 3 1, 3) := by decide +kernel
theorem dX2_leastTone_41 : decode cX2_leastTone 41 = .ok (.goto (-35), 3) := by decide +kernel
theorem dX2_leastTone_44 : decode cX2_leastTone 44 = .ok (.iload_n 2, 1) := by decide +kernel
theorem dX2_leastTone_45 : decode cX2_leastTone 45 = .ok (.ireturn, 1) := by decide +kernel
set_option maxRecDepth 20000 in
theorem ggX2_greatestTone_X5_byWeight : GoodIn wsX2_greatestTone wsX5_byWeight := goodIn_r _ [9] (by decide +kernel) (by decide +kernel)
set_option maxRecDepth 20000 in
theorem gX2_greatestTone_X5_byWeight : GoodIn wsX2_greatestTone (va_wsS RX2 70 yX5_byWeight wsX5_byWeight) := goodIn_app (goodIn_of _ (by decide +kernel)) ggX2_greatestTone_X5_byWeight
theorem dX2_greatestTone_0 : decode cX2_greatestTone 0 = .ok (.iconst 0, 1) := by decide +kernel
theorem dX2_greatestTone_1 : decode cX2_greatestTone 1 = .ok (.istore_n 2, 1) := by decide +kernel
theorem dX2_greatestTone_2 : decode cX2_greatestTone 2 = .ok (.iconst 1, 1) := by decide +kernel
theorem dX2_greatestTone_3 : decode cX2_greatestTone 3 = .ok (.istore_n 3, 1) := by decide +kernel
theorem dX2_greatestTone_4 : decode cX2_greatestTone 4 = .ok (.iload_n 3, 1) := by decide +kernel
theorem dX2_greatestTone_5 : decode cX2_greatestTone 5 = .ok (.bipush 9, 2) := by decide +kernel
theorem dX2_greatestTone_7 : decode cX2_greatestTone 7 = .ok (.if_icmp .gt 35, 3) := by decide +kernel
theorem dX2_greatestTone_10 : decode cX2_greatestTone 10 = .ok (.aload_n 0, 1) := by decide +kernel
theorem dX2_greatestTone_11 : decode cX2_greatestTone 11 = .ok (.getfield 34, 3) := by decide +kernel
theorem dX2_greatestTone_14 : decode cX2_greatestTone 14 = .ok (.iload_n 3, 1) := by decide +kernel
theorem dX2_greatestTone_15 : decode cX2_greatestTone 15 = .ok (.iaload, 1) := by decide +kernel
theorem dX2_greatestTone_16 : decode cX2_greatestTone 16 = .ok (.ifCond .le 20, 3) := by decide +kernel
theorem dX2_greatestTone_19 : decode cX2_greatestTone 19 = .ok (.iload_n 2, 1) := by decide +kernel
theorem dX2_greatestTone_20 : decode cX2_greatestTone 20 = .ok (.aload_n 1, 1) := by decide +kernel
theorem dX2_greatestTone_21 : decode cX2_greatestTone 21 = .ok (.iload_n 3, 1) := by decide +kernel
theorem dX2_greatestTone_22 : decode cX2_greatestTone 22 = .ok (.iaload, 1) := by decide +kernel
theorem dX2_greatestTone_23 : decode cX2_greatestTone 23 = .ok (.aload_n 0, 1) := by decide +kernel
theorem dX2_greatestTone_24 : decode cX2_greatestTone 24 = .ok (.getfield 34, 3) := by decide +kernel
theorem dX2_greatestTone_27 : decode cX2_greatestTone 27 = .ok (.iload_n 3, 1) := by decide +kernel
theorem dX2_greatestTone_28 : decode cX2_greatestTone 28 = .ok (.iaload, 1) := by decide +kernel
theorem dX2_greatestTone_29 : decode cX2_greatestTone 29 = .ok (.invokestatic 70, 3) := by decide +kernel
theorem dX2_greatestTone_32 : decode cX2_greatestTone 32 = .ok (.invokestatic 79, 3) := by decide +kernel
theorem dX2_greatestTone_35 : decode cX2_greatestTone 35 = .ok (.istore_n 2, 1) := by decide +kernel
theorem dX2_greatestTone_36 : decode cX2_greatestTone 36 = .ok (.iinc 3 1, 3) := by decide +kernel
theorem dX2_greatestTone_39 : decode cX2_greatestTone 39 = .ok (.goto (-35), 3) := by decide +kernel
theorem dX2_greatestTone_42 : decode cX2_greatestTone 42 = .ok (.iload_n 2, 1) := by decide +kernel
theorem dX2_greatestTone_43 : decode cX2_greatestTone 43 = .ok (.ireturn, 1) := by decide +kernel
set_option maxRecDepth 20000 in
theorem ggX2_toneOfLeft_X5_byWeight : GoodIn wsX2_toneOfLeft wsX5_byWeight := goodIn_r _ [6] (by decide +kernel) (by decide +kernel)
set_option maxRecDepth 20000 in
theorem gX2_toneOfLeft_X5_byWeight : GoodIn wsX2_toneOfLeft (va_wsS RX2 70 yX5_byWeight wsX5_byWeight) := goodIn_app (goodIn_of _ (by decide +kernel)) ggX2_toneOfLeft_X5_byWeight
theorem dX2_toneOfLeft_0 : decode cX2_toneOfLeft 0 = .ok (.aload_n 2, 1) := by decide +kernel
theorem dX2_toneOfLeft_1 : decode cX2_toneOfLeft 1 = .ok (.aload_n 0, 1) := by decide +kernel
theorem dX2_toneOfLeft_2 : decode cX2_toneOfLeft 2 = .ok (.getfield 21, 3) := by decide +kernel
theorem dX2_toneOfLeft_5 : decode cX2_toneOfLeft 5 = .ok (.iload_n 1, 1) := by decide +kernel
theorem dX2_toneOfLeft_6 : decode cX2_toneOfLeft 6 = .ok (.iaload, 1) := by decide +kernel
theorem dX2_toneOfLeft_7 : decode cX2_toneOfLeft 7 = .ok (.iaload, 1) := by decide +kernel
theorem dX2_toneOfLeft_8 : decode cX2_toneOfLeft 8 = .ok (.aload_n 0, 1) := by decide +kernel
theorem dX2_toneOfLeft_9 : decode cX2_toneOfLeft 9 = .ok (.getfield 25, 3) := by decide +kernel
theorem dX2_toneOfLeft_12 : decode cX2_toneOfLeft 12 = .ok (.iload_n 1, 1) := by decide +kernel
theorem dX2_toneOfLeft_13 : decode cX2_toneOfLeft 13 = .ok (.iaload, 1) := by decide +kernel
theorem dX2_toneOfLeft_14 : decode cX2_toneOfLeft 14 = .ok (.invokestatic 70, 3) := by decide +kernel
theorem dX2_toneOfLeft_17 : decode cX2_toneOfLeft 17 = .ok (.ireturn, 1) := by decide +kernel
set_option maxRecDepth 20000 in
theorem ggX2_farthest_X2_toneOfLeft : GoodIn wsX2_farthest wsX2_toneOfLeft := goodIn_r _ [13, 14, 15, 16, 17, 18, 19, 20, 21, 22, 23, 24, 25, 26] (by decide +kernel) (by decide +kernel)
set_option maxRecDepth 20000 in
theorem gX2_farthest_X2_toneOfLeft : GoodIn wsX2_farthest (wsV RX2 82 RX2 yX2_toneOfLeft wsX2_toneOfLeft) := goodIn_app (goodIn_of _ (by decide +kernel)) ggX2_farthest_X2_toneOfLeft
theorem dX2_farthest_0 : decode cX2_farthest 0 = .ok (.iconst 0, 1) := by decide +kernel
theorem dX2_farthest_1 : decode cX2_farthest 1 = .ok (.istore_n 3, 1) := by decide +kernel
theorem dX2_farthest_2 : decode cX2_farthest 2 = .ok (.iconst 0, 1) := by decide +kernel
theorem dX2_farthest_3 : decode cX2_farthest 3 = .ok (.istore 4, 2) := by decide +kernel
theorem dX2_farthest_5 : decode cX2_farthest 5 = .ok (.iload 4, 2) := by decide +kernel
theorem dX2_farthest_7 : decode cX2_farthest 7 = .ok (.aload_n 0, 1) := by decide +kernel
theorem dX2_farthest_8 : decode cX2_farthest 8 = .ok (.getfield 28, 3) := by decide +kernel
theorem dX2_farthest_11 : decode cX2_farthest 11 = .ok (.if_icmp .ge 36, 3) := by decide +kernel
theorem dX2_farthest_14 : decode cX2_farthest 14 = .ok (.aload_n 0, 1) := by decide +kernel
theorem dX2_farthest_15 : decode cX2_farthest 15 = .ok (.iload 4, 2) := by decide +kernel
theorem dX2_farthest_17 : decode cX2_farthest 17 = .ok (.aload_n 1, 1) := by decide +kernel
theorem dX2_farthest_18 : decode cX2_farthest 18 = .ok (.invokevirtual 82, 3) := by decide +kernel
theorem dX2_farthest_21 : decode cX2_farthest 21 = .ok (.aload_n 0, 1) := by decide +kernel
theorem dX2_farthest_22 : decode cX2_farthest 22 = .ok (.iload 4, 2) := by decide +kernel
theorem dX2_farthest_24 : decode cX2_farthest 24 = .ok (.aload_n 2, 1) := by decide +kernel
theorem dX2_farthest_25 : decode cX2_farthest 25 = .ok (.invokevirtual 82, 3) := by decide +kernel
theorem dX2_farthest_28 : decode cX2_farthest 28 = .ok (.isub, 1) := by decide +kernel
theorem dX2_farthest_29 : decode cX2_farthest 29 = .ok (.invokestatic 86, 3) := by decide +kernel
theorem dX2_farthest_32 : decode cX2_farthest 32 = .ok (.istore 5, 2) := by decide +kernel
theorem dX2_farthest_34 : decode cX2_farthest 34 = .ok (.iload_n 3, 1) := by decide +kernel
theorem dX2_farthest_35 : decode cX2_farthest 35 = .ok (.iload 5, 2) := by decide +kernel
theorem dX2_farthest_37 : decode cX2_farthest 37 = .ok (.invokestatic 79, 3) := by decide +kernel
theorem dX2_farthest_40 : decode cX2_farthest 40 = .ok (.istore_n 3, 1) := by decide +kernel
theorem dX2_farthest_41 : decode cX2_farthest 41 = .ok (.iinc 4 1, 3) := by decide +kernel
theorem dX2_farthest_44 : decode cX2_farthest 44 = .ok (.goto (-39), 3) := by decide +kernel
theorem dX2_farthest_47 : decode cX2_farthest 47 = .ok (.iload_n 3, 1) := by decide +kernel
theorem dX2_farthest_48 : decode cX2_farthest 48 = .ok (.ireturn, 1) := by decide +kernel
theorem dX3_init_0 : decode cX3_init 0 = .ok (.aload_n 0, 1) := by decide +kernel
theorem dX3_init_1 : decode cX3_init 1 = .ok (.invokespecial 3, 3) := by decide +kernel
theorem dX3_init_4 : decode cX3_init 4 = .ok (.aload_n 0, 1) := by decide +kernel
theorem dX3_init_5 : decode cX3_init 5 = .ok (.iconst 4, 1) := by decide +kernel
theorem dX3_init_6 : decode cX3_init 6 = .ok (.newarray .int, 2) := by decide +kernel
theorem dX3_init_8 : decode cX3_init 8 = .ok (.putfield 9, 3) := by decide +kernel
theorem dX3_init_11 : decode cX3_init 11 = .ok (.aload_n 0, 1) := by decide +kernel
theorem dX3_init_12 : decode cX3_init 12 = .ok (.iconst 4, 1) := by decide +kernel
theorem dX3_init_13 : decode cX3_init 13 = .ok (.newarray .int, 2) := by decide +kernel
theorem dX3_init_15 : decode cX3_init 15 = .ok (.putfield 15, 3) := by decide +kernel
theorem dX3_init_18 : decode cX3_init 18 = .ok (.aload_n 0, 1) := by decide +kernel
theorem dX3_init_19 : decode cX3_init 19 = .ok (.iconst 4, 1) := by decide +kernel
theorem dX3_init_20 : decode cX3_init 20 = .ok (.newarray .int, 2) := by decide +kernel
theorem dX3_init_22 : decode cX3_init 22 = .ok (.putfield 18, 3) := by decide +kernel
theorem dX3_init_25 : decode cX3_init 25 = .ok (.aload_n 0, 1) := by decide +kernel
theorem dX3_init_26 : decode cX3_init 26 = .ok (.iconst (-1), 1) := by decide +kernel
theorem dX3_init_27 : decode cX3_init 27 = .ok (.putfield 21, 3) := by decide +kernel
theorem dX3_init_30 : decode cX3_init 30 = .ok (.aload_n 0, 1) := by decide +kernel
theorem dX3_init_31 : decode cX3_init 31 = .ok (.iconst (-1), 1) := by decide +kernel
theorem dX3_init_32 : decode cX3_init 32 = .ok (.putfield 25, 3) := by decide +kernel
theorem dX3_init_35 : decode cX3_init 35 = .ok (.return_, 1) := by decide +kernel
theorem dX3_forget_0 : decode cX3_forget 0 = .ok (.aload_n 0, 1) := by decide +kernel
theorem dX3_forget_1 : decode cX3_forget 1 = .ok (.iconst (-1), 1) := by decide +kernel
theorem dX3_forget_2 : decode cX3_forget 2 = .ok (.putfield 25, 3) := by decide +kernel
theorem dX3_forget_5 : decode cX3_forget 5 = .ok (.return_, 1) := by decide +kernel
set_option maxRecDepth 20000 in
theorem ggX3_search_X3_foundOf : GoodIn wsX3_search wsX3_foundOf := goodIn_r _ [11, 1, 12, 13, 4, 14, 2, 3, 5, 15, 16, 17, 18, 10, 19, 20, 21, 22, 23, 24, 25, 26, 27, 28, 29, 30, 31, 32, 33, 34, 35, 36, 37, 38, 39, 40, 41, 42, 43, 44, 45, 46, 47, 48, 49, 50, 51, 52] (by decide +kernel) (by decide +kernel)
set_option maxRecDepth 20000 in
theorem gX3_search_X3_foundOf : GoodIn wsX3_search (wsV RX3 34 RX3 yX3_foundOf wsX3_foundOf) := goodIn_app (goodIn_of _ (by decide +kernel)) ggX3_search_X3_foundOf
theorem dX3_search_0 : decode cX3_search 0 = .ok (.iconst 0, 1) := by decide +kernel
theorem dX3_search_1 : decode cX3_search 1 = .ok (.istore 5, 2) := by decide +kernel
theorem dX3_search_3 : decode cX3_search 3 = .ok (.iconst 0, 1) := by decide +kernel
theorem dX3_search_4 : decode cX3_search 4 = .ok (.istore 6, 2) := by decide +kernel
theorem dX3_search_6 : decode cX3_search 6 = .ok (.iload 6, 2) := by decide +kernel
