theorem dX3_search_8 : decode cX3_search 8 = .ok (.iconst 4, 1) := by decide +kernel
theorem dX3_search_9 : decode cX3_search 9 = .ok (.if_icmp .ge 38, 3) := by decide +kernel
theorem dX3_search_12 : decode cX3_search 12 = .ok (.aload_n 0, 1) := by decide +kernel
theorem dX3_search_13 : decode cX3_search 13 = .ok (.getfield 15, 3) := by decide +kernel
theorem dX3_search_16 : decode cX3_search 16 = .ok (.iload 6, 2) := by decide +kernel
theorem dX3_search_18 : decode cX3_search 18 = .ok (.iconst 0, 1) := by decide +kernel
theorem dX3_search_19 : decode cX3_search 19 = .ok (.aload_n 1, 1) := by decide +kernel
theorem dX3_search_20 : decode cX3_search 20 = .ok (.iload 6, 2) := by decide +kernel
theorem dX3_search_22 : decode cX3_search 22 = .ok (.iaload, 1) := by decide +kernel
theorem dX3_search_23 : decode cX3_search 23 = .ok (.iload_n 2, 1) := by decide +kernel
theorem dX3_search_24 : decode cX3_search 24 = .ok (.isub, 1) := by decide +kernel
theorem dX3_search_25 : decode cX3_search 25 = .ok (.invokestatic 28, 3) := by decide +kernel
theorem dX3_search_28 : decode cX3_search 28 = .ok (.iastore, 1) := by decide +kernel
theorem dX3_search_29 : decode cX3_search 29 = .ok (.iload 5, 2) := by decide +kernel
theorem dX3_search_31 : decode cX3_search 31 = .ok (.aload_n 0, 1) := by decide +kernel
theorem dX3_search_32 : decode cX3_search 32 = .ok (.getfield 15, 3) := by decide +kernel
theorem dX3_search_35 : decode cX3_search 35 = .ok (.iload 6, 2) := by decide +kernel
theorem dX3_search_37 : decode cX3_search 37 = .ok (.iaload, 1) := by decide +kernel
theorem dX3_search_38 : decode cX3_search 38 = .ok (.iadd, 1) := by decide +kernel
theorem dX3_search_39 : decode cX3_search 39 = .ok (.istore 5, 2) := by decide +kernel
theorem dX3_search_41 : decode cX3_search 41 = .ok (.iinc 6 1, 3) := by decide +kernel
theorem dX3_search_44 : decode cX3_search 44 = .ok (.goto (-38), 3) := by decide +kernel
theorem dX3_search_47 : decode cX3_search 47 = .ok (.aload_n 0, 1) := by decide +kernel
theorem dX3_search_48 : decode cX3_search 48 = .ok (.iconst (-1), 1) := by decide +kernel
theorem dX3_search_49 : decode cX3_search 49 = .ok (.putfield 21, 3) := by decide +kernel
theorem dX3_search_52 : decode cX3_search 52 = .ok (.iconst 0, 1) := by decide +kernel
theorem dX3_search_53 : decode cX3_search 53 = .ok (.istore 6, 2) := by decide +kernel
theorem dX3_search_55 : decode cX3_search 55 = .ok (.iload 6, 2) := by decide +kernel
theorem dX3_search_57 : decode cX3_search 57 = .ok (.iload 5, 2) := by decide +kernel
theorem dX3_search_59 : decode cX3_search 59 = .ok (.if_icmp .gt 36, 3) := by decide +kernel
theorem dX3_search_62 : decode cX3_search 62 = .ok (.aload_n 0, 1) := by decide +kernel
theorem dX3_search_63 : decode cX3_search 63 = .ok (.getfield 21, 3) := by decide +kernel
theorem dX3_search_66 : decode cX3_search 66 = .ok (.iconst (-1), 1) := by decide +kernel
theorem dX3_search_67 : decode cX3_search 67 = .ok (.if_icmp .ne 28, 3) := by decide +kernel
theorem dX3_search_70 : decode cX3_search 70 = .ok (.aload_n 0, 1) := by decide +kernel
theorem dX3_search_71 : decode cX3_search 71 = .ok (.iload 6, 2) := by decide +kernel
theorem dX3_search_73 : decode cX3_search 73 = .ok (.aload_n 1, 1) := by decide +kernel
theorem dX3_search_74 : decode cX3_search 74 = .ok (.aload_n 3, 1) := by decide +kernel
theorem dX3_search_75 : decode cX3_search 75 = .ok (.aload 4, 2) := by decide +kernel
theorem dX3_search_77 : decode cX3_search 77 = .ok (.invokevirtual 34, 3) := by decide +kernel
theorem dX3_search_80 : decode cX3_search 80 = .ok (.ifCond .eq 9, 3) := by decide +kernel
theorem dX3_search_83 : decode cX3_search 83 = .ok (.aload_n 0, 1) := by decide +kernel
theorem dX3_search_84 : decode cX3_search 84 = .ok (.iload 6, 2) := by decide +kernel
theorem dX3_search_86 : decode cX3_search 86 = .ok (.putfield 21, 3) := by decide +kernel
theorem dX3_search_89 : decode cX3_search 89 = .ok (.iinc 6 1, 3) := by decide +kernel
theorem dX3_search_92 : decode cX3_search 92 = .ok (.goto (-37), 3) := by decide +kernel
theorem dX3_search_95 : decode cX3_search 95 = .ok (.return_, 1) := by decide +kernel
set_option maxRecDepth 20000 in
theorem ggX3_foundOf_X3_take : GoodIn wsX3_foundOf wsX3_take := goodIn_r _ [14, 15, 9, 33, 34, 35, 36, 37] (by decide +kernel) (by decide +kernel)
set_option maxRecDepth 20000 in
theorem gX3_foundOf_X3_take : GoodIn wsX3_foundOf (wsV RX3 41 RX3 yX3_take wsX3_take) := goodIn_app (goodIn_of _ (by decide +kernel)) ggX3_foundOf_X3_take
set_option maxRecDepth 20000 in
theorem ggX3_foundOf_X0_metBy : GoodIn wsX3_foundOf wsX0_metBy := goodIn_r _ [20, 21, 22, 23, 24, 25, 26, 27, 28, 29, 30, 31, 32, 38, 39, 40, 41, 42, 43, 44, 45, 46, 47] (by decide +kernel) (by decide +kernel)
set_option maxRecDepth 20000 in
theorem gX3_foundOf_X0_metBy : GoodIn wsX3_foundOf (wsV RX3 45 RX0 yX0_metBy wsX0_metBy) := goodIn_app (goodIn_of _ (by decide +kernel)) ggX3_foundOf_X0_metBy
theorem dX3_foundOf_0 : decode cX3_foundOf 0 = .ok (.iconst 0, 1) := by decide +kernel
theorem dX3_foundOf_1 : decode cX3_foundOf 1 = .ok (.istore 5, 2) := by decide +kernel
theorem dX3_foundOf_3 : decode cX3_foundOf 3 = .ok (.iload 5, 2) := by decide +kernel
theorem dX3_foundOf_5 : decode cX3_foundOf 5 = .ok (.iload_n 1, 1) := by decide +kernel
theorem dX3_foundOf_6 : decode cX3_foundOf 6 = .ok (.aload_n 0, 1) := by decide +kernel
theorem dX3_foundOf_7 : decode cX3_foundOf 7 = .ok (.getfield 15, 3) := by decide +kernel
theorem dX3_foundOf_10 : decode cX3_foundOf 10 = .ok (.iconst 0, 1) := by decide +kernel
theorem dX3_foundOf_11 : decode cX3_foundOf 11 = .ok (.iaload, 1) := by decide +kernel
theorem dX3_foundOf_12 : decode cX3_foundOf 12 = .ok (.invokestatic 38, 3) := by decide +kernel
theorem dX3_foundOf_15 : decode cX3_foundOf 15 = .ok (.if_icmp .gt 113, 3) := by decide +kernel
theorem dX3_foundOf_18 : decode cX3_foundOf 18 = .ok (.iconst 0, 1) := by decide +kernel
theorem dX3_foundOf_19 : decode cX3_foundOf 19 = .ok (.istore 6, 2) := by decide +kernel
theorem dX3_foundOf_21 : decode cX3_foundOf 21 = .ok (.iload 6, 2) := by decide +kernel
theorem dX3_foundOf_23 : decode cX3_foundOf 23 = .ok (.iload_n 1, 1) := by decide +kernel
theorem dX3_foundOf_24 : decode cX3_foundOf 24 = .ok (.iload 5, 2) := by decide +kernel
theorem dX3_foundOf_26 : decode cX3_foundOf 26 = .ok (.isub, 1) := by decide +kernel
theorem dX3_foundOf_27 : decode cX3_foundOf 27 = .ok (.aload_n 0, 1) := by decide +kernel
theorem dX3_foundOf_28 : decode cX3_foundOf 28 = .ok (.getfield 15, 3) := by decide +kernel
theorem dX3_foundOf_31 : decode cX3_foundOf 31 = .ok (.iconst 1, 1) := by decide +kernel
theorem dX3_foundOf_32 : decode cX3_foundOf 32 = .ok (.iaload, 1) := by decide +kernel
theorem dX3_foundOf_33 : decode cX3_foundOf 33 = .ok (.invokestatic 38, 3) := by decide +kernel
theorem dX3_foundOf_36 : decode cX3_foundOf 36 = .ok (.if_icmp .gt 86, 3) := by decide +kernel
theorem dX3_foundOf_39 : decode cX3_foundOf 39 = .ok (.iload_n 1, 1) := by decide +kernel
theorem dX3_foundOf_40 : decode cX3_foundOf 40 = .ok (.iload 5, 2) := by decide +kernel
theorem dX3_foundOf_42 : decode cX3_foundOf 42 = .ok (.isub, 1) := by decide +kernel
theorem dX3_foundOf_43 : decode cX3_foundOf 43 = .ok (.iload 6, 2) := by decide +kernel
theorem dX3_foundOf_45 : decode cX3_foundOf 45 = .ok (.isub, 1) := by decide +kernel
theorem dX3_foundOf_46 : decode cX3_foundOf 46 = .ok (.istore 7, 2) := by decide +kernel
theorem dX3_foundOf_48 : decode cX3_foundOf 48 = .ok (.iconst 0, 1) := by decide +kernel
theorem dX3_foundOf_49 : decode cX3_foundOf 49 = .ok (.iload 7, 2) := by decide +kernel
theorem dX3_foundOf_51 : decode cX3_foundOf 51 = .ok (.aload_n 0, 1) := by decide +kernel
theorem dX3_foundOf_52 : decode cX3_foundOf 52 = .ok (.getfield 15, 3) := by decide +kernel
theorem dX3_foundOf_55 : decode cX3_foundOf 55 = .ok (.iconst 3, 1) := by decide +kernel
theorem dX3_foundOf_56 : decode cX3_foundOf 56 = .ok (.iaload, 1) := by decide +kernel
theorem dX3_foundOf_57 : decode cX3_foundOf 57 = .ok (.isub, 1) := by decide +kernel
theorem dX3_foundOf_58 : decode cX3_foundOf 58 = .ok (.invokestatic 28, 3) := by decide +kernel
theorem dX3_foundOf_61 : decode cX3_foundOf 61 = .ok (.istore 8, 2) := by decide +kernel
theorem dX3_foundOf_63 : decode cX3_foundOf 63 = .ok (.iload 8, 2) := by decide +kernel
theorem dX3_foundOf_65 : decode cX3_foundOf 65 = .ok (.iload 7, 2) := by decide +kernel
theorem dX3_foundOf_67 : decode cX3_foundOf 67 = .ok (.aload_n 0, 1) := by decide +kernel
theorem dX3_foundOf_68 : decode cX3_foundOf 68 = .ok (.getfield 15, 3) := by decide +kernel
theorem dX3_foundOf_71 : decode cX3_foundOf 71 = .ok (.iconst 2, 1) := by decide +kernel
theorem dX3_foundOf_72 : decode cX3_foundOf 72 = .ok (.iaload, 1) := by decide +kernel
theorem dX3_foundOf_73 : decode cX3_foundOf 73 = .ok (.invokestatic 38, 3) := by decide +kernel
theorem dX3_foundOf_76 : decode cX3_foundOf 76 = .ok (.if_icmp .gt 40, 3) := by decide +kernel
theorem dX3_foundOf_79 : decode cX3_foundOf 79 = .ok (.aload_n 0, 1) := by decide +kernel
theorem dX3_foundOf_80 : decode cX3_foundOf 80 = .ok (.aload_n 2, 1) := by decide +kernel
theorem dX3_foundOf_81 : decode cX3_foundOf 81 = .ok (.iload 5, 2) := by decide +kernel
theorem dX3_foundOf_83 : decode cX3_foundOf 83 = .ok (.iload 6, 2) := by decide +kernel
theorem dX3_foundOf_85 : decode cX3_foundOf 85 = .ok (.iload 8, 2) := by decide +kernel
theorem dX3_foundOf_87 : decode cX3_foundOf 87 = .ok (.iload 7, 2) := by decide +kernel
theorem dX3_foundOf_89 : decode cX3_foundOf 89 = .ok (.iload 8, 2) := by decide +kernel
theorem dX3_foundOf_91 : decode cX3_foundOf 91 = .ok (.isub, 1) := by decide +kernel
theorem dX3_foundOf_92 : decode cX3_foundOf 92 = .ok (.invokevirtual 41, 3) := by decide +kernel
theorem dX3_foundOf_95 : decode cX3_foundOf 95 = .ok (.aload 4, 2) := by decide +kernel
theorem dX3_foundOf_97 : decode cX3_foundOf 97 = .ok (.aload_n 0, 1) := by decide +kernel
theorem dX3_foundOf_98 : decode cX3_foundOf 98 = .ok (.getfield 18, 3) := by decide +kernel
theorem dX3_foundOf_101 : decode cX3_foundOf 101 = .ok (.aload_n 3, 1) := by decide +kernel
theorem dX3_foundOf_102 : decode cX3_foundOf 102 = .ok (.invokevirtual 45, 3) := by decide +kernel
theorem dX3_foundOf_105 : decode cX3_foundOf 105 = .ok (.ifCond .eq 5, 3) := by decide +kernel
theorem dX3_foundOf_108 : decode cX3_foundOf 108 = .ok (.iconst 1, 1) := by decide +kernel
theorem dX3_foundOf_109 : decode cX3_foundOf 109 = .ok (.ireturn, 1) := by decide +kernel
theorem dX3_foundOf_110 : decode cX3_foundOf 110 = .ok (.iinc 8 1, 3) := by decide +kernel
theorem dX3_foundOf_113 : decode cX3_foundOf 113 = .ok (.goto (-50), 3) := by decide +kernel
theorem dX3_foundOf_116 : decode cX3_foundOf 116 = .ok (.iinc 6 1, 3) := by decide +kernel
theorem dX3_foundOf_119 : decode cX3_foundOf 119 = .ok (.goto (-98), 3) := by decide +kernel
theorem dX3_foundOf_122 : decode cX3_foundOf 122 = .ok (.iinc 5 1, 3) := by decide +kernel
theorem dX3_foundOf_125 : decode cX3_foundOf 125 = .ok (.goto (-122), 3) := by decide +kernel
theorem dX3_foundOf_128 : decode cX3_foundOf 128 = .ok (.iconst 0, 1) := by decide +kernel
theorem dX3_foundOf_129 : decode cX3_foundOf 129 = .ok (.ireturn, 1) := by decide +kernel
theorem dX3_take_0 : decode cX3_take 0 = .ok (.aload_n 0, 1) := by decide +kernel
theorem dX3_take_1 : decode cX3_take 1 = .ok (.getfield 9, 3) := by decide +kernel
theorem dX3_take_4 : decode cX3_take 4 = .ok (.iconst 0, 1) := by decide +kernel
theorem dX3_take_5 : decode cX3_take 5 = .ok (.iload_n 2, 1) := by decide +kernel
theorem dX3_take_6 : decode cX3_take 6 = .ok (.iastore, 1) := by decide +kernel
theorem dX3_take_7 : decode cX3_take 7 = .ok (.aload_n 0, 1) := by decide +kernel
theorem dX3_take_8 : decode cX3_take 8 = .ok (.getfield 9, 3) := by decide +kernel
theorem dX3_take_11 : decode cX3_take 11 = .ok (.iconst 1, 1) := by decide +kernel
theorem dX3_take_12 : decode cX3_take 12 = .ok (.iload_n 3, 1) := by decide +kernel
theorem dX3_take_13 : decode cX3_take 13 = .ok (.iastore, 1) := by decide +kernel
theorem dX3_take_14 : decode cX3_take 14 = .ok (.aload_n 0, 1) := by decide +kernel
theorem dX3_take_15 : decode cX3_take 15 = .ok (.getfield 9, 3) := by decide +kernel
theorem dX3_take_18 : decode cX3_take 18 = .ok (.iconst 2, 1) := by decide +kernel
theorem dX3_take_19 : decode cX3_take 19 = .ok (.iload 4, 2) := by decide +kernel
theorem dX3_take_21 : decode cX3_take 21 = .ok (.iastore, 1) := by decide +kernel
theorem dX3_take_22 : decode cX3_take 22 = .ok (.aload_n 0, 1) := by decide +kernel
theorem dX3_take_23 : decode cX3_take 23 = .ok (.getfield 9, 3) := by decide +kernel
theorem dX3_take_26 : decode cX3_take 26 = .ok (.iconst 3, 1) := by decide +kernel
theorem dX3_take_27 : decode cX3_take 27 = .ok (.iload 5, 2) := by decide +kernel
theorem dX3_take_29 : decode cX3_take 29 = .ok (.iastore, 1) := by decide +kernel
theorem dX3_take_30 : decode cX3_take 30 = .ok (.iconst 0, 1) := by decide +kernel
theorem dX3_take_31 : decode cX3_take 31 = .ok (.istore 6, 2) := by decide +kernel
theorem dX3_take_33 : decode cX3_take 33 = .ok (.iload 6, 2) := by decide +kernel
theorem dX3_take_35 : decode cX3_take 35 = .ok (.iconst 4, 1) := by decide +kernel
theorem dX3_take_36 : decode cX3_take 36 = .ok (.if_icmp .ge 28, 3) := by decide +kernel
theorem dX3_take_39 : decode cX3_take 39 = .ok (.aload_n 0, 1) := by decide +kernel
theorem dX3_take_40 : decode cX3_take 40 = .ok (.getfield 18, 3) := by decide +kernel
theorem dX3_take_43 : decode cX3_take 43 = .ok (.iload 6, 2) := by decide +kernel
theorem dX3_take_45 : decode cX3_take 45 = .ok (.aload_n 1, 1) := by decide +kernel
theorem dX3_take_46 : decode cX3_take 46 = .ok (.iload 6, 2) := by decide +kernel
theorem dX3_take_48 : decode cX3_take 48 = .ok (.iaload, 1) := by decide +kernel
theorem dX3_take_49 : decode cX3_take 49 = .ok (.aload_n 0, 1) := by decide +kernel
theorem dX3_take_50 : decode cX3_take 50 = .ok (.getfield 9, 3) := by decide +kernel
theorem dX3_take_53 : decode cX3_take 53 = .ok (.iload 6, 2) := by decide +kernel
theorem dX3_take_55 : decode cX3_take 55 = .ok (.iaload, 1) := by decide +kernel
theorem dX3_take_56 : decode cX3_take 56 = .ok (.isub, 1) := by decide +kernel
theorem dX3_take_57 : decode cX3_take 57 = .ok (.iastore, 1) := by decide +kernel
theorem dX3_take_58 : decode cX3_take 58 = .ok (.iinc 6 1, 3) := by decide +kernel
theorem dX3_take_61 : decode cX3_take 61 = .ok (.goto (-28), 3) := by decide +kernel
theorem dX3_take_64 : decode cX3_take 64 = .ok (.return_, 1) := by decide +kernel
theorem dX3_stripOf_0 : decode cX3_stripOf 0 = .ok (.aload_n 0, 1) := by decide +kernel
theorem dX3_stripOf_1 : decode cX3_stripOf 1 = .ok (.getfield 21, 3) := by decide +kernel
theorem dX3_stripOf_4 : decode cX3_stripOf 4 = .ok (.iconst (-1), 1) := by decide +kernel
theorem dX3_stripOf_5 : decode cX3_stripOf 5 = .ok (.if_icmp .ne 5, 3) := by decide +kernel
theorem dX3_stripOf_8 : decode cX3_stripOf 8 = .ok (.iconst (-1), 1) := by decide +kernel
theorem dX3_stripOf_9 : decode cX3_stripOf 9 = .ok (.ireturn, 1) := by decide +kernel
theorem dX3_stripOf_10 : decode cX3_stripOf 10 = .ok (.iconst 0, 1) := by decide +kernel
theorem dX3_stripOf_11 : decode cX3_stripOf 11 = .ok (.istore_n 2, 1) := by decide +kernel
theorem dX3_stripOf_12 : decode cX3_stripOf 12 = .ok (.iconst 0, 1) := by decide +kernel
theorem dX3_stripOf_13 : decode cX3_stripOf 13 = .ok (.istore_n 3, 1) := by decide +kernel
theorem dX3_stripOf_14 : decode cX3_stripOf 14 = .ok (.iload_n 3, 1) := by decide +kernel
theorem dX3_stripOf_15 : decode cX3_stripOf 15 = .ok (.iconst 4, 1) := by decide +kernel
theorem dX3_stripOf_16 : decode cX3_stripOf 16 = .ok (.if_icmp .ge 25, 3) := by decide +kernel
theorem dX3_stripOf_19 : decode cX3_stripOf 19 = .ok (.iload_n 2, 1) := by decide +kernel
theorem dX3_stripOf_20 : decode cX3_stripOf 20 = .ok (.aload_n 0, 1) := by decide +kernel
theorem dX3_stripOf_21 : decode cX3_stripOf 21 = .ok (.getfield 9, 3) := by decide +kernel
theorem dX3_stripOf_24 : decode cX3_stripOf 24 = .ok (.iload_n 3, 1) := by decide +kernel
theorem dX3_stripOf_25 : decode cX3_stripOf 25 = .ok (.iaload, 1) := by decide +kernel
theorem dX3_stripOf_26 : decode cX3_stripOf 26 = .ok (.iadd, 1) := by decide +kernel
theorem dX3_stripOf_27 : decode cX3_stripOf 27 = .ok (.istore_n 2, 1) := by decide +kernel
theorem dX3_stripOf_28 : decode cX3_stripOf 28 = .ok (.iload_n 1, 1) := by decide +kernel
theorem dX3_stripOf_29 : decode cX3_stripOf 29 = .ok (.iload_n 2, 1) := by decide +kernel
theorem dX3_stripOf_30 : decode cX3_stripOf 30 = .ok (.if_icmp .ge 5, 3) := by decide +kernel
theorem dX3_stripOf_33 : decode cX3_stripOf 33 = .ok (.iload_n 3, 1) := by decide +kernel
theorem dX3_stripOf_34 : decode cX3_stripOf 34 = .ok (.ireturn, 1) := by decide +kernel
theorem dX3_stripOf_35 : decode cX3_stripOf 35 = .ok (.iinc 3 1, 3) := by decide +kernel
theorem dX3_stripOf_38 : decode cX3_stripOf 38 = .ok (.goto (-24), 3) := by decide +kernel
theorem dX3_stripOf_41 : decode cX3_stripOf 41 = .ok (.iconst (-1), 1) := by decide +kernel
theorem dX3_stripOf_42 : decode cX3_stripOf 42 = .ok (.ireturn, 1) := by decide +kernel
theorem dX4_init_0 : decode cX4_init 0 = .ok (.aload_n 0, 1) := by decide +kernel
theorem dX4_init_1 : decode cX4_init 1 = .ok (.invokespecial 3, 3) := by decide +kernel
theorem dX4_init_4 : decode cX4_init 4 = .ok (.aload_n 0, 1) := by decide +kernel
theorem dX4_init_5 : decode cX4_init 5 = .ok (.iconst 4, 1) := by decide +kernel
theorem dX4_init_6 : decode cX4_init 6 = .ok (.newarray .int, 2) := by decide +kernel
theorem dX4_init_8 : decode cX4_init 8 = .ok (.putfield 9, 3) := by decide +kernel
theorem dX4_init_11 : decode cX4_init 11 = .ok (.aload_n 0, 1) := by decide +kernel
theorem dX4_init_12 : decode cX4_init 12 = .ok (.bipush 20, 2) := by decide +kernel
theorem dX4_init_14 : decode cX4_init 14 = .ok (.newarray .int, 2) := by decide +kernel
theorem dX4_init_16 : decode cX4_init 16 = .ok (.putfield 15, 3) := by decide +kernel
theorem dX4_init_19 : decode cX4_init 19 = .ok (.aload_n 0, 1) := by decide +kernel
theorem dX4_init_20 : decode cX4_init 20 = .ok (.iconst 0, 1) := by decide +kernel
theorem dX4_init_21 : decode cX4_init 21 = .ok (.putfield 18, 3) := by decide +kernel
theorem dX4_init_24 : decode cX4_init 24 = .ok (.return_, 1) := by decide +kernel
theorem dX4_lay_0 : decode cX4_lay 0 = .ok (.aload_n 0, 1) := by decide +kernel
theorem dX4_lay_1 : decode cX4_lay 1 = .ok (.getfield 9, 3) := by decide +kernel
theorem dX4_lay_4 : decode cX4_lay 4 = .ok (.iconst 0, 1) := by decide +kernel
theorem dX4_lay_5 : decode cX4_lay 5 = .ok (.iload_n 1, 1) := by decide +kernel
theorem dX4_lay_6 : decode cX4_lay 6 = .ok (.iastore, 1) := by decide +kernel
theorem dX4_lay_7 : decode cX4_lay 7 = .ok (.aload_n 0, 1) := by decide +kernel
theorem dX4_lay_8 : decode cX4_lay 8 = .ok (.getfield 9, 3) := by decide +kernel
theorem dX4_lay_11 : decode cX4_lay 11 = .ok (.iconst 1, 1) := by decide +kernel
theorem dX4_lay_12 : decode cX4_lay 12 = .ok (.iload_n 2, 1) := by decide +kernel
theorem dX4_lay_13 : decode cX4_lay 13 = .ok (.iastore, 1) := by decide +kernel
theorem dX4_lay_14 : decode cX4_lay 14 = .ok (.aload_n 0, 1) := by decide +kernel
theorem dX4_lay_15 : decode cX4_lay 15 = .ok (.getfield 9, 3) := by decide +kernel
theorem dX4_lay_18 : decode cX4_lay 18 = .ok (.iconst 2, 1) := by decide +kernel
theorem dX4_lay_19 : decode cX4_lay 19 = .ok (.iload_n 3, 1) := by decide +kernel
theorem dX4_lay_20 : decode cX4_lay 20 = .ok (.iastore, 1) := by decide +kernel
theorem dX4_lay_21 : decode cX4_lay 21 = .ok (.aload_n 0, 1) := by decide +kernel
theorem dX4_lay_22 : decode cX4_lay 22 = .ok (.getfield 9, 3) := by decide +kernel
theorem dX4_lay_25 : decode cX4_lay 25 = .ok (.iconst 3, 1) := by decide +kernel
theorem dX4_lay_26 : decode cX4_lay 26 = .ok (.iload 4, 2) := by decide +kernel
theorem dX4_lay_28 : decode cX4_lay 28 = .ok (.iastore, 1) := by decide +kernel
theorem dX4_lay_29 : decode cX4_lay 29 = .ok (.return_, 1) := by decide +kernel
set_option maxRecDepth 20000 in
theorem ggX4_takeOff_X7_isStrip : GoodIn wsX4_takeOff wsX7_isStrip := goodIn_r _ [6] (by decide +kernel) (by decide +kernel)
set_option maxRecDepth 20000 in
theorem gX4_takeOff_X7_isStrip_n22 : GoodIn wsX4_takeOff (wsX7_isStrip) := ggX4_takeOff_X7_isStrip
theorem dX4_takeOff_0 : decode cX4_takeOff 0 = .ok (.iload_n 1, 1) := by decide +kernel
theorem dX4_takeOff_1 : decode cX4_takeOff 1 = .ok (.invokestatic 22, 3) := by decide +kernel
theorem dX4_takeOff_4 : decode cX4_takeOff 4 = .ok (.ifCond .eq 42, 3) := by decide +kernel
theorem dX4_takeOff_7 : decode cX4_takeOff 7 = .ok (.aload_n 0, 1) := by decide +kernel
theorem dX4_takeOff_8 : decode cX4_takeOff 8 = .ok (.getfield 18, 3) := by decide +kernel
theorem dX4_takeOff_11 : decode cX4_takeOff 11 = .ok (.bipush 20, 2) := by decide +kernel
theorem dX4_takeOff_13 : decode cX4_takeOff 13 = .ok (.if_icmp .ge 33, 3) := by decide +kernel
theorem dX4_takeOff_16 : decode cX4_takeOff 16 = .ok (.aload_n 0, 1) := by decide +kernel
theorem dX4_takeOff_17 : decode cX4_takeOff 17 = .ok (.getfield 9, 3) := by decide +kernel
theorem dX4_takeOff_20 : decode cX4_takeOff 20 = .ok (.iload_n 1, 1) := by decide +kernel
theorem dX4_takeOff_21 : decode cX4_takeOff 21 = .ok (.dup2, 1) := by decide +kernel
theorem dX4_takeOff_22 : decode cX4_takeOff 22 = .ok (.iaload, 1) := by decide +kernel
theorem dX4_takeOff_23 : decode cX4_takeOff 23 = .ok (.iconst 1, 1) := by decide +kernel
theorem dX4_takeOff_24 : decode cX4_takeOff 24 = .ok (.isub, 1) := by decide +kernel
theorem dX4_takeOff_25 : decode cX4_takeOff 25 = .ok (.iastore, 1) := by decide +kernel
theorem dX4_takeOff_26 : decode cX4_takeOff 26 = .ok (.aload_n 0, 1) := by decide +kernel
theorem dX4_takeOff_27 : decode cX4_takeOff 27 = .ok (.getfield 15, 3) := by decide +kernel
theorem dX4_takeOff_30 : decode cX4_takeOff 30 = .ok (.aload_n 0, 1) := by decide +kernel
theorem dX4_takeOff_31 : decode cX4_takeOff 31 = .ok (.getfield 18, 3) := by decide +kernel
theorem dX4_takeOff_34 : decode cX4_takeOff 34 = .ok (.iload_n 1, 1) := by decide +kernel
theorem dX4_takeOff_35 : decode cX4_takeOff 35 = .ok (.iastore, 1) := by decide +kernel
theorem dX4_takeOff_36 : decode cX4_takeOff 36 = .ok (.aload_n 0, 1) := by decide +kernel
theorem dX4_takeOff_37 : decode cX4_takeOff 37 = .ok (.dup, 1) := by decide +kernel
theorem dX4_takeOff_38 : decode cX4_takeOff 38 = .ok (.getfield 18, 3) := by decide +kernel
theorem dX4_takeOff_41 : decode cX4_takeOff 41 = .ok (.iconst 1, 1) := by decide +kernel
theorem dX4_takeOff_42 : decode cX4_takeOff 42 = .ok (.iadd, 1) := by decide +kernel
theorem dX4_takeOff_43 : decode cX4_takeOff 43 = .ok (.putfield 18, 3) := by decide +kernel
theorem dX4_takeOff_46 : decode cX4_takeOff 46 = .ok (.return_, 1) := by decide +kernel
set_option maxRecDepth 20000 in
theorem ggX4_takeOffAll_X4_takeOff : GoodIn wsX4_takeOffAll wsX4_takeOff := goodIn_r _ [5, 6, 7, 8, 9, 10, 11, 12, 13, 14] (by decide +kernel) (by decide +kernel)
set_option maxRecDepth 20000 in
theorem gX4_takeOffAll_X4_takeOff : GoodIn wsX4_takeOffAll (wsV RX4 26 RX4 yX4_takeOff wsX4_takeOff) := goodIn_app (goodIn_of _ (by decide +kernel)) ggX4_takeOffAll_X4_takeOff
theorem dX4_takeOffAll_0 : decode cX4_takeOffAll 0 = .ok (.iconst 0, 1) := by decide +kernel
theorem dX4_takeOffAll_1 : decode cX4_takeOffAll 1 = .ok (.istore_n 2, 1) := by decide +kernel
theorem dX4_takeOffAll_2 : decode cX4_takeOffAll 2 = .ok (.iload_n 2, 1) := by decide +kernel
theorem dX4_takeOffAll_3 : decode cX4_takeOffAll 3 = .ok (.iconst 4, 1) := by decide +kernel
theorem dX4_takeOffAll_4 : decode cX4_takeOffAll 4 = .ok (.if_icmp .ge 29, 3) := by decide +kernel
theorem dX4_takeOffAll_7 : decode cX4_takeOffAll 7 = .ok (.iconst 0, 1) := by decide +kernel
theorem dX4_takeOffAll_8 : decode cX4_takeOffAll 8 = .ok (.istore_n 3, 1) := by decide +kernel
theorem dX4_takeOffAll_9 : decode cX4_takeOffAll 9 = .ok (.iload_n 3, 1) := by decide +kernel
theorem dX4_takeOffAll_10 : decode cX4_takeOffAll 10 = .ok (.aload_n 1, 1) := by decide +kernel
theorem dX4_takeOffAll_11 : decode cX4_takeOffAll 11 = .ok (.iload_n 2, 1) := by decide +kernel
theorem dX4_takeOffAll_12 : decode cX4_takeOffAll 12 = .ok (.iaload, 1) := by decide +kernel
theorem dX4_takeOffAll_13 : decode cX4_takeOffAll 13 = .ok (.if_icmp .ge 14, 3) := by decide +kernel
theorem dX4_takeOffAll_16 : decode cX4_takeOffAll 16 = .ok (.aload_n 0, 1) := by decide +kernel
theorem dX4_takeOffAll_17 : decode cX4_takeOffAll 17 = .ok (.iload_n 2, 1) := by decide +kernel
theorem dX4_takeOffAll_18 : decode cX4_takeOffAll 18 = .ok (.invokevirtual 26, 3) := by decide +kernel
theorem dX4_takeOffAll_21 : decode cX4_takeOffAll 21 = .ok (.iinc 3 1, 3) := by decide +kernel
theorem dX4_takeOffAll_24 : decode cX4_takeOffAll 24 = .ok (.goto (-15), 3) := by decide +kernel
theorem dX4_takeOffAll_27 : decode cX4_takeOffAll 27 = .ok (.iinc 2 1, 3) := by decide +kernel
theorem dX4_takeOffAll_30 : decode cX4_takeOffAll 30 = .ok (.goto (-28), 3) := by decide +kernel
theorem dX4_takeOffAll_33 : decode cX4_takeOffAll 33 = .ok (.return_, 1) := by decide +kernel
theorem dX4_putBack_0 : decode cX4_putBack 0 = .ok (.aload_n 0, 1) := by decide +kernel
theorem dX4_putBack_1 : decode cX4_putBack 1 = .ok (.getfield 18, 3) := by decide +kernel
theorem dX4_putBack_4 : decode cX4_putBack 4 = .ok (.ifCond .gt 6, 3) := by decide +kernel
theorem dX4_putBack_7 : decode cX4_putBack 7 = .ok (.bipush (-3), 2) := by decide +kernel
theorem dX4_putBack_9 : decode cX4_putBack 9 = .ok (.ireturn, 1) := by decide +kernel
theorem dX4_putBack_10 : decode cX4_putBack 10 = .ok (.aload_n 0, 1) := by decide +kernel
theorem dX4_putBack_11 : decode cX4_putBack 11 = .ok (.dup, 1) := by decide +kernel
theorem dX4_putBack_12 : decode cX4_putBack 12 = .ok (.getfield 18, 3) := by decide +kernel
theorem dX4_putBack_15 : decode cX4_putBack 15 = .ok (.iconst 1, 1) := by decide +kernel
theorem dX4_putBack_16 : decode cX4_putBack 16 = .ok (.isub, 1) := by decide +kernel
theorem dX4_putBack_17 : decode cX4_putBack 17 = .ok (.putfield 18, 3) := by decide +kernel
theorem dX4_putBack_20 : decode cX4_putBack 20 = .ok (.aload_n 0, 1) := by decide +kernel
theorem dX4_putBack_21 : decode cX4_putBack 21 = .ok (.getfield 15, 3) := by decide +kernel
theorem dX4_putBack_24 : decode cX4_putBack 24 = .ok (.aload_n 0, 1) := by decide +kernel
theorem dX4_putBack_25 : decode cX4_putBack 25 = .ok (.getfield 18, 3) := by decide +kernel
theorem dX4_putBack_28 : decode cX4_putBack 28 = .ok (.iaload, 1) := by decide +kernel
theorem dX4_putBack_29 : decode cX4_putBack 29 = .ok (.istore_n 1, 1) := by decide +kernel
theorem dX4_putBack_30 : decode cX4_putBack 30 = .ok (.aload_n 0, 1) := by decide +kernel
theorem dX4_putBack_31 : decode cX4_putBack 31 = .ok (.getfield 9, 3) := by decide +kernel
theorem dX4_putBack_34 : decode cX4_putBack 34 = .ok (.iload_n 1, 1) := by decide +kernel
theorem dX4_putBack_35 : decode cX4_putBack 35 = .ok (.dup2, 1) := by decide +kernel
theorem dX4_putBack_36 : decode cX4_putBack 36 = .ok (.iaload, 1) := by decide +kernel
theorem dX4_putBack_37 : decode cX4_putBack 37 = .ok (.iconst 1, 1) := by decide +kernel
theorem dX4_putBack_38 : decode cX4_putBack 38 = .ok (.iadd, 1) := by decide +kernel
theorem dX4_putBack_39 : decode cX4_putBack 39 = .ok (.iastore, 1) := by decide +kernel
theorem dX4_putBack_40 : decode cX4_putBack 40 = .ok (.iload_n 1, 1) := by decide +kernel
theorem dX4_putBack_41 : decode cX4_putBack 41 = .ok (.ireturn, 1) := by decide +kernel
set_option maxRecDepth 20000 in
theorem ggX4_turn_X4_lay : GoodIn wsX4_turn wsX4_lay := goodIn_r _ [7, 1, 8, 9, 10] (by decide +kernel) (by decide +kernel)
set_option maxRecDepth 20000 in
theorem gX4_turn_X4_lay : GoodIn wsX4_turn (wsV RX4 30 RX4 yX4_lay wsX4_lay) := goodIn_app (goodIn_of _ (by decide +kernel)) ggX4_turn_X4_lay
theorem dX4_turn_0 : decode cX4_turn 0 = .ok (.aload_n 0, 1) := by decide +kernel
theorem dX4_turn_1 : decode cX4_turn 1 = .ok (.aload_n 0, 1) := by decide +kernel
theorem dX4_turn_2 : decode cX4_turn 2 = .ok (.getfield 9, 3) := by decide +kernel
theorem dX4_turn_5 : decode cX4_turn 5 = .ok (.iconst 3, 1) := by decide +kernel
theorem dX4_turn_6 : decode cX4_turn 6 = .ok (.iaload, 1) := by decide +kernel
theorem dX4_turn_7 : decode cX4_turn 7 = .ok (.aload_n 0, 1) := by decide +kernel
theorem dX4_turn_8 : decode cX4_turn 8 = .ok (.getfield 9, 3) := by decide +kernel
theorem dX4_turn_11 : decode cX4_turn 11 = .ok (.iconst 2, 1) := by decide +kernel
theorem dX4_turn_12 : decode cX4_turn 12 = .ok (.iaload, 1) := by decide +kernel
theorem dX4_turn_13 : decode cX4_turn 13 = .ok (.aload_n 0, 1) := by decide +kernel
theorem dX4_turn_14 : decode cX4_turn 14 = .ok (.getfield 9, 3) := by decide +kernel
theorem dX4_turn_17 : decode cX4_turn 17 = .ok (.iconst 1, 1) := by decide +kernel
theorem dX4_turn_18 : decode cX4_turn 18 = .ok (.iaload, 1) := by decide +kernel
theorem dX4_turn_19 : decode cX4_turn 19 = .ok (.aload_n 0, 1) := by decide +kernel
theorem dX4_turn_20 : decode cX4_turn 20 = .ok (.getfield 9, 3) := by decide +kernel
theorem dX4_turn_23 : decode cX4_turn 23 = .ok (.iconst 0, 1) := by decide +kernel
theorem dX4_turn_24 : decode cX4_turn 24 = .ok (.iaload, 1) := by decide +kernel
theorem dX4_turn_25 : decode cX4_turn 25 = .ok (.invokevirtual 30, 3) := by decide +kernel
theorem dX4_turn_28 : decode cX4_turn 28 = .ok (.aload_n 0, 1) := by decide +kernel
theorem dX4_turn_29 : decode cX4_turn 29 = .ok (.iconst 0, 1) := by decide +kernel
theorem dX4_turn_30 : decode cX4_turn 30 = .ok (.putfield 18, 3) := by decide +kernel
theorem dX4_turn_33 : decode cX4_turn 33 = .ok (.return_, 1) := by decide +kernel
theorem dX5_bondAt_0 : decode cX5_bondAt 0 = .ok (.iload_n 2, 1) := by decide +kernel
theorem dX5_bondAt_1 : decode cX5_bondAt 1 = .ok (.ifCond .le 8, 3) := by decide +kernel
theorem dX5_bondAt_4 : decode cX5_bondAt 4 = .ok (.iload_n 2, 1) := by decide +kernel
theorem dX5_bondAt_5 : decode cX5_bondAt 5 = .ok (.iconst 4, 1) := by decide +kernel
theorem dX5_bondAt_6 : decode cX5_bondAt 6 = .ok (.if_icmp .lt 30, 3) := by decide +kernel
theorem dX5_bondAt_9 : decode cX5_bondAt 9 = .ok (.iload_n 2, 1) := by decide +kernel
theorem dX5_bondAt_10 : decode cX5_bondAt 10 = .ok (.ifCond .gt 9, 3) := by decide +kernel
theorem dX5_bondAt_13 : decode cX5_bondAt 13 = .ok (.aload_n 0, 1) := by decide +kernel
theorem dX5_bondAt_14 : decode cX5_bondAt 14 = .ok (.iconst 0, 1) := by decide +kernel
theorem dX5_bondAt_15 : decode cX5_bondAt 15 = .ok (.iaload, 1) := by decide +kernel
theorem dX5_bondAt_16 : decode cX5_bondAt 16 = .ok (.goto 6, 3) := by decide +kernel
theorem dX5_bondAt_19 : decode cX5_bondAt 19 = .ok (.aload_n 0, 1) := by decide +kernel
theorem dX5_bondAt_20 : decode cX5_bondAt 20 = .ok (.iconst 3, 1) := by decide +kernel
theorem dX5_bondAt_21 : decode cX5_bondAt 21 = .ok (.iaload, 1) := by decide +kernel
theorem dX5_bondAt_22 : decode cX5_bondAt 22 = .ok (.istore_n 3, 1) := by decide +kernel
theorem dX5_bondAt_23 : decode cX5_bondAt 23 = .ok (.iload_n 1, 1) := by decide +kernel
theorem dX5_bondAt_24 : decode cX5_bondAt 24 = .ok (.iload_n 3, 1) := by decide +kernel
theorem dX5_bondAt_25 : decode cX5_bondAt 25 = .ok (.imul, 1) := by decide +kernel
theorem dX5_bondAt_26 : decode cX5_bondAt 26 = .ok (.iload_n 3, 1) := by decide +kernel
theorem dX5_bondAt_27 : decode cX5_bondAt 27 = .ok (.imul, 1) := by decide +kernel
theorem dX5_bondAt_28 : decode cX5_bondAt 28 = .ok (.iload_n 3, 1) := by decide +kernel
theorem dX5_bondAt_29 : decode cX5_bondAt 29 = .ok (.imul, 1) := by decide +kernel
theorem dX5_bondAt_30 : decode cX5_bondAt 30 = .ok (.bipush 32, 2) := by decide +kernel
theorem dX5_bondAt_32 : decode cX5_bondAt 32 = .ok (.idiv, 1) := by decide +kernel
theorem dX5_bondAt_33 : decode cX5_bondAt 33 = .ok (.iconst 1, 1) := by decide +kernel
theorem dX5_bondAt_34 : decode cX5_bondAt 34 = .ok (.iadd, 1) := by decide +kernel
theorem dX5_bondAt_35 : decode cX5_bondAt 35 = .ok (.ireturn, 1) := by decide +kernel
theorem dX5_bondAt_36 : decode cX5_bondAt 36 = .ok (.aload_n 0, 1) := by decide +kernel
theorem dX5_bondAt_37 : decode cX5_bondAt 37 = .ok (.iload_n 2, 1) := by decide +kernel
theorem dX5_bondAt_38 : decode cX5_bondAt 38 = .ok (.iconst 1, 1) := by decide +kernel
theorem dX5_bondAt_39 : decode cX5_bondAt 39 = .ok (.isub, 1) := by decide +kernel
theorem dX5_bondAt_40 : decode cX5_bondAt 40 = .ok (.iaload, 1) := by decide +kernel
theorem dX5_bondAt_41 : decode cX5_bondAt 41 = .ok (.aload_n 0, 1) := by decide +kernel
theorem dX5_bondAt_42 : decode cX5_bondAt 42 = .ok (.iload_n 2, 1) := by decide +kernel
theorem dX5_bondAt_43 : decode cX5_bondAt 43 = .ok (.iaload, 1) := by decide +kernel
theorem dX5_bondAt_44 : decode cX5_bondAt 44 = .ok (.if_icmp .ge 11, 3) := by decide +kernel
theorem dX5_bondAt_47 : decode cX5_bondAt 47 = .ok (.aload_n 0, 1) := by decide +kernel
theorem dX5_bondAt_48 : decode cX5_bondAt 48 = .ok (.iload_n 2, 1) := by decide +kernel
theorem dX5_bondAt_49 : decode cX5_bondAt 49 = .ok (.iconst 1, 1) := by decide +kernel
theorem dX5_bondAt_50 : decode cX5_bondAt 50 = .ok (.isub, 1) := by decide +kernel
theorem dX5_bondAt_51 : decode cX5_bondAt 51 = .ok (.iaload, 1) := by decide +kernel
theorem dX5_bondAt_52 : decode cX5_bondAt 52 = .ok (.goto 6, 3) := by decide +kernel
theorem dX5_bondAt_55 : decode cX5_bondAt 55 = .ok (.aload_n 0, 1) := by decide +kernel
theorem dX5_bondAt_56 : decode cX5_bondAt 56 = .ok (.iload_n 2, 1) := by decide +kernel
theorem dX5_bondAt_57 : decode cX5_bondAt 57 = .ok (.iaload, 1) := by decide +kernel
theorem dX5_bondAt_58 : decode cX5_bondAt 58 = .ok (.istore_n 3, 1) := by decide +kernel
theorem dX5_bondAt_59 : decode cX5_bondAt 59 = .ok (.iload_n 1, 1) := by decide +kernel
theorem dX5_bondAt_60 : decode cX5_bondAt 60 = .ok (.iload_n 3, 1) := by decide +kernel
theorem dX5_bondAt_61 : decode cX5_bondAt 61 = .ok (.imul, 1) := by decide +kernel
theorem dX5_bondAt_62 : decode cX5_bondAt 62 = .ok (.iload_n 3, 1) := by decide +kernel
theorem dX5_bondAt_63 : decode cX5_bondAt 63 = .ok (.imul, 1) := by decide +kernel
theorem dX5_bondAt_64 : decode cX5_bondAt 64 = .ok (.iload_n 3, 1) := by decide +kernel
theorem dX5_bondAt_65 : decode cX5_bondAt 65 = .ok (.imul, 1) := by decide +kernel
theorem dX5_bondAt_66 : decode cX5_bondAt 66 = .ok (.bipush 8, 2) := by decide +kernel
theorem dX5_bondAt_68 : decode cX5_bondAt 68 = .ok (.idiv, 1) := by decide +kernel
theorem dX5_bondAt_69 : decode cX5_bondAt 69 = .ok (.iconst 1, 1) := by decide +kernel
theorem dX5_bondAt_70 : decode cX5_bondAt 70 = .ok (.iadd, 1) := by decide +kernel
theorem dX5_bondAt_71 : decode cX5_bondAt 71 = .ok (.ireturn, 1) := by decide +kernel
set_option maxRecDepth 20000 in
theorem ggX5_valuesBelow_X5_bondAt : GoodIn wsX5_valuesBelow wsX5_bondAt := goodIn_r _ [4] (by decide +kernel) (by decide +kernel)
set_option maxRecDepth 20000 in
theorem gX5_valuesBelow_X5_bondAt : GoodIn wsX5_valuesBelow (va_wsS RX5 9 yX5_bondAt wsX5_bondAt) := goodIn_app (goodIn_of _ (by decide +kernel)) ggX5_valuesBelow_X5_bondAt
theorem dX5_valuesBelow_0 : decode cX5_valuesBelow 0 = .ok (.iload_n 2, 1) := by decide +kernel
theorem dX5_valuesBelow_1 : decode cX5_valuesBelow 1 = .ok (.ifCond .gt 5, 3) := by decide +kernel
theorem dX5_valuesBelow_4 : decode cX5_valuesBelow 4 = .ok (.iconst 0, 1) := by decide +kernel
theorem dX5_valuesBelow_5 : decode cX5_valuesBelow 5 = .ok (.ireturn, 1) := by decide +kernel
theorem dX5_valuesBelow_6 : decode cX5_valuesBelow 6 = .ok (.iload_n 2, 1) := by decide +kernel
theorem dX5_valuesBelow_7 : decode cX5_valuesBelow 7 = .ok (.sipush 512, 3) := by decide +kernel
theorem dX5_valuesBelow_10 : decode cX5_valuesBelow 10 = .ok (.if_icmp .lt 5, 3) := by decide +kernel
theorem dX5_valuesBelow_13 : decode cX5_valuesBelow 13 = .ok (.iconst 4, 1) := by decide +kernel
theorem dX5_valuesBelow_14 : decode cX5_valuesBelow 14 = .ok (.ireturn, 1) := by decide +kernel
theorem dX5_valuesBelow_15 : decode cX5_valuesBelow 15 = .ok (.iconst 0, 1) := by decide +kernel
theorem dX5_valuesBelow_16 : decode cX5_valuesBelow 16 = .ok (.istore_n 3, 1) := by decide +kernel
theorem dX5_valuesBelow_17 : decode cX5_valuesBelow 17 = .ok (.iconst 0, 1) := by decide +kernel
theorem dX5_valuesBelow_18 : decode cX5_valuesBelow 18 = .ok (.istore 4, 2) := by decide +kernel
theorem dX5_valuesBelow_20 : decode cX5_valuesBelow 20 = .ok (.lconst 0, 1) := by decide +kernel
theorem dX5_valuesBelow_21 : decode cX5_valuesBelow 21 = .ok (.lstore 5, 2) := by decide +kernel
theorem dX5_valuesBelow_23 : decode cX5_valuesBelow 23 = .ok (.lconst 1, 1) := by decide +kernel
theorem dX5_valuesBelow_24 : decode cX5_valuesBelow 24 = .ok (.lstore 7, 2) := by decide +kernel
theorem dX5_valuesBelow_26 : decode cX5_valuesBelow 26 = .ok (.aload_n 0, 1) := by decide +kernel
theorem dX5_valuesBelow_27 : decode cX5_valuesBelow 27 = .ok (.iload_n 1, 1) := by decide +kernel
theorem dX5_valuesBelow_28 : decode cX5_valuesBelow 28 = .ok (.iconst 0, 1) := by decide +kernel
theorem dX5_valuesBelow_29 : decode cX5_valuesBelow 29 = .ok (.invokestatic 9, 3) := by decide +kernel
theorem dX5_valuesBelow_32 : decode cX5_valuesBelow 32 = .ok (.i2l, 1) := by decide +kernel
theorem dX5_valuesBelow_33 : decode cX5_valuesBelow 33 = .ok (.lstore 9, 2) := by decide +kernel
theorem dX5_valuesBelow_35 : decode cX5_valuesBelow 35 = .ok (.iconst 0, 1) := by decide +kernel
theorem dX5_valuesBelow_36 : decode cX5_valuesBelow 36 = .ok (.istore 11, 2) := by decide +kernel
theorem dX5_valuesBelow_38 : decode cX5_valuesBelow 38 = .ok (.iload 11, 2) := by decide +kernel
theorem dX5_valuesBelow_40 : decode cX5_valuesBelow 40 = .ok (.iconst 4, 1) := by decide +kernel
theorem dX5_valuesBelow_41 : decode cX5_valuesBelow 41 = .ok (.if_icmp .ge 104, 3) := by decide +kernel
theorem dX5_valuesBelow_44 : decode cX5_valuesBelow 44 = .ok (.aload_n 0, 1) := by decide +kernel
theorem dX5_valuesBelow_45 : decode cX5_valuesBelow 45 = .ok (.iload_n 1, 1) := by decide +kernel
theorem dX5_valuesBelow_46 : decode cX5_valuesBelow 46 = .ok (.iload 11, 2) := by decide +kernel
theorem dX5_valuesBelow_48 : decode cX5_valuesBelow 48 = .ok (.iconst 1, 1) := by decide +kernel
theorem dX5_valuesBelow_49 : decode cX5_valuesBelow 49 = .ok (.iadd, 1) := by decide +kernel
theorem dX5_valuesBelow_50 : decode cX5_valuesBelow 50 = .ok (.invokestatic 9, 3) := by decide +kernel
theorem dX5_valuesBelow_53 : decode cX5_valuesBelow 53 = .ok (.i2l, 1) := by decide +kernel
theorem dX5_valuesBelow_54 : decode cX5_valuesBelow 54 = .ok (.lstore 12, 2) := by decide +kernel
theorem dX5_valuesBelow_56 : decode cX5_valuesBelow 56 = .ok (.lload 9, 2) := by decide +kernel
theorem dX5_valuesBelow_58 : decode cX5_valuesBelow 58 = .ok (.lload 12, 2) := by decide +kernel
theorem dX5_valuesBelow_60 : decode cX5_valuesBelow 60 = .ok (.ladd, 1) := by decide +kernel
theorem dX5_valuesBelow_61 : decode cX5_valuesBelow 61 = .ok (.iload_n 2, 1) := by decide +kernel
theorem dX5_valuesBelow_62 : decode cX5_valuesBelow 62 = .ok (.i2l, 1) := by decide +kernel
theorem dX5_valuesBelow_63 : decode cX5_valuesBelow 63 = .ok (.aload_n 0, 1) := by decide +kernel
theorem dX5_valuesBelow_64 : decode cX5_valuesBelow 64 = .ok (.iload 11, 2) := by decide +kernel
theorem dX5_valuesBelow_66 : decode cX5_valuesBelow 66 = .ok (.iaload, 1) := by decide +kernel
theorem dX5_valuesBelow_67 : decode cX5_valuesBelow 67 = .ok (.i2l, 1) := by decide +kernel
theorem dX5_valuesBelow_68 : decode cX5_valuesBelow 68 = .ok (.lmul, 1) := by decide +kernel
theorem dX5_valuesBelow_69 : decode cX5_valuesBelow 69 = .ok (.lsub, 1) := by decide +kernel
theorem dX5_valuesBelow_70 : decode cX5_valuesBelow 70 = .ok (.lstore 14, 2) := by decide +kernel
theorem dX5_valuesBelow_72 : decode cX5_valuesBelow 72 = .ok (.lload 14, 2) := by decide +kernel
theorem dX5_valuesBelow_74 : decode cX5_valuesBelow 74 = .ok (.lload 7, 2) := by decide +kernel
theorem dX5_valuesBelow_76 : decode cX5_valuesBelow 76 = .ok (.lmul, 1) := by decide +kernel
theorem dX5_valuesBelow_77 : decode cX5_valuesBelow 77 = .ok (.lload 9, 2) := by decide +kernel
theorem dX5_valuesBelow_79 : decode cX5_valuesBelow 79 = .ok (.lload 9, 2) := by decide +kernel
theorem dX5_valuesBelow_81 : decode cX5_valuesBelow 81 = .ok (.lmul, 1) := by decide +kernel
theorem dX5_valuesBelow_82 : decode cX5_valuesBelow 82 = .ok (.lload 5, 2) := by decide +kernel
theorem dX5_valuesBelow_84 : decode cX5_valuesBelow 84 = .ok (.lmul, 1) := by decide +kernel
theorem dX5_valuesBelow_85 : decode cX5_valuesBelow 85 = .ok (.lsub, 1) := by decide +kernel
theorem dX5_valuesBelow_86 : decode cX5_valuesBelow 86 = .ok (.lstore 16, 2) := by decide +kernel
theorem dX5_valuesBelow_88 : decode cX5_valuesBelow 88 = .ok (.lload 7, 2) := by decide +kernel
theorem dX5_valuesBelow_90 : decode cX5_valuesBelow 90 = .ok (.lstore 5, 2) := by decide +kernel
theorem dX5_valuesBelow_92 : decode cX5_valuesBelow 92 = .ok (.lload 16, 2) := by decide +kernel
theorem dX5_valuesBelow_94 : decode cX5_valuesBelow 94 = .ok (.lstore 7, 2) := by decide +kernel
theorem dX5_valuesBelow_96 : decode cX5_valuesBelow 96 = .ok (.lload 12, 2) := by decide +kernel
theorem dX5_valuesBelow_98 : decode cX5_valuesBelow 98 = .ok (.lstore 9, 2) := by decide +kernel
theorem dX5_valuesBelow_100 : decode cX5_valuesBelow 100 = .ok (.lload 7, 2) := by decide +kernel
theorem dX5_valuesBelow_102 : decode cX5_valuesBelow 102 = .ok (.lconst 0, 1) := by decide +kernel
theorem dX5_valuesBelow_103 : decode cX5_valuesBelow 103 = .ok (.lcmp, 1) := by decide +kernel
theorem dX5_valuesBelow_104 : decode cX5_valuesBelow 104 = .ok (.ifCond .eq 35, 3) := by decide +kernel
theorem dX5_valuesBelow_107 : decode cX5_valuesBelow 107 = .ok (.lload 7, 2) := by decide +kernel
theorem dX5_valuesBelow_109 : decode cX5_valuesBelow 109 = .ok (.lconst 0, 1) := by decide +kernel
theorem dX5_valuesBelow_110 : decode cX5_valuesBelow 110 = .ok (.lcmp, 1) := by decide +kernel
theorem dX5_valuesBelow_111 : decode cX5_valuesBelow 111 = .ok (.ifCond .ge 7, 3) := by decide +kernel
theorem dX5_valuesBelow_114 : decode cX5_valuesBelow 114 = .ok (.iconst 1, 1) := by decide +kernel
theorem dX5_valuesBelow_115 : decode cX5_valuesBelow 115 = .ok (.goto 4, 3) := by decide +kernel
theorem dX5_valuesBelow_118 : decode cX5_valuesBelow 118 = .ok (.iconst 0, 1) := by decide +kernel
theorem dX5_valuesBelow_119 : decode cX5_valuesBelow 119 = .ok (.iload 4, 2) := by decide +kernel
theorem dX5_valuesBelow_121 : decode cX5_valuesBelow 121 = .ok (.if_icmp .eq 18, 3) := by decide +kernel
theorem dX5_valuesBelow_124 : decode cX5_valuesBelow 124 = .ok (.iload 4, 2) := by decide +kernel
theorem dX5_valuesBelow_126 : decode cX5_valuesBelow 126 = .ok (.ifCond .ne 7, 3) := by decide +kernel
theorem dX5_valuesBelow_129 : decode cX5_valuesBelow 129 = .ok (.iconst 1, 1) := by decide +kernel
theorem dX5_valuesBelow_130 : decode cX5_valuesBelow 130 = .ok (.goto 4, 3) := by decide +kernel
theorem dX5_valuesBelow_133 : decode cX5_valuesBelow 133 = .ok (.iconst 0, 1) := by decide +kernel
theorem dX5_valuesBelow_134 : decode cX5_valuesBelow 134 = .ok (.istore 4, 2) := by decide +kernel
theorem dX5_valuesBelow_136 : decode cX5_valuesBelow 136 = .ok (.iinc 3 1, 3) := by decide +kernel
theorem dX5_valuesBelow_139 : decode cX5_valuesBelow 139 = .ok (.iinc 11 1, 3) := by decide +kernel
theorem dX5_valuesBelow_142 : decode cX5_valuesBelow 142 = .ok (.goto (-104), 3) := by decide +kernel
theorem dX5_valuesBelow_145 : decode cX5_valuesBelow 145 = .ok (.iload_n 3, 1) := by decide +kernel
theorem dX5_valuesBelow_146 : decode cX5_valuesBelow 146 = .ok (.ireturn, 1) := by decide +kernel
set_option maxRecDepth 20000 in
theorem ggX5_wholeValue_X5_valuesBelow : GoodIn wsX5_wholeValue wsX5_valuesBelow := goodIn_r _ [4, 5, 6, 3, 7] (by decide +kernel) (by decide +kernel)
set_option maxRecDepth 20000 in
theorem gX5_wholeValue_X5_valuesBelow : GoodIn wsX5_wholeValue (va_wsS RX5 15 yX5_valuesBelow wsX5_valuesBelow) := goodIn_app (goodIn_of _ (by decide +kernel)) ggX5_wholeValue_X5_valuesBelow
theorem dX5_wholeValue_0 : decode cX5_wholeValue 0 = .ok (.iconst 0, 1) := by decide +kernel
theorem dX5_wholeValue_1 : decode cX5_wholeValue 1 = .ok (.istore_n 3, 1) := by decide +kernel
theorem dX5_wholeValue_2 : decode cX5_wholeValue 2 = .ok (.sipush 256, 3) := by decide +kernel
theorem dX5_wholeValue_5 : decode cX5_wholeValue 5 = .ok (.istore 4, 2) := by decide +kernel
theorem dX5_wholeValue_7 : decode cX5_wholeValue 7 = .ok (.iload 4, 2) := by decide +kernel
theorem dX5_wholeValue_9 : decode cX5_wholeValue 9 = .ok (.ifCond .le 30, 3) := by decide +kernel
theorem dX5_wholeValue_12 : decode cX5_wholeValue 12 = .ok (.aload_n 0, 1) := by decide +kernel
theorem dX5_wholeValue_13 : decode cX5_wholeValue 13 = .ok (.iload_n 1, 1) := by decide +kernel
theorem dX5_wholeValue_14 : decode cX5_wholeValue 14 = .ok (.iload_n 3, 1) := by decide +kernel
theorem dX5_wholeValue_15 : decode cX5_wholeValue 15 = .ok (.iload 4, 2) := by decide +kernel
theorem dX5_wholeValue_17 : decode cX5_wholeValue 17 = .ok (.iadd, 1) := by decide +kernel
theorem dX5_wholeValue_18 : decode cX5_wholeValue 18 = .ok (.invokestatic 15, 3) := by decide +kernel
theorem dX5_wholeValue_21 : decode cX5_wholeValue 21 = .ok (.iload_n 2, 1) := by decide +kernel
theorem dX5_wholeValue_22 : decode cX5_wholeValue 22 = .ok (.if_icmp .gt 8, 3) := by decide +kernel
theorem dX5_wholeValue_25 : decode cX5_wholeValue 25 = .ok (.iload_n 3, 1) := by decide +kernel
theorem dX5_wholeValue_26 : decode cX5_wholeValue 26 = .ok (.iload 4, 2) := by decide +kernel
theorem dX5_wholeValue_28 : decode cX5_wholeValue 28 = .ok (.iadd, 1) := by decide +kernel
theorem dX5_wholeValue_29 : decode cX5_wholeValue 29 = .ok (.istore_n 3, 1) := by decide +kernel
theorem dX5_wholeValue_30 : decode cX5_wholeValue 30 = .ok (.iload 4, 2) := by decide +kernel
theorem dX5_wholeValue_32 : decode cX5_wholeValue 32 = .ok (.iconst 2, 1) := by decide +kernel
theorem dX5_wholeValue_33 : decode cX5_wholeValue 33 = .ok (.idiv, 1) := by decide +kernel
theorem dX5_wholeValue_34 : decode cX5_wholeValue 34 = .ok (.istore 4, 2) := by decide +kernel
theorem dX5_wholeValue_36 : decode cX5_wholeValue 36 = .ok (.goto (-29), 3) := by decide +kernel
theorem dX5_wholeValue_39 : decode cX5_wholeValue 39 = .ok (.iload_n 3, 1) := by decide +kernel
theorem dX5_wholeValue_40 : decode cX5_wholeValue 40 = .ok (.ireturn, 1) := by decide +kernel
set_option maxRecDepth 20000 in
theorem ggX5_fillWholeValues_X5_wholeValue : GoodIn wsX5_fillWholeValues wsX5_wholeValue := goodIn_r _ [4, 5, 6, 3, 7, 8, 9, 10] (by decide +kernel) (by decide +kernel)
set_option maxRecDepth 20000 in
theorem gX5_fillWholeValues_X5_wholeValue : GoodIn wsX5_fillWholeValues (va_wsS RX5 18 yX5_wholeValue wsX5_wholeValue) := goodIn_app (goodIn_of _ (by decide +kernel)) ggX5_fillWholeValues_X5_wholeValue
theorem dX5_fillWholeValues_0 : decode cX5_fillWholeValues 0 = .ok (.iconst 1, 1) := by decide +kernel
theorem dX5_fillWholeValues_1 : decode cX5_fillWholeValues 1 = .ok (.istore_n 3, 1) := by decide +kernel
theorem dX5_fillWholeValues_2 : decode cX5_fillWholeValues 2 = .ok (.iload_n 3, 1) := by decide +kernel
theorem dX5_fillWholeValues_3 : decode cX5_fillWholeValues 3 = .ok (.bipush 9, 2) := by decide +kernel
theorem dX5_fillWholeValues_5 : decode cX5_fillWholeValues 5 = .ok (.if_icmp .gt 18, 3) := by decide +kernel
theorem dX5_fillWholeValues_8 : decode cX5_fillWholeValues 8 = .ok (.aload_n 0, 1) := by decide +kernel
theorem dX5_fillWholeValues_9 : decode cX5_fillWholeValues 9 = .ok (.iload_n 3, 1) := by decide +kernel
theorem dX5_fillWholeValues_10 : decode cX5_fillWholeValues 10 = .ok (.aload_n 1, 1) := by decide +kernel
theorem dX5_fillWholeValues_11 : decode cX5_fillWholeValues 11 = .ok (.iload_n 3, 1) := by decide +kernel
theorem dX5_fillWholeValues_12 : decode cX5_fillWholeValues 12 = .ok (.iload_n 2, 1) := by decide +kernel
theorem dX5_fillWholeValues_13 : decode cX5_fillWholeValues 13 = .ok (.invokestatic 18, 3) := by decide +kernel
theorem dX5_fillWholeValues_16 : decode cX5_fillWholeValues 16 = .ok (.iastore, 1) := by decide +kernel
theorem dX5_fillWholeValues_17 : decode cX5_fillWholeValues 17 = .ok (.iinc 3 1, 3) := by decide +kernel
theorem dX5_fillWholeValues_20 : decode cX5_fillWholeValues 20 = .ok (.goto (-18), 3) := by decide +kernel
theorem dX5_fillWholeValues_23 : decode cX5_fillWholeValues 23 = .ok (.return_, 1) := by decide +kernel
theorem dX5_byWeight_0 : decode cX5_byWeight 0 = .ok (.iload_n 1, 1) := by decide +kernel
theorem dX5_byWeight_1 : decode cX5_byWeight 1 = .ok (.ifCond .le 9, 3) := by decide +kernel
theorem dX5_byWeight_4 : decode cX5_byWeight 4 = .ok (.iload_n 0, 1) := by decide +kernel
theorem dX5_byWeight_5 : decode cX5_byWeight 5 = .ok (.iload_n 1, 1) := by decide +kernel
theorem dX5_byWeight_6 : decode cX5_byWeight 6 = .ok (.idiv, 1) := by decide +kernel
theorem dX5_byWeight_7 : decode cX5_byWeight 7 = .ok (.goto 4, 3) := by decide +kernel
theorem dX5_byWeight_10 : decode cX5_byWeight 10 = .ok (.iload_n 0, 1) := by decide +kernel
theorem dX5_byWeight_11 : decode cX5_byWeight 11 = .ok (.ireturn, 1) := by decide +kernel
theorem dX6_init_0 : decode cX6_init 0 = .ok (.aload_n 0, 1) := by decide +kernel
theorem dX6_init_1 : decode cX6_init 1 = .ok (.invokespecial 3, 3) := by decide +kernel
theorem dX6_init_4 : decode cX6_init 4 = .ok (.aload_n 0, 1) := by decide +kernel
theorem dX6_init_5 : decode cX6_init 5 = .ok (.bipush 10, 2) := by decide +kernel
theorem dX6_init_7 : decode cX6_init 7 = .ok (.newarray .int, 2) := by decide +kernel
theorem dX6_init_9 : decode cX6_init 9 = .ok (.putfield 9, 3) := by decide +kernel
theorem dX6_init_12 : decode cX6_init 12 = .ok (.aload_n 0, 1) := by decide +kernel
theorem dX6_init_13 : decode cX6_init 13 = .ok (.iconst 0, 1) := by decide +kernel
theorem dX6_init_14 : decode cX6_init 14 = .ok (.putfield 15, 3) := by decide +kernel
theorem dX6_init_17 : decode cX6_init 17 = .ok (.aload_n 0, 1) := by decide +kernel
theorem dX6_init_18 : decode cX6_init 18 = .ok (.iconst 0, 1) := by decide +kernel
theorem dX6_init_19 : decode cX6_init 19 = .ok (.putfield 19, 3) := by decide +kernel
theorem dX6_init_22 : decode cX6_init 22 = .ok (.return_, 1) := by decide +kernel
set_option maxRecDepth 20000 in
theorem ggX6_fits_X5_byWeight : GoodIn wsX6_fits wsX5_byWeight := goodIn_r _ [7] (by decide +kernel) (by decide +kernel)
set_option maxRecDepth 20000 in
theorem gX6_fits_X5_byWeight : GoodIn wsX6_fits (va_wsS RX6 22 yX5_byWeight wsX5_byWeight) := goodIn_app (goodIn_of _ (by decide +kernel)) ggX6_fits_X5_byWeight
theorem dX6_fits_0 : decode cX6_fits 0 = .ok (.aload_n 0, 1) := by decide +kernel
theorem dX6_fits_1 : decode cX6_fits 1 = .ok (.getfield 9, 3) := by decide +kernel
theorem dX6_fits_4 : decode cX6_fits 4 = .ok (.iload_n 1, 1) := by decide +kernel
theorem dX6_fits_5 : decode cX6_fits 5 = .ok (.iaload, 1) := by decide +kernel
theorem dX6_fits_6 : decode cX6_fits 6 = .ok (.iload_n 2, 1) := by decide +kernel
theorem dX6_fits_7 : decode cX6_fits 7 = .ok (.invokestatic 22, 3) := by decide +kernel
theorem dX6_fits_10 : decode cX6_fits 10 = .ok (.istore_n 3, 1) := by decide +kernel
theorem dX6_fits_11 : decode cX6_fits 11 = .ok (.aload_n 0, 1) := by decide +kernel
theorem dX6_fits_12 : decode cX6_fits 12 = .ok (.getfield 15, 3) := by decide +kernel
theorem dX6_fits_15 : decode cX6_fits 15 = .ok (.iload_n 3, 1) := by decide +kernel
theorem dX6_fits_16 : decode cX6_fits 16 = .ok (.if_icmp .gt 15, 3) := by decide +kernel
theorem dX6_fits_19 : decode cX6_fits 19 = .ok (.iload_n 3, 1) := by decide +kernel
theorem dX6_fits_20 : decode cX6_fits 20 = .ok (.aload_n 0, 1) := by decide +kernel
theorem dX6_fits_21 : decode cX6_fits 21 = .ok (.getfield 19, 3) := by decide +kernel
theorem dX6_fits_24 : decode cX6_fits 24 = .ok (.if_icmp .gt 7, 3) := by decide +kernel
theorem dX6_fits_27 : decode cX6_fits 27 = .ok (.iconst 1, 1) := by decide +kernel
theorem dX6_fits_28 : decode cX6_fits 28 = .ok (.goto 4, 3) := by decide +kernel
theorem dX6_fits_31 : decode cX6_fits 31 = .ok (.iconst 0, 1) := by decide +kernel
theorem dX6_fits_32 : decode cX6_fits 32 = .ok (.ireturn, 1) := by decide +kernel
set_option maxRecDepth 20000 in
theorem ggX7_init_X2_init : GoodIn wsX7_init wsX2_init := goodIn_r _ [32, 33, 2, 3, 34, 35, 36, 22, 37, 38, 39, 40, 41, 42, 43, 44, 45, 46, 47, 48, 49, 50, 51, 52, 8, 53, 54, 55, 56, 57, 58, 59, 60, 61, 62, 63, 64, 65, 66, 67, 68, 69, 70, 71, 72, 73, 109, 110, 111, 112, 113, 114, 115, 128, 129, 130] (by decide +kernel) (by decide +kernel)
set_option maxRecDepth 20000 in
theorem gX7_init_X2_init : GoodIn wsX7_init (wsX2_init) := ggX7_init_X2_init
set_option maxRecDepth 20000 in
theorem ggX7_init_X0_init : GoodIn wsX7_init wsX0_init := goodIn_r _ [75, 76, 2, 3, 77, 78, 22, 79, 80, 116, 117, 118] (by decide +kernel) (by decide +kernel)
set_option maxRecDepth 20000 in
theorem gX7_init_X0_init_n24 : GoodIn wsX7_init (wsX0_init) := ggX7_init_X0_init
set_option maxRecDepth 20000 in
theorem ggX7_init_X3_init : GoodIn wsX7_init wsX3_init := goodIn_r _ [82, 83, 2, 3, 22, 84, 85, 86, 87, 88, 119, 120, 121, 122, 123] (by decide +kernel) (by decide +kernel)
set_option maxRecDepth 20000 in
theorem gX7_init_X3_init_n31 : GoodIn wsX7_init (wsX3_init) := ggX7_init_X3_init
set_option maxRecDepth 20000 in
theorem ggX7_init_X1_init : GoodIn wsX7_init wsX1_init := goodIn_r _ [90, 91, 2, 3, 22, 92, 124] (by decide +kernel) (by decide +kernel)
set_option maxRecDepth 20000 in
theorem gX7_init_X1_init_n38 : GoodIn wsX7_init (wsX1_init) := ggX7_init_X1_init
set_option maxRecDepth 20000 in
theorem ggX7_init_X4_init : GoodIn wsX7_init wsX4_init := goodIn_r _ [94, 95, 2, 3, 22, 96, 97, 98, 125, 126, 127] (by decide +kernel) (by decide +kernel)
set_option maxRecDepth 20000 in
theorem gX7_init_X4_init_n60 : GoodIn wsX7_init (wsX4_init) := ggX7_init_X4_init
theorem dX7_init_0 : decode cX7_init 0 = .ok (.aload_n 0, 1) := by decide +kernel
theorem dX7_init_1 : decode cX7_init 1 = .ok (.invokespecial 1, 3) := by decide +kernel
theorem dX7_init_4 : decode cX7_init 4 = .ok (.aload_n 0, 1) := by decide +kernel
theorem dX7_init_5 : decode cX7_init 5 = .ok (.iconst 4, 1) := by decide +kernel
theorem dX7_init_6 : decode cX7_init 6 = .ok (.anewarray 9, 3) := by decide +kernel
theorem dX7_init_9 : decode cX7_init 9 = .ok (.putfield 11, 3) := by decide +kernel
theorem dX7_init_12 : decode cX7_init 12 = .ok (.aload_n 0, 1) := by decide +kernel
theorem dX7_init_13 : decode cX7_init 13 = .ok (.new 15, 3) := by decide +kernel
theorem dX7_init_16 : decode cX7_init 16 = .ok (.dup, 1) := by decide +kernel
theorem dX7_init_17 : decode cX7_init 17 = .ok (.invokespecial 17, 3) := by decide +kernel
theorem dX7_init_20 : decode cX7_init 20 = .ok (.putfield 18, 3) := by decide +kernel
theorem dX7_init_23 : decode cX7_init 23 = .ok (.aload_n 0, 1) := by decide +kernel
theorem dX7_init_24 : decode cX7_init 24 = .ok (.new 22, 3) := by decide +kernel
theorem dX7_init_27 : decode cX7_init 27 = .ok (.dup, 1) := by decide +kernel
theorem dX7_init_28 : decode cX7_init 28 = .ok (.invokespecial 24, 3) := by decide +kernel
theorem dX7_init_31 : decode cX7_init 31 = .ok (.putfield 25, 3) := by decide +kernel
theorem dX7_init_34 : decode cX7_init 34 = .ok (.aload_n 0, 1) := by decide +kernel
theorem dX7_init_35 : decode cX7_init 35 = .ok (.new 29, 3) := by decide +kernel
theorem dX7_init_38 : decode cX7_init 38 = .ok (.dup, 1) := by decide +kernel
theorem dX7_init_39 : decode cX7_init 39 = .ok (.invokespecial 31, 3) := by decide +kernel
theorem dX7_init_42 : decode cX7_init 42 = .ok (.putfield 32, 3) := by decide +kernel
theorem dX7_init_45 : decode cX7_init 45 = .ok (.aload_n 0, 1) := by decide +kernel
theorem dX7_init_46 : decode cX7_init 46 = .ok (.new 36, 3) := by decide +kernel
theorem dX7_init_49 : decode cX7_init 49 = .ok (.dup, 1) := by decide +kernel
theorem dX7_init_50 : decode cX7_init 50 = .ok (.invokespecial 38, 3) := by decide +kernel
theorem dX7_init_53 : decode cX7_init 53 = .ok (.putfield 39, 3) := by decide +kernel
theorem dX7_init_56 : decode cX7_init 56 = .ok (.aload_n 0, 1) := by decide +kernel
theorem dX7_init_57 : decode cX7_init 57 = .ok (.bipush 10, 2) := by decide +kernel
theorem dX7_init_59 : decode cX7_init 59 = .ok (.newarray .int, 2) := by decide +kernel
theorem dX7_init_61 : decode cX7_init 61 = .ok (.putfield 43, 3) := by decide +kernel
theorem dX7_init_64 : decode cX7_init 64 = .ok (.aload_n 0, 1) := by decide +kernel
theorem dX7_init_65 : decode cX7_init 65 = .ok (.bipush 10, 2) := by decide +kernel
theorem dX7_init_67 : decode cX7_init 67 = .ok (.newarray .int, 2) := by decide +kernel
theorem dX7_init_69 : decode cX7_init 69 = .ok (.putfield 47, 3) := by decide +kernel
theorem dX7_init_72 : decode cX7_init 72 = .ok (.aload_n 0, 1) := by decide +kernel
theorem dX7_init_73 : decode cX7_init 73 = .ok (.iconst 0, 1) := by decide +kernel
theorem dX7_init_74 : decode cX7_init 74 = .ok (.putfield 50, 3) := by decide +kernel
theorem dX7_init_77 : decode cX7_init 77 = .ok (.aload_n 0, 1) := by decide +kernel
theorem dX7_init_78 : decode cX7_init 78 = .ok (.iconst 2, 1) := by decide +kernel
theorem dX7_init_79 : decode cX7_init 79 = .ok (.putfield 54, 3) := by decide +kernel
theorem dX7_init_82 : decode cX7_init 82 = .ok (.aload_n 0, 1) := by decide +kernel
theorem dX7_init_83 : decode cX7_init 83 = .ok (.iconst 5, 1) := by decide +kernel
theorem dX7_init_84 : decode cX7_init 84 = .ok (.putfield 57, 3) := by decide +kernel
theorem dX7_init_87 : decode cX7_init 87 = .ok (.iconst 0, 1) := by decide +kernel
theorem dX7_init_88 : decode cX7_init 88 = .ok (.istore_n 1, 1) := by decide +kernel
theorem dX7_init_89 : decode cX7_init 89 = .ok (.iload_n 1, 1) := by decide +kernel
theorem dX7_init_90 : decode cX7_init 90 = .ok (.iconst 4, 1) := by decide +kernel
theorem dX7_init_91 : decode cX7_init 91 = .ok (.if_icmp .ge 22, 3) := by decide +kernel
theorem dX7_init_94 : decode cX7_init 94 = .ok (.aload_n 0, 1) := by decide +kernel
theorem dX7_init_95 : decode cX7_init 95 = .ok (.getfield 11, 3) := by decide +kernel
