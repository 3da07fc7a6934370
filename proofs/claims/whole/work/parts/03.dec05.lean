theorem dX8_untap_65 : decode cX8_untap 65 = .ok (.iastore, 1) := by decide +kernel
theorem dX8_untap_66 : decode cX8_untap 66 = .ok (.iinc 3 1, 3) := by decide +kernel
theorem dX8_untap_69 : decode cX8_untap 69 = .ok (.goto (-30), 3) := by decide +kernel
theorem dX8_untap_72 : decode cX8_untap 72 = .ok (.aload_n 0, 1) := by decide +kernel
theorem dX8_untap_73 : decode cX8_untap 73 = .ok (.getfield 26, 3) := by decide +kernel
theorem dX8_untap_76 : decode cX8_untap 76 = .ok (.iload_n 2, 1) := by decide +kernel
theorem dX8_untap_77 : decode cX8_untap 77 = .ok (.aload_n 0, 1) := by decide +kernel
theorem dX8_untap_78 : decode cX8_untap 78 = .ok (.getfield 26, 3) := by decide +kernel
theorem dX8_untap_81 : decode cX8_untap 81 = .ok (.iload_n 2, 1) := by decide +kernel
theorem dX8_untap_82 : decode cX8_untap 82 = .ok (.iconst 1, 1) := by decide +kernel
theorem dX8_untap_83 : decode cX8_untap 83 = .ok (.iadd, 1) := by decide +kernel
theorem dX8_untap_84 : decode cX8_untap 84 = .ok (.iaload, 1) := by decide +kernel
theorem dX8_untap_85 : decode cX8_untap 85 = .ok (.iastore, 1) := by decide +kernel
theorem dX8_untap_86 : decode cX8_untap 86 = .ok (.aload_n 0, 1) := by decide +kernel
theorem dX8_untap_87 : decode cX8_untap 87 = .ok (.getfield 29, 3) := by decide +kernel
theorem dX8_untap_90 : decode cX8_untap 90 = .ok (.iload_n 2, 1) := by decide +kernel
theorem dX8_untap_91 : decode cX8_untap 91 = .ok (.aload_n 0, 1) := by decide +kernel
theorem dX8_untap_92 : decode cX8_untap 92 = .ok (.getfield 29, 3) := by decide +kernel
theorem dX8_untap_95 : decode cX8_untap 95 = .ok (.iload_n 2, 1) := by decide +kernel
theorem dX8_untap_96 : decode cX8_untap 96 = .ok (.iconst 1, 1) := by decide +kernel
theorem dX8_untap_97 : decode cX8_untap 97 = .ok (.iadd, 1) := by decide +kernel
theorem dX8_untap_98 : decode cX8_untap 98 = .ok (.iaload, 1) := by decide +kernel
theorem dX8_untap_99 : decode cX8_untap 99 = .ok (.iastore, 1) := by decide +kernel
theorem dX8_untap_100 : decode cX8_untap 100 = .ok (.aload_n 0, 1) := by decide +kernel
theorem dX8_untap_101 : decode cX8_untap 101 = .ok (.getfield 32, 3) := by decide +kernel
theorem dX8_untap_104 : decode cX8_untap 104 = .ok (.iload_n 2, 1) := by decide +kernel
theorem dX8_untap_105 : decode cX8_untap 105 = .ok (.aload_n 0, 1) := by decide +kernel
theorem dX8_untap_106 : decode cX8_untap 106 = .ok (.getfield 32, 3) := by decide +kernel
theorem dX8_untap_109 : decode cX8_untap 109 = .ok (.iload_n 2, 1) := by decide +kernel
theorem dX8_untap_110 : decode cX8_untap 110 = .ok (.iconst 1, 1) := by decide +kernel
theorem dX8_untap_111 : decode cX8_untap 111 = .ok (.iadd, 1) := by decide +kernel
theorem dX8_untap_112 : decode cX8_untap 112 = .ok (.iaload, 1) := by decide +kernel
theorem dX8_untap_113 : decode cX8_untap 113 = .ok (.iastore, 1) := by decide +kernel
theorem dX8_untap_114 : decode cX8_untap 114 = .ok (.iinc 2 1, 3) := by decide +kernel
theorem dX8_untap_117 : decode cX8_untap 117 = .ok (.goto (-88), 3) := by decide +kernel
theorem dX8_untap_120 : decode cX8_untap 120 = .ok (.iconst 1, 1) := by decide +kernel
theorem dX8_untap_121 : decode cX8_untap 121 = .ok (.ireturn, 1) := by decide +kernel
set_option maxRecDepth 20000 in
theorem ggX8_lies_X8_belowOf : GoodIn wsX8_lies wsX8_belowOf := goodIn_r _ [5, 6, 7, 8, 9, 4, 10, 11, 12, 13, 14, 15, 16, 17, 18, 19, 20, 21, 22, 23, 24, 25, 26, 27, 28, 29, 30, 31, 32] (by decide +kernel) (by decide +kernel)
set_option maxRecDepth 20000 in
theorem gX8_lies_X8_belowOf : GoodIn wsX8_lies (wsV RX8 89 RX8 yX8_belowOf wsX8_belowOf) := goodIn_app (goodIn_of _ (by decide +kernel)) ggX8_lies_X8_belowOf
theorem dX8_lies_0 : decode cX8_lies 0 = .ok (.aload_n 0, 1) := by decide +kernel
theorem dX8_lies_1 : decode cX8_lies 1 = .ok (.iload_n 1, 1) := by decide +kernel
theorem dX8_lies_2 : decode cX8_lies 2 = .ok (.iload_n 2, 1) := by decide +kernel
theorem dX8_lies_3 : decode cX8_lies 3 = .ok (.iload 4, 2) := by decide +kernel
theorem dX8_lies_5 : decode cX8_lies 5 = .ok (.invokevirtual 89, 3) := by decide +kernel
theorem dX8_lies_8 : decode cX8_lies 8 = .ok (.iload_n 3, 1) := by decide +kernel
theorem dX8_lies_9 : decode cX8_lies 9 = .ok (.if_icmp .gt 21, 3) := by decide +kernel
theorem dX8_lies_12 : decode cX8_lies 12 = .ok (.aload_n 0, 1) := by decide +kernel
theorem dX8_lies_13 : decode cX8_lies 13 = .ok (.iload_n 1, 1) := by decide +kernel
theorem dX8_lies_14 : decode cX8_lies 14 = .ok (.iload_n 2, 1) := by decide +kernel
theorem dX8_lies_15 : decode cX8_lies 15 = .ok (.iload 5, 2) := by decide +kernel
theorem dX8_lies_17 : decode cX8_lies 17 = .ok (.iconst 1, 1) := by decide +kernel
theorem dX8_lies_18 : decode cX8_lies 18 = .ok (.iadd, 1) := by decide +kernel
theorem dX8_lies_19 : decode cX8_lies 19 = .ok (.invokevirtual 89, 3) := by decide +kernel
theorem dX8_lies_22 : decode cX8_lies 22 = .ok (.iload_n 3, 1) := by decide +kernel
theorem dX8_lies_23 : decode cX8_lies 23 = .ok (.if_icmp .le 7, 3) := by decide +kernel
theorem dX8_lies_26 : decode cX8_lies 26 = .ok (.iconst 1, 1) := by decide +kernel
theorem dX8_lies_27 : decode cX8_lies 27 = .ok (.goto 4, 3) := by decide +kernel
theorem dX8_lies_30 : decode cX8_lies 30 = .ok (.iconst 0, 1) := by decide +kernel
theorem dX8_lies_31 : decode cX8_lies 31 = .ok (.ireturn, 1) := by decide +kernel
set_option maxRecDepth 20000 in
theorem ggX8_findWoods_X8_take : GoodIn wsX8_findWoods wsX8_take := goodIn_r _ [12, 13, 28, 29, 30, 31, 32, 33, 34, 35, 36, 37, 38, 39, 40, 41, 42, 43, 44, 45, 46, 47] (by decide +kernel) (by decide +kernel)
set_option maxRecDepth 20000 in
theorem gX8_findWoods_X8_take : GoodIn wsX8_findWoods (wsV RX8 97 RX8 yX8_take wsX8_take) := goodIn_app (goodIn_of _ (by decide +kernel)) ggX8_findWoods_X8_take
set_option maxRecDepth 20000 in
theorem ggX8_findWoods_X8_lies : GoodIn wsX8_findWoods wsX8_lies := goodIn_r _ [17, 18, 19, 20, 11, 21, 13, 22, 23, 24, 25, 26, 27, 28, 29, 30, 31, 32, 33, 34, 35, 36, 37, 38, 39, 40, 41, 42, 43, 44, 45, 46, 47] (by decide +kernel) (by decide +kernel)
set_option maxRecDepth 20000 in
theorem gX8_findWoods_X8_lies : GoodIn wsX8_findWoods (wsV RX8 110 RX8 yX8_lies wsX8_lies) := goodIn_app (goodIn_of _ (by decide +kernel)) ggX8_findWoods_X8_lies
theorem dX8_findWoods_0 : decode cX8_findWoods 0 = .ok (.aload_n 0, 1) := by decide +kernel
theorem dX8_findWoods_1 : decode cX8_findWoods 1 = .ok (.iconst 0, 1) := by decide +kernel
theorem dX8_findWoods_2 : decode cX8_findWoods 2 = .ok (.putfield 107, 3) := by decide +kernel
theorem dX8_findWoods_5 : decode cX8_findWoods 5 = .ok (.iconst 0, 1) := by decide +kernel
theorem dX8_findWoods_6 : decode cX8_findWoods 6 = .ok (.istore_n 1, 1) := by decide +kernel
theorem dX8_findWoods_7 : decode cX8_findWoods 7 = .ok (.iload_n 1, 1) := by decide +kernel
theorem dX8_findWoods_8 : decode cX8_findWoods 8 = .ok (.bipush 81, 2) := by decide +kernel
theorem dX8_findWoods_10 : decode cX8_findWoods 10 = .ok (.if_icmp .ge 99, 3) := by decide +kernel
theorem dX8_findWoods_13 : decode cX8_findWoods 13 = .ok (.iconst 1, 1) := by decide +kernel
theorem dX8_findWoods_14 : decode cX8_findWoods 14 = .ok (.istore_n 2, 1) := by decide +kernel
theorem dX8_findWoods_15 : decode cX8_findWoods 15 = .ok (.iconst 0, 1) := by decide +kernel
theorem dX8_findWoods_16 : decode cX8_findWoods 16 = .ok (.istore_n 3, 1) := by decide +kernel
theorem dX8_findWoods_17 : decode cX8_findWoods 17 = .ok (.iload_n 3, 1) := by decide +kernel
theorem dX8_findWoods_18 : decode cX8_findWoods 18 = .ok (.aload_n 0, 1) := by decide +kernel
theorem dX8_findWoods_19 : decode cX8_findWoods 19 = .ok (.getfield 104, 3) := by decide +kernel
theorem dX8_findWoods_22 : decode cX8_findWoods 22 = .ok (.if_icmp .ge 57, 3) := by decide +kernel
theorem dX8_findWoods_25 : decode cX8_findWoods 25 = .ok (.iload_n 2, 1) := by decide +kernel
theorem dX8_findWoods_26 : decode cX8_findWoods 26 = .ok (.ifCond .eq 53, 3) := by decide +kernel
theorem dX8_findWoods_29 : decode cX8_findWoods 29 = .ok (.aload_n 0, 1) := by decide +kernel
theorem dX8_findWoods_30 : decode cX8_findWoods 30 = .ok (.aload_n 0, 1) := by decide +kernel
theorem dX8_findWoods_31 : decode cX8_findWoods 31 = .ok (.getfield 23, 3) := by decide +kernel
theorem dX8_findWoods_34 : decode cX8_findWoods 34 = .ok (.iload_n 3, 1) := by decide +kernel
theorem dX8_findWoods_35 : decode cX8_findWoods 35 = .ok (.invokevirtual 97, 3) := by decide +kernel
theorem dX8_findWoods_38 : decode cX8_findWoods 38 = .ok (.aload_n 0, 1) := by decide +kernel
theorem dX8_findWoods_39 : decode cX8_findWoods 39 = .ok (.iconst 1, 1) := by decide +kernel
theorem dX8_findWoods_40 : decode cX8_findWoods 40 = .ok (.iload_n 1, 1) := by decide +kernel
theorem dX8_findWoods_41 : decode cX8_findWoods 41 = .ok (.bipush 9, 2) := by decide +kernel
theorem dX8_findWoods_43 : decode cX8_findWoods 43 = .ok (.idiv, 1) := by decide +kernel
theorem dX8_findWoods_44 : decode cX8_findWoods 44 = .ok (.iadd, 1) := by decide +kernel
theorem dX8_findWoods_45 : decode cX8_findWoods 45 = .ok (.iconst 1, 1) := by decide +kernel
theorem dX8_findWoods_46 : decode cX8_findWoods 46 = .ok (.iload_n 1, 1) := by decide +kernel
theorem dX8_findWoods_47 : decode cX8_findWoods 47 = .ok (.bipush 9, 2) := by decide +kernel
theorem dX8_findWoods_49 : decode cX8_findWoods 49 = .ok (.irem, 1) := by decide +kernel
theorem dX8_findWoods_50 : decode cX8_findWoods 50 = .ok (.iadd, 1) := by decide +kernel
theorem dX8_findWoods_51 : decode cX8_findWoods 51 = .ok (.aload_n 0, 1) := by decide +kernel
theorem dX8_findWoods_52 : decode cX8_findWoods 52 = .ok (.getfield 26, 3) := by decide +kernel
theorem dX8_findWoods_55 : decode cX8_findWoods 55 = .ok (.iload_n 3, 1) := by decide +kernel
theorem dX8_findWoods_56 : decode cX8_findWoods 56 = .ok (.iaload, 1) := by decide +kernel
theorem dX8_findWoods_57 : decode cX8_findWoods 57 = .ok (.aload_n 0, 1) := by decide +kernel
theorem dX8_findWoods_58 : decode cX8_findWoods 58 = .ok (.getfield 29, 3) := by decide +kernel
theorem dX8_findWoods_61 : decode cX8_findWoods 61 = .ok (.iload_n 3, 1) := by decide +kernel
theorem dX8_findWoods_62 : decode cX8_findWoods 62 = .ok (.iaload, 1) := by decide +kernel
theorem dX8_findWoods_63 : decode cX8_findWoods 63 = .ok (.aload_n 0, 1) := by decide +kernel
theorem dX8_findWoods_64 : decode cX8_findWoods 64 = .ok (.getfield 32, 3) := by decide +kernel
theorem dX8_findWoods_67 : decode cX8_findWoods 67 = .ok (.iload_n 3, 1) := by decide +kernel
theorem dX8_findWoods_68 : decode cX8_findWoods 68 = .ok (.iaload, 1) := by decide +kernel
theorem dX8_findWoods_69 : decode cX8_findWoods 69 = .ok (.invokevirtual 110, 3) := by decide +kernel
theorem dX8_findWoods_72 : decode cX8_findWoods 72 = .ok (.istore_n 2, 1) := by decide +kernel
theorem dX8_findWoods_73 : decode cX8_findWoods 73 = .ok (.iinc 3 1, 3) := by decide +kernel
theorem dX8_findWoods_76 : decode cX8_findWoods 76 = .ok (.goto (-59), 3) := by decide +kernel
theorem dX8_findWoods_79 : decode cX8_findWoods 79 = .ok (.iload_n 2, 1) := by decide +kernel
theorem dX8_findWoods_80 : decode cX8_findWoods 80 = .ok (.ifCond .eq 23, 3) := by decide +kernel
theorem dX8_findWoods_83 : decode cX8_findWoods 83 = .ok (.aload_n 0, 1) := by decide +kernel
theorem dX8_findWoods_84 : decode cX8_findWoods 84 = .ok (.getfield 51, 3) := by decide +kernel
theorem dX8_findWoods_87 : decode cX8_findWoods 87 = .ok (.aload_n 0, 1) := by decide +kernel
theorem dX8_findWoods_88 : decode cX8_findWoods 88 = .ok (.getfield 107, 3) := by decide +kernel
theorem dX8_findWoods_91 : decode cX8_findWoods 91 = .ok (.iload_n 1, 1) := by decide +kernel
theorem dX8_findWoods_92 : decode cX8_findWoods 92 = .ok (.iastore, 1) := by decide +kernel
theorem dX8_findWoods_93 : decode cX8_findWoods 93 = .ok (.aload_n 0, 1) := by decide +kernel
theorem dX8_findWoods_94 : decode cX8_findWoods 94 = .ok (.dup, 1) := by decide +kernel
theorem dX8_findWoods_95 : decode cX8_findWoods 95 = .ok (.getfield 107, 3) := by decide +kernel
theorem dX8_findWoods_98 : decode cX8_findWoods 98 = .ok (.iconst 1, 1) := by decide +kernel
theorem dX8_findWoods_99 : decode cX8_findWoods 99 = .ok (.iadd, 1) := by decide +kernel
theorem dX8_findWoods_100 : decode cX8_findWoods 100 = .ok (.putfield 107, 3) := by decide +kernel
theorem dX8_findWoods_103 : decode cX8_findWoods 103 = .ok (.iinc 1 1, 3) := by decide +kernel
theorem dX8_findWoods_106 : decode cX8_findWoods 106 = .ok (.goto (-99), 3) := by decide +kernel
theorem dX8_findWoods_109 : decode cX8_findWoods 109 = .ok (.return_, 1) := by decide +kernel
set_option maxRecDepth 20000 in
theorem ggX8_toneBy_X8_toneOf : GoodIn wsX8_toneBy wsX8_toneOf := goodIn_r _ [6, 7, 8, 9, 5, 10, 11, 12, 13, 14, 15, 16, 17, 18, 19, 20, 21, 22, 23, 24, 25, 26, 27, 28, 29, 30, 31, 32, 33, 34, 35, 36, 37] (by decide +kernel) (by decide +kernel)
set_option maxRecDepth 20000 in
theorem gX8_toneBy_X8_toneOf : GoodIn wsX8_toneBy (wsV RX8 101 RX8 yX8_toneOf wsX8_toneOf) := goodIn_app (goodIn_of _ (by decide +kernel)) ggX8_toneBy_X8_toneOf
theorem dX8_toneBy_0 : decode cX8_toneBy 0 = .ok (.aload_n 0, 1) := by decide +kernel
theorem dX8_toneBy_1 : decode cX8_toneBy 1 = .ok (.iconst 1, 1) := by decide +kernel
theorem dX8_toneBy_2 : decode cX8_toneBy 2 = .ok (.aload_n 0, 1) := by decide +kernel
theorem dX8_toneBy_3 : decode cX8_toneBy 3 = .ok (.getfield 51, 3) := by decide +kernel
theorem dX8_toneBy_6 : decode cX8_toneBy 6 = .ok (.iload_n 1, 1) := by decide +kernel
theorem dX8_toneBy_7 : decode cX8_toneBy 7 = .ok (.iaload, 1) := by decide +kernel
theorem dX8_toneBy_8 : decode cX8_toneBy 8 = .ok (.bipush 9, 2) := by decide +kernel
theorem dX8_toneBy_10 : decode cX8_toneBy 10 = .ok (.idiv, 1) := by decide +kernel
theorem dX8_toneBy_11 : decode cX8_toneBy 11 = .ok (.iadd, 1) := by decide +kernel
theorem dX8_toneBy_12 : decode cX8_toneBy 12 = .ok (.iconst 1, 1) := by decide +kernel
theorem dX8_toneBy_13 : decode cX8_toneBy 13 = .ok (.aload_n 0, 1) := by decide +kernel
theorem dX8_toneBy_14 : decode cX8_toneBy 14 = .ok (.getfield 51, 3) := by decide +kernel
theorem dX8_toneBy_17 : decode cX8_toneBy 17 = .ok (.iload_n 1, 1) := by decide +kernel
theorem dX8_toneBy_18 : decode cX8_toneBy 18 = .ok (.iaload, 1) := by decide +kernel
theorem dX8_toneBy_19 : decode cX8_toneBy 19 = .ok (.bipush 9, 2) := by decide +kernel
theorem dX8_toneBy_21 : decode cX8_toneBy 21 = .ok (.irem, 1) := by decide +kernel
theorem dX8_toneBy_22 : decode cX8_toneBy 22 = .ok (.iadd, 1) := by decide +kernel
theorem dX8_toneBy_23 : decode cX8_toneBy 23 = .ok (.iload_n 2, 1) := by decide +kernel
theorem dX8_toneBy_24 : decode cX8_toneBy 24 = .ok (.invokevirtual 101, 3) := by decide +kernel
theorem dX8_toneBy_27 : decode cX8_toneBy 27 = .ok (.ireturn, 1) := by decide +kernel
set_option maxRecDepth 20000 in
theorem ggX8_woods_X8_findWoods : GoodIn wsX8_woods wsX8_findWoods := goodIn_r _ [6, 1, 7, 8, 9, 10, 11, 12, 13, 14, 15, 5, 16, 17, 18, 19, 20, 21, 22, 23, 24, 25, 26, 27, 28, 29, 30, 31, 32, 33, 34, 35, 36, 37, 38, 39, 40, 41, 42, 43, 44, 45, 46, 47, 48, 49, 50, 51] (by decide +kernel) (by decide +kernel)
set_option maxRecDepth 20000 in
theorem gX8_woods_X8_findWoods : GoodIn wsX8_woods (wsV RX8 114 RX8 yX8_findWoods wsX8_findWoods) := goodIn_app (goodIn_of _ (by decide +kernel)) ggX8_woods_X8_findWoods
theorem dX8_woods_0 : decode cX8_woods 0 = .ok (.aload_n 0, 1) := by decide +kernel
theorem dX8_woods_1 : decode cX8_woods 1 = .ok (.invokevirtual 114, 3) := by decide +kernel
theorem dX8_woods_4 : decode cX8_woods 4 = .ok (.aload_n 0, 1) := by decide +kernel
theorem dX8_woods_5 : decode cX8_woods 5 = .ok (.getfield 107, 3) := by decide +kernel
theorem dX8_woods_8 : decode cX8_woods 8 = .ok (.ireturn, 1) := by decide +kernel
set_option maxRecDepth 20000 in
theorem ggX8_wood_X8_findWoods : GoodIn wsX8_wood wsX8_findWoods := goodIn_r _ [7, 1, 8, 9, 10, 11, 12, 2, 13, 14, 15, 6, 16, 17, 18, 19, 20, 21, 22, 23, 24, 25, 26, 27, 28, 29, 30, 31, 35, 36, 37, 38, 39, 40, 41, 42, 43, 44, 45, 46, 47, 48, 49, 50, 51, 52, 53, 54] (by decide +kernel) (by decide +kernel)
set_option maxRecDepth 20000 in
theorem gX8_wood_X8_findWoods : GoodIn wsX8_wood (wsV RX8 114 RX8 yX8_findWoods wsX8_findWoods) := goodIn_app (goodIn_of _ (by decide +kernel)) ggX8_wood_X8_findWoods
set_option maxRecDepth 20000 in
theorem ggX8_wood_X8_in : GoodIn wsX8_wood wsX8_in := goodIn_r _ [34] (by decide +kernel) (by decide +kernel)
set_option maxRecDepth 20000 in
theorem gX8_wood_X8_in : GoodIn wsX8_wood (va_wsS RX8 60 yX8_in wsX8_in) := goodIn_app (goodIn_of _ (by decide +kernel)) ggX8_wood_X8_in
theorem dX8_wood_0 : decode cX8_wood 0 = .ok (.aload_n 0, 1) := by decide +kernel
theorem dX8_wood_1 : decode cX8_wood 1 = .ok (.invokevirtual 114, 3) := by decide +kernel
theorem dX8_wood_4 : decode cX8_wood 4 = .ok (.iload_n 1, 1) := by decide +kernel
theorem dX8_wood_5 : decode cX8_wood 5 = .ok (.iconst 0, 1) := by decide +kernel
theorem dX8_wood_6 : decode cX8_wood 6 = .ok (.aload_n 0, 1) := by decide +kernel
theorem dX8_wood_7 : decode cX8_wood 7 = .ok (.getfield 107, 3) := by decide +kernel
theorem dX8_wood_10 : decode cX8_wood 10 = .ok (.iconst 1, 1) := by decide +kernel
theorem dX8_wood_11 : decode cX8_wood 11 = .ok (.isub, 1) := by decide +kernel
theorem dX8_wood_12 : decode cX8_wood 12 = .ok (.invokestatic 60, 3) := by decide +kernel
theorem dX8_wood_15 : decode cX8_wood 15 = .ok (.ifCond .eq 12, 3) := by decide +kernel
theorem dX8_wood_18 : decode cX8_wood 18 = .ok (.iload_n 2, 1) := by decide +kernel
theorem dX8_wood_19 : decode cX8_wood 19 = .ok (.iconst 0, 1) := by decide +kernel
theorem dX8_wood_20 : decode cX8_wood 20 = .ok (.iconst 1, 1) := by decide +kernel
theorem dX8_wood_21 : decode cX8_wood 21 = .ok (.invokestatic 60, 3) := by decide +kernel
theorem dX8_wood_24 : decode cX8_wood 24 = .ok (.ifCond .ne 6, 3) := by decide +kernel
theorem dX8_wood_27 : decode cX8_wood 27 = .ok (.bipush (-2), 2) := by decide +kernel
theorem dX8_wood_29 : decode cX8_wood 29 = .ok (.ireturn, 1) := by decide +kernel
theorem dX8_wood_30 : decode cX8_wood 30 = .ok (.iconst 1, 1) := by decide +kernel
theorem dX8_wood_31 : decode cX8_wood 31 = .ok (.iload_n 2, 1) := by decide +kernel
theorem dX8_wood_32 : decode cX8_wood 32 = .ok (.ifCond .ne 15, 3) := by decide +kernel
theorem dX8_wood_35 : decode cX8_wood 35 = .ok (.aload_n 0, 1) := by decide +kernel
theorem dX8_wood_36 : decode cX8_wood 36 = .ok (.getfield 51, 3) := by decide +kernel
theorem dX8_wood_39 : decode cX8_wood 39 = .ok (.iload_n 1, 1) := by decide +kernel
theorem dX8_wood_40 : decode cX8_wood 40 = .ok (.iaload, 1) := by decide +kernel
theorem dX8_wood_41 : decode cX8_wood 41 = .ok (.bipush 9, 2) := by decide +kernel
theorem dX8_wood_43 : decode cX8_wood 43 = .ok (.idiv, 1) := by decide +kernel
theorem dX8_wood_44 : decode cX8_wood 44 = .ok (.goto 12, 3) := by decide +kernel
theorem dX8_wood_47 : decode cX8_wood 47 = .ok (.aload_n 0, 1) := by decide +kernel
theorem dX8_wood_48 : decode cX8_wood 48 = .ok (.getfield 51, 3) := by decide +kernel
theorem dX8_wood_51 : decode cX8_wood 51 = .ok (.iload_n 1, 1) := by decide +kernel
theorem dX8_wood_52 : decode cX8_wood 52 = .ok (.iaload, 1) := by decide +kernel
theorem dX8_wood_53 : decode cX8_wood 53 = .ok (.bipush 9, 2) := by decide +kernel
theorem dX8_wood_55 : decode cX8_wood 55 = .ok (.irem, 1) := by decide +kernel
theorem dX8_wood_56 : decode cX8_wood 56 = .ok (.iadd, 1) := by decide +kernel
theorem dX8_wood_57 : decode cX8_wood 57 = .ok (.ireturn, 1) := by decide +kernel
set_option maxRecDepth 20000 in
theorem ggX8_span_X8_isPlate : GoodIn wsX8_span wsX8_isPlate := goodIn_r _ [7, 8, 9, 10, 6, 11, 52, 53, 54, 55, 56, 57, 58, 59, 60, 61, 62, 63, 64, 65, 66, 67, 68, 69, 70, 71] (by decide +kernel) (by decide +kernel)
set_option maxRecDepth 20000 in
theorem gX8_span_X8_isPlate : GoodIn wsX8_span (wsV RX8 71 RX8 yX8_isPlate wsX8_isPlate) := goodIn_app (goodIn_of _ (by decide +kernel)) ggX8_span_X8_isPlate
set_option maxRecDepth 20000 in
theorem ggX8_span_X8_isFour : GoodIn wsX8_span wsX8_isFour := goodIn_r _ [14, 9, 10, 6, 11] (by decide +kernel) (by decide +kernel)
set_option maxRecDepth 20000 in
theorem gX8_span_X8_isFour : GoodIn wsX8_span (va_wsS RX8 74 yX8_isFour wsX8_isFour) := goodIn_app (goodIn_of _ (by decide +kernel)) ggX8_span_X8_isFour
set_option maxRecDepth 20000 in
theorem ggX8_span_X8_in : GoodIn wsX8_span wsX8_in := goodIn_r _ [11] (by decide +kernel) (by decide +kernel)
set_option maxRecDepth 20000 in
theorem gX8_span_X8_in : GoodIn wsX8_span (va_wsS RX8 60 yX8_in wsX8_in) := goodIn_app (goodIn_of _ (by decide +kernel)) ggX8_span_X8_in
set_option maxRecDepth 20000 in
theorem ggX8_span_X8_findWoods : GoodIn wsX8_span wsX8_findWoods := goodIn_r _ [18, 1, 19, 20, 21, 22, 23, 24, 25, 26, 27, 6, 28, 29, 30, 31, 32, 33, 34, 35, 36, 37, 38, 39, 40, 41, 42, 43, 52, 53, 54, 55, 56, 57, 58, 59, 60, 61, 62, 63, 64, 65, 66, 67, 68, 69, 70, 71] (by decide +kernel) (by decide +kernel)
set_option maxRecDepth 20000 in
theorem gX8_span_X8_findWoods : GoodIn wsX8_span (wsV RX8 114 RX8 yX8_findWoods wsX8_findWoods) := goodIn_app (goodIn_of _ (by decide +kernel)) ggX8_span_X8_findWoods
set_option maxRecDepth 20000 in
theorem ggX8_span_X8_take : GoodIn wsX8_span wsX8_take := goodIn_r _ [28, 29, 52, 53, 54, 55, 56, 57, 58, 59, 60, 61, 62, 63, 64, 65, 66, 67, 68, 69, 70, 71] (by decide +kernel) (by decide +kernel)
set_option maxRecDepth 20000 in
theorem gX8_span_X8_take : GoodIn wsX8_span (wsV RX8 97 RX8 yX8_take wsX8_take) := goodIn_app (goodIn_of _ (by decide +kernel)) ggX8_span_X8_take
set_option maxRecDepth 20000 in
theorem ggX8_span_X8_toneBy : GoodIn wsX8_span wsX8_toneBy := goodIn_r _ [47, 24, 48, 49, 50, 6, 51, 34, 35, 36, 37, 29, 38, 39, 40, 41, 42, 43, 52, 53, 54, 55, 56, 57, 58, 59, 60, 61, 62, 63, 64, 65, 66, 67, 68, 69, 70, 71] (by decide +kernel) (by decide +kernel)
set_option maxRecDepth 20000 in
theorem gX8_span_X8_toneBy : GoodIn wsX8_span (wsV RX8 117 RX8 yX8_toneBy wsX8_toneBy) := goodIn_app (goodIn_of _ (by decide +kernel)) ggX8_span_X8_toneBy
theorem dX8_span_0 : decode cX8_span 0 = .ok (.aload_n 0, 1) := by decide +kernel
theorem dX8_span_1 : decode cX8_span 1 = .ok (.iload_n 1, 1) := by decide +kernel
theorem dX8_span_2 : decode cX8_span 2 = .ok (.invokevirtual 71, 3) := by decide +kernel
theorem dX8_span_5 : decode cX8_span 5 = .ok (.ifCond .eq 19, 3) := by decide +kernel
theorem dX8_span_8 : decode cX8_span 8 = .ok (.iload_n 2, 1) := by decide +kernel
theorem dX8_span_9 : decode cX8_span 9 = .ok (.invokestatic 74, 3) := by decide +kernel
theorem dX8_span_12 : decode cX8_span 12 = .ok (.ifCond .eq 12, 3) := by decide +kernel
theorem dX8_span_15 : decode cX8_span 15 = .ok (.iload_n 3, 1) := by decide +kernel
theorem dX8_span_16 : decode cX8_span 16 = .ok (.iconst 0, 1) := by decide +kernel
theorem dX8_span_17 : decode cX8_span 17 = .ok (.iconst 1, 1) := by decide +kernel
theorem dX8_span_18 : decode cX8_span 18 = .ok (.invokestatic 60, 3) := by decide +kernel
theorem dX8_span_21 : decode cX8_span 21 = .ok (.ifCond .ne 6, 3) := by decide +kernel
theorem dX8_span_24 : decode cX8_span 24 = .ok (.bipush (-2), 2) := by decide +kernel
theorem dX8_span_26 : decode cX8_span 26 = .ok (.ireturn, 1) := by decide +kernel
theorem dX8_span_27 : decode cX8_span 27 = .ok (.aload_n 0, 1) := by decide +kernel
theorem dX8_span_28 : decode cX8_span 28 = .ok (.invokevirtual 114, 3) := by decide +kernel
theorem dX8_span_31 : decode cX8_span 31 = .ok (.aload_n 0, 1) := by decide +kernel
theorem dX8_span_32 : decode cX8_span 32 = .ok (.getfield 107, 3) := by decide +kernel
theorem dX8_span_35 : decode cX8_span 35 = .ok (.ifCond .ne 6, 3) := by decide +kernel
theorem dX8_span_38 : decode cX8_span 38 = .ok (.bipush (-3), 2) := by decide +kernel
theorem dX8_span_40 : decode cX8_span 40 = .ok (.ireturn, 1) := by decide +kernel
theorem dX8_span_41 : decode cX8_span 41 = .ok (.aload_n 0, 1) := by decide +kernel
theorem dX8_span_42 : decode cX8_span 42 = .ok (.aload_n 0, 1) := by decide +kernel
theorem dX8_span_43 : decode cX8_span 43 = .ok (.getfield 7, 3) := by decide +kernel
theorem dX8_span_46 : decode cX8_span 46 = .ok (.iload_n 1, 1) := by decide +kernel
theorem dX8_span_47 : decode cX8_span 47 = .ok (.invokevirtual 97, 3) := by decide +kernel
theorem dX8_span_50 : decode cX8_span 50 = .ok (.aload_n 0, 1) := by decide +kernel
theorem dX8_span_51 : decode cX8_span 51 = .ok (.iconst 0, 1) := by decide +kernel
theorem dX8_span_52 : decode cX8_span 52 = .ok (.iload_n 2, 1) := by decide +kernel
theorem dX8_span_53 : decode cX8_span 53 = .ok (.invokevirtual 117, 3) := by decide +kernel
theorem dX8_span_56 : decode cX8_span 56 = .ok (.istore 4, 2) := by decide +kernel
theorem dX8_span_58 : decode cX8_span 58 = .ok (.iconst 1, 1) := by decide +kernel
theorem dX8_span_59 : decode cX8_span 59 = .ok (.istore 5, 2) := by decide +kernel
theorem dX8_span_61 : decode cX8_span 61 = .ok (.iload 5, 2) := by decide +kernel
theorem dX8_span_63 : decode cX8_span 63 = .ok (.aload_n 0, 1) := by decide +kernel
theorem dX8_span_64 : decode cX8_span 64 = .ok (.getfield 107, 3) := by decide +kernel
theorem dX8_span_67 : decode cX8_span 67 = .ok (.if_icmp .ge 48, 3) := by decide +kernel
theorem dX8_span_70 : decode cX8_span 70 = .ok (.aload_n 0, 1) := by decide +kernel
theorem dX8_span_71 : decode cX8_span 71 = .ok (.iload 5, 2) := by decide +kernel
theorem dX8_span_73 : decode cX8_span 73 = .ok (.iload_n 2, 1) := by decide +kernel
theorem dX8_span_74 : decode cX8_span 74 = .ok (.invokevirtual 117, 3) := by decide +kernel
theorem dX8_span_77 : decode cX8_span 77 = .ok (.istore 6, 2) := by decide +kernel
theorem dX8_span_79 : decode cX8_span 79 = .ok (.iload_n 3, 1) := by decide +kernel
theorem dX8_span_80 : decode cX8_span 80 = .ok (.ifCond .ne 13, 3) := by decide +kernel
theorem dX8_span_83 : decode cX8_span 83 = .ok (.iload 6, 2) := by decide +kernel
theorem dX8_span_85 : decode cX8_span 85 = .ok (.iload 4, 2) := by decide +kernel
theorem dX8_span_87 : decode cX8_span 87 = .ok (.if_icmp .ge 18, 3) := by decide +kernel
theorem dX8_span_90 : decode cX8_span 90 = .ok (.goto 10, 3) := by decide +kernel
theorem dX8_span_93 : decode cX8_span 93 = .ok (.iload 6, 2) := by decide +kernel
theorem dX8_span_95 : decode cX8_span 95 = .ok (.iload 4, 2) := by decide +kernel
theorem dX8_span_97 : decode cX8_span 97 = .ok (.if_icmp .le 8, 3) := by decide +kernel
theorem dX8_span_100 : decode cX8_span 100 = .ok (.iload 6, 2) := by decide +kernel
theorem dX8_span_102 : decode cX8_span 102 = .ok (.goto 5, 3) := by decide +kernel
theorem dX8_span_105 : decode cX8_span 105 = .ok (.iload 4, 2) := by decide +kernel
theorem dX8_span_107 : decode cX8_span 107 = .ok (.istore 4, 2) := by decide +kernel
theorem dX8_span_109 : decode cX8_span 109 = .ok (.iinc 5 1, 3) := by decide +kernel
theorem dX8_span_112 : decode cX8_span 112 = .ok (.goto (-51), 3) := by decide +kernel
theorem dX8_span_115 : decode cX8_span 115 = .ok (.iload 4, 2) := by decide +kernel
theorem dX8_span_117 : decode cX8_span 117 = .ok (.ireturn, 1) := by decide +kernel
set_option maxRecDepth 20000 in
theorem ggX8_greatestHeap_X8_toneBy : GoodIn wsX8_greatestHeap wsX8_toneBy := goodIn_r _ [7, 8, 9, 10, 11, 6, 12, 13, 14, 15, 16, 17, 18, 19, 20, 21, 22, 23, 24, 25, 26, 27, 28, 29, 30, 31, 32, 33, 34, 35, 36, 37, 38, 39, 40, 41, 42, 43] (by decide +kernel) (by decide +kernel)
set_option maxRecDepth 20000 in
theorem gX8_greatestHeap_X8_toneBy : GoodIn wsX8_greatestHeap (wsV RX8 117 RX8 yX8_toneBy wsX8_toneBy) := goodIn_app (goodIn_of _ (by decide +kernel)) ggX8_greatestHeap_X8_toneBy
theorem dX8_greatestHeap_0 : decode cX8_greatestHeap 0 = .ok (.iconst 0, 1) := by decide +kernel
theorem dX8_greatestHeap_1 : decode cX8_greatestHeap 1 = .ok (.istore_n 2, 1) := by decide +kernel
theorem dX8_greatestHeap_2 : decode cX8_greatestHeap 2 = .ok (.iload_n 2, 1) := by decide +kernel
theorem dX8_greatestHeap_3 : decode cX8_greatestHeap 3 = .ok (.sipush 500, 3) := by decide +kernel
theorem dX8_greatestHeap_6 : decode cX8_greatestHeap 6 = .ok (.if_icmp .gt 16, 3) := by decide +kernel
theorem dX8_greatestHeap_9 : decode cX8_greatestHeap 9 = .ok (.aload_n 0, 1) := by decide +kernel
theorem dX8_greatestHeap_10 : decode cX8_greatestHeap 10 = .ok (.getfield 54, 3) := by decide +kernel
theorem dX8_greatestHeap_13 : decode cX8_greatestHeap 13 = .ok (.iload_n 2, 1) := by decide +kernel
theorem dX8_greatestHeap_14 : decode cX8_greatestHeap 14 = .ok (.iconst 0, 1) := by decide +kernel
theorem dX8_greatestHeap_15 : decode cX8_greatestHeap 15 = .ok (.iastore, 1) := by decide +kernel
theorem dX8_greatestHeap_16 : decode cX8_greatestHeap 16 = .ok (.iinc 2 1, 3) := by decide +kernel
theorem dX8_greatestHeap_19 : decode cX8_greatestHeap 19 = .ok (.goto (-17), 3) := by decide +kernel
theorem dX8_greatestHeap_22 : decode cX8_greatestHeap 22 = .ok (.iconst 0, 1) := by decide +kernel
theorem dX8_greatestHeap_23 : decode cX8_greatestHeap 23 = .ok (.istore_n 2, 1) := by decide +kernel
theorem dX8_greatestHeap_24 : decode cX8_greatestHeap 24 = .ok (.iconst 0, 1) := by decide +kernel
theorem dX8_greatestHeap_25 : decode cX8_greatestHeap 25 = .ok (.istore_n 3, 1) := by decide +kernel
theorem dX8_greatestHeap_26 : decode cX8_greatestHeap 26 = .ok (.iload_n 3, 1) := by decide +kernel
theorem dX8_greatestHeap_27 : decode cX8_greatestHeap 27 = .ok (.aload_n 0, 1) := by decide +kernel
theorem dX8_greatestHeap_28 : decode cX8_greatestHeap 28 = .ok (.getfield 107, 3) := by decide +kernel
theorem dX8_greatestHeap_31 : decode cX8_greatestHeap 31 = .ok (.if_icmp .ge 51, 3) := by decide +kernel
theorem dX8_greatestHeap_34 : decode cX8_greatestHeap 34 = .ok (.aload_n 0, 1) := by decide +kernel
theorem dX8_greatestHeap_35 : decode cX8_greatestHeap 35 = .ok (.iload_n 3, 1) := by decide +kernel
theorem dX8_greatestHeap_36 : decode cX8_greatestHeap 36 = .ok (.iload_n 1, 1) := by decide +kernel
theorem dX8_greatestHeap_37 : decode cX8_greatestHeap 37 = .ok (.invokevirtual 117, 3) := by decide +kernel
theorem dX8_greatestHeap_40 : decode cX8_greatestHeap 40 = .ok (.istore 4, 2) := by decide +kernel
theorem dX8_greatestHeap_42 : decode cX8_greatestHeap 42 = .ok (.aload_n 0, 1) := by decide +kernel
theorem dX8_greatestHeap_43 : decode cX8_greatestHeap 43 = .ok (.getfield 54, 3) := by decide +kernel
theorem dX8_greatestHeap_46 : decode cX8_greatestHeap 46 = .ok (.iload 4, 2) := by decide +kernel
theorem dX8_greatestHeap_48 : decode cX8_greatestHeap 48 = .ok (.dup2, 1) := by decide +kernel
theorem dX8_greatestHeap_49 : decode cX8_greatestHeap 49 = .ok (.iaload, 1) := by decide +kernel
theorem dX8_greatestHeap_50 : decode cX8_greatestHeap 50 = .ok (.iconst 1, 1) := by decide +kernel
theorem dX8_greatestHeap_51 : decode cX8_greatestHeap 51 = .ok (.iadd, 1) := by decide +kernel
theorem dX8_greatestHeap_52 : decode cX8_greatestHeap 52 = .ok (.iastore, 1) := by decide +kernel
theorem dX8_greatestHeap_53 : decode cX8_greatestHeap 53 = .ok (.aload_n 0, 1) := by decide +kernel
theorem dX8_greatestHeap_54 : decode cX8_greatestHeap 54 = .ok (.getfield 54, 3) := by decide +kernel
theorem dX8_greatestHeap_57 : decode cX8_greatestHeap 57 = .ok (.iload 4, 2) := by decide +kernel
theorem dX8_greatestHeap_59 : decode cX8_greatestHeap 59 = .ok (.iaload, 1) := by decide +kernel
theorem dX8_greatestHeap_60 : decode cX8_greatestHeap 60 = .ok (.iload_n 2, 1) := by decide +kernel
theorem dX8_greatestHeap_61 : decode cX8_greatestHeap 61 = .ok (.if_icmp .le 13, 3) := by decide +kernel
theorem dX8_greatestHeap_64 : decode cX8_greatestHeap 64 = .ok (.aload_n 0, 1) := by decide +kernel
theorem dX8_greatestHeap_65 : decode cX8_greatestHeap 65 = .ok (.getfield 54, 3) := by decide +kernel
theorem dX8_greatestHeap_68 : decode cX8_greatestHeap 68 = .ok (.iload 4, 2) := by decide +kernel
theorem dX8_greatestHeap_70 : decode cX8_greatestHeap 70 = .ok (.iaload, 1) := by decide +kernel
theorem dX8_greatestHeap_71 : decode cX8_greatestHeap 71 = .ok (.goto 4, 3) := by decide +kernel
theorem dX8_greatestHeap_74 : decode cX8_greatestHeap 74 = .ok (.iload_n 2, 1) := by decide +kernel
theorem dX8_greatestHeap_75 : decode cX8_greatestHeap 75 = .ok (.istore_n 2, 1) := by decide +kernel
theorem dX8_greatestHeap_76 : decode cX8_greatestHeap 76 = .ok (.iinc 3 1, 3) := by decide +kernel
theorem dX8_greatestHeap_79 : decode cX8_greatestHeap 79 = .ok (.goto (-53), 3) := by decide +kernel
theorem dX8_greatestHeap_82 : decode cX8_greatestHeap 82 = .ok (.iload_n 2, 1) := by decide +kernel
theorem dX8_greatestHeap_83 : decode cX8_greatestHeap 83 = .ok (.ireturn, 1) := by decide +kernel
set_option maxRecDepth 20000 in
theorem ggX8_next_X8_isPlate : GoodIn wsX8_next wsX8_isPlate := goodIn_r _ [7, 8, 9, 10, 6, 11, 54, 55, 56, 57, 58, 59, 60, 61, 62, 63, 64, 65, 66, 67, 68, 69, 70, 71, 72, 73] (by decide +kernel) (by decide +kernel)
set_option maxRecDepth 20000 in
theorem gX8_next_X8_isPlate : GoodIn wsX8_next (wsV RX8 71 RX8 yX8_isPlate wsX8_isPlate) := goodIn_app (goodIn_of _ (by decide +kernel)) ggX8_next_X8_isPlate
set_option maxRecDepth 20000 in
theorem ggX8_next_X8_in : GoodIn wsX8_next wsX8_in := goodIn_r _ [11] (by decide +kernel) (by decide +kernel)
set_option maxRecDepth 20000 in
theorem gX8_next_X8_in : GoodIn wsX8_next (va_wsS RX8 60 yX8_in wsX8_in) := goodIn_app (goodIn_of _ (by decide +kernel)) ggX8_next_X8_in
set_option maxRecDepth 20000 in
theorem ggX8_next_X8_findWoods : GoodIn wsX8_next wsX8_findWoods := goodIn_r _ [15, 1, 16, 17, 18, 19, 20, 21, 22, 23, 24, 6, 25, 26, 27, 28, 29, 30, 31, 32, 33, 34, 35, 36, 37, 38, 39, 40, 54, 55, 56, 57, 58, 59, 60, 61, 62, 63, 64, 65, 66, 67, 68, 69, 70, 71, 72, 73] (by decide +kernel) (by decide +kernel)
set_option maxRecDepth 20000 in
theorem gX8_next_X8_findWoods : GoodIn wsX8_next (wsV RX8 114 RX8 yX8_findWoods wsX8_findWoods) := goodIn_app (goodIn_of _ (by decide +kernel)) ggX8_next_X8_findWoods
set_option maxRecDepth 20000 in
theorem ggX8_next_X8_take : GoodIn wsX8_next wsX8_take := goodIn_r _ [25, 26, 54, 55, 56, 57, 58, 59, 60, 61, 62, 63, 64, 65, 66, 67, 68, 69, 70, 71, 72, 73] (by decide +kernel) (by decide +kernel)
set_option maxRecDepth 20000 in
theorem gX8_next_X8_take : GoodIn wsX8_next (wsV RX8 97 RX8 yX8_take wsX8_take) := goodIn_app (goodIn_of _ (by decide +kernel)) ggX8_next_X8_take
set_option maxRecDepth 20000 in
theorem ggX8_next_X8_greatestHeap : GoodIn wsX8_next wsX8_greatestHeap := goodIn_r _ [44, 45, 1, 46, 47, 48, 6, 49, 21, 50, 51, 52, 53, 31, 32, 33, 34, 26, 35, 36, 37, 38, 39, 40, 54, 55, 56, 57, 58, 59, 60, 61, 62, 63, 64, 65, 66, 67, 68, 69, 70, 71, 72, 73] (by decide +kernel) (by decide +kernel)
set_option maxRecDepth 20000 in
theorem gX8_next_X8_greatestHeap : GoodIn wsX8_next (wsV RX8 121 RX8 yX8_greatestHeap wsX8_greatestHeap) := goodIn_app (goodIn_of _ (by decide +kernel)) ggX8_next_X8_greatestHeap
theorem dX8_next_0 : decode cX8_next 0 = .ok (.aload_n 0, 1) := by decide +kernel
theorem dX8_next_1 : decode cX8_next 1 = .ok (.iload_n 1, 1) := by decide +kernel
theorem dX8_next_2 : decode cX8_next 2 = .ok (.invokevirtual 71, 3) := by decide +kernel
theorem dX8_next_5 : decode cX8_next 5 = .ok (.ifCond .eq 12, 3) := by decide +kernel
theorem dX8_next_8 : decode cX8_next 8 = .ok (.iload_n 2, 1) := by decide +kernel
theorem dX8_next_9 : decode cX8_next 9 = .ok (.iconst 0, 1) := by decide +kernel
theorem dX8_next_10 : decode cX8_next 10 = .ok (.iconst 1, 1) := by decide +kernel
theorem dX8_next_11 : decode cX8_next 11 = .ok (.invokestatic 60, 3) := by decide +kernel
theorem dX8_next_14 : decode cX8_next 14 = .ok (.ifCond .ne 6, 3) := by decide +kernel
theorem dX8_next_17 : decode cX8_next 17 = .ok (.bipush (-2), 2) := by decide +kernel
theorem dX8_next_19 : decode cX8_next 19 = .ok (.ireturn, 1) := by decide +kernel
theorem dX8_next_20 : decode cX8_next 20 = .ok (.aload_n 0, 1) := by decide +kernel
theorem dX8_next_21 : decode cX8_next 21 = .ok (.invokevirtual 114, 3) := by decide +kernel
theorem dX8_next_24 : decode cX8_next 24 = .ok (.aload_n 0, 1) := by decide +kernel
theorem dX8_next_25 : decode cX8_next 25 = .ok (.getfield 107, 3) := by decide +kernel
theorem dX8_next_28 : decode cX8_next 28 = .ok (.ifCond .ne 6, 3) := by decide +kernel
theorem dX8_next_31 : decode cX8_next 31 = .ok (.bipush (-3), 2) := by decide +kernel
theorem dX8_next_33 : decode cX8_next 33 = .ok (.ireturn, 1) := by decide +kernel
theorem dX8_next_34 : decode cX8_next 34 = .ok (.aload_n 0, 1) := by decide +kernel
theorem dX8_next_35 : decode cX8_next 35 = .ok (.aload_n 0, 1) := by decide +kernel
theorem dX8_next_36 : decode cX8_next 36 = .ok (.getfield 7, 3) := by decide +kernel
theorem dX8_next_39 : decode cX8_next 39 = .ok (.iload_n 1, 1) := by decide +kernel
theorem dX8_next_40 : decode cX8_next 40 = .ok (.invokevirtual 97, 3) := by decide +kernel
theorem dX8_next_43 : decode cX8_next 43 = .ok (.iconst 0, 1) := by decide +kernel
theorem dX8_next_44 : decode cX8_next 44 = .ok (.istore_n 3, 1) := by decide +kernel
theorem dX8_next_45 : decode cX8_next 45 = .ok (.aload_n 0, 1) := by decide +kernel
theorem dX8_next_46 : decode cX8_next 46 = .ok (.iconst 0, 1) := by decide +kernel
theorem dX8_next_47 : decode cX8_next 47 = .ok (.invokevirtual 121, 3) := by decide +kernel
theorem dX8_next_50 : decode cX8_next 50 = .ok (.istore 4, 2) := by decide +kernel
theorem dX8_next_52 : decode cX8_next 52 = .ok (.iconst 1, 1) := by decide +kernel
theorem dX8_next_53 : decode cX8_next 53 = .ok (.istore 5, 2) := by decide +kernel
theorem dX8_next_55 : decode cX8_next 55 = .ok (.iload 5, 2) := by decide +kernel
theorem dX8_next_57 : decode cX8_next 57 = .ok (.iconst 4, 1) := by decide +kernel
theorem dX8_next_58 : decode cX8_next 58 = .ok (.if_icmp .ge 47, 3) := by decide +kernel
theorem dX8_next_61 : decode cX8_next 61 = .ok (.aload_n 0, 1) := by decide +kernel
theorem dX8_next_62 : decode cX8_next 62 = .ok (.iload 5, 2) := by decide +kernel
theorem dX8_next_64 : decode cX8_next 64 = .ok (.invokevirtual 121, 3) := by decide +kernel
theorem dX8_next_67 : decode cX8_next 67 = .ok (.istore 6, 2) := by decide +kernel
theorem dX8_next_69 : decode cX8_next 69 = .ok (.iload 6, 2) := by decide +kernel
theorem dX8_next_71 : decode cX8_next 71 = .ok (.iload 4, 2) := by decide +kernel
theorem dX8_next_73 : decode cX8_next 73 = .ok (.if_icmp .ge 8, 3) := by decide +kernel
theorem dX8_next_76 : decode cX8_next 76 = .ok (.iload 5, 2) := by decide +kernel
theorem dX8_next_78 : decode cX8_next 78 = .ok (.goto 4, 3) := by decide +kernel
theorem dX8_next_81 : decode cX8_next 81 = .ok (.iload_n 3, 1) := by decide +kernel
theorem dX8_next_82 : decode cX8_next 82 = .ok (.istore_n 3, 1) := by decide +kernel
theorem dX8_next_83 : decode cX8_next 83 = .ok (.iload 6, 2) := by decide +kernel
theorem dX8_next_85 : decode cX8_next 85 = .ok (.iload 4, 2) := by decide +kernel
theorem dX8_next_87 : decode cX8_next 87 = .ok (.if_icmp .ge 8, 3) := by decide +kernel
theorem dX8_next_90 : decode cX8_next 90 = .ok (.iload 6, 2) := by decide +kernel
theorem dX8_next_92 : decode cX8_next 92 = .ok (.goto 5, 3) := by decide +kernel
theorem dX8_next_95 : decode cX8_next 95 = .ok (.iload 4, 2) := by decide +kernel
theorem dX8_next_97 : decode cX8_next 97 = .ok (.istore 4, 2) := by decide +kernel
theorem dX8_next_99 : decode cX8_next 99 = .ok (.iinc 5 1, 3) := by decide +kernel
theorem dX8_next_102 : decode cX8_next 102 = .ok (.goto (-47), 3) := by decide +kernel
theorem dX8_next_105 : decode cX8_next 105 = .ok (.iload_n 2, 1) := by decide +kernel
theorem dX8_next_106 : decode cX8_next 106 = .ok (.ifCond .ne 7, 3) := by decide +kernel
theorem dX8_next_109 : decode cX8_next 109 = .ok (.iload_n 3, 1) := by decide +kernel
theorem dX8_next_110 : decode cX8_next 110 = .ok (.goto 5, 3) := by decide +kernel
theorem dX8_next_113 : decode cX8_next 113 = .ok (.iload 4, 2) := by decide +kernel
theorem dX8_next_115 : decode cX8_next 115 = .ok (.ireturn, 1) := by decide +kernel
set_option maxRecDepth 20000 in
theorem ggX8_aim_X8_isFour : GoodIn wsX8_aim wsX8_isFour := goodIn_r _ [7, 8, 9, 6, 10] (by decide +kernel) (by decide +kernel)
set_option maxRecDepth 20000 in
theorem gX8_aim_X8_isFour : GoodIn wsX8_aim (va_wsS RX8 74 yX8_isFour wsX8_isFour) := goodIn_app (goodIn_of _ (by decide +kernel)) ggX8_aim_X8_isFour
set_option maxRecDepth 20000 in
theorem ggX8_aim_X8_in : GoodIn wsX8_aim wsX8_in := goodIn_r _ [10] (by decide +kernel) (by decide +kernel)
set_option maxRecDepth 20000 in
theorem gX8_aim_X8_in : GoodIn wsX8_aim (va_wsS RX8 60 yX8_in wsX8_in) := goodIn_app (goodIn_of _ (by decide +kernel)) ggX8_aim_X8_in
theorem dX8_aim_0 : decode cX8_aim 0 = .ok (.iload_n 1, 1) := by decide +kernel
theorem dX8_aim_1 : decode cX8_aim 1 = .ok (.invokestatic 74, 3) := by decide +kernel
theorem dX8_aim_4 : decode cX8_aim 4 = .ok (.ifCond .eq 25, 3) := by decide +kernel
theorem dX8_aim_7 : decode cX8_aim 7 = .ok (.iload_n 2, 1) := by decide +kernel
theorem dX8_aim_8 : decode cX8_aim 8 = .ok (.iconst 0, 1) := by decide +kernel
theorem dX8_aim_9 : decode cX8_aim 9 = .ok (.sipush 500, 3) := by decide +kernel
theorem dX8_aim_12 : decode cX8_aim 12 = .ok (.invokestatic 60, 3) := by decide +kernel
theorem dX8_aim_15 : decode cX8_aim 15 = .ok (.ifCond .eq 14, 3) := by decide +kernel
theorem dX8_aim_18 : decode cX8_aim 18 = .ok (.iload_n 3, 1) := by decide +kernel
theorem dX8_aim_19 : decode cX8_aim 19 = .ok (.iload_n 2, 1) := by decide +kernel
theorem dX8_aim_20 : decode cX8_aim 20 = .ok (.sipush 500, 3) := by decide +kernel
theorem dX8_aim_23 : decode cX8_aim 23 = .ok (.invokestatic 60, 3) := by decide +kernel
theorem dX8_aim_26 : decode cX8_aim 26 = .ok (.ifCond .ne 6, 3) := by decide +kernel
theorem dX8_aim_29 : decode cX8_aim 29 = .ok (.bipush (-2), 2) := by decide +kernel
theorem dX8_aim_31 : decode cX8_aim 31 = .ok (.ireturn, 1) := by decide +kernel
theorem dX8_aim_32 : decode cX8_aim 32 = .ok (.aload_n 0, 1) := by decide +kernel
theorem dX8_aim_33 : decode cX8_aim 33 = .ok (.getfield 35, 3) := by decide +kernel
theorem dX8_aim_36 : decode cX8_aim 36 = .ok (.iload_n 1, 1) := by decide +kernel
theorem dX8_aim_37 : decode cX8_aim 37 = .ok (.iconst 1, 1) := by decide +kernel
theorem dX8_aim_38 : decode cX8_aim 38 = .ok (.bastore, 1) := by decide +kernel
theorem dX8_aim_39 : decode cX8_aim 39 = .ok (.aload_n 0, 1) := by decide +kernel
theorem dX8_aim_40 : decode cX8_aim 40 = .ok (.getfield 39, 3) := by decide +kernel
theorem dX8_aim_43 : decode cX8_aim 43 = .ok (.iload_n 1, 1) := by decide +kernel
theorem dX8_aim_44 : decode cX8_aim 44 = .ok (.iload_n 2, 1) := by decide +kernel
theorem dX8_aim_45 : decode cX8_aim 45 = .ok (.iastore, 1) := by decide +kernel
theorem dX8_aim_46 : decode cX8_aim 46 = .ok (.aload_n 0, 1) := by decide +kernel
theorem dX8_aim_47 : decode cX8_aim 47 = .ok (.getfield 42, 3) := by decide +kernel
theorem dX8_aim_50 : decode cX8_aim 50 = .ok (.iload_n 1, 1) := by decide +kernel
theorem dX8_aim_51 : decode cX8_aim 51 = .ok (.iload_n 3, 1) := by decide +kernel
theorem dX8_aim_52 : decode cX8_aim 52 = .ok (.iastore, 1) := by decide +kernel
theorem dX8_aim_53 : decode cX8_aim 53 = .ok (.iconst 1, 1) := by decide +kernel
theorem dX8_aim_54 : decode cX8_aim 54 = .ok (.ireturn, 1) := by decide +kernel
theorem dX8_aims_0 : decode cX8_aims 0 = .ok (.iconst 0, 1) := by decide +kernel
theorem dX8_aims_1 : decode cX8_aims 1 = .ok (.istore_n 1, 1) := by decide +kernel
theorem dX8_aims_2 : decode cX8_aims 2 = .ok (.iconst 0, 1) := by decide +kernel
theorem dX8_aims_3 : decode cX8_aims 3 = .ok (.istore_n 2, 1) := by decide +kernel
theorem dX8_aims_4 : decode cX8_aims 4 = .ok (.iload_n 2, 1) := by decide +kernel
theorem dX8_aims_5 : decode cX8_aims 5 = .ok (.iconst 4, 1) := by decide +kernel
theorem dX8_aims_6 : decode cX8_aims 6 = .ok (.if_icmp .ge 26, 3) := by decide +kernel
theorem dX8_aims_9 : decode cX8_aims 9 = .ok (.iload_n 1, 1) := by decide +kernel
theorem dX8_aims_10 : decode cX8_aims 10 = .ok (.aload_n 0, 1) := by decide +kernel
theorem dX8_aims_11 : decode cX8_aims 11 = .ok (.getfield 35, 3) := by decide +kernel
theorem dX8_aims_14 : decode cX8_aims 14 = .ok (.iload_n 2, 1) := by decide +kernel
theorem dX8_aims_15 : decode cX8_aims 15 = .ok (.baload, 1) := by decide +kernel
theorem dX8_aims_16 : decode cX8_aims 16 = .ok (.ifCond .eq 7, 3) := by decide +kernel
theorem dX8_aims_19 : decode cX8_aims 19 = .ok (.iconst 1, 1) := by decide +kernel
theorem dX8_aims_20 : decode cX8_aims 20 = .ok (.goto 4, 3) := by decide +kernel
theorem dX8_aims_23 : decode cX8_aims 23 = .ok (.iconst 0, 1) := by decide +kernel
theorem dX8_aims_24 : decode cX8_aims 24 = .ok (.iadd, 1) := by decide +kernel
theorem dX8_aims_25 : decode cX8_aims 25 = .ok (.istore_n 1, 1) := by decide +kernel
theorem dX8_aims_26 : decode cX8_aims 26 = .ok (.iinc 2 1, 3) := by decide +kernel
theorem dX8_aims_29 : decode cX8_aims 29 = .ok (.goto (-25), 3) := by decide +kernel
theorem dX8_aims_32 : decode cX8_aims 32 = .ok (.iload_n 1, 1) := by decide +kernel
theorem dX8_aims_33 : decode cX8_aims 33 = .ok (.ireturn, 1) := by decide +kernel
set_option maxRecDepth 20000 in
theorem ggX8_aimless_X8_aims : GoodIn wsX8_aimless wsX8_aims := goodIn_r _ [6, 1, 7, 8, 9, 10, 11, 12, 13, 14, 15, 16, 17, 18, 19, 20, 21, 22, 23, 24, 25, 26] (by decide +kernel) (by decide +kernel)
set_option maxRecDepth 20000 in
theorem gX8_aimless_X8_aims : GoodIn wsX8_aimless (wsV RX8 125 RX8 yX8_aims wsX8_aims) := goodIn_app (goodIn_of _ (by decide +kernel)) ggX8_aimless_X8_aims
theorem dX8_aimless_0 : decode cX8_aimless 0 = .ok (.aload_n 0, 1) := by decide +kernel
theorem dX8_aimless_1 : decode cX8_aimless 1 = .ok (.invokevirtual 125, 3) := by decide +kernel
theorem dX8_aimless_4 : decode cX8_aimless 4 = .ok (.istore_n 1, 1) := by decide +kernel
theorem dX8_aimless_5 : decode cX8_aimless 5 = .ok (.iconst 0, 1) := by decide +kernel
theorem dX8_aimless_6 : decode cX8_aimless 6 = .ok (.istore_n 2, 1) := by decide +kernel
theorem dX8_aimless_7 : decode cX8_aimless 7 = .ok (.iload_n 2, 1) := by decide +kernel
theorem dX8_aimless_8 : decode cX8_aimless 8 = .ok (.iconst 4, 1) := by decide +kernel
theorem dX8_aimless_9 : decode cX8_aimless 9 = .ok (.if_icmp .ge 16, 3) := by decide +kernel
theorem dX8_aimless_12 : decode cX8_aimless 12 = .ok (.aload_n 0, 1) := by decide +kernel
theorem dX8_aimless_13 : decode cX8_aimless 13 = .ok (.getfield 35, 3) := by decide +kernel
theorem dX8_aimless_16 : decode cX8_aimless 16 = .ok (.iload_n 2, 1) := by decide +kernel
theorem dX8_aimless_17 : decode cX8_aimless 17 = .ok (.iconst 0, 1) := by decide +kernel
theorem dX8_aimless_18 : decode cX8_aimless 18 = .ok (.bastore, 1) := by decide +kernel
theorem dX8_aimless_19 : decode cX8_aimless 19 = .ok (.iinc 2 1, 3) := by decide +kernel
theorem dX8_aimless_22 : decode cX8_aimless 22 = .ok (.goto (-15), 3) := by decide +kernel
theorem dX8_aimless_25 : decode cX8_aimless 25 = .ok (.iload_n 1, 1) := by decide +kernel
theorem dX8_aimless_26 : decode cX8_aimless 26 = .ok (.ireturn, 1) := by decide +kernel
set_option maxRecDepth 20000 in
theorem ggX8_fits_X8_lies : GoodIn wsX8_fits wsX8_lies := goodIn_r _ [10, 11, 12, 13, 9, 14, 15, 16, 17, 18, 19, 20, 21, 22, 23, 24, 25, 26, 27, 28, 29, 30, 31, 32, 33, 34, 35, 36, 37, 38, 39, 40, 41] (by decide +kernel) (by decide +kernel)
set_option maxRecDepth 20000 in
theorem gX8_fits_X8_lies : GoodIn wsX8_fits (wsV RX8 110 RX8 yX8_lies wsX8_lies) := goodIn_app (goodIn_of _ (by decide +kernel)) ggX8_fits_X8_lies
theorem dX8_fits_0 : decode cX8_fits 0 = .ok (.iconst 1, 1) := by decide +kernel
theorem dX8_fits_1 : decode cX8_fits 1 = .ok (.istore_n 1, 1) := by decide +kernel
theorem dX8_fits_2 : decode cX8_fits 2 = .ok (.iconst 0, 1) := by decide +kernel
theorem dX8_fits_3 : decode cX8_fits 3 = .ok (.istore_n 2, 1) := by decide +kernel
theorem dX8_fits_4 : decode cX8_fits 4 = .ok (.iload_n 2, 1) := by decide +kernel
theorem dX8_fits_5 : decode cX8_fits 5 = .ok (.aload_n 0, 1) := by decide +kernel
theorem dX8_fits_6 : decode cX8_fits 6 = .ok (.getfield 107, 3) := by decide +kernel
theorem dX8_fits_9 : decode cX8_fits 9 = .ok (.if_icmp .ge 87, 3) := by decide +kernel
theorem dX8_fits_12 : decode cX8_fits 12 = .ok (.iload_n 1, 1) := by decide +kernel
theorem dX8_fits_13 : decode cX8_fits 13 = .ok (.ifCond .eq 83, 3) := by decide +kernel
theorem dX8_fits_16 : decode cX8_fits 16 = .ok (.iconst 0, 1) := by decide +kernel
theorem dX8_fits_17 : decode cX8_fits 17 = .ok (.istore_n 3, 1) := by decide +kernel
theorem dX8_fits_18 : decode cX8_fits 18 = .ok (.iload_n 3, 1) := by decide +kernel
theorem dX8_fits_19 : decode cX8_fits 19 = .ok (.iconst 4, 1) := by decide +kernel
theorem dX8_fits_20 : decode cX8_fits 20 = .ok (.if_icmp .ge 70, 3) := by decide +kernel
theorem dX8_fits_23 : decode cX8_fits 23 = .ok (.iload_n 1, 1) := by decide +kernel
theorem dX8_fits_24 : decode cX8_fits 24 = .ok (.ifCond .eq 66, 3) := by decide +kernel
theorem dX8_fits_27 : decode cX8_fits 27 = .ok (.aload_n 0, 1) := by decide +kernel
theorem dX8_fits_28 : decode cX8_fits 28 = .ok (.getfield 35, 3) := by decide +kernel
theorem dX8_fits_31 : decode cX8_fits 31 = .ok (.iload_n 3, 1) := by decide +kernel
theorem dX8_fits_32 : decode cX8_fits 32 = .ok (.baload, 1) := by decide +kernel
theorem dX8_fits_33 : decode cX8_fits 33 = .ok (.ifCond .eq 45, 3) := by decide +kernel
theorem dX8_fits_36 : decode cX8_fits 36 = .ok (.aload_n 0, 1) := by decide +kernel
theorem dX8_fits_37 : decode cX8_fits 37 = .ok (.iconst 1, 1) := by decide +kernel
theorem dX8_fits_38 : decode cX8_fits 38 = .ok (.aload_n 0, 1) := by decide +kernel
theorem dX8_fits_39 : decode cX8_fits 39 = .ok (.getfield 51, 3) := by decide +kernel
theorem dX8_fits_42 : decode cX8_fits 42 = .ok (.iload_n 2, 1) := by decide +kernel
theorem dX8_fits_43 : decode cX8_fits 43 = .ok (.iaload, 1) := by decide +kernel
theorem dX8_fits_44 : decode cX8_fits 44 = .ok (.bipush 9, 2) := by decide +kernel
theorem dX8_fits_46 : decode cX8_fits 46 = .ok (.idiv, 1) := by decide +kernel
theorem dX8_fits_47 : decode cX8_fits 47 = .ok (.iadd, 1) := by decide +kernel
theorem dX8_fits_48 : decode cX8_fits 48 = .ok (.iconst 1, 1) := by decide +kernel
theorem dX8_fits_49 : decode cX8_fits 49 = .ok (.aload_n 0, 1) := by decide +kernel
theorem dX8_fits_50 : decode cX8_fits 50 = .ok (.getfield 51, 3) := by decide +kernel
theorem dX8_fits_53 : decode cX8_fits 53 = .ok (.iload_n 2, 1) := by decide +kernel
theorem dX8_fits_54 : decode cX8_fits 54 = .ok (.iaload, 1) := by decide +kernel
theorem dX8_fits_55 : decode cX8_fits 55 = .ok (.bipush 9, 2) := by decide +kernel
theorem dX8_fits_57 : decode cX8_fits 57 = .ok (.irem, 1) := by decide +kernel
theorem dX8_fits_58 : decode cX8_fits 58 = .ok (.iadd, 1) := by decide +kernel
theorem dX8_fits_59 : decode cX8_fits 59 = .ok (.iload_n 3, 1) := by decide +kernel
theorem dX8_fits_60 : decode cX8_fits 60 = .ok (.aload_n 0, 1) := by decide +kernel
theorem dX8_fits_61 : decode cX8_fits 61 = .ok (.getfield 39, 3) := by decide +kernel
theorem dX8_fits_64 : decode cX8_fits 64 = .ok (.iload_n 3, 1) := by decide +kernel
theorem dX8_fits_65 : decode cX8_fits 65 = .ok (.iaload, 1) := by decide +kernel
theorem dX8_fits_66 : decode cX8_fits 66 = .ok (.aload_n 0, 1) := by decide +kernel
theorem dX8_fits_67 : decode cX8_fits 67 = .ok (.getfield 42, 3) := by decide +kernel
theorem dX8_fits_70 : decode cX8_fits 70 = .ok (.iload_n 3, 1) := by decide +kernel
theorem dX8_fits_71 : decode cX8_fits 71 = .ok (.iaload, 1) := by decide +kernel
theorem dX8_fits_72 : decode cX8_fits 72 = .ok (.invokevirtual 110, 3) := by decide +kernel
theorem dX8_fits_75 : decode cX8_fits 75 = .ok (.ifCond .eq 7, 3) := by decide +kernel
theorem dX8_fits_78 : decode cX8_fits 78 = .ok (.iconst 1, 1) := by decide +kernel
theorem dX8_fits_79 : decode cX8_fits 79 = .ok (.goto 4, 3) := by decide +kernel
theorem dX8_fits_82 : decode cX8_fits 82 = .ok (.iconst 0, 1) := by decide +kernel
theorem dX8_fits_83 : decode cX8_fits 83 = .ok (.istore_n 1, 1) := by decide +kernel
theorem dX8_fits_84 : decode cX8_fits 84 = .ok (.iinc 3 1, 3) := by decide +kernel
theorem dX8_fits_87 : decode cX8_fits 87 = .ok (.goto (-69), 3) := by decide +kernel
theorem dX8_fits_90 : decode cX8_fits 90 = .ok (.iinc 2 1, 3) := by decide +kernel
theorem dX8_fits_93 : decode cX8_fits 93 = .ok (.goto (-89), 3) := by decide +kernel
theorem dX8_fits_96 : decode cX8_fits 96 = .ok (.iload_n 1, 1) := by decide +kernel
theorem dX8_fits_97 : decode cX8_fits 97 = .ok (.ireturn, 1) := by decide +kernel
theorem dX8_mayBe_0 : decode cX8_mayBe 0 = .ok (.aload_n 0, 1) := by decide +kernel
theorem dX8_mayBe_1 : decode cX8_mayBe 1 = .ok (.getfield 7, 3) := by decide +kernel
theorem dX8_mayBe_4 : decode cX8_mayBe 4 = .ok (.iconst 4, 1) := by decide +kernel
theorem dX8_mayBe_5 : decode cX8_mayBe 5 = .ok (.iload_n 1, 1) := by decide +kernel
theorem dX8_mayBe_6 : decode cX8_mayBe 6 = .ok (.imul, 1) := by decide +kernel
theorem dX8_mayBe_7 : decode cX8_mayBe 7 = .ok (.iload_n 2, 1) := by decide +kernel
theorem dX8_mayBe_8 : decode cX8_mayBe 8 = .ok (.iadd, 1) := by decide +kernel
theorem dX8_mayBe_9 : decode cX8_mayBe 9 = .ok (.iaload, 1) := by decide +kernel
theorem dX8_mayBe_10 : decode cX8_mayBe 10 = .ok (.istore 4, 2) := by decide +kernel
theorem dX8_mayBe_12 : decode cX8_mayBe 12 = .ok (.iload_n 3, 1) := by decide +kernel
theorem dX8_mayBe_13 : decode cX8_mayBe 13 = .ok (.iload 4, 2) := by decide +kernel
theorem dX8_mayBe_15 : decode cX8_mayBe 15 = .ok (.if_icmp .eq 17, 3) := by decide +kernel
theorem dX8_mayBe_18 : decode cX8_mayBe 18 = .ok (.iload_n 3, 1) := by decide +kernel
theorem dX8_mayBe_19 : decode cX8_mayBe 19 = .ok (.iload 4, 2) := by decide +kernel
theorem dX8_mayBe_21 : decode cX8_mayBe 21 = .ok (.if_icmp .ge 15, 3) := by decide +kernel
theorem dX8_mayBe_24 : decode cX8_mayBe 24 = .ok (.iload_n 3, 1) := by decide +kernel
theorem dX8_mayBe_25 : decode cX8_mayBe 25 = .ok (.aload_n 0, 1) := by decide +kernel
theorem dX8_mayBe_26 : decode cX8_mayBe 26 = .ok (.getfield 13, 3) := by decide +kernel
theorem dX8_mayBe_29 : decode cX8_mayBe 29 = .ok (.if_icmp .lt 7, 3) := by decide +kernel
theorem dX8_mayBe_32 : decode cX8_mayBe 32 = .ok (.iconst 1, 1) := by decide +kernel
theorem dX8_mayBe_33 : decode cX8_mayBe 33 = .ok (.goto 4, 3) := by decide +kernel
theorem dX8_mayBe_36 : decode cX8_mayBe 36 = .ok (.iconst 0, 1) := by decide +kernel
theorem dX8_mayBe_37 : decode cX8_mayBe 37 = .ok (.ireturn, 1) := by decide +kernel
set_option maxRecDepth 20000 in
theorem ggX8_findPlan_X8_mayBe : GoodIn wsX8_findPlan wsX8_mayBe := goodIn_r _ [9, 3, 10, 34, 35, 36, 37, 38, 39, 40, 41, 42, 43, 44, 45, 46, 47, 48, 49, 50, 51, 52, 53] (by decide +kernel) (by decide +kernel)
set_option maxRecDepth 20000 in
theorem gX8_findPlan_X8_mayBe : GoodIn wsX8_findPlan (wsV RX8 132 RX8 yX8_mayBe wsX8_mayBe) := goodIn_app (goodIn_of _ (by decide +kernel)) ggX8_findPlan_X8_mayBe
set_option maxRecDepth 20000 in
theorem ggX8_findPlan_X8_fits : GoodIn wsX8_findPlan wsX8_fits := goodIn_r _ [14, 15, 16, 17, 18, 19, 20, 21, 22, 8, 23, 24, 25, 26, 27, 2, 28, 29, 30, 31, 32, 33, 34, 35, 36, 37, 38, 39, 40, 41, 42, 43, 44, 45, 46, 47, 48, 49, 50, 51, 52, 53] (by decide +kernel) (by decide +kernel)
set_option maxRecDepth 20000 in
theorem gX8_findPlan_X8_fits : GoodIn wsX8_findPlan (wsV RX8 135 RX8 yX8_fits wsX8_fits) := goodIn_app (goodIn_of _ (by decide +kernel)) ggX8_findPlan_X8_fits
theorem dX8_findPlan_0 : decode cX8_findPlan 0 = .ok (.aload_n 0, 1) := by decide +kernel
theorem dX8_findPlan_1 : decode cX8_findPlan 1 = .ok (.iconst (-1), 1) := by decide +kernel
theorem dX8_findPlan_2 : decode cX8_findPlan 2 = .ok (.putfield 129, 3) := by decide +kernel
theorem dX8_findPlan_5 : decode cX8_findPlan 5 = .ok (.sipush 6560, 3) := by decide +kernel
theorem dX8_findPlan_8 : decode cX8_findPlan 8 = .ok (.istore_n 2, 1) := by decide +kernel
theorem dX8_findPlan_9 : decode cX8_findPlan 9 = .ok (.iload_n 2, 1) := by decide +kernel
theorem dX8_findPlan_10 : decode cX8_findPlan 10 = .ok (.ifCond .lt 197, 3) := by decide +kernel
theorem dX8_findPlan_13 : decode cX8_findPlan 13 = .ok (.aload_n 0, 1) := by decide +kernel
theorem dX8_findPlan_14 : decode cX8_findPlan 14 = .ok (.getfield 48, 3) := by decide +kernel
theorem dX8_findPlan_17 : decode cX8_findPlan 17 = .ok (.iconst 0, 1) := by decide +kernel
theorem dX8_findPlan_18 : decode cX8_findPlan 18 = .ok (.iconst 1, 1) := by decide +kernel
theorem dX8_findPlan_19 : decode cX8_findPlan 19 = .ok (.iload_n 2, 1) := by decide +kernel
theorem dX8_findPlan_20 : decode cX8_findPlan 20 = .ok (.sipush 729, 3) := by decide +kernel
theorem dX8_findPlan_23 : decode cX8_findPlan 23 = .ok (.idiv, 1) := by decide +kernel
theorem dX8_findPlan_24 : decode cX8_findPlan 24 = .ok (.iadd, 1) := by decide +kernel
theorem dX8_findPlan_25 : decode cX8_findPlan 25 = .ok (.iastore, 1) := by decide +kernel
theorem dX8_findPlan_26 : decode cX8_findPlan 26 = .ok (.aload_n 0, 1) := by decide +kernel
theorem dX8_findPlan_27 : decode cX8_findPlan 27 = .ok (.getfield 48, 3) := by decide +kernel
theorem dX8_findPlan_30 : decode cX8_findPlan 30 = .ok (.iconst 1, 1) := by decide +kernel
theorem dX8_findPlan_31 : decode cX8_findPlan 31 = .ok (.iconst 1, 1) := by decide +kernel
theorem dX8_findPlan_32 : decode cX8_findPlan 32 = .ok (.iload_n 2, 1) := by decide +kernel
theorem dX8_findPlan_33 : decode cX8_findPlan 33 = .ok (.bipush 81, 2) := by decide +kernel
theorem dX8_findPlan_35 : decode cX8_findPlan 35 = .ok (.idiv, 1) := by decide +kernel
theorem dX8_findPlan_36 : decode cX8_findPlan 36 = .ok (.bipush 9, 2) := by decide +kernel
theorem dX8_findPlan_38 : decode cX8_findPlan 38 = .ok (.irem, 1) := by decide +kernel
theorem dX8_findPlan_39 : decode cX8_findPlan 39 = .ok (.iadd, 1) := by decide +kernel
theorem dX8_findPlan_40 : decode cX8_findPlan 40 = .ok (.iastore, 1) := by decide +kernel
theorem dX8_findPlan_41 : decode cX8_findPlan 41 = .ok (.aload_n 0, 1) := by decide +kernel
theorem dX8_findPlan_42 : decode cX8_findPlan 42 = .ok (.getfield 48, 3) := by decide +kernel
theorem dX8_findPlan_45 : decode cX8_findPlan 45 = .ok (.iconst 2, 1) := by decide +kernel
theorem dX8_findPlan_46 : decode cX8_findPlan 46 = .ok (.iconst 1, 1) := by decide +kernel
theorem dX8_findPlan_47 : decode cX8_findPlan 47 = .ok (.iload_n 2, 1) := by decide +kernel
theorem dX8_findPlan_48 : decode cX8_findPlan 48 = .ok (.bipush 9, 2) := by decide +kernel
theorem dX8_findPlan_50 : decode cX8_findPlan 50 = .ok (.idiv, 1) := by decide +kernel
theorem dX8_findPlan_51 : decode cX8_findPlan 51 = .ok (.bipush 9, 2) := by decide +kernel
theorem dX8_findPlan_53 : decode cX8_findPlan 53 = .ok (.irem, 1) := by decide +kernel
theorem dX8_findPlan_54 : decode cX8_findPlan 54 = .ok (.iadd, 1) := by decide +kernel
theorem dX8_findPlan_55 : decode cX8_findPlan 55 = .ok (.iastore, 1) := by decide +kernel
theorem dX8_findPlan_56 : decode cX8_findPlan 56 = .ok (.aload_n 0, 1) := by decide +kernel
theorem dX8_findPlan_57 : decode cX8_findPlan 57 = .ok (.getfield 48, 3) := by decide +kernel
theorem dX8_findPlan_60 : decode cX8_findPlan 60 = .ok (.iconst 3, 1) := by decide +kernel
theorem dX8_findPlan_61 : decode cX8_findPlan 61 = .ok (.iconst 1, 1) := by decide +kernel
theorem dX8_findPlan_62 : decode cX8_findPlan 62 = .ok (.iload_n 2, 1) := by decide +kernel
