theorem dX8_findPlan_63 : decode cX8_findPlan 63 = .ok (.bipush 9, 2) := by decide +kernel
theorem dX8_findPlan_65 : decode cX8_findPlan 65 = .ok (.irem, 1) := by decide +kernel
theorem dX8_findPlan_66 : decode cX8_findPlan 66 = .ok (.iadd, 1) := by decide +kernel
theorem dX8_findPlan_67 : decode cX8_findPlan 67 = .ok (.iastore, 1) := by decide +kernel
theorem dX8_findPlan_68 : decode cX8_findPlan 68 = .ok (.iconst 0, 1) := by decide +kernel
theorem dX8_findPlan_69 : decode cX8_findPlan 69 = .ok (.istore_n 3, 1) := by decide +kernel
theorem dX8_findPlan_70 : decode cX8_findPlan 70 = .ok (.iconst 1, 1) := by decide +kernel
theorem dX8_findPlan_71 : decode cX8_findPlan 71 = .ok (.istore 4, 2) := by decide +kernel
theorem dX8_findPlan_73 : decode cX8_findPlan 73 = .ok (.iconst 0, 1) := by decide +kernel
theorem dX8_findPlan_74 : decode cX8_findPlan 74 = .ok (.istore 5, 2) := by decide +kernel
theorem dX8_findPlan_76 : decode cX8_findPlan 76 = .ok (.iload 5, 2) := by decide +kernel
theorem dX8_findPlan_78 : decode cX8_findPlan 78 = .ok (.iconst 4, 1) := by decide +kernel
theorem dX8_findPlan_79 : decode cX8_findPlan 79 = .ok (.if_icmp .ge 60, 3) := by decide +kernel
theorem dX8_findPlan_82 : decode cX8_findPlan 82 = .ok (.iload 4, 2) := by decide +kernel
theorem dX8_findPlan_84 : decode cX8_findPlan 84 = .ok (.ifCond .eq 24, 3) := by decide +kernel
theorem dX8_findPlan_87 : decode cX8_findPlan 87 = .ok (.aload_n 0, 1) := by decide +kernel
theorem dX8_findPlan_88 : decode cX8_findPlan 88 = .ok (.iload_n 1, 1) := by decide +kernel
theorem dX8_findPlan_89 : decode cX8_findPlan 89 = .ok (.iload 5, 2) := by decide +kernel
theorem dX8_findPlan_91 : decode cX8_findPlan 91 = .ok (.aload_n 0, 1) := by decide +kernel
theorem dX8_findPlan_92 : decode cX8_findPlan 92 = .ok (.getfield 48, 3) := by decide +kernel
theorem dX8_findPlan_95 : decode cX8_findPlan 95 = .ok (.iload 5, 2) := by decide +kernel
theorem dX8_findPlan_97 : decode cX8_findPlan 97 = .ok (.iaload, 1) := by decide +kernel
theorem dX8_findPlan_98 : decode cX8_findPlan 98 = .ok (.invokevirtual 132, 3) := by decide +kernel
theorem dX8_findPlan_101 : decode cX8_findPlan 101 = .ok (.ifCond .eq 7, 3) := by decide +kernel
theorem dX8_findPlan_104 : decode cX8_findPlan 104 = .ok (.iconst 1, 1) := by decide +kernel
theorem dX8_findPlan_105 : decode cX8_findPlan 105 = .ok (.goto 4, 3) := by decide +kernel
theorem dX8_findPlan_108 : decode cX8_findPlan 108 = .ok (.iconst 0, 1) := by decide +kernel
theorem dX8_findPlan_109 : decode cX8_findPlan 109 = .ok (.istore 4, 2) := by decide +kernel
theorem dX8_findPlan_111 : decode cX8_findPlan 111 = .ok (.iload_n 3, 1) := by decide +kernel
theorem dX8_findPlan_112 : decode cX8_findPlan 112 = .ok (.aload_n 0, 1) := by decide +kernel
theorem dX8_findPlan_113 : decode cX8_findPlan 113 = .ok (.getfield 7, 3) := by decide +kernel
theorem dX8_findPlan_116 : decode cX8_findPlan 116 = .ok (.iconst 4, 1) := by decide +kernel
theorem dX8_findPlan_117 : decode cX8_findPlan 117 = .ok (.iload_n 1, 1) := by decide +kernel
theorem dX8_findPlan_118 : decode cX8_findPlan 118 = .ok (.imul, 1) := by decide +kernel
theorem dX8_findPlan_119 : decode cX8_findPlan 119 = .ok (.iload 5, 2) := by decide +kernel
theorem dX8_findPlan_121 : decode cX8_findPlan 121 = .ok (.iadd, 1) := by decide +kernel
theorem dX8_findPlan_122 : decode cX8_findPlan 122 = .ok (.iaload, 1) := by decide +kernel
theorem dX8_findPlan_123 : decode cX8_findPlan 123 = .ok (.aload_n 0, 1) := by decide +kernel
theorem dX8_findPlan_124 : decode cX8_findPlan 124 = .ok (.getfield 48, 3) := by decide +kernel
theorem dX8_findPlan_127 : decode cX8_findPlan 127 = .ok (.iload 5, 2) := by decide +kernel
theorem dX8_findPlan_129 : decode cX8_findPlan 129 = .ok (.iaload, 1) := by decide +kernel
theorem dX8_findPlan_130 : decode cX8_findPlan 130 = .ok (.isub, 1) := by decide +kernel
theorem dX8_findPlan_131 : decode cX8_findPlan 131 = .ok (.iadd, 1) := by decide +kernel
theorem dX8_findPlan_132 : decode cX8_findPlan 132 = .ok (.istore_n 3, 1) := by decide +kernel
theorem dX8_findPlan_133 : decode cX8_findPlan 133 = .ok (.iinc 5 1, 3) := by decide +kernel
theorem dX8_findPlan_136 : decode cX8_findPlan 136 = .ok (.goto (-60), 3) := by decide +kernel
theorem dX8_findPlan_139 : decode cX8_findPlan 139 = .ok (.iload 4, 2) := by decide +kernel
theorem dX8_findPlan_141 : decode cX8_findPlan 141 = .ok (.ifCond .eq 60, 3) := by decide +kernel
theorem dX8_findPlan_144 : decode cX8_findPlan 144 = .ok (.aload_n 0, 1) := by decide +kernel
theorem dX8_findPlan_145 : decode cX8_findPlan 145 = .ok (.getfield 129, 3) := by decide +kernel
theorem dX8_findPlan_148 : decode cX8_findPlan 148 = .ok (.iconst (-1), 1) := by decide +kernel
theorem dX8_findPlan_149 : decode cX8_findPlan 149 = .ok (.if_icmp .eq 11, 3) := by decide +kernel
theorem dX8_findPlan_152 : decode cX8_findPlan 152 = .ok (.iload_n 3, 1) := by decide +kernel
theorem dX8_findPlan_153 : decode cX8_findPlan 153 = .ok (.aload_n 0, 1) := by decide +kernel
theorem dX8_findPlan_154 : decode cX8_findPlan 154 = .ok (.getfield 129, 3) := by decide +kernel
theorem dX8_findPlan_157 : decode cX8_findPlan 157 = .ok (.if_icmp .ge 44, 3) := by decide +kernel
theorem dX8_findPlan_160 : decode cX8_findPlan 160 = .ok (.aload_n 0, 1) := by decide +kernel
theorem dX8_findPlan_161 : decode cX8_findPlan 161 = .ok (.invokevirtual 135, 3) := by decide +kernel
theorem dX8_findPlan_164 : decode cX8_findPlan 164 = .ok (.ifCond .eq 37, 3) := by decide +kernel
theorem dX8_findPlan_167 : decode cX8_findPlan 167 = .ok (.aload_n 0, 1) := by decide +kernel
theorem dX8_findPlan_168 : decode cX8_findPlan 168 = .ok (.iload_n 3, 1) := by decide +kernel
theorem dX8_findPlan_169 : decode cX8_findPlan 169 = .ok (.putfield 129, 3) := by decide +kernel
theorem dX8_findPlan_172 : decode cX8_findPlan 172 = .ok (.iconst 0, 1) := by decide +kernel
theorem dX8_findPlan_173 : decode cX8_findPlan 173 = .ok (.istore 5, 2) := by decide +kernel
theorem dX8_findPlan_175 : decode cX8_findPlan 175 = .ok (.iload 5, 2) := by decide +kernel
theorem dX8_findPlan_177 : decode cX8_findPlan 177 = .ok (.iconst 4, 1) := by decide +kernel
theorem dX8_findPlan_178 : decode cX8_findPlan 178 = .ok (.if_icmp .ge 23, 3) := by decide +kernel
theorem dX8_findPlan_181 : decode cX8_findPlan 181 = .ok (.aload_n 0, 1) := by decide +kernel
theorem dX8_findPlan_182 : decode cX8_findPlan 182 = .ok (.getfield 57, 3) := by decide +kernel
theorem dX8_findPlan_185 : decode cX8_findPlan 185 = .ok (.iload 5, 2) := by decide +kernel
theorem dX8_findPlan_187 : decode cX8_findPlan 187 = .ok (.aload_n 0, 1) := by decide +kernel
theorem dX8_findPlan_188 : decode cX8_findPlan 188 = .ok (.getfield 48, 3) := by decide +kernel
theorem dX8_findPlan_191 : decode cX8_findPlan 191 = .ok (.iload 5, 2) := by decide +kernel
theorem dX8_findPlan_193 : decode cX8_findPlan 193 = .ok (.iaload, 1) := by decide +kernel
theorem dX8_findPlan_194 : decode cX8_findPlan 194 = .ok (.iastore, 1) := by decide +kernel
theorem dX8_findPlan_195 : decode cX8_findPlan 195 = .ok (.iinc 5 1, 3) := by decide +kernel
theorem dX8_findPlan_198 : decode cX8_findPlan 198 = .ok (.goto (-23), 3) := by decide +kernel
theorem dX8_findPlan_201 : decode cX8_findPlan 201 = .ok (.iinc 2 (-1), 3) := by decide +kernel
theorem dX8_findPlan_204 : decode cX8_findPlan 204 = .ok (.goto (-195), 3) := by decide +kernel
theorem dX8_findPlan_207 : decode cX8_findPlan 207 = .ok (.return_, 1) := by decide +kernel
set_option maxRecDepth 20000 in
theorem ggX8_plan_X8_isPlate : GoodIn wsX8_plan wsX8_isPlate := goodIn_r _ [7, 8, 9, 10, 6, 11, 59, 60, 61, 62, 63, 64, 65, 66, 67, 68, 69, 70, 71, 72, 73, 74, 75, 76, 77, 78] (by decide +kernel) (by decide +kernel)
set_option maxRecDepth 20000 in
theorem gX8_plan_X8_isPlate : GoodIn wsX8_plan (wsV RX8 71 RX8 yX8_isPlate wsX8_isPlate) := goodIn_app (goodIn_of _ (by decide +kernel)) ggX8_plan_X8_isPlate
set_option maxRecDepth 20000 in
theorem ggX8_plan_X8_findWoods : GoodIn wsX8_plan wsX8_findWoods := goodIn_r _ [15, 1, 16, 17, 18, 19, 20, 21, 22, 23, 24, 6, 25, 26, 27, 28, 29, 30, 31, 32, 33, 34, 35, 36, 37, 38, 39, 40, 59, 60, 61, 62, 63, 64, 65, 66, 67, 68, 69, 70, 71, 72, 73, 74, 75, 76, 77, 78] (by decide +kernel) (by decide +kernel)
set_option maxRecDepth 20000 in
theorem gX8_plan_X8_findWoods : GoodIn wsX8_plan (wsV RX8 114 RX8 yX8_findWoods wsX8_findWoods) := goodIn_app (goodIn_of _ (by decide +kernel)) ggX8_plan_X8_findWoods
set_option maxRecDepth 20000 in
theorem ggX8_plan_X8_findPlan : GoodIn wsX8_plan wsX8_findPlan := goodIn_r _ [44, 2, 26, 45, 46, 47, 48, 49, 6, 50, 51, 52, 53, 54, 55, 1, 56, 21, 57, 58, 27, 28, 29, 30, 31, 32, 33, 34, 35, 36, 37, 38, 39, 40, 59, 60, 61, 62, 63, 64, 65, 66, 67, 68, 69, 70, 71, 72, 73, 74, 75, 76, 77, 78] (by decide +kernel) (by decide +kernel)
set_option maxRecDepth 20000 in
theorem gX8_plan_X8_findPlan : GoodIn wsX8_plan (wsV RX8 139 RX8 yX8_findPlan wsX8_findPlan) := goodIn_app (goodIn_of _ (by decide +kernel)) ggX8_plan_X8_findPlan
theorem dX8_plan_0 : decode cX8_plan 0 = .ok (.aload_n 0, 1) := by decide +kernel
theorem dX8_plan_1 : decode cX8_plan 1 = .ok (.iload_n 1, 1) := by decide +kernel
theorem dX8_plan_2 : decode cX8_plan 2 = .ok (.invokevirtual 71, 3) := by decide +kernel
theorem dX8_plan_5 : decode cX8_plan 5 = .ok (.ifCond .ne 6, 3) := by decide +kernel
theorem dX8_plan_8 : decode cX8_plan 8 = .ok (.bipush (-2), 2) := by decide +kernel
theorem dX8_plan_10 : decode cX8_plan 10 = .ok (.ireturn, 1) := by decide +kernel
theorem dX8_plan_11 : decode cX8_plan 11 = .ok (.aload_n 0, 1) := by decide +kernel
theorem dX8_plan_12 : decode cX8_plan 12 = .ok (.invokevirtual 114, 3) := by decide +kernel
theorem dX8_plan_15 : decode cX8_plan 15 = .ok (.aload_n 0, 1) := by decide +kernel
theorem dX8_plan_16 : decode cX8_plan 16 = .ok (.getfield 107, 3) := by decide +kernel
theorem dX8_plan_19 : decode cX8_plan 19 = .ok (.ifCond .ne 6, 3) := by decide +kernel
theorem dX8_plan_22 : decode cX8_plan 22 = .ok (.bipush (-3), 2) := by decide +kernel
theorem dX8_plan_24 : decode cX8_plan 24 = .ok (.ireturn, 1) := by decide +kernel
theorem dX8_plan_25 : decode cX8_plan 25 = .ok (.aload_n 0, 1) := by decide +kernel
theorem dX8_plan_26 : decode cX8_plan 26 = .ok (.iload_n 1, 1) := by decide +kernel
theorem dX8_plan_27 : decode cX8_plan 27 = .ok (.invokevirtual 139, 3) := by decide +kernel
theorem dX8_plan_30 : decode cX8_plan 30 = .ok (.aload_n 0, 1) := by decide +kernel
theorem dX8_plan_31 : decode cX8_plan 31 = .ok (.getfield 129, 3) := by decide +kernel
theorem dX8_plan_34 : decode cX8_plan 34 = .ok (.ireturn, 1) := by decide +kernel
set_option maxRecDepth 20000 in
theorem ggX8_planned_X8_isPlate : GoodIn wsX8_planned wsX8_isPlate := goodIn_r _ [9, 10, 11, 12, 8, 13, 59, 60, 61, 62, 63, 64, 65, 66, 67, 68, 69, 70, 71, 72, 73, 74, 75, 76, 77, 78] (by decide +kernel) (by decide +kernel)
set_option maxRecDepth 20000 in
theorem gX8_planned_X8_isPlate : GoodIn wsX8_planned (wsV RX8 71 RX8 yX8_isPlate wsX8_isPlate) := goodIn_app (goodIn_of _ (by decide +kernel)) ggX8_planned_X8_isPlate
set_option maxRecDepth 20000 in
theorem ggX8_planned_X8_findWoods : GoodIn wsX8_planned wsX8_findWoods := goodIn_r _ [17, 1, 18, 19, 20, 21, 22, 23, 24, 25, 26, 8, 27, 28, 29, 30, 31, 32, 33, 34, 35, 36, 37, 38, 39, 40, 41, 42, 59, 60, 61, 62, 63, 64, 65, 66, 67, 68, 69, 70, 71, 72, 73, 74, 75, 76, 77, 78] (by decide +kernel) (by decide +kernel)
set_option maxRecDepth 20000 in
theorem gX8_planned_X8_findWoods : GoodIn wsX8_planned (wsV RX8 114 RX8 yX8_findWoods wsX8_findWoods) := goodIn_app (goodIn_of _ (by decide +kernel)) ggX8_planned_X8_findWoods
set_option maxRecDepth 20000 in
theorem ggX8_planned_X8_findPlan : GoodIn wsX8_planned wsX8_findPlan := goodIn_r _ [46, 2, 28, 3, 4, 47, 48, 49, 8, 50, 51, 52, 53, 54, 55, 1, 56, 23, 57, 58, 29, 30, 31, 32, 33, 34, 35, 36, 37, 38, 39, 40, 41, 42, 59, 60, 61, 62, 63, 64, 65, 66, 67, 68, 69, 70, 71, 72, 73, 74, 75, 76, 77, 78] (by decide +kernel) (by decide +kernel)
set_option maxRecDepth 20000 in
theorem gX8_planned_X8_findPlan : GoodIn wsX8_planned (wsV RX8 139 RX8 yX8_findPlan wsX8_findPlan) := goodIn_app (goodIn_of _ (by decide +kernel)) ggX8_planned_X8_findPlan
theorem dX8_planned_0 : decode cX8_planned 0 = .ok (.aload_n 0, 1) := by decide +kernel
theorem dX8_planned_1 : decode cX8_planned 1 = .ok (.iload_n 1, 1) := by decide +kernel
theorem dX8_planned_2 : decode cX8_planned 2 = .ok (.invokevirtual 71, 3) := by decide +kernel
theorem dX8_planned_5 : decode cX8_planned 5 = .ok (.ifCond .eq 7, 3) := by decide +kernel
theorem dX8_planned_8 : decode cX8_planned 8 = .ok (.iload_n 2, 1) := by decide +kernel
theorem dX8_planned_9 : decode cX8_planned 9 = .ok (.ifCond .ge 6, 3) := by decide +kernel
theorem dX8_planned_12 : decode cX8_planned 12 = .ok (.bipush (-2), 2) := by decide +kernel
theorem dX8_planned_14 : decode cX8_planned 14 = .ok (.ireturn, 1) := by decide +kernel
theorem dX8_planned_15 : decode cX8_planned 15 = .ok (.aload_n 0, 1) := by decide +kernel
theorem dX8_planned_16 : decode cX8_planned 16 = .ok (.invokevirtual 114, 3) := by decide +kernel
theorem dX8_planned_19 : decode cX8_planned 19 = .ok (.aload_n 0, 1) := by decide +kernel
theorem dX8_planned_20 : decode cX8_planned 20 = .ok (.getfield 107, 3) := by decide +kernel
theorem dX8_planned_23 : decode cX8_planned 23 = .ok (.ifCond .ne 6, 3) := by decide +kernel
theorem dX8_planned_26 : decode cX8_planned 26 = .ok (.bipush (-3), 2) := by decide +kernel
theorem dX8_planned_28 : decode cX8_planned 28 = .ok (.ireturn, 1) := by decide +kernel
theorem dX8_planned_29 : decode cX8_planned 29 = .ok (.aload_n 0, 1) := by decide +kernel
theorem dX8_planned_30 : decode cX8_planned 30 = .ok (.iload_n 1, 1) := by decide +kernel
theorem dX8_planned_31 : decode cX8_planned 31 = .ok (.invokevirtual 139, 3) := by decide +kernel
theorem dX8_planned_34 : decode cX8_planned 34 = .ok (.iload_n 2, 1) := by decide +kernel
theorem dX8_planned_35 : decode cX8_planned 35 = .ok (.istore_n 3, 1) := by decide +kernel
theorem dX8_planned_36 : decode cX8_planned 36 = .ok (.iconst 0, 1) := by decide +kernel
theorem dX8_planned_37 : decode cX8_planned 37 = .ok (.istore 4, 2) := by decide +kernel
theorem dX8_planned_39 : decode cX8_planned 39 = .ok (.iload 4, 2) := by decide +kernel
theorem dX8_planned_41 : decode cX8_planned 41 = .ok (.iconst 4, 1) := by decide +kernel
theorem dX8_planned_42 : decode cX8_planned 42 = .ok (.if_icmp .ge 52, 3) := by decide +kernel
theorem dX8_planned_45 : decode cX8_planned 45 = .ok (.aload_n 0, 1) := by decide +kernel
theorem dX8_planned_46 : decode cX8_planned 46 = .ok (.getfield 129, 3) := by decide +kernel
theorem dX8_planned_49 : decode cX8_planned 49 = .ok (.iconst (-1), 1) := by decide +kernel
theorem dX8_planned_50 : decode cX8_planned 50 = .ok (.if_icmp .eq 44, 3) := by decide +kernel
theorem dX8_planned_53 : decode cX8_planned 53 = .ok (.aload_n 0, 1) := by decide +kernel
theorem dX8_planned_54 : decode cX8_planned 54 = .ok (.getfield 7, 3) := by decide +kernel
theorem dX8_planned_57 : decode cX8_planned 57 = .ok (.iconst 4, 1) := by decide +kernel
theorem dX8_planned_58 : decode cX8_planned 58 = .ok (.iload_n 1, 1) := by decide +kernel
theorem dX8_planned_59 : decode cX8_planned 59 = .ok (.imul, 1) := by decide +kernel
theorem dX8_planned_60 : decode cX8_planned 60 = .ok (.iload 4, 2) := by decide +kernel
theorem dX8_planned_62 : decode cX8_planned 62 = .ok (.iadd, 1) := by decide +kernel
theorem dX8_planned_63 : decode cX8_planned 63 = .ok (.iaload, 1) := by decide +kernel
theorem dX8_planned_64 : decode cX8_planned 64 = .ok (.aload_n 0, 1) := by decide +kernel
theorem dX8_planned_65 : decode cX8_planned 65 = .ok (.getfield 57, 3) := by decide +kernel
theorem dX8_planned_68 : decode cX8_planned 68 = .ok (.iload 4, 2) := by decide +kernel
theorem dX8_planned_70 : decode cX8_planned 70 = .ok (.iaload, 1) := by decide +kernel
theorem dX8_planned_71 : decode cX8_planned 71 = .ok (.isub, 1) := by decide +kernel
theorem dX8_planned_72 : decode cX8_planned 72 = .ok (.istore 5, 2) := by decide +kernel
theorem dX8_planned_74 : decode cX8_planned 74 = .ok (.iload_n 3, 1) := by decide +kernel
theorem dX8_planned_75 : decode cX8_planned 75 = .ok (.iload 5, 2) := by decide +kernel
theorem dX8_planned_77 : decode cX8_planned 77 = .ok (.if_icmp .ge 6, 3) := by decide +kernel
theorem dX8_planned_80 : decode cX8_planned 80 = .ok (.iload 4, 2) := by decide +kernel
theorem dX8_planned_82 : decode cX8_planned 82 = .ok (.ireturn, 1) := by decide +kernel
theorem dX8_planned_83 : decode cX8_planned 83 = .ok (.iload_n 3, 1) := by decide +kernel
theorem dX8_planned_84 : decode cX8_planned 84 = .ok (.iload 5, 2) := by decide +kernel
theorem dX8_planned_86 : decode cX8_planned 86 = .ok (.isub, 1) := by decide +kernel
theorem dX8_planned_87 : decode cX8_planned 87 = .ok (.istore_n 3, 1) := by decide +kernel
theorem dX8_planned_88 : decode cX8_planned 88 = .ok (.iinc 4 1, 3) := by decide +kernel
theorem dX8_planned_91 : decode cX8_planned 91 = .ok (.goto (-52), 3) := by decide +kernel
theorem dX8_planned_94 : decode cX8_planned 94 = .ok (.iconst (-1), 1) := by decide +kernel
theorem dX8_planned_95 : decode cX8_planned 95 = .ok (.ireturn, 1) := by decide +kernel
set_option maxRecDepth 20000 in
theorem ggX8_carve_X8_isPlate : GoodIn wsX8_carve wsX8_isPlate := goodIn_r _ [10, 11, 12, 13, 9, 14, 65, 66, 67, 68, 69, 70, 71, 72, 73, 74, 75, 76, 77, 78, 79, 80, 81, 82, 83, 84] (by decide +kernel) (by decide +kernel)
set_option maxRecDepth 20000 in
theorem gX8_carve_X8_isPlate : GoodIn wsX8_carve (wsV RX8 71 RX8 yX8_isPlate wsX8_isPlate) := goodIn_app (goodIn_of _ (by decide +kernel)) ggX8_carve_X8_isPlate
set_option maxRecDepth 20000 in
theorem ggX8_carve_X8_findWoods : GoodIn wsX8_carve wsX8_findWoods := goodIn_r _ [18, 1, 19, 20, 21, 22, 23, 24, 25, 26, 27, 9, 28, 29, 30, 31, 32, 33, 34, 35, 36, 37, 38, 39, 40, 41, 42, 43, 65, 66, 67, 68, 69, 70, 71, 72, 73, 74, 75, 76, 77, 78, 79, 80, 81, 82, 83, 84] (by decide +kernel) (by decide +kernel)
set_option maxRecDepth 20000 in
theorem gX8_carve_X8_findWoods : GoodIn wsX8_carve (wsV RX8 114 RX8 yX8_findWoods wsX8_findWoods) := goodIn_app (goodIn_of _ (by decide +kernel)) ggX8_carve_X8_findWoods
set_option maxRecDepth 20000 in
theorem ggX8_carve_X8_findPlan : GoodIn wsX8_carve wsX8_findPlan := goodIn_r _ [47, 2, 29, 4, 5, 48, 49, 50, 9, 51, 52, 53, 54, 55, 56, 1, 57, 24, 58, 59, 30, 31, 32, 33, 34, 35, 36, 37, 38, 39, 40, 41, 42, 43, 65, 66, 67, 68, 69, 70, 71, 72, 73, 74, 75, 76, 77, 78, 79, 80, 81, 82, 83, 84] (by decide +kernel) (by decide +kernel)
set_option maxRecDepth 20000 in
theorem gX8_carve_X8_findPlan : GoodIn wsX8_carve (wsV RX8 139 RX8 yX8_findPlan wsX8_findPlan) := goodIn_app (goodIn_of _ (by decide +kernel)) ggX8_carve_X8_findPlan
set_option maxRecDepth 20000 in
theorem ggX8_carve_X8_shaveOff : GoodIn wsX8_carve wsX8_shaveOff := goodIn_r _ [63, 4, 64, 3, 65, 66, 67, 68, 69, 70, 71, 72, 73, 74, 75, 76, 77, 78, 79, 80, 81, 82, 83, 84] (by decide +kernel) (by decide +kernel)
set_option maxRecDepth 20000 in
theorem gX8_carve_X8_shaveOff : GoodIn wsX8_carve (wsV RX8 77 RX8 yX8_shaveOff wsX8_shaveOff) := goodIn_app (goodIn_of _ (by decide +kernel)) ggX8_carve_X8_shaveOff
theorem dX8_carve_0 : decode cX8_carve 0 = .ok (.aload_n 0, 1) := by decide +kernel
theorem dX8_carve_1 : decode cX8_carve 1 = .ok (.iload_n 1, 1) := by decide +kernel
theorem dX8_carve_2 : decode cX8_carve 2 = .ok (.invokevirtual 71, 3) := by decide +kernel
theorem dX8_carve_5 : decode cX8_carve 5 = .ok (.ifCond .ne 6, 3) := by decide +kernel
theorem dX8_carve_8 : decode cX8_carve 8 = .ok (.bipush (-2), 2) := by decide +kernel
theorem dX8_carve_10 : decode cX8_carve 10 = .ok (.ireturn, 1) := by decide +kernel
theorem dX8_carve_11 : decode cX8_carve 11 = .ok (.aload_n 0, 1) := by decide +kernel
theorem dX8_carve_12 : decode cX8_carve 12 = .ok (.invokevirtual 114, 3) := by decide +kernel
theorem dX8_carve_15 : decode cX8_carve 15 = .ok (.aload_n 0, 1) := by decide +kernel
theorem dX8_carve_16 : decode cX8_carve 16 = .ok (.getfield 107, 3) := by decide +kernel
theorem dX8_carve_19 : decode cX8_carve 19 = .ok (.ifCond .ne 6, 3) := by decide +kernel
theorem dX8_carve_22 : decode cX8_carve 22 = .ok (.bipush (-3), 2) := by decide +kernel
theorem dX8_carve_24 : decode cX8_carve 24 = .ok (.ireturn, 1) := by decide +kernel
theorem dX8_carve_25 : decode cX8_carve 25 = .ok (.aload_n 0, 1) := by decide +kernel
theorem dX8_carve_26 : decode cX8_carve 26 = .ok (.iload_n 1, 1) := by decide +kernel
theorem dX8_carve_27 : decode cX8_carve 27 = .ok (.invokevirtual 139, 3) := by decide +kernel
theorem dX8_carve_30 : decode cX8_carve 30 = .ok (.aload_n 0, 1) := by decide +kernel
theorem dX8_carve_31 : decode cX8_carve 31 = .ok (.getfield 129, 3) := by decide +kernel
theorem dX8_carve_34 : decode cX8_carve 34 = .ok (.iconst (-1), 1) := by decide +kernel
theorem dX8_carve_35 : decode cX8_carve 35 = .ok (.if_icmp .ne 6, 3) := by decide +kernel
theorem dX8_carve_38 : decode cX8_carve 38 = .ok (.bipush (-3), 2) := by decide +kernel
theorem dX8_carve_40 : decode cX8_carve 40 = .ok (.ireturn, 1) := by decide +kernel
theorem dX8_carve_41 : decode cX8_carve 41 = .ok (.aload_n 0, 1) := by decide +kernel
theorem dX8_carve_42 : decode cX8_carve 42 = .ok (.getfield 17, 3) := by decide +kernel
theorem dX8_carve_45 : decode cX8_carve 45 = .ok (.iload_n 1, 1) := by decide +kernel
theorem dX8_carve_46 : decode cX8_carve 46 = .ok (.iaload, 1) := by decide +kernel
theorem dX8_carve_47 : decode cX8_carve 47 = .ok (.aload_n 0, 1) := by decide +kernel
theorem dX8_carve_48 : decode cX8_carve 48 = .ok (.getfield 129, 3) := by decide +kernel
theorem dX8_carve_51 : decode cX8_carve 51 = .ok (.iadd, 1) := by decide +kernel
theorem dX8_carve_52 : decode cX8_carve 52 = .ok (.bipush 20, 2) := by decide +kernel
theorem dX8_carve_54 : decode cX8_carve 54 = .ok (.if_icmp .le 6, 3) := by decide +kernel
theorem dX8_carve_57 : decode cX8_carve 57 = .ok (.bipush (-4), 2) := by decide +kernel
theorem dX8_carve_59 : decode cX8_carve 59 = .ok (.ireturn, 1) := by decide +kernel
theorem dX8_carve_60 : decode cX8_carve 60 = .ok (.iconst 0, 1) := by decide +kernel
theorem dX8_carve_61 : decode cX8_carve 61 = .ok (.istore_n 2, 1) := by decide +kernel
theorem dX8_carve_62 : decode cX8_carve 62 = .ok (.iload_n 2, 1) := by decide +kernel
theorem dX8_carve_63 : decode cX8_carve 63 = .ok (.iconst 4, 1) := by decide +kernel
theorem dX8_carve_64 : decode cX8_carve 64 = .ok (.if_icmp .ge 37, 3) := by decide +kernel
theorem dX8_carve_67 : decode cX8_carve 67 = .ok (.aload_n 0, 1) := by decide +kernel
theorem dX8_carve_68 : decode cX8_carve 68 = .ok (.getfield 7, 3) := by decide +kernel
theorem dX8_carve_71 : decode cX8_carve 71 = .ok (.iconst 4, 1) := by decide +kernel
theorem dX8_carve_72 : decode cX8_carve 72 = .ok (.iload_n 1, 1) := by decide +kernel
theorem dX8_carve_73 : decode cX8_carve 73 = .ok (.imul, 1) := by decide +kernel
theorem dX8_carve_74 : decode cX8_carve 74 = .ok (.iload_n 2, 1) := by decide +kernel
theorem dX8_carve_75 : decode cX8_carve 75 = .ok (.iadd, 1) := by decide +kernel
theorem dX8_carve_76 : decode cX8_carve 76 = .ok (.iaload, 1) := by decide +kernel
theorem dX8_carve_77 : decode cX8_carve 77 = .ok (.aload_n 0, 1) := by decide +kernel
theorem dX8_carve_78 : decode cX8_carve 78 = .ok (.getfield 57, 3) := by decide +kernel
theorem dX8_carve_81 : decode cX8_carve 81 = .ok (.iload_n 2, 1) := by decide +kernel
theorem dX8_carve_82 : decode cX8_carve 82 = .ok (.iaload, 1) := by decide +kernel
theorem dX8_carve_83 : decode cX8_carve 83 = .ok (.if_icmp .le 12, 3) := by decide +kernel
theorem dX8_carve_86 : decode cX8_carve 86 = .ok (.aload_n 0, 1) := by decide +kernel
theorem dX8_carve_87 : decode cX8_carve 87 = .ok (.iload_n 1, 1) := by decide +kernel
theorem dX8_carve_88 : decode cX8_carve 88 = .ok (.iload_n 2, 1) := by decide +kernel
theorem dX8_carve_89 : decode cX8_carve 89 = .ok (.invokevirtual 77, 3) := by decide +kernel
theorem dX8_carve_92 : decode cX8_carve 92 = .ok (.goto (-25), 3) := by decide +kernel
theorem dX8_carve_95 : decode cX8_carve 95 = .ok (.iinc 2 1, 3) := by decide +kernel
theorem dX8_carve_98 : decode cX8_carve 98 = .ok (.goto (-36), 3) := by decide +kernel
theorem dX8_carve_101 : decode cX8_carve 101 = .ok (.aload_n 0, 1) := by decide +kernel
theorem dX8_carve_102 : decode cX8_carve 102 = .ok (.getfield 129, 3) := by decide +kernel
theorem dX8_carve_105 : decode cX8_carve 105 = .ok (.ireturn, 1) := by decide +kernel
set_option maxRecDepth 20000 in
theorem ggX8_off_X8_in : GoodIn wsX8_off wsX8_in := goodIn_r _ [5] (by decide +kernel) (by decide +kernel)
set_option maxRecDepth 20000 in
theorem gX8_off_X8_in : GoodIn wsX8_off (va_wsS RX8 60 yX8_in wsX8_in) := goodIn_app (goodIn_of _ (by decide +kernel)) ggX8_off_X8_in
theorem dX8_off_0 : decode cX8_off 0 = .ok (.iload_n 1, 1) := by decide +kernel
theorem dX8_off_1 : decode cX8_off 1 = .ok (.iconst 0, 1) := by decide +kernel
theorem dX8_off_2 : decode cX8_off 2 = .ok (.sipush 200, 3) := by decide +kernel
theorem dX8_off_5 : decode cX8_off 5 = .ok (.invokestatic 60, 3) := by decide +kernel
theorem dX8_off_8 : decode cX8_off 8 = .ok (.ifCond .ne 6, 3) := by decide +kernel
theorem dX8_off_11 : decode cX8_off 11 = .ok (.bipush (-2), 2) := by decide +kernel
theorem dX8_off_13 : decode cX8_off 13 = .ok (.ireturn, 1) := by decide +kernel
theorem dX8_off_14 : decode cX8_off 14 = .ok (.aload_n 0, 1) := by decide +kernel
theorem dX8_off_15 : decode cX8_off 15 = .ok (.getfield 45, 3) := by decide +kernel
theorem dX8_off_18 : decode cX8_off 18 = .ok (.istore_n 2, 1) := by decide +kernel
theorem dX8_off_19 : decode cX8_off 19 = .ok (.aload_n 0, 1) := by decide +kernel
theorem dX8_off_20 : decode cX8_off 20 = .ok (.iload_n 1, 1) := by decide +kernel
theorem dX8_off_21 : decode cX8_off 21 = .ok (.putfield 45, 3) := by decide +kernel
theorem dX8_off_24 : decode cX8_off 24 = .ok (.iload_n 2, 1) := by decide +kernel
theorem dX8_off_25 : decode cX8_off 25 = .ok (.ireturn, 1) := by decide +kernel
set_option maxRecDepth 20000 in
theorem ggX8_even_X8_isPlate : GoodIn wsX8_even wsX8_isPlate := goodIn_r _ [8, 9, 10, 11, 7, 12, 50, 51, 52, 53, 54, 55, 56, 57, 58, 59, 60, 61, 62, 63, 64, 65, 66, 67, 68, 69] (by decide +kernel) (by decide +kernel)
set_option maxRecDepth 20000 in
theorem gX8_even_X8_isPlate : GoodIn wsX8_even (wsV RX8 71 RX8 yX8_isPlate wsX8_isPlate) := goodIn_app (goodIn_of _ (by decide +kernel)) ggX8_even_X8_isPlate
set_option maxRecDepth 20000 in
theorem ggX8_even_X8_findWoods : GoodIn wsX8_even wsX8_findWoods := goodIn_r _ [16, 1, 17, 18, 19, 20, 21, 22, 23, 24, 25, 7, 26, 27, 28, 29, 30, 31, 32, 33, 34, 35, 36, 37, 38, 39, 40, 41, 50, 51, 52, 53, 54, 55, 56, 57, 58, 59, 60, 61, 62, 63, 64, 65, 66, 67, 68, 69] (by decide +kernel) (by decide +kernel)
set_option maxRecDepth 20000 in
theorem gX8_even_X8_findWoods : GoodIn wsX8_even (wsV RX8 114 RX8 yX8_findWoods wsX8_findWoods) := goodIn_app (goodIn_of _ (by decide +kernel)) ggX8_even_X8_findWoods
set_option maxRecDepth 20000 in
theorem ggX8_even_X8_take : GoodIn wsX8_even wsX8_take := goodIn_r _ [26, 27, 50, 51, 52, 53, 54, 55, 56, 57, 58, 59, 60, 61, 62, 63, 64, 65, 66, 67, 68, 69] (by decide +kernel) (by decide +kernel)
set_option maxRecDepth 20000 in
theorem gX8_even_X8_take : GoodIn wsX8_even (wsV RX8 97 RX8 yX8_take wsX8_take) := goodIn_app (goodIn_of _ (by decide +kernel)) ggX8_even_X8_take
set_option maxRecDepth 20000 in
theorem ggX8_even_X8_toneBy : GoodIn wsX8_even wsX8_toneBy := goodIn_r _ [45, 22, 46, 47, 48, 7, 49, 32, 33, 34, 35, 27, 36, 37, 38, 39, 40, 41, 50, 51, 52, 53, 54, 55, 56, 57, 58, 59, 60, 61, 62, 63, 64, 65, 66, 67, 68, 69] (by decide +kernel) (by decide +kernel)
set_option maxRecDepth 20000 in
theorem gX8_even_X8_toneBy : GoodIn wsX8_even (wsV RX8 117 RX8 yX8_toneBy wsX8_toneBy) := goodIn_app (goodIn_of _ (by decide +kernel)) ggX8_even_X8_toneBy
set_option maxRecDepth 20000 in
theorem ggX8_even_X8_in : GoodIn wsX8_even wsX8_in := goodIn_r _ [12] (by decide +kernel) (by decide +kernel)
set_option maxRecDepth 20000 in
theorem gX8_even_X8_in : GoodIn wsX8_even (va_wsS RX8 60 yX8_in wsX8_in) := goodIn_app (goodIn_of _ (by decide +kernel)) ggX8_even_X8_in
theorem dX8_even_0 : decode cX8_even 0 = .ok (.aload_n 0, 1) := by decide +kernel
theorem dX8_even_1 : decode cX8_even 1 = .ok (.iload_n 1, 1) := by decide +kernel
theorem dX8_even_2 : decode cX8_even 2 = .ok (.invokevirtual 71, 3) := by decide +kernel
theorem dX8_even_5 : decode cX8_even 5 = .ok (.ifCond .eq 11, 3) := by decide +kernel
theorem dX8_even_8 : decode cX8_even 8 = .ok (.aload_n 0, 1) := by decide +kernel
theorem dX8_even_9 : decode cX8_even 9 = .ok (.iload_n 2, 1) := by decide +kernel
theorem dX8_even_10 : decode cX8_even 10 = .ok (.invokevirtual 71, 3) := by decide +kernel
theorem dX8_even_13 : decode cX8_even 13 = .ok (.ifCond .ne 6, 3) := by decide +kernel
theorem dX8_even_16 : decode cX8_even 16 = .ok (.bipush (-2), 2) := by decide +kernel
theorem dX8_even_18 : decode cX8_even 18 = .ok (.ireturn, 1) := by decide +kernel
theorem dX8_even_19 : decode cX8_even 19 = .ok (.aload_n 0, 1) := by decide +kernel
theorem dX8_even_20 : decode cX8_even 20 = .ok (.invokevirtual 114, 3) := by decide +kernel
theorem dX8_even_23 : decode cX8_even 23 = .ok (.aload_n 0, 1) := by decide +kernel
theorem dX8_even_24 : decode cX8_even 24 = .ok (.getfield 107, 3) := by decide +kernel
theorem dX8_even_27 : decode cX8_even 27 = .ok (.ifCond .ne 6, 3) := by decide +kernel
theorem dX8_even_30 : decode cX8_even 30 = .ok (.bipush (-3), 2) := by decide +kernel
theorem dX8_even_32 : decode cX8_even 32 = .ok (.ireturn, 1) := by decide +kernel
theorem dX8_even_33 : decode cX8_even 33 = .ok (.iconst 1, 1) := by decide +kernel
theorem dX8_even_34 : decode cX8_even 34 = .ok (.istore_n 3, 1) := by decide +kernel
theorem dX8_even_35 : decode cX8_even 35 = .ok (.iconst 0, 1) := by decide +kernel
theorem dX8_even_36 : decode cX8_even 36 = .ok (.istore 4, 2) := by decide +kernel
theorem dX8_even_38 : decode cX8_even 38 = .ok (.iload 4, 2) := by decide +kernel
theorem dX8_even_40 : decode cX8_even 40 = .ok (.aload_n 0, 1) := by decide +kernel
theorem dX8_even_41 : decode cX8_even 41 = .ok (.getfield 107, 3) := by decide +kernel
theorem dX8_even_44 : decode cX8_even 44 = .ok (.if_icmp .ge 75, 3) := by decide +kernel
theorem dX8_even_47 : decode cX8_even 47 = .ok (.aload_n 0, 1) := by decide +kernel
theorem dX8_even_48 : decode cX8_even 48 = .ok (.aload_n 0, 1) := by decide +kernel
theorem dX8_even_49 : decode cX8_even 49 = .ok (.getfield 7, 3) := by decide +kernel
theorem dX8_even_52 : decode cX8_even 52 = .ok (.iload_n 1, 1) := by decide +kernel
theorem dX8_even_53 : decode cX8_even 53 = .ok (.invokevirtual 97, 3) := by decide +kernel
theorem dX8_even_56 : decode cX8_even 56 = .ok (.aload_n 0, 1) := by decide +kernel
theorem dX8_even_57 : decode cX8_even 57 = .ok (.iload 4, 2) := by decide +kernel
theorem dX8_even_59 : decode cX8_even 59 = .ok (.iconst 0, 1) := by decide +kernel
theorem dX8_even_60 : decode cX8_even 60 = .ok (.invokevirtual 117, 3) := by decide +kernel
theorem dX8_even_63 : decode cX8_even 63 = .ok (.istore 5, 2) := by decide +kernel
theorem dX8_even_65 : decode cX8_even 65 = .ok (.aload_n 0, 1) := by decide +kernel
theorem dX8_even_66 : decode cX8_even 66 = .ok (.aload_n 0, 1) := by decide +kernel
theorem dX8_even_67 : decode cX8_even 67 = .ok (.getfield 7, 3) := by decide +kernel
theorem dX8_even_70 : decode cX8_even 70 = .ok (.iload_n 2, 1) := by decide +kernel
theorem dX8_even_71 : decode cX8_even 71 = .ok (.invokevirtual 97, 3) := by decide +kernel
theorem dX8_even_74 : decode cX8_even 74 = .ok (.iload 5, 2) := by decide +kernel
theorem dX8_even_76 : decode cX8_even 76 = .ok (.aload_n 0, 1) := by decide +kernel
theorem dX8_even_77 : decode cX8_even 77 = .ok (.iload 4, 2) := by decide +kernel
theorem dX8_even_79 : decode cX8_even 79 = .ok (.iconst 0, 1) := by decide +kernel
theorem dX8_even_80 : decode cX8_even 80 = .ok (.invokevirtual 117, 3) := by decide +kernel
theorem dX8_even_83 : decode cX8_even 83 = .ok (.isub, 1) := by decide +kernel
theorem dX8_even_84 : decode cX8_even 84 = .ok (.istore 5, 2) := by decide +kernel
theorem dX8_even_86 : decode cX8_even 86 = .ok (.iload_n 3, 1) := by decide +kernel
theorem dX8_even_87 : decode cX8_even 87 = .ok (.ifCond .eq 24, 3) := by decide +kernel
theorem dX8_even_90 : decode cX8_even 90 = .ok (.iload 5, 2) := by decide +kernel
theorem dX8_even_92 : decode cX8_even 92 = .ok (.aload_n 0, 1) := by decide +kernel
theorem dX8_even_93 : decode cX8_even 93 = .ok (.getfield 45, 3) := by decide +kernel
theorem dX8_even_96 : decode cX8_even 96 = .ok (.ineg, 1) := by decide +kernel
theorem dX8_even_97 : decode cX8_even 97 = .ok (.aload_n 0, 1) := by decide +kernel
theorem dX8_even_98 : decode cX8_even 98 = .ok (.getfield 45, 3) := by decide +kernel
theorem dX8_even_101 : decode cX8_even 101 = .ok (.invokestatic 60, 3) := by decide +kernel
theorem dX8_even_104 : decode cX8_even 104 = .ok (.ifCond .eq 7, 3) := by decide +kernel
theorem dX8_even_107 : decode cX8_even 107 = .ok (.iconst 1, 1) := by decide +kernel
theorem dX8_even_108 : decode cX8_even 108 = .ok (.goto 4, 3) := by decide +kernel
theorem dX8_even_111 : decode cX8_even 111 = .ok (.iconst 0, 1) := by decide +kernel
theorem dX8_even_112 : decode cX8_even 112 = .ok (.istore_n 3, 1) := by decide +kernel
theorem dX8_even_113 : decode cX8_even 113 = .ok (.iinc 4 1, 3) := by decide +kernel
theorem dX8_even_116 : decode cX8_even 116 = .ok (.goto (-78), 3) := by decide +kernel
theorem dX8_even_119 : decode cX8_even 119 = .ok (.iload_n 3, 1) := by decide +kernel
theorem dX8_even_120 : decode cX8_even 120 = .ok (.ifCond .eq 7, 3) := by decide +kernel
theorem dX8_even_123 : decode cX8_even 123 = .ok (.iconst 1, 1) := by decide +kernel
theorem dX8_even_124 : decode cX8_even 124 = .ok (.goto 4, 3) := by decide +kernel
theorem dX8_even_127 : decode cX8_even 127 = .ok (.iconst 0, 1) := by decide +kernel
theorem dX8_even_128 : decode cX8_even 128 = .ok (.ireturn, 1) := by decide +kernel
set_option maxRecDepth 20000 in
theorem ggX8_count_X8_aims : GoodIn wsX8_count wsX8_aims := goodIn_r _ [8, 9, 10, 11, 12, 13, 14, 15, 16, 17, 18, 19, 20, 21, 22, 23, 24, 25, 26, 27, 28, 29] (by decide +kernel) (by decide +kernel)
set_option maxRecDepth 20000 in
theorem gX8_count_X8_aims : GoodIn wsX8_count (wsV RX8 125 RX8 yX8_aims wsX8_aims) := goodIn_app (goodIn_of _ (by decide +kernel)) ggX8_count_X8_aims
theorem dX8_count_0 : decode cX8_count 0 = .ok (.iconst 0, 1) := by decide +kernel
theorem dX8_count_1 : decode cX8_count 1 = .ok (.istore_n 2, 1) := by decide +kernel
theorem dX8_count_2 : decode cX8_count 2 = .ok (.iload_n 1, 1) := by decide +kernel
theorem dX8_count_3 : decode cX8_count 3 = .ok (.tableswitch 71 0 3 #[29, 34, 39, 44], 29) := by decide +kernel
theorem dX8_count_32 : decode cX8_count 32 = .ok (.aload_n 0, 1) := by decide +kernel
theorem dX8_count_33 : decode cX8_count 33 = .ok (.getfield 64, 3) := by decide +kernel
theorem dX8_count_36 : decode cX8_count 36 = .ok (.ireturn, 1) := by decide +kernel
theorem dX8_count_37 : decode cX8_count 37 = .ok (.aload_n 0, 1) := by decide +kernel
theorem dX8_count_38 : decode cX8_count 38 = .ok (.getfield 104, 3) := by decide +kernel
theorem dX8_count_41 : decode cX8_count 41 = .ok (.ireturn, 1) := by decide +kernel
theorem dX8_count_42 : decode cX8_count 42 = .ok (.aload_n 0, 1) := by decide +kernel
theorem dX8_count_43 : decode cX8_count 43 = .ok (.invokevirtual 125, 3) := by decide +kernel
theorem dX8_count_46 : decode cX8_count 46 = .ok (.ireturn, 1) := by decide +kernel
theorem dX8_count_47 : decode cX8_count 47 = .ok (.iconst 0, 1) := by decide +kernel
theorem dX8_count_48 : decode cX8_count 48 = .ok (.istore_n 3, 1) := by decide +kernel
theorem dX8_count_49 : decode cX8_count 49 = .ok (.iload_n 3, 1) := by decide +kernel
theorem dX8_count_50 : decode cX8_count 50 = .ok (.aload_n 0, 1) := by decide +kernel
theorem dX8_count_51 : decode cX8_count 51 = .ok (.getfield 64, 3) := by decide +kernel
theorem dX8_count_54 : decode cX8_count 54 = .ok (.if_icmp .ge 18, 3) := by decide +kernel
theorem dX8_count_57 : decode cX8_count 57 = .ok (.iload_n 2, 1) := by decide +kernel
theorem dX8_count_58 : decode cX8_count 58 = .ok (.aload_n 0, 1) := by decide +kernel
theorem dX8_count_59 : decode cX8_count 59 = .ok (.getfield 17, 3) := by decide +kernel
theorem dX8_count_62 : decode cX8_count 62 = .ok (.iload_n 3, 1) := by decide +kernel
theorem dX8_count_63 : decode cX8_count 63 = .ok (.iaload, 1) := by decide +kernel
theorem dX8_count_64 : decode cX8_count 64 = .ok (.iadd, 1) := by decide +kernel
theorem dX8_count_65 : decode cX8_count 65 = .ok (.istore_n 2, 1) := by decide +kernel
theorem dX8_count_66 : decode cX8_count 66 = .ok (.iinc 3 1, 3) := by decide +kernel
theorem dX8_count_69 : decode cX8_count 69 = .ok (.goto (-20), 3) := by decide +kernel
theorem dX8_count_72 : decode cX8_count 72 = .ok (.iload_n 2, 1) := by decide +kernel
theorem dX8_count_73 : decode cX8_count 73 = .ok (.ireturn, 1) := by decide +kernel
theorem dX8_count_74 : decode cX8_count 74 = .ok (.bipush (-2), 2) := by decide +kernel
theorem dX8_count_76 : decode cX8_count 76 = .ok (.ireturn, 1) := by decide +kernel
theorem dJ9_abs_0f7a4_0 : decode cJ9_abs_0f7a4 0 = .ok (.iload_n 0, 1) := by decide +kernel
theorem dJ9_abs_0f7a4_1 : decode cJ9_abs_0f7a4 1 = .ok (.ifCond .ge 8, 3) := by decide +kernel
theorem dJ9_abs_0f7a4_4 : decode cJ9_abs_0f7a4 4 = .ok (.iload_n 0, 1) := by decide +kernel
theorem dJ9_abs_0f7a4_5 : decode cJ9_abs_0f7a4 5 = .ok (.ineg, 1) := by decide +kernel
theorem dJ9_abs_0f7a4_6 : decode cJ9_abs_0f7a4 6 = .ok (.goto 4, 3) := by decide +kernel
theorem dJ9_abs_0f7a4_9 : decode cJ9_abs_0f7a4 9 = .ok (.iload_n 0, 1) := by decide +kernel
theorem dJ9_abs_0f7a4_10 : decode cJ9_abs_0f7a4 10 = .ok (.ireturn, 1) := by decide +kernel
theorem dJ9_max_7cf53_0 : decode cJ9_max_7cf53 0 = .ok (.iload_n 0, 1) := by decide +kernel
theorem dJ9_max_7cf53_1 : decode cJ9_max_7cf53 1 = .ok (.iload_n 1, 1) := by decide +kernel
theorem dJ9_max_7cf53_2 : decode cJ9_max_7cf53 2 = .ok (.if_icmp .lt 7, 3) := by decide +kernel
theorem dJ9_max_7cf53_5 : decode cJ9_max_7cf53 5 = .ok (.iload_n 0, 1) := by decide +kernel
theorem dJ9_max_7cf53_6 : decode cJ9_max_7cf53 6 = .ok (.goto 4, 3) := by decide +kernel
theorem dJ9_max_7cf53_9 : decode cJ9_max_7cf53 9 = .ok (.iload_n 1, 1) := by decide +kernel
theorem dJ9_max_7cf53_10 : decode cJ9_max_7cf53 10 = .ok (.ireturn, 1) := by decide +kernel
theorem dJ9_min_7cf53_0 : decode cJ9_min_7cf53 0 = .ok (.iload_n 0, 1) := by decide +kernel
theorem dJ9_min_7cf53_1 : decode cJ9_min_7cf53 1 = .ok (.iload_n 1, 1) := by decide +kernel
theorem dJ9_min_7cf53_2 : decode cJ9_min_7cf53 2 = .ok (.if_icmp .gt 7, 3) := by decide +kernel
theorem dJ9_min_7cf53_5 : decode cJ9_min_7cf53 5 = .ok (.iload_n 0, 1) := by decide +kernel
theorem dJ9_min_7cf53_6 : decode cJ9_min_7cf53 6 = .ok (.goto 4, 3) := by decide +kernel
theorem dJ9_min_7cf53_9 : decode cJ9_min_7cf53 9 = .ok (.iload_n 1, 1) := by decide +kernel
theorem dJ9_min_7cf53_10 : decode cJ9_min_7cf53 10 = .ok (.ireturn, 1) := by decide +kernel
theorem dJ7_fill_53178_0 : decode cJ7_fill_53178 0 = .ok (.iconst 0, 1) := by decide +kernel
theorem dJ7_fill_53178_1 : decode cJ7_fill_53178 1 = .ok (.istore_n 2, 1) := by decide +kernel
theorem dJ7_fill_53178_2 : decode cJ7_fill_53178 2 = .ok (.aload_n 0, 1) := by decide +kernel
theorem dJ7_fill_53178_3 : decode cJ7_fill_53178 3 = .ok (.arraylength, 1) := by decide +kernel
theorem dJ7_fill_53178_4 : decode cJ7_fill_53178 4 = .ok (.istore_n 3, 1) := by decide +kernel
theorem dJ7_fill_53178_5 : decode cJ7_fill_53178 5 = .ok (.iload_n 2, 1) := by decide +kernel
theorem dJ7_fill_53178_6 : decode cJ7_fill_53178 6 = .ok (.iload_n 3, 1) := by decide +kernel
theorem dJ7_fill_53178_7 : decode cJ7_fill_53178 7 = .ok (.if_icmp .ge 13, 3) := by decide +kernel
theorem dJ7_fill_53178_10 : decode cJ7_fill_53178 10 = .ok (.aload_n 0, 1) := by decide +kernel
theorem dJ7_fill_53178_11 : decode cJ7_fill_53178 11 = .ok (.iload_n 2, 1) := by decide +kernel
theorem dJ7_fill_53178_12 : decode cJ7_fill_53178 12 = .ok (.iload_n 1, 1) := by decide +kernel
theorem dJ7_fill_53178_13 : decode cJ7_fill_53178 13 = .ok (.iastore, 1) := by decide +kernel
theorem dJ7_fill_53178_14 : decode cJ7_fill_53178 14 = .ok (.iinc 2 1, 3) := by decide +kernel
theorem dJ7_fill_53178_17 : decode cJ7_fill_53178 17 = .ok (.goto (-12), 3) := by decide +kernel
theorem dJ7_fill_53178_20 : decode cJ7_fill_53178 20 = .ok (.return_, 1) := by decide +kernel
set_option maxRecDepth 20000 in
theorem ggL_law_X7_init : GoodIn wsL_law wsX7_init := goodIn_r _ [8, 9, 10, 11, 12, 13, 14, 15, 16, 17, 18, 19, 20, 21, 22, 23, 24, 25, 26, 27, 28, 29, 30, 31, 32, 33, 34, 35, 36, 37, 38, 39, 40, 41, 42, 43, 44, 45, 46, 47, 48, 49, 50, 51, 52, 53, 54, 55, 56, 57, 58, 59, 60, 61, 62, 63, 64, 65, 66, 67, 68, 69, 70, 71, 72, 73, 74, 75, 76, 77, 78, 79, 80, 81, 82, 83, 84, 85, 86, 87, 88, 89, 90, 91, 92, 93, 94, 95, 96, 97, 98, 99, 100, 101, 102, 103, 104, 105, 106, 557, 558, 559, 560, 561, 562, 563, 564, 565, 566, 587, 588, 589, 590, 591, 592, 593, 594, 595, 596, 597, 598, 599, 600, 601, 602, 603, 604, 605, 606, 607, 608] (by decide +kernel) (by decide +kernel)
set_option maxRecDepth 20000 in
theorem gL_law_X7_init : GoodIn wsL_law (wsX7_init) := ggL_law_X7_init
set_option maxRecDepth 20000 in
theorem ggL_law_X8_init : GoodIn wsL_law wsX8_init := goodIn_r _ [109, 110, 10, 11, 30, 111, 112, 113, 114, 115, 116, 117, 118, 85, 119, 120, 121, 122, 123, 124, 125, 126, 567, 568, 569, 570, 571, 572, 573, 574, 575, 576, 577, 578, 579, 580, 581, 582, 583, 584, 585, 586] (by decide +kernel) (by decide +kernel)
set_option maxRecDepth 20000 in
theorem gL_law_X8_init : GoodIn wsL_law (wsX8_init) := ggL_law_X8_init
set_option maxRecDepth 20000 in
theorem ggL_law_X7_plate : GoodIn wsL_law wsX7_plate := goodIn_r _ [130, 33, 13, 131, 132, 2, 133, 134, 135, 136, 37, 137, 104, 557, 558, 559, 560, 561, 562, 563, 564, 565, 566, 603, 604, 605] (by decide +kernel) (by decide +kernel)
set_option maxRecDepth 20000 in
theorem gL_law_X7_plate : GoodIn wsL_law (wsV RL 13 RX7 yX7_plate wsX7_plate) := goodIn_app (goodIn_of _ (by decide +kernel)) ggL_law_X7_plate
set_option maxRecDepth 20000 in
theorem ggL_law_X8_plate : GoodIn wsL_law wsX8_plate := goodIn_r _ [141, 142, 111, 143, 144, 5, 145, 146, 147, 148, 567, 568, 569, 570, 571, 572, 573, 574, 575, 576, 577, 578, 579, 580, 581, 582, 583, 584, 585, 586] (by decide +kernel) (by decide +kernel)
set_option maxRecDepth 20000 in
theorem gL_law_X8_plate : GoodIn wsL_law (wsV RL 17 RX8 yX8_plate wsX8_plate) := goodIn_app (goodIn_of _ (by decide +kernel)) ggL_law_X8_plate
set_option maxRecDepth 20000 in
theorem ggL_law_X7_thick : GoodIn wsL_law wsX7_thick := goodIn_r _ [152, 13, 153, 154, 155, 156, 2, 157, 33, 158, 159, 160, 557, 558, 559, 560, 561, 562, 563, 564, 565, 566, 603, 604, 605] (by decide +kernel) (by decide +kernel)
set_option maxRecDepth 20000 in
theorem gL_law_X7_thick : GoodIn wsL_law (wsV RL 18 RX7 yX7_thick wsX7_thick) := goodIn_app (goodIn_of _ (by decide +kernel)) ggL_law_X7_thick
set_option maxRecDepth 20000 in
theorem ggL_law_X8_thick : GoodIn wsL_law wsX8_thick := goodIn_r _ [164, 111, 165, 166, 167, 5, 168, 142, 146, 147, 148, 169, 170, 171, 567, 568, 569, 570, 571, 572, 573, 574, 575, 576, 577, 578, 579, 580, 581, 582, 583, 584, 585, 586] (by decide +kernel) (by decide +kernel)
set_option maxRecDepth 20000 in
theorem gL_law_X8_thick : GoodIn wsL_law (wsV RL 22 RX8 yX8_thick wsX8_thick) := goodIn_app (goodIn_of _ (by decide +kernel)) ggL_law_X8_thick
set_option maxRecDepth 20000 in
theorem ggL_law_X7_least : GoodIn wsL_law wsX7_least := goodIn_r _ [175, 34, 25, 131, 132, 2, 133, 176, 177, 178, 24, 179, 96, 557, 558, 559, 560, 561, 562, 563, 564, 565, 566, 597, 598, 599, 600, 601] (by decide +kernel) (by decide +kernel)
set_option maxRecDepth 20000 in
theorem gL_law_X7_least : GoodIn wsL_law (wsV RL 23 RX7 yX7_least wsX7_least) := goodIn_app (goodIn_of _ (by decide +kernel)) ggL_law_X7_least
set_option maxRecDepth 20000 in
theorem ggL_law_X8_least : GoodIn wsL_law wsX8_least := goodIn_r _ [183, 112, 143, 144, 5, 145, 146, 147, 148, 567, 568, 569, 570, 571, 572, 573, 574, 575, 576, 577, 578, 579, 580, 581, 582, 583, 584, 585, 586] (by decide +kernel) (by decide +kernel)
set_option maxRecDepth 20000 in
theorem gL_law_X8_least : GoodIn wsL_law (wsV RL 27 RX8 yX8_least wsX8_least) := goodIn_app (goodIn_of _ (by decide +kernel)) ggL_law_X8_least
set_option maxRecDepth 20000 in
theorem ggL_law_X7_shave : GoodIn wsL_law wsX7_shave := goodIn_r _ [187, 13, 153, 34, 188, 25, 154, 155, 156, 2, 157, 33, 158, 159, 160, 189, 190, 191, 37, 192, 106, 104, 105, 176, 177, 178, 24, 179, 96, 557, 558, 559, 560, 561, 562, 563, 564, 565, 566, 603, 604, 605, 597, 598, 599, 600, 601] (by decide +kernel) (by decide +kernel)
set_option maxRecDepth 20000 in
theorem gL_law_X7_shave : GoodIn wsL_law (wsV RL 28 RX7 yX7_shave wsX7_shave) := goodIn_app (goodIn_of _ (by decide +kernel)) ggL_law_X7_shave
set_option maxRecDepth 20000 in
theorem ggL_law_X8_shave : GoodIn wsL_law wsX8_shave := goodIn_r _ [196, 111, 112, 113, 165, 166, 167, 5, 168, 142, 146, 147, 148, 169, 170, 171, 197, 198, 199, 200, 114, 567, 568, 569, 570, 571, 572, 573, 574, 575, 576, 577, 578, 579, 580, 581, 582, 583, 584, 585, 586] (by decide +kernel) (by decide +kernel)
set_option maxRecDepth 20000 in
theorem gL_law_X8_shave : GoodIn wsL_law (wsV RL 31 RX8 yX8_shave wsX8_shave) := goodIn_app (goodIn_of _ (by decide +kernel)) ggL_law_X8_shave
set_option maxRecDepth 20000 in
theorem ggL_law_X7_undo : GoodIn wsL_law wsX7_undo := goodIn_r _ [204, 13, 188, 25, 154, 155, 156, 2, 157, 33, 176, 177, 178, 24, 179, 96, 205, 206, 207, 37, 208, 106, 105, 104, 557, 558, 559, 560, 561, 562, 563, 564, 565, 566, 603, 604, 605, 597, 598, 599, 600, 601] (by decide +kernel) (by decide +kernel)
set_option maxRecDepth 20000 in
theorem gL_law_X7_undo : GoodIn wsL_law (wsV RL 32 RX7 yX7_undo wsX7_undo) := goodIn_app (goodIn_of _ (by decide +kernel)) ggL_law_X7_undo
set_option maxRecDepth 20000 in
theorem ggL_law_X8_undo : GoodIn wsL_law wsX8_undo := goodIn_r _ [212, 113, 114, 111, 165, 166, 167, 5, 168, 142, 146, 147, 148, 567, 568, 569, 570, 571, 572, 573, 574, 575, 576, 577, 578, 579, 580, 581, 582, 583, 584, 585, 586] (by decide +kernel) (by decide +kernel)
set_option maxRecDepth 20000 in
theorem gL_law_X8_undo : GoodIn wsL_law (wsV RL 35 RX8 yX8_undo wsX8_undo) := goodIn_app (goodIn_of _ (by decide +kernel)) ggL_law_X8_undo
set_option maxRecDepth 20000 in
theorem ggL_law_X7_mirror : GoodIn wsL_law wsX7_mirror := goodIn_r _ [216, 13, 25, 154, 155, 156, 2, 157, 33, 217, 218, 219, 37, 220, 104, 106, 221, 135, 136, 137, 176, 177, 178, 24, 179, 96, 557, 558, 559, 560, 561, 562, 563, 564, 565, 566, 603, 604, 605, 597, 598, 599, 600, 601] (by decide +kernel) (by decide +kernel)
set_option maxRecDepth 20000 in
theorem gL_law_X7_mirror : GoodIn wsL_law (wsV RL 36 RX7 yX7_mirror wsX7_mirror) := goodIn_app (goodIn_of _ (by decide +kernel)) ggL_law_X7_mirror
set_option maxRecDepth 20000 in
theorem ggL_law_X8_mirror : GoodIn wsL_law wsX8_mirror := goodIn_r _ [225, 111, 113, 165, 166, 167, 5, 168, 142, 146, 147, 148, 567, 568, 569, 570, 571, 572, 573, 574, 575, 576, 577, 578, 579, 580, 581, 582, 583, 584, 585, 586] (by decide +kernel) (by decide +kernel)
set_option maxRecDepth 20000 in
theorem gL_law_X8_mirror : GoodIn wsL_law (wsV RL 39 RX8 yX8_mirror wsX8_mirror) := goodIn_app (goodIn_of _ (by decide +kernel)) ggL_law_X8_mirror
set_option maxRecDepth 20000 in
theorem ggL_law_X7_tone : GoodIn wsL_law wsX7_tone := goodIn_r _ [229, 13, 153, 154, 155, 156, 2, 157, 33, 230, 231, 232, 233, 234, 235, 236, 237, 72, 238, 239, 240, 241, 242, 243, 244, 245, 71, 73, 557, 558, 559, 560, 561, 562, 563, 564, 565, 566, 603, 604, 605] (by decide +kernel) (by decide +kernel)
set_option maxRecDepth 20000 in
theorem gL_law_X7_tone : GoodIn wsL_law (wsV RL 40 RX7 yX7_tone wsX7_tone) := goodIn_app (goodIn_of _ (by decide +kernel)) ggL_law_X7_tone
set_option maxRecDepth 20000 in
theorem ggL_law_X8_tone : GoodIn wsL_law wsX8_tone := goodIn_r _ [249, 111, 165, 166, 167, 5, 168, 142, 146, 147, 148, 250, 251, 252, 143, 144, 145, 169, 170, 171, 253, 254, 255, 256, 123, 257, 258, 259, 260, 261, 262, 263, 264, 265, 266, 267, 268, 269, 270, 567, 568, 569, 570, 571, 572, 573, 574, 575, 576, 577, 578, 579, 580, 581, 582, 583, 584, 585, 586] (by decide +kernel) (by decide +kernel)
set_option maxRecDepth 20000 in
theorem gL_law_X8_tone : GoodIn wsL_law (wsV RL 43 RX8 yX8_tone wsX8_tone) := goodIn_app (goodIn_of _ (by decide +kernel)) ggL_law_X8_tone
set_option maxRecDepth 20000 in
theorem ggL_law_X7_below : GoodIn wsL_law wsX7_below := goodIn_r _ [274, 13, 153, 154, 155, 156, 2, 157, 33, 230, 231, 232, 275, 276, 277, 278, 240, 72, 241, 242, 243, 244, 557, 558, 559, 560, 561, 562, 563, 564, 565, 566, 603, 604, 605] (by decide +kernel) (by decide +kernel)
set_option maxRecDepth 20000 in
theorem gL_law_X7_below : GoodIn wsL_law (wsV RL 44 RX7 yX7_below wsX7_below) := goodIn_app (goodIn_of _ (by decide +kernel)) ggL_law_X7_below
set_option maxRecDepth 20000 in
theorem ggL_law_X8_below : GoodIn wsL_law wsX8_below := goodIn_r _ [282, 111, 165, 166, 167, 5, 168, 142, 146, 147, 148, 250, 251, 252, 143, 144, 145, 253, 254, 255, 256, 123, 261, 262, 263, 264, 265, 266, 267, 268, 269, 270, 567, 568, 569, 570, 571, 572, 573, 574, 575, 576, 577, 578, 579, 580, 581, 582, 583, 584, 585, 586] (by decide +kernel) (by decide +kernel)
set_option maxRecDepth 20000 in
theorem gL_law_X8_below : GoodIn wsL_law (wsV RL 47 RX8 yX8_below wsX8_below) := goodIn_app (goodIn_of _ (by decide +kernel)) ggL_law_X8_below
set_option maxRecDepth 20000 in
theorem ggL_law_X7_bond : GoodIn wsL_law wsX7_bond := goodIn_r _ [286, 13, 153, 154, 155, 156, 2, 157, 33, 287, 243, 72, 244, 557, 558, 559, 560, 561, 562, 563, 564, 565, 566, 603, 604, 605] (by decide +kernel) (by decide +kernel)
set_option maxRecDepth 20000 in
theorem gL_law_X7_bond : GoodIn wsL_law (wsV RL 48 RX7 yX7_bond wsX7_bond) := goodIn_app (goodIn_of _ (by decide +kernel)) ggL_law_X7_bond
set_option maxRecDepth 20000 in
theorem ggL_law_X8_bond : GoodIn wsL_law wsX8_bond := goodIn_r _ [291, 111, 165, 166, 167, 5, 168, 142, 146, 147, 148, 143, 144, 145, 253, 254, 255, 256, 123, 265, 266, 267, 268, 269, 270, 567, 568, 569, 570, 571, 572, 573, 574, 575, 576, 577, 578, 579, 580, 581, 582, 583, 584, 585, 586] (by decide +kernel) (by decide +kernel)
set_option maxRecDepth 20000 in
theorem gL_law_X8_bond : GoodIn wsL_law (wsV RL 52 RX8 yX8_bond wsX8_bond) := goodIn_app (goodIn_of _ (by decide +kernel)) ggL_law_X8_bond
set_option maxRecDepth 20000 in
theorem ggL_law_X7_tap : GoodIn wsL_law wsX7_tap := goodIn_r _ [295, 17, 296, 13, 153, 25, 154, 155, 156, 2, 157, 33, 233, 234, 235, 297, 298, 299, 275, 276, 277, 300, 301, 302, 16, 303, 44, 43, 304, 305, 306, 307, 308, 72, 309, 310, 237, 238, 239, 240, 241, 242, 243, 244, 58, 59, 60, 61, 47, 48, 49, 62, 63, 64, 65, 66, 67, 68, 51, 69, 55, 56, 57, 70, 71, 73, 74, 75, 76, 77, 45, 46, 78, 79, 80, 81, 176, 177, 178, 24, 179, 96, 557, 558, 559, 560, 561, 562, 563, 564, 565, 566, 587, 588, 589, 590, 591, 592, 593, 603, 604, 605, 606, 607, 608, 597, 598, 599, 600, 601] (by decide +kernel) (by decide +kernel)
set_option maxRecDepth 20000 in
theorem gL_law_X7_tap : GoodIn wsL_law (wsV RL 53 RX7 yX7_tap wsX7_tap) := goodIn_app (goodIn_of _ (by decide +kernel)) ggL_law_X7_tap
set_option maxRecDepth 20000 in
theorem ggL_law_X8_tap : GoodIn wsL_law wsX8_tap := goodIn_r _ [314, 315, 115, 111, 116, 117, 118, 165, 166, 167, 5, 168, 142, 146, 147, 148, 169, 170, 171, 567, 568, 569, 570, 571, 572, 573, 574, 575, 576, 577, 578, 579, 580, 581, 582, 583, 584, 585, 586] (by decide +kernel) (by decide +kernel)
set_option maxRecDepth 20000 in
theorem gL_law_X8_tap : GoodIn wsL_law (wsV RL 56 RX8 yX8_tap wsX8_tap) := goodIn_app (goodIn_of _ (by decide +kernel)) ggL_law_X8_tap
set_option maxRecDepth 20000 in
theorem ggL_law_X7_untap : GoodIn wsL_law wsX7_untap := goodIn_r _ [319, 17, 296, 25, 320, 321, 322, 16, 323, 44, 43, 58, 59, 60, 61, 47, 48, 49, 62, 63, 64, 65, 66, 67, 68, 51, 69, 55, 56, 57, 70, 71, 72, 73, 74, 75, 76, 77, 45, 46, 78, 79, 80, 81, 176, 177, 178, 24, 179, 96, 557, 558, 559, 560, 561, 562, 563, 564, 565, 566, 587, 588, 589, 590, 591, 592, 593, 606, 607, 608, 597, 598, 599, 600, 601] (by decide +kernel) (by decide +kernel)
set_option maxRecDepth 20000 in
theorem gL_law_X7_untap : GoodIn wsL_law (wsV RL 57 RX7 yX7_untap wsX7_untap) := goodIn_app (goodIn_of _ (by decide +kernel)) ggL_law_X7_untap
set_option maxRecDepth 20000 in
theorem ggL_law_X8_untap : GoodIn wsL_law wsX8_untap := goodIn_r _ [327, 315, 115, 116, 117, 118, 146, 147, 5, 148, 567, 568, 569, 570, 571, 572, 573, 574, 575, 576, 577, 578, 579, 580, 581, 582, 583, 584, 585, 586] (by decide +kernel) (by decide +kernel)
set_option maxRecDepth 20000 in
theorem gL_law_X8_untap : GoodIn wsL_law (wsV RL 60 RX8 yX8_untap wsX8_untap) := goodIn_app (goodIn_of _ (by decide +kernel)) ggL_law_X8_untap
set_option maxRecDepth 20000 in
theorem ggL_law_X7_woods : GoodIn wsL_law wsX7_woods := goodIn_r _ [331, 17, 332, 557, 558, 559, 560, 561, 562, 563, 564, 565, 566, 587, 588, 589, 590, 591, 592, 593] (by decide +kernel) (by decide +kernel)
set_option maxRecDepth 20000 in
theorem gL_law_X7_woods : GoodIn wsL_law (wsV RL 61 RX7 yX7_woods wsX7_woods) := goodIn_app (goodIn_of _ (by decide +kernel)) ggL_law_X7_woods
set_option maxRecDepth 20000 in
theorem ggL_law_X8_woods : GoodIn wsL_law wsX8_woods := goodIn_r _ [336, 337, 338, 339, 340, 5, 341, 315, 115, 116, 117, 118, 124, 253, 254, 255, 256, 123, 342, 343, 344, 345, 261, 262, 263, 264, 265, 266, 267, 268, 269, 270, 567, 568, 569, 570, 571, 572, 573, 574, 575, 576, 577, 578, 579, 580, 581, 582, 583, 584, 585, 586] (by decide +kernel) (by decide +kernel)
set_option maxRecDepth 20000 in
theorem gL_law_X8_woods : GoodIn wsL_law (wsV RL 65 RX8 yX8_woods wsX8_woods) := goodIn_app (goodIn_of _ (by decide +kernel)) ggL_law_X8_woods
set_option maxRecDepth 20000 in
theorem ggL_law_X7_wood : GoodIn wsL_law wsX7_wood := goodIn_r _ [349, 17, 332, 350, 351, 352, 353, 2, 354, 557, 558, 559, 560, 561, 562, 563, 564, 565, 566, 587, 588, 589, 590, 591, 592, 593] (by decide +kernel) (by decide +kernel)
set_option maxRecDepth 20000 in
theorem gL_law_X7_wood : GoodIn wsL_law (wsV RL 66 RX7 yX7_wood wsX7_wood) := goodIn_app (goodIn_of _ (by decide +kernel)) ggL_law_X7_wood
set_option maxRecDepth 20000 in
theorem ggL_law_X8_wood : GoodIn wsL_law wsX8_wood := goodIn_r _ [358, 337, 124, 338, 339, 340, 5, 341, 315, 115, 116, 117, 118, 253, 254, 255, 256, 123, 342, 343, 344, 345, 261, 262, 263, 264, 265, 266, 267, 268, 269, 270, 146, 147, 148, 567, 568, 569, 570, 571, 572, 573, 574, 575, 576, 577, 578, 579, 580, 581, 582, 583, 584, 585, 586] (by decide +kernel) (by decide +kernel)
set_option maxRecDepth 20000 in
theorem gL_law_X8_wood : GoodIn wsL_law (wsV RL 69 RX8 yX8_wood wsX8_wood) := goodIn_app (goodIn_of _ (by decide +kernel)) ggL_law_X8_wood
set_option maxRecDepth 20000 in
theorem ggL_law_X7_span : GoodIn wsL_law wsX7_span := goodIn_r _ [362, 17, 332, 31, 13, 153, 154, 155, 156, 2, 157, 33, 233, 234, 235, 352, 353, 354, 363, 308, 72, 309, 310, 237, 238, 239, 240, 241, 242, 243, 244, 364, 365, 366, 16, 367, 368, 48, 369, 370, 371, 372, 373, 71, 73, 374, 375, 376, 377, 49, 378, 379, 380, 557, 558, 559, 560, 561, 562, 563, 564, 565, 566, 587, 588, 589, 590, 591, 592, 593, 603, 604, 605] (by decide +kernel) (by decide +kernel)
set_option maxRecDepth 20000 in
theorem gL_law_X7_span : GoodIn wsL_law (wsV RL 70 RX7 yX7_span wsX7_span) := goodIn_app (goodIn_of _ (by decide +kernel)) ggL_law_X7_span
set_option maxRecDepth 20000 in
theorem ggL_law_X8_span : GoodIn wsL_law wsX8_span := goodIn_r _ [384, 337, 111, 165, 166, 167, 5, 168, 142, 146, 147, 148, 169, 170, 171, 338, 339, 340, 341, 315, 115, 116, 117, 118, 124, 253, 254, 255, 256, 123, 342, 343, 344, 345, 261, 262, 263, 264, 265, 266, 267, 268, 269, 270, 385, 386, 387, 388, 257, 258, 259, 260, 567, 568, 569, 570, 571, 572, 573, 574, 575, 576, 577, 578, 579, 580, 581, 582, 583, 584, 585, 586] (by decide +kernel) (by decide +kernel)
set_option maxRecDepth 20000 in
theorem gL_law_X8_span : GoodIn wsL_law (wsV RL 73 RX8 yX8_span wsX8_span) := goodIn_app (goodIn_of _ (by decide +kernel)) ggL_law_X8_span
set_option maxRecDepth 20000 in
theorem ggL_law_X7_next : GoodIn wsL_law wsX7_next := goodIn_r _ [392, 17, 332, 31, 13, 153, 29, 154, 155, 156, 2, 157, 33, 352, 353, 354, 363, 308, 72, 309, 310, 237, 238, 239, 240, 241, 242, 243, 244, 393, 394, 395, 28, 396, 100, 397, 398, 379, 371, 380, 399, 400, 401, 402, 403, 404, 405, 16, 406, 45, 46, 373, 71, 73, 557, 558, 559, 560, 561, 562, 563, 564, 565, 566, 587, 588, 589, 590, 591, 592, 593, 603, 604, 605, 602] (by decide +kernel) (by decide +kernel)
set_option maxRecDepth 20000 in
theorem gL_law_X7_next : GoodIn wsL_law (wsV RL 74 RX7 yX7_next wsX7_next) := goodIn_app (goodIn_of _ (by decide +kernel)) ggL_law_X7_next
set_option maxRecDepth 20000 in
theorem ggL_law_X8_next : GoodIn wsL_law wsX8_next := goodIn_r _ [410, 337, 111, 165, 166, 167, 5, 168, 142, 146, 147, 148, 338, 339, 340, 341, 315, 115, 116, 117, 118, 124, 253, 254, 255, 256, 123, 342, 343, 344, 345, 261, 262, 263, 264, 265, 266, 267, 268, 269, 270, 411, 412, 413, 414, 125, 385, 386, 387, 388, 257, 258, 259, 260, 567, 568, 569, 570, 571, 572, 573, 574, 575, 576, 577, 578, 579, 580, 581, 582, 583, 584, 585, 586] (by decide +kernel) (by decide +kernel)
set_option maxRecDepth 20000 in
theorem gL_law_X8_next : GoodIn wsL_law (wsV RL 77 RX8 yX8_next wsX8_next) := goodIn_app (goodIn_of _ (by decide +kernel)) ggL_law_X8_next
set_option maxRecDepth 20000 in
theorem ggL_law_X7_aim : GoodIn wsL_law wsX7_aim := goodIn_r _ [418, 21, 25, 233, 234, 2, 235, 297, 298, 299, 275, 276, 277, 419, 420, 421, 20, 422, 86, 87, 88, 176, 177, 178, 24, 179, 96, 557, 558, 559, 560, 561, 562, 563, 564, 565, 566, 594, 595, 596, 597, 598, 599, 600, 601] (by decide +kernel) (by decide +kernel)
set_option maxRecDepth 20000 in
theorem gL_law_X7_aim : GoodIn wsL_law (wsV RL 78 RX7 yX7_aim wsX7_aim) := goodIn_app (goodIn_of _ (by decide +kernel)) ggL_law_X7_aim
set_option maxRecDepth 20000 in
theorem ggL_law_X8_aim : GoodIn wsL_law wsX8_aim := goodIn_r _ [426, 119, 120, 121, 169, 170, 5, 171, 146, 147, 148, 567, 568, 569, 570, 571, 572, 573, 574, 575, 576, 577, 578, 579, 580, 581, 582, 583, 584, 585, 586] (by decide +kernel) (by decide +kernel)
set_option maxRecDepth 20000 in
theorem gL_law_X8_aim : GoodIn wsL_law (wsV RL 81 RX8 yX8_aim wsX8_aim) := goodIn_app (goodIn_of _ (by decide +kernel)) ggL_law_X8_aim
set_option maxRecDepth 20000 in
theorem ggL_law_X7_aimless : GoodIn wsL_law wsX7_aimless := goodIn_r _ [430, 21, 25, 431, 432, 433, 20, 434, 86, 435, 436, 437, 438, 176, 177, 178, 24, 179, 96, 557, 558, 559, 560, 561, 562, 563, 564, 565, 566, 594, 595, 596, 597, 598, 599, 600, 601] (by decide +kernel) (by decide +kernel)
set_option maxRecDepth 20000 in
theorem gL_law_X7_aimless : GoodIn wsL_law (wsV RL 82 RX7 yX7_aimless wsX7_aimless) := goodIn_app (goodIn_of _ (by decide +kernel)) ggL_law_X7_aimless
set_option maxRecDepth 20000 in
theorem ggL_law_X8_aimless : GoodIn wsL_law wsX8_aimless := goodIn_r _ [442, 119, 443, 444, 445, 5, 446, 567, 568, 569, 570, 571, 572, 573, 574, 575, 576, 577, 578, 579, 580, 581, 582, 583, 584, 585, 586] (by decide +kernel) (by decide +kernel)
set_option maxRecDepth 20000 in
theorem gL_law_X8_aimless : GoodIn wsL_law (wsV RL 85 RX8 yX8_aimless wsX8_aimless) := goodIn_app (goodIn_of _ (by decide +kernel)) ggL_law_X8_aimless
set_option maxRecDepth 20000 in
theorem ggL_law_X7_plan : GoodIn wsL_law wsX7_plan := goodIn_r _ [450, 17, 332, 25, 451, 154, 155, 156, 2, 157, 33, 452, 453, 454, 455, 456, 13, 153, 34, 21, 457, 458, 459, 24, 460, 93, 461, 379, 371, 380, 95, 462, 463, 464, 465, 466, 370, 372, 94, 467, 468, 469, 470, 92, 471, 472, 473, 20, 474, 86, 475, 87, 476, 88, 477, 240, 72, 241, 242, 243, 244, 557, 558, 559, 560, 561, 562, 563, 564, 565, 566, 587, 588, 589, 590, 591, 592, 593, 597, 598, 599, 600, 601, 603, 604, 605, 594, 595, 596] (by decide +kernel) (by decide +kernel)
set_option maxRecDepth 20000 in
theorem gL_law_X7_plan : GoodIn wsL_law (wsV RL 86 RX7 yX7_plan wsX7_plan) := goodIn_app (goodIn_of _ (by decide +kernel)) ggL_law_X7_plan
set_option maxRecDepth 20000 in
theorem ggL_law_X8_plan : GoodIn wsL_law wsX8_plan := goodIn_r _ [481, 337, 482, 165, 166, 167, 5, 168, 142, 146, 147, 148, 338, 339, 340, 341, 315, 115, 116, 117, 118, 124, 253, 254, 255, 256, 123, 342, 343, 344, 345, 261, 262, 263, 264, 265, 266, 267, 268, 269, 270, 483, 484, 485, 486, 111, 126, 487, 488, 489, 490, 112, 491, 492, 493, 494, 119, 120, 121, 567, 568, 569, 570, 571, 572, 573, 574, 575, 576, 577, 578, 579, 580, 581, 582, 583, 584, 585, 586] (by decide +kernel) (by decide +kernel)
set_option maxRecDepth 20000 in
theorem gL_law_X8_plan : GoodIn wsL_law (wsV RL 89 RX8 yX8_plan wsX8_plan) := goodIn_app (goodIn_of _ (by decide +kernel)) ggL_law_X8_plan
set_option maxRecDepth 20000 in
theorem ggL_law_X7_planned : GoodIn wsL_law wsX7_planned := goodIn_r _ [498, 17, 332, 25, 154, 155, 156, 2, 157, 33, 452, 453, 454, 455, 456, 13, 153, 34, 21, 457, 458, 459, 24, 460, 93, 461, 379, 371, 380, 95, 462, 463, 464, 465, 466, 370, 372, 94, 467, 468, 469, 470, 92, 471, 472, 473, 20, 474, 86, 475, 87, 476, 88, 477, 240, 72, 241, 242, 243, 244, 499, 500, 501, 502, 557, 558, 559, 560, 561, 562, 563, 564, 565, 566, 587, 588, 589, 590, 591, 592, 593, 597, 598, 599, 600, 601, 603, 604, 605, 594, 595, 596] (by decide +kernel) (by decide +kernel)
set_option maxRecDepth 20000 in
theorem gL_law_X7_planned : GoodIn wsL_law (wsV RL 90 RX7 yX7_planned wsX7_planned) := goodIn_app (goodIn_of _ (by decide +kernel)) ggL_law_X7_planned
set_option maxRecDepth 20000 in
theorem ggL_law_X8_planned : GoodIn wsL_law wsX8_planned := goodIn_r _ [506, 337, 482, 111, 126, 165, 166, 167, 5, 168, 142, 146, 147, 148, 338, 339, 340, 341, 315, 115, 116, 117, 118, 124, 253, 254, 255, 256, 123, 342, 343, 344, 345, 261, 262, 263, 264, 265, 266, 267, 268, 269, 270, 483, 484, 485, 486, 487, 488, 489, 490, 112, 491, 492, 493, 494, 119, 120, 121, 567, 568, 569, 570, 571, 572, 573, 574, 575, 576, 577, 578, 579, 580, 581, 582, 583, 584, 585, 586] (by decide +kernel) (by decide +kernel)
set_option maxRecDepth 20000 in
theorem gL_law_X8_planned : GoodIn wsL_law (wsV RL 93 RX8 yX8_planned wsX8_planned) := goodIn_app (goodIn_of _ (by decide +kernel)) ggL_law_X8_planned
set_option maxRecDepth 20000 in
theorem ggL_law_X7_carve : GoodIn wsL_law wsX7_carve := goodIn_r _ [510, 17, 332, 25, 451, 13, 188, 511, 154, 155, 156, 2, 157, 33, 452, 453, 454, 455, 456, 153, 34, 21, 457, 458, 459, 24, 460, 93, 461, 379, 371, 380, 95, 462, 463, 464, 465, 466, 370, 372, 94, 467, 468, 469, 470, 92, 471, 472, 473, 20, 474, 86, 475, 87, 476, 88, 477, 240, 72, 241, 242, 243, 244, 512, 513, 514, 37, 515, 516, 190, 191, 192, 106, 104, 105, 159, 160, 176, 177, 178, 179, 96, 557, 558, 559, 560, 561, 562, 563, 564, 565, 566, 587, 588, 589, 590, 591, 592, 593, 597, 598, 599, 600, 601, 603, 604, 605, 594, 595, 596] (by decide +kernel) (by decide +kernel)
set_option maxRecDepth 20000 in
theorem gL_law_X7_carve : GoodIn wsL_law (wsV RL 94 RX7 yX7_carve wsX7_carve) := goodIn_app (goodIn_of _ (by decide +kernel)) ggL_law_X7_carve
set_option maxRecDepth 20000 in
theorem ggL_law_X8_carve : GoodIn wsL_law wsX8_carve := goodIn_r _ [520, 337, 482, 113, 111, 126, 165, 166, 167, 5, 168, 142, 146, 147, 148, 338, 339, 340, 341, 315, 115, 116, 117, 118, 124, 253, 254, 255, 256, 123, 342, 343, 344, 345, 261, 262, 263, 264, 265, 266, 267, 268, 269, 270, 483, 484, 485, 486, 487, 488, 489, 490, 112, 491, 492, 493, 494, 119, 120, 121, 197, 198, 199, 200, 114, 567, 568, 569, 570, 571, 572, 573, 574, 575, 576, 577, 578, 579, 580, 581, 582, 583, 584, 585, 586] (by decide +kernel) (by decide +kernel)
set_option maxRecDepth 20000 in
theorem gL_law_X8_carve : GoodIn wsL_law (wsV RL 97 RX8 yX8_carve wsX8_carve) := goodIn_app (goodIn_of _ (by decide +kernel)) ggL_law_X8_carve
set_option maxRecDepth 20000 in
theorem ggL_law_X7_off : GoodIn wsL_law wsX7_off := goodIn_r _ [524, 35, 557, 558, 559, 560, 561, 562, 563, 564, 565, 566] (by decide +kernel) (by decide +kernel)
set_option maxRecDepth 20000 in
theorem gL_law_X7_off : GoodIn wsL_law (wsV RL 98 RX7 yX7_off wsX7_off) := goodIn_app (goodIn_of _ (by decide +kernel)) ggL_law_X7_off
set_option maxRecDepth 20000 in
theorem ggL_law_X8_off : GoodIn wsL_law wsX8_off := goodIn_r _ [528, 122, 146, 147, 5, 148, 567, 568, 569, 570, 571, 572, 573, 574, 575, 576, 577, 578, 579, 580, 581, 582, 583, 584, 585, 586] (by decide +kernel) (by decide +kernel)
set_option maxRecDepth 20000 in
theorem gL_law_X8_off : GoodIn wsL_law (wsV RL 101 RX8 yX8_off wsX8_off) := goodIn_app (goodIn_of _ (by decide +kernel)) ggL_law_X8_off
set_option maxRecDepth 20000 in
theorem ggL_law_X7_even : GoodIn wsL_law wsX7_even := goodIn_r _ [532, 17, 332, 31, 13, 153, 32, 35, 154, 155, 156, 2, 157, 33, 363, 308, 72, 309, 310, 237, 238, 239, 240, 241, 242, 243, 244, 533, 534, 535, 16, 536, 47, 537, 538, 371, 539, 378, 379, 380, 540, 404, 405, 406, 45, 46, 373, 71, 73, 557, 558, 559, 560, 561, 562, 563, 564, 565, 566, 587, 588, 589, 590, 591, 592, 593, 603, 604, 605] (by decide +kernel) (by decide +kernel)
set_option maxRecDepth 20000 in
theorem gL_law_X7_even : GoodIn wsL_law (wsV RL 102 RX7 yX7_even wsX7_even) := goodIn_app (goodIn_of _ (by decide +kernel)) ggL_law_X7_even
set_option maxRecDepth 20000 in
theorem ggL_law_X8_even : GoodIn wsL_law wsX8_even := goodIn_r _ [544, 337, 111, 122, 165, 166, 167, 5, 168, 142, 146, 147, 148, 338, 339, 340, 341, 315, 115, 116, 117, 118, 124, 253, 254, 255, 256, 123, 342, 343, 344, 345, 261, 262, 263, 264, 265, 266, 267, 268, 269, 270, 385, 386, 387, 388, 257, 258, 259, 260, 567, 568, 569, 570, 571, 572, 573, 574, 575, 576, 577, 578, 579, 580, 581, 582, 583, 584, 585, 586] (by decide +kernel) (by decide +kernel)
set_option maxRecDepth 20000 in
theorem gL_law_X8_even : GoodIn wsL_law (wsV RL 105 RX8 yX8_even wsX8_even) := goodIn_app (goodIn_of _ (by decide +kernel)) ggL_law_X8_even
set_option maxRecDepth 20000 in
theorem ggL_law_X7_count : GoodIn wsL_law wsX7_count := goodIn_r _ [548, 33, 17, 296, 21, 431, 432, 433, 20, 434, 86, 549, 550, 551, 2, 552, 13, 188, 557, 558, 559, 560, 561, 562, 563, 564, 565, 566, 587, 588, 589, 590, 591, 592, 593, 594, 595, 596, 603, 604, 605] (by decide +kernel) (by decide +kernel)
set_option maxRecDepth 20000 in
theorem gL_law_X7_count : GoodIn wsL_law (wsV RL 106 RX7 yX7_count wsX7_count) := goodIn_app (goodIn_of _ (by decide +kernel)) ggL_law_X7_count
set_option maxRecDepth 20000 in
theorem ggL_law_X8_count : GoodIn wsL_law wsX8_count := goodIn_r _ [556, 142, 315, 113, 443, 444, 445, 5, 446, 119, 567, 568, 569, 570, 571, 572, 573, 574, 575, 576, 577, 578, 579, 580, 581, 582, 583, 584, 585, 586] (by decide +kernel) (by decide +kernel)
set_option maxRecDepth 20000 in
theorem gL_law_X8_count : GoodIn wsL_law (wsV RL 109 RX8 yX8_count wsX8_count) := goodIn_app (goodIn_of _ (by decide +kernel)) ggL_law_X8_count
theorem dL_law_0 : decode cL_law 0 = .ok (.new 7, 3) := by decide +kernel
theorem dL_law_3 : decode cL_law 3 = .ok (.dup, 1) := by decide +kernel
theorem dL_law_4 : decode cL_law 4 = .ok (.invokespecial 9, 3) := by decide +kernel
theorem dL_law_7 : decode cL_law 7 = .ok (.astore_n 1, 1) := by decide +kernel
theorem dL_law_8 : decode cL_law 8 = .ok (.new 10, 3) := by decide +kernel
theorem dL_law_11 : decode cL_law 11 = .ok (.dup, 1) := by decide +kernel
theorem dL_law_12 : decode cL_law 12 = .ok (.invokespecial 12, 3) := by decide +kernel
theorem dL_law_15 : decode cL_law 15 = .ok (.astore_n 2, 1) := by decide +kernel
theorem dL_law_16 : decode cL_law 16 = .ok (.iconst 0, 1) := by decide +kernel
theorem dL_law_17 : decode cL_law 17 = .ok (.istore_n 3, 1) := by decide +kernel
theorem dL_law_18 : decode cL_law 18 = .ok (.iload_n 3, 1) := by decide +kernel
theorem dL_law_19 : decode cL_law 19 = .ok (.aload_n 0, 1) := by decide +kernel
theorem dL_law_20 : decode cL_law 20 = .ok (.arraylength, 1) := by decide +kernel
theorem dL_law_21 : decode cL_law 21 = .ok (.iconst 5, 1) := by decide +kernel
theorem dL_law_22 : decode cL_law 22 = .ok (.isub, 1) := by decide +kernel
theorem dL_law_23 : decode cL_law 23 = .ok (.if_icmp .gt 872, 3) := by decide +kernel
theorem dL_law_26 : decode cL_law 26 = .ok (.aload_n 0, 1) := by decide +kernel
theorem dL_law_27 : decode cL_law 27 = .ok (.iload_n 3, 1) := by decide +kernel
theorem dL_law_28 : decode cL_law 28 = .ok (.iaload, 1) := by decide +kernel
theorem dL_law_29 : decode cL_law 29 = .ok (.bipush 31, 2) := by decide +kernel
theorem dL_law_31 : decode cL_law 31 = .ok (.iand, 1) := by decide +kernel
theorem dL_law_32 : decode cL_law 32 = .ok (.tableswitch 857 0 22 #[108, 161, 194, 217, 250, 273, 296, 349, 402, 445, 498, 521, 534, 567, 610, 643, 686, 699, 722, 755, 778, 801, 834], 108) := by decide +kernel
