theorem dX8_findPlan_63 : decode cX8_findPlan 63 = .ok (.bipush 9, 2) := by decide +kernel
theorem dX8_findPlan_65 : decode cX8_findPlan 65 = .ok (.irem, 1) := by decide +kernel
theorem dX8_findPlan_66 : decode cX8_findPlan 66 = .ok (.iadd, 1) := by decide +kernel
theorem dX8_findPlan_67 : decode cX8_findPlan 67 = .ok (.iastore, 1) := by decide +kernel
theorem dX8_findPlan_68 : decode cX8_findPlan 68 = .ok (.iconst 0, 1) := by decide +kernel
theorem dX8_findPlan_69 : decode cX8_findPlan 69 = .ok (.istore_n 3, 1) := by decide +kernel
theorem dX8_findPlan_70 : decode cX8_findPlan 70 = .ok (.iconst 1, 1) := by decide +kernel
theorem dX8_findPlan_71 : decode cX8_findPlan 71 = .ok (.istore 4, 2) := by decide +kernel
theorem dX8_findPlan_73 : decode cX8_findPlan 73 = .ok (.iconst 0, 1) := by decide +kernel
theorem dX8_findPlan_74 : decode cX8_findPlan 74 = .ok (.istore 5, 2) := by decide +kernel
theorem dX8_findPlan_76 : decode cX8_findPlan 76 = .ok (.iload 5, 2) := by decide +kernel
theorem dX8_findPlan_78 : decode cX8_findPlan 78 = .ok (.iconst 4, 1) := by decide +kernel
theorem dX8_findPlan_79 : decode cX8_findPlan 79 = .ok (.if_icmp .ge 60, 3) := by decide +kernel
theorem dX8_findPlan_82 : decode cX8_findPlan 82 = .ok (.iload 4, 2) := by decide +kernel
theorem dX8_findPlan_84 : decode cX8_findPlan 84 = .ok (.ifCond .eq 24, 3) := by decide +kernel
theorem dX8_findPlan_87 : decode cX8_findPlan 87 = .ok (.aload_n 0, 1) := by decide +kernel
theorem dX8_findPlan_88 : decode cX8_findPlan 88 = .ok (.iload_n 1, 1) := by decide +kernel
theorem dX8_findPlan_89 : decode cX8_findPlan 89 = .ok (.iload 5, 2) := by decide +kernel
theorem dX8_findPlan_91 : decode cX8_findPlan 91 = .ok (.aload_n 0, 1) := by decide +kernel
theorem dX8_findPlan_92 : decode cX8_findPlan 92 = .ok (.getfield 48, 3) := by decide +kernel
theorem dX8_findPlan_95 : decode cX8_findPlan 95 = .ok (.iload 5, 2) := by decide +kernel
theorem dX8_findPlan_97 : decode cX8_findPlan 97 = .ok (.iaload, 1) := by decide +kernel
theorem dX8_findPlan_98 : decode cX8_findPlan 98 = .ok (.invokevirtual 132, 3) := by decide +kernel
theorem dX8_findPlan_101 : decode cX8_findPlan 101 = .ok (.ifCond .eq 7, 3) := by decide +kernel
theorem dX8_findPlan_104 : decode cX8_findPlan 104 = .ok (.iconst 1, 1) := by decide +kernel
theorem dX8_findPlan_105 : decode cX8_findPlan 105 = .ok (.goto 4, 3) := by decide +kernel
theorem dX8_findPlan_108 : decode cX8_findPlan 108 = .ok (.iconst 0, 1) := by decide +kernel
theorem dX8_findPlan_109 : decode cX8_findPlan 109 = .ok (.istore 4, 2) := by decide +kernel
theorem dX8_findPlan_111 : decode cX8_findPlan 111 = .ok (.iload_n 3, 1) := by decide +kernel
theorem dX8_findPlan_112 : decode cX8_findPlan 112 = .ok (.aload_n 0, 1) := by decide +kernel
theorem dX8_findPlan_113 : decode cX8_findPlan 113 = .ok (.getfield 7, 3) := by decide +kernel
theorem dX8_findPlan_116 : decode cX8_findPlan 116 = .ok (.iconst 4, 1) := by decide +kernel
theorem dX8_findPlan_117 : decode cX8_findPlan 117 = .ok (.iload_n 1, 1) := by decide +kernel
theorem dX8_findPlan_118 : decode cX8_findPlan 118 = .ok (.imul, 1) := by decide +kernel
theorem dX8_findPlan_119 : decode cX8_findPlan 119 = .ok (.iload 5, 2) := by decide +kernel
theorem dX8_findPlan_121 : decode cX8_findPlan 121 = .ok (.iadd, 1) := by decide +kernel
theorem dX8_findPlan_122 : decode cX8_findPlan 122 = .ok (.iaload, 1) := by decide +kernel
theorem dX8_findPlan_123 : decode cX8_findPlan 123 = .ok (.aload_n 0, 1) := by decide +kernel
theorem dX8_findPlan_124 : decode cX8_findPlan 124 = .ok (.getfield 48, 3) := by decide +kernel
theorem dX8_findPlan_127 : decode cX8_findPlan 127 = .ok (.iload 5, 2) := by decide +kernel
theorem dX8_findPlan_129 : decode cX8_findPlan 129 = .ok (.iaload, 1) := by decide +kernel
theorem dX8_findPlan_130 : decode cX8_findPlan 130 = .ok (.isub, 1) := by decide +kernel
theorem dX8_findPlan_131 : decode cX8_findPlan 131 = .ok (.iadd, 1) := by decide +kernel
theorem dX8_findPlan_132 : decode cX8_findPlan 132 = .ok (.istore_n 3, 1) := by decide +kernel
theorem dX8_findPlan_133 : decode cX8_findPlan 133 = .ok (.iinc 5 1, 3) := by decide +kernel
theorem dX8_findPlan_136 : decode cX8_findPlan 136 = .ok (.goto (-60), 3) := by decide +kernel
theorem dX8_findPlan_139 : decode cX8_findPlan 139 = .ok (.iload 4, 2) := by decide +kernel
theorem dX8_findPlan_141 : decode cX8_findPlan 141 = .ok (.ifCond .eq 60, 3) := by decide +kernel
theorem dX8_findPlan_144 : decode cX8_findPlan 144 = .ok (.aload_n 0, 1) := by decide +kernel
theorem dX8_findPlan_145 : decode cX8_findPlan 145 = .ok (.getfield 129, 3) := by decide +kernel
theorem dX8_findPlan_148 : decode cX8_findPlan 148 = .ok (.iconst (-1), 1) := by decide +kernel
theorem dX8_findPlan_149 : decode cX8_findPlan 149 = .ok (.if_icmp .eq 11, 3) := by decide +kernel
theorem dX8_findPlan_152 : decode cX8_findPlan 152 = .ok (.iload_n 3, 1) := by decide +kernel
theorem dX8_findPlan_153 : decode cX8_findPlan 153 = .ok (.aload_n 0, 1) := by decide +kernel
theorem dX8_findPlan_154 : decode cX8_findPlan 154 = .ok (.getfield 129, 3) := by decide +kernel
theorem dX8_findPlan_157 : decode cX8_findPlan 157 = .ok (.if_icmp .ge 44, 3) := by decide +kernel
theorem dX8_findPlan_160 : decode cX8_findPlan 160 = .ok (.aload_n 0, 1) := by decide +kernel
theorem dX8_findPlan_161 : decode cX8_findPlan 161 = .ok (.invokevirtual 135, 3) := by decide +kernel
theorem dX8_findPlan_164 : decode cX8_findPlan 164 = .ok (.ifCond .eq 37, 3) := by decide +kernel
theorem dX8_findPlan_167 : decode cX8_findPlan 167 = .ok (.aload_n 0, 1) := by decide +kernel
theorem dX8_findPlan_168 : decode cX8_findPlan 168 = .ok (.iload_n 3, 1) := by decide +kernel
theorem dX8_findPlan_169 : decode cX8_findPlan 169 = .ok (.putfield 129, 3) := by decide +kernel
theorem dX8_findPlan_172 : decode cX8_findPlan 172 = .ok (.iconst 0, 1) := by decide +kernel
theorem dX8_findPlan_173 : decode cX8_findPlan 173 = .ok (.istore 5, 2) := by decide +kernel
theorem dX8_findPlan_175 : decode cX8_findPlan 175 = .ok (.iload 5, 2) := by decide +kernel
theorem dX8_findPlan_177 : decode cX8_findPlan 177 = .ok (.iconst 4, 1) := by decide +kernel
theorem dX8_findPlan_178 : decode cX8_findPlan 178 = .ok (.if_icmp .ge 23, 3) := by decide +kernel
theorem dX8_findPlan_181 : decode cX8_findPlan 181 = .ok (.aload_n 0, 1) := by decide +kernel
theorem dX8_findPlan_182 : decode cX8_findPlan 182 = .ok (.getfield 57, 3) := by decide +kernel
theorem dX8_findPlan_185 : decode cX8_findPlan 185 = .ok (.iload 5, 2) := by decide +kernel
theorem dX8_findPlan_187 : decode cX8_findPlan 187 = .ok (.aload_n 0, 1) := by decide +kernel
theorem dX8_findPlan_188 : decode cX8_findPlan 188 = .ok (.getfield 48, 3) := by decide +kernel
theorem dX8_findPlan_191 : decode cX8_findPlan 191 = .ok (.iload 5, 2) := by decide +kernel
theorem dX8_findPlan_193 : decode cX8_findPlan 193 = .ok (.iaload, 1) := by decide +kernel
theorem dX8_findPlan_194 : decode cX8_findPlan 194 = .ok (.iastore, 1) := by decide +kernel
theorem dX8_findPlan_195 : decode cX8_findPlan 195 = .ok (.iinc 5 1, 3) := by decide +kernel
theorem dX8_findPlan_198 : decode cX8_findPlan 198 = .ok (.goto (-23), 3) := by decide +kernel
theorem dX8_findPlan_201 : decode cX8_findPlan 201 = .ok (.iinc 2 (-1), 3) := by decide +kernel
theorem dX8_findPlan_204 : decode cX8_findPlan 204 = .ok (.goto (-195), 3) := by decide +kernel
theorem dX8_findPlan_207 : decode cX8_findPlan 207 = .ok (.return_, 1) := by decide +kernel
set_option maxRecDepth 20000 in
theorem ggX8_plan_X8_isPlate : GoodIn wsX8_plan wsX8_isPlate := goodIn_r _ [7, 8, 9, 10, 6, 11, 59, 60, 61, 62, 63, 64, 65, 66, 67, 68, 69, 70, 71, 72, 73, 74, 75, 76, 77, 78] (by decide +kernel) (by decide +kernel)
set_option maxRecDepth 20000 in
theorem gX8_plan_X8_isPlate : GoodIn wsX8_plan (wsV RX8 71 RX8 yX8_isPlate wsX8_isPlate) := goodIn_app (goodIn_of _ (by decide +kernel)) ggX8_plan_X8_isPlate
set_option maxRecDepth 20000 in
theorem ggX8_plan_X8_findWoods : GoodIn wsX8_plan wsX8_findWoods := goodIn_r _ [15, 1, 16, 17, 18, 19, 20, 21, 22, 23, 24, 6, 25, 26, 27, 28, 29, 30, 31, 32, 33, 34, 35, 36, 37, 38, 39, 40, 59, 60, 61, 62, 63, 64, 65, 66, 67, 68, 69, 70, 71, 72, 73, 74, 75, 76, 77, 78] (by decide +kernel) (by decide +kernel)
set_option maxRecDepth 20000 in
theorem gX8_plan_X8_findWoods : GoodIn wsX8_plan (wsV RX8 114 RX8 yX8_findWoods wsX8_findWoods) := goodIn_app (goodIn_of _ (by decide +kernel)) ggX8_plan_X8_findWoods
set_option maxRecDepth 20000 in
theorem ggX8_plan_X8_findPlan : GoodIn wsX8_plan wsX8_findPlan := goodIn_r _ [44, 2, 26, 45, 46, 47, 48, 49, 6, 50, 51, 52, 53, 54, 55, 1, 56, 21, 57, 58, 27, 28, 29, 30, 31, 32, 33, 34, 35, 36, 37, 38, 39, 40, 59, 60, 61, 62, 63, 64, 65, 66, 67, 68, 69, 70, 71, 72, 73, 74, 75, 76, 77, 78] (by decide +kernel) (by decide +kernel)
set_option maxRecDepth 20000 in
theorem gX8_plan_X8_findPlan : GoodIn wsX8_plan (wsV RX8 139 RX8 yX8_findPlan wsX8_findPlan) := goodIn_app (goodIn_of _ (by decide +kernel)) ggX8_plan_X8_findPlan
theorem dX8_plan_0 : decode cX8_plan 0 = .ok (.aload_n 0, 1) := by decide +kernel
theorem dX8_plan_1 : decode cX8_plan 1 = .ok (.iload_n 1, 1) := by decide +kernel
theorem dX8_plan_2 : decode cX8_plan 2 = .ok (.invokevirtual 71, 3) := by decide +kernel
theorem dX8_plan_5 : decode cX8_plan 5 = .ok (.ifCond .ne 6, 3) := by decide +kernel
theorem dX8_plan_8 : decode cX8_plan 8 = .ok (.bipush (-2), 2) := by decide +kernel
theorem dX8_plan_10 : decode cX8_plan 10 = .ok (.ireturn, 1) := by decide +kernel
theorem dX8_plan_11 : decode cX8_plan 11 = .ok (.aload_n 0, 1) := by decide +kernel
theorem dX8_plan_12 : decode cX8_plan 12 = .ok (.invokevirtual 114, 3) := by decide +kernel
theorem dX8_plan_15 : decode cX8_plan 15 = .ok (.aload_n 0, 1) := by decide +kernel
theorem dX8_plan_16 : decode cX8_plan 16 = .ok (.getfield 107, 3) := by decide +kernel
theorem dX8_plan_19 : decode cX8_plan 19 = .ok (.ifCond .ne 6, 3) := by decide +kernel
theorem dX8_plan_22 : decode cX8_plan 22 = .ok (.bipush (-3), 2) := by decide +kernel
theorem dX8_plan_24 : decode cX8_plan 24 = .ok (.ireturn, 1) := by decide +kernel
theorem dX8_plan_25 : decode cX8_plan 25 = .ok (.aload_n 0, 1) := by decide +kernel
theorem dX8_plan_26 : decode cX8_plan 26 = .ok (.iload_n 1, 1) := by decide +kernel
theorem dX8_plan_27 : decode cX8_plan 27 = .ok (.invokevirtual 139, 3) := by decide +kernel
theorem dX8_plan_30 : decode cX8_plan 30 = .ok (.aload_n 0, 1) := by decide +kernel
theorem dX8_plan_31 : decode cX8_plan 31 = .ok (.getfield 129, 3) := by decide +kernel
theorem dX8_plan_34 : decode cX8_plan 34 = .ok (.ireturn, 1) := by decide +kernel
set_option maxRecDepth 20000 in
theorem ggX8_planned_X8_isPlate : GoodIn wsX8_planned wsX8_isPlate := goodIn_r _ [9, 10, 11, 12, 8, 13, 59, 60, 61, 62, 63, 64, 65, 66, 67, 68, 69, 70, 71, 72, 73, 74, 75, 76, 77, 78] (by decide +kernel) (by decide +kernel)
set_option maxRecDepth 20000 in
theorem gX8_planned_X8_isPlate : GoodIn wsX8_planned (wsV RX8 71 RX8 yX8_isPlate wsX8_isPlate) := goodIn_app (goodIn_of _ (by decide +kernel)) ggX8_planned_X8_isPlate
set_option maxRecDepth 20000 in
theorem ggX8_planned_X8_findWoods : GoodIn wsX8_planned wsX8_findWoods := goodIn_r _ [17, 1, 18, 19, 20, 21, 22, 23, 24, 25, 26, 8, 27, 28, 29, 30, 31, 32, 33, 34, 35, 36, 37, 38, 39, 40, 41, 42, 59, 60, 61, 62, 63, 64, 65, 66, 67, 68, 69, 70, 71, 72, 73, 74, 75, 76, 77, 78] (by decide +kernel) (by decide +kernel)
set_option maxRecDepth 20000 in
theorem gX8_planned_X8_findWoods : GoodIn wsX8_planned (wsV RX8 114 RX8 yX8_findWoods wsX8_findWoods) := goodIn_app (goodIn_of _ (by decide +kernel)) ggX8_planned_X8_findWoods
set_option maxRecDepth 20000 in
theorem ggX8_planned_X8_findPlan : GoodIn wsX8_planned wsX8_findPlan := goodIn_r _ [46, 2, 28, 3, 4, 47, 48, 49, 8, 50, 51, 52, 53, 54, 55, 1, 56, 23, 57, 58, 29, 30, 31, 32, 33, 34, 35, 36, 37, 38, 39, 40, 41, 42, 59, 60, 61, 62, 63, 64, 65, 66, 67, 68, 69, 70, 71, 72, 73, 74, 75, 76, 77, 78] (by decide +kernel) (by decide +kernel)
set_option maxRecDepth 20000 in
theorem gX8_planned_X8_findPlan : GoodIn wsX8_planned (wsV RX8 139 RX8 yX8_findPlan wsX8_findPlan) := goodIn_app (goodIn_of _ (by decide +kernel)) ggX8_planned_X8_findPlan
theorem dX8_planned_0 : decode cX8_planned 0 = .ok (.aload_n 0, 1) := by decide +kernel
theorem dX8_planned_1 : decode cX8_planned 1 = .ok (.iload_n 1, 1) := by decide +kernel
theorem dX8_planned_2 : decode cX8_planned 2 = .ok (.invokevirtual 71, 3) := by decide +kernel
theorem dX8_planned_5 : decode cX8_planned 5 = .ok (.ifCond .eq 7, 3) := by decide +kernel
theorem dX8_planned_8 : decode cX8_planned 8 = .ok (.iload_n 2, 1) := by decide +kernel
theorem dX8_planned_9 : decode cX8_planned 9 = .ok (.ifCond .ge 6, 3) := by decide +kernel
theorem dX8_planned_12 : decode cX8_planned 12 = .ok (.bipush (-2), 2) := by decide +kernel
theorem dX8_planned_14 : decode cX8_planned 14 = .ok (.ireturn, 1) := by decide +kernel
theorem dX8_planned_15 : decode cX8_planned 15 = .ok (.aload_n 0, 1) := by decide +kernel
theorem dX8_planned_16 : decode cX8_planned 16 = .ok (.invokevirtual 114, 3) := by decide +kernel
theorem dX8_planned_19 : decode cX8_planned 19 = .ok (.aload_n 0, 1) := by decide +kernel
theorem dX8_planned_20 : decode cX8_planned 20 = .ok (.getfield 107, 3) := by decide +kernel
theorem dX8_planned_23 : decode cX8_planned 23 = .ok (.ifCond .ne 6, 3) := by decide +kernel
theorem dX8_planned_26 : decode cX8_planned 26 = .ok (.bipush (-3), 2) := by decide +kernel
theorem dX8_planned_28 : decode cX8_planned 28 = .ok (.ireturn, 1) := by decide +kernel
theorem dX8_planned_29 : decode cX8_planned 29 = .ok (.aload_n 0, 1) := by decide +kernel
theorem dX8_planned_30 : decode cX8_planned 30 = .ok (.iload_n 1, 1) := by decide +kernel
theorem dX8_planned_31 : decode cX8_planned 31 = .ok (.invokevirtual 139, 3) := by decide +kernel
theorem dX8_planned_34 : decode cX8_planned 34 = .ok (.iload_n 2, 1) := by decide +kernel
theorem dX8_planned_35 : decode cX8_planned 35 = .ok (.istore_n 3, 1) := by decide +kernel
theorem dX8_planned_36 : decode cX8_planned 36 = .ok (.iconst 0, 1) := by decide +kernel
theorem dX8_planned_37 : decode cX8_planned 37 = .ok (.istore 4, 2) := by decide +kernel
theorem dX8_planned_39 : decode cX8_planned 39 = .ok (.iload 4, 2) := by decide +kernel
theorem dX8_planned_41 : decode cX8_planned 41 = .ok (.iconst 4, 1) := by decide +kernel
theorem dX8_planned_42 : decode cX8_planned 42 = .ok (.if_icmp .ge 52, 3) := by decide +kernel
theorem dX8_planned_45 : decode cX8_planned 45 = .ok (.aload_n 0, 1) := by decide +kernel
theorem dX8_planned_46 : decode cX8_planned 46 = .ok (.getfield 129, 3) := by decide +kernel
theorem dX8_planned_49 : decode cX8_planned 49 = .ok (.iconst (-1), 1) := by decide +kernel
theorem dX8_planned_50 : decode cX8_planned 50 = .ok (.if_icmp .eq 44, 3) := by decide +kernel
theorem dX8_planned_53 : decode cX8_planned 53 = .ok (.aload_n 0, 1) := by decide +kernel
theorem dX8_planned_54 : decode cX8_planned 54 = .ok (.getfield 7, 3) := by decide +kernel
theorem dX8_planned_57 : decode cX8_planned 57 = .ok (.iconst 4, 1) := by decide +kernel
theorem dX8_planned_58 : decode cX8_planned 58 = .ok (.iload_n 1, 1) := by decide +kernel
theorem dX8_planned_59 : decode cX8_planned 59 = .ok (.imul, 1) := by decide +kernel
theorem dX8_planned_60 : decode cX8_planned 60 = .ok (.iload 4, 2) := by decide +kernel
theorem dX8_planned_62 : decode cX8_planned 62 = .ok (.iadd, 1) := by decide +kernel
theorem dX8_planned_63 : decode cX8_planned 63 = .ok (.iaload, 1) := by decide +kernel
theorem dX8_planned_64 : decode cX8_planned 64 = .ok (.aload_n 0, 1) := by decide +kernel
theorem dX8_planned_65 : decode cX8_planned 65 = .ok (.getfield 57, 3) := by decide +kernel
theorem dX8_planned_68 : decode cX8_planned 68 = .ok (.iload 4, 2) := by decide +kernel
theorem dX8_planned_70 : decode cX8_planned 70 = .ok (.iaload, 1) := by decide +kernel
theorem dX8_planned_71 : decode cX8_planned 71 = .ok (.isub, 1) := by decide +kernel
theorem dX8_planned_72 : decode cX8_planned 72 = .ok (.istore 5, 2) := by decide +kernel
theorem dX8_planned_74 : decode cX8_planned 74 = .ok (.iload_n 3, 1) := by decide +kernel
theorem dX8_planned_75 : decode cX8_planned 75 = .ok (.iload 5, 2) := by decide +kernel
theorem dX8_planned_77 : decode cX8_planned 77 = .ok (.if_icmp .ge 6, 3) := by decide +kernel
theorem dX8_planned_80 : decode cX8_planned 80 = .ok (.iload 4, 2) := by decide +kernel
theorem dX8_planned_82 : decode cX8_planned 82 = .ok (.ireturn, 1) := by decide +kernel
theorem dX8_planned_83 : decode cX8_planned 83 = .ok (.iload_n 3, 1) := by decide +kernel
theorem dX8_planned_84 : decode cX8_planned 84 = .ok (.iload 5, 2) := by decide +kernel
theorem dX8_planned_86 : decode cX8_planned 86 = .ok (.isub, 1) := by decide +kernel
theorem dX8_planned_87 : decode cX8_planned 87 = .ok (.istore_n 3, 1) := by decide +kernel
theorem dX8_planned_88 : decode cX8_planned 88 = .ok (.iinc 4 1, 3) := by decide +kernel
theorem dX8_planned_91 : decode cX8_planned 91 = .ok (.goto (-52), 3) := by decide +kernel
theorem dX8_planned_94 : decode cX8_planned 94 = .ok (.iconst (-1), 1) := by decide +kernel
theorem dX8_planned_95 : decode cX8_planned 95 = .ok (.ireturn, 1) := by decide +kernel
set_option maxRecDepth 20000 in
theorem ggX8_carve_X8_isPlate : GoodIn wsX8_carve wsX8_isPlate := goodIn_r _ [10, 11, 12, 13, 9, 14, 65, 66, 67, 68, 69, 70, 71, 72, 73, 74, 75, 76, 77, 78, 79, 80, 81, 82, 83, 84] (by decide +kernel) (by decide +kernel)
set_option maxRecDepth 20000 in
theorem gX8_carve_X8_isPlate : GoodIn wsX8_carve (wsV RX8 71 RX8 yX8_isPlate wsX8_isPlate) := goodIn_app (goodIn_of _ (by decide +kernel)) ggX8_carve_X8_isPlate
set_option maxRecDepth 20000 in
theorem ggX8_carve_X8_findWoods : GoodIn wsX8_carve wsX8_findWoods := goodIn_r _ [18, 1, 19, 20, 21, 22, 23, 24, 25, 26, 27, 9, 28, 29, 30, 31, 32, 33, 34, 35, 36, 37, 38, 39, 40, 41, 42, 43, 65, 66, 67, 68, 69, 70, 71, 72, 73, 74, 75, 76, 77, 78, 79, 80, 81, 82, 83, 84] (by decide +kernel) (by decide +kernel)
set_option maxRecDepth 20000 in
theorem gX8_carve_X8_findWoods : GoodIn wsX8_carve (wsV RX8 114 RX8 yX8_findWoods wsX8_findWoods) := goodIn_app (goodIn_of _ (by decide +kernel)) ggX8_carve_X8_findWoods
set_option maxRecDepth 20000 in
theorem ggX8_carve_X8_findPlan : GoodIn wsX8_carve wsX8_findPlan := goodIn_r _ [47, 2, 29, 4, 5, 48, 49, 50, 9, 51, 52, 53, 54, 55, 56, 1, 57, 24, 58, 59, 30, 31, 32, 33, 34, 35, 36, 37, 38, 39, 40, 41, 42, 43, 65, 66, 67, 68, 69, 70, 71, 72, 73, 74, 75, 76, 77, 78, 79, 80, 81, 82, 83, 84] (by decide +kernel) (by decide +kernel)
set_option maxRecDepth 20000 in
theorem gX8_carve_X8_findPlan : GoodIn wsX8_carve (wsV RX8 139 RX8 yX8_findPlan wsX8_findPlan) := goodIn_app (goodIn_of _ (by decide +kernel)) ggX8_carve_X8_findPlan
set_option maxRecDepth 20000 in
theorem ggX8_carve_X8_shaveOff : GoodIn wsX8_carve wsX8_shaveOff := goodIn_r _ [63, 4, 64, 3, 65, 66, 67, 68, 69, 70, 71, 72, 73, 74, 75, 76, 77, 78, 79, 80, 81, 82, 83, 84] (by decide +kernel) (by decide +kernel)
set_option maxRecDepth 20000 in
theorem gX8_carve_X8_shaveOff : GoodIn wsX8_carve (wsV RX8 77 RX8 yX8_shaveOff wsX8_shaveOff) := goodIn_app (goodIn_of _ (by decide +kernel)) ggX8_carve_X8_shaveOff
theorem dX8_carve_0 : decode cX8_carve 0 = .ok (.aload_n 0, 1) := by decide +kernel
theorem dX8_carve_1 : decode cX8_carve 1 = .ok (.iload_n 1, 1) := by decide +kernel
theorem dX8_carve_2 : decode cX8_carve 2 = .ok (.invokevirtual 71, 3) := by decide +kernel
theorem dX8_carve_5 : decode cX8_carve 5 = .ok (.ifCond .ne 6, 3) := by decide +kernel
theorem dX8_carve_8 : decode cX8_carve 8 = .ok (.bipush (-2), 2) := by decide +kernel
theorem dX8_carve_10 : decode cX8_carve 10 = .ok (.ireturn, 1) := by decide +kernel
theorem dX8_carve_11 : decode cX8_carve 11 = .ok (.aload_n 0, 1) := by decide +kernel
theorem dX8_carve_12 : decode cX8_carve 12 = .ok (.invokevirtual 114, 3) := by decide +kernel
theorem dX8_carve_15 : decode cX8_carve 15 = .ok (.aload_n 0, 1) := by decide +kernel
theorem dX8_carve_16 : decode cX8_carve 16 = .ok (.getfield 107, 3) := by decide +kernel
theorem dX8_carve_19 : decode cX8_carve 19 = .ok (.ifCond .ne 6, 3) := by decide +kernel
theorem dX8_carve_22 : decode cX8_carve 22 = .ok (.bipush (-3), 2) := by decide +kernel
theorem dX8_carve_24 : decode cX8_carve 24 = .ok (.ireturn, 1) := by decide +kernel
theorem dX8_carve_25 : decode cX8_carve 25 = .ok (.aload_n 0, 1) := by decide +kernel
theorem dX8_carve_26 : decode cX8_carve 26 = .ok (.iload_n 1, 1) := by decide +kernel
theorem dX8_carve_27 : decode cX8_carve 27 = .ok (.invokevirtual 139, 3) := by decide +kernel
theorem dX8_carve_30 : decode cX8_carve 30 = .ok (.aload_n 0, 1) := by decide +kernel
theorem dX8_carve_31 : decode cX8_carve 31 = .ok (.getfield 129, 3) := by decide +kernel
theorem dX8_carve_34 : decode cX8_carve 34 = .ok (.iconst (-1), 1) := by decide +kernel
theorem dX8_carve_35 : decode cX8_carve 35 = .ok (.if_icmp .ne 6, 3) := by decide +kernel
theorem dX8_carve_38 : decode cX8_carve 38 = .ok (.bipush (-3), 2) := by decide +kernel
theorem dX8_carve_40 : decode cX8_carve 40 = .ok (.ireturn, 1) := by decide +kernel
theorem dX8_carve_41 : decode cX8_carve 41 = .ok (.aload_n 0, 1) := by decide +kernel
theorem dX8_carve_42 : decode cX8_carve 42 = .ok (.getfield 17, 3) := by decide +kernel
theorem dX8_carve_45 : decode cX8_carve 45 = .ok (.iload_n 1, 1) := by decide +kernel
theorem dX8_carve_46 : decode cX8_carve 46 = .ok (.iaload, 1) := by decide +kernel
theorem dX8_carve_47 : decode cX8_carve 47 = .ok (.aload_n 0, 1) := by decide +kernel
theorem dX8_carve_48 : decode cX8_carve 48 = .ok (.getfield 129, 3) := by decide +kernel
theorem dX8_carve_51 : decode cX8_carve 51 = .ok (.iadd, 1) := by decide +kernel
theorem dX8_carve_52 : decode cX8_carve 52 = .ok (.bipush 20, 2) := by decide +kernel
theorem dX8_carve_54 : decode cX8_carve 54 = .ok (.if_icmp .le 6, 3) := by decide +kernel
theorem dX8_carve_57 : decode cX8_carve 57 = .ok (.bipush (-4), 2) := by decide +kernel
theorem dX8_carve_59 : decode cX8_carve 59 = .ok (.ireturn, 1) := by decide +kernel
theorem dX8_carve_60 : decode cX8_carve 60 = .ok (.iconst 0, 1) := by decide +kernel
theorem dX8_carve_61 : decode cX8_carve 61 = .ok (.istore_n 2, 1) := by decide +kernel
theorem dX8_carve_62 : decode cX8_carve 62 = .ok (.iload_n 2, 1) := by decide +kernel
theorem dX8_carve_63 : decode cX8_carve 63 = .ok (.iconst 4, 1) := by decide +kernel
theorem dX8_carve_64 : decode cX8_carve 64 = .ok (.if_icmp .ge 37, 3) := by decide +kernel
theorem dX8_carve_67 : decode cX8_carve 67 = .ok (.aload_n 0, 1) := by decide +kernel
theorem dX8_carve_68 : decode cX8_carve 68 = .ok (.getfield 7, 3) := by decide +kernel
theorem dX8_carve_71 : decode cX8_carve 71 = .ok (.iconst 4, 1) := by decide +kernel
theorem dX8_carve_72 : decode cX8_carve 72 = .ok (.iload_n 1, 1) := by decide +kernel
theorem dX8_carve_73 : decode cX8_carve 73 = .ok (.imul, 1) := by decide +kernel
theorem dX8_carve_74 : decode cX8_carve 74 = .ok (.iload_n 2, 1) := by decide +kernel
theorem dX8_carve_75 : decode cX8_carve 75 = .ok (.iadd, 1) := by decide +kernel
theorem dX8_carve_76 : decode cX8_carve 76 = .ok (.iaload, 1) := by decide +kernel
theorem dX8_carve_77 : decode cX8_carve 77 = .ok (.aload_n 0, 1) := by decide +kernel
theorem dX8_carve_78 : decode cX8_carve 78 = .ok (.getfield 57, 3) := by decide +kernel
theorem dX8_carve_81 : decode cX8_carve 81 = .ok (.iload_n 2, 1) := by decide +kernel
theorem dX8_carve_82 : decode cX8_carve 82 = .ok (.iaload, 1) := by decide +kernel
theorem dX8_carve_83 : decode cX8_carve 83 = .ok (.if_icmp .le 12, 3) := by decide +kernel
theorem dX8_carve_86 : decode cX8_carve 86 = .ok (.aload_n 0, 1) := by decide +kernel
theorem dX8_carve_87 : decode cX8_carve 87 = .ok (.iload_n 1, 1) := by decide +kernel
theorem dX8_carve_88 : decode cX8_carve 88 = .ok (.iload_n 2, 1) := by decide +kernel
theorem dX8_carve_89 : decode cX8_carve 89 = .ok (.invokevirtual 77, 3) := by decide +kernel
theorem dX8_carve_92 : decode cX8_carve 92 = .ok (.goto (-25), 3) := by decide +kernel
theorem dX8_carve_95 : decode cX8_carve 95 = .ok (.iinc 2 1, 3) := by decide +kernel
theorem dX8_carve_98 : decode cX8_carve 98 = .ok (.goto (-36), 3) := by decide +kernel
theorem dX8_carve_101 : decode cX8_carve 101 = .ok (.aload_n 0, 1) := by decide +kernel
theorem dX8_carve_102 : decode cX8_carve 102 = .ok (.getfield 129, 3) := by decide +kernel
theorem dX8_carve_105 : decode cX8_carve 105 = .ok (.ireturn, 1) := by decide +kernel
set_option maxRecDepth 20000 in
theorem ggX8_off_X8_in : GoodIn wsX8_off wsX8_in := goodIn_r _ [5] (by decide +kernel) (by decide +kernel)
set_option maxRecDepth 20000 in
theorem gX8_off_X8_in : GoodIn wsX8_off (va_wsS RX8 60 yX8_in wsX8_in) := goodIn_app (goodIn_of _ (by decide +kernel)) ggX8_off_X8_in
theorem dX8_off_0 : decode cX8_off 0 = .ok (.iload_n 1, 1) := by decide +kernel
theorem dX8_off_1 : decode cX8_off 1 = .ok (.iconst 0, 1) := by decide +kernel
theorem dX8_off_2 : decode cX8_off 2 = .ok (.sipush 200, 3) := by decide +kernel
theorem dX8_off_5 : decode cX8_off 5 = .ok (.invokestatic 60, 3) := by decide +kernel
theorem dX8_off_8 : decode cX8_off 8 = .ok (.ifCond .ne 6, 3) := by decide +kernel
theorem dX8_off_11 : decode cX8_off 11 = .ok (.bipush (-2), 2) := by decide +kernel
theorem dX8_off_13 : decode cX8_off 13 = .ok (.ireturn, 1) := by decide +kernel
theorem dX8_off_14 : decode cX8_off 14 = .ok (.aload_n 0, 1) := by decide +kernel
theorem dX8_off_15 : decode cX8_off 15 = .ok (.getfield 45, 3) := by decide +kernel
theorem dX8_off_18 : decode cX8_off 18 = .ok (.istore_n 2, 1) := by decide +kernel
theorem dX8_off_19 : decode cX8_off 19 = .ok (.aload_n 0, 1) := by decide +kernel
theorem dX8_off_20 : decode cX8_off 20 = .ok (.iload_n 1, 1) := by decide +kernel
theorem dX8_off_21 : decode cX8_off 21 = .ok (.putfield 45, 3) := by decide +kernel
theorem dX8_off_24 : decode cX8_off 24 = .ok (.iload_n 2, 1) := by decide +kernel
theorem dX8_off_25 : decode cX8_off 25 = .ok (.ireturn, 1) := by decide +kernel
set_option maxRecDepth 20000 in
theorem ggX8_even_X8_isPlate : GoodIn wsX8_even wsX8_isPlate := goodIn_r _ [8, 9, 10, 11, 7, 12, 50, 51, 52, 53, 54, 55, 56, 57, 58, 59, 60, 61, 62, 63, 64, 65, 66, 67, 68, 69] (by decide +kernel) (by decide +kernel)
set_option maxRecDepth 20000 in
theorem gX8_even_X8_isPlate : GoodIn wsX8_even (wsV RX8 71 RX8 yX8_isPlate wsX8_isPlate) := goodIn_app (goodIn_of _ (by decide +kernel)) ggX8_even_X8_isPlate
set_option maxRecDepth 20000 in
theorem ggX8_even_X8_findWoods : GoodIn wsX8_even wsX8_findWoods := goodIn_r _ [16, 1, 17, 18, 19, 20, 21, 22, 23, 24, 25, 7, 26, 27, 28, 29, 30, 31, 32, 33, 34, 35, 36, 37, 38, 39, 40, 41, 50, 51, 52, 53, 54, 55, 56, 57, 58, 59, 60, 61, 62, 63, 64, 65, 66, 67, 68, 69] (by decide +kernel) (by decide +kernel)
set_option maxRecDepth 20000 in
theorem gX8_even_X8_findWoods : GoodIn wsX8_even (wsV RX8 114 RX8 yX8_findWoods wsX8_findWoods) := goodIn_app (goodIn_of _ (by decide +kernel)) ggX8_even_X8_findWoods
set_option maxRecDepth 20000 in
theorem ggX8_even_X8_take : GoodIn wsX8_even wsX8_take := goodIn_r _ [26, 27, 50, 51, 52, 53, 54, 55, 56, 57, 58, 59, 60, 61, 62, 63, 64, 65, 66, 67, 68, 69] (by decide +kernel) (by decide +kernel)
set_option maxRecDepth 20000 in
theorem gX8_even_X8_take : GoodIn wsX8_even (wsV RX8 97 RX8 yX8_take wsX8_take) := goodIn_app (goodIn_of _ (by decide +kernel)) ggX8_even_X8_take
set_option maxRecDepth 20000 in
theorem ggX8_even_X8_toneBy : GoodIn wsX8_even wsX8_toneBy := goodIn_r _ [45, 22, 46, 47, 48, 7, 49, 32, 33, 34, 35, 27, 36, 37, 38, 39, 40, 41, 50, 51, 52, 53, 54, 55, 56, 57, 58, 59, 60, 61, 62, 63, 64, 65, 66, 67, 68, 69] (by decide +kernel) (by decide +kernel)
set_option maxRecDepth 20000 in
theorem gX8_even_X8_toneBy : GoodIn wsX8_even (wsV RX8 117 RX8 yX8_toneBy wsX8_toneBy) := goodIn_app (goodIn_of _ (by decide +kernel)) ggX8_even_X8_toneBy
set_option maxRecDepth 20000 in
theorem ggX8_even_X8_in : GoodIn wsX8_even wsX8_in := goodIn_r _ [12] (by decide +kernel) (by decide +kernel)
set_option maxRecDepth 20000 in
theorem gX8_even_X8_in : GoodIn wsX8_even (va_wsS RX8 60 yX8_in wsX8_in) := goodIn_app (goodIn_of _ (by decide +kernel)) ggX8_even_X8_in
theorem dX8_even_0 : decode cX8_even 0 = .ok (.aload_n 0, 1) := by decide +kernel
theorem dX8_even_1 : decode cX8_even 1 = .ok (.iload_n 1, 1) := by decide +kernel
theorem dX8_even_2 : decode cX8_even 2 = .ok (.invokevirtual 71, 3) := by decide +kernel
theorem dX8_even_5 : decode cX8_even 5 = .ok (.ifCond .eq 11, 3) := by decide +kernel
theorem dX8_even_8 : decode cX8_even 8 = .ok (.aload_n 0, 1) := by decide +kernel
theorem dX8_even_9 : decode cX8_even 9 = .ok (.iload_n 2, 1) := by decide +kernel
theorem dX8_even_10 : decode cX8_even 10 = .ok (.invokevirtual 71, 3) := by decide +kernel
theorem dX8_even_13 : decode cX8_even 13 = .ok (.ifCond .ne 6, 3) := by decide +kernel
theorem dX8_even_16 : decode cX8_even 16 = .ok (.bipush (-2), 2) := by decide +kernel
theorem dX8_even_18 : decode cX8_even 18 = .ok (.ireturn, 1) := by decide +kernel
theorem dX8_even_19 : decode cX8_even 19 = .ok (.aload_n 0, 1) := by decide +kernel
theorem dX8_even_20 : decode cX8_even 20 = .ok (.invokevirtual 114, 3) := by decide +kernel
theorem dX8_even_23 : decode cX8_even 23 = .ok (.aload_n 0, 1) := by decide +kernel
theorem dX8_even_24 : decode cX8_even 24 = .ok (.getfield 107, 3) := by decide +kernel
theorem dX8_even_27 : decode cX8_even 27 = .ok (.ifCond .ne 6, 3) := by decide +kernel
theorem dX8_even_30 : decode cX8_even 30 = .ok (.bipush (-3), 2) := by decide +kernel
theorem dX8_even_32 : decode cX8_even 32 = .ok (.ireturn, 1) := by decide +kernel
theorem dX8_even_33 : decode cX8_even 33 = .ok (.iconst 1, 1) := by decide +kernel
theorem dX8_even_34 : decode cX8_even 34 = .ok (.istore_n 3, 1) := by decide +kernel
theorem dX8_even_35 : decode cX8_even 35 = .ok (.iconst 0, 1) := by decide +kernel
theorem dX8_even_36 : decode cX8_even 36 = .ok (.istore 4, 2) := by decide +kernel
theorem dX8_even_38 : decode cX8_even 38 = .ok (.iload 4, 2) := by decide +kernel
theorem dX8_even_40 : decode cX8_even 40 = .ok (.aload_n 0, 1) := by decide +kernel
theorem dX8_even_41 : decode cX8_even 41 = .ok (.getfield 107, 3) := by decide +kernel
theorem dX8_even_44 : decode cX8_even 44 = .ok (.if_icmp .ge 75, 3) := by decide +kernel
theorem dX8_even_47 : decode cX8_even 47 = .ok (.aload_n 0, 1) := by decide +kernel
theorem dX8_even_48 : decode cX8_even 48 = .ok (.aload_n 0, 1) := by decide +kernel
theorem dX8_even_49 : decode cX8_even 49 = .ok (.getfield 7, 3) := by decide +kernel
theorem dX8_even_52 : decode cX8_even 52 = .ok (.iload_n 1, 1) := by decide +kernel
theorem dX8_even_53 : decode cX8_even 53 = .ok (.invokevirtual 97, 3) := by decide +kernel
theorem dX8_even_56 : decode cX8_even 56 = .ok (.aload_n 0, 1) := by decide +kernel
theorem dX8_even_57 : decode cX8_even 57 = .ok (.iload 4, 2) := by decide +kernel
theorem dX8_even_59 : decode cX8_even 59 = .ok (.iconst 0, 1) := by decide +kernel
theorem dX8_even_60 : decode cX8_even 60 = .ok (.invokevirtual 117, 3) := by decide +kernel
theorem dX8_even_63 : decode cX8_even 63 = .ok (.istore 5, 2) := by decide +kernel
theorem dX8_even_65 : decode cX8_even 65 = .ok (.aload_n 0, 1) := by decide +kernel
theorem dX8_even_66 : decode cX8_even 66 = .ok (.aload_n 0, 1) := by decide +kernel
theorem dX8_even_67 : decode cX8_even 67 = .ok (.getfield 7, 3) := by decide +kernel
theorem dX8_even_70 : decode cX8_even 70 = .ok (.iload_n 2, 1) := by decide +kernel
theorem dX8_even_71 : decode cX8_even 71 = .ok (.invokevirtual 97, 3) := by decide +kernel
theorem dX8_even_74 : decode cX8_even 74 = .ok (.iload 5, 2) := by decide +kernel
theorem dX8_even_76 : decode cX8_even 76 = .ok (.aload_n 0, 1) := by decide +kernel
theorem dX8_even_77 : decode cX8_even 77 = .ok (.iload 4, 2) := by decide +kernel
theorem dX8_even_79 : decode cX8_even 79 = .ok (.iconst 0, 1) := by decide +kernel
theorem dX8_even_80 : decode cX8_even 80 = .ok (.invokevirtual 117, 3) := by decide +kernel
theorem dX8_even_83 : decode cX8_even 83 = .ok (.isub, 1) := by decide +kernel
theorem dX8_even_84 : decode cX8_even 84 = .ok (.istore 5, 2) := by decide +kernel
theorem dX8_even_86 : decode cX8_even 86 = .ok (.iload_n 3, 1) := by decide +kernel
theorem dX8_even_87 : decode cX8_even 87 = .ok (.ifCond .eq 24, 3) := by decide +kernel
theorem dX8_even_90 : decode cX8_even 90 = .ok (.iload 5, 2) := by decide +kernel
theorem dX8_even_92 : decode cX8_even 92 = .ok (.aload_n 0, 1) := by decide +kernel
theorem dX8_even_93 : decode cX8_even 93 = .ok (.getfield 45, 3) := by decide +kernel
theorem dX8_even_96 : decode cX8_even 96 = .ok (.ineg, 1) := by decide +kernel
theorem dX8_even_97 : decode cX8_even 97 = .ok (.aload_n 0, 1) := by decide +kernel
theorem dX8_even_98 : decode cX8_even 98 = .ok (.getfield 45, 3) := by decide +kernel
theorem dX8_even_101 : decode cX8_even 101 = .ok (.invokestatic 60, 3) := by decide +kernel
theorem dX8_even_104 : decode cX8_even 104 = .ok (.ifCond .eq 7, 3) := by decide +kernel
theorem dX8_even_107 : decode cX8_even 107 = .ok (.iconst 1, 1) := by decide +kernel
theorem dX8_even_108 : decode cX8_even 108 = .ok (.goto 4, 3) := by decide +kernel
theorem dX8_even_111 : decode cX8_even 111 = .ok (.iconst 0, 1) := by decide +kernel
theorem dX8_even_112 : decode cX8_even 112 = .ok (.istore_n 3, 1) := by decide +kernel
theorem dX8_even_113 : decode cX8_even 113 = .ok (.iinc 4 1, 3) := by decide +kernel
theorem dX8_even_116 : decode cX8_even 116 = .ok (.goto (-78), 3) := by decide +kernel
theorem dX8_even_119 : decode cX8_even 119 = .ok (.iload_n 3, 1) := by decide +kernel
theorem dX8_even_120 : decode cX8_even 120 = .ok (.ifCond .eq 7, 3) := by decide +kernel
theorem dX8_even_123 : decode cX8_even 123 = .ok (.iconst 1, 1) := by decide +kernel
theorem dX8_even_124 : decode cX8_even 124 = .ok (.goto 4, 3) := by decide +kernel
theorem dX8_even_127 : decode cX8_even 127 = .ok (.iconst 0, 1) := by decide +kernel
theorem dX8_even_128 : decode cX8_even 128 = .ok (.ireturn, 1) := by decide +kernel
set_option maxRecDepth 20000 in
theorem ggX8_count_X8_aims : GoodIn wsX8_count wsX8_aims := goodIn_r _ [8, 9, 10, 11, 12, 13, 14, 15, 16, 17, 18, 19, 20, 21, 22, 23, 24, 25, 26, 27, 28, 29] (by decide +kernel) (by decide +kernel)
set_option maxRecDepth 20000 in
theorem gX8_count_X8_aims : GoodIn wsX8_count (wsV RX8 125 RX8 yX8_aims wsX8_aims) := goodIn_app (goodIn_of _ (by decide +kernel)) ggX8_count_X8_aims
theorem dX8_count_0 : decode cX8_count 0 = .ok (.iconst 0, 1) := by decide +kernel
theorem dX8_count_1 : decode cX8_count 1 = .ok (.istore_n 2, 1) := by decide +kernel
theorem dX8_count_2 : decode cX8_count 2 = .ok (.iload_n 1, 1) := by decide +kernel
theorem dX8_count_3 : decode cX8_count 3 = .ok (.tableswitch 71 0 3 #[29, 34, 39, 44], 29) := by decide +kernel
theorem dX8_count_32 : decode cX8_count 32 = .ok (.aload_n 0, 1) := by decide +kernel
theorem dX8_count_33 : decode cX8_count 33 = .ok (.getfield 64, 3) := by decide +kernel
theorem dX8_count_36 : decode cX8_count 36 = .ok (.ireturn, 1) := by decide +kernel
theorem dX8_count_37 : decode cX8_count 37 = .ok (.aload_n 0, 1) := by decide +kernel
theorem dX8_count_38 : decode cX8_count 38 = .ok (.getfield 104, 3) := by decide +kernel
theorem dX8_count_41 : decode cX8_count 41 = .ok (.ireturn, 1) := by decide +kernel
theorem dX8_count_42 : decode cX8_count 42 = .ok (.aload_n 0, 1) := by decide +kernel
theorem dX8_count_43 : decode cX8_count 43 = .ok (.invokevirtual 125, 3) := by decide +kernel
theorem dX8_count_46 : decode cX8_count 46 = .ok (.ireturn, 1) := by decide +kernel
theorem dX8_count_47 : decode cX8_count 47 = .ok (.iconst 0, 1) := by decide +kernel
theorem dX8_count_48 : decode cX8_count 48 = .ok (.istore_n 3, 1) := by decide +kernel
theorem dX8_count_49 : decode cX8_count 49 = .ok (.iload_n 3, 1) := by decide +kernel
theorem dX8_count_50 : decode cX8_count 50 = .ok (.aload_n 0, 1) := by decide +kernel
theorem dX8_count_51 : decode cX8_count 51 = .ok (.getfield 64, 3) := by decide +kernel
theorem dX8_count_54 : decode cX8_count 54 = .ok (.if_icmp .ge 18, 3) := by decide +kernel
theorem dX8_count_57 : decode cX8_count 57 = .ok (.iload_n 2, 1) := by decide +kernel
theorem dX8_count_58 : decode cX8_count 58 = .ok (.aload_n 0, 1) := by decide +kernel
theorem dX8_count_59 : decode cX8_count 59 = .ok (.getfield 17, 3) := by decide +kernel
theorem dX8_count_62 : decode cX8_count 62 = .ok (.iload_n 3, 1) := by decide +kernel
theorem dX8_count_63 : decode cX8_count 63 = .ok (.iaload, 1) := by decide +kernel
theorem dX8_count_64 : decode cX8_count 64 = .ok (.iadd, 1) := by decide +kernel
theorem dX8_count_65 : decode cX8_count 65 = .ok (.istore_n 2, 1) := by decide +kernel
theorem dX8_count_66 : decode cX8_count 66 = .ok (.iinc 3 1, 3) := by decide +kernel
theorem dX8_count_69 : decode cX8_count 69 = .ok (.goto (-20), 3) := by decide +kernel
theorem dX8_count_72 : decode cX8_count 72 = .ok (.iload_n 2, 1) := by decide +kernel
theorem dX8_count_73 : decode cX8_count 73 = .ok (.ireturn, 1) := by decide +kernel
theorem dX8_count_74 : decode cX8_count 74 = .ok (.bipush (-2), 2) := by decide +kernel
theorem dX8_count_76 : decode cX8_count 76 = .ok (.ireturn, 1) := by decide +kernel
theorem dJ9_abs_0f7a4_0 : decode cJ9_abs_0f7a4 0 = .ok (.iload_n 0, 1) := by decide +kernel
theorem dJ9_abs_0f7a4_1 : decode cJ9_abs_0f7a4 1 = .ok (.ifCond .ge 8, 3) := by decide +kernel
theorem dJ9_abs_0f7a4_4 : decode cJ9_abs_0f7a4 4 = .ok (.iload_n 0, 1) := by decide +kernel
theorem dJ9_abs_0f7a4_5 : decode cJ9_abs_0f7a4 5 = .ok (.ineg, 1) := by decide +kernel
theorem dJ9_abs_0f7a4_6 : decode cJ9_abs_0f7a4 6 = .ok (.goto 4, 3) := by decide +kernel
theorem dJ9_abs_0f7a4_9 : decode cJ9_abs_0f7a4 9 = .ok (.iload_n 0, 1) := by decide +kernel
theorem dJ9_abs_0f7a4_10 : decode cJ9_abs_0f7a4 10 = .ok (.ireturn, 1) := by decide +kernel
theorem dJ9_max_7cf53_0 : decode cJ9_max_7cf53 0 = .ok (.iload_n 0, 1) := by decide +kernel
theorem dJ9_max_7cf53_1 : decode cJ9_max_7cf53 1 = .ok (.iload_n 1, 1) := by decide +kernel
theorem dJ9_max_7cf53_2 : decode cJ9_max_7cf53 2 = .ok (.if_icmp .lt 7, 3) := by decide +kernel
theorem dJ9_max_7cf53_5 : decode cJ9_max_7cf53 5 = .ok (.iload_n 0, 1) := by decide +kernel
theorem dJ9_max_7cf53_6 : decode cJ9_max_7cf53 6 = .ok (.goto 4, 3) := by decide +kernel
theorem dJ9_max_7cf53_9 : decode cJ9_max_7cf53 9 = .ok (.iload_n 1, 1) := by decide +kernel
theorem dJ9_max_7cf53_10 : decode cJ9_max_7cf53 10 = .ok (.ireturn, 1) := by decide +kernel
theorem dJ9_min_7cf53_0 : decode cJ9_min_7cf53 0 = .ok (.iload_n 0, 1) := by decide +kernel
theorem dJ9_min_7cf53_1 : decode cJ9_min_7cf53 1 = .ok (.iload_n 1, 1) := by decide +kernel
theorem dJ9_min_7cf53_2 : decode cJ9_min_7cf53 2 = .ok (.if_icmp .gt 7, 3) := by decide +kernel
theorem dJ9_min_7cf53_5 : decode cJ9_min_7cf53 5 = .ok (.iload_n 0, 1) := by decide +kernel
theorem dJ9_min_7cf53_6 : decode cJ9_min_7cf53 6 = .ok (.goto 4, 3) := by decide +kernel
theorem dJ9_min_7cf53_9 : decode cJ9_min_7cf53 9 = .ok (.iload_n 1, 1) := by decide +kernel
theorem dJ9_min_7cf53_10 : decode cJ9_min_7cf53 10 = .ok (.ireturn, 1) := by decide +kernel
theorem dJ7_fill_53178_0 : decode cJ7_fill_53178 0 = .ok (.iconst 0, 1) := by decide +kernel
theorem dJ7_fill_53178_1 : decode cJ7_fill_53178 1 = .ok (.istore_n 2, 1) := by decide +kernel
theorem dJ7_fill_53178_2 : decode cJ7_fill_53178 2 = .ok (.aload_n 0, 1) := by decide +kernel
theorem dJ7_fill_53178_3 : decode cJ7_fill_53178 3 = .ok (.arraylength, 1) := by decide +kernel
theorem dJ7_fill_53178_4 : decode cJ7_fill_53178 4 = .ok (.istore_n 3, 1) := by decide +kernel
theorem dJ7_fill_53178_5 : decode cJ7_fill_53178 5 = .ok (.iload_n 2, 1) := by decide +kernel
theorem dJ7_fill_53178_6 : decode cJ7_fill_53178 6 = .ok (.iload_n 3, 1) := by decide +kernel
theorem dJ7_fill_53178_7 : decode cJ7_fill_53178 7 = .ok (.if_icmp .ge 13, 3) := by decide +kernel
theorem dJ7_fill_53178_10 : decode cJ7_fill_53178 10 = .ok (.aload_n 0, 1) := by decide +kernel
theorem dJ7_fill_53178_11 : decode cJ7_fill_53178 11 = .ok (.iload_n 2, 1) := by decide +kernel
theorem dJ7_fill_53178_12 : decode cJ7_fill_53178 12 = .ok (.iload_n 1, 1) := by decide +kernel
theorem dJ7_fill_53178_13 : decode cJ7_fill_53178 13 = .ok (.iastore, 1) := by decide +kernel
theorem dJ7_fill_53178_14 : decode cJ7_fill_53178 14 = .ok (.iinc 2 1, 3) := by decide +kernel
theorem dJ7_fill_53178_17 : decode cJ7_fill_53178 17 = .ok (.goto (-12), 3) := by decide +kernel
theorem dJ7_fill_53178_20 : decode cJ7_fill_53178 20 = .ok (.return_, 1) := by decide +kernel
