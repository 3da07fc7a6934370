set_option maxRecDepth 20000 in
theorem ggL_law_X7_init : GoodIn wsL_law wsX7_init := goodIn_r _ [8, 9, 10, 11, 12, 13, 14, 15, 16, 17, 18, 19, 20, 21, 22, 23, 24, 25, 26, 27, 28, 29, 30, 31, 32, 33, 34, 35, 36, 37, 38, 39, 40, 41, 42, 43, 44, 45, 46, 47, 48, 49, 50, 51, 52, 53, 54, 55, 56, 57, 58, 59, 60, 61, 62, 63, 64, 65, 66, 67, 68, 69, 70, 71, 72, 73, 74, 75, 76, 77, 78, 79, 80, 81, 82, 83, 84, 85, 86, 87, 88, 89, 90, 91, 92, 93, 94, 95, 96, 97, 98, 99, 100, 101, 102, 103, 104, 105, 106, 556, 557, 558, 559, 560, 561, 562, 563, 564, 565, 586, 587, 588, 589, 590, 591, 592, 593, 594, 595, 596, 597, 598, 599, 600, 601, 602, 603, 604, 605, 606, 607] (by decide +kernel) (by decide +kernel)
set_option maxRecDepth 20000 in
theorem gL_law_X7_init : GoodIn wsL_law (wsX7_init) := ggL_law_X7_init
set_option maxRecDepth 20000 in
theorem ggL_law_X8_init : GoodIn wsL_law wsX8_init := goodIn_r _ [109, 110, 10, 11, 30, 111, 112, 113, 114, 115, 116, 117, 118, 85, 119, 120, 121, 122, 123, 124, 125, 126, 566, 567, 568, 569, 570, 571, 572, 573, 574, 575, 576, 577, 578, 579, 580, 581, 582, 583, 584, 585] (by decide +kernel) (by decide +kernel)
set_option maxRecDepth 20000 in
theorem gL_law_X8_init : GoodIn wsL_law (wsX8_init) := ggL_law_X8_init
set_option maxRecDepth 20000 in
theorem ggL_law_X7_plate : GoodIn wsL_law wsX7_plate := goodIn_r _ [130, 33, 13, 131, 132, 2, 133, 134, 135, 136, 37, 137, 104, 556, 557, 558, 559, 560, 561, 562, 563, 564, 565, 602, 603, 604] (by decide +kernel) (by decide +kernel)
set_option maxRecDepth 20000 in
theorem gL_law_X7_plate : GoodIn wsL_law (wsV RL 13 RX7 yX7_plate wsX7_plate) := goodIn_app (goodIn_of _ (by decide +kernel)) ggL_law_X7_plate
set_option maxRecDepth 20000 in
theorem ggL_law_X8_plate : GoodIn wsL_law wsX8_plate := goodIn_r _ [141, 142, 111, 143, 144, 5, 145, 146, 147, 148, 566, 567, 568, 569, 570, 571, 572, 573, 574, 575, 576, 577, 578, 579, 580, 581, 582, 583, 584, 585] (by decide +kernel) (by decide +kernel)
set_option maxRecDepth 20000 in
theorem gL_law_X8_plate : GoodIn wsL_law (wsV RL 17 RX8 yX8_plate wsX8_plate) := goodIn_app (goodIn_of _ (by decide +kernel)) ggL_law_X8_plate
set_option maxRecDepth 20000 in
theorem ggL_law_X7_thick : GoodIn wsL_law wsX7_thick := goodIn_r _ [152, 13, 153, 154, 155, 156, 2, 157, 33, 158, 159, 160, 556, 557, 558, 559, 560, 561, 562, 563, 564, 565, 602, 603, 604] (by decide +kernel) (by decide +kernel)
set_option maxRecDepth 20000 in
theorem gL_law_X7_thick : GoodIn wsL_law (wsV RL 18 RX7 yX7_thick wsX7_thick) := goodIn_app (goodIn_of _ (by decide +kernel)) ggL_law_X7_thick
set_option maxRecDepth 20000 in
theorem ggL_law_X8_thick : GoodIn wsL_law wsX8_thick := goodIn_r _ [164, 111, 165, 166, 167, 5, 168, 142, 146, 147, 148, 169, 170, 171, 566, 567, 568, 569, 570, 571, 572, 573, 574, 575, 576, 577, 578, 579, 580, 581, 582, 583, 584, 585] (by decide +kernel) (by decide +kernel)
set_option maxRecDepth 20000 in
theorem gL_law_X8_thick : GoodIn wsL_law (wsV RL 22 RX8 yX8_thick wsX8_thick) := goodIn_app (goodIn_of _ (by decide +kernel)) ggL_law_X8_thick
set_option maxRecDepth 20000 in
theorem ggL_law_X7_least : GoodIn wsL_law wsX7_least := goodIn_r _ [175, 34, 25, 131, 132, 2, 133, 176, 177, 178, 24, 179, 96, 556, 557, 558, 559, 560, 561, 562, 563, 564, 565, 596, 597, 598, 599, 600] (by decide +kernel) (by decide +kernel)
set_option maxRecDepth 20000 in
theorem gL_law_X7_least : GoodIn wsL_law (wsV RL 23 RX7 yX7_least wsX7_least) := goodIn_app (goodIn_of _ (by decide +kernel)) ggL_law_X7_least
set_option maxRecDepth 20000 in
theorem ggL_law_X8_least : GoodIn wsL_law wsX8_least := goodIn_r _ [183, 112, 143, 144, 5, 145, 146, 147, 148, 566, 567, 568, 569, 570, 571, 572, 573, 574, 575, 576, 577, 578, 579, 580, 581, 582, 583, 584, 585] (by decide +kernel) (by decide +kernel)
set_option maxRecDepth 20000 in
theorem gL_law_X8_least : GoodIn wsL_law (wsV RL 27 RX8 yX8_least wsX8_least) := goodIn_app (goodIn_of _ (by decide +kernel)) ggL_law_X8_least
set_option maxRecDepth 20000 in
theorem ggL_law_X7_shave : GoodIn wsL_law wsX7_shave := goodIn_r _ [187, 13, 153, 34, 188, 25, 154, 155, 156, 2, 157, 33, 158, 159, 160, 189, 190, 191, 37, 192, 106, 104, 105, 176, 177, 178, 24, 179, 96, 556, 557, 558, 559, 560, 561, 562, 563, 564, 565, 602, 603, 604, 596, 597, 598, 599, 600] (by decide +kernel) (by decide +kernel)
set_option maxRecDepth 20000 in
theorem gL_law_X7_shave : GoodIn wsL_law (wsV RL 28 RX7 yX7_shave wsX7_shave) := goodIn_app (goodIn_of _ (by decide +kernel)) ggL_law_X7_shave
set_option maxRecDepth 20000 in
theorem ggL_law_X8_shave : GoodIn wsL_law wsX8_shave := goodIn_r _ [196, 111, 112, 113, 165, 166, 167, 5, 168, 142, 146, 147, 148, 169, 170, 171, 197, 198, 199, 200, 114, 566, 567, 568, 569, 570, 571, 572, 573, 574, 575, 576, 577, 578, 579, 580, 581, 582, 583, 584, 585] (by decide +kernel) (by decide +kernel)
set_option maxRecDepth 20000 in
theorem gL_law_X8_shave : GoodIn wsL_law (wsV RL 31 RX8 yX8_shave wsX8_shave) := goodIn_app (goodIn_of _ (by decide +kernel)) ggL_law_X8_shave
set_option maxRecDepth 20000 in
theorem ggL_law_X7_undo : GoodIn wsL_law wsX7_undo := goodIn_r _ [204, 13, 188, 25, 154, 155, 156, 2, 157, 33, 176, 177, 178, 24, 179, 96, 205, 206, 207, 37, 208, 106, 105, 104, 556, 557, 558, 559, 560, 561, 562, 563, 564, 565, 602, 603, 604, 596, 597, 598, 599, 600] (by decide +kernel) (by decide +kernel)
set_option maxRecDepth 20000 in
theorem gL_law_X7_undo : GoodIn wsL_law (wsV RL 32 RX7 yX7_undo wsX7_undo) := goodIn_app (goodIn_of _ (by decide +kernel)) ggL_law_X7_undo
set_option maxRecDepth 20000 in
theorem ggL_law_X8_undo : GoodIn wsL_law wsX8_undo := goodIn_r _ [212, 113, 114, 111, 165, 166, 167, 5, 168, 142, 146, 147, 148, 566, 567, 568, 569, 570, 571, 572, 573, 574, 575, 576, 577, 578, 579, 580, 581, 582, 583, 584, 585] (by decide +kernel) (by decide +kernel)
set_option maxRecDepth 20000 in
theorem gL_law_X8_undo : GoodIn wsL_law (wsV RL 35 RX8 yX8_undo wsX8_undo) := goodIn_app (goodIn_of _ (by decide +kernel)) ggL_law_X8_undo
