set_option maxRecDepth 20000 in
theorem ggL_law_X7_mirror : GoodIn wsL_law wsX7_mirror := goodIn_r _ [216, 13, 25, 154, 155, 156, 2, 157, 33, 217, 218, 219, 37, 220, 104, 106, 221, 135, 136, 137, 176, 177, 178, 24, 179, 96, 556, 557, 558, 559, 560, 561, 562, 563, 564, 565, 602, 603, 604, 596, 597, 598, 599, 600] (by decide +kernel) (by decide +kernel)
set_option maxRecDepth 20000 in
theorem gL_law_X7_mirror : GoodIn wsL_law (wsV RL 36 RX7 yX7_mirror wsX7_mirror) := goodIn_app (goodIn_of _ (by decide +kernel)) ggL_law_X7_mirror
set_option maxRecDepth 20000 in
theorem ggL_law_X8_mirror : GoodIn wsL_law wsX8_mirror := goodIn_r _ [225, 111, 113, 165, 166, 167, 5, 168, 142, 146, 147, 148, 566, 567, 568, 569, 570, 571, 572, 573, 574, 575, 576, 577, 578, 579, 580, 581, 582, 583, 584, 585] (by decide +kernel) (by decide +kernel)
set_option maxRecDepth 20000 in
theorem gL_law_X8_mirror : GoodIn wsL_law (wsV RL 39 RX8 yX8_mirror wsX8_mirror) := goodIn_app (goodIn_of _ (by decide +kernel)) ggL_law_X8_mirror
set_option maxRecDepth 20000 in
theorem ggL_law_X7_tone : GoodIn wsL_law wsX7_tone := goodIn_r _ [229, 13, 153, 154, 155, 156, 2, 157, 33, 230, 231, 232, 233, 234, 235, 236, 237, 72, 238, 239, 240, 241, 242, 243, 244, 245, 71, 73, 556, 557, 558, 559, 560, 561, 562, 563, 564, 565, 602, 603, 604] (by decide +kernel) (by decide +kernel)
set_option maxRecDepth 20000 in
theorem gL_law_X7_tone : GoodIn wsL_law (wsV RL 40 RX7 yX7_tone wsX7_tone) := goodIn_app (goodIn_of _ (by decide +kernel)) ggL_law_X7_tone
set_option maxRecDepth 20000 in
theorem ggL_law_X8_tone : GoodIn wsL_law wsX8_tone := goodIn_r _ [249, 111, 165, 166, 167, 5, 168, 142, 146, 147, 148, 250, 251, 252, 143, 144, 145, 169, 170, 171, 253, 254, 255, 256, 123, 257, 258, 259, 260, 261, 262, 263, 264, 265, 266, 267, 268, 269, 270, 566, 567, 568, 569, 570, 571, 572, 573, 574, 575, 576, 577, 578, 579, 580, 581, 582, 583, 584, 585] (by decide +kernel) (by decide +kernel)
set_option maxRecDepth 20000 in
theorem gL_law_X8_tone : GoodIn wsL_law (wsV RL 43 RX8 yX8_tone wsX8_tone) := goodIn_app (goodIn_of _ (by decide +kernel)) ggL_law_X8_tone
set_option maxRecDepth 20000 in
theorem ggL_law_X7_below : GoodIn wsL_law wsX7_below := goodIn_r _ [274, 13, 153, 154, 155, 156, 2, 157, 33, 230, 231, 232, 275, 276, 277, 278, 240, 72, 241, 242, 243, 244, 556, 557, 558, 559, 560, 561, 562, 563, 564, 565, 602, 603, 604] (by decide +kernel) (by decide +kernel)
set_option maxRecDepth 20000 in
theorem gL_law_X7_below : GoodIn wsL_law (wsV RL 44 RX7 yX7_below wsX7_below) := goodIn_app (goodIn_of _ (by decide +kernel)) ggL_law_X7_below
set_option maxRecDepth 20000 in
theorem ggL_law_X8_below : GoodIn wsL_law wsX8_below := goodIn_r _ [282, 111, 165, 166, 167, 5, 168, 142, 146, 147, 148, 250, 251, 252, 143, 144, 145, 253, 254, 255, 256, 123, 261, 262, 263, 264, 265, 266, 267, 268, 269, 270, 566, 567, 568, 569, 570, 571, 572, 573, 574, 575, 576, 577, 578, 579, 580, 581, 582, 583, 584, 585] (by decide +kernel) (by decide +kernel)
set_option maxRecDepth 20000 in
theorem gL_law_X8_below : GoodIn wsL_law (wsV RL 47 RX8 yX8_below wsX8_below) := goodIn_app (goodIn_of _ (by decide +kernel)) ggL_law_X8_below
set_option maxRecDepth 20000 in
theorem ggL_law_X7_bond : GoodIn wsL_law wsX7_bond := goodIn_r _ [286, 13, 153, 154, 155, 156, 2, 157, 33, 287, 243, 72, 244, 556, 557, 558, 559, 560, 561, 562, 563, 564, 565, 602, 603, 604] (by decide +kernel) (by decide +kernel)
set_option maxRecDepth 20000 in
theorem gL_law_X7_bond : GoodIn wsL_law (wsV RL 48 RX7 yX7_bond wsX7_bond) := goodIn_app (goodIn_of _ (by decide +kernel)) ggL_law_X7_bond
set_option maxRecDepth 20000 in
theorem ggL_law_X8_bond : GoodIn wsL_law wsX8_bond := goodIn_r _ [291, 111, 165, 166, 167, 5, 168, 142, 146, 147, 148, 143, 144, 145, 253, 254, 255, 256, 123, 265, 266, 267, 268, 269, 270, 566, 567, 568, 569, 570, 571, 572, 573, 574, 575, 576, 577, 578, 579, 580, 581, 582, 583, 584, 585] (by decide +kernel) (by decide +kernel)
set_option maxRecDepth 20000 in
theorem gL_law_X8_bond : GoodIn wsL_law (wsV RL 52 RX8 yX8_bond wsX8_bond) := goodIn_app (goodIn_of _ (by decide +kernel)) ggL_law_X8_bond
set_option maxRecDepth 20000 in
theorem ggL_law_X7_tap : GoodIn wsL_law wsX7_tap := goodIn_r _ [295, 17, 296, 13, 153, 25, 154, 155, 156, 2, 157, 33, 233, 234, 235, 297, 298, 299, 275, 276, 277, 300, 301, 302, 16, 303, 44, 43, 304, 305, 306, 307, 308, 72, 309, 310, 237, 238, 239, 240, 241, 242, 243, 244, 58, 59, 60, 61, 47, 48, 49, 62, 63, 64, 65, 66, 67, 68, 51, 69, 55, 56, 57, 70, 71, 73, 74, 75, 76, 77, 45, 46, 78, 79, 80, 81, 176, 177, 178, 24, 179, 96, 556, 557, 558, 559, 560, 561, 562, 563, 564, 565, 586, 587, 588, 589, 590, 591, 592, 602, 603, 604, 605, 606, 607, 596, 597, 598, 599, 600] (by decide +kernel) (by decide +kernel)
set_option maxRecDepth 20000 in
theorem gL_law_X7_tap : GoodIn wsL_law (wsV RL 53 RX7 yX7_tap wsX7_tap) := goodIn_app (goodIn_of _ (by decide +kernel)) ggL_law_X7_tap
set_option maxRecDepth 20000 in
theorem ggL_law_X8_tap : GoodIn wsL_law wsX8_tap := goodIn_r _ [314, 315, 115, 111, 116, 117, 118, 165, 166, 167, 5, 168, 142, 146, 147, 148, 169, 170, 171, 566, 567, 568, 569, 570, 571, 572, 573, 574, 575, 576, 577, 578, 579, 580, 581, 582, 583, 584, 585] (by decide +kernel) (by decide +kernel)
set_option maxRecDepth 20000 in
theorem gL_law_X8_tap : GoodIn wsL_law (wsV RL 56 RX8 yX8_tap wsX8_tap) := goodIn_app (goodIn_of _ (by decide +kernel)) ggL_law_X8_tap
set_option maxRecDepth 20000 in
theorem ggL_law_X7_untap : GoodIn wsL_law wsX7_untap := goodIn_r _ [319, 17, 296, 25, 320, 321, 322, 16, 323, 44, 43, 58, 59, 60, 61, 47, 48, 49, 62, 63, 64, 65, 66, 67, 68, 51, 69, 55, 56, 57, 70, 71, 72, 73, 74, 75, 76, 77, 45, 46, 78, 79, 80, 81, 176, 177, 178, 24, 179, 96, 556, 557, 558, 559, 560, 561, 562, 563, 564, 565, 586, 587, 588, 589, 590, 591, 592, 605, 606, 607, 596, 597, 598, 599, 600] (by decide +kernel) (by decide +kernel)
set_option maxRecDepth 20000 in
theorem gL_law_X7_untap : GoodIn wsL_law (wsV RL 57 RX7 yX7_untap wsX7_untap) := goodIn_app (goodIn_of _ (by decide +kernel)) ggL_law_X7_untap
set_option maxRecDepth 20000 in
theorem ggL_law_X8_untap : GoodIn wsL_law wsX8_untap := goodIn_r _ [327, 315, 115, 116, 117, 118, 146, 147, 5, 148, 566, 567, 568, 569, 570, 571, 572, 573, 574, 575, 576, 577, 578, 579, 580, 581, 582, 583, 584, 585] (by decide +kernel) (by decide +kernel)
set_option maxRecDepth 20000 in
theorem gL_law_X8_untap : GoodIn wsL_law (wsV RL 60 RX8 yX8_untap wsX8_untap) := goodIn_app (goodIn_of _ (by decide +kernel)) ggL_law_X8_untap
