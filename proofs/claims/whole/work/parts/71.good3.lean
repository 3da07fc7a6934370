set_option maxRecDepth 20000 in
theorem ggL_law_X7_plan : GoodIn wsL_law wsX7_plan := goodIn_r _ [450, 17, 332, 25, 451, 154, 155, 156, 2, 157, 33, 452, 453, 454, 455, 456, 13, 153, 34, 21, 457, 458, 459, 24, 460, 93, 461, 379, 371, 380, 95, 462, 463, 464, 465, 466, 370, 372, 94, 467, 468, 469, 470, 92, 471, 472, 473, 20, 474, 86, 475, 87, 476, 88, 477, 240, 72, 241, 242, 243, 244, 557, 558, 559, 560, 561, 562, 563, 564, 565, 566, 587, 588, 589, 590, 591, 592, 593, 597, 598, 599, 600, 601, 603, 604, 605, 594, 595, 596] (by decide +kernel) (by decide +kernel)
set_option maxRecDepth 20000 in
theorem gL_law_X7_plan : GoodIn wsL_law (wsV RL 86 RX7 yX7_plan wsX7_plan) := goodIn_app (goodIn_of _ (by decide +kernel)) ggL_law_X7_plan
set_option maxRecDepth 20000 in
theorem ggL_law_X8_plan : GoodIn wsL_law wsX8_plan := goodIn_r _ [481, 337, 482, 165, 166, 167, 5, 168, 142, 146, 147, 148, 338, 339, 340, 341, 315, 115, 116, 117, 118, 124, 253, 254, 255, 256, 123, 342, 343, 344, 345, 261, 262, 263, 264, 265, 266, 267, 268, 269, 270, 483, 484, 485, 486, 111, 126, 487, 488, 489, 490, 112, 491, 492, 493, 494, 119, 120, 121, 567, 568, 569, 570, 571, 572, 573, 574, 575, 576, 577, 578, 579, 580, 581, 582, 583, 584, 585, 586] (by decide +kernel) (by decide +kernel)
set_option maxRecDepth 20000 in
theorem gL_law_X8_plan : GoodIn wsL_law (wsV RL 89 RX8 yX8_plan wsX8_plan) := goodIn_app (goodIn_of _ (by decide +kernel)) ggL_law_X8_plan
set_option maxRecDepth 20000 in
theorem ggL_law_X7_planned : GoodIn wsL_law wsX7_planned := goodIn_r _ [498, 17, 332, 25, 154, 155, 156, 2, 157, 33, 452, 453, 454, 455, 456, 13, 153, 34, 21, 457, 458, 459, 24, 460, 93, 461, 379, 371, 380, 95, 462, 463, 464, 465, 466, 370, 372, 94, 467, 468, 469, 470, 92, 471, 472, 473, 20, 474, 86, 475, 87, 476, 88, 477, 240, 72, 241, 242, 243, 244, 499, 500, 501, 502, 557, 558, 559, 560, 561, 562, 563, 564, 565, 566, 587, 588, 589, 590, 591, 592, 593, 597, 598, 599, 600, 601, 603, 604, 605, 594, 595, 596] (by decide +kernel) (by decide +kernel)
set_option maxRecDepth 20000 in
theorem gL_law_X7_planned : GoodIn wsL_law (wsV RL 90 RX7 yX7_planned wsX7_planned) := goodIn_app (goodIn_of _ (by decide +kernel)) ggL_law_X7_planned
set_option maxRecDepth 20000 in
theorem ggL_law_X8_planned : GoodIn wsL_law wsX8_planned := goodIn_r _ [506, 337, 482, 111, 126, 165, 166, 167, 5, 168, 142, 146, 147, 148, 338, 339, 340, 341, 315, 115, 116, 117, 118, 124, 253, 254, 255, 256, 123, 342, 343, 344, 345, 261, 262, 263, 264, 265, 266, 267, 268, 269, 270, 483, 484, 485, 486, 487, 488, 489, 490, 112, 491, 492, 493, 494, 119, 120, 121, 567, 568, 569, 570, 571, 572, 573, 574, 575, 576, 577, 578, 579, 580, 581, 582, 583, 584, 585, 586] (by decide +kernel) (by decide +kernel)
set_option maxRecDepth 20000 in
theorem gL_law_X8_planned : GoodIn wsL_law (wsV RL 93 RX8 yX8_planned wsX8_planned) := goodIn_app (goodIn_of _ (by decide +kernel)) ggL_law_X8_planned
set_option maxRecDepth 20000 in
theorem ggL_law_X7_carve : GoodIn wsL_law wsX7_carve := goodIn_r _ [510, 17, 332, 25, 451, 13, 188, 511, 154, 155, 156, 2, 157, 33, 452, 453, 454, 455, 456, 153, 34, 21, 457, 458, 459, 24, 460, 93, 461, 379, 371, 380, 95, 462, 463, 464, 465, 466, 370, 372, 94, 467, 468, 469, 470, 92, 471, 472, 473, 20, 474, 86, 475, 87, 476, 88, 477, 240, 72, 241, 242, 243, 244, 512, 513, 514, 37, 515, 516, 190, 191, 192, 106, 104, 105, 159, 160, 176, 177, 178, 179, 96, 557, 558, 559, 560, 561, 562, 563, 564, 565, 566, 587, 588, 589, 590, 591, 592, 593, 597, 598, 599, 600, 601, 603, 604, 605, 594, 595, 596] (by decide +kernel) (by decide +kernel)
set_option maxRecDepth 20000 in
theorem gL_law_X7_carve : GoodIn wsL_law (wsV RL 94 RX7 yX7_carve wsX7_carve) := goodIn_app (goodIn_of _ (by decide +kernel)) ggL_law_X7_carve
set_option maxRecDepth 20000 in
theorem ggL_law_X8_carve : GoodIn wsL_law wsX8_carve := goodIn_r _ [520, 337, 482, 113, 111, 126, 165, 166, 167, 5, 168, 142, 146, 147, 148, 338, 339, 340, 341, 315, 115, 116, 117, 118, 124, 253, 254, 255, 256, 123, 342, 343, 344, 345, 261, 262, 263, 264, 265, 266, 267, 268, 269, 270, 483, 484, 485, 486, 487, 488, 489, 490, 112, 491, 492, 493, 494, 119, 120, 121, 197, 198, 199, 200, 114, 567, 568, 569, 570, 571, 572, 573, 574, 575, 576, 577, 578, 579, 580, 581, 582, 583, 584, 585, 586] (by decide +kernel) (by decide +kernel)
set_option maxRecDepth 20000 in
theorem gL_law_X8_carve : GoodIn wsL_law (wsV RL 97 RX8 yX8_carve wsX8_carve) := goodIn_app (goodIn_of _ (by decide +kernel)) ggL_law_X8_carve
set_option maxRecDepth 20000 in
theorem ggL_law_X7_off : GoodIn wsL_law wsX7_off := goodIn_r _ [524, 35, 557, 558, 559, 560, 561, 562, 563, 564, 565, 566] (by decide +kernel) (by decide +kernel)
set_option maxRecDepth 20000 in
theorem gL_law_X7_off : GoodIn wsL_law (wsV RL 98 RX7 yX7_off wsX7_off) := goodIn_app (goodIn_of _ (by decide +kernel)) ggL_law_X7_off
set_option maxRecDepth 20000 in
theorem ggL_law_X8_off : GoodIn wsL_law wsX8_off := goodIn_r _ [528, 122, 146, 147, 5, 148, 567, 568, 569, 570, 571, 572, 573, 574, 575, 576, 577, 578, 579, 580, 581, 582, 583, 584, 585, 586] (by decide +kernel) (by decide +kernel)
set_option maxRecDepth 20000 in
theorem gL_law_X8_off : GoodIn wsL_law (wsV RL 101 RX8 yX8_off wsX8_off) := goodIn_app (goodIn_of _ (by decide +kernel)) ggL_law_X8_off
set_option maxRecDepth 20000 in
theorem ggL_law_X7_even : GoodIn wsL_law wsX7_even := goodIn_r _ [532, 17, 332, 31, 13, 153, 32, 35, 154, 155, 156, 2, 157, 33, 363, 308, 72, 309, 310, 237, 238, 239, 240, 241, 242, 243, 244, 533, 534, 535, 16, 536, 47, 537, 538, 371, 539, 378, 379, 380, 540, 404, 405, 406, 45, 46, 373, 71, 73, 557, 558, 559, 560, 561, 562, 563, 564, 565, 566, 587, 588, 589, 590, 591, 592, 593, 603, 604, 605] (by decide +kernel) (by decide +kernel)
set_option maxRecDepth 20000 in
theorem gL_law_X7_even : GoodIn wsL_law (wsV RL 102 RX7 yX7_even wsX7_even) := goodIn_app (goodIn_of _ (by decide +kernel)) ggL_law_X7_even
set_option maxRecDepth 20000 in
theorem ggL_law_X8_even : GoodIn wsL_law wsX8_even := goodIn_r _ [544, 337, 111, 122, 165, 166, 167, 5, 168, 142, 146, 147, 148, 338, 339, 340, 341, 315, 115, 116, 117, 118, 124, 253, 254, 255, 256, 123, 342, 343, 344, 345, 261, 262, 263, 264, 265, 266, 267, 268, 269, 270, 385, 386, 387, 388, 257, 258, 259, 260, 567, 568, 569, 570, 571, 572, 573, 574, 575, 576, 577, 578, 579, 580, 581, 582, 583, 584, 585, 586] (by decide +kernel) (by decide +kernel)
set_option maxRecDepth 20000 in
theorem gL_law_X8_even : GoodIn wsL_law (wsV RL 105 RX8 yX8_even wsX8_even) := goodIn_app (goodIn_of _ (by decide +kernel)) ggL_law_X8_even
set_option maxRecDepth 20000 in
theorem ggL_law_X7_count : GoodIn wsL_law wsX7_count := goodIn_r _ [548, 33, 17, 296, 21, 431, 432, 433, 20, 434, 86, 549, 550, 551, 2, 552, 13, 188, 557, 558, 559, 560, 561, 562, 563, 564, 565, 566, 587, 588, 589, 590, 591, 592, 593, 594, 595, 596, 603, 604, 605] (by decide +kernel) (by decide +kernel)
set_option maxRecDepth 20000 in
theorem gL_law_X7_count : GoodIn wsL_law (wsV RL 106 RX7 yX7_count wsX7_count) := goodIn_app (goodIn_of _ (by decide +kernel)) ggL_law_X7_count
set_option maxRecDepth 20000 in
theorem ggL_law_X8_count : GoodIn wsL_law wsX8_count := goodIn_r _ [556, 142, 315, 113, 443, 444, 445, 5, 446, 119, 567, 568, 569, 570, 571, 572, 573, 574, 575, 576, 577, 578, 579, 580, 581, 582, 583, 584, 585, 586] (by decide +kernel) (by decide +kernel)
set_option maxRecDepth 20000 in
theorem gL_law_X8_count : GoodIn wsL_law (wsV RL 109 RX8 yX8_count wsX8_count) := goodIn_app (goodIn_of _ (by decide +kernel)) ggL_law_X8_count
