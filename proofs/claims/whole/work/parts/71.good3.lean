set_option maxRecDepth 20000 in
theorem ggL_law_X7_plan : GoodIn wsL_law wsX7_plan := goodIn_r _ [449, 17, 332, 25, 450, 154, 155, 156, 2, 157, 33, 451, 452, 453, 454, 455, 13, 153, 34, 21, 456, 457, 458, 24, 459, 93, 460, 378, 370, 379, 95, 461, 462, 463, 464, 465, 369, 371, 94, 466, 467, 468, 469, 92, 470, 471, 472, 20, 473, 86, 474, 87, 475, 88, 476, 240, 72, 241, 242, 243, 244, 556, 557, 558, 559, 560, 561, 562, 563, 564, 565, 586, 587, 588, 589, 590, 591, 592, 596, 597, 598, 599, 600, 602, 603, 604, 593, 594, 595] (by decide +kernel) (by decide +kernel)
set_option maxRecDepth 20000 in
theorem gL_law_X7_plan : GoodIn wsL_law (wsV RL 86 RX7 yX7_plan wsX7_plan) := goodIn_app (goodIn_of _ (by decide +kernel)) ggL_law_X7_plan
set_option maxRecDepth 20000 in
theorem ggL_law_X8_plan : GoodIn wsL_law wsX8_plan := goodIn_r _ [480, 337, 481, 165, 166, 167, 5, 168, 142, 146, 147, 148, 338, 339, 340, 341, 315, 115, 116, 117, 118, 124, 253, 254, 255, 256, 123, 342, 343, 344, 345, 261, 262, 263, 264, 265, 266, 267, 268, 269, 270, 482, 483, 484, 485, 111, 126, 486, 487, 488, 489, 112, 490, 491, 492, 493, 119, 120, 121, 566, 567, 568, 569, 570, 571, 572, 573, 574, 575, 576, 577, 578, 579, 580, 581, 582, 583, 584, 585] (by decide +kernel) (by decide +kernel)
set_option maxRecDepth 20000 in
theorem gL_law_X8_plan : GoodIn wsL_law (wsV RL 89 RX8 yX8_plan wsX8_plan) := goodIn_app (goodIn_of _ (by decide +kernel)) ggL_law_X8_plan
set_option maxRecDepth 20000 in
theorem ggL_law_X7_planned : GoodIn wsL_law wsX7_planned := goodIn_r _ [497, 17, 332, 25, 154, 155, 156, 2, 157, 33, 451, 452, 453, 454, 455, 13, 153, 34, 21, 456, 457, 458, 24, 459, 93, 460, 378, 370, 379, 95, 461, 462, 463, 464, 465, 369, 371, 94, 466, 467, 468, 469, 92, 470, 471, 472, 20, 473, 86, 474, 87, 475, 88, 476, 240, 72, 241, 242, 243, 244, 498, 499, 500, 501, 556, 557, 558, 559, 560, 561, 562, 563, 564, 565, 586, 587, 588, 589, 590, 591, 592, 596, 597, 598, 599, 600, 602, 603, 604, 593, 594, 595] (by decide +kernel) (by decide +kernel)
set_option maxRecDepth 20000 in
theorem gL_law_X7_planned : GoodIn wsL_law (wsV RL 90 RX7 yX7_planned wsX7_planned) := goodIn_app (goodIn_of _ (by decide +kernel)) ggL_law_X7_planned
set_option maxRecDepth 20000 in
theorem ggL_law_X8_planned : GoodIn wsL_law wsX8_planned := goodIn_r _ [505, 337, 481, 111, 126, 165, 166, 167, 5, 168, 142, 146, 147, 148, 338, 339, 340, 341, 315, 115, 116, 117, 118, 124, 253, 254, 255, 256, 123, 342, 343, 344, 345, 261, 262, 263, 264, 265, 266, 267, 268, 269, 270, 482, 483, 484, 485, 486, 487, 488, 489, 112, 490, 491, 492, 493, 119, 120, 121, 566, 567, 568, 569, 570, 571, 572, 573, 574, 575, 576, 577, 578, 579, 580, 581, 582, 583, 584, 585] (by decide +kernel) (by decide +kernel)
set_option maxRecDepth 20000 in
theorem gL_law_X8_planned : GoodIn wsL_law (wsV RL 93 RX8 yX8_planned wsX8_planned) := goodIn_app (goodIn_of _ (by decide +kernel)) ggL_law_X8_planned
set_option maxRecDepth 20000 in
theorem ggL_law_X7_carve : GoodIn wsL_law wsX7_carve := goodIn_r _ [509, 17, 332, 25, 450, 13, 188, 510, 154, 155, 156, 2, 157, 33, 451, 452, 453, 454, 455, 153, 34, 21, 456, 457, 458, 24, 459, 93, 460, 378, 370, 379, 95, 461, 462, 463, 464, 465, 369, 371, 94, 466, 467, 468, 469, 92, 470, 471, 472, 20, 473, 86, 474, 87, 475, 88, 476, 240, 72, 241, 242, 243, 244, 511, 512, 513, 37, 514, 515, 190, 191, 192, 106, 104, 105, 159, 160, 176, 177, 178, 179, 96, 556, 557, 558, 559, 560, 561, 562, 563, 564, 565, 586, 587, 588, 589, 590, 591, 592, 596, 597, 598, 599, 600, 602, 603, 604, 593, 594, 595] (by decide +kernel) (by decide +kernel)
set_option maxRecDepth 20000 in
theorem gL_law_X7_carve : GoodIn wsL_law (wsV RL 94 RX7 yX7_carve wsX7_carve) := goodIn_app (goodIn_of _ (by decide +kernel)) ggL_law_X7_carve
set_option maxRecDepth 20000 in
theorem ggL_law_X8_carve : GoodIn wsL_law wsX8_carve := goodIn_r _ [519, 337, 481, 113, 111, 126, 165, 166, 167, 5, 168, 142, 146, 147, 148, 338, 339, 340, 341, 315, 115, 116, 117, 118, 124, 253, 254, 255, 256, 123, 342, 343, 344, 345, 261, 262, 263, 264, 265, 266, 267, 268, 269, 270, 482, 483, 484, 485, 486, 487, 488, 489, 112, 490, 491, 492, 493, 119, 120, 121, 197, 198, 199, 200, 114, 566, 567, 568, 569, 570, 571, 572, 573, 574, 575, 576, 577, 578, 579, 580, 581, 582, 583, 584, 585] (by decide +kernel) (by decide +kernel)
set_option maxRecDepth 20000 in
theorem gL_law_X8_carve : GoodIn wsL_law (wsV RL 97 RX8 yX8_carve wsX8_carve) := goodIn_app (goodIn_of _ (by decide +kernel)) ggL_law_X8_carve
set_option maxRecDepth 20000 in
theorem ggL_law_X7_off : GoodIn wsL_law wsX7_off := goodIn_r _ [523, 35, 556, 557, 558, 559, 560, 561, 562, 563, 564, 565] (by decide +kernel) (by decide +kernel)
set_option maxRecDepth 20000 in
theorem gL_law_X7_off : GoodIn wsL_law (wsV RL 98 RX7 yX7_off wsX7_off) := goodIn_app (goodIn_of _ (by decide +kernel)) ggL_law_X7_off
set_option maxRecDepth 20000 in
theorem ggL_law_X8_off : GoodIn wsL_law wsX8_off := goodIn_r _ [527, 122, 146, 147, 5, 148, 566, 567, 568, 569, 570, 571, 572, 573, 574, 575, 576, 577, 578, 579, 580, 581, 582, 583, 584, 585] (by decide +kernel) (by decide +kernel)
set_option maxRecDepth 20000 in
theorem gL_law_X8_off : GoodIn wsL_law (wsV RL 101 RX8 yX8_off wsX8_off) := goodIn_app (goodIn_of _ (by decide +kernel)) ggL_law_X8_off
set_option maxRecDepth 20000 in
theorem ggL_law_X7_even : GoodIn wsL_law wsX7_even := goodIn_r _ [531, 17, 332, 31, 13, 153, 32, 35, 154, 155, 156, 2, 157, 33, 363, 308, 72, 309, 310, 237, 238, 239, 240, 241, 242, 243, 244, 532, 533, 534, 16, 535, 47, 536, 537, 370, 538, 377, 378, 379, 539, 403, 404, 405, 45, 46, 372, 71, 73, 556, 557, 558, 559, 560, 561, 562, 563, 564, 565, 586, 587, 588, 589, 590, 591, 592, 602, 603, 604] (by decide +kernel) (by decide +kernel)
set_option maxRecDepth 20000 in
theorem gL_law_X7_even : GoodIn wsL_law (wsV RL 102 RX7 yX7_even wsX7_even) := goodIn_app (goodIn_of _ (by decide +kernel)) ggL_law_X7_even
set_option maxRecDepth 20000 in
theorem ggL_law_X8_even : GoodIn wsL_law wsX8_even := goodIn_r _ [543, 337, 111, 122, 165, 166, 167, 5, 168, 142, 146, 147, 148, 338, 339, 340, 341, 315, 115, 116, 117, 118, 124, 253, 254, 255, 256, 123, 342, 343, 344, 345, 261, 262, 263, 264, 265, 266, 267, 268, 269, 270, 384, 385, 386, 387, 257, 258, 259, 260, 566, 567, 568, 569, 570, 571, 572, 573, 574, 575, 576, 577, 578, 579, 580, 581, 582, 583, 584, 585] (by decide +kernel) (by decide +kernel)
set_option maxRecDepth 20000 in
theorem gL_law_X8_even : GoodIn wsL_law (wsV RL 105 RX8 yX8_even wsX8_even) := goodIn_app (goodIn_of _ (by decide +kernel)) ggL_law_X8_even
set_option maxRecDepth 20000 in
theorem ggL_law_X7_count : GoodIn wsL_law wsX7_count := goodIn_r _ [547, 33, 17, 296, 21, 430, 431, 432, 20, 433, 86, 548, 549, 550, 2, 551, 13, 188, 556, 557, 558, 559, 560, 561, 562, 563, 564, 565, 586, 587, 588, 589, 590, 591, 592, 593, 594, 595, 602, 603, 604] (by decide +kernel) (by decide +kernel)
set_option maxRecDepth 20000 in
theorem gL_law_X7_count : GoodIn wsL_law (wsV RL 106 RX7 yX7_count wsX7_count) := goodIn_app (goodIn_of _ (by decide +kernel)) ggL_law_X7_count
set_option maxRecDepth 20000 in
theorem ggL_law_X8_count : GoodIn wsL_law wsX8_count := goodIn_r _ [555, 142, 315, 113, 442, 443, 444, 5, 445, 119, 566, 567, 568, 569, 570, 571, 572, 573, 574, 575, 576, 577, 578, 579, 580, 581, 582, 583, 584, 585] (by decide +kernel) (by decide +kernel)
set_option maxRecDepth 20000 in
theorem gL_law_X8_count : GoodIn wsL_law (wsV RL 109 RX8 yX8_count wsX8_count) := goodIn_app (goodIn_of _ (by decide +kernel)) ggL_law_X8_count
