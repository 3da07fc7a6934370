set_option maxRecDepth 20000 in
theorem ggL_law_X7_woods : GoodIn wsL_law wsX7_woods := goodIn_r _ [331, 17, 332, 556, 557, 558, 559, 560, 561, 562, 563, 564, 565, 586, 587, 588, 589, 590, 591, 592] (by decide +kernel) (by decide +kernel)
set_option maxRecDepth 20000 in
theorem gL_law_X7_woods : GoodIn wsL_law (wsV RL 61 RX7 yX7_woods wsX7_woods) := goodIn_app (goodIn_of _ (by decide +kernel)) ggL_law_X7_woods
set_option maxRecDepth 20000 in
theorem ggL_law_X8_woods : GoodIn wsL_law wsX8_woods := goodIn_r _ [336, 337, 338, 339, 340, 5, 341, 315, 115, 116, 117, 118, 124, 253, 254, 255, 256, 123, 342, 343, 344, 345, 261, 262, 263, 264, 265, 266, 267, 268, 269, 270, 566, 567, 568, 569, 570, 571, 572, 573, 574, 575, 576, 577, 578, 579, 580, 581, 582, 583, 584, 585] (by decide +kernel) (by decide +kernel)
set_option maxRecDepth 20000 in
theorem gL_law_X8_woods : GoodIn wsL_law (wsV RL 65 RX8 yX8_woods wsX8_woods) := goodIn_app (goodIn_of _ (by decide +kernel)) ggL_law_X8_woods
set_option maxRecDepth 20000 in
theorem ggL_law_X7_wood : GoodIn wsL_law wsX7_wood := goodIn_r _ [349, 17, 332, 350, 351, 352, 353, 2, 354, 556, 557, 558, 559, 560, 561, 562, 563, 564, 565, 586, 587, 588, 589, 590, 591, 592] (by decide +kernel) (by decide +kernel)
set_option maxRecDepth 20000 in
theorem gL_law_X7_wood : GoodIn wsL_law (wsV RL 66 RX7 yX7_wood wsX7_wood) := goodIn_app (goodIn_of _ (by decide +kernel)) ggL_law_X7_wood
set_option maxRecDepth 20000 in
theorem ggL_law_X8_wood : GoodIn wsL_law wsX8_wood := goodIn_r _ [358, 337, 124, 338, 339, 340, 5, 341, 315, 115, 116, 117, 118, 253, 254, 255, 256, 123, 342, 343, 344, 345, 261, 262, 263, 264, 265, 266, 267, 268, 269, 270, 146, 147, 148, 566, 567, 568, 569, 570, 571, 572, 573, 574, 575, 576, 577, 578, 579, 580, 581, 582, 583, 584, 585] (by decide +kernel) (by decide +kernel)
set_option maxRecDepth 20000 in
theorem gL_law_X8_wood : GoodIn wsL_law (wsV RL 69 RX8 yX8_wood wsX8_wood) := goodIn_app (goodIn_of _ (by decide +kernel)) ggL_law_X8_wood
set_option maxRecDepth 20000 in
theorem ggL_law_X7_span : GoodIn wsL_law wsX7_span := goodIn_r _ [362, 17, 332, 31, 13, 153, 154, 155, 156, 2, 157, 33, 233, 234, 235, 352, 353, 354, 363, 308, 72, 309, 310, 237, 238, 239, 240, 241, 242, 243, 244, 364, 365, 366, 16, 367, 48, 368, 369, 370, 371, 372, 71, 73, 373, 374, 375, 376, 49, 377, 378, 379, 556, 557, 558, 559, 560, 561, 562, 563, 564, 565, 586, 587, 588, 589, 590, 591, 592, 602, 603, 604] (by decide +kernel) (by decide +kernel)
set_option maxRecDepth 20000 in
theorem gL_law_X7_span : GoodIn wsL_law (wsV RL 70 RX7 yX7_span wsX7_span) := goodIn_app (goodIn_of _ (by decide +kernel)) ggL_law_X7_span
set_option maxRecDepth 20000 in
theorem ggL_law_X8_span : GoodIn wsL_law wsX8_span := goodIn_r _ [383, 337, 111, 165, 166, 167, 5, 168, 142, 146, 147, 148, 169, 170, 171, 338, 339, 340, 341, 315, 115, 116, 117, 118, 124, 253, 254, 255, 256, 123, 342, 343, 344, 345, 261, 262, 263, 264, 265, 266, 267, 268, 269, 270, 384, 385, 386, 387, 257, 258, 259, 260, 566, 567, 568, 569, 570, 571, 572, 573, 574, 575, 576, 577, 578, 579, 580, 581, 582, 583, 584, 585] (by decide +kernel) (by decide +kernel)
set_option maxRecDepth 20000 in
theorem gL_law_X8_span : GoodIn wsL_law (wsV RL 73 RX8 yX8_span wsX8_span) := goodIn_app (goodIn_of _ (by decide +kernel)) ggL_law_X8_span
set_option maxRecDepth 20000 in
theorem ggL_law_X7_next : GoodIn wsL_law wsX7_next := goodIn_r _ [391, 17, 332, 31, 13, 153, 29, 154, 155, 156, 2, 157, 33, 352, 353, 354, 363, 308, 72, 309, 310, 237, 238, 239, 240, 241, 242, 243, 244, 392, 393, 394, 28, 395, 100, 396, 397, 378, 370, 379, 398, 399, 400, 401, 402, 403, 404, 16, 405, 45, 46, 372, 71, 73, 556, 557, 558, 559, 560, 561, 562, 563, 564, 565, 586, 587, 588, 589, 590, 591, 592, 602, 603, 604, 601] (by decide +kernel) (by decide +kernel)
set_option maxRecDepth 20000 in
theorem gL_law_X7_next : GoodIn wsL_law (wsV RL 74 RX7 yX7_next wsX7_next) := goodIn_app (goodIn_of _ (by decide +kernel)) ggL_law_X7_next
set_option maxRecDepth 20000 in
theorem ggL_law_X8_next : GoodIn wsL_law wsX8_next := goodIn_r _ [409, 337, 111, 165, 166, 167, 5, 168, 142, 146, 147, 148, 338, 339, 340, 341, 315, 115, 116, 117, 118, 124, 253, 254, 255, 256, 123, 342, 343, 344, 345, 261, 262, 263, 264, 265, 266, 267, 268, 269, 270, 410, 411, 412, 413, 125, 384, 385, 386, 387, 257, 258, 259, 260, 566, 567, 568, 569, 570, 571, 572, 573, 574, 575, 576, 577, 578, 579, 580, 581, 582, 583, 584, 585] (by decide +kernel) (by decide +kernel)
set_option maxRecDepth 20000 in
theorem gL_law_X8_next : GoodIn wsL_law (wsV RL 77 RX8 yX8_next wsX8_next) := goodIn_app (goodIn_of _ (by decide +kernel)) ggL_law_X8_next
set_option maxRecDepth 20000 in
theorem ggL_law_X7_aim : GoodIn wsL_law wsX7_aim := goodIn_r _ [417, 21, 25, 233, 234, 2, 235, 297, 298, 299, 275, 276, 277, 418, 419, 420, 20, 421, 86, 87, 88, 176, 177, 178, 24, 179, 96, 556, 557, 558, 559, 560, 561, 562, 563, 564, 565, 593, 594, 595, 596, 597, 598, 599, 600] (by decide +kernel) (by decide +kernel)
set_option maxRecDepth 20000 in
theorem gL_law_X7_aim : GoodIn wsL_law (wsV RL 78 RX7 yX7_aim wsX7_aim) := goodIn_app (goodIn_of _ (by decide +kernel)) ggL_law_X7_aim
set_option maxRecDepth 20000 in
theorem ggL_law_X8_aim : GoodIn wsL_law wsX8_aim := goodIn_r _ [425, 119, 120, 121, 169, 170, 5, 171, 146, 147, 148, 566, 567, 568, 569, 570, 571, 572, 573, 574, 575, 576, 577, 578, 579, 580, 581, 582, 583, 584, 585] (by decide +kernel) (by decide +kernel)
set_option maxRecDepth 20000 in
theorem gL_law_X8_aim : GoodIn wsL_law (wsV RL 81 RX8 yX8_aim wsX8_aim) := goodIn_app (goodIn_of _ (by decide +kernel)) ggL_law_X8_aim
set_option maxRecDepth 20000 in
theorem ggL_law_X7_aimless : GoodIn wsL_law wsX7_aimless := goodIn_r _ [429, 21, 25, 430, 431, 432, 20, 433, 86, 434, 435, 436, 437, 176, 177, 178, 24, 179, 96, 556, 557, 558, 559, 560, 561, 562, 563, 564, 565, 593, 594, 595, 596, 597, 598, 599, 600] (by decide +kernel) (by decide +kernel)
set_option maxRecDepth 20000 in
theorem gL_law_X7_aimless : GoodIn wsL_law (wsV RL 82 RX7 yX7_aimless wsX7_aimless) := goodIn_app (goodIn_of _ (by decide +kernel)) ggL_law_X7_aimless
set_option maxRecDepth 20000 in
theorem ggL_law_X8_aimless : GoodIn wsL_law wsX8_aimless := goodIn_r _ [441, 119, 442, 443, 444, 5, 445, 566, 567, 568, 569, 570, 571, 572, 573, 574, 575, 576, 577, 578, 579, 580, 581, 582, 583, 584, 585] (by decide +kernel) (by decide +kernel)
set_option maxRecDepth 20000 in
theorem gL_law_X8_aimless : GoodIn wsL_law (wsV RL 85 RX8 yX8_aimless wsX8_aimless) := goodIn_app (goodIn_of _ (by decide +kernel)) ggL_law_X8_aimless
