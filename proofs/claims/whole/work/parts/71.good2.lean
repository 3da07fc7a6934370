set_option maxRecDepth 20000 in
theorem ggL_law_X7_woods : GoodIn wsL_law wsX7_woods := goodIn_r _ [331, 17, 332, 557, 558, 559, 560, 561, 562, 563, 564, 565, 566, 587, 588, 589, 590, 591, 592, 593] (by decide +kernel) (by decide +kernel)
set_option maxRecDepth 20000 in
theorem gL_law_X7_woods : GoodIn wsL_law (wsV RL 61 RX7 yX7_woods wsX7_woods) := goodIn_app (goodIn_of _ (by decide +kernel)) ggL_law_X7_woods
set_option maxRecDepth 20000 in
theorem ggL_law_X8_woods : GoodIn wsL_law wsX8_woods := goodIn_r _ [336, 337, 338, 339, 340, 5, 341, 315, 115, 116, 117, 118, 124, 253, 254, 255, 256, 123, 342, 343, 344, 345, 261, 262, 263, 264, 265, 266, 267, 268, 269, 270, 567, 568, 569, 570, 571, 572, 573, 574, 575, 576, 577, 578, 579, 580, 581, 582, 583, 584, 585, 586] (by decide +kernel) (by decide +kernel)
set_option maxRecDepth 20000 in
theorem gL_law_X8_woods : GoodIn wsL_law (wsV RL 65 RX8 yX8_woods wsX8_woods) := goodIn_app (goodIn_of _ (by decide +kernel)) ggL_law_X8_woods
set_option maxRecDepth 20000 in
theorem ggL_law_X7_wood : GoodIn wsL_law wsX7_wood := goodIn_r _ [349, 17, 332, 350, 351, 352, 353, 2, 354, 557, 558, 559, 560, 561, 562, 563, 564, 565, 566, 587, 588, 589, 590, 591, 592, 593] (by decide +kernel) (by decide +kernel)
set_option maxRecDepth 20000 in
theorem gL_law_X7_wood : GoodIn wsL_law (wsV RL 66 RX7 yX7_wood wsX7_wood) := goodIn_app (goodIn_of _ (by decide +kernel)) ggL_law_X7_wood
set_option maxRecDepth 20000 in
theorem ggL_law_X8_wood : GoodIn wsL_law wsX8_wood := goodIn_r _ [358, 337, 124, 338, 339, 340, 5, 341, 315, 115, 116, 117, 118, 253, 254, 255, 256, 123, 342, 343, 344, 345, 261, 262, 263, 264, 265, 266, 267, 268, 269, 270, 146, 147, 148, 567, 568, 569, 570, 571, 572, 573, 574, 575, 576, 577, 578, 579, 580, 581, 582, 583, 584, 585, 586] (by decide +kernel) (by decide +kernel)
set_option maxRecDepth 20000 in
theorem gL_law_X8_wood : GoodIn wsL_law (wsV RL 69 RX8 yX8_wood wsX8_wood) := goodIn_app (goodIn_of _ (by decide +kernel)) ggL_law_X8_wood
set_option maxRecDepth 20000 in
theorem ggL_law_X7_span : GoodIn wsL_law wsX7_span := goodIn_r _ [362, 17, 332, 31, 13, 153, 154, 155, 156, 2, 157, 33, 233, 234, 235, 352, 353, 354, 363, 308, 72, 309, 310, 237, 238, 239, 240, 241, 242, 243, 244, 364, 365, 366, 16, 367, 368, 48, 369, 370, 371, 372, 373, 71, 73, 374, 375, 376, 377, 49, 378, 379, 380, 557, 558, 559, 560, 561, 562, 563, 564, 565, 566, 587, 588, 589, 590, 591, 592, 593, 603, 604, 605] (by decide +kernel) (by decide +kernel)
set_option maxRecDepth 20000 in
theorem gL_law_X7_span : GoodIn wsL_law (wsV RL 70 RX7 yX7_span wsX7_span) := goodIn_app (goodIn_of _ (by decide +kernel)) ggL_law_X7_span
set_option maxRecDepth 20000 in
theorem ggL_law_X8_span : GoodIn wsL_law wsX8_span := goodIn_r _ [384, 337, 111, 165, 166, 167, 5, 168, 142, 146, 147, 148, 169, 170, 171, 338, 339, 340, 341, 315, 115, 116, 117, 118, 124, 253, 254, 255, 256, 123, 342, 343, 344, 345, 261, 262, 263, 264, 265, 266, 267, 268, 269, 270, 385, 386, 387, 388, 257, 258, 259, 260, 567, 568, 569, 570, 571, 572, 573, 574, 575, 576, 577, 578, 579, 580, 581, 582, 583, 584, 585, 586] (by decide +kernel) (by decide +kernel)
set_option maxRecDepth 20000 in
theorem gL_law_X8_span : GoodIn wsL_law (wsV RL 73 RX8 yX8_span wsX8_span) := goodIn_app (goodIn_of _ (by decide +kernel)) ggL_law_X8_span
set_option maxRecDepth 20000 in
theorem ggL_law_X7_next : GoodIn wsL_law wsX7_next := goodIn_r _ [392, 17, 332, 31, 13, 153, 29, 154, 155, 156, 2, 157, 33, 352, 353, 354, 363, 308, 72, 309, 310, 237, 238, 239, 240, 241, 242, 243, 244, 393, 394, 395, 28, 396, 100, 397, 398, 379, 371, 380, 399, 400, 401, 402, 403, 404, 405, 16, 406, 45, 46, 373, 71, 73, 557, 558, 559, 560, 561, 562, 563, 564, 565, 566, 587, 588, 589, 590, 591, 592, 593, 603, 604, 605, 602] (by decide +kernel) (by decide +kernel)
set_option maxRecDepth 20000 in
theorem gL_law_X7_next : GoodIn wsL_law (wsV RL 74 RX7 yX7_next wsX7_next) := goodIn_app (goodIn_of _ (by decide +kernel)) ggL_law_X7_next
set_option maxRecDepth 20000 in
theorem ggL_law_X8_next : GoodIn wsL_law wsX8_next := goodIn_r _ [410, 337, 111, 165, 166, 167, 5, 168, 142, 146, 147, 148, 338, 339, 340, 341, 315, 115, 116, 117, 118, 124, 253, 254, 255, 256, 123, 342, 343, 344, 345, 261, 262, 263, 264, 265, 266, 267, 268, 269, 270, 411, 412, 413, 414, 125, 385, 386, 387, 388, 257, 258, 259, 260, 567, 568, 569, 570, 571, 572, 573, 574, 575, 576, 577, 578, 579, 580, 581, 582, 583, 584, 585, 586] (by decide +kernel) (by decide +kernel)
set_option maxRecDepth 20000 in
theorem gL_law_X8_next : GoodIn wsL_law (wsV RL 77 RX8 yX8_next wsX8_next) := goodIn_app (goodIn_of _ (by decide +kernel)) ggL_law_X8_next
set_option maxRecDepth 20000 in
theorem ggL_law_X7_aim : GoodIn wsL_law wsX7_aim := goodIn_r _ [418, 21, 25, 233, 234, 2, 235, 297, 298, 299, 275, 276, 277, 419, 420, 421, 20, 422, 86, 87, 88, 176, 177, 178, 24, 179, 96, 557, 558, 559, 560, 561, 562, 563, 564, 565, 566, 594, 595, 596, 597, 598, 599, 600, 601] (by decide +kernel) (by decide +kernel)
set_option maxRecDepth 20000 in
theorem gL_law_X7_aim : GoodIn wsL_law (wsV RL 78 RX7 yX7_aim wsX7_aim) := goodIn_app (goodIn_of _ (by decide +kernel)) ggL_law_X7_aim
set_option maxRecDepth 20000 in
theorem ggL_law_X8_aim : GoodIn wsL_law wsX8_aim := goodIn_r _ [426, 119, 120, 121, 169, 170, 5, 171, 146, 147, 148, 567, 568, 569, 570, 571, 572, 573, 574, 575, 576, 577, 578, 579, 580, 581, 582, 583, 584, 585, 586] (by decide +kernel) (by decide +kernel)
set_option maxRecDepth 20000 in
theorem gL_law_X8_aim : GoodIn wsL_law (wsV RL 81 RX8 yX8_aim wsX8_aim) := goodIn_app (goodIn_of _ (by decide +kernel)) ggL_law_X8_aim
set_option maxRecDepth 20000 in
theorem ggL_law_X7_aimless : GoodIn wsL_law wsX7_aimless := goodIn_r _ [430, 21, 25, 431, 432, 433, 20, 434, 86, 435, 436, 437, 438, 176, 177, 178, 24, 179, 96, 557, 558, 559, 560, 561, 562, 563, 564, 565, 566, 594, 595, 596, 597, 598, 599, 600, 601] (by decide +kernel) (by decide +kernel)
set_option maxRecDepth 20000 in
theorem gL_law_X7_aimless : GoodIn wsL_law (wsV RL 82 RX7 yX7_aimless wsX7_aimless) := goodIn_app (goodIn_of _ (by decide +kernel)) ggL_law_X7_aimless
set_option maxRecDepth 20000 in
theorem ggL_law_X8_aimless : GoodIn wsL_law wsX8_aimless := goodIn_r _ [442, 119, 443, 444, 445, 5, 446, 567, 568, 569, 570, 571, 572, 573, 574, 575, 576, 577, 578, 579, 580, 581, 582, 583, 584, 585, 586] (by decide +kernel) (by decide +kernel)
set_option maxRecDepth 20000 in
theorem gL_law_X8_aimless : GoodIn wsL_law (wsV RL 85 RX8 yX8_aimless wsX8_aimless) := goodIn_app (goodIn_of _ (by decide +kernel)) ggL_law_X8_aimless
