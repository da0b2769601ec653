set_option maxRecDepth 20000 in
theorem ggL_law_X4_erase : GoodIn wsL_law wsX4_erase := goodIn_r _ [240, 19, 170, 106, 107, 2, 108, 241, 242, 243, 18, 244, 175, 42, 43, 44, 45, 177, 178, 179, 180, 26, 30, 181, 182, 183, 25, 184, 185, 186, 187, 188, 189, 190, 191, 192, 193, 194, 195, 196, 197, 198, 199, 200, 201, 202, 203, 204, 205, 206, 207, 55, 56, 208, 209, 210, 211, 212, 213, 214, 57, 58, 215, 216, 217, 218, 63, 219, 220, 221, 222, 223, 224, 225, 226, 227, 61, 60, 62, 59, 228, 229, 230, 29, 231, 73, 552, 553, 554, 555, 556, 557, 584, 585, 586, 587, 588, 589, 590, 591, 592, 593, 594, 595, 596, 597, 598, 599, 600, 601, 602, 603, 604, 605, 606, 607, 608, 609, 610, 611, 612] (by decide +kernel) (by decide +kernel)
set_option maxRecDepth 20000 in
theorem gL_law_X4_erase : GoodIn wsL_law (wsV RL 31 RX4 yX4_erase wsX4_erase) := goodIn_app (goodIn_of _ (by decide +kernel)) ggL_law_X4_erase
set_option maxRecDepth 20000 in
theorem ggL_law_X5_erase : GoodIn wsL_law wsX5_erase := goodIn_r _ [248, 236, 83, 119, 120, 5, 121, 558, 559, 560, 561, 562, 563, 564, 565, 566, 567, 568, 569, 570, 571, 572, 573, 574, 575, 576, 577, 578, 579, 580] (by decide +kernel) (by decide +kernel)
set_option maxRecDepth 20000 in
theorem gL_law_X5_erase : GoodIn wsL_law (wsV RL 34 RX5 yX5_erase wsX5_erase) := goodIn_app (goodIn_of _ (by decide +kernel)) ggL_law_X5_erase
set_option maxRecDepth 20000 in
theorem ggL_law_X4_told : GoodIn wsL_law wsX4_told := goodIn_r _ [252, 19, 170, 253, 254, 255, 256, 26, 106, 107, 2, 108, 257, 258, 259, 25, 260, 185, 57, 58, 552, 553, 554, 555, 556, 557, 584, 585, 586, 587, 588, 589, 590, 591, 592, 593, 594, 595, 596, 597, 598, 599, 600] (by decide +kernel) (by decide +kernel)
set_option maxRecDepth 20000 in
theorem gL_law_X4_told : GoodIn wsL_law (wsV RL 35 RX4 yX4_told wsX4_told) := goodIn_app (goodIn_of _ (by decide +kernel)) ggL_law_X4_told
set_option maxRecDepth 20000 in
theorem ggL_law_X5_told : GoodIn wsL_law wsX5_told := goodIn_r _ [264, 236, 83, 92, 119, 120, 5, 121, 265, 266, 267, 268, 269, 87, 88, 89, 90, 270, 271, 272, 273, 274, 275, 276, 277, 278, 279, 280, 281, 282, 283, 284, 285, 286, 91, 94, 84, 93, 95, 287, 288, 289, 290, 558, 559, 560, 561, 562, 563, 564, 565, 566, 567, 568, 569, 570, 571, 572, 573, 574, 575, 576, 577, 578, 579, 580] (by decide +kernel) (by decide +kernel)
set_option maxRecDepth 20000 in
theorem gL_law_X5_told : GoodIn wsL_law (wsV RL 39 RX5 yX5_told wsX5_told) := goodIn_app (goodIn_of _ (by decide +kernel)) ggL_law_X5_told
set_option maxRecDepth 20000 in
theorem ggL_law_X4_rule : GoodIn wsL_law wsX4_rule := goodIn_r _ [294, 295, 19, 296, 106, 107, 2, 108, 177, 178, 179, 180, 26, 30, 181, 182, 183, 25, 184, 185, 186, 187, 188, 189, 190, 191, 192, 193, 194, 195, 18, 196, 42, 43, 45, 197, 198, 199, 200, 44, 201, 202, 203, 204, 205, 206, 207, 55, 56, 208, 209, 210, 211, 212, 213, 214, 57, 58, 215, 216, 217, 218, 63, 219, 220, 221, 222, 223, 224, 225, 226, 227, 61, 60, 62, 59, 228, 229, 230, 29, 231, 73, 552, 553, 554, 555, 556, 557, 584, 585, 586, 587, 588, 589, 590, 591, 592, 593, 594, 595, 596, 597, 598, 599, 600, 601, 602, 603, 604, 605, 606, 607, 608, 609, 610, 611, 612] (by decide +kernel) (by decide +kernel)
set_option maxRecDepth 20000 in
theorem gL_law_X4_rule : GoodIn wsL_law (wsV RL 40 RX4 yX4_rule wsX4_rule) := goodIn_app (goodIn_of _ (by decide +kernel)) ggL_law_X4_rule
set_option maxRecDepth 20000 in
theorem ggL_law_X5_rule : GoodIn wsL_law wsX5_rule := goodIn_r _ [300, 84, 119, 120, 5, 121, 558, 559, 560, 561, 562, 563, 564, 565, 566, 567, 568, 569, 570, 571, 572, 573, 574, 575, 576, 577, 578, 579, 580] (by decide +kernel) (by decide +kernel)
set_option maxRecDepth 20000 in
theorem gL_law_X5_rule : GoodIn wsL_law (wsV RL 43 RX5 yX5_rule wsX5_rule) := goodIn_app (goodIn_of _ (by decide +kernel)) ggL_law_X5_rule
set_option maxRecDepth 20000 in
theorem ggL_law_X4_stem : GoodIn wsL_law wsX4_stem := goodIn_r _ [304, 26, 305, 306, 307, 308, 309, 310, 106, 107, 2, 108, 552, 553, 554, 555, 556, 557, 590, 591, 592, 593, 594, 595, 596, 597, 598, 599, 600] (by decide +kernel) (by decide +kernel)
set_option maxRecDepth 20000 in
theorem gL_law_X4_stem : GoodIn wsL_law (wsV RL 44 RX4 yX4_stem wsX4_stem) := goodIn_app (goodIn_of _ (by decide +kernel)) ggL_law_X4_stem
set_option maxRecDepth 20000 in
theorem ggL_law_X5_stem : GoodIn wsL_law wsX5_stem := goodIn_r _ [314, 269, 87, 88, 89, 90, 91, 265, 266, 267, 5, 268, 236, 92, 270, 271, 272, 273, 83, 274, 275, 276, 277, 278, 279, 280, 281, 282, 283, 284, 285, 286, 94, 84, 93, 95, 287, 288, 289, 290, 119, 120, 121, 558, 559, 560, 561, 562, 563, 564, 565, 566, 567, 568, 569, 570, 571, 572, 573, 574, 575, 576, 577, 578, 579, 580] (by decide +kernel) (by decide +kernel)
set_option maxRecDepth 20000 in
theorem gL_law_X5_stem : GoodIn wsL_law (wsV RL 47 RX5 yX5_stem wsX5_stem) := goodIn_app (goodIn_of _ (by decide +kernel)) ggL_law_X5_stem
set_option maxRecDepth 20000 in
theorem ggL_law_X4_kind : GoodIn wsL_law wsX4_kind := goodIn_r _ [318, 26, 319, 320, 321, 106, 107, 2, 108, 322, 323, 324, 25, 325, 60, 62, 552, 553, 554, 555, 556, 557, 590, 591, 592, 593, 594, 595, 596, 597, 598, 599, 600] (by decide +kernel) (by decide +kernel)
set_option maxRecDepth 20000 in
theorem gL_law_X4_kind : GoodIn wsL_law (wsV RL 48 RX4 yX4_kind wsX4_kind) := goodIn_app (goodIn_of _ (by decide +kernel)) ggL_law_X4_kind
set_option maxRecDepth 20000 in
theorem ggL_law_X5_kind : GoodIn wsL_law wsX5_kind := goodIn_r _ [329, 286, 93, 94, 95, 265, 266, 267, 5, 268, 269, 236, 87, 88, 89, 90, 92, 270, 271, 272, 273, 83, 274, 275, 276, 277, 278, 279, 280, 281, 282, 283, 284, 285, 91, 84, 287, 288, 289, 290, 119, 120, 121, 558, 559, 560, 561, 562, 563, 564, 565, 566, 567, 568, 569, 570, 571, 572, 573, 574, 575, 576, 577, 578, 579, 580] (by decide +kernel) (by decide +kernel)
set_option maxRecDepth 20000 in
theorem gL_law_X5_kind : GoodIn wsL_law (wsV RL 51 RX5 yX5_kind wsX5_kind) := goodIn_app (goodIn_of _ (by decide +kernel)) ggL_law_X5_kind
