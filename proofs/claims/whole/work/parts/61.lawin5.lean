set_option maxRecDepth 20000 in
theorem ggL_law_X4_best : GoodIn wsL_law wsX4_best := goodIn_r _ [502, 30, 482, 334, 335, 2, 336, 106, 107, 108, 363, 364, 365, 29, 366, 73, 72, 367, 368, 369, 370, 371, 71, 69, 372, 373, 374, 375, 376, 377, 75, 68, 378, 76, 379, 380, 381, 25, 382, 59, 383, 338, 339, 340, 341, 202, 199, 203, 342, 323, 324, 325, 60, 62, 384, 385, 386, 387, 77, 388, 389, 390, 391, 78, 392, 393, 394, 395, 396, 397, 398, 399, 400, 401, 402, 403, 404, 405, 406, 407, 408, 409, 410, 411, 412, 413, 414, 415, 416, 417, 418, 419, 420, 421, 422, 423, 424, 425, 426, 427, 428, 429, 430, 431, 432, 433, 434, 435, 74, 436, 437, 438, 439, 440, 441, 442, 443, 552, 553, 554, 555, 556, 557, 601, 602, 603, 604, 605, 606, 607, 608, 609, 610, 611, 612, 590, 591, 592, 593, 594, 595, 596, 597, 598, 599, 600, 584, 585, 586, 587, 588, 589] (by decide +kernel) (by decide +kernel)
set_option maxRecDepth 20000 in
theorem gL_law_X4_best : GoodIn wsL_law (wsV RL 73 RX4 yX4_best wsX4_best) := goodIn_app (goodIn_of _ (by decide +kernel)) ggL_law_X4_best
set_option maxRecDepth 20000 in
theorem ggL_law_X5_best : GoodIn wsL_law wsX5_best := goodIn_r _ [506, 456, 119, 120, 5, 121, 452, 453, 454, 455, 269, 98, 91, 457, 96, 97, 265, 266, 267, 268, 236, 87, 88, 89, 90, 92, 270, 271, 272, 273, 83, 274, 275, 276, 277, 278, 279, 280, 281, 282, 283, 284, 285, 286, 94, 84, 93, 95, 287, 288, 289, 290, 347, 348, 349, 350, 458, 459, 460, 461, 462, 463, 464, 465, 466, 467, 468, 469, 470, 471, 472, 473, 474, 475, 476, 558, 559, 560, 561, 562, 563, 564, 565, 566, 567, 568, 569, 570, 571, 572, 573, 574, 575, 576, 577, 578, 579, 580] rfl (by decide +kernel)
set_option maxRecDepth 20000 in
theorem gL_law_X5_best : GoodIn wsL_law (wsV RL 76 RX5 yX5_best wsX5_best) := goodIn_app (goodIn_of _ (by decide +kernel)) ggL_law_X5_best
set_option maxRecDepth 20000 in
theorem ggL_law_X4_place : GoodIn wsL_law wsX4_place := goodIn_r _ [510, 511, 30, 512, 334, 335, 2, 336, 106, 107, 108, 363, 364, 365, 29, 366, 73, 72, 367, 368, 369, 370, 371, 71, 69, 372, 373, 374, 375, 376, 377, 75, 68, 378, 76, 379, 380, 381, 25, 382, 59, 383, 338, 339, 340, 341, 202, 199, 203, 342, 323, 324, 325, 60, 62, 384, 385, 386, 387, 77, 388, 389, 390, 391, 78, 392, 393, 394, 395, 396, 397, 398, 399, 400, 401, 402, 403, 404, 405, 406, 407, 408, 409, 410, 411, 412, 413, 414, 415, 416, 417, 418, 419, 420, 421, 422, 423, 424, 425, 426, 427, 428, 429, 430, 431, 432, 433, 434, 435, 74, 436, 437, 438, 439, 440, 441, 442, 443, 513, 514, 515, 516, 517, 445, 446, 447, 552, 553, 554, 555, 556, 557, 601, 602, 603, 604, 605, 606, 607, 608, 609, 610, 611, 612, 590, 591, 592, 593, 594, 595, 596, 597, 598, 599, 600, 584, 585, 586, 587, 588, 589] (by decide +kernel) (by decide +kernel)
set_option maxRecDepth 20000 in
theorem gL_law_X4_place : GoodIn wsL_law (wsV RL 77 RX4 yX4_place wsX4_place) := goodIn_app (goodIn_of _ (by decide +kernel)) ggL_law_X4_place
set_option maxRecDepth 20000 in
theorem ggL_law_X5_place : GoodIn wsL_law wsX5_place := goodIn_r _ [521, 522, 523, 269, 87, 97, 98, 88, 119, 120, 5, 121, 452, 453, 454, 455, 91, 456, 457, 96, 265, 266, 267, 268, 236, 89, 90, 92, 270, 271, 272, 273, 83, 274, 275, 276, 277, 278, 279, 280, 281, 282, 283, 284, 285, 286, 94, 84, 93, 95, 287, 288, 289, 290, 347, 348, 349, 350, 458, 459, 460, 461, 462, 463, 464, 465, 466, 467, 468, 469, 470, 471, 472, 473, 474, 475, 476, 558, 559, 560, 561, 562, 563, 564, 565, 566, 567, 568, 569, 570, 571, 572, 573, 574, 575, 576, 577, 578, 579, 580] rfl (by decide +kernel)
set_option maxRecDepth 20000 in
theorem gL_law_X5_place : GoodIn wsL_law (wsV RL 80 RX5 yX5_place wsX5_place) := goodIn_app (goodIn_of _ (by decide +kernel)) ggL_law_X5_place
set_option maxRecDepth 20000 in
theorem ggL_law_X4_image : GoodIn wsL_law wsX4_image := goodIn_r _ [527, 20, 19, 22, 106, 107, 2, 108, 528, 529, 530, 18, 531, 42, 47, 48, 49, 50, 43, 44, 45, 175, 46, 552, 553, 554, 555, 556, 557, 584, 585, 586, 587, 588, 589] (by decide +kernel) (by decide +kernel)
set_option maxRecDepth 20000 in
theorem gL_law_X4_image : GoodIn wsL_law (wsV RL 81 RX4 yX4_image wsX4_image) := goodIn_app (goodIn_of _ (by decide +kernel)) ggL_law_X4_image
set_option maxRecDepth 20000 in
theorem ggL_law_X5_image : GoodIn wsL_law wsX5_image := goodIn_r _ [535, 99, 83, 84, 236, 100, 119, 120, 5, 121, 558, 559, 560, 561, 562, 563, 564, 565, 566, 567, 568, 569, 570, 571, 572, 573, 574, 575, 576, 577, 578, 579, 580] (by decide +kernel) (by decide +kernel)
set_option maxRecDepth 20000 in
theorem gL_law_X5_image : GoodIn wsL_law (wsV RL 84 RX5 yX5_image wsX5_image) := goodIn_app (goodIn_of _ (by decide +kernel)) ggL_law_X5_image
set_option maxRecDepth 20000 in
theorem ggL_law_X4_restore : GoodIn wsL_law wsX4_restore := goodIn_r _ [539, 22, 19, 20, 106, 107, 2, 108, 528, 529, 530, 18, 531, 42, 47, 48, 49, 50, 43, 44, 45, 175, 46, 177, 178, 179, 180, 26, 30, 181, 182, 183, 25, 184, 185, 186, 187, 188, 189, 190, 191, 192, 193, 194, 195, 196, 197, 198, 199, 200, 201, 202, 203, 204, 205, 206, 207, 55, 56, 208, 209, 210, 211, 212, 213, 214, 57, 58, 215, 216, 217, 218, 63, 219, 220, 221, 222, 223, 224, 225, 226, 227, 61, 60, 62, 59, 228, 229, 230, 29, 231, 73, 552, 553, 554, 555, 556, 557, 584, 585, 586, 587, 588, 589, 590, 591, 592, 593, 594, 595, 596, 597, 598, 599, 600, 601, 602, 603, 604, 605, 606, 607, 608, 609, 610, 611, 612] (by decide +kernel) (by decide +kernel)
set_option maxRecDepth 20000 in
theorem gL_law_X4_restore : GoodIn wsL_law (wsV RL 85 RX4 yX4_restore wsX4_restore) := goodIn_app (goodIn_of _ (by decide +kernel)) ggL_law_X4_restore
set_option maxRecDepth 20000 in
theorem ggL_law_X5_restore : GoodIn wsL_law wsX5_restore := goodIn_r _ [543, 100, 83, 99, 84, 236, 119, 120, 5, 121, 558, 559, 560, 561, 562, 563, 564, 565, 566, 567, 568, 569, 570, 571, 572, 573, 574, 575, 576, 577, 578, 579, 580] (by decide +kernel) (by decide +kernel)
set_option maxRecDepth 20000 in
theorem gL_law_X5_restore : GoodIn wsL_law (wsV RL 88 RX5 yX5_restore wsX5_restore) := goodIn_app (goodIn_of _ (by decide +kernel)) ggL_law_X5_restore
set_option maxRecDepth 20000 in
theorem ggL_law_X4_count : GoodIn wsL_law wsX4_count := goodIn_r _ [547, 15, 105, 19, 170, 26, 305, 319, 296, 106, 107, 2, 108, 552, 553, 554, 555, 556, 557, 581, 582, 583, 584, 585, 586, 587, 588, 589, 590, 591, 592, 593, 594, 595, 596, 597, 598, 599, 600] (by decide +kernel) (by decide +kernel)
set_option maxRecDepth 20000 in
theorem gL_law_X4_count : GoodIn wsL_law (wsV RL 89 RX4 yX4_count wsX4_count) := goodIn_app (goodIn_of _ (by decide +kernel)) ggL_law_X4_count
set_option maxRecDepth 20000 in
theorem ggL_law_X5_count : GoodIn wsL_law wsX5_count := goodIn_r _ [551, 118, 236, 269, 286, 84, 265, 266, 267, 5, 268, 87, 88, 89, 90, 92, 270, 271, 272, 273, 83, 274, 275, 276, 277, 278, 279, 280, 281, 282, 283, 284, 285, 91, 94, 93, 95, 287, 288, 289, 290, 119, 120, 121, 558, 559, 560, 561, 562, 563, 564, 565, 566, 567, 568, 569, 570, 571, 572, 573, 574, 575, 576, 577, 578, 579, 580] (by decide +kernel) (by decide +kernel)
set_option maxRecDepth 20000 in
theorem gL_law_X5_count : GoodIn wsL_law (wsV RL 92 RX5 yX5_count wsX5_count) := goodIn_app (goodIn_of _ (by decide +kernel)) ggL_law_X5_count
