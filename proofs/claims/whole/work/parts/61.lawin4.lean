set_option maxRecDepth 20000 in
theorem ggL_law_X4_dots : GoodIn wsL_law wsX4_dots := goodIn_r _ [333, 26, 319, 19, 296, 106, 107, 2, 108, 334, 335, 336, 337, 338, 339, 25, 340, 341, 202, 199, 203, 342, 323, 324, 325, 60, 62, 552, 553, 554, 555, 556, 557, 590, 591, 592, 593, 594, 595, 596, 597, 598, 599, 600, 584, 585, 586, 587, 588, 589] (by decide +kernel) (by decide +kernel)
set_option maxRecDepth 20000 in
theorem gL_law_X4_dots : GoodIn wsL_law (wsV RL 52 RX4 yX4_dots wsX4_dots) := goodIn_app (goodIn_of _ (by decide +kernel)) ggL_law_X4_dots
set_option maxRecDepth 20000 in
theorem ggL_law_X5_dots : GoodIn wsL_law wsX5_dots := goodIn_r _ [346, 286, 265, 266, 267, 5, 268, 269, 236, 87, 88, 89, 90, 92, 270, 271, 272, 273, 83, 274, 275, 276, 277, 278, 279, 280, 281, 282, 283, 284, 285, 91, 94, 84, 93, 95, 287, 288, 289, 290, 119, 120, 121, 347, 348, 349, 350, 558, 559, 560, 561, 562, 563, 564, 565, 566, 567, 568, 569, 570, 571, 572, 573, 574, 575, 576, 577, 578, 579, 580] (by decide +kernel) (by decide +kernel)
set_option maxRecDepth 20000 in
theorem gL_law_X5_dots : GoodIn wsL_law (wsV RL 55 RX5 yX5_dots wsX5_dots) := goodIn_app (goodIn_of _ (by decide +kernel)) ggL_law_X5_dots
set_option maxRecDepth 20000 in
theorem ggL_law_X4_grows : GoodIn wsL_law wsX4_grows := goodIn_r _ [354, 26, 319, 19, 296, 106, 107, 2, 108, 337, 338, 339, 25, 340, 341, 202, 199, 203, 342, 323, 324, 325, 60, 62, 552, 553, 554, 555, 556, 557, 590, 591, 592, 593, 594, 595, 596, 597, 598, 599, 600, 584, 585, 586, 587, 588, 589] (by decide +kernel) (by decide +kernel)
set_option maxRecDepth 20000 in
theorem gL_law_X4_grows : GoodIn wsL_law (wsV RL 56 RX4 yX4_grows wsX4_grows) := goodIn_app (goodIn_of _ (by decide +kernel)) ggL_law_X4_grows
set_option maxRecDepth 20000 in
theorem ggL_law_X5_grows : GoodIn wsL_law wsX5_grows := goodIn_r _ [358, 286, 265, 266, 267, 5, 268, 269, 236, 87, 88, 89, 90, 92, 270, 271, 272, 273, 83, 274, 275, 276, 277, 278, 279, 280, 281, 282, 283, 284, 285, 91, 94, 84, 93, 95, 287, 288, 289, 290, 119, 120, 121, 347, 348, 349, 350, 558, 559, 560, 561, 562, 563, 564, 565, 566, 567, 568, 569, 570, 571, 572, 573, 574, 575, 576, 577, 578, 579, 580] (by decide +kernel) (by decide +kernel)
set_option maxRecDepth 20000 in
theorem gL_law_X5_grows : GoodIn wsL_law (wsV RL 59 RX5 yX5_grows wsX5_grows) := goodIn_app (goodIn_of _ (by decide +kernel)) ggL_law_X5_grows
set_option maxRecDepth 20000 in
theorem ggL_law_X4_fit : GoodIn wsL_law wsX4_fit := goodIn_r _ [362, 26, 305, 30, 106, 107, 2, 108, 334, 335, 336, 363, 364, 365, 29, 366, 73, 72, 367, 368, 369, 370, 371, 71, 69, 372, 373, 374, 375, 376, 377, 75, 68, 378, 76, 379, 380, 381, 25, 382, 59, 383, 338, 339, 340, 341, 202, 199, 203, 342, 323, 324, 325, 60, 62, 384, 385, 386, 387, 77, 388, 389, 390, 391, 78, 392, 393, 394, 395, 396, 397, 398, 399, 400, 401, 402, 403, 404, 405, 406, 407, 408, 409, 410, 411, 412, 413, 414, 415, 416, 417, 418, 419, 420, 421, 422, 423, 424, 425, 426, 427, 428, 429, 430, 431, 432, 433, 434, 435, 74, 436, 437, 438, 439, 440, 441, 442, 443, 444, 445, 446, 447, 552, 553, 554, 555, 556, 557, 590, 591, 592, 593, 594, 595, 596, 597, 598, 599, 600, 601, 602, 603, 604, 605, 606, 607, 608, 609, 610, 611, 612, 584, 585, 586, 587, 588, 589] (by decide +kernel) (by decide +kernel)
set_option maxRecDepth 20000 in
theorem gL_law_X4_fit : GoodIn wsL_law (wsV RL 60 RX4 yX4_fit wsX4_fit) := goodIn_app (goodIn_of _ (by decide +kernel)) ggL_law_X4_fit
set_option maxRecDepth 20000 in
theorem ggL_law_X5_fit : GoodIn wsL_law wsX5_fit := goodIn_r _ [451, 269, 97, 265, 266, 267, 5, 268, 236, 87, 88, 89, 90, 92, 270, 271, 272, 273, 83, 274, 275, 276, 277, 278, 279, 280, 281, 282, 283, 284, 285, 286, 91, 94, 84, 93, 95, 287, 288, 289, 290, 119, 120, 121, 452, 453, 454, 455, 98, 456, 457, 96, 347, 348, 349, 350, 458, 459, 460, 461, 462, 463, 464, 465, 466, 467, 468, 469, 470, 471, 472, 473, 474, 475, 476, 558, 559, 560, 561, 562, 563, 564, 565, 566, 567, 568, 569, 570, 571, 572, 573, 574, 575, 576, 577, 578, 579, 580] rfl (by decide +kernel)
set_option maxRecDepth 20000 in
theorem gL_law_X5_fit : GoodIn wsL_law (wsV RL 63 RX5 yX5_fit wsX5_fit) := goodIn_app (goodIn_of _ (by decide +kernel)) ggL_law_X5_fit
set_option maxRecDepth 20000 in
theorem ggL_law_X4_distortion : GoodIn wsL_law wsX4_distortion := goodIn_r _ [480, 481, 30, 482, 483, 334, 335, 2, 336, 106, 107, 108, 363, 364, 365, 29, 366, 73, 72, 367, 368, 369, 370, 371, 71, 69, 372, 373, 374, 375, 376, 377, 75, 68, 378, 76, 379, 380, 381, 25, 382, 59, 383, 338, 339, 340, 341, 202, 199, 203, 342, 323, 324, 325, 60, 62, 384, 385, 386, 387, 77, 388, 389, 390, 391, 78, 392, 393, 394, 395, 396, 397, 398, 399, 400, 401, 402, 403, 404, 405, 406, 407, 408, 409, 410, 411, 412, 413, 414, 415, 416, 417, 418, 419, 420, 421, 422, 423, 424, 425, 426, 427, 428, 429, 430, 431, 432, 433, 434, 435, 74, 436, 437, 438, 439, 440, 441, 442, 443, 552, 553, 554, 555, 556, 557, 601, 602, 603, 604, 605, 606, 607, 608, 609, 610, 611, 612, 590, 591, 592, 593, 594, 595, 596, 597, 598, 599, 600, 584, 585, 586, 587, 588, 589] (by decide +kernel) (by decide +kernel)
set_option maxRecDepth 20000 in
theorem gL_law_X4_distortion : GoodIn wsL_law (wsV RL 64 RX4 yX4_distortion wsX4_distortion) := goodIn_app (goodIn_of _ (by decide +kernel)) ggL_law_X4_distortion
set_option maxRecDepth 20000 in
theorem ggL_law_X5_distortion : GoodIn wsL_law wsX5_distortion := goodIn_r _ [487, 463, 456, 488, 119, 120, 5, 121, 452, 453, 454, 455, 269, 98, 91, 457, 96, 97, 265, 266, 267, 268, 236, 87, 88, 89, 90, 92, 270, 271, 272, 273, 83, 274, 275, 276, 277, 278, 279, 280, 281, 282, 283, 284, 285, 286, 94, 84, 93, 95, 287, 288, 289, 290, 347, 348, 349, 350, 458, 459, 460, 461, 462, 464, 465, 466, 467, 468, 469, 470, 471, 472, 473, 474, 475, 476, 558, 559, 560, 561, 562, 563, 564, 565, 566, 567, 568, 569, 570, 571, 572, 573, 574, 575, 576, 577, 578, 579, 580] rfl (by decide +kernel)
set_option maxRecDepth 20000 in
theorem gL_law_X5_distortion : GoodIn wsL_law (wsV RL 68 RX5 yX5_distortion wsX5_distortion) := goodIn_app (goodIn_of _ (by decide +kernel)) ggL_law_X5_distortion
set_option maxRecDepth 20000 in
theorem ggL_law_X4_why : GoodIn wsL_law wsX4_why := goodIn_r _ [492, 30, 493, 26, 19, 296, 334, 335, 2, 336, 106, 107, 108, 363, 364, 365, 29, 366, 73, 72, 367, 368, 369, 370, 371, 71, 69, 372, 373, 374, 375, 376, 377, 75, 68, 378, 76, 379, 380, 381, 25, 382, 59, 383, 338, 339, 340, 341, 202, 199, 203, 342, 323, 324, 325, 60, 62, 384, 385, 386, 387, 77, 388, 389, 390, 391, 78, 392, 393, 394, 395, 396, 397, 398, 399, 400, 401, 402, 403, 404, 405, 406, 407, 408, 409, 410, 411, 412, 413, 414, 415, 416, 417, 418, 419, 420, 421, 422, 423, 424, 425, 426, 427, 428, 429, 430, 431, 432, 433, 434, 435, 74, 436, 437, 438, 439, 440, 441, 442, 443, 494, 552, 553, 554, 555, 556, 557, 601, 602, 603, 604, 605, 606, 607, 608, 609, 610, 611, 612, 584, 585, 586, 587, 588, 589, 590, 591, 592, 593, 594, 595, 596, 597, 598, 599, 600] (by decide +kernel) (by decide +kernel)
set_option maxRecDepth 20000 in
theorem gL_law_X4_why : GoodIn wsL_law (wsV RL 69 RX4 yX4_why wsX4_why) := goodIn_app (goodIn_of _ (by decide +kernel)) ggL_law_X4_why
set_option maxRecDepth 20000 in
theorem ggL_law_X5_why : GoodIn wsL_law wsX5_why := goodIn_r _ [498, 269, 91, 119, 120, 5, 121, 265, 266, 267, 268, 236, 87, 88, 89, 90, 92, 270, 271, 272, 273, 83, 274, 275, 276, 277, 278, 279, 280, 281, 282, 283, 284, 285, 286, 94, 84, 93, 95, 287, 288, 289, 290, 347, 348, 349, 350, 558, 559, 560, 561, 562, 563, 564, 565, 566, 567, 568, 569, 570, 571, 572, 573, 574, 575, 576, 577, 578, 579, 580] (by decide +kernel) (by decide +kernel)
set_option maxRecDepth 20000 in
theorem gL_law_X5_why : GoodIn wsL_law (wsV RL 72 RX5 yX5_why wsX5_why) := goodIn_app (goodIn_of _ (by decide +kernel)) ggL_law_X5_why
