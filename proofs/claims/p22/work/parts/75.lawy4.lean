/-! ===== the words of the law's calls ===== -/
set_option maxRecDepth 20000 in
theorem gL_law_L_cell : GoodIn wsL_law (va_wsS RL 35 yL_cell wsL_cell) := goodIn_app (goodIn_of _ (by decide +kernel)) ggL_law_L_cell
set_option maxRecDepth 20000 in
theorem ggL_law_X4_image : GoodIn wsL_law wsX4_image := goodIn_r _ [382, 20, 19, 22, 107, 108, 2, 109, 383, 384, 385, 18, 386, 41, 46, 47, 48, 49, 42, 43, 44, 143, 45, 403, 404, 405, 406, 407, 408, 412, 413, 414, 415, 416, 417] (by decide +kernel) (by decide +kernel)
set_option maxRecDepth 20000 in
theorem gL_law_X4_image : GoodIn wsL_law (wsV RL 98 RX4 yX4_image wsX4_image) := goodIn_app (goodIn_of _ (by decide +kernel)) ggL_law_X4_image
set_option maxRecDepth 20000 in
theorem ggL_law_X4_erase : GoodIn wsL_law wsX4_erase := goodIn_r _ [390, 19, 121, 107, 108, 2, 109, 391, 392, 393, 18, 394, 143, 41, 42, 43, 44, 145, 146, 147, 148, 26, 30, 149, 150, 151, 25, 152, 153, 154, 155, 156, 157, 158, 159, 160, 161, 162, 163, 164, 165, 166, 167, 168, 169, 170, 171, 172, 173, 174, 175, 54, 55, 176, 177, 178, 179, 180, 181, 182, 56, 57, 183, 184, 185, 186, 62, 187, 188, 189, 190, 191, 192, 193, 194, 195, 60, 59, 61, 58, 196, 197, 198, 29, 199, 72, 403, 404, 405, 406, 407, 408, 412, 413, 414, 415, 416, 417, 418, 419, 420, 421, 422, 423, 424, 425, 426, 427, 428, 429, 430, 431, 432, 433, 434, 435, 436, 437, 438, 439, 440] (by decide +kernel) (by decide +kernel)
set_option maxRecDepth 20000 in
theorem gL_law_X4_erase : GoodIn wsL_law (wsV RL 101 RX4 yX4_erase wsX4_erase) := goodIn_app (goodIn_of _ (by decide +kernel)) ggL_law_X4_erase
set_option maxRecDepth 20000 in
theorem ggL_law_X4_restore : GoodIn wsL_law wsX4_restore := goodIn_r _ [398, 22, 19, 20, 107, 108, 2, 109, 383, 384, 385, 18, 386, 41, 46, 47, 48, 49, 42, 43, 44, 143, 45, 145, 146, 147, 148, 26, 30, 149, 150, 151, 25, 152, 153, 154, 155, 156, 157, 158, 159, 160, 161, 162, 163, 164, 165, 166, 167, 168, 169, 170, 171, 172, 173, 174, 175, 54, 55, 176, 177, 178, 179, 180, 181, 182, 56, 57, 183, 184, 185, 186, 62, 187, 188, 189, 190, 191, 192, 193, 194, 195, 60, 59, 61, 58, 196, 197, 198, 29, 199, 72, 403, 404, 405, 406, 407, 408, 412, 413, 414, 415, 416, 417, 418, 419, 420, 421, 422, 423, 424, 425, 426, 427, 428, 429, 430, 431, 432, 433, 434, 435, 436, 437, 438, 439, 440] (by decide +kernel) (by decide +kernel)
set_option maxRecDepth 20000 in
theorem gL_law_X4_restore : GoodIn wsL_law (wsV RL 104 RX4 yX4_restore wsX4_restore) := goodIn_app (goodIn_of _ (by decide +kernel)) ggL_law_X4_restore
set_option maxRecDepth 20000 in
theorem ggL_law_X4_best : GoodIn wsL_law wsX4_best := goodIn_r _ [402, 30, 358, 253, 254, 2, 255, 107, 108, 109, 271, 272, 273, 29, 274, 72, 71, 275, 276, 277, 278, 279, 70, 68, 280, 281, 282, 283, 284, 285, 74, 67, 286, 75, 287, 288, 289, 25, 290, 58, 291, 257, 258, 259, 260, 170, 167, 171, 261, 246, 247, 248, 59, 61, 292, 293, 294, 295, 76, 296, 297, 298, 299, 77, 300, 301, 302, 303, 304, 305, 306, 307, 308, 309, 310, 311, 312, 313, 314, 315, 316, 317, 318, 319, 320, 321, 322, 323, 324, 325, 326, 327, 328, 329, 330, 331, 332, 333, 334, 335, 336, 337, 338, 339, 340, 341, 342, 343, 73, 344, 345, 346, 347, 348, 349, 350, 351, 403, 404, 405, 406, 407, 408, 429, 430, 431, 432, 433, 434, 435, 436, 437, 438, 439, 440, 418, 419, 420, 421, 422, 423, 424, 425, 426, 427, 428, 412, 413, 414, 415, 416, 417] (by decide +kernel) (by decide +kernel)
set_option maxRecDepth 20000 in
theorem gL_law_X4_best : GoodIn wsL_law (wsV RL 107 RX4 yX4_best wsX4_best) := goodIn_app (goodIn_of _ (by decide +kernel)) ggL_law_X4_best
