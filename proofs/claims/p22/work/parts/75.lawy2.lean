/-! ===== the words of the law's calls ===== -/
set_option maxRecDepth 20000 in
theorem gL_law_X4_told : GoodIn wsL_law (wsV RL 70 RX4 yX4_told wsX4_told) := goodIn_app (goodIn_of _ (by decide +kernel)) ggL_law_X4_told
set_option maxRecDepth 20000 in
theorem ggL_law_X4_kind : GoodIn wsL_law wsX4_kind := goodIn_r _ [242, 26, 217, 243, 244, 107, 108, 2, 109, 245, 246, 247, 25, 248, 59, 61, 403, 404, 405, 406, 407, 408, 418, 419, 420, 421, 422, 423, 424, 425, 426, 427, 428] (by decide +kernel) (by decide +kernel)
set_option maxRecDepth 20000 in
theorem gL_law_X4_kind : GoodIn wsL_law (wsV RL 73 RX4 yX4_kind wsX4_kind) := goodIn_app (goodIn_of _ (by decide +kernel)) ggL_law_X4_kind
set_option maxRecDepth 20000 in
theorem ggL_law_X4_dots : GoodIn wsL_law wsX4_dots := goodIn_r _ [252, 26, 217, 19, 211, 107, 108, 2, 109, 253, 254, 255, 256, 257, 258, 25, 259, 260, 170, 167, 171, 261, 246, 247, 248, 59, 61, 403, 404, 405, 406, 407, 408, 418, 419, 420, 421, 422, 423, 424, 425, 426, 427, 428, 412, 413, 414, 415, 416, 417] (by decide +kernel) (by decide +kernel)
set_option maxRecDepth 20000 in
theorem gL_law_X4_dots : GoodIn wsL_law (wsV RL 76 RX4 yX4_dots wsX4_dots) := goodIn_app (goodIn_of _ (by decide +kernel)) ggL_law_X4_dots
set_option maxRecDepth 20000 in
theorem ggL_law_X4_grows : GoodIn wsL_law wsX4_grows := goodIn_r _ [265, 26, 217, 19, 211, 107, 108, 2, 109, 256, 257, 258, 25, 259, 260, 170, 167, 171, 261, 246, 247, 248, 59, 61, 403, 404, 405, 406, 407, 408, 418, 419, 420, 421, 422, 423, 424, 425, 426, 427, 428, 412, 413, 414, 415, 416, 417] (by decide +kernel) (by decide +kernel)
set_option maxRecDepth 20000 in
theorem gL_law_X4_grows : GoodIn wsL_law (wsV RL 79 RX4 yX4_grows wsX4_grows) := goodIn_app (goodIn_of _ (by decide +kernel)) ggL_law_X4_grows
set_option maxRecDepth 20000 in
theorem ggL_law_X4_why : GoodIn wsL_law wsX4_why := goodIn_r _ [269, 30, 270, 26, 19, 211, 253, 254, 2, 255, 107, 108, 109, 271, 272, 273, 29, 274, 72, 71, 275, 276, 277, 278, 279, 70, 68, 280, 281, 282, 283, 284, 285, 74, 67, 286, 75, 287, 288, 289, 25, 290, 58, 291, 257, 258, 259, 260, 170, 167, 171, 261, 246, 247, 248, 59, 61, 292, 293, 294, 295, 76, 296, 297, 298, 299, 77, 300, 301, 302, 303, 304, 305, 306, 307, 308, 309, 310, 311, 312, 313, 314, 315, 316, 317, 318, 319, 320, 321, 322, 323, 324, 325, 326, 327, 328, 329, 330, 331, 332, 333, 334, 335, 336, 337, 338, 339, 340, 341, 342, 343, 73, 344, 345, 346, 347, 348, 349, 350, 351, 352, 403, 404, 405, 406, 407, 408, 429, 430, 431, 432, 433, 434, 435, 436, 437, 438, 439, 440, 412, 413, 414, 415, 416, 417, 418, 419, 420, 421, 422, 423, 424, 425, 426, 427, 428] (by decide +kernel) (by decide +kernel)
set_option maxRecDepth 20000 in
theorem gL_law_X4_why : GoodIn wsL_law (wsV RL 82 RX4 yX4_why wsX4_why) := goodIn_app (goodIn_of _ (by decide +kernel)) ggL_law_X4_why
