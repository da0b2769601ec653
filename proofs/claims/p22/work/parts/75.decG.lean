/-! ===== the words of what the law's methods call ===== -/
set_option maxRecDepth 20000 in
theorem ggL_number_X4_say : GoodIn wsL_number wsX4_say := goodIn_r _ [5, 6, 7, 8, 9, 4, 10, 11, 12, 13, 14, 15, 16, 17, 18, 19, 20, 21, 22, 23, 24, 25, 26] (by decide +kernel) (by decide +kernel)
set_option maxRecDepth 20000 in
theorem gL_number_X4_say : GoodIn wsL_number (wsV RL 9 RX4 yX4_say wsX4_say) := goodIn_app (goodIn_of _ (by decide +kernel)) ggL_number_X4_say
set_option maxRecDepth 20000 in
theorem ggL_edge_L_up : GoodIn wsL_edge wsL_up := goodIn_r _ [4, 5] (by decide +kernel) (by decide +kernel)
set_option maxRecDepth 20000 in
theorem gL_edge_L_up : GoodIn wsL_edge (va_wsS RL 15 yL_up wsL_up) := goodIn_app (goodIn_of _ (by decide +kernel)) ggL_edge_L_up
set_option maxRecDepth 20000 in
theorem ggL_edge_X4_wipe : GoodIn wsL_edge wsX4_wipe := goodIn_r _ [10, 11, 12, 13, 14, 15, 16, 17, 18, 138, 139, 140, 141, 142, 143, 144, 145, 146] (by decide +kernel) (by decide +kernel)
set_option maxRecDepth 20000 in
theorem gL_edge_X4_wipe : GoodIn wsL_edge (wsV RL 21 RX4 yX4_wipe wsX4_wipe) := goodIn_app (goodIn_of _ (by decide +kernel)) ggL_edge_X4_wipe
set_option maxRecDepth 20000 in
theorem ggL_edge_X4_say : GoodIn wsL_edge wsX4_say := goodIn_r _ [22, 11, 12, 23, 24, 9, 25, 26, 27, 28, 16, 29, 18, 30, 138, 139, 140, 141, 142, 143, 144, 145, 146] (by decide +kernel) (by decide +kernel)
set_option maxRecDepth 20000 in
theorem gL_edge_X4_say : GoodIn wsL_edge (wsV RL 9 RX4 yX4_say wsX4_say) := goodIn_app (goodIn_of _ (by decide +kernel)) ggL_edge_X4_say
set_option maxRecDepth 20000 in
theorem ggL_edge_L_number : GoodIn wsL_edge wsL_number := goodIn_r _ [33, 19, 20, 21, 9, 22, 11, 12, 23, 24, 25, 26, 27, 28, 16, 29, 18, 30, 138, 139, 140, 141, 142, 143, 144, 145, 146] (by decide +kernel) (by decide +kernel)
set_option maxRecDepth 20000 in
theorem gL_edge_L_number : GoodIn wsL_edge (va_wsS RL 25 yL_number wsL_number) := goodIn_app (goodIn_of _ (by decide +kernel)) ggL_edge_L_number
set_option maxRecDepth 20000 in
theorem ggL_edge_X4_edge : GoodIn wsL_edge wsX4_edge := goodIn_r _ [37, 11, 38, 39, 40, 41, 42, 16, 43, 44, 18, 45, 46, 47, 48, 49, 30, 50, 51, 52, 53, 54, 55, 56, 57, 24, 9, 25, 58, 59, 60, 61, 62, 63, 64, 65, 66, 67, 68, 13, 14, 15, 17, 69, 70, 71, 72, 73, 74, 75, 76, 77, 78, 79, 80, 81, 82, 83, 84, 85, 86, 87, 88, 89, 90, 91, 92, 93, 94, 95, 96, 97, 98, 99, 100, 101, 102, 103, 104, 105, 106, 107, 108, 109, 110, 111, 112, 113, 114, 115, 116, 117, 118, 119, 120, 121, 122, 123, 124, 125, 126, 127, 128, 129, 130, 131, 132, 133, 134, 135, 136, 137, 138, 139, 140, 141, 142, 143, 147, 148, 149, 150, 151, 152, 144, 145, 146, 153, 154, 155, 156, 157, 158, 159, 160, 161, 162, 163, 164, 165, 166, 167, 168, 169, 170, 171, 172, 173, 174, 175] (by decide +kernel) (by decide +kernel)
set_option maxRecDepth 20000 in
theorem gL_edge_X4_edge : GoodIn wsL_edge (wsV RL 29 RX4 yX4_edge wsX4_edge) := goodIn_app (goodIn_of _ (by decide +kernel)) ggL_edge_X4_edge
set_option maxRecDepth 20000 in
theorem ggL_pair_L_up : GoodIn wsL_pair wsL_up := goodIn_r _ [4, 5] (by decide +kernel) (by decide +kernel)
set_option maxRecDepth 20000 in
theorem gL_pair_L_up : GoodIn wsL_pair (va_wsS RL 15 yL_up wsL_up) := goodIn_app (goodIn_of _ (by decide +kernel)) ggL_pair_L_up
set_option maxRecDepth 20000 in
theorem ggL_pair_X4_wipe : GoodIn wsL_pair wsX4_wipe := goodIn_r _ [10, 11, 12, 13, 14, 15, 16, 17, 18, 138, 139, 140, 141, 142, 143, 144, 145, 146] (by decide +kernel) (by decide +kernel)
set_option maxRecDepth 20000 in
theorem gL_pair_X4_wipe : GoodIn wsL_pair (wsV RL 21 RX4 yX4_wipe wsX4_wipe) := goodIn_app (goodIn_of _ (by decide +kernel)) ggL_pair_X4_wipe
set_option maxRecDepth 20000 in
theorem ggL_pair_X4_say : GoodIn wsL_pair wsX4_say := goodIn_r _ [22, 11, 12, 23, 24, 9, 25, 26, 27, 28, 16, 29, 18, 30, 138, 139, 140, 141, 142, 143, 144, 145, 146] (by decide +kernel) (by decide +kernel)
set_option maxRecDepth 20000 in
theorem gL_pair_X4_say : GoodIn wsL_pair (wsV RL 9 RX4 yX4_say wsX4_say) := goodIn_app (goodIn_of _ (by decide +kernel)) ggL_pair_X4_say
set_option maxRecDepth 20000 in
theorem ggL_pair_L_number : GoodIn wsL_pair wsL_number := goodIn_r _ [33, 19, 20, 21, 9, 22, 11, 12, 23, 24, 25, 26, 27, 28, 16, 29, 18, 30, 138, 139, 140, 141, 142, 143, 144, 145, 146] (by decide +kernel) (by decide +kernel)
set_option maxRecDepth 20000 in
theorem gL_pair_L_number : GoodIn wsL_pair (va_wsS RL 25 yL_number wsL_number) := goodIn_app (goodIn_of _ (by decide +kernel)) ggL_pair_L_number
set_option maxRecDepth 20000 in
theorem ggL_pair_X4_edge : GoodIn wsL_pair wsX4_edge := goodIn_r _ [37, 11, 38, 39, 40, 41, 42, 16, 43, 44, 18, 45, 46, 47, 48, 49, 30, 50, 51, 52, 53, 54, 55, 56, 57, 24, 9, 25, 58, 59, 60, 61, 62, 63, 64, 65, 66, 67, 68, 13, 14, 15, 17, 69, 70, 71, 72, 73, 74, 75, 76, 77, 78, 79, 80, 81, 82, 83, 84, 85, 86, 87, 88, 89, 90, 91, 92, 93, 94, 95, 96, 97, 98, 99, 100, 101, 102, 103, 104, 105, 106, 107, 108, 109, 110, 111, 112, 113, 114, 115, 116, 117, 118, 119, 120, 121, 122, 123, 124, 125, 126, 127, 128, 129, 130, 131, 132, 133, 134, 135, 136, 137, 138, 139, 140, 141, 142, 143, 147, 148, 149, 150, 151, 152, 144, 145, 146, 153, 154, 155, 156, 157, 158, 159, 160, 161, 162, 163, 164, 165, 166, 167, 168, 169, 170, 171, 172, 173, 174, 175] (by decide +kernel) (by decide +kernel)
set_option maxRecDepth 20000 in
theorem gL_pair_X4_edge : GoodIn wsL_pair (wsV RL 29 RX4 yX4_edge wsX4_edge) := goodIn_app (goodIn_of _ (by decide +kernel)) ggL_pair_X4_edge
set_option maxRecDepth 20000 in
theorem ggL_rules_L_up : GoodIn wsL_rules wsL_up := goodIn_r _ [4, 5] (by decide +kernel) (by decide +kernel)
set_option maxRecDepth 20000 in
theorem gL_rules_L_up : GoodIn wsL_rules (va_wsS RL 15 yL_up wsL_up) := goodIn_app (goodIn_of _ (by decide +kernel)) ggL_rules_L_up
set_option maxRecDepth 20000 in
theorem ggL_rules_X4_rule : GoodIn wsL_rules wsX4_rule := goodIn_r _ [10, 11, 12, 13, 14, 15, 9, 16, 17, 18, 19, 20, 21, 22, 23, 24, 25, 26, 27, 28, 29, 30, 31, 32, 33, 34, 35, 36, 37, 38, 39, 40, 41, 42, 43, 44, 45, 46, 47, 48, 49, 50, 51, 52, 53, 54, 55, 56, 57, 58, 59, 60, 61, 62, 63, 64, 65, 66, 67, 68, 69, 70, 71, 72, 73, 74, 75, 76, 77, 78, 79, 80, 81, 82, 83, 84, 85, 86, 87, 88, 89, 90, 91, 92, 93, 94, 95, 96, 97, 98, 99, 100, 101, 102, 103, 104, 105, 106, 107, 108, 109, 110, 111, 112, 113, 114, 115, 116, 117, 118, 119, 120, 121, 122, 123, 124, 125] (by decide +kernel) (by decide +kernel)
set_option maxRecDepth 20000 in
theorem gL_rules_X4_rule : GoodIn wsL_rules (wsV RL 32 RX4 yX4_rule wsX4_rule) := goodIn_app (goodIn_of _ (by decide +kernel)) ggL_rules_X4_rule
set_option maxRecDepth 20000 in
theorem ggL_all_L_cell : GoodIn wsL_all wsL_cell := goodIn_r _ [4, 5] (by decide +kernel) (by decide +kernel)
set_option maxRecDepth 20000 in
theorem gL_all_L_cell : GoodIn wsL_all (va_wsS RL 35 yL_cell wsL_cell) := goodIn_app (goodIn_of _ (by decide +kernel)) ggL_all_L_cell
set_option maxRecDepth 20000 in
theorem ggL_all_L_up : GoodIn wsL_all wsL_up := goodIn_r _ [8, 9] (by decide +kernel) (by decide +kernel)
set_option maxRecDepth 20000 in
theorem gL_all_L_up : GoodIn wsL_all (va_wsS RL 15 yL_up wsL_up) := goodIn_app (goodIn_of _ (by decide +kernel)) ggL_all_L_up
set_option maxRecDepth 20000 in
theorem ggL_all_L_pair : GoodIn wsL_all wsL_pair := goodIn_r _ [12, 6, 7, 3, 8, 9, 13, 14, 15, 16, 17, 18, 19, 20, 21, 22, 23, 24, 25, 26, 27, 28, 29, 30, 31, 32, 33, 34, 35, 36, 37, 38, 39, 40, 41, 42, 43, 44, 45, 46, 47, 48, 49, 50, 51, 52, 53, 54, 55, 56, 57, 58, 59, 60, 61, 62, 63, 64, 65, 66, 67, 68, 69, 70, 71, 72, 73, 74, 75, 76, 77, 78, 79, 80, 81, 82, 83, 84, 85, 86, 87, 88, 89, 90, 91, 92, 93, 94, 95, 96, 97, 98, 99, 100, 101, 102, 103, 104, 105, 106, 107, 108, 109, 110, 111, 112, 113, 114, 115, 116, 117, 118, 119, 120, 121, 122, 123, 124, 125, 126, 127, 128, 129, 130, 131, 132, 133, 134, 135, 136, 137, 138, 139, 140, 141, 142, 143, 144, 157, 158, 159, 160, 161, 162, 163, 164, 165, 166, 167, 168, 169, 170, 171, 172, 173, 174, 175, 176, 177, 178, 179, 180, 181, 182, 183, 184, 185, 186, 187, 188, 189, 190, 191, 192, 193, 194] (by decide +kernel) (by decide +kernel)
set_option maxRecDepth 20000 in
theorem gL_all_L_pair : GoodIn wsL_all (va_wsS RL 39 yL_pair wsL_pair) := goodIn_app (goodIn_of _ (by decide +kernel)) ggL_all_L_pair
set_option maxRecDepth 20000 in
theorem ggL_all_L_edge : GoodIn wsL_all wsL_edge := goodIn_r _ [147, 6, 7, 3, 8, 9, 13, 14, 15, 16, 17, 18, 19, 20, 21, 22, 23, 24, 25, 26, 27, 28, 29, 30, 31, 32, 33, 34, 35, 36, 37, 38, 39, 40, 41, 42, 43, 44, 45, 46, 47, 48, 49, 50, 51, 52, 53, 54, 55, 56, 57, 58, 59, 60, 61, 62, 63, 64, 65, 66, 67, 68, 69, 70, 71, 72, 73, 74, 75, 76, 77, 78, 79, 80, 81, 82, 83, 84, 85, 86, 87, 88, 89, 90, 91, 92, 93, 94, 95, 96, 97, 98, 99, 100, 101, 102, 103, 104, 105, 106, 107, 108, 109, 110, 111, 112, 113, 114, 115, 116, 117, 118, 119, 120, 121, 122, 123, 124, 125, 126, 127, 128, 129, 130, 131, 132, 133, 134, 135, 136, 137, 138, 139, 140, 141, 142, 143, 144, 157, 158, 159, 160, 161, 162, 163, 164, 165, 166, 167, 168, 169, 170, 171, 172, 173, 174, 175, 176, 177, 178, 179, 180, 181, 182, 183, 184, 185, 186, 187, 188, 189, 190, 191, 192, 193, 194] (by decide +kernel) (by decide +kernel)
set_option maxRecDepth 20000 in
theorem gL_all_L_edge : GoodIn wsL_all (va_wsS RL 43 yL_edge wsL_edge) := goodIn_app (goodIn_of _ (by decide +kernel)) ggL_all_L_edge
set_option maxRecDepth 20000 in
theorem ggL_all_L_rules : GoodIn wsL_all wsL_rules := goodIn_r _ [150, 6, 7, 3, 8, 9, 151, 152, 153, 16, 154, 155, 45, 156, 30, 31, 32, 76, 77, 78, 79, 80, 81, 82, 83, 84, 85, 86, 87, 88, 89, 90, 91, 92, 93, 94, 95, 96, 97, 68, 98, 71, 72, 75, 99, 100, 101, 102, 74, 103, 104, 105, 106, 107, 108, 109, 110, 111, 112, 113, 114, 115, 116, 117, 118, 119, 120, 121, 122, 123, 124, 125, 126, 127, 128, 129, 130, 131, 132, 133, 134, 135, 136, 137, 138, 139, 140, 141, 142, 143, 144, 157, 158, 159, 160, 161, 162, 166, 167, 168, 169, 170, 171, 172, 173, 174, 175, 176, 177, 178, 179, 180, 181, 182, 183, 184, 185, 186, 187, 188, 189, 190, 191, 192, 193, 194] (by decide +kernel) (by decide +kernel)
set_option maxRecDepth 20000 in
theorem gL_all_L_rules : GoodIn wsL_all (va_wsS RL 45 yL_rules wsL_rules) := goodIn_app (goodIn_of _ (by decide +kernel)) ggL_all_L_rules
