/-! ===== rows of the law's calls ===== -/
set_option maxRecDepth 20000 in
theorem ggL_build_X6_init : GoodIn wsL_build wsX6_init := goodIn_r _ [16, 17, 18, 19, 20, 21, 22, 23, 24, 25, 26, 27, 66, 67, 68, 69, 70, 71, 72, 73, 74, 75] (by decide +kernel) (by decide +kernel)
set_option maxRecDepth 20000 in
theorem gL_build_X6_init_n11 : GoodIn wsL_build (wsX6_init) := ggL_build_X6_init
set_option maxRecDepth 20000 in
theorem ggL_build_L_cell : GoodIn wsL_build wsL_cell := goodIn_r _ [31, 32] (by decide +kernel) (by decide +kernel)
set_option maxRecDepth 20000 in
theorem gL_build_L_cell : GoodIn wsL_build (va_wsS RL 12 yL_cell wsL_cell) := goodIn_app (goodIn_of _ (by decide +kernel)) ggL_build_L_cell
set_option maxRecDepth 20000 in
theorem ggL_build_L_below : GoodIn wsL_build wsL_below := goodIn_r _ [35, 36] (by decide +kernel) (by decide +kernel)
set_option maxRecDepth 20000 in
theorem gL_build_L_below : GoodIn wsL_build (va_wsS RL 18 yL_below wsL_below) := goodIn_app (goodIn_of _ (by decide +kernel)) ggL_build_L_below
set_option maxRecDepth 20000 in
theorem ggL_build_X5_setLeaps : GoodIn wsL_build wsX5_setLeaps := goodIn_ca (goodIn_r _ [41, 42, 43, 44, 45, 46, 76, 77, 78, 79, 80, 81, 82, 83, 84] (by decide +kernel) (by decide +kernel)) (goodIn_sub (fun _ h => List.mem_cons_of_mem _ (List.mem_append_right _ h)) (by decide +kernel))
set_option maxRecDepth 20000 in
theorem gL_build_X5_setLeaps : GoodIn wsL_build (wsV RL 29 RX5 yX5_setLeaps wsX5_setLeaps) := goodIn_app (goodIn_of _ (by decide +kernel)) ggL_build_X5_setLeaps
set_option maxRecDepth 20000 in
theorem ggL_build_X5_setMoon : GoodIn wsL_build wsX5_setMoon := goodIn_ca (goodIn_r _ [50, 42, 43, 51, 52, 53, 54, 55, 76, 77, 78, 79, 80, 81, 82, 85, 86] (by decide +kernel) (by decide +kernel)) (goodIn_sub (fun _ h => List.mem_cons_of_mem _ (List.mem_append_right _ h)) (by decide +kernel))
set_option maxRecDepth 20000 in
theorem gL_build_X5_setMoon : GoodIn wsL_build (wsV RL 41 RX5 yX5_setMoon wsX5_setMoon) := goodIn_app (goodIn_of _ (by decide +kernel)) ggL_build_X5_setMoon
set_option maxRecDepth 20000 in
theorem ggL_build_X5_setNodes : GoodIn wsL_build wsX5_setNodes := goodIn_ca (goodIn_r _ [59, 42, 43, 60, 61, 62, 63, 64, 65, 76, 77, 78, 79, 80, 81, 82, 87, 88] (by decide +kernel) (by decide +kernel)) (goodIn_sub (fun _ h => List.mem_cons_of_mem _ (List.mem_append_right _ h)) (by decide +kernel))
set_option maxRecDepth 20000 in
theorem gL_build_X5_setNodes : GoodIn wsL_build (wsV RL 53 RX5 yX5_setNodes wsX5_setNodes) := goodIn_app (goodIn_of _ (by decide +kernel)) ggL_build_X5_setNodes
set_option maxRecDepth 20000 in
theorem ggL_act_L_below : GoodIn wsL_act wsL_below := goodIn_r _ [25, 26] (by decide +kernel) (by decide +kernel)
set_option maxRecDepth 20000 in
theorem gL_act_L_below : GoodIn wsL_act (va_wsS RL 18 yL_below wsL_below) := goodIn_app (goodIn_of _ (by decide +kernel)) ggL_act_L_below
set_option maxRecDepth 20000 in
theorem ggL_act_X6_more : GoodIn wsL_act wsX6_more := goodIn_r _ [30, 31] (by decide +kernel) (by decide +kernel)
set_option maxRecDepth 20000 in
theorem gL_act_X6_more : GoodIn wsL_act (va_wsS RL 61 yX6_more wsX6_more) := goodIn_app (goodIn_of _ (by decide +kernel)) ggL_act_X6_more
set_option maxRecDepth 20000 in
theorem ggL_act_X5_addFeast : GoodIn wsL_act wsX5_addFeast := goodIn_ca (goodIn_ca (goodIn_r _ [36, 37, 38, 39, 40, 41, 42, 43, 44, 45, 46, 47, 48, 49, 50, 51, 52, 53, 54, 55, 56, 57, 58, 59, 60, 61, 62, 63, 64, 65, 66, 67, 68, 69, 70, 71, 72, 73, 74, 75, 76, 77, 78, 79, 80, 81, 82, 6, 7, 8, 83, 84, 85, 86, 87, 88, 89, 90, 91, 92, 93, 94, 95, 96, 97, 98, 99, 100, 101, 102, 103, 104, 105, 106, 10, 11, 107, 108, 109, 110, 344, 345, 346, 347, 348, 349, 350, 351, 352, 353, 354, 355, 356, 357, 358] (by decide +kernel) (by decide +kernel)) (goodIn_sub (fun _ h => List.mem_cons_of_mem _ (List.mem_append_left _ (List.mem_append_left _ (List.mem_append_right _ h)))) (by decide +kernel))) (goodIn_sub (fun _ h => List.mem_cons_of_mem _ (List.mem_append_left _ (List.mem_append_right _ h))) (by decide +kernel))
set_option maxRecDepth 20000 in
theorem gL_act_X5_addFeast : GoodIn wsL_act (wsV RL 65 RX5 yX5_addFeast wsX5_addFeast) := goodIn_app (goodIn_of _ (by decide +kernel)) ggL_act_X5_addFeast
set_option maxRecDepth 20000 in
theorem ggL_act_X6_sheet : GoodIn wsL_act wsX6_sheet := goodIn_r _ [114, 115, 2, 116, 117, 118, 29, 119, 120, 121, 6, 7, 8, 122, 123, 124, 125, 126, 127, 128, 129, 130, 131, 132, 133, 134, 135, 136, 137, 138, 139, 140, 141, 142, 143, 144, 145, 146, 147, 148, 149, 150, 151, 152, 153, 154, 155, 156, 157, 158, 159, 160, 161, 162, 163, 334, 335, 336, 337, 338, 339, 340, 341, 342, 343] (by decide +kernel) (by decide +kernel)
set_option maxRecDepth 20000 in
theorem gL_act_X6_sheet : GoodIn wsL_act (wsV RL 72 RX6 yX6_sheet wsX6_sheet) := goodIn_app (goodIn_of _ (by decide +kernel)) ggL_act_X6_sheet
set_option maxRecDepth 20000 in
theorem ggL_act_X5_print : GoodIn wsL_act wsX5_print := goodIn_ca (goodIn_ca (goodIn_r _ [167, 37, 38, 39, 40, 168, 169, 170, 171, 172, 173, 35, 174, 45, 46, 47, 48, 49, 50, 175, 176, 177, 178, 55, 56, 2, 179, 180, 181, 182, 183, 184, 185, 41, 186, 187, 188, 189, 190, 191, 192, 193, 194, 195, 196, 197, 198, 199, 200, 201, 202, 203, 204, 68, 205, 206, 207, 208, 209, 210, 211, 212, 213, 214, 215, 216, 217, 218, 219, 220, 221, 222, 223, 224, 225, 226, 227, 228, 229, 230, 231, 232, 233, 234, 235, 236, 237, 238, 239, 240, 241, 242, 243, 244, 245, 246, 247, 248, 249, 250, 251, 252, 253, 254, 255, 256, 62, 63, 64, 65, 66, 67, 69, 70, 71, 72, 73, 74, 75, 76, 77, 78, 79, 80, 81, 82, 6, 7, 8, 83, 84, 85, 86, 87, 88, 89, 90, 91, 92, 93, 94, 95, 96, 97, 98, 99, 100, 101, 102, 103, 104, 105, 106, 10, 11, 107, 108, 109, 110, 344, 345, 346, 347, 348, 349, 350, 359, 360, 361, 362, 356, 357, 358, 351, 352, 353, 354, 355, 363, 364, 365, 366, 367, 368] (by decide +kernel) (by decide +kernel)) (goodIn_sub (fun _ h => List.mem_cons_of_mem _ (List.mem_append_left _ (List.mem_append_left _ (List.mem_append_right _ h)))) (by decide +kernel))) (goodIn_sub (fun _ h => List.mem_cons_of_mem _ (List.mem_append_left _ (List.mem_append_right _ h))) (by decide +kernel))
set_option maxRecDepth 20000 in
theorem gL_act_X5_print : GoodIn wsL_act (wsV RL 76 RX5 yX5_print wsX5_print) := goodIn_app (goodIn_of _ (by decide +kernel)) ggL_act_X5_print
set_option maxRecDepth 20000 in
theorem ggL_act_X6_off : GoodIn wsL_act wsX6_off := goodIn_r _ [260, 261, 262, 7, 263, 121, 6, 8, 156, 157, 158, 29, 159, 115, 120, 160, 161, 162, 163, 122, 123, 124, 125, 126, 127, 128, 129, 130, 131, 132, 133, 134, 135, 136, 137, 138, 139, 140, 141, 142, 143, 144, 145, 334, 335, 336, 337, 338, 339, 340, 341, 342, 343] (by decide +kernel) (by decide +kernel)
set_option maxRecDepth 20000 in
theorem gL_act_X6_off : GoodIn wsL_act (wsV RL 80 RX6 yX6_off wsX6_off) := goodIn_app (goodIn_of _ (by decide +kernel)) ggL_act_X6_off
set_option maxRecDepth 20000 in
theorem ggL_act_X5_reprint : GoodIn wsL_act wsX5_reprint := goodIn_ca (goodIn_r _ [267, 268, 269, 168, 270, 271, 272, 273, 35, 274, 45, 46, 47, 48, 49, 50, 189, 190, 191, 192, 193, 194, 195, 196, 197, 198, 199, 200, 201, 202, 203, 204, 68, 275, 276, 277, 278, 185, 41, 186, 187, 205, 206, 207, 208, 209, 210, 211, 212, 213, 214, 215, 216, 217, 218, 219, 220, 221, 222, 223, 224, 225, 226, 227, 228, 229, 230, 231, 232, 233, 234, 235, 236, 279, 280, 281, 171, 282, 179, 181, 182, 183, 184, 188, 237, 238, 239, 240, 241, 242, 243, 244, 245, 246, 247, 248, 249, 250, 251, 252, 253, 254, 255, 256, 344, 345, 346, 347, 348, 349, 350, 356, 357, 358, 359, 360, 361, 362, 351, 352, 353, 354, 355, 363, 364, 365, 366, 367, 368] (by decide +kernel) (by decide +kernel)) (goodIn_sub (fun _ h => List.mem_cons_of_mem _ (List.mem_append_right _ h)) (by decide +kernel))
set_option maxRecDepth 20000 in
theorem gL_act_X5_reprint : GoodIn wsL_act (wsV RL 84 RX5 yX5_reprint wsX5_reprint) := goodIn_app (goodIn_of _ (by decide +kernel)) ggL_act_X5_reprint
set_option maxRecDepth 20000 in
theorem ggL_act_X6_moon : GoodIn wsL_act wsX6_moon := goodIn_r _ [139, 140, 141, 142, 143, 29, 144, 145, 120, 334, 335, 336, 337, 338, 339, 340, 341, 342, 343] (by decide +kernel) (by decide +kernel)
set_option maxRecDepth 20000 in
theorem gL_act_X6_moon : GoodIn wsL_act (wsV RL 88 RX6 yX6_moon wsX6_moon) := goodIn_app (goodIn_of _ (by decide +kernel)) ggL_act_X6_moon
set_option maxRecDepth 20000 in
theorem ggL_act_X5_observe : GoodIn wsL_act wsX5_observe := goodIn_ca (goodIn_r _ [287, 37, 38, 288, 213, 289, 290, 291, 292, 293, 229, 294, 295, 227, 228, 230, 231, 232, 296, 234, 235, 236, 233, 297, 298, 299, 300, 301, 302, 10, 7, 11, 303, 6, 8, 344, 345, 346, 347, 348, 349, 350, 365, 366] (by decide +kernel) (by decide +kernel)) (goodIn_sub (fun _ h => List.mem_cons_of_mem _ (List.mem_append_left _ (List.mem_append_left _ (List.mem_append_right _ h)))) (by decide +kernel))
set_option maxRecDepth 20000 in
theorem gL_act_X5_observe : GoodIn wsL_act (wsV RL 100 RX5 yX5_observe wsX5_observe) := goodIn_app (goodIn_of _ (by decide +kernel)) ggL_act_X5_observe
set_option maxRecDepth 20000 in
theorem ggL_act_X6_observe : GoodIn wsL_act wsX6_observe := goodIn_r _ [307, 120, 121, 6, 7, 8, 261, 262, 263, 308, 309, 145, 310, 136, 137, 138, 29, 139, 140, 141, 142, 143, 144, 334, 335, 336, 337, 338, 339, 340, 341, 342, 343] (by decide +kernel) (by decide +kernel)
set_option maxRecDepth 20000 in
theorem gL_act_X6_observe : GoodIn wsL_act (wsV RL 103 RX6 yX6_observe wsX6_observe) := goodIn_app (goodIn_of _ (by decide +kernel)) ggL_act_X6_observe
set_option maxRecDepth 20000 in
theorem ggL_act_X5_setMoon : GoodIn wsL_act wsX5_setMoon := goodIn_ca (goodIn_r _ [314, 37, 38, 315, 316, 213, 317, 318, 344, 345, 346, 347, 348, 349, 350, 365, 366] (by decide +kernel) (by decide +kernel)) (goodIn_sub (fun _ h => List.mem_cons_of_mem _ (List.mem_append_left _ (List.mem_append_left _ (List.mem_append_right _ h)))) (by decide +kernel))
set_option maxRecDepth 20000 in
theorem gL_act_X5_setMoon : GoodIn wsL_act (wsV RL 41 RX5 yX5_setMoon wsX5_setMoon) := goodIn_app (goodIn_of _ (by decide +kernel)) ggL_act_X5_setMoon
set_option maxRecDepth 20000 in
theorem ggL_act_X5_setLeaps : GoodIn wsL_act wsX5_setLeaps := goodIn_ca (goodIn_r _ [322, 37, 38, 209, 323, 324, 344, 345, 346, 347, 348, 349, 350, 363, 364] (by decide +kernel) (by decide +kernel)) (goodIn_sub (fun _ h => List.mem_cons_of_mem _ (List.mem_append_left _ (List.mem_append_left _ (List.mem_append_right _ h)))) (by decide +kernel))
set_option maxRecDepth 20000 in
theorem gL_act_X5_setLeaps : GoodIn wsL_act (wsV RL 29 RX5 yX5_setLeaps wsX5_setLeaps) := goodIn_app (goodIn_of _ (by decide +kernel)) ggL_act_X5_setLeaps
set_option maxRecDepth 20000 in
theorem ggL_act_X5_setNodes : GoodIn wsL_act wsX5_setNodes := goodIn_ca (goodIn_r _ [328, 37, 38, 329, 330, 331, 246, 332, 333, 344, 345, 346, 347, 348, 349, 350, 367, 368] (by decide +kernel) (by decide +kernel)) (goodIn_sub (fun _ h => List.mem_cons_of_mem _ (List.mem_append_left _ (List.mem_append_left _ (List.mem_append_right _ h)))) (by decide +kernel))
set_option maxRecDepth 20000 in
theorem gL_act_X5_setNodes : GoodIn wsL_act (wsV RL 53 RX5 yX5_setNodes wsX5_setNodes) := goodIn_app (goodIn_of _ (by decide +kernel)) ggL_act_X5_setNodes
set_option maxRecDepth 20000 in
theorem ggL_law_X5_init : GoodIn wsL_law wsX5_init := goodIn_r _ [9, 10, 11, 12, 13, 14, 15, 16, 17, 18, 19, 20, 21, 22, 23, 24, 25, 26, 27, 28, 29, 30, 31, 32, 33, 34, 35, 36, 37, 38, 39, 40, 41, 42, 43, 44, 45, 46, 47, 48, 49, 50, 51, 52, 53, 54, 55, 56, 57, 58, 59, 60, 521, 522, 504, 505, 506, 507, 508, 509, 510, 523, 524, 525, 526, 527, 528, 529] (by decide +kernel) (by decide +kernel)
set_option maxRecDepth 20000 in
theorem gL_law_X5_init : GoodIn wsL_law (wsX5_init) := ggL_law_X5_init
set_option maxRecDepth 20000 in
theorem ggL_law_L_build : GoodIn wsL_law wsL_build := goodIn_ca (goodIn_r _ [64, 65, 66, 67, 68, 69, 70, 5, 71, 72, 73, 74, 75, 76, 77, 78, 79, 80, 11, 12, 81, 82, 83, 84, 85, 86, 87, 88, 89, 90, 63, 91, 92, 93, 94, 95, 96, 97, 98, 99, 2, 100, 101, 102, 16, 103, 104, 105, 106, 107, 108, 109, 110, 20, 111, 112, 113, 114, 115, 116, 117, 118, 119, 24, 120, 121, 511, 512, 513, 514, 515, 516, 517, 518, 519, 520, 504, 505, 506, 507, 508, 509, 510, 521, 522, 523, 524, 525, 526] (by decide +kernel) (by decide +kernel)) (goodIn_sub (fun _ h => List.mem_append_left _ (List.mem_append_left _ (List.mem_append_right _ h))) (by decide +kernel))
set_option maxRecDepth 20000 in
theorem gL_law_L_build : GoodIn wsL_law (va_wsS RL 105 yL_build wsL_build) := goodIn_app (goodIn_of _ (by decide +kernel)) ggL_law_L_build
set_option maxRecDepth 20000 in
theorem ggL_law_L_cell : GoodIn wsL_law wsL_cell := goodIn_r _ [91, 92] (by decide +kernel) (by decide +kernel)
set_option maxRecDepth 20000 in
theorem gL_law_L_cell : GoodIn wsL_law (va_wsS RL 12 yL_cell wsL_cell) := goodIn_app (goodIn_of _ (by decide +kernel)) ggL_law_L_cell
set_option maxRecDepth 20000 in
theorem ggL_law_X5_count : GoodIn wsL_law wsX5_count := goodIn_ca (goodIn_r _ [125, 126, 127, 16, 103, 104, 20, 111, 112, 24, 120, 121, 28, 29, 128, 129, 130, 131, 132, 27, 133, 134, 135, 136, 137, 2, 138, 139, 140, 141, 142, 143, 144, 145, 146, 147, 148, 149, 150, 151, 152, 153, 154, 155, 50, 156, 157, 158, 159, 160, 161, 162, 163, 164, 165, 166, 167, 168, 15, 169, 34, 33, 170, 171, 172, 19, 173, 39, 38, 174, 175, 176, 177, 178, 179, 180, 181, 182, 183, 23, 184, 45, 44, 185, 186, 187, 188, 189, 190, 191, 192, 193, 194, 195, 196, 197, 198, 199, 200, 201, 202, 203, 204, 205, 206, 207, 208, 504, 505, 506, 507, 508, 509, 510, 521, 522, 523, 524, 525, 526, 527, 528, 529, 530, 531, 532, 533, 534, 535, 536, 537, 538] (by decide +kernel) (by decide +kernel)) (goodIn_sub (fun _ h => List.mem_append_left _ (List.mem_append_right _ h)) (by decide +kernel))
set_option maxRecDepth 20000 in
theorem gL_law_X5_count : GoodIn wsL_law (wsV RL 109 RX5 yX5_count wsX5_count) := goodIn_app (goodIn_of _ (by decide +kernel)) ggL_law_X5_count
set_option maxRecDepth 20000 in
theorem ggL_law_X5_sheet : GoodIn wsL_law wsX5_sheet := goodIn_ca (goodIn_r _ [212, 126, 127, 29, 139, 160, 189, 161, 213, 214, 215, 2, 216, 130, 131, 132, 27, 133, 134, 140, 141, 142, 143, 144, 145, 146, 147, 148, 149, 150, 151, 152, 153, 154, 155, 50, 156, 157, 158, 159, 162, 163, 164, 165, 20, 16, 24, 166, 167, 168, 15, 169, 34, 33, 170, 171, 172, 19, 173, 39, 38, 174, 175, 176, 177, 178, 179, 180, 181, 182, 183, 23, 184, 45, 44, 185, 186, 187, 188, 28, 190, 191, 192, 193, 194, 195, 196, 197, 198, 199, 200, 201, 202, 203, 204, 205, 206, 207, 208, 217, 218, 219, 220, 221, 222, 223, 224, 225, 226, 227, 504, 505, 506, 507, 508, 509, 510, 530, 531, 532, 533, 527, 528, 529, 521, 522, 523, 524, 525, 526, 534, 535, 536, 537, 538] (by decide +kernel) (by decide +kernel)) (goodIn_sub (fun _ h => List.mem_append_left _ (List.mem_append_right _ h)) (by decide +kernel))
set_option maxRecDepth 20000 in
theorem gL_law_X5_sheet : GoodIn wsL_law (wsV RL 114 RX5 yX5_sheet wsX5_sheet) := goodIn_app (goodIn_of _ (by decide +kernel)) ggL_law_X5_sheet
set_option maxRecDepth 20000 in
theorem ggL_law_X5_printed : GoodIn wsL_law wsX5_printed := goodIn_ca (goodIn_r _ [231, 126, 127, 29, 139, 189, 213, 214, 215, 2, 216, 130, 131, 132, 27, 133, 134, 140, 141, 142, 143, 144, 145, 146, 147, 148, 149, 150, 151, 152, 153, 154, 155, 50, 203, 204, 205, 206, 207, 208, 504, 505, 506, 507, 508, 509, 510, 530, 531, 532, 533, 527, 528, 529] (by decide +kernel) (by decide +kernel)) (goodIn_sub (fun _ h => List.mem_append_left _ (List.mem_append_right _ h)) (by decide +kernel))
set_option maxRecDepth 20000 in
theorem gL_law_X5_printed : GoodIn wsL_law (wsV RL 116 RX5 yX5_printed wsX5_printed) := goodIn_app (goodIn_of _ (by decide +kernel)) ggL_law_X5_printed
set_option maxRecDepth 20000 in
theorem ggL_law_L_below : GoodIn wsL_law wsL_below := goodIn_r _ [95, 96] (by decide +kernel) (by decide +kernel)
set_option maxRecDepth 20000 in
theorem gL_law_L_below : GoodIn wsL_law (va_wsS RL 18 yL_below wsL_below) := goodIn_app (goodIn_of _ (by decide +kernel)) ggL_law_L_below
set_option maxRecDepth 20000 in
theorem ggL_law_L_act_wsL_act_r1 : GoodIn wsL_law wsL_act_r1 := goodIn_r _ [6, 4, 235, 236, 237, 226, 223, 227, 238, 239, 240, 70, 5, 71, 68, 69, 74, 72, 73, 75, 76, 93, 94, 63] (by decide +kernel) (by decide +kernel)
set_option maxRecDepth 20000 in
theorem ggL_law_L_act_wsL_act_r2 : GoodIn wsL_law wsL_act_r2 := goodIn_r _ [95, 96, 241, 242, 67, 243, 86, 244, 245, 246, 2, 247, 101, 102, 248, 249, 28, 250, 251, 252, 130, 131, 132, 27] (by decide +kernel) (by decide +kernel)
set_option maxRecDepth 20000 in
theorem ggL_law_L_act_wsL_act_r3 : GoodIn wsL_law wsL_act_r3 := goodIn_r _ [133, 134, 253, 254, 255, 256, 11, 12, 257, 258, 259, 260, 261, 262, 263, 264, 265, 266, 267, 50, 268, 269, 270, 271] (by decide +kernel) (by decide +kernel)
set_option maxRecDepth 20000 in
theorem ggL_law_L_act_wsL_act_r4 : GoodIn wsL_law wsL_act_r4 := goodIn_r _ [272, 273, 274, 275, 276, 277, 278, 279, 49, 280, 281, 282, 283, 284, 285, 286, 287, 288, 289, 290, 291, 292, 293, 294] (by decide +kernel) (by decide +kernel)
set_option maxRecDepth 20000 in
theorem ggL_law_L_act_wsL_act_r5 : GoodIn wsL_law wsL_act_r5 := goodIn_r _ [295, 296, 297, 298, 299, 300, 301, 302, 303, 304, 305, 306, 307, 308, 309, 310, 311, 312, 87, 313, 314, 315, 316, 83] (by decide +kernel) (by decide +kernel)
set_option maxRecDepth 20000 in
theorem ggL_law_L_act_wsL_act_r6 : GoodIn wsL_law wsL_act_r6 := goodIn_r _ [317, 318, 319, 320, 321, 322, 323, 324, 325, 326, 327, 328, 329, 82, 81, 330, 331, 332, 333, 334, 335, 336, 337, 338] (by decide +kernel) (by decide +kernel)
set_option maxRecDepth 20000 in
theorem ggL_law_L_act_wsL_act_r7 : GoodIn wsL_law wsL_act_r7 := goodIn_r _ [339, 340, 341, 342, 343, 344, 345, 346, 347, 348, 85, 349, 350, 351, 352, 353, 354, 355, 356, 357, 358, 359, 360, 29] (by decide +kernel) (by decide +kernel)
set_option maxRecDepth 20000 in
theorem ggL_law_L_act_wsL_act_r8 : GoodIn wsL_law wsL_act_r8 := goodIn_r _ [361, 362, 206, 363, 364, 365, 366, 367, 368, 369, 208, 370, 371, 372, 373, 374, 189, 190, 160, 161, 140, 141, 142, 143] (by decide +kernel) (by decide +kernel)
set_option maxRecDepth 20000 in
theorem ggL_law_L_act_wsL_act_r9 : GoodIn wsL_law wsL_act_r9 := goodIn_r _ [144, 145, 146, 147, 148, 149, 150, 151, 152, 153, 154, 155, 191, 192, 193, 194, 16, 195, 196, 197, 20, 198, 199, 166] (by decide +kernel) (by decide +kernel)
set_option maxRecDepth 20000 in
theorem ggL_law_L_act_wsL_act_r10 : GoodIn wsL_law wsL_act_r10 := goodIn_r _ [167, 168, 15, 169, 34, 33, 200, 201, 202, 170, 171, 172, 19, 173, 39, 38, 174, 175, 176, 177, 375, 376, 377, 378] (by decide +kernel) (by decide +kernel)
set_option maxRecDepth 20000 in
theorem ggL_law_L_act_wsL_act_r11 : GoodIn wsL_law wsL_act_r11 := goodIn_r _ [379, 162, 163, 164, 165, 24, 178, 179, 180, 181, 182, 183, 23, 184, 45, 44, 380, 381, 382, 383, 384, 222, 224, 385] (by decide +kernel) (by decide +kernel)
set_option maxRecDepth 20000 in
theorem ggL_law_L_act_wsL_act_r12 : GoodIn wsL_law wsL_act_r12 := goodIn_r _ [386, 387, 388, 126, 127, 139, 213, 214, 215, 216, 185, 186, 187, 188, 203, 204, 205, 207, 389, 390, 391, 392, 393, 394] (by decide +kernel) (by decide +kernel)
set_option maxRecDepth 20000 in
theorem ggL_law_L_act_wsL_act_r13 : GoodIn wsL_law wsL_act_r13 := goodIn_r _ [128, 129, 395, 396, 397, 398, 399, 400, 401, 402, 403, 404, 405, 406, 407, 408, 409, 410, 411, 412, 413, 414, 105, 106] (by decide +kernel) (by decide +kernel)
set_option maxRecDepth 20000 in
theorem ggL_law_L_act_wsL_act_r14 : GoodIn wsL_law wsL_act_r14 := goodIn_r _ [107, 108, 109, 110, 111, 112, 97, 98, 99, 100, 103, 104, 113, 114, 115, 116, 117, 118, 119, 120, 121] (by decide +kernel) (by decide +kernel)
set_option maxRecDepth 20000 in
theorem ggL_law_L_act_wsX60 : GoodIn wsL_law wsX60 := goodIn_r _ [511, 512, 513, 514, 515, 516, 517, 518, 519, 520] (by decide +kernel) (by decide +kernel)
set_option maxRecDepth 20000 in
theorem ggL_law_L_act_wsX50 : GoodIn wsL_law wsX50 := goodIn_r _ [504, 505, 506, 507, 508, 509, 510] (by decide +kernel) (by decide +kernel)
set_option maxRecDepth 20000 in
theorem ggL_law_L_act_wsX00 : GoodIn wsL_law wsX00 := goodIn_r _ [534, 535, 536, 537, 538] (by decide +kernel) (by decide +kernel)
set_option maxRecDepth 20000 in
theorem ggL_law_L_act_wsJx4a65c0 : GoodIn wsL_law wsJx4a65c0 := goodIn_r _ [527, 528, 529] (by decide +kernel) (by decide +kernel)
set_option maxRecDepth 20000 in
theorem ggL_law_L_act_wsX30 : GoodIn wsL_law wsX30 := goodIn_r _ [530, 531, 532, 533] (by decide +kernel) (by decide +kernel)
set_option maxRecDepth 20000 in
theorem ggL_law_L_act_wsX40 : GoodIn wsL_law wsX40 := goodIn_r _ [521, 522] (by decide +kernel) (by decide +kernel)
set_option maxRecDepth 20000 in
theorem ggL_law_L_act_wsX10 : GoodIn wsL_law wsX10 := goodIn_r _ [523, 524] (by decide +kernel) (by decide +kernel)
set_option maxRecDepth 20000 in
theorem ggL_law_L_act_wsX20 : GoodIn wsL_law wsX20 := goodIn_r _ [525, 526] (by decide +kernel) (by decide +kernel)
set_option maxRecDepth 20000 in
theorem ggL_law_L_act_code : GoodIn wsL_law [.code yL_act cL_act 11 (some .boolean)] := goodIn_r _ [234] (by decide +kernel) (by decide +kernel)
set_option maxRecDepth 20000 in
theorem ggL_law_L_act : GoodIn wsL_law wsL_act := goodIn_ca (goodIn_ca (goodIn_ca (goodIn_app (a := [.code yL_act cL_act 11 (some .boolean)]) ggL_law_L_act_code (goodIn_app (goodIn_app (goodIn_app (goodIn_app (goodIn_app (goodIn_app (goodIn_app (goodIn_app (goodIn_app ggL_law_L_act_wsL_act_r1 (goodIn_app ggL_law_L_act_wsL_act_r2 (goodIn_app ggL_law_L_act_wsL_act_r3 (goodIn_app ggL_law_L_act_wsL_act_r4 (goodIn_app ggL_law_L_act_wsL_act_r5 (goodIn_app ggL_law_L_act_wsL_act_r6 (goodIn_app ggL_law_L_act_wsL_act_r7 (goodIn_app ggL_law_L_act_wsL_act_r8 (goodIn_app ggL_law_L_act_wsL_act_r9 (goodIn_app ggL_law_L_act_wsL_act_r10 (goodIn_app ggL_law_L_act_wsL_act_r11 (goodIn_app ggL_law_L_act_wsL_act_r12 (goodIn_app ggL_law_L_act_wsL_act_r13 ggL_law_L_act_wsL_act_r14))))))))))))) ggL_law_L_act_wsX60) ggL_law_L_act_wsX50) ggL_law_L_act_wsX00) ggL_law_L_act_wsJx4a65c0) ggL_law_L_act_wsX30) ggL_law_L_act_wsX40) ggL_law_L_act_wsX10) ggL_law_L_act_wsX20)) (goodIn_sub (fun _ h => List.mem_append_left _ (List.mem_append_left _ (List.mem_append_right _ h))) (by decide +kernel))) (goodIn_sub (fun _ h => List.mem_append_right _ h) (by decide +kernel))) (goodIn_sub (fun _ h => List.mem_append_left _ (List.mem_append_right _ h)) (by decide +kernel))
set_option maxRecDepth 20000 in
theorem gL_law_L_act : GoodIn wsL_law (va_wsS RL 119 yL_act wsL_act) := goodIn_app (goodIn_of _ (by decide +kernel)) ggL_law_L_act
