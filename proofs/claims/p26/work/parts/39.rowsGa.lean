/-! ===== rows of the law's calls ===== -/
set_option maxRecDepth 20000 in
theorem ggL_build_X6_init : GoodIn wsL_build wsX6_init := goodIn_r _ [16, 17, 18, 19, 20, 21, 22, 23, 24, 25, 26, 27, 66, 67, 68, 69, 70, 71, 72, 73, 74, 75] (by decide +kernel) (by decide +kernel)
set_option maxRecDepth 20000 in
theorem gL_build_X6_init_n11 : GoodIn wsL_build (wsX6_init) := ggL_build_X6_init
set_option maxRecDepth 20000 in
theorem ggL_build_L_cell : GoodIn wsL_build wsL_cell := goodIn_r _ [31, 32] (by decide +kernel) (by decide +kernel)
set_option maxRecDepth 20000 in
theorem gL_build_L_cell : GoodIn wsL_build (va_wsS RL 12 yL_cell wsL_cell) := goodIn_app (goodIn_of _ (by decide +kernel)) ggL_build_L_cell
set_option maxRecDepth 20000 in
theorem ggL_build_L_below : GoodIn wsL_build wsL_below := goodIn_r _ [35, 36] (by decide +kernel) (by decide +kernel)
set_option maxRecDepth 20000 in
theorem gL_build_L_below : GoodIn wsL_build (va_wsS RL 18 yL_below wsL_below) := goodIn_app (goodIn_of _ (by decide +kernel)) ggL_build_L_below
set_option maxRecDepth 20000 in
theorem ggL_build_X5_setLeaps : GoodIn wsL_build wsX5_setLeaps := goodIn_ca (goodIn_r _ [41, 42, 43, 44, 45, 46, 76, 77, 78, 79, 80, 81, 82, 83, 84] (by decide +kernel) (by decide +kernel)) (goodIn_sub (fun _ h => List.mem_cons_of_mem _ (List.mem_append_right _ h)) (by decide +kernel))
set_option maxRecDepth 20000 in
theorem gL_build_X5_setLeaps : GoodIn wsL_build (wsV RL 29 RX5 yX5_setLeaps wsX5_setLeaps) := goodIn_app (goodIn_of _ (by decide +kernel)) ggL_build_X5_setLeaps
set_option maxRecDepth 20000 in
theorem ggL_build_X5_setMoon : GoodIn wsL_build wsX5_setMoon := goodIn_ca (goodIn_r _ [50, 42, 43, 51, 52, 53, 54, 55, 76, 77, 78, 79, 80, 81, 82, 85, 86] (by decide +kernel) (by decide +kernel)) (goodIn_sub (fun _ h => List.mem_cons_of_mem _ (List.mem_append_right _ h)) (by decide +kernel))
set_option maxRecDepth 20000 in
theorem gL_build_X5_setMoon : GoodIn wsL_build (wsV RL 41 RX5 yX5_setMoon wsX5_setMoon) := goodIn_app (goodIn_of _ (by decide +kernel)) ggL_build_X5_setMoon
set_option maxRecDepth 20000 in
theorem ggL_build_X5_setNodes : GoodIn wsL_build wsX5_setNodes := goodIn_ca (goodIn_r _ [59, 42, 43, 60, 61, 62, 63, 64, 65, 76, 77, 78, 79, 80, 81, 82, 87, 88] (by decide +kernel) (by decide +kernel)) (goodIn_sub (fun _ h => List.mem_cons_of_mem _ (List.mem_append_right _ h)) (by decide +kernel))
set_option maxRecDepth 20000 in
theorem gL_build_X5_setNodes : GoodIn wsL_build (wsV RL 53 RX5 yX5_setNodes wsX5_setNodes) := goodIn_app (goodIn_of _ (by decide +kernel)) ggL_build_X5_setNodes
set_option maxRecDepth 20000 in
theorem ggL_act_L_below : GoodIn wsL_act wsL_below := goodIn_r _ [25, 26] (by decide +kernel) (by decide +kernel)
set_option maxRecDepth 20000 in
theorem gL_act_L_below : GoodIn wsL_act (va_wsS RL 18 yL_below wsL_below) := goodIn_app (goodIn_of _ (by decide +kernel)) ggL_act_L_below
set_option maxRecDepth 20000 in
theorem ggL_act_X6_more : GoodIn wsL_act wsX6_more := goodIn_r _ [30, 31] (by decide +kernel) (by decide +kernel)
set_option maxRecDepth 20000 in
theorem gL_act_X6_more : GoodIn wsL_act (va_wsS RL 61 yX6_more wsX6_more) := goodIn_app (goodIn_of _ (by decide +kernel)) ggL_act_X6_more
set_option maxRecDepth 20000 in
theorem ggL_act_X5_addFeast : GoodIn wsL_act wsX5_addFeast := goodIn_ca (goodIn_ca (goodIn_r _ [36, 37, 38, 39, 40, 41, 42, 43, 44, 45, 46, 47, 48, 49, 50, 51, 52, 53, 54, 55, 56, 57, 58, 59, 60, 61, 62, 63, 64, 65, 66, 67, 68, 69, 70, 71, 72, 73, 74, 75, 76, 77, 78, 79, 80, 81, 82, 6, 7, 8, 83, 84, 85, 86, 87, 88, 89, 90, 91, 92, 93, 94, 95, 96, 97, 98, 99, 100, 101, 102, 103, 104, 105, 106, 10, 11, 107, 108, 109, 110, 344, 345, 346, 347, 348, 349, 350, 351, 352, 353, 354, 355, 356, 357, 358] (by decide +kernel) (by decide +kernel)) (goodIn_sub (fun _ h => List.mem_cons_of_mem _ (List.mem_append_left _ (List.mem_append_left _ (List.mem_append_right _ h)))) (by decide +kernel))) (goodIn_sub (fun _ h => List.mem_cons_of_mem _ (List.mem_append_left _ (List.mem_append_right _ h))) (by decide +kernel))
set_option maxRecDepth 20000 in
theorem gL_act_X5_addFeast : GoodIn wsL_act (wsV RL 65 RX5 yX5_addFeast wsX5_addFeast) := goodIn_app (goodIn_of _ (by decide +kernel)) ggL_act_X5_addFeast
set_option maxRecDepth 20000 in
theorem ggL_act_X6_sheet : GoodIn wsL_act wsX6_sheet := goodIn_r _ [114, 115, 2, 116, 117, 118, 29, 119, 120, 121, 6, 7, 8, 122, 123, 124, 125, 126, 127, 128, 129, 130, 131, 132, 133, 134, 135, 136, 137, 138, 139, 140, 141, 142, 143, 144, 145, 146, 147, 148, 149, 150, 151, 152, 153, 154, 155, 156, 157, 158, 159, 160, 161, 162, 163, 334, 335, 336, 337, 338, 339, 340, 341, 342, 343] (by decide +kernel) (by decide +kernel)
set_option maxRecDepth 20000 in
theorem gL_act_X6_sheet : GoodIn wsL_act (wsV RL 72 RX6 yX6_sheet wsX6_sheet) := goodIn_app (goodIn_of _ (by decide +kernel)) ggL_act_X6_sheet
set_option maxRecDepth 20000 in
theorem ggL_act_X5_print : GoodIn wsL_act wsX5_print := goodIn_ca (goodIn_ca (goodIn_r _ [167, 37, 38, 39, 40, 168, 169, 170, 171, 172, 173, 35, 174, 45, 46, 47, 48, 49, 50, 175, 176, 177, 178, 55, 56, 2, 179, 180, 181, 182, 183, 184, 185, 41, 186, 187, 188, 189, 190, 191, 192, 193, 194, 195, 196, 197, 198, 199, 200, 201, 202, 203, 204, 68, 205, 206, 207, 208, 209, 210, 211, 212, 213, 214, 215, 216, 217, 218, 219, 220, 221, 222, 223, 224, 225, 226, 227, 228, 229, 230, 231, 232, 233, 234, 235, 236, 237, 238, 239, 240, 241, 242, 243, 244, 245, 246, 247, 248, 249, 250, 251, 252, 253, 254, 255, 256, 62, 63, 64, 65, 66, 67, 69, 70, 71, 72, 73, 74, 75, 76, 77, 78, 79, 80, 81, 82, 6, 7, 8, 83, 84, 85, 86, 87, 88, 89, 90, 91, 92, 93, 94, 95, 96, 97, 98, 99, 100, 101, 102, 103, 104, 105, 106, 10, 11, 107, 108, 109, 110, 344, 345, 346, 347, 348, 349, 350, 359, 360, 361, 362, 356, 357, 358, 351, 352, 353, 354, 355, 363, 364, 365, 366, 367, 368] (by decide +kernel) (by decide +kernel)) (goodIn_sub (fun _ h => List.mem_cons_of_mem _ (List.mem_append_left _ (List.mem_append_left _ (List.mem_append_right _ h)))) (by decide +kernel))) (goodIn_sub (fun _ h => List.mem_cons_of_mem _ (List.mem_append_left _ (List.mem_append_right _ h))) (by decide +kernel))
set_option maxRecDepth 20000 in
theorem gL_act_X5_print : GoodIn wsL_act (wsV RL 76 RX5 yX5_print wsX5_print) := goodIn_app (goodIn_of _ (by decide +kernel)) ggL_act_X5_print
set_option maxRecDepth 20000 in
theorem ggL_act_X6_off : GoodIn wsL_act wsX6_off := goodIn_r _ [260, 261, 262, 7, 263, 121, 6, 8, 156, 157, 158, 29, 159, 115, 120, 160, 161, 162, 163, 122, 123, 124, 125, 126, 127, 128, 129, 130, 131, 132, 133, 134, 135, 136, 137, 138, 139, 140, 141, 142, 143, 144, 145, 334, 335, 336, 337, 338, 339, 340, 341, 342, 343] (by decide +kernel) (by decide +kernel)
set_option maxRecDepth 20000 in
theorem gL_act_X6_off : GoodIn wsL_act (wsV RL 80 RX6 yX6_off wsX6_off) := goodIn_app (goodIn_of _ (by decide +kernel)) ggL_act_X6_off
set_option maxRecDepth 20000 in
theorem ggL_act_X5_reprint : GoodIn wsL_act wsX5_reprint := goodIn_ca (goodIn_r _ [267, 268, 269, 168, 270, 271, 272, 273, 35, 274, 45, 46, 47, 48, 49, 50, 189, 190, 191, 192, 193, 194, 195, 196, 197, 198, 199, 200, 201, 202, 203, 204, 68, 275, 276, 277, 278, 185, 41, 186, 187, 205, 206, 207, 208, 209, 210, 211, 212, 213, 214, 215, 216, 217, 218, 219, 220, 221, 222, 223, 224, 225, 226, 227, 228, 229, 230, 231, 232, 233, 234, 235, 236, 279, 280, 281, 171, 282, 179, 181, 182, 183, 184, 188, 237, 238, 239, 240, 241, 242, 243, 244, 245, 246, 247, 248, 249, 250, 251, 252, 253, 254, 255, 256, 344, 345, 346, 347, 348, 349, 350, 356, 357, 358, 359, 360, 361, 362, 351, 352, 353, 354, 355, 363, 364, 365, 366, 367, 368] (by decide +kernel) (by decide +kernel)) (goodIn_sub (fun _ h => List.mem_cons_of_mem _ (List.mem_append_right _ h)) (by decide +kernel))
set_option maxRecDepth 20000 in
theorem gL_act_X5_reprint : GoodIn wsL_act (wsV RL 84 RX5 yX5_reprint wsX5_reprint) := goodIn_app (goodIn_of _ (by decide +kernel)) ggL_act_X5_reprint
set_option maxRecDepth 20000 in
theorem ggL_act_X6_moon : GoodIn wsL_act wsX6_moon := goodIn_r _ [139, 140, 141, 142, 143, 29, 144, 145, 120, 334, 335, 336, 337, 338, 339, 340, 341, 342, 343] (by decide +kernel) (by decide +kernel)
set_option maxRecDepth 20000 in
theorem gL_act_X6_moon : GoodIn wsL_act (wsV RL 88 RX6 yX6_moon wsX6_moon) := goodIn_app (goodIn_of _ (by decide +kernel)) ggL_act_X6_moon
set_option maxRecDepth 20000 in
theorem ggL_act_X5_observe : GoodIn wsL_act wsX5_observe := goodIn_ca (goodIn_r _ [287, 37, 38, 288, 213, 289, 290, 291, 292, 293, 229, 294, 295, 227, 228, 230, 231, 232, 296, 234, 235, 236, 233, 297, 298, 299, 300, 301, 302, 10, 7, 11, 303, 6, 8, 344, 345, 346, 347, 348, 349, 350, 365, 366] (by decide +kernel) (by decide +kernel)) (goodIn_sub (fun _ h => List.mem_cons_of_mem _ (List.mem_append_left _ (List.mem_append_left _ (List.mem_append_right _ h)))) (by decide +kernel))
set_option maxRecDepth 20000 in
theorem gL_act_X5_observe : GoodIn wsL_act (wsV RL 100 RX5 yX5_observe wsX5_observe) := goodIn_app (goodIn_of _ (by decide +kernel)) ggL_act_X5_observe
set_option maxRecDepth 20000 in
theorem ggL_act_X6_observe : GoodIn wsL_act wsX6_observe := goodIn_r _ [307, 120, 121, 6, 7, 8, 261, 262, 263, 308, 309, 145, 310, 136, 137, 138, 29, 139, 140, 141, 142, 143, 144, 334, 335, 336, 337, 338, 339, 340, 341, 342, 343] (by decide +kernel) (by decide +kernel)
set_option maxRecDepth 20000 in
theorem gL_act_X6_observe : GoodIn wsL_act (wsV RL 103 RX6 yX6_observe wsX6_observe) := goodIn_app (goodIn_of _ (by decide +kernel)) ggL_act_X6_observe
set_option maxRecDepth 20000 in
theorem ggL_act_X5_setMoon : GoodIn wsL_act wsX5_setMoon := goodIn_ca (goodIn_r _ [314, 37, 38, 315, 316, 213, 317, 318, 344, 345, 346, 347, 348, 349, 350, 365, 366] (by decide +kernel) (by decide +kernel)) (goodIn_sub (fun _ h => List.mem_cons_of_mem _ (List.mem_append_left _ (List.mem_append_left _ (List.mem_append_right _ h)))) (by decide +kernel))
set_option maxRecDepth 20000 in
theorem gL_act_X5_setMoon : GoodIn wsL_act (wsV RL 41 RX5 yX5_setMoon wsX5_setMoon) := goodIn_app (goodIn_of _ (by decide +kernel)) ggL_act_X5_setMoon
set_option maxRecDepth 20000 in
theorem ggL_act_X5_setLeaps : GoodIn wsL_act wsX5_setLeaps := goodIn_ca (goodIn_r _ [322, 37, 38, 209, 323, 324, 344, 345, 346, 347, 348, 349, 350, 363, 364] (by decide +kernel) (by decide +kernel)) (goodIn_sub (fun _ h => List.mem_cons_of_mem _ (List.mem_append_left _ (List.mem_append_left _ (List.mem_append_right _ h)))) (by decide +kernel))
set_option maxRecDepth 20000 in
theorem gL_act_X5_setLeaps : GoodIn wsL_act (wsV RL 29 RX5 yX5_setLeaps wsX5_setLeaps) := goodIn_app (goodIn_of _ (by decide +kernel)) ggL_act_X5_setLeaps
set_option maxRecDepth 20000 in
theorem ggL_act_X5_setNodes : GoodIn wsL_act wsX5_setNodes := goodIn_ca (goodIn_r _ [328, 37, 38, 329, 330, 331, 246, 332, 333, 344, 345, 346, 347, 348, 349, 350, 367, 368] (by decide +kernel) (by decide +kernel)) (goodIn_sub (fun _ h => List.mem_cons_of_mem _ (List.mem_append_left _ (List.mem_append_left _ (List.mem_append_right _ h)))) (by decide +kernel))
set_option maxRecDepth 20000 in
theorem gL_act_X5_setNodes : GoodIn wsL_act (wsV RL 53 RX5 yX5_setNodes wsX5_setNodes) := goodIn_app (goodIn_of _ (by decide +kernel)) ggL_act_X5_setNodes
