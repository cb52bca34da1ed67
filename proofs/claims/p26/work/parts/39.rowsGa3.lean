/-! ===== rows of the law's calls ===== -/
set_option maxRecDepth 20000 in
theorem ggL_law_L_act_wsL_act_r9 : GoodIn wsL_law wsL_act_r9 := goodIn_r _ [144, 145, 146, 147, 148, 149, 150, 151, 152, 153, 154, 155, 191, 192, 193, 194, 16, 195, 196, 197, 20, 198, 199, 166] (by decide +kernel) (by decide +kernel)
set_option maxRecDepth 20000 in
theorem ggL_law_L_act_wsL_act_r10 : GoodIn wsL_law wsL_act_r10 := goodIn_r _ [167, 168, 15, 169, 34, 33, 200, 201, 202, 170, 171, 172, 19, 173, 39, 38, 174, 175, 176, 177, 375, 376, 377, 378] (by decide +kernel) (by decide +kernel)
set_option maxRecDepth 20000 in
theorem ggL_law_L_act_wsL_act_r11 : GoodIn wsL_law wsL_act_r11 := goodIn_r _ [379, 162, 163, 164, 165, 24, 178, 179, 180, 181, 182, 183, 23, 184, 45, 44, 380, 381, 382, 383, 384, 222, 224, 385] (by decide +kernel) (by decide +kernel)
set_option maxRecDepth 20000 in
theorem ggL_law_L_act_wsL_act_r12 : GoodIn wsL_law wsL_act_r12 := goodIn_r _ [386, 387, 388, 126, 127, 139, 213, 214, 215, 216, 185, 186, 187, 188, 203, 204, 205, 207, 389, 390, 391, 392, 393, 394] (by decide +kernel) (by decide +kernel)
set_option maxRecDepth 20000 in
theorem ggL_law_L_act_wsL_act_r13 : GoodIn wsL_law wsL_act_r13 := goodIn_r _ [128, 129, 395, 396, 397, 398, 399, 400, 401, 402, 403, 404, 405, 406, 407, 408, 409, 410, 411, 412, 413, 414, 105, 106] (by decide +kernel) (by decide +kernel)
set_option maxRecDepth 20000 in
theorem ggL_law_L_act_wsL_act_r14 : GoodIn wsL_law wsL_act_r14 := goodIn_r _ [107, 108, 109, 110, 111, 112, 97, 98, 99, 100, 103, 104, 113, 114, 115, 116, 117, 118, 119, 120, 121] (by decide +kernel) (by decide +kernel)
set_option maxRecDepth 20000 in
theorem ggL_law_L_act_wsX60 : GoodIn wsL_law wsX60 := goodIn_r _ [511, 512, 513, 514, 515, 516, 517, 518, 519, 520] (by decide +kernel) (by decide +kernel)
set_option maxRecDepth 20000 in
theorem ggL_law_L_act_wsX50 : GoodIn wsL_law wsX50 := goodIn_r _ [504, 505, 506, 507, 508, 509, 510] (by decide +kernel) (by decide +kernel)
set_option maxRecDepth 20000 in
theorem ggL_law_L_act_wsX00 : GoodIn wsL_law wsX00 := goodIn_r _ [534, 535, 536, 537, 538] (by decide +kernel) (by decide +kernel)
set_option maxRecDepth 20000 in
theorem ggL_law_L_act_wsJx4a65c0 : GoodIn wsL_law wsJx4a65c0 := goodIn_r _ [527, 528, 529] (by decide +kernel) (by decide +kernel)
set_option maxRecDepth 20000 in
theorem ggL_law_L_act_wsX30 : GoodIn wsL_law wsX30 := goodIn_r _ [530, 531, 532, 533] (by decide +kernel) (by decide +kernel)
set_option maxRecDepth 20000 in
theorem ggL_law_L_act_wsX40 : GoodIn wsL_law wsX40 := goodIn_r _ [521, 522] (by decide +kernel) (by decide +kernel)
set_option maxRecDepth 20000 in
theorem ggL_law_L_act_wsX10 : GoodIn wsL_law wsX10 := goodIn_r _ [523, 524] (by decide +kernel) (by decide +kernel)
set_option maxRecDepth 20000 in
theorem ggL_law_L_act_wsX20 : GoodIn wsL_law wsX20 := goodIn_r _ [525, 526] (by decide +kernel) (by decide +kernel)
set_option maxRecDepth 20000 in
theorem ggL_law_L_act_code : GoodIn wsL_law [.code yL_act cL_act 11 (some .boolean)] := goodIn_sub (fun w h => by rw [List.mem_singleton.mp h]; exact List.mem_of_getElem? (i := 234) rfl) (by decide +kernel)
set_option maxRecDepth 20000 in
theorem ggL_law_L_act : GoodIn wsL_law wsL_act := goodIn_ca (goodIn_ca (goodIn_ca (goodIn_app (a := [.code yL_act cL_act 11 (some .boolean)]) ggL_law_L_act_code (goodIn_app (goodIn_app (goodIn_app (goodIn_app (goodIn_app (goodIn_app (goodIn_app (goodIn_app (goodIn_app ggL_law_L_act_wsL_act_r1 (goodIn_app ggL_law_L_act_wsL_act_r2 (goodIn_app ggL_law_L_act_wsL_act_r3 (goodIn_app ggL_law_L_act_wsL_act_r4 (goodIn_app ggL_law_L_act_wsL_act_r5 (goodIn_app ggL_law_L_act_wsL_act_r6 (goodIn_app ggL_law_L_act_wsL_act_r7 (goodIn_app ggL_law_L_act_wsL_act_r8 (goodIn_app ggL_law_L_act_wsL_act_r9 (goodIn_app ggL_law_L_act_wsL_act_r10 (goodIn_app ggL_law_L_act_wsL_act_r11 (goodIn_app ggL_law_L_act_wsL_act_r12 (goodIn_app ggL_law_L_act_wsL_act_r13 ggL_law_L_act_wsL_act_r14))))))))))))) ggL_law_L_act_wsX60) ggL_law_L_act_wsX50) ggL_law_L_act_wsX00) ggL_law_L_act_wsJx4a65c0) ggL_law_L_act_wsX30) ggL_law_L_act_wsX40) ggL_law_L_act_wsX10) ggL_law_L_act_wsX20)) (goodIn_sub (fun _ h => List.mem_append_left _ (List.mem_append_left _ (List.mem_append_right _ h))) (by decide +kernel))) (goodIn_sub (fun _ h => List.mem_append_right _ h) (by decide +kernel))) (goodIn_sub (fun _ h => List.mem_append_left _ (List.mem_append_right _ h)) (by decide +kernel))
set_option maxRecDepth 20000 in
theorem gL_law_L_act : GoodIn wsL_law (va_wsS RL 119 yL_act wsL_act) := goodIn_app (goodIn_of _ (by decide +kernel)) ggL_law_L_act
