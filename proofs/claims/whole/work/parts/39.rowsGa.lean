/-! ===== the law: what its calls ask ===== -/
set_option maxRecDepth 20000 in
theorem ggL_law_X5_init : GoodIn wsL_law wsX5_init := goodIn_r _ [9, 10, 11, 12, 13, 14, 15, 16, 17, 18, 19, 20, 21, 22, 23, 24, 25, 26, 27, 28, 29, 30, 31, 32, 33, 34, 35, 36, 37, 38, 39, 40, 41, 42, 43, 44, 45, 46, 47, 48, 49, 50, 51, 52, 53, 54, 55, 56, 57, 58, 59, 60, 910, 911, 890, 891, 892, 893, 894, 895, 896, 912, 913, 914, 915, 916, 917, 918] (by decide +kernel) (by decide +kernel)
set_option maxRecDepth 20000 in
theorem gL_law_X5_init : GoodIn wsL_law (wsX5_init) := ggL_law_X5_init
set_option maxRecDepth 20000 in
theorem ggL_law_X6_init : GoodIn wsL_law wsX6_init := goodIn_r _ [63, 64, 11, 12, 65, 66, 67, 68, 69, 70, 71, 72, 897, 898, 899, 900, 901, 902, 903, 904, 905, 906, 907, 908, 909] (by decide +kernel) (by decide +kernel)
set_option maxRecDepth 20000 in
theorem gL_law_X6_init : GoodIn wsL_law (wsX6_init) := ggL_law_X6_init
set_option maxRecDepth 20000 in
theorem ggL_law_L_setLeaps : GoodIn wsL_law wsL_setLeaps := goodIn_ca (goodIn_r _ [76, 77, 78, 79, 80, 2, 81, 82, 83, 16, 84, 85, 890, 891, 892, 893, 894, 895, 896, 910, 911] (by decide +kernel) (by decide +kernel)) (goodIn_sub (fun _ h => List.mem_append_left _ (List.mem_append_left _ (List.mem_append_right _ h))) (by decide +kernel))
set_option maxRecDepth 20000 in
theorem gL_law_L_setLeaps : GoodIn wsL_law (va_wsS RL 88 yL_setLeaps wsL_setLeaps) := goodIn_app (goodIn_of _ (by decide +kernel)) ggL_law_L_setLeaps
set_option maxRecDepth 20000 in
theorem ggL_law_X6_setLeaps : GoodIn wsL_law wsX6_setLeaps := goodIn_r _ [89, 90, 65, 66, 91, 92, 5, 93, 94, 95, 96, 97, 897, 898, 899, 900, 901, 902, 903, 904, 905, 906, 907, 908, 909] (by decide +kernel) (by decide +kernel)
set_option maxRecDepth 20000 in
theorem gL_law_X6_setLeaps : GoodIn wsL_law (wsV RL 93 RX6 yX6_setLeaps wsX6_setLeaps) := goodIn_app (goodIn_of _ (by decide +kernel)) ggL_law_X6_setLeaps
set_option maxRecDepth 20000 in
theorem ggL_law_X6_thrown : GoodIn wsL_law wsX6_thrown := goodIn_r _ [101, 90, 897, 898, 899, 900, 901, 902, 903, 904, 905, 906, 907, 908, 909] (by decide +kernel) (by decide +kernel)
set_option maxRecDepth 20000 in
theorem gL_law_X6_thrown : GoodIn wsL_law (wsV RL 94 RX6 yX6_thrown wsX6_thrown) := goodIn_app (goodIn_of _ (by decide +kernel)) ggL_law_X6_thrown
set_option maxRecDepth 20000 in
theorem ggL_law_L_setMoon : GoodIn wsL_law wsL_setMoon := goodIn_ca (goodIn_r _ [104, 77, 105, 106, 107, 2, 108, 82, 83, 109, 110, 20, 111, 112, 890, 891, 892, 893, 894, 895, 896, 912, 913] (by decide +kernel) (by decide +kernel)) (goodIn_sub (fun _ h => List.mem_append_left _ (List.mem_append_left _ (List.mem_append_right _ h))) (by decide +kernel))
set_option maxRecDepth 20000 in
theorem gL_law_L_setMoon : GoodIn wsL_law (va_wsS RL 98 yL_setMoon wsL_setMoon) := goodIn_app (goodIn_of _ (by decide +kernel)) ggL_law_L_setMoon
set_option maxRecDepth 20000 in
theorem ggL_law_X6_setMoon : GoodIn wsL_law wsX6_setMoon := goodIn_r _ [116, 90, 117, 118, 67, 119, 91, 92, 5, 93, 94, 95, 96, 97, 897, 898, 899, 900, 901, 902, 903, 904, 905, 906, 907, 908, 909] (by decide +kernel) (by decide +kernel)
set_option maxRecDepth 20000 in
theorem gL_law_X6_setMoon : GoodIn wsL_law (wsV RL 100 RX6 yX6_setMoon wsX6_setMoon) := goodIn_app (goodIn_of _ (by decide +kernel)) ggL_law_X6_setMoon
set_option maxRecDepth 20000 in
theorem ggL_law_L_setNodes : GoodIn wsL_law wsL_setNodes := goodIn_ca (goodIn_r _ [122, 77, 123, 124, 125, 2, 126, 82, 83, 127, 128, 129, 24, 130, 131, 890, 891, 892, 893, 894, 895, 896, 914, 915] (by decide +kernel) (by decide +kernel)) (goodIn_sub (fun _ h => List.mem_append_left _ (List.mem_append_left _ (List.mem_append_right _ h))) (by decide +kernel))
set_option maxRecDepth 20000 in
theorem gL_law_L_setNodes : GoodIn wsL_law (va_wsS RL 101 yL_setNodes wsL_setNodes) := goodIn_app (goodIn_of _ (by decide +kernel)) ggL_law_L_setNodes
set_option maxRecDepth 20000 in
theorem ggL_law_X6_setNodes : GoodIn wsL_law wsX6_setNodes := goodIn_r _ [135, 90, 136, 137, 138, 69, 139, 91, 92, 5, 93, 94, 95, 96, 97, 897, 898, 899, 900, 901, 902, 903, 904, 905, 906, 907, 908, 909] (by decide +kernel) (by decide +kernel)
set_option maxRecDepth 20000 in
theorem gL_law_X6_setNodes : GoodIn wsL_law (wsV RL 103 RX6 yX6_setNodes wsX6_setNodes) := goodIn_app (goodIn_of _ (by decide +kernel)) ggL_law_X6_setNodes
set_option maxRecDepth 20000 in
theorem ggL_law_L_leap : GoodIn wsL_law wsL_leap := goodIn_ca (goodIn_r _ [142, 77, 143, 144, 145, 2, 146, 82, 83, 16, 147, 148, 149, 150, 151, 152, 15, 153, 33, 34, 890, 891, 892, 893, 894, 895, 896, 910, 911] (by decide +kernel) (by decide +kernel)) (goodIn_sub (fun _ h => List.mem_append_left _ (List.mem_append_left _ (List.mem_append_right _ h))) (by decide +kernel))
set_option maxRecDepth 20000 in
theorem gL_law_L_leap : GoodIn wsL_law (va_wsS RL 104 yL_leap wsL_leap) := goodIn_app (goodIn_of _ (by decide +kernel)) ggL_law_L_leap
set_option maxRecDepth 20000 in
theorem ggL_law_X6_leap : GoodIn wsL_law wsX6_leap := goodIn_r _ [157, 90, 158, 159, 5, 160, 91, 92, 93, 161, 162, 163, 164, 66, 65, 897, 898, 899, 900, 901, 902, 903, 904, 905, 906, 907, 908, 909] (by decide +kernel) (by decide +kernel)
set_option maxRecDepth 20000 in
theorem gL_law_X6_leap : GoodIn wsL_law (wsV RL 107 RX6 yX6_leap wsX6_leap) := goodIn_app (goodIn_of _ (by decide +kernel)) ggL_law_X6_leap
set_option maxRecDepth 20000 in
theorem ggL_law_L_day : GoodIn wsL_law wsL_day := goodIn_ca (goodIn_r _ [167, 77, 168, 169, 170, 2, 171, 82, 83, 16, 147, 148, 149, 172, 173, 174, 15, 175, 176, 151, 152, 153, 33, 34, 177, 178, 179, 180, 181, 182, 183, 890, 891, 892, 893, 894, 895, 896, 910, 911] (by decide +kernel) (by decide +kernel)) (goodIn_sub (fun _ h => List.mem_append_left _ (List.mem_append_left _ (List.mem_append_right _ h))) (by decide +kernel))
set_option maxRecDepth 20000 in
theorem gL_law_L_day : GoodIn wsL_law (va_wsS RL 108 yL_day wsL_day) := goodIn_app (goodIn_of _ (by decide +kernel)) ggL_law_L_day
