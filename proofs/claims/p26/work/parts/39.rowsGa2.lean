/-! ===== rows of the law's calls ===== -/
set_option maxRecDepth 20000 in
theorem ggL_law_L_act_wsL_act_r1 : GoodIn wsL_law wsL_act_r1 := goodIn_r _ [6, 4, 235, 236, 237, 226, 223, 227, 238, 239, 240, 70, 5, 71, 68, 69, 74, 72, 73, 75, 76, 93, 94, 63] (by decide +kernel) (by decide +kernel)
set_option maxRecDepth 20000 in
theorem ggL_law_L_act_wsL_act_r2 : GoodIn wsL_law wsL_act_r2 := goodIn_r _ [95, 96, 241, 242, 67, 243, 86, 244, 245, 246, 2, 247, 101, 102, 248, 249, 28, 250, 251, 252, 130, 131, 132, 27] (by decide +kernel) (by decide +kernel)
set_option maxRecDepth 20000 in
theorem ggL_law_L_act_wsL_act_r3 : GoodIn wsL_law wsL_act_r3 := goodIn_r _ [133, 134, 253, 254, 255, 256, 11, 12, 257, 258, 259, 260, 261, 262, 263, 264, 265, 266, 267, 50, 268, 269, 270, 271] (by decide +kernel) (by decide +kernel)
set_option maxRecDepth 20000 in
theorem ggL_law_L_act_wsL_act_r4 : GoodIn wsL_law wsL_act_r4 := goodIn_r _ [272, 273, 274, 275, 276, 277, 278, 279, 49, 280, 281, 282, 283, 284, 285, 286, 287, 288, 289, 290, 291, 292, 293, 294] (by decide +kernel) (by decide +kernel)
set_option maxRecDepth 20000 in
theorem ggL_law_L_act_wsL_act_r5 : GoodIn wsL_law wsL_act_r5 := goodIn_r _ [295, 296, 297, 298, 299, 300, 301, 302, 303, 304, 305, 306, 307, 308, 309, 310, 311, 312, 87, 313, 314, 315, 316, 83] (by decide +kernel) (by decide +kernel)
set_option maxRecDepth 20000 in
theorem ggL_law_L_act_wsL_act_r6 : GoodIn wsL_law wsL_act_r6 := goodIn_r _ [317, 318, 319, 320, 321, 322, 323, 324, 325, 326, 327, 328, 329, 82, 81, 330, 331, 332, 333, 334, 335, 336, 337, 338] (by decide +kernel) (by decide +kernel)
set_option maxRecDepth 20000 in
theorem ggL_law_L_act_wsL_act_r7 : GoodIn wsL_law wsL_act_r7 := goodIn_r _ [339, 340, 341, 342, 343, 344, 345, 346, 347, 348, 85, 349, 350, 351, 352, 353, 354, 355, 356, 357, 358, 359, 360, 29] (by decide +kernel) (by decide +kernel)
set_option maxRecDepth 20000 in
theorem ggL_law_L_act_wsL_act_r8 : GoodIn wsL_law wsL_act_r8 := goodIn_r _ [361, 362, 206, 363, 364, 365, 366, 367, 368, 369, 208, 370, 371, 372, 373, 374, 189, 190, 160, 161, 140, 141, 142, 143] (by decide +kernel) (by decide +kernel)
