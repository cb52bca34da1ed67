/-! ===== the law's words are the tables' ===== -/
set_option maxRecDepth 100000 in
theorem wl_7 : ∀ w ∈ wsL_law0_r7, w ∈ lw_tbl := mem_r wsL_law0_r7 [329, 330, 28, 331, 332, 333, 29, 334, 335, 336, 337, 338, 358, 360, 7, 361, 664, 668, 291, 293, 3, 294, 230, 231] (by decide +kernel)
set_option maxRecDepth 100000 in
theorem wl_8 : ∀ w ∈ wsL_law0_r8, w ∈ lw_tbl := mem_r wsL_law0_r8 [232, 233, 263, 264, 265, 266, 267, 268, 269, 270, 295, 296, 297, 298, 299, 300, 301, 362, 364, 8, 365, 667, 339, 340] (by decide +kernel)
set_option maxRecDepth 100000 in
theorem wl_9 : ∀ w ∈ wsL_law0_r9, w ∈ lw_tbl := mem_r wsL_law0_r9 [342, 5, 343, 575, 577, 579, 581, 583, 234, 235, 236, 366, 367, 368, 37, 369, 665, 348, 349, 350, 351, 352, 354, 6] (by decide +kernel)
