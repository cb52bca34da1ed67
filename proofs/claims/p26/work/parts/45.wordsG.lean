/-! ===== the law's words are the tables' ===== -/
set_option maxRecDepth 100000 in
theorem wl_19 : ∀ w ∈ wsL_law0_r19, w ∈ lw_tbl := mem_r wsL_law0_r19 [237, 238, 239, 240, 241, 243, 1, 244, 245, 246, 247, 248, 249, 250, 251, 252, 253, 254, 255, 256, 257, 258, 259, 261] (by decide +kernel)
set_option maxRecDepth 100000 in
theorem wl_20 : ∀ w ∈ wsL_law0_r20, w ∈ lw_tbl := mem_r wsL_law0_r20 [2, 262, 718, 719, 720, 721, 722, 723, 724, 316, 317, 318, 319, 344, 345, 346, 347, 302, 303, 304, 305, 313, 306, 308] (by decide +kernel)
set_option maxRecDepth 100000 in
theorem wl_21 : ∀ w ∈ wsL_law0_r21, w ∈ lw_tbl := mem_r wsL_law0_r21 [4, 309, 287, 288, 289, 290, 392, 393, 394, 395, 455, 396, 397, 398, 399, 400, 447, 448, 449, 450, 451, 452, 453, 454] (by decide +kernel)
