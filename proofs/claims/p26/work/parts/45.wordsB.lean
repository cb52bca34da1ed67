/-! ===== the law's words are the tables' ===== -/
set_option maxRecDepth 100000 in
theorem wl_4 : ∀ w ∈ wsL_law0_r4, w ∈ lw_tbl := mem_r wsL_law0_r4 [529, 530, 486, 531, 487, 540, 471, 472, 473, 477, 479, 481, 474, 485, 475, 489, 491, 461, 462, 463, 464, 457, 458, 459] (by decide +kernel)
set_option maxRecDepth 100000 in
theorem wl_5 : ∀ w ∈ wsL_law0_r5, w ∈ lw_tbl := mem_r wsL_law0_r5 [460, 516, 517, 518, 519, 147, 27, 53, 55, 522, 523, 524, 525, 526, 527, 68, 70, 532, 533, 534, 535, 536, 537, 538] (by decide +kernel)
set_option maxRecDepth 100000 in
theorem wl_6 : ∀ w ∈ wsL_law0_r6, w ∈ lw_tbl := mem_r wsL_law0_r6 [84, 86, 383, 384, 385, 386, 271, 30, 123, 124, 320, 321, 322, 323, 107, 387, 389, 10, 390, 357, 325, 326, 327, 328] (by decide +kernel)
