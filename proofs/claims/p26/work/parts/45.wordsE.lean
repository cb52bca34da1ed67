/-! ===== the law's words are the tables' ===== -/
set_option maxRecDepth 100000 in
theorem wl_13 : ∀ w ∈ wsL_law0_r13, w ∈ lw_tbl := mem_r wsL_law0_r13 [616, 617, 618, 619, 620, 35, 621, 622, 742, 623, 636, 637, 638, 639, 640, 642, 643, 644, 646, 645, 36, 649, 650, 651] (by decide +kernel)
set_option maxRecDepth 100000 in
theorem wl_14 : ∀ w ∈ wsL_law0_r14, w ∈ lw_tbl := mem_r wsL_law0_r14 [652, 435, 436, 437, 438, 424, 412, 413, 414, 415, 416, 417, 418, 419, 420, 421, 422, 423, 425, 426, 427, 428, 433, 429] (by decide +kernel)
set_option maxRecDepth 100000 in
theorem wl_15 : ∀ w ∈ wsL_law0_r15, w ∈ lw_tbl := mem_r wsL_law0_r15 [430, 431, 432, 484, 439, 440, 441, 442, 443, 444, 445, 446, 488, 404, 405, 406, 407, 408, 409, 410, 411, 653, 654, 655] (by decide +kernel)
