/-! ===== the law's words are the tables' ===== -/
set_option maxRecDepth 100000 in
theorem wl_10 : ∀ w ∈ wsL_law0_r10, w ∈ lw_tbl := mem_r wsL_law0_r10 [355, 370, 372, 9, 373, 374, 375, 31, 376, 310, 311, 312, 378, 379, 380, 381, 541, 542, 543, 492, 691, 693, 694, 314] (by decide +kernel)
set_option maxRecDepth 100000 in
theorem wl_11 : ∀ w ∈ wsL_law0_r11, w ∈ lw_tbl := mem_r wsL_law0_r11 [315, 544, 545, 546, 547, 548, 549, 550, 553, 32, 339, 569, 33, 570, 571, 572, 573, 574, 576, 578, 580, 582, 595, 596] (by decide +kernel)
set_option maxRecDepth 100000 in
theorem wl_12 : ∀ w ∈ wsL_law0_r12, w ∈ lw_tbl := mem_r wsL_law0_r12 [597, 598, 109, 110, 599, 601, 11, 602, 603, 605, 12, 606, 607, 609, 13, 610, 647, 648, 611, 612, 34, 613, 614, 615] (by decide +kernel)
