/-! ===== the law's words are the tables' ===== -/
set_option maxRecDepth 100000 in
theorem wl_16 : ∀ w ∈ wsL_law0_r16, w ∈ lw_tbl := mem_r wsL_law0_r16 [656, 357, 658, 144, 145, 146, 659, 660, 661, 662, 663, 678, 680, 14, 681, 682, 683, 684, 685, 666, 686, 401, 402, 403] (by decide +kernel)
set_option maxRecDepth 100000 in
theorem wl_17 : ∀ w ∈ wsL_law0_r17, w ∈ lw_tbl := mem_r wsL_law0_r17 [434, 687, 688, 689, 690, 692, 695, 696, 697, 698, 699, 700, 701, 702, 703, 704, 705, 706, 707, 708, 709, 710, 711, 712] (by decide +kernel)
set_option maxRecDepth 100000 in
theorem wl_18 : ∀ w ∈ wsL_law0_r18, w ∈ lw_tbl := mem_r wsL_law0_r18 [713, 714, 715, 716, 493, 494, 717, 219, 220, 221, 222, 224, 225, 226, 227, 228, 216, 217, 218, 140, 141, 142, 143, 215] (by decide +kernel)
