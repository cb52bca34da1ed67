/-! ===== the law's words are the tables' ===== -/
theorem mem_r {big : List Cond} (ws : List Cond) (ps : List Nat) (hp : ws = ps.filterMap (fun i => big[i]?)) : ∀ w ∈ ws, w ∈ big := by
  intro w hw
  rw [hp] at hw
  obtain ⟨i, -, hi⟩ := List.mem_filterMap.mp hw
  exact List.mem_of_getElem? hi
set_option maxRecDepth 100000 in
theorem wl_1 : ∀ w ∈ wsL_law0_r1, w ∈ lw_tbl := mem_r wsL_law0_r1 [38, 39, 16, 726, 456, 521, 490, 40, 41, 42, 43, 44, 45, 46, 47, 17, 118, 61, 62, 18, 119, 76, 77, 19] (by decide +kernel)
set_option maxRecDepth 100000 in
theorem wl_2 : ∀ w ∈ wsL_law0_r2, w ∈ lw_tbl := mem_r wsL_law0_r2 [120, 92, 93, 22, 121, 122, 49, 50, 51, 52, 54, 64, 65, 66, 67, 69, 79, 80, 81, 82, 83, 85, 94, 95] (by decide +kernel)
set_option maxRecDepth 100000 in
theorem wl_3 : ∀ w ∈ wsL_law0_r3, w ∈ lw_tbl := mem_r wsL_law0_r3 [96, 104, 106, 97, 98, 21, 99, 108, 100, 101, 20, 102, 103, 465, 466, 15, 467, 468, 469, 23, 478, 480, 482, 483] (by decide +kernel)
