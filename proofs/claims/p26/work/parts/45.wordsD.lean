/-! ===== the law's words are the tables' ===== -/
set_option maxRecDepth 100000 in
theorem wl_10a : ∀ w ∈ ([Cond.code yX5_isSheet cX5_isSheet 2 (some .boolean), Cond.methodLink RX5 229 yX5_greatestShift, Cond.instanceMethod yX5_greatestShift, Cond.selects RX5 yX5_greatestShift yX5_greatestShift, Cond.code yX5_greatestShift cX5_greatestShift 5 (some .int), Cond.methodLink RX5 296 Lib.Math.abs.name, Cond.static Lib.Math.abs.name, Cond.initialized "java/lang/Math", Cond.code Lib.Math.abs.name Lib.Math.abs.code 1 (some .int), Cond.methodLink RX5 138 Lib.Math.max.name, Cond.static Lib.Math.max.name, Cond.code Lib.Math.max.name Lib.Math.max.code 2 (some .int), Cond.methodLink RL 116 yX5_printed, Cond.instanceMethod yX5_printed, Cond.selects RX5 yX5_printed yX5_printed, Cond.code yX5_printed cX5_printed 4 (some .int), Cond.methodLink RL 119 yL_act, Cond.static yL_act] : List Cond), w ∈ lw_tbl := mem_r _ [355, 370, 372, 9, 373, 374, 375, 31, 376, 310, 311, 312, 378, 379, 380, 381, 541, 542] (by decide +kernel)
set_option maxRecDepth 100000 in
theorem wl_10b : ∀ w ∈ ([Cond.fieldLink RL 69 "AlmanacHouseLaw$Sim" "sheets" "[[I", Cond.constant RL 87 (99999), Cond.methodLink RL 92 Lib.Math.max.name, Cond.methodLink RL 97 Lib.Math.min.name, Cond.static Lib.Math.min.name] : List Cond), w ∈ lw_tbl := mem_r _ [492, 691, 693, 694, 314] (by decide +kernel)
set_option maxRecDepth 100000 in
theorem wl_10c : Cond.code yL_act cL_act 11 (some .boolean) ∈ lw_tbl := List.mem_of_getElem? (i := 543) rfl
theorem wl_10 : ∀ w ∈ wsL_law0_r10, w ∈ lw_tbl := by
  intro w hw
  have e : wsL_law0_r10 = ([Cond.code yX5_isSheet cX5_isSheet 2 (some .boolean), Cond.methodLink RX5 229 yX5_greatestShift, Cond.instanceMethod yX5_greatestShift, Cond.selects RX5 yX5_greatestShift yX5_greatestShift, Cond.code yX5_greatestShift cX5_greatestShift 5 (some .int), Cond.methodLink RX5 296 Lib.Math.abs.name, Cond.static Lib.Math.abs.name, Cond.initialized "java/lang/Math", Cond.code Lib.Math.abs.name Lib.Math.abs.code 1 (some .int), Cond.methodLink RX5 138 Lib.Math.max.name, Cond.static Lib.Math.max.name, Cond.code Lib.Math.max.name Lib.Math.max.code 2 (some .int), Cond.methodLink RL 116 yX5_printed, Cond.instanceMethod yX5_printed, Cond.selects RX5 yX5_printed yX5_printed, Cond.code yX5_printed cX5_printed 4 (some .int), Cond.methodLink RL 119 yL_act, Cond.static yL_act] : List Cond) ++ (Cond.code yL_act cL_act 11 (some .boolean) :: ([Cond.fieldLink RL 69 "AlmanacHouseLaw$Sim" "sheets" "[[I", Cond.constant RL 87 (99999), Cond.methodLink RL 92 Lib.Math.max.name, Cond.methodLink RL 97 Lib.Math.min.name, Cond.static Lib.Math.min.name] : List Cond)) := rfl
  rw [e] at hw
  rcases List.mem_append.mp hw with h | h
  · exact wl_10a w h
  · rcases List.mem_cons.mp h with h | h
    · rw [h]; exact wl_10c
    · exact wl_10b w h
set_option maxRecDepth 100000 in
theorem wl_11 : ∀ w ∈ wsL_law0_r11, w ∈ lw_tbl := mem_r wsL_law0_r11 [315, 544, 545, 546, 547, 548, 549, 550, 553, 32, 339, 569, 33, 570, 571, 572, 573, 574, 576, 578, 580, 582, 595, 596] (by decide +kernel)
set_option maxRecDepth 100000 in
theorem wl_12 : ∀ w ∈ wsL_law0_r12, w ∈ lw_tbl := mem_r wsL_law0_r12 [597, 598, 109, 110, 599, 601, 11, 602, 603, 605, 12, 606, 607, 609, 13, 610, 647, 648, 611, 612, 34, 613, 614, 615] (by decide +kernel)
