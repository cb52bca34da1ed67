/-! ===== what the start gives: statics, tables, classes ===== -/
set_option maxRecDepth 100000 in
theorem tw_ls_list : Cond.laysStatic "java/util/ArrayList" "DEFAULTCAPACITY_EMPTY_ELEMENTDATA" "[Ljava/lang/Object;" ∈ tables_1 := List.mem_of_getElem? (i := 90) (by decide +kernel)
set_option maxRecDepth 100000 in
theorem tw_in_ArrayList : Cond.initialized "java/util/ArrayList" ∈ tables_1 := List.mem_of_getElem? (i := 7) (by decide +kernel)
set_option maxRecDepth 100000 in
theorem nw_listA : Cond.arrayOf (.static "java/util/ArrayList" "DEFAULTCAPACITY_EMPTY_ELEMENTDATA" "[Ljava/lang/Object;") (.object "java/lang/Object") ∈ flatC narrow_1 := List.mem_of_getElem? (i := 3) (by decide +kernel)
set_option maxRecDepth 100000 in
theorem nw_listL : Cond.eq (.length (.static "java/util/ArrayList" "DEFAULTCAPACITY_EMPTY_ELEMENTDATA" "[Ljava/lang/Object;")) (.int 0) ∈ flatC narrow_1 := List.mem_of_getElem? (i := 5) (by decide +kernel)
set_option maxRecDepth 100000 in
theorem tw_am : Cond.arrayOver (.array .int) ∈ tables_1 := List.mem_of_getElem? (i := 461) (by decide +kernel)
set_option maxRecDepth 100000 in
theorem tw_nX6n : Cond.methodLinkNest RL 11 yX6_init RL ∈ tables_1 := List.mem_of_getElem? (i := 455) (by decide +kernel)
set_option maxRecDepth 100000 in
theorem tw_ao : Cond.arrayOver (.object "java/lang/Object") ∈ tables_1 := List.mem_of_getElem? (i := 626) (by decide +kernel)
set_option maxRecDepth 100000 in
theorem tw_cX0 : Cond.castable RX0 "java/lang/Object" ∈ tables_1 := List.mem_of_getElem? (i := 722) (by decide +kernel)
set_option maxRecDepth 100000 in
theorem tw_cX3 : Cond.castable RX3 "java/lang/Object" ∈ tables_1 := List.mem_of_getElem? (i := 723) (by decide +kernel)
set_option maxRecDepth 100000 in
theorem tw_nX4 : Cond.methodLinkNest RX5 9 yX4_init RX5 ∈ tables_1 := List.mem_of_getElem? (i := 33) (by decide +kernel)
set_option maxRecDepth 100000 in
theorem tw_nX1 : Cond.methodLinkNest RX5 18 yX1_init RX5 ∈ tables_1 := List.mem_of_getElem? (i := 48) (by decide +kernel)
set_option maxRecDepth 100000 in
theorem tw_nX2 : Cond.methodLinkNest RX5 25 yX2_init RX5 ∈ tables_1 := List.mem_of_getElem? (i := 63) (by decide +kernel)
set_option maxRecDepth 100000 in
theorem tw_aint : Cond.arrayClass .int ∈ tables_1 := List.mem_of_getElem? (i := 441) (by decide +kernel)
set_option maxRecDepth 100000 in
theorem tw_iX0 : Cond.instantiable RX0 5 ∈ tables_1 := List.mem_of_getElem? (i := 554) (by decide +kernel)
set_option maxRecDepth 100000 in
theorem tw_iJx4a65c : Cond.instantiable RJx4a65c 3 ∈ tables_1 := List.mem_of_getElem? (i := 78) (by decide +kernel)
set_option maxRecDepth 100000 in
theorem tw_iX1 : Cond.instantiable RX1 2 ∈ tables_1 := List.mem_of_getElem? (i := 47) (by decide +kernel)
set_option maxRecDepth 100000 in
theorem tw_iX2 : Cond.instantiable RX2 2 ∈ tables_1 := List.mem_of_getElem? (i := 62) (by decide +kernel)
set_option maxRecDepth 100000 in
theorem tw_iX3 : Cond.instantiable RX3 4 ∈ tables_1 := List.mem_of_getElem? (i := 643) (by decide +kernel)
set_option maxRecDepth 100000 in
theorem tw_iX4 : Cond.instantiable RX4 2 ∈ tables_1 := List.mem_of_getElem? (i := 32) (by decide +kernel)
set_option maxRecDepth 100000 in
theorem tw_iX5 : Cond.instantiable RX5 7 ∈ tables_1 := List.mem_of_getElem? (i := 24) (by decide +kernel)
set_option maxRecDepth 100000 in
theorem tw_iX6 : Cond.instantiable RX6 10 ∈ tables_1 := List.mem_of_getElem? (i := 454) (by decide +kernel)
set_option maxRecDepth 100000 in
theorem tw_k30 : Cond.classLink RL 30 RX5 ∈ tables_1 := List.mem_of_getElem? (i := 23) (by decide +kernel)
set_option maxRecDepth 100000 in
theorem tw_nX5 : Cond.initialized RX5 ∈ tables_1 := List.mem_of_getElem? (i := 1) (by decide +kernel)
set_option maxRecDepth 100000 in
theorem tw_nX6 : Cond.initialized RX6 ∈ tables_1 := List.mem_of_getElem? (i := 8) (by decide +kernel)
set_option maxRecDepth 100000 in
theorem tw_m104 : Cond.methodLink RL 104 yX5_init ∈ tables_1 := List.mem_of_getElem? (i := 25) (by decide +kernel)
set_option maxRecDepth 100000 in
theorem tw_mi5 : Cond.instanceMethod yX5_init ∈ tables_1 := List.mem_of_getElem? (i := 26) (by decide +kernel)
theorem tb {w : Cond} (h : w ∈ tables_1) : w ∈ lw_tbl := List.mem_append_right _ h
theorem st_X {b L : Nat} {xs : Nat → Int32} {s : State} (hX : va_X b L xs s s.heap) (hb : b < s.heap.size) : va_T .int b L (fun j => .int (xs j)) (fun q : Nat => s.heap.size ≤ q) s s.heap := by
  obtain ⟨scr, h1, h2, h3, h4, h5⟩ := hX
  exact ⟨scr, h1, h2, h3, by omega, by rw [h4], h5, Nat.not_le.mpr hb⟩
theorem st_EZ {args : Array Value} {s : State} {b L : Nat} {xs : Nat → Int32} (ht : ∀ w ∈ tables_1, w.before args s = true) (hn : ∀ w ∈ flatC narrow_1, w.before args s = true) (hX : va_X b L xs s s.heap) (hb : b < s.heap.size) (hL : L ≤ 260) : ∃ t : Nat, EZ (t, b, L) (fun q : Nat => s.heap.size ≤ q) s s.heap := by
  have hA : ∀ a : Nat, a < s.heap.size → ¬ (fun q : Nat => s.heap.size ≤ q) a := fun a h => Nat.not_le.mpr h
  obtain ⟨t1, e1, T1⟩ := va_Tof (f := fun _ => .null) (A := fun q : Nat => s.heap.size ≤ q) (N := 0) (by decide) (hn _ nw_listA) (va_eqt (hn _ nw_listL)) (fun j hj => absurd hj (Nat.not_lt_zero j)) hA
  exact ⟨t1, va_Zof (ht _ tw_ls_list) (ht _ tw_in_ArrayList) e1 hA, T1, hL, xs, st_X hX hb⟩
theorem st_ET {args : Array Value} {s : State} (ht : ∀ w ∈ tables_1, w.before args s = true) : ET s :=
  ⟨⟨va_AM.of (ht _ tw_am), va_Nw.of rfl (ht _ tw_nX6n)⟩, va_AO.of (ht _ tw_ao), va_Nw.of rfl (ht _ tw_cX0), va_Nw.of rfl (ht _ tw_cX3), va_Nw.of rfl (ht _ tw_nX4), va_Nw.of rfl (ht _ tw_nX1), va_Nw.of rfl (ht _ tw_nX2)⟩
theorem st_aI {args : Array Value} {s : State} (h : (Cond.arrayClass .int).before args s = true) : ∃ cA : ClassId, ArrOfT s cA .int ∧ va_RA s cA .int := by
  obtain ⟨c, k, comp, h1, h2, h3⟩ := Cond.arrayClass_spec h
  exact ⟨c, fun n z => ⟨(fun k h => by cases h), k, h2, comp, h3⟩, h1⟩
theorem st_aM {args : Array Value} {s : State} (h : (Cond.arrayOver (.array .int)).before args s = true) : ∃ cA : ClassId, ArrOfT s cA (.array .int) ∧ va_RA s cA (.array .int) := by
  obtain ⟨comp, c, k, h1, h2, h3, h4, h5⟩ := arrayOverA_spec h
  exact ⟨c, fun n z => ⟨(fun k h => by cases h), k, h3, comp, h4⟩, h5⟩
theorem st_aO {args : Array Value} {s : State} (h : (Cond.arrayOver (.object "java/lang/Object")).before args s = true) : ∃ cA : ClassId, ArrOfT s cA (.object "java/lang/Object") ∧ va_RA s cA (.object "java/lang/Object") := by
  obtain ⟨comp, c, k, h1, h2, h3, h4, h5⟩ := Cond.arrayOver_spec h
  exact ⟨c, fun n z => ⟨(fun k h => by cases h), k, h3, comp, h4⟩, k, comp, h3, h4, h1, h5⟩
theorem st_K {args : Array Value} {s : State} (hts : ∀ w ∈ lw_tbl, w.before args s = true) : ∃ (D : va_G) (cI cO cL : ClassId), va_K D vwCl (ty3 cI cO cL) s := by
  obtain ⟨c0, i0, k0⟩ := u_known (C := RX0) (T := TX0) (N := 5) (n := 5) hts wi_X0 (hts _ (tb tw_iX0))
  obtain ⟨c1, i1, k1⟩ := u_known (C := RJx4a65c) (T := TJx4a65c) (N := 3) (n := 3) hts wi_Jx4a65c (hts _ (tb tw_iJx4a65c))
  obtain ⟨c2, i2, k2⟩ := u_known (C := RX0) (T := TX0) (N := 5) (n := 5) hts wi_X0 (hts _ (tb tw_iX0))
  obtain ⟨c3, i3, k3⟩ := u_known (C := RX1) (T := TX1) (N := 2) (n := 2) hts wi_X1 (hts _ (tb tw_iX1))
  obtain ⟨c4, i4, k4⟩ := u_known (C := RX2) (T := TX2) (N := 2) (n := 2) hts wi_X2 (hts _ (tb tw_iX2))
  obtain ⟨c5, i5, k5⟩ := u_known (C := RX3) (T := TX3) (N := 4) (n := 4) hts wi_X3 (hts _ (tb tw_iX3))
  obtain ⟨c6, i6, k6⟩ := u_known (C := RX4) (T := TX4) (N := 2) (n := 2) hts wi_X4 (hts _ (tb tw_iX4))
  obtain ⟨c7, i7, k7⟩ := u_known (C := RX5) (T := TX5) (N := 7) (n := 7) hts wi_X5 (hts _ (tb tw_iX5))
  obtain ⟨c8, i8, k8⟩ := u_known (C := RX6) (T := TX6) (N := 10) (n := 10) hts wi_X6 (hts _ (tb tw_iX6))
  have h : ∀ k : Nat, ∃ z : ClassId × (Nat → Nat), ∀ q : vw_C, vwCl[k]? = some q → u_Kn s q.1 q.2.1 q.2.2 z.1 z.2 := by
    intro k
    match k with
    | 0 => exact ⟨(c0, i0), fun q hq => by cases hq; exact k0⟩
    | 1 => exact ⟨(c1, i1), fun q hq => by cases hq; exact k1⟩
    | 2 => exact ⟨(c2, i2), fun q hq => by cases hq; exact k2⟩
    | 3 => exact ⟨(c3, i3), fun q hq => by cases hq; exact k3⟩
    | 4 => exact ⟨(c4, i4), fun q hq => by cases hq; exact k4⟩
    | 5 => exact ⟨(c5, i5), fun q hq => by cases hq; exact k5⟩
    | 6 => exact ⟨(c6, i6), fun q hq => by cases hq; exact k6⟩
    | 7 => exact ⟨(c7, i7), fun q hq => by cases hq; exact k7⟩
    | 8 => exact ⟨(c8, i8), fun q hq => by cases hq; exact k8⟩
    | k + 9 => exact ⟨(c0, i0), fun q hq => by simp [vwCl] at hq⟩
  obtain ⟨f, hf⟩ := Classical.axiomOfChoice h
  obtain ⟨cI, hI⟩ := st_aI (hts _ (tb tw_aint))
  obtain ⟨cO, hO⟩ := st_aO (hts _ (tb tw_ao))
  obtain ⟨cL, hL⟩ := st_aM (hts _ (tb tw_am))
  refine ⟨(fun k => (f k).1, fun k => (f k).2), cI, cO, cL, fun k q hq => hf k q hq, fun k q hk => ?_⟩
  match k, hk with
  | 0, hk => cases hk; exact hI
  | 1, hk => cases hk; exact hO
  | 2, hk => cases hk; exact hL
  | k + 3, hk => simp at hk
