/-! ===== AlmanacHouseModel: its calls ===== -/
set_option maxHeartbeats 4000000 in
set_option maxRecDepth 100000 in
theorem u_fail (l : Launch) (D : va_G) (sz : Nat) (tys : List (ClassId × FieldType)) (a : Nat) (th n : Int) (f1 f2 f3 f4 f5 f6 f7 f8 f9 f10 f11 f12 : Value) : MU l yX6_fail wsX6_fail 0 0 0 0 D (tys) sz ([(a, .inr (8, [.int (iI (th)), f1, f2, f3, f4, f5, f6, f7, f8, f9, f10, f11, f12]))]) [.ref a, .int (iI (n))] (0) (0) ([(a, .inr (8, [.int (iI (n)), f1, f2, f3, f4, f5, f6, f7, f8, f9, f10, f11, f12]))]) ([(a, .inr (8, [.int (iI (n)), f1, f2, f3, f4, f5, f6, f7, f8, f9, f10, f11, f12]))]) := by
  refine MU_of (cc := cX6_fail) (maxL := 2) (ret := (some .int)) (by decide) rfl (Nat.le_of_ble_eq_true rfl) ?_
  intro p e s m args below meth c ls hx hb hr hlocks hml hown hts hsz hP hK hD hS hA hl
  have hl : lv_has ls 2 [(0, .ref a), (1, .int (iI (n)))] := hl
  have hin_X6 : ∀ w ∈ u_ws RX6 TX6 13, w ∈ wsX6_fail := (fun w h => List.mem_cons_of_mem _ (List.mem_append_right _ h))
  have hP : va_P D vwCl ([(a, .inr (8, [.int (iI (th)), f1, f2, f3, f4, f5, f6, f7, f8, f9, f10, f11, f12]))]) s.heap := hP
  have hD : va_D (va_A ([(a, .inr (8, [.int (iI (th)), f1, f2, f3, f4, f5, f6, f7, f8, f9, f10, f11, f12]))]) sz) ([(a, .inr (8, [.int (iI (th)), f1, f2, f3, f4, f5, f6, f7, f8, f9, f10, f11, f12]))]) := hD
  refine lv_aload_n hx hb dX6_fail_0 rfl (lv_at hl 0 rfl) ?_
  refine lv_iload_n hx hb dX6_fail_1 rfl (lv_at hl 1 rfl) ?_
  refine va_put (D := D) (ci := 8) (v := .int (iI (n))) (ty := .int) (C := RX6) (T := TX6) (N := 13) hx hb hts hin_X6 tyX6 tyX6_ok nmX6 hown hK hP hD hS 0 rfl rfl 0 (by decide) (hts (.fieldLink RX6 30 "AlmanacHouseModel" "thrown" "I") (List.mem_of_getElem? (i := 1) rfl)) (fun _ h9 => h9) rfl (by decide +kernel) rfl rfl (Nat.le_of_ble_eq_true rfl) dX6_fail_2 (fun H locs hP hD hS => ?_)
  have hP : va_P D vwCl ([(a, .inr (8, [.int (iI (n)), f1, f2, f3, f4, f5, f6, f7, f8, f9, f10, f11, f12]))]) H := hP
  have hD : va_D (va_A ([(a, .inr (8, [.int (iI (th)), f1, f2, f3, f4, f5, f6, f7, f8, f9, f10, f11, f12]))]) sz) ([(a, .inr (8, [.int (iI (n)), f1, f2, f3, f4, f5, f6, f7, f8, f9, f10, f11, f12]))]) := hD
  refine q_iconst hx hb dX6_fail_5 ?_
  exact q_uret (ws := []) hx hb hr hlocks hS (Or.inl ⟨rfl, hP⟩) (fun _ => rfl) (Nat.le_of_ble_eq_true rfl) (Nat.le_of_ble_eq_true rfl) dX6_fail_6
set_option maxHeartbeats 4000000 in
set_option maxRecDepth 100000 in
theorem u_setLeaps (l : Launch) (D : va_G) (sz : Nat) (cI cO cL : ClassId) (a ta pa : Nat) (th : Int) (σ T P : Nat → Int) (hW : WF σ T) (hS0 : WS σ P) (x y : Int) (hxr : -2147483648 ≤ x ∧ x < 2147483648) (hyr : -2147483648 ≤ y ∧ y < 2147483648) : MU l yX6_setLeaps wsX6_setLeaps 1 22 0 0 D (ty3 cI cO cL) sz (WMo cI a ta pa th σ T P) [.ref a, .int (iI (x)), .int (iI (y))] (if (1 ≤ x ∧ x ≤ 400) ∧ (0 ≤ y ∧ y ≤ x) then 0 else 1) (1000 * σ 0 + σ 1) (WMo cI a ta pa 0 (st (st σ 0 x) 1 y) (T) (P)) (WMo cI a ta pa (if (1 ≤ x ∧ x ≤ 400) ∧ (0 ≤ y ∧ y ≤ x) then 0 else 1) σ T P) := by
  refine MU_of (cc := cX6_setLeaps) (maxL := 4) (ret := (some .int)) (by decide) rfl (Nat.le_of_ble_eq_true rfl) ?_
  intro p e s m args below meth c ls hx hb hr hlocks hml hown hts hsz hP hK hD hS hA hl
  have hl : lv_has ls 4 [(0, .ref a), (1, .int (iI (x))), (2, .int (iI (y)))] := hl
  have hin_X6 : ∀ w ∈ u_ws RX6 TX6 13, w ∈ wsX6_setLeaps := (fun w h => List.mem_cons_of_mem _ (List.mem_append_right _ h))
  have hP : va_P D vwCl ([(a, .inr (8, [.int (iI (th)), .int (iI (σ 0)), .int (iI (σ 1)), .int (iI (σ 2)), .int (iI (σ 3)), .int (iI (σ 4)), .int (iI (σ 5)), .int (iI (σ 6)), .ref ta, .int (iI (σ 7)), .ref pa, .int (iI (σ 9)), .int (iI (σ 10))])), (ta, .inl (cI, 40, .inl (fun j => iI (T j)))), (pa, .inl (cI, 110, .inl (fun j => iI (P j))))]) s.heap := hP
  have hD : va_D (va_A (WMo cI a ta pa th σ T P) sz) ([(a, .inr (8, [.int (iI (th)), .int (iI (σ 0)), .int (iI (σ 1)), .int (iI (σ 2)), .int (iI (σ 3)), .int (iI (σ 4)), .int (iI (σ 5)), .int (iI (σ 6)), .ref ta, .int (iI (σ 7)), .ref pa, .int (iI (σ 9)), .int (iI (σ 10))])), (ta, .inl (cI, 40, .inl (fun j => iI (T j)))), (pa, .inl (cI, 110, .inl (fun j => iI (P j))))]) := hD
  obtain ⟨w0, w1, w2, w3, w4, w5, w6, w7, w8⟩ := id hW
  refine lv_aload_n hx hb dX6_setLeaps_0 rfl (lv_at hl 0 rfl) ?_
  refine q_iconst hx hb dX6_setLeaps_1 ?_
  refine va_put (D := D) (ci := 8) (v := .int (iI (0))) (ty := .int) (C := RX6) (T := TX6) (N := 13) hx hb hts hin_X6 tyX6 tyX6_ok nmX6 hown hK hP hD hS 0 rfl rfl 0 (by decide) (hts (.fieldLink RX6 30 "AlmanacHouseModel" "thrown" "I") (List.mem_of_getElem? (i := 1) rfl)) (fun _ h9 => h9) rfl (by decide +kernel) rfl rfl (Nat.le_of_ble_eq_true rfl) dX6_setLeaps_2 (fun H locs hP hD hS => ?_)
  have hP : va_P D vwCl ([(a, .inr (8, [.int (iI (0)), .int (iI (σ 0)), .int (iI (σ 1)), .int (iI (σ 2)), .int (iI (σ 3)), .int (iI (σ 4)), .int (iI (σ 5)), .int (iI (σ 6)), .ref ta, .int (iI (σ 7)), .ref pa, .int (iI (σ 9)), .int (iI (σ 10))])), (ta, .inl (cI, 40, .inl (fun j => iI (T j)))), (pa, .inl (cI, 110, .inl (fun j => iI (P j))))]) H := hP
  have hD : va_D (va_A (WMo cI a ta pa th σ T P) sz) ([(a, .inr (8, [.int (iI (0)), .int (iI (σ 0)), .int (iI (σ 1)), .int (iI (σ 2)), .int (iI (σ 3)), .int (iI (σ 4)), .int (iI (σ 5)), .int (iI (σ 6)), .ref ta, .int (iI (σ 7)), .ref pa, .int (iI (σ 9)), .int (iI (σ 10))])), (ta, .inl (cI, 40, .inl (fun j => iI (T j)))), (pa, .inl (cI, 110, .inl (fun j => iI (P j))))]) := hD
  refine lv_iload_n hx hb dX6_setLeaps_5 rfl (lv_at hl 1 rfl) ?_
  refine q_iconst hx hb dX6_setLeaps_6 ?_
  refine q_sipush hx hb dX6_setLeaps_7 (by decide) ?_
  refine q_callS (fr := 0) (lo := 0) (nL := 4) (Pic := fun _ => True) (As := [.int (iI (x)), .int (iI (1)), .int (iI (400))]) (rest := []) ⟨hx, hb, hml, hown, hts⟩ (c_isIn l D (ty3 cI cO cL) (x) (1) (400) (by omega) (by omega) (by omega)) (va_cwS 3 hts gX6_setLeaps_X6_isIn rfl rfl rfl (by decide +kernel) ⟨Nat.le_of_ble_eq_true rfl, Nat.le_of_ble_eq_true rfl⟩) trivial hK rfl hl.1 rfl (Nat.le_of_ble_eq_true rfl) dX6_setLeaps_10 (Nat.zero_le _) (Nat.zero_le _) ?_
  refine q_pif_eq (tgt := 25) hx hb dX6_setLeaps_13 (by decide) (fun c_1 => ?_) (fun c_1 => ?_)
  · skip
    refine lv_aload_n hx hb dX6_setLeaps_25 rfl (lv_at hl 0 rfl) ?_
    refine q_iconst hx hb dX6_setLeaps_26 ?_
    have hPc := hP.sub (ws' := [(a, .inr (8, [.int (iI (0)), .int (iI (σ 0)), .int (iI (σ 1)), .int (iI (σ 2)), .int (iI (σ 3)), .int (iI (σ 4)), .int (iI (σ 5)), .int (iI (σ 6)), .ref ta, .int (iI (σ 7)), .ref pa, .int (iI (σ 9)), .int (iI (σ 10))]))]) [0] rfl
    have hDc := hD.sub (ws' := [(a, .inr (8, [.int (iI (0)), .int (iI (σ 0)), .int (iI (σ 1)), .int (iI (σ 2)), .int (iI (σ 3)), .int (iI (σ 4)), .int (iI (σ 5)), .int (iI (σ 6)), .ref ta, .int (iI (σ 7)), .ref pa, .int (iI (σ 9)), .int (iI (σ 10))]))]) [0] (by decide) rfl
    have hFc := va_free (wc := [(a, .inr (8, [.int (iI (0)), .int (iI (σ 0)), .int (iI (σ 1)), .int (iI (σ 2)), .int (iI (σ 3)), .int (iI (σ 4)), .int (iI (σ 5)), .int (iI (σ 6)), .ref ta, .int (iI (σ 7)), .ref pa, .int (iI (σ 9)), .int (iI (σ 10))]))]) hD hS hA [0] rfl
    refine q_callU (fr := 0) (lo := 0) (nL := 4) (As := [.int (iI (1))]) (rest := []) ⟨hx, hb, hml, hown, hts⟩ (u_fail l D _ _ a (0) (1) _ _ _ _ _ _ _ _ _ _ _ _) (cwV 1 hts gX6_setLeaps_X6_fail rfl rfl rfl (by decide +kernel) ⟨Nat.le_of_ble_eq_true rfl, Nat.le_of_ble_eq_true rfl⟩) (ob_recv (hP 0 _ rfl) hK rfl) hPc (hDc.weaken (fun _ _ _ _ => trivial)) hFc hS hK rfl hl.1 rfl (Nat.le_of_ble_eq_true rfl) dX6_setLeaps_27 (Nat.le_of_ble_eq_true rfl) (Nat.le_of_ble_eq_true rfl) ?_
    intro r H1 locs1 hr1 hP1 hk1 hS1
    have hr2 := hr1 rfl
    subst hr2
    have hP1 := (hP1.resolve_right (fun z => z.1 rfl)).2
    have hP2 : va_P D vwCl ([(a, .inr (8, [.int (iI (1)), .int (iI (σ 0)), .int (iI (σ 1)), .int (iI (σ 2)), .int (iI (σ 3)), .int (iI (σ 4)), .int (iI (σ 5)), .int (iI (σ 6)), .ref ta, .int (iI (σ 7)), .ref pa, .int (iI (σ 9)), .int (iI (σ 10))])), (ta, .inl (cI, 40, .inl (fun j => iI (T j)))), (pa, .inl (cI, 110, .inl (fun j => iI (P j))))]) H1 := va_upd (A0 := fun _ => True) hP hk1 hP1 (by
      intro q hq
      simp only [List.mem_cons, List.not_mem_nil, or_false] at hq
      rcases hq with rfl | rfl | rfl
      · exact Or.inl (List.mem_of_getElem? (i := 0) rfl)
      · refine Or.inr ⟨List.mem_of_getElem? (i := 1) rfl, fun z hz => ?_⟩
        simp only [List.mem_cons, List.not_mem_nil, or_false] at hz
        rcases hz with rfl
        · exact vaD_ne hD (i := 0) (j := 1) rfl rfl (by decide)
      · refine Or.inr ⟨List.mem_of_getElem? (i := 2) rfl, fun z hz => ?_⟩
        simp only [List.mem_cons, List.not_mem_nil, or_false] at hz
        rcases hz with rfl
        · exact vaD_ne hD (i := 0) (j := 2) rfl rfl (by decide))
    have hD2 : va_D (va_A (WMo cI a ta pa th σ T P) sz) ([(a, .inr (8, [.int (iI (1)), .int (iI (σ 0)), .int (iI (σ 1)), .int (iI (σ 2)), .int (iI (σ 3)), .int (iI (σ 4)), .int (iI (σ 5)), .int (iI (σ 6)), .ref ta, .int (iI (σ 7)), .ref pa, .int (iI (σ 9)), .int (iI (σ 10))])), (ta, .inl (cI, 40, .inl (fun j => iI (T j)))), (pa, .inl (cI, 110, .inl (fun j => iI (P j))))]) := vaD_addr hD rfl
    clear hP hD hS hPc hDc hFc hP1 hk1
    have hP := hP2; have hD := hD2; have hS := hS1
    clear hP2 hD2 hS1
    generalize H1 = H at hP hS ⊢
    generalize locs1 = locs at hS ⊢
    have hER : (if (1 ≤ x ∧ x ≤ 400) ∧ (0 ≤ y ∧ y ≤ x) then 0 else 1 : Int) = 1 := by (repeat' split) <;> omega
    exact q_uret (ws := []) hx hb hr hlocks hS (Or.inr ⟨by rw [hER]; decide, by rw [hER]; exact hP⟩) (fun h => absurd (hER.symm.trans h) (by decide)) (Nat.le_of_ble_eq_true rfl) (Nat.le_of_ble_eq_true rfl) dX6_setLeaps_30
  · skip
    refine lv_iload_n hx hb dX6_setLeaps_16 rfl (lv_at hl 2 rfl) ?_
    refine q_iconst hx hb dX6_setLeaps_17 ?_
    refine lv_iload_n hx hb dX6_setLeaps_18 rfl (lv_at hl 1 rfl) ?_
    refine q_callS (fr := 0) (lo := 0) (nL := 4) (Pic := fun _ => True) (As := [.int (iI (y)), .int (iI (0)), .int (iI (x))]) (rest := []) ⟨hx, hb, hml, hown, hts⟩ (c_isIn l D (ty3 cI cO cL) (y) (0) (x) (by omega) (by omega) (by omega)) (va_cwS 3 hts gX6_setLeaps_X6_isIn rfl rfl rfl (by decide +kernel) ⟨Nat.le_of_ble_eq_true rfl, Nat.le_of_ble_eq_true rfl⟩) trivial hK rfl hl.1 rfl (Nat.le_of_ble_eq_true rfl) dX6_setLeaps_19 (Nat.zero_le _) (Nat.zero_le _) ?_
    refine q_pif_ne (tgt := 31) hx hb dX6_setLeaps_22 (by decide) (fun c_2 => ?_) (fun c_2 => ?_)
    · skip
      refine q_sipush hx hb dX6_setLeaps_31 (by decide) ?_
      refine lv_aload_n hx hb dX6_setLeaps_34 rfl (lv_at hl 0 rfl) ?_
      refine q_get (ci := 8) (C := RX6) (T := TX6) (N := 13) hx hb hts hin_X6 hown hK (v := .int (iI (σ 0))) (hP 0 _ rfl) rfl 1 (by decide) (hts (.fieldLink RX6 7 "AlmanacHouseModel" "cycle" "I") (List.mem_of_getElem? (i := 2) rfl)) (fun _ h9 => h9) rfl dX6_setLeaps_35 ?_
      refine q_imul hx hb dX6_setLeaps_38 ?_
      refine lv_aload_n hx hb dX6_setLeaps_39 rfl (lv_at hl 0 rfl) ?_
      refine q_get (ci := 8) (C := RX6) (T := TX6) (N := 13) hx hb hts hin_X6 hown hK (v := .int (iI (σ 1))) (hP 0 _ rfl) rfl 2 (by decide) (hts (.fieldLink RX6 13 "AlmanacHouseModel" "leaps" "I") (List.mem_of_getElem? (i := 3) rfl)) (fun _ h9 => h9) rfl dX6_setLeaps_40 ?_
      refine q_iadd hx hb dX6_setLeaps_43 ?_
      refine lv_istore_n (lv' := [(3, .int (iI (((1000) * (σ 0)) + (σ 1)))), (0, .ref a), (1, .int (iI (x))), (2, .int (iI (y)))]) hx hb dX6_setLeaps_44 rfl hl (by decide) rfl (fun ls hl => ?_)
      refine lv_aload_n hx hb dX6_setLeaps_45 rfl (lv_at hl 1 rfl) ?_
      refine lv_iload_n hx hb dX6_setLeaps_46 rfl (lv_at hl 2 rfl) ?_
      refine va_put (D := D) (ci := 8) (v := .int (iI (x))) (ty := .int) (C := RX6) (T := TX6) (N := 13) hx hb hts hin_X6 tyX6 tyX6_ok nmX6 hown hK hP hD hS 0 rfl rfl 1 (by decide) (hts (.fieldLink RX6 7 "AlmanacHouseModel" "cycle" "I") (List.mem_of_getElem? (i := 2) rfl)) (fun _ h9 => h9) rfl (by decide +kernel) rfl rfl (Nat.le_of_ble_eq_true rfl) dX6_setLeaps_47 (fun H locs hP hD hS => ?_)
      have hP : va_P D vwCl ([(a, .inr (8, [.int (iI (0)), .int (iI (x)), .int (iI (σ 1)), .int (iI (σ 2)), .int (iI (σ 3)), .int (iI (σ 4)), .int (iI (σ 5)), .int (iI (σ 6)), .ref ta, .int (iI (σ 7)), .ref pa, .int (iI (σ 9)), .int (iI (σ 10))])), (ta, .inl (cI, 40, .inl (fun j => iI (T j)))), (pa, .inl (cI, 110, .inl (fun j => iI (P j))))]) H := hP
      have hD : va_D (va_A (WMo cI a ta pa th σ T P) sz) ([(a, .inr (8, [.int (iI (0)), .int (iI (x)), .int (iI (σ 1)), .int (iI (σ 2)), .int (iI (σ 3)), .int (iI (σ 4)), .int (iI (σ 5)), .int (iI (σ 6)), .ref ta, .int (iI (σ 7)), .ref pa, .int (iI (σ 9)), .int (iI (σ 10))])), (ta, .inl (cI, 40, .inl (fun j => iI (T j)))), (pa, .inl (cI, 110, .inl (fun j => iI (P j))))]) := hD
      refine lv_aload_n hx hb dX6_setLeaps_50 rfl (lv_at hl 1 rfl) ?_
      refine lv_iload_n hx hb dX6_setLeaps_51 rfl (lv_at hl 3 rfl) ?_
      refine va_put (D := D) (ci := 8) (v := .int (iI (y))) (ty := .int) (C := RX6) (T := TX6) (N := 13) hx hb hts hin_X6 tyX6 tyX6_ok nmX6 hown hK hP hD hS 0 rfl rfl 2 (by decide) (hts (.fieldLink RX6 13 "AlmanacHouseModel" "leaps" "I") (List.mem_of_getElem? (i := 3) rfl)) (fun _ h9 => h9) rfl (by decide +kernel) rfl rfl (Nat.le_of_ble_eq_true rfl) dX6_setLeaps_52 (fun H locs hP hD hS => ?_)
      have hP : va_P D vwCl ([(a, .inr (8, [.int (iI (0)), .int (iI (x)), .int (iI (y)), .int (iI (σ 2)), .int (iI (σ 3)), .int (iI (σ 4)), .int (iI (σ 5)), .int (iI (σ 6)), .ref ta, .int (iI (σ 7)), .ref pa, .int (iI (σ 9)), .int (iI (σ 10))])), (ta, .inl (cI, 40, .inl (fun j => iI (T j)))), (pa, .inl (cI, 110, .inl (fun j => iI (P j))))]) H := hP
      have hD : va_D (va_A (WMo cI a ta pa th σ T P) sz) ([(a, .inr (8, [.int (iI (0)), .int (iI (x)), .int (iI (y)), .int (iI (σ 2)), .int (iI (σ 3)), .int (iI (σ 4)), .int (iI (σ 5)), .int (iI (σ 6)), .ref ta, .int (iI (σ 7)), .ref pa, .int (iI (σ 9)), .int (iI (σ 10))])), (ta, .inl (cI, 40, .inl (fun j => iI (T j)))), (pa, .inl (cI, 110, .inl (fun j => iI (P j))))]) := hD
      refine lv_iload_n hx hb dX6_setLeaps_55 rfl (lv_at hl 0 rfl) ?_
      have hER : (if (1 ≤ x ∧ x ≤ 400) ∧ (0 ≤ y ∧ y ≤ x) then 0 else 1 : Int) = 0 := by (repeat' split) <;> omega
      exact q_uret (ws := []) hx hb hr hlocks hS (Or.inl ⟨hER, hP⟩) (fun _ => by omega) (Nat.le_of_ble_eq_true rfl) (Nat.le_of_ble_eq_true rfl) dX6_setLeaps_56
    · skip
      refine lv_aload_n hx hb dX6_setLeaps_25 rfl (lv_at hl 0 rfl) ?_
      refine q_iconst hx hb dX6_setLeaps_26 ?_
      have hPc := hP.sub (ws' := [(a, .inr (8, [.int (iI (0)), .int (iI (σ 0)), .int (iI (σ 1)), .int (iI (σ 2)), .int (iI (σ 3)), .int (iI (σ 4)), .int (iI (σ 5)), .int (iI (σ 6)), .ref ta, .int (iI (σ 7)), .ref pa, .int (iI (σ 9)), .int (iI (σ 10))]))]) [0] rfl
      have hDc := hD.sub (ws' := [(a, .inr (8, [.int (iI (0)), .int (iI (σ 0)), .int (iI (σ 1)), .int (iI (σ 2)), .int (iI (σ 3)), .int (iI (σ 4)), .int (iI (σ 5)), .int (iI (σ 6)), .ref ta, .int (iI (σ 7)), .ref pa, .int (iI (σ 9)), .int (iI (σ 10))]))]) [0] (by decide) rfl
      have hFc := va_free (wc := [(a, .inr (8, [.int (iI (0)), .int (iI (σ 0)), .int (iI (σ 1)), .int (iI (σ 2)), .int (iI (σ 3)), .int (iI (σ 4)), .int (iI (σ 5)), .int (iI (σ 6)), .ref ta, .int (iI (σ 7)), .ref pa, .int (iI (σ 9)), .int (iI (σ 10))]))]) hD hS hA [0] rfl
      refine q_callU (fr := 0) (lo := 0) (nL := 4) (As := [.int (iI (1))]) (rest := []) ⟨hx, hb, hml, hown, hts⟩ (u_fail l D _ _ a (0) (1) _ _ _ _ _ _ _ _ _ _ _ _) (cwV 1 hts gX6_setLeaps_X6_fail rfl rfl rfl (by decide +kernel) ⟨Nat.le_of_ble_eq_true rfl, Nat.le_of_ble_eq_true rfl⟩) (ob_recv (hP 0 _ rfl) hK rfl) hPc (hDc.weaken (fun _ _ _ _ => trivial)) hFc hS hK rfl hl.1 rfl (Nat.le_of_ble_eq_true rfl) dX6_setLeaps_27 (Nat.le_of_ble_eq_true rfl) (Nat.le_of_ble_eq_true rfl) ?_
      intro r H1 locs1 hr1 hP1 hk1 hS1
      have hr2 := hr1 rfl
      subst hr2
      have hP1 := (hP1.resolve_right (fun z => z.1 rfl)).2
      have hP2 : va_P D vwCl ([(a, .inr (8, [.int (iI (1)), .int (iI (σ 0)), .int (iI (σ 1)), .int (iI (σ 2)), .int (iI (σ 3)), .int (iI (σ 4)), .int (iI (σ 5)), .int (iI (σ 6)), .ref ta, .int (iI (σ 7)), .ref pa, .int (iI (σ 9)), .int (iI (σ 10))])), (ta, .inl (cI, 40, .inl (fun j => iI (T j)))), (pa, .inl (cI, 110, .inl (fun j => iI (P j))))]) H1 := va_upd (A0 := fun _ => True) hP hk1 hP1 (by
        intro q hq
        simp only [List.mem_cons, List.not_mem_nil, or_false] at hq
        rcases hq with rfl | rfl | rfl
        · exact Or.inl (List.mem_of_getElem? (i := 0) rfl)
        · refine Or.inr ⟨List.mem_of_getElem? (i := 1) rfl, fun z hz => ?_⟩
          simp only [List.mem_cons, List.not_mem_nil, or_false] at hz
          rcases hz with rfl
          · exact vaD_ne hD (i := 0) (j := 1) rfl rfl (by decide)
        · refine Or.inr ⟨List.mem_of_getElem? (i := 2) rfl, fun z hz => ?_⟩
          simp only [List.mem_cons, List.not_mem_nil, or_false] at hz
          rcases hz with rfl
          · exact vaD_ne hD (i := 0) (j := 2) rfl rfl (by decide))
      have hD2 : va_D (va_A (WMo cI a ta pa th σ T P) sz) ([(a, .inr (8, [.int (iI (1)), .int (iI (σ 0)), .int (iI (σ 1)), .int (iI (σ 2)), .int (iI (σ 3)), .int (iI (σ 4)), .int (iI (σ 5)), .int (iI (σ 6)), .ref ta, .int (iI (σ 7)), .ref pa, .int (iI (σ 9)), .int (iI (σ 10))])), (ta, .inl (cI, 40, .inl (fun j => iI (T j)))), (pa, .inl (cI, 110, .inl (fun j => iI (P j))))]) := vaD_addr hD rfl
      clear hP hD hS hPc hDc hFc hP1 hk1
      have hP := hP2; have hD := hD2; have hS := hS1
      clear hP2 hD2 hS1
      generalize H1 = H at hP hS ⊢
      generalize locs1 = locs at hS ⊢
      have hER : (if (1 ≤ x ∧ x ≤ 400) ∧ (0 ≤ y ∧ y ≤ x) then 0 else 1 : Int) = 1 := by (repeat' split) <;> omega
      exact q_uret (ws := []) hx hb hr hlocks hS (Or.inr ⟨by rw [hER]; decide, by rw [hER]; exact hP⟩) (fun h => absurd (hER.symm.trans h) (by decide)) (Nat.le_of_ble_eq_true rfl) (Nat.le_of_ble_eq_true rfl) dX6_setLeaps_30
set_option maxHeartbeats 4000000 in
set_option maxRecDepth 100000 in
theorem u_setMoon (l : Launch) (D : va_G) (sz : Nat) (cI cO cL : ClassId) (a ta pa : Nat) (th : Int) (σ T P : Nat → Int) (hW : WF σ T) (hS0 : WS σ P) (x y : Int) (hxr : -2147483648 ≤ x ∧ x < 2147483648) (hyr : -2147483648 ≤ y ∧ y < 2147483648) : MU l yX6_setMoon wsX6_setMoon 1 22 0 0 D (ty3 cI cO cL) sz (WMo cI a ta pa th σ T P) [.ref a, .int (iI (x)), .int (iI (y))] (if (20000 ≤ x ∧ x ≤ 40000) ∧ (0 ≤ y ∧ y ≤ 39999) then 0 else 1) (σ 2) (WMo cI a ta pa 0 (st (st σ 2 x) 3 y) (T) (P)) (WMo cI a ta pa (if (20000 ≤ x ∧ x ≤ 40000) ∧ (0 ≤ y ∧ y ≤ 39999) then 0 else 1) σ T P) := by
  refine MU_of (cc := cX6_setMoon) (maxL := 4) (ret := (some .int)) (by decide) rfl (Nat.le_of_ble_eq_true rfl) ?_
  intro p e s m args below meth c ls hx hb hr hlocks hml hown hts hsz hP hK hD hS hA hl
  have hl : lv_has ls 4 [(0, .ref a), (1, .int (iI (x))), (2, .int (iI (y)))] := hl
  have hin_X6 : ∀ w ∈ u_ws RX6 TX6 13, w ∈ wsX6_setMoon := (fun w h => List.mem_cons_of_mem _ (List.mem_append_right _ h))
  have hP : va_P D vwCl ([(a, .inr (8, [.int (iI (th)), .int (iI (σ 0)), .int (iI (σ 1)), .int (iI (σ 2)), .int (iI (σ 3)), .int (iI (σ 4)), .int (iI (σ 5)), .int (iI (σ 6)), .ref ta, .int (iI (σ 7)), .ref pa, .int (iI (σ 9)), .int (iI (σ 10))])), (ta, .inl (cI, 40, .inl (fun j => iI (T j)))), (pa, .inl (cI, 110, .inl (fun j => iI (P j))))]) s.heap := hP
  have hD : va_D (va_A (WMo cI a ta pa th σ T P) sz) ([(a, .inr (8, [.int (iI (th)), .int (iI (σ 0)), .int (iI (σ 1)), .int (iI (σ 2)), .int (iI (σ 3)), .int (iI (σ 4)), .int (iI (σ 5)), .int (iI (σ 6)), .ref ta, .int (iI (σ 7)), .ref pa, .int (iI (σ 9)), .int (iI (σ 10))])), (ta, .inl (cI, 40, .inl (fun j => iI (T j)))), (pa, .inl (cI, 110, .inl (fun j => iI (P j))))]) := hD
  obtain ⟨w0, w1, w2, w3, w4, w5, w6, w7, w8⟩ := id hW
  refine lv_aload_n hx hb dX6_setMoon_0 rfl (lv_at hl 0 rfl) ?_
  refine q_iconst hx hb dX6_setMoon_1 ?_
  refine va_put (D := D) (ci := 8) (v := .int (iI (0))) (ty := .int) (C := RX6) (T := TX6) (N := 13) hx hb hts hin_X6 tyX6 tyX6_ok nmX6 hown hK hP hD hS 0 rfl rfl 0 (by decide) (hts (.fieldLink RX6 30 "AlmanacHouseModel" "thrown" "I") (List.mem_of_getElem? (i := 1) rfl)) (fun _ h9 => h9) rfl (by decide +kernel) rfl rfl (Nat.le_of_ble_eq_true rfl) dX6_setMoon_2 (fun H locs hP hD hS => ?_)
  have hP : va_P D vwCl ([(a, .inr (8, [.int (iI (0)), .int (iI (σ 0)), .int (iI (σ 1)), .int (iI (σ 2)), .int (iI (σ 3)), .int (iI (σ 4)), .int (iI (σ 5)), .int (iI (σ 6)), .ref ta, .int (iI (σ 7)), .ref pa, .int (iI (σ 9)), .int (iI (σ 10))])), (ta, .inl (cI, 40, .inl (fun j => iI (T j)))), (pa, .inl (cI, 110, .inl (fun j => iI (P j))))]) H := hP
  have hD : va_D (va_A (WMo cI a ta pa th σ T P) sz) ([(a, .inr (8, [.int (iI (0)), .int (iI (σ 0)), .int (iI (σ 1)), .int (iI (σ 2)), .int (iI (σ 3)), .int (iI (σ 4)), .int (iI (σ 5)), .int (iI (σ 6)), .ref ta, .int (iI (σ 7)), .ref pa, .int (iI (σ 9)), .int (iI (σ 10))])), (ta, .inl (cI, 40, .inl (fun j => iI (T j)))), (pa, .inl (cI, 110, .inl (fun j => iI (P j))))]) := hD
  refine lv_iload_n hx hb dX6_setMoon_5 rfl (lv_at hl 1 rfl) ?_
  refine q_sipush hx hb dX6_setMoon_6 (by decide) ?_
  refine q_ldc (z := 40000) hx hb hown (hts (.constant RX6 41 (40000)) (List.mem_of_getElem? (i := 2) rfl)) (by decide) dX6_setMoon_9 ?_
  refine q_callS (fr := 0) (lo := 0) (nL := 4) (Pic := fun _ => True) (As := [.int (iI (x)), .int (iI (20000)), .int (iI (40000))]) (rest := []) ⟨hx, hb, hml, hown, hts⟩ (c_isIn l D (ty3 cI cO cL) (x) (20000) (40000) (by omega) (by omega) (by omega)) (va_cwS 3 hts gX6_setMoon_X6_isIn rfl rfl rfl (by decide +kernel) ⟨Nat.le_of_ble_eq_true rfl, Nat.le_of_ble_eq_true rfl⟩) trivial hK rfl hl.1 rfl (Nat.le_of_ble_eq_true rfl) dX6_setMoon_11 (Nat.zero_le _) (Nat.zero_le _) ?_
  refine q_pif_eq (tgt := 27) hx hb dX6_setMoon_14 (by decide) (fun c_1 => ?_) (fun c_1 => ?_)
  · skip
    refine lv_aload_n hx hb dX6_setMoon_27 rfl (lv_at hl 0 rfl) ?_
    refine q_iconst hx hb dX6_setMoon_28 ?_
    have hPc := hP.sub (ws' := [(a, .inr (8, [.int (iI (0)), .int (iI (σ 0)), .int (iI (σ 1)), .int (iI (σ 2)), .int (iI (σ 3)), .int (iI (σ 4)), .int (iI (σ 5)), .int (iI (σ 6)), .ref ta, .int (iI (σ 7)), .ref pa, .int (iI (σ 9)), .int (iI (σ 10))]))]) [0] rfl
    have hDc := hD.sub (ws' := [(a, .inr (8, [.int (iI (0)), .int (iI (σ 0)), .int (iI (σ 1)), .int (iI (σ 2)), .int (iI (σ 3)), .int (iI (σ 4)), .int (iI (σ 5)), .int (iI (σ 6)), .ref ta, .int (iI (σ 7)), .ref pa, .int (iI (σ 9)), .int (iI (σ 10))]))]) [0] (by decide) rfl
    have hFc := va_free (wc := [(a, .inr (8, [.int (iI (0)), .int (iI (σ 0)), .int (iI (σ 1)), .int (iI (σ 2)), .int (iI (σ 3)), .int (iI (σ 4)), .int (iI (σ 5)), .int (iI (σ 6)), .ref ta, .int (iI (σ 7)), .ref pa, .int (iI (σ 9)), .int (iI (σ 10))]))]) hD hS hA [0] rfl
    refine q_callU (fr := 0) (lo := 0) (nL := 4) (As := [.int (iI (1))]) (rest := []) ⟨hx, hb, hml, hown, hts⟩ (u_fail l D _ _ a (0) (1) _ _ _ _ _ _ _ _ _ _ _ _) (cwV 1 hts gX6_setMoon_X6_fail rfl rfl rfl (by decide +kernel) ⟨Nat.le_of_ble_eq_true rfl, Nat.le_of_ble_eq_true rfl⟩) (ob_recv (hP 0 _ rfl) hK rfl) hPc (hDc.weaken (fun _ _ _ _ => trivial)) hFc hS hK rfl hl.1 rfl (Nat.le_of_ble_eq_true rfl) dX6_setMoon_29 (Nat.le_of_ble_eq_true rfl) (Nat.le_of_ble_eq_true rfl) ?_
    intro r H1 locs1 hr1 hP1 hk1 hS1
    have hr2 := hr1 rfl
    subst hr2
    have hP1 := (hP1.resolve_right (fun z => z.1 rfl)).2
    have hP2 : va_P D vwCl ([(a, .inr (8, [.int (iI (1)), .int (iI (σ 0)), .int (iI (σ 1)), .int (iI (σ 2)), .int (iI (σ 3)), .int (iI (σ 4)), .int (iI (σ 5)), .int (iI (σ 6)), .ref ta, .int (iI (σ 7)), .ref pa, .int (iI (σ 9)), .int (iI (σ 10))])), (ta, .inl (cI, 40, .inl (fun j => iI (T j)))), (pa, .inl (cI, 110, .inl (fun j => iI (P j))))]) H1 := va_upd (A0 := fun _ => True) hP hk1 hP1 (by
      intro q hq
      simp only [List.mem_cons, List.not_mem_nil, or_false] at hq
      rcases hq with rfl | rfl | rfl
      · exact Or.inl (List.mem_of_getElem? (i := 0) rfl)
      · refine Or.inr ⟨List.mem_of_getElem? (i := 1) rfl, fun z hz => ?_⟩
        simp only [List.mem_cons, List.not_mem_nil, or_false] at hz
        rcases hz with rfl
        · exact vaD_ne hD (i := 0) (j := 1) rfl rfl (by decide)
      · refine Or.inr ⟨List.mem_of_getElem? (i := 2) rfl, fun z hz => ?_⟩
        simp only [List.mem_cons, List.not_mem_nil, or_false] at hz
        rcases hz with rfl
        · exact vaD_ne hD (i := 0) (j := 2) rfl rfl (by decide))
    have hD2 : va_D (va_A (WMo cI a ta pa th σ T P) sz) ([(a, .inr (8, [.int (iI (1)), .int (iI (σ 0)), .int (iI (σ 1)), .int (iI (σ 2)), .int (iI (σ 3)), .int (iI (σ 4)), .int (iI (σ 5)), .int (iI (σ 6)), .ref ta, .int (iI (σ 7)), .ref pa, .int (iI (σ 9)), .int (iI (σ 10))])), (ta, .inl (cI, 40, .inl (fun j => iI (T j)))), (pa, .inl (cI, 110, .inl (fun j => iI (P j))))]) := vaD_addr hD rfl
    clear hP hD hS hPc hDc hFc hP1 hk1
    have hP := hP2; have hD := hD2; have hS := hS1
    clear hP2 hD2 hS1
    generalize H1 = H at hP hS ⊢
    generalize locs1 = locs at hS ⊢
    have hER : (if (20000 ≤ x ∧ x ≤ 40000) ∧ (0 ≤ y ∧ y ≤ 39999) then 0 else 1 : Int) = 1 := by (repeat' split) <;> omega
    exact q_uret (ws := []) hx hb hr hlocks hS (Or.inr ⟨by rw [hER]; decide, by rw [hER]; exact hP⟩) (fun h => absurd (hER.symm.trans h) (by decide)) (Nat.le_of_ble_eq_true rfl) (Nat.le_of_ble_eq_true rfl) dX6_setMoon_32
  · skip
    refine lv_iload_n hx hb dX6_setMoon_17 rfl (lv_at hl 2 rfl) ?_
    refine q_iconst hx hb dX6_setMoon_18 ?_
    refine q_ldc (z := 39999) hx hb hown (hts (.constant RX6 42 (39999)) (List.mem_of_getElem? (i := 3) rfl)) (by decide) dX6_setMoon_19 ?_
    refine q_callS (fr := 0) (lo := 0) (nL := 4) (Pic := fun _ => True) (As := [.int (iI (y)), .int (iI (0)), .int (iI (39999))]) (rest := []) ⟨hx, hb, hml, hown, hts⟩ (c_isIn l D (ty3 cI cO cL) (y) (0) (39999) (by omega) (by omega) (by omega)) (va_cwS 3 hts gX6_setMoon_X6_isIn rfl rfl rfl (by decide +kernel) ⟨Nat.le_of_ble_eq_true rfl, Nat.le_of_ble_eq_true rfl⟩) trivial hK rfl hl.1 rfl (Nat.le_of_ble_eq_true rfl) dX6_setMoon_21 (Nat.zero_le _) (Nat.zero_le _) ?_
    refine q_pif_ne (tgt := 33) hx hb dX6_setMoon_24 (by decide) (fun c_2 => ?_) (fun c_2 => ?_)
    · skip
      refine lv_aload_n hx hb dX6_setMoon_33 rfl (lv_at hl 0 rfl) ?_
      refine q_get (ci := 8) (C := RX6) (T := TX6) (N := 13) hx hb hts hin_X6 hown hK (v := .int (iI (σ 2))) (hP 0 _ rfl) rfl 3 (by decide) (hts (.fieldLink RX6 16 "AlmanacHouseModel" "length" "I") (List.mem_of_getElem? (i := 4) rfl)) (fun _ h9 => h9) rfl dX6_setMoon_34 ?_
      refine lv_istore_n (lv' := [(3, .int (iI (σ 2))), (0, .ref a), (1, .int (iI (x))), (2, .int (iI (y)))]) hx hb dX6_setMoon_37 rfl hl (by decide) rfl (fun ls hl => ?_)
      refine lv_aload_n hx hb dX6_setMoon_38 rfl (lv_at hl 1 rfl) ?_
      refine lv_iload_n hx hb dX6_setMoon_39 rfl (lv_at hl 2 rfl) ?_
      refine va_put (D := D) (ci := 8) (v := .int (iI (x))) (ty := .int) (C := RX6) (T := TX6) (N := 13) hx hb hts hin_X6 tyX6 tyX6_ok nmX6 hown hK hP hD hS 0 rfl rfl 3 (by decide) (hts (.fieldLink RX6 16 "AlmanacHouseModel" "length" "I") (List.mem_of_getElem? (i := 4) rfl)) (fun _ h9 => h9) rfl (by decide +kernel) rfl rfl (Nat.le_of_ble_eq_true rfl) dX6_setMoon_40 (fun H locs hP hD hS => ?_)
      have hP : va_P D vwCl ([(a, .inr (8, [.int (iI (0)), .int (iI (σ 0)), .int (iI (σ 1)), .int (iI (x)), .int (iI (σ 3)), .int (iI (σ 4)), .int (iI (σ 5)), .int (iI (σ 6)), .ref ta, .int (iI (σ 7)), .ref pa, .int (iI (σ 9)), .int (iI (σ 10))])), (ta, .inl (cI, 40, .inl (fun j => iI (T j)))), (pa, .inl (cI, 110, .inl (fun j => iI (P j))))]) H := hP
      have hD : va_D (va_A (WMo cI a ta pa th σ T P) sz) ([(a, .inr (8, [.int (iI (0)), .int (iI (σ 0)), .int (iI (σ 1)), .int (iI (x)), .int (iI (σ 3)), .int (iI (σ 4)), .int (iI (σ 5)), .int (iI (σ 6)), .ref ta, .int (iI (σ 7)), .ref pa, .int (iI (σ 9)), .int (iI (σ 10))])), (ta, .inl (cI, 40, .inl (fun j => iI (T j)))), (pa, .inl (cI, 110, .inl (fun j => iI (P j))))]) := hD
      refine lv_aload_n hx hb dX6_setMoon_43 rfl (lv_at hl 1 rfl) ?_
      refine lv_iload_n hx hb dX6_setMoon_44 rfl (lv_at hl 3 rfl) ?_
      refine va_put (D := D) (ci := 8) (v := .int (iI (y))) (ty := .int) (C := RX6) (T := TX6) (N := 13) hx hb hts hin_X6 tyX6 tyX6_ok nmX6 hown hK hP hD hS 0 rfl rfl 4 (by decide) (hts (.fieldLink RX6 43 "AlmanacHouseModel" "first" "I") (List.mem_of_getElem? (i := 5) rfl)) (fun _ h9 => h9) rfl (by decide +kernel) rfl rfl (Nat.le_of_ble_eq_true rfl) dX6_setMoon_45 (fun H locs hP hD hS => ?_)
      have hP : va_P D vwCl ([(a, .inr (8, [.int (iI (0)), .int (iI (σ 0)), .int (iI (σ 1)), .int (iI (x)), .int (iI (y)), .int (iI (σ 4)), .int (iI (σ 5)), .int (iI (σ 6)), .ref ta, .int (iI (σ 7)), .ref pa, .int (iI (σ 9)), .int (iI (σ 10))])), (ta, .inl (cI, 40, .inl (fun j => iI (T j)))), (pa, .inl (cI, 110, .inl (fun j => iI (P j))))]) H := hP
      have hD : va_D (va_A (WMo cI a ta pa th σ T P) sz) ([(a, .inr (8, [.int (iI (0)), .int (iI (σ 0)), .int (iI (σ 1)), .int (iI (x)), .int (iI (y)), .int (iI (σ 4)), .int (iI (σ 5)), .int (iI (σ 6)), .ref ta, .int (iI (σ 7)), .ref pa, .int (iI (σ 9)), .int (iI (σ 10))])), (ta, .inl (cI, 40, .inl (fun j => iI (T j)))), (pa, .inl (cI, 110, .inl (fun j => iI (P j))))]) := hD
      refine lv_iload_n hx hb dX6_setMoon_48 rfl (lv_at hl 0 rfl) ?_
      have hER : (if (20000 ≤ x ∧ x ≤ 40000) ∧ (0 ≤ y ∧ y ≤ 39999) then 0 else 1 : Int) = 0 := by (repeat' split) <;> omega
      exact q_uret (ws := []) hx hb hr hlocks hS (Or.inl ⟨hER, hP⟩) (fun _ => rfl) (Nat.le_of_ble_eq_true rfl) (Nat.le_of_ble_eq_true rfl) dX6_setMoon_49
    · skip
      refine lv_aload_n hx hb dX6_setMoon_27 rfl (lv_at hl 0 rfl) ?_
      refine q_iconst hx hb dX6_setMoon_28 ?_
      have hPc := hP.sub (ws' := [(a, .inr (8, [.int (iI (0)), .int (iI (σ 0)), .int (iI (σ 1)), .int (iI (σ 2)), .int (iI (σ 3)), .int (iI (σ 4)), .int (iI (σ 5)), .int (iI (σ 6)), .ref ta, .int (iI (σ 7)), .ref pa, .int (iI (σ 9)), .int (iI (σ 10))]))]) [0] rfl
      have hDc := hD.sub (ws' := [(a, .inr (8, [.int (iI (0)), .int (iI (σ 0)), .int (iI (σ 1)), .int (iI (σ 2)), .int (iI (σ 3)), .int (iI (σ 4)), .int (iI (σ 5)), .int (iI (σ 6)), .ref ta, .int (iI (σ 7)), .ref pa, .int (iI (σ 9)), .int (iI (σ 10))]))]) [0] (by decide) rfl
      have hFc := va_free (wc := [(a, .inr (8, [.int (iI (0)), .int (iI (σ 0)), .int (iI (σ 1)), .int (iI (σ 2)), .int (iI (σ 3)), .int (iI (σ 4)), .int (iI (σ 5)), .int (iI (σ 6)), .ref ta, .int (iI (σ 7)), .ref pa, .int (iI (σ 9)), .int (iI (σ 10))]))]) hD hS hA [0] rfl
      refine q_callU (fr := 0) (lo := 0) (nL := 4) (As := [.int (iI (1))]) (rest := []) ⟨hx, hb, hml, hown, hts⟩ (u_fail l D _ _ a (0) (1) _ _ _ _ _ _ _ _ _ _ _ _) (cwV 1 hts gX6_setMoon_X6_fail rfl rfl rfl (by decide +kernel) ⟨Nat.le_of_ble_eq_true rfl, Nat.le_of_ble_eq_true rfl⟩) (ob_recv (hP 0 _ rfl) hK rfl) hPc (hDc.weaken (fun _ _ _ _ => trivial)) hFc hS hK rfl hl.1 rfl (Nat.le_of_ble_eq_true rfl) dX6_setMoon_29 (Nat.le_of_ble_eq_true rfl) (Nat.le_of_ble_eq_true rfl) ?_
      intro r H1 locs1 hr1 hP1 hk1 hS1
      have hr2 := hr1 rfl
      subst hr2
      have hP1 := (hP1.resolve_right (fun z => z.1 rfl)).2
      have hP2 : va_P D vwCl ([(a, .inr (8, [.int (iI (1)), .int (iI (σ 0)), .int (iI (σ 1)), .int (iI (σ 2)), .int (iI (σ 3)), .int (iI (σ 4)), .int (iI (σ 5)), .int (iI (σ 6)), .ref ta, .int (iI (σ 7)), .ref pa, .int (iI (σ 9)), .int (iI (σ 10))])), (ta, .inl (cI, 40, .inl (fun j => iI (T j)))), (pa, .inl (cI, 110, .inl (fun j => iI (P j))))]) H1 := va_upd (A0 := fun _ => True) hP hk1 hP1 (by
        intro q hq
        simp only [List.mem_cons, List.not_mem_nil, or_false] at hq
        rcases hq with rfl | rfl | rfl
        · exact Or.inl (List.mem_of_getElem? (i := 0) rfl)
        · refine Or.inr ⟨List.mem_of_getElem? (i := 1) rfl, fun z hz => ?_⟩
          simp only [List.mem_cons, List.not_mem_nil, or_false] at hz
          rcases hz with rfl
          · exact vaD_ne hD (i := 0) (j := 1) rfl rfl (by decide)
        · refine Or.inr ⟨List.mem_of_getElem? (i := 2) rfl, fun z hz => ?_⟩
          simp only [List.mem_cons, List.not_mem_nil, or_false] at hz
          rcases hz with rfl
          · exact vaD_ne hD (i := 0) (j := 2) rfl rfl (by decide))
      have hD2 : va_D (va_A (WMo cI a ta pa th σ T P) sz) ([(a, .inr (8, [.int (iI (1)), .int (iI (σ 0)), .int (iI (σ 1)), .int (iI (σ 2)), .int (iI (σ 3)), .int (iI (σ 4)), .int (iI (σ 5)), .int (iI (σ 6)), .ref ta, .int (iI (σ 7)), .ref pa, .int (iI (σ 9)), .int (iI (σ 10))])), (ta, .inl (cI, 40, .inl (fun j => iI (T j)))), (pa, .inl (cI, 110, .inl (fun j => iI (P j))))]) := vaD_addr hD rfl
      clear hP hD hS hPc hDc hFc hP1 hk1
      have hP := hP2; have hD := hD2; have hS := hS1
      clear hP2 hD2 hS1
      generalize H1 = H at hP hS ⊢
      generalize locs1 = locs at hS ⊢
      have hER : (if (20000 ≤ x ∧ x ≤ 40000) ∧ (0 ≤ y ∧ y ≤ 39999) then 0 else 1 : Int) = 1 := by (repeat' split) <;> omega
      exact q_uret (ws := []) hx hb hr hlocks hS (Or.inr ⟨by rw [hER]; decide, by rw [hER]; exact hP⟩) (fun h => absurd (hER.symm.trans h) (by decide)) (Nat.le_of_ble_eq_true rfl) (Nat.le_of_ble_eq_true rfl) dX6_setMoon_32
set_option maxHeartbeats 4000000 in
set_option maxRecDepth 100000 in
theorem u_setNodes (l : Launch) (D : va_G) (sz : Nat) (cI cO cL : ClassId) (a ta pa : Nat) (th : Int) (σ T P : Nat → Int) (hW : WF σ T) (hS0 : WS σ P) (x y : Int) (hxr : -2147483648 ≤ x ∧ x < 2147483648) (hyr : -2147483648 ≤ y ∧ y < 2147483648) : MU l yX6_setNodes wsX6_setNodes 1 22 0 0 D (ty3 cI cO cL) sz (WMo cI a ta pa th σ T P) [.ref a, .int (iI (x)), .int (iI (y))] (if (100000 ≤ x ∧ x ≤ 300000) ∧ (0 ≤ y ∧ y ≤ 299999) then 0 else 1) (σ 4) (WMo cI a ta pa 0 (st (st σ 4 x) 5 y) (T) (P)) (WMo cI a ta pa (if (100000 ≤ x ∧ x ≤ 300000) ∧ (0 ≤ y ∧ y ≤ 299999) then 0 else 1) σ T P) := by
  refine MU_of (cc := cX6_setNodes) (maxL := 4) (ret := (some .int)) (by decide) rfl (Nat.le_of_ble_eq_true rfl) ?_
  intro p e s m args below meth c ls hx hb hr hlocks hml hown hts hsz hP hK hD hS hA hl
  have hl : lv_has ls 4 [(0, .ref a), (1, .int (iI (x))), (2, .int (iI (y)))] := hl
  have hin_X6 : ∀ w ∈ u_ws RX6 TX6 13, w ∈ wsX6_setNodes := (fun w h => List.mem_cons_of_mem _ (List.mem_append_right _ h))
  have hP : va_P D vwCl ([(a, .inr (8, [.int (iI (th)), .int (iI (σ 0)), .int (iI (σ 1)), .int (iI (σ 2)), .int (iI (σ 3)), .int (iI (σ 4)), .int (iI (σ 5)), .int (iI (σ 6)), .ref ta, .int (iI (σ 7)), .ref pa, .int (iI (σ 9)), .int (iI (σ 10))])), (ta, .inl (cI, 40, .inl (fun j => iI (T j)))), (pa, .inl (cI, 110, .inl (fun j => iI (P j))))]) s.heap := hP
  have hD : va_D (va_A (WMo cI a ta pa th σ T P) sz) ([(a, .inr (8, [.int (iI (th)), .int (iI (σ 0)), .int (iI (σ 1)), .int (iI (σ 2)), .int (iI (σ 3)), .int (iI (σ 4)), .int (iI (σ 5)), .int (iI (σ 6)), .ref ta, .int (iI (σ 7)), .ref pa, .int (iI (σ 9)), .int (iI (σ 10))])), (ta, .inl (cI, 40, .inl (fun j => iI (T j)))), (pa, .inl (cI, 110, .inl (fun j => iI (P j))))]) := hD
  obtain ⟨w0, w1, w2, w3, w4, w5, w6, w7, w8⟩ := id hW
  refine lv_aload_n hx hb dX6_setNodes_0 rfl (lv_at hl 0 rfl) ?_
  refine q_iconst hx hb dX6_setNodes_1 ?_
  refine va_put (D := D) (ci := 8) (v := .int (iI (0))) (ty := .int) (C := RX6) (T := TX6) (N := 13) hx hb hts hin_X6 tyX6 tyX6_ok nmX6 hown hK hP hD hS 0 rfl rfl 0 (by decide) (hts (.fieldLink RX6 30 "AlmanacHouseModel" "thrown" "I") (List.mem_of_getElem? (i := 1) rfl)) (fun _ h9 => h9) rfl (by decide +kernel) rfl rfl (Nat.le_of_ble_eq_true rfl) dX6_setNodes_2 (fun H locs hP hD hS => ?_)
  have hP : va_P D vwCl ([(a, .inr (8, [.int (iI (0)), .int (iI (σ 0)), .int (iI (σ 1)), .int (iI (σ 2)), .int (iI (σ 3)), .int (iI (σ 4)), .int (iI (σ 5)), .int (iI (σ 6)), .ref ta, .int (iI (σ 7)), .ref pa, .int (iI (σ 9)), .int (iI (σ 10))])), (ta, .inl (cI, 40, .inl (fun j => iI (T j)))), (pa, .inl (cI, 110, .inl (fun j => iI (P j))))]) H := hP
  have hD : va_D (va_A (WMo cI a ta pa th σ T P) sz) ([(a, .inr (8, [.int (iI (0)), .int (iI (σ 0)), .int (iI (σ 1)), .int (iI (σ 2)), .int (iI (σ 3)), .int (iI (σ 4)), .int (iI (σ 5)), .int (iI (σ 6)), .ref ta, .int (iI (σ 7)), .ref pa, .int (iI (σ 9)), .int (iI (σ 10))])), (ta, .inl (cI, 40, .inl (fun j => iI (T j)))), (pa, .inl (cI, 110, .inl (fun j => iI (P j))))]) := hD
  refine lv_iload_n hx hb dX6_setNodes_5 rfl (lv_at hl 1 rfl) ?_
  refine q_ldc (z := 100000) hx hb hown (hts (.constant RX6 46 (100000)) (List.mem_of_getElem? (i := 2) rfl)) (by decide) dX6_setNodes_6 ?_
  refine q_ldc (z := 300000) hx hb hown (hts (.constant RX6 47 (300000)) (List.mem_of_getElem? (i := 3) rfl)) (by decide) dX6_setNodes_8 ?_
  refine q_callS (fr := 0) (lo := 0) (nL := 4) (Pic := fun _ => True) (As := [.int (iI (x)), .int (iI (100000)), .int (iI (300000))]) (rest := []) ⟨hx, hb, hml, hown, hts⟩ (c_isIn l D (ty3 cI cO cL) (x) (100000) (300000) (by omega) (by omega) (by omega)) (va_cwS 3 hts gX6_setNodes_X6_isIn rfl rfl rfl (by decide +kernel) ⟨Nat.le_of_ble_eq_true rfl, Nat.le_of_ble_eq_true rfl⟩) trivial hK rfl hl.1 rfl (Nat.le_of_ble_eq_true rfl) dX6_setNodes_10 (Nat.zero_le _) (Nat.zero_le _) ?_
  refine q_pif_eq (tgt := 26) hx hb dX6_setNodes_13 (by decide) (fun c_1 => ?_) (fun c_1 => ?_)
  · skip
    refine lv_aload_n hx hb dX6_setNodes_26 rfl (lv_at hl 0 rfl) ?_
    refine q_iconst hx hb dX6_setNodes_27 ?_
    have hPc := hP.sub (ws' := [(a, .inr (8, [.int (iI (0)), .int (iI (σ 0)), .int (iI (σ 1)), .int (iI (σ 2)), .int (iI (σ 3)), .int (iI (σ 4)), .int (iI (σ 5)), .int (iI (σ 6)), .ref ta, .int (iI (σ 7)), .ref pa, .int (iI (σ 9)), .int (iI (σ 10))]))]) [0] rfl
    have hDc := hD.sub (ws' := [(a, .inr (8, [.int (iI (0)), .int (iI (σ 0)), .int (iI (σ 1)), .int (iI (σ 2)), .int (iI (σ 3)), .int (iI (σ 4)), .int (iI (σ 5)), .int (iI (σ 6)), .ref ta, .int (iI (σ 7)), .ref pa, .int (iI (σ 9)), .int (iI (σ 10))]))]) [0] (by decide) rfl
    have hFc := va_free (wc := [(a, .inr (8, [.int (iI (0)), .int (iI (σ 0)), .int (iI (σ 1)), .int (iI (σ 2)), .int (iI (σ 3)), .int (iI (σ 4)), .int (iI (σ 5)), .int (iI (σ 6)), .ref ta, .int (iI (σ 7)), .ref pa, .int (iI (σ 9)), .int (iI (σ 10))]))]) hD hS hA [0] rfl
    refine q_callU (fr := 0) (lo := 0) (nL := 4) (As := [.int (iI (1))]) (rest := []) ⟨hx, hb, hml, hown, hts⟩ (u_fail l D _ _ a (0) (1) _ _ _ _ _ _ _ _ _ _ _ _) (cwV 1 hts gX6_setNodes_X6_fail rfl rfl rfl (by decide +kernel) ⟨Nat.le_of_ble_eq_true rfl, Nat.le_of_ble_eq_true rfl⟩) (ob_recv (hP 0 _ rfl) hK rfl) hPc (hDc.weaken (fun _ _ _ _ => trivial)) hFc hS hK rfl hl.1 rfl (Nat.le_of_ble_eq_true rfl) dX6_setNodes_28 (Nat.le_of_ble_eq_true rfl) (Nat.le_of_ble_eq_true rfl) ?_
    intro r H1 locs1 hr1 hP1 hk1 hS1
    have hr2 := hr1 rfl
    subst hr2
    have hP1 := (hP1.resolve_right (fun z => z.1 rfl)).2
    have hP2 : va_P D vwCl ([(a, .inr (8, [.int (iI (1)), .int (iI (σ 0)), .int (iI (σ 1)), .int (iI (σ 2)), .int (iI (σ 3)), .int (iI (σ 4)), .int (iI (σ 5)), .int (iI (σ 6)), .ref ta, .int (iI (σ 7)), .ref pa, .int (iI (σ 9)), .int (iI (σ 10))])), (ta, .inl (cI, 40, .inl (fun j => iI (T j)))), (pa, .inl (cI, 110, .inl (fun j => iI (P j))))]) H1 := va_upd (A0 := fun _ => True) hP hk1 hP1 (by
      intro q hq
      simp only [List.mem_cons, List.not_mem_nil, or_false] at hq
      rcases hq with rfl | rfl | rfl
      · exact Or.inl (List.mem_of_getElem? (i := 0) rfl)
      · refine Or.inr ⟨List.mem_of_getElem? (i := 1) rfl, fun z hz => ?_⟩
        simp only [List.mem_cons, List.not_mem_nil, or_false] at hz
        rcases hz with rfl
        · exact vaD_ne hD (i := 0) (j := 1) rfl rfl (by decide)
      · refine Or.inr ⟨List.mem_of_getElem? (i := 2) rfl, fun z hz => ?_⟩
        simp only [List.mem_cons, List.not_mem_nil, or_false] at hz
        rcases hz with rfl
        · exact vaD_ne hD (i := 0) (j := 2) rfl rfl (by decide))
    have hD2 : va_D (va_A (WMo cI a ta pa th σ T P) sz) ([(a, .inr (8, [.int (iI (1)), .int (iI (σ 0)), .int (iI (σ 1)), .int (iI (σ 2)), .int (iI (σ 3)), .int (iI (σ 4)), .int (iI (σ 5)), .int (iI (σ 6)), .ref ta, .int (iI (σ 7)), .ref pa, .int (iI (σ 9)), .int (iI (σ 10))])), (ta, .inl (cI, 40, .inl (fun j => iI (T j)))), (pa, .inl (cI, 110, .inl (fun j => iI (P j))))]) := vaD_addr hD rfl
    clear hP hD hS hPc hDc hFc hP1 hk1
    have hP := hP2; have hD := hD2; have hS := hS1
    clear hP2 hD2 hS1
    generalize H1 = H at hP hS ⊢
    generalize locs1 = locs at hS ⊢
    have hER : (if (100000 ≤ x ∧ x ≤ 300000) ∧ (0 ≤ y ∧ y ≤ 299999) then 0 else 1 : Int) = 1 := by (repeat' split) <;> omega
    exact q_uret (ws := []) hx hb hr hlocks hS (Or.inr ⟨by rw [hER]; decide, by rw [hER]; exact hP⟩) (fun h => absurd (hER.symm.trans h) (by decide)) (Nat.le_of_ble_eq_true rfl) (Nat.le_of_ble_eq_true rfl) dX6_setNodes_31
  · skip
    refine lv_iload_n hx hb dX6_setNodes_16 rfl (lv_at hl 2 rfl) ?_
    refine q_iconst hx hb dX6_setNodes_17 ?_
    refine q_ldc (z := 299999) hx hb hown (hts (.constant RX6 48 (299999)) (List.mem_of_getElem? (i := 4) rfl)) (by decide) dX6_setNodes_18 ?_
    refine q_callS (fr := 0) (lo := 0) (nL := 4) (Pic := fun _ => True) (As := [.int (iI (y)), .int (iI (0)), .int (iI (299999))]) (rest := []) ⟨hx, hb, hml, hown, hts⟩ (c_isIn l D (ty3 cI cO cL) (y) (0) (299999) (by omega) (by omega) (by omega)) (va_cwS 3 hts gX6_setNodes_X6_isIn rfl rfl rfl (by decide +kernel) ⟨Nat.le_of_ble_eq_true rfl, Nat.le_of_ble_eq_true rfl⟩) trivial hK rfl hl.1 rfl (Nat.le_of_ble_eq_true rfl) dX6_setNodes_20 (Nat.zero_le _) (Nat.zero_le _) ?_
    refine q_pif_ne (tgt := 32) hx hb dX6_setNodes_23 (by decide) (fun c_2 => ?_) (fun c_2 => ?_)
    · skip
      refine lv_aload_n hx hb dX6_setNodes_32 rfl (lv_at hl 0 rfl) ?_
      refine q_get (ci := 8) (C := RX6) (T := TX6) (N := 13) hx hb hts hin_X6 hown hK (v := .int (iI (σ 4))) (hP 0 _ rfl) rfl 5 (by decide) (hts (.fieldLink RX6 20 "AlmanacHouseModel" "period" "I") (List.mem_of_getElem? (i := 5) rfl)) (fun _ h9 => h9) rfl dX6_setNodes_33 ?_
      refine lv_istore_n (lv' := [(3, .int (iI (σ 4))), (0, .ref a), (1, .int (iI (x))), (2, .int (iI (y)))]) hx hb dX6_setNodes_36 rfl hl (by decide) rfl (fun ls hl => ?_)
      refine lv_aload_n hx hb dX6_setNodes_37 rfl (lv_at hl 1 rfl) ?_
      refine lv_iload_n hx hb dX6_setNodes_38 rfl (lv_at hl 2 rfl) ?_
      refine va_put (D := D) (ci := 8) (v := .int (iI (x))) (ty := .int) (C := RX6) (T := TX6) (N := 13) hx hb hts hin_X6 tyX6 tyX6_ok nmX6 hown hK hP hD hS 0 rfl rfl 5 (by decide) (hts (.fieldLink RX6 20 "AlmanacHouseModel" "period" "I") (List.mem_of_getElem? (i := 5) rfl)) (fun _ h9 => h9) rfl (by decide +kernel) rfl rfl (Nat.le_of_ble_eq_true rfl) dX6_setNodes_39 (fun H locs hP hD hS => ?_)
      have hP : va_P D vwCl ([(a, .inr (8, [.int (iI (0)), .int (iI (σ 0)), .int (iI (σ 1)), .int (iI (σ 2)), .int (iI (σ 3)), .int (iI (x)), .int (iI (σ 5)), .int (iI (σ 6)), .ref ta, .int (iI (σ 7)), .ref pa, .int (iI (σ 9)), .int (iI (σ 10))])), (ta, .inl (cI, 40, .inl (fun j => iI (T j)))), (pa, .inl (cI, 110, .inl (fun j => iI (P j))))]) H := hP
      have hD : va_D (va_A (WMo cI a ta pa th σ T P) sz) ([(a, .inr (8, [.int (iI (0)), .int (iI (σ 0)), .int (iI (σ 1)), .int (iI (σ 2)), .int (iI (σ 3)), .int (iI (x)), .int (iI (σ 5)), .int (iI (σ 6)), .ref ta, .int (iI (σ 7)), .ref pa, .int (iI (σ 9)), .int (iI (σ 10))])), (ta, .inl (cI, 40, .inl (fun j => iI (T j)))), (pa, .inl (cI, 110, .inl (fun j => iI (P j))))]) := hD
      refine lv_aload_n hx hb dX6_setNodes_42 rfl (lv_at hl 1 rfl) ?_
      refine lv_iload_n hx hb dX6_setNodes_43 rfl (lv_at hl 3 rfl) ?_
      refine va_put (D := D) (ci := 8) (v := .int (iI (y))) (ty := .int) (C := RX6) (T := TX6) (N := 13) hx hb hts hin_X6 tyX6 tyX6_ok nmX6 hown hK hP hD hS 0 rfl rfl 6 (by decide) (hts (.fieldLink RX6 49 "AlmanacHouseModel" "node" "I") (List.mem_of_getElem? (i := 6) rfl)) (fun _ h9 => h9) rfl (by decide +kernel) rfl rfl (Nat.le_of_ble_eq_true rfl) dX6_setNodes_44 (fun H locs hP hD hS => ?_)
      have hP : va_P D vwCl ([(a, .inr (8, [.int (iI (0)), .int (iI (σ 0)), .int (iI (σ 1)), .int (iI (σ 2)), .int (iI (σ 3)), .int (iI (x)), .int (iI (y)), .int (iI (σ 6)), .ref ta, .int (iI (σ 7)), .ref pa, .int (iI (σ 9)), .int (iI (σ 10))])), (ta, .inl (cI, 40, .inl (fun j => iI (T j)))), (pa, .inl (cI, 110, .inl (fun j => iI (P j))))]) H := hP
      have hD : va_D (va_A (WMo cI a ta pa th σ T P) sz) ([(a, .inr (8, [.int (iI (0)), .int (iI (σ 0)), .int (iI (σ 1)), .int (iI (σ 2)), .int (iI (σ 3)), .int (iI (x)), .int (iI (y)), .int (iI (σ 6)), .ref ta, .int (iI (σ 7)), .ref pa, .int (iI (σ 9)), .int (iI (σ 10))])), (ta, .inl (cI, 40, .inl (fun j => iI (T j)))), (pa, .inl (cI, 110, .inl (fun j => iI (P j))))]) := hD
      refine lv_iload_n hx hb dX6_setNodes_47 rfl (lv_at hl 0 rfl) ?_
      have hER : (if (100000 ≤ x ∧ x ≤ 300000) ∧ (0 ≤ y ∧ y ≤ 299999) then 0 else 1 : Int) = 0 := by (repeat' split) <;> omega
      exact q_uret (ws := []) hx hb hr hlocks hS (Or.inl ⟨hER, hP⟩) (fun _ => rfl) (Nat.le_of_ble_eq_true rfl) (Nat.le_of_ble_eq_true rfl) dX6_setNodes_48
    · skip
      refine lv_aload_n hx hb dX6_setNodes_26 rfl (lv_at hl 0 rfl) ?_
      refine q_iconst hx hb dX6_setNodes_27 ?_
      have hPc := hP.sub (ws' := [(a, .inr (8, [.int (iI (0)), .int (iI (σ 0)), .int (iI (σ 1)), .int (iI (σ 2)), .int (iI (σ 3)), .int (iI (σ 4)), .int (iI (σ 5)), .int (iI (σ 6)), .ref ta, .int (iI (σ 7)), .ref pa, .int (iI (σ 9)), .int (iI (σ 10))]))]) [0] rfl
      have hDc := hD.sub (ws' := [(a, .inr (8, [.int (iI (0)), .int (iI (σ 0)), .int (iI (σ 1)), .int (iI (σ 2)), .int (iI (σ 3)), .int (iI (σ 4)), .int (iI (σ 5)), .int (iI (σ 6)), .ref ta, .int (iI (σ 7)), .ref pa, .int (iI (σ 9)), .int (iI (σ 10))]))]) [0] (by decide) rfl
      have hFc := va_free (wc := [(a, .inr (8, [.int (iI (0)), .int (iI (σ 0)), .int (iI (σ 1)), .int (iI (σ 2)), .int (iI (σ 3)), .int (iI (σ 4)), .int (iI (σ 5)), .int (iI (σ 6)), .ref ta, .int (iI (σ 7)), .ref pa, .int (iI (σ 9)), .int (iI (σ 10))]))]) hD hS hA [0] rfl
      refine q_callU (fr := 0) (lo := 0) (nL := 4) (As := [.int (iI (1))]) (rest := []) ⟨hx, hb, hml, hown, hts⟩ (u_fail l D _ _ a (0) (1) _ _ _ _ _ _ _ _ _ _ _ _) (cwV 1 hts gX6_setNodes_X6_fail rfl rfl rfl (by decide +kernel) ⟨Nat.le_of_ble_eq_true rfl, Nat.le_of_ble_eq_true rfl⟩) (ob_recv (hP 0 _ rfl) hK rfl) hPc (hDc.weaken (fun _ _ _ _ => trivial)) hFc hS hK rfl hl.1 rfl (Nat.le_of_ble_eq_true rfl) dX6_setNodes_28 (Nat.le_of_ble_eq_true rfl) (Nat.le_of_ble_eq_true rfl) ?_
      intro r H1 locs1 hr1 hP1 hk1 hS1
      have hr2 := hr1 rfl
      subst hr2
      have hP1 := (hP1.resolve_right (fun z => z.1 rfl)).2
      have hP2 : va_P D vwCl ([(a, .inr (8, [.int (iI (1)), .int (iI (σ 0)), .int (iI (σ 1)), .int (iI (σ 2)), .int (iI (σ 3)), .int (iI (σ 4)), .int (iI (σ 5)), .int (iI (σ 6)), .ref ta, .int (iI (σ 7)), .ref pa, .int (iI (σ 9)), .int (iI (σ 10))])), (ta, .inl (cI, 40, .inl (fun j => iI (T j)))), (pa, .inl (cI, 110, .inl (fun j => iI (P j))))]) H1 := va_upd (A0 := fun _ => True) hP hk1 hP1 (by
        intro q hq
        simp only [List.mem_cons, List.not_mem_nil, or_false] at hq
        rcases hq with rfl | rfl | rfl
        · exact Or.inl (List.mem_of_getElem? (i := 0) rfl)
        · refine Or.inr ⟨List.mem_of_getElem? (i := 1) rfl, fun z hz => ?_⟩
          simp only [List.mem_cons, List.not_mem_nil, or_false] at hz
          rcases hz with rfl
          · exact vaD_ne hD (i := 0) (j := 1) rfl rfl (by decide)
        · refine Or.inr ⟨List.mem_of_getElem? (i := 2) rfl, fun z hz => ?_⟩
          simp only [List.mem_cons, List.not_mem_nil, or_false] at hz
          rcases hz with rfl
          · exact vaD_ne hD (i := 0) (j := 2) rfl rfl (by decide))
      have hD2 : va_D (va_A (WMo cI a ta pa th σ T P) sz) ([(a, .inr (8, [.int (iI (1)), .int (iI (σ 0)), .int (iI (σ 1)), .int (iI (σ 2)), .int (iI (σ 3)), .int (iI (σ 4)), .int (iI (σ 5)), .int (iI (σ 6)), .ref ta, .int (iI (σ 7)), .ref pa, .int (iI (σ 9)), .int (iI (σ 10))])), (ta, .inl (cI, 40, .inl (fun j => iI (T j)))), (pa, .inl (cI, 110, .inl (fun j => iI (P j))))]) := vaD_addr hD rfl
      clear hP hD hS hPc hDc hFc hP1 hk1
      have hP := hP2; have hD := hD2; have hS := hS1
      clear hP2 hD2 hS1
      generalize H1 = H at hP hS ⊢
      generalize locs1 = locs at hS ⊢
      have hER : (if (100000 ≤ x ∧ x ≤ 300000) ∧ (0 ≤ y ∧ y ≤ 299999) then 0 else 1 : Int) = 1 := by (repeat' split) <;> omega
      exact q_uret (ws := []) hx hb hr hlocks hS (Or.inr ⟨by rw [hER]; decide, by rw [hER]; exact hP⟩) (fun h => absurd (hER.symm.trans h) (by decide)) (Nat.le_of_ble_eq_true rfl) (Nat.le_of_ble_eq_true rfl) dX6_setNodes_31
set_option maxHeartbeats 4000000 in
set_option maxRecDepth 100000 in
theorem u_leap (l : Launch) (D : va_G) (sz : Nat) (cI cO cL : ClassId) (a ta pa : Nat) (th : Int) (σ T P : Nat → Int) (hW : WF σ T) (hS0 : WS σ P) (y : Int) (hyr : -2147483648 ≤ y ∧ y < 2147483648) : MU l yX6_leap wsX6_leap 2 42 0 0 D (ty3 cI cO cL) sz (WMo cI a ta pa th σ T P) [.ref a, .int (iI (y))] (if 0 ≤ y ∧ y < 1000 then 0 else 1) (m_leap (σ 0) (σ 1) y) (WMo cI a ta pa 0 (σ) (T) (P)) (WMo cI a ta pa (if 0 ≤ y ∧ y < 1000 then 0 else 1) σ T P) := by
  refine MU_of (cc := cX6_leap) (maxL := 2) (ret := (some .boolean)) (by decide) rfl (Nat.le_of_ble_eq_true rfl) ?_
  intro p e s m args below meth c ls hx hb hr hlocks hml hown hts hsz hP hK hD hS hA hl
  have hl : lv_has ls 2 [(0, .ref a), (1, .int (iI (y)))] := hl
  have hin_X6 : ∀ w ∈ u_ws RX6 TX6 13, w ∈ wsX6_leap := (fun w h => List.mem_cons_of_mem _ (List.mem_append_right _ h))
  have hP : va_P D vwCl ([(a, .inr (8, [.int (iI (th)), .int (iI (σ 0)), .int (iI (σ 1)), .int (iI (σ 2)), .int (iI (σ 3)), .int (iI (σ 4)), .int (iI (σ 5)), .int (iI (σ 6)), .ref ta, .int (iI (σ 7)), .ref pa, .int (iI (σ 9)), .int (iI (σ 10))])), (ta, .inl (cI, 40, .inl (fun j => iI (T j)))), (pa, .inl (cI, 110, .inl (fun j => iI (P j))))]) s.heap := hP
  have hD : va_D (va_A (WMo cI a ta pa th σ T P) sz) ([(a, .inr (8, [.int (iI (th)), .int (iI (σ 0)), .int (iI (σ 1)), .int (iI (σ 2)), .int (iI (σ 3)), .int (iI (σ 4)), .int (iI (σ 5)), .int (iI (σ 6)), .ref ta, .int (iI (σ 7)), .ref pa, .int (iI (σ 9)), .int (iI (σ 10))])), (ta, .inl (cI, 40, .inl (fun j => iI (T j)))), (pa, .inl (cI, 110, .inl (fun j => iI (P j))))]) := hD
  obtain ⟨w0, w1, w2, w3, w4, w5, w6, w7, w8⟩ := id hW
  refine lv_aload_n hx hb dX6_leap_0 rfl (lv_at hl 0 rfl) ?_
  refine lv_iload_n hx hb dX6_leap_1 rfl (lv_at hl 1 rfl) ?_
  refine q_callS (fr := 1) (lo := 22) (nL := 2) (Pic := fun _ => True) (As := [.int (iI (y))]) (rest := [.ref a]) ⟨hx, hb, hml, hown, hts⟩ (c_isYearM l D (ty3 cI cO cL) (y) (by omega)) (va_cwS 1 hts gX6_leap_X6_isYear rfl rfl rfl (by decide +kernel) ⟨Nat.le_of_ble_eq_true rfl, Nat.le_of_ble_eq_true rfl⟩) trivial hK rfl hl.1 rfl (Nat.le_of_ble_eq_true rfl) dX6_leap_2 (Nat.zero_le _) (Nat.zero_le _) ?_
  refine q_pif_eq (tgt := 12) hx hb dX6_leap_5 (by decide) (fun c_1 => ?_) (fun c_1 => ?_)
  · skip
    refine q_iconst hx hb dX6_leap_12 ?_
    refine va_put (D := D) (ci := 8) (v := .int (iI (1))) (ty := .int) (C := RX6) (T := TX6) (N := 13) hx hb hts hin_X6 tyX6 tyX6_ok nmX6 hown hK hP hD hS 0 rfl rfl 0 (by decide) (hts (.fieldLink RX6 30 "AlmanacHouseModel" "thrown" "I") (List.mem_of_getElem? (i := 1) rfl)) (fun _ h9 => h9) rfl (by decide +kernel) rfl rfl (Nat.le_of_ble_eq_true rfl) dX6_leap_13 (fun H locs hP hD hS => ?_)
    have hP : va_P D vwCl ([(a, .inr (8, [.int (iI (1)), .int (iI (σ 0)), .int (iI (σ 1)), .int (iI (σ 2)), .int (iI (σ 3)), .int (iI (σ 4)), .int (iI (σ 5)), .int (iI (σ 6)), .ref ta, .int (iI (σ 7)), .ref pa, .int (iI (σ 9)), .int (iI (σ 10))])), (ta, .inl (cI, 40, .inl (fun j => iI (T j)))), (pa, .inl (cI, 110, .inl (fun j => iI (P j))))]) H := hP
    have hD : va_D (va_A (WMo cI a ta pa th σ T P) sz) ([(a, .inr (8, [.int (iI (1)), .int (iI (σ 0)), .int (iI (σ 1)), .int (iI (σ 2)), .int (iI (σ 3)), .int (iI (σ 4)), .int (iI (σ 5)), .int (iI (σ 6)), .ref ta, .int (iI (σ 7)), .ref pa, .int (iI (σ 9)), .int (iI (σ 10))])), (ta, .inl (cI, 40, .inl (fun j => iI (T j)))), (pa, .inl (cI, 110, .inl (fun j => iI (P j))))]) := hD
    refine lv_aload_n hx hb dX6_leap_16 rfl (lv_at hl 0 rfl) ?_
    refine q_get (ci := 8) (C := RX6) (T := TX6) (N := 13) hx hb hts hin_X6 hown hK (v := .int (iI (1))) (hP 0 _ rfl) rfl 0 (by decide) (hts (.fieldLink RX6 30 "AlmanacHouseModel" "thrown" "I") (List.mem_of_getElem? (i := 1) rfl)) (fun _ h9 => h9) rfl dX6_leap_17 ?_
    refine q_if_ne (tgt := 35) hx hb dX6_leap_20 (by decide) (by omega) (fun c_2 => ?_) (fun c_2 => ?_)
    · skip
      refine q_iconst hx hb dX6_leap_35 ?_
      have hER : (if 0 ≤ y ∧ y < 1000 then 0 else 1 : Int) = 1 := by (repeat' split) <;> omega
      exact q_uzret (ws := []) hx hb hr hlocks (by omega) hS (Or.inr ⟨by rw [hER]; decide, by rw [hER]; exact hP⟩) (fun h => absurd (hER.symm.trans h) (by decide)) (Nat.le_of_ble_eq_true rfl) (Nat.le_of_ble_eq_true rfl) dX6_leap_36
    · exfalso
      omega
  · skip
    refine q_iconst hx hb dX6_leap_8 ?_
    refine lv_goto (tgt := 13) hx hb dX6_leap_9 (by decide) ?_
    refine va_put (D := D) (ci := 8) (v := .int (iI (0))) (ty := .int) (C := RX6) (T := TX6) (N := 13) hx hb hts hin_X6 tyX6 tyX6_ok nmX6 hown hK hP hD hS 0 rfl rfl 0 (by decide) (hts (.fieldLink RX6 30 "AlmanacHouseModel" "thrown" "I") (List.mem_of_getElem? (i := 1) rfl)) (fun _ h9 => h9) rfl (by decide +kernel) rfl rfl (Nat.le_of_ble_eq_true rfl) dX6_leap_13 (fun H locs hP hD hS => ?_)
    have hP : va_P D vwCl ([(a, .inr (8, [.int (iI (0)), .int (iI (σ 0)), .int (iI (σ 1)), .int (iI (σ 2)), .int (iI (σ 3)), .int (iI (σ 4)), .int (iI (σ 5)), .int (iI (σ 6)), .ref ta, .int (iI (σ 7)), .ref pa, .int (iI (σ 9)), .int (iI (σ 10))])), (ta, .inl (cI, 40, .inl (fun j => iI (T j)))), (pa, .inl (cI, 110, .inl (fun j => iI (P j))))]) H := hP
    have hD : va_D (va_A (WMo cI a ta pa th σ T P) sz) ([(a, .inr (8, [.int (iI (0)), .int (iI (σ 0)), .int (iI (σ 1)), .int (iI (σ 2)), .int (iI (σ 3)), .int (iI (σ 4)), .int (iI (σ 5)), .int (iI (σ 6)), .ref ta, .int (iI (σ 7)), .ref pa, .int (iI (σ 9)), .int (iI (σ 10))])), (ta, .inl (cI, 40, .inl (fun j => iI (T j)))), (pa, .inl (cI, 110, .inl (fun j => iI (P j))))]) := hD
    refine lv_aload_n hx hb dX6_leap_16 rfl (lv_at hl 0 rfl) ?_
    refine q_get (ci := 8) (C := RX6) (T := TX6) (N := 13) hx hb hts hin_X6 hown hK (v := .int (iI (0))) (hP 0 _ rfl) rfl 0 (by decide) (hts (.fieldLink RX6 30 "AlmanacHouseModel" "thrown" "I") (List.mem_of_getElem? (i := 1) rfl)) (fun _ h9 => h9) rfl dX6_leap_17 ?_
    refine q_if_ne (tgt := 35) hx hb dX6_leap_20 (by decide) (by omega) (fun c_3 => ?_) (fun c_3 => ?_)
    · exfalso
      omega
    · skip
      refine lv_aload_n hx hb dX6_leap_23 rfl (lv_at hl 0 rfl) ?_
      refine lv_iload_n hx hb dX6_leap_24 rfl (lv_at hl 1 rfl) ?_
      refine q_callV (fr := 0) (lo := 0) (nL := 2) (Pic := PicM D cI a ta pa (0) σ T (P)) (As := [.int (iI (y))]) (rest := []) ⟨hx, hb, hml, hown, hts⟩ (c_isLeap l D cI cO cL a ta pa (0) σ T (P) hW hS0 (y) (by omega)) (cwV 1 hts gX6_leap_X6_isLeap rfl rfl rfl (by decide +kernel) ⟨Nat.le_of_ble_eq_true rfl, Nat.le_of_ble_eq_true rfl⟩) (ob_recv (hP 0 _ rfl) hK rfl) hP hK rfl hl.1 rfl (Nat.le_of_ble_eq_true rfl) dX6_leap_25 (Nat.zero_le _) (Nat.zero_le _) ?_
      have hlp25 := m_leap_01 (σ 0) (σ 1) (y)
      refine q_if_eq (tgt := 35) hx hb dX6_leap_28 (by decide) (by omega) (fun c_4 => ?_) (fun c_4 => ?_)
      · skip
        refine q_iconst hx hb dX6_leap_35 ?_
        have hER : (if 0 ≤ y ∧ y < 1000 then 0 else 1 : Int) = 0 := by (repeat' split) <;> omega
        exact q_uzret (ws := []) hx hb hr hlocks (by omega) hS (Or.inl ⟨hER, hP⟩) (fun _ => by first | rfl | omega) (Nat.le_of_ble_eq_true rfl) (Nat.le_of_ble_eq_true rfl) dX6_leap_36
      · skip
        refine q_iconst hx hb dX6_leap_31 ?_
        refine lv_goto (tgt := 36) hx hb dX6_leap_32 (by decide) ?_
        have hER : (if 0 ≤ y ∧ y < 1000 then 0 else 1 : Int) = 0 := by (repeat' split) <;> omega
        exact q_uzret (ws := []) hx hb hr hlocks (by omega) hS (Or.inl ⟨hER, hP⟩) (fun _ => by first | rfl | omega) (Nat.le_of_ble_eq_true rfl) (Nat.le_of_ble_eq_true rfl) dX6_leap_36
set_option maxHeartbeats 4000000 in
set_option maxRecDepth 100000 in
theorem u_day (l : Launch) (D : va_G) (sz : Nat) (cI cO cL : ClassId) (a ta pa : Nat) (th : Int) (σ T P : Nat → Int) (hW : WF σ T) (hS0 : WS σ P) (y mo da : Int) (hyr : -2147483648 ≤ y ∧ y < 2147483648) (hmor : -2147483648 ≤ mo ∧ mo < 2147483648) (hdar : -2147483648 ≤ da ∧ da < 2147483648) : MU l yX6_day wsX6_day 3 69 0 0 D (ty3 cI cO cL) sz (WMo cI a ta pa th σ T P) [.ref a, .int (iI (y)), .int (iI (mo)), .int (iI (da))] (if (0 ≤ y ∧ y < 1000) ∧ (0 ≤ mo ∧ mo ≤ 11) ∧ (0 ≤ da ∧ da < m_md (σ 0) (σ 1) y mo) then 0 else 1) (m_d0 (σ 0) (σ 1) mo da y) (WMo cI a ta pa 0 (σ) (T) (P)) (WMo cI a ta pa (if (0 ≤ y ∧ y < 1000) ∧ (0 ≤ mo ∧ mo ≤ 11) ∧ (0 ≤ da ∧ da < m_md (σ 0) (σ 1) y mo) then 0 else 1) σ T P) := by
  refine MU_of (cc := cX6_day) (maxL := 4) (ret := (some .int)) (by decide) rfl (Nat.le_of_ble_eq_true rfl) ?_
  intro p e s m args below meth c ls hx hb hr hlocks hml hown hts hsz hP hK hD hS hA hl
  have hl : lv_has ls 4 [(0, .ref a), (1, .int (iI (y))), (2, .int (iI (mo))), (3, .int (iI (da)))] := hl
  have hin_X6 : ∀ w ∈ u_ws RX6 TX6 13, w ∈ wsX6_day := (fun w h => List.mem_cons_of_mem _ (List.mem_append_right _ h))
  have hP : va_P D vwCl ([(a, .inr (8, [.int (iI (th)), .int (iI (σ 0)), .int (iI (σ 1)), .int (iI (σ 2)), .int (iI (σ 3)), .int (iI (σ 4)), .int (iI (σ 5)), .int (iI (σ 6)), .ref ta, .int (iI (σ 7)), .ref pa, .int (iI (σ 9)), .int (iI (σ 10))])), (ta, .inl (cI, 40, .inl (fun j => iI (T j)))), (pa, .inl (cI, 110, .inl (fun j => iI (P j))))]) s.heap := hP
  have hD : va_D (va_A (WMo cI a ta pa th σ T P) sz) ([(a, .inr (8, [.int (iI (th)), .int (iI (σ 0)), .int (iI (σ 1)), .int (iI (σ 2)), .int (iI (σ 3)), .int (iI (σ 4)), .int (iI (σ 5)), .int (iI (σ 6)), .ref ta, .int (iI (σ 7)), .ref pa, .int (iI (σ 9)), .int (iI (σ 10))])), (ta, .inl (cI, 40, .inl (fun j => iI (T j)))), (pa, .inl (cI, 110, .inl (fun j => iI (P j))))]) := hD
  obtain ⟨w0, w1, w2, w3, w4, w5, w6, w7, w8⟩ := id hW
  refine lv_aload_n hx hb dX6_day_0 rfl (lv_at hl 0 rfl) ?_
  refine q_iconst hx hb dX6_day_1 ?_
  refine va_put (D := D) (ci := 8) (v := .int (iI (0))) (ty := .int) (C := RX6) (T := TX6) (N := 13) hx hb hts hin_X6 tyX6 tyX6_ok nmX6 hown hK hP hD hS 0 rfl rfl 0 (by decide) (hts (.fieldLink RX6 30 "AlmanacHouseModel" "thrown" "I") (List.mem_of_getElem? (i := 1) rfl)) (fun _ h9 => h9) rfl (by decide +kernel) rfl rfl (Nat.le_of_ble_eq_true rfl) dX6_day_2 (fun H locs hP hD hS => ?_)
  have hP : va_P D vwCl ([(a, .inr (8, [.int (iI (0)), .int (iI (σ 0)), .int (iI (σ 1)), .int (iI (σ 2)), .int (iI (σ 3)), .int (iI (σ 4)), .int (iI (σ 5)), .int (iI (σ 6)), .ref ta, .int (iI (σ 7)), .ref pa, .int (iI (σ 9)), .int (iI (σ 10))])), (ta, .inl (cI, 40, .inl (fun j => iI (T j)))), (pa, .inl (cI, 110, .inl (fun j => iI (P j))))]) H := hP
  have hD : va_D (va_A (WMo cI a ta pa th σ T P) sz) ([(a, .inr (8, [.int (iI (0)), .int (iI (σ 0)), .int (iI (σ 1)), .int (iI (σ 2)), .int (iI (σ 3)), .int (iI (σ 4)), .int (iI (σ 5)), .int (iI (σ 6)), .ref ta, .int (iI (σ 7)), .ref pa, .int (iI (σ 9)), .int (iI (σ 10))])), (ta, .inl (cI, 40, .inl (fun j => iI (T j)))), (pa, .inl (cI, 110, .inl (fun j => iI (P j))))]) := hD
  refine lv_iload_n hx hb dX6_day_5 rfl (lv_at hl 1 rfl) ?_
  refine q_callS (fr := 1) (lo := 22) (nL := 4) (Pic := fun _ => True) (As := [.int (iI (y))]) (rest := []) ⟨hx, hb, hml, hown, hts⟩ (c_isYearM l D (ty3 cI cO cL) (y) (by omega)) (va_cwS 1 hts gX6_day_X6_isYear rfl rfl rfl (by decide +kernel) ⟨Nat.le_of_ble_eq_true rfl, Nat.le_of_ble_eq_true rfl⟩) trivial hK rfl hl.1 rfl (Nat.le_of_ble_eq_true rfl) dX6_day_6 (Nat.zero_le _) (Nat.zero_le _) ?_
  refine q_pif_eq (tgt := 38) hx hb dX6_day_9 (by decide) (fun c_1 => ?_) (fun c_1 => ?_)
  · skip
    refine lv_aload_n hx hb dX6_day_38 rfl (lv_at hl 0 rfl) ?_
    refine q_iconst hx hb dX6_day_39 ?_
    have hPc := hP.sub (ws' := [(a, .inr (8, [.int (iI (0)), .int (iI (σ 0)), .int (iI (σ 1)), .int (iI (σ 2)), .int (iI (σ 3)), .int (iI (σ 4)), .int (iI (σ 5)), .int (iI (σ 6)), .ref ta, .int (iI (σ 7)), .ref pa, .int (iI (σ 9)), .int (iI (σ 10))]))]) [0] rfl
    have hDc := hD.sub (ws' := [(a, .inr (8, [.int (iI (0)), .int (iI (σ 0)), .int (iI (σ 1)), .int (iI (σ 2)), .int (iI (σ 3)), .int (iI (σ 4)), .int (iI (σ 5)), .int (iI (σ 6)), .ref ta, .int (iI (σ 7)), .ref pa, .int (iI (σ 9)), .int (iI (σ 10))]))]) [0] (by decide) rfl
    have hFc := va_free (wc := [(a, .inr (8, [.int (iI (0)), .int (iI (σ 0)), .int (iI (σ 1)), .int (iI (σ 2)), .int (iI (σ 3)), .int (iI (σ 4)), .int (iI (σ 5)), .int (iI (σ 6)), .ref ta, .int (iI (σ 7)), .ref pa, .int (iI (σ 9)), .int (iI (σ 10))]))]) hD hS hA [0] rfl
    refine q_callU (fr := 0) (lo := 0) (nL := 4) (As := [.int (iI (1))]) (rest := []) ⟨hx, hb, hml, hown, hts⟩ (u_fail l D _ _ a (0) (1) _ _ _ _ _ _ _ _ _ _ _ _) (cwV 1 hts gX6_day_X6_fail rfl rfl rfl (by decide +kernel) ⟨Nat.le_of_ble_eq_true rfl, Nat.le_of_ble_eq_true rfl⟩) (ob_recv (hP 0 _ rfl) hK rfl) hPc (hDc.weaken (fun _ _ _ _ => trivial)) hFc hS hK rfl hl.1 rfl (Nat.le_of_ble_eq_true rfl) dX6_day_40 (Nat.le_of_ble_eq_true rfl) (Nat.le_of_ble_eq_true rfl) ?_
    intro r H1 locs1 hr1 hP1 hk1 hS1
    have hr2 := hr1 rfl
    subst hr2
    have hP1 := (hP1.resolve_right (fun z => z.1 rfl)).2
    have hP2 : va_P D vwCl ([(a, .inr (8, [.int (iI (1)), .int (iI (σ 0)), .int (iI (σ 1)), .int (iI (σ 2)), .int (iI (σ 3)), .int (iI (σ 4)), .int (iI (σ 5)), .int (iI (σ 6)), .ref ta, .int (iI (σ 7)), .ref pa, .int (iI (σ 9)), .int (iI (σ 10))])), (ta, .inl (cI, 40, .inl (fun j => iI (T j)))), (pa, .inl (cI, 110, .inl (fun j => iI (P j))))]) H1 := va_upd (A0 := fun _ => True) hP hk1 hP1 (by
      intro q hq
      simp only [List.mem_cons, List.not_mem_nil, or_false] at hq
      rcases hq with rfl | rfl | rfl
      · exact Or.inl (List.mem_of_getElem? (i := 0) rfl)
      · refine Or.inr ⟨List.mem_of_getElem? (i := 1) rfl, fun z hz => ?_⟩
        simp only [List.mem_cons, List.not_mem_nil, or_false] at hz
        rcases hz with rfl
        · exact vaD_ne hD (i := 0) (j := 1) rfl rfl (by decide)
      · refine Or.inr ⟨List.mem_of_getElem? (i := 2) rfl, fun z hz => ?_⟩
        simp only [List.mem_cons, List.not_mem_nil, or_false] at hz
        rcases hz with rfl
        · exact vaD_ne hD (i := 0) (j := 2) rfl rfl (by decide))
    have hD2 : va_D (va_A (WMo cI a ta pa th σ T P) sz) ([(a, .inr (8, [.int (iI (1)), .int (iI (σ 0)), .int (iI (σ 1)), .int (iI (σ 2)), .int (iI (σ 3)), .int (iI (σ 4)), .int (iI (σ 5)), .int (iI (σ 6)), .ref ta, .int (iI (σ 7)), .ref pa, .int (iI (σ 9)), .int (iI (σ 10))])), (ta, .inl (cI, 40, .inl (fun j => iI (T j)))), (pa, .inl (cI, 110, .inl (fun j => iI (P j))))]) := vaD_addr hD rfl
    clear hP hD hS hPc hDc hFc hP1 hk1
    have hP := hP2; have hD := hD2; have hS := hS1
    clear hP2 hD2 hS1
    generalize H1 = H at hP hS ⊢
    generalize locs1 = locs at hS ⊢
    have hER : (if (0 ≤ y ∧ y < 1000) ∧ (0 ≤ mo ∧ mo ≤ 11) ∧ (0 ≤ da ∧ da < m_md (σ 0) (σ 1) y mo) then 0 else 1 : Int) = 1 := by (repeat' split) <;> omega
    exact q_uret (ws := []) hx hb hr hlocks hS (Or.inr ⟨by rw [hER]; decide, by rw [hER]; exact hP⟩) (fun h => absurd (hER.symm.trans h) (by decide)) (Nat.le_of_ble_eq_true rfl) (Nat.le_of_ble_eq_true rfl) dX6_day_43
  · skip
    refine lv_iload_n hx hb dX6_day_12 rfl (lv_at hl 2 rfl) ?_
    refine q_iconst hx hb dX6_day_13 ?_
    refine q_bipush hx hb dX6_day_14 (by decide) ?_
    refine q_callS (fr := 0) (lo := 0) (nL := 4) (Pic := fun _ => True) (As := [.int (iI (mo)), .int (iI (0)), .int (iI (11))]) (rest := []) ⟨hx, hb, hml, hown, hts⟩ (c_isIn l D (ty3 cI cO cL) (mo) (0) (11) (by omega) (by omega) (by omega)) (va_cwS 3 hts gX6_day_X6_isIn rfl rfl rfl (by decide +kernel) ⟨Nat.le_of_ble_eq_true rfl, Nat.le_of_ble_eq_true rfl⟩) trivial hK rfl hl.1 rfl (Nat.le_of_ble_eq_true rfl) dX6_day_16 (Nat.zero_le _) (Nat.zero_le _) ?_
    refine q_pif_eq (tgt := 38) hx hb dX6_day_19 (by decide) (fun c_2 => ?_) (fun c_2 => ?_)
    · skip
      refine lv_aload_n hx hb dX6_day_38 rfl (lv_at hl 0 rfl) ?_
      refine q_iconst hx hb dX6_day_39 ?_
      have hPc := hP.sub (ws' := [(a, .inr (8, [.int (iI (0)), .int (iI (σ 0)), .int (iI (σ 1)), .int (iI (σ 2)), .int (iI (σ 3)), .int (iI (σ 4)), .int (iI (σ 5)), .int (iI (σ 6)), .ref ta, .int (iI (σ 7)), .ref pa, .int (iI (σ 9)), .int (iI (σ 10))]))]) [0] rfl
      have hDc := hD.sub (ws' := [(a, .inr (8, [.int (iI (0)), .int (iI (σ 0)), .int (iI (σ 1)), .int (iI (σ 2)), .int (iI (σ 3)), .int (iI (σ 4)), .int (iI (σ 5)), .int (iI (σ 6)), .ref ta, .int (iI (σ 7)), .ref pa, .int (iI (σ 9)), .int (iI (σ 10))]))]) [0] (by decide) rfl
      have hFc := va_free (wc := [(a, .inr (8, [.int (iI (0)), .int (iI (σ 0)), .int (iI (σ 1)), .int (iI (σ 2)), .int (iI (σ 3)), .int (iI (σ 4)), .int (iI (σ 5)), .int (iI (σ 6)), .ref ta, .int (iI (σ 7)), .ref pa, .int (iI (σ 9)), .int (iI (σ 10))]))]) hD hS hA [0] rfl
      refine q_callU (fr := 0) (lo := 0) (nL := 4) (As := [.int (iI (1))]) (rest := []) ⟨hx, hb, hml, hown, hts⟩ (u_fail l D _ _ a (0) (1) _ _ _ _ _ _ _ _ _ _ _ _) (cwV 1 hts gX6_day_X6_fail rfl rfl rfl (by decide +kernel) ⟨Nat.le_of_ble_eq_true rfl, Nat.le_of_ble_eq_true rfl⟩) (ob_recv (hP 0 _ rfl) hK rfl) hPc (hDc.weaken (fun _ _ _ _ => trivial)) hFc hS hK rfl hl.1 rfl (Nat.le_of_ble_eq_true rfl) dX6_day_40 (Nat.le_of_ble_eq_true rfl) (Nat.le_of_ble_eq_true rfl) ?_
      intro r H1 locs1 hr1 hP1 hk1 hS1
      have hr2 := hr1 rfl
      subst hr2
      have hP1 := (hP1.resolve_right (fun z => z.1 rfl)).2
      have hP2 : va_P D vwCl ([(a, .inr (8, [.int (iI (1)), .int (iI (σ 0)), .int (iI (σ 1)), .int (iI (σ 2)), .int (iI (σ 3)), .int (iI (σ 4)), .int (iI (σ 5)), .int (iI (σ 6)), .ref ta, .int (iI (σ 7)), .ref pa, .int (iI (σ 9)), .int (iI (σ 10))])), (ta, .inl (cI, 40, .inl (fun j => iI (T j)))), (pa, .inl (cI, 110, .inl (fun j => iI (P j))))]) H1 := va_upd (A0 := fun _ => True) hP hk1 hP1 (by
        intro q hq
        simp only [List.mem_cons, List.not_mem_nil, or_false] at hq
        rcases hq with rfl | rfl | rfl
        · exact Or.inl (List.mem_of_getElem? (i := 0) rfl)
        · refine Or.inr ⟨List.mem_of_getElem? (i := 1) rfl, fun z hz => ?_⟩
          simp only [List.mem_cons, List.not_mem_nil, or_false] at hz
          rcases hz with rfl
          · exact vaD_ne hD (i := 0) (j := 1) rfl rfl (by decide)
        · refine Or.inr ⟨List.mem_of_getElem? (i := 2) rfl, fun z hz => ?_⟩
          simp only [List.mem_cons, List.not_mem_nil, or_false] at hz
          rcases hz with rfl
          · exact vaD_ne hD (i := 0) (j := 2) rfl rfl (by decide))
      have hD2 : va_D (va_A (WMo cI a ta pa th σ T P) sz) ([(a, .inr (8, [.int (iI (1)), .int (iI (σ 0)), .int (iI (σ 1)), .int (iI (σ 2)), .int (iI (σ 3)), .int (iI (σ 4)), .int (iI (σ 5)), .int (iI (σ 6)), .ref ta, .int (iI (σ 7)), .ref pa, .int (iI (σ 9)), .int (iI (σ 10))])), (ta, .inl (cI, 40, .inl (fun j => iI (T j)))), (pa, .inl (cI, 110, .inl (fun j => iI (P j))))]) := vaD_addr hD rfl
      clear hP hD hS hPc hDc hFc hP1 hk1
      have hP := hP2; have hD := hD2; have hS := hS1
      clear hP2 hD2 hS1
      generalize H1 = H at hP hS ⊢
      generalize locs1 = locs at hS ⊢
      have hER : (if (0 ≤ y ∧ y < 1000) ∧ (0 ≤ mo ∧ mo ≤ 11) ∧ (0 ≤ da ∧ da < m_md (σ 0) (σ 1) y mo) then 0 else 1 : Int) = 1 := by (repeat' split) <;> omega
      exact q_uret (ws := []) hx hb hr hlocks hS (Or.inr ⟨by rw [hER]; decide, by rw [hER]; exact hP⟩) (fun h => absurd (hER.symm.trans h) (by decide)) (Nat.le_of_ble_eq_true rfl) (Nat.le_of_ble_eq_true rfl) dX6_day_43
    · skip
      refine lv_iload_n hx hb dX6_day_22 rfl (lv_at hl 3 rfl) ?_
      refine q_iconst hx hb dX6_day_23 ?_
      refine lv_aload_n hx hb dX6_day_24 rfl (lv_at hl 0 rfl) ?_
      refine lv_iload_n hx hb dX6_day_25 rfl (lv_at hl 1 rfl) ?_
      refine lv_iload_n hx hb dX6_day_26 rfl (lv_at hl 2 rfl) ?_
      refine q_callV (fr := 1) (lo := 21) (nL := 4) (Pic := PicM D cI a ta pa (0) σ T (P)) (As := [.int (iI (y)), .int (iI (mo))]) (rest := [.int (iI (0)), .int (iI (da))]) ⟨hx, hb, hml, hown, hts⟩ (c_monthDays l D cI cO cL a ta pa (0) σ T (P) hW hS0 (y) (mo) (by omega) (by omega)) (cwV 2 hts gX6_day_X6_monthDays rfl rfl rfl (by decide +kernel) ⟨Nat.le_of_ble_eq_true rfl, Nat.le_of_ble_eq_true rfl⟩) (ob_recv (hP 0 _ rfl) hK rfl) hP hK rfl hl.1 rfl (Nat.le_of_ble_eq_true rfl) dX6_day_27 (Nat.zero_le _) (Nat.zero_le _) ?_
      have hmd27 := m_md_in (σ 0) (σ 1) (y) (mo)
      refine q_iconst hx hb dX6_day_30 ?_
      refine q_isub hx hb dX6_day_31 ?_
      refine q_callS (fr := 0) (lo := 0) (nL := 4) (Pic := fun _ => True) (As := [.int (iI (da)), .int (iI (0)), .int (iI ((m_md (σ 0) (σ 1) (y) (mo)) - (1)))]) (rest := []) ⟨hx, hb, hml, hown, hts⟩ (c_isIn l D (ty3 cI cO cL) (da) (0) ((m_md (σ 0) (σ 1) (y) (mo)) - (1)) (by omega) (by omega) (by omega)) (va_cwS 3 hts gX6_day_X6_isIn rfl rfl rfl (by decide +kernel) ⟨Nat.le_of_ble_eq_true rfl, Nat.le_of_ble_eq_true rfl⟩) trivial hK rfl hl.1 rfl (Nat.le_of_ble_eq_true rfl) dX6_day_32 (Nat.zero_le _) (Nat.zero_le _) ?_
      refine q_pif_ne (tgt := 44) hx hb dX6_day_35 (by decide) (fun c_3 => ?_) (fun c_3 => ?_)
      · skip
        refine lv_aload_n hx hb dX6_day_44 rfl (lv_at hl 0 rfl) ?_
        refine lv_iload_n hx hb dX6_day_45 rfl (lv_at hl 1 rfl) ?_
        refine lv_iload_n hx hb dX6_day_46 rfl (lv_at hl 2 rfl) ?_
        refine lv_iload_n hx hb dX6_day_47 rfl (lv_at hl 3 rfl) ?_
        refine q_callV (fr := 2) (lo := 44) (nL := 4) (Pic := PicM D cI a ta pa (0) σ T (P)) (As := [.int (iI (y)), .int (iI (mo)), .int (iI (da))]) (rest := []) ⟨hx, hb, hml, hown, hts⟩ (c_dayOf l D cI cO cL a ta pa (0) σ T (P) hW hS0 (y) (mo) (da) (by omega) (by omega) (by omega)) (cwV 3 hts gX6_day_X6_dayOf rfl rfl rfl (by decide +kernel) ⟨Nat.le_of_ble_eq_true rfl, Nat.le_of_ble_eq_true rfl⟩) (ob_recv (hP 0 _ rfl) hK rfl) hP hK rfl hl.1 rfl (Nat.le_of_ble_eq_true rfl) dX6_day_48 (Nat.zero_le _) (Nat.zero_le _) ?_
        have hd048 : 0 ≤ m_d0 (σ 0) (σ 1) (mo) (da) (y) ∧ m_d0 (σ 0) (σ 1) (mo) (da) (y) ≤ 366100 := by
          have hfd := m_fd_le (cy := σ 0) (lq := σ 1) (y := (y)) w0.1 w1 (by omega)
          unfold m_d0
          omega
        have hER : (if (0 ≤ y ∧ y < 1000) ∧ (0 ≤ mo ∧ mo ≤ 11) ∧ (0 ≤ da ∧ da < m_md (σ 0) (σ 1) y mo) then 0 else 1 : Int) = 0 := by (repeat' split) <;> omega
        exact q_uret (ws := []) hx hb hr hlocks hS (Or.inl ⟨hER, hP⟩) (fun _ => rfl) (Nat.le_of_ble_eq_true rfl) (Nat.le_of_ble_eq_true rfl) dX6_day_51
      · skip
        refine lv_aload_n hx hb dX6_day_38 rfl (lv_at hl 0 rfl) ?_
        refine q_iconst hx hb dX6_day_39 ?_
        have hPc := hP.sub (ws' := [(a, .inr (8, [.int (iI (0)), .int (iI (σ 0)), .int (iI (σ 1)), .int (iI (σ 2)), .int (iI (σ 3)), .int (iI (σ 4)), .int (iI (σ 5)), .int (iI (σ 6)), .ref ta, .int (iI (σ 7)), .ref pa, .int (iI (σ 9)), .int (iI (σ 10))]))]) [0] rfl
        have hDc := hD.sub (ws' := [(a, .inr (8, [.int (iI (0)), .int (iI (σ 0)), .int (iI (σ 1)), .int (iI (σ 2)), .int (iI (σ 3)), .int (iI (σ 4)), .int (iI (σ 5)), .int (iI (σ 6)), .ref ta, .int (iI (σ 7)), .ref pa, .int (iI (σ 9)), .int (iI (σ 10))]))]) [0] (by decide) rfl
        have hFc := va_free (wc := [(a, .inr (8, [.int (iI (0)), .int (iI (σ 0)), .int (iI (σ 1)), .int (iI (σ 2)), .int (iI (σ 3)), .int (iI (σ 4)), .int (iI (σ 5)), .int (iI (σ 6)), .ref ta, .int (iI (σ 7)), .ref pa, .int (iI (σ 9)), .int (iI (σ 10))]))]) hD hS hA [0] rfl
        refine q_callU (fr := 0) (lo := 0) (nL := 4) (As := [.int (iI (1))]) (rest := []) ⟨hx, hb, hml, hown, hts⟩ (u_fail l D _ _ a (0) (1) _ _ _ _ _ _ _ _ _ _ _ _) (cwV 1 hts gX6_day_X6_fail rfl rfl rfl (by decide +kernel) ⟨Nat.le_of_ble_eq_true rfl, Nat.le_of_ble_eq_true rfl⟩) (ob_recv (hP 0 _ rfl) hK rfl) hPc (hDc.weaken (fun _ _ _ _ => trivial)) hFc hS hK rfl hl.1 rfl (Nat.le_of_ble_eq_true rfl) dX6_day_40 (Nat.le_of_ble_eq_true rfl) (Nat.le_of_ble_eq_true rfl) ?_
        intro r H1 locs1 hr1 hP1 hk1 hS1
        have hr2 := hr1 rfl
        subst hr2
        have hP1 := (hP1.resolve_right (fun z => z.1 rfl)).2
        have hP2 : va_P D vwCl ([(a, .inr (8, [.int (iI (1)), .int (iI (σ 0)), .int (iI (σ 1)), .int (iI (σ 2)), .int (iI (σ 3)), .int (iI (σ 4)), .int (iI (σ 5)), .int (iI (σ 6)), .ref ta, .int (iI (σ 7)), .ref pa, .int (iI (σ 9)), .int (iI (σ 10))])), (ta, .inl (cI, 40, .inl (fun j => iI (T j)))), (pa, .inl (cI, 110, .inl (fun j => iI (P j))))]) H1 := va_upd (A0 := fun _ => True) hP hk1 hP1 (by
          intro q hq
          simp only [List.mem_cons, List.not_mem_nil, or_false] at hq
          rcases hq with rfl | rfl | rfl
          · exact Or.inl (List.mem_of_getElem? (i := 0) rfl)
          · refine Or.inr ⟨List.mem_of_getElem? (i := 1) rfl, fun z hz => ?_⟩
            simp only [List.mem_cons, List.not_mem_nil, or_false] at hz
            rcases hz with rfl
            · exact vaD_ne hD (i := 0) (j := 1) rfl rfl (by decide)
          · refine Or.inr ⟨List.mem_of_getElem? (i := 2) rfl, fun z hz => ?_⟩
            simp only [List.mem_cons, List.not_mem_nil, or_false] at hz
            rcases hz with rfl
            · exact vaD_ne hD (i := 0) (j := 2) rfl rfl (by decide))
        have hD2 : va_D (va_A (WMo cI a ta pa th σ T P) sz) ([(a, .inr (8, [.int (iI (1)), .int (iI (σ 0)), .int (iI (σ 1)), .int (iI (σ 2)), .int (iI (σ 3)), .int (iI (σ 4)), .int (iI (σ 5)), .int (iI (σ 6)), .ref ta, .int (iI (σ 7)), .ref pa, .int (iI (σ 9)), .int (iI (σ 10))])), (ta, .inl (cI, 40, .inl (fun j => iI (T j)))), (pa, .inl (cI, 110, .inl (fun j => iI (P j))))]) := vaD_addr hD rfl
        clear hP hD hS hPc hDc hFc hP1 hk1
        have hP := hP2; have hD := hD2; have hS := hS1
        clear hP2 hD2 hS1
        generalize H1 = H at hP hS ⊢
        generalize locs1 = locs at hS ⊢
        have hER : (if (0 ≤ y ∧ y < 1000) ∧ (0 ≤ mo ∧ mo ≤ 11) ∧ (0 ≤ da ∧ da < m_md (σ 0) (σ 1) y mo) then 0 else 1 : Int) = 1 := by (repeat' split) <;> omega
        exact q_uret (ws := []) hx hb hr hlocks hS (Or.inr ⟨by rw [hER]; decide, by rw [hER]; exact hP⟩) (fun h => absurd (hER.symm.trans h) (by decide)) (Nat.le_of_ble_eq_true rfl) (Nat.le_of_ble_eq_true rfl) dX6_day_43
set_option maxHeartbeats 4000000 in
set_option maxRecDepth 100000 in
theorem u_date (l : Launch) (D : va_G) (sz : Nat) (cI cO cL : ClassId) (a ta pa : Nat) (th : Int) (σ T P : Nat → Int) (hW : WF σ T) (hS0 : WS σ P) (d x : Int) (hdr : -2147483648 ≤ d ∧ d < 2147483648) (hxr : -2147483648 ≤ x ∧ x < 2147483648) : MU l yX6_date wsX6_date 4 93 0 0 D (ty3 cI cO cL) sz (WMo cI a ta pa th σ T P) [.ref a, .int (iI (d)), .int (iI (x))] (if 0 ≤ d ∧ d < m_fd (σ 0) (σ 1) 1000 then (if 0 ≤ x ∧ x ≤ 4 then 0 else 2) else 1) (m_dated σ d x) (WMo cI a ta pa 0 (σ) (T) (P)) (WMo cI a ta pa (if 0 ≤ d ∧ d < m_fd (σ 0) (σ 1) 1000 then (if 0 ≤ x ∧ x ≤ 4 then 0 else 2) else 1) σ T P) := by
  refine MU_of (cc := cX6_date) (maxL := 3) (ret := (some .int)) (by decide) rfl (Nat.le_of_ble_eq_true rfl) ?_
  intro p e s m args below meth c ls hx hb hr hlocks hml hown hts hsz hP hK hD hS hA hl
  have hl : lv_has ls 3 [(0, .ref a), (1, .int (iI (d))), (2, .int (iI (x)))] := hl
  have hin_X6 : ∀ w ∈ u_ws RX6 TX6 13, w ∈ wsX6_date := (fun w h => List.mem_cons_of_mem _ (List.mem_append_right _ h))
  have hP : va_P D vwCl ([(a, .inr (8, [.int (iI (th)), .int (iI (σ 0)), .int (iI (σ 1)), .int (iI (σ 2)), .int (iI (σ 3)), .int (iI (σ 4)), .int (iI (σ 5)), .int (iI (σ 6)), .ref ta, .int (iI (σ 7)), .ref pa, .int (iI (σ 9)), .int (iI (σ 10))])), (ta, .inl (cI, 40, .inl (fun j => iI (T j)))), (pa, .inl (cI, 110, .inl (fun j => iI (P j))))]) s.heap := hP
  have hD : va_D (va_A (WMo cI a ta pa th σ T P) sz) ([(a, .inr (8, [.int (iI (th)), .int (iI (σ 0)), .int (iI (σ 1)), .int (iI (σ 2)), .int (iI (σ 3)), .int (iI (σ 4)), .int (iI (σ 5)), .int (iI (σ 6)), .ref ta, .int (iI (σ 7)), .ref pa, .int (iI (σ 9)), .int (iI (σ 10))])), (ta, .inl (cI, 40, .inl (fun j => iI (T j)))), (pa, .inl (cI, 110, .inl (fun j => iI (P j))))]) := hD
  obtain ⟨w0, w1, w2, w3, w4, w5, w6, w7, w8⟩ := id hW
  have h1000 := m_fd_le (cy := σ 0) (lq := σ 1) (y := 1000) w0.1 w1 (by omega)
  refine lv_aload_n hx hb dX6_date_0 rfl (lv_at hl 0 rfl) ?_
  refine q_iconst hx hb dX6_date_1 ?_
  refine va_put (D := D) (ci := 8) (v := .int (iI (0))) (ty := .int) (C := RX6) (T := TX6) (N := 13) hx hb hts hin_X6 tyX6 tyX6_ok nmX6 hown hK hP hD hS 0 rfl rfl 0 (by decide) (hts (.fieldLink RX6 30 "AlmanacHouseModel" "thrown" "I") (List.mem_of_getElem? (i := 1) rfl)) (fun _ h9 => h9) rfl (by decide +kernel) rfl rfl (Nat.le_of_ble_eq_true rfl) dX6_date_2 (fun H locs hP hD hS => ?_)
  have hP : va_P D vwCl ([(a, .inr (8, [.int (iI (0)), .int (iI (σ 0)), .int (iI (σ 1)), .int (iI (σ 2)), .int (iI (σ 3)), .int (iI (σ 4)), .int (iI (σ 5)), .int (iI (σ 6)), .ref ta, .int (iI (σ 7)), .ref pa, .int (iI (σ 9)), .int (iI (σ 10))])), (ta, .inl (cI, 40, .inl (fun j => iI (T j)))), (pa, .inl (cI, 110, .inl (fun j => iI (P j))))]) H := hP
  have hD : va_D (va_A (WMo cI a ta pa th σ T P) sz) ([(a, .inr (8, [.int (iI (0)), .int (iI (σ 0)), .int (iI (σ 1)), .int (iI (σ 2)), .int (iI (σ 3)), .int (iI (σ 4)), .int (iI (σ 5)), .int (iI (σ 6)), .ref ta, .int (iI (σ 7)), .ref pa, .int (iI (σ 9)), .int (iI (σ 10))])), (ta, .inl (cI, 40, .inl (fun j => iI (T j)))), (pa, .inl (cI, 110, .inl (fun j => iI (P j))))]) := hD
  refine lv_aload_n hx hb dX6_date_5 rfl (lv_at hl 0 rfl) ?_
  refine lv_iload_n hx hb dX6_date_6 rfl (lv_at hl 1 rfl) ?_
  refine q_callV (fr := 2) (lo := 44) (nL := 3) (Pic := PicM D cI a ta pa (0) σ T (P)) (As := [.int (iI (d))]) (rest := []) ⟨hx, hb, hml, hown, hts⟩ (c_isDayM l D cI cO cL a ta pa (0) σ T (P) hW hS0 (d) (by omega)) (cwV 1 hts gX6_date_X6_isDay rfl rfl rfl (by decide +kernel) ⟨Nat.le_of_ble_eq_true rfl, Nat.le_of_ble_eq_true rfl⟩) (ob_recv (hP 0 _ rfl) hK rfl) hP hK rfl hl.1 rfl (Nat.le_of_ble_eq_true rfl) dX6_date_7 (Nat.zero_le _) (Nat.zero_le _) ?_
  refine q_pif_ne (tgt := 19) hx hb dX6_date_10 (by decide) (fun c_1 => ?_) (fun c_1 => ?_)
  · skip
    refine lv_iload_n hx hb dX6_date_19 rfl (lv_at hl 2 rfl) ?_
    refine q_iconst hx hb dX6_date_20 ?_
    refine q_iconst hx hb dX6_date_21 ?_
    refine q_callS (fr := 0) (lo := 0) (nL := 3) (Pic := fun _ => True) (As := [.int (iI (x)), .int (iI (0)), .int (iI (4))]) (rest := []) ⟨hx, hb, hml, hown, hts⟩ (c_isIn l D (ty3 cI cO cL) (x) (0) (4) (by omega) (by omega) (by omega)) (va_cwS 3 hts gX6_date_X6_isIn rfl rfl rfl (by decide +kernel) ⟨Nat.le_of_ble_eq_true rfl, Nat.le_of_ble_eq_true rfl⟩) trivial hK rfl hl.1 rfl (Nat.le_of_ble_eq_true rfl) dX6_date_22 (Nat.zero_le _) (Nat.zero_le _) ?_
    refine q_pif_eq (tgt := 37) hx hb dX6_date_25 (by decide) (fun c_2 => ?_) (fun c_2 => ?_)
    · skip
      refine lv_aload_n hx hb dX6_date_37 rfl (lv_at hl 0 rfl) ?_
      refine q_iconst hx hb dX6_date_38 ?_
      have hPc := hP.sub (ws' := [(a, .inr (8, [.int (iI (0)), .int (iI (σ 0)), .int (iI (σ 1)), .int (iI (σ 2)), .int (iI (σ 3)), .int (iI (σ 4)), .int (iI (σ 5)), .int (iI (σ 6)), .ref ta, .int (iI (σ 7)), .ref pa, .int (iI (σ 9)), .int (iI (σ 10))]))]) [0] rfl
      have hDc := hD.sub (ws' := [(a, .inr (8, [.int (iI (0)), .int (iI (σ 0)), .int (iI (σ 1)), .int (iI (σ 2)), .int (iI (σ 3)), .int (iI (σ 4)), .int (iI (σ 5)), .int (iI (σ 6)), .ref ta, .int (iI (σ 7)), .ref pa, .int (iI (σ 9)), .int (iI (σ 10))]))]) [0] (by decide) rfl
      have hFc := va_free (wc := [(a, .inr (8, [.int (iI (0)), .int (iI (σ 0)), .int (iI (σ 1)), .int (iI (σ 2)), .int (iI (σ 3)), .int (iI (σ 4)), .int (iI (σ 5)), .int (iI (σ 6)), .ref ta, .int (iI (σ 7)), .ref pa, .int (iI (σ 9)), .int (iI (σ 10))]))]) hD hS hA [0] rfl
      refine q_callU (fr := 0) (lo := 0) (nL := 3) (As := [.int (iI (2))]) (rest := []) ⟨hx, hb, hml, hown, hts⟩ (u_fail l D _ _ a (0) (2) _ _ _ _ _ _ _ _ _ _ _ _) (cwV 1 hts gX6_date_X6_fail rfl rfl rfl (by decide +kernel) ⟨Nat.le_of_ble_eq_true rfl, Nat.le_of_ble_eq_true rfl⟩) (ob_recv (hP 0 _ rfl) hK rfl) hPc (hDc.weaken (fun _ _ _ _ => trivial)) hFc hS hK rfl hl.1 rfl (Nat.le_of_ble_eq_true rfl) dX6_date_39 (Nat.le_of_ble_eq_true rfl) (Nat.le_of_ble_eq_true rfl) ?_
      intro r H1 locs1 hr1 hP1 hk1 hS1
      have hr2 := hr1 rfl
      subst hr2
      have hP1 := (hP1.resolve_right (fun z => z.1 rfl)).2
      have hP2 : va_P D vwCl ([(a, .inr (8, [.int (iI (2)), .int (iI (σ 0)), .int (iI (σ 1)), .int (iI (σ 2)), .int (iI (σ 3)), .int (iI (σ 4)), .int (iI (σ 5)), .int (iI (σ 6)), .ref ta, .int (iI (σ 7)), .ref pa, .int (iI (σ 9)), .int (iI (σ 10))])), (ta, .inl (cI, 40, .inl (fun j => iI (T j)))), (pa, .inl (cI, 110, .inl (fun j => iI (P j))))]) H1 := va_upd (A0 := fun _ => True) hP hk1 hP1 (by
        intro q hq
        simp only [List.mem_cons, List.not_mem_nil, or_false] at hq
        rcases hq with rfl | rfl | rfl
        · exact Or.inl (List.mem_of_getElem? (i := 0) rfl)
        · refine Or.inr ⟨List.mem_of_getElem? (i := 1) rfl, fun z hz => ?_⟩
          simp only [List.mem_cons, List.not_mem_nil, or_false] at hz
          rcases hz with rfl
          · exact vaD_ne hD (i := 0) (j := 1) rfl rfl (by decide)
        · refine Or.inr ⟨List.mem_of_getElem? (i := 2) rfl, fun z hz => ?_⟩
          simp only [List.mem_cons, List.not_mem_nil, or_false] at hz
          rcases hz with rfl
          · exact vaD_ne hD (i := 0) (j := 2) rfl rfl (by decide))
      have hD2 : va_D (va_A (WMo cI a ta pa th σ T P) sz) ([(a, .inr (8, [.int (iI (2)), .int (iI (σ 0)), .int (iI (σ 1)), .int (iI (σ 2)), .int (iI (σ 3)), .int (iI (σ 4)), .int (iI (σ 5)), .int (iI (σ 6)), .ref ta, .int (iI (σ 7)), .ref pa, .int (iI (σ 9)), .int (iI (σ 10))])), (ta, .inl (cI, 40, .inl (fun j => iI (T j)))), (pa, .inl (cI, 110, .inl (fun j => iI (P j))))]) := vaD_addr hD rfl
      clear hP hD hS hPc hDc hFc hP1 hk1
      have hP := hP2; have hD := hD2; have hS := hS1
      clear hP2 hD2 hS1
      generalize H1 = H at hP hS ⊢
      generalize locs1 = locs at hS ⊢
      have hER : (if 0 ≤ d ∧ d < m_fd (σ 0) (σ 1) 1000 then (if 0 ≤ x ∧ x ≤ 4 then 0 else 2) else 1 : Int) = 2 := by (repeat' split) <;> omega
      exact q_uret (ws := []) hx hb hr hlocks hS (Or.inr ⟨by rw [hER]; decide, by rw [hER]; exact hP⟩) (fun h => absurd (hER.symm.trans h) (by decide)) (Nat.le_of_ble_eq_true rfl) (Nat.le_of_ble_eq_true rfl) dX6_date_42
    · skip
      refine lv_aload_n hx hb dX6_date_28 rfl (lv_at hl 0 rfl) ?_
      refine lv_iload_n hx hb dX6_date_29 rfl (lv_at hl 1 rfl) ?_
      refine lv_iload_n hx hb dX6_date_30 rfl (lv_at hl 2 rfl) ?_
      refine q_callV (fr := 3) (lo := 70) (nL := 3) (Pic := PicM D cI a ta pa (0) σ T (P)) (As := [.int (iI (d)), .int (iI (x))]) (rest := []) ⟨hx, hb, hml, hown, hts⟩ (c_dated l D cI cO cL a ta pa (0) σ T (P) hW hS0 (d) (x) (by omega) (by omega)) (cwV 2 hts gX6_date_X6_dated rfl rfl rfl (by decide +kernel) ⟨Nat.le_of_ble_eq_true rfl, Nat.le_of_ble_eq_true rfl⟩) (ob_recv (hP 0 _ rfl) hK rfl) hP hK rfl hl.1 rfl (Nat.le_of_ble_eq_true rfl) dX6_date_31 (Nat.zero_le _) (Nat.zero_le _) ?_
      refine lv_goto (tgt := 42) hx hb dX6_date_34 (by decide) ?_
      have hER : (if 0 ≤ d ∧ d < m_fd (σ 0) (σ 1) 1000 then (if 0 ≤ x ∧ x ≤ 4 then 0 else 2) else 1 : Int) = 0 := by (repeat' split) <;> omega
      exact q_uret (ws := []) hx hb hr hlocks hS (Or.inl ⟨hER, hP⟩) (fun _ => rfl) (Nat.le_of_ble_eq_true rfl) (Nat.le_of_ble_eq_true rfl) dX6_date_42
  · skip
    refine lv_aload_n hx hb dX6_date_13 rfl (lv_at hl 0 rfl) ?_
    refine q_iconst hx hb dX6_date_14 ?_
    have hPc := hP.sub (ws' := [(a, .inr (8, [.int (iI (0)), .int (iI (σ 0)), .int (iI (σ 1)), .int (iI (σ 2)), .int (iI (σ 3)), .int (iI (σ 4)), .int (iI (σ 5)), .int (iI (σ 6)), .ref ta, .int (iI (σ 7)), .ref pa, .int (iI (σ 9)), .int (iI (σ 10))]))]) [0] rfl
    have hDc := hD.sub (ws' := [(a, .inr (8, [.int (iI (0)), .int (iI (σ 0)), .int (iI (σ 1)), .int (iI (σ 2)), .int (iI (σ 3)), .int (iI (σ 4)), .int (iI (σ 5)), .int (iI (σ 6)), .ref ta, .int (iI (σ 7)), .ref pa, .int (iI (σ 9)), .int (iI (σ 10))]))]) [0] (by decide) rfl
    have hFc := va_free (wc := [(a, .inr (8, [.int (iI (0)), .int (iI (σ 0)), .int (iI (σ 1)), .int (iI (σ 2)), .int (iI (σ 3)), .int (iI (σ 4)), .int (iI (σ 5)), .int (iI (σ 6)), .ref ta, .int (iI (σ 7)), .ref pa, .int (iI (σ 9)), .int (iI (σ 10))]))]) hD hS hA [0] rfl
    refine q_callU (fr := 0) (lo := 0) (nL := 3) (As := [.int (iI (1))]) (rest := []) ⟨hx, hb, hml, hown, hts⟩ (u_fail l D _ _ a (0) (1) _ _ _ _ _ _ _ _ _ _ _ _) (cwV 1 hts gX6_date_X6_fail rfl rfl rfl (by decide +kernel) ⟨Nat.le_of_ble_eq_true rfl, Nat.le_of_ble_eq_true rfl⟩) (ob_recv (hP 0 _ rfl) hK rfl) hPc (hDc.weaken (fun _ _ _ _ => trivial)) hFc hS hK rfl hl.1 rfl (Nat.le_of_ble_eq_true rfl) dX6_date_15 (Nat.le_of_ble_eq_true rfl) (Nat.le_of_ble_eq_true rfl) ?_
    intro r H1 locs1 hr1 hP1 hk1 hS1
    have hr2 := hr1 rfl
    subst hr2
    have hP1 := (hP1.resolve_right (fun z => z.1 rfl)).2
    have hP2 : va_P D vwCl ([(a, .inr (8, [.int (iI (1)), .int (iI (σ 0)), .int (iI (σ 1)), .int (iI (σ 2)), .int (iI (σ 3)), .int (iI (σ 4)), .int (iI (σ 5)), .int (iI (σ 6)), .ref ta, .int (iI (σ 7)), .ref pa, .int (iI (σ 9)), .int (iI (σ 10))])), (ta, .inl (cI, 40, .inl (fun j => iI (T j)))), (pa, .inl (cI, 110, .inl (fun j => iI (P j))))]) H1 := va_upd (A0 := fun _ => True) hP hk1 hP1 (by
      intro q hq
      simp only [List.mem_cons, List.not_mem_nil, or_false] at hq
      rcases hq with rfl | rfl | rfl
      · exact Or.inl (List.mem_of_getElem? (i := 0) rfl)
      · refine Or.inr ⟨List.mem_of_getElem? (i := 1) rfl, fun z hz => ?_⟩
        simp only [List.mem_cons, List.not_mem_nil, or_false] at hz
        rcases hz with rfl
        · exact vaD_ne hD (i := 0) (j := 1) rfl rfl (by decide)
      · refine Or.inr ⟨List.mem_of_getElem? (i := 2) rfl, fun z hz => ?_⟩
        simp only [List.mem_cons, List.not_mem_nil, or_false] at hz
        rcases hz with rfl
        · exact vaD_ne hD (i := 0) (j := 2) rfl rfl (by decide))
    have hD2 : va_D (va_A (WMo cI a ta pa th σ T P) sz) ([(a, .inr (8, [.int (iI (1)), .int (iI (σ 0)), .int (iI (σ 1)), .int (iI (σ 2)), .int (iI (σ 3)), .int (iI (σ 4)), .int (iI (σ 5)), .int (iI (σ 6)), .ref ta, .int (iI (σ 7)), .ref pa, .int (iI (σ 9)), .int (iI (σ 10))])), (ta, .inl (cI, 40, .inl (fun j => iI (T j)))), (pa, .inl (cI, 110, .inl (fun j => iI (P j))))]) := vaD_addr hD rfl
    clear hP hD hS hPc hDc hFc hP1 hk1
    have hP := hP2; have hD := hD2; have hS := hS1
    clear hP2 hD2 hS1
    generalize H1 = H at hP hS ⊢
    generalize locs1 = locs at hS ⊢
    have hER : (if 0 ≤ d ∧ d < m_fd (σ 0) (σ 1) 1000 then (if 0 ≤ x ∧ x ≤ 4 then 0 else 2) else 1 : Int) = 1 := by (repeat' split) <;> omega
    exact q_uret (ws := []) hx hb hr hlocks hS (Or.inr ⟨by rw [hER]; decide, by rw [hER]; exact hP⟩) (fun h => absurd (hER.symm.trans h) (by decide)) (Nat.le_of_ble_eq_true rfl) (Nat.le_of_ble_eq_true rfl) dX6_date_18
set_option maxHeartbeats 4000000 in
set_option maxRecDepth 100000 in
theorem u_moon (l : Launch) (D : va_G) (sz : Nat) (cI cO cL : ClassId) (a ta pa : Nat) (th : Int) (σ T P : Nat → Int) (hW : WF σ T) (hS0 : WS σ P) (k b : Int) (hkr : -2147483648 ≤ k ∧ k < 2147483648) (hb01 : b = 0 ∨ b = 1) : MU l yX6_moon wsX6_moon 2 44 0 0 D (ty3 cI cO cL) sz (WMo cI a ta pa th σ T P) [.ref a, .int (iI (k)), .int (iI (b))] (if 0 ≤ k ∧ k ≤ 10000 then 0 else 1) (m_tm (σ 2) (σ 3) k b / 1000) (WMo cI a ta pa 0 (σ) (T) (P)) (WMo cI a ta pa (if 0 ≤ k ∧ k ≤ 10000 then 0 else 1) σ T P) := by
  refine MU_of (cc := cX6_moon) (maxL := 3) (ret := (some .int)) (by decide) rfl (Nat.le_of_ble_eq_true rfl) ?_
  intro p e s m args below meth c ls hx hb hr hlocks hml hown hts hsz hP hK hD hS hA hl
  have hl : lv_has ls 3 [(0, .ref a), (1, .int (iI (k))), (2, .int (iI (b)))] := hl
  have hin_X6 : ∀ w ∈ u_ws RX6 TX6 13, w ∈ wsX6_moon := (fun w h => List.mem_cons_of_mem _ (List.mem_append_right _ h))
  have hP : va_P D vwCl ([(a, .inr (8, [.int (iI (th)), .int (iI (σ 0)), .int (iI (σ 1)), .int (iI (σ 2)), .int (iI (σ 3)), .int (iI (σ 4)), .int (iI (σ 5)), .int (iI (σ 6)), .ref ta, .int (iI (σ 7)), .ref pa, .int (iI (σ 9)), .int (iI (σ 10))])), (ta, .inl (cI, 40, .inl (fun j => iI (T j)))), (pa, .inl (cI, 110, .inl (fun j => iI (P j))))]) s.heap := hP
  have hD : va_D (va_A (WMo cI a ta pa th σ T P) sz) ([(a, .inr (8, [.int (iI (th)), .int (iI (σ 0)), .int (iI (σ 1)), .int (iI (σ 2)), .int (iI (σ 3)), .int (iI (σ 4)), .int (iI (σ 5)), .int (iI (σ 6)), .ref ta, .int (iI (σ 7)), .ref pa, .int (iI (σ 9)), .int (iI (σ 10))])), (ta, .inl (cI, 40, .inl (fun j => iI (T j)))), (pa, .inl (cI, 110, .inl (fun j => iI (P j))))]) := hD
  obtain ⟨w0, w1, w2, w3, w4, w5, w6, w7, w8⟩ := id hW
  refine lv_aload_n hx hb dX6_moon_0 rfl (lv_at hl 0 rfl) ?_
  refine q_iconst hx hb dX6_moon_1 ?_
  refine va_put (D := D) (ci := 8) (v := .int (iI (0))) (ty := .int) (C := RX6) (T := TX6) (N := 13) hx hb hts hin_X6 tyX6 tyX6_ok nmX6 hown hK hP hD hS 0 rfl rfl 0 (by decide) (hts (.fieldLink RX6 30 "AlmanacHouseModel" "thrown" "I") (List.mem_of_getElem? (i := 1) rfl)) (fun _ h9 => h9) rfl (by decide +kernel) rfl rfl (Nat.le_of_ble_eq_true rfl) dX6_moon_2 (fun H locs hP hD hS => ?_)
  have hP : va_P D vwCl ([(a, .inr (8, [.int (iI (0)), .int (iI (σ 0)), .int (iI (σ 1)), .int (iI (σ 2)), .int (iI (σ 3)), .int (iI (σ 4)), .int (iI (σ 5)), .int (iI (σ 6)), .ref ta, .int (iI (σ 7)), .ref pa, .int (iI (σ 9)), .int (iI (σ 10))])), (ta, .inl (cI, 40, .inl (fun j => iI (T j)))), (pa, .inl (cI, 110, .inl (fun j => iI (P j))))]) H := hP
  have hD : va_D (va_A (WMo cI a ta pa th σ T P) sz) ([(a, .inr (8, [.int (iI (0)), .int (iI (σ 0)), .int (iI (σ 1)), .int (iI (σ 2)), .int (iI (σ 3)), .int (iI (σ 4)), .int (iI (σ 5)), .int (iI (σ 6)), .ref ta, .int (iI (σ 7)), .ref pa, .int (iI (σ 9)), .int (iI (σ 10))])), (ta, .inl (cI, 40, .inl (fun j => iI (T j)))), (pa, .inl (cI, 110, .inl (fun j => iI (P j))))]) := hD
  refine lv_iload_n hx hb dX6_moon_5 rfl (lv_at hl 1 rfl) ?_
  refine q_iconst hx hb dX6_moon_6 ?_
  refine q_sipush hx hb dX6_moon_7 (by decide) ?_
  refine q_callS (fr := 0) (lo := 0) (nL := 3) (Pic := fun _ => True) (As := [.int (iI (k)), .int (iI (0)), .int (iI (10000))]) (rest := []) ⟨hx, hb, hml, hown, hts⟩ (c_isIn l D (ty3 cI cO cL) (k) (0) (10000) (by omega) (by omega) (by omega)) (va_cwS 3 hts gX6_moon_X6_isIn rfl rfl rfl (by decide +kernel) ⟨Nat.le_of_ble_eq_true rfl, Nat.le_of_ble_eq_true rfl⟩) trivial hK rfl hl.1 rfl (Nat.le_of_ble_eq_true rfl) dX6_moon_10 (Nat.zero_le _) (Nat.zero_le _) ?_
  refine q_pif_eq (tgt := 25) hx hb dX6_moon_13 (by decide) (fun c_1 => ?_) (fun c_1 => ?_)
  · skip
    refine lv_aload_n hx hb dX6_moon_25 rfl (lv_at hl 0 rfl) ?_
    refine q_iconst hx hb dX6_moon_26 ?_
    have hPc := hP.sub (ws' := [(a, .inr (8, [.int (iI (0)), .int (iI (σ 0)), .int (iI (σ 1)), .int (iI (σ 2)), .int (iI (σ 3)), .int (iI (σ 4)), .int (iI (σ 5)), .int (iI (σ 6)), .ref ta, .int (iI (σ 7)), .ref pa, .int (iI (σ 9)), .int (iI (σ 10))]))]) [0] rfl
    have hDc := hD.sub (ws' := [(a, .inr (8, [.int (iI (0)), .int (iI (σ 0)), .int (iI (σ 1)), .int (iI (σ 2)), .int (iI (σ 3)), .int (iI (σ 4)), .int (iI (σ 5)), .int (iI (σ 6)), .ref ta, .int (iI (σ 7)), .ref pa, .int (iI (σ 9)), .int (iI (σ 10))]))]) [0] (by decide) rfl
    have hFc := va_free (wc := [(a, .inr (8, [.int (iI (0)), .int (iI (σ 0)), .int (iI (σ 1)), .int (iI (σ 2)), .int (iI (σ 3)), .int (iI (σ 4)), .int (iI (σ 5)), .int (iI (σ 6)), .ref ta, .int (iI (σ 7)), .ref pa, .int (iI (σ 9)), .int (iI (σ 10))]))]) hD hS hA [0] rfl
    refine q_callU (fr := 0) (lo := 0) (nL := 3) (As := [.int (iI (1))]) (rest := []) ⟨hx, hb, hml, hown, hts⟩ (u_fail l D _ _ a (0) (1) _ _ _ _ _ _ _ _ _ _ _ _) (cwV 1 hts gX6_moon_X6_fail rfl rfl rfl (by decide +kernel) ⟨Nat.le_of_ble_eq_true rfl, Nat.le_of_ble_eq_true rfl⟩) (ob_recv (hP 0 _ rfl) hK rfl) hPc (hDc.weaken (fun _ _ _ _ => trivial)) hFc hS hK rfl hl.1 rfl (Nat.le_of_ble_eq_true rfl) dX6_moon_27 (Nat.le_of_ble_eq_true rfl) (Nat.le_of_ble_eq_true rfl) ?_
    intro r H1 locs1 hr1 hP1 hk1 hS1
    have hr2 := hr1 rfl
    subst hr2
    have hP1 := (hP1.resolve_right (fun z => z.1 rfl)).2
    have hP2 : va_P D vwCl ([(a, .inr (8, [.int (iI (1)), .int (iI (σ 0)), .int (iI (σ 1)), .int (iI (σ 2)), .int (iI (σ 3)), .int (iI (σ 4)), .int (iI (σ 5)), .int (iI (σ 6)), .ref ta, .int (iI (σ 7)), .ref pa, .int (iI (σ 9)), .int (iI (σ 10))])), (ta, .inl (cI, 40, .inl (fun j => iI (T j)))), (pa, .inl (cI, 110, .inl (fun j => iI (P j))))]) H1 := va_upd (A0 := fun _ => True) hP hk1 hP1 (by
      intro q hq
      simp only [List.mem_cons, List.not_mem_nil, or_false] at hq
      rcases hq with rfl | rfl | rfl
      · exact Or.inl (List.mem_of_getElem? (i := 0) rfl)
      · refine Or.inr ⟨List.mem_of_getElem? (i := 1) rfl, fun z hz => ?_⟩
        simp only [List.mem_cons, List.not_mem_nil, or_false] at hz
        rcases hz with rfl
        · exact vaD_ne hD (i := 0) (j := 1) rfl rfl (by decide)
      · refine Or.inr ⟨List.mem_of_getElem? (i := 2) rfl, fun z hz => ?_⟩
        simp only [List.mem_cons, List.not_mem_nil, or_false] at hz
        rcases hz with rfl
        · exact vaD_ne hD (i := 0) (j := 2) rfl rfl (by decide))
    have hD2 : va_D (va_A (WMo cI a ta pa th σ T P) sz) ([(a, .inr (8, [.int (iI (1)), .int (iI (σ 0)), .int (iI (σ 1)), .int (iI (σ 2)), .int (iI (σ 3)), .int (iI (σ 4)), .int (iI (σ 5)), .int (iI (σ 6)), .ref ta, .int (iI (σ 7)), .ref pa, .int (iI (σ 9)), .int (iI (σ 10))])), (ta, .inl (cI, 40, .inl (fun j => iI (T j)))), (pa, .inl (cI, 110, .inl (fun j => iI (P j))))]) := vaD_addr hD rfl
    clear hP hD hS hPc hDc hFc hP1 hk1
    have hP := hP2; have hD := hD2; have hS := hS1
    clear hP2 hD2 hS1
    generalize H1 = H at hP hS ⊢
    generalize locs1 = locs at hS ⊢
    have hER : (if 0 ≤ k ∧ k ≤ 10000 then 0 else 1 : Int) = 1 := by (repeat' split) <;> omega
    exact q_uret (ws := []) hx hb hr hlocks hS (Or.inr ⟨by rw [hER]; decide, by rw [hER]; exact hP⟩) (fun h => absurd (hER.symm.trans h) (by decide)) (Nat.le_of_ble_eq_true rfl) (Nat.le_of_ble_eq_true rfl) dX6_moon_30
  · skip
    refine lv_aload_n hx hb dX6_moon_16 rfl (lv_at hl 0 rfl) ?_
    refine lv_iload_n hx hb dX6_moon_17 rfl (lv_at hl 1 rfl) ?_
    refine lv_iload_n hx hb dX6_moon_18 rfl (lv_at hl 2 rfl) ?_
    refine q_callV (fr := 1) (lo := 22) (nL := 3) (Pic := PicM D cI a ta pa (0) σ T (P)) (As := [.int (iI (k)), .int (iI (b))]) (rest := []) ⟨hx, hb, hml, hown, hts⟩ (c_falls l D cI cO cL a ta pa (0) σ T (P) hW hS0 (k) (b) (by omega) (by omega)) (cwV 2 hts gX6_moon_X6_falls rfl rfl rfl (by decide +kernel) ⟨Nat.le_of_ble_eq_true rfl, Nat.le_of_ble_eq_true rfl⟩) (ob_recv (hP 0 _ rfl) hK rfl) hP hK rfl hl.1 rfl (Nat.le_of_ble_eq_true rfl) dX6_moon_19 (Nat.zero_le _) (Nat.zero_le _) ?_
    have htm19 := m_tm_in (ln := σ 2) (fi := σ 3) (b := (b)) (k := (k)) w2 w3 (by omega)
    refine lv_goto (tgt := 30) hx hb dX6_moon_22 (by decide) ?_
    have hER : (if 0 ≤ k ∧ k ≤ 10000 then 0 else 1 : Int) = 0 := by (repeat' split) <;> omega
    exact q_uret (ws := []) hx hb hr hlocks hS (Or.inl ⟨hER, hP⟩) (fun _ => rfl) (Nat.le_of_ble_eq_true rfl) (Nat.le_of_ble_eq_true rfl) dX6_moon_30
set_option maxHeartbeats 4000000 in
set_option maxRecDepth 100000 in
theorem u_eclipses (l : Launch) (D : va_G) (sz : Nat) (cI cO cL : ClassId) (a ta pa : Nat) (th : Int) (σ T P : Nat → Int) (hW : WF σ T) (hS0 : WS σ P) (y b : Int) (hyr : -2147483648 ≤ y ∧ y < 2147483648) (hb01 : b = 0 ∨ b = 1) : MU l yX6_eclipses wsX6_eclipses 5 114 0 0 D (ty3 cI cO cL) sz (WMo cI a ta pa th σ T P) [.ref a, .int (iI (y)), .int (iI (b))] (if 0 ≤ y ∧ y < 1000 then 0 else 1) (m_Eb σ y (1 - b)) (WMo cI a ta pa 0 (σ) (T) (P)) (WMo cI a ta pa (if 0 ≤ y ∧ y < 1000 then 0 else 1) σ T P) := by
  refine MU_of (cc := cX6_eclipses) (maxL := 3) (ret := (some .int)) (by decide) rfl (Nat.le_of_ble_eq_true rfl) ?_
  intro p e s m args below meth c ls hx hb hr hlocks hml hown hts hsz hP hK hD hS hA hl
  have hl : lv_has ls 3 [(0, .ref a), (1, .int (iI (y))), (2, .int (iI (b)))] := hl
  have hin_X6 : ∀ w ∈ u_ws RX6 TX6 13, w ∈ wsX6_eclipses := (fun w h => List.mem_cons_of_mem _ (List.mem_append_right _ h))
  have hP : va_P D vwCl ([(a, .inr (8, [.int (iI (th)), .int (iI (σ 0)), .int (iI (σ 1)), .int (iI (σ 2)), .int (iI (σ 3)), .int (iI (σ 4)), .int (iI (σ 5)), .int (iI (σ 6)), .ref ta, .int (iI (σ 7)), .ref pa, .int (iI (σ 9)), .int (iI (σ 10))])), (ta, .inl (cI, 40, .inl (fun j => iI (T j)))), (pa, .inl (cI, 110, .inl (fun j => iI (P j))))]) s.heap := hP
  have hD : va_D (va_A (WMo cI a ta pa th σ T P) sz) ([(a, .inr (8, [.int (iI (th)), .int (iI (σ 0)), .int (iI (σ 1)), .int (iI (σ 2)), .int (iI (σ 3)), .int (iI (σ 4)), .int (iI (σ 5)), .int (iI (σ 6)), .ref ta, .int (iI (σ 7)), .ref pa, .int (iI (σ 9)), .int (iI (σ 10))])), (ta, .inl (cI, 40, .inl (fun j => iI (T j)))), (pa, .inl (cI, 110, .inl (fun j => iI (P j))))]) := hD
  obtain ⟨w0, w1, w2, w3, w4, w5, w6, w7, w8⟩ := id hW
  refine lv_aload_n hx hb dX6_eclipses_0 rfl (lv_at hl 0 rfl) ?_
  refine q_iconst hx hb dX6_eclipses_1 ?_
  refine va_put (D := D) (ci := 8) (v := .int (iI (0))) (ty := .int) (C := RX6) (T := TX6) (N := 13) hx hb hts hin_X6 tyX6 tyX6_ok nmX6 hown hK hP hD hS 0 rfl rfl 0 (by decide) (hts (.fieldLink RX6 30 "AlmanacHouseModel" "thrown" "I") (List.mem_of_getElem? (i := 1) rfl)) (fun _ h9 => h9) rfl (by decide +kernel) rfl rfl (Nat.le_of_ble_eq_true rfl) dX6_eclipses_2 (fun H locs hP hD hS => ?_)
  have hP : va_P D vwCl ([(a, .inr (8, [.int (iI (0)), .int (iI (σ 0)), .int (iI (σ 1)), .int (iI (σ 2)), .int (iI (σ 3)), .int (iI (σ 4)), .int (iI (σ 5)), .int (iI (σ 6)), .ref ta, .int (iI (σ 7)), .ref pa, .int (iI (σ 9)), .int (iI (σ 10))])), (ta, .inl (cI, 40, .inl (fun j => iI (T j)))), (pa, .inl (cI, 110, .inl (fun j => iI (P j))))]) H := hP
  have hD : va_D (va_A (WMo cI a ta pa th σ T P) sz) ([(a, .inr (8, [.int (iI (0)), .int (iI (σ 0)), .int (iI (σ 1)), .int (iI (σ 2)), .int (iI (σ 3)), .int (iI (σ 4)), .int (iI (σ 5)), .int (iI (σ 6)), .ref ta, .int (iI (σ 7)), .ref pa, .int (iI (σ 9)), .int (iI (σ 10))])), (ta, .inl (cI, 40, .inl (fun j => iI (T j)))), (pa, .inl (cI, 110, .inl (fun j => iI (P j))))]) := hD
  refine lv_iload_n hx hb dX6_eclipses_5 rfl (lv_at hl 1 rfl) ?_
  refine q_callS (fr := 1) (lo := 22) (nL := 3) (Pic := fun _ => True) (As := [.int (iI (y))]) (rest := []) ⟨hx, hb, hml, hown, hts⟩ (c_isYearM l D (ty3 cI cO cL) (y) (by omega)) (va_cwS 1 hts gX6_eclipses_X6_isYear rfl rfl rfl (by decide +kernel) ⟨Nat.le_of_ble_eq_true rfl, Nat.le_of_ble_eq_true rfl⟩) trivial hK rfl hl.1 rfl (Nat.le_of_ble_eq_true rfl) dX6_eclipses_6 (Nat.zero_le _) (Nat.zero_le _) ?_
  refine q_pif_eq (tgt := 29) hx hb dX6_eclipses_9 (by decide) (fun c_1 => ?_) (fun c_1 => ?_)
  · skip
    refine lv_aload_n hx hb dX6_eclipses_29 rfl (lv_at hl 0 rfl) ?_
    refine q_iconst hx hb dX6_eclipses_30 ?_
    have hPc := hP.sub (ws' := [(a, .inr (8, [.int (iI (0)), .int (iI (σ 0)), .int (iI (σ 1)), .int (iI (σ 2)), .int (iI (σ 3)), .int (iI (σ 4)), .int (iI (σ 5)), .int (iI (σ 6)), .ref ta, .int (iI (σ 7)), .ref pa, .int (iI (σ 9)), .int (iI (σ 10))]))]) [0] rfl
    have hDc := hD.sub (ws' := [(a, .inr (8, [.int (iI (0)), .int (iI (σ 0)), .int (iI (σ 1)), .int (iI (σ 2)), .int (iI (σ 3)), .int (iI (σ 4)), .int (iI (σ 5)), .int (iI (σ 6)), .ref ta, .int (iI (σ 7)), .ref pa, .int (iI (σ 9)), .int (iI (σ 10))]))]) [0] (by decide) rfl
    have hFc := va_free (wc := [(a, .inr (8, [.int (iI (0)), .int (iI (σ 0)), .int (iI (σ 1)), .int (iI (σ 2)), .int (iI (σ 3)), .int (iI (σ 4)), .int (iI (σ 5)), .int (iI (σ 6)), .ref ta, .int (iI (σ 7)), .ref pa, .int (iI (σ 9)), .int (iI (σ 10))]))]) hD hS hA [0] rfl
    refine q_callU (fr := 0) (lo := 0) (nL := 3) (As := [.int (iI (1))]) (rest := []) ⟨hx, hb, hml, hown, hts⟩ (u_fail l D _ _ a (0) (1) _ _ _ _ _ _ _ _ _ _ _ _) (cwV 1 hts gX6_eclipses_X6_fail rfl rfl rfl (by decide +kernel) ⟨Nat.le_of_ble_eq_true rfl, Nat.le_of_ble_eq_true rfl⟩) (ob_recv (hP 0 _ rfl) hK rfl) hPc (hDc.weaken (fun _ _ _ _ => trivial)) hFc hS hK rfl hl.1 rfl (Nat.le_of_ble_eq_true rfl) dX6_eclipses_31 (Nat.le_of_ble_eq_true rfl) (Nat.le_of_ble_eq_true rfl) ?_
    intro r H1 locs1 hr1 hP1 hk1 hS1
    have hr2 := hr1 rfl
    subst hr2
    have hP1 := (hP1.resolve_right (fun z => z.1 rfl)).2
    have hP2 : va_P D vwCl ([(a, .inr (8, [.int (iI (1)), .int (iI (σ 0)), .int (iI (σ 1)), .int (iI (σ 2)), .int (iI (σ 3)), .int (iI (σ 4)), .int (iI (σ 5)), .int (iI (σ 6)), .ref ta, .int (iI (σ 7)), .ref pa, .int (iI (σ 9)), .int (iI (σ 10))])), (ta, .inl (cI, 40, .inl (fun j => iI (T j)))), (pa, .inl (cI, 110, .inl (fun j => iI (P j))))]) H1 := va_upd (A0 := fun _ => True) hP hk1 hP1 (by
      intro q hq
      simp only [List.mem_cons, List.not_mem_nil, or_false] at hq
      rcases hq with rfl | rfl | rfl
      · exact Or.inl (List.mem_of_getElem? (i := 0) rfl)
      · refine Or.inr ⟨List.mem_of_getElem? (i := 1) rfl, fun z hz => ?_⟩
        simp only [List.mem_cons, List.not_mem_nil, or_false] at hz
        rcases hz with rfl
        · exact vaD_ne hD (i := 0) (j := 1) rfl rfl (by decide)
      · refine Or.inr ⟨List.mem_of_getElem? (i := 2) rfl, fun z hz => ?_⟩
        simp only [List.mem_cons, List.not_mem_nil, or_false] at hz
        rcases hz with rfl
        · exact vaD_ne hD (i := 0) (j := 2) rfl rfl (by decide))
    have hD2 : va_D (va_A (WMo cI a ta pa th σ T P) sz) ([(a, .inr (8, [.int (iI (1)), .int (iI (σ 0)), .int (iI (σ 1)), .int (iI (σ 2)), .int (iI (σ 3)), .int (iI (σ 4)), .int (iI (σ 5)), .int (iI (σ 6)), .ref ta, .int (iI (σ 7)), .ref pa, .int (iI (σ 9)), .int (iI (σ 10))])), (ta, .inl (cI, 40, .inl (fun j => iI (T j)))), (pa, .inl (cI, 110, .inl (fun j => iI (P j))))]) := vaD_addr hD rfl
    clear hP hD hS hPc hDc hFc hP1 hk1
    have hP := hP2; have hD := hD2; have hS := hS1
    clear hP2 hD2 hS1
    generalize H1 = H at hP hS ⊢
    generalize locs1 = locs at hS ⊢
    have hER : (if 0 ≤ y ∧ y < 1000 then 0 else 1 : Int) = 1 := by (repeat' split) <;> omega
    exact q_uret (ws := []) hx hb hr hlocks hS (Or.inr ⟨by rw [hER]; decide, by rw [hER]; exact hP⟩) (fun h => absurd (hER.symm.trans h) (by decide)) (Nat.le_of_ble_eq_true rfl) (Nat.le_of_ble_eq_true rfl) dX6_eclipses_34
  · skip
    refine lv_aload_n hx hb dX6_eclipses_12 rfl (lv_at hl 0 rfl) ?_
    refine lv_iload_n hx hb dX6_eclipses_13 rfl (lv_at hl 1 rfl) ?_
    refine lv_iload_n hx hb dX6_eclipses_14 rfl (lv_at hl 2 rfl) ?_
    refine q_if_ne (tgt := 22) hx hb dX6_eclipses_15 (by decide) (by omega) (fun c_2 => ?_) (fun c_2 => ?_)
    · skip
      refine q_iconst hx hb dX6_eclipses_22 ?_
      refine q_callV (fr := 4) (lo := 92) (nL := 3) (Pic := PicM D cI a ta pa (0) σ T (P)) (As := [.int (iI (y)), .int (iI (0))]) (rest := []) ⟨hx, hb, hml, hown, hts⟩ (c_eclipsesOf l D cI cO cL a ta pa (0) σ T (P) hW hS0 (y) (0) (by omega) (by omega)) (cwV 2 hts gX6_eclipses_X6_eclipsesOf rfl rfl rfl (by decide +kernel) ⟨Nat.le_of_ble_eq_true rfl, Nat.le_of_ble_eq_true rfl⟩) (ob_recv (hP 0 _ rfl) hK rfl) hP hK rfl hl.1 rfl (Nat.le_of_ble_eq_true rfl) dX6_eclipses_23 (Nat.zero_le _) (Nat.zero_le _) ?_
      have hE23 := m_Eb_in hW (y := (y)) (b := (0)) (by omega)
      refine lv_goto (tgt := 34) hx hb dX6_eclipses_26 (by decide) ?_
      have hER : (if 0 ≤ y ∧ y < 1000 then 0 else 1 : Int) = 0 := by (repeat' split) <;> omega
      exact q_uret (ws := []) hx hb hr hlocks hS (Or.inl ⟨hER, hP⟩) (fun _ => by congr 1; omega) (Nat.le_of_ble_eq_true rfl) (Nat.le_of_ble_eq_true rfl) dX6_eclipses_34
    · skip
      refine q_iconst hx hb dX6_eclipses_18 ?_
      refine lv_goto (tgt := 23) hx hb dX6_eclipses_19 (by decide) ?_
      refine q_callV (fr := 4) (lo := 92) (nL := 3) (Pic := PicM D cI a ta pa (0) σ T (P)) (As := [.int (iI (y)), .int (iI (1))]) (rest := []) ⟨hx, hb, hml, hown, hts⟩ (c_eclipsesOf l D cI cO cL a ta pa (0) σ T (P) hW hS0 (y) (1) (by omega) (by omega)) (cwV 2 hts gX6_eclipses_X6_eclipsesOf rfl rfl rfl (by decide +kernel) ⟨Nat.le_of_ble_eq_true rfl, Nat.le_of_ble_eq_true rfl⟩) (ob_recv (hP 0 _ rfl) hK rfl) hP hK rfl hl.1 rfl (Nat.le_of_ble_eq_true rfl) dX6_eclipses_23 (Nat.zero_le _) (Nat.zero_le _) ?_
      have hE23 := m_Eb_in hW (y := (y)) (b := (1)) (by omega)
      refine lv_goto (tgt := 34) hx hb dX6_eclipses_26 (by decide) ?_
      have hER : (if 0 ≤ y ∧ y < 1000 then 0 else 1 : Int) = 0 := by (repeat' split) <;> omega
      exact q_uret (ws := []) hx hb hr hlocks hS (Or.inl ⟨hER, hP⟩) (fun _ => by congr 1; omega) (Nat.le_of_ble_eq_true rfl) (Nat.le_of_ble_eq_true rfl) dX6_eclipses_34
set_option maxHeartbeats 4000000 in
set_option maxRecDepth 100000 in
theorem u_next (l : Launch) (D : va_G) (sz : Nat) (cI cO cL : ClassId) (a ta pa : Nat) (th : Int) (σ T P : Nat → Int) (hW : WF σ T) (hS0 : WS σ P) (d : Int) (hdr : -2147483648 ≤ d ∧ d < 2147483648) : MU l yX6_next wsX6_next 4 90 0 0 D (ty3 cI cO cL) sz (WMo cI a ta pa th σ T P) [.ref a, .int (iI (d))] (if 0 ≤ d ∧ d < m_fd (σ 0) (σ 1) 1000 then 0 else 1) (m_next σ d) (WMo cI a ta pa 0 (σ) (T) (P)) (WMo cI a ta pa (if 0 ≤ d ∧ d < m_fd (σ 0) (σ 1) 1000 then 0 else 1) σ T P) := by
  refine MU_of (cc := cX6_next) (maxL := 3) (ret := (some .int)) (by decide) rfl (Nat.le_of_ble_eq_true rfl) ?_
  intro p e s m args below meth c ls hx hb hr hlocks hml hown hts hsz hP hK hD hS hA hl
  have hl : lv_has ls 3 [(0, .ref a), (1, .int (iI (d)))] := hl
  have hin_X6 : ∀ w ∈ u_ws RX6 TX6 13, w ∈ wsX6_next := (fun w h => List.mem_cons_of_mem _ (List.mem_append_right _ h))
  have hP : va_P D vwCl ([(a, .inr (8, [.int (iI (th)), .int (iI (σ 0)), .int (iI (σ 1)), .int (iI (σ 2)), .int (iI (σ 3)), .int (iI (σ 4)), .int (iI (σ 5)), .int (iI (σ 6)), .ref ta, .int (iI (σ 7)), .ref pa, .int (iI (σ 9)), .int (iI (σ 10))])), (ta, .inl (cI, 40, .inl (fun j => iI (T j)))), (pa, .inl (cI, 110, .inl (fun j => iI (P j))))]) s.heap := hP
  have hD : va_D (va_A (WMo cI a ta pa th σ T P) sz) ([(a, .inr (8, [.int (iI (th)), .int (iI (σ 0)), .int (iI (σ 1)), .int (iI (σ 2)), .int (iI (σ 3)), .int (iI (σ 4)), .int (iI (σ 5)), .int (iI (σ 6)), .ref ta, .int (iI (σ 7)), .ref pa, .int (iI (σ 9)), .int (iI (σ 10))])), (ta, .inl (cI, 40, .inl (fun j => iI (T j)))), (pa, .inl (cI, 110, .inl (fun j => iI (P j))))]) := hD
  obtain ⟨w0, w1, w2, w3, w4, w5, w6, w7, w8⟩ := id hW
  have h1000 := m_fd_le (cy := σ 0) (lq := σ 1) (y := 1000) w0.1 w1 (by omega)
  refine lv_aload_n hx hb dX6_next_0 rfl (lv_at hl 0 rfl) ?_
  refine q_iconst hx hb dX6_next_1 ?_
  refine va_put (D := D) (ci := 8) (v := .int (iI (0))) (ty := .int) (C := RX6) (T := TX6) (N := 13) hx hb hts hin_X6 tyX6 tyX6_ok nmX6 hown hK hP hD hS 0 rfl rfl 0 (by decide) (hts (.fieldLink RX6 30 "AlmanacHouseModel" "thrown" "I") (List.mem_of_getElem? (i := 1) rfl)) (fun _ h9 => h9) rfl (by decide +kernel) rfl rfl (Nat.le_of_ble_eq_true rfl) dX6_next_2 (fun H locs hP hD hS => ?_)
  have hP : va_P D vwCl ([(a, .inr (8, [.int (iI (0)), .int (iI (σ 0)), .int (iI (σ 1)), .int (iI (σ 2)), .int (iI (σ 3)), .int (iI (σ 4)), .int (iI (σ 5)), .int (iI (σ 6)), .ref ta, .int (iI (σ 7)), .ref pa, .int (iI (σ 9)), .int (iI (σ 10))])), (ta, .inl (cI, 40, .inl (fun j => iI (T j)))), (pa, .inl (cI, 110, .inl (fun j => iI (P j))))]) H := hP
  have hD : va_D (va_A (WMo cI a ta pa th σ T P) sz) ([(a, .inr (8, [.int (iI (0)), .int (iI (σ 0)), .int (iI (σ 1)), .int (iI (σ 2)), .int (iI (σ 3)), .int (iI (σ 4)), .int (iI (σ 5)), .int (iI (σ 6)), .ref ta, .int (iI (σ 7)), .ref pa, .int (iI (σ 9)), .int (iI (σ 10))])), (ta, .inl (cI, 40, .inl (fun j => iI (T j)))), (pa, .inl (cI, 110, .inl (fun j => iI (P j))))]) := hD
  refine lv_aload_n hx hb dX6_next_5 rfl (lv_at hl 0 rfl) ?_
  refine lv_iload_n hx hb dX6_next_6 rfl (lv_at hl 1 rfl) ?_
  refine q_callV (fr := 2) (lo := 44) (nL := 3) (Pic := PicM D cI a ta pa (0) σ T (P)) (As := [.int (iI (d))]) (rest := []) ⟨hx, hb, hml, hown, hts⟩ (c_isDayM l D cI cO cL a ta pa (0) σ T (P) hW hS0 (d) (by omega)) (cwV 1 hts gX6_next_X6_isDay rfl rfl rfl (by decide +kernel) ⟨Nat.le_of_ble_eq_true rfl, Nat.le_of_ble_eq_true rfl⟩) (ob_recv (hP 0 _ rfl) hK rfl) hP hK rfl hl.1 rfl (Nat.le_of_ble_eq_true rfl) dX6_next_7 (Nat.zero_le _) (Nat.zero_le _) ?_
  refine q_pif_ne (tgt := 19) hx hb dX6_next_10 (by decide) (fun c_1 => ?_) (fun c_1 => ?_)
  · skip
    refine lv_aload_n hx hb dX6_next_19 rfl (lv_at hl 0 rfl) ?_
    refine lv_iload_n hx hb dX6_next_20 rfl (lv_at hl 1 rfl) ?_
    refine q_iconst hx hb dX6_next_21 ?_
    refine q_callV (fr := 3) (lo := 67) (nL := 3) (Pic := PicM D cI a ta pa (0) σ T (P)) (As := [.int (iI (d)), .int (iI (0))]) (rest := []) ⟨hx, hb, hml, hown, hts⟩ (c_nextOf l D cI cO cL a ta pa (0) σ T (P) hW hS0 (d) (0) (by omega) (by omega)) (cwV 2 hts gX6_next_X6_nextOf rfl rfl rfl (by decide +kernel) ⟨Nat.le_of_ble_eq_true rfl, Nat.le_of_ble_eq_true rfl⟩) (ob_recv (hP 0 _ rfl) hK rfl) hP hK rfl hl.1 rfl (Nat.le_of_ble_eq_true rfl) dX6_next_22 (Nat.zero_le _) (Nat.zero_le _) ?_
    have hN22 := m_N12 hW (d := (d)) (b := (0)) (by omega)
    refine lv_aload_n hx hb dX6_next_25 rfl (lv_at hl 0 rfl) ?_
    refine lv_iload_n hx hb dX6_next_26 rfl (lv_at hl 1 rfl) ?_
    refine q_iconst hx hb dX6_next_27 ?_
    refine q_callV (fr := 3) (lo := 67) (nL := 3) (Pic := PicM D cI a ta pa (0) σ T (P)) (As := [.int (iI (d)), .int (iI (1))]) (rest := [.int (iI (m_N2 σ (d) (0)))]) ⟨hx, hb, hml, hown, hts⟩ (c_nextOf l D cI cO cL a ta pa (0) σ T (P) hW hS0 (d) (1) (by omega) (by omega)) (cwV 2 hts gX6_next_X6_nextOf rfl rfl rfl (by decide +kernel) ⟨Nat.le_of_ble_eq_true rfl, Nat.le_of_ble_eq_true rfl⟩) (ob_recv (hP 0 _ rfl) hK rfl) hP hK rfl hl.1 rfl (Nat.le_of_ble_eq_true rfl) dX6_next_28 (Nat.zero_le _) (Nat.zero_le _) ?_
    have hN28 := m_N12 hW (d := (d)) (b := (1)) (by omega)
    refine q_mmin hx hb (hml.trans hl.1.symm) hown (hts (.methodLink RX6 116 Lib.Math.min.name) (List.mem_of_getElem? (i := 2) rfl)) (hts (.static Lib.Math.min.name) (List.mem_of_getElem? (i := 3) rfl)) (hts (.initialized "java/lang/Math") (List.mem_of_getElem? (i := 4) rfl)) (hts (.code Lib.Math.min.name Lib.Math.min.code 2 (some .int)) (List.mem_of_getElem? (i := 5) rfl)) (by omega) (by omega) (Nat.le_of_ble_eq_true rfl) (Nat.le_of_ble_eq_true rfl) (Nat.zero_le _) (Nat.zero_le _) dX6_next_31 ?_
    refine q_top (fun mn emn => ?_)
    have hN0 := m_N12 hW (d := d) (b := 0) (by omega)
    have hN1 := m_N12 hW (d := d) (b := 1) (by omega)
    refine lv_istore_n (lv' := [(2, .int (iI (mn))), (0, .ref a), (1, .int (iI (d)))]) hx hb dX6_next_34 rfl hl (by decide) rfl (fun ls hl => ?_)
    refine lv_iload_n hx hb dX6_next_35 rfl (lv_at hl 0 rfl) ?_
    refine lv_iload_n hx hb dX6_next_36 rfl (lv_at hl 2 rfl) ?_
    refine q_sipush hx hb dX6_next_37 (by decide) ?_
    refine q_iadd hx hb dX6_next_40 ?_
    refine q_icmp_le (tgt := 48) hx hb dX6_next_41 (by decide) (by omega) (by omega) (fun c_2 => ?_) (fun c_2 => ?_)
    · skip
      refine lv_iload_n hx hb dX6_next_48 rfl (lv_at hl 0 rfl) ?_
      have hER : (if 0 ≤ d ∧ d < m_fd (σ 0) (σ 1) 1000 then 0 else 1 : Int) = 0 := by (repeat' split) <;> omega
      exact q_uret (ws := []) hx hb hr hlocks hS (Or.inl ⟨hER, hP⟩) (fun _ => by unfold m_next; (repeat' split at emn) <;> (repeat' split) <;> omega) (Nat.le_of_ble_eq_true rfl) (Nat.le_of_ble_eq_true rfl) dX6_next_49
    · skip
      refine q_iconst hx hb dX6_next_44 ?_
      refine lv_goto (tgt := 49) hx hb dX6_next_45 (by decide) ?_
      have hER : (if 0 ≤ d ∧ d < m_fd (σ 0) (σ 1) 1000 then 0 else 1 : Int) = 0 := by (repeat' split) <;> omega
      exact q_uret (ws := []) hx hb hr hlocks hS (Or.inl ⟨hER, hP⟩) (fun _ => by unfold m_next; (repeat' split at emn) <;> (repeat' split) <;> omega) (Nat.le_of_ble_eq_true rfl) (Nat.le_of_ble_eq_true rfl) dX6_next_49
  · skip
    refine lv_aload_n hx hb dX6_next_13 rfl (lv_at hl 0 rfl) ?_
    refine q_iconst hx hb dX6_next_14 ?_
    have hPc := hP.sub (ws' := [(a, .inr (8, [.int (iI (0)), .int (iI (σ 0)), .int (iI (σ 1)), .int (iI (σ 2)), .int (iI (σ 3)), .int (iI (σ 4)), .int (iI (σ 5)), .int (iI (σ 6)), .ref ta, .int (iI (σ 7)), .ref pa, .int (iI (σ 9)), .int (iI (σ 10))]))]) [0] rfl
    have hDc := hD.sub (ws' := [(a, .inr (8, [.int (iI (0)), .int (iI (σ 0)), .int (iI (σ 1)), .int (iI (σ 2)), .int (iI (σ 3)), .int (iI (σ 4)), .int (iI (σ 5)), .int (iI (σ 6)), .ref ta, .int (iI (σ 7)), .ref pa, .int (iI (σ 9)), .int (iI (σ 10))]))]) [0] (by decide) rfl
    have hFc := va_free (wc := [(a, .inr (8, [.int (iI (0)), .int (iI (σ 0)), .int (iI (σ 1)), .int (iI (σ 2)), .int (iI (σ 3)), .int (iI (σ 4)), .int (iI (σ 5)), .int (iI (σ 6)), .ref ta, .int (iI (σ 7)), .ref pa, .int (iI (σ 9)), .int (iI (σ 10))]))]) hD hS hA [0] rfl
    refine q_callU (fr := 0) (lo := 0) (nL := 3) (As := [.int (iI (1))]) (rest := []) ⟨hx, hb, hml, hown, hts⟩ (u_fail l D _ _ a (0) (1) _ _ _ _ _ _ _ _ _ _ _ _) (cwV 1 hts gX6_next_X6_fail rfl rfl rfl (by decide +kernel) ⟨Nat.le_of_ble_eq_true rfl, Nat.le_of_ble_eq_true rfl⟩) (ob_recv (hP 0 _ rfl) hK rfl) hPc (hDc.weaken (fun _ _ _ _ => trivial)) hFc hS hK rfl hl.1 rfl (Nat.le_of_ble_eq_true rfl) dX6_next_15 (Nat.le_of_ble_eq_true rfl) (Nat.le_of_ble_eq_true rfl) ?_
    intro r H1 locs1 hr1 hP1 hk1 hS1
    have hr2 := hr1 rfl
    subst hr2
    have hP1 := (hP1.resolve_right (fun z => z.1 rfl)).2
    have hP2 : va_P D vwCl ([(a, .inr (8, [.int (iI (1)), .int (iI (σ 0)), .int (iI (σ 1)), .int (iI (σ 2)), .int (iI (σ 3)), .int (iI (σ 4)), .int (iI (σ 5)), .int (iI (σ 6)), .ref ta, .int (iI (σ 7)), .ref pa, .int (iI (σ 9)), .int (iI (σ 10))])), (ta, .inl (cI, 40, .inl (fun j => iI (T j)))), (pa, .inl (cI, 110, .inl (fun j => iI (P j))))]) H1 := va_upd (A0 := fun _ => True) hP hk1 hP1 (by
      intro q hq
      simp only [List.mem_cons, List.not_mem_nil, or_false] at hq
      rcases hq with rfl | rfl | rfl
      · exact Or.inl (List.mem_of_getElem? (i := 0) rfl)
      · refine Or.inr ⟨List.mem_of_getElem? (i := 1) rfl, fun z hz => ?_⟩
        simp only [List.mem_cons, List.not_mem_nil, or_false] at hz
        rcases hz with rfl
        · exact vaD_ne hD (i := 0) (j := 1) rfl rfl (by decide)
      · refine Or.inr ⟨List.mem_of_getElem? (i := 2) rfl, fun z hz => ?_⟩
        simp only [List.mem_cons, List.not_mem_nil, or_false] at hz
        rcases hz with rfl
        · exact vaD_ne hD (i := 0) (j := 2) rfl rfl (by decide))
    have hD2 : va_D (va_A (WMo cI a ta pa th σ T P) sz) ([(a, .inr (8, [.int (iI (1)), .int (iI (σ 0)), .int (iI (σ 1)), .int (iI (σ 2)), .int (iI (σ 3)), .int (iI (σ 4)), .int (iI (σ 5)), .int (iI (σ 6)), .ref ta, .int (iI (σ 7)), .ref pa, .int (iI (σ 9)), .int (iI (σ 10))])), (ta, .inl (cI, 40, .inl (fun j => iI (T j)))), (pa, .inl (cI, 110, .inl (fun j => iI (P j))))]) := vaD_addr hD rfl
    clear hP hD hS hPc hDc hFc hP1 hk1
    have hP := hP2; have hD := hD2; have hS := hS1
    clear hP2 hD2 hS1
    generalize H1 = H at hP hS ⊢
    generalize locs1 = locs at hS ⊢
    have hER : (if 0 ≤ d ∧ d < m_fd (σ 0) (σ 1) 1000 then 0 else 1 : Int) = 1 := by (repeat' split) <;> omega
    exact q_uret (ws := []) hx hb hr hlocks hS (Or.inr ⟨by rw [hER]; decide, by rw [hER]; exact hP⟩) (fun h => absurd (hER.symm.trans h) (by decide)) (Nat.le_of_ble_eq_true rfl) (Nat.le_of_ble_eq_true rfl) dX6_next_18
set_option maxHeartbeats 4000000 in
set_option maxRecDepth 100000 in
theorem u_feast (l : Launch) (D : va_G) (sz : Nat) (cI cO cL : ClassId) (a ta pa : Nat) (th : Int) (σ T P : Nat → Int) (hW : WF σ T) (hS0 : WS σ P) (j y : Int) (hjr : -2147483648 ≤ j ∧ j < 2147483648) (hyr : -2147483648 ≤ y ∧ y < 2147483648) : MU l yX6_feast wsX6_feast 4 92 0 0 D (ty3 cI cO cL) sz (WMo cI a ta pa th σ T P) [.ref a, .int (iI (j)), .int (iI (y))] (if 0 ≤ j ∧ j < σ 6 then (if 0 ≤ y ∧ y < 1000 then 0 else 2) else 1) (m_F σ T j.toNat y) (WMo cI a ta pa 0 (σ) (T) (P)) (WMo cI a ta pa (if 0 ≤ j ∧ j < σ 6 then (if 0 ≤ y ∧ y < 1000 then 0 else 2) else 1) σ T P) := by
  refine MU_of (cc := cX6_feast) (maxL := 3) (ret := (some .int)) (by decide) rfl (Nat.le_of_ble_eq_true rfl) ?_
  intro p e s m args below meth c ls hx hb hr hlocks hml hown hts hsz hP hK hD hS hA hl
  have hl : lv_has ls 3 [(0, .ref a), (1, .int (iI (j))), (2, .int (iI (y)))] := hl
  have hin_X6 : ∀ w ∈ u_ws RX6 TX6 13, w ∈ wsX6_feast := (fun w h => List.mem_cons_of_mem _ (List.mem_append_right _ h))
  have hP : va_P D vwCl ([(a, .inr (8, [.int (iI (th)), .int (iI (σ 0)), .int (iI (σ 1)), .int (iI (σ 2)), .int (iI (σ 3)), .int (iI (σ 4)), .int (iI (σ 5)), .int (iI (σ 6)), .ref ta, .int (iI (σ 7)), .ref pa, .int (iI (σ 9)), .int (iI (σ 10))])), (ta, .inl (cI, 40, .inl (fun j => iI (T j)))), (pa, .inl (cI, 110, .inl (fun j => iI (P j))))]) s.heap := hP
  have hD : va_D (va_A (WMo cI a ta pa th σ T P) sz) ([(a, .inr (8, [.int (iI (th)), .int (iI (σ 0)), .int (iI (σ 1)), .int (iI (σ 2)), .int (iI (σ 3)), .int (iI (σ 4)), .int (iI (σ 5)), .int (iI (σ 6)), .ref ta, .int (iI (σ 7)), .ref pa, .int (iI (σ 9)), .int (iI (σ 10))])), (ta, .inl (cI, 40, .inl (fun j => iI (T j)))), (pa, .inl (cI, 110, .inl (fun j => iI (P j))))]) := hD
  obtain ⟨w0, w1, w2, w3, w4, w5, w6, w7, w8⟩ := id hW
  refine lv_aload_n hx hb dX6_feast_0 rfl (lv_at hl 0 rfl) ?_
  refine q_iconst hx hb dX6_feast_1 ?_
  refine va_put (D := D) (ci := 8) (v := .int (iI (0))) (ty := .int) (C := RX6) (T := TX6) (N := 13) hx hb hts hin_X6 tyX6 tyX6_ok nmX6 hown hK hP hD hS 0 rfl rfl 0 (by decide) (hts (.fieldLink RX6 30 "AlmanacHouseModel" "thrown" "I") (List.mem_of_getElem? (i := 1) rfl)) (fun _ h9 => h9) rfl (by decide +kernel) rfl rfl (Nat.le_of_ble_eq_true rfl) dX6_feast_2 (fun H locs hP hD hS => ?_)
  have hP : va_P D vwCl ([(a, .inr (8, [.int (iI (0)), .int (iI (σ 0)), .int (iI (σ 1)), .int (iI (σ 2)), .int (iI (σ 3)), .int (iI (σ 4)), .int (iI (σ 5)), .int (iI (σ 6)), .ref ta, .int (iI (σ 7)), .ref pa, .int (iI (σ 9)), .int (iI (σ 10))])), (ta, .inl (cI, 40, .inl (fun j => iI (T j)))), (pa, .inl (cI, 110, .inl (fun j => iI (P j))))]) H := hP
  have hD : va_D (va_A (WMo cI a ta pa th σ T P) sz) ([(a, .inr (8, [.int (iI (0)), .int (iI (σ 0)), .int (iI (σ 1)), .int (iI (σ 2)), .int (iI (σ 3)), .int (iI (σ 4)), .int (iI (σ 5)), .int (iI (σ 6)), .ref ta, .int (iI (σ 7)), .ref pa, .int (iI (σ 9)), .int (iI (σ 10))])), (ta, .inl (cI, 40, .inl (fun j => iI (T j)))), (pa, .inl (cI, 110, .inl (fun j => iI (P j))))]) := hD
  refine lv_aload_n hx hb dX6_feast_5 rfl (lv_at hl 0 rfl) ?_
  refine lv_iload_n hx hb dX6_feast_6 rfl (lv_at hl 1 rfl) ?_
  refine q_callV (fr := 1) (lo := 22) (nL := 3) (Pic := PicM D cI a ta pa (0) σ T (P)) (As := [.int (iI (j))]) (rest := []) ⟨hx, hb, hml, hown, hts⟩ (c_isFeast l D cI cO cL a ta pa (0) σ T (P) hW hS0 (j) (by omega)) (cwV 1 hts gX6_feast_X6_isFeast rfl rfl rfl (by decide +kernel) ⟨Nat.le_of_ble_eq_true rfl, Nat.le_of_ble_eq_true rfl⟩) (ob_recv (hP 0 _ rfl) hK rfl) hP hK rfl hl.1 rfl (Nat.le_of_ble_eq_true rfl) dX6_feast_7 (Nat.zero_le _) (Nat.zero_le _) ?_
  refine q_pif_ne (tgt := 19) hx hb dX6_feast_10 (by decide) (fun c_1 => ?_) (fun c_1 => ?_)
  · skip
    refine lv_iload_n hx hb dX6_feast_19 rfl (lv_at hl 2 rfl) ?_
    refine q_callS (fr := 1) (lo := 22) (nL := 3) (Pic := fun _ => True) (As := [.int (iI (y))]) (rest := []) ⟨hx, hb, hml, hown, hts⟩ (c_isYearM l D (ty3 cI cO cL) (y) (by omega)) (va_cwS 1 hts gX6_feast_X6_isYear rfl rfl rfl (by decide +kernel) ⟨Nat.le_of_ble_eq_true rfl, Nat.le_of_ble_eq_true rfl⟩) trivial hK rfl hl.1 rfl (Nat.le_of_ble_eq_true rfl) dX6_feast_20 (Nat.zero_le _) (Nat.zero_le _) ?_
    refine q_pif_eq (tgt := 35) hx hb dX6_feast_23 (by decide) (fun c_2 => ?_) (fun c_2 => ?_)
    · skip
      refine lv_aload_n hx hb dX6_feast_35 rfl (lv_at hl 0 rfl) ?_
      refine q_iconst hx hb dX6_feast_36 ?_
      have hPc := hP.sub (ws' := [(a, .inr (8, [.int (iI (0)), .int (iI (σ 0)), .int (iI (σ 1)), .int (iI (σ 2)), .int (iI (σ 3)), .int (iI (σ 4)), .int (iI (σ 5)), .int (iI (σ 6)), .ref ta, .int (iI (σ 7)), .ref pa, .int (iI (σ 9)), .int (iI (σ 10))]))]) [0] rfl
      have hDc := hD.sub (ws' := [(a, .inr (8, [.int (iI (0)), .int (iI (σ 0)), .int (iI (σ 1)), .int (iI (σ 2)), .int (iI (σ 3)), .int (iI (σ 4)), .int (iI (σ 5)), .int (iI (σ 6)), .ref ta, .int (iI (σ 7)), .ref pa, .int (iI (σ 9)), .int (iI (σ 10))]))]) [0] (by decide) rfl
      have hFc := va_free (wc := [(a, .inr (8, [.int (iI (0)), .int (iI (σ 0)), .int (iI (σ 1)), .int (iI (σ 2)), .int (iI (σ 3)), .int (iI (σ 4)), .int (iI (σ 5)), .int (iI (σ 6)), .ref ta, .int (iI (σ 7)), .ref pa, .int (iI (σ 9)), .int (iI (σ 10))]))]) hD hS hA [0] rfl
      refine q_callU (fr := 0) (lo := 0) (nL := 3) (As := [.int (iI (2))]) (rest := []) ⟨hx, hb, hml, hown, hts⟩ (u_fail l D _ _ a (0) (2) _ _ _ _ _ _ _ _ _ _ _ _) (cwV 1 hts gX6_feast_X6_fail rfl rfl rfl (by decide +kernel) ⟨Nat.le_of_ble_eq_true rfl, Nat.le_of_ble_eq_true rfl⟩) (ob_recv (hP 0 _ rfl) hK rfl) hPc (hDc.weaken (fun _ _ _ _ => trivial)) hFc hS hK rfl hl.1 rfl (Nat.le_of_ble_eq_true rfl) dX6_feast_37 (Nat.le_of_ble_eq_true rfl) (Nat.le_of_ble_eq_true rfl) ?_
      intro r H1 locs1 hr1 hP1 hk1 hS1
      have hr2 := hr1 rfl
      subst hr2
      have hP1 := (hP1.resolve_right (fun z => z.1 rfl)).2
      have hP2 : va_P D vwCl ([(a, .inr (8, [.int (iI (2)), .int (iI (σ 0)), .int (iI (σ 1)), .int (iI (σ 2)), .int (iI (σ 3)), .int (iI (σ 4)), .int (iI (σ 5)), .int (iI (σ 6)), .ref ta, .int (iI (σ 7)), .ref pa, .int (iI (σ 9)), .int (iI (σ 10))])), (ta, .inl (cI, 40, .inl (fun j => iI (T j)))), (pa, .inl (cI, 110, .inl (fun j => iI (P j))))]) H1 := va_upd (A0 := fun _ => True) hP hk1 hP1 (by
        intro q hq
        simp only [List.mem_cons, List.not_mem_nil, or_false] at hq
        rcases hq with rfl | rfl | rfl
        · exact Or.inl (List.mem_of_getElem? (i := 0) rfl)
        · refine Or.inr ⟨List.mem_of_getElem? (i := 1) rfl, fun z hz => ?_⟩
          simp only [List.mem_cons, List.not_mem_nil, or_false] at hz
          rcases hz with rfl
          · exact vaD_ne hD (i := 0) (j := 1) rfl rfl (by decide)
        · refine Or.inr ⟨List.mem_of_getElem? (i := 2) rfl, fun z hz => ?_⟩
          simp only [List.mem_cons, List.not_mem_nil, or_false] at hz
          rcases hz with rfl
          · exact vaD_ne hD (i := 0) (j := 2) rfl rfl (by decide))
      have hD2 : va_D (va_A (WMo cI a ta pa th σ T P) sz) ([(a, .inr (8, [.int (iI (2)), .int (iI (σ 0)), .int (iI (σ 1)), .int (iI (σ 2)), .int (iI (σ 3)), .int (iI (σ 4)), .int (iI (σ 5)), .int (iI (σ 6)), .ref ta, .int (iI (σ 7)), .ref pa, .int (iI (σ 9)), .int (iI (σ 10))])), (ta, .inl (cI, 40, .inl (fun j => iI (T j)))), (pa, .inl (cI, 110, .inl (fun j => iI (P j))))]) := vaD_addr hD rfl
      clear hP hD hS hPc hDc hFc hP1 hk1
      have hP := hP2; have hD := hD2; have hS := hS1
      clear hP2 hD2 hS1
      generalize H1 = H at hP hS ⊢
      generalize locs1 = locs at hS ⊢
      have hER : (if 0 ≤ j ∧ j < σ 6 then (if 0 ≤ y ∧ y < 1000 then 0 else 2) else 1 : Int) = 2 := by (repeat' split) <;> omega
      exact q_uret (ws := []) hx hb hr hlocks hS (Or.inr ⟨by rw [hER]; decide, by rw [hER]; exact hP⟩) (fun h => absurd (hER.symm.trans h) (by decide)) (Nat.le_of_ble_eq_true rfl) (Nat.le_of_ble_eq_true rfl) dX6_feast_40
    · skip
      refine lv_aload_n hx hb dX6_feast_26 rfl (lv_at hl 0 rfl) ?_
      refine lv_iload_n hx hb dX6_feast_27 rfl (lv_at hl 1 rfl) ?_
      refine lv_iload_n hx hb dX6_feast_28 rfl (lv_at hl 2 rfl) ?_
      refine q_callV (fr := 3) (lo := 69) (nL := 3) (Pic := PicM D cI a ta pa (0) σ T (P)) (As := [.int (iI (j)), .int (iI (y))]) (rest := []) ⟨hx, hb, hml, hown, hts⟩ (c_feastDayM l D cI cO cL a ta pa (0) σ T (P) hW hS0 (j) (y) (by omega) (by omega)) (cwV 2 hts gX6_feast_X6_feastDay rfl rfl rfl (by decide +kernel) ⟨Nat.le_of_ble_eq_true rfl, Nat.le_of_ble_eq_true rfl⟩) (ob_recv (hP 0 _ rfl) hK rfl) hP hK rfl hl.1 rfl (Nat.le_of_ble_eq_true rfl) dX6_feast_29 (Nat.zero_le _) (Nat.zero_le _) ?_
      have hF29 := m_F_in hW (i := Int.toNat (j)) (by omega) (y := y) (by omega)
      refine lv_goto (tgt := 40) hx hb dX6_feast_32 (by decide) ?_
      have hER : (if 0 ≤ j ∧ j < σ 6 then (if 0 ≤ y ∧ y < 1000 then 0 else 2) else 1 : Int) = 0 := by (repeat' split) <;> omega
      exact q_uret (ws := []) hx hb hr hlocks hS (Or.inl ⟨hER, hP⟩) (fun _ => rfl) (Nat.le_of_ble_eq_true rfl) (Nat.le_of_ble_eq_true rfl) dX6_feast_40
  · skip
    refine lv_aload_n hx hb dX6_feast_13 rfl (lv_at hl 0 rfl) ?_
    refine q_iconst hx hb dX6_feast_14 ?_
    have hPc := hP.sub (ws' := [(a, .inr (8, [.int (iI (0)), .int (iI (σ 0)), .int (iI (σ 1)), .int (iI (σ 2)), .int (iI (σ 3)), .int (iI (σ 4)), .int (iI (σ 5)), .int (iI (σ 6)), .ref ta, .int (iI (σ 7)), .ref pa, .int (iI (σ 9)), .int (iI (σ 10))]))]) [0] rfl
    have hDc := hD.sub (ws' := [(a, .inr (8, [.int (iI (0)), .int (iI (σ 0)), .int (iI (σ 1)), .int (iI (σ 2)), .int (iI (σ 3)), .int (iI (σ 4)), .int (iI (σ 5)), .int (iI (σ 6)), .ref ta, .int (iI (σ 7)), .ref pa, .int (iI (σ 9)), .int (iI (σ 10))]))]) [0] (by decide) rfl
    have hFc := va_free (wc := [(a, .inr (8, [.int (iI (0)), .int (iI (σ 0)), .int (iI (σ 1)), .int (iI (σ 2)), .int (iI (σ 3)), .int (iI (σ 4)), .int (iI (σ 5)), .int (iI (σ 6)), .ref ta, .int (iI (σ 7)), .ref pa, .int (iI (σ 9)), .int (iI (σ 10))]))]) hD hS hA [0] rfl
    refine q_callU (fr := 0) (lo := 0) (nL := 3) (As := [.int (iI (1))]) (rest := []) ⟨hx, hb, hml, hown, hts⟩ (u_fail l D _ _ a (0) (1) _ _ _ _ _ _ _ _ _ _ _ _) (cwV 1 hts gX6_feast_X6_fail rfl rfl rfl (by decide +kernel) ⟨Nat.le_of_ble_eq_true rfl, Nat.le_of_ble_eq_true rfl⟩) (ob_recv (hP 0 _ rfl) hK rfl) hPc (hDc.weaken (fun _ _ _ _ => trivial)) hFc hS hK rfl hl.1 rfl (Nat.le_of_ble_eq_true rfl) dX6_feast_15 (Nat.le_of_ble_eq_true rfl) (Nat.le_of_ble_eq_true rfl) ?_
    intro r H1 locs1 hr1 hP1 hk1 hS1
    have hr2 := hr1 rfl
    subst hr2
    have hP1 := (hP1.resolve_right (fun z => z.1 rfl)).2
    have hP2 : va_P D vwCl ([(a, .inr (8, [.int (iI (1)), .int (iI (σ 0)), .int (iI (σ 1)), .int (iI (σ 2)), .int (iI (σ 3)), .int (iI (σ 4)), .int (iI (σ 5)), .int (iI (σ 6)), .ref ta, .int (iI (σ 7)), .ref pa, .int (iI (σ 9)), .int (iI (σ 10))])), (ta, .inl (cI, 40, .inl (fun j => iI (T j)))), (pa, .inl (cI, 110, .inl (fun j => iI (P j))))]) H1 := va_upd (A0 := fun _ => True) hP hk1 hP1 (by
      intro q hq
      simp only [List.mem_cons, List.not_mem_nil, or_false] at hq
      rcases hq with rfl | rfl | rfl
      · exact Or.inl (List.mem_of_getElem? (i := 0) rfl)
      · refine Or.inr ⟨List.mem_of_getElem? (i := 1) rfl, fun z hz => ?_⟩
        simp only [List.mem_cons, List.not_mem_nil, or_false] at hz
        rcases hz with rfl
        · exact vaD_ne hD (i := 0) (j := 1) rfl rfl (by decide)
      · refine Or.inr ⟨List.mem_of_getElem? (i := 2) rfl, fun z hz => ?_⟩
        simp only [List.mem_cons, List.not_mem_nil, or_false] at hz
        rcases hz with rfl
        · exact vaD_ne hD (i := 0) (j := 2) rfl rfl (by decide))
    have hD2 : va_D (va_A (WMo cI a ta pa th σ T P) sz) ([(a, .inr (8, [.int (iI (1)), .int (iI (σ 0)), .int (iI (σ 1)), .int (iI (σ 2)), .int (iI (σ 3)), .int (iI (σ 4)), .int (iI (σ 5)), .int (iI (σ 6)), .ref ta, .int (iI (σ 7)), .ref pa, .int (iI (σ 9)), .int (iI (σ 10))])), (ta, .inl (cI, 40, .inl (fun j => iI (T j)))), (pa, .inl (cI, 110, .inl (fun j => iI (P j))))]) := vaD_addr hD rfl
    clear hP hD hS hPc hDc hFc hP1 hk1
    have hP := hP2; have hD := hD2; have hS := hS1
    clear hP2 hD2 hS1
    generalize H1 = H at hP hS ⊢
    generalize locs1 = locs at hS ⊢
    have hER : (if 0 ≤ j ∧ j < σ 6 then (if 0 ≤ y ∧ y < 1000 then 0 else 2) else 1 : Int) = 1 := by (repeat' split) <;> omega
    exact q_uret (ws := []) hx hb hr hlocks hS (Or.inr ⟨by rw [hER]; decide, by rw [hER]; exact hP⟩) (fun h => absurd (hER.symm.trans h) (by decide)) (Nat.le_of_ble_eq_true rfl) (Nat.le_of_ble_eq_true rfl) dX6_feast_18
set_option maxHeartbeats 4000000 in
set_option maxRecDepth 100000 in
theorem u_sheet (l : Launch) (D : va_G) (sz : Nat) (cI cO cL : ClassId) (a ta pa : Nat) (th : Int) (σ T P : Nat → Int) (hW : WF σ T) (hS0 : WS σ P) (j x : Int) (hjr : -2147483648 ≤ j ∧ j < 2147483648) (hxr : -2147483648 ≤ x ∧ x < 2147483648) : MU l yX6_sheet wsX6_sheet 7 159 0 0 D (ty3 cI cO cL) sz (WMo cI a ta pa th σ T P) [.ref a, .int (iI (j)), .int (iI (x))] (if (0 ≤ j ∧ j < σ 7) ∧ (0 ≤ x ∧ x ≤ 4) then 0 else 1) (m_told σ T P j.toNat x) (WMo cI a ta pa 0 (σ) (T) (P)) (WMo cI a ta pa (if (0 ≤ j ∧ j < σ 7) ∧ (0 ≤ x ∧ x ≤ 4) then 0 else 1) σ T P) := by
  refine MU_of (cc := cX6_sheet) (maxL := 3) (ret := (some .int)) (by decide) rfl (Nat.le_of_ble_eq_true rfl) ?_
  intro p e s m args below meth c ls hx hb hr hlocks hml hown hts hsz hP hK hD hS hA hl
  have hl : lv_has ls 3 [(0, .ref a), (1, .int (iI (j))), (2, .int (iI (x)))] := hl
  have hin_X6 : ∀ w ∈ u_ws RX6 TX6 13, w ∈ wsX6_sheet := (fun w h => List.mem_cons_of_mem _ (List.mem_append_right _ h))
  have hP : va_P D vwCl ([(a, .inr (8, [.int (iI (th)), .int (iI (σ 0)), .int (iI (σ 1)), .int (iI (σ 2)), .int (iI (σ 3)), .int (iI (σ 4)), .int (iI (σ 5)), .int (iI (σ 6)), .ref ta, .int (iI (σ 7)), .ref pa, .int (iI (σ 9)), .int (iI (σ 10))])), (ta, .inl (cI, 40, .inl (fun j => iI (T j)))), (pa, .inl (cI, 110, .inl (fun j => iI (P j))))]) s.heap := hP
  have hD : va_D (va_A (WMo cI a ta pa th σ T P) sz) ([(a, .inr (8, [.int (iI (th)), .int (iI (σ 0)), .int (iI (σ 1)), .int (iI (σ 2)), .int (iI (σ 3)), .int (iI (σ 4)), .int (iI (σ 5)), .int (iI (σ 6)), .ref ta, .int (iI (σ 7)), .ref pa, .int (iI (σ 9)), .int (iI (σ 10))])), (ta, .inl (cI, 40, .inl (fun j => iI (T j)))), (pa, .inl (cI, 110, .inl (fun j => iI (P j))))]) := hD
  obtain ⟨w0, w1, w2, w3, w4, w5, w6, w7, w8⟩ := id hW
  refine lv_aload_n hx hb dX6_sheet_0 rfl (lv_at hl 0 rfl) ?_
  refine q_iconst hx hb dX6_sheet_1 ?_
  refine va_put (D := D) (ci := 8) (v := .int (iI (0))) (ty := .int) (C := RX6) (T := TX6) (N := 13) hx hb hts hin_X6 tyX6 tyX6_ok nmX6 hown hK hP hD hS 0 rfl rfl 0 (by decide) (hts (.fieldLink RX6 30 "AlmanacHouseModel" "thrown" "I") (List.mem_of_getElem? (i := 1) rfl)) (fun _ h9 => h9) rfl (by decide +kernel) rfl rfl (Nat.le_of_ble_eq_true rfl) dX6_sheet_2 (fun H locs hP hD hS => ?_)
  have hP : va_P D vwCl ([(a, .inr (8, [.int (iI (0)), .int (iI (σ 0)), .int (iI (σ 1)), .int (iI (σ 2)), .int (iI (σ 3)), .int (iI (σ 4)), .int (iI (σ 5)), .int (iI (σ 6)), .ref ta, .int (iI (σ 7)), .ref pa, .int (iI (σ 9)), .int (iI (σ 10))])), (ta, .inl (cI, 40, .inl (fun j => iI (T j)))), (pa, .inl (cI, 110, .inl (fun j => iI (P j))))]) H := hP
  have hD : va_D (va_A (WMo cI a ta pa th σ T P) sz) ([(a, .inr (8, [.int (iI (0)), .int (iI (σ 0)), .int (iI (σ 1)), .int (iI (σ 2)), .int (iI (σ 3)), .int (iI (σ 4)), .int (iI (σ 5)), .int (iI (σ 6)), .ref ta, .int (iI (σ 7)), .ref pa, .int (iI (σ 9)), .int (iI (σ 10))])), (ta, .inl (cI, 40, .inl (fun j => iI (T j)))), (pa, .inl (cI, 110, .inl (fun j => iI (P j))))]) := hD
  refine lv_aload_n hx hb dX6_sheet_5 rfl (lv_at hl 0 rfl) ?_
  refine lv_iload_n hx hb dX6_sheet_6 rfl (lv_at hl 1 rfl) ?_
  refine q_callV (fr := 1) (lo := 22) (nL := 3) (Pic := PicM D cI a ta pa (0) σ T (P)) (As := [.int (iI (j))]) (rest := []) ⟨hx, hb, hml, hown, hts⟩ (c_isSheetM l D cI cO cL a ta pa (0) σ T (P) hW hS0 (j) (by omega)) (cwV 1 hts gX6_sheet_X6_isSheet rfl rfl rfl (by decide +kernel) ⟨Nat.le_of_ble_eq_true rfl, Nat.le_of_ble_eq_true rfl⟩) (ob_recv (hP 0 _ rfl) hK rfl) hP hK rfl hl.1 rfl (Nat.le_of_ble_eq_true rfl) dX6_sheet_7 (Nat.zero_le _) (Nat.zero_le _) ?_
  refine q_pif_eq (tgt := 31) hx hb dX6_sheet_10 (by decide) (fun c_1 => ?_) (fun c_1 => ?_)
  · skip
    refine lv_aload_n hx hb dX6_sheet_31 rfl (lv_at hl 0 rfl) ?_
    refine q_iconst hx hb dX6_sheet_32 ?_
    have hPc := hP.sub (ws' := [(a, .inr (8, [.int (iI (0)), .int (iI (σ 0)), .int (iI (σ 1)), .int (iI (σ 2)), .int (iI (σ 3)), .int (iI (σ 4)), .int (iI (σ 5)), .int (iI (σ 6)), .ref ta, .int (iI (σ 7)), .ref pa, .int (iI (σ 9)), .int (iI (σ 10))]))]) [0] rfl
    have hDc := hD.sub (ws' := [(a, .inr (8, [.int (iI (0)), .int (iI (σ 0)), .int (iI (σ 1)), .int (iI (σ 2)), .int (iI (σ 3)), .int (iI (σ 4)), .int (iI (σ 5)), .int (iI (σ 6)), .ref ta, .int (iI (σ 7)), .ref pa, .int (iI (σ 9)), .int (iI (σ 10))]))]) [0] (by decide) rfl
    have hFc := va_free (wc := [(a, .inr (8, [.int (iI (0)), .int (iI (σ 0)), .int (iI (σ 1)), .int (iI (σ 2)), .int (iI (σ 3)), .int (iI (σ 4)), .int (iI (σ 5)), .int (iI (σ 6)), .ref ta, .int (iI (σ 7)), .ref pa, .int (iI (σ 9)), .int (iI (σ 10))]))]) hD hS hA [0] rfl
    refine q_callU (fr := 0) (lo := 0) (nL := 3) (As := [.int (iI (1))]) (rest := []) ⟨hx, hb, hml, hown, hts⟩ (u_fail l D _ _ a (0) (1) _ _ _ _ _ _ _ _ _ _ _ _) (cwV 1 hts gX6_sheet_X6_fail rfl rfl rfl (by decide +kernel) ⟨Nat.le_of_ble_eq_true rfl, Nat.le_of_ble_eq_true rfl⟩) (ob_recv (hP 0 _ rfl) hK rfl) hPc (hDc.weaken (fun _ _ _ _ => trivial)) hFc hS hK rfl hl.1 rfl (Nat.le_of_ble_eq_true rfl) dX6_sheet_33 (Nat.le_of_ble_eq_true rfl) (Nat.le_of_ble_eq_true rfl) ?_
    intro r H1 locs1 hr1 hP1 hk1 hS1
    have hr2 := hr1 rfl
    subst hr2
    have hP1 := (hP1.resolve_right (fun z => z.1 rfl)).2
    have hP2 : va_P D vwCl ([(a, .inr (8, [.int (iI (1)), .int (iI (σ 0)), .int (iI (σ 1)), .int (iI (σ 2)), .int (iI (σ 3)), .int (iI (σ 4)), .int (iI (σ 5)), .int (iI (σ 6)), .ref ta, .int (iI (σ 7)), .ref pa, .int (iI (σ 9)), .int (iI (σ 10))])), (ta, .inl (cI, 40, .inl (fun j => iI (T j)))), (pa, .inl (cI, 110, .inl (fun j => iI (P j))))]) H1 := va_upd (A0 := fun _ => True) hP hk1 hP1 (by
      intro q hq
      simp only [List.mem_cons, List.not_mem_nil, or_false] at hq
      rcases hq with rfl | rfl | rfl
      · exact Or.inl (List.mem_of_getElem? (i := 0) rfl)
      · refine Or.inr ⟨List.mem_of_getElem? (i := 1) rfl, fun z hz => ?_⟩
        simp only [List.mem_cons, List.not_mem_nil, or_false] at hz
        rcases hz with rfl
        · exact vaD_ne hD (i := 0) (j := 1) rfl rfl (by decide)
      · refine Or.inr ⟨List.mem_of_getElem? (i := 2) rfl, fun z hz => ?_⟩
        simp only [List.mem_cons, List.not_mem_nil, or_false] at hz
        rcases hz with rfl
        · exact vaD_ne hD (i := 0) (j := 2) rfl rfl (by decide))
    have hD2 : va_D (va_A (WMo cI a ta pa th σ T P) sz) ([(a, .inr (8, [.int (iI (1)), .int (iI (σ 0)), .int (iI (σ 1)), .int (iI (σ 2)), .int (iI (σ 3)), .int (iI (σ 4)), .int (iI (σ 5)), .int (iI (σ 6)), .ref ta, .int (iI (σ 7)), .ref pa, .int (iI (σ 9)), .int (iI (σ 10))])), (ta, .inl (cI, 40, .inl (fun j => iI (T j)))), (pa, .inl (cI, 110, .inl (fun j => iI (P j))))]) := vaD_addr hD rfl
    clear hP hD hS hPc hDc hFc hP1 hk1
    have hP := hP2; have hD := hD2; have hS := hS1
    clear hP2 hD2 hS1
    generalize H1 = H at hP hS ⊢
    generalize locs1 = locs at hS ⊢
    have hER : (if (0 ≤ j ∧ j < σ 7) ∧ (0 ≤ x ∧ x ≤ 4) then 0 else 1 : Int) = 1 := by (repeat' split) <;> omega
    exact q_uret (ws := []) hx hb hr hlocks hS (Or.inr ⟨by rw [hER]; decide, by rw [hER]; exact hP⟩) (fun h => absurd (hER.symm.trans h) (by decide)) (Nat.le_of_ble_eq_true rfl) (Nat.le_of_ble_eq_true rfl) dX6_sheet_36
  · skip
    refine lv_iload_n hx hb dX6_sheet_13 rfl (lv_at hl 2 rfl) ?_
    refine q_iconst hx hb dX6_sheet_14 ?_
    refine q_iconst hx hb dX6_sheet_15 ?_
    refine q_callS (fr := 0) (lo := 0) (nL := 3) (Pic := fun _ => True) (As := [.int (iI (x)), .int (iI (0)), .int (iI (4))]) (rest := []) ⟨hx, hb, hml, hown, hts⟩ (c_isIn l D (ty3 cI cO cL) (x) (0) (4) (by omega) (by omega) (by omega)) (va_cwS 3 hts gX6_sheet_X6_isIn rfl rfl rfl (by decide +kernel) ⟨Nat.le_of_ble_eq_true rfl, Nat.le_of_ble_eq_true rfl⟩) trivial hK rfl hl.1 rfl (Nat.le_of_ble_eq_true rfl) dX6_sheet_16 (Nat.zero_le _) (Nat.zero_le _) ?_
    refine q_pif_eq (tgt := 31) hx hb dX6_sheet_19 (by decide) (fun c_2 => ?_) (fun c_2 => ?_)
    · skip
      refine lv_aload_n hx hb dX6_sheet_31 rfl (lv_at hl 0 rfl) ?_
      refine q_iconst hx hb dX6_sheet_32 ?_
      have hPc := hP.sub (ws' := [(a, .inr (8, [.int (iI (0)), .int (iI (σ 0)), .int (iI (σ 1)), .int (iI (σ 2)), .int (iI (σ 3)), .int (iI (σ 4)), .int (iI (σ 5)), .int (iI (σ 6)), .ref ta, .int (iI (σ 7)), .ref pa, .int (iI (σ 9)), .int (iI (σ 10))]))]) [0] rfl
      have hDc := hD.sub (ws' := [(a, .inr (8, [.int (iI (0)), .int (iI (σ 0)), .int (iI (σ 1)), .int (iI (σ 2)), .int (iI (σ 3)), .int (iI (σ 4)), .int (iI (σ 5)), .int (iI (σ 6)), .ref ta, .int (iI (σ 7)), .ref pa, .int (iI (σ 9)), .int (iI (σ 10))]))]) [0] (by decide) rfl
      have hFc := va_free (wc := [(a, .inr (8, [.int (iI (0)), .int (iI (σ 0)), .int (iI (σ 1)), .int (iI (σ 2)), .int (iI (σ 3)), .int (iI (σ 4)), .int (iI (σ 5)), .int (iI (σ 6)), .ref ta, .int (iI (σ 7)), .ref pa, .int (iI (σ 9)), .int (iI (σ 10))]))]) hD hS hA [0] rfl
      refine q_callU (fr := 0) (lo := 0) (nL := 3) (As := [.int (iI (1))]) (rest := []) ⟨hx, hb, hml, hown, hts⟩ (u_fail l D _ _ a (0) (1) _ _ _ _ _ _ _ _ _ _ _ _) (cwV 1 hts gX6_sheet_X6_fail rfl rfl rfl (by decide +kernel) ⟨Nat.le_of_ble_eq_true rfl, Nat.le_of_ble_eq_true rfl⟩) (ob_recv (hP 0 _ rfl) hK rfl) hPc (hDc.weaken (fun _ _ _ _ => trivial)) hFc hS hK rfl hl.1 rfl (Nat.le_of_ble_eq_true rfl) dX6_sheet_33 (Nat.le_of_ble_eq_true rfl) (Nat.le_of_ble_eq_true rfl) ?_
      intro r H1 locs1 hr1 hP1 hk1 hS1
      have hr2 := hr1 rfl
      subst hr2
      have hP1 := (hP1.resolve_right (fun z => z.1 rfl)).2
      have hP2 : va_P D vwCl ([(a, .inr (8, [.int (iI (1)), .int (iI (σ 0)), .int (iI (σ 1)), .int (iI (σ 2)), .int (iI (σ 3)), .int (iI (σ 4)), .int (iI (σ 5)), .int (iI (σ 6)), .ref ta, .int (iI (σ 7)), .ref pa, .int (iI (σ 9)), .int (iI (σ 10))])), (ta, .inl (cI, 40, .inl (fun j => iI (T j)))), (pa, .inl (cI, 110, .inl (fun j => iI (P j))))]) H1 := va_upd (A0 := fun _ => True) hP hk1 hP1 (by
        intro q hq
        simp only [List.mem_cons, List.not_mem_nil, or_false] at hq
        rcases hq with rfl | rfl | rfl
        · exact Or.inl (List.mem_of_getElem? (i := 0) rfl)
        · refine Or.inr ⟨List.mem_of_getElem? (i := 1) rfl, fun z hz => ?_⟩
          simp only [List.mem_cons, List.not_mem_nil, or_false] at hz
          rcases hz with rfl
          · exact vaD_ne hD (i := 0) (j := 1) rfl rfl (by decide)
        · refine Or.inr ⟨List.mem_of_getElem? (i := 2) rfl, fun z hz => ?_⟩
          simp only [List.mem_cons, List.not_mem_nil, or_false] at hz
          rcases hz with rfl
          · exact vaD_ne hD (i := 0) (j := 2) rfl rfl (by decide))
      have hD2 : va_D (va_A (WMo cI a ta pa th σ T P) sz) ([(a, .inr (8, [.int (iI (1)), .int (iI (σ 0)), .int (iI (σ 1)), .int (iI (σ 2)), .int (iI (σ 3)), .int (iI (σ 4)), .int (iI (σ 5)), .int (iI (σ 6)), .ref ta, .int (iI (σ 7)), .ref pa, .int (iI (σ 9)), .int (iI (σ 10))])), (ta, .inl (cI, 40, .inl (fun j => iI (T j)))), (pa, .inl (cI, 110, .inl (fun j => iI (P j))))]) := vaD_addr hD rfl
      clear hP hD hS hPc hDc hFc hP1 hk1
      have hP := hP2; have hD := hD2; have hS := hS1
      clear hP2 hD2 hS1
      generalize H1 = H at hP hS ⊢
      generalize locs1 = locs at hS ⊢
      have hER : (if (0 ≤ j ∧ j < σ 7) ∧ (0 ≤ x ∧ x ≤ 4) then 0 else 1 : Int) = 1 := by (repeat' split) <;> omega
      exact q_uret (ws := []) hx hb hr hlocks hS (Or.inr ⟨by rw [hER]; decide, by rw [hER]; exact hP⟩) (fun h => absurd (hER.symm.trans h) (by decide)) (Nat.le_of_ble_eq_true rfl) (Nat.le_of_ble_eq_true rfl) dX6_sheet_36
    · skip
      refine lv_aload_n hx hb dX6_sheet_22 rfl (lv_at hl 0 rfl) ?_
      refine lv_iload_n hx hb dX6_sheet_23 rfl (lv_at hl 1 rfl) ?_
      refine lv_iload_n hx hb dX6_sheet_24 rfl (lv_at hl 2 rfl) ?_
      refine q_callV (fr := 6) (lo := 135) (nL := 3) (Pic := PicM D cI a ta pa (0) σ T (P)) (As := [.int (iI (j)), .int (iI (x))]) (rest := []) ⟨hx, hb, hml, hown, hts⟩ (c_sheetTold l D cI cO cL a ta pa (0) σ T (P) hW hS0 (j) (x) (by omega) (by omega)) (cwV 2 hts gX6_sheet_X6_sheetTold rfl rfl rfl (by decide +kernel) ⟨Nat.le_of_ble_eq_true rfl, Nat.le_of_ble_eq_true rfl⟩) (ob_recv (hP 0 _ rfl) hK rfl) hP hK rfl hl.1 rfl (Nat.le_of_ble_eq_true rfl) dX6_sheet_25 (Nat.zero_le _) (Nat.zero_le _) ?_
      refine lv_goto (tgt := 36) hx hb dX6_sheet_28 (by decide) ?_
      have hER : (if (0 ≤ j ∧ j < σ 7) ∧ (0 ≤ x ∧ x ≤ 4) then 0 else 1 : Int) = 0 := by (repeat' split) <;> omega
      exact q_uret (ws := []) hx hb hr hlocks hS (Or.inl ⟨hER, hP⟩) (fun _ => rfl) (Nat.le_of_ble_eq_true rfl) (Nat.le_of_ble_eq_true rfl) dX6_sheet_36
set_option maxHeartbeats 4000000 in
set_option maxRecDepth 100000 in
theorem u_printed (l : Launch) (D : va_G) (sz : Nat) (cI cO cL : ClassId) (a ta pa : Nat) (th : Int) (σ T P : Nat → Int) (hW : WF σ T) (hS0 : WS σ P) (j f : Int) (hjr : -2147483648 ≤ j ∧ j < 2147483648) (hfr : -2147483648 ≤ f ∧ f < 2147483648) : MU l yX6_printed wsX6_printed 2 43 0 0 D (ty3 cI cO cL) sz (WMo cI a ta pa th σ T P) [.ref a, .int (iI (j)), .int (iI (f))] (if (0 ≤ j ∧ j < σ 7) ∧ (0 ≤ f ∧ f < P (11 * j.toNat + 1)) then 0 else 1) (P (11 * j.toNat + 3 + f.toNat)) (WMo cI a ta pa 0 (σ) (T) (P)) (WMo cI a ta pa (if (0 ≤ j ∧ j < σ 7) ∧ (0 ≤ f ∧ f < P (11 * j.toNat + 1)) then 0 else 1) σ T P) := by
  refine MU_of (cc := cX6_printed) (maxL := 3) (ret := (some .int)) (by decide) rfl (Nat.le_of_ble_eq_true rfl) ?_
  intro p e s m args below meth c ls hx hb hr hlocks hml hown hts hsz hP hK hD hS hA hl
  have hl : lv_has ls 3 [(0, .ref a), (1, .int (iI (j))), (2, .int (iI (f)))] := hl
  have hin_X6 : ∀ w ∈ u_ws RX6 TX6 13, w ∈ wsX6_printed := (fun w h => List.mem_cons_of_mem _ (List.mem_append_right _ h))
  have hP : va_P D vwCl ([(a, .inr (8, [.int (iI (th)), .int (iI (σ 0)), .int (iI (σ 1)), .int (iI (σ 2)), .int (iI (σ 3)), .int (iI (σ 4)), .int (iI (σ 5)), .int (iI (σ 6)), .ref ta, .int (iI (σ 7)), .ref pa, .int (iI (σ 9)), .int (iI (σ 10))])), (ta, .inl (cI, 40, .inl (fun j => iI (T j)))), (pa, .inl (cI, 110, .inl (fun j => iI (P j))))]) s.heap := hP
  have hD : va_D (va_A (WMo cI a ta pa th σ T P) sz) ([(a, .inr (8, [.int (iI (th)), .int (iI (σ 0)), .int (iI (σ 1)), .int (iI (σ 2)), .int (iI (σ 3)), .int (iI (σ 4)), .int (iI (σ 5)), .int (iI (σ 6)), .ref ta, .int (iI (σ 7)), .ref pa, .int (iI (σ 9)), .int (iI (σ 10))])), (ta, .inl (cI, 40, .inl (fun j => iI (T j)))), (pa, .inl (cI, 110, .inl (fun j => iI (P j))))]) := hD
  obtain ⟨w0, w1, w2, w3, w4, w5, w6, w7, w8⟩ := id hW
  refine lv_aload_n hx hb dX6_printed_0 rfl (lv_at hl 0 rfl) ?_
  refine q_iconst hx hb dX6_printed_1 ?_
  refine va_put (D := D) (ci := 8) (v := .int (iI (0))) (ty := .int) (C := RX6) (T := TX6) (N := 13) hx hb hts hin_X6 tyX6 tyX6_ok nmX6 hown hK hP hD hS 0 rfl rfl 0 (by decide) (hts (.fieldLink RX6 30 "AlmanacHouseModel" "thrown" "I") (List.mem_of_getElem? (i := 1) rfl)) (fun _ h9 => h9) rfl (by decide +kernel) rfl rfl (Nat.le_of_ble_eq_true rfl) dX6_printed_2 (fun H locs hP hD hS => ?_)
  have hP : va_P D vwCl ([(a, .inr (8, [.int (iI (0)), .int (iI (σ 0)), .int (iI (σ 1)), .int (iI (σ 2)), .int (iI (σ 3)), .int (iI (σ 4)), .int (iI (σ 5)), .int (iI (σ 6)), .ref ta, .int (iI (σ 7)), .ref pa, .int (iI (σ 9)), .int (iI (σ 10))])), (ta, .inl (cI, 40, .inl (fun j => iI (T j)))), (pa, .inl (cI, 110, .inl (fun j => iI (P j))))]) H := hP
  have hD : va_D (va_A (WMo cI a ta pa th σ T P) sz) ([(a, .inr (8, [.int (iI (0)), .int (iI (σ 0)), .int (iI (σ 1)), .int (iI (σ 2)), .int (iI (σ 3)), .int (iI (σ 4)), .int (iI (σ 5)), .int (iI (σ 6)), .ref ta, .int (iI (σ 7)), .ref pa, .int (iI (σ 9)), .int (iI (σ 10))])), (ta, .inl (cI, 40, .inl (fun j => iI (T j)))), (pa, .inl (cI, 110, .inl (fun j => iI (P j))))]) := hD
  refine lv_aload_n hx hb dX6_printed_5 rfl (lv_at hl 0 rfl) ?_
  refine lv_iload_n hx hb dX6_printed_6 rfl (lv_at hl 1 rfl) ?_
  refine q_callV (fr := 1) (lo := 22) (nL := 3) (Pic := PicM D cI a ta pa (0) σ T (P)) (As := [.int (iI (j))]) (rest := []) ⟨hx, hb, hml, hown, hts⟩ (c_isSheetM l D cI cO cL a ta pa (0) σ T (P) hW hS0 (j) (by omega)) (cwV 1 hts gX6_printed_X6_isSheet rfl rfl rfl (by decide +kernel) ⟨Nat.le_of_ble_eq_true rfl, Nat.le_of_ble_eq_true rfl⟩) (ob_recv (hP 0 _ rfl) hK rfl) hP hK rfl hl.1 rfl (Nat.le_of_ble_eq_true rfl) dX6_printed_7 (Nat.zero_le _) (Nat.zero_le _) ?_
  refine q_pif_eq (tgt := 40) hx hb dX6_printed_10 (by decide) (fun c_1 => ?_) (fun c_1 => ?_)
  · skip
    refine lv_aload_n hx hb dX6_printed_40 rfl (lv_at hl 0 rfl) ?_
    refine q_iconst hx hb dX6_printed_41 ?_
    have hPc := hP.sub (ws' := [(a, .inr (8, [.int (iI (0)), .int (iI (σ 0)), .int (iI (σ 1)), .int (iI (σ 2)), .int (iI (σ 3)), .int (iI (σ 4)), .int (iI (σ 5)), .int (iI (σ 6)), .ref ta, .int (iI (σ 7)), .ref pa, .int (iI (σ 9)), .int (iI (σ 10))]))]) [0] rfl
    have hDc := hD.sub (ws' := [(a, .inr (8, [.int (iI (0)), .int (iI (σ 0)), .int (iI (σ 1)), .int (iI (σ 2)), .int (iI (σ 3)), .int (iI (σ 4)), .int (iI (σ 5)), .int (iI (σ 6)), .ref ta, .int (iI (σ 7)), .ref pa, .int (iI (σ 9)), .int (iI (σ 10))]))]) [0] (by decide) rfl
    have hFc := va_free (wc := [(a, .inr (8, [.int (iI (0)), .int (iI (σ 0)), .int (iI (σ 1)), .int (iI (σ 2)), .int (iI (σ 3)), .int (iI (σ 4)), .int (iI (σ 5)), .int (iI (σ 6)), .ref ta, .int (iI (σ 7)), .ref pa, .int (iI (σ 9)), .int (iI (σ 10))]))]) hD hS hA [0] rfl
    refine q_callU (fr := 0) (lo := 0) (nL := 3) (As := [.int (iI (1))]) (rest := []) ⟨hx, hb, hml, hown, hts⟩ (u_fail l D _ _ a (0) (1) _ _ _ _ _ _ _ _ _ _ _ _) (cwV 1 hts gX6_printed_X6_fail rfl rfl rfl (by decide +kernel) ⟨Nat.le_of_ble_eq_true rfl, Nat.le_of_ble_eq_true rfl⟩) (ob_recv (hP 0 _ rfl) hK rfl) hPc (hDc.weaken (fun _ _ _ _ => trivial)) hFc hS hK rfl hl.1 rfl (Nat.le_of_ble_eq_true rfl) dX6_printed_42 (Nat.le_of_ble_eq_true rfl) (Nat.le_of_ble_eq_true rfl) ?_
    intro r H1 locs1 hr1 hP1 hk1 hS1
    have hr2 := hr1 rfl
    subst hr2
    have hP1 := (hP1.resolve_right (fun z => z.1 rfl)).2
    have hP2 : va_P D vwCl ([(a, .inr (8, [.int (iI (1)), .int (iI (σ 0)), .int (iI (σ 1)), .int (iI (σ 2)), .int (iI (σ 3)), .int (iI (σ 4)), .int (iI (σ 5)), .int (iI (σ 6)), .ref ta, .int (iI (σ 7)), .ref pa, .int (iI (σ 9)), .int (iI (σ 10))])), (ta, .inl (cI, 40, .inl (fun j => iI (T j)))), (pa, .inl (cI, 110, .inl (fun j => iI (P j))))]) H1 := va_upd (A0 := fun _ => True) hP hk1 hP1 (by
      intro q hq
      simp only [List.mem_cons, List.not_mem_nil, or_false] at hq
      rcases hq with rfl | rfl | rfl
      · exact Or.inl (List.mem_of_getElem? (i := 0) rfl)
      · refine Or.inr ⟨List.mem_of_getElem? (i := 1) rfl, fun z hz => ?_⟩
        simp only [List.mem_cons, List.not_mem_nil, or_false] at hz
        rcases hz with rfl
        · exact vaD_ne hD (i := 0) (j := 1) rfl rfl (by decide)
      · refine Or.inr ⟨List.mem_of_getElem? (i := 2) rfl, fun z hz => ?_⟩
        simp only [List.mem_cons, List.not_mem_nil, or_false] at hz
        rcases hz with rfl
        · exact vaD_ne hD (i := 0) (j := 2) rfl rfl (by decide))
    have hD2 : va_D (va_A (WMo cI a ta pa th σ T P) sz) ([(a, .inr (8, [.int (iI (1)), .int (iI (σ 0)), .int (iI (σ 1)), .int (iI (σ 2)), .int (iI (σ 3)), .int (iI (σ 4)), .int (iI (σ 5)), .int (iI (σ 6)), .ref ta, .int (iI (σ 7)), .ref pa, .int (iI (σ 9)), .int (iI (σ 10))])), (ta, .inl (cI, 40, .inl (fun j => iI (T j)))), (pa, .inl (cI, 110, .inl (fun j => iI (P j))))]) := vaD_addr hD rfl
    clear hP hD hS hPc hDc hFc hP1 hk1
    have hP := hP2; have hD := hD2; have hS := hS1
    clear hP2 hD2 hS1
    generalize H1 = H at hP hS ⊢
    generalize locs1 = locs at hS ⊢
    have hER : (if (0 ≤ j ∧ j < σ 7) ∧ (0 ≤ f ∧ f < P (11 * j.toNat + 1)) then 0 else 1 : Int) = 1 := by (repeat' split) <;> omega
    exact q_uret (ws := []) hx hb hr hlocks hS (Or.inr ⟨by rw [hER]; decide, by rw [hER]; exact hP⟩) (fun h => absurd (hER.symm.trans h) (by decide)) (Nat.le_of_ble_eq_true rfl) (Nat.le_of_ble_eq_true rfl) dX6_printed_45
  · skip
    refine lv_iload_n hx hb dX6_printed_13 rfl (lv_at hl 2 rfl) ?_
    refine q_iconst hx hb dX6_printed_14 ?_
    obtain ⟨s1, s2, s3, s4⟩ := hS0 j.toNat (by omega)
    refine lv_aload_n hx hb dX6_printed_15 rfl (lv_at hl 0 rfl) ?_
    refine lv_iload_n hx hb dX6_printed_16 rfl (lv_at hl 1 rfl) ?_
    refine q_iconst hx hb dX6_printed_17 ?_
    refine q_callV (fr := 0) (lo := 0) (nL := 3) (Pic := PicM D cI a ta pa (0) σ T (P)) (As := [.int (iI (j)), .int (iI (1))]) (rest := [.int (iI (0)), .int (iI (f))]) ⟨hx, hb, hml, hown, hts⟩ (c_pa l D cI cO cL a ta pa (0) σ T (P) hW hS0 (j) (1) (11 * Int.toNat (j) + 1) (by omega) (by omega)) (cwV 2 hts gX6_printed_X6_pa rfl rfl rfl (by decide +kernel) ⟨Nat.le_of_ble_eq_true rfl, Nat.le_of_ble_eq_true rfl⟩) (ob_recv (hP 0 _ rfl) hK rfl) hP hK rfl hl.1 rfl (Nat.le_of_ble_eq_true rfl) dX6_printed_18 (Nat.zero_le _) (Nat.zero_le _) ?_
    refine q_iconst hx hb dX6_printed_21 ?_
    refine q_isub hx hb dX6_printed_22 ?_
    refine q_callS (fr := 0) (lo := 0) (nL := 3) (Pic := fun _ => True) (As := [.int (iI (f)), .int (iI (0)), .int (iI ((P (11 * Int.toNat (j) + 1)) - (1)))]) (rest := []) ⟨hx, hb, hml, hown, hts⟩ (c_isIn l D (ty3 cI cO cL) (f) (0) ((P (11 * Int.toNat (j) + 1)) - (1)) (by omega) (by omega) (by omega)) (va_cwS 3 hts gX6_printed_X6_isIn rfl rfl rfl (by decide +kernel) ⟨Nat.le_of_ble_eq_true rfl, Nat.le_of_ble_eq_true rfl⟩) trivial hK rfl hl.1 rfl (Nat.le_of_ble_eq_true rfl) dX6_printed_23 (Nat.zero_le _) (Nat.zero_le _) ?_
    refine q_pif_eq (tgt := 40) hx hb dX6_printed_26 (by decide) (fun c_2 => ?_) (fun c_2 => ?_)
    · skip
      refine lv_aload_n hx hb dX6_printed_40 rfl (lv_at hl 0 rfl) ?_
      refine q_iconst hx hb dX6_printed_41 ?_
      have hPc := hP.sub (ws' := [(a, .inr (8, [.int (iI (0)), .int (iI (σ 0)), .int (iI (σ 1)), .int (iI (σ 2)), .int (iI (σ 3)), .int (iI (σ 4)), .int (iI (σ 5)), .int (iI (σ 6)), .ref ta, .int (iI (σ 7)), .ref pa, .int (iI (σ 9)), .int (iI (σ 10))]))]) [0] rfl
      have hDc := hD.sub (ws' := [(a, .inr (8, [.int (iI (0)), .int (iI (σ 0)), .int (iI (σ 1)), .int (iI (σ 2)), .int (iI (σ 3)), .int (iI (σ 4)), .int (iI (σ 5)), .int (iI (σ 6)), .ref ta, .int (iI (σ 7)), .ref pa, .int (iI (σ 9)), .int (iI (σ 10))]))]) [0] (by decide) rfl
      have hFc := va_free (wc := [(a, .inr (8, [.int (iI (0)), .int (iI (σ 0)), .int (iI (σ 1)), .int (iI (σ 2)), .int (iI (σ 3)), .int (iI (σ 4)), .int (iI (σ 5)), .int (iI (σ 6)), .ref ta, .int (iI (σ 7)), .ref pa, .int (iI (σ 9)), .int (iI (σ 10))]))]) hD hS hA [0] rfl
      refine q_callU (fr := 0) (lo := 0) (nL := 3) (As := [.int (iI (1))]) (rest := []) ⟨hx, hb, hml, hown, hts⟩ (u_fail l D _ _ a (0) (1) _ _ _ _ _ _ _ _ _ _ _ _) (cwV 1 hts gX6_printed_X6_fail rfl rfl rfl (by decide +kernel) ⟨Nat.le_of_ble_eq_true rfl, Nat.le_of_ble_eq_true rfl⟩) (ob_recv (hP 0 _ rfl) hK rfl) hPc (hDc.weaken (fun _ _ _ _ => trivial)) hFc hS hK rfl hl.1 rfl (Nat.le_of_ble_eq_true rfl) dX6_printed_42 (Nat.le_of_ble_eq_true rfl) (Nat.le_of_ble_eq_true rfl) ?_
      intro r H1 locs1 hr1 hP1 hk1 hS1
      have hr2 := hr1 rfl
      subst hr2
      have hP1 := (hP1.resolve_right (fun z => z.1 rfl)).2
      have hP2 : va_P D vwCl ([(a, .inr (8, [.int (iI (1)), .int (iI (σ 0)), .int (iI (σ 1)), .int (iI (σ 2)), .int (iI (σ 3)), .int (iI (σ 4)), .int (iI (σ 5)), .int (iI (σ 6)), .ref ta, .int (iI (σ 7)), .ref pa, .int (iI (σ 9)), .int (iI (σ 10))])), (ta, .inl (cI, 40, .inl (fun j => iI (T j)))), (pa, .inl (cI, 110, .inl (fun j => iI (P j))))]) H1 := va_upd (A0 := fun _ => True) hP hk1 hP1 (by
        intro q hq
        simp only [List.mem_cons, List.not_mem_nil, or_false] at hq
        rcases hq with rfl | rfl | rfl
        · exact Or.inl (List.mem_of_getElem? (i := 0) rfl)
        · refine Or.inr ⟨List.mem_of_getElem? (i := 1) rfl, fun z hz => ?_⟩
          simp only [List.mem_cons, List.not_mem_nil, or_false] at hz
          rcases hz with rfl
          · exact vaD_ne hD (i := 0) (j := 1) rfl rfl (by decide)
        · refine Or.inr ⟨List.mem_of_getElem? (i := 2) rfl, fun z hz => ?_⟩
          simp only [List.mem_cons, List.not_mem_nil, or_false] at hz
          rcases hz with rfl
          · exact vaD_ne hD (i := 0) (j := 2) rfl rfl (by decide))
      have hD2 : va_D (va_A (WMo cI a ta pa th σ T P) sz) ([(a, .inr (8, [.int (iI (1)), .int (iI (σ 0)), .int (iI (σ 1)), .int (iI (σ 2)), .int (iI (σ 3)), .int (iI (σ 4)), .int (iI (σ 5)), .int (iI (σ 6)), .ref ta, .int (iI (σ 7)), .ref pa, .int (iI (σ 9)), .int (iI (σ 10))])), (ta, .inl (cI, 40, .inl (fun j => iI (T j)))), (pa, .inl (cI, 110, .inl (fun j => iI (P j))))]) := vaD_addr hD rfl
      clear hP hD hS hPc hDc hFc hP1 hk1
      have hP := hP2; have hD := hD2; have hS := hS1
      clear hP2 hD2 hS1
      generalize H1 = H at hP hS ⊢
      generalize locs1 = locs at hS ⊢
      have hER : (if (0 ≤ j ∧ j < σ 7) ∧ (0 ≤ f ∧ f < P (11 * j.toNat + 1)) then 0 else 1 : Int) = 1 := by (repeat' split) <;> omega
      exact q_uret (ws := []) hx hb hr hlocks hS (Or.inr ⟨by rw [hER]; decide, by rw [hER]; exact hP⟩) (fun h => absurd (hER.symm.trans h) (by decide)) (Nat.le_of_ble_eq_true rfl) (Nat.le_of_ble_eq_true rfl) dX6_printed_45
    · skip
      refine lv_aload_n hx hb dX6_printed_29 rfl (lv_at hl 0 rfl) ?_
      refine lv_iload_n hx hb dX6_printed_30 rfl (lv_at hl 1 rfl) ?_
      refine q_iconst hx hb dX6_printed_31 ?_
      refine lv_iload_n hx hb dX6_printed_32 rfl (lv_at hl 2 rfl) ?_
      refine q_iadd hx hb dX6_printed_33 ?_
      refine q_callV (fr := 0) (lo := 0) (nL := 3) (Pic := PicM D cI a ta pa (0) σ T (P)) (As := [.int (iI (j)), .int (iI (3 + f))]) (rest := []) ⟨hx, hb, hml, hown, hts⟩ (c_pa l D cI cO cL a ta pa (0) σ T (P) hW hS0 (j) (3 + f) (11 * Int.toNat (j) + 3 + Int.toNat (f)) (by omega) (by omega)) (cwV 2 hts gX6_printed_X6_pa rfl rfl rfl (by decide +kernel) ⟨Nat.le_of_ble_eq_true rfl, Nat.le_of_ble_eq_true rfl⟩) (ob_recv (hP 0 _ rfl) hK rfl) hP hK rfl hl.1 rfl (Nat.le_of_ble_eq_true rfl) dX6_printed_34 (Nat.zero_le _) (Nat.zero_le _) ?_
      refine lv_goto (tgt := 45) hx hb dX6_printed_37 (by decide) ?_
      have hER : (if (0 ≤ j ∧ j < σ 7) ∧ (0 ≤ f ∧ f < P (11 * j.toNat + 1)) then 0 else 1 : Int) = 0 := by (repeat' split) <;> omega
      exact q_uret (ws := []) hx hb hr hlocks hS (Or.inl ⟨hER, hP⟩) (fun _ => rfl) (Nat.le_of_ble_eq_true rfl) (Nat.le_of_ble_eq_true rfl) dX6_printed_45
set_option maxHeartbeats 4000000 in
set_option maxRecDepth 100000 in
theorem u_count (l : Launch) (D : va_G) (sz : Nat) (cI cO cL : ClassId) (a ta pa : Nat) (th : Int) (σ T P : Nat → Int) (hW : WF σ T) (hS0 : WS σ P) (x : Int) (hxr : -2147483648 ≤ x ∧ x < 2147483648) : MU l yX6_count wsX6_count 8 182 0 0 D (ty3 cI cO cL) sz (WMo cI a ta pa th σ T P) [.ref a, .int (iI (x))] (if 0 ≤ x ∧ x ≤ 10 then 0 else 1) (m_count σ T P x) (WMo cI a ta pa 0 (σ) (T) (P)) (WMo cI a ta pa (if 0 ≤ x ∧ x ≤ 10 then 0 else 1) σ T P) := by
  refine MU_of (cc := cX6_count) (maxL := 2) (ret := (some .int)) (by decide) rfl (Nat.le_of_ble_eq_true rfl) ?_
  intro p e s m args below meth c ls hx hb hr hlocks hml hown hts hsz hP hK hD hS hA hl
  have hl : lv_has ls 2 [(0, .ref a), (1, .int (iI (x)))] := hl
  have hin_X6 : ∀ w ∈ u_ws RX6 TX6 13, w ∈ wsX6_count := (fun w h => List.mem_cons_of_mem _ (List.mem_append_right _ h))
  have hP : va_P D vwCl ([(a, .inr (8, [.int (iI (th)), .int (iI (σ 0)), .int (iI (σ 1)), .int (iI (σ 2)), .int (iI (σ 3)), .int (iI (σ 4)), .int (iI (σ 5)), .int (iI (σ 6)), .ref ta, .int (iI (σ 7)), .ref pa, .int (iI (σ 9)), .int (iI (σ 10))])), (ta, .inl (cI, 40, .inl (fun j => iI (T j)))), (pa, .inl (cI, 110, .inl (fun j => iI (P j))))]) s.heap := hP
  have hD : va_D (va_A (WMo cI a ta pa th σ T P) sz) ([(a, .inr (8, [.int (iI (th)), .int (iI (σ 0)), .int (iI (σ 1)), .int (iI (σ 2)), .int (iI (σ 3)), .int (iI (σ 4)), .int (iI (σ 5)), .int (iI (σ 6)), .ref ta, .int (iI (σ 7)), .ref pa, .int (iI (σ 9)), .int (iI (σ 10))])), (ta, .inl (cI, 40, .inl (fun j => iI (T j)))), (pa, .inl (cI, 110, .inl (fun j => iI (P j))))]) := hD
  obtain ⟨w0, w1, w2, w3, w4, w5, w6, w7, w8⟩ := id hW
  refine lv_aload_n hx hb dX6_count_0 rfl (lv_at hl 0 rfl) ?_
  refine q_iconst hx hb dX6_count_1 ?_
  refine va_put (D := D) (ci := 8) (v := .int (iI (0))) (ty := .int) (C := RX6) (T := TX6) (N := 13) hx hb hts hin_X6 tyX6 tyX6_ok nmX6 hown hK hP hD hS 0 rfl rfl 0 (by decide) (hts (.fieldLink RX6 30 "AlmanacHouseModel" "thrown" "I") (List.mem_of_getElem? (i := 1) rfl)) (fun _ h9 => h9) rfl (by decide +kernel) rfl rfl (Nat.le_of_ble_eq_true rfl) dX6_count_2 (fun H locs hP hD hS => ?_)
  have hP : va_P D vwCl ([(a, .inr (8, [.int (iI (0)), .int (iI (σ 0)), .int (iI (σ 1)), .int (iI (σ 2)), .int (iI (σ 3)), .int (iI (σ 4)), .int (iI (σ 5)), .int (iI (σ 6)), .ref ta, .int (iI (σ 7)), .ref pa, .int (iI (σ 9)), .int (iI (σ 10))])), (ta, .inl (cI, 40, .inl (fun j => iI (T j)))), (pa, .inl (cI, 110, .inl (fun j => iI (P j))))]) H := hP
  have hD : va_D (va_A (WMo cI a ta pa th σ T P) sz) ([(a, .inr (8, [.int (iI (0)), .int (iI (σ 0)), .int (iI (σ 1)), .int (iI (σ 2)), .int (iI (σ 3)), .int (iI (σ 4)), .int (iI (σ 5)), .int (iI (σ 6)), .ref ta, .int (iI (σ 7)), .ref pa, .int (iI (σ 9)), .int (iI (σ 10))])), (ta, .inl (cI, 40, .inl (fun j => iI (T j)))), (pa, .inl (cI, 110, .inl (fun j => iI (P j))))]) := hD
  refine lv_iload_n hx hb dX6_count_5 rfl (lv_at hl 1 rfl) ?_
  refine q_iconst hx hb dX6_count_6 ?_
  refine q_bipush hx hb dX6_count_7 (by decide) ?_
  refine q_callS (fr := 0) (lo := 0) (nL := 2) (Pic := fun _ => True) (As := [.int (iI (x)), .int (iI (0)), .int (iI (10))]) (rest := []) ⟨hx, hb, hml, hown, hts⟩ (c_isIn l D (ty3 cI cO cL) (x) (0) (10) (by omega) (by omega) (by omega)) (va_cwS 3 hts gX6_count_X6_isIn rfl rfl rfl (by decide +kernel) ⟨Nat.le_of_ble_eq_true rfl, Nat.le_of_ble_eq_true rfl⟩) trivial hK rfl hl.1 rfl (Nat.le_of_ble_eq_true rfl) dX6_count_9 (Nat.zero_le _) (Nat.zero_le _) ?_
  refine q_pif_eq (tgt := 23) hx hb dX6_count_12 (by decide) (fun c_1 => ?_) (fun c_1 => ?_)
  · skip
    refine lv_aload_n hx hb dX6_count_23 rfl (lv_at hl 0 rfl) ?_
    refine q_iconst hx hb dX6_count_24 ?_
    have hPc := hP.sub (ws' := [(a, .inr (8, [.int (iI (0)), .int (iI (σ 0)), .int (iI (σ 1)), .int (iI (σ 2)), .int (iI (σ 3)), .int (iI (σ 4)), .int (iI (σ 5)), .int (iI (σ 6)), .ref ta, .int (iI (σ 7)), .ref pa, .int (iI (σ 9)), .int (iI (σ 10))]))]) [0] rfl
    have hDc := hD.sub (ws' := [(a, .inr (8, [.int (iI (0)), .int (iI (σ 0)), .int (iI (σ 1)), .int (iI (σ 2)), .int (iI (σ 3)), .int (iI (σ 4)), .int (iI (σ 5)), .int (iI (σ 6)), .ref ta, .int (iI (σ 7)), .ref pa, .int (iI (σ 9)), .int (iI (σ 10))]))]) [0] (by decide) rfl
    have hFc := va_free (wc := [(a, .inr (8, [.int (iI (0)), .int (iI (σ 0)), .int (iI (σ 1)), .int (iI (σ 2)), .int (iI (σ 3)), .int (iI (σ 4)), .int (iI (σ 5)), .int (iI (σ 6)), .ref ta, .int (iI (σ 7)), .ref pa, .int (iI (σ 9)), .int (iI (σ 10))]))]) hD hS hA [0] rfl
    refine q_callU (fr := 0) (lo := 0) (nL := 2) (As := [.int (iI (1))]) (rest := []) ⟨hx, hb, hml, hown, hts⟩ (u_fail l D _ _ a (0) (1) _ _ _ _ _ _ _ _ _ _ _ _) (cwV 1 hts gX6_count_X6_fail rfl rfl rfl (by decide +kernel) ⟨Nat.le_of_ble_eq_true rfl, Nat.le_of_ble_eq_true rfl⟩) (ob_recv (hP 0 _ rfl) hK rfl) hPc (hDc.weaken (fun _ _ _ _ => trivial)) hFc hS hK rfl hl.1 rfl (Nat.le_of_ble_eq_true rfl) dX6_count_25 (Nat.le_of_ble_eq_true rfl) (Nat.le_of_ble_eq_true rfl) ?_
    intro r H1 locs1 hr1 hP1 hk1 hS1
    have hr2 := hr1 rfl
    subst hr2
    have hP1 := (hP1.resolve_right (fun z => z.1 rfl)).2
    have hP2 : va_P D vwCl ([(a, .inr (8, [.int (iI (1)), .int (iI (σ 0)), .int (iI (σ 1)), .int (iI (σ 2)), .int (iI (σ 3)), .int (iI (σ 4)), .int (iI (σ 5)), .int (iI (σ 6)), .ref ta, .int (iI (σ 7)), .ref pa, .int (iI (σ 9)), .int (iI (σ 10))])), (ta, .inl (cI, 40, .inl (fun j => iI (T j)))), (pa, .inl (cI, 110, .inl (fun j => iI (P j))))]) H1 := va_upd (A0 := fun _ => True) hP hk1 hP1 (by
      intro q hq
      simp only [List.mem_cons, List.not_mem_nil, or_false] at hq
      rcases hq with rfl | rfl | rfl
      · exact Or.inl (List.mem_of_getElem? (i := 0) rfl)
      · refine Or.inr ⟨List.mem_of_getElem? (i := 1) rfl, fun z hz => ?_⟩
        simp only [List.mem_cons, List.not_mem_nil, or_false] at hz
        rcases hz with rfl
        · exact vaD_ne hD (i := 0) (j := 1) rfl rfl (by decide)
      · refine Or.inr ⟨List.mem_of_getElem? (i := 2) rfl, fun z hz => ?_⟩
        simp only [List.mem_cons, List.not_mem_nil, or_false] at hz
        rcases hz with rfl
        · exact vaD_ne hD (i := 0) (j := 2) rfl rfl (by decide))
    have hD2 : va_D (va_A (WMo cI a ta pa th σ T P) sz) ([(a, .inr (8, [.int (iI (1)), .int (iI (σ 0)), .int (iI (σ 1)), .int (iI (σ 2)), .int (iI (σ 3)), .int (iI (σ 4)), .int (iI (σ 5)), .int (iI (σ 6)), .ref ta, .int (iI (σ 7)), .ref pa, .int (iI (σ 9)), .int (iI (σ 10))])), (ta, .inl (cI, 40, .inl (fun j => iI (T j)))), (pa, .inl (cI, 110, .inl (fun j => iI (P j))))]) := vaD_addr hD rfl
    clear hP hD hS hPc hDc hFc hP1 hk1
    have hP := hP2; have hD := hD2; have hS := hS1
    clear hP2 hD2 hS1
    generalize H1 = H at hP hS ⊢
    generalize locs1 = locs at hS ⊢
    have hER : (if 0 ≤ x ∧ x ≤ 10 then 0 else 1 : Int) = 1 := by (repeat' split) <;> omega
    exact q_uret (ws := []) hx hb hr hlocks hS (Or.inr ⟨by rw [hER]; decide, by rw [hER]; exact hP⟩) (fun h => absurd (hER.symm.trans h) (by decide)) (Nat.le_of_ble_eq_true rfl) (Nat.le_of_ble_eq_true rfl) dX6_count_28
  · skip
    refine lv_aload_n hx hb dX6_count_15 rfl (lv_at hl 0 rfl) ?_
    refine lv_iload_n hx hb dX6_count_16 rfl (lv_at hl 1 rfl) ?_
    refine q_callV (fr := 7) (lo := 159) (nL := 2) (Pic := PicM D cI a ta pa (0) σ T (P)) (As := [.int (iI (x))]) (rest := []) ⟨hx, hb, hml, hown, hts⟩ (c_counted l D cI cO cL a ta pa (0) σ T (P) hW hS0 (x) (by omega)) (cwV 1 hts gX6_count_X6_counted rfl rfl rfl (by decide +kernel) ⟨Nat.le_of_ble_eq_true rfl, Nat.le_of_ble_eq_true rfl⟩) (ob_recv (hP 0 _ rfl) hK rfl) hP hK rfl hl.1 rfl (Nat.le_of_ble_eq_true rfl) dX6_count_17 (Nat.zero_le _) (Nat.zero_le _) ?_
    refine lv_goto (tgt := 28) hx hb dX6_count_20 (by decide) ?_
    have hER : (if 0 ≤ x ∧ x ≤ 10 then 0 else 1 : Int) = 0 := by (repeat' split) <;> omega
    exact q_uret (ws := []) hx hb hr hlocks hS (Or.inl ⟨hER, hP⟩) (fun _ => rfl) (Nat.le_of_ble_eq_true rfl) (Nat.le_of_ble_eq_true rfl) dX6_count_28
