/-! ===== the rounds of the law: mean, digest; its loop ===== -/
set_option maxHeartbeats 4000000 in
set_option maxRecDepth 100000 in
theorem r_digest {p : Program} {l : Launch} {e : Env} {s : State} {m : MethodId} {args : Array Value} {below : List Frame} {meth : Method} {c : Code} {Q : State → Prop} {A0 : Nat → Prop} {D : va_G} {cI cO cL cB : ClassId} {ed : Nat × Nat × Nat} {out g0 a ta pa b L : Nat} {xs : Nat → Int32} (C0 : LC p l s m args c A0 D cI cO cL cB ed b L xs) {cells slots : Nat} (hc : cells + 3 ≤ room_1.cells) (hs : slots + 26 ≤ room_1.slots) {i : Nat} (hi : i + 6 ≤ L) {H : Heap} {locs : List Loc} {ls : Array Slot} (hI : IV D cI cO cL A0 ed out g0 a ta pa H) (hS : va_S A0 s.heap H locs) (hl : lv_has ls 9 [(4, .int (iI (i : Int))), (0, .ref b), (1, .ref g0), (2, .ref a), (3, .ref out)]) (kk : ∀ (H : Heap) (locs : List Loc) (ls : Array Slot), IV D cI cO cL A0 ed out g0 a ta pa H → va_S A0 s.heap H locs → lv_has ls 9 [(4, .int (iI (i : Int))), (0, .ref b), (1, .ref g0), (2, .ref a), (3, .ref out)] → W p l e room_1 s m args below meth c H locs (cells + 3) (slots + 26) Q (F0 m 1638 ls [])) : W p l e room_1 s m args below meth c H locs cells slots Q (F0 m 1624 ls []) := by
  obtain ⟨hst0, hx, hb, hml, hown, hts, hX, hbl, hbA, hL, hA, hK, hE, hT, hN⟩ := C0
  obtain ⟨g, σ, T, P, fo, th, hLW, hg0, he6, he7, hP, hD⟩ := hI
  subst hg0
  obtain ⟨hW, hS0, hp0⟩ := id hLW
  have hK3 : va_K D vwCl (ty3 cI cO cL) s := hK.sub [0, 1, 2] rfl
  have hPc : va_P D vwCl (WC cI cO g σ T P) H := vaP_mems hP (fun q hq => List.mem_append_left _ (List.mem_append_left _ hq))
  refine lv_aload_n hx hb dL_law_1624 rfl (lv_at hl 2 rfl) ?_
  refine q_callVl (fr := 7) (lo := 152) (nL := 9) (Pic := PicC D cI cO g σ T P) (As := []) (rest := []) ⟨hx, hb, hml, hown, hts⟩ (c_digest l D cI cO cL g σ T P hW hS0) (cwV 0 hts gL_law_X5_digest rfl rfl rfl (by decide +kernel) ⟨Nat.le_of_ble_eq_true rfl, Nat.le_of_ble_eq_true rfl⟩) (ob_recv (ci := 7) (hPc 0 _ rfl) hK3 rfl) hPc hK3 rfl hl.1 rfl (Nat.le_of_ble_eq_true rfl) dL_law_1625 (by omega) (by omega) ?_
  refine lv_aload_n hx hb dL_law_1628 rfl (lv_at hl 3 rfl) ?_
  refine q_lawUl (nL := 9) (As := []) (rest := [.long (m_digest σ T P)]) (wr := (WC cI cO g σ T P ++ [oc out cL fo])) ⟨hx, hb, hml, hown, hts⟩ (u_digest l D _ cI cO cL a ta pa th σ T P hW hS0) (cwV 0 hts gL_law_X6_digest rfl rfl rfl (by decide +kernel) ⟨Nat.le_of_ble_eq_true rfl, Nat.le_of_ble_eq_true rfl⟩) (mo_rec hP hK) rfl hP hD hS hA hK3 rfl hl.1 rfl (Nat.le_of_ble_eq_true rfl) dL_law_1629 (by omega) (by omega) (fun H locs hP hD hS => ?_)
  refine q_lcmp0 hx hb rfl dL_law_1632 ?_
  refine q_if_eq (tgt := 1638) hx hb dL_law_1633 (by decide) (by omega) (fun c_1 => ?_) (fun c_1 => ?_)
  · skip
    refine W.widen (k := cells + 3) (n := slots + 26) (by omega) (by omega) ?_
    exact kk _ _ _ ⟨g, σ, T, P, _, _, hLW, rfl, he6, he7, hP, hD⟩ hS (lv_sub hl [0, 1, 2, 3, 4] rfl)
  · exfalso; omega
set_option maxHeartbeats 4000000 in
set_option maxRecDepth 100000 in
theorem r_mean {p : Program} {l : Launch} {e : Env} {s : State} {m : MethodId} {args : Array Value} {below : List Frame} {meth : Method} {c : Code} {Q : State → Prop} {A0 : Nat → Prop} {D : va_G} {cI cO cL cB : ClassId} {ed : Nat × Nat × Nat} {out g0 a ta pa b L : Nat} {xs : Nat → Int32} (C0 : LC p l s m args c A0 D cI cO cL cB ed b L xs) {cells slots : Nat} (hc : cells + 3 ≤ room_1.cells) (hs : slots + 26 ≤ room_1.slots) {i : Nat} (hi : i + 6 ≤ L) {H : Heap} {locs : List Loc} {ls : Array Slot} (hI : IV D cI cO cL A0 ed out g0 a ta pa H) (hS : va_S A0 s.heap H locs) (hl : lv_has ls 9 [(4, .int (iI (i : Int))), (0, .ref b), (1, .ref g0), (2, .ref a), (3, .ref out)]) (kk : ∀ (H : Heap) (locs : List Loc) (ls : Array Slot), IV D cI cO cL A0 ed out g0 a ta pa H → va_S A0 s.heap H locs → lv_has ls 9 [(4, .int (iI (i : Int))), (0, .ref b), (1, .ref g0), (2, .ref a), (3, .ref out)] → W p l e room_1 s m args below meth c H locs (cells + 3) (slots + 26) Q (F0 m 1638 ls [])) : W p l e room_1 s m args below meth c H locs cells slots Q (F0 m 1583 ls []) := by
  obtain ⟨hst0, hx, hb, hml, hown, hts, hX, hbl, hbA, hL, hA, hK, hE, hT, hN⟩ := C0
  obtain ⟨g, σ, T, P, fo, th, hLW, hg0, he6, he7, hP, hD⟩ := hI
  subst hg0
  obtain ⟨hW, hS0, hp0⟩ := id hLW
  have hK3 : va_K D vwCl (ty3 cI cO cL) s := hK.sub [0, 1, 2] rfl
  have hPc : va_P D vwCl (WC cI cO g σ T P) H := vaP_mems hP (fun q hq => List.mem_append_left _ (List.mem_append_left _ hq))
  obtain ⟨mv, hmv⟩ : ∃ z : UInt64, z = m_mean σ := ⟨_, rfl⟩
  have hM5 := c_mean l D cI cO cL g σ T hW
  have hM6 := fun sz => u_mean l D sz cI cO cL a ta pa th σ T P hW hS0
  rw [← hmv] at hM5 hM6
  refine lv_aload_n hx hb dL_law_1583 rfl (lv_at hl 2 rfl) ?_
  refine q_callVd (fr := 0) (lo := 0) (nL := 9) (Pic := PicB D cO g σ T) (As := []) (rest := []) ⟨hx, hb, hml, hown, hts⟩ hM5 (cwV 0 hts gL_law_X5_mean rfl rfl rfl (by decide +kernel) ⟨Nat.le_of_ble_eq_true rfl, Nat.le_of_ble_eq_true rfl⟩) (ob_recv (ci := 7) (hPc 0 _ rfl) hK3 rfl) (PicC.base (P := P) (cI := cI) hPc) hK3 rfl hl.1 rfl (Nat.le_of_ble_eq_true rfl) dL_law_1584 (by omega) (by omega) ?_
  refine lv_dstore (lv' := [(5, .double mv), (4, .int (iI (i : Int))), (0, .ref b), (1, .ref (g 0)), (2, .ref a), (3, .ref out)]) hx hb dL_law_1587 hl (by decide) rfl (fun ls hl => ?_)
  refine lv_aload_n hx hb dL_law_1589 rfl (lv_at hl 4 rfl) ?_
  refine q_lawUd (nL := 9) (As := []) (rest := []) (wr := (WC cI cO g σ T P ++ [oc out cL fo])) ⟨hx, hb, hml, hown, hts⟩ (hM6 _) (cwV 0 hts gL_law_X6_mean rfl rfl rfl (by decide +kernel) ⟨Nat.le_of_ble_eq_true rfl, Nat.le_of_ble_eq_true rfl⟩) (mo_rec hP hK) rfl hP hD hS hA hK3 rfl hl.1 rfl (Nat.le_of_ble_eq_true rfl) dL_law_1590 (by omega) (by omega) (fun H locs hP hD hS => ?_)
  refine lv_dstore (lv' := [(7, .double mv), (5, .double mv), (4, .int (iI (i : Int))), (0, .ref b), (1, .ref (g 0)), (2, .ref a), (3, .ref out)]) hx hb dL_law_1593 hl (by decide) rfl (fun ls hl => ?_)
  have kf : W p l e room_1 s m args below meth c H locs (cells + 0) (slots + 0) Q (F0 m 1621 ls []) := by
    refine lv_goto (tgt := 1638) hx hb dL_law_1621 (by decide) ?_
    refine W.widen (k := cells + 3) (n := slots + 26) (by omega) (by omega) ?_
    exact kk _ _ _ ⟨g, σ, T, P, _, _, hLW, rfl, he6, he7, hP, hD⟩ hS (lv_sub hl [2, 3, 4, 5, 6] rfl)
  have e0 : Op.cmpValue (some .eq) .l = iI 0 := rfl
  have e1 : Op.cmpValue none .l = iI (-1) := rfl
  refine lv_dload hx hb dL_law_1595 (lv_at hl 1 rfl) ?_
  refine lv_dload hx hb dL_law_1597 (lv_at hl 0 rfl) ?_
  refine lv_dcmp hx hb dL_law_1599 ?_
  rcases fcmp_self mv with hf | hf
  · rw [hf, e0]
    refine q_if_eq (tgt := 1621) hx hb dL_law_1600 (by decide) (by omega) (fun c_1 => ?_) (fun c_1 => ?_)
    · exact kf
    · exfalso; omega
  · rw [hf, e1]
    refine q_if_eq (tgt := 1621) hx hb dL_law_1600 (by decide) (by omega) (fun c_1 => ?_) (fun c_1 => ?_)
    · exact kf
    refine lv_dload hx hb dL_law_1603 (lv_at hl 1 rfl) ?_
    refine lv_dload hx hb dL_law_1605 (lv_at hl 1 rfl) ?_
    refine lv_dcmp hx hb dL_law_1607 ?_
    rw [hf, e1]
    refine q_if_eq (tgt := 1619) hx hb dL_law_1608 (by decide) (by omega) (fun c_2 => ?_) (fun c_2 => ?_)
    · exfalso; omega
    refine lv_dload hx hb dL_law_1611 (lv_at hl 0 rfl) ?_
    refine lv_dload hx hb dL_law_1613 (lv_at hl 0 rfl) ?_
    refine lv_dcmp hx hb dL_law_1615 ?_
    rw [hf, e1]
    refine q_if_ne (tgt := 1621) hx hb dL_law_1616 (by decide) (by omega) (fun c_3 => ?_) (fun c_3 => ?_)
    · exact kf
    · exfalso; omega
set_option maxHeartbeats 4000000 in
set_option maxRecDepth 100000 in
/-- the loop of the law: from its head, with any world that keeps what holds all along, to its end -/
theorem law_loop {p : Program} {l : Launch} {e : Env} {s : State} {m : MethodId} {args : Array Value} {below : List Frame} {meth : Method} {c : Code} {Q : State → Prop} {A0 : Nat → Prop} {D : va_G} {cI cO cL cB : ClassId} {ed : Nat × Nat × Nat} {out g0 a ta pa b L : Nat} {xs : Nat → Int32} (C0 : LC p l s m args c A0 D cI cO cL cB ed b L xs) (kend : ∀ (H : Heap) (locs : List Loc) (ls : Array Slot) (cells slots : Nat), cells ≤ room_1.cells → slots ≤ room_1.slots → va_S A0 s.heap H locs → W p l e room_1 s m args below meth c H locs cells slots Q (F0 m 1644 ls [])) :
    ∀ (fu i : Nat) (H : Heap) (locs : List Loc) (ls : Array Slot) (cells slots : Nat), L + 6 - i < fu → i ≤ L → cells + 3 * (L + 6 - i) ≤ room_1.cells → slots + 26 * (L + 6 - i) ≤ room_1.slots → IV D cI cO cL A0 ed out g0 a ta pa H → va_S A0 s.heap H locs → lv_has ls 9 [(4, .int (iI (i : Int))), (0, .ref b), (1, .ref g0), (2, .ref a), (3, .ref out)] → W p l e room_1 s m args below meth c H locs cells slots Q (F0 m 23 ls []) := by
  obtain ⟨hst0, hx, hb, hml, hown, hts, hX, hbl, hbA, hL, hA, hK, hE, hT, hN⟩ := id C0
  intro fu
  induction fu with
  | zero => intro i H locs ls cells slots hf; exact absurd hf (Nat.not_lt_zero _)
  | succ fu ih =>
    intro i H locs ls cells slots hf hiL hc hs hI hS hl
    refine lv_iload hx hb dL_law_23 (lv_at hl 0 rfl) ?_
    refine lv_aload_n hx hb dL_law_25 rfl (lv_at hl 1 rfl) ?_
    refine q_slen hx hb hX hbl hbA hS dL_law_26 ?_
    refine q_bipush hx hb dL_law_27 (by decide) ?_
    refine q_isub hx hb dL_law_29 ?_
    refine q_icmp_gt (tgt := 1644) hx hb dL_law_30 (by decide) (by omega) (by omega) (fun c_1 => ?_) (fun c_1 => ?_)
    · exact kend H locs ls cells slots (by omega) (by omega) hS
    · have hi : i + 6 ≤ L := by omega
      have hc2 : cells + 3 ≤ room_1.cells := by omega
      have hs2 : slots + 26 ≤ room_1.slots := by omega
      have kk : ∀ (H : Heap) (locs : List Loc) (ls : Array Slot), IV D cI cO cL A0 ed out g0 a ta pa H → va_S A0 s.heap H locs → lv_has ls 9 [(4, .int (iI (i : Int))), (0, .ref b), (1, .ref g0), (2, .ref a), (3, .ref out)] → W p l e room_1 s m args below meth c H locs (cells + 3) (slots + 26) Q (F0 m 1638 ls []) := by
        intro H locs ls hI hS hl
        refine q_iinc (k := 0) (lv' := [(4, .int (iI ((i : Int) + 6))), (0, .ref b), (1, .ref g0), (2, .ref a), (3, .ref out)]) hx hb dL_law_1638 hl rfl (by decide) rfl (fun ls hl => ?_)
        refine lv_goto (tgt := 23) hx hb dL_law_1641 (by decide) ?_
        exact ih (i + 6) H locs ls (cells + 3) (slots + 26) (by omega) (by omega) (by omega) (by omega) hI hS hl
      refine lv_aload_n hx hb dL_law_33 rfl (lv_at hl 1 rfl) ?_
      refine lv_iload hx hb dL_law_34 (lv_at hl 0 rfl) ?_
      refine q_sld hx hb hX hbl hbA hS i rfl (by omega) hL dL_law_36 ?_
      refine q_bipush hx hb dL_law_37 (by decide) ?_
      refine q_and31 hx hb dL_law_39 (fun z hz => ?_)
      by_cases h_0 : z = 0
      · refine q_tableIn (tgt := 148) hx hb dL_law_40 (by omega) (by omega) 0 (by omega) rfl (by decide) ?_
        exact r_setLeaps C0 hc2 hs2 hi hI hS hl kk
      by_cases h_1 : z = 1
      · refine q_tableIn (tgt := 216) hx hb dL_law_40 (by omega) (by omega) 1 (by omega) rfl (by decide) ?_
        exact r_setMoon C0 hc2 hs2 hi hI hS hl kk
      by_cases h_2 : z = 2
      · refine q_tableIn (tgt := 284) hx hb dL_law_40 (by omega) (by omega) 2 (by omega) rfl (by decide) ?_
        exact r_setNodes C0 hc2 hs2 hi hI hS hl kk
      by_cases h_3 : z = 3
      · refine q_tableIn (tgt := 352) hx hb dL_law_40 (by omega) (by omega) 3 (by omega) rfl (by decide) ?_
        exact r_leap C0 hc2 hs2 hi hI hS hl kk
      by_cases h_4 : z = 4
      · refine q_tableIn (tgt := 415) hx hb dL_law_40 (by omega) (by omega) 4 (by omega) rfl (by decide) ?_
        exact r_day C0 hc2 hs2 hi hI hS hl kk
      by_cases h_5 : z = 5
      · refine q_tableIn (tgt := 495) hx hb dL_law_40 (by omega) (by omega) 5 (by omega) rfl (by decide) ?_
        exact r_date C0 hc2 hs2 hi hI hS hl kk
      by_cases h_6 : z = 6
      · refine q_tableIn (tgt := 563) hx hb dL_law_40 (by omega) (by omega) 6 (by omega) rfl (by decide) ?_
        exact r_line C0 hc2 hs2 hi hI hS hl kk
      by_cases h_7 : z = 7
      · refine q_tableIn (tgt := 619) hx hb dL_law_40 (by omega) (by omega) 7 (by omega) rfl (by decide) ?_
        exact r_moon C0 hc2 hs2 hi hI hS hl kk
      by_cases h_8 : z = 8
      · refine q_tableIn (tgt := 703) hx hb dL_law_40 (by omega) (by omega) 8 (by omega) rfl (by decide) ?_
        exact r_eclipses C0 hc2 hs2 hi hI hS hl kk
      by_cases h_9 : z = 9
      · refine q_tableIn (tgt := 787) hx hb dL_law_40 (by omega) (by omega) 9 (by omega) rfl (by decide) ?_
        exact r_next C0 hc2 hs2 hi hI hS hl kk
      by_cases h_10 : z = 10
      · refine q_tableIn (tgt := 843) hx hb dL_law_40 (by omega) (by omega) 10 (by omega) rfl (by decide) ?_
        exact r_observe C0 hc2 hs2 hi hI hS hl kk
      by_cases h_11 : z = 11
      · refine q_tableIn (tgt := 927) hx hb dL_law_40 (by omega) (by omega) 11 (by omega) rfl (by decide) ?_
        exact r_addFeast C0 hc2 hs2 hi hI hS hl kk
      by_cases h_12 : z = 12
      · refine q_tableIn (tgt := 1031) hx hb dL_law_40 (by omega) (by omega) 12 (by omega) rfl (by decide) ?_
        exact r_feast C0 hc2 hs2 hi hI hS hl kk
      by_cases h_13 : z = 13
      · refine q_tableIn (tgt := 1099) hx hb dL_law_40 (by omega) (by omega) 13 (by omega) rfl (by decide) ?_
        exact r_clashes C0 hc2 hs2 hi hI hS hl kk
      by_cases h_14 : z = 14
      · refine q_tableIn (tgt := 1155) hx hb dL_law_40 (by omega) (by omega) 14 (by omega) rfl (by decide) ?_
        exact r_again C0 hc2 hs2 hi hI hS hl kk
      by_cases h_15 : z = 15
      · refine q_tableIn (tgt := 1223) hx hb dL_law_40 (by omega) (by omega) 15 (by omega) rfl (by decide) ?_
        exact r_print C0 hc2 hs2 hi hI hS hl kk
      by_cases h_16 : z = 16
      · refine q_tableIn (tgt := 1279) hx hb dL_law_40 (by omega) (by omega) 16 (by omega) rfl (by decide) ?_
        exact r_reprint C0 hc2 hs2 hi hI hS hl kk
      by_cases h_17 : z = 17
      · refine q_tableIn (tgt := 1335) hx hb dL_law_40 (by omega) (by omega) 17 (by omega) rfl (by decide) ?_
        exact r_sheet C0 hc2 hs2 hi hI hS hl kk
      by_cases h_18 : z = 18
      · refine q_tableIn (tgt := 1403) hx hb dL_law_40 (by omega) (by omega) 18 (by omega) rfl (by decide) ?_
        exact r_printed C0 hc2 hs2 hi hI hS hl kk
      by_cases h_19 : z = 19
      · refine q_tableIn (tgt := 1471) hx hb dL_law_40 (by omega) (by omega) 19 (by omega) rfl (by decide) ?_
        exact r_count C0 hc2 hs2 hi hI hS hl kk
      by_cases h_20 : z = 20
      · refine q_tableIn (tgt := 1527) hx hb dL_law_40 (by omega) (by omega) 20 (by omega) rfl (by decide) ?_
        exact r_cycle C0 hc2 hs2 hi hI hS hl kk
      by_cases h_21 : z = 21
      · refine q_tableIn (tgt := 1583) hx hb dL_law_40 (by omega) (by omega) 21 (by omega) rfl (by decide) ?_
        exact r_mean C0 hc2 hs2 hi hI hS hl kk
      by_cases h_22 : z = 22
      · refine q_tableIn (tgt := 1624) hx hb dL_law_40 (by omega) (by omega) 22 (by omega) rfl (by decide) ?_
        exact r_digest C0 hc2 hs2 hi hI hS hl kk
      refine q_tableOut (tgt := 1638) hx hb dL_law_40 (by omega) (by omega) (by decide) ?_
      refine W.widen (k := cells + 3) (n := slots + 26) (by omega) (by omega) ?_
      exact kk H locs ls hI hS hl
