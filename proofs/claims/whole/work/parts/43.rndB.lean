/-! ===== the rounds of the law ===== -/
set_option maxHeartbeats 4000000 in
set_option maxRecDepth 100000 in
theorem r_line {p : Program} {l : Launch} {e : Env} {s : State} {m : MethodId} {args : Array Value} {below : List Frame} {meth : Method} {c : Code} {Q : State → Prop} {A0 : Nat → Prop} {D : va_G} {cI cO cL cB : ClassId} {ed : Nat × Nat × Nat} {out g0 a ta pa b L : Nat} {xs : Nat → Int32} (C0 : LC p l s m args c A0 D cI cO cL cB ed b L xs) {cells slots : Nat} (hc : cells + 3 ≤ room_1.cells) (hs : slots + 26 ≤ room_1.slots) {i : Nat} (hi : i + 6 ≤ L) {H : Heap} {locs : List Loc} {ls : Array Slot} (hI : IV D cI cO cL A0 ed out g0 a ta pa H) (hS : va_S A0 s.heap H locs) (hl : lv_has ls 9 [(4, .int (iI (i : Int))), (0, .ref b), (1, .ref g0), (2, .ref a), (3, .ref out)]) (kk : ∀ (H : Heap) (locs : List Loc) (ls : Array Slot), IV D cI cO cL A0 ed out g0 a ta pa H → va_S A0 s.heap H locs → lv_has ls 9 [(4, .int (iI (i : Int))), (0, .ref b), (1, .ref g0), (2, .ref a), (3, .ref out)] → W p l e room_1 s m args below meth c H locs (cells + 3) (slots + 26) Q (F0 m 1638 ls [])) : W p l e room_1 s m args below meth c H locs cells slots Q (F0 m 563 ls []) := by
  obtain ⟨hst0, hx, hb, hml, hown, hts, hX, hbl, hbA, hL, hA, hK, hE, hT, hN⟩ := C0
  obtain ⟨g, σ, T, P, fo, th, hLW, hg0, he6, he7, hP, hD⟩ := hI
  subst hg0
  obtain ⟨hW, hS0, hp0⟩ := id hLW
  obtain ⟨w0, w1, w2, w3, w4, w5, w6, w7, w8⟩ := id hW
  have hK3 : va_K D vwCl (ty3 cI cO cL) s := hK.sub [0, 1, 2] rfl
  obtain ⟨d, hdr, hX1⟩ : ∃ z : Int, (-2147483648 ≤ z ∧ z < 2147483648) ∧ (xs (i + 1)).toInt = z := ⟨_, I_rng _, rfl⟩
  obtain ⟨er, hev⟩ : ∃ er : Int, (if 0 ≤ d ∧ d < m_fd (σ 0) (σ 1) 1000 then 0 else 1) = er := ⟨_, rfl⟩
  have her : 0 ≤ er ∧ er ≤ 2 := by rw [← hev]; (repeat' split) <;> omega
  have hMw := fun sz => w_line l hst0 D sz out ed cI cO cL g σ T P fo hW hS0 he6 he7 d hdr
  have hMu := fun sz => u_line l D sz ed cI cO cL cB a ta pa th σ T P hW hS0 d hdr
  rw [hev] at hMw hMu
  refine lv_aload_n hx hb dL_law_563 rfl (lv_at hl 2 rfl) ?_
  refine lv_aload_n hx hb dL_law_564 rfl (lv_at hl 1 rfl) ?_
  refine lv_iload hx hb dL_law_565 (lv_at hl 0 rfl) ?_
  refine q_iconst hx hb dL_law_567 ?_
  refine q_iadd hx hb dL_law_568 ?_
  refine q_sld hx hb hX hbl hbA hS (i + 1) (by omega) (by omega) hL dL_law_569 ?_
  refine q_is hX1 ?_
  refine lv_aload_n hx hb dL_law_570 rfl (lv_at hl 4 rfl) ?_
  refine q_lawW (nL := 9) (As := [.ref (g 0), .int (iI (d)), .ref out]) (rest := []) (fo := fo) (wr := WMo cI a ta pa th σ T P) ⟨hx, hb, hml, hown, hts⟩ (hMw _) (vx_cwSW 3 hts gL_law_L_line rfl rfl rfl (by decide +kernel) ⟨Nat.le_of_ble_eq_true rfl, Nat.le_of_ble_eq_true rfl⟩) hP hD hS hA hK3 hE hT hN rfl hl.1 rfl (Nat.le_of_ble_eq_true rfl) dL_law_571 (by omega) (by omega) (fun u H locs he hu hP hD hS => ?_) (fun H locs he hP hS => ?_)
  · subst he
    have hLW2 : LW (σ) (T) (P) := hLW
    refine lv_istore (lv' := [(5, .int (iI (0))), (4, .int (iI ((i : Int)))), (0, .ref b), (1, .ref (g 0)), (2, .ref a), (3, .ref out)]) hx hb dL_law_574 hl (by decide) rfl (fun ls hl => ?_)
    refine lv_aload_n hx hb dL_law_576 rfl (lv_at hl 4 rfl) ?_
    refine lv_aload_n hx hb dL_law_577 rfl (lv_at hl 2 rfl) ?_
    refine lv_iload hx hb dL_law_578 (lv_at hl 1 rfl) ?_
    refine q_iconst hx hb dL_law_580 ?_
    refine q_iadd hx hb dL_law_581 ?_
    refine q_sld hx hb hX hbl hbA hS (i + 1) (by omega) (by omega) hL dL_law_582 ?_
    refine q_is hX1 ?_
    refine q_lawUy (nL := 9) (As := [.int (iI (d))]) (rest := []) (wr := WC cI cO u (σ) (T) (P) ++ [oc out cL (vp_updL fo 0 (iI (m_line σ d)).toInt64)]) ⟨hx, hb, hml, hown, hts⟩ (hMu _) (cwV 1 hts gL_law_X6_line rfl rfl rfl (by decide +kernel) ⟨Nat.le_of_ble_eq_true rfl, Nat.le_of_ble_eq_true rfl⟩) (mo_rec hP hK) rfl rfl hP hD hS hA hK hE hT rfl hl.1 rfl (Nat.le_of_ble_eq_true rfl) dL_law_583 (by omega) (by omega) (fun r H locs hr hB hS => ?_)
    rcases hB with ⟨h0, hP, hD⟩ | ⟨h0, hP, hD⟩
    case inr => exact absurd rfl h0
    have hr := hr rfl
    subst hr
    refine lv_istore (lv' := [(6, .int (iI (m_line σ d))), (5, .int (iI (0))), (4, .int (iI ((i : Int)))), (0, .ref b), (1, .ref (g 0)), (2, .ref a), (3, .ref out)]) hx hb dL_law_586 hl (by decide) rfl (fun ls hl => ?_)
    refine lv_aload_n hx hb dL_law_588 rfl (lv_at hl 5 rfl) ?_
    refine q_callV (fr := 0) (lo := 0) (nL := 9) (Pic := PicM D cI a ta pa (0) (σ) (T) (P)) (As := []) (rest := []) ⟨hx, hb, hml, hown, hts⟩ (c_thrown l D cI cO cL a ta pa (0) (σ) (T) (P) hLW2.1 hLW2.2.1) (cwV 0 hts gL_law_X6_thrown rfl rfl rfl (by decide +kernel) ⟨Nat.le_of_ble_eq_true rfl, Nat.le_of_ble_eq_true rfl⟩) (mo_rec hP hK) (vaP_mems hP (fun q hq => List.mem_append_right _ hq)) hK3 rfl hl.1 rfl (Nat.le_of_ble_eq_true rfl) dL_law_589 (by omega) (by omega) ?_
    refine lv_iload hx hb dL_law_592 (lv_at hl 1 rfl) ?_
    refine q_icmp_eq (tgt := 599) hx hb dL_law_594 (by decide) (by omega) (by omega) (fun c_1 => ?_) (fun c_1 => ?_)
    · skip
      refine lv_iload hx hb dL_law_599 (lv_at hl 1 rfl) ?_
      refine q_if_ne (tgt := 616) hx hb dL_law_601 (by decide) (by omega) (fun c_2 => ?_) (fun c_2 => ?_)
      · exfalso; omega
      · skip
        refine lv_aload_n hx hb dL_law_604 rfl (lv_at hl 6 rfl) ?_
        refine q_iconst hx hb dL_law_605 ?_
        refine q_lald hx hb hK3 hP dL_law_606 ?_
        refine lv_iload hx hb dL_law_607 (lv_at hl 0 rfl) ?_
        refine lv_i2l hx hb dL_law_609 rfl ?_
        refine q_lcmp0 hx hb (by rfl) dL_law_610 ?_
        refine q_if_eq (tgt := 616) hx hb dL_law_611 (by decide) (by omega) (fun c_3 => ?_) (fun c_3 => ?_)
        · skip
          refine lv_goto (tgt := 1638) hx hb dL_law_616 (by decide) ?_
          refine W.widen (k := cells + 3) (n := slots + 26) (by omega) (by omega) ?_
          exact kk _ _ _ ⟨u, _, _, _, _, _, hLW2, hu.1, hu.2.1, hu.2.2, hP, hD⟩ hS (lv_sub hl [2, 3, 4, 5, 6] rfl)
        · exfalso; omega
    · exact absurd rfl c_1
  · skip
    refine lv_istore (lv' := [(5, .int (iI (er))), (4, .int (iI ((i : Int)))), (0, .ref b), (1, .ref (g 0)), (2, .ref a), (3, .ref out)]) hx hb dL_law_574 hl (by decide) rfl (fun ls hl => ?_)
    refine lv_aload_n hx hb dL_law_576 rfl (lv_at hl 4 rfl) ?_
    refine lv_aload_n hx hb dL_law_577 rfl (lv_at hl 2 rfl) ?_
    refine lv_iload hx hb dL_law_578 (lv_at hl 1 rfl) ?_
    refine q_iconst hx hb dL_law_580 ?_
    refine q_iadd hx hb dL_law_581 ?_
    refine q_sld hx hb hX hbl hbA hS (i + 1) (by omega) (by omega) hL dL_law_582 ?_
    refine q_is hX1 ?_
    refine q_lawUy (nL := 9) (As := [.int (iI (d))]) (rest := []) (wr := WC cI cO g σ T P ++ [oc out cL fo]) ⟨hx, hb, hml, hown, hts⟩ (hMu _) (cwV 1 hts gL_law_X6_line rfl rfl rfl (by decide +kernel) ⟨Nat.le_of_ble_eq_true rfl, Nat.le_of_ble_eq_true rfl⟩) (mo_rec hP hK) rfl rfl hP hD hS hA hK hE hT rfl hl.1 rfl (Nat.le_of_ble_eq_true rfl) dL_law_583 (by omega) (by omega) (fun r H locs hr hB hS => ?_)
    rcases hB with ⟨h0, hP, hD⟩ | ⟨h0, hP, hD⟩
    case inl => exact absurd h0 he
    refine lv_istore (lv' := [(6, .int r), (5, .int (iI (er))), (4, .int (iI ((i : Int)))), (0, .ref b), (1, .ref (g 0)), (2, .ref a), (3, .ref out)]) hx hb dL_law_586 hl (by decide) rfl (fun ls hl => ?_)
    refine lv_aload_n hx hb dL_law_588 rfl (lv_at hl 5 rfl) ?_
    refine q_callV (fr := 0) (lo := 0) (nL := 9) (Pic := PicM D cI a ta pa (er) (σ) (T) (P)) (As := []) (rest := []) ⟨hx, hb, hml, hown, hts⟩ (c_thrown l D cI cO cL a ta pa (er) (σ) (T) (P) hLW.1 hLW.2.1) (cwV 0 hts gL_law_X6_thrown rfl rfl rfl (by decide +kernel) ⟨Nat.le_of_ble_eq_true rfl, Nat.le_of_ble_eq_true rfl⟩) (mo_rec hP hK) (vaP_mems hP (fun q hq => List.mem_append_right _ hq)) hK3 rfl hl.1 rfl (Nat.le_of_ble_eq_true rfl) dL_law_589 (by omega) (by omega) ?_
    refine lv_iload hx hb dL_law_592 (lv_at hl 1 rfl) ?_
    refine q_icmp_eq (tgt := 599) hx hb dL_law_594 (by decide) (by omega) (by omega) (fun c_4 => ?_) (fun c_4 => ?_)
    · skip
      refine lv_iload hx hb dL_law_599 (lv_at hl 1 rfl) ?_
      refine q_if_ne (tgt := 616) hx hb dL_law_601 (by decide) (by omega) (fun c_5 => ?_) (fun c_5 => ?_)
      · skip
        refine lv_goto (tgt := 1638) hx hb dL_law_616 (by decide) ?_
        refine W.widen (k := cells + 3) (n := slots + 26) (by omega) (by omega) ?_
        exact kk _ _ _ ⟨g, σ, T, P, _, _, hLW, rfl, he6, he7, hP, hD⟩ hS (lv_sub hl [2, 3, 4, 5, 6] rfl)
      · exfalso; omega
    · exact absurd rfl c_4
set_option maxHeartbeats 4000000 in
set_option maxRecDepth 100000 in
theorem r_moon {p : Program} {l : Launch} {e : Env} {s : State} {m : MethodId} {args : Array Value} {below : List Frame} {meth : Method} {c : Code} {Q : State → Prop} {A0 : Nat → Prop} {D : va_G} {cI cO cL cB : ClassId} {ed : Nat × Nat × Nat} {out g0 a ta pa b L : Nat} {xs : Nat → Int32} (C0 : LC p l s m args c A0 D cI cO cL cB ed b L xs) {cells slots : Nat} (hc : cells + 3 ≤ room_1.cells) (hs : slots + 26 ≤ room_1.slots) {i : Nat} (hi : i + 6 ≤ L) {H : Heap} {locs : List Loc} {ls : Array Slot} (hI : IV D cI cO cL A0 ed out g0 a ta pa H) (hS : va_S A0 s.heap H locs) (hl : lv_has ls 9 [(4, .int (iI (i : Int))), (0, .ref b), (1, .ref g0), (2, .ref a), (3, .ref out)]) (kk : ∀ (H : Heap) (locs : List Loc) (ls : Array Slot), IV D cI cO cL A0 ed out g0 a ta pa H → va_S A0 s.heap H locs → lv_has ls 9 [(4, .int (iI (i : Int))), (0, .ref b), (1, .ref g0), (2, .ref a), (3, .ref out)] → W p l e room_1 s m args below meth c H locs (cells + 3) (slots + 26) Q (F0 m 1638 ls [])) : W p l e room_1 s m args below meth c H locs cells slots Q (F0 m 619 ls []) := by
  obtain ⟨hst0, hx, hb, hml, hown, hts, hX, hbl, hbA, hL, hA, hK, hE, hT, hN⟩ := C0
  obtain ⟨g, σ, T, P, fo, th, hLW, hg0, he6, he7, hP, hD⟩ := hI
  subst hg0
  obtain ⟨hW, hS0, hp0⟩ := id hLW
  obtain ⟨w0, w1, w2, w3, w4, w5, w6, w7, w8⟩ := id hW
  have hK3 : va_K D vwCl (ty3 cI cO cL) s := hK.sub [0, 1, 2] rfl
  obtain ⟨k, hkr, hX1⟩ : ∃ z : Int, (-2147483648 ≤ z ∧ z < 2147483648) ∧ (xs (i + 1)).toInt = z := ⟨_, I_rng _, rfl⟩
  obtain ⟨bx, hbxr, hX2⟩ : ∃ z : Int, (-2147483648 ≤ z ∧ z < 2147483648) ∧ (xs (i + 2)).toInt = z := ⟨_, I_rng _, rfl⟩
  by_cases hbx : bx = 0
  · skip
    obtain ⟨er, hev⟩ : ∃ er : Int, (if 0 ≤ k ∧ k ≤ 10000 then 0 else 1) = er := ⟨_, rfl⟩
    have her : 0 ≤ er ∧ er ≤ 2 := by rw [← hev]; (repeat' split) <;> omega
    have hMw := fun sz => w_moon l hst0 D sz out ed cI cO cL g σ T P fo hW hS0 he6 he7 k 0 hkr (Or.inl rfl)
    have hMu := fun sz => u_moon l D sz cI cO cL a ta pa th σ T P hW hS0 k 0 hkr (Or.inl rfl)
    rw [hev] at hMw hMu
    refine lv_aload_n hx hb dL_law_619 rfl (lv_at hl 2 rfl) ?_
    refine lv_aload_n hx hb dL_law_620 rfl (lv_at hl 1 rfl) ?_
    refine lv_iload hx hb dL_law_621 (lv_at hl 0 rfl) ?_
    refine q_iconst hx hb dL_law_623 ?_
    refine q_iadd hx hb dL_law_624 ?_
    refine q_sld hx hb hX hbl hbA hS (i + 1) (by omega) (by omega) hL dL_law_625 ?_
    refine q_is hX1 ?_
    refine lv_aload_n hx hb dL_law_626 rfl (lv_at hl 1 rfl) ?_
    refine lv_iload hx hb dL_law_627 (lv_at hl 0 rfl) ?_
    refine q_iconst hx hb dL_law_629 ?_
    refine q_iadd hx hb dL_law_630 ?_
    refine q_sld hx hb hX hbl hbA hS (i + 2) (by omega) (by omega) hL dL_law_631 ?_
    refine q_is hX2 ?_
    refine q_if_eq (tgt := 639) hx hb dL_law_632 (by decide) (by omega) (fun c_1 => ?_) (fun c_1 => ?_)
    · skip
      refine q_iconst hx hb dL_law_639 ?_
      refine lv_aload_n hx hb dL_law_640 rfl (lv_at hl 4 rfl) ?_
      refine q_lawW (nL := 9) (As := [.ref (g 0), .int (iI (k)), .int (iI (0)), .ref out]) (rest := []) (fo := fo) (wr := WMo cI a ta pa th σ T P) ⟨hx, hb, hml, hown, hts⟩ (hMw _) (vx_cwSW 4 hts gL_law_L_moon rfl rfl rfl (by decide +kernel) ⟨Nat.le_of_ble_eq_true rfl, Nat.le_of_ble_eq_true rfl⟩) hP hD hS hA hK3 hE hT hN rfl hl.1 rfl (Nat.le_of_ble_eq_true rfl) dL_law_641 (by omega) (by omega) (fun u H locs he hu hP hD hS => ?_) (fun H locs he hP hS => ?_)
      · subst he
        have hLW2 : LW (σ) (T) (P) := hLW
        refine lv_istore (lv' := [(5, .int (iI (0))), (4, .int (iI ((i : Int)))), (0, .ref b), (1, .ref (g 0)), (2, .ref a), (3, .ref out)]) hx hb dL_law_644 hl (by decide) rfl (fun ls hl => ?_)
        refine lv_aload_n hx hb dL_law_646 rfl (lv_at hl 4 rfl) ?_
        refine lv_aload_n hx hb dL_law_647 rfl (lv_at hl 2 rfl) ?_
        refine lv_iload hx hb dL_law_648 (lv_at hl 1 rfl) ?_
        refine q_iconst hx hb dL_law_650 ?_
        refine q_iadd hx hb dL_law_651 ?_
        refine q_sld hx hb hX hbl hbA hS (i + 1) (by omega) (by omega) hL dL_law_652 ?_
        refine q_is hX1 ?_
        refine lv_aload_n hx hb dL_law_653 rfl (lv_at hl 2 rfl) ?_
        refine lv_iload hx hb dL_law_654 (lv_at hl 1 rfl) ?_
        refine q_iconst hx hb dL_law_656 ?_
        refine q_iadd hx hb dL_law_657 ?_
        refine q_sld hx hb hX hbl hbA hS (i + 2) (by omega) (by omega) hL dL_law_658 ?_
        refine q_is hX2 ?_
        refine q_if_eq (tgt := 666) hx hb dL_law_659 (by decide) (by omega) (fun c_2 => ?_) (fun c_2 => ?_)
        · skip
          refine q_iconst hx hb dL_law_666 ?_
          refine q_lawU (nL := 9) (As := [.int (iI (k)), .int (iI (0))]) (rest := []) (wr := WC cI cO u (σ) (T) (P) ++ [oc out cL (vp_updL fo 0 (iI (m_tm (σ 2) (σ 3) k 0 / 1000)).toInt64)]) ⟨hx, hb, hml, hown, hts⟩ (hMu _) (cwV 2 hts gL_law_X6_moon rfl rfl rfl (by decide +kernel) ⟨Nat.le_of_ble_eq_true rfl, Nat.le_of_ble_eq_true rfl⟩) (mo_rec hP hK) rfl rfl hP hD hS hA hK3 rfl hl.1 rfl (Nat.le_of_ble_eq_true rfl) dL_law_667 (by omega) (by omega) (fun r H locs hr hB hS => ?_)
          rcases hB with ⟨h0, hP, hD⟩ | ⟨h0, hP, hD⟩
          case inr => exact absurd rfl h0
          have hr := hr rfl
          subst hr
          refine lv_istore (lv' := [(6, .int (iI (m_tm (σ 2) (σ 3) k 0 / 1000))), (5, .int (iI (0))), (4, .int (iI ((i : Int)))), (0, .ref b), (1, .ref (g 0)), (2, .ref a), (3, .ref out)]) hx hb dL_law_670 hl (by decide) rfl (fun ls hl => ?_)
          refine lv_aload_n hx hb dL_law_672 rfl (lv_at hl 5 rfl) ?_
          refine q_callV (fr := 0) (lo := 0) (nL := 9) (Pic := PicM D cI a ta pa (0) (σ) (T) (P)) (As := []) (rest := []) ⟨hx, hb, hml, hown, hts⟩ (c_thrown l D cI cO cL a ta pa (0) (σ) (T) (P) hLW2.1 hLW2.2.1) (cwV 0 hts gL_law_X6_thrown rfl rfl rfl (by decide +kernel) ⟨Nat.le_of_ble_eq_true rfl, Nat.le_of_ble_eq_true rfl⟩) (mo_rec hP hK) (vaP_mems hP (fun q hq => List.mem_append_right _ hq)) hK3 rfl hl.1 rfl (Nat.le_of_ble_eq_true rfl) dL_law_673 (by omega) (by omega) ?_
          refine lv_iload hx hb dL_law_676 (lv_at hl 1 rfl) ?_
          refine q_icmp_eq (tgt := 683) hx hb dL_law_678 (by decide) (by omega) (by omega) (fun c_3 => ?_) (fun c_3 => ?_)
          · skip
            refine lv_iload hx hb dL_law_683 (lv_at hl 1 rfl) ?_
            refine q_if_ne (tgt := 700) hx hb dL_law_685 (by decide) (by omega) (fun c_4 => ?_) (fun c_4 => ?_)
            · exfalso; omega
            · skip
              refine lv_aload_n hx hb dL_law_688 rfl (lv_at hl 6 rfl) ?_
              refine q_iconst hx hb dL_law_689 ?_
              refine q_lald hx hb hK3 hP dL_law_690 ?_
              refine lv_iload hx hb dL_law_691 (lv_at hl 0 rfl) ?_
              refine lv_i2l hx hb dL_law_693 rfl ?_
              refine q_lcmp0 hx hb (by rfl) dL_law_694 ?_
              refine q_if_eq (tgt := 700) hx hb dL_law_695 (by decide) (by omega) (fun c_5 => ?_) (fun c_5 => ?_)
              · skip
                refine lv_goto (tgt := 1638) hx hb dL_law_700 (by decide) ?_
                refine W.widen (k := cells + 3) (n := slots + 26) (by omega) (by omega) ?_
                exact kk _ _ _ ⟨u, _, _, _, _, _, hLW2, hu.1, hu.2.1, hu.2.2, hP, hD⟩ hS (lv_sub hl [2, 3, 4, 5, 6] rfl)
              · exfalso; omega
          · exact absurd rfl c_3
        · exfalso; omega
      · skip
        refine lv_istore (lv' := [(5, .int (iI (er))), (4, .int (iI ((i : Int)))), (0, .ref b), (1, .ref (g 0)), (2, .ref a), (3, .ref out)]) hx hb dL_law_644 hl (by decide) rfl (fun ls hl => ?_)
        refine lv_aload_n hx hb dL_law_646 rfl (lv_at hl 4 rfl) ?_
        refine lv_aload_n hx hb dL_law_647 rfl (lv_at hl 2 rfl) ?_
        refine lv_iload hx hb dL_law_648 (lv_at hl 1 rfl) ?_
        refine q_iconst hx hb dL_law_650 ?_
        refine q_iadd hx hb dL_law_651 ?_
        refine q_sld hx hb hX hbl hbA hS (i + 1) (by omega) (by omega) hL dL_law_652 ?_
        refine q_is hX1 ?_
        refine lv_aload_n hx hb dL_law_653 rfl (lv_at hl 2 rfl) ?_
        refine lv_iload hx hb dL_law_654 (lv_at hl 1 rfl) ?_
        refine q_iconst hx hb dL_law_656 ?_
        refine q_iadd hx hb dL_law_657 ?_
        refine q_sld hx hb hX hbl hbA hS (i + 2) (by omega) (by omega) hL dL_law_658 ?_
        refine q_is hX2 ?_
        refine q_if_eq (tgt := 666) hx hb dL_law_659 (by decide) (by omega) (fun c_6 => ?_) (fun c_6 => ?_)
        · skip
          refine q_iconst hx hb dL_law_666 ?_
          refine q_lawU (nL := 9) (As := [.int (iI (k)), .int (iI (0))]) (rest := []) (wr := WC cI cO g σ T P ++ [oc out cL fo]) ⟨hx, hb, hml, hown, hts⟩ (hMu _) (cwV 2 hts gL_law_X6_moon rfl rfl rfl (by decide +kernel) ⟨Nat.le_of_ble_eq_true rfl, Nat.le_of_ble_eq_true rfl⟩) (mo_rec hP hK) rfl rfl hP hD hS hA hK3 rfl hl.1 rfl (Nat.le_of_ble_eq_true rfl) dL_law_667 (by omega) (by omega) (fun r H locs hr hB hS => ?_)
          rcases hB with ⟨h0, hP, hD⟩ | ⟨h0, hP, hD⟩
          case inl => exact absurd h0 he
          refine lv_istore (lv' := [(6, .int r), (5, .int (iI (er))), (4, .int (iI ((i : Int)))), (0, .ref b), (1, .ref (g 0)), (2, .ref a), (3, .ref out)]) hx hb dL_law_670 hl (by decide) rfl (fun ls hl => ?_)
          refine lv_aload_n hx hb dL_law_672 rfl (lv_at hl 5 rfl) ?_
          refine q_callV (fr := 0) (lo := 0) (nL := 9) (Pic := PicM D cI a ta pa (er) (σ) (T) (P)) (As := []) (rest := []) ⟨hx, hb, hml, hown, hts⟩ (c_thrown l D cI cO cL a ta pa (er) (σ) (T) (P) hLW.1 hLW.2.1) (cwV 0 hts gL_law_X6_thrown rfl rfl rfl (by decide +kernel) ⟨Nat.le_of_ble_eq_true rfl, Nat.le_of_ble_eq_true rfl⟩) (mo_rec hP hK) (vaP_mems hP (fun q hq => List.mem_append_right _ hq)) hK3 rfl hl.1 rfl (Nat.le_of_ble_eq_true rfl) dL_law_673 (by omega) (by omega) ?_
          refine lv_iload hx hb dL_law_676 (lv_at hl 1 rfl) ?_
          refine q_icmp_eq (tgt := 683) hx hb dL_law_678 (by decide) (by omega) (by omega) (fun c_7 => ?_) (fun c_7 => ?_)
          · skip
            refine lv_iload hx hb dL_law_683 (lv_at hl 1 rfl) ?_
            refine q_if_ne (tgt := 700) hx hb dL_law_685 (by decide) (by omega) (fun c_8 => ?_) (fun c_8 => ?_)
            · skip
              refine lv_goto (tgt := 1638) hx hb dL_law_700 (by decide) ?_
              refine W.widen (k := cells + 3) (n := slots + 26) (by omega) (by omega) ?_
              exact kk _ _ _ ⟨g, σ, T, P, _, _, hLW, rfl, he6, he7, hP, hD⟩ hS (lv_sub hl [2, 3, 4, 5, 6] rfl)
            · exfalso; omega
          · exact absurd rfl c_7
        · exfalso; omega
    · exfalso; omega
  · skip
    obtain ⟨er, hev⟩ : ∃ er : Int, (if 0 ≤ k ∧ k ≤ 10000 then 0 else 1) = er := ⟨_, rfl⟩
    have her : 0 ≤ er ∧ er ≤ 2 := by rw [← hev]; (repeat' split) <;> omega
    have hMw := fun sz => w_moon l hst0 D sz out ed cI cO cL g σ T P fo hW hS0 he6 he7 k 1 hkr (Or.inr rfl)
    have hMu := fun sz => u_moon l D sz cI cO cL a ta pa th σ T P hW hS0 k 1 hkr (Or.inr rfl)
    rw [hev] at hMw hMu
    refine lv_aload_n hx hb dL_law_619 rfl (lv_at hl 2 rfl) ?_
    refine lv_aload_n hx hb dL_law_620 rfl (lv_at hl 1 rfl) ?_
    refine lv_iload hx hb dL_law_621 (lv_at hl 0 rfl) ?_
    refine q_iconst hx hb dL_law_623 ?_
    refine q_iadd hx hb dL_law_624 ?_
    refine q_sld hx hb hX hbl hbA hS (i + 1) (by omega) (by omega) hL dL_law_625 ?_
    refine q_is hX1 ?_
    refine lv_aload_n hx hb dL_law_626 rfl (lv_at hl 1 rfl) ?_
    refine lv_iload hx hb dL_law_627 (lv_at hl 0 rfl) ?_
    refine q_iconst hx hb dL_law_629 ?_
    refine q_iadd hx hb dL_law_630 ?_
    refine q_sld hx hb hX hbl hbA hS (i + 2) (by omega) (by omega) hL dL_law_631 ?_
    refine q_is hX2 ?_
    refine q_if_eq (tgt := 639) hx hb dL_law_632 (by decide) (by omega) (fun c_1 => ?_) (fun c_1 => ?_)
    · exfalso; omega
    · skip
      refine q_iconst hx hb dL_law_635 ?_
      refine lv_goto (tgt := 640) hx hb dL_law_636 (by decide) ?_
      refine lv_aload_n hx hb dL_law_640 rfl (lv_at hl 4 rfl) ?_
      refine q_lawW (nL := 9) (As := [.ref (g 0), .int (iI (k)), .int (iI (1)), .ref out]) (rest := []) (fo := fo) (wr := WMo cI a ta pa th σ T P) ⟨hx, hb, hml, hown, hts⟩ (hMw _) (vx_cwSW 4 hts gL_law_L_moon rfl rfl rfl (by decide +kernel) ⟨Nat.le_of_ble_eq_true rfl, Nat.le_of_ble_eq_true rfl⟩) hP hD hS hA hK3 hE hT hN rfl hl.1 rfl (Nat.le_of_ble_eq_true rfl) dL_law_641 (by omega) (by omega) (fun u H locs he hu hP hD hS => ?_) (fun H locs he hP hS => ?_)
      · subst he
        have hLW2 : LW (σ) (T) (P) := hLW
        refine lv_istore (lv' := [(5, .int (iI (0))), (4, .int (iI ((i : Int)))), (0, .ref b), (1, .ref (g 0)), (2, .ref a), (3, .ref out)]) hx hb dL_law_644 hl (by decide) rfl (fun ls hl => ?_)
        refine lv_aload_n hx hb dL_law_646 rfl (lv_at hl 4 rfl) ?_
        refine lv_aload_n hx hb dL_law_647 rfl (lv_at hl 2 rfl) ?_
        refine lv_iload hx hb dL_law_648 (lv_at hl 1 rfl) ?_
        refine q_iconst hx hb dL_law_650 ?_
        refine q_iadd hx hb dL_law_651 ?_
        refine q_sld hx hb hX hbl hbA hS (i + 1) (by omega) (by omega) hL dL_law_652 ?_
        refine q_is hX1 ?_
        refine lv_aload_n hx hb dL_law_653 rfl (lv_at hl 2 rfl) ?_
        refine lv_iload hx hb dL_law_654 (lv_at hl 1 rfl) ?_
        refine q_iconst hx hb dL_law_656 ?_
        refine q_iadd hx hb dL_law_657 ?_
        refine q_sld hx hb hX hbl hbA hS (i + 2) (by omega) (by omega) hL dL_law_658 ?_
        refine q_is hX2 ?_
        refine q_if_eq (tgt := 666) hx hb dL_law_659 (by decide) (by omega) (fun c_2 => ?_) (fun c_2 => ?_)
        · exfalso; omega
        · skip
          refine q_iconst hx hb dL_law_662 ?_
          refine lv_goto (tgt := 667) hx hb dL_law_663 (by decide) ?_
          refine q_lawU (nL := 9) (As := [.int (iI (k)), .int (iI (1))]) (rest := []) (wr := WC cI cO u (σ) (T) (P) ++ [oc out cL (vp_updL fo 0 (iI (m_tm (σ 2) (σ 3) k 1 / 1000)).toInt64)]) ⟨hx, hb, hml, hown, hts⟩ (hMu _) (cwV 2 hts gL_law_X6_moon rfl rfl rfl (by decide +kernel) ⟨Nat.le_of_ble_eq_true rfl, Nat.le_of_ble_eq_true rfl⟩) (mo_rec hP hK) rfl rfl hP hD hS hA hK3 rfl hl.1 rfl (Nat.le_of_ble_eq_true rfl) dL_law_667 (by omega) (by omega) (fun r H locs hr hB hS => ?_)
          rcases hB with ⟨h0, hP, hD⟩ | ⟨h0, hP, hD⟩
          case inr => exact absurd rfl h0
          have hr := hr rfl
          subst hr
          refine lv_istore (lv' := [(6, .int (iI (m_tm (σ 2) (σ 3) k 1 / 1000))), (5, .int (iI (0))), (4, .int (iI ((i : Int)))), (0, .ref b), (1, .ref (g 0)), (2, .ref a), (3, .ref out)]) hx hb dL_law_670 hl (by decide) rfl (fun ls hl => ?_)
          refine lv_aload_n hx hb dL_law_672 rfl (lv_at hl 5 rfl) ?_
          refine q_callV (fr := 0) (lo := 0) (nL := 9) (Pic := PicM D cI a ta pa (0) (σ) (T) (P)) (As := []) (rest := []) ⟨hx, hb, hml, hown, hts⟩ (c_thrown l D cI cO cL a ta pa (0) (σ) (T) (P) hLW2.1 hLW2.2.1) (cwV 0 hts gL_law_X6_thrown rfl rfl rfl (by decide +kernel) ⟨Nat.le_of_ble_eq_true rfl, Nat.le_of_ble_eq_true rfl⟩) (mo_rec hP hK) (vaP_mems hP (fun q hq => List.mem_append_right _ hq)) hK3 rfl hl.1 rfl (Nat.le_of_ble_eq_true rfl) dL_law_673 (by omega) (by omega) ?_
          refine lv_iload hx hb dL_law_676 (lv_at hl 1 rfl) ?_
          refine q_icmp_eq (tgt := 683) hx hb dL_law_678 (by decide) (by omega) (by omega) (fun c_3 => ?_) (fun c_3 => ?_)
          · skip
            refine lv_iload hx hb dL_law_683 (lv_at hl 1 rfl) ?_
            refine q_if_ne (tgt := 700) hx hb dL_law_685 (by decide) (by omega) (fun c_4 => ?_) (fun c_4 => ?_)
            · exfalso; omega
            · skip
              refine lv_aload_n hx hb dL_law_688 rfl (lv_at hl 6 rfl) ?_
              refine q_iconst hx hb dL_law_689 ?_
              refine q_lald hx hb hK3 hP dL_law_690 ?_
              refine lv_iload hx hb dL_law_691 (lv_at hl 0 rfl) ?_
              refine lv_i2l hx hb dL_law_693 rfl ?_
              refine q_lcmp0 hx hb (by rfl) dL_law_694 ?_
              refine q_if_eq (tgt := 700) hx hb dL_law_695 (by decide) (by omega) (fun c_5 => ?_) (fun c_5 => ?_)
              · skip
                refine lv_goto (tgt := 1638) hx hb dL_law_700 (by decide) ?_
                refine W.widen (k := cells + 3) (n := slots + 26) (by omega) (by omega) ?_
                exact kk _ _ _ ⟨u, _, _, _, _, _, hLW2, hu.1, hu.2.1, hu.2.2, hP, hD⟩ hS (lv_sub hl [2, 3, 4, 5, 6] rfl)
              · exfalso; omega
          · exact absurd rfl c_3
      · skip
        refine lv_istore (lv' := [(5, .int (iI (er))), (4, .int (iI ((i : Int)))), (0, .ref b), (1, .ref (g 0)), (2, .ref a), (3, .ref out)]) hx hb dL_law_644 hl (by decide) rfl (fun ls hl => ?_)
        refine lv_aload_n hx hb dL_law_646 rfl (lv_at hl 4 rfl) ?_
        refine lv_aload_n hx hb dL_law_647 rfl (lv_at hl 2 rfl) ?_
        refine lv_iload hx hb dL_law_648 (lv_at hl 1 rfl) ?_
        refine q_iconst hx hb dL_law_650 ?_
        refine q_iadd hx hb dL_law_651 ?_
        refine q_sld hx hb hX hbl hbA hS (i + 1) (by omega) (by omega) hL dL_law_652 ?_
        refine q_is hX1 ?_
        refine lv_aload_n hx hb dL_law_653 rfl (lv_at hl 2 rfl) ?_
        refine lv_iload hx hb dL_law_654 (lv_at hl 1 rfl) ?_
        refine q_iconst hx hb dL_law_656 ?_
        refine q_iadd hx hb dL_law_657 ?_
        refine q_sld hx hb hX hbl hbA hS (i + 2) (by omega) (by omega) hL dL_law_658 ?_
        refine q_is hX2 ?_
        refine q_if_eq (tgt := 666) hx hb dL_law_659 (by decide) (by omega) (fun c_6 => ?_) (fun c_6 => ?_)
        · exfalso; omega
        · skip
          refine q_iconst hx hb dL_law_662 ?_
          refine lv_goto (tgt := 667) hx hb dL_law_663 (by decide) ?_
          refine q_lawU (nL := 9) (As := [.int (iI (k)), .int (iI (1))]) (rest := []) (wr := WC cI cO g σ T P ++ [oc out cL fo]) ⟨hx, hb, hml, hown, hts⟩ (hMu _) (cwV 2 hts gL_law_X6_moon rfl rfl rfl (by decide +kernel) ⟨Nat.le_of_ble_eq_true rfl, Nat.le_of_ble_eq_true rfl⟩) (mo_rec hP hK) rfl rfl hP hD hS hA hK3 rfl hl.1 rfl (Nat.le_of_ble_eq_true rfl) dL_law_667 (by omega) (by omega) (fun r H locs hr hB hS => ?_)
          rcases hB with ⟨h0, hP, hD⟩ | ⟨h0, hP, hD⟩
          case inl => exact absurd h0 he
          refine lv_istore (lv' := [(6, .int r), (5, .int (iI (er))), (4, .int (iI ((i : Int)))), (0, .ref b), (1, .ref (g 0)), (2, .ref a), (3, .ref out)]) hx hb dL_law_670 hl (by decide) rfl (fun ls hl => ?_)
          refine lv_aload_n hx hb dL_law_672 rfl (lv_at hl 5 rfl) ?_
          refine q_callV (fr := 0) (lo := 0) (nL := 9) (Pic := PicM D cI a ta pa (er) (σ) (T) (P)) (As := []) (rest := []) ⟨hx, hb, hml, hown, hts⟩ (c_thrown l D cI cO cL a ta pa (er) (σ) (T) (P) hLW.1 hLW.2.1) (cwV 0 hts gL_law_X6_thrown rfl rfl rfl (by decide +kernel) ⟨Nat.le_of_ble_eq_true rfl, Nat.le_of_ble_eq_true rfl⟩) (mo_rec hP hK) (vaP_mems hP (fun q hq => List.mem_append_right _ hq)) hK3 rfl hl.1 rfl (Nat.le_of_ble_eq_true rfl) dL_law_673 (by omega) (by omega) ?_
          refine lv_iload hx hb dL_law_676 (lv_at hl 1 rfl) ?_
          refine q_icmp_eq (tgt := 683) hx hb dL_law_678 (by decide) (by omega) (by omega) (fun c_7 => ?_) (fun c_7 => ?_)
          · skip
            refine lv_iload hx hb dL_law_683 (lv_at hl 1 rfl) ?_
            refine q_if_ne (tgt := 700) hx hb dL_law_685 (by decide) (by omega) (fun c_8 => ?_) (fun c_8 => ?_)
            · skip
              refine lv_goto (tgt := 1638) hx hb dL_law_700 (by decide) ?_
              refine W.widen (k := cells + 3) (n := slots + 26) (by omega) (by omega) ?_
              exact kk _ _ _ ⟨g, σ, T, P, _, _, hLW, rfl, he6, he7, hP, hD⟩ hS (lv_sub hl [2, 3, 4, 5, 6] rfl)
            · exfalso; omega
          · exact absurd rfl c_7
set_option maxHeartbeats 4000000 in
set_option maxRecDepth 100000 in
theorem r_eclipses {p : Program} {l : Launch} {e : Env} {s : State} {m : MethodId} {args : Array Value} {below : List Frame} {meth : Method} {c : Code} {Q : State → Prop} {A0 : Nat → Prop} {D : va_G} {cI cO cL cB : ClassId} {ed : Nat × Nat × Nat} {out g0 a ta pa b L : Nat} {xs : Nat → Int32} (C0 : LC p l s m args c A0 D cI cO cL cB ed b L xs) {cells slots : Nat} (hc : cells + 3 ≤ room_1.cells) (hs : slots + 26 ≤ room_1.slots) {i : Nat} (hi : i + 6 ≤ L) {H : Heap} {locs : List Loc} {ls : Array Slot} (hI : IV D cI cO cL A0 ed out g0 a ta pa H) (hS : va_S A0 s.heap H locs) (hl : lv_has ls 9 [(4, .int (iI (i : Int))), (0, .ref b), (1, .ref g0), (2, .ref a), (3, .ref out)]) (kk : ∀ (H : Heap) (locs : List Loc) (ls : Array Slot), IV D cI cO cL A0 ed out g0 a ta pa H → va_S A0 s.heap H locs → lv_has ls 9 [(4, .int (iI (i : Int))), (0, .ref b), (1, .ref g0), (2, .ref a), (3, .ref out)] → W p l e room_1 s m args below meth c H locs (cells + 3) (slots + 26) Q (F0 m 1638 ls [])) : W p l e room_1 s m args below meth c H locs cells slots Q (F0 m 703 ls []) := by
  obtain ⟨hst0, hx, hb, hml, hown, hts, hX, hbl, hbA, hL, hA, hK, hE, hT, hN⟩ := C0
  obtain ⟨g, σ, T, P, fo, th, hLW, hg0, he6, he7, hP, hD⟩ := hI
  subst hg0
  obtain ⟨hW, hS0, hp0⟩ := id hLW
  obtain ⟨w0, w1, w2, w3, w4, w5, w6, w7, w8⟩ := id hW
  have hK3 : va_K D vwCl (ty3 cI cO cL) s := hK.sub [0, 1, 2] rfl
  obtain ⟨y, hyr, hX1⟩ : ∃ z : Int, (-2147483648 ≤ z ∧ z < 2147483648) ∧ (xs (i + 1)).toInt = z := ⟨_, I_rng _, rfl⟩
  obtain ⟨bx, hbxr, hX2⟩ : ∃ z : Int, (-2147483648 ≤ z ∧ z < 2147483648) ∧ (xs (i + 2)).toInt = z := ⟨_, I_rng _, rfl⟩
  by_cases hbx : bx = 0
  · skip
    obtain ⟨er, hev⟩ : ∃ er : Int, (if 0 ≤ y ∧ y < 1000 then 0 else 1) = er := ⟨_, rfl⟩
    have her : 0 ≤ er ∧ er ≤ 2 := by rw [← hev]; (repeat' split) <;> omega
    have hMw := fun sz => w_eclipses l hst0 D sz out ed cI cO cL g σ T P fo hW hS0 he6 he7 y 0 hyr (Or.inl rfl)
    have hMu := fun sz => u_eclipses l D sz cI cO cL a ta pa th σ T P hW hS0 y 0 hyr (Or.inl rfl)
    rw [hev] at hMw hMu
    refine lv_aload_n hx hb dL_law_703 rfl (lv_at hl 2 rfl) ?_
    refine lv_aload_n hx hb dL_law_704 rfl (lv_at hl 1 rfl) ?_
    refine lv_iload hx hb dL_law_705 (lv_at hl 0 rfl) ?_
    refine q_iconst hx hb dL_law_707 ?_
    refine q_iadd hx hb dL_law_708 ?_
    refine q_sld hx hb hX hbl hbA hS (i + 1) (by omega) (by omega) hL dL_law_709 ?_
    refine q_is hX1 ?_
    refine lv_aload_n hx hb dL_law_710 rfl (lv_at hl 1 rfl) ?_
    refine lv_iload hx hb dL_law_711 (lv_at hl 0 rfl) ?_
    refine q_iconst hx hb dL_law_713 ?_
    refine q_iadd hx hb dL_law_714 ?_
    refine q_sld hx hb hX hbl hbA hS (i + 2) (by omega) (by omega) hL dL_law_715 ?_
    refine q_is hX2 ?_
    refine q_if_eq (tgt := 723) hx hb dL_law_716 (by decide) (by omega) (fun c_1 => ?_) (fun c_1 => ?_)
    · skip
      refine q_iconst hx hb dL_law_723 ?_
      refine lv_aload_n hx hb dL_law_724 rfl (lv_at hl 4 rfl) ?_
      refine q_lawW (nL := 9) (As := [.ref (g 0), .int (iI (y)), .int (iI (0)), .ref out]) (rest := []) (fo := fo) (wr := WMo cI a ta pa th σ T P) ⟨hx, hb, hml, hown, hts⟩ (hMw _) (vx_cwSW 4 hts gL_law_L_eclipses rfl rfl rfl (by decide +kernel) ⟨Nat.le_of_ble_eq_true rfl, Nat.le_of_ble_eq_true rfl⟩) hP hD hS hA hK3 hE hT hN rfl hl.1 rfl (Nat.le_of_ble_eq_true rfl) dL_law_725 (by omega) (by omega) (fun u H locs he hu hP hD hS => ?_) (fun H locs he hP hS => ?_)
      · subst he
        have hLW2 : LW (σ) (T) (P) := hLW
        refine lv_istore (lv' := [(5, .int (iI (0))), (4, .int (iI ((i : Int)))), (0, .ref b), (1, .ref (g 0)), (2, .ref a), (3, .ref out)]) hx hb dL_law_728 hl (by decide) rfl (fun ls hl => ?_)
        refine lv_aload_n hx hb dL_law_730 rfl (lv_at hl 4 rfl) ?_
        refine lv_aload_n hx hb dL_law_731 rfl (lv_at hl 2 rfl) ?_
        refine lv_iload hx hb dL_law_732 (lv_at hl 1 rfl) ?_
        refine q_iconst hx hb dL_law_734 ?_
        refine q_iadd hx hb dL_law_735 ?_
        refine q_sld hx hb hX hbl hbA hS (i + 1) (by omega) (by omega) hL dL_law_736 ?_
        refine q_is hX1 ?_
        refine lv_aload_n hx hb dL_law_737 rfl (lv_at hl 2 rfl) ?_
        refine lv_iload hx hb dL_law_738 (lv_at hl 1 rfl) ?_
        refine q_iconst hx hb dL_law_740 ?_
        refine q_iadd hx hb dL_law_741 ?_
        refine q_sld hx hb hX hbl hbA hS (i + 2) (by omega) (by omega) hL dL_law_742 ?_
        refine q_is hX2 ?_
        refine q_if_eq (tgt := 750) hx hb dL_law_743 (by decide) (by omega) (fun c_2 => ?_) (fun c_2 => ?_)
        · skip
          refine q_iconst hx hb dL_law_750 ?_
          refine q_lawU (nL := 9) (As := [.int (iI (y)), .int (iI (0))]) (rest := []) (wr := WC cI cO u (σ) (T) (P) ++ [oc out cL (vp_updL fo 0 (iI (m_Eb σ y (1 - 0))).toInt64)]) ⟨hx, hb, hml, hown, hts⟩ (hMu _) (cwV 2 hts gL_law_X6_eclipses rfl rfl rfl (by decide +kernel) ⟨Nat.le_of_ble_eq_true rfl, Nat.le_of_ble_eq_true rfl⟩) (mo_rec hP hK) rfl rfl hP hD hS hA hK3 rfl hl.1 rfl (Nat.le_of_ble_eq_true rfl) dL_law_751 (by omega) (by omega) (fun r H locs hr hB hS => ?_)
          rcases hB with ⟨h0, hP, hD⟩ | ⟨h0, hP, hD⟩
          case inr => exact absurd rfl h0
          have hr := hr rfl
          subst hr
          refine lv_istore (lv' := [(6, .int (iI (m_Eb σ y (1 - 0)))), (5, .int (iI (0))), (4, .int (iI ((i : Int)))), (0, .ref b), (1, .ref (g 0)), (2, .ref a), (3, .ref out)]) hx hb dL_law_754 hl (by decide) rfl (fun ls hl => ?_)
          refine lv_aload_n hx hb dL_law_756 rfl (lv_at hl 5 rfl) ?_
          refine q_callV (fr := 0) (lo := 0) (nL := 9) (Pic := PicM D cI a ta pa (0) (σ) (T) (P)) (As := []) (rest := []) ⟨hx, hb, hml, hown, hts⟩ (c_thrown l D cI cO cL a ta pa (0) (σ) (T) (P) hLW2.1 hLW2.2.1) (cwV 0 hts gL_law_X6_thrown rfl rfl rfl (by decide +kernel) ⟨Nat.le_of_ble_eq_true rfl, Nat.le_of_ble_eq_true rfl⟩) (mo_rec hP hK) (vaP_mems hP (fun q hq => List.mem_append_right _ hq)) hK3 rfl hl.1 rfl (Nat.le_of_ble_eq_true rfl) dL_law_757 (by omega) (by omega) ?_
          refine lv_iload hx hb dL_law_760 (lv_at hl 1 rfl) ?_
          refine q_icmp_eq (tgt := 767) hx hb dL_law_762 (by decide) (by omega) (by omega) (fun c_3 => ?_) (fun c_3 => ?_)
          · skip
            refine lv_iload hx hb dL_law_767 (lv_at hl 1 rfl) ?_
            refine q_if_ne (tgt := 784) hx hb dL_law_769 (by decide) (by omega) (fun c_4 => ?_) (fun c_4 => ?_)
            · exfalso; omega
            · skip
              refine lv_aload_n hx hb dL_law_772 rfl (lv_at hl 6 rfl) ?_
              refine q_iconst hx hb dL_law_773 ?_
              refine q_lald hx hb hK3 hP dL_law_774 ?_
              refine lv_iload hx hb dL_law_775 (lv_at hl 0 rfl) ?_
              refine lv_i2l hx hb dL_law_777 rfl ?_
              refine q_lcmp0 hx hb (by rfl) dL_law_778 ?_
              refine q_if_eq (tgt := 784) hx hb dL_law_779 (by decide) (by omega) (fun c_5 => ?_) (fun c_5 => ?_)
              · skip
                refine lv_goto (tgt := 1638) hx hb dL_law_784 (by decide) ?_
                refine W.widen (k := cells + 3) (n := slots + 26) (by omega) (by omega) ?_
                exact kk _ _ _ ⟨u, _, _, _, _, _, hLW2, hu.1, hu.2.1, hu.2.2, hP, hD⟩ hS (lv_sub hl [2, 3, 4, 5, 6] rfl)
              · exfalso; omega
          · exact absurd rfl c_3
        · exfalso; omega
      · skip
        refine lv_istore (lv' := [(5, .int (iI (er))), (4, .int (iI ((i : Int)))), (0, .ref b), (1, .ref (g 0)), (2, .ref a), (3, .ref out)]) hx hb dL_law_728 hl (by decide) rfl (fun ls hl => ?_)
        refine lv_aload_n hx hb dL_law_730 rfl (lv_at hl 4 rfl) ?_
        refine lv_aload_n hx hb dL_law_731 rfl (lv_at hl 2 rfl) ?_
        refine lv_iload hx hb dL_law_732 (lv_at hl 1 rfl) ?_
        refine q_iconst hx hb dL_law_734 ?_
        refine q_iadd hx hb dL_law_735 ?_
        refine q_sld hx hb hX hbl hbA hS (i + 1) (by omega) (by omega) hL dL_law_736 ?_
        refine q_is hX1 ?_
        refine lv_aload_n hx hb dL_law_737 rfl (lv_at hl 2 rfl) ?_
        refine lv_iload hx hb dL_law_738 (lv_at hl 1 rfl) ?_
        refine q_iconst hx hb dL_law_740 ?_
        refine q_iadd hx hb dL_law_741 ?_
        refine q_sld hx hb hX hbl hbA hS (i + 2) (by omega) (by omega) hL dL_law_742 ?_
        refine q_is hX2 ?_
        refine q_if_eq (tgt := 750) hx hb dL_law_743 (by decide) (by omega) (fun c_6 => ?_) (fun c_6 => ?_)
        · skip
          refine q_iconst hx hb dL_law_750 ?_
          refine q_lawU (nL := 9) (As := [.int (iI (y)), .int (iI (0))]) (rest := []) (wr := WC cI cO g σ T P ++ [oc out cL fo]) ⟨hx, hb, hml, hown, hts⟩ (hMu _) (cwV 2 hts gL_law_X6_eclipses rfl rfl rfl (by decide +kernel) ⟨Nat.le_of_ble_eq_true rfl, Nat.le_of_ble_eq_true rfl⟩) (mo_rec hP hK) rfl rfl hP hD hS hA hK3 rfl hl.1 rfl (Nat.le_of_ble_eq_true rfl) dL_law_751 (by omega) (by omega) (fun r H locs hr hB hS => ?_)
          rcases hB with ⟨h0, hP, hD⟩ | ⟨h0, hP, hD⟩
          case inl => exact absurd h0 he
          refine lv_istore (lv' := [(6, .int r), (5, .int (iI (er))), (4, .int (iI ((i : Int)))), (0, .ref b), (1, .ref (g 0)), (2, .ref a), (3, .ref out)]) hx hb dL_law_754 hl (by decide) rfl (fun ls hl => ?_)
          refine lv_aload_n hx hb dL_law_756 rfl (lv_at hl 5 rfl) ?_
          refine q_callV (fr := 0) (lo := 0) (nL := 9) (Pic := PicM D cI a ta pa (er) (σ) (T) (P)) (As := []) (rest := []) ⟨hx, hb, hml, hown, hts⟩ (c_thrown l D cI cO cL a ta pa (er) (σ) (T) (P) hLW.1 hLW.2.1) (cwV 0 hts gL_law_X6_thrown rfl rfl rfl (by decide +kernel) ⟨Nat.le_of_ble_eq_true rfl, Nat.le_of_ble_eq_true rfl⟩) (mo_rec hP hK) (vaP_mems hP (fun q hq => List.mem_append_right _ hq)) hK3 rfl hl.1 rfl (Nat.le_of_ble_eq_true rfl) dL_law_757 (by omega) (by omega) ?_
          refine lv_iload hx hb dL_law_760 (lv_at hl 1 rfl) ?_
          refine q_icmp_eq (tgt := 767) hx hb dL_law_762 (by decide) (by omega) (by omega) (fun c_7 => ?_) (fun c_7 => ?_)
          · skip
            refine lv_iload hx hb dL_law_767 (lv_at hl 1 rfl) ?_
            refine q_if_ne (tgt := 784) hx hb dL_law_769 (by decide) (by omega) (fun c_8 => ?_) (fun c_8 => ?_)
            · skip
              refine lv_goto (tgt := 1638) hx hb dL_law_784 (by decide) ?_
              refine W.widen (k := cells + 3) (n := slots + 26) (by omega) (by omega) ?_
              exact kk _ _ _ ⟨g, σ, T, P, _, _, hLW, rfl, he6, he7, hP, hD⟩ hS (lv_sub hl [2, 3, 4, 5, 6] rfl)
            · exfalso; omega
          · exact absurd rfl c_7
        · exfalso; omega
    · exfalso; omega
  · skip
    obtain ⟨er, hev⟩ : ∃ er : Int, (if 0 ≤ y ∧ y < 1000 then 0 else 1) = er := ⟨_, rfl⟩
    have her : 0 ≤ er ∧ er ≤ 2 := by rw [← hev]; (repeat' split) <;> omega
    have hMw := fun sz => w_eclipses l hst0 D sz out ed cI cO cL g σ T P fo hW hS0 he6 he7 y 1 hyr (Or.inr rfl)
    have hMu := fun sz => u_eclipses l D sz cI cO cL a ta pa th σ T P hW hS0 y 1 hyr (Or.inr rfl)
    rw [hev] at hMw hMu
    refine lv_aload_n hx hb dL_law_703 rfl (lv_at hl 2 rfl) ?_
    refine lv_aload_n hx hb dL_law_704 rfl (lv_at hl 1 rfl) ?_
    refine lv_iload hx hb dL_law_705 (lv_at hl 0 rfl) ?_
    refine q_iconst hx hb dL_law_707 ?_
    refine q_iadd hx hb dL_law_708 ?_
    refine q_sld hx hb hX hbl hbA hS (i + 1) (by omega) (by omega) hL dL_law_709 ?_
    refine q_is hX1 ?_
    refine lv_aload_n hx hb dL_law_710 rfl (lv_at hl 1 rfl) ?_
    refine lv_iload hx hb dL_law_711 (lv_at hl 0 rfl) ?_
    refine q_iconst hx hb dL_law_713 ?_
    refine q_iadd hx hb dL_law_714 ?_
    refine q_sld hx hb hX hbl hbA hS (i + 2) (by omega) (by omega) hL dL_law_715 ?_
    refine q_is hX2 ?_
    refine q_if_eq (tgt := 723) hx hb dL_law_716 (by decide) (by omega) (fun c_1 => ?_) (fun c_1 => ?_)
    · exfalso; omega
    · skip
      refine q_iconst hx hb dL_law_719 ?_
      refine lv_goto (tgt := 724) hx hb dL_law_720 (by decide) ?_
      refine lv_aload_n hx hb dL_law_724 rfl (lv_at hl 4 rfl) ?_
      refine q_lawW (nL := 9) (As := [.ref (g 0), .int (iI (y)), .int (iI (1)), .ref out]) (rest := []) (fo := fo) (wr := WMo cI a ta pa th σ T P) ⟨hx, hb, hml, hown, hts⟩ (hMw _) (vx_cwSW 4 hts gL_law_L_eclipses rfl rfl rfl (by decide +kernel) ⟨Nat.le_of_ble_eq_true rfl, Nat.le_of_ble_eq_true rfl⟩) hP hD hS hA hK3 hE hT hN rfl hl.1 rfl (Nat.le_of_ble_eq_true rfl) dL_law_725 (by omega) (by omega) (fun u H locs he hu hP hD hS => ?_) (fun H locs he hP hS => ?_)
      · subst he
        have hLW2 : LW (σ) (T) (P) := hLW
        refine lv_istore (lv' := [(5, .int (iI (0))), (4, .int (iI ((i : Int)))), (0, .ref b), (1, .ref (g 0)), (2, .ref a), (3, .ref out)]) hx hb dL_law_728 hl (by decide) rfl (fun ls hl => ?_)
        refine lv_aload_n hx hb dL_law_730 rfl (lv_at hl 4 rfl) ?_
        refine lv_aload_n hx hb dL_law_731 rfl (lv_at hl 2 rfl) ?_
        refine lv_iload hx hb dL_law_732 (lv_at hl 1 rfl) ?_
        refine q_iconst hx hb dL_law_734 ?_
        refine q_iadd hx hb dL_law_735 ?_
        refine q_sld hx hb hX hbl hbA hS (i + 1) (by omega) (by omega) hL dL_law_736 ?_
        refine q_is hX1 ?_
        refine lv_aload_n hx hb dL_law_737 rfl (lv_at hl 2 rfl) ?_
        refine lv_iload hx hb dL_law_738 (lv_at hl 1 rfl) ?_
        refine q_iconst hx hb dL_law_740 ?_
        refine q_iadd hx hb dL_law_741 ?_
        refine q_sld hx hb hX hbl hbA hS (i + 2) (by omega) (by omega) hL dL_law_742 ?_
        refine q_is hX2 ?_
        refine q_if_eq (tgt := 750) hx hb dL_law_743 (by decide) (by omega) (fun c_2 => ?_) (fun c_2 => ?_)
        · exfalso; omega
        · skip
          refine q_iconst hx hb dL_law_746 ?_
          refine lv_goto (tgt := 751) hx hb dL_law_747 (by decide) ?_
          refine q_lawU (nL := 9) (As := [.int (iI (y)), .int (iI (1))]) (rest := []) (wr := WC cI cO u (σ) (T) (P) ++ [oc out cL (vp_updL fo 0 (iI (m_Eb σ y (1 - 1))).toInt64)]) ⟨hx, hb, hml, hown, hts⟩ (hMu _) (cwV 2 hts gL_law_X6_eclipses rfl rfl rfl (by decide +kernel) ⟨Nat.le_of_ble_eq_true rfl, Nat.le_of_ble_eq_true rfl⟩) (mo_rec hP hK) rfl rfl hP hD hS hA hK3 rfl hl.1 rfl (Nat.le_of_ble_eq_true rfl) dL_law_751 (by omega) (by omega) (fun r H locs hr hB hS => ?_)
          rcases hB with ⟨h0, hP, hD⟩ | ⟨h0, hP, hD⟩
          case inr => exact absurd rfl h0
          have hr := hr rfl
          subst hr
          refine lv_istore (lv' := [(6, .int (iI (m_Eb σ y (1 - 1)))), (5, .int (iI (0))), (4, .int (iI ((i : Int)))), (0, .ref b), (1, .ref (g 0)), (2, .ref a), (3, .ref out)]) hx hb dL_law_754 hl (by decide) rfl (fun ls hl => ?_)
          refine lv_aload_n hx hb dL_law_756 rfl (lv_at hl 5 rfl) ?_
          refine q_callV (fr := 0) (lo := 0) (nL := 9) (Pic := PicM D cI a ta pa (0) (σ) (T) (P)) (As := []) (rest := []) ⟨hx, hb, hml, hown, hts⟩ (c_thrown l D cI cO cL a ta pa (0) (σ) (T) (P) hLW2.1 hLW2.2.1) (cwV 0 hts gL_law_X6_thrown rfl rfl rfl (by decide +kernel) ⟨Nat.le_of_ble_eq_true rfl, Nat.le_of_ble_eq_true rfl⟩) (mo_rec hP hK) (vaP_mems hP (fun q hq => List.mem_append_right _ hq)) hK3 rfl hl.1 rfl (Nat.le_of_ble_eq_true rfl) dL_law_757 (by omega) (by omega) ?_
          refine lv_iload hx hb dL_law_760 (lv_at hl 1 rfl) ?_
          refine q_icmp_eq (tgt := 767) hx hb dL_law_762 (by decide) (by omega) (by omega) (fun c_3 => ?_) (fun c_3 => ?_)
          · skip
            refine lv_iload hx hb dL_law_767 (lv_at hl 1 rfl) ?_
            refine q_if_ne (tgt := 784) hx hb dL_law_769 (by decide) (by omega) (fun c_4 => ?_) (fun c_4 => ?_)
            · exfalso; omega
            · skip
              refine lv_aload_n hx hb dL_law_772 rfl (lv_at hl 6 rfl) ?_
              refine q_iconst hx hb dL_law_773 ?_
              refine q_lald hx hb hK3 hP dL_law_774 ?_
              refine lv_iload hx hb dL_law_775 (lv_at hl 0 rfl) ?_
              refine lv_i2l hx hb dL_law_777 rfl ?_
              refine q_lcmp0 hx hb (by rfl) dL_law_778 ?_
              refine q_if_eq (tgt := 784) hx hb dL_law_779 (by decide) (by omega) (fun c_5 => ?_) (fun c_5 => ?_)
              · skip
                refine lv_goto (tgt := 1638) hx hb dL_law_784 (by decide) ?_
                refine W.widen (k := cells + 3) (n := slots + 26) (by omega) (by omega) ?_
                exact kk _ _ _ ⟨u, _, _, _, _, _, hLW2, hu.1, hu.2.1, hu.2.2, hP, hD⟩ hS (lv_sub hl [2, 3, 4, 5, 6] rfl)
              · exfalso; omega
          · exact absurd rfl c_3
      · skip
        refine lv_istore (lv' := [(5, .int (iI (er))), (4, .int (iI ((i : Int)))), (0, .ref b), (1, .ref (g 0)), (2, .ref a), (3, .ref out)]) hx hb dL_law_728 hl (by decide) rfl (fun ls hl => ?_)
        refine lv_aload_n hx hb dL_law_730 rfl (lv_at hl 4 rfl) ?_
        refine lv_aload_n hx hb dL_law_731 rfl (lv_at hl 2 rfl) ?_
        refine lv_iload hx hb dL_law_732 (lv_at hl 1 rfl) ?_
        refine q_iconst hx hb dL_law_734 ?_
        refine q_iadd hx hb dL_law_735 ?_
        refine q_sld hx hb hX hbl hbA hS (i + 1) (by omega) (by omega) hL dL_law_736 ?_
        refine q_is hX1 ?_
        refine lv_aload_n hx hb dL_law_737 rfl (lv_at hl 2 rfl) ?_
        refine lv_iload hx hb dL_law_738 (lv_at hl 1 rfl) ?_
        refine q_iconst hx hb dL_law_740 ?_
        refine q_iadd hx hb dL_law_741 ?_
        refine q_sld hx hb hX hbl hbA hS (i + 2) (by omega) (by omega) hL dL_law_742 ?_
        refine q_is hX2 ?_
        refine q_if_eq (tgt := 750) hx hb dL_law_743 (by decide) (by omega) (fun c_6 => ?_) (fun c_6 => ?_)
        · exfalso; omega
        · skip
          refine q_iconst hx hb dL_law_746 ?_
          refine lv_goto (tgt := 751) hx hb dL_law_747 (by decide) ?_
          refine q_lawU (nL := 9) (As := [.int (iI (y)), .int (iI (1))]) (rest := []) (wr := WC cI cO g σ T P ++ [oc out cL fo]) ⟨hx, hb, hml, hown, hts⟩ (hMu _) (cwV 2 hts gL_law_X6_eclipses rfl rfl rfl (by decide +kernel) ⟨Nat.le_of_ble_eq_true rfl, Nat.le_of_ble_eq_true rfl⟩) (mo_rec hP hK) rfl rfl hP hD hS hA hK3 rfl hl.1 rfl (Nat.le_of_ble_eq_true rfl) dL_law_751 (by omega) (by omega) (fun r H locs hr hB hS => ?_)
          rcases hB with ⟨h0, hP, hD⟩ | ⟨h0, hP, hD⟩
          case inl => exact absurd h0 he
          refine lv_istore (lv' := [(6, .int r), (5, .int (iI (er))), (4, .int (iI ((i : Int)))), (0, .ref b), (1, .ref (g 0)), (2, .ref a), (3, .ref out)]) hx hb dL_law_754 hl (by decide) rfl (fun ls hl => ?_)
          refine lv_aload_n hx hb dL_law_756 rfl (lv_at hl 5 rfl) ?_
          refine q_callV (fr := 0) (lo := 0) (nL := 9) (Pic := PicM D cI a ta pa (er) (σ) (T) (P)) (As := []) (rest := []) ⟨hx, hb, hml, hown, hts⟩ (c_thrown l D cI cO cL a ta pa (er) (σ) (T) (P) hLW.1 hLW.2.1) (cwV 0 hts gL_law_X6_thrown rfl rfl rfl (by decide +kernel) ⟨Nat.le_of_ble_eq_true rfl, Nat.le_of_ble_eq_true rfl⟩) (mo_rec hP hK) (vaP_mems hP (fun q hq => List.mem_append_right _ hq)) hK3 rfl hl.1 rfl (Nat.le_of_ble_eq_true rfl) dL_law_757 (by omega) (by omega) ?_
          refine lv_iload hx hb dL_law_760 (lv_at hl 1 rfl) ?_
          refine q_icmp_eq (tgt := 767) hx hb dL_law_762 (by decide) (by omega) (by omega) (fun c_7 => ?_) (fun c_7 => ?_)
          · skip
            refine lv_iload hx hb dL_law_767 (lv_at hl 1 rfl) ?_
            refine q_if_ne (tgt := 784) hx hb dL_law_769 (by decide) (by omega) (fun c_8 => ?_) (fun c_8 => ?_)
            · skip
              refine lv_goto (tgt := 1638) hx hb dL_law_784 (by decide) ?_
              refine W.widen (k := cells + 3) (n := slots + 26) (by omega) (by omega) ?_
              exact kk _ _ _ ⟨g, σ, T, P, _, _, hLW, rfl, he6, he7, hP, hD⟩ hS (lv_sub hl [2, 3, 4, 5, 6] rfl)
            · exfalso; omega
          · exact absurd rfl c_7
set_option maxHeartbeats 4000000 in
set_option maxRecDepth 100000 in
theorem r_next {p : Program} {l : Launch} {e : Env} {s : State} {m : MethodId} {args : Array Value} {below : List Frame} {meth : Method} {c : Code} {Q : State → Prop} {A0 : Nat → Prop} {D : va_G} {cI cO cL cB : ClassId} {ed : Nat × Nat × Nat} {out g0 a ta pa b L : Nat} {xs : Nat → Int32} (C0 : LC p l s m args c A0 D cI cO cL cB ed b L xs) {cells slots : Nat} (hc : cells + 3 ≤ room_1.cells) (hs : slots + 26 ≤ room_1.slots) {i : Nat} (hi : i + 6 ≤ L) {H : Heap} {locs : List Loc} {ls : Array Slot} (hI : IV D cI cO cL A0 ed out g0 a ta pa H) (hS : va_S A0 s.heap H locs) (hl : lv_has ls 9 [(4, .int (iI (i : Int))), (0, .ref b), (1, .ref g0), (2, .ref a), (3, .ref out)]) (kk : ∀ (H : Heap) (locs : List Loc) (ls : Array Slot), IV D cI cO cL A0 ed out g0 a ta pa H → va_S A0 s.heap H locs → lv_has ls 9 [(4, .int (iI (i : Int))), (0, .ref b), (1, .ref g0), (2, .ref a), (3, .ref out)] → W p l e room_1 s m args below meth c H locs (cells + 3) (slots + 26) Q (F0 m 1638 ls [])) : W p l e room_1 s m args below meth c H locs cells slots Q (F0 m 787 ls []) := by
  obtain ⟨hst0, hx, hb, hml, hown, hts, hX, hbl, hbA, hL, hA, hK, hE, hT, hN⟩ := C0
  obtain ⟨g, σ, T, P, fo, th, hLW, hg0, he6, he7, hP, hD⟩ := hI
  subst hg0
  obtain ⟨hW, hS0, hp0⟩ := id hLW
  obtain ⟨w0, w1, w2, w3, w4, w5, w6, w7, w8⟩ := id hW
  have hK3 : va_K D vwCl (ty3 cI cO cL) s := hK.sub [0, 1, 2] rfl
  obtain ⟨d, hdr, hX1⟩ : ∃ z : Int, (-2147483648 ≤ z ∧ z < 2147483648) ∧ (xs (i + 1)).toInt = z := ⟨_, I_rng _, rfl⟩
  obtain ⟨er, hev⟩ : ∃ er : Int, (if 0 ≤ d ∧ d < m_fd (σ 0) (σ 1) 1000 then 0 else 1) = er := ⟨_, rfl⟩
  have her : 0 ≤ er ∧ er ≤ 2 := by rw [← hev]; (repeat' split) <;> omega
  have hMw := fun sz => w_next l hst0 D sz out ed cI cO cL g σ T P fo hW hS0 he6 he7 d hdr
  have hMu := fun sz => u_next l D sz cI cO cL a ta pa th σ T P hW hS0 d hdr
  rw [hev] at hMw hMu
  refine lv_aload_n hx hb dL_law_787 rfl (lv_at hl 2 rfl) ?_
  refine lv_aload_n hx hb dL_law_788 rfl (lv_at hl 1 rfl) ?_
  refine lv_iload hx hb dL_law_789 (lv_at hl 0 rfl) ?_
  refine q_iconst hx hb dL_law_791 ?_
  refine q_iadd hx hb dL_law_792 ?_
  refine q_sld hx hb hX hbl hbA hS (i + 1) (by omega) (by omega) hL dL_law_793 ?_
  refine q_is hX1 ?_
  refine lv_aload_n hx hb dL_law_794 rfl (lv_at hl 4 rfl) ?_
  refine q_lawW (nL := 9) (As := [.ref (g 0), .int (iI (d)), .ref out]) (rest := []) (fo := fo) (wr := WMo cI a ta pa th σ T P) ⟨hx, hb, hml, hown, hts⟩ (hMw _) (vx_cwSW 3 hts gL_law_L_next rfl rfl rfl (by decide +kernel) ⟨Nat.le_of_ble_eq_true rfl, Nat.le_of_ble_eq_true rfl⟩) hP hD hS hA hK3 hE hT hN rfl hl.1 rfl (Nat.le_of_ble_eq_true rfl) dL_law_795 (by omega) (by omega) (fun u H locs he hu hP hD hS => ?_) (fun H locs he hP hS => ?_)
  · subst he
    have hLW2 : LW (σ) (T) (P) := hLW
    refine lv_istore (lv' := [(5, .int (iI (0))), (4, .int (iI ((i : Int)))), (0, .ref b), (1, .ref (g 0)), (2, .ref a), (3, .ref out)]) hx hb dL_law_798 hl (by decide) rfl (fun ls hl => ?_)
    refine lv_aload_n hx hb dL_law_800 rfl (lv_at hl 4 rfl) ?_
    refine lv_aload_n hx hb dL_law_801 rfl (lv_at hl 2 rfl) ?_
    refine lv_iload hx hb dL_law_802 (lv_at hl 1 rfl) ?_
    refine q_iconst hx hb dL_law_804 ?_
    refine q_iadd hx hb dL_law_805 ?_
    refine q_sld hx hb hX hbl hbA hS (i + 1) (by omega) (by omega) hL dL_law_806 ?_
    refine q_is hX1 ?_
    refine q_lawU (nL := 9) (As := [.int (iI (d))]) (rest := []) (wr := WC cI cO u (σ) (T) (P) ++ [oc out cL (vp_updL fo 0 (iI (m_next σ d)).toInt64)]) ⟨hx, hb, hml, hown, hts⟩ (hMu _) (cwV 1 hts gL_law_X6_next rfl rfl rfl (by decide +kernel) ⟨Nat.le_of_ble_eq_true rfl, Nat.le_of_ble_eq_true rfl⟩) (mo_rec hP hK) rfl rfl hP hD hS hA hK3 rfl hl.1 rfl (Nat.le_of_ble_eq_true rfl) dL_law_807 (by omega) (by omega) (fun r H locs hr hB hS => ?_)
    rcases hB with ⟨h0, hP, hD⟩ | ⟨h0, hP, hD⟩
    case inr => exact absurd rfl h0
    have hr := hr rfl
    subst hr
    refine lv_istore (lv' := [(6, .int (iI (m_next σ d))), (5, .int (iI (0))), (4, .int (iI ((i : Int)))), (0, .ref b), (1, .ref (g 0)), (2, .ref a), (3, .ref out)]) hx hb dL_law_810 hl (by decide) rfl (fun ls hl => ?_)
    refine lv_aload_n hx hb dL_law_812 rfl (lv_at hl 5 rfl) ?_
    refine q_callV (fr := 0) (lo := 0) (nL := 9) (Pic := PicM D cI a ta pa (0) (σ) (T) (P)) (As := []) (rest := []) ⟨hx, hb, hml, hown, hts⟩ (c_thrown l D cI cO cL a ta pa (0) (σ) (T) (P) hLW2.1 hLW2.2.1) (cwV 0 hts gL_law_X6_thrown rfl rfl rfl (by decide +kernel) ⟨Nat.le_of_ble_eq_true rfl, Nat.le_of_ble_eq_true rfl⟩) (mo_rec hP hK) (vaP_mems hP (fun q hq => List.mem_append_right _ hq)) hK3 rfl hl.1 rfl (Nat.le_of_ble_eq_true rfl) dL_law_813 (by omega) (by omega) ?_
    refine lv_iload hx hb dL_law_816 (lv_at hl 1 rfl) ?_
    refine q_icmp_eq (tgt := 823) hx hb dL_law_818 (by decide) (by omega) (by omega) (fun c_1 => ?_) (fun c_1 => ?_)
    · skip
      refine lv_iload hx hb dL_law_823 (lv_at hl 1 rfl) ?_
      refine q_if_ne (tgt := 840) hx hb dL_law_825 (by decide) (by omega) (fun c_2 => ?_) (fun c_2 => ?_)
      · exfalso; omega
      · skip
        refine lv_aload_n hx hb dL_law_828 rfl (lv_at hl 6 rfl) ?_
        refine q_iconst hx hb dL_law_829 ?_
        refine q_lald hx hb hK3 hP dL_law_830 ?_
        refine lv_iload hx hb dL_law_831 (lv_at hl 0 rfl) ?_
        refine lv_i2l hx hb dL_law_833 rfl ?_
        refine q_lcmp0 hx hb (by rfl) dL_law_834 ?_
        refine q_if_eq (tgt := 840) hx hb dL_law_835 (by decide) (by omega) (fun c_3 => ?_) (fun c_3 => ?_)
        · skip
          refine lv_goto (tgt := 1638) hx hb dL_law_840 (by decide) ?_
          refine W.widen (k := cells + 3) (n := slots + 26) (by omega) (by omega) ?_
          exact kk _ _ _ ⟨u, _, _, _, _, _, hLW2, hu.1, hu.2.1, hu.2.2, hP, hD⟩ hS (lv_sub hl [2, 3, 4, 5, 6] rfl)
        · exfalso; omega
    · exact absurd rfl c_1
  · skip
    refine lv_istore (lv' := [(5, .int (iI (er))), (4, .int (iI ((i : Int)))), (0, .ref b), (1, .ref (g 0)), (2, .ref a), (3, .ref out)]) hx hb dL_law_798 hl (by decide) rfl (fun ls hl => ?_)
    refine lv_aload_n hx hb dL_law_800 rfl (lv_at hl 4 rfl) ?_
    refine lv_aload_n hx hb dL_law_801 rfl (lv_at hl 2 rfl) ?_
    refine lv_iload hx hb dL_law_802 (lv_at hl 1 rfl) ?_
    refine q_iconst hx hb dL_law_804 ?_
    refine q_iadd hx hb dL_law_805 ?_
    refine q_sld hx hb hX hbl hbA hS (i + 1) (by omega) (by omega) hL dL_law_806 ?_
    refine q_is hX1 ?_
    refine q_lawU (nL := 9) (As := [.int (iI (d))]) (rest := []) (wr := WC cI cO g σ T P ++ [oc out cL fo]) ⟨hx, hb, hml, hown, hts⟩ (hMu _) (cwV 1 hts gL_law_X6_next rfl rfl rfl (by decide +kernel) ⟨Nat.le_of_ble_eq_true rfl, Nat.le_of_ble_eq_true rfl⟩) (mo_rec hP hK) rfl rfl hP hD hS hA hK3 rfl hl.1 rfl (Nat.le_of_ble_eq_true rfl) dL_law_807 (by omega) (by omega) (fun r H locs hr hB hS => ?_)
    rcases hB with ⟨h0, hP, hD⟩ | ⟨h0, hP, hD⟩
    case inl => exact absurd h0 he
    refine lv_istore (lv' := [(6, .int r), (5, .int (iI (er))), (4, .int (iI ((i : Int)))), (0, .ref b), (1, .ref (g 0)), (2, .ref a), (3, .ref out)]) hx hb dL_law_810 hl (by decide) rfl (fun ls hl => ?_)
    refine lv_aload_n hx hb dL_law_812 rfl (lv_at hl 5 rfl) ?_
    refine q_callV (fr := 0) (lo := 0) (nL := 9) (Pic := PicM D cI a ta pa (er) (σ) (T) (P)) (As := []) (rest := []) ⟨hx, hb, hml, hown, hts⟩ (c_thrown l D cI cO cL a ta pa (er) (σ) (T) (P) hLW.1 hLW.2.1) (cwV 0 hts gL_law_X6_thrown rfl rfl rfl (by decide +kernel) ⟨Nat.le_of_ble_eq_true rfl, Nat.le_of_ble_eq_true rfl⟩) (mo_rec hP hK) (vaP_mems hP (fun q hq => List.mem_append_right _ hq)) hK3 rfl hl.1 rfl (Nat.le_of_ble_eq_true rfl) dL_law_813 (by omega) (by omega) ?_
    refine lv_iload hx hb dL_law_816 (lv_at hl 1 rfl) ?_
    refine q_icmp_eq (tgt := 823) hx hb dL_law_818 (by decide) (by omega) (by omega) (fun c_4 => ?_) (fun c_4 => ?_)
    · skip
      refine lv_iload hx hb dL_law_823 (lv_at hl 1 rfl) ?_
      refine q_if_ne (tgt := 840) hx hb dL_law_825 (by decide) (by omega) (fun c_5 => ?_) (fun c_5 => ?_)
      · skip
        refine lv_goto (tgt := 1638) hx hb dL_law_840 (by decide) ?_
        refine W.widen (k := cells + 3) (n := slots + 26) (by omega) (by omega) ?_
        exact kk _ _ _ ⟨g, σ, T, P, _, _, hLW, rfl, he6, he7, hP, hD⟩ hS (lv_sub hl [2, 3, 4, 5, 6] rfl)
      · exfalso; omega
    · exact absurd rfl c_4
set_option maxHeartbeats 4000000 in
set_option maxRecDepth 100000 in
theorem r_observe {p : Program} {l : Launch} {e : Env} {s : State} {m : MethodId} {args : Array Value} {below : List Frame} {meth : Method} {c : Code} {Q : State → Prop} {A0 : Nat → Prop} {D : va_G} {cI cO cL cB : ClassId} {ed : Nat × Nat × Nat} {out g0 a ta pa b L : Nat} {xs : Nat → Int32} (C0 : LC p l s m args c A0 D cI cO cL cB ed b L xs) {cells slots : Nat} (hc : cells + 3 ≤ room_1.cells) (hs : slots + 26 ≤ room_1.slots) {i : Nat} (hi : i + 6 ≤ L) {H : Heap} {locs : List Loc} {ls : Array Slot} (hI : IV D cI cO cL A0 ed out g0 a ta pa H) (hS : va_S A0 s.heap H locs) (hl : lv_has ls 9 [(4, .int (iI (i : Int))), (0, .ref b), (1, .ref g0), (2, .ref a), (3, .ref out)]) (kk : ∀ (H : Heap) (locs : List Loc) (ls : Array Slot), IV D cI cO cL A0 ed out g0 a ta pa H → va_S A0 s.heap H locs → lv_has ls 9 [(4, .int (iI (i : Int))), (0, .ref b), (1, .ref g0), (2, .ref a), (3, .ref out)] → W p l e room_1 s m args below meth c H locs (cells + 3) (slots + 26) Q (F0 m 1638 ls [])) : W p l e room_1 s m args below meth c H locs cells slots Q (F0 m 843 ls []) := by
  obtain ⟨hst0, hx, hb, hml, hown, hts, hX, hbl, hbA, hL, hA, hK, hE, hT, hN⟩ := C0
  obtain ⟨g, σ, T, P, fo, th, hLW, hg0, he6, he7, hP, hD⟩ := hI
  subst hg0
  obtain ⟨hW, hS0, hp0⟩ := id hLW
  obtain ⟨w0, w1, w2, w3, w4, w5, w6, w7, w8⟩ := id hW
  have hK3 : va_K D vwCl (ty3 cI cO cL) s := hK.sub [0, 1, 2] rfl
  obtain ⟨d, hdr, hX1⟩ : ∃ z : Int, (-2147483648 ≤ z ∧ z < 2147483648) ∧ (xs (i + 1)).toInt = z := ⟨_, I_rng _, rfl⟩
  obtain ⟨bx, hbxr, hX2⟩ : ∃ z : Int, (-2147483648 ≤ z ∧ z < 2147483648) ∧ (xs (i + 2)).toInt = z := ⟨_, I_rng _, rfl⟩
  by_cases hbx : bx = 0
  · skip
    obtain ⟨er, hev⟩ : ∃ er : Int, (if 0 ≤ d ∧ d ≤ 99999 then 0 else 1) = er := ⟨_, rfl⟩
    have her : 0 ≤ er ∧ er ≤ 2 := by rw [← hev]; (repeat' split) <;> omega
    have hMw := fun sz => w_observe l hst0 D sz out ed cI cO cL g σ T P fo hW hS0 he6 he7 d 0 hdr (Or.inl rfl)
    have hMu := fun sz => u_observe l D sz cI cO cL a ta pa th σ T P hW hS0 d 0 hdr (Or.inl rfl)
    rw [hev] at hMw hMu
    refine lv_aload_n hx hb dL_law_843 rfl (lv_at hl 2 rfl) ?_
    refine lv_aload_n hx hb dL_law_844 rfl (lv_at hl 1 rfl) ?_
    refine lv_iload hx hb dL_law_845 (lv_at hl 0 rfl) ?_
    refine q_iconst hx hb dL_law_847 ?_
    refine q_iadd hx hb dL_law_848 ?_
    refine q_sld hx hb hX hbl hbA hS (i + 1) (by omega) (by omega) hL dL_law_849 ?_
    refine q_is hX1 ?_
    refine lv_aload_n hx hb dL_law_850 rfl (lv_at hl 1 rfl) ?_
    refine lv_iload hx hb dL_law_851 (lv_at hl 0 rfl) ?_
    refine q_iconst hx hb dL_law_853 ?_
    refine q_iadd hx hb dL_law_854 ?_
    refine q_sld hx hb hX hbl hbA hS (i + 2) (by omega) (by omega) hL dL_law_855 ?_
    refine q_is hX2 ?_
    refine q_if_eq (tgt := 863) hx hb dL_law_856 (by decide) (by omega) (fun c_1 => ?_) (fun c_1 => ?_)
    · skip
      refine q_iconst hx hb dL_law_863 ?_
      refine lv_aload_n hx hb dL_law_864 rfl (lv_at hl 4 rfl) ?_
      refine q_lawW (nL := 9) (As := [.ref (g 0), .int (iI (d)), .int (iI (0)), .ref out]) (rest := []) (fo := fo) (wr := WMo cI a ta pa th σ T P) ⟨hx, hb, hml, hown, hts⟩ (hMw _) (vx_cwSW 4 hts gL_law_L_observe rfl rfl rfl (by decide +kernel) ⟨Nat.le_of_ble_eq_true rfl, Nat.le_of_ble_eq_true rfl⟩) hP hD hS hA hK3 hE hT hN rfl hl.1 rfl (Nat.le_of_ble_eq_true rfl) dL_law_865 (by omega) (by omega) (fun u H locs he hu hP hD hS => ?_) (fun H locs he hP hS => ?_)
      · subst he
        have hLW2 : LW (m_obs σ d 0) (T) (P) := LW_obs hLW d 0
        refine lv_istore (lv' := [(5, .int (iI (0))), (4, .int (iI ((i : Int)))), (0, .ref b), (1, .ref (g 0)), (2, .ref a), (3, .ref out)]) hx hb dL_law_868 hl (by decide) rfl (fun ls hl => ?_)
        refine lv_aload_n hx hb dL_law_870 rfl (lv_at hl 4 rfl) ?_
        refine lv_aload_n hx hb dL_law_871 rfl (lv_at hl 2 rfl) ?_
        refine lv_iload hx hb dL_law_872 (lv_at hl 1 rfl) ?_
        refine q_iconst hx hb dL_law_874 ?_
        refine q_iadd hx hb dL_law_875 ?_
        refine q_sld hx hb hX hbl hbA hS (i + 1) (by omega) (by omega) hL dL_law_876 ?_
        refine q_is hX1 ?_
        refine lv_aload_n hx hb dL_law_877 rfl (lv_at hl 2 rfl) ?_
        refine lv_iload hx hb dL_law_878 (lv_at hl 1 rfl) ?_
        refine q_iconst hx hb dL_law_880 ?_
        refine q_iadd hx hb dL_law_881 ?_
        refine q_sld hx hb hX hbl hbA hS (i + 2) (by omega) (by omega) hL dL_law_882 ?_
        refine q_is hX2 ?_
        refine q_if_eq (tgt := 890) hx hb dL_law_883 (by decide) (by omega) (fun c_2 => ?_) (fun c_2 => ?_)
        · skip
          refine q_iconst hx hb dL_law_890 ?_
          refine q_lawU (nL := 9) (As := [.int (iI (d)), .int (iI (0))]) (rest := []) (wr := WC cI cO u (m_obs σ d 0) (T) (P) ++ [oc out cL (vp_updL fo 0 (iI (m_late σ d 0)).toInt64)]) ⟨hx, hb, hml, hown, hts⟩ (hMu _) (cwV 2 hts gL_law_X6_observe rfl rfl rfl (by decide +kernel) ⟨Nat.le_of_ble_eq_true rfl, Nat.le_of_ble_eq_true rfl⟩) (mo_rec hP hK) rfl rfl hP hD hS hA hK3 rfl hl.1 rfl (Nat.le_of_ble_eq_true rfl) dL_law_891 (by omega) (by omega) (fun r H locs hr hB hS => ?_)
          rcases hB with ⟨h0, hP, hD⟩ | ⟨h0, hP, hD⟩
          case inr => exact absurd rfl h0
          have hr := hr rfl
          subst hr
          refine lv_istore (lv' := [(6, .int (iI (m_late σ d 0))), (5, .int (iI (0))), (4, .int (iI ((i : Int)))), (0, .ref b), (1, .ref (g 0)), (2, .ref a), (3, .ref out)]) hx hb dL_law_894 hl (by decide) rfl (fun ls hl => ?_)
          refine lv_aload_n hx hb dL_law_896 rfl (lv_at hl 5 rfl) ?_
          refine q_callV (fr := 0) (lo := 0) (nL := 9) (Pic := PicM D cI a ta pa (0) (m_obs σ d 0) (T) (P)) (As := []) (rest := []) ⟨hx, hb, hml, hown, hts⟩ (c_thrown l D cI cO cL a ta pa (0) (m_obs σ d 0) (T) (P) hLW2.1 hLW2.2.1) (cwV 0 hts gL_law_X6_thrown rfl rfl rfl (by decide +kernel) ⟨Nat.le_of_ble_eq_true rfl, Nat.le_of_ble_eq_true rfl⟩) (mo_rec hP hK) (vaP_mems hP (fun q hq => List.mem_append_right _ hq)) hK3 rfl hl.1 rfl (Nat.le_of_ble_eq_true rfl) dL_law_897 (by omega) (by omega) ?_
          refine lv_iload hx hb dL_law_900 (lv_at hl 1 rfl) ?_
          refine q_icmp_eq (tgt := 907) hx hb dL_law_902 (by decide) (by omega) (by omega) (fun c_3 => ?_) (fun c_3 => ?_)
          · skip
            refine lv_iload hx hb dL_law_907 (lv_at hl 1 rfl) ?_
            refine q_if_ne (tgt := 924) hx hb dL_law_909 (by decide) (by omega) (fun c_4 => ?_) (fun c_4 => ?_)
            · exfalso; omega
            · skip
              refine lv_aload_n hx hb dL_law_912 rfl (lv_at hl 6 rfl) ?_
              refine q_iconst hx hb dL_law_913 ?_
              refine q_lald hx hb hK3 hP dL_law_914 ?_
              refine lv_iload hx hb dL_law_915 (lv_at hl 0 rfl) ?_
              refine lv_i2l hx hb dL_law_917 rfl ?_
              refine q_lcmp0 hx hb (by rfl) dL_law_918 ?_
              refine q_if_eq (tgt := 924) hx hb dL_law_919 (by decide) (by omega) (fun c_5 => ?_) (fun c_5 => ?_)
              · skip
                refine lv_goto (tgt := 1638) hx hb dL_law_924 (by decide) ?_
                refine W.widen (k := cells + 3) (n := slots + 26) (by omega) (by omega) ?_
                exact kk _ _ _ ⟨u, _, _, _, _, _, hLW2, hu.1, hu.2.1, hu.2.2, hP, hD⟩ hS (lv_sub hl [2, 3, 4, 5, 6] rfl)
              · exfalso; omega
          · exact absurd rfl c_3
        · exfalso; omega
      · skip
        refine lv_istore (lv' := [(5, .int (iI (er))), (4, .int (iI ((i : Int)))), (0, .ref b), (1, .ref (g 0)), (2, .ref a), (3, .ref out)]) hx hb dL_law_868 hl (by decide) rfl (fun ls hl => ?_)
        refine lv_aload_n hx hb dL_law_870 rfl (lv_at hl 4 rfl) ?_
        refine lv_aload_n hx hb dL_law_871 rfl (lv_at hl 2 rfl) ?_
        refine lv_iload hx hb dL_law_872 (lv_at hl 1 rfl) ?_
        refine q_iconst hx hb dL_law_874 ?_
        refine q_iadd hx hb dL_law_875 ?_
        refine q_sld hx hb hX hbl hbA hS (i + 1) (by omega) (by omega) hL dL_law_876 ?_
        refine q_is hX1 ?_
        refine lv_aload_n hx hb dL_law_877 rfl (lv_at hl 2 rfl) ?_
        refine lv_iload hx hb dL_law_878 (lv_at hl 1 rfl) ?_
        refine q_iconst hx hb dL_law_880 ?_
        refine q_iadd hx hb dL_law_881 ?_
        refine q_sld hx hb hX hbl hbA hS (i + 2) (by omega) (by omega) hL dL_law_882 ?_
        refine q_is hX2 ?_
        refine q_if_eq (tgt := 890) hx hb dL_law_883 (by decide) (by omega) (fun c_6 => ?_) (fun c_6 => ?_)
        · skip
          refine q_iconst hx hb dL_law_890 ?_
          refine q_lawU (nL := 9) (As := [.int (iI (d)), .int (iI (0))]) (rest := []) (wr := WC cI cO g σ T P ++ [oc out cL fo]) ⟨hx, hb, hml, hown, hts⟩ (hMu _) (cwV 2 hts gL_law_X6_observe rfl rfl rfl (by decide +kernel) ⟨Nat.le_of_ble_eq_true rfl, Nat.le_of_ble_eq_true rfl⟩) (mo_rec hP hK) rfl rfl hP hD hS hA hK3 rfl hl.1 rfl (Nat.le_of_ble_eq_true rfl) dL_law_891 (by omega) (by omega) (fun r H locs hr hB hS => ?_)
          rcases hB with ⟨h0, hP, hD⟩ | ⟨h0, hP, hD⟩
          case inl => exact absurd h0 he
          refine lv_istore (lv' := [(6, .int r), (5, .int (iI (er))), (4, .int (iI ((i : Int)))), (0, .ref b), (1, .ref (g 0)), (2, .ref a), (3, .ref out)]) hx hb dL_law_894 hl (by decide) rfl (fun ls hl => ?_)
          refine lv_aload_n hx hb dL_law_896 rfl (lv_at hl 5 rfl) ?_
          refine q_callV (fr := 0) (lo := 0) (nL := 9) (Pic := PicM D cI a ta pa (er) (σ) (T) (P)) (As := []) (rest := []) ⟨hx, hb, hml, hown, hts⟩ (c_thrown l D cI cO cL a ta pa (er) (σ) (T) (P) hLW.1 hLW.2.1) (cwV 0 hts gL_law_X6_thrown rfl rfl rfl (by decide +kernel) ⟨Nat.le_of_ble_eq_true rfl, Nat.le_of_ble_eq_true rfl⟩) (mo_rec hP hK) (vaP_mems hP (fun q hq => List.mem_append_right _ hq)) hK3 rfl hl.1 rfl (Nat.le_of_ble_eq_true rfl) dL_law_897 (by omega) (by omega) ?_
          refine lv_iload hx hb dL_law_900 (lv_at hl 1 rfl) ?_
          refine q_icmp_eq (tgt := 907) hx hb dL_law_902 (by decide) (by omega) (by omega) (fun c_7 => ?_) (fun c_7 => ?_)
          · skip
            refine lv_iload hx hb dL_law_907 (lv_at hl 1 rfl) ?_
            refine q_if_ne (tgt := 924) hx hb dL_law_909 (by decide) (by omega) (fun c_8 => ?_) (fun c_8 => ?_)
            · skip
              refine lv_goto (tgt := 1638) hx hb dL_law_924 (by decide) ?_
              refine W.widen (k := cells + 3) (n := slots + 26) (by omega) (by omega) ?_
              exact kk _ _ _ ⟨g, σ, T, P, _, _, hLW, rfl, he6, he7, hP, hD⟩ hS (lv_sub hl [2, 3, 4, 5, 6] rfl)
            · exfalso; omega
          · exact absurd rfl c_7
        · exfalso; omega
    · exfalso; omega
  · skip
    obtain ⟨er, hev⟩ : ∃ er : Int, (if 0 ≤ d ∧ d ≤ 99999 then 0 else 1) = er := ⟨_, rfl⟩
    have her : 0 ≤ er ∧ er ≤ 2 := by rw [← hev]; (repeat' split) <;> omega
    have hMw := fun sz => w_observe l hst0 D sz out ed cI cO cL g σ T P fo hW hS0 he6 he7 d 1 hdr (Or.inr rfl)
    have hMu := fun sz => u_observe l D sz cI cO cL a ta pa th σ T P hW hS0 d 1 hdr (Or.inr rfl)
    rw [hev] at hMw hMu
    refine lv_aload_n hx hb dL_law_843 rfl (lv_at hl 2 rfl) ?_
    refine lv_aload_n hx hb dL_law_844 rfl (lv_at hl 1 rfl) ?_
    refine lv_iload hx hb dL_law_845 (lv_at hl 0 rfl) ?_
    refine q_iconst hx hb dL_law_847 ?_
    refine q_iadd hx hb dL_law_848 ?_
    refine q_sld hx hb hX hbl hbA hS (i + 1) (by omega) (by omega) hL dL_law_849 ?_
    refine q_is hX1 ?_
    refine lv_aload_n hx hb dL_law_850 rfl (lv_at hl 1 rfl) ?_
    refine lv_iload hx hb dL_law_851 (lv_at hl 0 rfl) ?_
    refine q_iconst hx hb dL_law_853 ?_
    refine q_iadd hx hb dL_law_854 ?_
    refine q_sld hx hb hX hbl hbA hS (i + 2) (by omega) (by omega) hL dL_law_855 ?_
    refine q_is hX2 ?_
    refine q_if_eq (tgt := 863) hx hb dL_law_856 (by decide) (by omega) (fun c_1 => ?_) (fun c_1 => ?_)
    · exfalso; omega
    · skip
      refine q_iconst hx hb dL_law_859 ?_
      refine lv_goto (tgt := 864) hx hb dL_law_860 (by decide) ?_
      refine lv_aload_n hx hb dL_law_864 rfl (lv_at hl 4 rfl) ?_
      refine q_lawW (nL := 9) (As := [.ref (g 0), .int (iI (d)), .int (iI (1)), .ref out]) (rest := []) (fo := fo) (wr := WMo cI a ta pa th σ T P) ⟨hx, hb, hml, hown, hts⟩ (hMw _) (vx_cwSW 4 hts gL_law_L_observe rfl rfl rfl (by decide +kernel) ⟨Nat.le_of_ble_eq_true rfl, Nat.le_of_ble_eq_true rfl⟩) hP hD hS hA hK3 hE hT hN rfl hl.1 rfl (Nat.le_of_ble_eq_true rfl) dL_law_865 (by omega) (by omega) (fun u H locs he hu hP hD hS => ?_) (fun H locs he hP hS => ?_)
      · subst he
        have hLW2 : LW (m_obs σ d 1) (T) (P) := LW_obs hLW d 1
        refine lv_istore (lv' := [(5, .int (iI (0))), (4, .int (iI ((i : Int)))), (0, .ref b), (1, .ref (g 0)), (2, .ref a), (3, .ref out)]) hx hb dL_law_868 hl (by decide) rfl (fun ls hl => ?_)
        refine lv_aload_n hx hb dL_law_870 rfl (lv_at hl 4 rfl) ?_
        refine lv_aload_n hx hb dL_law_871 rfl (lv_at hl 2 rfl) ?_
        refine lv_iload hx hb dL_law_872 (lv_at hl 1 rfl) ?_
        refine q_iconst hx hb dL_law_874 ?_
        refine q_iadd hx hb dL_law_875 ?_
        refine q_sld hx hb hX hbl hbA hS (i + 1) (by omega) (by omega) hL dL_law_876 ?_
        refine q_is hX1 ?_
        refine lv_aload_n hx hb dL_law_877 rfl (lv_at hl 2 rfl) ?_
        refine lv_iload hx hb dL_law_878 (lv_at hl 1 rfl) ?_
        refine q_iconst hx hb dL_law_880 ?_
        refine q_iadd hx hb dL_law_881 ?_
        refine q_sld hx hb hX hbl hbA hS (i + 2) (by omega) (by omega) hL dL_law_882 ?_
        refine q_is hX2 ?_
        refine q_if_eq (tgt := 890) hx hb dL_law_883 (by decide) (by omega) (fun c_2 => ?_) (fun c_2 => ?_)
        · exfalso; omega
        · skip
          refine q_iconst hx hb dL_law_886 ?_
          refine lv_goto (tgt := 891) hx hb dL_law_887 (by decide) ?_
          refine q_lawU (nL := 9) (As := [.int (iI (d)), .int (iI (1))]) (rest := []) (wr := WC cI cO u (m_obs σ d 1) (T) (P) ++ [oc out cL (vp_updL fo 0 (iI (m_late σ d 1)).toInt64)]) ⟨hx, hb, hml, hown, hts⟩ (hMu _) (cwV 2 hts gL_law_X6_observe rfl rfl rfl (by decide +kernel) ⟨Nat.le_of_ble_eq_true rfl, Nat.le_of_ble_eq_true rfl⟩) (mo_rec hP hK) rfl rfl hP hD hS hA hK3 rfl hl.1 rfl (Nat.le_of_ble_eq_true rfl) dL_law_891 (by omega) (by omega) (fun r H locs hr hB hS => ?_)
          rcases hB with ⟨h0, hP, hD⟩ | ⟨h0, hP, hD⟩
          case inr => exact absurd rfl h0
          have hr := hr rfl
          subst hr
          refine lv_istore (lv' := [(6, .int (iI (m_late σ d 1))), (5, .int (iI (0))), (4, .int (iI ((i : Int)))), (0, .ref b), (1, .ref (g 0)), (2, .ref a), (3, .ref out)]) hx hb dL_law_894 hl (by decide) rfl (fun ls hl => ?_)
          refine lv_aload_n hx hb dL_law_896 rfl (lv_at hl 5 rfl) ?_
          refine q_callV (fr := 0) (lo := 0) (nL := 9) (Pic := PicM D cI a ta pa (0) (m_obs σ d 1) (T) (P)) (As := []) (rest := []) ⟨hx, hb, hml, hown, hts⟩ (c_thrown l D cI cO cL a ta pa (0) (m_obs σ d 1) (T) (P) hLW2.1 hLW2.2.1) (cwV 0 hts gL_law_X6_thrown rfl rfl rfl (by decide +kernel) ⟨Nat.le_of_ble_eq_true rfl, Nat.le_of_ble_eq_true rfl⟩) (mo_rec hP hK) (vaP_mems hP (fun q hq => List.mem_append_right _ hq)) hK3 rfl hl.1 rfl (Nat.le_of_ble_eq_true rfl) dL_law_897 (by omega) (by omega) ?_
          refine lv_iload hx hb dL_law_900 (lv_at hl 1 rfl) ?_
          refine q_icmp_eq (tgt := 907) hx hb dL_law_902 (by decide) (by omega) (by omega) (fun c_3 => ?_) (fun c_3 => ?_)
          · skip
            refine lv_iload hx hb dL_law_907 (lv_at hl 1 rfl) ?_
            refine q_if_ne (tgt := 924) hx hb dL_law_909 (by decide) (by omega) (fun c_4 => ?_) (fun c_4 => ?_)
            · exfalso; omega
            · skip
              refine lv_aload_n hx hb dL_law_912 rfl (lv_at hl 6 rfl) ?_
              refine q_iconst hx hb dL_law_913 ?_
              refine q_lald hx hb hK3 hP dL_law_914 ?_
              refine lv_iload hx hb dL_law_915 (lv_at hl 0 rfl) ?_
              refine lv_i2l hx hb dL_law_917 rfl ?_
              refine q_lcmp0 hx hb (by rfl) dL_law_918 ?_
              refine q_if_eq (tgt := 924) hx hb dL_law_919 (by decide) (by omega) (fun c_5 => ?_) (fun c_5 => ?_)
              · skip
                refine lv_goto (tgt := 1638) hx hb dL_law_924 (by decide) ?_
                refine W.widen (k := cells + 3) (n := slots + 26) (by omega) (by omega) ?_
                exact kk _ _ _ ⟨u, _, _, _, _, _, hLW2, hu.1, hu.2.1, hu.2.2, hP, hD⟩ hS (lv_sub hl [2, 3, 4, 5, 6] rfl)
              · exfalso; omega
          · exact absurd rfl c_3
      · skip
        refine lv_istore (lv' := [(5, .int (iI (er))), (4, .int (iI ((i : Int)))), (0, .ref b), (1, .ref (g 0)), (2, .ref a), (3, .ref out)]) hx hb dL_law_868 hl (by decide) rfl (fun ls hl => ?_)
        refine lv_aload_n hx hb dL_law_870 rfl (lv_at hl 4 rfl) ?_
        refine lv_aload_n hx hb dL_law_871 rfl (lv_at hl 2 rfl) ?_
        refine lv_iload hx hb dL_law_872 (lv_at hl 1 rfl) ?_
        refine q_iconst hx hb dL_law_874 ?_
        refine q_iadd hx hb dL_law_875 ?_
        refine q_sld hx hb hX hbl hbA hS (i + 1) (by omega) (by omega) hL dL_law_876 ?_
        refine q_is hX1 ?_
        refine lv_aload_n hx hb dL_law_877 rfl (lv_at hl 2 rfl) ?_
        refine lv_iload hx hb dL_law_878 (lv_at hl 1 rfl) ?_
        refine q_iconst hx hb dL_law_880 ?_
        refine q_iadd hx hb dL_law_881 ?_
        refine q_sld hx hb hX hbl hbA hS (i + 2) (by omega) (by omega) hL dL_law_882 ?_
        refine q_is hX2 ?_
        refine q_if_eq (tgt := 890) hx hb dL_law_883 (by decide) (by omega) (fun c_6 => ?_) (fun c_6 => ?_)
        · exfalso; omega
        · skip
          refine q_iconst hx hb dL_law_886 ?_
          refine lv_goto (tgt := 891) hx hb dL_law_887 (by decide) ?_
          refine q_lawU (nL := 9) (As := [.int (iI (d)), .int (iI (1))]) (rest := []) (wr := WC cI cO g σ T P ++ [oc out cL fo]) ⟨hx, hb, hml, hown, hts⟩ (hMu _) (cwV 2 hts gL_law_X6_observe rfl rfl rfl (by decide +kernel) ⟨Nat.le_of_ble_eq_true rfl, Nat.le_of_ble_eq_true rfl⟩) (mo_rec hP hK) rfl rfl hP hD hS hA hK3 rfl hl.1 rfl (Nat.le_of_ble_eq_true rfl) dL_law_891 (by omega) (by omega) (fun r H locs hr hB hS => ?_)
          rcases hB with ⟨h0, hP, hD⟩ | ⟨h0, hP, hD⟩
          case inl => exact absurd h0 he
          refine lv_istore (lv' := [(6, .int r), (5, .int (iI (er))), (4, .int (iI ((i : Int)))), (0, .ref b), (1, .ref (g 0)), (2, .ref a), (3, .ref out)]) hx hb dL_law_894 hl (by decide) rfl (fun ls hl => ?_)
          refine lv_aload_n hx hb dL_law_896 rfl (lv_at hl 5 rfl) ?_
          refine q_callV (fr := 0) (lo := 0) (nL := 9) (Pic := PicM D cI a ta pa (er) (σ) (T) (P)) (As := []) (rest := []) ⟨hx, hb, hml, hown, hts⟩ (c_thrown l D cI cO cL a ta pa (er) (σ) (T) (P) hLW.1 hLW.2.1) (cwV 0 hts gL_law_X6_thrown rfl rfl rfl (by decide +kernel) ⟨Nat.le_of_ble_eq_true rfl, Nat.le_of_ble_eq_true rfl⟩) (mo_rec hP hK) (vaP_mems hP (fun q hq => List.mem_append_right _ hq)) hK3 rfl hl.1 rfl (Nat.le_of_ble_eq_true rfl) dL_law_897 (by omega) (by omega) ?_
          refine lv_iload hx hb dL_law_900 (lv_at hl 1 rfl) ?_
          refine q_icmp_eq (tgt := 907) hx hb dL_law_902 (by decide) (by omega) (by omega) (fun c_7 => ?_) (fun c_7 => ?_)
          · skip
            refine lv_iload hx hb dL_law_907 (lv_at hl 1 rfl) ?_
            refine q_if_ne (tgt := 924) hx hb dL_law_909 (by decide) (by omega) (fun c_8 => ?_) (fun c_8 => ?_)
            · skip
              refine lv_goto (tgt := 1638) hx hb dL_law_924 (by decide) ?_
              refine W.widen (k := cells + 3) (n := slots + 26) (by omega) (by omega) ?_
              exact kk _ _ _ ⟨g, σ, T, P, _, _, hLW, rfl, he6, he7, hP, hD⟩ hS (lv_sub hl [2, 3, 4, 5, 6] rfl)
            · exfalso; omega
          · exact absurd rfl c_7
