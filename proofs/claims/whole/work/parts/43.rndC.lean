/-! ===== the rounds of the law ===== -/
set_option maxHeartbeats 4000000 in
set_option maxRecDepth 100000 in
theorem r_addFeast {p : Program} {l : Launch} {e : Env} {s : State} {m : MethodId} {args : Array Value} {below : List Frame} {meth : Method} {c : Code} {Q : State → Prop} {A0 : Nat → Prop} {D : va_G} {cI cO cL cB : ClassId} {ed : Nat × Nat × Nat} {out g0 a ta pa b L : Nat} {xs : Nat → Int32} (C0 : LC p l s m args c A0 D cI cO cL cB ed b L xs) {cells slots : Nat} (hc : cells + 3 ≤ room_1.cells) (hs : slots + 26 ≤ room_1.slots) {i : Nat} (hi : i + 6 ≤ L) {H : Heap} {locs : List Loc} {ls : Array Slot} (hI : IV D cI cO cL A0 ed out g0 a ta pa H) (hS : va_S A0 s.heap H locs) (hl : lv_has ls 9 [(4, .int (iI (i : Int))), (0, .ref b), (1, .ref g0), (2, .ref a), (3, .ref out)]) (kk : ∀ (H : Heap) (locs : List Loc) (ls : Array Slot), IV D cI cO cL A0 ed out g0 a ta pa H → va_S A0 s.heap H locs → lv_has ls 9 [(4, .int (iI (i : Int))), (0, .ref b), (1, .ref g0), (2, .ref a), (3, .ref out)] → W p l e room_1 s m args below meth c H locs (cells + 3) (slots + 26) Q (F0 m 1638 ls [])) : W p l e room_1 s m args below meth c H locs cells slots Q (F0 m 927 ls []) := by
  obtain ⟨hst0, hx, hb, hml, hown, hts, hX, hbl, hbA, hL, hA, hK, hE, hT, hN⟩ := C0
  obtain ⟨g, σ, T, P, fo, th, hLW, hg0, he6, he7, hP, hD⟩ := hI
  subst hg0
  obtain ⟨hW, hS0, hp0⟩ := id hLW
  obtain ⟨w0, w1, w2, w3, w4, w5, w6, w7, w8⟩ := id hW
  have hK3 : va_K D vwCl (ty3 cI cO cL) s := hK.sub [0, 1, 2] rfl
  obtain ⟨mo, hmor, hX1⟩ : ∃ z : Int, (-2147483648 ≤ z ∧ z < 2147483648) ∧ (xs (i + 1)).toInt = z := ⟨_, I_rng _, rfl⟩
  obtain ⟨da, hdar, hX2⟩ : ∃ z : Int, (-2147483648 ≤ z ∧ z < 2147483648) ∧ (xs (i + 2)).toInt = z := ⟨_, I_rng _, rfl⟩
  obtain ⟨mn, hmnr, hX3⟩ : ∃ z : Int, (-2147483648 ≤ z ∧ z < 2147483648) ∧ (xs (i + 3)).toInt = z := ⟨_, I_rng _, rfl⟩
  obtain ⟨wd, hwdr, hX4⟩ : ∃ z : Int, (-2147483648 ≤ z ∧ z < 2147483648) ∧ (xs (i + 4)).toInt = z := ⟨_, I_rng _, rfl⟩
  obtain ⟨of, hofr, hX5⟩ : ∃ z : Int, (-2147483648 ≤ z ∧ z < 2147483648) ∧ (xs (i + 5)).toInt = z := ⟨_, I_rng _, rfl⟩
  obtain ⟨er, hev⟩ : ∃ er : Int, (if (0 ≤ mo ∧ mo ≤ 11) ∧ (0 ≤ da ∧ da ≤ 29) ∧ (0 ≤ mn ∧ mn ≤ 3) ∧ (-1 ≤ wd ∧ wd ≤ 6) ∧ (-60 ≤ of ∧ of ≤ 60) then (if σ 6 = 8 then 2 else 0) else 1) = er := ⟨_, rfl⟩
  have her : 0 ≤ er ∧ er ≤ 2 := by rw [← hev]; (repeat' split) <;> omega
  have hMw := fun sz => w_addFeast l hst0 D sz out ed cI cO cL g σ T P fo hW hS0 he6 he7 mo da mn wd of hmor hdar hmnr hwdr hofr
  have hMu := fun sz => u_addFeast l D sz cI cO cL a ta pa th σ T P hW hS0 mo da mn wd of hmor hdar hmnr hwdr hofr
  rw [hev] at hMw hMu
  refine lv_aload_n hx hb dL_law_927 rfl (lv_at hl 2 rfl) ?_
  refine lv_aload_n hx hb dL_law_928 rfl (lv_at hl 1 rfl) ?_
  refine lv_iload hx hb dL_law_929 (lv_at hl 0 rfl) ?_
  refine q_iconst hx hb dL_law_931 ?_
  refine q_iadd hx hb dL_law_932 ?_
  refine q_sld hx hb hX hbl hbA hS (i + 1) (by omega) (by omega) hL dL_law_933 ?_
  refine q_is hX1 ?_
  refine lv_aload_n hx hb dL_law_934 rfl (lv_at hl 1 rfl) ?_
  refine lv_iload hx hb dL_law_935 (lv_at hl 0 rfl) ?_
  refine q_iconst hx hb dL_law_937 ?_
  refine q_iadd hx hb dL_law_938 ?_
  refine q_sld hx hb hX hbl hbA hS (i + 2) (by omega) (by omega) hL dL_law_939 ?_
  refine q_is hX2 ?_
  refine lv_aload_n hx hb dL_law_940 rfl (lv_at hl 1 rfl) ?_
  refine lv_iload hx hb dL_law_941 (lv_at hl 0 rfl) ?_
  refine q_iconst hx hb dL_law_943 ?_
  refine q_iadd hx hb dL_law_944 ?_
  refine q_sld hx hb hX hbl hbA hS (i + 3) (by omega) (by omega) hL dL_law_945 ?_
  refine q_is hX3 ?_
  refine lv_aload_n hx hb dL_law_946 rfl (lv_at hl 1 rfl) ?_
  refine lv_iload hx hb dL_law_947 (lv_at hl 0 rfl) ?_
  refine q_iconst hx hb dL_law_949 ?_
  refine q_iadd hx hb dL_law_950 ?_
  refine q_sld hx hb hX hbl hbA hS (i + 4) (by omega) (by omega) hL dL_law_951 ?_
  refine q_is hX4 ?_
  refine lv_aload_n hx hb dL_law_952 rfl (lv_at hl 1 rfl) ?_
  refine lv_iload hx hb dL_law_953 (lv_at hl 0 rfl) ?_
  refine q_iconst hx hb dL_law_955 ?_
  refine q_iadd hx hb dL_law_956 ?_
  refine q_sld hx hb hX hbl hbA hS (i + 5) (by omega) (by omega) hL dL_law_957 ?_
  refine q_is hX5 ?_
  refine lv_aload_n hx hb dL_law_958 rfl (lv_at hl 4 rfl) ?_
  refine q_lawW (nL := 9) (As := [.ref (g 0), .int (iI (mo)), .int (iI (da)), .int (iI (mn)), .int (iI (wd)), .int (iI (of)), .ref out]) (rest := []) (fo := fo) (wr := WMo cI a ta pa th σ T P) ⟨hx, hb, hml, hown, hts⟩ (hMw _) (vx_cwSW 7 hts gL_law_L_addFeast rfl rfl rfl (by decide +kernel) ⟨Nat.le_of_ble_eq_true rfl, Nat.le_of_ble_eq_true rfl⟩) hP hD hS hA hK3 hE hT hN rfl hl.1 rfl (Nat.le_of_ble_eq_true rfl) dL_law_959 (by omega) (by omega) (fun u H locs he hu hP hD hS => ?_) (fun H locs he hP hS => ?_)
  · subst he
    have hq : ((0 ≤ mo ∧ mo ≤ 11) ∧ (0 ≤ da ∧ da ≤ 29) ∧ (0 ≤ mn ∧ mn ≤ 3) ∧ (-1 ≤ wd ∧ wd ≤ 6) ∧ (-60 ≤ of ∧ of ≤ 60)) ∧ σ 6 ≠ 8 := by (repeat' split at hev) <;> omega
    have hLW2 : LW (st σ 6 (σ 6 + 1)) (m_tp T (σ 6).toNat mo da mn wd of) (P) := LW_feast hLW (by omega) (by omega) (by omega) (by omega) (by omega) (by omega)
    refine lv_istore (lv' := [(5, .int (iI (0))), (4, .int (iI ((i : Int)))), (0, .ref b), (1, .ref (g 0)), (2, .ref a), (3, .ref out)]) hx hb dL_law_962 hl (by decide) rfl (fun ls hl => ?_)
    refine lv_aload_n hx hb dL_law_964 rfl (lv_at hl 4 rfl) ?_
    refine lv_aload_n hx hb dL_law_965 rfl (lv_at hl 2 rfl) ?_
    refine lv_iload hx hb dL_law_966 (lv_at hl 1 rfl) ?_
    refine q_iconst hx hb dL_law_968 ?_
    refine q_iadd hx hb dL_law_969 ?_
    refine q_sld hx hb hX hbl hbA hS (i + 1) (by omega) (by omega) hL dL_law_970 ?_
    refine q_is hX1 ?_
    refine lv_aload_n hx hb dL_law_971 rfl (lv_at hl 2 rfl) ?_
    refine lv_iload hx hb dL_law_972 (lv_at hl 1 rfl) ?_
    refine q_iconst hx hb dL_law_974 ?_
    refine q_iadd hx hb dL_law_975 ?_
    refine q_sld hx hb hX hbl hbA hS (i + 2) (by omega) (by omega) hL dL_law_976 ?_
    refine q_is hX2 ?_
    refine lv_aload_n hx hb dL_law_977 rfl (lv_at hl 2 rfl) ?_
    refine lv_iload hx hb dL_law_978 (lv_at hl 1 rfl) ?_
    refine q_iconst hx hb dL_law_980 ?_
    refine q_iadd hx hb dL_law_981 ?_
    refine q_sld hx hb hX hbl hbA hS (i + 3) (by omega) (by omega) hL dL_law_982 ?_
    refine q_is hX3 ?_
    refine lv_aload_n hx hb dL_law_983 rfl (lv_at hl 2 rfl) ?_
    refine lv_iload hx hb dL_law_984 (lv_at hl 1 rfl) ?_
    refine q_iconst hx hb dL_law_986 ?_
    refine q_iadd hx hb dL_law_987 ?_
    refine q_sld hx hb hX hbl hbA hS (i + 4) (by omega) (by omega) hL dL_law_988 ?_
    refine q_is hX4 ?_
    refine lv_aload_n hx hb dL_law_989 rfl (lv_at hl 2 rfl) ?_
    refine lv_iload hx hb dL_law_990 (lv_at hl 1 rfl) ?_
    refine q_iconst hx hb dL_law_992 ?_
    refine q_iadd hx hb dL_law_993 ?_
    refine q_sld hx hb hX hbl hbA hS (i + 5) (by omega) (by omega) hL dL_law_994 ?_
    refine q_is hX5 ?_
    refine q_lawU (nL := 9) (As := [.int (iI (mo)), .int (iI (da)), .int (iI (mn)), .int (iI (wd)), .int (iI (of))]) (rest := []) (wr := WC cI cO u (st σ 6 (σ 6 + 1)) (m_tp T (σ 6).toNat mo da mn wd of) (P) ++ [oc out cL (vp_updL fo 0 (iI (σ 6)).toInt64)]) ⟨hx, hb, hml, hown, hts⟩ (hMu _) (cwV 5 hts gL_law_X6_addFeast rfl rfl rfl (by decide +kernel) ⟨Nat.le_of_ble_eq_true rfl, Nat.le_of_ble_eq_true rfl⟩) (mo_rec hP hK) rfl rfl hP hD hS hA hK3 rfl hl.1 rfl (Nat.le_of_ble_eq_true rfl) dL_law_995 (by omega) (by omega) (fun r H locs hr hB hS => ?_)
    rcases hB with ⟨h0, hP, hD⟩ | ⟨h0, hP, hD⟩
    case inr => exact absurd rfl h0
    have hr := hr rfl
    subst hr
    refine lv_istore (lv' := [(6, .int (iI (σ 6))), (5, .int (iI (0))), (4, .int (iI ((i : Int)))), (0, .ref b), (1, .ref (g 0)), (2, .ref a), (3, .ref out)]) hx hb dL_law_998 hl (by decide) rfl (fun ls hl => ?_)
    refine lv_aload_n hx hb dL_law_1000 rfl (lv_at hl 5 rfl) ?_
    refine q_callV (fr := 0) (lo := 0) (nL := 9) (Pic := PicM D cI a ta pa (0) (st σ 6 (σ 6 + 1)) (m_tp T (σ 6).toNat mo da mn wd of) (P)) (As := []) (rest := []) ⟨hx, hb, hml, hown, hts⟩ (c_thrown l D cI cO cL a ta pa (0) (st σ 6 (σ 6 + 1)) (m_tp T (σ 6).toNat mo da mn wd of) (P) hLW2.1 hLW2.2.1) (cwV 0 hts gL_law_X6_thrown rfl rfl rfl (by decide +kernel) ⟨Nat.le_of_ble_eq_true rfl, Nat.le_of_ble_eq_true rfl⟩) (mo_rec hP hK) (vaP_mems hP (fun q hq => List.mem_append_right _ hq)) hK3 rfl hl.1 rfl (Nat.le_of_ble_eq_true rfl) dL_law_1001 (by omega) (by omega) ?_
    refine lv_iload hx hb dL_law_1004 (lv_at hl 1 rfl) ?_
    refine q_icmp_eq (tgt := 1011) hx hb dL_law_1006 (by decide) (by omega) (by omega) (fun c_1 => ?_) (fun c_1 => ?_)
    · skip
      refine lv_iload hx hb dL_law_1011 (lv_at hl 1 rfl) ?_
      refine q_if_ne (tgt := 1028) hx hb dL_law_1013 (by decide) (by omega) (fun c_2 => ?_) (fun c_2 => ?_)
      · exfalso; omega
      · skip
        refine lv_aload_n hx hb dL_law_1016 rfl (lv_at hl 6 rfl) ?_
        refine q_iconst hx hb dL_law_1017 ?_
        refine q_lald hx hb hK3 hP dL_law_1018 ?_
        refine lv_iload hx hb dL_law_1019 (lv_at hl 0 rfl) ?_
        refine lv_i2l hx hb dL_law_1021 rfl ?_
        refine q_lcmp0 hx hb (by rfl) dL_law_1022 ?_
        refine q_if_eq (tgt := 1028) hx hb dL_law_1023 (by decide) (by omega) (fun c_3 => ?_) (fun c_3 => ?_)
        · skip
          refine lv_goto (tgt := 1638) hx hb dL_law_1028 (by decide) ?_
          refine W.widen (k := cells + 3) (n := slots + 26) (by omega) (by omega) ?_
          exact kk _ _ _ ⟨u, _, _, _, _, _, hLW2, hu.1, hu.2.1, hu.2.2, hP, hD⟩ hS (lv_sub hl [2, 3, 4, 5, 6] rfl)
        · exfalso; omega
    · exact absurd rfl c_1
  · skip
    refine lv_istore (lv' := [(5, .int (iI (er))), (4, .int (iI ((i : Int)))), (0, .ref b), (1, .ref (g 0)), (2, .ref a), (3, .ref out)]) hx hb dL_law_962 hl (by decide) rfl (fun ls hl => ?_)
    refine lv_aload_n hx hb dL_law_964 rfl (lv_at hl 4 rfl) ?_
    refine lv_aload_n hx hb dL_law_965 rfl (lv_at hl 2 rfl) ?_
    refine lv_iload hx hb dL_law_966 (lv_at hl 1 rfl) ?_
    refine q_iconst hx hb dL_law_968 ?_
    refine q_iadd hx hb dL_law_969 ?_
    refine q_sld hx hb hX hbl hbA hS (i + 1) (by omega) (by omega) hL dL_law_970 ?_
    refine q_is hX1 ?_
    refine lv_aload_n hx hb dL_law_971 rfl (lv_at hl 2 rfl) ?_
    refine lv_iload hx hb dL_law_972 (lv_at hl 1 rfl) ?_
    refine q_iconst hx hb dL_law_974 ?_
    refine q_iadd hx hb dL_law_975 ?_
    refine q_sld hx hb hX hbl hbA hS (i + 2) (by omega) (by omega) hL dL_law_976 ?_
    refine q_is hX2 ?_
    refine lv_aload_n hx hb dL_law_977 rfl (lv_at hl 2 rfl) ?_
    refine lv_iload hx hb dL_law_978 (lv_at hl 1 rfl) ?_
    refine q_iconst hx hb dL_law_980 ?_
    refine q_iadd hx hb dL_law_981 ?_
    refine q_sld hx hb hX hbl hbA hS (i + 3) (by omega) (by omega) hL dL_law_982 ?_
    refine q_is hX3 ?_
    refine lv_aload_n hx hb dL_law_983 rfl (lv_at hl 2 rfl) ?_
    refine lv_iload hx hb dL_law_984 (lv_at hl 1 rfl) ?_
    refine q_iconst hx hb dL_law_986 ?_
    refine q_iadd hx hb dL_law_987 ?_
    refine q_sld hx hb hX hbl hbA hS (i + 4) (by omega) (by omega) hL dL_law_988 ?_
    refine q_is hX4 ?_
    refine lv_aload_n hx hb dL_law_989 rfl (lv_at hl 2 rfl) ?_
    refine lv_iload hx hb dL_law_990 (lv_at hl 1 rfl) ?_
    refine q_iconst hx hb dL_law_992 ?_
    refine q_iadd hx hb dL_law_993 ?_
    refine q_sld hx hb hX hbl hbA hS (i + 5) (by omega) (by omega) hL dL_law_994 ?_
    refine q_is hX5 ?_
    refine q_lawU (nL := 9) (As := [.int (iI (mo)), .int (iI (da)), .int (iI (mn)), .int (iI (wd)), .int (iI (of))]) (rest := []) (wr := WC cI cO g σ T P ++ [oc out cL fo]) ⟨hx, hb, hml, hown, hts⟩ (hMu _) (cwV 5 hts gL_law_X6_addFeast rfl rfl rfl (by decide +kernel) ⟨Nat.le_of_ble_eq_true rfl, Nat.le_of_ble_eq_true rfl⟩) (mo_rec hP hK) rfl rfl hP hD hS hA hK3 rfl hl.1 rfl (Nat.le_of_ble_eq_true rfl) dL_law_995 (by omega) (by omega) (fun r H locs hr hB hS => ?_)
    rcases hB with ⟨h0, hP, hD⟩ | ⟨h0, hP, hD⟩
    case inl => exact absurd h0 he
    refine lv_istore (lv' := [(6, .int r), (5, .int (iI (er))), (4, .int (iI ((i : Int)))), (0, .ref b), (1, .ref (g 0)), (2, .ref a), (3, .ref out)]) hx hb dL_law_998 hl (by decide) rfl (fun ls hl => ?_)
    refine lv_aload_n hx hb dL_law_1000 rfl (lv_at hl 5 rfl) ?_
    refine q_callV (fr := 0) (lo := 0) (nL := 9) (Pic := PicM D cI a ta pa (er) (σ) (T) (P)) (As := []) (rest := []) ⟨hx, hb, hml, hown, hts⟩ (c_thrown l D cI cO cL a ta pa (er) (σ) (T) (P) hLW.1 hLW.2.1) (cwV 0 hts gL_law_X6_thrown rfl rfl rfl (by decide +kernel) ⟨Nat.le_of_ble_eq_true rfl, Nat.le_of_ble_eq_true rfl⟩) (mo_rec hP hK) (vaP_mems hP (fun q hq => List.mem_append_right _ hq)) hK3 rfl hl.1 rfl (Nat.le_of_ble_eq_true rfl) dL_law_1001 (by omega) (by omega) ?_
    refine lv_iload hx hb dL_law_1004 (lv_at hl 1 rfl) ?_
    refine q_icmp_eq (tgt := 1011) hx hb dL_law_1006 (by decide) (by omega) (by omega) (fun c_4 => ?_) (fun c_4 => ?_)
    · skip
      refine lv_iload hx hb dL_law_1011 (lv_at hl 1 rfl) ?_
      refine q_if_ne (tgt := 1028) hx hb dL_law_1013 (by decide) (by omega) (fun c_5 => ?_) (fun c_5 => ?_)
      · skip
        refine lv_goto (tgt := 1638) hx hb dL_law_1028 (by decide) ?_
        refine W.widen (k := cells + 3) (n := slots + 26) (by omega) (by omega) ?_
        exact kk _ _ _ ⟨g, σ, T, P, _, _, hLW, rfl, he6, he7, hP, hD⟩ hS (lv_sub hl [2, 3, 4, 5, 6] rfl)
      · exfalso; omega
    · exact absurd rfl c_4
set_option maxHeartbeats 4000000 in
set_option maxRecDepth 100000 in
theorem r_feast {p : Program} {l : Launch} {e : Env} {s : State} {m : MethodId} {args : Array Value} {below : List Frame} {meth : Method} {c : Code} {Q : State → Prop} {A0 : Nat → Prop} {D : va_G} {cI cO cL cB : ClassId} {ed : Nat × Nat × Nat} {out g0 a ta pa b L : Nat} {xs : Nat → Int32} (C0 : LC p l s m args c A0 D cI cO cL cB ed b L xs) {cells slots : Nat} (hc : cells + 3 ≤ room_1.cells) (hs : slots + 26 ≤ room_1.slots) {i : Nat} (hi : i + 6 ≤ L) {H : Heap} {locs : List Loc} {ls : Array Slot} (hI : IV D cI cO cL A0 ed out g0 a ta pa H) (hS : va_S A0 s.heap H locs) (hl : lv_has ls 9 [(4, .int (iI (i : Int))), (0, .ref b), (1, .ref g0), (2, .ref a), (3, .ref out)]) (kk : ∀ (H : Heap) (locs : List Loc) (ls : Array Slot), IV D cI cO cL A0 ed out g0 a ta pa H → va_S A0 s.heap H locs → lv_has ls 9 [(4, .int (iI (i : Int))), (0, .ref b), (1, .ref g0), (2, .ref a), (3, .ref out)] → W p l e room_1 s m args below meth c H locs (cells + 3) (slots + 26) Q (F0 m 1638 ls [])) : W p l e room_1 s m args below meth c H locs cells slots Q (F0 m 1031 ls []) := by
  obtain ⟨hst0, hx, hb, hml, hown, hts, hX, hbl, hbA, hL, hA, hK, hE, hT, hN⟩ := C0
  obtain ⟨g, σ, T, P, fo, th, hLW, hg0, he6, he7, hP, hD⟩ := hI
  subst hg0
  obtain ⟨hW, hS0, hp0⟩ := id hLW
  obtain ⟨w0, w1, w2, w3, w4, w5, w6, w7, w8⟩ := id hW
  have hK3 : va_K D vwCl (ty3 cI cO cL) s := hK.sub [0, 1, 2] rfl
  obtain ⟨j, hjr, hX1⟩ : ∃ z : Int, (-2147483648 ≤ z ∧ z < 2147483648) ∧ (xs (i + 1)).toInt = z := ⟨_, I_rng _, rfl⟩
  obtain ⟨y, hyr, hX2⟩ : ∃ z : Int, (-2147483648 ≤ z ∧ z < 2147483648) ∧ (xs (i + 2)).toInt = z := ⟨_, I_rng _, rfl⟩
  obtain ⟨er, hev⟩ : ∃ er : Int, (if 0 ≤ j ∧ j < σ 6 then (if 0 ≤ y ∧ y < 1000 then 0 else 2) else 1) = er := ⟨_, rfl⟩
  have her : 0 ≤ er ∧ er ≤ 2 := by rw [← hev]; (repeat' split) <;> omega
  have hMw := fun sz => w_feast l hst0 D sz out ed cI cO cL g σ T P fo hW hS0 he6 he7 j y hjr hyr
  have hMu := fun sz => u_feast l D sz cI cO cL a ta pa th σ T P hW hS0 j y hjr hyr
  rw [hev] at hMw hMu
  refine lv_aload_n hx hb dL_law_1031 rfl (lv_at hl 2 rfl) ?_
  refine lv_aload_n hx hb dL_law_1032 rfl (lv_at hl 1 rfl) ?_
  refine lv_iload hx hb dL_law_1033 (lv_at hl 0 rfl) ?_
  refine q_iconst hx hb dL_law_1035 ?_
  refine q_iadd hx hb dL_law_1036 ?_
  refine q_sld hx hb hX hbl hbA hS (i + 1) (by omega) (by omega) hL dL_law_1037 ?_
  refine q_is hX1 ?_
  refine lv_aload_n hx hb dL_law_1038 rfl (lv_at hl 1 rfl) ?_
  refine lv_iload hx hb dL_law_1039 (lv_at hl 0 rfl) ?_
  refine q_iconst hx hb dL_law_1041 ?_
  refine q_iadd hx hb dL_law_1042 ?_
  refine q_sld hx hb hX hbl hbA hS (i + 2) (by omega) (by omega) hL dL_law_1043 ?_
  refine q_is hX2 ?_
  refine lv_aload_n hx hb dL_law_1044 rfl (lv_at hl 4 rfl) ?_
  refine q_lawW (nL := 9) (As := [.ref (g 0), .int (iI (j)), .int (iI (y)), .ref out]) (rest := []) (fo := fo) (wr := WMo cI a ta pa th σ T P) ⟨hx, hb, hml, hown, hts⟩ (hMw _) (vx_cwSW 4 hts gL_law_L_feast rfl rfl rfl (by decide +kernel) ⟨Nat.le_of_ble_eq_true rfl, Nat.le_of_ble_eq_true rfl⟩) hP hD hS hA hK3 hE hT hN rfl hl.1 rfl (Nat.le_of_ble_eq_true rfl) dL_law_1045 (by omega) (by omega) (fun u H locs he hu hP hD hS => ?_) (fun H locs he hP hS => ?_)
  · subst he
    have hLW2 : LW (σ) (T) (P) := hLW
    refine lv_istore (lv' := [(5, .int (iI (0))), (4, .int (iI ((i : Int)))), (0, .ref b), (1, .ref (g 0)), (2, .ref a), (3, .ref out)]) hx hb dL_law_1048 hl (by decide) rfl (fun ls hl => ?_)
    refine lv_aload_n hx hb dL_law_1050 rfl (lv_at hl 4 rfl) ?_
    refine lv_aload_n hx hb dL_law_1051 rfl (lv_at hl 2 rfl) ?_
    refine lv_iload hx hb dL_law_1052 (lv_at hl 1 rfl) ?_
    refine q_iconst hx hb dL_law_1054 ?_
    refine q_iadd hx hb dL_law_1055 ?_
    refine q_sld hx hb hX hbl hbA hS (i + 1) (by omega) (by omega) hL dL_law_1056 ?_
    refine q_is hX1 ?_
    refine lv_aload_n hx hb dL_law_1057 rfl (lv_at hl 2 rfl) ?_
    refine lv_iload hx hb dL_law_1058 (lv_at hl 1 rfl) ?_
    refine q_iconst hx hb dL_law_1060 ?_
    refine q_iadd hx hb dL_law_1061 ?_
    refine q_sld hx hb hX hbl hbA hS (i + 2) (by omega) (by omega) hL dL_law_1062 ?_
    refine q_is hX2 ?_
    refine q_lawU (nL := 9) (As := [.int (iI (j)), .int (iI (y))]) (rest := []) (wr := WC cI cO u (σ) (T) (P) ++ [oc out cL (vp_updL fo 0 (iI (m_F σ T j.toNat y)).toInt64)]) ⟨hx, hb, hml, hown, hts⟩ (hMu _) (cwV 2 hts gL_law_X6_feast rfl rfl rfl (by decide +kernel) ⟨Nat.le_of_ble_eq_true rfl, Nat.le_of_ble_eq_true rfl⟩) (mo_rec hP hK) rfl rfl hP hD hS hA hK3 rfl hl.1 rfl (Nat.le_of_ble_eq_true rfl) dL_law_1063 (by omega) (by omega) (fun r H locs hr hB hS => ?_)
    rcases hB with ⟨h0, hP, hD⟩ | ⟨h0, hP, hD⟩
    case inr => exact absurd rfl h0
    have hr := hr rfl
    subst hr
    refine lv_istore (lv' := [(6, .int (iI (m_F σ T j.toNat y))), (5, .int (iI (0))), (4, .int (iI ((i : Int)))), (0, .ref b), (1, .ref (g 0)), (2, .ref a), (3, .ref out)]) hx hb dL_law_1066 hl (by decide) rfl (fun ls hl => ?_)
    refine lv_aload_n hx hb dL_law_1068 rfl (lv_at hl 5 rfl) ?_
    refine q_callV (fr := 0) (lo := 0) (nL := 9) (Pic := PicM D cI a ta pa (0) (σ) (T) (P)) (As := []) (rest := []) ⟨hx, hb, hml, hown, hts⟩ (c_thrown l D cI cO cL a ta pa (0) (σ) (T) (P) hLW2.1 hLW2.2.1) (cwV 0 hts gL_law_X6_thrown rfl rfl rfl (by decide +kernel) ⟨Nat.le_of_ble_eq_true rfl, Nat.le_of_ble_eq_true rfl⟩) (mo_rec hP hK) (vaP_mems hP (fun q hq => List.mem_append_right _ hq)) hK3 rfl hl.1 rfl (Nat.le_of_ble_eq_true rfl) dL_law_1069 (by omega) (by omega) ?_
    refine lv_iload hx hb dL_law_1072 (lv_at hl 1 rfl) ?_
    refine q_icmp_eq (tgt := 1079) hx hb dL_law_1074 (by decide) (by omega) (by omega) (fun c_1 => ?_) (fun c_1 => ?_)
    · skip
      refine lv_iload hx hb dL_law_1079 (lv_at hl 1 rfl) ?_
      refine q_if_ne (tgt := 1096) hx hb dL_law_1081 (by decide) (by omega) (fun c_2 => ?_) (fun c_2 => ?_)
      · exfalso; omega
      · skip
        refine lv_aload_n hx hb dL_law_1084 rfl (lv_at hl 6 rfl) ?_
        refine q_iconst hx hb dL_law_1085 ?_
        refine q_lald hx hb hK3 hP dL_law_1086 ?_
        refine lv_iload hx hb dL_law_1087 (lv_at hl 0 rfl) ?_
        refine lv_i2l hx hb dL_law_1089 rfl ?_
        refine q_lcmp0 hx hb (by rfl) dL_law_1090 ?_
        refine q_if_eq (tgt := 1096) hx hb dL_law_1091 (by decide) (by omega) (fun c_3 => ?_) (fun c_3 => ?_)
        · skip
          refine lv_goto (tgt := 1638) hx hb dL_law_1096 (by decide) ?_
          refine W.widen (k := cells + 3) (n := slots + 26) (by omega) (by omega) ?_
          exact kk _ _ _ ⟨u, _, _, _, _, _, hLW2, hu.1, hu.2.1, hu.2.2, hP, hD⟩ hS (lv_sub hl [2, 3, 4, 5, 6] rfl)
        · exfalso; omega
    · exact absurd rfl c_1
  · skip
    refine lv_istore (lv' := [(5, .int (iI (er))), (4, .int (iI ((i : Int)))), (0, .ref b), (1, .ref (g 0)), (2, .ref a), (3, .ref out)]) hx hb dL_law_1048 hl (by decide) rfl (fun ls hl => ?_)
    refine lv_aload_n hx hb dL_law_1050 rfl (lv_at hl 4 rfl) ?_
    refine lv_aload_n hx hb dL_law_1051 rfl (lv_at hl 2 rfl) ?_
    refine lv_iload hx hb dL_law_1052 (lv_at hl 1 rfl) ?_
    refine q_iconst hx hb dL_law_1054 ?_
    refine q_iadd hx hb dL_law_1055 ?_
    refine q_sld hx hb hX hbl hbA hS (i + 1) (by omega) (by omega) hL dL_law_1056 ?_
    refine q_is hX1 ?_
    refine lv_aload_n hx hb dL_law_1057 rfl (lv_at hl 2 rfl) ?_
    refine lv_iload hx hb dL_law_1058 (lv_at hl 1 rfl) ?_
    refine q_iconst hx hb dL_law_1060 ?_
    refine q_iadd hx hb dL_law_1061 ?_
    refine q_sld hx hb hX hbl hbA hS (i + 2) (by omega) (by omega) hL dL_law_1062 ?_
    refine q_is hX2 ?_
    refine q_lawU (nL := 9) (As := [.int (iI (j)), .int (iI (y))]) (rest := []) (wr := WC cI cO g σ T P ++ [oc out cL fo]) ⟨hx, hb, hml, hown, hts⟩ (hMu _) (cwV 2 hts gL_law_X6_feast rfl rfl rfl (by decide +kernel) ⟨Nat.le_of_ble_eq_true rfl, Nat.le_of_ble_eq_true rfl⟩) (mo_rec hP hK) rfl rfl hP hD hS hA hK3 rfl hl.1 rfl (Nat.le_of_ble_eq_true rfl) dL_law_1063 (by omega) (by omega) (fun r H locs hr hB hS => ?_)
    rcases hB with ⟨h0, hP, hD⟩ | ⟨h0, hP, hD⟩
    case inl => exact absurd h0 he
    refine lv_istore (lv' := [(6, .int r), (5, .int (iI (er))), (4, .int (iI ((i : Int)))), (0, .ref b), (1, .ref (g 0)), (2, .ref a), (3, .ref out)]) hx hb dL_law_1066 hl (by decide) rfl (fun ls hl => ?_)
    refine lv_aload_n hx hb dL_law_1068 rfl (lv_at hl 5 rfl) ?_
    refine q_callV (fr := 0) (lo := 0) (nL := 9) (Pic := PicM D cI a ta pa (er) (σ) (T) (P)) (As := []) (rest := []) ⟨hx, hb, hml, hown, hts⟩ (c_thrown l D cI cO cL a ta pa (er) (σ) (T) (P) hLW.1 hLW.2.1) (cwV 0 hts gL_law_X6_thrown rfl rfl rfl (by decide +kernel) ⟨Nat.le_of_ble_eq_true rfl, Nat.le_of_ble_eq_true rfl⟩) (mo_rec hP hK) (vaP_mems hP (fun q hq => List.mem_append_right _ hq)) hK3 rfl hl.1 rfl (Nat.le_of_ble_eq_true rfl) dL_law_1069 (by omega) (by omega) ?_
    refine lv_iload hx hb dL_law_1072 (lv_at hl 1 rfl) ?_
    refine q_icmp_eq (tgt := 1079) hx hb dL_law_1074 (by decide) (by omega) (by omega) (fun c_4 => ?_) (fun c_4 => ?_)
    · skip
      refine lv_iload hx hb dL_law_1079 (lv_at hl 1 rfl) ?_
      refine q_if_ne (tgt := 1096) hx hb dL_law_1081 (by decide) (by omega) (fun c_5 => ?_) (fun c_5 => ?_)
      · skip
        refine lv_goto (tgt := 1638) hx hb dL_law_1096 (by decide) ?_
        refine W.widen (k := cells + 3) (n := slots + 26) (by omega) (by omega) ?_
        exact kk _ _ _ ⟨g, σ, T, P, _, _, hLW, rfl, he6, he7, hP, hD⟩ hS (lv_sub hl [2, 3, 4, 5, 6] rfl)
      · exfalso; omega
    · exact absurd rfl c_4
set_option maxHeartbeats 4000000 in
set_option maxRecDepth 100000 in
theorem r_clashes {p : Program} {l : Launch} {e : Env} {s : State} {m : MethodId} {args : Array Value} {below : List Frame} {meth : Method} {c : Code} {Q : State → Prop} {A0 : Nat → Prop} {D : va_G} {cI cO cL cB : ClassId} {ed : Nat × Nat × Nat} {out g0 a ta pa b L : Nat} {xs : Nat → Int32} (C0 : LC p l s m args c A0 D cI cO cL cB ed b L xs) {cells slots : Nat} (hc : cells + 3 ≤ room_1.cells) (hs : slots + 26 ≤ room_1.slots) {i : Nat} (hi : i + 6 ≤ L) {H : Heap} {locs : List Loc} {ls : Array Slot} (hI : IV D cI cO cL A0 ed out g0 a ta pa H) (hS : va_S A0 s.heap H locs) (hl : lv_has ls 9 [(4, .int (iI (i : Int))), (0, .ref b), (1, .ref g0), (2, .ref a), (3, .ref out)]) (kk : ∀ (H : Heap) (locs : List Loc) (ls : Array Slot), IV D cI cO cL A0 ed out g0 a ta pa H → va_S A0 s.heap H locs → lv_has ls 9 [(4, .int (iI (i : Int))), (0, .ref b), (1, .ref g0), (2, .ref a), (3, .ref out)] → W p l e room_1 s m args below meth c H locs (cells + 3) (slots + 26) Q (F0 m 1638 ls [])) : W p l e room_1 s m args below meth c H locs cells slots Q (F0 m 1099 ls []) := by
  obtain ⟨hst0, hx, hb, hml, hown, hts, hX, hbl, hbA, hL, hA, hK, hE, hT, hN⟩ := C0
  obtain ⟨g, σ, T, P, fo, th, hLW, hg0, he6, he7, hP, hD⟩ := hI
  subst hg0
  obtain ⟨hW, hS0, hp0⟩ := id hLW
  obtain ⟨w0, w1, w2, w3, w4, w5, w6, w7, w8⟩ := id hW
  have hK3 : va_K D vwCl (ty3 cI cO cL) s := hK.sub [0, 1, 2] rfl
  obtain ⟨y, hyr, hX1⟩ : ∃ z : Int, (-2147483648 ≤ z ∧ z < 2147483648) ∧ (xs (i + 1)).toInt = z := ⟨_, I_rng _, rfl⟩
  obtain ⟨er, hev⟩ : ∃ er : Int, (if 0 ≤ y ∧ y < 1000 then 0 else 1) = er := ⟨_, rfl⟩
  have her : 0 ≤ er ∧ er ≤ 2 := by rw [← hev]; (repeat' split) <;> omega
  have hMw := fun sz => w_clashes l hst0 D sz out ed cI cO cL g σ T P fo hW hS0 he6 he7 y hyr
  have hMu := fun sz => u_clashes l D sz cI cO cL a ta pa th σ T P hW hS0 y hyr
  rw [hev] at hMw hMu
  refine lv_aload_n hx hb dL_law_1099 rfl (lv_at hl 2 rfl) ?_
  refine lv_aload_n hx hb dL_law_1100 rfl (lv_at hl 1 rfl) ?_
  refine lv_iload hx hb dL_law_1101 (lv_at hl 0 rfl) ?_
  refine q_iconst hx hb dL_law_1103 ?_
  refine q_iadd hx hb dL_law_1104 ?_
  refine q_sld hx hb hX hbl hbA hS (i + 1) (by omega) (by omega) hL dL_law_1105 ?_
  refine q_is hX1 ?_
  refine lv_aload_n hx hb dL_law_1106 rfl (lv_at hl 4 rfl) ?_
  refine q_lawW (nL := 9) (As := [.ref (g 0), .int (iI (y)), .ref out]) (rest := []) (fo := fo) (wr := WMo cI a ta pa th σ T P) ⟨hx, hb, hml, hown, hts⟩ (hMw _) (vx_cwSW 3 hts gL_law_L_clashes rfl rfl rfl (by decide +kernel) ⟨Nat.le_of_ble_eq_true rfl, Nat.le_of_ble_eq_true rfl⟩) hP hD hS hA hK3 hE hT hN rfl hl.1 rfl (Nat.le_of_ble_eq_true rfl) dL_law_1107 (by omega) (by omega) (fun u H locs he hu hP hD hS => ?_) (fun H locs he hP hS => ?_)
  · subst he
    have hLW2 : LW (σ) (T) (P) := hLW
    refine lv_istore (lv' := [(5, .int (iI (0))), (4, .int (iI ((i : Int)))), (0, .ref b), (1, .ref (g 0)), (2, .ref a), (3, .ref out)]) hx hb dL_law_1110 hl (by decide) rfl (fun ls hl => ?_)
    refine lv_aload_n hx hb dL_law_1112 rfl (lv_at hl 4 rfl) ?_
    refine lv_aload_n hx hb dL_law_1113 rfl (lv_at hl 2 rfl) ?_
    refine lv_iload hx hb dL_law_1114 (lv_at hl 1 rfl) ?_
    refine q_iconst hx hb dL_law_1116 ?_
    refine q_iadd hx hb dL_law_1117 ?_
    refine q_sld hx hb hX hbl hbA hS (i + 1) (by omega) (by omega) hL dL_law_1118 ?_
    refine q_is hX1 ?_
    refine q_lawU (nL := 9) (As := [.int (iI (y))]) (rest := []) (wr := WC cI cO u (σ) (T) (P) ++ [oc out cL (vp_updL fo 0 (iI (m_pairs (fun i => m_F σ T i y) (σ 6).toNat)).toInt64)]) ⟨hx, hb, hml, hown, hts⟩ (hMu _) (cwV 1 hts gL_law_X6_clashes rfl rfl rfl (by decide +kernel) ⟨Nat.le_of_ble_eq_true rfl, Nat.le_of_ble_eq_true rfl⟩) (mo_rec hP hK) rfl rfl hP hD hS hA hK3 rfl hl.1 rfl (Nat.le_of_ble_eq_true rfl) dL_law_1119 (by omega) (by omega) (fun r H locs hr hB hS => ?_)
    rcases hB with ⟨h0, hP, hD⟩ | ⟨h0, hP, hD⟩
    case inr => exact absurd rfl h0
    have hr := hr rfl
    subst hr
    refine lv_istore (lv' := [(6, .int (iI (m_pairs (fun i => m_F σ T i y) (σ 6).toNat))), (5, .int (iI (0))), (4, .int (iI ((i : Int)))), (0, .ref b), (1, .ref (g 0)), (2, .ref a), (3, .ref out)]) hx hb dL_law_1122 hl (by decide) rfl (fun ls hl => ?_)
    refine lv_aload_n hx hb dL_law_1124 rfl (lv_at hl 5 rfl) ?_
    refine q_callV (fr := 0) (lo := 0) (nL := 9) (Pic := PicM D cI a ta pa (0) (σ) (T) (P)) (As := []) (rest := []) ⟨hx, hb, hml, hown, hts⟩ (c_thrown l D cI cO cL a ta pa (0) (σ) (T) (P) hLW2.1 hLW2.2.1) (cwV 0 hts gL_law_X6_thrown rfl rfl rfl (by decide +kernel) ⟨Nat.le_of_ble_eq_true rfl, Nat.le_of_ble_eq_true rfl⟩) (mo_rec hP hK) (vaP_mems hP (fun q hq => List.mem_append_right _ hq)) hK3 rfl hl.1 rfl (Nat.le_of_ble_eq_true rfl) dL_law_1125 (by omega) (by omega) ?_
    refine lv_iload hx hb dL_law_1128 (lv_at hl 1 rfl) ?_
    refine q_icmp_eq (tgt := 1135) hx hb dL_law_1130 (by decide) (by omega) (by omega) (fun c_1 => ?_) (fun c_1 => ?_)
    · skip
      refine lv_iload hx hb dL_law_1135 (lv_at hl 1 rfl) ?_
      refine q_if_ne (tgt := 1152) hx hb dL_law_1137 (by decide) (by omega) (fun c_2 => ?_) (fun c_2 => ?_)
      · exfalso; omega
      · skip
        refine lv_aload_n hx hb dL_law_1140 rfl (lv_at hl 6 rfl) ?_
        refine q_iconst hx hb dL_law_1141 ?_
        refine q_lald hx hb hK3 hP dL_law_1142 ?_
        refine lv_iload hx hb dL_law_1143 (lv_at hl 0 rfl) ?_
        refine lv_i2l hx hb dL_law_1145 rfl ?_
        refine q_lcmp0 hx hb (by rfl) dL_law_1146 ?_
        refine q_if_eq (tgt := 1152) hx hb dL_law_1147 (by decide) (by omega) (fun c_3 => ?_) (fun c_3 => ?_)
        · skip
          refine lv_goto (tgt := 1638) hx hb dL_law_1152 (by decide) ?_
          refine W.widen (k := cells + 3) (n := slots + 26) (by omega) (by omega) ?_
          exact kk _ _ _ ⟨u, _, _, _, _, _, hLW2, hu.1, hu.2.1, hu.2.2, hP, hD⟩ hS (lv_sub hl [2, 3, 4, 5, 6] rfl)
        · exfalso; omega
    · exact absurd rfl c_1
  · skip
    refine lv_istore (lv' := [(5, .int (iI (er))), (4, .int (iI ((i : Int)))), (0, .ref b), (1, .ref (g 0)), (2, .ref a), (3, .ref out)]) hx hb dL_law_1110 hl (by decide) rfl (fun ls hl => ?_)
    refine lv_aload_n hx hb dL_law_1112 rfl (lv_at hl 4 rfl) ?_
    refine lv_aload_n hx hb dL_law_1113 rfl (lv_at hl 2 rfl) ?_
    refine lv_iload hx hb dL_law_1114 (lv_at hl 1 rfl) ?_
    refine q_iconst hx hb dL_law_1116 ?_
    refine q_iadd hx hb dL_law_1117 ?_
    refine q_sld hx hb hX hbl hbA hS (i + 1) (by omega) (by omega) hL dL_law_1118 ?_
    refine q_is hX1 ?_
    refine q_lawU (nL := 9) (As := [.int (iI (y))]) (rest := []) (wr := WC cI cO g σ T P ++ [oc out cL fo]) ⟨hx, hb, hml, hown, hts⟩ (hMu _) (cwV 1 hts gL_law_X6_clashes rfl rfl rfl (by decide +kernel) ⟨Nat.le_of_ble_eq_true rfl, Nat.le_of_ble_eq_true rfl⟩) (mo_rec hP hK) rfl rfl hP hD hS hA hK3 rfl hl.1 rfl (Nat.le_of_ble_eq_true rfl) dL_law_1119 (by omega) (by omega) (fun r H locs hr hB hS => ?_)
    rcases hB with ⟨h0, hP, hD⟩ | ⟨h0, hP, hD⟩
    case inl => exact absurd h0 he
    refine lv_istore (lv' := [(6, .int r), (5, .int (iI (er))), (4, .int (iI ((i : Int)))), (0, .ref b), (1, .ref (g 0)), (2, .ref a), (3, .ref out)]) hx hb dL_law_1122 hl (by decide) rfl (fun ls hl => ?_)
    refine lv_aload_n hx hb dL_law_1124 rfl (lv_at hl 5 rfl) ?_
    refine q_callV (fr := 0) (lo := 0) (nL := 9) (Pic := PicM D cI a ta pa (er) (σ) (T) (P)) (As := []) (rest := []) ⟨hx, hb, hml, hown, hts⟩ (c_thrown l D cI cO cL a ta pa (er) (σ) (T) (P) hLW.1 hLW.2.1) (cwV 0 hts gL_law_X6_thrown rfl rfl rfl (by decide +kernel) ⟨Nat.le_of_ble_eq_true rfl, Nat.le_of_ble_eq_true rfl⟩) (mo_rec hP hK) (vaP_mems hP (fun q hq => List.mem_append_right _ hq)) hK3 rfl hl.1 rfl (Nat.le_of_ble_eq_true rfl) dL_law_1125 (by omega) (by omega) ?_
    refine lv_iload hx hb dL_law_1128 (lv_at hl 1 rfl) ?_
    refine q_icmp_eq (tgt := 1135) hx hb dL_law_1130 (by decide) (by omega) (by omega) (fun c_4 => ?_) (fun c_4 => ?_)
    · skip
      refine lv_iload hx hb dL_law_1135 (lv_at hl 1 rfl) ?_
      refine q_if_ne (tgt := 1152) hx hb dL_law_1137 (by decide) (by omega) (fun c_5 => ?_) (fun c_5 => ?_)
      · skip
        refine lv_goto (tgt := 1638) hx hb dL_law_1152 (by decide) ?_
        refine W.widen (k := cells + 3) (n := slots + 26) (by omega) (by omega) ?_
        exact kk _ _ _ ⟨g, σ, T, P, _, _, hLW, rfl, he6, he7, hP, hD⟩ hS (lv_sub hl [2, 3, 4, 5, 6] rfl)
      · exfalso; omega
    · exact absurd rfl c_4
set_option maxHeartbeats 4000000 in
set_option maxRecDepth 100000 in
theorem r_again {p : Program} {l : Launch} {e : Env} {s : State} {m : MethodId} {args : Array Value} {below : List Frame} {meth : Method} {c : Code} {Q : State → Prop} {A0 : Nat → Prop} {D : va_G} {cI cO cL cB : ClassId} {ed : Nat × Nat × Nat} {out g0 a ta pa b L : Nat} {xs : Nat → Int32} (C0 : LC p l s m args c A0 D cI cO cL cB ed b L xs) {cells slots : Nat} (hc : cells + 3 ≤ room_1.cells) (hs : slots + 26 ≤ room_1.slots) {i : Nat} (hi : i + 6 ≤ L) {H : Heap} {locs : List Loc} {ls : Array Slot} (hI : IV D cI cO cL A0 ed out g0 a ta pa H) (hS : va_S A0 s.heap H locs) (hl : lv_has ls 9 [(4, .int (iI (i : Int))), (0, .ref b), (1, .ref g0), (2, .ref a), (3, .ref out)]) (kk : ∀ (H : Heap) (locs : List Loc) (ls : Array Slot), IV D cI cO cL A0 ed out g0 a ta pa H → va_S A0 s.heap H locs → lv_has ls 9 [(4, .int (iI (i : Int))), (0, .ref b), (1, .ref g0), (2, .ref a), (3, .ref out)] → W p l e room_1 s m args below meth c H locs (cells + 3) (slots + 26) Q (F0 m 1638 ls [])) : W p l e room_1 s m args below meth c H locs cells slots Q (F0 m 1155 ls []) := by
  obtain ⟨hst0, hx, hb, hml, hown, hts, hX, hbl, hbA, hL, hA, hK, hE, hT, hN⟩ := C0
  obtain ⟨g, σ, T, P, fo, th, hLW, hg0, he6, he7, hP, hD⟩ := hI
  subst hg0
  obtain ⟨hW, hS0, hp0⟩ := id hLW
  obtain ⟨w0, w1, w2, w3, w4, w5, w6, w7, w8⟩ := id hW
  have hK3 : va_K D vwCl (ty3 cI cO cL) s := hK.sub [0, 1, 2] rfl
  obtain ⟨j, hjr, hX1⟩ : ∃ z : Int, (-2147483648 ≤ z ∧ z < 2147483648) ∧ (xs (i + 1)).toInt = z := ⟨_, I_rng _, rfl⟩
  obtain ⟨y, hyr, hX2⟩ : ∃ z : Int, (-2147483648 ≤ z ∧ z < 2147483648) ∧ (xs (i + 2)).toInt = z := ⟨_, I_rng _, rfl⟩
  obtain ⟨er, hev⟩ : ∃ er : Int, (if 0 ≤ j ∧ j < σ 6 then (if 0 ≤ y ∧ y < 1000 then 0 else 2) else 1) = er := ⟨_, rfl⟩
  have her : 0 ≤ er ∧ er ≤ 2 := by rw [← hev]; (repeat' split) <;> omega
  have hMw := fun sz => w_again l hst0 D sz out ed cI cO cL g σ T P fo hW hS0 he6 he7 j y hjr hyr
  have hMu := fun sz => u_again l D sz cI cO cL a ta pa th σ T P hW hS0 j y hjr hyr
  rw [hev] at hMw hMu
  refine lv_aload_n hx hb dL_law_1155 rfl (lv_at hl 2 rfl) ?_
  refine lv_aload_n hx hb dL_law_1156 rfl (lv_at hl 1 rfl) ?_
  refine lv_iload hx hb dL_law_1157 (lv_at hl 0 rfl) ?_
  refine q_iconst hx hb dL_law_1159 ?_
  refine q_iadd hx hb dL_law_1160 ?_
  refine q_sld hx hb hX hbl hbA hS (i + 1) (by omega) (by omega) hL dL_law_1161 ?_
  refine q_is hX1 ?_
  refine lv_aload_n hx hb dL_law_1162 rfl (lv_at hl 1 rfl) ?_
  refine lv_iload hx hb dL_law_1163 (lv_at hl 0 rfl) ?_
  refine q_iconst hx hb dL_law_1165 ?_
  refine q_iadd hx hb dL_law_1166 ?_
  refine q_sld hx hb hX hbl hbA hS (i + 2) (by omega) (by omega) hL dL_law_1167 ?_
  refine q_is hX2 ?_
  refine lv_aload_n hx hb dL_law_1168 rfl (lv_at hl 4 rfl) ?_
  refine q_lawW (nL := 9) (As := [.ref (g 0), .int (iI (j)), .int (iI (y)), .ref out]) (rest := []) (fo := fo) (wr := WMo cI a ta pa th σ T P) ⟨hx, hb, hml, hown, hts⟩ (hMw _) (vx_cwSW 4 hts gL_law_L_again rfl rfl rfl (by decide +kernel) ⟨Nat.le_of_ble_eq_true rfl, Nat.le_of_ble_eq_true rfl⟩) hP hD hS hA hK3 hE hT hN rfl hl.1 rfl (Nat.le_of_ble_eq_true rfl) dL_law_1169 (by omega) (by omega) (fun u H locs he hu hP hD hS => ?_) (fun H locs he hP hS => ?_)
  · subst he
    have hLW2 : LW (σ) (T) (P) := hLW
    refine lv_istore (lv' := [(5, .int (iI (0))), (4, .int (iI ((i : Int)))), (0, .ref b), (1, .ref (g 0)), (2, .ref a), (3, .ref out)]) hx hb dL_law_1172 hl (by decide) rfl (fun ls hl => ?_)
    refine lv_aload_n hx hb dL_law_1174 rfl (lv_at hl 4 rfl) ?_
    refine lv_aload_n hx hb dL_law_1175 rfl (lv_at hl 2 rfl) ?_
    refine lv_iload hx hb dL_law_1176 (lv_at hl 1 rfl) ?_
    refine q_iconst hx hb dL_law_1178 ?_
    refine q_iadd hx hb dL_law_1179 ?_
    refine q_sld hx hb hX hbl hbA hS (i + 1) (by omega) (by omega) hL dL_law_1180 ?_
    refine q_is hX1 ?_
    refine lv_aload_n hx hb dL_law_1181 rfl (lv_at hl 2 rfl) ?_
    refine lv_iload hx hb dL_law_1182 (lv_at hl 1 rfl) ?_
    refine q_iconst hx hb dL_law_1184 ?_
    refine q_iadd hx hb dL_law_1185 ?_
    refine q_sld hx hb hX hbl hbA hS (i + 2) (by omega) (by omega) hL dL_law_1186 ?_
    refine q_is hX2 ?_
    refine q_lawU (nL := 9) (As := [.int (iI (j)), .int (iI (y))]) (rest := []) (wr := WC cI cO u (σ) (T) (P) ++ [oc out cL (vp_updL fo 0 (iI (m_again σ T j.toNat y)).toInt64)]) ⟨hx, hb, hml, hown, hts⟩ (hMu _) (cwV 2 hts gL_law_X6_again rfl rfl rfl (by decide +kernel) ⟨Nat.le_of_ble_eq_true rfl, Nat.le_of_ble_eq_true rfl⟩) (mo_rec hP hK) rfl rfl hP hD hS hA hK3 rfl hl.1 rfl (Nat.le_of_ble_eq_true rfl) dL_law_1187 (by omega) (by omega) (fun r H locs hr hB hS => ?_)
    rcases hB with ⟨h0, hP, hD⟩ | ⟨h0, hP, hD⟩
    case inr => exact absurd rfl h0
    have hr := hr rfl
    subst hr
    refine lv_istore (lv' := [(6, .int (iI (m_again σ T j.toNat y))), (5, .int (iI (0))), (4, .int (iI ((i : Int)))), (0, .ref b), (1, .ref (g 0)), (2, .ref a), (3, .ref out)]) hx hb dL_law_1190 hl (by decide) rfl (fun ls hl => ?_)
    refine lv_aload_n hx hb dL_law_1192 rfl (lv_at hl 5 rfl) ?_
    refine q_callV (fr := 0) (lo := 0) (nL := 9) (Pic := PicM D cI a ta pa (0) (σ) (T) (P)) (As := []) (rest := []) ⟨hx, hb, hml, hown, hts⟩ (c_thrown l D cI cO cL a ta pa (0) (σ) (T) (P) hLW2.1 hLW2.2.1) (cwV 0 hts gL_law_X6_thrown rfl rfl rfl (by decide +kernel) ⟨Nat.le_of_ble_eq_true rfl, Nat.le_of_ble_eq_true rfl⟩) (mo_rec hP hK) (vaP_mems hP (fun q hq => List.mem_append_right _ hq)) hK3 rfl hl.1 rfl (Nat.le_of_ble_eq_true rfl) dL_law_1193 (by omega) (by omega) ?_
    refine lv_iload hx hb dL_law_1196 (lv_at hl 1 rfl) ?_
    refine q_icmp_eq (tgt := 1203) hx hb dL_law_1198 (by decide) (by omega) (by omega) (fun c_1 => ?_) (fun c_1 => ?_)
    · skip
      refine lv_iload hx hb dL_law_1203 (lv_at hl 1 rfl) ?_
      refine q_if_ne (tgt := 1220) hx hb dL_law_1205 (by decide) (by omega) (fun c_2 => ?_) (fun c_2 => ?_)
      · exfalso; omega
      · skip
        refine lv_aload_n hx hb dL_law_1208 rfl (lv_at hl 6 rfl) ?_
        refine q_iconst hx hb dL_law_1209 ?_
        refine q_lald hx hb hK3 hP dL_law_1210 ?_
        refine lv_iload hx hb dL_law_1211 (lv_at hl 0 rfl) ?_
        refine lv_i2l hx hb dL_law_1213 rfl ?_
        refine q_lcmp0 hx hb (by rfl) dL_law_1214 ?_
        refine q_if_eq (tgt := 1220) hx hb dL_law_1215 (by decide) (by omega) (fun c_3 => ?_) (fun c_3 => ?_)
        · skip
          refine lv_goto (tgt := 1638) hx hb dL_law_1220 (by decide) ?_
          refine W.widen (k := cells + 3) (n := slots + 26) (by omega) (by omega) ?_
          exact kk _ _ _ ⟨u, _, _, _, _, _, hLW2, hu.1, hu.2.1, hu.2.2, hP, hD⟩ hS (lv_sub hl [2, 3, 4, 5, 6] rfl)
        · exfalso; omega
    · exact absurd rfl c_1
  · skip
    refine lv_istore (lv' := [(5, .int (iI (er))), (4, .int (iI ((i : Int)))), (0, .ref b), (1, .ref (g 0)), (2, .ref a), (3, .ref out)]) hx hb dL_law_1172 hl (by decide) rfl (fun ls hl => ?_)
    refine lv_aload_n hx hb dL_law_1174 rfl (lv_at hl 4 rfl) ?_
    refine lv_aload_n hx hb dL_law_1175 rfl (lv_at hl 2 rfl) ?_
    refine lv_iload hx hb dL_law_1176 (lv_at hl 1 rfl) ?_
    refine q_iconst hx hb dL_law_1178 ?_
    refine q_iadd hx hb dL_law_1179 ?_
    refine q_sld hx hb hX hbl hbA hS (i + 1) (by omega) (by omega) hL dL_law_1180 ?_
    refine q_is hX1 ?_
    refine lv_aload_n hx hb dL_law_1181 rfl (lv_at hl 2 rfl) ?_
    refine lv_iload hx hb dL_law_1182 (lv_at hl 1 rfl) ?_
    refine q_iconst hx hb dL_law_1184 ?_
    refine q_iadd hx hb dL_law_1185 ?_
    refine q_sld hx hb hX hbl hbA hS (i + 2) (by omega) (by omega) hL dL_law_1186 ?_
    refine q_is hX2 ?_
    refine q_lawU (nL := 9) (As := [.int (iI (j)), .int (iI (y))]) (rest := []) (wr := WC cI cO g σ T P ++ [oc out cL fo]) ⟨hx, hb, hml, hown, hts⟩ (hMu _) (cwV 2 hts gL_law_X6_again rfl rfl rfl (by decide +kernel) ⟨Nat.le_of_ble_eq_true rfl, Nat.le_of_ble_eq_true rfl⟩) (mo_rec hP hK) rfl rfl hP hD hS hA hK3 rfl hl.1 rfl (Nat.le_of_ble_eq_true rfl) dL_law_1187 (by omega) (by omega) (fun r H locs hr hB hS => ?_)
    rcases hB with ⟨h0, hP, hD⟩ | ⟨h0, hP, hD⟩
    case inl => exact absurd h0 he
    refine lv_istore (lv' := [(6, .int r), (5, .int (iI (er))), (4, .int (iI ((i : Int)))), (0, .ref b), (1, .ref (g 0)), (2, .ref a), (3, .ref out)]) hx hb dL_law_1190 hl (by decide) rfl (fun ls hl => ?_)
    refine lv_aload_n hx hb dL_law_1192 rfl (lv_at hl 5 rfl) ?_
    refine q_callV (fr := 0) (lo := 0) (nL := 9) (Pic := PicM D cI a ta pa (er) (σ) (T) (P)) (As := []) (rest := []) ⟨hx, hb, hml, hown, hts⟩ (c_thrown l D cI cO cL a ta pa (er) (σ) (T) (P) hLW.1 hLW.2.1) (cwV 0 hts gL_law_X6_thrown rfl rfl rfl (by decide +kernel) ⟨Nat.le_of_ble_eq_true rfl, Nat.le_of_ble_eq_true rfl⟩) (mo_rec hP hK) (vaP_mems hP (fun q hq => List.mem_append_right _ hq)) hK3 rfl hl.1 rfl (Nat.le_of_ble_eq_true rfl) dL_law_1193 (by omega) (by omega) ?_
    refine lv_iload hx hb dL_law_1196 (lv_at hl 1 rfl) ?_
    refine q_icmp_eq (tgt := 1203) hx hb dL_law_1198 (by decide) (by omega) (by omega) (fun c_4 => ?_) (fun c_4 => ?_)
    · skip
      refine lv_iload hx hb dL_law_1203 (lv_at hl 1 rfl) ?_
      refine q_if_ne (tgt := 1220) hx hb dL_law_1205 (by decide) (by omega) (fun c_5 => ?_) (fun c_5 => ?_)
      · skip
        refine lv_goto (tgt := 1638) hx hb dL_law_1220 (by decide) ?_
        refine W.widen (k := cells + 3) (n := slots + 26) (by omega) (by omega) ?_
        exact kk _ _ _ ⟨g, σ, T, P, _, _, hLW, rfl, he6, he7, hP, hD⟩ hS (lv_sub hl [2, 3, 4, 5, 6] rfl)
      · exfalso; omega
    · exact absurd rfl c_4
set_option maxHeartbeats 4000000 in
set_option maxRecDepth 100000 in
theorem r_print {p : Program} {l : Launch} {e : Env} {s : State} {m : MethodId} {args : Array Value} {below : List Frame} {meth : Method} {c : Code} {Q : State → Prop} {A0 : Nat → Prop} {D : va_G} {cI cO cL cB : ClassId} {ed : Nat × Nat × Nat} {out g0 a ta pa b L : Nat} {xs : Nat → Int32} (C0 : LC p l s m args c A0 D cI cO cL cB ed b L xs) {cells slots : Nat} (hc : cells + 3 ≤ room_1.cells) (hs : slots + 26 ≤ room_1.slots) {i : Nat} (hi : i + 6 ≤ L) {H : Heap} {locs : List Loc} {ls : Array Slot} (hI : IV D cI cO cL A0 ed out g0 a ta pa H) (hS : va_S A0 s.heap H locs) (hl : lv_has ls 9 [(4, .int (iI (i : Int))), (0, .ref b), (1, .ref g0), (2, .ref a), (3, .ref out)]) (kk : ∀ (H : Heap) (locs : List Loc) (ls : Array Slot), IV D cI cO cL A0 ed out g0 a ta pa H → va_S A0 s.heap H locs → lv_has ls 9 [(4, .int (iI (i : Int))), (0, .ref b), (1, .ref g0), (2, .ref a), (3, .ref out)] → W p l e room_1 s m args below meth c H locs (cells + 3) (slots + 26) Q (F0 m 1638 ls [])) : W p l e room_1 s m args below meth c H locs cells slots Q (F0 m 1223 ls []) := by
  obtain ⟨hst0, hx, hb, hml, hown, hts, hX, hbl, hbA, hL, hA, hK, hE, hT, hN⟩ := C0
  obtain ⟨g, σ, T, P, fo, th, hLW, hg0, he6, he7, hP, hD⟩ := hI
  subst hg0
  obtain ⟨hW, hS0, hp0⟩ := id hLW
  obtain ⟨w0, w1, w2, w3, w4, w5, w6, w7, w8⟩ := id hW
  have hK3 : va_K D vwCl (ty3 cI cO cL) s := hK.sub [0, 1, 2] rfl
  obtain ⟨y, hyr, hX1⟩ : ∃ z : Int, (-2147483648 ≤ z ∧ z < 2147483648) ∧ (xs (i + 1)).toInt = z := ⟨_, I_rng _, rfl⟩
  obtain ⟨er, hev⟩ : ∃ er : Int, (if 0 ≤ y ∧ y < 1000 then (if σ 7 = 10 then 2 else 0) else 1) = er := ⟨_, rfl⟩
  have her : 0 ≤ er ∧ er ≤ 2 := by rw [← hev]; (repeat' split) <;> omega
  have hMw := fun sz => w_print l hst0 D sz out ed cI cO cL g σ T P fo hW hS0 he6 he7 hp0 y hyr
  have hMu := fun sz => u_print l D sz cI cO cL a ta pa th σ T P hW hS0 y hyr
  rw [hev] at hMw hMu
  refine lv_aload_n hx hb dL_law_1223 rfl (lv_at hl 2 rfl) ?_
  refine lv_aload_n hx hb dL_law_1224 rfl (lv_at hl 1 rfl) ?_
  refine lv_iload hx hb dL_law_1225 (lv_at hl 0 rfl) ?_
  refine q_iconst hx hb dL_law_1227 ?_
  refine q_iadd hx hb dL_law_1228 ?_
  refine q_sld hx hb hX hbl hbA hS (i + 1) (by omega) (by omega) hL dL_law_1229 ?_
  refine q_is hX1 ?_
  refine lv_aload_n hx hb dL_law_1230 rfl (lv_at hl 4 rfl) ?_
  refine q_lawW (nL := 9) (As := [.ref (g 0), .int (iI (y)), .ref out]) (rest := []) (fo := fo) (wr := WMo cI a ta pa th σ T P) ⟨hx, hb, hml, hown, hts⟩ (hMw _) (vx_cwSW 3 hts gL_law_L_print rfl rfl rfl (by decide +kernel) ⟨Nat.le_of_ble_eq_true rfl, Nat.le_of_ble_eq_true rfl⟩) hP hD hS hA hK3 hE hT hN rfl hl.1 rfl (Nat.le_of_ble_eq_true rfl) dL_law_1231 (by omega) (by omega) (fun u H locs he hu hP hD hS => ?_) (fun H locs he hP hS => ?_)
  · subst he
    have hq : (0 ≤ y ∧ y < 1000) ∧ σ 7 ≠ 10 := by (repeat' split at hev) <;> omega
    have hLW2 : LW (st σ 7 (σ 7 + 1)) (T) (m_fl σ T P (11 * (σ 7).toNat) y (σ 6).toNat) := LW_print hLW (by omega) (by omega)
    refine lv_istore (lv' := [(5, .int (iI (0))), (4, .int (iI ((i : Int)))), (0, .ref b), (1, .ref (g 0)), (2, .ref a), (3, .ref out)]) hx hb dL_law_1234 hl (by decide) rfl (fun ls hl => ?_)
    refine lv_aload_n hx hb dL_law_1236 rfl (lv_at hl 4 rfl) ?_
    refine lv_aload_n hx hb dL_law_1237 rfl (lv_at hl 2 rfl) ?_
    refine lv_iload hx hb dL_law_1238 (lv_at hl 1 rfl) ?_
    refine q_iconst hx hb dL_law_1240 ?_
    refine q_iadd hx hb dL_law_1241 ?_
    refine q_sld hx hb hX hbl hbA hS (i + 1) (by omega) (by omega) hL dL_law_1242 ?_
    refine q_is hX1 ?_
    refine q_lawU (nL := 9) (As := [.int (iI (y))]) (rest := []) (wr := WC cI cO u (st σ 7 (σ 7 + 1)) (T) (m_fl σ T P (11 * (σ 7).toNat) y (σ 6).toNat) ++ [oc out cL (vp_updL fo 0 (iI (σ 7)).toInt64)]) ⟨hx, hb, hml, hown, hts⟩ (hMu _) (cwV 1 hts gL_law_X6_print rfl rfl rfl (by decide +kernel) ⟨Nat.le_of_ble_eq_true rfl, Nat.le_of_ble_eq_true rfl⟩) (mo_rec hP hK) rfl rfl hP hD hS hA hK3 rfl hl.1 rfl (Nat.le_of_ble_eq_true rfl) dL_law_1243 (by omega) (by omega) (fun r H locs hr hB hS => ?_)
    rcases hB with ⟨h0, hP, hD⟩ | ⟨h0, hP, hD⟩
    case inr => exact absurd rfl h0
    have hr := hr rfl
    subst hr
    refine lv_istore (lv' := [(6, .int (iI (σ 7))), (5, .int (iI (0))), (4, .int (iI ((i : Int)))), (0, .ref b), (1, .ref (g 0)), (2, .ref a), (3, .ref out)]) hx hb dL_law_1246 hl (by decide) rfl (fun ls hl => ?_)
    refine lv_aload_n hx hb dL_law_1248 rfl (lv_at hl 5 rfl) ?_
    refine q_callV (fr := 0) (lo := 0) (nL := 9) (Pic := PicM D cI a ta pa (0) (st σ 7 (σ 7 + 1)) (T) (m_fl σ T P (11 * (σ 7).toNat) y (σ 6).toNat)) (As := []) (rest := []) ⟨hx, hb, hml, hown, hts⟩ (c_thrown l D cI cO cL a ta pa (0) (st σ 7 (σ 7 + 1)) (T) (m_fl σ T P (11 * (σ 7).toNat) y (σ 6).toNat) hLW2.1 hLW2.2.1) (cwV 0 hts gL_law_X6_thrown rfl rfl rfl (by decide +kernel) ⟨Nat.le_of_ble_eq_true rfl, Nat.le_of_ble_eq_true rfl⟩) (mo_rec hP hK) (vaP_mems hP (fun q hq => List.mem_append_right _ hq)) hK3 rfl hl.1 rfl (Nat.le_of_ble_eq_true rfl) dL_law_1249 (by omega) (by omega) ?_
    refine lv_iload hx hb dL_law_1252 (lv_at hl 1 rfl) ?_
    refine q_icmp_eq (tgt := 1259) hx hb dL_law_1254 (by decide) (by omega) (by omega) (fun c_1 => ?_) (fun c_1 => ?_)
    · skip
      refine lv_iload hx hb dL_law_1259 (lv_at hl 1 rfl) ?_
      refine q_if_ne (tgt := 1276) hx hb dL_law_1261 (by decide) (by omega) (fun c_2 => ?_) (fun c_2 => ?_)
      · exfalso; omega
      · skip
        refine lv_aload_n hx hb dL_law_1264 rfl (lv_at hl 6 rfl) ?_
        refine q_iconst hx hb dL_law_1265 ?_
        refine q_lald hx hb hK3 hP dL_law_1266 ?_
        refine lv_iload hx hb dL_law_1267 (lv_at hl 0 rfl) ?_
        refine lv_i2l hx hb dL_law_1269 rfl ?_
        refine q_lcmp0 hx hb (by rfl) dL_law_1270 ?_
        refine q_if_eq (tgt := 1276) hx hb dL_law_1271 (by decide) (by omega) (fun c_3 => ?_) (fun c_3 => ?_)
        · skip
          refine lv_goto (tgt := 1638) hx hb dL_law_1276 (by decide) ?_
          refine W.widen (k := cells + 3) (n := slots + 26) (by omega) (by omega) ?_
          exact kk _ _ _ ⟨u, _, _, _, _, _, hLW2, hu.1, hu.2.1, hu.2.2, hP, hD⟩ hS (lv_sub hl [2, 3, 4, 5, 6] rfl)
        · exfalso; omega
    · exact absurd rfl c_1
  · skip
    refine lv_istore (lv' := [(5, .int (iI (er))), (4, .int (iI ((i : Int)))), (0, .ref b), (1, .ref (g 0)), (2, .ref a), (3, .ref out)]) hx hb dL_law_1234 hl (by decide) rfl (fun ls hl => ?_)
    refine lv_aload_n hx hb dL_law_1236 rfl (lv_at hl 4 rfl) ?_
    refine lv_aload_n hx hb dL_law_1237 rfl (lv_at hl 2 rfl) ?_
    refine lv_iload hx hb dL_law_1238 (lv_at hl 1 rfl) ?_
    refine q_iconst hx hb dL_law_1240 ?_
    refine q_iadd hx hb dL_law_1241 ?_
    refine q_sld hx hb hX hbl hbA hS (i + 1) (by omega) (by omega) hL dL_law_1242 ?_
    refine q_is hX1 ?_
    refine q_lawU (nL := 9) (As := [.int (iI (y))]) (rest := []) (wr := WC cI cO g σ T P ++ [oc out cL fo]) ⟨hx, hb, hml, hown, hts⟩ (hMu _) (cwV 1 hts gL_law_X6_print rfl rfl rfl (by decide +kernel) ⟨Nat.le_of_ble_eq_true rfl, Nat.le_of_ble_eq_true rfl⟩) (mo_rec hP hK) rfl rfl hP hD hS hA hK3 rfl hl.1 rfl (Nat.le_of_ble_eq_true rfl) dL_law_1243 (by omega) (by omega) (fun r H locs hr hB hS => ?_)
    rcases hB with ⟨h0, hP, hD⟩ | ⟨h0, hP, hD⟩
    case inl => exact absurd h0 he
    refine lv_istore (lv' := [(6, .int r), (5, .int (iI (er))), (4, .int (iI ((i : Int)))), (0, .ref b), (1, .ref (g 0)), (2, .ref a), (3, .ref out)]) hx hb dL_law_1246 hl (by decide) rfl (fun ls hl => ?_)
    refine lv_aload_n hx hb dL_law_1248 rfl (lv_at hl 5 rfl) ?_
    refine q_callV (fr := 0) (lo := 0) (nL := 9) (Pic := PicM D cI a ta pa (er) (σ) (T) (P)) (As := []) (rest := []) ⟨hx, hb, hml, hown, hts⟩ (c_thrown l D cI cO cL a ta pa (er) (σ) (T) (P) hLW.1 hLW.2.1) (cwV 0 hts gL_law_X6_thrown rfl rfl rfl (by decide +kernel) ⟨Nat.le_of_ble_eq_true rfl, Nat.le_of_ble_eq_true rfl⟩) (mo_rec hP hK) (vaP_mems hP (fun q hq => List.mem_append_right _ hq)) hK3 rfl hl.1 rfl (Nat.le_of_ble_eq_true rfl) dL_law_1249 (by omega) (by omega) ?_
    refine lv_iload hx hb dL_law_1252 (lv_at hl 1 rfl) ?_
    refine q_icmp_eq (tgt := 1259) hx hb dL_law_1254 (by decide) (by omega) (by omega) (fun c_4 => ?_) (fun c_4 => ?_)
    · skip
      refine lv_iload hx hb dL_law_1259 (lv_at hl 1 rfl) ?_
      refine q_if_ne (tgt := 1276) hx hb dL_law_1261 (by decide) (by omega) (fun c_5 => ?_) (fun c_5 => ?_)
      · skip
        refine lv_goto (tgt := 1638) hx hb dL_law_1276 (by decide) ?_
        refine W.widen (k := cells + 3) (n := slots + 26) (by omega) (by omega) ?_
        exact kk _ _ _ ⟨g, σ, T, P, _, _, hLW, rfl, he6, he7, hP, hD⟩ hS (lv_sub hl [2, 3, 4, 5, 6] rfl)
      · exfalso; omega
    · exact absurd rfl c_4
