/-! ===== Years, Moons, Nodes: what their methods answer ===== -/
theorem m_md_in (cy lq y mo : Int) : 30 ≤ m_md cy lq y mo ∧ m_md cy lq y mo ≤ 31 := by
  have h := m_leap_01 cy lq y
  unfold m_md
  split <;> omega
theorem m_mo_in {cy lq d : Int} (hc : 1 ≤ cy) (hq : 0 ≤ lq ∧ lq ≤ cy) (hd : 0 ≤ d ∧ d < m_fd cy lq 1000) : 0 ≤ m_mo cy lq d ∧ m_mo cy lq d ≤ 11 := by
  have h := m_r_in hc hq hd
  have h2 := m_leap_01 cy lq (m_y cy lq d)
  unfold m_mo
  split <;> omega
theorem m_dm_in {cy lq d : Int} (hc : 1 ≤ cy) (hq : 0 ≤ lq ∧ lq ≤ cy) (hd : 0 ≤ d ∧ d < m_fd cy lq 1000) : 0 ≤ m_dm cy lq d ∧ m_dm cy lq d ≤ 30 := by
  have h := m_r_in hc hq hd
  have h2 := m_leap_01 cy lq (m_y cy lq d)
  unfold m_dm
  split <;> omega
theorem m_nt_in {ln fi b d : Int} (hL : 20000 ≤ ln ∧ ln ≤ 40000) (hF : 0 ≤ fi ∧ fi ≤ 39999) (hd : 0 ≤ d) : 0 ≤ m_nt ln fi b d ∧ 20000 * m_nt ln fi b d < 1000 * d + 40000 := by
  have h1 := m_ff_in (ln := ln) (fi := fi) (b := b) (t := 1000 * d) hL
  have h2 := m_ff_up (ln := ln) (fi := fi) (b := b) (t := 1000 * d) hL hF (by omega)
  unfold m_nt
  split
  · omega
  · split <;> omega
set_option maxHeartbeats 4000000 in
set_option maxRecDepth 100000 in
/-- Years.hasLeapDay -/
theorem c_hasLeapDay (l : Launch) (D : va_G) (tys : List (ClassId × FieldType)) (h : Nat) (cy lq y : Int) (hc : 1 ≤ cy ∧ cy ≤ 400) (hq : 0 ≤ lq ∧ lq ≤ cy) (hy : 0 ≤ y ∧ y ≤ 1000) : MI l yX4_hasLeapDay wsX4_hasLeapDay 0 0 D tys (ob D h 6 [.int (iI (cy)), .int (iI (lq))]) [.ref h, .int (iI (y))] (m_leap cy lq y) := by
  refine MI_of (cc := cX4_hasLeapDay) (maxL := 2) (ret := (some .boolean)) (by decide) rfl (Nat.le_of_ble_eq_true rfl) ?_
  intro p e s m args below meth c ls hx hb hr hlocks hml hown hts hPic hK hl
  have hl : lv_has ls 2 [(0, .ref h), (1, .int (iI (y)))] := hl
  have hin_X4 : ∀ w ∈ u_ws RX4 TX4 2, w ∈ wsX4_hasLeapDay := (fun w h => List.mem_cons_of_mem _ (List.mem_append_right _ h))
  have hm := m_mulq hc hq (y := y) (by omega)
  have hr1 := Int.emod_nonneg (y * lq) (show cy ≠ 0 by omega)
  have hr2 := Int.emod_lt_of_pos (y * lq) (show 0 < cy by omega)
  refine lv_aload_n hx hb dX4_hasLeapDay_0 rfl (lv_at hl 0 rfl) ?_
  refine q_get (ci := 6) (C := RX4) (T := TX4) (N := 2) hx hb hts hin_X4 hown hK (v := .int (iI (cy))) hPic rfl 0 (by decide) (hts (.fieldLink RX4 9 "AlmanacHouse$Years" "cycle" "I") (List.mem_of_getElem? (i := 1) rfl)) (fun _ h9 => h9) rfl dX4_hasLeapDay_1 ?_
  refine q_if_le (tgt := 29) hx hb dX4_hasLeapDay_4 (by decide) (by omega) (fun c_1 => ?_) (fun c_1 => ?_)
  · skip
    refine q_iconst hx hb dX4_hasLeapDay_29 ?_
    exact q_zret hx hb hr hlocks (by omega) (by unfold m_leap; split <;> omega) dX4_hasLeapDay_30
  · skip
    refine lv_iload_n hx hb dX4_hasLeapDay_7 rfl (lv_at hl 1 rfl) ?_
    refine lv_aload_n hx hb dX4_hasLeapDay_8 rfl (lv_at hl 0 rfl) ?_
    refine q_get (ci := 6) (C := RX4) (T := TX4) (N := 2) hx hb hts hin_X4 hown hK (v := .int (iI (lq))) hPic rfl 1 (by decide) (hts (.fieldLink RX4 15 "AlmanacHouse$Years" "leaps" "I") (List.mem_of_getElem? (i := 2) rfl)) (fun _ h9 => h9) rfl dX4_hasLeapDay_9 ?_
    refine q_imul hx hb dX4_hasLeapDay_12 ?_
    refine lv_aload_n hx hb dX4_hasLeapDay_13 rfl (lv_at hl 0 rfl) ?_
    refine q_get (ci := 6) (C := RX4) (T := TX4) (N := 2) hx hb hts hin_X4 hown hK (v := .int (iI (cy))) hPic rfl 0 (by decide) (hts (.fieldLink RX4 9 "AlmanacHouse$Years" "cycle" "I") (List.mem_of_getElem? (i := 1) rfl)) (fun _ h9 => h9) rfl dX4_hasLeapDay_14 ?_
    refine q_irem hx hb dX4_hasLeapDay_17 (by omega) (by omega) ?_
    refine lv_aload_n hx hb dX4_hasLeapDay_18 rfl (lv_at hl 0 rfl) ?_
    refine q_get (ci := 6) (C := RX4) (T := TX4) (N := 2) hx hb hts hin_X4 hown hK (v := .int (iI (lq))) hPic rfl 1 (by decide) (hts (.fieldLink RX4 15 "AlmanacHouse$Years" "leaps" "I") (List.mem_of_getElem? (i := 2) rfl)) (fun _ h9 => h9) rfl dX4_hasLeapDay_19 ?_
    refine q_icmp_ge (tgt := 29) hx hb dX4_hasLeapDay_22 (by decide) (by omega) (by omega) (fun c_2 => ?_) (fun c_2 => ?_)
    · skip
      refine q_iconst hx hb dX4_hasLeapDay_29 ?_
      exact q_zret hx hb hr hlocks (by omega) (by unfold m_leap; split <;> omega) dX4_hasLeapDay_30
    · skip
      refine q_iconst hx hb dX4_hasLeapDay_25 ?_
      refine lv_goto (tgt := 30) hx hb dX4_hasLeapDay_26 (by decide) ?_
      exact q_zret hx hb hr hlocks (by omega) (by unfold m_leap; split <;> omega) dX4_hasLeapDay_30
set_option maxHeartbeats 4000000 in
set_option maxRecDepth 100000 in
/-- Years.firstDay -/
theorem c_firstDay (l : Launch) (D : va_G) (tys : List (ClassId × FieldType)) (h : Nat) (cy lq y : Int) (hc : 1 ≤ cy ∧ cy ≤ 400) (hq : 0 ≤ lq ∧ lq ≤ cy) (hy : 0 ≤ y ∧ y ≤ 1000) : MI l yX4_firstDay wsX4_firstDay 0 0 D tys (ob D h 6 [.int (iI (cy)), .int (iI (lq))]) [.ref h, .int (iI (y))] (m_fd cy lq y) := by
  refine MI_of (cc := cX4_firstDay) (maxL := 2) (ret := (some .int)) (by decide) rfl (Nat.le_of_ble_eq_true rfl) ?_
  intro p e s m args below meth c ls hx hb hr hlocks hml hown hts hPic hK hl
  have hl : lv_has ls 2 [(0, .ref h), (1, .int (iI (y)))] := hl
  have hin_X4 : ∀ w ∈ u_ws RX4 TX4 2, w ∈ wsX4_firstDay := (fun w h => List.mem_cons_of_mem _ (List.mem_append_right _ h))
  refine lv_iload_n hx hb dX4_firstDay_0 rfl (lv_at hl 1 rfl) ?_
  refine q_iconst hx hb dX4_firstDay_1 ?_
  refine q_icmp_lt (tgt := 21) hx hb dX4_firstDay_2 (by decide) (by omega) (by omega) (fun c_1 => ?_) (fun c_1 => ?_)
  · skip
    refine q_sipush hx hb dX4_firstDay_21 (by decide) ?_
    refine lv_iload_n hx hb dX4_firstDay_24 rfl (lv_at hl 1 rfl) ?_
    refine q_imul hx hb dX4_firstDay_25 ?_
    exact q_iret hx hb hr hlocks (by unfold m_fd; split <;> omega) dX4_firstDay_26
  · skip
    refine lv_aload_n hx hb dX4_firstDay_5 rfl (lv_at hl 0 rfl) ?_
    refine q_get (ci := 6) (C := RX4) (T := TX4) (N := 2) hx hb hts hin_X4 hown hK (v := .int (iI (lq))) hPic rfl 1 (by decide) (hts (.fieldLink RX4 15 "AlmanacHouse$Years" "leaps" "I") (List.mem_of_getElem? (i := 1) rfl)) (fun _ h9 => h9) rfl dX4_firstDay_6 ?_
    refine q_iconst hx hb dX4_firstDay_9 ?_
    refine q_icmp_lt (tgt := 21) hx hb dX4_firstDay_10 (by decide) (by omega) (by omega) (fun c_2 => ?_) (fun c_2 => ?_)
    · skip
      refine q_sipush hx hb dX4_firstDay_21 (by decide) ?_
      refine lv_iload_n hx hb dX4_firstDay_24 rfl (lv_at hl 1 rfl) ?_
      refine q_imul hx hb dX4_firstDay_25 ?_
      exact q_iret hx hb hr hlocks (by unfold m_fd; split <;> omega) dX4_firstDay_26
    · skip
      refine lv_aload_n hx hb dX4_firstDay_13 rfl (lv_at hl 0 rfl) ?_
      refine q_get (ci := 6) (C := RX4) (T := TX4) (N := 2) hx hb hts hin_X4 hown hK (v := .int (iI (cy))) hPic rfl 0 (by decide) (hts (.fieldLink RX4 9 "AlmanacHouse$Years" "cycle" "I") (List.mem_of_getElem? (i := 2) rfl)) (fun _ h9 => h9) rfl dX4_firstDay_14 ?_
      refine q_iconst hx hb dX4_firstDay_17 ?_
      refine q_icmp_ge (tgt := 27) hx hb dX4_firstDay_18 (by decide) (by omega) (by omega) (fun c_3 => ?_) (fun c_3 => ?_)
      · skip
        refine q_sipush hx hb dX4_firstDay_27 (by decide) ?_
        refine lv_iload_n hx hb dX4_firstDay_30 rfl (lv_at hl 1 rfl) ?_
        refine q_imul hx hb dX4_firstDay_31 ?_
        refine lv_iload_n hx hb dX4_firstDay_32 rfl (lv_at hl 1 rfl) ?_
        refine q_iconst hx hb dX4_firstDay_33 ?_
        refine q_isub hx hb dX4_firstDay_34 ?_
        refine lv_aload_n hx hb dX4_firstDay_35 rfl (lv_at hl 0 rfl) ?_
        refine q_get (ci := 6) (C := RX4) (T := TX4) (N := 2) hx hb hts hin_X4 hown hK (v := .int (iI (lq))) hPic rfl 1 (by decide) (hts (.fieldLink RX4 15 "AlmanacHouse$Years" "leaps" "I") (List.mem_of_getElem? (i := 1) rfl)) (fun _ h9 => h9) rfl dX4_firstDay_36 ?_
        refine q_imul hx hb dX4_firstDay_39 ?_
        refine lv_aload_n hx hb dX4_firstDay_40 rfl (lv_at hl 0 rfl) ?_
        refine q_get (ci := 6) (C := RX4) (T := TX4) (N := 2) hx hb hts hin_X4 hown hK (v := .int (iI (cy))) hPic rfl 0 (by decide) (hts (.fieldLink RX4 9 "AlmanacHouse$Years" "cycle" "I") (List.mem_of_getElem? (i := 2) rfl)) (fun _ h9 => h9) rfl dX4_firstDay_41 ?_
        have hm := m_mulq (y := y - 1) hc hq (by omega)
        refine q_idiv hx hb dX4_firstDay_44 (by omega) (by omega) ?_
        refine q_iadd hx hb dX4_firstDay_45 ?_
        refine q_iconst hx hb dX4_firstDay_46 ?_
        refine q_iadd hx hb dX4_firstDay_47 ?_
        exact q_iret hx hb hr hlocks (by unfold m_fd; split <;> omega) dX4_firstDay_48
      · skip
        refine q_sipush hx hb dX4_firstDay_21 (by decide) ?_
        refine lv_iload_n hx hb dX4_firstDay_24 rfl (lv_at hl 1 rfl) ?_
        refine q_imul hx hb dX4_firstDay_25 ?_
        exact q_iret hx hb hr hlocks (by unfold m_fd; split <;> omega) dX4_firstDay_26
set_option maxHeartbeats 4000000 in
set_option maxRecDepth 100000 in
/-- Years.daysOfMonth -/
theorem c_daysOfMonth (l : Launch) (D : va_G) (tys : List (ClassId × FieldType)) (h : Nat) (cy lq y mo : Int) (hc : 1 ≤ cy ∧ cy ≤ 400) (hq : 0 ≤ lq ∧ lq ≤ cy) (hy : 0 ≤ y ∧ y ≤ 1000) (hmo : 0 ≤ mo ∧ mo ≤ 11) : MI l yX4_daysOfMonth wsX4_daysOfMonth 1 21 D tys (ob D h 6 [.int (iI (cy)), .int (iI (lq))]) [.ref h, .int (iI (y)), .int (iI (mo))] (m_md cy lq y mo) := by
  refine MI_of (cc := cX4_daysOfMonth) (maxL := 3) (ret := (some .int)) (by decide) rfl (Nat.le_of_ble_eq_true rfl) ?_
  intro p e s m args below meth c ls hx hb hr hlocks hml hown hts hPic hK hl
  have hl : lv_has ls 3 [(0, .ref h), (1, .int (iI (y))), (2, .int (iI (mo)))] := hl
  refine lv_iload_n hx hb dX4_daysOfMonth_0 rfl (lv_at hl 2 rfl) ?_
  refine q_bipush hx hb dX4_daysOfMonth_1 (by decide) ?_
  refine q_icmp_ne (tgt := 22) hx hb dX4_daysOfMonth_3 (by decide) (by omega) (by omega) (fun c_1 => ?_) (fun c_1 => ?_)
  · skip
    refine q_bipush hx hb dX4_daysOfMonth_22 (by decide) ?_
    refine lv_iload_n hx hb dX4_daysOfMonth_24 rfl (lv_at hl 2 rfl) ?_
    refine q_iconst hx hb dX4_daysOfMonth_25 ?_
    refine q_irem hx hb dX4_daysOfMonth_26 (by omega) (by omega) ?_
    refine q_iadd hx hb dX4_daysOfMonth_27 ?_
    exact q_iret hx hb hr hlocks (by unfold m_md; split <;> omega) dX4_daysOfMonth_28
  · skip
    refine lv_aload_n hx hb dX4_daysOfMonth_6 rfl (lv_at hl 0 rfl) ?_
    refine lv_iload_n hx hb dX4_daysOfMonth_7 rfl (lv_at hl 1 rfl) ?_
    refine q_callV (fr := 0) (lo := 0) (nL := 3) (Pic := ob D h 6 [.int (iI (cy)), .int (iI (lq))]) (As := [.int (iI (y))]) (rest := []) ⟨hx, hb, hml, hown, hts⟩ (c_hasLeapDay l D tys h (cy) (lq) (y) hc hq (by omega)) (cwV 1 hts gX4_daysOfMonth_X4_hasLeapDay rfl rfl rfl (by decide +kernel) ⟨Nat.le_of_ble_eq_true rfl, Nat.le_of_ble_eq_true rfl⟩) (ob_recv hPic hK rfl) hPic hK rfl hl.1 rfl (Nat.le_of_ble_eq_true rfl) dX4_daysOfMonth_8 (Nat.zero_le _) (Nat.zero_le _) ?_
    have hlp8 := m_leap_01 (cy) (lq) (y)
    refine q_if_eq (tgt := 19) hx hb dX4_daysOfMonth_11 (by decide) (by omega) (fun c_2 => ?_) (fun c_2 => ?_)
    · skip
      refine q_bipush hx hb dX4_daysOfMonth_19 (by decide) ?_
      exact q_iret hx hb hr hlocks (by unfold m_md; split <;> omega) dX4_daysOfMonth_21
    · skip
      refine q_bipush hx hb dX4_daysOfMonth_14 (by decide) ?_
      refine lv_goto (tgt := 21) hx hb dX4_daysOfMonth_16 (by decide) ?_
      exact q_iret hx hb hr hlocks (by unfold m_md; split <;> omega) dX4_daysOfMonth_21
set_option maxHeartbeats 4000000 in
set_option maxRecDepth 100000 in
/-- Years.yearOf -/
theorem c_yearOf (l : Launch) (D : va_G) (tys : List (ClassId × FieldType)) (h : Nat) (cy lq d : Int) (hc : 1 ≤ cy ∧ cy ≤ 400) (hq : 0 ≤ lq ∧ lq ≤ cy) (hd : 0 ≤ d ∧ d < m_fd cy lq 1000) : MI l yX4_yearOf wsX4_yearOf 1 21 D tys (ob D h 6 [.int (iI (cy)), .int (iI (lq))]) [.ref h, .int (iI (d))] (m_y cy lq d) := by
  have h1000 := m_fd_le (cy := cy) (lq := lq) (y := 1000) hc.1 hq (by omega)
  refine MI_of (cc := cX4_yearOf) (maxL := 3) (ret := (some .int)) (by decide) rfl (Nat.le_of_ble_eq_true rfl) ?_
  intro p e s m args below meth c ls hx hb hr hlocks hml hown hts hPic hK hl
  have hl : lv_has ls 3 [(0, .ref h), (1, .int (iI (d)))] := hl
  have h366 := m_fd_le (cy := cy) (lq := lq) (y := d / 366) hc.1 hq (by omega)
  refine lv_iload_n hx hb dX4_yearOf_0 rfl (lv_at hl 1 rfl) ?_
  refine q_sipush hx hb dX4_yearOf_1 (by decide) ?_
  refine q_idiv hx hb dX4_yearOf_4 (by omega) (by omega) ?_
  refine lv_istore_n (lv' := [(2, .int (iI ((d) / (366)))), (0, .ref h), (1, .int (iI (d)))]) hx hb dX4_yearOf_5 rfl hl (by decide) rfl (fun ls hl => ?_)
  have key_6 : ∀ (fu : Nat) (k : Int), 0 ≤ k ∧ k ≤ 999 → m_fd cy lq k ≤ d → (999 - k) < (fu : Int) → ∀ ls : Array Slot, lv_has ls 3 [(0, .ref h), (1, .int (iI (d))), (2, .int (iI (k)))] → W p l e { frames := 1, cells := 0, slots := 0, locals := 21 } s m args below meth c s.heap [] 0 0 (MQ below (vp_Si (fun r => r = iI (m_y cy lq d))) args s 0 0 (fun _ => False)) (F0 m 6 ls []) := by
    intro fu
    induction fu with
    | zero => intro k hk hk2 hm_6 ls hl; exact absurd hm_6 (by omega)
    | succ fu ih_6 =>
      intro k hk hk2 hm_6 ls hl
      refine lv_iload_n hx hb dX4_yearOf_6 rfl (lv_at hl 2 rfl) ?_
      refine q_sipush hx hb dX4_yearOf_7 (by decide) ?_
      refine q_icmp_ge (tgt := 30) hx hb dX4_yearOf_10 (by decide) (by omega) (by omega) (fun c_1 => ?_) (fun c_1 => ?_)
      · skip
        refine lv_iload_n hx hb dX4_yearOf_30 rfl (lv_at hl 2 rfl) ?_
        exact q_iret hx hb hr hlocks (by first | exact m_y_eq hc.1 hq hk hk2 (by omega) | (have e : k = 999 := (by omega); subst e; exact m_y_eq hc.1 hq hk hk2 (by rw [show (999 + 1 : Int) = 1000 from rfl]; exact hd.2))) dX4_yearOf_31
      · skip
        refine lv_aload_n hx hb dX4_yearOf_13 rfl (lv_at hl 0 rfl) ?_
        refine lv_iload_n hx hb dX4_yearOf_14 rfl (lv_at hl 2 rfl) ?_
        refine q_iconst hx hb dX4_yearOf_15 ?_
        refine q_iadd hx hb dX4_yearOf_16 ?_
        refine q_callV (fr := 0) (lo := 0) (nL := 3) (Pic := ob D h 6 [.int (iI (cy)), .int (iI (lq))]) (As := [.int (iI (k + 1))]) (rest := []) ⟨hx, hb, hml, hown, hts⟩ (c_firstDay l D tys h (cy) (lq) (k + 1) hc hq (by omega)) (cwV 1 hts gX4_yearOf_X4_firstDay rfl rfl rfl (by decide +kernel) ⟨Nat.le_of_ble_eq_true rfl, Nat.le_of_ble_eq_true rfl⟩) (ob_recv hPic hK rfl) hPic hK rfl hl.1 rfl (Nat.le_of_ble_eq_true rfl) dX4_yearOf_17 (Nat.zero_le _) (Nat.zero_le _) ?_
        have hfd17 := m_fd_le (cy := (cy)) (lq := (lq)) (y := (k + 1)) hc.1 hq (by omega)
        refine lv_iload_n hx hb dX4_yearOf_20 rfl (lv_at hl 1 rfl) ?_
        refine q_icmp_gt (tgt := 30) hx hb dX4_yearOf_21 (by decide) (by omega) (by omega) (fun c_2 => ?_) (fun c_2 => ?_)
        · skip
          refine lv_iload_n hx hb dX4_yearOf_30 rfl (lv_at hl 2 rfl) ?_
          exact q_iret hx hb hr hlocks (by first | exact m_y_eq hc.1 hq hk hk2 (by omega) | (have e : k = 999 := (by omega); subst e; exact m_y_eq hc.1 hq hk hk2 (by rw [show (999 + 1 : Int) = 1000 from rfl]; exact hd.2))) dX4_yearOf_31
        · skip
          refine q_iinc (k := 2) (lv' := [(2, .int (iI (k + 1))), (0, .ref h), (1, .int (iI (d)))]) hx hb dX4_yearOf_24 hl rfl (by decide) rfl (fun ls hl => ?_)
          refine lv_goto (tgt := 6) hx hb dX4_yearOf_27 (by decide) ?_
          exact ih_6 _ (by omega) (by omega) (by omega) _ (lv_sub hl [1, 2, 0] rfl)
  exact key_6 (1001) _ (by omega) (by omega) (by omega) _ (lv_sub hl [1, 2, 0] rfl)
set_option maxHeartbeats 4000000 in
set_option maxRecDepth 100000 in
/-- Years.monthOf -/
theorem c_monthOf (l : Launch) (D : va_G) (tys : List (ClassId × FieldType)) (h : Nat) (cy lq d : Int) (hc : 1 ≤ cy ∧ cy ≤ 400) (hq : 0 ≤ lq ∧ lq ≤ cy) (hd : 0 ≤ d ∧ d < m_fd cy lq 1000) : MI l yX4_monthOf wsX4_monthOf 2 43 D tys (ob D h 6 [.int (iI (cy)), .int (iI (lq))]) [.ref h, .int (iI (d))] (m_mo cy lq d) := by
  have h1000 := m_fd_le (cy := cy) (lq := lq) (y := 1000) hc.1 hq (by omega)
  have hr := m_r_in hc.1 hq hd
  unfold m_r at hr
  have hl01 := m_leap_01 cy lq (m_y cy lq d)
  refine MI_of (cc := cX4_monthOf) (maxL := 3) (ret := (some .int)) (by decide) rfl (Nat.le_of_ble_eq_true rfl) ?_
  intro p e s m args below meth c ls hx hb hr hlocks hml hown hts hPic hK hl
  have hl : lv_has ls 3 [(0, .ref h), (1, .int (iI (d)))] := hl
  refine lv_iload_n hx hb dX4_monthOf_0 rfl (lv_at hl 1 rfl) ?_
  refine lv_aload_n hx hb dX4_monthOf_1 rfl (lv_at hl 0 rfl) ?_
  refine lv_aload_n hx hb dX4_monthOf_2 rfl (lv_at hl 0 rfl) ?_
  refine lv_iload_n hx hb dX4_monthOf_3 rfl (lv_at hl 1 rfl) ?_
  refine q_callV (fr := 1) (lo := 21) (nL := 3) (Pic := ob D h 6 [.int (iI (cy)), .int (iI (lq))]) (As := [.int (iI (d))]) (rest := [.ref h, .int (iI (d))]) ⟨hx, hb, hml, hown, hts⟩ (c_yearOf l D tys h (cy) (lq) (d) hc hq (by omega)) (cwV 1 hts gX4_monthOf_X4_yearOf rfl rfl rfl (by decide +kernel) ⟨Nat.le_of_ble_eq_true rfl, Nat.le_of_ble_eq_true rfl⟩) (ob_recv hPic hK rfl) hPic hK rfl hl.1 rfl (Nat.le_of_ble_eq_true rfl) dX4_monthOf_4 (Nat.zero_le _) (Nat.zero_le _) ?_
  have hyi4 := m_y_in (cy) (lq) (d)
  refine q_callV (fr := 0) (lo := 0) (nL := 3) (Pic := ob D h 6 [.int (iI (cy)), .int (iI (lq))]) (As := [.int (iI (m_y (cy) (lq) (d)))]) (rest := [.int (iI (d))]) ⟨hx, hb, hml, hown, hts⟩ (c_firstDay l D tys h (cy) (lq) (m_y (cy) (lq) (d)) hc hq (by omega)) (cwV 1 hts gX4_monthOf_X4_firstDay rfl rfl rfl (by decide +kernel) ⟨Nat.le_of_ble_eq_true rfl, Nat.le_of_ble_eq_true rfl⟩) (ob_recv hPic hK rfl) hPic hK rfl hl.1 rfl (Nat.le_of_ble_eq_true rfl) dX4_monthOf_7 (Nat.zero_le _) (Nat.zero_le _) ?_
  have hfd7 := m_fd_le (cy := (cy)) (lq := (lq)) (y := (m_y (cy) (lq) (d))) hc.1 hq (by omega)
  refine q_isub hx hb dX4_monthOf_10 ?_
  refine q_top (fun v_1 ev_1 => ?_)
  refine lv_istore_n (lv' := [(2, .int (iI (v_1))), (0, .ref h), (1, .int (iI (d)))]) hx hb dX4_monthOf_11 rfl hl (by decide) rfl (fun ls hl => ?_)
  refine lv_iload_n hx hb dX4_monthOf_12 rfl (lv_at hl 0 rfl) ?_
  refine q_bipush hx hb dX4_monthOf_13 (by decide) ?_
  refine q_idiv hx hb dX4_monthOf_15 (by omega) (by omega) ?_
  refine q_iconst hx hb dX4_monthOf_16 ?_
  refine q_imul hx hb dX4_monthOf_17 ?_
  refine lv_iload_n hx hb dX4_monthOf_18 rfl (lv_at hl 0 rfl) ?_
  refine q_bipush hx hb dX4_monthOf_19 (by decide) ?_
  refine q_irem hx hb dX4_monthOf_21 (by omega) (by omega) ?_
  refine q_bipush hx hb dX4_monthOf_22 (by decide) ?_
  refine q_icmp_ge (tgt := 31) hx hb dX4_monthOf_24 (by decide) (by omega) (by omega) (fun c_2 => ?_) (fun c_2 => ?_)
  · skip
    refine q_iconst hx hb dX4_monthOf_31 ?_
    refine q_iadd hx hb dX4_monthOf_32 ?_
    exact q_iret hx hb hr hlocks (by unfold m_mo m_r; split <;> omega) dX4_monthOf_33
  · skip
    refine q_iconst hx hb dX4_monthOf_27 ?_
    refine lv_goto (tgt := 32) hx hb dX4_monthOf_28 (by decide) ?_
    refine q_iadd hx hb dX4_monthOf_32 ?_
    exact q_iret hx hb hr hlocks (by unfold m_mo m_r; split <;> omega) dX4_monthOf_33
set_option maxHeartbeats 4000000 in
set_option maxRecDepth 100000 in
/-- Years.dayOfMonth -/
theorem c_dayOfMonth (l : Launch) (D : va_G) (tys : List (ClassId × FieldType)) (h : Nat) (cy lq d : Int) (hc : 1 ≤ cy ∧ cy ≤ 400) (hq : 0 ≤ lq ∧ lq ≤ cy) (hd : 0 ≤ d ∧ d < m_fd cy lq 1000) : MI l yX4_dayOfMonth wsX4_dayOfMonth 2 43 D tys (ob D h 6 [.int (iI (cy)), .int (iI (lq))]) [.ref h, .int (iI (d))] (m_dm cy lq d) := by
  have h1000 := m_fd_le (cy := cy) (lq := lq) (y := 1000) hc.1 hq (by omega)
  have hr := m_r_in hc.1 hq hd
  unfold m_r at hr
  have hl01 := m_leap_01 cy lq (m_y cy lq d)
  refine MI_of (cc := cX4_dayOfMonth) (maxL := 3) (ret := (some .int)) (by decide) rfl (Nat.le_of_ble_eq_true rfl) ?_
  intro p e s m args below meth c ls hx hb hr hlocks hml hown hts hPic hK hl
  have hl : lv_has ls 3 [(0, .ref h), (1, .int (iI (d)))] := hl
  refine lv_iload_n hx hb dX4_dayOfMonth_0 rfl (lv_at hl 1 rfl) ?_
  refine lv_aload_n hx hb dX4_dayOfMonth_1 rfl (lv_at hl 0 rfl) ?_
  refine lv_aload_n hx hb dX4_dayOfMonth_2 rfl (lv_at hl 0 rfl) ?_
  refine lv_iload_n hx hb dX4_dayOfMonth_3 rfl (lv_at hl 1 rfl) ?_
  refine q_callV (fr := 1) (lo := 21) (nL := 3) (Pic := ob D h 6 [.int (iI (cy)), .int (iI (lq))]) (As := [.int (iI (d))]) (rest := [.ref h, .int (iI (d))]) ⟨hx, hb, hml, hown, hts⟩ (c_yearOf l D tys h (cy) (lq) (d) hc hq (by omega)) (cwV 1 hts gX4_dayOfMonth_X4_yearOf rfl rfl rfl (by decide +kernel) ⟨Nat.le_of_ble_eq_true rfl, Nat.le_of_ble_eq_true rfl⟩) (ob_recv hPic hK rfl) hPic hK rfl hl.1 rfl (Nat.le_of_ble_eq_true rfl) dX4_dayOfMonth_4 (Nat.zero_le _) (Nat.zero_le _) ?_
  have hyi4 := m_y_in (cy) (lq) (d)
  refine q_callV (fr := 0) (lo := 0) (nL := 3) (Pic := ob D h 6 [.int (iI (cy)), .int (iI (lq))]) (As := [.int (iI (m_y (cy) (lq) (d)))]) (rest := [.int (iI (d))]) ⟨hx, hb, hml, hown, hts⟩ (c_firstDay l D tys h (cy) (lq) (m_y (cy) (lq) (d)) hc hq (by omega)) (cwV 1 hts gX4_dayOfMonth_X4_firstDay rfl rfl rfl (by decide +kernel) ⟨Nat.le_of_ble_eq_true rfl, Nat.le_of_ble_eq_true rfl⟩) (ob_recv hPic hK rfl) hPic hK rfl hl.1 rfl (Nat.le_of_ble_eq_true rfl) dX4_dayOfMonth_7 (Nat.zero_le _) (Nat.zero_le _) ?_
  have hfd7 := m_fd_le (cy := (cy)) (lq := (lq)) (y := (m_y (cy) (lq) (d))) hc.1 hq (by omega)
  refine q_isub hx hb dX4_dayOfMonth_10 ?_
  refine q_bipush hx hb dX4_dayOfMonth_11 (by decide) ?_
  refine q_irem hx hb dX4_dayOfMonth_13 (by omega) (by omega) ?_
  refine q_top (fun v_1 ev_1 => ?_)
  refine lv_istore_n (lv' := [(2, .int (iI (v_1))), (0, .ref h), (1, .int (iI (d)))]) hx hb dX4_dayOfMonth_14 rfl hl (by decide) rfl (fun ls hl => ?_)
  refine lv_iload_n hx hb dX4_dayOfMonth_15 rfl (lv_at hl 0 rfl) ?_
  refine q_bipush hx hb dX4_dayOfMonth_16 (by decide) ?_
  refine q_icmp_ge (tgt := 25) hx hb dX4_dayOfMonth_18 (by decide) (by omega) (by omega) (fun c_2 => ?_) (fun c_2 => ?_)
  · skip
    refine lv_iload_n hx hb dX4_dayOfMonth_25 rfl (lv_at hl 0 rfl) ?_
    refine q_bipush hx hb dX4_dayOfMonth_26 (by decide) ?_
    refine q_isub hx hb dX4_dayOfMonth_28 ?_
    exact q_iret hx hb hr hlocks (by unfold m_dm m_r; split <;> omega) dX4_dayOfMonth_29
  · skip
    refine lv_iload_n hx hb dX4_dayOfMonth_21 rfl (lv_at hl 0 rfl) ?_
    refine lv_goto (tgt := 29) hx hb dX4_dayOfMonth_22 (by decide) ?_
    exact q_iret hx hb hr hlocks (by unfold m_dm m_r; split <;> omega) dX4_dayOfMonth_29
set_option maxHeartbeats 4000000 in
set_option maxRecDepth 100000 in
/-- Moons.timeOf -/
theorem c_timeOf (l : Launch) (D : va_G) (tys : List (ClassId × FieldType)) (h : Nat) (ln fi k b : Int) (hL : 20000 ≤ ln ∧ ln ≤ 40000) (hF : 0 ≤ fi ∧ fi ≤ 39999) (hk : 0 ≤ k ∧ k ≤ 50000) (hb01 : b = 0 ∨ b = 1) : MI l yX1_timeOf wsX1_timeOf 0 0 D tys (ob D h 3 [.int (iI (ln)), .int (iI (fi))]) [.ref h, .int (iI (k)), .int (iI (b))] (m_tm ln fi k b) := by
  refine MI_of (cc := cX1_timeOf) (maxL := 3) (ret := (some .int)) (by decide) rfl (Nat.le_of_ble_eq_true rfl) ?_
  intro p e s m args below meth c ls hx hb hr hlocks hml hown hts hPic hK hl
  have hl : lv_has ls 3 [(0, .ref h), (1, .int (iI (k))), (2, .int (iI (b)))] := hl
  have hin_X1 : ∀ w ∈ u_ws RX1 TX1 2, w ∈ wsX1_timeOf := (fun w h => List.mem_cons_of_mem _ (List.mem_append_right _ h))
  refine lv_aload_n hx hb dX1_timeOf_0 rfl (lv_at hl 0 rfl) ?_
  refine q_get (ci := 3) (C := RX1) (T := TX1) (N := 2) hx hb hts hin_X1 hown hK (v := .int (iI (fi))) hPic rfl 1 (by decide) (hts (.fieldLink RX1 15 "AlmanacHouse$Moons" "first" "I") (List.mem_of_getElem? (i := 1) rfl)) (fun _ h9 => h9) rfl dX1_timeOf_1 ?_
  refine lv_iload_n hx hb dX1_timeOf_4 rfl (lv_at hl 1 rfl) ?_
  refine lv_aload_n hx hb dX1_timeOf_5 rfl (lv_at hl 0 rfl) ?_
  refine q_get (ci := 3) (C := RX1) (T := TX1) (N := 2) hx hb hts hin_X1 hown hK (v := .int (iI (ln))) hPic rfl 0 (by decide) (hts (.fieldLink RX1 9 "AlmanacHouse$Moons" "length" "I") (List.mem_of_getElem? (i := 2) rfl)) (fun _ h9 => h9) rfl dX1_timeOf_6 ?_
  refine q_imul hx hb dX1_timeOf_9 ?_
  refine q_iadd hx hb dX1_timeOf_10 ?_
  refine lv_iload_n hx hb dX1_timeOf_11 rfl (lv_at hl 2 rfl) ?_
  have key_25 : ∀ (z : Int), z = m_hf ln b → ∀ ls : Array Slot, lv_has ls 3 [(0, .ref h), (1, .int (iI (k))), (2, .int (iI (b)))] → W p l e { frames := 0, cells := 0, slots := 0, locals := 0 } s m args below meth c s.heap [] 0 0 (MQ below (vp_Si (fun r => r = iI (m_tm ln fi k b))) args s 0 0 (fun _ => False)) (F0 m 25 ls [.int (iI (z)), .int (iI (fi + k * ln))]) := by
    intro z hz ls hl
    refine q_iadd hx hb dX1_timeOf_25 ?_
    exact q_iret hx hb hr hlocks (by unfold m_tm; omega) dX1_timeOf_26
  refine q_if_eq (tgt := 24) hx hb dX1_timeOf_12 (by decide) (by omega) (fun c_1 => ?_) (fun c_1 => ?_)
  · skip
    refine q_iconst hx hb dX1_timeOf_24 ?_
    exact key_25 _ (by unfold m_hf; split <;> omega) _ (lv_sub hl [0, 1, 2] rfl)
  · skip
    refine lv_aload_n hx hb dX1_timeOf_15 rfl (lv_at hl 0 rfl) ?_
    refine q_get (ci := 3) (C := RX1) (T := TX1) (N := 2) hx hb hts hin_X1 hown hK (v := .int (iI (ln))) hPic rfl 0 (by decide) (hts (.fieldLink RX1 9 "AlmanacHouse$Moons" "length" "I") (List.mem_of_getElem? (i := 2) rfl)) (fun _ h9 => h9) rfl dX1_timeOf_16 ?_
    refine q_iconst hx hb dX1_timeOf_19 ?_
    refine q_idiv hx hb dX1_timeOf_20 (by omega) (by omega) ?_
    refine lv_goto (tgt := 25) hx hb dX1_timeOf_21 (by decide) ?_
    exact key_25 _ (by unfold m_hf; split <;> omega) _ (lv_sub hl [0, 1, 2] rfl)
set_option maxHeartbeats 4000000 in
set_option maxRecDepth 100000 in
/-- Moons.firstFrom -/
theorem c_firstFrom (l : Launch) (D : va_G) (tys : List (ClassId × FieldType)) (h : Nat) (ln fi t b : Int) (hL : 20000 ≤ ln ∧ ln ≤ 40000) (hF : 0 ≤ fi ∧ fi ≤ 39999) (ht : 0 ≤ t ∧ t ≤ 400000000) (hb01 : b = 0 ∨ b = 1) : MI l yX1_firstFrom wsX1_firstFrom 0 0 D tys (ob D h 3 [.int (iI (ln)), .int (iI (fi))]) [.ref h, .int (iI (t)), .int (iI (b))] (m_ff ln fi b t) := by
  have hhf := m_hf_in (ln := ln) (b := b) hL
  refine MI_of (cc := cX1_firstFrom) (maxL := 4) (ret := (some .int)) (by decide) rfl (Nat.le_of_ble_eq_true rfl) ?_
  intro p e s m args below meth c ls hx hb hr hlocks hml hown hts hPic hK hl
  have hl : lv_has ls 4 [(0, .ref h), (1, .int (iI (t))), (2, .int (iI (b)))] := hl
  have hin_X1 : ∀ w ∈ u_ws RX1 TX1 2, w ∈ wsX1_firstFrom := (fun w h => List.mem_cons_of_mem _ (List.mem_append_right _ h))
  refine lv_iload_n hx hb dX1_firstFrom_0 rfl (lv_at hl 1 rfl) ?_
  refine lv_aload_n hx hb dX1_firstFrom_1 rfl (lv_at hl 0 rfl) ?_
  refine q_get (ci := 3) (C := RX1) (T := TX1) (N := 2) hx hb hts hin_X1 hown hK (v := .int (iI (fi))) hPic rfl 1 (by decide) (hts (.fieldLink RX1 15 "AlmanacHouse$Moons" "first" "I") (List.mem_of_getElem? (i := 1) rfl)) (fun _ h9 => h9) rfl dX1_firstFrom_2 ?_
  refine q_isub hx hb dX1_firstFrom_5 ?_
  refine lv_iload_n hx hb dX1_firstFrom_6 rfl (lv_at hl 2 rfl) ?_
  have key_20 : ∀ (z : Int), z = m_hf ln b → ∀ ls : Array Slot, lv_has ls 4 [(0, .ref h), (1, .int (iI (t))), (2, .int (iI (b)))] → W p l e { frames := 0, cells := 0, slots := 0, locals := 0 } s m args below meth c s.heap [] 0 0 (MQ below (vp_Si (fun r => r = iI (m_ff ln fi b t))) args s 0 0 (fun _ => False)) (F0 m 20 ls [.int (iI (z)), .int (iI (t - fi))]) := by
    intro z hz ls hl
    refine q_isub hx hb dX1_firstFrom_20 ?_
    refine q_top (fun x ex => ?_)
    refine lv_istore_n (lv' := [(3, .int (iI (x))), (0, .ref h), (1, .int (iI (t))), (2, .int (iI (b)))]) hx hb dX1_firstFrom_21 rfl hl (by decide) rfl (fun ls hl => ?_)
    refine lv_iload_n hx hb dX1_firstFrom_22 rfl (lv_at hl 0 rfl) ?_
    refine q_if_le (tgt := 34) hx hb dX1_firstFrom_23 (by decide) (by omega) (fun c_1 => ?_) (fun c_1 => ?_)
    · skip
      refine q_iconst hx hb dX1_firstFrom_34 ?_
      exact q_iret hx hb hr hlocks (by unfold m_ff; split <;> omega) dX1_firstFrom_35
    · skip
      refine lv_aload_n hx hb dX1_firstFrom_26 rfl (lv_at hl 1 rfl) ?_
      refine q_get (ci := 3) (C := RX1) (T := TX1) (N := 2) hx hb hts hin_X1 hown hK (v := .int (iI (ln))) hPic rfl 0 (by decide) (hts (.fieldLink RX1 9 "AlmanacHouse$Moons" "length" "I") (List.mem_of_getElem? (i := 2) rfl)) (fun _ h9 => h9) rfl dX1_firstFrom_27 ?_
      refine q_iconst hx hb dX1_firstFrom_30 ?_
      refine q_icmp_ge (tgt := 36) hx hb dX1_firstFrom_31 (by decide) (by omega) (by omega) (fun c_2 => ?_) (fun c_2 => ?_)
      · skip
        refine lv_iload_n hx hb dX1_firstFrom_36 rfl (lv_at hl 0 rfl) ?_
        refine lv_aload_n hx hb dX1_firstFrom_37 rfl (lv_at hl 1 rfl) ?_
        refine q_get (ci := 3) (C := RX1) (T := TX1) (N := 2) hx hb hts hin_X1 hown hK (v := .int (iI (ln))) hPic rfl 0 (by decide) (hts (.fieldLink RX1 9 "AlmanacHouse$Moons" "length" "I") (List.mem_of_getElem? (i := 2) rfl)) (fun _ h9 => h9) rfl dX1_firstFrom_38 ?_
        refine q_iadd hx hb dX1_firstFrom_41 ?_
        refine q_iconst hx hb dX1_firstFrom_42 ?_
        refine q_isub hx hb dX1_firstFrom_43 ?_
        refine lv_aload_n hx hb dX1_firstFrom_44 rfl (lv_at hl 1 rfl) ?_
        refine q_get (ci := 3) (C := RX1) (T := TX1) (N := 2) hx hb hts hin_X1 hown hK (v := .int (iI (ln))) hPic rfl 0 (by decide) (hts (.fieldLink RX1 9 "AlmanacHouse$Moons" "length" "I") (List.mem_of_getElem? (i := 2) rfl)) (fun _ h9 => h9) rfl dX1_firstFrom_45 ?_
        refine q_idiv hx hb dX1_firstFrom_48 (by omega) (by omega) ?_
        exact q_iret hx hb hr hlocks (by unfold m_ff; rw [if_neg (by omega), ex, hz]) dX1_firstFrom_49
      · skip
        refine q_iconst hx hb dX1_firstFrom_34 ?_
        exact q_iret hx hb hr hlocks (by unfold m_ff; split <;> omega) dX1_firstFrom_35
  refine q_if_eq (tgt := 19) hx hb dX1_firstFrom_7 (by decide) (by omega) (fun c_3 => ?_) (fun c_3 => ?_)
  · skip
    refine q_iconst hx hb dX1_firstFrom_19 ?_
    exact key_20 _ (by unfold m_hf; split <;> omega) _ (lv_sub hl [0, 1, 2] rfl)
  · skip
    refine lv_aload_n hx hb dX1_firstFrom_10 rfl (lv_at hl 0 rfl) ?_
    refine q_get (ci := 3) (C := RX1) (T := TX1) (N := 2) hx hb hts hin_X1 hown hK (v := .int (iI (ln))) hPic rfl 0 (by decide) (hts (.fieldLink RX1 9 "AlmanacHouse$Moons" "length" "I") (List.mem_of_getElem? (i := 2) rfl)) (fun _ h9 => h9) rfl dX1_firstFrom_11 ?_
    refine q_iconst hx hb dX1_firstFrom_14 ?_
    refine q_idiv hx hb dX1_firstFrom_15 (by omega) (by omega) ?_
    refine lv_goto (tgt := 20) hx hb dX1_firstFrom_16 (by decide) ?_
    exact key_20 _ (by unfold m_hf; split <;> omega) _ (lv_sub hl [0, 1, 2] rfl)
set_option maxHeartbeats 4000000 in
set_option maxRecDepth 100000 in
/-- Moons.nearestTo -/
theorem c_nearestTo (l : Launch) (D : va_G) (tys : List (ClassId × FieldType)) (h : Nat) (ln fi d b : Int) (hL : 20000 ≤ ln ∧ ln ≤ 40000) (hF : 0 ≤ fi ∧ fi ≤ 39999) (hd : 0 ≤ d ∧ d ≤ 99999) (hb01 : b = 0 ∨ b = 1) : MI l yX1_nearestTo wsX1_nearestTo 1 26 D tys (ob D h 3 [.int (iI (ln)), .int (iI (fi))]) [.ref h, .int (iI (d)), .int (iI (b))] (m_nt ln fi b d) := by
  refine MI_of (cc := cX1_nearestTo) (maxL := 6) (ret := (some .int)) (by decide) rfl (Nat.le_of_ble_eq_true rfl) ?_
  intro p e s m args below meth c ls hx hb hr hlocks hml hown hts hPic hK hl
  have hl : lv_has ls 6 [(0, .ref h), (1, .int (iI (d))), (2, .int (iI (b)))] := hl
  refine lv_aload_n hx hb dX1_nearestTo_0 rfl (lv_at hl 0 rfl) ?_
  refine q_sipush hx hb dX1_nearestTo_1 (by decide) ?_
  refine lv_iload_n hx hb dX1_nearestTo_4 rfl (lv_at hl 1 rfl) ?_
  refine q_imul hx hb dX1_nearestTo_5 ?_
  refine lv_iload_n hx hb dX1_nearestTo_6 rfl (lv_at hl 2 rfl) ?_
  refine q_callV (fr := 0) (lo := 0) (nL := 6) (Pic := ob D h 3 [.int (iI (ln)), .int (iI (fi))]) (As := [.int (iI (1000 * d)), .int (iI (b))]) (rest := []) ⟨hx, hb, hml, hown, hts⟩ (c_firstFrom l D tys h (ln) (fi) (1000 * d) (b) hL hF (by omega) (by omega)) (cwV 2 hts gX1_nearestTo_X1_firstFrom rfl rfl rfl (by decide +kernel) ⟨Nat.le_of_ble_eq_true rfl, Nat.le_of_ble_eq_true rfl⟩) (ob_recv hPic hK rfl) hPic hK rfl hl.1 rfl (Nat.le_of_ble_eq_true rfl) dX1_nearestTo_7 (Nat.zero_le _) (Nat.zero_le _) ?_
  have hff7 := m_ff_in (ln := (ln)) (fi := (fi)) (b := (b)) (t := (1000 * d)) hL
  have hfu7 := m_ff_up (ln := (ln)) (fi := (fi)) (b := (b)) (t := (1000 * d)) hL hF (by omega)
  refine q_top (fun k ek => ?_)
  refine lv_istore_n (lv' := [(3, .int (iI (k))), (0, .ref h), (1, .int (iI (d))), (2, .int (iI (b)))]) hx hb dX1_nearestTo_10 rfl hl (by decide) rfl (fun ls hl => ?_)
  refine lv_iload_n hx hb dX1_nearestTo_11 rfl (lv_at hl 0 rfl) ?_
  refine q_if_ne (tgt := 17) hx hb dX1_nearestTo_12 (by decide) (by omega) (fun c_1 => ?_) (fun c_1 => ?_)
  · skip
    refine lv_aload_n hx hb dX1_nearestTo_17 rfl (lv_at hl 1 rfl) ?_
    refine lv_iload_n hx hb dX1_nearestTo_18 rfl (lv_at hl 0 rfl) ?_
    refine lv_iload_n hx hb dX1_nearestTo_19 rfl (lv_at hl 3 rfl) ?_
    refine q_callV (fr := 0) (lo := 0) (nL := 6) (Pic := ob D h 3 [.int (iI (ln)), .int (iI (fi))]) (As := [.int (iI (k)), .int (iI (b))]) (rest := []) ⟨hx, hb, hml, hown, hts⟩ (c_timeOf l D tys h (ln) (fi) (k) (b) hL hF (by omega) (by omega)) (cwV 2 hts gX1_nearestTo_X1_timeOf rfl rfl rfl (by decide +kernel) ⟨Nat.le_of_ble_eq_true rfl, Nat.le_of_ble_eq_true rfl⟩) (ob_recv hPic hK rfl) hPic hK rfl hl.1 rfl (Nat.le_of_ble_eq_true rfl) dX1_nearestTo_20 (Nat.zero_le _) (Nat.zero_le _) ?_
    have htm20 := m_tm_in (ln := (ln)) (fi := (fi)) (b := (b)) (k := (k)) hL hF (by omega)
    refine q_sipush hx hb dX1_nearestTo_23 (by decide) ?_
    refine q_idiv hx hb dX1_nearestTo_26 (by omega) (by omega) ?_
    refine lv_iload_n hx hb dX1_nearestTo_27 rfl (lv_at hl 2 rfl) ?_
    refine q_isub hx hb dX1_nearestTo_28 ?_
    refine q_top (fun ah eah => ?_)
    refine lv_istore (lv' := [(4, .int (iI (ah))), (3, .int (iI (k))), (0, .ref h), (1, .int (iI (d))), (2, .int (iI (b)))]) hx hb dX1_nearestTo_29 hl (by decide) rfl (fun ls hl => ?_)
    refine lv_iload_n hx hb dX1_nearestTo_31 rfl (lv_at hl 3 rfl) ?_
    refine lv_aload_n hx hb dX1_nearestTo_32 rfl (lv_at hl 2 rfl) ?_
    refine lv_iload_n hx hb dX1_nearestTo_33 rfl (lv_at hl 1 rfl) ?_
    refine q_iconst hx hb dX1_nearestTo_34 ?_
    refine q_isub hx hb dX1_nearestTo_35 ?_
    refine lv_iload_n hx hb dX1_nearestTo_36 rfl (lv_at hl 4 rfl) ?_
    refine q_callV (fr := 0) (lo := 0) (nL := 6) (Pic := ob D h 3 [.int (iI (ln)), .int (iI (fi))]) (As := [.int (iI (k - 1)), .int (iI (b))]) (rest := [.int (iI (d))]) ⟨hx, hb, hml, hown, hts⟩ (c_timeOf l D tys h (ln) (fi) (k - 1) (b) hL hF (by omega) (by omega)) (cwV 2 hts gX1_nearestTo_X1_timeOf rfl rfl rfl (by decide +kernel) ⟨Nat.le_of_ble_eq_true rfl, Nat.le_of_ble_eq_true rfl⟩) (ob_recv hPic hK rfl) hPic hK rfl hl.1 rfl (Nat.le_of_ble_eq_true rfl) dX1_nearestTo_37 (Nat.zero_le _) (Nat.zero_le _) ?_
    have htm37 := m_tm_in (ln := (ln)) (fi := (fi)) (b := (b)) (k := (k - 1)) hL hF (by omega)
    refine q_sipush hx hb dX1_nearestTo_40 (by decide) ?_
    refine q_idiv hx hb dX1_nearestTo_43 (by omega) (by omega) ?_
    refine q_isub hx hb dX1_nearestTo_44 ?_
    refine q_top (fun bk ebk => ?_)
    refine lv_istore (lv' := [(5, .int (iI (bk))), (4, .int (iI (ah))), (3, .int (iI (k))), (0, .ref h), (1, .int (iI (d))), (2, .int (iI (b)))]) hx hb dX1_nearestTo_45 hl (by decide) rfl (fun ls hl => ?_)
    refine lv_iload hx hb dX1_nearestTo_47 (lv_at hl 0 rfl) ?_
    refine lv_iload hx hb dX1_nearestTo_49 (lv_at hl 1 rfl) ?_
    refine q_icmp_gt (tgt := 60) hx hb dX1_nearestTo_51 (by decide) (by omega) (by omega) (fun c_2 => ?_) (fun c_2 => ?_)
    · skip
      refine lv_iload_n hx hb dX1_nearestTo_60 rfl (lv_at hl 2 rfl) ?_
      exact q_iret hx hb hr hlocks (by unfold m_nt; rw [if_neg (by omega), ← ek]; split <;> omega) dX1_nearestTo_61
    · skip
      refine lv_iload_n hx hb dX1_nearestTo_54 rfl (lv_at hl 2 rfl) ?_
      refine q_iconst hx hb dX1_nearestTo_55 ?_
      refine q_isub hx hb dX1_nearestTo_56 ?_
      refine lv_goto (tgt := 61) hx hb dX1_nearestTo_57 (by decide) ?_
      exact q_iret hx hb hr hlocks (by unfold m_nt; rw [if_neg (by omega), ← ek]; split <;> omega) dX1_nearestTo_61
  · skip
    refine q_iconst hx hb dX1_nearestTo_15 ?_
    exact q_iret hx hb hr hlocks (by unfold m_nt; rw [if_pos (by omega)]) dX1_nearestTo_16
set_option maxHeartbeats 4000000 in
set_option maxRecDepth 100000 in
/-- Nodes.isNear -/
theorem c_isNear (l : Launch) (D : va_G) (tys : List (ClassId × FieldType)) (h : Nat) (pe nd t r : Int) (hP : 100000 ≤ pe ∧ pe ≤ 300000) (hN : 0 ≤ nd ∧ nd ≤ 299999) (ht : 0 ≤ t ∧ t ≤ 800000000) (hr0 : 0 ≤ r ∧ r ≤ 15000) : MI l yX2_isNear wsX2_isNear 0 0 D tys (ob D h 4 [.int (iI (pe)), .int (iI (nd))]) [.ref h, .int (iI (t)), .int (iI (r))] (m_en pe nd t r) := by
  refine MI_of (cc := cX2_isNear) (maxL := 4) (ret := (some .boolean)) (by decide) rfl (Nat.le_of_ble_eq_true rfl) ?_
  intro p e s m args below meth c ls hx hb hr hlocks hml hown hts hPic hK hl
  have hl : lv_has ls 4 [(0, .ref h), (1, .int (iI (t))), (2, .int (iI (r)))] := hl
  have hin_X2 : ∀ w ∈ u_ws RX2 TX2 2, w ∈ wsX2_isNear := (fun w h => List.mem_cons_of_mem _ (List.mem_append_right _ h))
  have hr1 := Int.emod_nonneg (t - nd) (show pe ≠ 0 by omega)
  have hr2 := Int.emod_lt_of_pos (t - nd) (show 0 < pe by omega)
  refine lv_iload_n hx hb dX2_isNear_0 rfl (lv_at hl 1 rfl) ?_
  refine lv_aload_n hx hb dX2_isNear_1 rfl (lv_at hl 0 rfl) ?_
  refine q_get (ci := 4) (C := RX2) (T := TX2) (N := 2) hx hb hts hin_X2 hown hK (v := .int (iI (nd))) hPic rfl 1 (by decide) (hts (.fieldLink RX2 14 "AlmanacHouse$Nodes" "node" "I") (List.mem_of_getElem? (i := 1) rfl)) (fun _ h9 => h9) rfl dX2_isNear_2 ?_
  refine q_icmp_le (tgt := 16) hx hb dX2_isNear_5 (by decide) (by omega) (by omega) (fun c_1 => ?_) (fun c_1 => ?_)
  · skip
    refine lv_aload_n hx hb dX2_isNear_16 rfl (lv_at hl 0 rfl) ?_
    refine q_get (ci := 4) (C := RX2) (T := TX2) (N := 2) hx hb hts hin_X2 hown hK (v := .int (iI (nd))) hPic rfl 1 (by decide) (hts (.fieldLink RX2 14 "AlmanacHouse$Nodes" "node" "I") (List.mem_of_getElem? (i := 1) rfl)) (fun _ h9 => h9) rfl dX2_isNear_17 ?_
    refine lv_iload_n hx hb dX2_isNear_20 rfl (lv_at hl 1 rfl) ?_
    refine q_isub hx hb dX2_isNear_21 ?_
    refine lv_iload_n hx hb dX2_isNear_22 rfl (lv_at hl 2 rfl) ?_
    refine q_icmp_gt (tgt := 30) hx hb dX2_isNear_23 (by decide) (by omega) (by omega) (fun c_2 => ?_) (fun c_2 => ?_)
    · skip
      refine q_iconst hx hb dX2_isNear_30 ?_
      exact q_zret hx hb hr hlocks (by omega) (by unfold m_en; rw [if_pos (show t ≤ nd by omega)]; split <;> omega) dX2_isNear_31
    · skip
      refine q_iconst hx hb dX2_isNear_26 ?_
      refine lv_goto (tgt := 31) hx hb dX2_isNear_27 (by decide) ?_
      exact q_zret hx hb hr hlocks (by omega) (by unfold m_en; rw [if_pos (show t ≤ nd by omega)]; split <;> omega) dX2_isNear_31
  · skip
    refine lv_aload_n hx hb dX2_isNear_8 rfl (lv_at hl 0 rfl) ?_
    refine q_get (ci := 4) (C := RX2) (T := TX2) (N := 2) hx hb hts hin_X2 hown hK (v := .int (iI (pe))) hPic rfl 0 (by decide) (hts (.fieldLink RX2 8 "AlmanacHouse$Nodes" "period" "I") (List.mem_of_getElem? (i := 2) rfl)) (fun _ h9 => h9) rfl dX2_isNear_9 ?_
    refine q_iconst hx hb dX2_isNear_12 ?_
    refine q_icmp_ge (tgt := 32) hx hb dX2_isNear_13 (by decide) (by omega) (by omega) (fun c_3 => ?_) (fun c_3 => ?_)
    · skip
      refine lv_iload_n hx hb dX2_isNear_32 rfl (lv_at hl 1 rfl) ?_
      refine lv_aload_n hx hb dX2_isNear_33 rfl (lv_at hl 0 rfl) ?_
      refine q_get (ci := 4) (C := RX2) (T := TX2) (N := 2) hx hb hts hin_X2 hown hK (v := .int (iI (nd))) hPic rfl 1 (by decide) (hts (.fieldLink RX2 14 "AlmanacHouse$Nodes" "node" "I") (List.mem_of_getElem? (i := 1) rfl)) (fun _ h9 => h9) rfl dX2_isNear_34 ?_
      refine q_isub hx hb dX2_isNear_37 ?_
      refine lv_aload_n hx hb dX2_isNear_38 rfl (lv_at hl 0 rfl) ?_
      refine q_get (ci := 4) (C := RX2) (T := TX2) (N := 2) hx hb hts hin_X2 hown hK (v := .int (iI (pe))) hPic rfl 0 (by decide) (hts (.fieldLink RX2 8 "AlmanacHouse$Nodes" "period" "I") (List.mem_of_getElem? (i := 2) rfl)) (fun _ h9 => h9) rfl dX2_isNear_39 ?_
      refine q_irem hx hb dX2_isNear_42 (by omega) (by omega) ?_
      refine q_top (fun x ex => ?_)
      refine lv_istore_n (lv' := [(3, .int (iI (x))), (0, .ref h), (1, .int (iI (t))), (2, .int (iI (r)))]) hx hb dX2_isNear_43 rfl hl (by decide) rfl (fun ls hl => ?_)
      refine lv_iload_n hx hb dX2_isNear_44 rfl (lv_at hl 0 rfl) ?_
      refine lv_iload_n hx hb dX2_isNear_45 rfl (lv_at hl 3 rfl) ?_
      refine q_icmp_le (tgt := 59) hx hb dX2_isNear_46 (by decide) (by omega) (by omega) (fun c_4 => ?_) (fun c_4 => ?_)
      · skip
        refine q_iconst hx hb dX2_isNear_59 ?_
        refine lv_goto (tgt := 64) hx hb dX2_isNear_60 (by decide) ?_
        exact q_zret hx hb hr hlocks (by omega) (by unfold m_en; rw [if_neg (show ¬ t ≤ nd by omega)]; split <;> omega) dX2_isNear_64
      · skip
        refine lv_aload_n hx hb dX2_isNear_49 rfl (lv_at hl 1 rfl) ?_
        refine q_get (ci := 4) (C := RX2) (T := TX2) (N := 2) hx hb hts hin_X2 hown hK (v := .int (iI (pe))) hPic rfl 0 (by decide) (hts (.fieldLink RX2 8 "AlmanacHouse$Nodes" "period" "I") (List.mem_of_getElem? (i := 2) rfl)) (fun _ h9 => h9) rfl dX2_isNear_50 ?_
        refine lv_iload_n hx hb dX2_isNear_53 rfl (lv_at hl 0 rfl) ?_
        refine q_isub hx hb dX2_isNear_54 ?_
        refine lv_iload_n hx hb dX2_isNear_55 rfl (lv_at hl 3 rfl) ?_
        refine q_icmp_gt (tgt := 63) hx hb dX2_isNear_56 (by decide) (by omega) (by omega) (fun c_5 => ?_) (fun c_5 => ?_)
        · skip
          refine q_iconst hx hb dX2_isNear_63 ?_
          exact q_zret hx hb hr hlocks (by omega) (by unfold m_en; rw [if_neg (show ¬ t ≤ nd by omega)]; split <;> omega) dX2_isNear_64
        · skip
          refine q_iconst hx hb dX2_isNear_59 ?_
          refine lv_goto (tgt := 64) hx hb dX2_isNear_60 (by decide) ?_
          exact q_zret hx hb hr hlocks (by omega) (by unfold m_en; rw [if_neg (show ¬ t ≤ nd by omega)]; split <;> omega) dX2_isNear_64
    · skip
      refine lv_aload_n hx hb dX2_isNear_16 rfl (lv_at hl 0 rfl) ?_
      refine q_get (ci := 4) (C := RX2) (T := TX2) (N := 2) hx hb hts hin_X2 hown hK (v := .int (iI (nd))) hPic rfl 1 (by decide) (hts (.fieldLink RX2 14 "AlmanacHouse$Nodes" "node" "I") (List.mem_of_getElem? (i := 1) rfl)) (fun _ h9 => h9) rfl dX2_isNear_17 ?_
      refine lv_iload_n hx hb dX2_isNear_20 rfl (lv_at hl 1 rfl) ?_
      refine q_isub hx hb dX2_isNear_21 ?_
      refine lv_iload_n hx hb dX2_isNear_22 rfl (lv_at hl 2 rfl) ?_
      refine q_icmp_gt (tgt := 30) hx hb dX2_isNear_23 (by decide) (by omega) (by omega) (fun c_6 => ?_) (fun c_6 => ?_)
      · skip
        refine q_iconst hx hb dX2_isNear_30 ?_
        exact q_zret hx hb hr hlocks (by omega) (by unfold m_en; rw [if_pos (show t ≤ nd by omega)]; split <;> omega) dX2_isNear_31
      · skip
        refine q_iconst hx hb dX2_isNear_26 ?_
        refine lv_goto (tgt := 31) hx hb dX2_isNear_27 (by decide) ?_
        exact q_zret hx hb hr hlocks (by omega) (by unfold m_en; rw [if_pos (show t ≤ nd by omega)]; split <;> omega) dX2_isNear_31
