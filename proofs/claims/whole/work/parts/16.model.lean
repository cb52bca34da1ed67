/-! ===== AlmanacHouseModel: the methods that change nothing ===== -/
set_option maxHeartbeats 4000000 in
set_option maxRecDepth 100000 in
/-- isIn -/
theorem c_isIn (l : Launch) (D : va_G) (tys : List (ClassId × FieldType)) (v lo hi : Int) (hv : -2147483648 ≤ v ∧ v < 2147483648) (hlo : -2147483648 ≤ lo ∧ lo < 2147483648) (hhi : -2147483648 ≤ hi ∧ hi < 2147483648) : MI l yX6_isIn wsX6_isIn 0 0 D tys (fun _ => True) [.int (iI (v)), .int (iI (lo)), .int (iI (hi))] (if lo ≤ v ∧ v ≤ hi then 1 else 0) := by
  refine MI_of (cc := cX6_isIn) (maxL := 3) (ret := (some .boolean)) (by decide) rfl (Nat.le_of_ble_eq_true rfl) ?_
  intro p e s m args below meth c ls hx hb hr hlocks hml hown hts hPic hK hl
  have hl : lv_has ls 3 [(0, .int (iI (v))), (1, .int (iI (lo))), (2, .int (iI (hi)))] := hl
  refine lv_iload_n hx hb dX6_isIn_0 rfl (lv_at hl 0 rfl) ?_
  refine lv_iload_n hx hb dX6_isIn_1 rfl (lv_at hl 1 rfl) ?_
  refine q_icmp_lt (tgt := 14) hx hb dX6_isIn_2 (by decide) (by omega) (by omega) (fun c_1 => ?_) (fun c_1 => ?_)
  · skip
    refine q_iconst hx hb dX6_isIn_14 ?_
    exact q_zret hx hb hr hlocks (by omega) (by split <;> omega) dX6_isIn_15
  · skip
    refine lv_iload_n hx hb dX6_isIn_5 rfl (lv_at hl 0 rfl) ?_
    refine lv_iload_n hx hb dX6_isIn_6 rfl (lv_at hl 2 rfl) ?_
    refine q_icmp_gt (tgt := 14) hx hb dX6_isIn_7 (by decide) (by omega) (by omega) (fun c_2 => ?_) (fun c_2 => ?_)
    · skip
      refine q_iconst hx hb dX6_isIn_14 ?_
      exact q_zret hx hb hr hlocks (by omega) (by split <;> omega) dX6_isIn_15
    · skip
      refine q_iconst hx hb dX6_isIn_10 ?_
      refine lv_goto (tgt := 15) hx hb dX6_isIn_11 (by decide) ?_
      exact q_zret hx hb hr hlocks (by omega) (by split <;> omega) dX6_isIn_15
set_option maxHeartbeats 4000000 in
set_option maxRecDepth 100000 in
/-- isYear -/
theorem c_isYearM (l : Launch) (D : va_G) (tys : List (ClassId × FieldType)) (y : Int) (hy : -2147483648 ≤ y ∧ y < 2147483648) : MI l yX6_isYear wsX6_isYear 1 22 D tys (fun _ => True) [.int (iI (y))] (if 0 ≤ y ∧ y < 1000 then 1 else 0) := by
  refine MI_of (cc := cX6_isYear) (maxL := 1) (ret := (some .boolean)) (by decide) rfl (Nat.le_of_ble_eq_true rfl) ?_
  intro p e s m args below meth c ls hx hb hr hlocks hml hown hts hPic hK hl
  have hl : lv_has ls 1 [(0, .int (iI (y)))] := hl
  refine lv_iload_n hx hb dX6_isYear_0 rfl (lv_at hl 0 rfl) ?_
  refine q_iconst hx hb dX6_isYear_1 ?_
  refine q_sipush hx hb dX6_isYear_2 (by decide) ?_
  refine q_callS (fr := 0) (lo := 0) (nL := 1) (Pic := fun _ => True) (As := [.int (iI (y)), .int (iI (0)), .int (iI (999))]) (rest := []) ⟨hx, hb, hml, hown, hts⟩ (c_isIn l D tys (y) (0) (999) (by omega) (by omega) (by omega)) (va_cwS 3 hts gX6_isYear_X6_isIn rfl rfl rfl (by decide +kernel) ⟨Nat.le_of_ble_eq_true rfl, Nat.le_of_ble_eq_true rfl⟩) trivial hK rfl hl.1 rfl (Nat.le_of_ble_eq_true rfl) dX6_isYear_5 (Nat.zero_le _) (Nat.zero_le _) ?_
  exact q_zret hx hb hr hlocks (by split <;> omega) (by (repeat' split) <;> omega) dX6_isYear_8
set_option maxHeartbeats 4000000 in
set_option maxRecDepth 100000 in
theorem c_thrown (l : Launch) (D : va_G) (cI cO cL : ClassId) (a ta pa : Nat) (th : Int) (σ T P : Nat → Int) (hW : WF σ T) (hS : WS σ P) : MI l yX6_thrown wsX6_thrown 0 0 D (ty3 cI cO cL) (PicM D cI a ta pa th σ T P) [.ref a] (th) := by
  refine MI_of (cc := cX6_thrown) (maxL := 1) (ret := (some .int)) (by decide) rfl (Nat.le_of_ble_eq_true rfl) ?_
  intro p e s m args below meth c ls hx hb hr hlocks hml hown hts hPic hK hl
  have hl : lv_has ls 1 [(0, .ref a)] := hl
  have hin_X6 : ∀ w ∈ u_ws RX6 TX6 13, w ∈ wsX6_thrown := (fun w h => List.mem_cons_of_mem _ (List.mem_append_right _ h))
  obtain ⟨w0, w1, w2, w3, w4, w5, w6, w7, w8⟩ := id hW
  refine lv_aload_n hx hb dX6_thrown_0 rfl (lv_at hl 0 rfl) ?_
  refine q_get (ci := 8) (C := RX6) (T := TX6) (N := 13) hx hb hts hin_X6 hown hK (v := .int (iI (th))) hPic.ob rfl 0 (by decide) (hts (.fieldLink RX6 30 "AlmanacHouseModel" "thrown" "I") (List.mem_of_getElem? (i := 1) rfl)) (fun _ h9 => h9) rfl dX6_thrown_1 ?_
  exact q_iret hx hb hr hlocks (rfl) dX6_thrown_4
set_option maxHeartbeats 4000000 in
set_option maxRecDepth 100000 in
theorem c_isLeap (l : Launch) (D : va_G) (cI cO cL : ClassId) (a ta pa : Nat) (th : Int) (σ T P : Nat → Int) (hW : WF σ T) (hS : WS σ P) (y : Int) (hy : 0 ≤ y ∧ y ≤ 1000) : MI l yX6_isLeap wsX6_isLeap 0 0 D (ty3 cI cO cL) (PicM D cI a ta pa th σ T P) [.ref a, .int (iI (y))] (m_leap (σ 0) (σ 1) y) := by
  refine MI_of (cc := cX6_isLeap) (maxL := 2) (ret := (some .boolean)) (by decide) rfl (Nat.le_of_ble_eq_true rfl) ?_
  intro p e s m args below meth c ls hx hb hr hlocks hml hown hts hPic hK hl
  have hl : lv_has ls 2 [(0, .ref a), (1, .int (iI (y)))] := hl
  have hin_X6 : ∀ w ∈ u_ws RX6 TX6 13, w ∈ wsX6_isLeap := (fun w h => List.mem_cons_of_mem _ (List.mem_append_right _ h))
  obtain ⟨w0, w1, w2, w3, w4, w5, w6, w7, w8⟩ := id hW
  have hm := m_mulq w0 w1 (y := y) (by omega)
  have hr1 := Int.emod_nonneg (y * σ 1) (show σ 0 ≠ 0 by omega)
  have hr2 := Int.emod_lt_of_pos (y * σ 1) (show 0 < σ 0 by omega)
  refine lv_iload_n hx hb dX6_isLeap_0 rfl (lv_at hl 1 rfl) ?_
  refine lv_aload_n hx hb dX6_isLeap_1 rfl (lv_at hl 0 rfl) ?_
  refine q_get (ci := 8) (C := RX6) (T := TX6) (N := 13) hx hb hts hin_X6 hown hK (v := .int (iI (σ 1))) hPic.ob rfl 2 (by decide) (hts (.fieldLink RX6 13 "AlmanacHouseModel" "leaps" "I") (List.mem_of_getElem? (i := 1) rfl)) (fun _ h9 => h9) rfl dX6_isLeap_2 ?_
  refine q_imul hx hb dX6_isLeap_5 ?_
  refine lv_aload_n hx hb dX6_isLeap_6 rfl (lv_at hl 0 rfl) ?_
  refine q_get (ci := 8) (C := RX6) (T := TX6) (N := 13) hx hb hts hin_X6 hown hK (v := .int (iI (σ 0))) hPic.ob rfl 1 (by decide) (hts (.fieldLink RX6 7 "AlmanacHouseModel" "cycle" "I") (List.mem_of_getElem? (i := 2) rfl)) (fun _ h9 => h9) rfl dX6_isLeap_7 ?_
  refine q_irem hx hb dX6_isLeap_10 (by omega) (by omega) ?_
  refine lv_aload_n hx hb dX6_isLeap_11 rfl (lv_at hl 0 rfl) ?_
  refine q_get (ci := 8) (C := RX6) (T := TX6) (N := 13) hx hb hts hin_X6 hown hK (v := .int (iI (σ 1))) hPic.ob rfl 2 (by decide) (hts (.fieldLink RX6 13 "AlmanacHouseModel" "leaps" "I") (List.mem_of_getElem? (i := 1) rfl)) (fun _ h9 => h9) rfl dX6_isLeap_12 ?_
  refine q_icmp_ge (tgt := 22) hx hb dX6_isLeap_15 (by decide) (by omega) (by omega) (fun c_1 => ?_) (fun c_1 => ?_)
  · skip
    refine q_iconst hx hb dX6_isLeap_22 ?_
    exact q_zret hx hb hr hlocks (by omega) (by unfold m_leap; split <;> omega) dX6_isLeap_23
  · skip
    refine q_iconst hx hb dX6_isLeap_18 ?_
    refine lv_goto (tgt := 23) hx hb dX6_isLeap_19 (by decide) ?_
    exact q_zret hx hb hr hlocks (by omega) (by unfold m_leap; split <;> omega) dX6_isLeap_23
set_option maxHeartbeats 4000000 in
set_option maxRecDepth 100000 in
theorem c_begins (l : Launch) (D : va_G) (cI cO cL : ClassId) (a ta pa : Nat) (th : Int) (σ T P : Nat → Int) (hW : WF σ T) (hS : WS σ P) (y : Int) (hy : 0 ≤ y ∧ y ≤ 1000) : MI l yX6_begins wsX6_begins 1 21 D (ty3 cI cO cL) (PicM D cI a ta pa th σ T P) [.ref a, .int (iI (y))] (m_fd (σ 0) (σ 1) y) := by
  refine MI_of (cc := cX6_begins) (maxL := 4) (ret := (some .int)) (by decide) rfl (Nat.le_of_ble_eq_true rfl) ?_
  intro p e s m args below meth c ls hx hb hr hlocks hml hown hts hPic hK hl
  have hl : lv_has ls 4 [(0, .ref a), (1, .int (iI (y)))] := hl
  obtain ⟨w0, w1, w2, w3, w4, w5, w6, w7, w8⟩ := id hW
  refine q_sipush hx hb dX6_begins_0 (by decide) ?_
  refine lv_iload_n hx hb dX6_begins_3 rfl (lv_at hl 1 rfl) ?_
  refine q_imul hx hb dX6_begins_4 ?_
  refine lv_istore_n (lv' := [(2, .int (iI (365 * y))), (0, .ref a), (1, .int (iI (y)))]) hx hb dX6_begins_5 rfl hl (by decide) rfl (fun ls hl => ?_)
  refine q_iconst hx hb dX6_begins_6 ?_
  refine lv_istore_n (lv' := [(3, .int (iI (0))), (2, .int (iI (365 * y))), (0, .ref a), (1, .int (iI (y)))]) hx hb dX6_begins_7 rfl hl (by decide) rfl (fun ls hl => ?_)
  have key_8 : ∀ (fu : Nat) (k : Int) (su : Int), 0 ≤ k ∧ k ≤ y → su = 365 * y - 365 * k + m_fd (σ 0) (σ 1) k → (((y - k).toNat : Int)) < (fu : Int) → ∀ ls : Array Slot, lv_has ls 4 [(0, .ref a), (1, .int (iI (y))), (2, .int (iI (su))), (3, .int (iI (k)))] → W p l e { frames := 1, cells := 0, slots := 0, locals := 21 } s m args below meth c s.heap [] 0 0 (MQ below (vp_Si (fun r => r = iI (m_fd (σ 0) (σ 1) y))) args s 0 0 (fun _ => False)) (F0 m 8 ls []) := by
    intro fu
    induction fu with
    | zero => intro k su hk hsu hm_8 ls hl; exact absurd hm_8 (by omega)
    | succ fu ih_8 =>
      intro k su hk hsu hm_8 ls hl
      refine lv_iload_n hx hb dX6_begins_8 rfl (lv_at hl 3 rfl) ?_
      refine lv_iload_n hx hb dX6_begins_9 rfl (lv_at hl 1 rfl) ?_
      refine q_icmp_ge (tgt := 35) hx hb dX6_begins_10 (by decide) (by omega) (by omega) (fun c_1 => ?_) (fun c_1 => ?_)
      · skip
        refine lv_iload_n hx hb dX6_begins_35 rfl (lv_at hl 2 rfl) ?_
        exact q_iret hx hb hr hlocks (by rw [hsu, show k = y by omega]; omega) dX6_begins_36
      · skip
        refine lv_iload_n hx hb dX6_begins_13 rfl (lv_at hl 2 rfl) ?_
        refine lv_aload_n hx hb dX6_begins_14 rfl (lv_at hl 0 rfl) ?_
        refine lv_iload_n hx hb dX6_begins_15 rfl (lv_at hl 3 rfl) ?_
        refine q_callV (fr := 0) (lo := 0) (nL := 4) (Pic := PicM D cI a ta pa th σ T P) (As := [.int (iI (k))]) (rest := [.int (iI (su))]) ⟨hx, hb, hml, hown, hts⟩ (c_isLeap l D cI cO cL a ta pa th σ T P hW hS (k) (by omega)) (cwV 1 hts gX6_begins_X6_isLeap rfl rfl rfl (by decide +kernel) ⟨Nat.le_of_ble_eq_true rfl, Nat.le_of_ble_eq_true rfl⟩) (ob_recv hPic.ob hK rfl) hPic hK rfl hl.1 rfl (Nat.le_of_ble_eq_true rfl) dX6_begins_16 (Nat.zero_le _) (Nat.zero_le _) ?_
        have hlp16 := m_leap_01 (σ 0) (σ 1) (k)
        refine q_if_eq (tgt := 26) hx hb dX6_begins_19 (by decide) (by omega) (fun c_2 => ?_) (fun c_2 => ?_)
        · skip
          refine q_iconst hx hb dX6_begins_26 ?_
          refine q_iadd hx hb dX6_begins_27 ?_
          refine q_top (fun su2 esu2 => ?_)
          refine lv_istore_n (lv' := [(2, .int (iI (su2))), (0, .ref a), (1, .int (iI (y))), (3, .int (iI (k)))]) hx hb dX6_begins_28 rfl hl (by decide) rfl (fun ls hl => ?_)
          refine q_iinc (k := 3) (lv' := [(3, .int (iI (k + 1))), (2, .int (iI (su2))), (0, .ref a), (1, .int (iI (y)))]) hx hb dX6_begins_29 hl rfl (by decide) rfl (fun ls hl => ?_)
          refine lv_goto (tgt := 8) hx hb dX6_begins_32 (by decide) ?_
          have hst := m_fd_succ (cy := σ 0) (lq := σ 1) (y := k) w0.1 w1 hk.1
          exact ih_8 _ _ (by omega) (by rw [hst]; omega) (by omega) _ (lv_sub hl [2, 3, 1, 0] rfl)
        · skip
          refine q_iconst hx hb dX6_begins_22 ?_
          refine lv_goto (tgt := 27) hx hb dX6_begins_23 (by decide) ?_
          refine q_iadd hx hb dX6_begins_27 ?_
          refine q_top (fun su2 esu2 => ?_)
          refine lv_istore_n (lv' := [(2, .int (iI (su2))), (0, .ref a), (1, .int (iI (y))), (3, .int (iI (k)))]) hx hb dX6_begins_28 rfl hl (by decide) rfl (fun ls hl => ?_)
          refine q_iinc (k := 3) (lv' := [(3, .int (iI (k + 1))), (2, .int (iI (su2))), (0, .ref a), (1, .int (iI (y)))]) hx hb dX6_begins_29 hl rfl (by decide) rfl (fun ls hl => ?_)
          refine lv_goto (tgt := 8) hx hb dX6_begins_32 (by decide) ?_
          have hst := m_fd_succ (cy := σ 0) (lq := σ 1) (y := k) w0.1 w1 hk.1
          exact ih_8 _ _ (by omega) (by rw [hst]; omega) (by omega) _ (lv_sub hl [2, 3, 1, 0] rfl)
  exact key_8 (y.toNat + 1) _ _ (by omega) (by rw [m_fd_0]; omega) (by omega) _ (lv_sub hl [2, 3, 1, 0] rfl)
set_option maxHeartbeats 4000000 in
set_option maxRecDepth 100000 in
theorem c_monthDays (l : Launch) (D : va_G) (cI cO cL : ClassId) (a ta pa : Nat) (th : Int) (σ T P : Nat → Int) (hW : WF σ T) (hS : WS σ P) (y mo : Int) (hy : 0 ≤ y ∧ y ≤ 1000) (hmo : 0 ≤ mo ∧ mo ≤ 11) : MI l yX6_monthDays wsX6_monthDays 1 21 D (ty3 cI cO cL) (PicM D cI a ta pa th σ T P) [.ref a, .int (iI (y)), .int (iI (mo))] (m_md (σ 0) (σ 1) y mo) := by
  refine MI_of (cc := cX6_monthDays) (maxL := 3) (ret := (some .int)) (by decide) rfl (Nat.le_of_ble_eq_true rfl) ?_
  intro p e s m args below meth c ls hx hb hr hlocks hml hown hts hPic hK hl
  have hl : lv_has ls 3 [(0, .ref a), (1, .int (iI (y))), (2, .int (iI (mo)))] := hl
  obtain ⟨w0, w1, w2, w3, w4, w5, w6, w7, w8⟩ := id hW
  refine lv_iload_n hx hb dX6_monthDays_0 rfl (lv_at hl 2 rfl) ?_
  refine q_iconst hx hb dX6_monthDays_1 ?_
  refine q_irem hx hb dX6_monthDays_2 (by omega) (by omega) ?_
  refine q_if_eq (tgt := 20) hx hb dX6_monthDays_3 (by decide) (by omega) (fun c_1 => ?_) (fun c_1 => ?_)
  · skip
    refine q_bipush hx hb dX6_monthDays_20 (by decide) ?_
    refine lv_goto (tgt := 27) hx hb dX6_monthDays_22 (by decide) ?_
    exact q_iret hx hb hr hlocks (by unfold m_md; split <;> omega) dX6_monthDays_27
  · skip
    refine lv_iload_n hx hb dX6_monthDays_6 rfl (lv_at hl 2 rfl) ?_
    refine q_bipush hx hb dX6_monthDays_7 (by decide) ?_
    refine q_icmp_ne (tgt := 25) hx hb dX6_monthDays_9 (by decide) (by omega) (by omega) (fun c_2 => ?_) (fun c_2 => ?_)
    · skip
      refine q_bipush hx hb dX6_monthDays_25 (by decide) ?_
      exact q_iret hx hb hr hlocks (by unfold m_md; split <;> omega) dX6_monthDays_27
    · skip
      refine lv_aload_n hx hb dX6_monthDays_12 rfl (lv_at hl 0 rfl) ?_
      refine lv_iload_n hx hb dX6_monthDays_13 rfl (lv_at hl 1 rfl) ?_
      refine q_callV (fr := 0) (lo := 0) (nL := 3) (Pic := PicM D cI a ta pa th σ T P) (As := [.int (iI (y))]) (rest := []) ⟨hx, hb, hml, hown, hts⟩ (c_isLeap l D cI cO cL a ta pa th σ T P hW hS (y) (by omega)) (cwV 1 hts gX6_monthDays_X6_isLeap rfl rfl rfl (by decide +kernel) ⟨Nat.le_of_ble_eq_true rfl, Nat.le_of_ble_eq_true rfl⟩) (ob_recv hPic.ob hK rfl) hPic hK rfl hl.1 rfl (Nat.le_of_ble_eq_true rfl) dX6_monthDays_14 (Nat.zero_le _) (Nat.zero_le _) ?_
      have hlp14 := m_leap_01 (σ 0) (σ 1) (y)
      refine q_if_ne (tgt := 25) hx hb dX6_monthDays_17 (by decide) (by omega) (fun c_3 => ?_) (fun c_3 => ?_)
      · skip
        refine q_bipush hx hb dX6_monthDays_25 (by decide) ?_
        exact q_iret hx hb hr hlocks (by unfold m_md; split <;> omega) dX6_monthDays_27
      · skip
        refine q_bipush hx hb dX6_monthDays_20 (by decide) ?_
        refine lv_goto (tgt := 27) hx hb dX6_monthDays_22 (by decide) ?_
        exact q_iret hx hb hr hlocks (by unfold m_md; split <;> omega) dX6_monthDays_27
set_option maxHeartbeats 4000000 in
set_option maxRecDepth 100000 in
theorem c_dayOf (l : Launch) (D : va_G) (cI cO cL : ClassId) (a ta pa : Nat) (th : Int) (σ T P : Nat → Int) (hW : WF σ T) (hS : WS σ P) (y mo da : Int) (hy : 0 ≤ y ∧ y ≤ 999) (hmo : 0 ≤ mo ∧ mo ≤ 11) (hda : 0 ≤ da ∧ da ≤ 40) : MI l yX6_dayOf wsX6_dayOf 2 44 D (ty3 cI cO cL) (PicM D cI a ta pa th σ T P) [.ref a, .int (iI (y)), .int (iI (mo)), .int (iI (da))] (m_d0 (σ 0) (σ 1) mo da y) := by
  refine MI_of (cc := cX6_dayOf) (maxL := 6) (ret := (some .int)) (by decide) rfl (Nat.le_of_ble_eq_true rfl) ?_
  intro p e s m args below meth c ls hx hb hr hlocks hml hown hts hPic hK hl
  have hl : lv_has ls 6 [(0, .ref a), (1, .int (iI (y))), (2, .int (iI (mo))), (3, .int (iI (da)))] := hl
  obtain ⟨w0, w1, w2, w3, w4, w5, w6, w7, w8⟩ := id hW
  refine lv_aload_n hx hb dX6_dayOf_0 rfl (lv_at hl 0 rfl) ?_
  refine lv_iload_n hx hb dX6_dayOf_1 rfl (lv_at hl 1 rfl) ?_
  refine q_callV (fr := 1) (lo := 21) (nL := 6) (Pic := PicM D cI a ta pa th σ T P) (As := [.int (iI (y))]) (rest := []) ⟨hx, hb, hml, hown, hts⟩ (c_begins l D cI cO cL a ta pa th σ T P hW hS (y) (by omega)) (cwV 1 hts gX6_dayOf_X6_begins rfl rfl rfl (by decide +kernel) ⟨Nat.le_of_ble_eq_true rfl, Nat.le_of_ble_eq_true rfl⟩) (ob_recv hPic.ob hK rfl) hPic hK rfl hl.1 rfl (Nat.le_of_ble_eq_true rfl) dX6_dayOf_2 (Nat.zero_le _) (Nat.zero_le _) ?_
  have hfd2 := m_fd_le (cy := σ 0) (lq := σ 1) (y := (y)) w0.1 w1 (by omega)
  refine lv_iload_n hx hb dX6_dayOf_5 rfl (lv_at hl 3 rfl) ?_
  refine q_iadd hx hb dX6_dayOf_6 ?_
  refine q_top (fun v_1 ev_1 => ?_)
  refine lv_istore (lv' := [(4, .int (iI (v_1))), (0, .ref a), (1, .int (iI (y))), (2, .int (iI (mo))), (3, .int (iI (da)))]) hx hb dX6_dayOf_7 hl (by decide) rfl (fun ls hl => ?_)
  refine q_iconst hx hb dX6_dayOf_9 ?_
  refine lv_istore (lv' := [(5, .int (iI (0))), (4, .int (iI (v_1))), (0, .ref a), (1, .int (iI (y))), (2, .int (iI (mo))), (3, .int (iI (da)))]) hx hb dX6_dayOf_10 hl (by decide) rfl (fun ls hl => ?_)
  have key_12 : ∀ (fu : Nat) (k : Int) (su : Int), 0 ≤ k ∧ k ≤ mo → su = m_fd (σ 0) (σ 1) y + da + (30 * k + k / 2) → (((mo - k).toNat : Int)) < (fu : Int) → ∀ ls : Array Slot, lv_has ls 6 [(0, .ref a), (1, .int (iI (y))), (2, .int (iI (mo))), (3, .int (iI (da))), (4, .int (iI (su))), (5, .int (iI (k)))] → W p l e { frames := 2, cells := 0, slots := 0, locals := 44 } s m args below meth c s.heap [] 0 0 (MQ below (vp_Si (fun r => r = iI (m_d0 (σ 0) (σ 1) mo da y))) args s 0 0 (fun _ => False)) (F0 m 12 ls []) := by
    intro fu
    induction fu with
    | zero => intro k su hk hsu hm_12 ls hl; exact absurd hm_12 (by omega)
    | succ fu ih_12 =>
      intro k su hk hsu hm_12 ls hl
      refine lv_iload hx hb dX6_dayOf_12 (lv_at hl 5 rfl) ?_
      refine lv_iload_n hx hb dX6_dayOf_14 rfl (lv_at hl 2 rfl) ?_
      refine q_icmp_ge (tgt := 36) hx hb dX6_dayOf_15 (by decide) (by omega) (by omega) (fun c_2 => ?_) (fun c_2 => ?_)
      · skip
        refine lv_iload hx hb dX6_dayOf_36 (lv_at hl 4 rfl) ?_
        exact q_iret hx hb hr hlocks (by unfold m_d0; rw [hsu, show k = mo by omega]; omega) dX6_dayOf_38
      · skip
        refine lv_iload hx hb dX6_dayOf_18 (lv_at hl 4 rfl) ?_
        refine lv_aload_n hx hb dX6_dayOf_20 rfl (lv_at hl 0 rfl) ?_
        refine lv_iload_n hx hb dX6_dayOf_21 rfl (lv_at hl 1 rfl) ?_
        refine lv_iload hx hb dX6_dayOf_22 (lv_at hl 5 rfl) ?_
        refine q_callV (fr := 1) (lo := 21) (nL := 6) (Pic := PicM D cI a ta pa th σ T P) (As := [.int (iI (y)), .int (iI (k))]) (rest := [.int (iI (su))]) ⟨hx, hb, hml, hown, hts⟩ (c_monthDays l D cI cO cL a ta pa th σ T P hW hS (y) (k) (by omega) (by omega)) (cwV 2 hts gX6_dayOf_X6_monthDays rfl rfl rfl (by decide +kernel) ⟨Nat.le_of_ble_eq_true rfl, Nat.le_of_ble_eq_true rfl⟩) (ob_recv hPic.ob hK rfl) hPic hK rfl hl.1 rfl (Nat.le_of_ble_eq_true rfl) dX6_dayOf_24 (Nat.zero_le _) (Nat.zero_le _) ?_
        have hmd24 := m_md_in (σ 0) (σ 1) (y) (k)
        refine q_iadd hx hb dX6_dayOf_27 ?_
        refine q_top (fun su2 esu2 => ?_)
        refine lv_istore (lv' := [(4, .int (iI (su2))), (0, .ref a), (1, .int (iI (y))), (2, .int (iI (mo))), (3, .int (iI (da))), (5, .int (iI (k)))]) hx hb dX6_dayOf_28 hl (by decide) rfl (fun ls hl => ?_)
        refine q_iinc (k := 5) (lv' := [(5, .int (iI (k + 1))), (4, .int (iI (su2))), (0, .ref a), (1, .int (iI (y))), (2, .int (iI (mo))), (3, .int (iI (da)))]) hx hb dX6_dayOf_30 hl rfl (by decide) rfl (fun ls hl => ?_)
        refine lv_goto (tgt := 12) hx hb dX6_dayOf_33 (by decide) ?_
        have hmd : m_md (σ 0) (σ 1) y k = 30 + k % 2 := by unfold m_md; rw [if_neg (by omega)]
        exact ih_12 _ _ (by omega) (by omega) (by omega) _ (lv_sub hl [2, 3, 4, 5, 1, 0] rfl)
  exact key_12 (mo.toNat + 1) _ _ (by omega) (by omega) (by omega) _ (lv_sub hl [2, 3, 4, 5, 1, 0] rfl)
set_option maxHeartbeats 4000000 in
set_option maxRecDepth 100000 in
theorem c_isDayM (l : Launch) (D : va_G) (cI cO cL : ClassId) (a ta pa : Nat) (th : Int) (σ T P : Nat → Int) (hW : WF σ T) (hS : WS σ P) (d : Int) (hd : -2147483648 ≤ d ∧ d < 2147483648) : MI l yX6_isDay wsX6_isDay 2 44 D (ty3 cI cO cL) (PicM D cI a ta pa th σ T P) [.ref a, .int (iI (d))] (if 0 ≤ d ∧ d < m_fd (σ 0) (σ 1) 1000 then 1 else 0) := by
  refine MI_of (cc := cX6_isDay) (maxL := 2) (ret := (some .boolean)) (by decide) rfl (Nat.le_of_ble_eq_true rfl) ?_
  intro p e s m args below meth c ls hx hb hr hlocks hml hown hts hPic hK hl
  have hl : lv_has ls 2 [(0, .ref a), (1, .int (iI (d)))] := hl
  obtain ⟨w0, w1, w2, w3, w4, w5, w6, w7, w8⟩ := id hW
  refine lv_iload_n hx hb dX6_isDay_0 rfl (lv_at hl 1 rfl) ?_
  refine q_iconst hx hb dX6_isDay_1 ?_
  refine lv_aload_n hx hb dX6_isDay_2 rfl (lv_at hl 0 rfl) ?_
  refine q_sipush hx hb dX6_isDay_3 (by decide) ?_
  refine q_callV (fr := 1) (lo := 21) (nL := 2) (Pic := PicM D cI a ta pa th σ T P) (As := [.int (iI (1000))]) (rest := [.int (iI (0)), .int (iI (d))]) ⟨hx, hb, hml, hown, hts⟩ (c_begins l D cI cO cL a ta pa th σ T P hW hS (1000) (by omega)) (cwV 1 hts gX6_isDay_X6_begins rfl rfl rfl (by decide +kernel) ⟨Nat.le_of_ble_eq_true rfl, Nat.le_of_ble_eq_true rfl⟩) (ob_recv hPic.ob hK rfl) hPic hK rfl hl.1 rfl (Nat.le_of_ble_eq_true rfl) dX6_isDay_6 (Nat.zero_le _) (Nat.zero_le _) ?_
  have hfd6 := m_fd_le (cy := σ 0) (lq := σ 1) (y := (1000)) w0.1 w1 (by omega)
  refine q_iconst hx hb dX6_isDay_9 ?_
  refine q_isub hx hb dX6_isDay_10 ?_
  refine q_callS (fr := 0) (lo := 0) (nL := 2) (Pic := fun _ => True) (As := [.int (iI (d)), .int (iI (0)), .int (iI ((m_fd (σ 0) (σ 1) (1000)) - (1)))]) (rest := []) ⟨hx, hb, hml, hown, hts⟩ (c_isIn l D (ty3 cI cO cL) (d) (0) ((m_fd (σ 0) (σ 1) (1000)) - (1)) (by omega) (by omega) (by omega)) (va_cwS 3 hts gX6_isDay_X6_isIn rfl rfl rfl (by decide +kernel) ⟨Nat.le_of_ble_eq_true rfl, Nat.le_of_ble_eq_true rfl⟩) trivial hK rfl hl.1 rfl (Nat.le_of_ble_eq_true rfl) dX6_isDay_11 (Nat.zero_le _) (Nat.zero_le _) ?_
  exact q_zret hx hb hr hlocks (by split <;> omega) (by (repeat' split) <;> omega) dX6_isDay_14
set_option maxHeartbeats 4000000 in
set_option maxRecDepth 100000 in
theorem c_yearOfM (l : Launch) (D : va_G) (cI cO cL : ClassId) (a ta pa : Nat) (th : Int) (σ T P : Nat → Int) (hW : WF σ T) (hS : WS σ P) (d : Int) (hd : 0 ≤ d ∧ d < m_fd (σ 0) (σ 1) 1000) : MI l yX6_yearOf wsX6_yearOf 1 21 D (ty3 cI cO cL) (PicM D cI a ta pa th σ T P) [.ref a, .int (iI (d))] (m_y (σ 0) (σ 1) d) := by
  refine MI_of (cc := cX6_yearOf) (maxL := 5) (ret := (some .int)) (by decide) rfl (Nat.le_of_ble_eq_true rfl) ?_
  intro p e s m args below meth c ls hx hb hr hlocks hml hown hts hPic hK hl
  have hl : lv_has ls 5 [(0, .ref a), (1, .int (iI (d)))] := hl
  obtain ⟨w0, w1, w2, w3, w4, w5, w6, w7, w8⟩ := id hW
  have h1000 := m_fd_le (cy := σ 0) (lq := σ 1) (y := 1000) w0.1 w1 (by omega)
  refine q_iconst hx hb dX6_yearOf_0 ?_
  refine lv_istore_n (lv' := [(2, .int (iI (0))), (0, .ref a), (1, .int (iI (d)))]) hx hb dX6_yearOf_1 rfl hl (by decide) rfl (fun ls hl => ?_)
  refine lv_iload_n hx hb dX6_yearOf_2 rfl (lv_at hl 2 rfl) ?_
  refine lv_istore_n (lv' := [(3, .int (iI (d))), (2, .int (iI (0))), (0, .ref a), (1, .int (iI (d)))]) hx hb dX6_yearOf_3 rfl hl (by decide) rfl (fun ls hl => ?_)
  refine q_sipush hx hb dX6_yearOf_4 (by decide) ?_
  refine lv_aload_n hx hb dX6_yearOf_7 rfl (lv_at hl 2 rfl) ?_
  refine q_iconst hx hb dX6_yearOf_8 ?_
  refine q_callV (fr := 0) (lo := 0) (nL := 5) (Pic := PicM D cI a ta pa th σ T P) (As := [.int (iI (0))]) (rest := [.int (iI (365))]) ⟨hx, hb, hml, hown, hts⟩ (c_isLeap l D cI cO cL a ta pa th σ T P hW hS (0) (by omega)) (cwV 1 hts gX6_yearOf_X6_isLeap rfl rfl rfl (by decide +kernel) ⟨Nat.le_of_ble_eq_true rfl, Nat.le_of_ble_eq_true rfl⟩) (ob_recv hPic.ob hK rfl) hPic hK rfl hl.1 rfl (Nat.le_of_ble_eq_true rfl) dX6_yearOf_9 (Nat.zero_le _) (Nat.zero_le _) ?_
  have hlp9 := m_leap_01 (σ 0) (σ 1) (0)
  refine q_if_eq (tgt := 19) hx hb dX6_yearOf_12 (by decide) (by omega) (fun c_1 => ?_) (fun c_1 => ?_)
  · skip
    refine q_iconst hx hb dX6_yearOf_19 ?_
    refine q_iadd hx hb dX6_yearOf_20 ?_
    refine q_top (fun ds0 eds0 => ?_)
    refine lv_istore (lv' := [(4, .int (iI (ds0))), (3, .int (iI (d))), (2, .int (iI (0))), (0, .ref a), (1, .int (iI (d)))]) hx hb dX6_yearOf_21 hl (by decide) rfl (fun ls hl => ?_)
    have key_23 : ∀ (fu : Nat) (k : Int) (le : Int) (ds : Int), 0 ≤ k ∧ k ≤ 999 → le = d - m_fd (σ 0) (σ 1) k ∧ 0 ≤ le → ds = 365 + m_leap (σ 0) (σ 1) k → (((1000 - k).toNat : Int)) < (fu : Int) → ∀ ls : Array Slot, lv_has ls 5 [(0, .ref a), (1, .int (iI (d))), (2, .int (iI (k))), (3, .int (iI (le))), (4, .int (iI (ds)))] → W p l e { frames := 1, cells := 0, slots := 0, locals := 21 } s m args below meth c s.heap [] 0 0 (MQ below (vp_Si (fun r => r = iI (m_y (σ 0) (σ 1) d))) args s 0 0 (fun _ => False)) (F0 m 23 ls []) := by
      intro fu
      induction fu with
      | zero => intro k le ds hk hle hds hm_23 ls hl; exact absurd hm_23 (by omega)
      | succ fu ih_23 =>
        intro k le ds hk hle hds hm_23 ls hl
        have hst := m_fd_succ (cy := σ 0) (lq := σ 1) (y := k) w0.1 w1 hk.1
        have hl01 := m_leap_01 (σ 0) (σ 1) k
        have hfk := m_fd_le (cy := σ 0) (lq := σ 1) (y := k) w0.1 w1 hk.1
        refine lv_iload_n hx hb dX6_yearOf_23 rfl (lv_at hl 3 rfl) ?_
        refine lv_iload hx hb dX6_yearOf_24 (lv_at hl 4 rfl) ?_
        refine q_icmp_lt (tgt := 59) hx hb dX6_yearOf_26 (by decide) (by omega) (by omega) (fun c_2 => ?_) (fun c_2 => ?_)
        · skip
          refine lv_iload_n hx hb dX6_yearOf_59 rfl (lv_at hl 2 rfl) ?_
          exact q_iret hx hb hr hlocks (m_y_eq w0.1 w1 hk (by omega) (by omega)) dX6_yearOf_60
        · skip
          refine lv_iload_n hx hb dX6_yearOf_29 rfl (lv_at hl 3 rfl) ?_
          refine lv_iload hx hb dX6_yearOf_30 (lv_at hl 4 rfl) ?_
          refine q_isub hx hb dX6_yearOf_32 ?_
          refine q_top (fun le2 ele2 => ?_)
          refine lv_istore_n (lv' := [(3, .int (iI (le2))), (0, .ref a), (1, .int (iI (d))), (2, .int (iI (k))), (4, .int (iI (ds)))]) hx hb dX6_yearOf_33 rfl hl (by decide) rfl (fun ls hl => ?_)
          refine q_iinc (k := 3) (lv' := [(2, .int (iI (k + 1))), (3, .int (iI (le2))), (0, .ref a), (1, .int (iI (d))), (4, .int (iI (ds)))]) hx hb dX6_yearOf_34 hl rfl (by decide) rfl (fun ls hl => ?_)
          have hnx := m_y_next hk (by omega) hd.2
          refine q_sipush hx hb dX6_yearOf_37 (by decide) ?_
          refine lv_aload_n hx hb dX6_yearOf_40 rfl (lv_at hl 2 rfl) ?_
          refine lv_iload_n hx hb dX6_yearOf_41 rfl (lv_at hl 0 rfl) ?_
          refine q_callV (fr := 0) (lo := 0) (nL := 5) (Pic := PicM D cI a ta pa th σ T P) (As := [.int (iI (k + 1))]) (rest := [.int (iI (365))]) ⟨hx, hb, hml, hown, hts⟩ (c_isLeap l D cI cO cL a ta pa th σ T P hW hS (k + 1) (by omega)) (cwV 1 hts gX6_yearOf_X6_isLeap rfl rfl rfl (by decide +kernel) ⟨Nat.le_of_ble_eq_true rfl, Nat.le_of_ble_eq_true rfl⟩) (ob_recv hPic.ob hK rfl) hPic hK rfl hl.1 rfl (Nat.le_of_ble_eq_true rfl) dX6_yearOf_42 (Nat.zero_le _) (Nat.zero_le _) ?_
          have hlp42 := m_leap_01 (σ 0) (σ 1) (k + 1)
          refine q_if_eq (tgt := 52) hx hb dX6_yearOf_45 (by decide) (by omega) (fun c_3 => ?_) (fun c_3 => ?_)
          · skip
            refine q_iconst hx hb dX6_yearOf_52 ?_
            refine q_iadd hx hb dX6_yearOf_53 ?_
            refine q_top (fun ds2 eds2 => ?_)
            refine lv_istore (lv' := [(4, .int (iI (ds2))), (2, .int (iI (k + 1))), (3, .int (iI (le2))), (0, .ref a), (1, .int (iI (d)))]) hx hb dX6_yearOf_54 hl (by decide) rfl (fun ls hl => ?_)
            refine lv_goto (tgt := 23) hx hb dX6_yearOf_56 (by decide) ?_
            have hnx := m_y_next hk (by omega) hd.2
            exact ih_23 _ _ _ (by omega) (by omega) (by omega) (by omega) _ (lv_sub hl [3, 4, 1, 2, 0] rfl)
          · skip
            refine q_iconst hx hb dX6_yearOf_48 ?_
            refine lv_goto (tgt := 53) hx hb dX6_yearOf_49 (by decide) ?_
            refine q_iadd hx hb dX6_yearOf_53 ?_
            refine q_top (fun ds2 eds2 => ?_)
            refine lv_istore (lv' := [(4, .int (iI (ds2))), (2, .int (iI (k + 1))), (3, .int (iI (le2))), (0, .ref a), (1, .int (iI (d)))]) hx hb dX6_yearOf_54 hl (by decide) rfl (fun ls hl => ?_)
            refine lv_goto (tgt := 23) hx hb dX6_yearOf_56 (by decide) ?_
            have hnx := m_y_next hk (by omega) hd.2
            exact ih_23 _ _ _ (by omega) (by omega) (by omega) (by omega) _ (lv_sub hl [3, 4, 1, 2, 0] rfl)
    exact key_23 (1002) _ _ _ (by omega) (by rw [m_fd_0]; omega) (by omega) (by omega) _ (lv_sub hl [3, 4, 2, 1, 0] rfl)
  · skip
    refine q_iconst hx hb dX6_yearOf_15 ?_
    refine lv_goto (tgt := 20) hx hb dX6_yearOf_16 (by decide) ?_
    refine q_iadd hx hb dX6_yearOf_20 ?_
    refine q_top (fun ds0 eds0 => ?_)
    refine lv_istore (lv' := [(4, .int (iI (ds0))), (3, .int (iI (d))), (2, .int (iI (0))), (0, .ref a), (1, .int (iI (d)))]) hx hb dX6_yearOf_21 hl (by decide) rfl (fun ls hl => ?_)
    have key_23 : ∀ (fu : Nat) (k : Int) (le : Int) (ds : Int), 0 ≤ k ∧ k ≤ 999 → le = d - m_fd (σ 0) (σ 1) k ∧ 0 ≤ le → ds = 365 + m_leap (σ 0) (σ 1) k → (((1000 - k).toNat : Int)) < (fu : Int) → ∀ ls : Array Slot, lv_has ls 5 [(0, .ref a), (1, .int (iI (d))), (2, .int (iI (k))), (3, .int (iI (le))), (4, .int (iI (ds)))] → W p l e { frames := 1, cells := 0, slots := 0, locals := 21 } s m args below meth c s.heap [] 0 0 (MQ below (vp_Si (fun r => r = iI (m_y (σ 0) (σ 1) d))) args s 0 0 (fun _ => False)) (F0 m 23 ls []) := by
      intro fu
      induction fu with
      | zero => intro k le ds hk hle hds hm_23 ls hl; exact absurd hm_23 (by omega)
      | succ fu ih_23 =>
        intro k le ds hk hle hds hm_23 ls hl
        have hst := m_fd_succ (cy := σ 0) (lq := σ 1) (y := k) w0.1 w1 hk.1
        have hl01 := m_leap_01 (σ 0) (σ 1) k
        have hfk := m_fd_le (cy := σ 0) (lq := σ 1) (y := k) w0.1 w1 hk.1
        refine lv_iload_n hx hb dX6_yearOf_23 rfl (lv_at hl 3 rfl) ?_
        refine lv_iload hx hb dX6_yearOf_24 (lv_at hl 4 rfl) ?_
        refine q_icmp_lt (tgt := 59) hx hb dX6_yearOf_26 (by decide) (by omega) (by omega) (fun c_4 => ?_) (fun c_4 => ?_)
        · skip
          refine lv_iload_n hx hb dX6_yearOf_59 rfl (lv_at hl 2 rfl) ?_
          exact q_iret hx hb hr hlocks (m_y_eq w0.1 w1 hk (by omega) (by omega)) dX6_yearOf_60
        · skip
          refine lv_iload_n hx hb dX6_yearOf_29 rfl (lv_at hl 3 rfl) ?_
          refine lv_iload hx hb dX6_yearOf_30 (lv_at hl 4 rfl) ?_
          refine q_isub hx hb dX6_yearOf_32 ?_
          refine q_top (fun le2 ele2 => ?_)
          refine lv_istore_n (lv' := [(3, .int (iI (le2))), (0, .ref a), (1, .int (iI (d))), (2, .int (iI (k))), (4, .int (iI (ds)))]) hx hb dX6_yearOf_33 rfl hl (by decide) rfl (fun ls hl => ?_)
          refine q_iinc (k := 3) (lv' := [(2, .int (iI (k + 1))), (3, .int (iI (le2))), (0, .ref a), (1, .int (iI (d))), (4, .int (iI (ds)))]) hx hb dX6_yearOf_34 hl rfl (by decide) rfl (fun ls hl => ?_)
          have hnx := m_y_next hk (by omega) hd.2
          refine q_sipush hx hb dX6_yearOf_37 (by decide) ?_
          refine lv_aload_n hx hb dX6_yearOf_40 rfl (lv_at hl 2 rfl) ?_
          refine lv_iload_n hx hb dX6_yearOf_41 rfl (lv_at hl 0 rfl) ?_
          refine q_callV (fr := 0) (lo := 0) (nL := 5) (Pic := PicM D cI a ta pa th σ T P) (As := [.int (iI (k + 1))]) (rest := [.int (iI (365))]) ⟨hx, hb, hml, hown, hts⟩ (c_isLeap l D cI cO cL a ta pa th σ T P hW hS (k + 1) (by omega)) (cwV 1 hts gX6_yearOf_X6_isLeap rfl rfl rfl (by decide +kernel) ⟨Nat.le_of_ble_eq_true rfl, Nat.le_of_ble_eq_true rfl⟩) (ob_recv hPic.ob hK rfl) hPic hK rfl hl.1 rfl (Nat.le_of_ble_eq_true rfl) dX6_yearOf_42 (Nat.zero_le _) (Nat.zero_le _) ?_
          have hlp42 := m_leap_01 (σ 0) (σ 1) (k + 1)
          refine q_if_eq (tgt := 52) hx hb dX6_yearOf_45 (by decide) (by omega) (fun c_5 => ?_) (fun c_5 => ?_)
          · skip
            refine q_iconst hx hb dX6_yearOf_52 ?_
            refine q_iadd hx hb dX6_yearOf_53 ?_
            refine q_top (fun ds2 eds2 => ?_)
            refine lv_istore (lv' := [(4, .int (iI (ds2))), (2, .int (iI (k + 1))), (3, .int (iI (le2))), (0, .ref a), (1, .int (iI (d)))]) hx hb dX6_yearOf_54 hl (by decide) rfl (fun ls hl => ?_)
            refine lv_goto (tgt := 23) hx hb dX6_yearOf_56 (by decide) ?_
            have hnx := m_y_next hk (by omega) hd.2
            exact ih_23 _ _ _ (by omega) (by omega) (by omega) (by omega) _ (lv_sub hl [3, 4, 1, 2, 0] rfl)
          · skip
            refine q_iconst hx hb dX6_yearOf_48 ?_
            refine lv_goto (tgt := 53) hx hb dX6_yearOf_49 (by decide) ?_
            refine q_iadd hx hb dX6_yearOf_53 ?_
            refine q_top (fun ds2 eds2 => ?_)
            refine lv_istore (lv' := [(4, .int (iI (ds2))), (2, .int (iI (k + 1))), (3, .int (iI (le2))), (0, .ref a), (1, .int (iI (d)))]) hx hb dX6_yearOf_54 hl (by decide) rfl (fun ls hl => ?_)
            refine lv_goto (tgt := 23) hx hb dX6_yearOf_56 (by decide) ?_
            have hnx := m_y_next hk (by omega) hd.2
            exact ih_23 _ _ _ (by omega) (by omega) (by omega) (by omega) _ (lv_sub hl [3, 4, 1, 2, 0] rfl)
    exact key_23 (1002) _ _ _ (by omega) (by rw [m_fd_0]; omega) (by omega) (by omega) _ (lv_sub hl [3, 4, 2, 1, 0] rfl)
set_option maxHeartbeats 4000000 in
set_option maxRecDepth 100000 in
theorem c_inYearM (l : Launch) (D : va_G) (cI cO cL : ClassId) (a ta pa : Nat) (th : Int) (σ T P : Nat → Int) (hW : WF σ T) (hS : WS σ P) (d b : Int) (hd : 0 ≤ d ∧ d < m_fd (σ 0) (σ 1) 1000) (hb01 : b = 0 ∨ b = 1) : MI l yX6_inYear wsX6_inYear 2 45 D (ty3 cI cO cL) (PicM D cI a ta pa th σ T P) [.ref a, .int (iI (d)), .int (iI (b))] (if b = 1 then m_mo (σ 0) (σ 1) d else m_dm (σ 0) (σ 1) d) := by
  refine MI_of (cc := cX6_inYear) (maxL := 6) (ret := (some .int)) (by decide) rfl (Nat.le_of_ble_eq_true rfl) ?_
  intro p e s m args below meth c ls hx hb hr hlocks hml hown hts hPic hK hl
  have hl : lv_has ls 6 [(0, .ref a), (1, .int (iI (d))), (2, .int (iI (b)))] := hl
  obtain ⟨w0, w1, w2, w3, w4, w5, w6, w7, w8⟩ := id hW
  have h1000 := m_fd_le (cy := σ 0) (lq := σ 1) (y := 1000) w0.1 w1 (by omega)
  have hrr := m_r_in w0.1 w1 hd
  have hru : m_r (σ 0) (σ 1) d = d - m_fd (σ 0) (σ 1) (m_y (σ 0) (σ 1) d) := rfl
  have hl01 := m_leap_01 (σ 0) (σ 1) (m_y (σ 0) (σ 1) d)
  refine lv_aload_n hx hb dX6_inYear_0 rfl (lv_at hl 0 rfl) ?_
  refine lv_iload_n hx hb dX6_inYear_1 rfl (lv_at hl 1 rfl) ?_
  refine q_callV (fr := 1) (lo := 21) (nL := 6) (Pic := PicM D cI a ta pa th σ T P) (As := [.int (iI (d))]) (rest := []) ⟨hx, hb, hml, hown, hts⟩ (c_yearOfM l D cI cO cL a ta pa th σ T P hW hS (d) (by omega)) (cwV 1 hts gX6_inYear_X6_yearOf rfl rfl rfl (by decide +kernel) ⟨Nat.le_of_ble_eq_true rfl, Nat.le_of_ble_eq_true rfl⟩) (ob_recv hPic.ob hK rfl) hPic hK rfl hl.1 rfl (Nat.le_of_ble_eq_true rfl) dX6_inYear_2 (Nat.zero_le _) (Nat.zero_le _) ?_
  have hyi2 := m_y_in (σ 0) (σ 1) (d)
  refine q_top (fun y ey => ?_)
  refine lv_istore_n (lv' := [(3, .int (iI (y))), (0, .ref a), (1, .int (iI (d))), (2, .int (iI (b)))]) hx hb dX6_inYear_5 rfl hl (by decide) rfl (fun ls hl => ?_)
  refine lv_iload_n hx hb dX6_inYear_6 rfl (lv_at hl 2 rfl) ?_
  refine lv_aload_n hx hb dX6_inYear_7 rfl (lv_at hl 1 rfl) ?_
  refine lv_iload_n hx hb dX6_inYear_8 rfl (lv_at hl 0 rfl) ?_
  refine q_callV (fr := 1) (lo := 21) (nL := 6) (Pic := PicM D cI a ta pa th σ T P) (As := [.int (iI (y))]) (rest := [.int (iI (d))]) ⟨hx, hb, hml, hown, hts⟩ (c_begins l D cI cO cL a ta pa th σ T P hW hS (y) (by omega)) (cwV 1 hts gX6_inYear_X6_begins rfl rfl rfl (by decide +kernel) ⟨Nat.le_of_ble_eq_true rfl, Nat.le_of_ble_eq_true rfl⟩) (ob_recv hPic.ob hK rfl) hPic hK rfl hl.1 rfl (Nat.le_of_ble_eq_true rfl) dX6_inYear_9 (Nat.zero_le _) (Nat.zero_le _) ?_
  have hfd9 := m_fd_le (cy := σ 0) (lq := σ 1) (y := (y)) w0.1 w1 (by omega)
  have hfy : m_fd (σ 0) (σ 1) y = m_fd (σ 0) (σ 1) (m_y (σ 0) (σ 1) d) := by rw [ey]
  refine q_isub hx hb dX6_inYear_12 ?_
  refine q_top (fun le0 ele0 => ?_)
  refine lv_istore (lv' := [(4, .int (iI (le0))), (3, .int (iI (y))), (0, .ref a), (1, .int (iI (d))), (2, .int (iI (b)))]) hx hb dX6_inYear_13 hl (by decide) rfl (fun ls hl => ?_)
  refine q_iconst hx hb dX6_inYear_15 ?_
  refine lv_istore (lv' := [(5, .int (iI (0))), (4, .int (iI (le0))), (3, .int (iI (y))), (0, .ref a), (1, .int (iI (d))), (2, .int (iI (b)))]) hx hb dX6_inYear_16 hl (by decide) rfl (fun ls hl => ?_)
  have key_18 : ∀ (fu : Nat) (k : Int) (le : Int), 0 ≤ k ∧ k ≤ 11 → le = m_r (σ 0) (σ 1) d - (30 * k + k / 2) ∧ 0 ≤ le → (((11 - k).toNat : Int)) < (fu : Int) → ∀ ls : Array Slot, lv_has ls 6 [(0, .ref a), (1, .int (iI (d))), (2, .int (iI (b))), (3, .int (iI (y))), (4, .int (iI (le))), (5, .int (iI (k)))] → W p l e { frames := 2, cells := 0, slots := 0, locals := 45 } s m args below meth c s.heap [] 0 0 (MQ below (vp_Si (fun r => r = iI (if b = 1 then m_mo (σ 0) (σ 1) d else m_dm (σ 0) (σ 1) d))) args s 0 0 (fun _ => False)) (F0 m 18 ls []) := by
    intro fu
    induction fu with
    | zero => intro k le hk hle hm_18 ls hl; exact absurd hm_18 (by omega)
    | succ fu ih_18 =>
      intro k le hk hle hm_18 ls hl
      have hmdv : m_md (σ 0) (σ 1) y k = if k = 11 then 30 + m_leap (σ 0) (σ 1) y else 30 + k % 2 := rfl
      have hly : m_leap (σ 0) (σ 1) y = m_leap (σ 0) (σ 1) (m_y (σ 0) (σ 1) d) := by rw [ey]
      have hfy : m_fd (σ 0) (σ 1) y = m_fd (σ 0) (σ 1) (m_y (σ 0) (σ 1) d) := by rw [ey]
      refine lv_iload hx hb dX6_inYear_18 (lv_at hl 4 rfl) ?_
      refine lv_aload_n hx hb dX6_inYear_20 rfl (lv_at hl 0 rfl) ?_
      refine lv_iload_n hx hb dX6_inYear_21 rfl (lv_at hl 3 rfl) ?_
      refine lv_iload hx hb dX6_inYear_22 (lv_at hl 5 rfl) ?_
      refine q_callV (fr := 1) (lo := 21) (nL := 6) (Pic := PicM D cI a ta pa th σ T P) (As := [.int (iI (y)), .int (iI (k))]) (rest := [.int (iI (le))]) ⟨hx, hb, hml, hown, hts⟩ (c_monthDays l D cI cO cL a ta pa th σ T P hW hS (y) (k) (by omega) (by omega)) (cwV 2 hts gX6_inYear_X6_monthDays rfl rfl rfl (by decide +kernel) ⟨Nat.le_of_ble_eq_true rfl, Nat.le_of_ble_eq_true rfl⟩) (ob_recv hPic.ob hK rfl) hPic hK rfl hl.1 rfl (Nat.le_of_ble_eq_true rfl) dX6_inYear_24 (Nat.zero_le _) (Nat.zero_le _) ?_
      have hmd24 := m_md_in (σ 0) (σ 1) (y) (k)
      refine q_icmp_lt (tgt := 48) hx hb dX6_inYear_27 (by decide) (by omega) (by omega) (fun c_1 => ?_) (fun c_1 => ?_)
      · skip
        refine lv_iload_n hx hb dX6_inYear_48 rfl (lv_at hl 2 rfl) ?_
        refine q_if_eq (tgt := 57) hx hb dX6_inYear_49 (by decide) (by omega) (fun c_2 => ?_) (fun c_2 => ?_)
        · skip
          refine lv_iload hx hb dX6_inYear_57 (lv_at hl 4 rfl) ?_
          exact q_iret hx hb hr hlocks (by have hmm := m_month hk hle.1 hle.2 (by omega) hmdv (by omega); unfold m_mo m_dm; first | (rw [if_pos (by omega)]; exact hmm.1) | (rw [if_neg (by omega)]; exact hmm.2)) dX6_inYear_59
        · skip
          refine lv_iload hx hb dX6_inYear_52 (lv_at hl 5 rfl) ?_
          refine lv_goto (tgt := 59) hx hb dX6_inYear_54 (by decide) ?_
          exact q_iret hx hb hr hlocks (by have hmm := m_month hk hle.1 hle.2 (by omega) hmdv (by omega); unfold m_mo m_dm; first | (rw [if_pos (by omega)]; exact hmm.1) | (rw [if_neg (by omega)]; exact hmm.2)) dX6_inYear_59
      · skip
        refine lv_iload hx hb dX6_inYear_30 (lv_at hl 4 rfl) ?_
        refine lv_aload_n hx hb dX6_inYear_32 rfl (lv_at hl 0 rfl) ?_
        refine lv_iload_n hx hb dX6_inYear_33 rfl (lv_at hl 3 rfl) ?_
        refine lv_iload hx hb dX6_inYear_34 (lv_at hl 5 rfl) ?_
        refine q_callV (fr := 1) (lo := 21) (nL := 6) (Pic := PicM D cI a ta pa th σ T P) (As := [.int (iI (y)), .int (iI (k))]) (rest := [.int (iI (le))]) ⟨hx, hb, hml, hown, hts⟩ (c_monthDays l D cI cO cL a ta pa th σ T P hW hS (y) (k) (by omega) (by omega)) (cwV 2 hts gX6_inYear_X6_monthDays rfl rfl rfl (by decide +kernel) ⟨Nat.le_of_ble_eq_true rfl, Nat.le_of_ble_eq_true rfl⟩) (ob_recv hPic.ob hK rfl) hPic hK rfl hl.1 rfl (Nat.le_of_ble_eq_true rfl) dX6_inYear_36 (Nat.zero_le _) (Nat.zero_le _) ?_
        have hmd36 := m_md_in (σ 0) (σ 1) (y) (k)
        refine q_isub hx hb dX6_inYear_39 ?_
        refine q_top (fun le2 ele2 => ?_)
        refine lv_istore (lv' := [(4, .int (iI (le2))), (0, .ref a), (1, .int (iI (d))), (2, .int (iI (b))), (3, .int (iI (y))), (5, .int (iI (k)))]) hx hb dX6_inYear_40 hl (by decide) rfl (fun ls hl => ?_)
        refine q_iinc (k := 5) (lv' := [(5, .int (iI (k + 1))), (4, .int (iI (le2))), (0, .ref a), (1, .int (iI (d))), (2, .int (iI (b))), (3, .int (iI (y)))]) hx hb dX6_inYear_42 hl rfl (by decide) rfl (fun ls hl => ?_)
        refine lv_goto (tgt := 18) hx hb dX6_inYear_45 (by decide) ?_
        exact ih_18 _ _ (by split at hmdv <;> omega) (by split at hmdv <;> omega) (by split at hmdv <;> omega) _ (lv_sub hl [2, 3, 4, 5, 1, 0] rfl)
  exact key_18 (12) _ _ (by omega) (by omega) (by omega) _ (lv_sub hl [3, 4, 5, 2, 1, 0] rfl)
set_option maxHeartbeats 4000000 in
set_option maxRecDepth 100000 in
theorem c_time (l : Launch) (D : va_G) (cI cO cL : ClassId) (a ta pa : Nat) (th : Int) (σ T P : Nat → Int) (hW : WF σ T) (hS : WS σ P) (k b : Int) (hk : 0 ≤ k ∧ k ≤ 50000) (hb01 : b = 0 ∨ b = 1) : MI l yX6_time wsX6_time 0 0 D (ty3 cI cO cL) (PicM D cI a ta pa th σ T P) [.ref a, .int (iI (k)), .int (iI (b))] (m_tm (σ 2) (σ 3) k b) := by
  refine MI_of (cc := cX6_time) (maxL := 3) (ret := (some .int)) (by decide) rfl (Nat.le_of_ble_eq_true rfl) ?_
  intro p e s m args below meth c ls hx hb hr hlocks hml hown hts hPic hK hl
  have hl : lv_has ls 3 [(0, .ref a), (1, .int (iI (k))), (2, .int (iI (b)))] := hl
  have hin_X6 : ∀ w ∈ u_ws RX6 TX6 13, w ∈ wsX6_time := (fun w h => List.mem_cons_of_mem _ (List.mem_append_right _ h))
  obtain ⟨w0, w1, w2, w3, w4, w5, w6, w7, w8⟩ := id hW
  refine lv_aload_n hx hb dX6_time_0 rfl (lv_at hl 0 rfl) ?_
  refine q_get (ci := 8) (C := RX6) (T := TX6) (N := 13) hx hb hts hin_X6 hown hK (v := .int (iI (σ 3))) hPic.ob rfl 4 (by decide) (hts (.fieldLink RX6 43 "AlmanacHouseModel" "first" "I") (List.mem_of_getElem? (i := 1) rfl)) (fun _ h9 => h9) rfl dX6_time_1 ?_
  refine lv_iload_n hx hb dX6_time_4 rfl (lv_at hl 1 rfl) ?_
  refine lv_aload_n hx hb dX6_time_5 rfl (lv_at hl 0 rfl) ?_
  refine q_get (ci := 8) (C := RX6) (T := TX6) (N := 13) hx hb hts hin_X6 hown hK (v := .int (iI (σ 2))) hPic.ob rfl 3 (by decide) (hts (.fieldLink RX6 16 "AlmanacHouseModel" "length" "I") (List.mem_of_getElem? (i := 2) rfl)) (fun _ h9 => h9) rfl dX6_time_6 ?_
  refine q_imul hx hb dX6_time_9 ?_
  refine q_iadd hx hb dX6_time_10 ?_
  refine lv_iload_n hx hb dX6_time_11 rfl (lv_at hl 2 rfl) ?_
  refine q_if_eq (tgt := 24) hx hb dX6_time_12 (by decide) (by omega) (fun c_1 => ?_) (fun c_1 => ?_)
  · skip
    refine q_iconst hx hb dX6_time_24 ?_
    refine q_iadd hx hb dX6_time_25 ?_
    exact q_iret hx hb hr hlocks (by unfold m_tm m_hf; split <;> omega) dX6_time_26
  · skip
    refine lv_aload_n hx hb dX6_time_15 rfl (lv_at hl 0 rfl) ?_
    refine q_get (ci := 8) (C := RX6) (T := TX6) (N := 13) hx hb hts hin_X6 hown hK (v := .int (iI (σ 2))) hPic.ob rfl 3 (by decide) (hts (.fieldLink RX6 16 "AlmanacHouseModel" "length" "I") (List.mem_of_getElem? (i := 2) rfl)) (fun _ h9 => h9) rfl dX6_time_16 ?_
    refine q_iconst hx hb dX6_time_19 ?_
    refine q_idiv hx hb dX6_time_20 (by omega) (by omega) ?_
    refine lv_goto (tgt := 25) hx hb dX6_time_21 (by decide) ?_
    refine q_iadd hx hb dX6_time_25 ?_
    exact q_iret hx hb hr hlocks (by unfold m_tm m_hf; split <;> omega) dX6_time_26
set_option maxHeartbeats 4000000 in
set_option maxRecDepth 100000 in
theorem c_falls (l : Launch) (D : va_G) (cI cO cL : ClassId) (a ta pa : Nat) (th : Int) (σ T P : Nat → Int) (hW : WF σ T) (hS : WS σ P) (k b : Int) (hk : 0 ≤ k ∧ k ≤ 50000) (hb01 : b = 0 ∨ b = 1) : MI l yX6_falls wsX6_falls 1 22 D (ty3 cI cO cL) (PicM D cI a ta pa th σ T P) [.ref a, .int (iI (k)), .int (iI (b))] (m_tm (σ 2) (σ 3) k b / 1000) := by
  refine MI_of (cc := cX6_falls) (maxL := 3) (ret := (some .int)) (by decide) rfl (Nat.le_of_ble_eq_true rfl) ?_
  intro p e s m args below meth c ls hx hb hr hlocks hml hown hts hPic hK hl
  have hl : lv_has ls 3 [(0, .ref a), (1, .int (iI (k))), (2, .int (iI (b)))] := hl
  obtain ⟨w0, w1, w2, w3, w4, w5, w6, w7, w8⟩ := id hW
  refine lv_aload_n hx hb dX6_falls_0 rfl (lv_at hl 0 rfl) ?_
  refine lv_iload_n hx hb dX6_falls_1 rfl (lv_at hl 1 rfl) ?_
  refine lv_iload_n hx hb dX6_falls_2 rfl (lv_at hl 2 rfl) ?_
  refine q_callV (fr := 0) (lo := 0) (nL := 3) (Pic := PicM D cI a ta pa th σ T P) (As := [.int (iI (k)), .int (iI (b))]) (rest := []) ⟨hx, hb, hml, hown, hts⟩ (c_time l D cI cO cL a ta pa th σ T P hW hS (k) (b) (by omega) (by omega)) (cwV 2 hts gX6_falls_X6_time rfl rfl rfl (by decide +kernel) ⟨Nat.le_of_ble_eq_true rfl, Nat.le_of_ble_eq_true rfl⟩) (ob_recv hPic.ob hK rfl) hPic hK rfl hl.1 rfl (Nat.le_of_ble_eq_true rfl) dX6_falls_3 (Nat.zero_le _) (Nat.zero_le _) ?_
  have htm3 := m_tm_in (ln := σ 2) (fi := σ 3) (b := (b)) (k := (k)) w2 w3 (by omega)
  refine q_sipush hx hb dX6_falls_6 (by decide) ?_
  refine q_idiv hx hb dX6_falls_9 (by omega) (by omega) ?_
  exact q_iret hx hb hr hlocks (rfl) dX6_falls_10
set_option maxHeartbeats 4000000 in
set_option maxRecDepth 100000 in
theorem c_moonFrom (l : Launch) (D : va_G) (cI cO cL : ClassId) (a ta pa : Nat) (th : Int) (σ T P : Nat → Int) (hW : WF σ T) (hS : WS σ P) (d b : Int) (hd : 0 ≤ d ∧ d ≤ 370000) (hb01 : b = 0 ∨ b = 1) : MI l yX6_moonFrom wsX6_moonFrom 2 44 D (ty3 cI cO cL) (PicM D cI a ta pa th σ T P) [.ref a, .int (iI (d)), .int (iI (b))] (m_ff (σ 2) (σ 3) b (1000 * d)) := by
  refine MI_of (cc := cX6_moonFrom) (maxL := 4) (ret := (some .int)) (by decide) rfl (Nat.le_of_ble_eq_true rfl) ?_
  intro p e s m args below meth c ls hx hb hr hlocks hml hown hts hPic hK hl
  have hl : lv_has ls 4 [(0, .ref a), (1, .int (iI (d))), (2, .int (iI (b)))] := hl
  have hin_X6 : ∀ w ∈ u_ws RX6 TX6 13, w ∈ wsX6_moonFrom := (fun w h => List.mem_cons_of_mem _ (List.mem_append_right _ h))
  obtain ⟨w0, w1, w2, w3, w4, w5, w6, w7, w8⟩ := id hW
  have hxx := m_tdiv_in (ln := σ 2) (x := 1000 * d - σ 3) w2 (by omega)
  have hmf := m_mf0 (b := b) (d := d) w2 w3 (by omega)
  have hff := m_ff_in (ln := σ 2) (fi := σ 3) (b := b) (t := 1000 * d) w2
  have hfu := m_ff_up (ln := σ 2) (fi := σ 3) (b := b) (t := 1000 * d) w2 w3 (by omega)
  refine q_iconst hx hb dX6_moonFrom_0 ?_
  refine q_ldc2 (z := 1000) hx hb hown (hts (.constantLong RX6 77 (1000)) (List.mem_of_getElem? (i := 1) rfl)) (by decide) dX6_moonFrom_1 ?_
  refine lv_iload_n hx hb dX6_moonFrom_4 rfl (lv_at hl 1 rfl) ?_
  refine q_i2l hx hb dX6_moonFrom_5 (by omega) ?_
  refine q_lmul hx hb dX6_moonFrom_6 ?_
  refine lv_aload_n hx hb dX6_moonFrom_7 rfl (lv_at hl 0 rfl) ?_
  refine q_get (ci := 8) (C := RX6) (T := TX6) (N := 13) hx hb hts hin_X6 hown hK (v := .int (iI (σ 3))) hPic.ob rfl 4 (by decide) (hts (.fieldLink RX6 43 "AlmanacHouseModel" "first" "I") (List.mem_of_getElem? (i := 2) rfl)) (fun _ h9 => h9) rfl dX6_moonFrom_8 ?_
  refine q_i2l hx hb dX6_moonFrom_11 (by omega) ?_
  refine q_lsub hx hb dX6_moonFrom_12 ?_
  refine lv_aload_n hx hb dX6_moonFrom_13 rfl (lv_at hl 0 rfl) ?_
  refine q_get (ci := 8) (C := RX6) (T := TX6) (N := 13) hx hb hts hin_X6 hown hK (v := .int (iI (σ 2))) hPic.ob rfl 3 (by decide) (hts (.fieldLink RX6 16 "AlmanacHouseModel" "length" "I") (List.mem_of_getElem? (i := 3) rfl)) (fun _ h9 => h9) rfl dX6_moonFrom_14 ?_
  refine q_i2l hx hb dX6_moonFrom_17 (by omega) ?_
  refine q_ldiv hx hb dX6_moonFrom_18 (by omega) (by omega) ?_
  refine q_l2i hx hb dX6_moonFrom_19 (by omega) ?_
  refine q_iconst hx hb dX6_moonFrom_20 ?_
  refine q_isub hx hb dX6_moonFrom_21 ?_
  refine q_mmax hx hb (hml.trans hl.1.symm) hown (hts (.methodLink RX6 79 Lib.Math.max.name) (List.mem_of_getElem? (i := 4) rfl)) (hts (.static Lib.Math.max.name) (List.mem_of_getElem? (i := 5) rfl)) (hts (.initialized "java/lang/Math") (List.mem_of_getElem? (i := 6) rfl)) (hts (.code Lib.Math.max.name Lib.Math.max.code 2 (some .int)) (List.mem_of_getElem? (i := 7) rfl)) (by omega) (by omega) (Nat.le_of_ble_eq_true rfl) (Nat.le_of_ble_eq_true rfl) (Nat.zero_le _) (Nat.zero_le _) dX6_moonFrom_22 ?_
  refine q_top (fun k0 ek0 => ?_)
  refine lv_istore_n (lv' := [(3, .int (iI (k0))), (0, .ref a), (1, .int (iI (d))), (2, .int (iI (b)))]) hx hb dX6_moonFrom_25 rfl hl (by decide) rfl (fun ls hl => ?_)
  have key_26 : ∀ (fu : Nat) (k : Int), 0 ≤ k ∧ k ≤ m_ff (σ 2) (σ 3) b (1000 * d) → (((m_ff (σ 2) (σ 3) b (1000 * d) - k).toNat : Int)) < (fu : Int) → ∀ ls : Array Slot, lv_has ls 4 [(0, .ref a), (1, .int (iI (d))), (2, .int (iI (b))), (3, .int (iI (k)))] → W p l e { frames := 2, cells := 0, slots := 0, locals := 44 } s m args below meth c s.heap [] 0 0 (MQ below (vp_Si (fun r => r = iI (m_ff (σ 2) (σ 3) b (1000 * d)))) args s 0 0 (fun _ => False)) (F0 m 26 ls []) := by
    intro fu
    induction fu with
    | zero => intro k hk hm_26 ls hl; exact absurd hm_26 (by omega)
    | succ fu ih_26 =>
      intro k hk hm_26 ls hl
      have hlt := m_ff_lt (ln := σ 2) (fi := σ 3) (b := b) (t := 1000 * d) (k := k) w2 hk.1
      refine lv_aload_n hx hb dX6_moonFrom_26 rfl (lv_at hl 0 rfl) ?_
      refine lv_iload_n hx hb dX6_moonFrom_27 rfl (lv_at hl 3 rfl) ?_
      refine lv_iload_n hx hb dX6_moonFrom_28 rfl (lv_at hl 2 rfl) ?_
      refine q_callV (fr := 1) (lo := 22) (nL := 4) (Pic := PicM D cI a ta pa th σ T P) (As := [.int (iI (k)), .int (iI (b))]) (rest := []) ⟨hx, hb, hml, hown, hts⟩ (c_falls l D cI cO cL a ta pa th σ T P hW hS (k) (b) (by omega) (by omega)) (cwV 2 hts gX6_moonFrom_X6_falls rfl rfl rfl (by decide +kernel) ⟨Nat.le_of_ble_eq_true rfl, Nat.le_of_ble_eq_true rfl⟩) (ob_recv hPic.ob hK rfl) hPic hK rfl hl.1 rfl (Nat.le_of_ble_eq_true rfl) dX6_moonFrom_29 (Nat.zero_le _) (Nat.zero_le _) ?_
      have htm29 := m_tm_in (ln := σ 2) (fi := σ 3) (b := (b)) (k := (k)) w2 w3 (by omega)
      refine lv_iload_n hx hb dX6_moonFrom_32 rfl (lv_at hl 1 rfl) ?_
      refine q_icmp_ge (tgt := 42) hx hb dX6_moonFrom_33 (by decide) (by omega) (by omega) (fun c_1 => ?_) (fun c_1 => ?_)
      · skip
        refine lv_iload_n hx hb dX6_moonFrom_42 rfl (lv_at hl 3 rfl) ?_
        exact q_iret hx hb hr hlocks (by omega) dX6_moonFrom_43
      · skip
        refine q_iinc (k := 3) (lv' := [(3, .int (iI (k + 1))), (0, .ref a), (1, .int (iI (d))), (2, .int (iI (b)))]) hx hb dX6_moonFrom_36 hl rfl (by decide) rfl (fun ls hl => ?_)
        refine lv_goto (tgt := 26) hx hb dX6_moonFrom_39 (by decide) ?_
        exact ih_26 _ (by omega) (by omega) _ (lv_sub hl [1, 2, 3, 0] rfl)
  exact key_26 ((m_ff (σ 2) (σ 3) b (1000 * d)).toNat + 1) _ (by rw [ek0]; split <;> omega) (by rw [ek0]; split <;> omega) _ (lv_sub hl [1, 2, 3, 0] rfl)
set_option maxHeartbeats 4000000 in
set_option maxRecDepth 100000 in
theorem c_dated (l : Launch) (D : va_G) (cI cO cL : ClassId) (a ta pa : Nat) (th : Int) (σ T P : Nat → Int) (hW : WF σ T) (hS : WS σ P) (d w : Int) (hd : 0 ≤ d ∧ d < m_fd (σ 0) (σ 1) 1000) (hw : 0 ≤ w ∧ w ≤ 4) : MI l yX6_dated wsX6_dated 3 70 D (ty3 cI cO cL) (PicM D cI a ta pa th σ T P) [.ref a, .int (iI (d)), .int (iI (w))] (m_dated σ d w) := by
  refine MI_of (cc := cX6_dated) (maxL := 4) (ret := (some .int)) (by decide) rfl (Nat.le_of_ble_eq_true rfl) ?_
  intro p e s m args below meth c ls hx hb hr hlocks hml hown hts hPic hK hl
  have hl : lv_has ls 4 [(0, .ref a), (1, .int (iI (d))), (2, .int (iI (w)))] := hl
  obtain ⟨w0, w1, w2, w3, w4, w5, w6, w7, w8⟩ := id hW
  have h1000 := m_fd_le (cy := σ 0) (lq := σ 1) (y := 1000) w0.1 w1 (by omega)
  refine lv_iload_n hx hb dX6_dated_0 rfl (lv_at hl 2 rfl) ?_
  by_cases c_1 : w = 0
  · refine q_tableIn (tgt := 32) hx hb dX6_dated_1 (by omega) (by omega) 0 (by omega) rfl (by decide) ?_
    refine lv_aload_n hx hb dX6_dated_32 rfl (lv_at hl 0 rfl) ?_
    refine lv_iload_n hx hb dX6_dated_33 rfl (lv_at hl 1 rfl) ?_
    refine q_callV (fr := 1) (lo := 21) (nL := 4) (Pic := PicM D cI a ta pa th σ T P) (As := [.int (iI (d))]) (rest := []) ⟨hx, hb, hml, hown, hts⟩ (c_yearOfM l D cI cO cL a ta pa th σ T P hW hS (d) (by omega)) (cwV 1 hts gX6_dated_X6_yearOf rfl rfl rfl (by decide +kernel) ⟨Nat.le_of_ble_eq_true rfl, Nat.le_of_ble_eq_true rfl⟩) (ob_recv hPic.ob hK rfl) hPic hK rfl hl.1 rfl (Nat.le_of_ble_eq_true rfl) dX6_dated_34 (Nat.zero_le _) (Nat.zero_le _) ?_
    have hyi34 := m_y_in (σ 0) (σ 1) (d)
    exact q_iret hx hb hr hlocks (by unfold m_dated; rw [if_pos (by omega)]) dX6_dated_37
  by_cases c_2 : w = 1
  · refine q_tableIn (tgt := 38) hx hb dX6_dated_1 (by omega) (by omega) 1 (by omega) rfl (by decide) ?_
    refine lv_aload_n hx hb dX6_dated_38 rfl (lv_at hl 0 rfl) ?_
    refine lv_iload_n hx hb dX6_dated_39 rfl (lv_at hl 1 rfl) ?_
    refine q_iconst hx hb dX6_dated_40 ?_
    refine q_callV (fr := 2) (lo := 45) (nL := 4) (Pic := PicM D cI a ta pa th σ T P) (As := [.int (iI (d)), .int (iI (1))]) (rest := []) ⟨hx, hb, hml, hown, hts⟩ (c_inYearM l D cI cO cL a ta pa th σ T P hW hS (d) (1) (by omega) (by omega)) (cwV 2 hts gX6_dated_X6_inYear rfl rfl rfl (by decide +kernel) ⟨Nat.le_of_ble_eq_true rfl, Nat.le_of_ble_eq_true rfl⟩) (ob_recv hPic.ob hK rfl) hPic hK rfl hl.1 rfl (Nat.le_of_ble_eq_true rfl) dX6_dated_41 (Nat.zero_le _) (Nat.zero_le _) ?_
    have hmo41 := m_mo_in w0.1 w1 (d := (d)) (by omega)
    have hdm41 := m_dm_in w0.1 w1 (d := (d)) (by omega)
    exact q_iret hx hb hr hlocks (by rw [if_pos rfl]; unfold m_dated; rw [if_neg (by omega), if_pos (by omega)]) dX6_dated_44
  by_cases c_3 : w = 2
  · refine q_tableIn (tgt := 45) hx hb dX6_dated_1 (by omega) (by omega) 2 (by omega) rfl (by decide) ?_
    refine lv_aload_n hx hb dX6_dated_45 rfl (lv_at hl 0 rfl) ?_
    refine lv_iload_n hx hb dX6_dated_46 rfl (lv_at hl 1 rfl) ?_
    refine q_iconst hx hb dX6_dated_47 ?_
    refine q_callV (fr := 2) (lo := 45) (nL := 4) (Pic := PicM D cI a ta pa th σ T P) (As := [.int (iI (d)), .int (iI (0))]) (rest := []) ⟨hx, hb, hml, hown, hts⟩ (c_inYearM l D cI cO cL a ta pa th σ T P hW hS (d) (0) (by omega) (by omega)) (cwV 2 hts gX6_dated_X6_inYear rfl rfl rfl (by decide +kernel) ⟨Nat.le_of_ble_eq_true rfl, Nat.le_of_ble_eq_true rfl⟩) (ob_recv hPic.ob hK rfl) hPic hK rfl hl.1 rfl (Nat.le_of_ble_eq_true rfl) dX6_dated_48 (Nat.zero_le _) (Nat.zero_le _) ?_
    have hmo48 := m_mo_in w0.1 w1 (d := (d)) (by omega)
    have hdm48 := m_dm_in w0.1 w1 (d := (d)) (by omega)
    exact q_iret hx hb hr hlocks (by rw [if_neg (by omega)]; unfold m_dated; rw [if_neg (by omega), if_neg (by omega), if_pos (by omega)]) dX6_dated_51
  by_cases c_4 : w = 3
  · refine q_tableIn (tgt := 52) hx hb dX6_dated_1 (by omega) (by omega) 3 (by omega) rfl (by decide) ?_
    refine lv_iload_n hx hb dX6_dated_52 rfl (lv_at hl 1 rfl) ?_
    refine q_bipush hx hb dX6_dated_53 (by decide) ?_
    refine q_irem hx hb dX6_dated_55 (by omega) (by omega) ?_
    exact q_iret hx hb hr hlocks (by unfold m_dated; rw [if_neg (by omega), if_neg (by omega), if_neg (by omega), if_pos (by omega)]) dX6_dated_56
  refine q_tableOut (tgt := 57) hx hb dX6_dated_1 (by omega) (by omega) (by decide) ?_
  refine lv_aload_n hx hb dX6_dated_57 rfl (lv_at hl 0 rfl) ?_
  refine lv_iload_n hx hb dX6_dated_58 rfl (lv_at hl 1 rfl) ?_
  refine q_iconst hx hb dX6_dated_59 ?_
  refine q_iadd hx hb dX6_dated_60 ?_
  refine q_iconst hx hb dX6_dated_61 ?_
  refine q_callV (fr := 2) (lo := 44) (nL := 4) (Pic := PicM D cI a ta pa th σ T P) (As := [.int (iI (d + 1)), .int (iI (0))]) (rest := []) ⟨hx, hb, hml, hown, hts⟩ (c_moonFrom l D cI cO cL a ta pa th σ T P hW hS (d + 1) (0) (by omega) (by omega)) (cwV 2 hts gX6_dated_X6_moonFrom rfl rfl rfl (by decide +kernel) ⟨Nat.le_of_ble_eq_true rfl, Nat.le_of_ble_eq_true rfl⟩) (ob_recv hPic.ob hK rfl) hPic hK rfl hl.1 rfl (Nat.le_of_ble_eq_true rfl) dX6_dated_62 (Nat.zero_le _) (Nat.zero_le _) ?_
  have hff62 := m_ff_in (ln := σ 2) (fi := σ 3) (b := (0)) (t := 1000 * (d + 1)) w2
  have hfu62 := m_ff_up (ln := σ 2) (fi := σ 3) (b := (0)) (t := 1000 * (d + 1)) w2 w3 (by omega)
  refine q_top (fun k ek => ?_)
  refine lv_istore_n (lv' := [(3, .int (iI (k))), (0, .ref a), (1, .int (iI (d))), (2, .int (iI (w)))]) hx hb dX6_dated_65 rfl hl (by decide) rfl (fun ls hl => ?_)
  refine lv_iload_n hx hb dX6_dated_66 rfl (lv_at hl 0 rfl) ?_
  refine q_if_ne (tgt := 74) hx hb dX6_dated_67 (by decide) (by omega) (fun c_5 => ?_) (fun c_5 => ?_)
  · skip
    refine lv_iload_n hx hb dX6_dated_74 rfl (lv_at hl 2 rfl) ?_
    refine lv_aload_n hx hb dX6_dated_75 rfl (lv_at hl 1 rfl) ?_
    refine lv_iload_n hx hb dX6_dated_76 rfl (lv_at hl 0 rfl) ?_
    refine q_iconst hx hb dX6_dated_77 ?_
    refine q_isub hx hb dX6_dated_78 ?_
    refine q_iconst hx hb dX6_dated_79 ?_
    refine q_callV (fr := 1) (lo := 22) (nL := 4) (Pic := PicM D cI a ta pa th σ T P) (As := [.int (iI (k - 1)), .int (iI (0))]) (rest := [.int (iI (d))]) ⟨hx, hb, hml, hown, hts⟩ (c_falls l D cI cO cL a ta pa th σ T P hW hS (k - 1) (0) (by omega) (by omega)) (cwV 2 hts gX6_dated_X6_falls rfl rfl rfl (by decide +kernel) ⟨Nat.le_of_ble_eq_true rfl, Nat.le_of_ble_eq_true rfl⟩) (ob_recv hPic.ob hK rfl) hPic hK rfl hl.1 rfl (Nat.le_of_ble_eq_true rfl) dX6_dated_80 (Nat.zero_le _) (Nat.zero_le _) ?_
    have htm80 := m_tm_in (ln := σ 2) (fi := σ 3) (b := (0)) (k := (k - 1)) w2 w3 (by omega)
    refine q_isub hx hb dX6_dated_83 ?_
    exact q_iret hx hb hr hlocks (by unfold m_dated m_ds; rw [if_neg (by omega), if_neg (by omega), if_neg (by omega), if_neg (by omega), ← ek]; split <;> omega) dX6_dated_84
  · skip
    refine q_iconst hx hb dX6_dated_70 ?_
    refine lv_goto (tgt := 84) hx hb dX6_dated_71 (by decide) ?_
    exact q_iret hx hb hr hlocks (by unfold m_dated m_ds; rw [if_neg (by omega), if_neg (by omega), if_neg (by omega), if_neg (by omega), ← ek]; split <;> omega) dX6_dated_84
set_option maxHeartbeats 4000000 in
set_option maxRecDepth 100000 in
theorem c_isEclipse (l : Launch) (D : va_G) (cI cO cL : ClassId) (a ta pa : Nat) (th : Int) (σ T P : Nat → Int) (hW : WF σ T) (hS : WS σ P) (k b : Int) (hk : 0 ≤ k ∧ k ≤ 50000) (hb01 : b = 0 ∨ b = 1) : MI l yX6_isEclipse wsX6_isEclipse 1 22 D (ty3 cI cO cL) (PicM D cI a ta pa th σ T P) [.ref a, .int (iI (k)), .int (iI (b))] (m_en (σ 4) (σ 5) (m_tm (σ 2) (σ 3) k b) (m_rc b)) := by
  refine MI_of (cc := cX6_isEclipse) (maxL := 5) (ret := (some .boolean)) (by decide) rfl (Nat.le_of_ble_eq_true rfl) ?_
  intro p e s m args below meth c ls hx hb hr hlocks hml hown hts hPic hK hl
  have hl : lv_has ls 5 [(0, .ref a), (1, .int (iI (k))), (2, .int (iI (b)))] := hl
  have hin_X6 : ∀ w ∈ u_ws RX6 TX6 13, w ∈ wsX6_isEclipse := (fun w h => List.mem_cons_of_mem _ (List.mem_append_right _ h))
  obtain ⟨w0, w1, w2, w3, w4, w5, w6, w7, w8⟩ := id hW
  have hrcb : 0 ≤ m_rc b ∧ m_rc b ≤ 15000 := by unfold m_rc; split <;> omega
  have hr1 := Int.emod_nonneg (m_tm (σ 2) (σ 3) k b - σ 5) (show σ 4 ≠ 0 by omega)
  have hr2 := Int.emod_lt_of_pos (m_tm (σ 2) (σ 3) k b - σ 5) (show 0 < σ 4 by omega)
  have hr3 : m_tm (σ 2) (σ 3) k b - σ 5 = 0 → (m_tm (σ 2) (σ 3) k b - σ 5) % σ 4 = 0 := by intro h; rw [h]; exact Int.zero_emod _
  refine lv_aload_n hx hb dX6_isEclipse_0 rfl (lv_at hl 0 rfl) ?_
  refine lv_iload_n hx hb dX6_isEclipse_1 rfl (lv_at hl 1 rfl) ?_
  refine lv_iload_n hx hb dX6_isEclipse_2 rfl (lv_at hl 2 rfl) ?_
  refine q_callV (fr := 0) (lo := 0) (nL := 5) (Pic := PicM D cI a ta pa th σ T P) (As := [.int (iI (k)), .int (iI (b))]) (rest := []) ⟨hx, hb, hml, hown, hts⟩ (c_time l D cI cO cL a ta pa th σ T P hW hS (k) (b) (by omega) (by omega)) (cwV 2 hts gX6_isEclipse_X6_time rfl rfl rfl (by decide +kernel) ⟨Nat.le_of_ble_eq_true rfl, Nat.le_of_ble_eq_true rfl⟩) (ob_recv hPic.ob hK rfl) hPic hK rfl hl.1 rfl (Nat.le_of_ble_eq_true rfl) dX6_isEclipse_3 (Nat.zero_le _) (Nat.zero_le _) ?_
  have htm3 := m_tm_in (ln := σ 2) (fi := σ 3) (b := (b)) (k := (k)) w2 w3 (by omega)
  refine lv_aload_n hx hb dX6_isEclipse_6 rfl (lv_at hl 0 rfl) ?_
  refine q_get (ci := 8) (C := RX6) (T := TX6) (N := 13) hx hb hts hin_X6 hown hK (v := .int (iI (σ 5))) hPic.ob rfl 6 (by decide) (hts (.fieldLink RX6 49 "AlmanacHouseModel" "node" "I") (List.mem_of_getElem? (i := 1) rfl)) (fun _ h9 => h9) rfl dX6_isEclipse_7 ?_
  refine q_isub hx hb dX6_isEclipse_10 ?_
  refine q_top (fun t et => ?_)
  rw [← et] at hr1 hr2 hr3
  refine lv_istore_n (lv' := [(3, .int (iI (t))), (0, .ref a), (1, .int (iI (k))), (2, .int (iI (b)))]) hx hb dX6_isEclipse_11 rfl hl (by decide) rfl (fun ls hl => ?_)
  refine lv_iload_n hx hb dX6_isEclipse_12 rfl (lv_at hl 0 rfl) ?_
  refine q_if_ge (tgt := 40) hx hb dX6_isEclipse_13 (by decide) (by omega) (fun c_1 => ?_) (fun c_1 => ?_)
  · skip
    refine lv_iload_n hx hb dX6_isEclipse_40 rfl (lv_at hl 0 rfl) ?_
    refine lv_aload_n hx hb dX6_isEclipse_41 rfl (lv_at hl 1 rfl) ?_
    refine q_get (ci := 8) (C := RX6) (T := TX6) (N := 13) hx hb hts hin_X6 hown hK (v := .int (iI (σ 4))) hPic.ob rfl 5 (by decide) (hts (.fieldLink RX6 20 "AlmanacHouseModel" "period" "I") (List.mem_of_getElem? (i := 2) rfl)) (fun _ h9 => h9) rfl dX6_isEclipse_42 ?_
    refine q_irem hx hb dX6_isEclipse_45 (by omega) (by omega) ?_
    refine q_top (fun ov eov => ?_)
    refine lv_istore (lv' := [(4, .int (iI (ov))), (3, .int (iI (t))), (0, .ref a), (1, .int (iI (k))), (2, .int (iI (b)))]) hx hb dX6_isEclipse_46 hl (by decide) rfl (fun ls hl => ?_)
    refine lv_iload hx hb dX6_isEclipse_48 (lv_at hl 0 rfl) ?_
    refine lv_aload_n hx hb dX6_isEclipse_50 rfl (lv_at hl 2 rfl) ?_
    refine q_get (ci := 8) (C := RX6) (T := TX6) (N := 13) hx hb hts hin_X6 hown hK (v := .int (iI (σ 4))) hPic.ob rfl 5 (by decide) (hts (.fieldLink RX6 20 "AlmanacHouseModel" "period" "I") (List.mem_of_getElem? (i := 2) rfl)) (fun _ h9 => h9) rfl dX6_isEclipse_51 ?_
    refine lv_iload hx hb dX6_isEclipse_54 (lv_at hl 0 rfl) ?_
    refine q_isub hx hb dX6_isEclipse_56 ?_
    refine q_mmin hx hb (hml.trans hl.1.symm) hown (hts (.methodLink RX6 116 Lib.Math.min.name) (List.mem_of_getElem? (i := 3) rfl)) (hts (.static Lib.Math.min.name) (List.mem_of_getElem? (i := 4) rfl)) (hts (.initialized "java/lang/Math") (List.mem_of_getElem? (i := 5) rfl)) (hts (.code Lib.Math.min.name Lib.Math.min.code 2 (some .int)) (List.mem_of_getElem? (i := 6) rfl)) (by omega) (by omega) (Nat.le_of_ble_eq_true rfl) (Nat.le_of_ble_eq_true rfl) (Nat.zero_le _) (Nat.zero_le _) dX6_isEclipse_57 ?_
    refine lv_iload_n hx hb dX6_isEclipse_60 rfl (lv_at hl 4 rfl) ?_
    have key_73 : ∀ (rc : Int), rc = m_rc b → ∀ ls : Array Slot, lv_has ls 5 [(0, .ref a), (1, .int (iI (k))), (2, .int (iI (b))), (3, .int (iI (t))), (4, .int (iI (ov)))] → W p l e { frames := 1, cells := 0, slots := 0, locals := 22 } s m args below meth c s.heap [] 0 0 (MQ below (vp_Si (fun r => r = iI (m_en (σ 4) (σ 5) (m_tm (σ 2) (σ 3) k b) (m_rc b)))) args s 0 0 (fun _ => False)) (F0 m 73 ls [.int (iI (rc)), .int (iI (if σ 4 - ov < ov then σ 4 - ov else ov))]) := by
      intro rc hrc ls hl
      refine q_icmp_gt (tgt := 80) hx hb dX6_isEclipse_73 (by decide) (by split <;> omega) (by omega) (fun c_2 => ?_) (fun c_2 => ?_)
      · skip
        refine q_iconst hx hb dX6_isEclipse_80 ?_
        exact q_zret hx hb hr hlocks (by omega) (by unfold m_en; rw [← et, ← eov]; (repeat' split at c_6) <;> (repeat' split) <;> omega) dX6_isEclipse_81
      · skip
        refine q_iconst hx hb dX6_isEclipse_76 ?_
        refine lv_goto (tgt := 81) hx hb dX6_isEclipse_77 (by decide) ?_
        exact q_zret hx hb hr hlocks (by omega) (by unfold m_en; rw [← et, ← eov]; (repeat' split at c_6) <;> (repeat' split) <;> omega) dX6_isEclipse_81
    refine q_if_eq (tgt := 70) hx hb dX6_isEclipse_61 (by decide) (by omega) (fun c_3 => ?_) (fun c_3 => ?_)
    · skip
      refine q_sipush hx hb dX6_isEclipse_70 (by decide) ?_
      exact key_73 _ (by unfold m_rc; split <;> omega) _ (lv_sub hl [2, 3, 4, 1, 0] rfl)
    · skip
      refine q_sipush hx hb dX6_isEclipse_64 (by decide) ?_
      refine lv_goto (tgt := 73) hx hb dX6_isEclipse_67 (by decide) ?_
      exact key_73 _ (by unfold m_rc; split <;> omega) _ (lv_sub hl [2, 3, 4, 1, 0] rfl)
  · skip
    refine lv_iload_n hx hb dX6_isEclipse_16 rfl (lv_at hl 0 rfl) ?_
    refine q_ineg hx hb dX6_isEclipse_17 ?_
    refine lv_iload_n hx hb dX6_isEclipse_18 rfl (lv_at hl 3 rfl) ?_
    have key_31 : ∀ (rc : Int), rc = m_rc b → ∀ ls : Array Slot, lv_has ls 5 [(0, .ref a), (1, .int (iI (k))), (2, .int (iI (b))), (3, .int (iI (t)))] → W p l e { frames := 1, cells := 0, slots := 0, locals := 22 } s m args below meth c s.heap [] 0 0 (MQ below (vp_Si (fun r => r = iI (m_en (σ 4) (σ 5) (m_tm (σ 2) (σ 3) k b) (m_rc b)))) args s 0 0 (fun _ => False)) (F0 m 31 ls [.int (iI (rc)), .int (iI (-(t)))]) := by
      intro rc hrc ls hl
      refine q_icmp_gt (tgt := 38) hx hb dX6_isEclipse_31 (by decide) (by omega) (by omega) (fun c_4 => ?_) (fun c_4 => ?_)
      · skip
        refine q_iconst hx hb dX6_isEclipse_38 ?_
        exact q_zret hx hb hr hlocks (by omega) (by unfold m_en; rw [if_pos (by omega)]; split <;> omega) dX6_isEclipse_39
      · skip
        refine q_iconst hx hb dX6_isEclipse_34 ?_
        refine lv_goto (tgt := 39) hx hb dX6_isEclipse_35 (by decide) ?_
        exact q_zret hx hb hr hlocks (by omega) (by unfold m_en; rw [if_pos (by omega)]; split <;> omega) dX6_isEclipse_39
    refine q_if_eq (tgt := 28) hx hb dX6_isEclipse_19 (by decide) (by omega) (fun c_5 => ?_) (fun c_5 => ?_)
    · skip
      refine q_sipush hx hb dX6_isEclipse_28 (by decide) ?_
      exact key_31 _ (by unfold m_rc; split <;> omega) _ (lv_sub hl [1, 2, 3, 0] rfl)
    · skip
      refine q_sipush hx hb dX6_isEclipse_22 (by decide) ?_
      refine lv_goto (tgt := 31) hx hb dX6_isEclipse_25 (by decide) ?_
      exact key_31 _ (by unfold m_rc; split <;> omega) _ (lv_sub hl [1, 2, 3, 0] rfl)
set_option maxHeartbeats 4000000 in
set_option maxRecDepth 100000 in
theorem c_eclipsesIn (l : Launch) (D : va_G) (cI cO cL : ClassId) (a ta pa : Nat) (th : Int) (σ T P : Nat → Int) (hW : WF σ T) (hS : WS σ P) (fr to b : Int) (hfr : 0 ≤ fr ∧ fr ≤ 370000) (hto : 0 ≤ to ∧ to ≤ 370000) (hb01 : b = 0 ∨ b = 1) : MI l yX6_eclipsesIn wsX6_eclipsesIn 3 67 D (ty3 cI cO cL) (PicM D cI a ta pa th σ T P) [.ref a, .int (iI (fr)), .int (iI (to)), .int (iI (b))] (m_ce (σ 2) (σ 3) (σ 4) (σ 5) b (m_ff (σ 2) (σ 3) b (1000 * fr)) (m_ff (σ 2) (σ 3) b (1000 * to) - m_ff (σ 2) (σ 3) b (1000 * fr)).toNat) := by
  refine MI_of (cc := cX6_eclipsesIn) (maxL := 6) (ret := (some .int)) (by decide) rfl (Nat.le_of_ble_eq_true rfl) ?_
  intro p e s m args below meth c ls hx hb hr hlocks hml hown hts hPic hK hl
  have hl : lv_has ls 6 [(0, .ref a), (1, .int (iI (fr))), (2, .int (iI (to))), (3, .int (iI (b)))] := hl
  obtain ⟨w0, w1, w2, w3, w4, w5, w6, w7, w8⟩ := id hW
  have hfu := m_ff_up (ln := σ 2) (fi := σ 3) (b := b) (t := 1000 * to) w2 w3 (by omega)
  obtain ⟨en, een⟩ : ∃ en : Int, en = m_ff (σ 2) (σ 3) b (1000 * to) := ⟨_, rfl⟩
  refine q_iconst hx hb dX6_eclipsesIn_0 ?_
  refine lv_istore (lv' := [(4, .int (iI (0))), (0, .ref a), (1, .int (iI (fr))), (2, .int (iI (to))), (3, .int (iI (b)))]) hx hb dX6_eclipsesIn_1 hl (by decide) rfl (fun ls hl => ?_)
  refine lv_aload_n hx hb dX6_eclipsesIn_3 rfl (lv_at hl 1 rfl) ?_
  refine lv_iload_n hx hb dX6_eclipsesIn_4 rfl (lv_at hl 2 rfl) ?_
  refine lv_iload_n hx hb dX6_eclipsesIn_5 rfl (lv_at hl 4 rfl) ?_
  refine q_callV (fr := 2) (lo := 44) (nL := 6) (Pic := PicM D cI a ta pa th σ T P) (As := [.int (iI (fr)), .int (iI (b))]) (rest := []) ⟨hx, hb, hml, hown, hts⟩ (c_moonFrom l D cI cO cL a ta pa th σ T P hW hS (fr) (b) (by omega) (by omega)) (cwV 2 hts gX6_eclipsesIn_X6_moonFrom rfl rfl rfl (by decide +kernel) ⟨Nat.le_of_ble_eq_true rfl, Nat.le_of_ble_eq_true rfl⟩) (ob_recv hPic.ob hK rfl) hPic hK rfl hl.1 rfl (Nat.le_of_ble_eq_true rfl) dX6_eclipsesIn_6 (Nat.zero_le _) (Nat.zero_le _) ?_
  have hff6 := m_ff_in (ln := σ 2) (fi := σ 3) (b := (b)) (t := 1000 * (fr)) w2
  have hfu6 := m_ff_up (ln := σ 2) (fi := σ 3) (b := (b)) (t := 1000 * (fr)) w2 w3 (by omega)
  refine q_top (fun k0 ek0 => ?_)
  refine lv_istore (lv' := [(5, .int (iI (k0))), (4, .int (iI (0))), (0, .ref a), (1, .int (iI (fr))), (2, .int (iI (to))), (3, .int (iI (b)))]) hx hb dX6_eclipsesIn_9 hl (by decide) rfl (fun ls hl => ?_)
  have key_11 : ∀ (fu : Nat) (k : Int) (ec : Int), k0 ≤ k ∧ (k ≤ en ∨ k = k0) → ec = m_ce (σ 2) (σ 3) (σ 4) (σ 5) b k0 (k - k0).toNat → (((en - k).toNat : Int)) < (fu : Int) → ∀ ls : Array Slot, lv_has ls 6 [(0, .ref a), (1, .int (iI (fr))), (2, .int (iI (to))), (3, .int (iI (b))), (4, .int (iI (ec))), (5, .int (iI (k)))] → W p l e { frames := 3, cells := 0, slots := 0, locals := 67 } s m args below meth c s.heap [] 0 0 (MQ below (vp_Si (fun r => r = iI (m_ce (σ 2) (σ 3) (σ 4) (σ 5) b (m_ff (σ 2) (σ 3) b (1000 * fr)) (m_ff (σ 2) (σ 3) b (1000 * to) - m_ff (σ 2) (σ 3) b (1000 * fr)).toNat))) args s 0 0 (fun _ => False)) (F0 m 11 ls []) := by
    intro fu
    induction fu with
    | zero => intro k ec hk hec hm_11 ls hl; exact absurd hm_11 (by omega)
    | succ fu ih_11 =>
      intro k ec hk hec hm_11 ls hl
      have hlt := m_ff_lt (ln := σ 2) (fi := σ 3) (b := b) (t := 1000 * to) (k := k) w2 (by omega)
      refine lv_aload_n hx hb dX6_eclipsesIn_11 rfl (lv_at hl 0 rfl) ?_
      refine lv_iload hx hb dX6_eclipsesIn_12 (lv_at hl 5 rfl) ?_
      refine lv_iload_n hx hb dX6_eclipsesIn_14 rfl (lv_at hl 3 rfl) ?_
      refine q_callV (fr := 1) (lo := 22) (nL := 6) (Pic := PicM D cI a ta pa th σ T P) (As := [.int (iI (k)), .int (iI (b))]) (rest := []) ⟨hx, hb, hml, hown, hts⟩ (c_falls l D cI cO cL a ta pa th σ T P hW hS (k) (b) (by omega) (by omega)) (cwV 2 hts gX6_eclipsesIn_X6_falls rfl rfl rfl (by decide +kernel) ⟨Nat.le_of_ble_eq_true rfl, Nat.le_of_ble_eq_true rfl⟩) (ob_recv hPic.ob hK rfl) hPic hK rfl hl.1 rfl (Nat.le_of_ble_eq_true rfl) dX6_eclipsesIn_15 (Nat.zero_le _) (Nat.zero_le _) ?_
      have htm15 := m_tm_in (ln := σ 2) (fi := σ 3) (b := (b)) (k := (k)) w2 w3 (by omega)
      refine lv_iload_n hx hb dX6_eclipsesIn_18 rfl (lv_at hl 2 rfl) ?_
      refine q_icmp_ge (tgt := 48) hx hb dX6_eclipsesIn_19 (by decide) (by omega) (by omega) (fun c_1 => ?_) (fun c_1 => ?_)
      · skip
        refine lv_iload hx hb dX6_eclipsesIn_48 (lv_at hl 4 rfl) ?_
        exact q_iret hx hb hr hlocks (by rw [hec, ← een, ← ek0]; congr 1; omega) dX6_eclipsesIn_50
      · skip
        refine lv_iload hx hb dX6_eclipsesIn_22 (lv_at hl 4 rfl) ?_
        refine lv_aload_n hx hb dX6_eclipsesIn_24 rfl (lv_at hl 0 rfl) ?_
        refine lv_iload hx hb dX6_eclipsesIn_25 (lv_at hl 5 rfl) ?_
        refine lv_iload_n hx hb dX6_eclipsesIn_27 rfl (lv_at hl 3 rfl) ?_
        refine q_callV (fr := 1) (lo := 22) (nL := 6) (Pic := PicM D cI a ta pa th σ T P) (As := [.int (iI (k)), .int (iI (b))]) (rest := [.int (iI (ec))]) ⟨hx, hb, hml, hown, hts⟩ (c_isEclipse l D cI cO cL a ta pa th σ T P hW hS (k) (b) (by omega) (by omega)) (cwV 2 hts gX6_eclipsesIn_X6_isEclipse rfl rfl rfl (by decide +kernel) ⟨Nat.le_of_ble_eq_true rfl, Nat.le_of_ble_eq_true rfl⟩) (ob_recv hPic.ob hK rfl) hPic hK rfl hl.1 rfl (Nat.le_of_ble_eq_true rfl) dX6_eclipsesIn_28 (Nat.zero_le _) (Nat.zero_le _) ?_
        have hen28 := m_en_01 (σ 4) (σ 5) (m_tm (σ 2) (σ 3) (k) (b)) (m_rc (b))
        refine q_if_eq (tgt := 38) hx hb dX6_eclipsesIn_31 (by decide) (by omega) (fun c_2 => ?_) (fun c_2 => ?_)
        · skip
          refine q_iconst hx hb dX6_eclipsesIn_38 ?_
          refine q_iadd hx hb dX6_eclipsesIn_39 ?_
          refine q_top (fun ec2 eec2 => ?_)
          refine lv_istore (lv' := [(4, .int (iI (ec2))), (0, .ref a), (1, .int (iI (fr))), (2, .int (iI (to))), (3, .int (iI (b))), (5, .int (iI (k)))]) hx hb dX6_eclipsesIn_40 hl (by decide) rfl (fun ls hl => ?_)
          refine q_iinc (k := 5) (lv' := [(5, .int (iI (k + 1))), (4, .int (iI (ec2))), (0, .ref a), (1, .int (iI (fr))), (2, .int (iI (to))), (3, .int (iI (b)))]) hx hb dX6_eclipsesIn_42 hl rfl (by decide) rfl (fun ls hl => ?_)
          refine lv_goto (tgt := 11) hx hb dX6_eclipsesIn_45 (by decide) ?_
          have hst := m_ce_step (ln := σ 2) (fi := σ 3) (pe := σ 4) (nd := σ 5) (b := b) hk.1
          exact ih_11 _ _ (by omega) (by rw [hst]; omega) (by omega) _ (lv_sub hl [2, 3, 4, 5, 1, 0] rfl)
        · skip
          refine q_iconst hx hb dX6_eclipsesIn_34 ?_
          refine lv_goto (tgt := 39) hx hb dX6_eclipsesIn_35 (by decide) ?_
          refine q_iadd hx hb dX6_eclipsesIn_39 ?_
          refine q_top (fun ec2 eec2 => ?_)
          refine lv_istore (lv' := [(4, .int (iI (ec2))), (0, .ref a), (1, .int (iI (fr))), (2, .int (iI (to))), (3, .int (iI (b))), (5, .int (iI (k)))]) hx hb dX6_eclipsesIn_40 hl (by decide) rfl (fun ls hl => ?_)
          refine q_iinc (k := 5) (lv' := [(5, .int (iI (k + 1))), (4, .int (iI (ec2))), (0, .ref a), (1, .int (iI (fr))), (2, .int (iI (to))), (3, .int (iI (b)))]) hx hb dX6_eclipsesIn_42 hl rfl (by decide) rfl (fun ls hl => ?_)
          refine lv_goto (tgt := 11) hx hb dX6_eclipsesIn_45 (by decide) ?_
          have hst := m_ce_step (ln := σ 2) (fi := σ 3) (pe := σ 4) (nd := σ 5) (b := b) hk.1
          exact ih_11 _ _ (by omega) (by rw [hst]; omega) (by omega) _ (lv_sub hl [2, 3, 4, 5, 1, 0] rfl)
  exact key_11 ((en - k0).toNat + 1) _ _ (by omega) (by rw [show (k0 - k0).toNat = 0 by omega]; rfl) (by omega) _ (lv_sub hl [2, 3, 4, 5, 1, 0] rfl)
set_option maxHeartbeats 4000000 in
set_option maxRecDepth 100000 in
theorem c_eclipsesOf (l : Launch) (D : va_G) (cI cO cL : ClassId) (a ta pa : Nat) (th : Int) (σ T P : Nat → Int) (hW : WF σ T) (hS : WS σ P) (y b : Int) (hy : 0 ≤ y ∧ y ≤ 999) (hb01 : b = 0 ∨ b = 1) : MI l yX6_eclipsesOf wsX6_eclipsesOf 4 92 D (ty3 cI cO cL) (PicM D cI a ta pa th σ T P) [.ref a, .int (iI (y)), .int (iI (b))] (m_Eb σ y b) := by
  refine MI_of (cc := cX6_eclipsesOf) (maxL := 3) (ret := (some .int)) (by decide) rfl (Nat.le_of_ble_eq_true rfl) ?_
  intro p e s m args below meth c ls hx hb hr hlocks hml hown hts hPic hK hl
  have hl : lv_has ls 3 [(0, .ref a), (1, .int (iI (y))), (2, .int (iI (b)))] := hl
  obtain ⟨w0, w1, w2, w3, w4, w5, w6, w7, w8⟩ := id hW
  refine lv_aload_n hx hb dX6_eclipsesOf_0 rfl (lv_at hl 0 rfl) ?_
  refine lv_aload_n hx hb dX6_eclipsesOf_1 rfl (lv_at hl 0 rfl) ?_
  refine lv_iload_n hx hb dX6_eclipsesOf_2 rfl (lv_at hl 1 rfl) ?_
  refine q_callV (fr := 1) (lo := 21) (nL := 3) (Pic := PicM D cI a ta pa th σ T P) (As := [.int (iI (y))]) (rest := [.ref a]) ⟨hx, hb, hml, hown, hts⟩ (c_begins l D cI cO cL a ta pa th σ T P hW hS (y) (by omega)) (cwV 1 hts gX6_eclipsesOf_X6_begins rfl rfl rfl (by decide +kernel) ⟨Nat.le_of_ble_eq_true rfl, Nat.le_of_ble_eq_true rfl⟩) (ob_recv hPic.ob hK rfl) hPic hK rfl hl.1 rfl (Nat.le_of_ble_eq_true rfl) dX6_eclipsesOf_3 (Nat.zero_le _) (Nat.zero_le _) ?_
  have hfd3 := m_fd_le (cy := σ 0) (lq := σ 1) (y := (y)) w0.1 w1 (by omega)
  refine lv_aload_n hx hb dX6_eclipsesOf_6 rfl (lv_at hl 0 rfl) ?_
  refine lv_iload_n hx hb dX6_eclipsesOf_7 rfl (lv_at hl 1 rfl) ?_
  refine q_iconst hx hb dX6_eclipsesOf_8 ?_
  refine q_iadd hx hb dX6_eclipsesOf_9 ?_
  refine q_callV (fr := 1) (lo := 21) (nL := 3) (Pic := PicM D cI a ta pa th σ T P) (As := [.int (iI (y + 1))]) (rest := [.int (iI (m_fd (σ 0) (σ 1) (y))), .ref a]) ⟨hx, hb, hml, hown, hts⟩ (c_begins l D cI cO cL a ta pa th σ T P hW hS (y + 1) (by omega)) (cwV 1 hts gX6_eclipsesOf_X6_begins rfl rfl rfl (by decide +kernel) ⟨Nat.le_of_ble_eq_true rfl, Nat.le_of_ble_eq_true rfl⟩) (ob_recv hPic.ob hK rfl) hPic hK rfl hl.1 rfl (Nat.le_of_ble_eq_true rfl) dX6_eclipsesOf_10 (Nat.zero_le _) (Nat.zero_le _) ?_
  have hfd10 := m_fd_le (cy := σ 0) (lq := σ 1) (y := (y + 1)) w0.1 w1 (by omega)
  refine lv_iload_n hx hb dX6_eclipsesOf_13 rfl (lv_at hl 2 rfl) ?_
  refine q_callV (fr := 3) (lo := 67) (nL := 3) (Pic := PicM D cI a ta pa th σ T P) (As := [.int (iI (m_fd (σ 0) (σ 1) (y))), .int (iI (m_fd (σ 0) (σ 1) (y + 1))), .int (iI (b))]) (rest := []) ⟨hx, hb, hml, hown, hts⟩ (c_eclipsesIn l D cI cO cL a ta pa th σ T P hW hS (m_fd (σ 0) (σ 1) (y)) (m_fd (σ 0) (σ 1) (y + 1)) (b) (by omega) (by omega) (by omega)) (cwV 3 hts gX6_eclipsesOf_X6_eclipsesIn rfl rfl rfl (by decide +kernel) ⟨Nat.le_of_ble_eq_true rfl, Nat.le_of_ble_eq_true rfl⟩) (ob_recv hPic.ob hK rfl) hPic hK rfl hl.1 rfl (Nat.le_of_ble_eq_true rfl) dX6_eclipsesOf_14 (Nat.zero_le _) (Nat.zero_le _) ?_
  exact q_iret hx hb hr hlocks (rfl) dX6_eclipsesOf_17
set_option maxHeartbeats 4000000 in
set_option maxRecDepth 100000 in
theorem c_nextOf (l : Launch) (D : va_G) (cI cO cL : ClassId) (a ta pa : Nat) (th : Int) (σ T P : Nat → Int) (hW : WF σ T) (hS : WS σ P) (d b : Int) (hd : 0 ≤ d ∧ d < 366001) (hb01 : b = 0 ∨ b = 1) : MI l yX6_nextOf wsX6_nextOf 3 67 D (ty3 cI cO cL) (PicM D cI a ta pa th σ T P) [.ref a, .int (iI (d)), .int (iI (b))] (m_N2 σ d b) := by
  refine MI_of (cc := cX6_nextOf) (maxL := 4) (ret := (some .int)) (by decide) rfl (Nat.le_of_ble_eq_true rfl) ?_
  intro p e s m args below meth c ls hx hb hr hlocks hml hown hts hPic hK hl
  have hl : lv_has ls 4 [(0, .ref a), (1, .int (iI (d))), (2, .int (iI (b)))] := hl
  obtain ⟨w0, w1, w2, w3, w4, w5, w6, w7, w8⟩ := id hW
  have hfu := m_ff_up (ln := σ 2) (fi := σ 3) (b := b) (t := 1000 * (d + 3000)) w2 w3 (by omega)
  have hf0 := m_ff_in (ln := σ 2) (fi := σ 3) (b := b) (t := 1000 * (d + 3000)) w2
  obtain ⟨en, een⟩ : ∃ en : Int, en = m_ff (σ 2) (σ 3) b (1000 * (d + 3000)) := ⟨_, rfl⟩
  refine lv_aload_n hx hb dX6_nextOf_0 rfl (lv_at hl 0 rfl) ?_
  refine lv_iload_n hx hb dX6_nextOf_1 rfl (lv_at hl 1 rfl) ?_
  refine lv_iload_n hx hb dX6_nextOf_2 rfl (lv_at hl 2 rfl) ?_
  refine q_callV (fr := 2) (lo := 44) (nL := 4) (Pic := PicM D cI a ta pa th σ T P) (As := [.int (iI (d)), .int (iI (b))]) (rest := []) ⟨hx, hb, hml, hown, hts⟩ (c_moonFrom l D cI cO cL a ta pa th σ T P hW hS (d) (b) (by omega) (by omega)) (cwV 2 hts gX6_nextOf_X6_moonFrom rfl rfl rfl (by decide +kernel) ⟨Nat.le_of_ble_eq_true rfl, Nat.le_of_ble_eq_true rfl⟩) (ob_recv hPic.ob hK rfl) hPic hK rfl hl.1 rfl (Nat.le_of_ble_eq_true rfl) dX6_nextOf_3 (Nat.zero_le _) (Nat.zero_le _) ?_
  have hff3 := m_ff_in (ln := σ 2) (fi := σ 3) (b := (b)) (t := 1000 * (d)) w2
  have hfu3 := m_ff_up (ln := σ 2) (fi := σ 3) (b := (b)) (t := 1000 * (d)) w2 w3 (by omega)
  refine q_top (fun k0 ek0 => ?_)
  refine lv_istore_n (lv' := [(3, .int (iI (k0))), (0, .ref a), (1, .int (iI (d))), (2, .int (iI (b)))]) hx hb dX6_nextOf_6 rfl hl (by decide) rfl (fun ls hl => ?_)
  have key_7 : ∀ (fu : Nat) (k : Int), k0 ≤ k ∧ (k ≤ en ∨ k = k0) → m_nx (σ 2) (σ 3) (σ 4) (σ 5) b (en - k).toNat k = m_N2 σ d b → (((en - k).toNat : Int)) < (fu : Int) → ∀ ls : Array Slot, lv_has ls 4 [(0, .ref a), (1, .int (iI (d))), (2, .int (iI (b))), (3, .int (iI (k)))] → W p l e { frames := 3, cells := 0, slots := 0, locals := 67 } s m args below meth c s.heap [] 0 0 (MQ below (vp_Si (fun r => r = iI (m_N2 σ d b))) args s 0 0 (fun _ => False)) (F0 m 7 ls []) := by
    intro fu
    induction fu with
    | zero => intro k hk hnx hm_7 ls hl; exact absurd hm_7 (by omega)
    | succ fu ih_7 =>
      intro k hk hnx hm_7 ls hl
      have hlt := m_ff_lt (ln := σ 2) (fi := σ 3) (b := b) (t := 1000 * (d + 3000)) (k := k) w2 (by omega)
      refine lv_aload_n hx hb dX6_nextOf_7 rfl (lv_at hl 0 rfl) ?_
      refine lv_iload_n hx hb dX6_nextOf_8 rfl (lv_at hl 3 rfl) ?_
      refine lv_iload_n hx hb dX6_nextOf_9 rfl (lv_at hl 2 rfl) ?_
      refine q_callV (fr := 1) (lo := 22) (nL := 4) (Pic := PicM D cI a ta pa th σ T P) (As := [.int (iI (k)), .int (iI (b))]) (rest := []) ⟨hx, hb, hml, hown, hts⟩ (c_falls l D cI cO cL a ta pa th σ T P hW hS (k) (b) (by omega) (by omega)) (cwV 2 hts gX6_nextOf_X6_falls rfl rfl rfl (by decide +kernel) ⟨Nat.le_of_ble_eq_true rfl, Nat.le_of_ble_eq_true rfl⟩) (ob_recv hPic.ob hK rfl) hPic hK rfl hl.1 rfl (Nat.le_of_ble_eq_true rfl) dX6_nextOf_10 (Nat.zero_le _) (Nat.zero_le _) ?_
      have htm10 := m_tm_in (ln := σ 2) (fi := σ 3) (b := (b)) (k := (k)) w2 w3 (by omega)
      refine lv_iload_n hx hb dX6_nextOf_13 rfl (lv_at hl 1 rfl) ?_
      refine q_sipush hx hb dX6_nextOf_14 (by decide) ?_
      refine q_iadd hx hb dX6_nextOf_17 ?_
      refine q_icmp_gt (tgt := 36) hx hb dX6_nextOf_18 (by decide) (by omega) (by omega) (fun c_1 => ?_) (fun c_1 => ?_)
      · skip
        refine lv_aload_n hx hb dX6_nextOf_36 rfl (lv_at hl 0 rfl) ?_
        refine lv_iload_n hx hb dX6_nextOf_37 rfl (lv_at hl 3 rfl) ?_
        refine lv_iload_n hx hb dX6_nextOf_38 rfl (lv_at hl 2 rfl) ?_
        refine q_callV (fr := 1) (lo := 22) (nL := 4) (Pic := PicM D cI a ta pa th σ T P) (As := [.int (iI (k)), .int (iI (b))]) (rest := []) ⟨hx, hb, hml, hown, hts⟩ (c_falls l D cI cO cL a ta pa th σ T P hW hS (k) (b) (by omega) (by omega)) (cwV 2 hts gX6_nextOf_X6_falls rfl rfl rfl (by decide +kernel) ⟨Nat.le_of_ble_eq_true rfl, Nat.le_of_ble_eq_true rfl⟩) (ob_recv hPic.ob hK rfl) hPic hK rfl hl.1 rfl (Nat.le_of_ble_eq_true rfl) dX6_nextOf_39 (Nat.zero_le _) (Nat.zero_le _) ?_
        have htm39 := m_tm_in (ln := σ 2) (fi := σ 3) (b := (b)) (k := (k)) w2 w3 (by omega)
        exact q_iret hx hb hr hlocks (by first | rw [← hnx, m_nx_end (by omega)] | rw [← hnx, m_nx_step (k := k) (en := en) (by omega), if_pos (by omega)]) dX6_nextOf_42
      · skip
        refine lv_aload_n hx hb dX6_nextOf_21 rfl (lv_at hl 0 rfl) ?_
        refine lv_iload_n hx hb dX6_nextOf_22 rfl (lv_at hl 3 rfl) ?_
        refine lv_iload_n hx hb dX6_nextOf_23 rfl (lv_at hl 2 rfl) ?_
        refine q_callV (fr := 1) (lo := 22) (nL := 4) (Pic := PicM D cI a ta pa th σ T P) (As := [.int (iI (k)), .int (iI (b))]) (rest := []) ⟨hx, hb, hml, hown, hts⟩ (c_isEclipse l D cI cO cL a ta pa th σ T P hW hS (k) (b) (by omega) (by omega)) (cwV 2 hts gX6_nextOf_X6_isEclipse rfl rfl rfl (by decide +kernel) ⟨Nat.le_of_ble_eq_true rfl, Nat.le_of_ble_eq_true rfl⟩) (ob_recv hPic.ob hK rfl) hPic hK rfl hl.1 rfl (Nat.le_of_ble_eq_true rfl) dX6_nextOf_24 (Nat.zero_le _) (Nat.zero_le _) ?_
        have hen24 := m_en_01 (σ 4) (σ 5) (m_tm (σ 2) (σ 3) (k) (b)) (m_rc (b))
        refine q_if_ne (tgt := 36) hx hb dX6_nextOf_27 (by decide) (by omega) (fun c_2 => ?_) (fun c_2 => ?_)
        · skip
          refine lv_aload_n hx hb dX6_nextOf_36 rfl (lv_at hl 0 rfl) ?_
          refine lv_iload_n hx hb dX6_nextOf_37 rfl (lv_at hl 3 rfl) ?_
          refine lv_iload_n hx hb dX6_nextOf_38 rfl (lv_at hl 2 rfl) ?_
          refine q_callV (fr := 1) (lo := 22) (nL := 4) (Pic := PicM D cI a ta pa th σ T P) (As := [.int (iI (k)), .int (iI (b))]) (rest := []) ⟨hx, hb, hml, hown, hts⟩ (c_falls l D cI cO cL a ta pa th σ T P hW hS (k) (b) (by omega) (by omega)) (cwV 2 hts gX6_nextOf_X6_falls rfl rfl rfl (by decide +kernel) ⟨Nat.le_of_ble_eq_true rfl, Nat.le_of_ble_eq_true rfl⟩) (ob_recv hPic.ob hK rfl) hPic hK rfl hl.1 rfl (Nat.le_of_ble_eq_true rfl) dX6_nextOf_39 (Nat.zero_le _) (Nat.zero_le _) ?_
          have htm39 := m_tm_in (ln := σ 2) (fi := σ 3) (b := (b)) (k := (k)) w2 w3 (by omega)
          exact q_iret hx hb hr hlocks (by first | rw [← hnx, m_nx_end (by omega)] | rw [← hnx, m_nx_step (k := k) (en := en) (by omega), if_pos (by omega)]) dX6_nextOf_42
        · skip
          refine q_iinc (k := 3) (lv' := [(3, .int (iI (k + 1))), (0, .ref a), (1, .int (iI (d))), (2, .int (iI (b)))]) hx hb dX6_nextOf_30 hl rfl (by decide) rfl (fun ls hl => ?_)
          refine lv_goto (tgt := 7) hx hb dX6_nextOf_33 (by decide) ?_
          exact ih_7 _ (by omega) (by rw [← hnx, m_nx_step (k := k) (en := en) (by omega), if_neg (by omega)]) (by omega) _ (lv_sub hl [1, 2, 3, 0] rfl)
  exact key_7 ((en - k0).toNat + 1) _ (by omega) (by unfold m_N2; rw [een, ek0]) (by omega) _ (lv_sub hl [1, 2, 3, 0] rfl)
set_option maxHeartbeats 4000000 in
set_option maxRecDepth 100000 in
theorem c_fe (l : Launch) (D : va_G) (cI cO cL : ClassId) (a ta pa : Nat) (th : Int) (σ T P : Nat → Int) (hW : WF σ T) (hS : WS σ P) (f w : Int) (wn : Nat) (hw : w = (wn : Int)) (hf : 0 ≤ f ∧ f < 8) (hwn : wn ≤ 4) : MI l yX6_fe wsX6_fe 0 0 D (ty3 cI cO cL) (PicM D cI a ta pa th σ T P) [.ref a, .int (iI (f)), .int (iI (w))] (T (5 * f.toNat + wn)) := by
  refine MI_of (cc := cX6_fe) (maxL := 3) (ret := (some .int)) (by decide) rfl (Nat.le_of_ble_eq_true rfl) ?_
  intro p e s m args below meth c ls hx hb hr hlocks hml hown hts hPic hK hl
  have hl : lv_has ls 3 [(0, .ref a), (1, .int (iI (f))), (2, .int (iI (w)))] := hl
  have hin_X6 : ∀ w ∈ u_ws RX6 TX6 13, w ∈ wsX6_fe := (fun w h => List.mem_cons_of_mem _ (List.mem_append_right _ h))
  obtain ⟨w0, w1, w2, w3, w4, w5, w6, w7, w8⟩ := id hW
  refine lv_aload_n hx hb dX6_fe_0 rfl (lv_at hl 0 rfl) ?_
  refine q_get (ci := 8) (C := RX6) (T := TX6) (N := 13) hx hb hts hin_X6 hown hK (v := .ref ta) hPic.ob rfl 8 (by decide) (hts (.fieldLink RX6 23 "AlmanacHouseModel" "told" "[I") (List.mem_of_getElem? (i := 1) rfl)) (fun _ h9 => h9) rfl dX6_fe_1 ?_
  refine q_iconst hx hb dX6_fe_4 ?_
  refine lv_iload_n hx hb dX6_fe_5 rfl (lv_at hl 1 rfl) ?_
  refine q_imul hx hb dX6_fe_6 ?_
  refine lv_iload_n hx hb dX6_fe_7 rfl (lv_at hl 2 rfl) ?_
  refine q_iadd hx hb dX6_fe_8 ?_
  refine q_iald (cA := cI) (n := 40) (f := T) hx hb hK hPic.told 0 rfl (by omega) (by decide) dX6_fe_9 ?_
  exact q_iret hx hb hr hlocks (congrArg T (by omega)) dX6_fe_10
set_option maxHeartbeats 4000000 in
set_option maxRecDepth 100000 in
theorem c_feastDayM (l : Launch) (D : va_G) (cI cO cL : ClassId) (a ta pa : Nat) (th : Int) (σ T P : Nat → Int) (hW : WF σ T) (hS : WS σ P) (f y : Int) (hf : 0 ≤ f ∧ f < σ 6) (hy : 0 ≤ y ∧ y ≤ 999) : MI l yX6_feastDay wsX6_feastDay 3 69 D (ty3 cI cO cL) (PicM D cI a ta pa th σ T P) [.ref a, .int (iI (f)), .int (iI (y))] (m_F σ T f.toNat y) := by
  refine MI_of (cc := cX6_feastDay) (maxL := 4) (ret := (some .int)) (by decide) rfl (Nat.le_of_ble_eq_true rfl) ?_
  intro p e s m args below meth c ls hx hb hr hlocks hml hown hts hPic hK hl
  have hl : lv_has ls 4 [(0, .ref a), (1, .int (iI (f))), (2, .int (iI (y)))] := hl
  obtain ⟨w0, w1, w2, w3, w4, w5, w6, w7, w8⟩ := id hW
  obtain ⟨f0, f1, f2, f3, f4⟩ := w8 f.toNat (by omega)
  have hd1 := m_d1_in (ln := σ 2) (fi := σ 3) (mn := T (5 * f.toNat + 2)) w2 w3 f2 (m_d0_in (cy := σ 0) (lq := σ 1) (mo := T (5 * f.toNat)) (da := T (5 * f.toNat + 1)) (y := y) w0.1 w1 hy f0 f1)
  refine lv_aload_n hx hb dX6_feastDay_0 rfl (lv_at hl 0 rfl) ?_
  refine lv_iload_n hx hb dX6_feastDay_1 rfl (lv_at hl 2 rfl) ?_
  refine lv_aload_n hx hb dX6_feastDay_2 rfl (lv_at hl 0 rfl) ?_
  refine lv_iload_n hx hb dX6_feastDay_3 rfl (lv_at hl 1 rfl) ?_
  refine q_iconst hx hb dX6_feastDay_4 ?_
  refine q_callV (fr := 0) (lo := 0) (nL := 4) (Pic := PicM D cI a ta pa th σ T P) (As := [.int (iI (f)), .int (iI (0))]) (rest := [.int (iI (y)), .ref a]) ⟨hx, hb, hml, hown, hts⟩ (c_fe l D cI cO cL a ta pa th σ T P hW hS (f) (0) (0) (by omega) (by omega) (by omega)) (cwV 2 hts gX6_feastDay_X6_fe rfl rfl rfl (by decide +kernel) ⟨Nat.le_of_ble_eq_true rfl, Nat.le_of_ble_eq_true rfl⟩) (ob_recv hPic.ob hK rfl) hPic hK rfl hl.1 rfl (Nat.le_of_ble_eq_true rfl) dX6_feastDay_5 (Nat.zero_le _) (Nat.zero_le _) ?_
  refine lv_aload_n hx hb dX6_feastDay_8 rfl (lv_at hl 0 rfl) ?_
  refine lv_iload_n hx hb dX6_feastDay_9 rfl (lv_at hl 1 rfl) ?_
  refine q_iconst hx hb dX6_feastDay_10 ?_
  refine q_callV (fr := 0) (lo := 0) (nL := 4) (Pic := PicM D cI a ta pa th σ T P) (As := [.int (iI (f)), .int (iI (1))]) (rest := [.int (iI (T (5 * Int.toNat (f)))), .int (iI (y)), .ref a]) ⟨hx, hb, hml, hown, hts⟩ (c_fe l D cI cO cL a ta pa th σ T P hW hS (f) (1) (1) (by omega) (by omega) (by omega)) (cwV 2 hts gX6_feastDay_X6_fe rfl rfl rfl (by decide +kernel) ⟨Nat.le_of_ble_eq_true rfl, Nat.le_of_ble_eq_true rfl⟩) (ob_recv hPic.ob hK rfl) hPic hK rfl hl.1 rfl (Nat.le_of_ble_eq_true rfl) dX6_feastDay_11 (Nat.zero_le _) (Nat.zero_le _) ?_
  refine q_callV (fr := 2) (lo := 44) (nL := 4) (Pic := PicM D cI a ta pa th σ T P) (As := [.int (iI (y)), .int (iI (T (5 * Int.toNat (f)))), .int (iI (T (5 * Int.toNat (f) + 1)))]) (rest := []) ⟨hx, hb, hml, hown, hts⟩ (c_dayOf l D cI cO cL a ta pa th σ T P hW hS (y) (T (5 * Int.toNat (f))) (T (5 * Int.toNat (f) + 1)) (by omega) (by omega) (by omega)) (cwV 3 hts gX6_feastDay_X6_dayOf rfl rfl rfl (by decide +kernel) ⟨Nat.le_of_ble_eq_true rfl, Nat.le_of_ble_eq_true rfl⟩) (ob_recv hPic.ob hK rfl) hPic hK rfl hl.1 rfl (Nat.le_of_ble_eq_true rfl) dX6_feastDay_14 (Nat.zero_le _) (Nat.zero_le _) ?_
  have hd014 : 0 ≤ m_d0 (σ 0) (σ 1) (T (5 * Int.toNat (f))) (T (5 * Int.toNat (f) + 1)) (y) ∧ m_d0 (σ 0) (σ 1) (T (5 * Int.toNat (f))) (T (5 * Int.toNat (f) + 1)) (y) ≤ 366100 := by
    have hfd := m_fd_le (cy := σ 0) (lq := σ 1) (y := (y)) w0.1 w1 (by omega)
    unfold m_d0
    omega
  refine q_top (fun d0 ed0 => ?_)
  rw [← ed0] at hd1
  refine lv_istore_n (lv' := [(3, .int (iI (d0))), (0, .ref a), (1, .int (iI (f))), (2, .int (iI (y)))]) hx hb dX6_feastDay_17 rfl hl (by decide) rfl (fun ls hl => ?_)
  refine lv_aload_n hx hb dX6_feastDay_18 rfl (lv_at hl 1 rfl) ?_
  refine lv_iload_n hx hb dX6_feastDay_19 rfl (lv_at hl 2 rfl) ?_
  refine q_iconst hx hb dX6_feastDay_20 ?_
  refine q_callV (fr := 0) (lo := 0) (nL := 4) (Pic := PicM D cI a ta pa th σ T P) (As := [.int (iI (f)), .int (iI (2))]) (rest := []) ⟨hx, hb, hml, hown, hts⟩ (c_fe l D cI cO cL a ta pa th σ T P hW hS (f) (2) (2) (by omega) (by omega) (by omega)) (cwV 2 hts gX6_feastDay_X6_fe rfl rfl rfl (by decide +kernel) ⟨Nat.le_of_ble_eq_true rfl, Nat.le_of_ble_eq_true rfl⟩) (ob_recv hPic.ob hK rfl) hPic hK rfl hl.1 rfl (Nat.le_of_ble_eq_true rfl) dX6_feastDay_21 (Nat.zero_le _) (Nat.zero_le _) ?_
  have key_48 : ∀ (d1 : Int), d1 = m_d1 (σ 2) (σ 3) (T (5 * f.toNat + 2)) d0 → ∀ ls : Array Slot, lv_has ls 4 [(0, .ref a), (1, .int (iI (f))), (2, .int (iI (y))), (3, .int (iI (d1)))] → W p l e { frames := 3, cells := 0, slots := 0, locals := 69 } s m args below meth c s.heap [] 0 0 (MQ below (vp_Si (fun r => r = iI (m_F σ T f.toNat y))) args s 0 0 (fun _ => False)) (F0 m 48 ls []) := by
    intro d1 hd1e ls hl
    refine lv_aload_n hx hb dX6_feastDay_48 rfl (lv_at hl 0 rfl) ?_
    refine lv_iload_n hx hb dX6_feastDay_49 rfl (lv_at hl 1 rfl) ?_
    refine q_iconst hx hb dX6_feastDay_50 ?_
    refine q_callV (fr := 0) (lo := 0) (nL := 4) (Pic := PicM D cI a ta pa th σ T P) (As := [.int (iI (f)), .int (iI (3))]) (rest := []) ⟨hx, hb, hml, hown, hts⟩ (c_fe l D cI cO cL a ta pa th σ T P hW hS (f) (3) (3) (by omega) (by omega) (by omega)) (cwV 2 hts gX6_feastDay_X6_fe rfl rfl rfl (by decide +kernel) ⟨Nat.le_of_ble_eq_true rfl, Nat.le_of_ble_eq_true rfl⟩) (ob_recv hPic.ob hK rfl) hPic hK rfl hl.1 rfl (Nat.le_of_ble_eq_true rfl) dX6_feastDay_51 (Nat.zero_le _) (Nat.zero_le _) ?_
    refine q_iconst hx hb dX6_feastDay_54 ?_
    have key_78 : ∀ (d2 : Int), d2 = m_d2 (T (5 * f.toNat + 3)) d1 → ∀ ls : Array Slot, lv_has ls 4 [(0, .ref a), (1, .int (iI (f))), (2, .int (iI (y))), (3, .int (iI (d2)))] → W p l e { frames := 3, cells := 0, slots := 0, locals := 69 } s m args below meth c s.heap [] 0 0 (MQ below (vp_Si (fun r => r = iI (m_F σ T f.toNat y))) args s 0 0 (fun _ => False)) (F0 m 78 ls []) := by
      intro d2 hd2e ls hl
      refine lv_iload_n hx hb dX6_feastDay_78 rfl (lv_at hl 3 rfl) ?_
      refine lv_aload_n hx hb dX6_feastDay_79 rfl (lv_at hl 0 rfl) ?_
      refine lv_iload_n hx hb dX6_feastDay_80 rfl (lv_at hl 1 rfl) ?_
      refine q_iconst hx hb dX6_feastDay_81 ?_
      refine q_callV (fr := 0) (lo := 0) (nL := 4) (Pic := PicM D cI a ta pa th σ T P) (As := [.int (iI (f)), .int (iI (4))]) (rest := [.int (iI (d2))]) ⟨hx, hb, hml, hown, hts⟩ (c_fe l D cI cO cL a ta pa th σ T P hW hS (f) (4) (4) (by omega) (by omega) (by omega)) (cwV 2 hts gX6_feastDay_X6_fe rfl rfl rfl (by decide +kernel) ⟨Nat.le_of_ble_eq_true rfl, Nat.le_of_ble_eq_true rfl⟩) (ob_recv hPic.ob hK rfl) hPic hK rfl hl.1 rfl (Nat.le_of_ble_eq_true rfl) dX6_feastDay_82 (Nat.zero_le _) (Nat.zero_le _) ?_
      refine q_iadd hx hb dX6_feastDay_85 ?_
      exact q_iret hx hb hr hlocks (by unfold m_F m_fday; rw [← ed0, ← hd1e, ← hd2e]) dX6_feastDay_86
    refine q_icmp_eq (tgt := 78) hx hb dX6_feastDay_55 (by decide) (by omega) (by omega) (fun c_1 => ?_) (fun c_1 => ?_)
    · skip
      exact key_78 _ (by unfold m_d2; split <;> omega) _ (lv_sub hl [0, 1, 2, 3] rfl)
    · skip
      refine lv_iload_n hx hb dX6_feastDay_58 rfl (lv_at hl 3 rfl) ?_
      refine lv_aload_n hx hb dX6_feastDay_59 rfl (lv_at hl 0 rfl) ?_
      refine lv_iload_n hx hb dX6_feastDay_60 rfl (lv_at hl 1 rfl) ?_
      refine q_iconst hx hb dX6_feastDay_61 ?_
      refine q_callV (fr := 0) (lo := 0) (nL := 4) (Pic := PicM D cI a ta pa th σ T P) (As := [.int (iI (f)), .int (iI (3))]) (rest := [.int (iI (d1))]) ⟨hx, hb, hml, hown, hts⟩ (c_fe l D cI cO cL a ta pa th σ T P hW hS (f) (3) (3) (by omega) (by omega) (by omega)) (cwV 2 hts gX6_feastDay_X6_fe rfl rfl rfl (by decide +kernel) ⟨Nat.le_of_ble_eq_true rfl, Nat.le_of_ble_eq_true rfl⟩) (ob_recv hPic.ob hK rfl) hPic hK rfl hl.1 rfl (Nat.le_of_ble_eq_true rfl) dX6_feastDay_62 (Nat.zero_le _) (Nat.zero_le _) ?_
      refine lv_iload_n hx hb dX6_feastDay_65 rfl (lv_at hl 3 rfl) ?_
      refine q_bipush hx hb dX6_feastDay_66 (by decide) ?_
      refine q_irem hx hb dX6_feastDay_68 (by omega) (by omega) ?_
      refine q_isub hx hb dX6_feastDay_69 ?_
      refine q_bipush hx hb dX6_feastDay_70 (by decide) ?_
      refine q_iadd hx hb dX6_feastDay_72 ?_
      refine q_bipush hx hb dX6_feastDay_73 (by decide) ?_
      refine q_irem hx hb dX6_feastDay_75 (by omega) (by omega) ?_
      refine q_iadd hx hb dX6_feastDay_76 ?_
      refine q_top (fun d2x ed2x => ?_)
      refine lv_istore_n (lv' := [(3, .int (iI (d2x))), (0, .ref a), (1, .int (iI (f))), (2, .int (iI (y)))]) hx hb dX6_feastDay_77 rfl hl (by decide) rfl (fun ls hl => ?_)
      exact key_78 _ (by unfold m_d2; split <;> omega) _ (lv_sub hl [1, 2, 3, 0] rfl)
  refine q_if_le (tgt := 48) hx hb dX6_feastDay_24 (by decide) (by omega) (fun c_2 => ?_) (fun c_2 => ?_)
  · skip
    exact key_48 _ (by unfold m_d1; split <;> omega) _ (lv_sub hl [1, 2, 3, 0] rfl)
  · skip
    refine lv_aload_n hx hb dX6_feastDay_27 rfl (lv_at hl 1 rfl) ?_
    refine lv_aload_n hx hb dX6_feastDay_28 rfl (lv_at hl 1 rfl) ?_
    refine lv_iload_n hx hb dX6_feastDay_29 rfl (lv_at hl 0 rfl) ?_
    refine q_iconst hx hb dX6_feastDay_30 ?_
    refine q_callV (fr := 2) (lo := 44) (nL := 4) (Pic := PicM D cI a ta pa th σ T P) (As := [.int (iI (d0)), .int (iI (1))]) (rest := [.ref a]) ⟨hx, hb, hml, hown, hts⟩ (c_moonFrom l D cI cO cL a ta pa th σ T P hW hS (d0) (1) (by omega) (by omega)) (cwV 2 hts gX6_feastDay_X6_moonFrom rfl rfl rfl (by decide +kernel) ⟨Nat.le_of_ble_eq_true rfl, Nat.le_of_ble_eq_true rfl⟩) (ob_recv hPic.ob hK rfl) hPic hK rfl hl.1 rfl (Nat.le_of_ble_eq_true rfl) dX6_feastDay_31 (Nat.zero_le _) (Nat.zero_le _) ?_
    have hff31 := m_ff_in (ln := σ 2) (fi := σ 3) (b := (1)) (t := 1000 * (d0)) w2
    have hfu31 := m_ff_up (ln := σ 2) (fi := σ 3) (b := (1)) (t := 1000 * (d0)) w2 w3 (by omega)
    refine lv_aload_n hx hb dX6_feastDay_34 rfl (lv_at hl 1 rfl) ?_
    refine lv_iload_n hx hb dX6_feastDay_35 rfl (lv_at hl 2 rfl) ?_
    refine q_iconst hx hb dX6_feastDay_36 ?_
    refine q_callV (fr := 0) (lo := 0) (nL := 4) (Pic := PicM D cI a ta pa th σ T P) (As := [.int (iI (f)), .int (iI (2))]) (rest := [.int (iI (m_ff (σ 2) (σ 3) (1) (1000 * (d0)))), .ref a]) ⟨hx, hb, hml, hown, hts⟩ (c_fe l D cI cO cL a ta pa th σ T P hW hS (f) (2) (2) (by omega) (by omega) (by omega)) (cwV 2 hts gX6_feastDay_X6_fe rfl rfl rfl (by decide +kernel) ⟨Nat.le_of_ble_eq_true rfl, Nat.le_of_ble_eq_true rfl⟩) (ob_recv hPic.ob hK rfl) hPic hK rfl hl.1 rfl (Nat.le_of_ble_eq_true rfl) dX6_feastDay_37 (Nat.zero_le _) (Nat.zero_le _) ?_
    refine q_iadd hx hb dX6_feastDay_40 ?_
    refine q_iconst hx hb dX6_feastDay_41 ?_
    refine q_isub hx hb dX6_feastDay_42 ?_
    refine q_iconst hx hb dX6_feastDay_43 ?_
    refine q_callV (fr := 1) (lo := 22) (nL := 4) (Pic := PicM D cI a ta pa th σ T P) (As := [.int (iI (((m_ff (σ 2) (σ 3) (1) (1000 * (d0))) + (T (5 * Int.toNat (f) + 2))) - (1))), .int (iI (1))]) (rest := []) ⟨hx, hb, hml, hown, hts⟩ (c_falls l D cI cO cL a ta pa th σ T P hW hS (((m_ff (σ 2) (σ 3) (1) (1000 * (d0))) + (T (5 * Int.toNat (f) + 2))) - (1)) (1) (by omega) (by omega)) (cwV 2 hts gX6_feastDay_X6_falls rfl rfl rfl (by decide +kernel) ⟨Nat.le_of_ble_eq_true rfl, Nat.le_of_ble_eq_true rfl⟩) (ob_recv hPic.ob hK rfl) hPic hK rfl hl.1 rfl (Nat.le_of_ble_eq_true rfl) dX6_feastDay_44 (Nat.zero_le _) (Nat.zero_le _) ?_
    have htm44 := m_tm_in (ln := σ 2) (fi := σ 3) (b := (1)) (k := (((m_ff (σ 2) (σ 3) (1) (1000 * (d0))) + (T (5 * Int.toNat (f) + 2))) - (1))) w2 w3 (by omega)
    refine q_top (fun d1x ed1x => ?_)
    refine lv_istore_n (lv' := [(3, .int (iI (d1x))), (0, .ref a), (1, .int (iI (f))), (2, .int (iI (y)))]) hx hb dX6_feastDay_47 rfl hl (by decide) rfl (fun ls hl => ?_)
    exact key_48 _ (by unfold m_d1; split <;> omega) _ (lv_sub hl [1, 2, 3, 0] rfl)
set_option maxHeartbeats 4000000 in
set_option maxRecDepth 100000 in
theorem c_isFeast (l : Launch) (D : va_G) (cI cO cL : ClassId) (a ta pa : Nat) (th : Int) (σ T P : Nat → Int) (hW : WF σ T) (hS : WS σ P) (j : Int) (hj : -2147483648 ≤ j ∧ j < 2147483648) : MI l yX6_isFeast wsX6_isFeast 1 22 D (ty3 cI cO cL) (PicM D cI a ta pa th σ T P) [.ref a, .int (iI (j))] (if 0 ≤ j ∧ j < σ 6 then 1 else 0) := by
  refine MI_of (cc := cX6_isFeast) (maxL := 2) (ret := (some .boolean)) (by decide) rfl (Nat.le_of_ble_eq_true rfl) ?_
  intro p e s m args below meth c ls hx hb hr hlocks hml hown hts hPic hK hl
  have hl : lv_has ls 2 [(0, .ref a), (1, .int (iI (j)))] := hl
  have hin_X6 : ∀ w ∈ u_ws RX6 TX6 13, w ∈ wsX6_isFeast := (fun w h => List.mem_cons_of_mem _ (List.mem_append_right _ h))
  obtain ⟨w0, w1, w2, w3, w4, w5, w6, w7, w8⟩ := id hW
  refine lv_iload_n hx hb dX6_isFeast_0 rfl (lv_at hl 1 rfl) ?_
  refine q_iconst hx hb dX6_isFeast_1 ?_
  refine lv_aload_n hx hb dX6_isFeast_2 rfl (lv_at hl 0 rfl) ?_
  refine q_get (ci := 8) (C := RX6) (T := TX6) (N := 13) hx hb hts hin_X6 hown hK (v := .int (iI (σ 6))) hPic.ob rfl 7 (by decide) (hts (.fieldLink RX6 140 "AlmanacHouseModel" "feasts" "I") (List.mem_of_getElem? (i := 1) rfl)) (fun _ h9 => h9) rfl dX6_isFeast_3 ?_
  refine q_iconst hx hb dX6_isFeast_6 ?_
  refine q_isub hx hb dX6_isFeast_7 ?_
  refine q_callS (fr := 0) (lo := 0) (nL := 2) (Pic := fun _ => True) (As := [.int (iI (j)), .int (iI (0)), .int (iI ((σ 6) - (1)))]) (rest := []) ⟨hx, hb, hml, hown, hts⟩ (c_isIn l D (ty3 cI cO cL) (j) (0) ((σ 6) - (1)) (by omega) (by omega) (by omega)) (va_cwS 3 hts gX6_isFeast_X6_isIn rfl rfl rfl (by decide +kernel) ⟨Nat.le_of_ble_eq_true rfl, Nat.le_of_ble_eq_true rfl⟩) trivial hK rfl hl.1 rfl (Nat.le_of_ble_eq_true rfl) dX6_isFeast_8 (Nat.zero_le _) (Nat.zero_le _) ?_
  exact q_zret hx hb hr hlocks (by split <;> omega) (by (repeat' split) <;> omega) dX6_isFeast_11
set_option maxHeartbeats 4000000 in
set_option maxRecDepth 100000 in
theorem c_isSheetM (l : Launch) (D : va_G) (cI cO cL : ClassId) (a ta pa : Nat) (th : Int) (σ T P : Nat → Int) (hW : WF σ T) (hS : WS σ P) (j : Int) (hj : -2147483648 ≤ j ∧ j < 2147483648) : MI l yX6_isSheet wsX6_isSheet 1 22 D (ty3 cI cO cL) (PicM D cI a ta pa th σ T P) [.ref a, .int (iI (j))] (if 0 ≤ j ∧ j < σ 7 then 1 else 0) := by
  refine MI_of (cc := cX6_isSheet) (maxL := 2) (ret := (some .boolean)) (by decide) rfl (Nat.le_of_ble_eq_true rfl) ?_
  intro p e s m args below meth c ls hx hb hr hlocks hml hown hts hPic hK hl
  have hl : lv_has ls 2 [(0, .ref a), (1, .int (iI (j)))] := hl
  have hin_X6 : ∀ w ∈ u_ws RX6 TX6 13, w ∈ wsX6_isSheet := (fun w h => List.mem_cons_of_mem _ (List.mem_append_right _ h))
  obtain ⟨w0, w1, w2, w3, w4, w5, w6, w7, w8⟩ := id hW
  refine lv_iload_n hx hb dX6_isSheet_0 rfl (lv_at hl 1 rfl) ?_
  refine q_iconst hx hb dX6_isSheet_1 ?_
  refine lv_aload_n hx hb dX6_isSheet_2 rfl (lv_at hl 0 rfl) ?_
  refine q_get (ci := 8) (C := RX6) (T := TX6) (N := 13) hx hb hts hin_X6 hown hK (v := .int (iI (σ 7))) hPic.ob rfl 9 (by decide) (hts (.fieldLink RX6 161 "AlmanacHouseModel" "sheets" "I") (List.mem_of_getElem? (i := 1) rfl)) (fun _ h9 => h9) rfl dX6_isSheet_3 ?_
  refine q_iconst hx hb dX6_isSheet_6 ?_
  refine q_isub hx hb dX6_isSheet_7 ?_
  refine q_callS (fr := 0) (lo := 0) (nL := 2) (Pic := fun _ => True) (As := [.int (iI (j)), .int (iI (0)), .int (iI ((σ 7) - (1)))]) (rest := []) ⟨hx, hb, hml, hown, hts⟩ (c_isIn l D (ty3 cI cO cL) (j) (0) ((σ 7) - (1)) (by omega) (by omega) (by omega)) (va_cwS 3 hts gX6_isSheet_X6_isIn rfl rfl rfl (by decide +kernel) ⟨Nat.le_of_ble_eq_true rfl, Nat.le_of_ble_eq_true rfl⟩) trivial hK rfl hl.1 rfl (Nat.le_of_ble_eq_true rfl) dX6_isSheet_8 (Nat.zero_le _) (Nat.zero_le _) ?_
  exact q_zret hx hb hr hlocks (by split <;> omega) (by (repeat' split) <;> omega) dX6_isSheet_11
set_option maxHeartbeats 4000000 in
set_option maxRecDepth 100000 in
theorem c_pa (l : Launch) (D : va_G) (cI cO cL : ClassId) (a ta pa : Nat) (th : Int) (σ T P : Nat → Int) (hW : WF σ T) (hS : WS σ P) (j w : Int) (ix : Nat) (hix : 11 * j + w = (ix : Int)) (hlt : ix < 110) : MI l yX6_pa wsX6_pa 0 0 D (ty3 cI cO cL) (PicM D cI a ta pa th σ T P) [.ref a, .int (iI (j)), .int (iI (w))] (P ix) := by
  refine MI_of (cc := cX6_pa) (maxL := 3) (ret := (some .int)) (by decide) rfl (Nat.le_of_ble_eq_true rfl) ?_
  intro p e s m args below meth c ls hx hb hr hlocks hml hown hts hPic hK hl
  have hl : lv_has ls 3 [(0, .ref a), (1, .int (iI (j))), (2, .int (iI (w)))] := hl
  have hin_X6 : ∀ w ∈ u_ws RX6 TX6 13, w ∈ wsX6_pa := (fun w h => List.mem_cons_of_mem _ (List.mem_append_right _ h))
  obtain ⟨w0, w1, w2, w3, w4, w5, w6, w7, w8⟩ := id hW
  refine lv_aload_n hx hb dX6_pa_0 rfl (lv_at hl 0 rfl) ?_
  refine q_get (ci := 8) (C := RX6) (T := TX6) (N := 13) hx hb hts hin_X6 hown hK (v := .ref pa) hPic.ob rfl 10 (by decide) (hts (.fieldLink RX6 27 "AlmanacHouseModel" "paper" "[I") (List.mem_of_getElem? (i := 1) rfl)) (fun _ h9 => h9) rfl dX6_pa_1 ?_
  refine q_bipush hx hb dX6_pa_4 (by decide) ?_
  refine lv_iload_n hx hb dX6_pa_6 rfl (lv_at hl 1 rfl) ?_
  refine q_imul hx hb dX6_pa_7 ?_
  refine lv_iload_n hx hb dX6_pa_8 rfl (lv_at hl 2 rfl) ?_
  refine q_iadd hx hb dX6_pa_9 ?_
  refine q_iald (cA := cI) (n := 110) (f := P) hx hb hK hPic.paper 0 rfl (by omega) (by decide) dX6_pa_10 ?_
  exact q_iret hx hb hr hlocks (congrArg P (by omega)) dX6_pa_11
set_option maxHeartbeats 4000000 in
set_option maxRecDepth 100000 in
theorem c_allEclipses (l : Launch) (D : va_G) (cI cO cL : ClassId) (a ta pa : Nat) (th : Int) (σ T P : Nat → Int) (hW : WF σ T) (hS : WS σ P) (y : Int) (hy : 0 ≤ y ∧ y ≤ 999) : MI l yX6_allEclipses wsX6_allEclipses 5 114 D (ty3 cI cO cL) (PicM D cI a ta pa th σ T P) [.ref a, .int (iI (y))] (m_E σ y) := by
  refine MI_of (cc := cX6_allEclipses) (maxL := 2) (ret := (some .int)) (by decide) rfl (Nat.le_of_ble_eq_true rfl) ?_
  intro p e s m args below meth c ls hx hb hr hlocks hml hown hts hPic hK hl
  have hl : lv_has ls 2 [(0, .ref a), (1, .int (iI (y)))] := hl
  obtain ⟨w0, w1, w2, w3, w4, w5, w6, w7, w8⟩ := id hW
  refine lv_aload_n hx hb dX6_allEclipses_0 rfl (lv_at hl 0 rfl) ?_
  refine lv_iload_n hx hb dX6_allEclipses_1 rfl (lv_at hl 1 rfl) ?_
  refine q_iconst hx hb dX6_allEclipses_2 ?_
  refine q_callV (fr := 4) (lo := 92) (nL := 2) (Pic := PicM D cI a ta pa th σ T P) (As := [.int (iI (y)), .int (iI (0))]) (rest := []) ⟨hx, hb, hml, hown, hts⟩ (c_eclipsesOf l D cI cO cL a ta pa th σ T P hW hS (y) (0) (by omega) (by omega)) (cwV 2 hts gX6_allEclipses_X6_eclipsesOf rfl rfl rfl (by decide +kernel) ⟨Nat.le_of_ble_eq_true rfl, Nat.le_of_ble_eq_true rfl⟩) (ob_recv hPic.ob hK rfl) hPic hK rfl hl.1 rfl (Nat.le_of_ble_eq_true rfl) dX6_allEclipses_3 (Nat.zero_le _) (Nat.zero_le _) ?_
  have hE3 := m_Eb_in hW (y := (y)) (b := (0)) (by omega)
  refine lv_aload_n hx hb dX6_allEclipses_6 rfl (lv_at hl 0 rfl) ?_
  refine lv_iload_n hx hb dX6_allEclipses_7 rfl (lv_at hl 1 rfl) ?_
  refine q_iconst hx hb dX6_allEclipses_8 ?_
  refine q_callV (fr := 4) (lo := 92) (nL := 2) (Pic := PicM D cI a ta pa th σ T P) (As := [.int (iI (y)), .int (iI (1))]) (rest := [.int (iI (m_Eb σ (y) (0)))]) ⟨hx, hb, hml, hown, hts⟩ (c_eclipsesOf l D cI cO cL a ta pa th σ T P hW hS (y) (1) (by omega) (by omega)) (cwV 2 hts gX6_allEclipses_X6_eclipsesOf rfl rfl rfl (by decide +kernel) ⟨Nat.le_of_ble_eq_true rfl, Nat.le_of_ble_eq_true rfl⟩) (ob_recv hPic.ob hK rfl) hPic hK rfl hl.1 rfl (Nat.le_of_ble_eq_true rfl) dX6_allEclipses_9 (Nat.zero_le _) (Nat.zero_le _) ?_
  have hE9 := m_Eb_in hW (y := (y)) (b := (1)) (by omega)
  refine q_iadd hx hb dX6_allEclipses_12 ?_
  exact q_iret hx hb hr hlocks (rfl) dX6_allEclipses_13
set_option maxHeartbeats 4000000 in
set_option maxRecDepth 100000 in
theorem c_off (l : Launch) (D : va_G) (cI cO cL : ClassId) (a ta pa : Nat) (th : Int) (σ T P : Nat → Int) (hW : WF σ T) (hS : WS σ P) (j f : Int) (hj : 0 ≤ j ∧ j < σ 7) (hf : 0 ≤ f ∧ f < σ 6) : MI l yX6_off wsX6_off 4 92 D (ty3 cI cO cL) (PicM D cI a ta pa th σ T P) [.ref a, .int (iI (j)), .int (iI (f))] (m_abs (m_F σ T f.toNat (P (11 * j.toNat)) - P (11 * j.toNat + 3 + f.toNat))) := by
  refine MI_of (cc := cX6_off) (maxL := 3) (ret := (some .int)) (by decide) rfl (Nat.le_of_ble_eq_true rfl) ?_
  intro p e s m args below meth c ls hx hb hr hlocks hml hown hts hPic hK hl
  have hl : lv_has ls 3 [(0, .ref a), (1, .int (iI (j))), (2, .int (iI (f)))] := hl
  obtain ⟨w0, w1, w2, w3, w4, w5, w6, w7, w8⟩ := id hW
  obtain ⟨s1, s2, s3, s4⟩ := hS j.toNat (by omega)
  have hday := s4 f.toNat (by omega)
  refine lv_aload_n hx hb dX6_off_0 rfl (lv_at hl 0 rfl) ?_
  refine lv_iload_n hx hb dX6_off_1 rfl (lv_at hl 1 rfl) ?_
  refine q_iconst hx hb dX6_off_2 ?_
  refine lv_iload_n hx hb dX6_off_3 rfl (lv_at hl 2 rfl) ?_
  refine q_iadd hx hb dX6_off_4 ?_
  refine q_callV (fr := 0) (lo := 0) (nL := 3) (Pic := PicM D cI a ta pa th σ T P) (As := [.int (iI (j)), .int (iI (3 + f))]) (rest := []) ⟨hx, hb, hml, hown, hts⟩ (c_pa l D cI cO cL a ta pa th σ T P hW hS (j) (3 + f) (11 * Int.toNat (j) + 3 + Int.toNat (f)) (by omega) (by omega)) (cwV 2 hts gX6_off_X6_pa rfl rfl rfl (by decide +kernel) ⟨Nat.le_of_ble_eq_true rfl, Nat.le_of_ble_eq_true rfl⟩) (ob_recv hPic.ob hK rfl) hPic hK rfl hl.1 rfl (Nat.le_of_ble_eq_true rfl) dX6_off_5 (Nat.zero_le _) (Nat.zero_le _) ?_
  refine lv_aload_n hx hb dX6_off_8 rfl (lv_at hl 0 rfl) ?_
  refine lv_iload_n hx hb dX6_off_9 rfl (lv_at hl 2 rfl) ?_
  refine lv_aload_n hx hb dX6_off_10 rfl (lv_at hl 0 rfl) ?_
  refine lv_iload_n hx hb dX6_off_11 rfl (lv_at hl 1 rfl) ?_
  refine q_iconst hx hb dX6_off_12 ?_
  refine q_callV (fr := 0) (lo := 0) (nL := 3) (Pic := PicM D cI a ta pa th σ T P) (As := [.int (iI (j)), .int (iI (0))]) (rest := [.int (iI (f)), .ref a, .int (iI (P (11 * Int.toNat (j) + 3 + Int.toNat (f))))]) ⟨hx, hb, hml, hown, hts⟩ (c_pa l D cI cO cL a ta pa th σ T P hW hS (j) (0) (11 * Int.toNat (j)) (by omega) (by omega)) (cwV 2 hts gX6_off_X6_pa rfl rfl rfl (by decide +kernel) ⟨Nat.le_of_ble_eq_true rfl, Nat.le_of_ble_eq_true rfl⟩) (ob_recv hPic.ob hK rfl) hPic hK rfl hl.1 rfl (Nat.le_of_ble_eq_true rfl) dX6_off_13 (Nat.zero_le _) (Nat.zero_le _) ?_
  refine q_callV (fr := 3) (lo := 69) (nL := 3) (Pic := PicM D cI a ta pa th σ T P) (As := [.int (iI (f)), .int (iI (P (11 * Int.toNat (j))))]) (rest := [.int (iI (P (11 * Int.toNat (j) + 3 + Int.toNat (f))))]) ⟨hx, hb, hml, hown, hts⟩ (c_feastDayM l D cI cO cL a ta pa th σ T P hW hS (f) (P (11 * Int.toNat (j))) (by omega) (by omega)) (cwV 2 hts gX6_off_X6_feastDay rfl rfl rfl (by decide +kernel) ⟨Nat.le_of_ble_eq_true rfl, Nat.le_of_ble_eq_true rfl⟩) (ob_recv hPic.ob hK rfl) hPic hK rfl hl.1 rfl (Nat.le_of_ble_eq_true rfl) dX6_off_16 (Nat.zero_le _) (Nat.zero_le _) ?_
  have hF16 := m_F_in hW (i := Int.toNat (f)) (by omega) (y := P (11 * Int.toNat (j))) (by omega)
  refine q_isub hx hb dX6_off_19 ?_
  refine q_mabs hx hb (hml.trans hl.1.symm) hown (hts (.methodLink RX6 171 Lib.Math.abs.name) (List.mem_of_getElem? (i := 1) rfl)) (hts (.static Lib.Math.abs.name) (List.mem_of_getElem? (i := 2) rfl)) (hts (.initialized "java/lang/Math") (List.mem_of_getElem? (i := 3) rfl)) (hts (.code Lib.Math.abs.name Lib.Math.abs.code 1 (some .int)) (List.mem_of_getElem? (i := 4) rfl)) (by omega) (Nat.le_of_ble_eq_true rfl) (Nat.le_of_ble_eq_true rfl) (Nat.zero_le _) (Nat.zero_le _) dX6_off_20 ?_
  exact q_iret hx hb hr hlocks (by unfold m_abs; (repeat' split) <;> omega) dX6_off_23
set_option maxHeartbeats 4000000 in
set_option maxRecDepth 100000 in
theorem c_sheetTold (l : Launch) (D : va_G) (cI cO cL : ClassId) (a ta pa : Nat) (th : Int) (σ T P : Nat → Int) (hW : WF σ T) (hS : WS σ P) (j w : Int) (hj : 0 ≤ j ∧ j < σ 7) (hw : 0 ≤ w ∧ w ≤ 4) : MI l yX6_sheetTold wsX6_sheetTold 6 135 D (ty3 cI cO cL) (PicM D cI a ta pa th σ T P) [.ref a, .int (iI (j)), .int (iI (w))] (m_told σ T P j.toNat w) := by
  refine MI_of (cc := cX6_sheetTold) (maxL := 5) (ret := (some .int)) (by decide) rfl (Nat.le_of_ble_eq_true rfl) ?_
  intro p e s m args below meth c ls hx hb hr hlocks hml hown hts hPic hK hl
  have hl : lv_has ls 5 [(0, .ref a), (1, .int (iI (j))), (2, .int (iI (w)))] := hl
  obtain ⟨w0, w1, w2, w3, w4, w5, w6, w7, w8⟩ := id hW
  obtain ⟨s1, s2, s3, s4⟩ := hS j.toNat (by omega)
  refine lv_iload_n hx hb dX6_sheetTold_0 rfl (lv_at hl 2 rfl) ?_
  refine q_iconst hx hb dX6_sheetTold_1 ?_
  refine q_icmp_ge (tgt := 12) hx hb dX6_sheetTold_2 (by decide) (by omega) (by omega) (fun c_1 => ?_) (fun c_1 => ?_)
  · skip
    refine q_iconst hx hb dX6_sheetTold_12 ?_
    refine lv_istore_n (lv' := [(3, .int (iI (0))), (0, .ref a), (1, .int (iI (j))), (2, .int (iI (w)))]) hx hb dX6_sheetTold_13 rfl hl (by decide) rfl (fun ls hl => ?_)
    refine q_iconst hx hb dX6_sheetTold_14 ?_
    refine lv_istore (lv' := [(4, .int (iI (0))), (3, .int (iI (0))), (0, .ref a), (1, .int (iI (j))), (2, .int (iI (w)))]) hx hb dX6_sheetTold_15 hl (by decide) rfl (fun ls hl => ?_)
    have key_17 : ∀ (fu : Nat) (k : Int) (mo : Int), 0 ≤ k ∧ k ≤ P (11 * j.toNat + 1) → mo = m_sh (fun i => m_F σ T i (P (11 * j.toNat))) (fun i => P (11 * j.toNat + 3 + i)) k.toNat → (((P (11 * j.toNat + 1) - k).toNat : Int)) < (fu : Int) → ∀ ls : Array Slot, lv_has ls 5 [(0, .ref a), (1, .int (iI (j))), (2, .int (iI (w))), (3, .int (iI (mo))), (4, .int (iI (k)))] → W p l e { frames := 6, cells := 0, slots := 0, locals := 135 } s m args below meth c s.heap [] 0 0 (MQ below (vp_Si (fun r => r = iI (m_told σ T P j.toNat w))) args s 0 0 (fun _ => False)) (F0 m 17 ls []) := by
      intro fu
      induction fu with
      | zero => intro k mo hk hmo hm_17 ls hl; exact absurd hm_17 (by omega)
      | succ fu ih_17 =>
        intro k mo hk hmo hm_17 ls hl
        have hgi := m_sh_in (f := fun i => m_F σ T i (P (11 * j.toNat))) (dy := fun i => P (11 * j.toNat + 3 + i)) (n := k.toNat) (fun i hi => m_F_in hW (by omega) s1) (fun i hi => s4 i (by omega))
        refine lv_iload hx hb dX6_sheetTold_17 (lv_at hl 4 rfl) ?_
        refine lv_aload_n hx hb dX6_sheetTold_19 rfl (lv_at hl 0 rfl) ?_
        refine lv_iload_n hx hb dX6_sheetTold_20 rfl (lv_at hl 1 rfl) ?_
        refine q_iconst hx hb dX6_sheetTold_21 ?_
        refine q_callV (fr := 0) (lo := 0) (nL := 5) (Pic := PicM D cI a ta pa th σ T P) (As := [.int (iI (j)), .int (iI (1))]) (rest := [.int (iI (k))]) ⟨hx, hb, hml, hown, hts⟩ (c_pa l D cI cO cL a ta pa th σ T P hW hS (j) (1) (11 * Int.toNat (j) + 1) (by omega) (by omega)) (cwV 2 hts gX6_sheetTold_X6_pa rfl rfl rfl (by decide +kernel) ⟨Nat.le_of_ble_eq_true rfl, Nat.le_of_ble_eq_true rfl⟩) (ob_recv hPic.ob hK rfl) hPic hK rfl hl.1 rfl (Nat.le_of_ble_eq_true rfl) dX6_sheetTold_22 (Nat.zero_le _) (Nat.zero_le _) ?_
        refine q_icmp_ge (tgt := 46) hx hb dX6_sheetTold_25 (by decide) (by omega) (by omega) (fun c_2 => ?_) (fun c_2 => ?_)
        · skip
          refine lv_iload_n hx hb dX6_sheetTold_46 rfl (lv_at hl 2 rfl) ?_
          refine q_iconst hx hb dX6_sheetTold_47 ?_
          refine q_icmp_ne (tgt := 55) hx hb dX6_sheetTold_48 (by decide) (by omega) (by omega) (fun c_3 => ?_) (fun c_3 => ?_)
          · skip
            refine lv_iload_n hx hb dX6_sheetTold_55 rfl (lv_at hl 3 rfl) ?_
            refine q_if_gt (tgt := 78) hx hb dX6_sheetTold_56 (by decide) (by omega) (fun c_4 => ?_) (fun c_4 => ?_)
            · skip
              have hsc := m_sh_chg (fun i => m_F σ T i (P (11 * j.toNat))) (fun i => P (11 * j.toNat + 3 + i)) (P (11 * j.toNat + 1)).toNat
              rw [show (P (11 * j.toNat + 1)).toNat = k.toNat by omega, ← hmo] at hsc
              refine q_iconst hx hb dX6_sheetTold_78 ?_
              refine lv_goto (tgt := 83) hx hb dX6_sheetTold_79 (by decide) ?_
              exact q_iret hx hb hr hlocks (by first | (unfold m_told; rw [if_neg (by omega), if_neg (by omega), if_neg (by omega), if_neg (by omega), hmo]; congr 1; omega) | (unfold m_told; rw [if_neg (by omega), if_neg (by omega), if_neg (by omega), if_pos (by omega)]; unfold m_wr; rw [show (P (11 * j.toNat + 1)).toNat = k.toNat by omega]; split <;> omega)) dX6_sheetTold_83
            · skip
              refine lv_aload_n hx hb dX6_sheetTold_59 rfl (lv_at hl 0 rfl) ?_
              refine lv_iload_n hx hb dX6_sheetTold_60 rfl (lv_at hl 1 rfl) ?_
              refine q_iconst hx hb dX6_sheetTold_61 ?_
              refine q_callV (fr := 0) (lo := 0) (nL := 5) (Pic := PicM D cI a ta pa th σ T P) (As := [.int (iI (j)), .int (iI (2))]) (rest := []) ⟨hx, hb, hml, hown, hts⟩ (c_pa l D cI cO cL a ta pa th σ T P hW hS (j) (2) (11 * Int.toNat (j) + 2) (by omega) (by omega)) (cwV 2 hts gX6_sheetTold_X6_pa rfl rfl rfl (by decide +kernel) ⟨Nat.le_of_ble_eq_true rfl, Nat.le_of_ble_eq_true rfl⟩) (ob_recv hPic.ob hK rfl) hPic hK rfl hl.1 rfl (Nat.le_of_ble_eq_true rfl) dX6_sheetTold_62 (Nat.zero_le _) (Nat.zero_le _) ?_
              refine lv_aload_n hx hb dX6_sheetTold_65 rfl (lv_at hl 0 rfl) ?_
              refine lv_aload_n hx hb dX6_sheetTold_66 rfl (lv_at hl 0 rfl) ?_
              refine lv_iload_n hx hb dX6_sheetTold_67 rfl (lv_at hl 1 rfl) ?_
              refine q_iconst hx hb dX6_sheetTold_68 ?_
              refine q_callV (fr := 0) (lo := 0) (nL := 5) (Pic := PicM D cI a ta pa th σ T P) (As := [.int (iI (j)), .int (iI (0))]) (rest := [.ref a, .int (iI (P (11 * Int.toNat (j) + 2)))]) ⟨hx, hb, hml, hown, hts⟩ (c_pa l D cI cO cL a ta pa th σ T P hW hS (j) (0) (11 * Int.toNat (j)) (by omega) (by omega)) (cwV 2 hts gX6_sheetTold_X6_pa rfl rfl rfl (by decide +kernel) ⟨Nat.le_of_ble_eq_true rfl, Nat.le_of_ble_eq_true rfl⟩) (ob_recv hPic.ob hK rfl) hPic hK rfl hl.1 rfl (Nat.le_of_ble_eq_true rfl) dX6_sheetTold_69 (Nat.zero_le _) (Nat.zero_le _) ?_
              have hsc := m_sh_chg (fun i => m_F σ T i (P (11 * j.toNat))) (fun i => P (11 * j.toNat + 3 + i)) (P (11 * j.toNat + 1)).toNat
              rw [show (P (11 * j.toNat + 1)).toNat = k.toNat by omega, ← hmo] at hsc
              refine q_callV (fr := 5) (lo := 114) (nL := 5) (Pic := PicM D cI a ta pa th σ T P) (As := [.int (iI (P (11 * Int.toNat (j))))]) (rest := [.int (iI (P (11 * Int.toNat (j) + 2)))]) ⟨hx, hb, hml, hown, hts⟩ (c_allEclipses l D cI cO cL a ta pa th σ T P hW hS (P (11 * Int.toNat (j))) (by omega)) (cwV 1 hts gX6_sheetTold_X6_allEclipses rfl rfl rfl (by decide +kernel) ⟨Nat.le_of_ble_eq_true rfl, Nat.le_of_ble_eq_true rfl⟩) (ob_recv hPic.ob hK rfl) hPic hK rfl hl.1 rfl (Nat.le_of_ble_eq_true rfl) dX6_sheetTold_72 (Nat.zero_le _) (Nat.zero_le _) ?_
              have hE72a := m_Eb_in hW (y := (P (11 * Int.toNat (j)))) (b := 0) (by omega)
              have hE72b := m_Eb_in hW (y := (P (11 * Int.toNat (j)))) (b := 1) (by omega)
              have hE72c : m_E σ (P (11 * Int.toNat (j))) = m_Eb σ (P (11 * Int.toNat (j))) 0 + m_Eb σ (P (11 * Int.toNat (j))) 1 := rfl
              refine q_icmp_eq (tgt := 82) hx hb dX6_sheetTold_75 (by decide) (by omega) (by omega) (fun c_5 => ?_) (fun c_5 => ?_)
              · skip
                refine q_iconst hx hb dX6_sheetTold_82 ?_
                exact q_iret hx hb hr hlocks (by first | (unfold m_told; rw [if_neg (by omega), if_neg (by omega), if_neg (by omega), if_neg (by omega), hmo]; congr 1; omega) | (unfold m_told; rw [if_neg (by omega), if_neg (by omega), if_neg (by omega), if_pos (by omega)]; unfold m_wr; rw [show (P (11 * j.toNat + 1)).toNat = k.toNat by omega]; split <;> omega)) dX6_sheetTold_83
              · skip
                refine q_iconst hx hb dX6_sheetTold_78 ?_
                refine lv_goto (tgt := 83) hx hb dX6_sheetTold_79 (by decide) ?_
                exact q_iret hx hb hr hlocks (by first | (unfold m_told; rw [if_neg (by omega), if_neg (by omega), if_neg (by omega), if_neg (by omega), hmo]; congr 1; omega) | (unfold m_told; rw [if_neg (by omega), if_neg (by omega), if_neg (by omega), if_pos (by omega)]; unfold m_wr; rw [show (P (11 * j.toNat + 1)).toNat = k.toNat by omega]; split <;> omega)) dX6_sheetTold_83
          · skip
            refine lv_iload_n hx hb dX6_sheetTold_51 rfl (lv_at hl 3 rfl) ?_
            refine lv_goto (tgt := 83) hx hb dX6_sheetTold_52 (by decide) ?_
            exact q_iret hx hb hr hlocks (by first | (unfold m_told; rw [if_neg (by omega), if_neg (by omega), if_neg (by omega), if_neg (by omega), hmo]; congr 1; omega) | (unfold m_told; rw [if_neg (by omega), if_neg (by omega), if_neg (by omega), if_pos (by omega)]; unfold m_wr; rw [show (P (11 * j.toNat + 1)).toNat = k.toNat by omega]; split <;> omega)) dX6_sheetTold_83
        · skip
          refine lv_iload_n hx hb dX6_sheetTold_28 rfl (lv_at hl 3 rfl) ?_
          refine lv_aload_n hx hb dX6_sheetTold_29 rfl (lv_at hl 0 rfl) ?_
          refine lv_iload_n hx hb dX6_sheetTold_30 rfl (lv_at hl 1 rfl) ?_
          refine lv_iload hx hb dX6_sheetTold_31 (lv_at hl 4 rfl) ?_
          refine q_callV (fr := 4) (lo := 92) (nL := 5) (Pic := PicM D cI a ta pa th σ T P) (As := [.int (iI (j)), .int (iI (k))]) (rest := [.int (iI (mo))]) ⟨hx, hb, hml, hown, hts⟩ (c_off l D cI cO cL a ta pa th σ T P hW hS (j) (k) (by omega) (by omega)) (cwV 2 hts gX6_sheetTold_X6_off rfl rfl rfl (by decide +kernel) ⟨Nat.le_of_ble_eq_true rfl, Nat.le_of_ble_eq_true rfl⟩) (ob_recv hPic.ob hK rfl) hPic hK rfl hl.1 rfl (Nat.le_of_ble_eq_true rfl) dX6_sheetTold_33 (Nat.zero_le _) (Nat.zero_le _) ?_
          have hof33 := m_abs_in (x := m_F σ T (Int.toNat (k)) (P (11 * Int.toNat (j))) - P (11 * Int.toNat (j) + 3 + Int.toNat (k))) (by have q1 := m_F_in hW (i := Int.toNat (k)) (by omega) (y := P (11 * Int.toNat (j))) (by omega); have q2 := s4 (Int.toNat (k)) (by omega); omega)
          refine q_mmax hx hb (hml.trans hl.1.symm) hown (hts (.methodLink RX6 79 Lib.Math.max.name) (List.mem_of_getElem? (i := 1) rfl)) (hts (.static Lib.Math.max.name) (List.mem_of_getElem? (i := 2) rfl)) (hts (.initialized "java/lang/Math") (List.mem_of_getElem? (i := 3) rfl)) (hts (.code Lib.Math.max.name Lib.Math.max.code 2 (some .int)) (List.mem_of_getElem? (i := 4) rfl)) (by omega) (by omega) (Nat.le_of_ble_eq_true rfl) (Nat.le_of_ble_eq_true rfl) (Nat.zero_le _) (Nat.zero_le _) dX6_sheetTold_36 ?_
          refine q_top (fun mo2 emo2 => ?_)
          refine lv_istore_n (lv' := [(3, .int (iI (mo2))), (0, .ref a), (1, .int (iI (j))), (2, .int (iI (w))), (4, .int (iI (k)))]) hx hb dX6_sheetTold_39 rfl hl (by decide) rfl (fun ls hl => ?_)
          refine q_iinc (k := 4) (lv' := [(4, .int (iI (k + 1))), (3, .int (iI (mo2))), (0, .ref a), (1, .int (iI (j))), (2, .int (iI (w)))]) hx hb dX6_sheetTold_40 hl rfl (by decide) rfl (fun ls hl => ?_)
          refine lv_goto (tgt := 17) hx hb dX6_sheetTold_43 (by decide) ?_
          have hst := m_sh_step (fun i => m_F σ T i (P (11 * j.toNat))) (fun i => P (11 * j.toNat + 3 + i)) hk.1
          exact ih_17 _ _ (by omega) (by rw [hst, ← hmo]; exact emo2) (by omega) _ (lv_sub hl [2, 3, 4, 1, 0] rfl)
    exact key_17 ((P (11 * j.toNat + 1)).toNat + 1) _ _ (by omega) (by rfl) (by omega) _ (lv_sub hl [2, 3, 4, 1, 0] rfl)
  · skip
    refine lv_aload_n hx hb dX6_sheetTold_5 rfl (lv_at hl 0 rfl) ?_
    refine lv_iload_n hx hb dX6_sheetTold_6 rfl (lv_at hl 1 rfl) ?_
    refine lv_iload_n hx hb dX6_sheetTold_7 rfl (lv_at hl 2 rfl) ?_
    refine q_callV (fr := 0) (lo := 0) (nL := 5) (Pic := PicM D cI a ta pa th σ T P) (As := [.int (iI (j)), .int (iI (w))]) (rest := []) ⟨hx, hb, hml, hown, hts⟩ (c_pa l D cI cO cL a ta pa th σ T P hW hS (j) (w) (11 * j.toNat + w.toNat) (by omega) (by omega)) (cwV 2 hts gX6_sheetTold_X6_pa rfl rfl rfl (by decide +kernel) ⟨Nat.le_of_ble_eq_true rfl, Nat.le_of_ble_eq_true rfl⟩) (ob_recv hPic.ob hK rfl) hPic hK rfl hl.1 rfl (Nat.le_of_ble_eq_true rfl) dX6_sheetTold_8 (Nat.zero_le _) (Nat.zero_le _) ?_
    exact q_iret hx hb hr hlocks (by unfold m_told; rcases (show w = 0 ∨ w = 1 ∨ w = 2 by omega) with h | h | h <;> subst h <;> rfl) dX6_sheetTold_11
set_option maxHeartbeats 4000000 in
set_option maxRecDepth 100000 in
theorem c_counted (l : Launch) (D : va_G) (cI cO cL : ClassId) (a ta pa : Nat) (th : Int) (σ T P : Nat → Int) (hW : WF σ T) (hS : WS σ P) (w : Int) (hw : 0 ≤ w ∧ w ≤ 10) : MI l yX6_counted wsX6_counted 7 159 D (ty3 cI cO cL) (PicM D cI a ta pa th σ T P) [.ref a, .int (iI (w))] (m_count σ T P w) := by
  refine MI_of (cc := cX6_counted) (maxL := 4) (ret := (some .int)) (by decide) rfl (Nat.le_of_ble_eq_true rfl) ?_
  intro p e s m args below meth c ls hx hb hr hlocks hml hown hts hPic hK hl
  have hl : lv_has ls 4 [(0, .ref a), (1, .int (iI (w)))] := hl
  have hin_X6 : ∀ w ∈ u_ws RX6 TX6 13, w ∈ wsX6_counted := (fun w h => List.mem_cons_of_mem _ (List.mem_append_right _ h))
  obtain ⟨w0, w1, w2, w3, w4, w5, w6, w7, w8⟩ := id hW
  refine q_iconst hx hb dX6_counted_0 ?_
  refine lv_istore_n (lv' := [(2, .int (iI (0))), (0, .ref a), (1, .int (iI (w)))]) hx hb dX6_counted_1 rfl hl (by decide) rfl (fun ls hl => ?_)
  refine lv_iload_n hx hb dX6_counted_2 rfl (lv_at hl 2 rfl) ?_
  by_cases c_1 : w = 0
  · refine q_tableIn (tgt := 56) hx hb dX6_counted_3 (by omega) (by omega) 0 (by omega) rfl (by decide) ?_
    refine lv_aload_n hx hb dX6_counted_56 rfl (lv_at hl 1 rfl) ?_
    refine q_get (ci := 8) (C := RX6) (T := TX6) (N := 13) hx hb hts hin_X6 hown hK (v := .int (iI (σ 0))) hPic.ob rfl 1 (by decide) (hts (.fieldLink RX6 7 "AlmanacHouseModel" "cycle" "I") (List.mem_of_getElem? (i := 1) rfl)) (fun _ h9 => h9) rfl dX6_counted_57 ?_
    exact q_iret hx hb hr hlocks (by unfold m_count; rw [if_neg (by omega), show w = 0 by omega]; rfl) dX6_counted_60
  by_cases c_2 : w = 1
  · refine q_tableIn (tgt := 61) hx hb dX6_counted_3 (by omega) (by omega) 1 (by omega) rfl (by decide) ?_
    refine lv_aload_n hx hb dX6_counted_61 rfl (lv_at hl 1 rfl) ?_
    refine q_get (ci := 8) (C := RX6) (T := TX6) (N := 13) hx hb hts hin_X6 hown hK (v := .int (iI (σ 1))) hPic.ob rfl 2 (by decide) (hts (.fieldLink RX6 13 "AlmanacHouseModel" "leaps" "I") (List.mem_of_getElem? (i := 2) rfl)) (fun _ h9 => h9) rfl dX6_counted_62 ?_
    exact q_iret hx hb hr hlocks (by unfold m_count; rw [if_neg (by omega), show w = 1 by omega]; rfl) dX6_counted_65
  by_cases c_3 : w = 2
  · refine q_tableIn (tgt := 66) hx hb dX6_counted_3 (by omega) (by omega) 2 (by omega) rfl (by decide) ?_
    refine lv_aload_n hx hb dX6_counted_66 rfl (lv_at hl 1 rfl) ?_
    refine q_get (ci := 8) (C := RX6) (T := TX6) (N := 13) hx hb hts hin_X6 hown hK (v := .int (iI (σ 2))) hPic.ob rfl 3 (by decide) (hts (.fieldLink RX6 16 "AlmanacHouseModel" "length" "I") (List.mem_of_getElem? (i := 3) rfl)) (fun _ h9 => h9) rfl dX6_counted_67 ?_
    exact q_iret hx hb hr hlocks (by unfold m_count; rw [if_neg (by omega), show w = 2 by omega]; rfl) dX6_counted_70
  by_cases c_4 : w = 3
  · refine q_tableIn (tgt := 71) hx hb dX6_counted_3 (by omega) (by omega) 3 (by omega) rfl (by decide) ?_
    refine lv_aload_n hx hb dX6_counted_71 rfl (lv_at hl 1 rfl) ?_
    refine q_get (ci := 8) (C := RX6) (T := TX6) (N := 13) hx hb hts hin_X6 hown hK (v := .int (iI (σ 3))) hPic.ob rfl 4 (by decide) (hts (.fieldLink RX6 43 "AlmanacHouseModel" "first" "I") (List.mem_of_getElem? (i := 4) rfl)) (fun _ h9 => h9) rfl dX6_counted_72 ?_
    exact q_iret hx hb hr hlocks (by unfold m_count; rw [if_neg (by omega), show w = 3 by omega]; rfl) dX6_counted_75
  by_cases c_5 : w = 4
  · refine q_tableIn (tgt := 76) hx hb dX6_counted_3 (by omega) (by omega) 4 (by omega) rfl (by decide) ?_
    refine lv_aload_n hx hb dX6_counted_76 rfl (lv_at hl 1 rfl) ?_
    refine q_get (ci := 8) (C := RX6) (T := TX6) (N := 13) hx hb hts hin_X6 hown hK (v := .int (iI (σ 4))) hPic.ob rfl 5 (by decide) (hts (.fieldLink RX6 20 "AlmanacHouseModel" "period" "I") (List.mem_of_getElem? (i := 5) rfl)) (fun _ h9 => h9) rfl dX6_counted_77 ?_
    exact q_iret hx hb hr hlocks (by unfold m_count; rw [if_neg (by omega), show w = 4 by omega]; rfl) dX6_counted_80
  by_cases c_6 : w = 5
  · refine q_tableIn (tgt := 81) hx hb dX6_counted_3 (by omega) (by omega) 5 (by omega) rfl (by decide) ?_
    refine lv_aload_n hx hb dX6_counted_81 rfl (lv_at hl 1 rfl) ?_
    refine q_get (ci := 8) (C := RX6) (T := TX6) (N := 13) hx hb hts hin_X6 hown hK (v := .int (iI (σ 5))) hPic.ob rfl 6 (by decide) (hts (.fieldLink RX6 49 "AlmanacHouseModel" "node" "I") (List.mem_of_getElem? (i := 6) rfl)) (fun _ h9 => h9) rfl dX6_counted_82 ?_
    exact q_iret hx hb hr hlocks (by unfold m_count; rw [if_neg (by omega), show w = 5 by omega]; rfl) dX6_counted_85
  by_cases c_7 : w = 6
  · refine q_tableIn (tgt := 86) hx hb dX6_counted_3 (by omega) (by omega) 6 (by omega) rfl (by decide) ?_
    refine lv_aload_n hx hb dX6_counted_86 rfl (lv_at hl 1 rfl) ?_
    refine q_get (ci := 8) (C := RX6) (T := TX6) (N := 13) hx hb hts hin_X6 hown hK (v := .int (iI (σ 6))) hPic.ob rfl 7 (by decide) (hts (.fieldLink RX6 140 "AlmanacHouseModel" "feasts" "I") (List.mem_of_getElem? (i := 7) rfl)) (fun _ h9 => h9) rfl dX6_counted_87 ?_
    exact q_iret hx hb hr hlocks (by unfold m_count; rw [if_neg (by omega), show w = 6 by omega]; rfl) dX6_counted_90
  by_cases c_8 : w = 7
  · refine q_tableIn (tgt := 91) hx hb dX6_counted_3 (by omega) (by omega) 7 (by omega) rfl (by decide) ?_
    refine lv_aload_n hx hb dX6_counted_91 rfl (lv_at hl 1 rfl) ?_
    refine q_get (ci := 8) (C := RX6) (T := TX6) (N := 13) hx hb hts hin_X6 hown hK (v := .int (iI (σ 7))) hPic.ob rfl 9 (by decide) (hts (.fieldLink RX6 161 "AlmanacHouseModel" "sheets" "I") (List.mem_of_getElem? (i := 8) rfl)) (fun _ h9 => h9) rfl dX6_counted_92 ?_
    exact q_iret hx hb hr hlocks (by unfold m_count; rw [if_neg (by omega), show w = 7 by omega]; rfl) dX6_counted_95
  by_cases c_9 : w = 8
  · refine q_tableIn (tgt := 96) hx hb dX6_counted_3 (by omega) (by omega) 8 (by omega) rfl (by decide) ?_
    refine q_iconst hx hb dX6_counted_96 ?_
    refine lv_istore_n (lv' := [(3, .int (iI (0))), (2, .int (iI (0))), (0, .ref a), (1, .int (iI (w)))]) hx hb dX6_counted_97 rfl hl (by decide) rfl (fun ls hl => ?_)
    have key_98 : ∀ (fu : Nat) (k : Int) (su : Int), 0 ≤ k ∧ k ≤ σ 7 → su = m_wc σ T P k.toNat → (((σ 7 - k).toNat : Int)) < (fu : Int) → ∀ ls : Array Slot, lv_has ls 4 [(0, .ref a), (1, .int (iI (w))), (2, .int (iI (su))), (3, .int (iI (k)))] → W p l e { frames := 7, cells := 0, slots := 0, locals := 159 } s m args below meth c s.heap [] 0 0 (MQ below (vp_Si (fun r => r = iI (m_count σ T P w))) args s 0 0 (fun _ => False)) (F0 m 98 ls []) := by
      intro fu
      induction fu with
      | zero => intro k su hk hsu hm_98 ls hl; exact absurd hm_98 (by omega)
      | succ fu ih_98 =>
        intro k su hk hsu hm_98 ls hl
        refine lv_iload_n hx hb dX6_counted_98 rfl (lv_at hl 3 rfl) ?_
        refine lv_aload_n hx hb dX6_counted_99 rfl (lv_at hl 0 rfl) ?_
        refine q_get (ci := 8) (C := RX6) (T := TX6) (N := 13) hx hb hts hin_X6 hown hK (v := .int (iI (σ 7))) hPic.ob rfl 9 (by decide) (hts (.fieldLink RX6 161 "AlmanacHouseModel" "sheets" "I") (List.mem_of_getElem? (i := 8) rfl)) (fun _ h9 => h9) rfl dX6_counted_100 ?_
        refine q_icmp_ge (tgt := 121) hx hb dX6_counted_103 (by decide) (by omega) (by omega) (fun c_10 => ?_) (fun c_10 => ?_)
        · skip
          refine lv_iload_n hx hb dX6_counted_121 rfl (lv_at hl 2 rfl) ?_
          exact q_iret hx hb hr hlocks (by unfold m_count; rw [if_pos (by omega), hsu]; congr 1; omega) dX6_counted_122
        · skip
          refine lv_iload_n hx hb dX6_counted_106 rfl (lv_at hl 2 rfl) ?_
          refine lv_aload_n hx hb dX6_counted_107 rfl (lv_at hl 0 rfl) ?_
          refine lv_iload_n hx hb dX6_counted_108 rfl (lv_at hl 3 rfl) ?_
          refine q_iconst hx hb dX6_counted_109 ?_
          refine q_callV (fr := 6) (lo := 135) (nL := 4) (Pic := PicM D cI a ta pa th σ T P) (As := [.int (iI (k)), .int (iI (3))]) (rest := [.int (iI (su))]) ⟨hx, hb, hml, hown, hts⟩ (c_sheetTold l D cI cO cL a ta pa th σ T P hW hS (k) (3) (by omega) (by omega)) (cwV 2 hts gX6_counted_X6_sheetTold rfl rfl rfl (by decide +kernel) ⟨Nat.le_of_ble_eq_true rfl, Nat.le_of_ble_eq_true rfl⟩) (ob_recv hPic.ob hK rfl) hPic hK rfl hl.1 rfl (Nat.le_of_ble_eq_true rfl) dX6_counted_110 (Nat.zero_le _) (Nat.zero_le _) ?_
          refine q_iadd hx hb dX6_counted_113 ?_
          refine q_top (fun su2 esu2 => ?_)
          have hsu2 := esu2
          refine lv_istore_n (lv' := [(2, .int (iI (su2))), (0, .ref a), (1, .int (iI (w))), (3, .int (iI (k)))]) hx hb dX6_counted_114 rfl hl (by decide) rfl (fun ls hl => ?_)
          refine q_iinc (k := 3) (lv' := [(3, .int (iI (k + 1))), (2, .int (iI (su2))), (0, .ref a), (1, .int (iI (w)))]) hx hb dX6_counted_115 hl rfl (by decide) rfl (fun ls hl => ?_)
          refine lv_goto (tgt := 98) hx hb dX6_counted_118 (by decide) ?_
          have hst := m_wc_step σ T P hk.1
          exact ih_98 _ _ (by omega) (by rw [hst, hsu2, hsu]; rfl) (by omega) _ (lv_sub hl [2, 3, 1, 0] rfl)
    exact key_98 ((σ 7).toNat + 1) _ _ (by omega) (by rfl) (by omega) _ (lv_sub hl [2, 3, 1, 0] rfl)
  by_cases c_11 : w = 9
  · refine q_tableIn (tgt := 123) hx hb dX6_counted_3 (by omega) (by omega) 9 (by omega) rfl (by decide) ?_
    refine lv_aload_n hx hb dX6_counted_123 rfl (lv_at hl 1 rfl) ?_
    refine q_get (ci := 8) (C := RX6) (T := TX6) (N := 13) hx hb hts hin_X6 hown hK (v := .int (iI (σ 9))) hPic.ob rfl 11 (by decide) (hts (.fieldLink RX6 134 "AlmanacHouseModel" "seen" "I") (List.mem_of_getElem? (i := 9) rfl)) (fun _ h9 => h9) rfl dX6_counted_124 ?_
    exact q_iret hx hb hr hlocks (by unfold m_count; rw [if_neg (by omega), show w = 9 by omega]; rfl) dX6_counted_127
  refine q_tableOut (tgt := 128) hx hb dX6_counted_3 (by omega) (by omega) (by decide) ?_
  refine lv_aload_n hx hb dX6_counted_128 rfl (lv_at hl 1 rfl) ?_
  refine q_get (ci := 8) (C := RX6) (T := TX6) (N := 13) hx hb hts hin_X6 hown hK (v := .int (iI (σ 10))) hPic.ob rfl 12 (by decide) (hts (.fieldLink RX6 137 "AlmanacHouseModel" "corrected" "I") (List.mem_of_getElem? (i := 10) rfl)) (fun _ h9 => h9) rfl dX6_counted_129 ?_
  exact q_iret hx hb hr hlocks (by unfold m_count; rw [if_neg (by omega), show w = 10 by omega]; rfl) dX6_counted_132
