set_option maxHeartbeats 4000000 in
set_option maxRecDepth 100000 in
theorem z_isLeap (l : Launch) (D : va_G) (cI cO cL : ClassId) (z : Nat → Nat) (σ T P : Nat → Int) (hW : WF σ T) (hS : WS σ P) (y : Int) (hy : 0 ≤ y ∧ y ≤ 1000) : MI l yX6_isLeap wsX6_isLeap 0 0 D (ty3 cI cO cL) (PicS D cI cL z σ T P) [.ref (z 0), .int (iI (y))] (m_leap (σ 0) (σ 1) y) := by
  refine MI_of (cc := cX6_isLeap) (maxL := 3) (ret := (some .boolean)) (by decide) rfl (Nat.le_of_ble_eq_true rfl) ?_
  intro p e s m args below meth c ls hx hb hr hlocks hml hown hts hPic hK hl
  have hl : lv_has ls 3 [(0, .ref (z 0)), (1, .int (iI (y)))] := hl
  have hin_X6 : ∀ w ∈ u_ws RX6 TX6 10, w ∈ wsX6_isLeap := (fun w h => List.mem_cons_of_mem _ (List.mem_append_right _ h))
  obtain ⟨w0, w1, w2, w3, w4, w5, w6, w7, w8⟩ := id hW
  have hm := m_mulq w0 w1 (y := y) (by omega)
  have hr1 := Int.emod_nonneg (y * σ 1) (show σ 0 ≠ 0 by omega)
  have hr2 := Int.emod_lt_of_pos (y * σ 1) (show 0 < σ 0 by omega)
  have hsl := s_leap (σ 0) (σ 1) y
  refine lv_iload_n hx hb dX6_isLeap_0 rfl (lv_at hl 1 rfl) ?_
  refine lv_aload_n hx hb dX6_isLeap_1 rfl (lv_at hl 0 rfl) ?_
  refine q_get (ci := 8) (C := RX6) (T := TX6) (N := 10) hx hb hts hin_X6 hown hK (v := .int (iI (σ 1))) hPic.at0 rfl 1 (by decide) (hts (.fieldLink RX6 13 "AlmanacHouseLaw$Sim" "leaps" "I") (List.mem_of_getElem? (i := 1) rfl)) (fun _ h9 => h9) rfl dX6_isLeap_2 ?_
  refine q_imul hx hb dX6_isLeap_5 ?_
  refine q_top (fun yl eyl => ?_)
  refine lv_istore_n (lv' := [(2, .int (iI (yl))), (0, .ref (z 0)), (1, .int (iI (y)))]) hx hb dX6_isLeap_6 rfl hl (by decide) rfl (fun ls hl => ?_)
  refine lv_iload_n hx hb dX6_isLeap_7 rfl (lv_at hl 0 rfl) ?_
  refine lv_iload_n hx hb dX6_isLeap_8 rfl (lv_at hl 0 rfl) ?_
  refine lv_aload_n hx hb dX6_isLeap_9 rfl (lv_at hl 1 rfl) ?_
  refine q_get (ci := 8) (C := RX6) (T := TX6) (N := 10) hx hb hts hin_X6 hown hK (v := .int (iI (σ 0))) hPic.at0 rfl 0 (by decide) (hts (.fieldLink RX6 7 "AlmanacHouseLaw$Sim" "cycle" "I") (List.mem_of_getElem? (i := 2) rfl)) (fun _ h9 => h9) rfl dX6_isLeap_10 ?_
  refine q_idiv hx hb dX6_isLeap_13 (by omega) (by omega) ?_
  refine lv_aload_n hx hb dX6_isLeap_14 rfl (lv_at hl 1 rfl) ?_
  refine q_get (ci := 8) (C := RX6) (T := TX6) (N := 10) hx hb hts hin_X6 hown hK (v := .int (iI (σ 0))) hPic.at0 rfl 0 (by decide) (hts (.fieldLink RX6 7 "AlmanacHouseLaw$Sim" "cycle" "I") (List.mem_of_getElem? (i := 2) rfl)) (fun _ h9 => h9) rfl dX6_isLeap_15 ?_
  refine q_imul hx hb dX6_isLeap_18 ?_
  refine q_isub hx hb dX6_isLeap_19 ?_
  refine q_top (fun lf elf => ?_)
  have hlf : lf = y * σ 1 % σ 0 := by rw [elf, eyl, hsl]
  refine lv_istore_n (lv' := [(2, .int (iI (lf))), (0, .ref (z 0)), (1, .int (iI (y)))]) hx hb dX6_isLeap_20 rfl hl (by decide) rfl (fun ls hl => ?_)
  refine lv_iload_n hx hb dX6_isLeap_21 rfl (lv_at hl 0 rfl) ?_
  refine lv_aload_n hx hb dX6_isLeap_22 rfl (lv_at hl 1 rfl) ?_
  refine q_get (ci := 8) (C := RX6) (T := TX6) (N := 10) hx hb hts hin_X6 hown hK (v := .int (iI (σ 1))) hPic.at0 rfl 1 (by decide) (hts (.fieldLink RX6 13 "AlmanacHouseLaw$Sim" "leaps" "I") (List.mem_of_getElem? (i := 1) rfl)) (fun _ h9 => h9) rfl dX6_isLeap_23 ?_
  refine q_icmp_ge (tgt := 33) hx hb dX6_isLeap_26 (by decide) (by omega) (by omega) (fun c_1 => ?_) (fun c_1 => ?_)
  · skip
    refine q_iconst hx hb dX6_isLeap_33 ?_
    exact q_zret hx hb hr hlocks (by omega) (by unfold m_leap; split <;> omega) dX6_isLeap_34
  · skip
    refine q_iconst hx hb dX6_isLeap_29 ?_
    refine lv_goto (tgt := 34) hx hb dX6_isLeap_30 (by decide) ?_
    exact q_zret hx hb hr hlocks (by omega) (by unfold m_leap; split <;> omega) dX6_isLeap_34
set_option maxHeartbeats 4000000 in
set_option maxRecDepth 100000 in
theorem z_yearDays (l : Launch) (D : va_G) (cI cO cL : ClassId) (z : Nat → Nat) (σ T P : Nat → Int) (hW : WF σ T) (hS : WS σ P) (y : Int) (hy : 0 ≤ y ∧ y ≤ 1000) : MI l yX6_yearDays wsX6_yearDays 1 22 D (ty3 cI cO cL) (PicS D cI cL z σ T P) [.ref (z 0), .int (iI (y))] (365 + m_leap (σ 0) (σ 1) y) := by
  refine MI_of (cc := cX6_yearDays) (maxL := 2) (ret := (some .int)) (by decide) rfl (Nat.le_of_ble_eq_true rfl) ?_
  intro p e s m args below meth c ls hx hb hr hlocks hml hown hts hPic hK hl
  have hl : lv_has ls 2 [(0, .ref (z 0)), (1, .int (iI (y)))] := hl
  obtain ⟨w0, w1, w2, w3, w4, w5, w6, w7, w8⟩ := id hW
  refine lv_aload_n hx hb dX6_yearDays_0 rfl (lv_at hl 0 rfl) ?_
  refine lv_iload_n hx hb dX6_yearDays_1 rfl (lv_at hl 1 rfl) ?_
  refine q_callV (fr := 0) (lo := 0) (nL := 2) (Pic := PicS D cI cL z σ T P) (As := [.int (iI (y))]) (rest := []) ⟨hx, hb, hml, hown, hts⟩ (z_isLeap l D cI cO cL z σ T P hW hS (y) (by omega)) (cwV 1 hts gX6_yearDays_X6_isLeap rfl rfl rfl (by decide +kernel) ⟨Nat.le_of_ble_eq_true rfl, Nat.le_of_ble_eq_true rfl⟩) (ob_recv hPic.at0 hK rfl) hPic hK rfl hl.1 rfl (Nat.le_of_ble_eq_true rfl) dX6_yearDays_2 (Nat.zero_le _) (Nat.zero_le _) ?_
  have hlp2 := m_leap_01 (σ 0) (σ 1) (y)
  refine q_if_eq (tgt := 14) hx hb dX6_yearDays_5 (by decide) (by omega) (fun c_1 => ?_) (fun c_1 => ?_)
  · skip
    refine q_sipush hx hb dX6_yearDays_14 (by decide) ?_
    exact q_iret hx hb hr hlocks (by omega) dX6_yearDays_17
  · skip
    refine q_sipush hx hb dX6_yearDays_8 (by decide) ?_
    refine lv_goto (tgt := 17) hx hb dX6_yearDays_11 (by decide) ?_
    exact q_iret hx hb hr hlocks (by omega) dX6_yearDays_17
set_option maxHeartbeats 4000000 in
set_option maxRecDepth 100000 in
theorem z_begins (l : Launch) (D : va_G) (cI cO cL : ClassId) (z : Nat → Nat) (σ T P : Nat → Int) (hW : WF σ T) (hS : WS σ P) (y : Int) (hy : 0 ≤ y ∧ y ≤ 1000) : MI l yX6_begins wsX6_begins 2 43 D (ty3 cI cO cL) (PicS D cI cL z σ T P) [.ref (z 0), .int (iI (y))] (m_fd (σ 0) (σ 1) y) := by
  refine MI_of (cc := cX6_begins) (maxL := 4) (ret := (some .int)) (by decide) rfl (Nat.le_of_ble_eq_true rfl) ?_
  intro p e s m args below meth c ls hx hb hr hlocks hml hown hts hPic hK hl
  have hl : lv_has ls 4 [(0, .ref (z 0)), (1, .int (iI (y)))] := hl
  obtain ⟨w0, w1, w2, w3, w4, w5, w6, w7, w8⟩ := id hW
  refine q_iconst hx hb dX6_begins_0 ?_
  refine lv_istore_n (lv' := [(2, .int (iI (0))), (0, .ref (z 0)), (1, .int (iI (y)))]) hx hb dX6_begins_1 rfl hl (by decide) rfl (fun ls hl => ?_)
  refine q_iconst hx hb dX6_begins_2 ?_
  refine lv_istore_n (lv' := [(3, .int (iI (0))), (2, .int (iI (0))), (0, .ref (z 0)), (1, .int (iI (y)))]) hx hb dX6_begins_3 rfl hl (by decide) rfl (fun ls hl => ?_)
  have key_4 : ∀ (fu : Nat) (k : Int) (su : Int), 0 ≤ k ∧ k ≤ y → su = m_fd (σ 0) (σ 1) k → (((y - k).toNat : Int)) < (fu : Int) → ∀ ls : Array Slot, lv_has ls 4 [(0, .ref (z 0)), (1, .int (iI (y))), (2, .int (iI (su))), (3, .int (iI (k)))] → W p l e { frames := 2, cells := 0, slots := 0, locals := 43 } s m args below meth c s.heap [] 0 0 (MQ below (vp_Si (fun r => r = iI (m_fd (σ 0) (σ 1) y))) args s 0 0 (fun _ => False)) (F0 m 4 ls []) := by
    intro fu
    induction fu with
    | zero => intro k su hk hsu hm_4 ls hl; exact absurd hm_4 (by omega)
    | succ fu ih_4 =>
      intro k su hk hsu hm_4 ls hl
      refine lv_iload_n hx hb dX6_begins_4 rfl (lv_at hl 3 rfl) ?_
      refine lv_iload_n hx hb dX6_begins_5 rfl (lv_at hl 1 rfl) ?_
      refine q_icmp_ge (tgt := 23) hx hb dX6_begins_6 (by decide) (by omega) (by omega) (fun c_1 => ?_) (fun c_1 => ?_)
      · skip
        refine lv_iload_n hx hb dX6_begins_23 rfl (lv_at hl 2 rfl) ?_
        exact q_iret hx hb hr hlocks (by rw [hsu, show k = y by omega]) dX6_begins_24
      · skip
        refine lv_iload_n hx hb dX6_begins_9 rfl (lv_at hl 2 rfl) ?_
        refine lv_aload_n hx hb dX6_begins_10 rfl (lv_at hl 0 rfl) ?_
        refine lv_iload_n hx hb dX6_begins_11 rfl (lv_at hl 3 rfl) ?_
        refine q_callV (fr := 1) (lo := 22) (nL := 4) (Pic := PicS D cI cL z σ T P) (As := [.int (iI (k))]) (rest := [.int (iI (su))]) ⟨hx, hb, hml, hown, hts⟩ (z_yearDays l D cI cO cL z σ T P hW hS (k) (by omega)) (cwV 1 hts gX6_begins_X6_yearDays rfl rfl rfl (by decide +kernel) ⟨Nat.le_of_ble_eq_true rfl, Nat.le_of_ble_eq_true rfl⟩) (ob_recv hPic.at0 hK rfl) hPic hK rfl hl.1 rfl (Nat.le_of_ble_eq_true rfl) dX6_begins_12 (Nat.zero_le _) (Nat.zero_le _) ?_
        have hlp12 := m_leap_01 (σ 0) (σ 1) (k)
        refine q_iadd hx hb dX6_begins_15 ?_
        refine q_top (fun su2 esu2 => ?_)
        refine lv_istore_n (lv' := [(2, .int (iI (su2))), (0, .ref (z 0)), (1, .int (iI (y))), (3, .int (iI (k)))]) hx hb dX6_begins_16 rfl hl (by decide) rfl (fun ls hl => ?_)
        refine q_iinc (k := 3) (lv' := [(3, .int (iI (k + 1))), (2, .int (iI (su2))), (0, .ref (z 0)), (1, .int (iI (y)))]) hx hb dX6_begins_17 hl rfl (by decide) rfl (fun ls hl => ?_)
        refine lv_goto (tgt := 4) hx hb dX6_begins_20 (by decide) ?_
        have hst := m_fd_succ (cy := σ 0) (lq := σ 1) (y := k) w0.1 w1 hk.1
        exact ih_4 _ _ (by omega) (by rw [hst]; omega) (by omega) _ (lv_sub hl [2, 3, 1, 0] rfl)
  exact key_4 (y.toNat + 1) _ _ (by omega) (by rw [m_fd_0]) (by omega) _ (lv_sub hl [2, 3, 1, 0] rfl)
set_option maxHeartbeats 4000000 in
set_option maxRecDepth 100000 in
theorem z_day (l : Launch) (D : va_G) (cI cO cL : ClassId) (z : Nat → Nat) (σ T P : Nat → Int) (hW : WF σ T) (hS : WS σ P) (y mo da : Int) (hy : 0 ≤ y ∧ y ≤ 1000) (hmo : 0 ≤ mo ∧ mo ≤ 11) (hda : 0 ≤ da ∧ da ≤ 40) : MI l yX6_day wsX6_day 3 66 D (ty3 cI cO cL) (PicS D cI cL z σ T P) [.ref (z 0), .int (iI (y)), .int (iI (mo)), .int (iI (da))] (m_d0 (σ 0) (σ 1) mo da y) := by
  refine MI_of (cc := cX6_day) (maxL := 4) (ret := (some .int)) (by decide) rfl (Nat.le_of_ble_eq_true rfl) ?_
  intro p e s m args below meth c ls hx hb hr hlocks hml hown hts hPic hK hl
  have hl : lv_has ls 4 [(0, .ref (z 0)), (1, .int (iI (y))), (2, .int (iI (mo))), (3, .int (iI (da)))] := hl
  obtain ⟨w0, w1, w2, w3, w4, w5, w6, w7, w8⟩ := id hW
  refine lv_aload_n hx hb dX6_day_0 rfl (lv_at hl 0 rfl) ?_
  refine lv_iload_n hx hb dX6_day_1 rfl (lv_at hl 1 rfl) ?_
  refine q_callV (fr := 2) (lo := 43) (nL := 4) (Pic := PicS D cI cL z σ T P) (As := [.int (iI (y))]) (rest := []) ⟨hx, hb, hml, hown, hts⟩ (z_begins l D cI cO cL z σ T P hW hS (y) (by omega)) (cwV 1 hts gX6_day_X6_begins rfl rfl rfl (by decide +kernel) ⟨Nat.le_of_ble_eq_true rfl, Nat.le_of_ble_eq_true rfl⟩) (ob_recv hPic.at0 hK rfl) hPic hK rfl hl.1 rfl (Nat.le_of_ble_eq_true rfl) dX6_day_2 (Nat.zero_le _) (Nat.zero_le _) ?_
  have hfd2 := m_fd_le (cy := σ 0) (lq := σ 1) (y := (y)) w0.1 w1 (by omega)
  refine lv_iload_n hx hb dX6_day_5 rfl (lv_at hl 2 rfl) ?_
  refine q_iconst hx hb dX6_day_6 ?_
  refine q_idiv hx hb dX6_day_7 (by omega) (by omega) ?_
  refine q_bipush hx hb dX6_day_8 (by decide) ?_
  refine q_imul hx hb dX6_day_10 ?_
  refine q_iadd hx hb dX6_day_11 ?_
  refine lv_iload_n hx hb dX6_day_12 rfl (lv_at hl 2 rfl) ?_
  refine q_iconst hx hb dX6_day_13 ?_
  refine q_irem hx hb dX6_day_14 (by omega) (by omega) ?_
  refine q_bipush hx hb dX6_day_15 (by decide) ?_
  refine q_imul hx hb dX6_day_17 ?_
  refine q_iadd hx hb dX6_day_18 ?_
  refine lv_iload_n hx hb dX6_day_19 rfl (lv_at hl 3 rfl) ?_
  refine q_iadd hx hb dX6_day_20 ?_
  exact q_iret hx hb hr hlocks (by unfold m_d0; omega) dX6_day_21
set_option maxHeartbeats 4000000 in
set_option maxRecDepth 100000 in
theorem z_time (l : Launch) (D : va_G) (cI cO cL : ClassId) (z : Nat → Nat) (σ T P : Nat → Int) (hW : WF σ T) (hS : WS σ P) (k b : Int) (hk : 0 ≤ k ∧ k ≤ 50000) (hb01 : b = 0 ∨ b = 1) : ML l yX6_time wsX6_time 0 0 D (ty3 cI cO cL) (PicS D cI cL z σ T P) [.ref (z 0), .int (iI (k)), .int (iI (b))] (iL (m_tm (σ 2) (σ 3) k b)) := by
  refine ML_of (cc := cX6_time) (maxL := 3) (ret := (some .long)) (by decide) rfl (Nat.le_of_ble_eq_true rfl) ?_
  intro p e s m args below meth c ls hx hb hr hlocks hml hown hts hPic hK hl
  have hl : lv_has ls 3 [(0, .ref (z 0)), (1, .int (iI (k))), (2, .int (iI (b)))] := hl
  have hin_X6 : ∀ w ∈ u_ws RX6 TX6 10, w ∈ wsX6_time := (fun w h => List.mem_cons_of_mem _ (List.mem_append_right _ h))
  obtain ⟨w0, w1, w2, w3, w4, w5, w6, w7, w8⟩ := id hW
  refine lv_aload_n hx hb dX6_time_0 rfl (lv_at hl 0 rfl) ?_
  refine q_get (ci := 8) (C := RX6) (T := TX6) (N := 10) hx hb hts hin_X6 hown hK (v := .int (iI (σ 3))) hPic.at0 rfl 3 (by decide) (hts (.fieldLink RX6 43 "AlmanacHouseLaw$Sim" "first" "I") (List.mem_of_getElem? (i := 1) rfl)) (fun _ h9 => h9) rfl dX6_time_1 ?_
  refine q_i2l hx hb dX6_time_4 (by omega) ?_
  refine lv_iload_n hx hb dX6_time_5 rfl (lv_at hl 1 rfl) ?_
  refine q_i2l hx hb dX6_time_6 (by omega) ?_
  refine lv_aload_n hx hb dX6_time_7 rfl (lv_at hl 0 rfl) ?_
  refine q_get (ci := 8) (C := RX6) (T := TX6) (N := 10) hx hb hts hin_X6 hown hK (v := .int (iI (σ 2))) hPic.at0 rfl 2 (by decide) (hts (.fieldLink RX6 16 "AlmanacHouseLaw$Sim" "length" "I") (List.mem_of_getElem? (i := 2) rfl)) (fun _ h9 => h9) rfl dX6_time_8 ?_
  refine q_i2l hx hb dX6_time_11 (by omega) ?_
  refine q_lmul hx hb dX6_time_12 ?_
  refine q_ladd hx hb dX6_time_13 ?_
  refine lv_iload_n hx hb dX6_time_14 rfl (lv_at hl 2 rfl) ?_
  refine q_if_eq (tgt := 27) hx hb dX6_time_15 (by decide) (by omega) (fun c_1 => ?_) (fun c_1 => ?_)
  · skip
    refine q_iconst hx hb dX6_time_27 ?_
    refine q_i2l hx hb dX6_time_28 (by omega) ?_
    refine q_ladd hx hb dX6_time_29 ?_
    exact q_lret hx hb hr hlocks (congrArg iL (by unfold m_tm m_hf; split <;> omega)) dX6_time_30
  · skip
    refine lv_aload_n hx hb dX6_time_18 rfl (lv_at hl 0 rfl) ?_
    refine q_get (ci := 8) (C := RX6) (T := TX6) (N := 10) hx hb hts hin_X6 hown hK (v := .int (iI (σ 2))) hPic.at0 rfl 2 (by decide) (hts (.fieldLink RX6 16 "AlmanacHouseLaw$Sim" "length" "I") (List.mem_of_getElem? (i := 2) rfl)) (fun _ h9 => h9) rfl dX6_time_19 ?_
    refine q_iconst hx hb dX6_time_22 ?_
    refine q_idiv hx hb dX6_time_23 (by omega) (by omega) ?_
    refine lv_goto (tgt := 28) hx hb dX6_time_24 (by decide) ?_
    refine q_i2l hx hb dX6_time_28 (by omega) ?_
    refine q_ladd hx hb dX6_time_29 ?_
    exact q_lret hx hb hr hlocks (congrArg iL (by unfold m_tm m_hf; split <;> omega)) dX6_time_30
set_option maxHeartbeats 4000000 in
set_option maxRecDepth 100000 in
theorem z_moon (l : Launch) (D : va_G) (cI cO cL : ClassId) (z : Nat → Nat) (σ T P : Nat → Int) (hW : WF σ T) (hS : WS σ P) (k b : Int) (hk : 0 ≤ k ∧ k ≤ 50000) (hb01 : b = 0 ∨ b = 1) : MI l yX6_moon wsX6_moon 1 22 D (ty3 cI cO cL) (PicS D cI cL z σ T P) [.ref (z 0), .int (iI (k)), .int (iI (b))] (m_tm (σ 2) (σ 3) k b / 1000) := by
  refine MI_of (cc := cX6_moon) (maxL := 3) (ret := (some .int)) (by decide) rfl (Nat.le_of_ble_eq_true rfl) ?_
  intro p e s m args below meth c ls hx hb hr hlocks hml hown hts hPic hK hl
  have hl : lv_has ls 3 [(0, .ref (z 0)), (1, .int (iI (k))), (2, .int (iI (b)))] := hl
  obtain ⟨w0, w1, w2, w3, w4, w5, w6, w7, w8⟩ := id hW
  refine lv_aload_n hx hb dX6_moon_0 rfl (lv_at hl 0 rfl) ?_
  refine lv_iload_n hx hb dX6_moon_1 rfl (lv_at hl 1 rfl) ?_
  refine lv_iload_n hx hb dX6_moon_2 rfl (lv_at hl 2 rfl) ?_
  refine q_callVl (fr := 0) (lo := 0) (nL := 3) (Pic := PicS D cI cL z σ T P) (As := [.int (iI (k)), .int (iI (b))]) (rest := []) ⟨hx, hb, hml, hown, hts⟩ (z_time l D cI cO cL z σ T P hW hS (k) (b) (by omega) (by omega)) (cwV 2 hts gX6_moon_X6_time rfl rfl rfl (by decide +kernel) ⟨Nat.le_of_ble_eq_true rfl, Nat.le_of_ble_eq_true rfl⟩) (ob_recv hPic.at0 hK rfl) hPic hK rfl hl.1 rfl (Nat.le_of_ble_eq_true rfl) dX6_moon_3 (Nat.zero_le _) (Nat.zero_le _) ?_
  have htm3 := m_tm_in (ln := σ 2) (fi := σ 3) (b := (b)) (k := (k)) w2 w3 (by omega)
  refine q_ldc2 (z := 1000) hx hb hown (hts (.constantLong RX6 50 (1000)) (List.mem_of_getElem? (i := 1) rfl)) (by decide) dX6_moon_6 ?_
  refine q_ldiv hx hb dX6_moon_9 (by omega) (by omega) ?_
  have hdv : Int.tdiv (m_tm (σ 2) (σ 3) (k) (b)) (1000) = m_tm (σ 2) (σ 3) k b / 1000 := Int.tdiv_eq_ediv_of_nonneg (by omega)
  refine q_l2i hx hb dX6_moon_10 (by omega) ?_
  exact q_iret hx hb hr hlocks (hdv) dX6_moon_11
set_option maxHeartbeats 4000000 in
set_option maxRecDepth 100000 in
theorem z_isEclipseT (l : Launch) (D : va_G) (cI cO cL : ClassId) (z : Nat → Nat) (σ T P : Nat → Int) (hW : WF σ T) (hS : WS σ P) (t rc : Int) (ht : 0 ≤ t ∧ t ≤ 2100000000) (hrr : 0 ≤ rc ∧ rc ≤ 15000) : MI l yX6_isEclipse wsX6_isEclipse 0 0 D (ty3 cI cO cL) (PicS D cI cL z σ T P) [.ref (z 0), .long (iL t), .int (iI (rc))] (m_en (σ 4) (σ 5) t rc) := by
  refine MI_of (cc := cX6_isEclipse) (maxL := 10) (ret := (some .boolean)) (by decide) rfl (Nat.le_of_ble_eq_true rfl) ?_
  intro p e s m args below meth c ls hx hb hr hlocks hml hown hts hPic hK hl
  have hl : lv_has ls 10 [(0, .ref (z 0)), (1, .long (iL t)), (3, .int (iI (rc)))] := hl
  have hin_X6 : ∀ w ∈ u_ws RX6 TX6 10, w ∈ wsX6_isEclipse := (fun w h => List.mem_cons_of_mem _ (List.mem_append_right _ h))
  obtain ⟨w0, w1, w2, w3, w4, w5, w6, w7, w8⟩ := id hW
  have hjb := s_j_in (pe := σ 4) (nd := σ 5) (t := t) w4 w5 ht
  refine lv_lload_n hx hb dX6_isEclipse_0 rfl (lv_at hl 1 rfl) ?_
  refine lv_aload_n hx hb dX6_isEclipse_1 rfl (lv_at hl 0 rfl) ?_
  refine q_get (ci := 8) (C := RX6) (T := TX6) (N := 10) hx hb hts hin_X6 hown hK (v := .int (iI (σ 5))) hPic.at0 rfl 5 (by decide) (hts (.fieldLink RX6 56 "AlmanacHouseLaw$Sim" "node" "I") (List.mem_of_getElem? (i := 1) rfl)) (fun _ h9 => h9) rfl dX6_isEclipse_2 ?_
  refine q_i2l hx hb dX6_isEclipse_5 (by omega) ?_
  refine q_lsub hx hb dX6_isEclipse_6 ?_
  refine lv_aload_n hx hb dX6_isEclipse_7 rfl (lv_at hl 0 rfl) ?_
  refine q_get (ci := 8) (C := RX6) (T := TX6) (N := 10) hx hb hts hin_X6 hown hK (v := .int (iI (σ 4))) hPic.at0 rfl 4 (by decide) (hts (.fieldLink RX6 20 "AlmanacHouseLaw$Sim" "period" "I") (List.mem_of_getElem? (i := 2) rfl)) (fun _ h9 => h9) rfl dX6_isEclipse_8 ?_
  refine q_i2l hx hb dX6_isEclipse_11 (by omega) ?_
  refine q_ldiv hx hb dX6_isEclipse_12 (by omega) (by omega) ?_
  refine q_topL (fun j ej => ?_)
  rw [← ej] at hjb
  refine lv_lstore (lv' := [(4, .long (iL j)), (0, .ref (z 0)), (1, .long (iL t)), (3, .int (iI (rc)))]) hx hb dX6_isEclipse_13 hl (by decide) rfl (fun ls hl => ?_)
  refine lv_lload hx hb dX6_isEclipse_15 (lv_at hl 0 rfl) ?_
  refine q_lconst (z := 1) hx hb dX6_isEclipse_17 rfl ?_
  refine q_lsub hx hb dX6_isEclipse_18 ?_
  refine q_topL (fun k0 ek0 => ?_)
  refine lv_lstore (lv' := [(6, .long (iL k0)), (4, .long (iL j)), (0, .ref (z 0)), (1, .long (iL t)), (3, .int (iI (rc)))]) hx hb dX6_isEclipse_19 hl (by decide) rfl (fun ls hl => ?_)
  have key_21 : ∀ (fu : Nat) (k : Int), j - 1 ≤ k ∧ k ≤ j + 2 → (∀ i : Int, j - 1 ≤ i → i < k → 0 ≤ i → t - (σ 5 + i * σ 4) ≤ rc → -(t - (σ 5 + i * σ 4)) ≤ rc → False) → (((j + 2 - k).toNat : Int)) < (fu : Int) → ∀ ls : Array Slot, lv_has ls 10 [(0, .ref (z 0)), (1, .long (iL t)), (3, .int (iI (rc))), (4, .long (iL j)), (6, .long (iL k))] → W p l e { frames := 0, cells := 0, slots := 0, locals := 0 } s m args below meth c s.heap [] 0 0 (MQ below (vp_Si (fun r => r = iI (m_en (σ 4) (σ 5) t rc))) args s 0 0 (fun _ => False)) (F0 m 21 ls []) := by
    intro fu
    induction fu with
    | zero => intro k hk hno hm_21 ls hl; exact absurd hm_21 (by omega)
    | succ fu ih_21 =>
      intro k hk hno hm_21 ls hl
      refine lv_lload hx hb dX6_isEclipse_21 (lv_at hl 4 rfl) ?_
      refine lv_lload hx hb dX6_isEclipse_23 (lv_at hl 3 rfl) ?_
      refine q_lconst (z := 1) hx hb dX6_isEclipse_25 rfl ?_
      refine q_ladd hx hb dX6_isEclipse_26 ?_
      refine q_lcmp hx hb dX6_isEclipse_27 (by omega) (by omega) (fun lc_1 hlc_1 => ?_)
      refine q_if_gt (tgt := 84) hx hb dX6_isEclipse_28 (by decide) (by omega) (fun c_2 => ?_) (fun c_2 => ?_)
      · skip
        refine q_iconst hx hb dX6_isEclipse_84 ?_
        exact q_zret hx hb hr hlocks (by omega) ((s_en_not w4.1 hrr ej (fun h1 h2 h3 => hno j (by omega) (by omega) h1 h2 h3) (fun h1 h2 h3 => hno (j + 1) (by omega) (by omega) h1 h2 h3)).symm) dX6_isEclipse_85
      · skip
        refine lv_lload_n hx hb dX6_isEclipse_31 rfl (lv_at hl 1 rfl) ?_
        refine lv_aload_n hx hb dX6_isEclipse_32 rfl (lv_at hl 0 rfl) ?_
        refine q_get (ci := 8) (C := RX6) (T := TX6) (N := 10) hx hb hts hin_X6 hown hK (v := .int (iI (σ 5))) hPic.at0 rfl 5 (by decide) (hts (.fieldLink RX6 56 "AlmanacHouseLaw$Sim" "node" "I") (List.mem_of_getElem? (i := 1) rfl)) (fun _ h9 => h9) rfl dX6_isEclipse_33 ?_
        refine q_i2l hx hb dX6_isEclipse_36 (by omega) ?_
        refine lv_lload hx hb dX6_isEclipse_37 (lv_at hl 4 rfl) ?_
        refine lv_aload_n hx hb dX6_isEclipse_39 rfl (lv_at hl 0 rfl) ?_
        refine q_get (ci := 8) (C := RX6) (T := TX6) (N := 10) hx hb hts hin_X6 hown hK (v := .int (iI (σ 4))) hPic.at0 rfl 4 (by decide) (hts (.fieldLink RX6 20 "AlmanacHouseLaw$Sim" "period" "I") (List.mem_of_getElem? (i := 2) rfl)) (fun _ h9 => h9) rfl dX6_isEclipse_40 ?_
        refine q_i2l hx hb dX6_isEclipse_43 (by omega) ?_
        refine q_lmul hx hb dX6_isEclipse_44 ?_
        refine q_ladd hx hb dX6_isEclipse_45 ?_
        refine q_lsub hx hb dX6_isEclipse_46 ?_
        refine q_topL (fun bz ebz => ?_)
        have hkp := s_kp (pe := σ 4) (k := k) w4 (by omega)
        refine lv_lstore (lv' := [(8, .long (iL bz)), (0, .ref (z 0)), (1, .long (iL t)), (3, .int (iI (rc))), (4, .long (iL j)), (6, .long (iL k))]) hx hb dX6_isEclipse_47 hl (by decide) rfl (fun ls hl => ?_)
        refine lv_lload hx hb dX6_isEclipse_49 (lv_at hl 5 rfl) ?_
        refine q_lconst (z := 0) hx hb dX6_isEclipse_51 rfl ?_
        refine q_lcmp hx hb dX6_isEclipse_52 (by omega) (by omega) (fun lc_3 hlc_3 => ?_)
        refine q_if_lt (tgt := 75) hx hb dX6_isEclipse_53 (by decide) (by omega) (fun c_4 => ?_) (fun c_4 => ?_)
        · skip
          refine lv_lload hx hb dX6_isEclipse_75 (lv_at hl 5 rfl) ?_
          refine q_lconst (z := 1) hx hb dX6_isEclipse_77 rfl ?_
          refine q_ladd hx hb dX6_isEclipse_78 ?_
          refine lv_lstore (lv' := [(6, .long (iL ((k) + (1)))), (8, .long (iL bz)), (0, .ref (z 0)), (1, .long (iL t)), (3, .int (iI (rc))), (4, .long (iL j))]) hx hb dX6_isEclipse_79 hl (by decide) rfl (fun ls hl => ?_)
          refine lv_goto (tgt := 21) hx hb dX6_isEclipse_81 (by decide) ?_
          exact ih_21 _ (by omega) (fun i h1 h2 h3 h4 h5 => (Classical.em (i = k)).elim (fun hik => by subst hik; omega) (fun hik => hno i h1 (by omega) h3 h4 h5)) (by omega) _ (lv_sub hl [2, 3, 4, 5, 0] rfl)
        · skip
          refine lv_lload hx hb dX6_isEclipse_56 (lv_at hl 0 rfl) ?_
          refine lv_iload_n hx hb dX6_isEclipse_58 rfl (lv_at hl 3 rfl) ?_
          refine q_i2l hx hb dX6_isEclipse_59 (by omega) ?_
          refine q_lcmp hx hb dX6_isEclipse_60 (by omega) (by omega) (fun lc_5 hlc_5 => ?_)
          refine q_if_gt (tgt := 75) hx hb dX6_isEclipse_61 (by decide) (by omega) (fun c_6 => ?_) (fun c_6 => ?_)
          · skip
            refine lv_lload hx hb dX6_isEclipse_75 (lv_at hl 5 rfl) ?_
            refine q_lconst (z := 1) hx hb dX6_isEclipse_77 rfl ?_
            refine q_ladd hx hb dX6_isEclipse_78 ?_
            refine lv_lstore (lv' := [(6, .long (iL ((k) + (1)))), (8, .long (iL bz)), (0, .ref (z 0)), (1, .long (iL t)), (3, .int (iI (rc))), (4, .long (iL j))]) hx hb dX6_isEclipse_79 hl (by decide) rfl (fun ls hl => ?_)
            refine lv_goto (tgt := 21) hx hb dX6_isEclipse_81 (by decide) ?_
            exact ih_21 _ (by omega) (fun i h1 h2 h3 h4 h5 => (Classical.em (i = k)).elim (fun hik => by subst hik; omega) (fun hik => hno i h1 (by omega) h3 h4 h5)) (by omega) _ (lv_sub hl [2, 3, 4, 5, 0] rfl)
          · skip
            refine lv_lload hx hb dX6_isEclipse_64 (lv_at hl 0 rfl) ?_
            refine q_lneg hx hb dX6_isEclipse_66 ?_
            refine lv_iload_n hx hb dX6_isEclipse_67 rfl (lv_at hl 3 rfl) ?_
            refine q_i2l hx hb dX6_isEclipse_68 (by omega) ?_
            refine q_lcmp hx hb dX6_isEclipse_69 (by omega) (by omega) (fun lc_7 hlc_7 => ?_)
            refine q_if_gt (tgt := 75) hx hb dX6_isEclipse_70 (by decide) (by omega) (fun c_8 => ?_) (fun c_8 => ?_)
            · skip
              refine lv_lload hx hb dX6_isEclipse_75 (lv_at hl 5 rfl) ?_
              refine q_lconst (z := 1) hx hb dX6_isEclipse_77 rfl ?_
              refine q_ladd hx hb dX6_isEclipse_78 ?_
              refine lv_lstore (lv' := [(6, .long (iL ((k) + (1)))), (8, .long (iL bz)), (0, .ref (z 0)), (1, .long (iL t)), (3, .int (iI (rc))), (4, .long (iL j))]) hx hb dX6_isEclipse_79 hl (by decide) rfl (fun ls hl => ?_)
              refine lv_goto (tgt := 21) hx hb dX6_isEclipse_81 (by decide) ?_
              exact ih_21 _ (by omega) (fun i h1 h2 h3 h4 h5 => (Classical.em (i = k)).elim (fun hik => by subst hik; omega) (fun hik => hno i h1 (by omega) h3 h4 h5)) (by omega) _ (lv_sub hl [2, 3, 4, 5, 0] rfl)
            · skip
              refine q_iconst hx hb dX6_isEclipse_73 ?_
              exact q_zret hx hb hr hlocks (by omega) ((s_en_of (k := k) w4.1 hrr (by omega) (by omega) (by omega)).symm) dX6_isEclipse_74
  exact key_21 (4) _ (by omega) (fun i h1 h2 => by omega) (by omega) _ (lv_sub hl [2, 3, 4, 1, 0] rfl)
set_option maxHeartbeats 4000000 in
set_option maxRecDepth 100000 in
theorem z_isEclipse (l : Launch) (D : va_G) (cI cO cL : ClassId) (z : Nat → Nat) (σ T P : Nat → Int) (hW : WF σ T) (hS : WS σ P) (k b : Int) (hk : 0 ≤ k ∧ k ≤ 50000) (hb01 : b = 0 ∨ b = 1) : MI l yX6_isEclipse_ wsX6_isEclipse_ 1 29 D (ty3 cI cO cL) (PicS D cI cL z σ T P) [.ref (z 0), .int (iI (k)), .int (iI (b))] (m_en (σ 4) (σ 5) (m_tm (σ 2) (σ 3) k b) (m_rc b)) := by
  refine MI_of (cc := cX6_isEclipse_) (maxL := 3) (ret := (some .boolean)) (by decide) rfl (Nat.le_of_ble_eq_true rfl) ?_
  intro p e s m args below meth c ls hx hb hr hlocks hml hown hts hPic hK hl
  have hl : lv_has ls 3 [(0, .ref (z 0)), (1, .int (iI (k))), (2, .int (iI (b)))] := hl
  obtain ⟨w0, w1, w2, w3, w4, w5, w6, w7, w8⟩ := id hW
  refine lv_aload_n hx hb dX6_isEclipse__0 rfl (lv_at hl 0 rfl) ?_
  refine lv_aload_n hx hb dX6_isEclipse__1 rfl (lv_at hl 0 rfl) ?_
  refine lv_iload_n hx hb dX6_isEclipse__2 rfl (lv_at hl 1 rfl) ?_
  refine lv_iload_n hx hb dX6_isEclipse__3 rfl (lv_at hl 2 rfl) ?_
  refine q_callVl (fr := 0) (lo := 0) (nL := 3) (Pic := PicS D cI cL z σ T P) (As := [.int (iI (k)), .int (iI (b))]) (rest := [.ref (z 0)]) ⟨hx, hb, hml, hown, hts⟩ (z_time l D cI cO cL z σ T P hW hS (k) (b) (by omega) (by omega)) (cwV 2 hts gX6_isEclipse__X6_time rfl rfl rfl (by decide +kernel) ⟨Nat.le_of_ble_eq_true rfl, Nat.le_of_ble_eq_true rfl⟩) (ob_recv hPic.at0 hK rfl) hPic hK rfl hl.1 rfl (Nat.le_of_ble_eq_true rfl) dX6_isEclipse__4 (Nat.zero_le _) (Nat.zero_le _) ?_
  have htm4 := m_tm_in (ln := σ 2) (fi := σ 3) (b := (b)) (k := (k)) w2 w3 (by omega)
  have key_20 : ∀ (rc : Int), rc = m_rc b → ∀ ls : Array Slot, lv_has ls 3 [(0, .ref (z 0)), (1, .int (iI (k))), (2, .int (iI (b)))] → W p l e { frames := 1, cells := 0, slots := 0, locals := 29 } s m args below meth c s.heap [] 0 0 (MQ below (vp_Si (fun r => r = iI (m_en (σ 4) (σ 5) (m_tm (σ 2) (σ 3) k b) (m_rc b)))) args s 0 0 (fun _ => False)) (F0 m 20 ls [.int (iI (rc)), .long (iL (m_tm (σ 2) (σ 3) k b)), .ref (z 0)]) := by
    intro rc hrc ls hl
    have hrcb : 0 ≤ m_rc b ∧ m_rc b ≤ 15000 := by unfold m_rc; split <;> omega
    refine q_callV (fr := 0) (lo := 0) (nL := 3) (Pic := PicS D cI cL z σ T P) (As := [.long (iL (m_tm (σ 2) (σ 3) k b)), .int (iI (rc))]) (rest := []) ⟨hx, hb, hml, hown, hts⟩ (z_isEclipseT l D cI cO cL z σ T P hW hS (m_tm (σ 2) (σ 3) k b) (rc) (by omega) (by omega)) (cwV 2 hts gX6_isEclipse__X6_isEclipse rfl rfl rfl (by decide +kernel) ⟨Nat.le_of_ble_eq_true rfl, Nat.le_of_ble_eq_true rfl⟩) (ob_recv hPic.at0 hK rfl) hPic hK rfl hl.1 rfl (Nat.le_of_ble_eq_true rfl) dX6_isEclipse__20 (Nat.zero_le _) (Nat.zero_le _) ?_
    have hen20 := m_en_01 (σ 4) (σ 5) (m_tm (σ 2) (σ 3) k b) (rc)
    exact q_zret hx hb hr hlocks (by omega) (by rw [hrc]) dX6_isEclipse__23
  refine lv_iload_n hx hb dX6_isEclipse__7 rfl (lv_at hl 2 rfl) ?_
  refine q_if_eq (tgt := 17) hx hb dX6_isEclipse__8 (by decide) (by omega) (fun c_1 => ?_) (fun c_1 => ?_)
  · skip
    refine q_sipush hx hb dX6_isEclipse__17 (by decide) ?_
    exact key_20 _ (by unfold m_rc; split <;> omega) _ (lv_sub hl [0, 1, 2] rfl)
  · skip
    refine q_sipush hx hb dX6_isEclipse__11 (by decide) ?_
    refine lv_goto (tgt := 20) hx hb dX6_isEclipse__14 (by decide) ?_
    exact key_20 _ (by unfold m_rc; split <;> omega) _ (lv_sub hl [0, 1, 2] rfl)
set_option maxHeartbeats 4000000 in
set_option maxRecDepth 100000 in
theorem z_eclipses (l : Launch) (D : va_G) (cI cO cL : ClassId) (z : Nat → Nat) (σ T P : Nat → Int) (hW : WF σ T) (hS : WS σ P) (y f : Int) (hy : 0 ≤ y ∧ y ≤ 999) (hf01 : f = 0 ∨ f = 1) : MI l yX6_eclipses wsX6_eclipses 3 66 D (ty3 cI cO cL) (PicS D cI cL z σ T P) [.ref (z 0), .int (iI (y)), .int (iI (f))] (m_Eb σ y (1 - f)) := by
  refine MI_of (cc := cX6_eclipses) (maxL := 9) (ret := (some .int)) (by decide) rfl (Nat.le_of_ble_eq_true rfl) ?_
  intro p e s m args below meth c ls hx hb hr hlocks hml hown hts hPic hK hl
  have hl : lv_has ls 9 [(0, .ref (z 0)), (1, .int (iI (y))), (2, .int (iI (f)))] := hl
  have hin_X6 : ∀ w ∈ u_ws RX6 TX6 10, w ∈ wsX6_eclipses := (fun w h => List.mem_cons_of_mem _ (List.mem_append_right _ h))
  obtain ⟨w0, w1, w2, w3, w4, w5, w6, w7, w8⟩ := id hW
  obtain ⟨bb, hbb⟩ : ∃ bb : Int, bb = 1 - f := ⟨_, rfl⟩
  have hb01 : bb = 0 ∨ bb = 1 := by omega
  refine lv_aload_n hx hb dX6_eclipses_0 rfl (lv_at hl 0 rfl) ?_
  refine lv_iload_n hx hb dX6_eclipses_1 rfl (lv_at hl 1 rfl) ?_
  refine q_callV (fr := 2) (lo := 43) (nL := 9) (Pic := PicS D cI cL z σ T P) (As := [.int (iI (y))]) (rest := []) ⟨hx, hb, hml, hown, hts⟩ (z_begins l D cI cO cL z σ T P hW hS (y) (by omega)) (cwV 1 hts gX6_eclipses_X6_begins rfl rfl rfl (by decide +kernel) ⟨Nat.le_of_ble_eq_true rfl, Nat.le_of_ble_eq_true rfl⟩) (ob_recv hPic.at0 hK rfl) hPic hK rfl hl.1 rfl (Nat.le_of_ble_eq_true rfl) dX6_eclipses_2 (Nat.zero_le _) (Nat.zero_le _) ?_
  have hfd2 := m_fd_le (cy := σ 0) (lq := σ 1) (y := (y)) w0.1 w1 (by omega)
  refine q_top (fun fr efr => ?_)
  refine lv_istore_n (lv' := [(3, .int (iI (fr))), (0, .ref (z 0)), (1, .int (iI (y))), (2, .int (iI (f)))]) hx hb dX6_eclipses_5 rfl hl (by decide) rfl (fun ls hl => ?_)
  refine lv_iload_n hx hb dX6_eclipses_6 rfl (lv_at hl 0 rfl) ?_
  refine lv_aload_n hx hb dX6_eclipses_7 rfl (lv_at hl 1 rfl) ?_
  refine lv_iload_n hx hb dX6_eclipses_8 rfl (lv_at hl 2 rfl) ?_
  refine q_callV (fr := 1) (lo := 22) (nL := 9) (Pic := PicS D cI cL z σ T P) (As := [.int (iI (y))]) (rest := [.int (iI (fr))]) ⟨hx, hb, hml, hown, hts⟩ (z_yearDays l D cI cO cL z σ T P hW hS (y) (by omega)) (cwV 1 hts gX6_eclipses_X6_yearDays rfl rfl rfl (by decide +kernel) ⟨Nat.le_of_ble_eq_true rfl, Nat.le_of_ble_eq_true rfl⟩) (ob_recv hPic.at0 hK rfl) hPic hK rfl hl.1 rfl (Nat.le_of_ble_eq_true rfl) dX6_eclipses_9 (Nat.zero_le _) (Nat.zero_le _) ?_
  have hlp9 := m_leap_01 (σ 0) (σ 1) (y)
  refine q_iadd hx hb dX6_eclipses_12 ?_
  refine q_top (fun to eto => ?_)
  have hst := m_fd_succ (cy := σ 0) (lq := σ 1) (y := y) w0.1 w1 hy.1
  have hl01 := m_leap_01 (σ 0) (σ 1) y
  have hto : to = m_fd (σ 0) (σ 1) (y + 1) := by omega
  have hfr : 0 ≤ fr ∧ fr ≤ 366000 := by omega
  have hsq := s_q (ln := σ 2) (d := fr) w2 (by omega)
  have hcm : fr * 1000 = 1000 * fr := Int.mul_comm _ _
  refine lv_istore (lv' := [(4, .int (iI (to))), (3, .int (iI (fr))), (0, .ref (z 0)), (1, .int (iI (y))), (2, .int (iI (f)))]) hx hb dX6_eclipses_13 hl (by decide) rfl (fun ls hl => ?_)
  refine q_iconst hx hb dX6_eclipses_15 ?_
  refine lv_iload_n hx hb dX6_eclipses_16 rfl (lv_at hl 1 rfl) ?_
  refine q_sipush hx hb dX6_eclipses_17 (by decide) ?_
  refine q_imul hx hb dX6_eclipses_20 ?_
  refine lv_aload_n hx hb dX6_eclipses_21 rfl (lv_at hl 2 rfl) ?_
  refine q_get (ci := 8) (C := RX6) (T := TX6) (N := 10) hx hb hts hin_X6 hown hK (v := .int (iI (σ 2))) hPic.at0 rfl 2 (by decide) (hts (.fieldLink RX6 16 "AlmanacHouseLaw$Sim" "length" "I") (List.mem_of_getElem? (i := 1) rfl)) (fun _ h9 => h9) rfl dX6_eclipses_22 ?_
  refine q_idiv hx hb dX6_eclipses_25 (by omega) (by omega) ?_
  refine q_is (z := 1000 * fr / σ 2) (by rw [Int.mul_comm fr 1000]) ?_
  refine q_iconst hx hb dX6_eclipses_26 ?_
  refine q_isub hx hb dX6_eclipses_27 ?_
  refine q_mmax hx hb (hml.trans hl.1.symm) hown (hts (.methodLink RX6 63 Lib.Math.max.name) (List.mem_of_getElem? (i := 2) rfl)) (hts (.static Lib.Math.max.name) (List.mem_of_getElem? (i := 3) rfl)) (hts (.initialized "java/lang/Math") (List.mem_of_getElem? (i := 4) rfl)) (hts (.code Lib.Math.max.name Lib.Math.max.code 2 (some .int)) (List.mem_of_getElem? (i := 5) rfl)) (by omega) (by omega) (Nat.le_of_ble_eq_true rfl) (Nat.le_of_ble_eq_true rfl) (Nat.zero_le _) (Nat.zero_le _) dX6_eclipses_28 ?_
  refine q_top (fun k0 ek0 => ?_)
  have hk0 : k0 = s_k0 (σ 2) fr := ek0
  have hk1 := s_k0_in (ln := σ 2) (d := fr) w2 (by omega)
  have hk2 := s_k0_le (ln := σ 2) (fi := σ 3) (b := bb) (d := fr) w2 w3 (by omega)
  have hk3 := s_k0_up (ln := σ 2) (fi := σ 3) (b := bb) (d := fr) (u := to - fr) w2 w3 (by omega) (by omega)
  rw [show fr + (to - fr) = to by omega] at hk3
  have hAB := r_ff_mono0 (ln := σ 2) (fi := σ 3) (b := bb) (d := fr) (u := to) w2 (by omega)
  have hEb : m_Eb σ y bb = m_ce (σ 2) (σ 3) (σ 4) (σ 5) bb (m_ff (σ 2) (σ 3) bb (1000 * fr)) (m_ff (σ 2) (σ 3) bb (1000 * to) - m_ff (σ 2) (σ 3) bb (1000 * fr)).toNat := by rw [efr, hto]; rfl
  have hgA := fun (x : Int) (hx : 0 ≤ x) => s_ge (ln := σ 2) (fi := σ 3) (b := bb) (d := fr) (k := x) w2 hx
  have hgB := fun (x : Int) (hx : 0 ≤ x) => s_ge (ln := σ 2) (fi := σ 3) (b := bb) (d := to) (k := x) w2 hx
  generalize m_ff (σ 2) (σ 3) bb (1000 * fr) = A at hk2 hAB hEb hgA
  generalize m_ff (σ 2) (σ 3) bb (1000 * to) = B at hk3 hAB hEb hgB
  refine lv_istore (lv' := [(5, .int (iI (k0))), (4, .int (iI (to))), (3, .int (iI (fr))), (0, .ref (z 0)), (1, .int (iI (y))), (2, .int (iI (f)))]) hx hb dX6_eclipses_31 hl (by decide) rfl (fun ls hl => ?_)
  refine q_iconst hx hb dX6_eclipses_33 ?_
  refine lv_istore (lv' := [(6, .int (iI (0))), (5, .int (iI (k0))), (4, .int (iI (to))), (3, .int (iI (fr))), (0, .ref (z 0)), (1, .int (iI (y))), (2, .int (iI (f)))]) hx hb dX6_eclipses_34 hl (by decide) rfl (fun ls hl => ?_)
  refine q_iconst hx hb dX6_eclipses_36 ?_
  refine lv_istore (lv' := [(7, .int (iI (0))), (6, .int (iI (0))), (5, .int (iI (k0))), (4, .int (iI (to))), (3, .int (iI (fr))), (0, .ref (z 0)), (1, .int (iI (y))), (2, .int (iI (f)))]) hx hb dX6_eclipses_37 hl (by decide) rfl (fun ls hl => ?_)
  have key_39 : ∀ (fu : Nat) (em : Int) (i : Int), 0 ≤ i ∧ i ≤ 25 → em = m_ce (σ 2) (σ 3) (σ 4) (σ 5) bb A (s_cl A B (k0 + i) - A).toNat → (((25 - i).toNat : Int)) < (fu : Int) → ∀ ls : Array Slot, lv_has ls 9 [(0, .ref (z 0)), (1, .int (iI (y))), (2, .int (iI (f))), (3, .int (iI (fr))), (4, .int (iI (to))), (5, .int (iI (k0))), (6, .int (iI (em))), (7, .int (iI (i)))] → W p l e { frames := 3, cells := 0, slots := 0, locals := 66 } s m args below meth c s.heap [] 0 0 (MQ below (vp_Si (fun r => r = iI (m_Eb σ y (1 - f)))) args s 0 0 (fun _ => False)) (F0 m 39 ls []) := by
    intro fu
    induction fu with
    | zero => intro em i hi hem hm_39 ls hl; exact absurd hm_39 (by omega)
    | succ fu ih_39 =>
      intro em i hi hem hm_39 ls hl
      have hcs := s_ce_step (ln := σ 2) (fi := σ 3) (pe := σ 4) (nd := σ 5) (b := bb) (x := k0 + i) hAB
      rw [show k0 + i + 1 = k0 + (i + 1) by omega] at hcs
      have ga := hgA (k0 + i) (by omega)
      have gb := hgB (k0 + i) (by omega)
      have hemi := m_ce_in (σ 2) (σ 3) (σ 4) (σ 5) bb A (s_cl A B (k0 + i) - A).toNat
      refine lv_iload hx hb dX6_eclipses_39 (lv_at hl 7 rfl) ?_
      refine q_bipush hx hb dX6_eclipses_41 (by decide) ?_
      refine q_icmp_ge (tgt := 109) hx hb dX6_eclipses_43 (by decide) (by omega) (by omega) (fun c_1 => ?_) (fun c_1 => ?_)
      · skip
        refine lv_iload hx hb dX6_eclipses_109 (lv_at hl 6 rfl) ?_
        exact q_iret hx hb hr hlocks (by rw [← hbb, hem, hEb, s_cl_hi hAB (by omega)]) dX6_eclipses_111
      · skip
        have key_61 : ∀ ls : Array Slot, lv_has ls 9 [(0, .ref (z 0)), (1, .int (iI (y))), (2, .int (iI (f))), (3, .int (iI (fr))), (4, .int (iI (to))), (5, .int (iI (k0))), (6, .int (iI (em))), (7, .int (iI (i)))] → W p l e { frames := 3, cells := 0, slots := 0, locals := 66 } s m args below meth c s.heap [] 0 0 (MQ below (vp_Si (fun r => r = iI (m_Eb σ y (1 - f)))) args s 0 0 (fun _ => False)) (F0 m 61 ls [.int (iI (bb)), .int (iI (k0 + i)), .ref (z 0)]) := by
          intro   ls hl
          refine q_callV (fr := 1) (lo := 22) (nL := 9) (Pic := PicS D cI cL z σ T P) (As := [.int (iI (k0 + i)), .int (iI (bb))]) (rest := []) ⟨hx, hb, hml, hown, hts⟩ (z_moon l D cI cO cL z σ T P hW hS (k0 + i) (bb) (by omega) (by omega)) (cwV 2 hts gX6_eclipses_X6_moon rfl rfl rfl (by decide +kernel) ⟨Nat.le_of_ble_eq_true rfl, Nat.le_of_ble_eq_true rfl⟩) (ob_recv hPic.at0 hK rfl) hPic hK rfl hl.1 rfl (Nat.le_of_ble_eq_true rfl) dX6_eclipses_61 (Nat.zero_le _) (Nat.zero_le _) ?_
          have htm61 := m_tm_in (ln := σ 2) (fi := σ 3) (b := (bb)) (k := (k0 + i)) w2 w3 (by omega)
          refine q_top (fun dy edy => ?_)
          refine lv_istore (lv' := [(8, .int (iI (dy))), (0, .ref (z 0)), (1, .int (iI (y))), (2, .int (iI (f))), (3, .int (iI (fr))), (4, .int (iI (to))), (5, .int (iI (k0))), (6, .int (iI (em))), (7, .int (iI (i)))]) hx hb dX6_eclipses_64 hl (by decide) rfl (fun ls hl => ?_)
          refine lv_iload hx hb dX6_eclipses_66 (lv_at hl 0 rfl) ?_
          refine lv_iload_n hx hb dX6_eclipses_68 rfl (lv_at hl 4 rfl) ?_
          refine q_icmp_lt (tgt := 103) hx hb dX6_eclipses_69 (by decide) (by omega) (by omega) (fun c_2 => ?_) (fun c_2 => ?_)
          · skip
            refine q_iinc (k := 8) (lv' := [(7, .int (iI (i + 1))), (8, .int (iI (dy))), (0, .ref (z 0)), (1, .int (iI (y))), (2, .int (iI (f))), (3, .int (iI (fr))), (4, .int (iI (to))), (5, .int (iI (k0))), (6, .int (iI (em)))]) hx hb dX6_eclipses_103 hl rfl (by decide) rfl (fun ls hl => ?_)
            refine lv_goto (tgt := 39) hx hb dX6_eclipses_106 (by decide) ?_
            exact ih_39 _ _ (by omega) (by rw [hcs]; first | (rw [if_pos (by omega)]; omega) | (rw [if_neg (by omega)]; omega)) (by omega) _ (lv_sub hl [2, 3, 4, 5, 6, 7, 8, 0] rfl)
          · skip
            refine lv_iload hx hb dX6_eclipses_72 (lv_at hl 0 rfl) ?_
            refine lv_iload hx hb dX6_eclipses_74 (lv_at hl 5 rfl) ?_
            refine q_icmp_ge (tgt := 103) hx hb dX6_eclipses_76 (by decide) (by omega) (by omega) (fun c_3 => ?_) (fun c_3 => ?_)
            · skip
              refine q_iinc (k := 8) (lv' := [(7, .int (iI (i + 1))), (8, .int (iI (dy))), (0, .ref (z 0)), (1, .int (iI (y))), (2, .int (iI (f))), (3, .int (iI (fr))), (4, .int (iI (to))), (5, .int (iI (k0))), (6, .int (iI (em)))]) hx hb dX6_eclipses_103 hl rfl (by decide) rfl (fun ls hl => ?_)
              refine lv_goto (tgt := 39) hx hb dX6_eclipses_106 (by decide) ?_
              exact ih_39 _ _ (by omega) (by rw [hcs]; first | (rw [if_pos (by omega)]; omega) | (rw [if_neg (by omega)]; omega)) (by omega) _ (lv_sub hl [2, 3, 4, 5, 6, 7, 8, 0] rfl)
            · skip
              have key_94 : ∀ ls : Array Slot, lv_has ls 9 [(0, .ref (z 0)), (1, .int (iI (y))), (2, .int (iI (f))), (3, .int (iI (fr))), (4, .int (iI (to))), (5, .int (iI (k0))), (6, .int (iI (em))), (7, .int (iI (i))), (8, .int (iI (dy)))] → W p l e { frames := 3, cells := 0, slots := 0, locals := 66 } s m args below meth c s.heap [] 0 0 (MQ below (vp_Si (fun r => r = iI (m_Eb σ y (1 - f)))) args s 0 0 (fun _ => False)) (F0 m 94 ls [.int (iI (bb)), .int (iI (k0 + i)), .ref (z 0)]) := by
                intro   ls hl
                refine q_callV (fr := 1) (lo := 29) (nL := 9) (Pic := PicS D cI cL z σ T P) (As := [.int (iI (k0 + i)), .int (iI (bb))]) (rest := []) ⟨hx, hb, hml, hown, hts⟩ (z_isEclipse l D cI cO cL z σ T P hW hS (k0 + i) (bb) (by omega) (by omega)) (cwV 2 hts gX6_eclipses_X6_isEclipse_ rfl rfl rfl (by decide +kernel) ⟨Nat.le_of_ble_eq_true rfl, Nat.le_of_ble_eq_true rfl⟩) (ob_recv hPic.at0 hK rfl) hPic hK rfl hl.1 rfl (Nat.le_of_ble_eq_true rfl) dX6_eclipses_94 (Nat.zero_le _) (Nat.zero_le _) ?_
                have hen94 := m_en_01 (σ 4) (σ 5) (m_tm (σ 2) (σ 3) (k0 + i) (bb)) (m_rc (bb))
                refine q_if_eq (tgt := 103) hx hb dX6_eclipses_97 (by decide) (by omega) (fun c_4 => ?_) (fun c_4 => ?_)
                · skip
                  refine q_iinc (k := 7) (lv' := [(7, .int (iI (i + 1))), (0, .ref (z 0)), (1, .int (iI (y))), (2, .int (iI (f))), (3, .int (iI (fr))), (4, .int (iI (to))), (5, .int (iI (k0))), (6, .int (iI (em))), (8, .int (iI (dy)))]) hx hb dX6_eclipses_103 hl rfl (by decide) rfl (fun ls hl => ?_)
                  refine lv_goto (tgt := 39) hx hb dX6_eclipses_106 (by decide) ?_
                  exact ih_39 _ _ (by omega) (by rw [hcs]; first | (rw [if_pos (by omega)]; omega) | (rw [if_neg (by omega)]; omega)) (by omega) _ (lv_sub hl [1, 2, 3, 4, 5, 6, 7, 0] rfl)
                · skip
                  refine q_iinc (k := 6) (lv' := [(6, .int (iI (em + 1))), (0, .ref (z 0)), (1, .int (iI (y))), (2, .int (iI (f))), (3, .int (iI (fr))), (4, .int (iI (to))), (5, .int (iI (k0))), (7, .int (iI (i))), (8, .int (iI (dy)))]) hx hb dX6_eclipses_100 hl rfl (by decide) rfl (fun ls hl => ?_)
                  refine q_iinc (k := 7) (lv' := [(7, .int (iI (i + 1))), (6, .int (iI (em + 1))), (0, .ref (z 0)), (1, .int (iI (y))), (2, .int (iI (f))), (3, .int (iI (fr))), (4, .int (iI (to))), (5, .int (iI (k0))), (8, .int (iI (dy)))]) hx hb dX6_eclipses_103 hl rfl (by decide) rfl (fun ls hl => ?_)
                  refine lv_goto (tgt := 39) hx hb dX6_eclipses_106 (by decide) ?_
                  exact ih_39 _ _ (by omega) (by rw [hcs]; first | (rw [if_pos (by omega)]; omega) | (rw [if_neg (by omega)]; omega)) (by omega) _ (lv_sub hl [2, 3, 4, 5, 6, 7, 1, 0] rfl)
              refine lv_aload_n hx hb dX6_eclipses_79 rfl (lv_at hl 1 rfl) ?_
              refine lv_iload hx hb dX6_eclipses_80 (lv_at hl 6 rfl) ?_
              refine lv_iload hx hb dX6_eclipses_82 (lv_at hl 8 rfl) ?_
              refine q_iadd hx hb dX6_eclipses_84 ?_
              refine lv_iload_n hx hb dX6_eclipses_85 rfl (lv_at hl 3 rfl) ?_
              refine q_if_ne (tgt := 93) hx hb dX6_eclipses_86 (by decide) (by omega) (fun c_5 => ?_) (fun c_5 => ?_)
              · skip
                refine q_iconst hx hb dX6_eclipses_93 ?_
                refine q_is (z := bb) (by omega) ?_
                exact key_94   _ (lv_sub hl [1, 2, 3, 4, 5, 6, 7, 8, 0] rfl)
              · skip
                refine q_iconst hx hb dX6_eclipses_89 ?_
                refine lv_goto (tgt := 94) hx hb dX6_eclipses_90 (by decide) ?_
                refine q_is (z := bb) (by omega) ?_
                exact key_94   _ (lv_sub hl [1, 2, 3, 4, 5, 6, 7, 8, 0] rfl)
        refine lv_aload_n hx hb dX6_eclipses_46 rfl (lv_at hl 0 rfl) ?_
        refine lv_iload hx hb dX6_eclipses_47 (lv_at hl 5 rfl) ?_
        refine lv_iload hx hb dX6_eclipses_49 (lv_at hl 7 rfl) ?_
        refine q_iadd hx hb dX6_eclipses_51 ?_
        refine lv_iload_n hx hb dX6_eclipses_52 rfl (lv_at hl 2 rfl) ?_
        refine q_if_ne (tgt := 60) hx hb dX6_eclipses_53 (by decide) (by omega) (fun c_6 => ?_) (fun c_6 => ?_)
        · skip
          refine q_iconst hx hb dX6_eclipses_60 ?_
          refine q_is (z := bb) (by omega) ?_
          exact key_61   _ (lv_sub hl [0, 1, 2, 3, 4, 5, 6, 7] rfl)
        · skip
          refine q_iconst hx hb dX6_eclipses_56 ?_
          refine lv_goto (tgt := 61) hx hb dX6_eclipses_57 (by decide) ?_
          refine q_is (z := bb) (by omega) ?_
          exact key_61   _ (lv_sub hl [0, 1, 2, 3, 4, 5, 6, 7] rfl)
  exact key_39 (26) _ _ (by omega) (by rw [s_cl_lo (by omega), Int.sub_self]; rfl) (by omega) _ (lv_sub hl [5, 6, 7, 4, 3, 2, 1, 0] rfl)
set_option maxHeartbeats 4000000 in
set_option maxRecDepth 100000 in
theorem z_feast (l : Launch) (D : va_G) (cI cO cL : ClassId) (z : Nat → Nat) (σ T P : Nat → Int) (hW : WF σ T) (hS : WS σ P) (f y : Int) (hf : 0 ≤ f ∧ f < σ 6) (hy : 0 ≤ y ∧ y ≤ 999) : MI l yX6_feast wsX6_feast 4 89 D (ty3 cI cO cL) (PicS D cI cL z σ T P) [.ref (z 0), .int (iI (f)), .int (iI (y))] (m_F σ T f.toNat y) := by
  refine MI_of (cc := cX6_feast) (maxL := 6) (ret := (some .int)) (by decide) rfl (Nat.le_of_ble_eq_true rfl) ?_
  intro p e s m args below meth c ls hx hb hr hlocks hml hown hts hPic hK hl
  have hl : lv_has ls 6 [(0, .ref (z 0)), (1, .int (iI (f))), (2, .int (iI (y)))] := hl
  have hin_X6 : ∀ w ∈ u_ws RX6 TX6 10, w ∈ wsX6_feast := (fun w h => List.mem_cons_of_mem _ (List.mem_append_right _ h))
  obtain ⟨w0, w1, w2, w3, w4, w5, w6, w7, w8⟩ := id hW
  obtain ⟨f0, f1, f2, f3, f4⟩ := w8 f.toNat (by omega)
  have hd0 := m_d0_in (cy := σ 0) (lq := σ 1) (mo := T (5 * f.toNat)) (da := T (5 * f.toNat + 1)) (y := y) w0.1 w1 hy f0 f1
  have hd1 := m_d1_in (ln := σ 2) (fi := σ 3) (mn := T (5 * f.toNat + 2)) w2 w3 f2 hd0
  refine lv_aload_n hx hb dX6_feast_0 rfl (lv_at hl 0 rfl) ?_
  refine q_get (ci := 8) (C := RX6) (T := TX6) (N := 10) hx hb hts hin_X6 hown hK (v := .ref (z 1)) hPic.at0 rfl 6 (by decide) (hts (.fieldLink RX6 25 "AlmanacHouseLaw$Sim" "feasts" "[[I") (List.mem_of_getElem? (i := 1) rfl)) (fun _ h9 => h9) rfl dX6_feast_1 ?_
  refine lv_iload_n hx hb dX6_feast_4 rfl (lv_at hl 1 rfl) ?_
  refine q_aldA (cA := cL) (n := (σ 6).toNat) (f := (fun j => if j < (σ 6).toNat then some (z (10 + j)) else none)) (v := z (10 + (f).toNat)) hx hb hK hPic.fs 2 rfl (by omega) (by omega) (if_pos (by omega)) dX6_feast_5 ?_
  refine lv_astore_n (lv' := [(3, .ref (z (10 + (f).toNat))), (0, .ref (z 0)), (1, .int (iI (f))), (2, .int (iI (y)))]) hx hb dX6_feast_6 rfl hl (by decide) rfl (fun ls hl => ?_)
  refine lv_aload_n hx hb dX6_feast_7 rfl (lv_at hl 1 rfl) ?_
  refine lv_iload_n hx hb dX6_feast_8 rfl (lv_at hl 3 rfl) ?_
  refine lv_aload_n hx hb dX6_feast_9 rfl (lv_at hl 0 rfl) ?_
  refine q_iconst hx hb dX6_feast_10 ?_
  refine q_iald (cA := cI) (n := 5) (f := (fun k => T (5 * (f).toNat + k))) hx hb hK (hPic.fr (i := (f).toNat) (by omega)) 0 rfl (by omega) (by decide) dX6_feast_11 ?_
  refine q_is (z := T (5 * (f).toNat)) (by rfl) ?_
  refine lv_aload_n hx hb dX6_feast_12 rfl (lv_at hl 0 rfl) ?_
  refine q_iconst hx hb dX6_feast_13 ?_
  refine q_iald (cA := cI) (n := 5) (f := (fun k => T (5 * (f).toNat + k))) hx hb hK (hPic.fr (i := (f).toNat) (by omega)) 0 rfl (by omega) (by decide) dX6_feast_14 ?_
  refine q_is (z := T (5 * (f).toNat + 1)) (by rfl) ?_
  refine q_callV (fr := 3) (lo := 66) (nL := 6) (Pic := PicS D cI cL z σ T P) (As := [.int (iI (y)), .int (iI (T (5 * (f).toNat))), .int (iI (T (5 * (f).toNat + 1)))]) (rest := []) ⟨hx, hb, hml, hown, hts⟩ (z_day l D cI cO cL z σ T P hW hS (y) (T (5 * (f).toNat)) (T (5 * (f).toNat + 1)) (by omega) (by omega) (by omega)) (cwV 3 hts gX6_feast_X6_day rfl rfl rfl (by decide +kernel) ⟨Nat.le_of_ble_eq_true rfl, Nat.le_of_ble_eq_true rfl⟩) (ob_recv hPic.at0 hK rfl) hPic hK rfl hl.1 rfl (Nat.le_of_ble_eq_true rfl) dX6_feast_15 (Nat.zero_le _) (Nat.zero_le _) ?_
  have hd015 : 0 ≤ m_d0 (σ 0) (σ 1) (T (5 * (f).toNat)) (T (5 * (f).toNat + 1)) (y) ∧ m_d0 (σ 0) (σ 1) (T (5 * (f).toNat)) (T (5 * (f).toNat + 1)) (y) ≤ 366500 := by have h9 := m_fd_le (cy := σ 0) (lq := σ 1) (y := (y)) w0.1 w1 (by omega); unfold m_d0; omega
  refine q_top (fun d0 ed0 => ?_)
  rw [← ed0] at hd0 hd1
  refine lv_istore (lv' := [(4, .int (iI (d0))), (3, .ref (z (10 + (f).toNat))), (0, .ref (z 0)), (1, .int (iI (f))), (2, .int (iI (y)))]) hx hb dX6_feast_18 hl (by decide) rfl (fun ls hl => ?_)
  refine lv_aload_n hx hb dX6_feast_20 rfl (lv_at hl 1 rfl) ?_
  refine q_iconst hx hb dX6_feast_21 ?_
  refine q_iald (cA := cI) (n := 5) (f := (fun k => T (5 * (f).toNat + k))) hx hb hK (hPic.fr (i := (f).toNat) (by omega)) 0 rfl (by omega) (by decide) dX6_feast_22 ?_
  refine q_is (z := T (5 * (f).toNat + 2)) (by rfl) ?_
  have key_78 : ∀ (d1 : Int), d1 = m_d1 (σ 2) (σ 3) (T (5 * f.toNat + 2)) d0 → ∀ ls : Array Slot, lv_has ls 6 [(0, .ref (z 0)), (1, .int (iI (f))), (2, .int (iI (y))), (3, .ref (z (10 + (f).toNat))), (4, .int (iI (d1)))] → W p l e { frames := 4, cells := 0, slots := 0, locals := 89 } s m args below meth c s.heap [] 0 0 (MQ below (vp_Si (fun r => r = iI (m_F σ T f.toNat y))) args s 0 0 (fun _ => False)) (F0 m 78 ls []) := by
    intro d1 hd1e ls hl
    have key_78 : ∀ (fu : Nat) (dd : Int), d1 ≤ dd ∧ dd ≤ m_d2 (T (5 * f.toNat + 3)) d1 → (((m_d2 (T (5 * f.toNat + 3)) d1 - dd).toNat : Int)) < (fu : Int) → ∀ ls : Array Slot, lv_has ls 6 [(0, .ref (z 0)), (1, .int (iI (f))), (2, .int (iI (y))), (3, .ref (z (10 + (f).toNat))), (4, .int (iI (dd)))] → W p l e { frames := 4, cells := 0, slots := 0, locals := 89 } s m args below meth c s.heap [] 0 0 (MQ below (vp_Si (fun r => r = iI (m_F σ T f.toNat y))) args s 0 0 (fun _ => False)) (F0 m 78 ls []) := by
      intro fu
      induction fu with
      | zero => intro dd hdd hm_78 ls hl; exact absurd hm_78 (by omega)
      | succ fu ih_78 =>
        intro dd hdd hm_78 ls hl
        have hd2 := m_d2_in (wd := T (5 * f.toNat + 3)) (d := d1) f3 (by rw [hd1e]; exact hd1.1)
        refine lv_aload_n hx hb dX6_feast_78 rfl (lv_at hl 3 rfl) ?_
        refine q_iconst hx hb dX6_feast_79 ?_
        refine q_iald (cA := cI) (n := 5) (f := (fun k => T (5 * (f).toNat + k))) hx hb hK (hPic.fr (i := (f).toNat) (by omega)) 0 rfl (by omega) (by decide) dX6_feast_80 ?_
        refine q_is (z := T (5 * (f).toNat + 3)) (by rfl) ?_
        refine q_if_lt (tgt := 101) hx hb dX6_feast_81 (by decide) (by omega) (fun c_1 => ?_) (fun c_1 => ?_)
        · skip
          refine lv_iload hx hb dX6_feast_101 (lv_at hl 4 rfl) ?_
          refine lv_aload_n hx hb dX6_feast_103 rfl (lv_at hl 3 rfl) ?_
          refine q_iconst hx hb dX6_feast_104 ?_
          refine q_iald (cA := cI) (n := 5) (f := (fun k => T (5 * (f).toNat + k))) hx hb hK (hPic.fr (i := (f).toNat) (by omega)) 0 rfl (by omega) (by decide) dX6_feast_105 ?_
          refine q_is (z := T (5 * (f).toNat + 4)) (by rfl) ?_
          refine q_iadd hx hb dX6_feast_106 ?_
          exact q_iret hx hb hr hlocks (by unfold m_F m_fday; rw [← ed0, ← hd1e]; unfold m_d2; unfold m_d2 at hdd hd2; split <;> split at hdd <;> omega) dX6_feast_107
        · skip
          refine lv_iload hx hb dX6_feast_84 (lv_at hl 4 rfl) ?_
          refine q_bipush hx hb dX6_feast_86 (by decide) ?_
          refine q_irem hx hb dX6_feast_88 (by omega) (by omega) ?_
          refine lv_aload_n hx hb dX6_feast_89 rfl (lv_at hl 3 rfl) ?_
          refine q_iconst hx hb dX6_feast_90 ?_
          refine q_iald (cA := cI) (n := 5) (f := (fun k => T (5 * (f).toNat + k))) hx hb hK (hPic.fr (i := (f).toNat) (by omega)) 0 rfl (by omega) (by decide) dX6_feast_91 ?_
          refine q_is (z := T (5 * (f).toNat + 3)) (by rfl) ?_
          refine q_icmp_eq (tgt := 101) hx hb dX6_feast_92 (by decide) (by omega) (by omega) (fun c_2 => ?_) (fun c_2 => ?_)
          · skip
            refine lv_iload hx hb dX6_feast_101 (lv_at hl 4 rfl) ?_
            refine lv_aload_n hx hb dX6_feast_103 rfl (lv_at hl 3 rfl) ?_
            refine q_iconst hx hb dX6_feast_104 ?_
            refine q_iald (cA := cI) (n := 5) (f := (fun k => T (5 * (f).toNat + k))) hx hb hK (hPic.fr (i := (f).toNat) (by omega)) 0 rfl (by omega) (by decide) dX6_feast_105 ?_
            refine q_is (z := T (5 * (f).toNat + 4)) (by rfl) ?_
            refine q_iadd hx hb dX6_feast_106 ?_
            exact q_iret hx hb hr hlocks (by unfold m_F m_fday; rw [← ed0, ← hd1e]; unfold m_d2; unfold m_d2 at hdd hd2; split <;> split at hdd <;> omega) dX6_feast_107
          · skip
            refine q_iinc (k := 4) (lv' := [(4, .int (iI (dd + 1))), (0, .ref (z 0)), (1, .int (iI (f))), (2, .int (iI (y))), (3, .ref (z (10 + (f).toNat)))]) hx hb dX6_feast_95 hl rfl (by decide) rfl (fun ls hl => ?_)
            refine lv_goto (tgt := 78) hx hb dX6_feast_98 (by decide) ?_
            have e9 : m_d2 (T (5 * f.toNat + 3)) d1 = d1 + (T (5 * f.toNat + 3) - d1 % 7 + 7) % 7 := if_pos (by omega)
            have hlt : dd < m_d2 (T (5 * f.toNat + 3)) d1 := by rw [e9] at hdd ⊢; omega
            exact ih_78 _ (by omega) (by omega) _ (lv_sub hl [1, 2, 3, 4, 0] rfl)
    have hd2 := m_d2_in (wd := T (5 * f.toNat + 3)) (d := d1) f3 (by rw [hd1e]; exact hd1.1)
    exact key_78 (8) _ (by omega) (by omega) _ (lv_sub hl [0, 1, 2, 3, 4] rfl)
  refine q_if_le (tgt := 78) hx hb dX6_feast_23 (by decide) (by omega) (fun c_3 => ?_) (fun c_3 => ?_)
  · skip
    exact key_78 _ (by first | (unfold m_d1; rw [if_neg (by omega)]) | (have hkk : k = m_ff (σ 2) (σ 3) 1 (1000 * d0) := (by omega); rw [hkk] at ed1x; unfold m_d1; rw [if_pos (by omega)]; exact ed1x)) _ (lv_sub hl [2, 3, 4, 1, 0] rfl)
  · skip
    refine q_iconst hx hb dX6_feast_26 ?_
    refine lv_iload hx hb dX6_feast_27 (lv_at hl 0 rfl) ?_
    refine q_sipush hx hb dX6_feast_29 (by decide) ?_
    refine q_imul hx hb dX6_feast_32 ?_
    refine lv_aload_n hx hb dX6_feast_33 rfl (lv_at hl 2 rfl) ?_
    refine q_get (ci := 8) (C := RX6) (T := TX6) (N := 10) hx hb hts hin_X6 hown hK (v := .int (iI (σ 2))) hPic.at0 rfl 2 (by decide) (hts (.fieldLink RX6 16 "AlmanacHouseLaw$Sim" "length" "I") (List.mem_of_getElem? (i := 2) rfl)) (fun _ h9 => h9) rfl dX6_feast_34 ?_
    have hsq := s_q (ln := σ 2) (d := d0) w2 (by omega)
    refine q_idiv hx hb dX6_feast_37 (by omega) (by omega) ?_
    refine q_is (z := 1000 * d0 / σ 2) (by rw [Int.mul_comm d0 1000]) ?_
    refine q_iconst hx hb dX6_feast_38 ?_
    refine q_isub hx hb dX6_feast_39 ?_
    refine q_mmax hx hb (hml.trans hl.1.symm) hown (hts (.methodLink RX6 63 Lib.Math.max.name) (List.mem_of_getElem? (i := 3) rfl)) (hts (.static Lib.Math.max.name) (List.mem_of_getElem? (i := 4) rfl)) (hts (.initialized "java/lang/Math") (List.mem_of_getElem? (i := 5) rfl)) (hts (.code Lib.Math.max.name Lib.Math.max.code 2 (some .int)) (List.mem_of_getElem? (i := 6) rfl)) (by omega) (by omega) (Nat.le_of_ble_eq_true rfl) (Nat.le_of_ble_eq_true rfl) (Nat.zero_le _) (Nat.zero_le _) dX6_feast_40 ?_
    refine q_top (fun k0 ek0 => ?_)
    have hcm : d0 * 1000 = 1000 * d0 := Int.mul_comm _ _
    have hk0 : k0 = s_k0 (σ 2) d0 := ek0
    have hk1 := s_k0_in (ln := σ 2) (d := d0) w2 (by omega)
    have hk2 := s_k0_le (ln := σ 2) (fi := σ 3) (b := 1) (d := d0) w2 w3 (by omega)
    have hfu := m_ff_up (ln := σ 2) (fi := σ 3) (b := 1) (t := 1000 * d0) w2 w3 (by omega)
    refine lv_istore (lv' := [(5, .int (iI (k0))), (4, .int (iI (d0))), (3, .ref (z (10 + (f).toNat))), (0, .ref (z 0)), (1, .int (iI (f))), (2, .int (iI (y)))]) hx hb dX6_feast_43 hl (by decide) rfl (fun ls hl => ?_)
    have key_45 : ∀ (fu : Nat) (k : Int), 0 ≤ k ∧ k ≤ m_ff (σ 2) (σ 3) 1 (1000 * d0) → (((m_ff (σ 2) (σ 3) 1 (1000 * d0) - k).toNat : Int)) < (fu : Int) → ∀ ls : Array Slot, lv_has ls 6 [(0, .ref (z 0)), (1, .int (iI (f))), (2, .int (iI (y))), (3, .ref (z (10 + (f).toNat))), (4, .int (iI (d0))), (5, .int (iI (k)))] → W p l e { frames := 4, cells := 0, slots := 0, locals := 89 } s m args below meth c s.heap [] 0 0 (MQ below (vp_Si (fun r => r = iI (m_F σ T f.toNat y))) args s 0 0 (fun _ => False)) (F0 m 45 ls []) := by
      intro fu
      induction fu with
      | zero => intro k hk hm_45 ls hl; exact absurd hm_45 (by omega)
      | succ fu ih_45 =>
        intro k hk hm_45 ls hl
        have hge := s_ge (ln := σ 2) (fi := σ 3) (b := 1) (d := d0) (k := k) w2 hk.1
        refine lv_aload_n hx hb dX6_feast_45 rfl (lv_at hl 0 rfl) ?_
        refine lv_iload hx hb dX6_feast_46 (lv_at hl 5 rfl) ?_
        refine q_iconst hx hb dX6_feast_48 ?_
        refine q_callV (fr := 1) (lo := 22) (nL := 6) (Pic := PicS D cI cL z σ T P) (As := [.int (iI (k)), .int (iI (1))]) (rest := []) ⟨hx, hb, hml, hown, hts⟩ (z_moon l D cI cO cL z σ T P hW hS (k) (1) (by omega) (by omega)) (cwV 2 hts gX6_feast_X6_moon rfl rfl rfl (by decide +kernel) ⟨Nat.le_of_ble_eq_true rfl, Nat.le_of_ble_eq_true rfl⟩) (ob_recv hPic.at0 hK rfl) hPic hK rfl hl.1 rfl (Nat.le_of_ble_eq_true rfl) dX6_feast_49 (Nat.zero_le _) (Nat.zero_le _) ?_
        have htm49 := m_tm_in (ln := σ 2) (fi := σ 3) (b := (1)) (k := (k)) w2 w3 (by omega)
        refine lv_iload hx hb dX6_feast_52 (lv_at hl 4 rfl) ?_
        refine q_icmp_ge (tgt := 63) hx hb dX6_feast_54 (by decide) (by omega) (by omega) (fun c_4 => ?_) (fun c_4 => ?_)
        · skip
          refine lv_aload_n hx hb dX6_feast_63 rfl (lv_at hl 0 rfl) ?_
          refine lv_iload hx hb dX6_feast_64 (lv_at hl 5 rfl) ?_
          refine lv_aload_n hx hb dX6_feast_66 rfl (lv_at hl 3 rfl) ?_
          refine q_iconst hx hb dX6_feast_67 ?_
          refine q_iald (cA := cI) (n := 5) (f := (fun k => T (5 * (f).toNat + k))) hx hb hK (hPic.fr (i := (f).toNat) (by omega)) 0 rfl (by omega) (by decide) dX6_feast_68 ?_
          refine q_is (z := T (5 * (f).toNat + 2)) (by rfl) ?_
          refine q_iadd hx hb dX6_feast_69 ?_
          refine q_iconst hx hb dX6_feast_70 ?_
          refine q_isub hx hb dX6_feast_71 ?_
          refine q_iconst hx hb dX6_feast_72 ?_
          refine q_callV (fr := 1) (lo := 22) (nL := 6) (Pic := PicS D cI cL z σ T P) (As := [.int (iI (((k) + (T (5 * (f).toNat + 2))) - (1))), .int (iI (1))]) (rest := []) ⟨hx, hb, hml, hown, hts⟩ (z_moon l D cI cO cL z σ T P hW hS (((k) + (T (5 * (f).toNat + 2))) - (1)) (1) (by omega) (by omega)) (cwV 2 hts gX6_feast_X6_moon rfl rfl rfl (by decide +kernel) ⟨Nat.le_of_ble_eq_true rfl, Nat.le_of_ble_eq_true rfl⟩) (ob_recv hPic.at0 hK rfl) hPic hK rfl hl.1 rfl (Nat.le_of_ble_eq_true rfl) dX6_feast_73 (Nat.zero_le _) (Nat.zero_le _) ?_
          have htm73 := m_tm_in (ln := σ 2) (fi := σ 3) (b := (1)) (k := (((k) + (T (5 * (f).toNat + 2))) - (1))) w2 w3 (by omega)
          refine q_top (fun d1x ed1x => ?_)
          refine lv_istore (lv' := [(4, .int (iI (d1x))), (0, .ref (z 0)), (1, .int (iI (f))), (2, .int (iI (y))), (3, .ref (z (10 + (f).toNat))), (5, .int (iI (k)))]) hx hb dX6_feast_76 hl (by decide) rfl (fun ls hl => ?_)
          exact key_78 _ (by first | (unfold m_d1; rw [if_neg (by omega)]) | (have hkk : k = m_ff (σ 2) (σ 3) 1 (1000 * d0) := (by omega); rw [hkk] at ed1x; unfold m_d1; rw [if_pos (by omega)]; exact ed1x)) _ (lv_sub hl [1, 2, 3, 4, 0] rfl)
        · skip
          refine q_iinc (k := 5) (lv' := [(5, .int (iI (k + 1))), (0, .ref (z 0)), (1, .int (iI (f))), (2, .int (iI (y))), (3, .ref (z (10 + (f).toNat))), (4, .int (iI (d0)))]) hx hb dX6_feast_57 hl rfl (by decide) rfl (fun ls hl => ?_)
          refine lv_goto (tgt := 45) hx hb dX6_feast_60 (by decide) ?_
          exact ih_45 _ (by omega) (by omega) _ (lv_sub hl [1, 2, 3, 4, 5, 0] rfl)
    exact key_45 ((m_ff (σ 2) (σ 3) 1 (1000 * d0)).toNat + 1) _ (by omega) (by omega) _ (lv_sub hl [3, 4, 5, 2, 1, 0] rfl)
set_option maxHeartbeats 4000000 in
set_option maxRecDepth 100000 in
theorem z_off (l : Launch) (D : va_G) (cI cO cL : ClassId) (z : Nat → Nat) (σ T P : Nat → Int) (hW : WF σ T) (hS : WS σ P) (j : Int) (hj : 0 ≤ j ∧ j < σ 7) : MI l yX6_off wsX6_off 5 114 D (ty3 cI cO cL) (PicS D cI cL z σ T P) [.ref (z 0), .ref (z (20 + j.toNat))] (m_chg (fun i => m_F σ T i (P (11 * j.toNat))) (fun i => P (11 * j.toNat + 3 + i)) (P (11 * j.toNat + 1)).toNat + 1000 * m_sh (fun i => m_F σ T i (P (11 * j.toNat))) (fun i => P (11 * j.toNat + 3 + i)) (P (11 * j.toNat + 1)).toNat) := by
  refine MI_of (cc := cX6_off) (maxL := 6) (ret := (some .int)) (by decide) rfl (Nat.le_of_ble_eq_true rfl) ?_
  intro p e s m args below meth c ls hx hb hr hlocks hml hown hts hPic hK hl
  have hl : lv_has ls 6 [(0, .ref (z 0)), (1, .ref (z (20 + j.toNat)))] := hl
  obtain ⟨w0, w1, w2, w3, w4, w5, w6, w7, w8⟩ := id hW
  obtain ⟨s1, s2, s3, s4⟩ := hS j.toNat (by omega)
  refine q_iconst hx hb dX6_off_0 ?_
  refine lv_istore_n (lv' := [(2, .int (iI (0))), (0, .ref (z 0)), (1, .ref (z (20 + j.toNat)))]) hx hb dX6_off_1 rfl hl (by decide) rfl (fun ls hl => ?_)
  refine q_iconst hx hb dX6_off_2 ?_
  refine lv_istore_n (lv' := [(3, .int (iI (0))), (2, .int (iI (0))), (0, .ref (z 0)), (1, .ref (z (20 + j.toNat)))]) hx hb dX6_off_3 rfl hl (by decide) rfl (fun ls hl => ?_)
  refine q_iconst hx hb dX6_off_4 ?_
  refine lv_istore (lv' := [(4, .int (iI (2))), (3, .int (iI (0))), (2, .int (iI (0))), (0, .ref (z 0)), (1, .ref (z (20 + j.toNat)))]) hx hb dX6_off_5 hl (by decide) rfl (fun ls hl => ?_)
  have key_7 : ∀ (fu : Nat) (ma : Int) (mo : Int) (k : Int), 2 ≤ k ∧ k ≤ 2 + P (11 * j.toNat + 1) → ma = m_chg (fun i => m_F σ T i (P (11 * j.toNat))) (fun i => P (11 * j.toNat + 3 + i)) (k - 2).toNat → mo = m_sh (fun i => m_F σ T i (P (11 * j.toNat))) (fun i => P (11 * j.toNat + 3 + i)) (k - 2).toNat → (((2 + P (11 * j.toNat + 1) - k).toNat : Int)) < (fu : Int) → ∀ ls : Array Slot, lv_has ls 6 [(0, .ref (z 0)), (1, .ref (z (20 + j.toNat))), (2, .int (iI (ma))), (3, .int (iI (mo))), (4, .int (iI (k)))] → W p l e { frames := 5, cells := 0, slots := 0, locals := 114 } s m args below meth c s.heap [] 0 0 (MQ below (vp_Si (fun r => r = iI (m_chg (fun i => m_F σ T i (P (11 * j.toNat))) (fun i => P (11 * j.toNat + 3 + i)) (P (11 * j.toNat + 1)).toNat + 1000 * m_sh (fun i => m_F σ T i (P (11 * j.toNat))) (fun i => P (11 * j.toNat + 3 + i)) (P (11 * j.toNat + 1)).toNat))) args s 0 0 (fun _ => False)) (F0 m 7 ls []) := by
    intro fu
    induction fu with
    | zero => intro ma mo k hk hma hmo hm_7 ls hl; exact absurd hm_7 (by omega)
    | succ fu ih_7 =>
      intro ma mo k hk hma hmo hm_7 ls hl
      have hgi := m_sh_in2 (f := (fun i => m_F σ T i (P (11 * j.toNat)))) (dy := (fun i => P (11 * j.toNat + 3 + i))) (n := (k - 2).toNat) (fun i hi => m_F_in hW (by omega) s1) (fun i hi => s4 i (by omega))
      have hci := m_chg_in (fun i => m_F σ T i (P (11 * j.toNat))) (fun i => P (11 * j.toNat + 3 + i)) (k - 2).toNat
      refine lv_iload hx hb dX6_off_7 (lv_at hl 4 rfl) ?_
      refine lv_aload_n hx hb dX6_off_9 rfl (lv_at hl 1 rfl) ?_
      refine q_alen (z := 2 + P (11 * j.toNat + 1)) hx hb hK (hPic.sr (j := j.toNat) (by omega)) 0 rfl (by omega) dX6_off_10 ?_
      refine q_icmp_ge (tgt := 61) hx hb dX6_off_11 (by decide) (by omega) (by omega) (fun c_1 => ?_) (fun c_1 => ?_)
      · skip
        refine lv_iload_n hx hb dX6_off_61 rfl (lv_at hl 2 rfl) ?_
        refine q_sipush hx hb dX6_off_62 (by decide) ?_
        refine lv_iload_n hx hb dX6_off_65 rfl (lv_at hl 3 rfl) ?_
        refine q_imul hx hb dX6_off_66 ?_
        refine q_iadd hx hb dX6_off_67 ?_
        exact q_iret hx hb hr hlocks (by rw [hma, hmo, show k - 2 = P (11 * j.toNat + 1) by omega]) dX6_off_68
      · skip
        have hday := s4 (k - 2).toNat (by omega)
        refine lv_aload_n hx hb dX6_off_14 rfl (lv_at hl 1 rfl) ?_
        refine lv_iload hx hb dX6_off_15 (lv_at hl 4 rfl) ?_
        refine q_iald (cA := cI) (n := (2 + (P (11 * j.toNat + 1)).toNat)) (f := (fun k => P (11 * j.toNat + sx k))) hx hb hK (hPic.sr (j := j.toNat) (by omega)) 0 rfl (by omega) (by omega) dX6_off_17 ?_
        refine q_is (z := P (11 * j.toNat + 3 + Int.toNat (k - 2))) (congrArg P (by unfold sx; rw [if_neg (by omega), if_neg (by omega)]; omega)) ?_
        refine lv_aload_n hx hb dX6_off_18 rfl (lv_at hl 0 rfl) ?_
        refine lv_iload hx hb dX6_off_19 (lv_at hl 4 rfl) ?_
        refine q_iconst hx hb dX6_off_21 ?_
        refine q_isub hx hb dX6_off_22 ?_
        refine lv_aload_n hx hb dX6_off_23 rfl (lv_at hl 1 rfl) ?_
        refine q_iconst hx hb dX6_off_24 ?_
        refine q_iald (cA := cI) (n := (2 + (P (11 * j.toNat + 1)).toNat)) (f := (fun k => P (11 * j.toNat + sx k))) hx hb hK (hPic.sr (j := j.toNat) (by omega)) 0 rfl (by omega) (by omega) dX6_off_25 ?_
        refine q_is (z := P (11 * j.toNat)) (by rfl) ?_
        refine q_callV (fr := 4) (lo := 89) (nL := 6) (Pic := PicS D cI cL z σ T P) (As := [.int (iI (k - 2)), .int (iI (P (11 * j.toNat)))]) (rest := [.int (iI (P (11 * j.toNat + 3 + Int.toNat (k - 2))))]) ⟨hx, hb, hml, hown, hts⟩ (z_feast l D cI cO cL z σ T P hW hS (k - 2) (P (11 * j.toNat)) (by omega) (s1)) (cwV 2 hts gX6_off_X6_feast rfl rfl rfl (by decide +kernel) ⟨Nat.le_of_ble_eq_true rfl, Nat.le_of_ble_eq_true rfl⟩) (ob_recv hPic.at0 hK rfl) hPic hK rfl hl.1 rfl (Nat.le_of_ble_eq_true rfl) dX6_off_26 (Nat.zero_le _) (Nat.zero_le _) ?_
        have hF26 := m_F_in hW (i := Int.toNat (k - 2)) (by omega) (y := (P (11 * j.toNat))) (by omega)
        refine q_isub hx hb dX6_off_29 ?_
        refine q_mabs hx hb (hml.trans hl.1.symm) hown (hts (.methodLink RX6 72 Lib.Math.abs.name) (List.mem_of_getElem? (i := 1) rfl)) (hts (.static Lib.Math.abs.name) (List.mem_of_getElem? (i := 2) rfl)) (hts (.initialized "java/lang/Math") (List.mem_of_getElem? (i := 3) rfl)) (hts (.code Lib.Math.abs.name Lib.Math.abs.code 1 (some .int)) (List.mem_of_getElem? (i := 4) rfl)) (by omega) (Nat.le_of_ble_eq_true rfl) (Nat.le_of_ble_eq_true rfl) (Nat.zero_le _) (Nat.zero_le _) dX6_off_30 ?_
        refine q_top (fun bz ebz => ?_)
        have hab : bz = m_abs (m_F σ T (k - 2).toNat (P (11 * j.toNat)) - P (11 * j.toNat + 3 + (k - 2).toNat)) := by rw [ebz]; unfold m_abs; (repeat' split) <;> omega
        refine lv_istore (lv' := [(5, .int (iI (bz))), (0, .ref (z 0)), (1, .ref (z (20 + j.toNat))), (2, .int (iI (ma))), (3, .int (iI (mo))), (4, .int (iI (k)))]) hx hb dX6_off_33 hl (by decide) rfl (fun ls hl => ?_)
        have key_46 : ∀ (u : Int), (u = if 0 < bz then 1 else 0) → ∀ ls : Array Slot, lv_has ls 6 [(0, .ref (z 0)), (1, .ref (z (20 + j.toNat))), (2, .int (iI (ma))), (3, .int (iI (mo))), (4, .int (iI (k))), (5, .int (iI (bz)))] → W p l e { frames := 5, cells := 0, slots := 0, locals := 114 } s m args below meth c s.heap [] 0 0 (MQ below (vp_Si (fun r => r = iI (m_chg (fun i => m_F σ T i (P (11 * j.toNat))) (fun i => P (11 * j.toNat + 3 + i)) (P (11 * j.toNat + 1)).toNat + 1000 * m_sh (fun i => m_F σ T i (P (11 * j.toNat))) (fun i => P (11 * j.toNat + 3 + i)) (P (11 * j.toNat + 1)).toNat))) args s 0 0 (fun _ => False)) (F0 m 46 ls [.int (iI (u)), .int (iI (ma))]) := by
          intro u hu ls hl
          refine q_iadd hx hb dX6_off_46 ?_
          refine q_top (fun ma2 ema2 => ?_)
          refine lv_istore_n (lv' := [(2, .int (iI (ma2))), (0, .ref (z 0)), (1, .ref (z (20 + j.toNat))), (3, .int (iI (mo))), (4, .int (iI (k))), (5, .int (iI (bz)))]) hx hb dX6_off_47 rfl hl (by decide) rfl (fun ls hl => ?_)
          refine lv_iload_n hx hb dX6_off_48 rfl (lv_at hl 3 rfl) ?_
          refine lv_iload hx hb dX6_off_49 (lv_at hl 5 rfl) ?_
          refine q_mmax hx hb (hml.trans hl.1.symm) hown (hts (.methodLink RX6 63 Lib.Math.max.name) (List.mem_of_getElem? (i := 5) rfl)) (hts (.static Lib.Math.max.name) (List.mem_of_getElem? (i := 6) rfl)) (hts (.initialized "java/lang/Math") (List.mem_of_getElem? (i := 3) rfl)) (hts (.code Lib.Math.max.name Lib.Math.max.code 2 (some .int)) (List.mem_of_getElem? (i := 7) rfl)) (by omega) (by omega) (Nat.le_of_ble_eq_true rfl) (Nat.le_of_ble_eq_true rfl) (Nat.zero_le _) (Nat.zero_le _) dX6_off_51 ?_
          refine q_top (fun mo2 emo2 => ?_)
          refine lv_istore_n (lv' := [(3, .int (iI (mo2))), (2, .int (iI (ma2))), (0, .ref (z 0)), (1, .ref (z (20 + j.toNat))), (4, .int (iI (k))), (5, .int (iI (bz)))]) hx hb dX6_off_54 rfl hl (by decide) rfl (fun ls hl => ?_)
          refine q_iinc (k := 4) (lv' := [(4, .int (iI (k + 1))), (3, .int (iI (mo2))), (2, .int (iI (ma2))), (0, .ref (z 0)), (1, .ref (z (20 + j.toNat))), (5, .int (iI (bz)))]) hx hb dX6_off_55 hl rfl (by decide) rfl (fun ls hl => ?_)
          refine lv_goto (tgt := 7) hx hb dX6_off_58 (by decide) ?_
          have hst := m_sh_step (fun i => m_F σ T i (P (11 * j.toNat))) (fun i => P (11 * j.toNat + 3 + i)) (k := k - 2) (by omega)
          have hct := m_chg_step (fun i => m_F σ T i (P (11 * j.toNat))) (fun i => P (11 * j.toNat + 3 + i)) (k := k - 2) (by omega)
          rw [show k - 2 + 1 = k + 1 - 2 by omega] at hst hct
          exact ih_7 _ _ _ (by omega) (by rw [hct, ema2, hma, hu]; congr 1; (repeat' split) <;> omega) (by rw [hst, ← hmo, emo2, ← hab]) (by omega) _ (lv_sub hl [3, 4, 2, 1, 0] rfl)
        refine lv_iload_n hx hb dX6_off_35 rfl (lv_at hl 3 rfl) ?_
        refine lv_iload hx hb dX6_off_36 (lv_at hl 0 rfl) ?_
        refine q_if_le (tgt := 45) hx hb dX6_off_38 (by decide) (by omega) (fun c_2 => ?_) (fun c_2 => ?_)
        · skip
          refine q_iconst hx hb dX6_off_45 ?_
          exact key_46 _ (by split <;> omega) _ (lv_sub hl [1, 2, 3, 4, 5, 0] rfl)
        · skip
          refine q_iconst hx hb dX6_off_41 ?_
          refine lv_goto (tgt := 46) hx hb dX6_off_42 (by decide) ?_
          exact key_46 _ (by split <;> omega) _ (lv_sub hl [1, 2, 3, 4, 5, 0] rfl)
  exact key_7 (10) _ _ _ (by omega) (by rfl) (by rfl) (by omega) _ (lv_sub hl [3, 4, 2, 1, 0] rfl)
set_option maxHeartbeats 4000000 in
set_option maxRecDepth 100000 in
theorem z_isWrong (l : Launch) (D : va_G) (cI cO cL : ClassId) (z : Nat → Nat) (σ T P : Nat → Int) (hW : WF σ T) (hS : WS σ P) (j : Int) (hj : 0 ≤ j ∧ j < σ 7) : MI l yX6_isWrong wsX6_isWrong 6 139 D (ty3 cI cO cL) (PicS D cI cL z σ T P) [.ref (z 0), .ref (z (20 + j.toNat))] (m_told σ T P j.toNat 3) := by
  refine MI_of (cc := cX6_isWrong) (maxL := 2) (ret := (some .boolean)) (by decide) rfl (Nat.le_of_ble_eq_true rfl) ?_
  intro p e s m args below meth c ls hx hb hr hlocks hml hown hts hPic hK hl
  have hl : lv_has ls 2 [(0, .ref (z 0)), (1, .ref (z (20 + j.toNat)))] := hl
  obtain ⟨w0, w1, w2, w3, w4, w5, w6, w7, w8⟩ := id hW
  obtain ⟨s1, s2, s3, s4⟩ := hS j.toNat (by omega)
  have hE0 := m_Eb_in hW (y := P (11 * j.toNat)) (b := 0) (by omega)
  have hE1 := m_Eb_in hW (y := P (11 * j.toNat)) (b := 1) (by omega)
  have hsi := m_sh_in2 (f := (fun i => m_F σ T i (P (11 * j.toNat)))) (dy := (fun i => P (11 * j.toNat + 3 + i))) (n := (P (11 * j.toNat + 1)).toNat) (fun i hi => m_F_in hW (by omega) s1) (fun i hi => s4 i (by omega))
  have hsc := m_sh_chg (fun i => m_F σ T i (P (11 * j.toNat))) (fun i => P (11 * j.toNat + 3 + i)) (P (11 * j.toNat + 1)).toNat
  have hci := m_chg_in (fun i => m_F σ T i (P (11 * j.toNat))) (fun i => P (11 * j.toNat + 3 + i)) (P (11 * j.toNat + 1)).toNat
  refine lv_aload_n hx hb dX6_isWrong_0 rfl (lv_at hl 0 rfl) ?_
  refine lv_aload_n hx hb dX6_isWrong_1 rfl (lv_at hl 1 rfl) ?_
  refine q_callV (fr := 5) (lo := 114) (nL := 2) (Pic := PicS D cI cL z σ T P) (As := [.ref (z (20 + j.toNat))]) (rest := []) ⟨hx, hb, hml, hown, hts⟩ (z_off l D cI cO cL z σ T P hW hS (j) (by omega)) (cwV 1 hts gX6_isWrong_X6_off rfl rfl rfl (by decide +kernel) ⟨Nat.le_of_ble_eq_true rfl, Nat.le_of_ble_eq_true rfl⟩) (ob_recv hPic.at0 hK rfl) hPic hK rfl hl.1 rfl (Nat.le_of_ble_eq_true rfl) dX6_isWrong_2 (Nat.zero_le _) (Nat.zero_le _) ?_
  have hof2 := m_chg_in (fun i => m_F σ T i (P (11 * (Int.toNat (j))))) (fun i => P (11 * (Int.toNat (j)) + 3 + i)) (P (11 * (Int.toNat (j)) + 1)).toNat
  refine q_if_gt (tgt := 31) hx hb dX6_isWrong_5 (by decide) (by omega) (fun c_1 => ?_) (fun c_1 => ?_)
  · skip
    refine q_iconst hx hb dX6_isWrong_31 ?_
    refine lv_goto (tgt := 36) hx hb dX6_isWrong_32 (by decide) ?_
    exact q_zret hx hb hr hlocks (by omega) (by unfold m_told; rw [if_neg (by omega), if_neg (by omega), if_neg (by omega), if_pos rfl]; unfold m_wr m_E; split <;> omega) dX6_isWrong_36
  · skip
    refine lv_aload_n hx hb dX6_isWrong_8 rfl (lv_at hl 1 rfl) ?_
    refine q_iconst hx hb dX6_isWrong_9 ?_
    refine q_iald (cA := cI) (n := (2 + (P (11 * j.toNat + 1)).toNat)) (f := (fun k => P (11 * j.toNat + sx k))) hx hb hK (hPic.sr (j := j.toNat) (by omega)) 0 rfl (by omega) (by omega) dX6_isWrong_10 ?_
    refine q_is (z := P (11 * j.toNat + 2)) (by rfl) ?_
    refine lv_aload_n hx hb dX6_isWrong_11 rfl (lv_at hl 0 rfl) ?_
    refine lv_aload_n hx hb dX6_isWrong_12 rfl (lv_at hl 1 rfl) ?_
    refine q_iconst hx hb dX6_isWrong_13 ?_
    refine q_iald (cA := cI) (n := (2 + (P (11 * j.toNat + 1)).toNat)) (f := (fun k => P (11 * j.toNat + sx k))) hx hb hK (hPic.sr (j := j.toNat) (by omega)) 0 rfl (by omega) (by omega) dX6_isWrong_14 ?_
    refine q_is (z := P (11 * j.toNat)) (by rfl) ?_
    refine q_iconst hx hb dX6_isWrong_15 ?_
    refine q_callV (fr := 3) (lo := 66) (nL := 2) (Pic := PicS D cI cL z σ T P) (As := [.int (iI (P (11 * j.toNat))), .int (iI (1))]) (rest := [.int (iI (P (11 * j.toNat + 2)))]) ⟨hx, hb, hml, hown, hts⟩ (z_eclipses l D cI cO cL z σ T P hW hS (P (11 * j.toNat)) (1) (s1) (by omega)) (cwV 2 hts gX6_isWrong_X6_eclipses rfl rfl rfl (by decide +kernel) ⟨Nat.le_of_ble_eq_true rfl, Nat.le_of_ble_eq_true rfl⟩) (ob_recv hPic.at0 hK rfl) hPic hK rfl hl.1 rfl (Nat.le_of_ble_eq_true rfl) dX6_isWrong_16 (Nat.zero_le _) (Nat.zero_le _) ?_
    have hE16 := m_Eb_in hW (y := (P (11 * j.toNat))) (b := 1 - (1)) (by omega)
    refine q_is (z := m_Eb σ (P (11 * j.toNat)) 0) (by simp only [Int.sub_self]) ?_
    refine lv_aload_n hx hb dX6_isWrong_19 rfl (lv_at hl 0 rfl) ?_
    refine lv_aload_n hx hb dX6_isWrong_20 rfl (lv_at hl 1 rfl) ?_
    refine q_iconst hx hb dX6_isWrong_21 ?_
    refine q_iald (cA := cI) (n := (2 + (P (11 * j.toNat + 1)).toNat)) (f := (fun k => P (11 * j.toNat + sx k))) hx hb hK (hPic.sr (j := j.toNat) (by omega)) 0 rfl (by omega) (by omega) dX6_isWrong_22 ?_
    refine q_is (z := P (11 * j.toNat)) (by rfl) ?_
    refine q_iconst hx hb dX6_isWrong_23 ?_
    refine q_callV (fr := 3) (lo := 66) (nL := 2) (Pic := PicS D cI cL z σ T P) (As := [.int (iI (P (11 * j.toNat))), .int (iI (0))]) (rest := [.int (iI (m_Eb σ (P (11 * j.toNat)) 0)), .int (iI (P (11 * j.toNat + 2)))]) ⟨hx, hb, hml, hown, hts⟩ (z_eclipses l D cI cO cL z σ T P hW hS (P (11 * j.toNat)) (0) (s1) (by omega)) (cwV 2 hts gX6_isWrong_X6_eclipses rfl rfl rfl (by decide +kernel) ⟨Nat.le_of_ble_eq_true rfl, Nat.le_of_ble_eq_true rfl⟩) (ob_recv hPic.at0 hK rfl) hPic hK rfl hl.1 rfl (Nat.le_of_ble_eq_true rfl) dX6_isWrong_24 (Nat.zero_le _) (Nat.zero_le _) ?_
    have hE24 := m_Eb_in hW (y := (P (11 * j.toNat))) (b := 1 - (0)) (by omega)
    refine q_is (z := m_Eb σ (P (11 * j.toNat)) 1) (by simp only [Int.sub_zero]) ?_
    refine q_iadd hx hb dX6_isWrong_27 ?_
    refine q_icmp_eq (tgt := 35) hx hb dX6_isWrong_28 (by decide) (by omega) (by omega) (fun c_2 => ?_) (fun c_2 => ?_)
    · skip
      refine q_iconst hx hb dX6_isWrong_35 ?_
      exact q_zret hx hb hr hlocks (by omega) (by unfold m_told; rw [if_neg (by omega), if_neg (by omega), if_neg (by omega), if_pos rfl]; unfold m_wr m_E; split <;> omega) dX6_isWrong_36
    · skip
      refine q_iconst hx hb dX6_isWrong_31 ?_
      refine lv_goto (tgt := 36) hx hb dX6_isWrong_32 (by decide) ?_
      exact q_zret hx hb hr hlocks (by omega) (by unfold m_told; rw [if_neg (by omega), if_neg (by omega), if_neg (by omega), if_pos rfl]; unfold m_wr m_E; split <;> omega) dX6_isWrong_36
