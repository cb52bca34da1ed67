/-! ===== AlmanacHouse: the calls that change nothing ===== -/
def m_next (σ : Nat → Int) (d : Int) : Int := if m_N1 σ d 0 < 0 ∨ m_N1 σ d 1 < 0 then (if m_N1 σ d 0 < m_N1 σ d 1 then m_N1 σ d 1 else m_N1 σ d 0) else (if m_N1 σ d 1 < m_N1 σ d 0 then m_N1 σ d 1 else m_N1 σ d 0)
/-- the first of n years from k on in which the feast lies bh days behind the year's first -/
def m_ag (σ T : Nat → Int) (i : Nat) (bh : Int) : Nat → Int → Int
  | 0, _ => -1
  | n + 1, k => if m_F σ T i k - m_fd (σ 0) (σ 1) k = bh then k else m_ag σ T i bh n (k + 1)
def m_again (σ T : Nat → Int) (i : Nat) (y : Int) : Int := m_ag σ T i (m_F σ T i y - m_fd (σ 0) (σ 1) y) ((if y + 101 < 1000 then y + 101 else 1000) - (y + 1)).toNat (y + 1)
theorem m_ag_step {σ T : Nat → Int} {i : Nat} {bh k en : Int} (h : k < en) : m_ag σ T i bh (en - k).toNat k = if m_F σ T i k - m_fd (σ 0) (σ 1) k = bh then k else m_ag σ T i bh (en - (k + 1)).toNat (k + 1) := by
  have e : (en - k).toNat = (en - (k + 1)).toNat + 1 := by omega
  rw [e, m_ag]
theorem m_ag_end {σ T : Nat → Int} {i : Nat} {bh k en : Int} (h : en ≤ k) : m_ag σ T i bh (en - k).toNat k = -1 := by
  have e : (en - k).toNat = 0 := by omega
  rw [e, m_ag]
set_option maxHeartbeats 4000000 in
set_option maxRecDepth 100000 in
theorem p_leap (l : Launch) (D : va_G) (cI cO cL : ClassId) (g : Nat → Nat) (σ T : Nat → Int) (hW : WF σ T) (y : Int) (hy : 0 ≤ y ∧ y < 1000) : MI l yX5_leap wsX5_leap 1 21 D (ty3 cI cO cL) (PicB D cO g σ T) [.ref (g 0), .int (iI (y))] (m_leap (σ 0) (σ 1) y) := by
  refine MI_of (cc := cX5_leap) (maxL := 2) (ret := (some .boolean)) (by decide) rfl (Nat.le_of_ble_eq_true rfl) ?_
  intro p e s m args below meth c ls hx hb hr hlocks hml hown hts hPic hK hl
  have hl : lv_has ls 2 [(0, .ref (g 0)), (1, .int (iI (y)))] := hl
  have hin_X5 : ∀ w ∈ u_ws RX5 TX5 7, w ∈ wsX5_leap := (fun w h => List.mem_cons_of_mem _ (List.mem_append_left _ (List.mem_append_left _ (List.mem_append_right _ h))))
  obtain ⟨w0, w1, w2, w3, w4, w5, w6, w7, w8⟩ := id hW
  refine lv_iload_n hx hb dX5_leap_0 rfl (lv_at hl 1 rfl) ?_
  refine q_callS (fr := 0) (lo := 0) (nL := 2) (Pic := fun _ => True) (As := [.int (iI (y))]) (rest := []) ⟨hx, hb, hml, hown, hts⟩ (c_isYear l D (ty3 cI cO cL) (y) (by omega)) (va_cwS 1 hts gX5_leap_X5_isYear rfl rfl rfl (by decide +kernel) ⟨Nat.le_of_ble_eq_true rfl, Nat.le_of_ble_eq_true rfl⟩) trivial hK rfl hl.1 rfl (Nat.le_of_ble_eq_true rfl) dX5_leap_1 (Nat.zero_le _) (Nat.zero_le _) ?_
  refine q_pif_ne (tgt := 17) hx hb dX5_leap_4 (by decide) (fun c_1 => ?_) (fun c_1 => ?_)
  · skip
    refine lv_aload_n hx hb dX5_leap_17 rfl (lv_at hl 0 rfl) ?_
    refine q_get (ci := 7) (C := RX5) (T := TX5) (N := 7) hx hb hts hin_X5 hown hK (v := .ref (g 1)) hPic.at0 rfl 0 (by decide) (hts (.fieldLink RX5 10 "AlmanacHouse" "years" "LAlmanacHouse$Years;") (List.mem_of_getElem? (i := 3) rfl)) (fun _ h9 => h9) rfl dX5_leap_18 ?_
    refine lv_iload_n hx hb dX5_leap_21 rfl (lv_at hl 1 rfl) ?_
    refine q_callV (fr := 0) (lo := 0) (nL := 2) (Pic := ob D (g 1) 6 [.int (iI (σ 0)), .int (iI (σ 1))]) (As := [.int (iI (y))]) (rest := []) ⟨hx, hb, hml, hown, hts⟩ (c_hasLeapDay l D (ty3 cI cO cL) (g 1) (σ 0) (σ 1) (y) w0 w1 (by omega)) (cwV 1 hts gX5_leap_X4_hasLeapDay rfl rfl rfl (by decide +kernel) ⟨Nat.le_of_ble_eq_true rfl, Nat.le_of_ble_eq_true rfl⟩) (ob_recv hPic.at1 hK rfl) hPic.at1 hK rfl hl.1 rfl (Nat.le_of_ble_eq_true rfl) dX5_leap_22 (Nat.zero_le _) (Nat.zero_le _) ?_
    have hlp22 := m_leap_01 (σ 0) (σ 1) (y)
    exact q_zret hx hb hr hlocks (m_leap_01 _ _ _) (rfl) dX5_leap_25
  · skip
    exfalso
    omega
set_option maxHeartbeats 4000000 in
set_option maxRecDepth 100000 in
theorem p_day (l : Launch) (D : va_G) (cI cO cL : ClassId) (g : Nat → Nat) (σ T : Nat → Int) (hW : WF σ T) (y mo da : Int) (hy : 0 ≤ y ∧ y < 1000) (hmo : 0 ≤ mo ∧ mo ≤ 11) (hda : 0 ≤ da ∧ da < m_md (σ 0) (σ 1) y mo) : MI l yX5_day wsX5_day 2 43 D (ty3 cI cO cL) (PicB D cO g σ T) [.ref (g 0), .int (iI (y)), .int (iI (mo)), .int (iI (da))] (m_d0 (σ 0) (σ 1) mo da y) := by
  refine MI_of (cc := cX5_day) (maxL := 4) (ret := (some .int)) (by decide) rfl (Nat.le_of_ble_eq_true rfl) ?_
  intro p e s m args below meth c ls hx hb hr hlocks hml hown hts hPic hK hl
  have hl : lv_has ls 4 [(0, .ref (g 0)), (1, .int (iI (y))), (2, .int (iI (mo))), (3, .int (iI (da)))] := hl
  have hin_X5 : ∀ w ∈ u_ws RX5 TX5 7, w ∈ wsX5_day := (fun w h => List.mem_cons_of_mem _ (List.mem_append_left _ (List.mem_append_left _ (List.mem_append_right _ h))))
  obtain ⟨w0, w1, w2, w3, w4, w5, w6, w7, w8⟩ := id hW
  have hmd := m_md_in (σ 0) (σ 1) y mo
  refine lv_iload_n hx hb dX5_day_0 rfl (lv_at hl 1 rfl) ?_
  refine q_callS (fr := 0) (lo := 0) (nL := 4) (Pic := fun _ => True) (As := [.int (iI (y))]) (rest := []) ⟨hx, hb, hml, hown, hts⟩ (c_isYear l D (ty3 cI cO cL) (y) (by omega)) (va_cwS 1 hts gX5_day_X5_isYear rfl rfl rfl (by decide +kernel) ⟨Nat.le_of_ble_eq_true rfl, Nat.le_of_ble_eq_true rfl⟩) trivial hK rfl hl.1 rfl (Nat.le_of_ble_eq_true rfl) dX5_day_1 (Nat.zero_le _) (Nat.zero_le _) ?_
  refine q_pif_eq (tgt := 17) hx hb dX5_day_4 (by decide) (fun c_1 => ?_) (fun c_1 => ?_)
  · skip
    exfalso
    omega
  · skip
    refine lv_iload_n hx hb dX5_day_7 rfl (lv_at hl 2 rfl) ?_
    refine q_if_lt (tgt := 17) hx hb dX5_day_8 (by decide) (by omega) (fun c_2 => ?_) (fun c_2 => ?_)
    · skip
      exfalso
      omega
    · skip
      refine lv_iload_n hx hb dX5_day_11 rfl (lv_at hl 2 rfl) ?_
      refine q_bipush hx hb dX5_day_12 (by decide) ?_
      refine q_icmp_lt (tgt := 27) hx hb dX5_day_14 (by decide) (by omega) (by omega) (fun c_3 => ?_) (fun c_3 => ?_)
      · skip
        refine lv_iload_n hx hb dX5_day_27 rfl (lv_at hl 3 rfl) ?_
        refine q_if_lt (tgt := 44) hx hb dX5_day_28 (by decide) (by omega) (fun c_4 => ?_) (fun c_4 => ?_)
        · skip
          exfalso
          omega
        · skip
          refine lv_iload_n hx hb dX5_day_31 rfl (lv_at hl 3 rfl) ?_
          refine lv_aload_n hx hb dX5_day_32 rfl (lv_at hl 0 rfl) ?_
          refine q_get (ci := 7) (C := RX5) (T := TX5) (N := 7) hx hb hts hin_X5 hown hK (v := .ref (g 1)) hPic.at0 rfl 0 (by decide) (hts (.fieldLink RX5 10 "AlmanacHouse" "years" "LAlmanacHouse$Years;") (List.mem_of_getElem? (i := 3) rfl)) (fun _ h9 => h9) rfl dX5_day_33 ?_
          refine lv_iload_n hx hb dX5_day_36 rfl (lv_at hl 1 rfl) ?_
          refine lv_iload_n hx hb dX5_day_37 rfl (lv_at hl 2 rfl) ?_
          refine q_callV (fr := 1) (lo := 21) (nL := 4) (Pic := ob D (g 1) 6 [.int (iI (σ 0)), .int (iI (σ 1))]) (As := [.int (iI (y)), .int (iI (mo))]) (rest := [.int (iI (da))]) ⟨hx, hb, hml, hown, hts⟩ (c_daysOfMonth l D (ty3 cI cO cL) (g 1) (σ 0) (σ 1) (y) (mo) w0 w1 (by omega) (by omega)) (cwV 2 hts gX5_day_X4_daysOfMonth rfl rfl rfl (by decide +kernel) ⟨Nat.le_of_ble_eq_true rfl, Nat.le_of_ble_eq_true rfl⟩) (ob_recv hPic.at1 hK rfl) hPic.at1 hK rfl hl.1 rfl (Nat.le_of_ble_eq_true rfl) dX5_day_38 (Nat.zero_le _) (Nat.zero_le _) ?_
          have hmd38 := m_md_in (σ 0) (σ 1) (y) (mo)
          refine q_icmp_lt (tgt := 54) hx hb dX5_day_41 (by decide) (by omega) (by omega) (fun c_5 => ?_) (fun c_5 => ?_)
          · skip
            refine lv_aload_n hx hb dX5_day_54 rfl (lv_at hl 0 rfl) ?_
            refine q_get (ci := 7) (C := RX5) (T := TX5) (N := 7) hx hb hts hin_X5 hown hK (v := .ref (g 1)) hPic.at0 rfl 0 (by decide) (hts (.fieldLink RX5 10 "AlmanacHouse" "years" "LAlmanacHouse$Years;") (List.mem_of_getElem? (i := 3) rfl)) (fun _ h9 => h9) rfl dX5_day_55 ?_
            refine lv_iload_n hx hb dX5_day_58 rfl (lv_at hl 1 rfl) ?_
            refine q_callV (fr := 0) (lo := 0) (nL := 4) (Pic := ob D (g 1) 6 [.int (iI (σ 0)), .int (iI (σ 1))]) (As := [.int (iI (y))]) (rest := []) ⟨hx, hb, hml, hown, hts⟩ (c_firstDay l D (ty3 cI cO cL) (g 1) (σ 0) (σ 1) (y) w0 w1 (by omega)) (cwV 1 hts gX5_day_X4_firstDay rfl rfl rfl (by decide +kernel) ⟨Nat.le_of_ble_eq_true rfl, Nat.le_of_ble_eq_true rfl⟩) (ob_recv hPic.at1 hK rfl) hPic.at1 hK rfl hl.1 rfl (Nat.le_of_ble_eq_true rfl) dX5_day_59 (Nat.zero_le _) (Nat.zero_le _) ?_
            have hfd59 := m_fd_le (cy := (σ 0)) (lq := (σ 1)) (y := (y)) w0.1 w1 (by omega)
            refine lv_iload_n hx hb dX5_day_62 rfl (lv_at hl 2 rfl) ?_
            refine lv_iload_n hx hb dX5_day_63 rfl (lv_at hl 3 rfl) ?_
            refine q_callS (fr := 0) (lo := 0) (nL := 4) (Pic := fun _ => True) (As := [.int (iI (mo)), .int (iI (da))]) (rest := [.int (iI (m_fd (σ 0) (σ 1) (y)))]) ⟨hx, hb, hml, hown, hts⟩ (c_inYear l D (ty3 cI cO cL) (mo) (da) (by omega)) (va_cwS 2 hts gX5_day_X5_inYear rfl rfl rfl (by decide +kernel) ⟨Nat.le_of_ble_eq_true rfl, Nat.le_of_ble_eq_true rfl⟩) trivial hK rfl hl.1 rfl (Nat.le_of_ble_eq_true rfl) dX5_day_64 (Nat.zero_le _) (Nat.zero_le _) ?_
            refine q_iadd hx hb dX5_day_67 ?_
            exact q_iret hx hb hr hlocks (rfl) dX5_day_68
          · skip
            exfalso
            omega
      · skip
        exfalso
        omega
set_option maxHeartbeats 4000000 in
set_option maxRecDepth 100000 in
theorem p_date (l : Launch) (D : va_G) (cI cO cL : ClassId) (g : Nat → Nat) (σ T : Nat → Int) (hW : WF σ T) (d w : Int) (hd : 0 ≤ d ∧ d < m_fd (σ 0) (σ 1) 1000) (hw : 0 ≤ w ∧ w ≤ 4) : MI l yX5_date wsX5_date 3 65 D (ty3 cI cO cL) (PicB D cO g σ T) [.ref (g 0), .int (iI (d)), .int (iI (w))] (m_dated σ d w) := by
  refine MI_of (cc := cX5_date) (maxL := 3) (ret := (some .int)) (by decide) rfl (Nat.le_of_ble_eq_true rfl) ?_
  intro p e s m args below meth c ls hx hb hr hlocks hml hown hts hPic hK hl
  have hl : lv_has ls 3 [(0, .ref (g 0)), (1, .int (iI (d))), (2, .int (iI (w)))] := hl
  have hin_X5 : ∀ w ∈ u_ws RX5 TX5 7, w ∈ wsX5_date := (fun w h => List.mem_cons_of_mem _ (List.mem_append_left _ (List.mem_append_left _ (List.mem_append_left _ (List.mem_append_left _ (List.mem_append_right _ h))))))
  obtain ⟨w0, w1, w2, w3, w4, w5, w6, w7, w8⟩ := id hW
  have h1000 := m_fd_le (cy := σ 0) (lq := σ 1) (y := 1000) w0.1 w1 (by omega)
  refine lv_aload_n hx hb dX5_date_0 rfl (lv_at hl 0 rfl) ?_
  refine lv_iload_n hx hb dX5_date_1 rfl (lv_at hl 1 rfl) ?_
  refine q_callV (fr := 1) (lo := 21) (nL := 3) (Pic := PicB D cO g σ T) (As := [.int (iI (d))]) (rest := []) ⟨hx, hb, hml, hown, hts⟩ (c_isDay l D cI cO cL g σ T hW (d) (by omega)) (cwV 1 hts gX5_date_X5_isDay rfl rfl rfl (by decide +kernel) ⟨Nat.le_of_ble_eq_true rfl, Nat.le_of_ble_eq_true rfl⟩) (ob_recv hPic.at0 hK rfl) hPic hK rfl hl.1 rfl (Nat.le_of_ble_eq_true rfl) dX5_date_2 (Nat.zero_le _) (Nat.zero_le _) ?_
  refine q_pif_ne (tgt := 18) hx hb dX5_date_5 (by decide) (fun c_1 => ?_) (fun c_1 => ?_)
  · skip
    refine lv_iload_n hx hb dX5_date_18 rfl (lv_at hl 2 rfl) ?_
    by_cases c_2 : w = 0
    · refine q_tableIn (tgt := 52) hx hb dX5_date_19 (by omega) (by omega) 0 (by omega) rfl (by decide) ?_
      refine lv_aload_n hx hb dX5_date_52 rfl (lv_at hl 0 rfl) ?_
      refine q_get (ci := 7) (C := RX5) (T := TX5) (N := 7) hx hb hts hin_X5 hown hK (v := .ref (g 1)) hPic.at0 rfl 0 (by decide) (hts (.fieldLink RX5 10 "AlmanacHouse" "years" "LAlmanacHouse$Years;") (List.mem_of_getElem? (i := 5) rfl)) (fun _ h9 => h9) rfl dX5_date_53 ?_
      refine lv_iload_n hx hb dX5_date_56 rfl (lv_at hl 1 rfl) ?_
      refine q_callV (fr := 1) (lo := 21) (nL := 3) (Pic := ob D (g 1) 6 [.int (iI (σ 0)), .int (iI (σ 1))]) (As := [.int (iI (d))]) (rest := []) ⟨hx, hb, hml, hown, hts⟩ (c_yearOf l D (ty3 cI cO cL) (g 1) (σ 0) (σ 1) (d) w0 w1 (by omega)) (cwV 1 hts gX5_date_X4_yearOf rfl rfl rfl (by decide +kernel) ⟨Nat.le_of_ble_eq_true rfl, Nat.le_of_ble_eq_true rfl⟩) (ob_recv hPic.at1 hK rfl) hPic.at1 hK rfl hl.1 rfl (Nat.le_of_ble_eq_true rfl) dX5_date_57 (Nat.zero_le _) (Nat.zero_le _) ?_
      have hyi57 := m_y_in (σ 0) (σ 1) (d)
      exact q_iret hx hb hr hlocks (by unfold m_dated; rw [if_pos (by omega)]) dX5_date_60
    by_cases c_3 : w = 1
    · refine q_tableIn (tgt := 61) hx hb dX5_date_19 (by omega) (by omega) 1 (by omega) rfl (by decide) ?_
      refine lv_aload_n hx hb dX5_date_61 rfl (lv_at hl 0 rfl) ?_
      refine q_get (ci := 7) (C := RX5) (T := TX5) (N := 7) hx hb hts hin_X5 hown hK (v := .ref (g 1)) hPic.at0 rfl 0 (by decide) (hts (.fieldLink RX5 10 "AlmanacHouse" "years" "LAlmanacHouse$Years;") (List.mem_of_getElem? (i := 5) rfl)) (fun _ h9 => h9) rfl dX5_date_62 ?_
      refine lv_iload_n hx hb dX5_date_65 rfl (lv_at hl 1 rfl) ?_
      refine q_callV (fr := 2) (lo := 43) (nL := 3) (Pic := ob D (g 1) 6 [.int (iI (σ 0)), .int (iI (σ 1))]) (As := [.int (iI (d))]) (rest := []) ⟨hx, hb, hml, hown, hts⟩ (c_monthOf l D (ty3 cI cO cL) (g 1) (σ 0) (σ 1) (d) w0 w1 (by omega)) (cwV 1 hts gX5_date_X4_monthOf rfl rfl rfl (by decide +kernel) ⟨Nat.le_of_ble_eq_true rfl, Nat.le_of_ble_eq_true rfl⟩) (ob_recv hPic.at1 hK rfl) hPic.at1 hK rfl hl.1 rfl (Nat.le_of_ble_eq_true rfl) dX5_date_66 (Nat.zero_le _) (Nat.zero_le _) ?_
      have hmo66 := m_mo_in w0.1 w1 (d := (d)) (by omega)
      exact q_iret hx hb hr hlocks (by unfold m_dated; rw [if_neg (by omega), if_pos (by omega)]) dX5_date_69
    by_cases c_4 : w = 2
    · refine q_tableIn (tgt := 70) hx hb dX5_date_19 (by omega) (by omega) 2 (by omega) rfl (by decide) ?_
      refine lv_aload_n hx hb dX5_date_70 rfl (lv_at hl 0 rfl) ?_
      refine q_get (ci := 7) (C := RX5) (T := TX5) (N := 7) hx hb hts hin_X5 hown hK (v := .ref (g 1)) hPic.at0 rfl 0 (by decide) (hts (.fieldLink RX5 10 "AlmanacHouse" "years" "LAlmanacHouse$Years;") (List.mem_of_getElem? (i := 5) rfl)) (fun _ h9 => h9) rfl dX5_date_71 ?_
      refine lv_iload_n hx hb dX5_date_74 rfl (lv_at hl 1 rfl) ?_
      refine q_callV (fr := 2) (lo := 43) (nL := 3) (Pic := ob D (g 1) 6 [.int (iI (σ 0)), .int (iI (σ 1))]) (As := [.int (iI (d))]) (rest := []) ⟨hx, hb, hml, hown, hts⟩ (c_dayOfMonth l D (ty3 cI cO cL) (g 1) (σ 0) (σ 1) (d) w0 w1 (by omega)) (cwV 1 hts gX5_date_X4_dayOfMonth rfl rfl rfl (by decide +kernel) ⟨Nat.le_of_ble_eq_true rfl, Nat.le_of_ble_eq_true rfl⟩) (ob_recv hPic.at1 hK rfl) hPic.at1 hK rfl hl.1 rfl (Nat.le_of_ble_eq_true rfl) dX5_date_75 (Nat.zero_le _) (Nat.zero_le _) ?_
      have hdm75 := m_dm_in w0.1 w1 (d := (d)) (by omega)
      exact q_iret hx hb hr hlocks (by unfold m_dated; rw [if_neg (by omega), if_neg (by omega), if_pos (by omega)]) dX5_date_78
    by_cases c_5 : w = 3
    · refine q_tableIn (tgt := 79) hx hb dX5_date_19 (by omega) (by omega) 3 (by omega) rfl (by decide) ?_
      refine lv_iload_n hx hb dX5_date_79 rfl (lv_at hl 1 rfl) ?_
      refine q_bipush hx hb dX5_date_80 (by decide) ?_
      refine q_irem hx hb dX5_date_82 (by omega) (by omega) ?_
      exact q_iret hx hb hr hlocks (by unfold m_dated; rw [if_neg (by omega), if_neg (by omega), if_neg (by omega), if_pos (by omega)]) dX5_date_83
    by_cases c_6 : w = 4
    · refine q_tableIn (tgt := 84) hx hb dX5_date_19 (by omega) (by omega) 4 (by omega) rfl (by decide) ?_
      refine lv_aload_n hx hb dX5_date_84 rfl (lv_at hl 0 rfl) ?_
      refine lv_iload_n hx hb dX5_date_85 rfl (lv_at hl 1 rfl) ?_
      refine q_callV (fr := 1) (lo := 23) (nL := 3) (Pic := PicB D cO g σ T) (As := [.int (iI (d))]) (rest := []) ⟨hx, hb, hml, hown, hts⟩ (c_daysSince l D cI cO cL g σ T hW (d) (by omega)) (cwV 1 hts gX5_date_X5_daysSinceNewMoon rfl rfl rfl (by decide +kernel) ⟨Nat.le_of_ble_eq_true rfl, Nat.le_of_ble_eq_true rfl⟩) (ob_recv hPic.at0 hK rfl) hPic hK rfl hl.1 rfl (Nat.le_of_ble_eq_true rfl) dX5_date_86 (Nat.zero_le _) (Nat.zero_le _) ?_
      exact q_iret hx hb hr hlocks (by unfold m_dated; rw [if_neg (by omega), if_neg (by omega), if_neg (by omega), if_neg (by omega)]) dX5_date_89
    refine q_tableOut (tgt := 90) hx hb dX5_date_19 (by omega) (by omega) (by decide) ?_
    exfalso
    omega
  · skip
    exfalso
    omega
set_option maxHeartbeats 4000000 in
set_option maxRecDepth 100000 in
theorem p_moon (l : Launch) (D : va_G) (cI cO cL : ClassId) (g : Nat → Nat) (σ T : Nat → Int) (hW : WF σ T) (k b : Int) (hk : 0 ≤ k ∧ k ≤ 10000) (hb01 : b = 0 ∨ b = 1) : MI l yX5_moon wsX5_moon 1 22 D (ty3 cI cO cL) (PicB D cO g σ T) [.ref (g 0), .int (iI (k)), .int (iI (b))] (m_tm (σ 2) (σ 3) k b / 1000) := by
  refine MI_of (cc := cX5_moon) (maxL := 3) (ret := (some .int)) (by decide) rfl (Nat.le_of_ble_eq_true rfl) ?_
  intro p e s m args below meth c ls hx hb hr hlocks hml hown hts hPic hK hl
  have hl : lv_has ls 3 [(0, .ref (g 0)), (1, .int (iI (k))), (2, .int (iI (b)))] := hl
  have hin_X5 : ∀ w ∈ u_ws RX5 TX5 7, w ∈ wsX5_moon := (fun w h => List.mem_cons_of_mem _ (List.mem_append_left _ (List.mem_append_left _ (List.mem_append_right _ h))))
  obtain ⟨w0, w1, w2, w3, w4, w5, w6, w7, w8⟩ := id hW
  refine lv_iload_n hx hb dX5_moon_0 rfl (lv_at hl 1 rfl) ?_
  refine q_if_lt (tgt := 11) hx hb dX5_moon_1 (by decide) (by omega) (fun c_1 => ?_) (fun c_1 => ?_)
  · skip
    exfalso
    omega
  · skip
    refine lv_iload_n hx hb dX5_moon_4 rfl (lv_at hl 1 rfl) ?_
    refine q_sipush hx hb dX5_moon_5 (by decide) ?_
    refine q_icmp_le (tgt := 21) hx hb dX5_moon_8 (by decide) (by omega) (by omega) (fun c_2 => ?_) (fun c_2 => ?_)
    · skip
      refine lv_aload_n hx hb dX5_moon_21 rfl (lv_at hl 0 rfl) ?_
      refine q_get (ci := 7) (C := RX5) (T := TX5) (N := 7) hx hb hts hin_X5 hown hK (v := .ref (g 2)) hPic.at0 rfl 1 (by decide) (hts (.fieldLink RX5 19 "AlmanacHouse" "moons" "LAlmanacHouse$Moons;") (List.mem_of_getElem? (i := 3) rfl)) (fun _ h9 => h9) rfl dX5_moon_22 ?_
      refine lv_iload_n hx hb dX5_moon_25 rfl (lv_at hl 1 rfl) ?_
      refine lv_iload_n hx hb dX5_moon_26 rfl (lv_at hl 2 rfl) ?_
      refine q_callV (fr := 0) (lo := 0) (nL := 3) (Pic := ob D (g 2) 3 [.int (iI (σ 2)), .int (iI (σ 3))]) (As := [.int (iI (k)), .int (iI (b))]) (rest := []) ⟨hx, hb, hml, hown, hts⟩ (c_timeOf l D (ty3 cI cO cL) (g 2) (σ 2) (σ 3) (k) (b) w2 w3 (by omega) (by omega)) (cwV 2 hts gX5_moon_X1_timeOf rfl rfl rfl (by decide +kernel) ⟨Nat.le_of_ble_eq_true rfl, Nat.le_of_ble_eq_true rfl⟩) (ob_recv hPic.at2 hK rfl) hPic.at2 hK rfl hl.1 rfl (Nat.le_of_ble_eq_true rfl) dX5_moon_27 (Nat.zero_le _) (Nat.zero_le _) ?_
      have htm27 := m_tm_in (ln := (σ 2)) (fi := (σ 3)) (b := (b)) (k := (k)) w2 w3 (by omega)
      refine q_sipush hx hb dX5_moon_30 (by decide) ?_
      refine q_idiv hx hb dX5_moon_33 (by omega) (by omega) ?_
      exact q_iret hx hb hr hlocks (rfl) dX5_moon_34
    · skip
      exfalso
      omega
set_option maxHeartbeats 4000000 in
set_option maxRecDepth 100000 in
theorem p_eclipses (l : Launch) (D : va_G) (cI cO cL : ClassId) (g : Nat → Nat) (σ T : Nat → Int) (hW : WF σ T) (y b : Int) (hy : 0 ≤ y ∧ y < 1000) (hb01 : b = 0 ∨ b = 1) : MI l yX5_eclipses wsX5_eclipses 2 48 D (ty3 cI cO cL) (PicB D cO g σ T) [.ref (g 0), .int (iI (y)), .int (iI (b))] (m_Eb σ y (1 - b)) := by
  refine MI_of (cc := cX5_eclipses) (maxL := 3) (ret := (some .int)) (by decide) rfl (Nat.le_of_ble_eq_true rfl) ?_
  intro p e s m args below meth c ls hx hb hr hlocks hml hown hts hPic hK hl
  have hl : lv_has ls 3 [(0, .ref (g 0)), (1, .int (iI (y))), (2, .int (iI (b)))] := hl
  obtain ⟨w0, w1, w2, w3, w4, w5, w6, w7, w8⟩ := id hW
  refine lv_iload_n hx hb dX5_eclipses_0 rfl (lv_at hl 1 rfl) ?_
  refine q_callS (fr := 0) (lo := 0) (nL := 3) (Pic := fun _ => True) (As := [.int (iI (y))]) (rest := []) ⟨hx, hb, hml, hown, hts⟩ (c_isYear l D (ty3 cI cO cL) (y) (by omega)) (va_cwS 1 hts gX5_eclipses_X5_isYear rfl rfl rfl (by decide +kernel) ⟨Nat.le_of_ble_eq_true rfl, Nat.le_of_ble_eq_true rfl⟩) trivial hK rfl hl.1 rfl (Nat.le_of_ble_eq_true rfl) dX5_eclipses_1 (Nat.zero_le _) (Nat.zero_le _) ?_
  refine q_pif_ne (tgt := 17) hx hb dX5_eclipses_4 (by decide) (fun c_1 => ?_) (fun c_1 => ?_)
  · skip
    refine lv_aload_n hx hb dX5_eclipses_17 rfl (lv_at hl 0 rfl) ?_
    refine lv_iload_n hx hb dX5_eclipses_18 rfl (lv_at hl 1 rfl) ?_
    refine lv_iload_n hx hb dX5_eclipses_19 rfl (lv_at hl 2 rfl) ?_
    refine q_if_ne (tgt := 27) hx hb dX5_eclipses_20 (by decide) (by omega) (fun c_2 => ?_) (fun c_2 => ?_)
    · skip
      refine q_iconst hx hb dX5_eclipses_27 ?_
      refine q_callV (fr := 1) (lo := 23) (nL := 3) (Pic := PicB D cO g σ T) (As := [.int (iI (y)), .int (iI (0))]) (rest := []) ⟨hx, hb, hml, hown, hts⟩ (c_countEclipses l D cI cO cL g σ T hW (y) (0) (by omega) (by omega)) (cwV 2 hts gX5_eclipses_X5_countEclipses rfl rfl rfl (by decide +kernel) ⟨Nat.le_of_ble_eq_true rfl, Nat.le_of_ble_eq_true rfl⟩) (ob_recv hPic.at0 hK rfl) hPic hK rfl hl.1 rfl (Nat.le_of_ble_eq_true rfl) dX5_eclipses_28 (Nat.zero_le _) (Nat.zero_le _) ?_
      have hE28 := m_Eb_in hW (y := (y)) (b := (0)) (by omega)
      exact q_iret hx hb hr hlocks (by congr 1; omega) dX5_eclipses_31
    · skip
      refine q_iconst hx hb dX5_eclipses_23 ?_
      refine lv_goto (tgt := 28) hx hb dX5_eclipses_24 (by decide) ?_
      refine q_callV (fr := 1) (lo := 23) (nL := 3) (Pic := PicB D cO g σ T) (As := [.int (iI (y)), .int (iI (1))]) (rest := []) ⟨hx, hb, hml, hown, hts⟩ (c_countEclipses l D cI cO cL g σ T hW (y) (1) (by omega) (by omega)) (cwV 2 hts gX5_eclipses_X5_countEclipses rfl rfl rfl (by decide +kernel) ⟨Nat.le_of_ble_eq_true rfl, Nat.le_of_ble_eq_true rfl⟩) (ob_recv hPic.at0 hK rfl) hPic hK rfl hl.1 rfl (Nat.le_of_ble_eq_true rfl) dX5_eclipses_28 (Nat.zero_le _) (Nat.zero_le _) ?_
      have hE28 := m_Eb_in hW (y := (y)) (b := (1)) (by omega)
      exact q_iret hx hb hr hlocks (by congr 1; omega) dX5_eclipses_31
  · skip
    exfalso
    omega
set_option maxHeartbeats 4000000 in
set_option maxRecDepth 100000 in
theorem p_next (l : Launch) (D : va_G) (cI cO cL : ClassId) (g : Nat → Nat) (σ T : Nat → Int) (hW : WF σ T) (d : Int) (hd : 0 ≤ d ∧ d < m_fd (σ 0) (σ 1) 1000) : MI l yX5_next wsX5_next 2 48 D (ty3 cI cO cL) (PicB D cO g σ T) [.ref (g 0), .int (iI (d))] (m_next σ d) := by
  refine MI_of (cc := cX5_next) (maxL := 4) (ret := (some .int)) (by decide) rfl (Nat.le_of_ble_eq_true rfl) ?_
  intro p e s m args below meth c ls hx hb hr hlocks hml hown hts hPic hK hl
  have hl : lv_has ls 4 [(0, .ref (g 0)), (1, .int (iI (d)))] := hl
  obtain ⟨w0, w1, w2, w3, w4, w5, w6, w7, w8⟩ := id hW
  have h1000 := m_fd_le (cy := σ 0) (lq := σ 1) (y := 1000) w0.1 w1 (by omega)
  refine lv_aload_n hx hb dX5_next_0 rfl (lv_at hl 0 rfl) ?_
  refine lv_iload_n hx hb dX5_next_1 rfl (lv_at hl 1 rfl) ?_
  refine q_callV (fr := 1) (lo := 21) (nL := 4) (Pic := PicB D cO g σ T) (As := [.int (iI (d))]) (rest := []) ⟨hx, hb, hml, hown, hts⟩ (c_isDay l D cI cO cL g σ T hW (d) (by omega)) (cwV 1 hts gX5_next_X5_isDay rfl rfl rfl (by decide +kernel) ⟨Nat.le_of_ble_eq_true rfl, Nat.le_of_ble_eq_true rfl⟩) (ob_recv hPic.at0 hK rfl) hPic hK rfl hl.1 rfl (Nat.le_of_ble_eq_true rfl) dX5_next_2 (Nat.zero_le _) (Nat.zero_le _) ?_
  refine q_pif_ne (tgt := 18) hx hb dX5_next_5 (by decide) (fun c_1 => ?_) (fun c_1 => ?_)
  · skip
    refine lv_aload_n hx hb dX5_next_18 rfl (lv_at hl 0 rfl) ?_
    refine lv_iload_n hx hb dX5_next_19 rfl (lv_at hl 1 rfl) ?_
    refine q_iconst hx hb dX5_next_20 ?_
    refine q_callV (fr := 1) (lo := 23) (nL := 4) (Pic := PicB D cO g σ T) (As := [.int (iI (d)), .int (iI (0))]) (rest := []) ⟨hx, hb, hml, hown, hts⟩ (c_firstEclipse l D cI cO cL g σ T hW (d) (0) (by omega) (by omega)) (cwV 2 hts gX5_next_X5_firstEclipse rfl rfl rfl (by decide +kernel) ⟨Nat.le_of_ble_eq_true rfl, Nat.le_of_ble_eq_true rfl⟩) (ob_recv hPic.at0 hK rfl) hPic hK rfl hl.1 rfl (Nat.le_of_ble_eq_true rfl) dX5_next_21 (Nat.zero_le _) (Nat.zero_le _) ?_
    have hN21 := m_N1_in hW (d := (d)) (b := (0)) (by omega)
    refine q_top (fun a1 ea1 => ?_)
    refine lv_istore_n (lv' := [(2, .int (iI (a1))), (0, .ref (g 0)), (1, .int (iI (d)))]) hx hb dX5_next_24 rfl hl (by decide) rfl (fun ls hl => ?_)
    refine lv_aload_n hx hb dX5_next_25 rfl (lv_at hl 1 rfl) ?_
    refine lv_iload_n hx hb dX5_next_26 rfl (lv_at hl 2 rfl) ?_
    refine q_iconst hx hb dX5_next_27 ?_
    refine q_callV (fr := 1) (lo := 23) (nL := 4) (Pic := PicB D cO g σ T) (As := [.int (iI (d)), .int (iI (1))]) (rest := []) ⟨hx, hb, hml, hown, hts⟩ (c_firstEclipse l D cI cO cL g σ T hW (d) (1) (by omega) (by omega)) (cwV 2 hts gX5_next_X5_firstEclipse rfl rfl rfl (by decide +kernel) ⟨Nat.le_of_ble_eq_true rfl, Nat.le_of_ble_eq_true rfl⟩) (ob_recv hPic.at0 hK rfl) hPic hK rfl hl.1 rfl (Nat.le_of_ble_eq_true rfl) dX5_next_28 (Nat.zero_le _) (Nat.zero_le _) ?_
    have hN28 := m_N1_in hW (d := (d)) (b := (1)) (by omega)
    refine q_top (fun a2 ea2 => ?_)
    refine lv_istore_n (lv' := [(3, .int (iI (a2))), (2, .int (iI (a1))), (0, .ref (g 0)), (1, .int (iI (d)))]) hx hb dX5_next_31 rfl hl (by decide) rfl (fun ls hl => ?_)
    refine lv_iload_n hx hb dX5_next_32 rfl (lv_at hl 1 rfl) ?_
    refine q_if_lt (tgt := 40) hx hb dX5_next_33 (by decide) (by omega) (fun c_2 => ?_) (fun c_2 => ?_)
    · skip
      refine lv_iload_n hx hb dX5_next_40 rfl (lv_at hl 1 rfl) ?_
      refine lv_iload_n hx hb dX5_next_41 rfl (lv_at hl 0 rfl) ?_
      refine q_mmax hx hb (hml.trans hl.1.symm) hown (hts (.methodLink RX5 138 Lib.Math.max.name) (List.mem_of_getElem? (i := 3) rfl)) (hts (.static Lib.Math.max.name) (List.mem_of_getElem? (i := 4) rfl)) (hts (.initialized "java/lang/Math") (List.mem_of_getElem? (i := 5) rfl)) (hts (.code Lib.Math.max.name Lib.Math.max.code 2 (some .int)) (List.mem_of_getElem? (i := 6) rfl)) (by omega) (by omega) (Nat.le_of_ble_eq_true rfl) (Nat.le_of_ble_eq_true rfl) (Nat.zero_le _) (Nat.zero_le _) dX5_next_42 ?_
      exact q_iret hx hb hr hlocks (by unfold m_next; rw [← ea1, ← ea2]; (repeat' split) <;> omega) dX5_next_45
    · skip
      refine lv_iload_n hx hb dX5_next_36 rfl (lv_at hl 0 rfl) ?_
      refine q_if_ge (tgt := 46) hx hb dX5_next_37 (by decide) (by omega) (fun c_3 => ?_) (fun c_3 => ?_)
      · skip
        refine lv_iload_n hx hb dX5_next_46 rfl (lv_at hl 1 rfl) ?_
        refine lv_iload_n hx hb dX5_next_47 rfl (lv_at hl 0 rfl) ?_
        refine q_mmin hx hb (hml.trans hl.1.symm) hown (hts (.methodLink RX5 143 Lib.Math.min.name) (List.mem_of_getElem? (i := 7) rfl)) (hts (.static Lib.Math.min.name) (List.mem_of_getElem? (i := 8) rfl)) (hts (.initialized "java/lang/Math") (List.mem_of_getElem? (i := 5) rfl)) (hts (.code Lib.Math.min.name Lib.Math.min.code 2 (some .int)) (List.mem_of_getElem? (i := 9) rfl)) (by omega) (by omega) (Nat.le_of_ble_eq_true rfl) (Nat.le_of_ble_eq_true rfl) (Nat.zero_le _) (Nat.zero_le _) dX5_next_48 ?_
        exact q_iret hx hb hr hlocks (by unfold m_next; rw [← ea1, ← ea2]; (repeat' split) <;> omega) dX5_next_51
      · skip
        refine lv_iload_n hx hb dX5_next_40 rfl (lv_at hl 1 rfl) ?_
        refine lv_iload_n hx hb dX5_next_41 rfl (lv_at hl 0 rfl) ?_
        refine q_mmax hx hb (hml.trans hl.1.symm) hown (hts (.methodLink RX5 138 Lib.Math.max.name) (List.mem_of_getElem? (i := 3) rfl)) (hts (.static Lib.Math.max.name) (List.mem_of_getElem? (i := 4) rfl)) (hts (.initialized "java/lang/Math") (List.mem_of_getElem? (i := 5) rfl)) (hts (.code Lib.Math.max.name Lib.Math.max.code 2 (some .int)) (List.mem_of_getElem? (i := 6) rfl)) (by omega) (by omega) (Nat.le_of_ble_eq_true rfl) (Nat.le_of_ble_eq_true rfl) (Nat.zero_le _) (Nat.zero_le _) dX5_next_42 ?_
        exact q_iret hx hb hr hlocks (by unfold m_next; rw [← ea1, ← ea2]; (repeat' split) <;> omega) dX5_next_45
  · skip
    exfalso
    omega
set_option maxHeartbeats 4000000 in
set_option maxRecDepth 100000 in
theorem p_feast (l : Launch) (D : va_G) (cI cO cL : ClassId) (g : Nat → Nat) (σ T : Nat → Int) (hW : WF σ T) (j y : Int) (hj : 0 ≤ j ∧ j < σ 6) (hy : 0 ≤ y ∧ y < 1000) : MI l yX5_feast wsX5_feast 3 64 D (ty3 cI cO cL) (PicB D cO g σ T) [.ref (g 0), .int (iI (j)), .int (iI (y))] (m_F σ T j.toNat y) := by
  refine MI_of (cc := cX5_feast) (maxL := 3) (ret := (some .int)) (by decide) rfl (Nat.le_of_ble_eq_true rfl) ?_
  intro p e s m args below meth c ls hx hb hr hlocks hml hown hts hPic hK hl
  have hl : lv_has ls 3 [(0, .ref (g 0)), (1, .int (iI (j))), (2, .int (iI (y)))] := hl
  have hin_X5 : ∀ w ∈ u_ws RX5 TX5 7, w ∈ wsX5_feast := (fun w h => List.mem_cons_of_mem _ (List.mem_append_left _ (List.mem_append_left _ (List.mem_append_left _ (List.mem_append_left _ (List.mem_append_left _ (List.mem_append_left _ (List.mem_append_right _ h))))))))
  obtain ⟨w0, w1, w2, w3, w4, w5, w6, w7, w8⟩ := id hW
  refine lv_iload_n hx hb dX5_feast_0 rfl (lv_at hl 1 rfl) ?_
  refine q_if_lt (tgt := 15) hx hb dX5_feast_1 (by decide) (by omega) (fun c_1 => ?_) (fun c_1 => ?_)
  · skip
    exfalso
    omega
  · skip
    refine lv_iload_n hx hb dX5_feast_4 rfl (lv_at hl 1 rfl) ?_
    refine lv_aload_n hx hb dX5_feast_5 rfl (lv_at hl 0 rfl) ?_
    refine q_get (ci := 7) (C := RX5) (T := TX5) (N := 7) hx hb hts hin_X5 hown hK (v := .ref (g 4)) hPic.at0 rfl 3 (by decide) (hts (.fieldLink RX5 33 "AlmanacHouse" "feasts" "Ljava/util/ArrayList;") (List.mem_of_getElem? (i := 5) rfl)) (fun _ h9 => h9) rfl dX5_feast_6 ?_
    refine q_callV (fr := 0) (lo := 0) (nL := 3) (Pic := ob D (g 4) 1 [.int (iI (σ 6)), .ref (g 6), .int (iI (σ 6))]) (As := []) (rest := [.int (iI (j))]) ⟨hx, hb, hml, hown, hts⟩ (c_size l D (ty3 cI cO cL) (g 4) (g 6) (σ 6) (σ 6)) (cwV 0 hts gX5_feast_Jx4a65c_size_8abf5 rfl rfl rfl (by decide +kernel) ⟨Nat.le_of_ble_eq_true rfl, Nat.le_of_ble_eq_true rfl⟩) (ob_recv hPic.at4 hK rfl) hPic.at4 hK rfl hl.1 rfl (Nat.le_of_ble_eq_true rfl) dX5_feast_9 (Nat.zero_le _) (Nat.zero_le _) ?_
    refine q_icmp_lt (tgt := 25) hx hb dX5_feast_12 (by decide) (by omega) (by omega) (fun c_2 => ?_) (fun c_2 => ?_)
    · skip
      refine lv_iload_n hx hb dX5_feast_25 rfl (lv_at hl 2 rfl) ?_
      refine q_callS (fr := 0) (lo := 0) (nL := 3) (Pic := fun _ => True) (As := [.int (iI (y))]) (rest := []) ⟨hx, hb, hml, hown, hts⟩ (c_isYear l D (ty3 cI cO cL) (y) (by omega)) (va_cwS 1 hts gX5_feast_X5_isYear rfl rfl rfl (by decide +kernel) ⟨Nat.le_of_ble_eq_true rfl, Nat.le_of_ble_eq_true rfl⟩) trivial hK rfl hl.1 rfl (Nat.le_of_ble_eq_true rfl) dX5_feast_26 (Nat.zero_le _) (Nat.zero_le _) ?_
      refine q_pif_ne (tgt := 42) hx hb dX5_feast_29 (by decide) (fun c_3 => ?_) (fun c_3 => ?_)
      · skip
        refine lv_aload_n hx hb dX5_feast_42 rfl (lv_at hl 0 rfl) ?_
        refine lv_aload_n hx hb dX5_feast_43 rfl (lv_at hl 0 rfl) ?_
        refine q_get (ci := 7) (C := RX5) (T := TX5) (N := 7) hx hb hts hin_X5 hown hK (v := .ref (g 4)) hPic.at0 rfl 3 (by decide) (hts (.fieldLink RX5 33 "AlmanacHouse" "feasts" "Ljava/util/ArrayList;") (List.mem_of_getElem? (i := 5) rfl)) (fun _ h9 => h9) rfl dX5_feast_44 ?_
        refine lv_iload_n hx hb dX5_feast_47 rfl (lv_at hl 1 rfl) ?_
        refine q_callVq (fr := 2) (lo := 43) (nL := 3) (Pic := fun H => ob D (g 4) 1 [.int (iI (σ 6)), .ref (g 6), .int (iI (σ 6))] H ∧ ar D (g 6) (cO, 10, .inr (.inr (.inr (.inr (fun j => if j < (σ 6).toNat then some (g (10 + j)) else none))))) H) (As := [.int (iI (j))]) (rest := [.ref (g 0)]) ⟨hx, hb, hml, hown, hts⟩ (c_get l D cI cO cL (g 4) (g 6) (g (10 + (j).toNat)) (σ 6) (σ 6) (j) (fun j => if j < (σ 6).toNat then some (g (10 + j)) else none) (by omega) (by omega) (if_pos (by omega))) (cwV 1 hts gX5_feast_Jx4a65c_get_915e3 rfl rfl rfl (by decide +kernel) ⟨Nat.le_of_ble_eq_true rfl, Nat.le_of_ble_eq_true rfl⟩) (ob_recv hPic.at4 hK rfl) ⟨hPic.at4, hPic.arr (by omega)⟩ hK rfl hl.1 rfl (Nat.le_of_ble_eq_true rfl) dX5_feast_48 (Nat.zero_le _) (Nat.zero_le _) ?_
        refine q_cast (ci := 2) (T := TX0) (N := 5) hx hb hown (hts (.classLink RX5 173 "AlmanacHouse$Feast") (List.mem_of_getElem? (i := 6) rfl)) hK (hPic.fe (i := (j).toNat) (by omega)) rfl dX5_feast_51 ?_
        refine lv_iload_n hx hb dX5_feast_54 rfl (lv_at hl 2 rfl) ?_
        refine q_callV (fr := 1) (lo := 23) (nL := 3) (Pic := PicB D cO g σ T) (As := [.ref (g (10 + (j).toNat)), .int (iI (y))]) (rest := []) ⟨hx, hb, hml, hown, hts⟩ (c_feastDay l D cI cO cL g σ T hW ((j).toNat) (y) (by omega) (by omega)) (cwV 2 hts gX5_feast_X5_feastDay rfl rfl rfl (by decide +kernel) ⟨Nat.le_of_ble_eq_true rfl, Nat.le_of_ble_eq_true rfl⟩) (ob_recv hPic.at0 hK rfl) hPic hK rfl hl.1 rfl (Nat.le_of_ble_eq_true rfl) dX5_feast_55 (Nat.zero_le _) (Nat.zero_le _) ?_
        have hF55 := m_F_in hW (i := (j).toNat) (by omega) (y := y) (by omega)
        exact q_iret hx hb hr hlocks (rfl) dX5_feast_58
      · skip
        exfalso
        omega
    · skip
      exfalso
      omega
set_option maxHeartbeats 4000000 in
set_option maxRecDepth 100000 in
theorem p_again (l : Launch) (D : va_G) (cI cO cL : ClassId) (g : Nat → Nat) (σ T : Nat → Int) (hW : WF σ T) (j y : Int) (hj : 0 ≤ j ∧ j < σ 6) (hy : 0 ≤ y ∧ y < 1000) : MI l yX5_again wsX5_again 3 64 D (ty3 cI cO cL) (PicB D cO g σ T) [.ref (g 0), .int (iI (j)), .int (iI (y))] (m_again σ T j.toNat y) := by
  refine MI_of (cc := cX5_again) (maxL := 6) (ret := (some .int)) (by decide) rfl (Nat.le_of_ble_eq_true rfl) ?_
  intro p e s m args below meth c ls hx hb hr hlocks hml hown hts hPic hK hl
  have hl : lv_has ls 6 [(0, .ref (g 0)), (1, .int (iI (j))), (2, .int (iI (y)))] := hl
  have hin_X5 : ∀ w ∈ u_ws RX5 TX5 7, w ∈ wsX5_again := (fun w h => List.mem_cons_of_mem _ (List.mem_append_left _ (List.mem_append_left _ (List.mem_append_left _ (List.mem_append_left _ (List.mem_append_left _ (List.mem_append_left _ (List.mem_append_right _ h))))))))
  obtain ⟨w0, w1, w2, w3, w4, w5, w6, w7, w8⟩ := id hW
  refine lv_iload_n hx hb dX5_again_0 rfl (lv_at hl 1 rfl) ?_
  refine q_if_lt (tgt := 15) hx hb dX5_again_1 (by decide) (by omega) (fun c_1 => ?_) (fun c_1 => ?_)
  · skip
    exfalso
    omega
  · skip
    refine lv_iload_n hx hb dX5_again_4 rfl (lv_at hl 1 rfl) ?_
    refine lv_aload_n hx hb dX5_again_5 rfl (lv_at hl 0 rfl) ?_
    refine q_get (ci := 7) (C := RX5) (T := TX5) (N := 7) hx hb hts hin_X5 hown hK (v := .ref (g 4)) hPic.at0 rfl 3 (by decide) (hts (.fieldLink RX5 33 "AlmanacHouse" "feasts" "Ljava/util/ArrayList;") (List.mem_of_getElem? (i := 5) rfl)) (fun _ h9 => h9) rfl dX5_again_6 ?_
    refine q_callV (fr := 0) (lo := 0) (nL := 6) (Pic := ob D (g 4) 1 [.int (iI (σ 6)), .ref (g 6), .int (iI (σ 6))]) (As := []) (rest := [.int (iI (j))]) ⟨hx, hb, hml, hown, hts⟩ (c_size l D (ty3 cI cO cL) (g 4) (g 6) (σ 6) (σ 6)) (cwV 0 hts gX5_again_Jx4a65c_size_8abf5 rfl rfl rfl (by decide +kernel) ⟨Nat.le_of_ble_eq_true rfl, Nat.le_of_ble_eq_true rfl⟩) (ob_recv hPic.at4 hK rfl) hPic.at4 hK rfl hl.1 rfl (Nat.le_of_ble_eq_true rfl) dX5_again_9 (Nat.zero_le _) (Nat.zero_le _) ?_
    refine q_icmp_lt (tgt := 25) hx hb dX5_again_12 (by decide) (by omega) (by omega) (fun c_2 => ?_) (fun c_2 => ?_)
    · skip
      refine lv_iload_n hx hb dX5_again_25 rfl (lv_at hl 2 rfl) ?_
      refine q_callS (fr := 0) (lo := 0) (nL := 6) (Pic := fun _ => True) (As := [.int (iI (y))]) (rest := []) ⟨hx, hb, hml, hown, hts⟩ (c_isYear l D (ty3 cI cO cL) (y) (by omega)) (va_cwS 1 hts gX5_again_X5_isYear rfl rfl rfl (by decide +kernel) ⟨Nat.le_of_ble_eq_true rfl, Nat.le_of_ble_eq_true rfl⟩) trivial hK rfl hl.1 rfl (Nat.le_of_ble_eq_true rfl) dX5_again_26 (Nat.zero_le _) (Nat.zero_le _) ?_
      refine q_pif_ne (tgt := 42) hx hb dX5_again_29 (by decide) (fun c_3 => ?_) (fun c_3 => ?_)
      · skip
        refine lv_aload_n hx hb dX5_again_42 rfl (lv_at hl 0 rfl) ?_
        refine q_get (ci := 7) (C := RX5) (T := TX5) (N := 7) hx hb hts hin_X5 hown hK (v := .ref (g 4)) hPic.at0 rfl 3 (by decide) (hts (.fieldLink RX5 33 "AlmanacHouse" "feasts" "Ljava/util/ArrayList;") (List.mem_of_getElem? (i := 5) rfl)) (fun _ h9 => h9) rfl dX5_again_43 ?_
        refine lv_iload_n hx hb dX5_again_46 rfl (lv_at hl 1 rfl) ?_
        refine q_callVq (fr := 2) (lo := 43) (nL := 6) (Pic := fun H => ob D (g 4) 1 [.int (iI (σ 6)), .ref (g 6), .int (iI (σ 6))] H ∧ ar D (g 6) (cO, 10, .inr (.inr (.inr (.inr (fun j => if j < (σ 6).toNat then some (g (10 + j)) else none))))) H) (As := [.int (iI (j))]) (rest := []) ⟨hx, hb, hml, hown, hts⟩ (c_get l D cI cO cL (g 4) (g 6) (g (10 + (j).toNat)) (σ 6) (σ 6) (j) (fun j => if j < (σ 6).toNat then some (g (10 + j)) else none) (by omega) (by omega) (if_pos (by omega))) (cwV 1 hts gX5_again_Jx4a65c_get_915e3 rfl rfl rfl (by decide +kernel) ⟨Nat.le_of_ble_eq_true rfl, Nat.le_of_ble_eq_true rfl⟩) (ob_recv hPic.at4 hK rfl) ⟨hPic.at4, hPic.arr (by omega)⟩ hK rfl hl.1 rfl (Nat.le_of_ble_eq_true rfl) dX5_again_47 (Nat.zero_le _) (Nat.zero_le _) ?_
        refine q_cast (ci := 2) (T := TX0) (N := 5) hx hb hown (hts (.classLink RX5 173 "AlmanacHouse$Feast") (List.mem_of_getElem? (i := 6) rfl)) hK (hPic.fe (i := (j).toNat) (by omega)) rfl dX5_again_50 ?_
        refine lv_astore_n (lv' := [(3, .ref (g (10 + (j).toNat))), (0, .ref (g 0)), (1, .int (iI (j))), (2, .int (iI (y)))]) hx hb dX5_again_53 rfl hl (by decide) rfl (fun ls hl => ?_)
        refine lv_aload_n hx hb dX5_again_54 rfl (lv_at hl 1 rfl) ?_
        refine lv_aload_n hx hb dX5_again_55 rfl (lv_at hl 0 rfl) ?_
        refine lv_iload_n hx hb dX5_again_56 rfl (lv_at hl 3 rfl) ?_
        refine q_callV (fr := 1) (lo := 23) (nL := 6) (Pic := PicB D cO g σ T) (As := [.ref (g (10 + (j).toNat)), .int (iI (y))]) (rest := []) ⟨hx, hb, hml, hown, hts⟩ (c_feastDay l D cI cO cL g σ T hW ((j).toNat) (y) (by omega) (by omega)) (cwV 2 hts gX5_again_X5_feastDay rfl rfl rfl (by decide +kernel) ⟨Nat.le_of_ble_eq_true rfl, Nat.le_of_ble_eq_true rfl⟩) (ob_recv hPic.at0 hK rfl) hPic hK rfl hl.1 rfl (Nat.le_of_ble_eq_true rfl) dX5_again_57 (Nat.zero_le _) (Nat.zero_le _) ?_
        have hF57 := m_F_in hW (i := (j).toNat) (by omega) (y := y) (by omega)
        refine lv_aload_n hx hb dX5_again_60 rfl (lv_at hl 1 rfl) ?_
        refine q_get (ci := 7) (C := RX5) (T := TX5) (N := 7) hx hb hts hin_X5 hown hK (v := .ref (g 1)) hPic.at0 rfl 0 (by decide) (hts (.fieldLink RX5 10 "AlmanacHouse" "years" "LAlmanacHouse$Years;") (List.mem_of_getElem? (i := 7) rfl)) (fun _ h9 => h9) rfl dX5_again_61 ?_
        refine lv_iload_n hx hb dX5_again_64 rfl (lv_at hl 3 rfl) ?_
        refine q_callV (fr := 0) (lo := 0) (nL := 6) (Pic := ob D (g 1) 6 [.int (iI (σ 0)), .int (iI (σ 1))]) (As := [.int (iI (y))]) (rest := [.int (iI (m_F σ T ((j).toNat) (y)))]) ⟨hx, hb, hml, hown, hts⟩ (c_firstDay l D (ty3 cI cO cL) (g 1) (σ 0) (σ 1) (y) w0 w1 (by omega)) (cwV 1 hts gX5_again_X4_firstDay rfl rfl rfl (by decide +kernel) ⟨Nat.le_of_ble_eq_true rfl, Nat.le_of_ble_eq_true rfl⟩) (ob_recv hPic.at1 hK rfl) hPic.at1 hK rfl hl.1 rfl (Nat.le_of_ble_eq_true rfl) dX5_again_65 (Nat.zero_le _) (Nat.zero_le _) ?_
        have hfd65 := m_fd_le (cy := (σ 0)) (lq := (σ 1)) (y := (y)) w0.1 w1 (by omega)
        refine q_isub hx hb dX5_again_68 ?_
        refine q_top (fun bh ebh => ?_)
        refine lv_istore (lv' := [(4, .int (iI (bh))), (3, .ref (g (10 + (j).toNat))), (0, .ref (g 0)), (1, .int (iI (j))), (2, .int (iI (y)))]) hx hb dX5_again_69 hl (by decide) rfl (fun ls hl => ?_)
        refine lv_iload_n hx hb dX5_again_71 rfl (lv_at hl 4 rfl) ?_
        refine q_iconst hx hb dX5_again_72 ?_
        refine q_iadd hx hb dX5_again_73 ?_
        refine q_top (fun k0 ek0 => ?_)
        obtain ⟨en, een⟩ : ∃ en : Int, en = if y + 101 < 1000 then y + 101 else 1000 := ⟨_, rfl⟩
        refine lv_istore (lv' := [(5, .int (iI (k0))), (4, .int (iI (bh))), (3, .ref (g (10 + (j).toNat))), (0, .ref (g 0)), (1, .int (iI (j))), (2, .int (iI (y)))]) hx hb dX5_again_74 hl (by decide) rfl (fun ls hl => ?_)
        have key_76 : ∀ (fu : Nat) (k : Int), y < k ∧ (k ≤ en ∨ k = k0) → m_ag σ T j.toNat bh (en - k).toNat k = m_again σ T j.toNat y → (((en - k).toNat : Int)) < (fu : Int) → ∀ ls : Array Slot, lv_has ls 6 [(0, .ref (g 0)), (1, .int (iI (j))), (2, .int (iI (y))), (3, .ref (g (10 + (j).toNat))), (4, .int (iI (bh))), (5, .int (iI (k)))] → W p l e { frames := 3, cells := 0, slots := 0, locals := 64 } s m args below meth c s.heap [] 0 0 (MQ below (vp_Si (fun r => r = iI (m_again σ T j.toNat y))) args s 0 0 (fun _ => False)) (F0 m 76 ls []) := by
          intro fu
          induction fu with
          | zero => intro k hk hag hm_76 ls hl; exact absurd hm_76 (by omega)
          | succ fu ih_76 =>
            intro k hk hag hm_76 ls hl
            have hen : (k ≤ y + 100 ∧ k < 1000) ↔ k < en := by rw [een]; split <;> omega
            refine lv_iload hx hb dX5_again_76 (lv_at hl 5 rfl) ?_
            refine lv_iload_n hx hb dX5_again_78 rfl (lv_at hl 2 rfl) ?_
            refine q_bipush hx hb dX5_again_79 (by decide) ?_
            refine q_iadd hx hb dX5_again_81 ?_
            refine q_icmp_gt (tgt := 124) hx hb dX5_again_82 (by decide) (by omega) (by omega) (fun c_4 => ?_) (fun c_4 => ?_)
            · skip
              refine q_iconst hx hb dX5_again_124 ?_
              exact q_iret hx hb hr hlocks (by rw [← hag, m_ag_end (by omega)]) dX5_again_125
            · skip
              refine lv_iload hx hb dX5_again_85 (lv_at hl 5 rfl) ?_
              refine q_sipush hx hb dX5_again_87 (by decide) ?_
              refine q_icmp_ge (tgt := 124) hx hb dX5_again_90 (by decide) (by omega) (by omega) (fun c_5 => ?_) (fun c_5 => ?_)
              · skip
                refine q_iconst hx hb dX5_again_124 ?_
                exact q_iret hx hb hr hlocks (by rw [← hag, m_ag_end (by omega)]) dX5_again_125
              · skip
                refine lv_aload_n hx hb dX5_again_93 rfl (lv_at hl 0 rfl) ?_
                refine lv_aload_n hx hb dX5_again_94 rfl (lv_at hl 3 rfl) ?_
                refine lv_iload hx hb dX5_again_95 (lv_at hl 5 rfl) ?_
                refine q_callV (fr := 1) (lo := 23) (nL := 6) (Pic := PicB D cO g σ T) (As := [.ref (g (10 + (j).toNat)), .int (iI (k))]) (rest := []) ⟨hx, hb, hml, hown, hts⟩ (c_feastDay l D cI cO cL g σ T hW ((j).toNat) (k) (by omega) (by omega)) (cwV 2 hts gX5_again_X5_feastDay rfl rfl rfl (by decide +kernel) ⟨Nat.le_of_ble_eq_true rfl, Nat.le_of_ble_eq_true rfl⟩) (ob_recv hPic.at0 hK rfl) hPic hK rfl hl.1 rfl (Nat.le_of_ble_eq_true rfl) dX5_again_97 (Nat.zero_le _) (Nat.zero_le _) ?_
                have hF97 := m_F_in hW (i := (j).toNat) (by omega) (y := k) (by omega)
                refine lv_aload_n hx hb dX5_again_100 rfl (lv_at hl 0 rfl) ?_
                refine q_get (ci := 7) (C := RX5) (T := TX5) (N := 7) hx hb hts hin_X5 hown hK (v := .ref (g 1)) hPic.at0 rfl 0 (by decide) (hts (.fieldLink RX5 10 "AlmanacHouse" "years" "LAlmanacHouse$Years;") (List.mem_of_getElem? (i := 7) rfl)) (fun _ h9 => h9) rfl dX5_again_101 ?_
                refine lv_iload hx hb dX5_again_104 (lv_at hl 5 rfl) ?_
                refine q_callV (fr := 0) (lo := 0) (nL := 6) (Pic := ob D (g 1) 6 [.int (iI (σ 0)), .int (iI (σ 1))]) (As := [.int (iI (k))]) (rest := [.int (iI (m_F σ T ((j).toNat) (k)))]) ⟨hx, hb, hml, hown, hts⟩ (c_firstDay l D (ty3 cI cO cL) (g 1) (σ 0) (σ 1) (k) w0 w1 (by omega)) (cwV 1 hts gX5_again_X4_firstDay rfl rfl rfl (by decide +kernel) ⟨Nat.le_of_ble_eq_true rfl, Nat.le_of_ble_eq_true rfl⟩) (ob_recv hPic.at1 hK rfl) hPic.at1 hK rfl hl.1 rfl (Nat.le_of_ble_eq_true rfl) dX5_again_106 (Nat.zero_le _) (Nat.zero_le _) ?_
                have hfd106 := m_fd_le (cy := (σ 0)) (lq := (σ 1)) (y := (k)) w0.1 w1 (by omega)
                refine q_isub hx hb dX5_again_109 ?_
                refine lv_iload hx hb dX5_again_110 (lv_at hl 4 rfl) ?_
                refine q_icmp_ne (tgt := 118) hx hb dX5_again_112 (by decide) (by omega) (by omega) (fun c_6 => ?_) (fun c_6 => ?_)
                · skip
                  refine q_iinc (k := 5) (lv' := [(5, .int (iI (k + 1))), (0, .ref (g 0)), (1, .int (iI (j))), (2, .int (iI (y))), (3, .ref (g (10 + (j).toNat))), (4, .int (iI (bh)))]) hx hb dX5_again_118 hl rfl (by decide) rfl (fun ls hl => ?_)
                  refine lv_goto (tgt := 76) hx hb dX5_again_121 (by decide) ?_
                  exact ih_76 _ (by omega) (by rw [← hag, m_ag_step (k := k) (en := en) (by omega), if_neg (by omega)]) (by omega) _ (lv_sub hl [1, 2, 3, 4, 5, 0] rfl)
                · skip
                  refine lv_iload hx hb dX5_again_115 (lv_at hl 5 rfl) ?_
                  exact q_iret hx hb hr hlocks (by rw [← hag, m_ag_step (k := k) (en := en) (by omega), if_pos (by omega)]) dX5_again_117
        exact key_76 ((en - k0).toNat + 1) _ (by omega) (by unfold m_again; rw [ebh, een, ek0]) (by omega) _ (lv_sub hl [3, 4, 5, 2, 1, 0] rfl)
      · skip
        exfalso
        omega
    · skip
      exfalso
      omega
set_option maxHeartbeats 4000000 in
set_option maxRecDepth 100000 in
theorem p_sheet (l : Launch) (D : va_G) (cI cO cL : ClassId) (g : Nat → Nat) (σ T P : Nat → Int) (hW : WF σ T) (hS : WS σ P) (j w : Int) (hj : 0 ≤ j ∧ j < σ 7) (hw : 0 ≤ w ∧ w ≤ 4) : MI l yX5_sheet wsX5_sheet 5 109 D (ty3 cI cO cL) (PicC D cI cO g σ T P) [.ref (g 0), .int (iI (j)), .int (iI (w))] (m_told σ T P j.toNat w) := by
  refine MI_of (cc := cX5_sheet) (maxL := 4) (ret := (some .int)) (by decide) rfl (Nat.le_of_ble_eq_true rfl) ?_
  intro p e s m args below meth c ls hx hb hr hlocks hml hown hts hPic hK hl
  have hl : lv_has ls 4 [(0, .ref (g 0)), (1, .int (iI (j))), (2, .int (iI (w)))] := hl
  have hin_X5 : ∀ w ∈ u_ws RX5 TX5 7, w ∈ wsX5_sheet := (fun w h => List.mem_cons_of_mem _ (List.mem_append_left _ (List.mem_append_left _ (List.mem_append_left _ (List.mem_append_left _ (List.mem_append_left _ (List.mem_append_left _ (List.mem_append_left _ (List.mem_append_right _ h)))))))))
  have hin_X3 : ∀ w ∈ u_ws RX3 TX3 4, w ∈ wsX5_sheet := (fun w h => List.mem_cons_of_mem _ (List.mem_append_left _ (List.mem_append_left _ (List.mem_append_left _ (List.mem_append_left _ (List.mem_append_left _ (List.mem_append_left _ (List.mem_append_right _ h))))))))
  obtain ⟨w0, w1, w2, w3, w4, w5, w6, w7, w8⟩ := id hW
  refine lv_aload_n hx hb dX5_sheet_0 rfl (lv_at hl 0 rfl) ?_
  refine lv_iload_n hx hb dX5_sheet_1 rfl (lv_at hl 1 rfl) ?_
  refine q_callV (fr := 1) (lo := 20) (nL := 4) (Pic := PicB D cO g σ T) (As := [.int (iI (j))]) (rest := []) ⟨hx, hb, hml, hown, hts⟩ (c_isSheet l D cI cO cL g σ T hW (j) (by omega)) (cwV 1 hts gX5_sheet_X5_isSheet rfl rfl rfl (by decide +kernel) ⟨Nat.le_of_ble_eq_true rfl, Nat.le_of_ble_eq_true rfl⟩) (ob_recv hPic.base.at0 hK rfl) hPic.base hK rfl hl.1 rfl (Nat.le_of_ble_eq_true rfl) dX5_sheet_2 (Nat.zero_le _) (Nat.zero_le _) ?_
  refine q_pif_ne (tgt := 18) hx hb dX5_sheet_5 (by decide) (fun c_1 => ?_) (fun c_1 => ?_)
  · skip
    obtain ⟨s1, s2, s3, s4⟩ := hS j.toNat (by omega)
    refine lv_aload_n hx hb dX5_sheet_18 rfl (lv_at hl 0 rfl) ?_
    refine q_get (ci := 7) (C := RX5) (T := TX5) (N := 7) hx hb hts hin_X5 hown hK (v := .ref (g 5)) hPic.base.at0 rfl 4 (by decide) (hts (.fieldLink RX5 37 "AlmanacHouse" "sheets" "Ljava/util/ArrayList;") (List.mem_of_getElem? (i := 3) rfl)) (fun _ h9 => h9) rfl dX5_sheet_19 ?_
    refine lv_iload_n hx hb dX5_sheet_22 rfl (lv_at hl 1 rfl) ?_
    refine q_callVq (fr := 2) (lo := 43) (nL := 4) (Pic := fun H => ob D (g 5) 1 [.int (iI (σ 7)), .ref (g 7), .int (iI (σ 7))] H ∧ ar D (g 7) (cO, 10, .inr (.inr (.inr (.inr (fun j => if j < (σ 7).toNat then some (g (20 + j)) else none))))) H) (As := [.int (iI (j))]) (rest := []) ⟨hx, hb, hml, hown, hts⟩ (c_get l D cI cO cL (g 5) (g 7) (g (20 + (j).toNat)) (σ 7) (σ 7) (j) (fun j => if j < (σ 7).toNat then some (g (20 + j)) else none) (by omega) (by omega) (if_pos (by omega))) (cwV 1 hts gX5_sheet_Jx4a65c_get_915e3 rfl rfl rfl (by decide +kernel) ⟨Nat.le_of_ble_eq_true rfl, Nat.le_of_ble_eq_true rfl⟩) (ob_recv hPic.base.at5 hK rfl) ⟨hPic.base.at5, hPic.arr (by omega)⟩ hK rfl hl.1 rfl (Nat.le_of_ble_eq_true rfl) dX5_sheet_23 (Nat.zero_le _) (Nat.zero_le _) ?_
    refine q_cast (ci := 5) (T := TX3) (N := 4) hx hb hown (hts (.classLink RX5 198 "AlmanacHouse$Sheet") (List.mem_of_getElem? (i := 4) rfl)) hK (hPic.so (j := (j).toNat) (by omega)) rfl dX5_sheet_26 ?_
    refine lv_astore_n (lv' := [(3, .ref (g (20 + (j).toNat))), (0, .ref (g 0)), (1, .int (iI (j))), (2, .int (iI (w)))]) hx hb dX5_sheet_29 rfl hl (by decide) rfl (fun ls hl => ?_)
    refine lv_iload_n hx hb dX5_sheet_30 rfl (lv_at hl 3 rfl) ?_
    by_cases c_2 : w = 0
    · refine q_tableIn (tgt := 64) hx hb dX5_sheet_31 (by omega) (by omega) 0 (by omega) rfl (by decide) ?_
      refine lv_aload_n hx hb dX5_sheet_64 rfl (lv_at hl 0 rfl) ?_
      refine q_get (ci := 5) (C := RX3) (T := TX3) (N := 4) hx hb hts hin_X3 hown hK (v := .int (iI (P (11 * (j).toNat)))) (hPic.so (j := (j).toNat) (by omega)) rfl 0 (by decide) (hts (.fieldLink RX5 216 "AlmanacHouse$Sheet" "year" "I") (List.mem_of_getElem? (i := 5) rfl)) (fun _ h9 => h9) rfl dX5_sheet_65 ?_
      exact q_iret hx hb hr hlocks (by unfold m_told; rw [if_pos (by omega)]) dX5_sheet_68
    by_cases c_3 : w = 1
    · refine q_tableIn (tgt := 69) hx hb dX5_sheet_31 (by omega) (by omega) 1 (by omega) rfl (by decide) ?_
      refine lv_aload_n hx hb dX5_sheet_69 rfl (lv_at hl 0 rfl) ?_
      refine q_get (ci := 5) (C := RX3) (T := TX3) (N := 4) hx hb hts hin_X3 hown hK (v := .int (iI (P (11 * (j).toNat + 1)))) (hPic.so (j := (j).toNat) (by omega)) rfl 2 (by decide) (hts (.fieldLink RX5 219 "AlmanacHouse$Sheet" "held" "I") (List.mem_of_getElem? (i := 6) rfl)) (fun _ h9 => h9) rfl dX5_sheet_70 ?_
      exact q_iret hx hb hr hlocks (by unfold m_told; rw [if_neg (by omega), if_pos (by omega)]) dX5_sheet_73
    by_cases c_4 : w = 2
    · refine q_tableIn (tgt := 74) hx hb dX5_sheet_31 (by omega) (by omega) 2 (by omega) rfl (by decide) ?_
      refine lv_aload_n hx hb dX5_sheet_74 rfl (lv_at hl 0 rfl) ?_
      refine q_get (ci := 5) (C := RX3) (T := TX3) (N := 4) hx hb hts hin_X3 hown hK (v := .int (iI (P (11 * (j).toNat + 2)))) (hPic.so (j := (j).toNat) (by omega)) rfl 3 (by decide) (hts (.fieldLink RX5 222 "AlmanacHouse$Sheet" "eclipses" "I") (List.mem_of_getElem? (i := 7) rfl)) (fun _ h9 => h9) rfl dX5_sheet_75 ?_
      exact q_iret hx hb hr hlocks (by unfold m_told; rw [if_neg (by omega), if_neg (by omega), if_pos (by omega)]) dX5_sheet_78
    by_cases c_5 : w = 3
    · refine q_tableIn (tgt := 79) hx hb dX5_sheet_31 (by omega) (by omega) 3 (by omega) rfl (by decide) ?_
      refine lv_aload_n hx hb dX5_sheet_79 rfl (lv_at hl 1 rfl) ?_
      refine lv_aload_n hx hb dX5_sheet_80 rfl (lv_at hl 0 rfl) ?_
      refine q_callV (fr := 4) (lo := 87) (nL := 4) (Pic := fun H => PicB D cO g σ T H ∧ ob D (g (20 + (j).toNat)) 5 [.int (iI (P (11 * (j).toNat))), .ref (g (40 + (j).toNat)), .int (iI (P (11 * (j).toNat + 1))), .int (iI (P (11 * (j).toNat + 2)))] H ∧ ar D (g (40 + (j).toNat)) (cI, 8, .inl (fun i => iI ((fun i => P (11 * (j).toNat + 3 + i)) i))) H) (As := [.ref (g (20 + (j).toNat))]) (rest := []) ⟨hx, hb, hml, hown, hts⟩ (c_isWrong l D cI cO cL g σ T hW (g (20 + (j).toNat)) (g (40 + (j).toNat)) (P (11 * (j).toNat)) (P (11 * (j).toNat + 1)) (P (11 * (j).toNat + 2)) (fun i => P (11 * (j).toNat + 3 + i)) (s1) (s2) (s3) (s4)) (cwV 1 hts gX5_sheet_X5_isWrong rfl rfl rfl (by decide +kernel) ⟨Nat.le_of_ble_eq_true rfl, Nat.le_of_ble_eq_true rfl⟩) (ob_recv hPic.base.at0 hK rfl) ⟨hPic.base, (hPic.so (j := (j).toNat) (by omega)), (hPic.sd (j := (j).toNat) (by omega))⟩ hK rfl hl.1 rfl (Nat.le_of_ble_eq_true rfl) dX5_sheet_81 (Nat.zero_le _) (Nat.zero_le _) ?_
      have hwr81 := m_wr_01 σ T (P (11 * (j).toNat)) (P (11 * (j).toNat + 1)) (P (11 * (j).toNat + 2)) (fun i => P (11 * (j).toNat + 3 + i))
      refine q_if_eq (tgt := 91) hx hb dX5_sheet_84 (by decide) (by omega) (fun c_6 => ?_) (fun c_6 => ?_)
      · skip
        refine q_iconst hx hb dX5_sheet_91 ?_
        exact q_iret hx hb hr hlocks (by unfold m_told; rw [if_neg (by omega), if_neg (by omega), if_neg (by omega), if_pos (by omega)]; omega) dX5_sheet_92
      · skip
        refine q_iconst hx hb dX5_sheet_87 ?_
        refine lv_goto (tgt := 92) hx hb dX5_sheet_88 (by decide) ?_
        exact q_iret hx hb hr hlocks (by unfold m_told; rw [if_neg (by omega), if_neg (by omega), if_neg (by omega), if_pos (by omega)]; omega) dX5_sheet_92
    by_cases c_7 : w = 4
    · refine q_tableIn (tgt := 93) hx hb dX5_sheet_31 (by omega) (by omega) 4 (by omega) rfl (by decide) ?_
      refine lv_aload_n hx hb dX5_sheet_93 rfl (lv_at hl 1 rfl) ?_
      refine lv_aload_n hx hb dX5_sheet_94 rfl (lv_at hl 0 rfl) ?_
      refine q_callV (fr := 3) (lo := 64) (nL := 4) (Pic := fun H => PicB D cO g σ T H ∧ ob D (g (20 + (j).toNat)) 5 [.int (iI (P (11 * (j).toNat))), .ref (g (40 + (j).toNat)), .int (iI (P (11 * (j).toNat + 1))), .int (iI (P (11 * (j).toNat + 2)))] H ∧ ar D (g (40 + (j).toNat)) (cI, 8, .inl (fun i => iI ((fun i => P (11 * (j).toNat + 3 + i)) i))) H) (As := [.ref (g (20 + (j).toNat))]) (rest := []) ⟨hx, hb, hml, hown, hts⟩ (c_greatestShift l D cI cO cL g σ T hW (g (20 + (j).toNat)) (g (40 + (j).toNat)) (P (11 * (j).toNat)) (P (11 * (j).toNat + 1)) (P (11 * (j).toNat + 2)) (fun i => P (11 * (j).toNat + 3 + i)) (s1) (s2) (s3) (s4)) (cwV 1 hts gX5_sheet_X5_greatestShift rfl rfl rfl (by decide +kernel) ⟨Nat.le_of_ble_eq_true rfl, Nat.le_of_ble_eq_true rfl⟩) (ob_recv hPic.base.at0 hK rfl) ⟨hPic.base, (hPic.so (j := (j).toNat) (by omega)), (hPic.sd (j := (j).toNat) (by omega))⟩ hK rfl hl.1 rfl (Nat.le_of_ble_eq_true rfl) dX5_sheet_95 (Nat.zero_le _) (Nat.zero_le _) ?_
      exact q_iret hx hb hr hlocks (by unfold m_told; rw [if_neg (by omega), if_neg (by omega), if_neg (by omega), if_neg (by omega)]) dX5_sheet_98
    refine q_tableOut (tgt := 99) hx hb dX5_sheet_31 (by omega) (by omega) (by decide) ?_
    exfalso
    omega
  · skip
    exfalso
    omega
set_option maxHeartbeats 4000000 in
set_option maxRecDepth 100000 in
theorem p_printed (l : Launch) (D : va_G) (cI cO cL : ClassId) (g : Nat → Nat) (σ T P : Nat → Int) (hW : WF σ T) (hS : WS σ P) (j f : Int) (hj : 0 ≤ j ∧ j < σ 7) (hf : 0 ≤ f ∧ f < P (11 * j.toNat + 1)) : MI l yX5_printed wsX5_printed 3 64 D (ty3 cI cO cL) (PicC D cI cO g σ T P) [.ref (g 0), .int (iI (j)), .int (iI (f))] (P (11 * j.toNat + 3 + f.toNat)) := by
  refine MI_of (cc := cX5_printed) (maxL := 4) (ret := (some .int)) (by decide) rfl (Nat.le_of_ble_eq_true rfl) ?_
  intro p e s m args below meth c ls hx hb hr hlocks hml hown hts hPic hK hl
  have hl : lv_has ls 4 [(0, .ref (g 0)), (1, .int (iI (j))), (2, .int (iI (f)))] := hl
  have hin_X5 : ∀ w ∈ u_ws RX5 TX5 7, w ∈ wsX5_printed := (fun w h => List.mem_cons_of_mem _ (List.mem_append_left _ (List.mem_append_left _ (List.mem_append_left _ (List.mem_append_right _ h)))))
  have hin_X3 : ∀ w ∈ u_ws RX3 TX3 4, w ∈ wsX5_printed := (fun w h => List.mem_cons_of_mem _ (List.mem_append_left _ (List.mem_append_left _ (List.mem_append_right _ h))))
  obtain ⟨w0, w1, w2, w3, w4, w5, w6, w7, w8⟩ := id hW
  refine lv_aload_n hx hb dX5_printed_0 rfl (lv_at hl 0 rfl) ?_
  refine lv_iload_n hx hb dX5_printed_1 rfl (lv_at hl 1 rfl) ?_
  refine q_callV (fr := 1) (lo := 20) (nL := 4) (Pic := PicB D cO g σ T) (As := [.int (iI (j))]) (rest := []) ⟨hx, hb, hml, hown, hts⟩ (c_isSheet l D cI cO cL g σ T hW (j) (by omega)) (cwV 1 hts gX5_printed_X5_isSheet rfl rfl rfl (by decide +kernel) ⟨Nat.le_of_ble_eq_true rfl, Nat.le_of_ble_eq_true rfl⟩) (ob_recv hPic.base.at0 hK rfl) hPic.base hK rfl hl.1 rfl (Nat.le_of_ble_eq_true rfl) dX5_printed_2 (Nat.zero_le _) (Nat.zero_le _) ?_
  refine q_pif_ne (tgt := 18) hx hb dX5_printed_5 (by decide) (fun c_1 => ?_) (fun c_1 => ?_)
  · skip
    obtain ⟨s1, s2, s3, s4⟩ := hS j.toNat (by omega)
    refine lv_aload_n hx hb dX5_printed_18 rfl (lv_at hl 0 rfl) ?_
    refine q_get (ci := 7) (C := RX5) (T := TX5) (N := 7) hx hb hts hin_X5 hown hK (v := .ref (g 5)) hPic.base.at0 rfl 4 (by decide) (hts (.fieldLink RX5 37 "AlmanacHouse" "sheets" "Ljava/util/ArrayList;") (List.mem_of_getElem? (i := 3) rfl)) (fun _ h9 => h9) rfl dX5_printed_19 ?_
    refine lv_iload_n hx hb dX5_printed_22 rfl (lv_at hl 1 rfl) ?_
    refine q_callVq (fr := 2) (lo := 43) (nL := 4) (Pic := fun H => ob D (g 5) 1 [.int (iI (σ 7)), .ref (g 7), .int (iI (σ 7))] H ∧ ar D (g 7) (cO, 10, .inr (.inr (.inr (.inr (fun j => if j < (σ 7).toNat then some (g (20 + j)) else none))))) H) (As := [.int (iI (j))]) (rest := []) ⟨hx, hb, hml, hown, hts⟩ (c_get l D cI cO cL (g 5) (g 7) (g (20 + (j).toNat)) (σ 7) (σ 7) (j) (fun j => if j < (σ 7).toNat then some (g (20 + j)) else none) (by omega) (by omega) (if_pos (by omega))) (cwV 1 hts gX5_printed_Jx4a65c_get_915e3 rfl rfl rfl (by decide +kernel) ⟨Nat.le_of_ble_eq_true rfl, Nat.le_of_ble_eq_true rfl⟩) (ob_recv hPic.base.at5 hK rfl) ⟨hPic.base.at5, hPic.arr (by omega)⟩ hK rfl hl.1 rfl (Nat.le_of_ble_eq_true rfl) dX5_printed_23 (Nat.zero_le _) (Nat.zero_le _) ?_
    refine q_cast (ci := 5) (T := TX3) (N := 4) hx hb hown (hts (.classLink RX5 198 "AlmanacHouse$Sheet") (List.mem_of_getElem? (i := 4) rfl)) hK (hPic.so (j := (j).toNat) (by omega)) rfl dX5_printed_26 ?_
    refine lv_astore_n (lv' := [(3, .ref (g (20 + (j).toNat))), (0, .ref (g 0)), (1, .int (iI (j))), (2, .int (iI (f)))]) hx hb dX5_printed_29 rfl hl (by decide) rfl (fun ls hl => ?_)
    refine lv_iload_n hx hb dX5_printed_30 rfl (lv_at hl 3 rfl) ?_
    refine q_if_lt (tgt := 42) hx hb dX5_printed_31 (by decide) (by omega) (fun c_2 => ?_) (fun c_2 => ?_)
    · skip
      exfalso
      omega
    · skip
      refine lv_iload_n hx hb dX5_printed_34 rfl (lv_at hl 3 rfl) ?_
      refine lv_aload_n hx hb dX5_printed_35 rfl (lv_at hl 0 rfl) ?_
      refine q_get (ci := 5) (C := RX3) (T := TX3) (N := 4) hx hb hts hin_X3 hown hK (v := .int (iI (P (11 * (j).toNat + 1)))) (hPic.so (j := (j).toNat) (by omega)) rfl 2 (by decide) (hts (.fieldLink RX5 219 "AlmanacHouse$Sheet" "held" "I") (List.mem_of_getElem? (i := 5) rfl)) (fun _ h9 => h9) rfl dX5_printed_36 ?_
      refine q_icmp_lt (tgt := 52) hx hb dX5_printed_39 (by decide) (by omega) (by omega) (fun c_3 => ?_) (fun c_3 => ?_)
      · skip
        refine lv_aload_n hx hb dX5_printed_52 rfl (lv_at hl 0 rfl) ?_
        refine lv_iload_n hx hb dX5_printed_53 rfl (lv_at hl 3 rfl) ?_
        refine q_callV (fr := 0) (lo := 0) (nL := 4) (Pic := fun H => ob D (g (20 + (j).toNat)) 5 [.int (iI (P (11 * (j).toNat))), .ref (g (40 + (j).toNat)), .int (iI (P (11 * (j).toNat + 1))), .int (iI (P (11 * (j).toNat + 2)))] H ∧ ar D (g (40 + (j).toNat)) (cI, 8, .inl (fun i => iI ((fun i => P (11 * (j).toNat + 3 + i)) i))) H) (As := [.int (iI (f))]) (rest := []) ⟨hx, hb, hml, hown, hts⟩ (c_dayAt l D cI cO cL (g (20 + (j).toNat)) (g (40 + (j).toNat)) (P (11 * (j).toNat)) (P (11 * (j).toNat + 1)) (P (11 * (j).toNat + 2)) (fun i => P (11 * (j).toNat + 3 + i)) (f) (by omega)) (cwV 1 hts gX5_printed_X3_dayAt rfl rfl rfl (by decide +kernel) ⟨Nat.le_of_ble_eq_true rfl, Nat.le_of_ble_eq_true rfl⟩) (ob_recv (hPic.so (j := (j).toNat) (by omega)) hK rfl) ⟨(hPic.so (j := (j).toNat) (by omega)), (hPic.sd (j := (j).toNat) (by omega))⟩ hK rfl hl.1 rfl (Nat.le_of_ble_eq_true rfl) dX5_printed_54 (Nat.zero_le _) (Nat.zero_le _) ?_
        exact q_iret hx hb hr hlocks (rfl) dX5_printed_57
      · skip
        exfalso
        omega
  · skip
    exfalso
    omega
set_option maxHeartbeats 4000000 in
set_option maxRecDepth 100000 in
theorem p_count (l : Launch) (D : va_G) (cI cO cL : ClassId) (g : Nat → Nat) (σ T P : Nat → Int) (hW : WF σ T) (hS : WS σ P) (w : Int) (hw : 0 ≤ w ∧ w ≤ 10) : MI l yX5_count wsX5_count 6 131 D (ty3 cI cO cL) (PicC D cI cO g σ T P) [.ref (g 0), .int (iI (w))] (m_count σ T P w) := by
  refine MI_of (cc := cX5_count) (maxL := 2) (ret := (some .int)) (by decide) rfl (Nat.le_of_ble_eq_true rfl) ?_
  intro p e s m args below meth c ls hx hb hr hlocks hml hown hts hPic hK hl
  have hl : lv_has ls 2 [(0, .ref (g 0)), (1, .int (iI (w)))] := hl
  have hin_X5 : ∀ w ∈ u_ws RX5 TX5 7, w ∈ wsX5_count := (fun w h => List.mem_cons_of_mem _ (List.mem_append_left _ (List.mem_append_left _ (List.mem_append_left _ (List.mem_append_left _ (List.mem_append_left _ (List.mem_append_left _ (List.mem_append_left _ (List.mem_append_right _ h)))))))))
  have hin_X4 : ∀ w ∈ u_ws RX4 TX4 2, w ∈ wsX5_count := (fun w h => List.mem_cons_of_mem _ (List.mem_append_left _ (List.mem_append_left _ (List.mem_append_left _ (List.mem_append_left _ (List.mem_append_left _ (List.mem_append_left _ (List.mem_append_right _ h))))))))
  have hin_X1 : ∀ w ∈ u_ws RX1 TX1 2, w ∈ wsX5_count := (fun w h => List.mem_cons_of_mem _ (List.mem_append_left _ (List.mem_append_left _ (List.mem_append_left _ (List.mem_append_left _ (List.mem_append_left _ (List.mem_append_right _ h)))))))
  have hin_X2 : ∀ w ∈ u_ws RX2 TX2 2, w ∈ wsX5_count := (fun w h => List.mem_cons_of_mem _ (List.mem_append_left _ (List.mem_append_left _ (List.mem_append_left _ (List.mem_append_left _ (List.mem_append_right _ h))))))
  obtain ⟨w0, w1, w2, w3, w4, w5, w6, w7, w8⟩ := id hW
  refine lv_iload_n hx hb dX5_count_0 rfl (lv_at hl 1 rfl) ?_
  by_cases c_1 : w = 0
  · refine q_tableIn (tgt := 60) hx hb dX5_count_1 (by omega) (by omega) 0 (by omega) rfl (by decide) ?_
    refine lv_aload_n hx hb dX5_count_60 rfl (lv_at hl 0 rfl) ?_
    refine q_get (ci := 7) (C := RX5) (T := TX5) (N := 7) hx hb hts hin_X5 hown hK (v := .ref (g 1)) hPic.base.at0 rfl 0 (by decide) (hts (.fieldLink RX5 10 "AlmanacHouse" "years" "LAlmanacHouse$Years;") (List.mem_of_getElem? (i := 3) rfl)) (fun _ h9 => h9) rfl dX5_count_61 ?_
    refine q_get (ci := 6) (C := RX4) (T := TX4) (N := 2) hx hb hts hin_X4 hown hK (v := .int (iI (σ 0))) hPic.base.at1 rfl 0 (by decide) (hts (.fieldLink RX5 47 "AlmanacHouse$Years" "cycle" "I") (List.mem_of_getElem? (i := 4) rfl)) (fun _ h9 => h9) rfl dX5_count_64 ?_
    exact q_iret hx hb hr hlocks (by unfold m_count; rw [if_neg (by omega), show w = 0 by omega]; rfl) dX5_count_67
  by_cases c_2 : w = 1
  · refine q_tableIn (tgt := 68) hx hb dX5_count_1 (by omega) (by omega) 1 (by omega) rfl (by decide) ?_
    refine lv_aload_n hx hb dX5_count_68 rfl (lv_at hl 0 rfl) ?_
    refine q_get (ci := 7) (C := RX5) (T := TX5) (N := 7) hx hb hts hin_X5 hown hK (v := .ref (g 1)) hPic.base.at0 rfl 0 (by decide) (hts (.fieldLink RX5 10 "AlmanacHouse" "years" "LAlmanacHouse$Years;") (List.mem_of_getElem? (i := 3) rfl)) (fun _ h9 => h9) rfl dX5_count_69 ?_
    refine q_get (ci := 6) (C := RX4) (T := TX4) (N := 2) hx hb hts hin_X4 hown hK (v := .int (iI (σ 1))) hPic.base.at1 rfl 1 (by decide) (hts (.fieldLink RX5 51 "AlmanacHouse$Years" "leaps" "I") (List.mem_of_getElem? (i := 5) rfl)) (fun _ h9 => h9) rfl dX5_count_72 ?_
    exact q_iret hx hb hr hlocks (by unfold m_count; rw [if_neg (by omega), show w = 1 by omega]; rfl) dX5_count_75
  by_cases c_3 : w = 2
  · refine q_tableIn (tgt := 76) hx hb dX5_count_1 (by omega) (by omega) 2 (by omega) rfl (by decide) ?_
    refine lv_aload_n hx hb dX5_count_76 rfl (lv_at hl 0 rfl) ?_
    refine q_get (ci := 7) (C := RX5) (T := TX5) (N := 7) hx hb hts hin_X5 hown hK (v := .ref (g 2)) hPic.base.at0 rfl 1 (by decide) (hts (.fieldLink RX5 19 "AlmanacHouse" "moons" "LAlmanacHouse$Moons;") (List.mem_of_getElem? (i := 6) rfl)) (fun _ h9 => h9) rfl dX5_count_77 ?_
    refine q_get (ci := 3) (C := RX1) (T := TX1) (N := 2) hx hb hts hin_X1 hown hK (v := .int (iI (σ 2))) hPic.base.at2 rfl 0 (by decide) (hts (.fieldLink RX5 58 "AlmanacHouse$Moons" "length" "I") (List.mem_of_getElem? (i := 7) rfl)) (fun _ h9 => h9) rfl dX5_count_80 ?_
    exact q_iret hx hb hr hlocks (by unfold m_count; rw [if_neg (by omega), show w = 2 by omega]; rfl) dX5_count_83
  by_cases c_4 : w = 3
  · refine q_tableIn (tgt := 84) hx hb dX5_count_1 (by omega) (by omega) 3 (by omega) rfl (by decide) ?_
    refine lv_aload_n hx hb dX5_count_84 rfl (lv_at hl 0 rfl) ?_
    refine q_get (ci := 7) (C := RX5) (T := TX5) (N := 7) hx hb hts hin_X5 hown hK (v := .ref (g 2)) hPic.base.at0 rfl 1 (by decide) (hts (.fieldLink RX5 19 "AlmanacHouse" "moons" "LAlmanacHouse$Moons;") (List.mem_of_getElem? (i := 6) rfl)) (fun _ h9 => h9) rfl dX5_count_85 ?_
    refine q_get (ci := 3) (C := RX1) (T := TX1) (N := 2) hx hb hts hin_X1 hown hK (v := .int (iI (σ 3))) hPic.base.at2 rfl 1 (by decide) (hts (.fieldLink RX5 61 "AlmanacHouse$Moons" "first" "I") (List.mem_of_getElem? (i := 8) rfl)) (fun _ h9 => h9) rfl dX5_count_88 ?_
    exact q_iret hx hb hr hlocks (by unfold m_count; rw [if_neg (by omega), show w = 3 by omega]; rfl) dX5_count_91
  by_cases c_5 : w = 4
  · refine q_tableIn (tgt := 92) hx hb dX5_count_1 (by omega) (by omega) 4 (by omega) rfl (by decide) ?_
    refine lv_aload_n hx hb dX5_count_92 rfl (lv_at hl 0 rfl) ?_
    refine q_get (ci := 7) (C := RX5) (T := TX5) (N := 7) hx hb hts hin_X5 hown hK (v := .ref (g 3)) hPic.base.at0 rfl 2 (by decide) (hts (.fieldLink RX5 26 "AlmanacHouse" "nodes" "LAlmanacHouse$Nodes;") (List.mem_of_getElem? (i := 9) rfl)) (fun _ h9 => h9) rfl dX5_count_93 ?_
    refine q_get (ci := 4) (C := RX2) (T := TX2) (N := 2) hx hb hts hin_X2 hown hK (v := .int (iI (σ 4))) hPic.base.at3 rfl 0 (by decide) (hts (.fieldLink RX5 69 "AlmanacHouse$Nodes" "period" "I") (List.mem_of_getElem? (i := 10) rfl)) (fun _ h9 => h9) rfl dX5_count_96 ?_
    exact q_iret hx hb hr hlocks (by unfold m_count; rw [if_neg (by omega), show w = 4 by omega]; rfl) dX5_count_99
  by_cases c_6 : w = 5
  · refine q_tableIn (tgt := 100) hx hb dX5_count_1 (by omega) (by omega) 5 (by omega) rfl (by decide) ?_
    refine lv_aload_n hx hb dX5_count_100 rfl (lv_at hl 0 rfl) ?_
    refine q_get (ci := 7) (C := RX5) (T := TX5) (N := 7) hx hb hts hin_X5 hown hK (v := .ref (g 3)) hPic.base.at0 rfl 2 (by decide) (hts (.fieldLink RX5 26 "AlmanacHouse" "nodes" "LAlmanacHouse$Nodes;") (List.mem_of_getElem? (i := 9) rfl)) (fun _ h9 => h9) rfl dX5_count_101 ?_
    refine q_get (ci := 4) (C := RX2) (T := TX2) (N := 2) hx hb hts hin_X2 hown hK (v := .int (iI (σ 5))) hPic.base.at3 rfl 1 (by decide) (hts (.fieldLink RX5 72 "AlmanacHouse$Nodes" "node" "I") (List.mem_of_getElem? (i := 11) rfl)) (fun _ h9 => h9) rfl dX5_count_104 ?_
    exact q_iret hx hb hr hlocks (by unfold m_count; rw [if_neg (by omega), show w = 5 by omega]; rfl) dX5_count_107
  by_cases c_7 : w = 6
  · refine q_tableIn (tgt := 108) hx hb dX5_count_1 (by omega) (by omega) 6 (by omega) rfl (by decide) ?_
    refine lv_aload_n hx hb dX5_count_108 rfl (lv_at hl 0 rfl) ?_
    refine q_get (ci := 7) (C := RX5) (T := TX5) (N := 7) hx hb hts hin_X5 hown hK (v := .ref (g 4)) hPic.base.at0 rfl 3 (by decide) (hts (.fieldLink RX5 33 "AlmanacHouse" "feasts" "Ljava/util/ArrayList;") (List.mem_of_getElem? (i := 12) rfl)) (fun _ h9 => h9) rfl dX5_count_109 ?_
    refine q_callV (fr := 0) (lo := 0) (nL := 2) (Pic := ob D (g 4) 1 [.int (iI (σ 6)), .ref (g 6), .int (iI (σ 6))]) (As := []) (rest := []) ⟨hx, hb, hml, hown, hts⟩ (c_size l D (ty3 cI cO cL) (g 4) (g 6) (σ 6) (σ 6)) (cwV 0 hts gX5_count_Jx4a65c_size_8abf5 rfl rfl rfl (by decide +kernel) ⟨Nat.le_of_ble_eq_true rfl, Nat.le_of_ble_eq_true rfl⟩) (ob_recv hPic.base.at4 hK rfl) hPic.base.at4 hK rfl hl.1 rfl (Nat.le_of_ble_eq_true rfl) dX5_count_112 (Nat.zero_le _) (Nat.zero_le _) ?_
    exact q_iret hx hb hr hlocks (by unfold m_count; rw [if_neg (by omega), show w = 6 by omega]; rfl) dX5_count_115
  by_cases c_8 : w = 7
  · refine q_tableIn (tgt := 116) hx hb dX5_count_1 (by omega) (by omega) 7 (by omega) rfl (by decide) ?_
    refine lv_aload_n hx hb dX5_count_116 rfl (lv_at hl 0 rfl) ?_
    refine q_get (ci := 7) (C := RX5) (T := TX5) (N := 7) hx hb hts hin_X5 hown hK (v := .ref (g 5)) hPic.base.at0 rfl 4 (by decide) (hts (.fieldLink RX5 37 "AlmanacHouse" "sheets" "Ljava/util/ArrayList;") (List.mem_of_getElem? (i := 13) rfl)) (fun _ h9 => h9) rfl dX5_count_117 ?_
    refine q_callV (fr := 0) (lo := 0) (nL := 2) (Pic := ob D (g 5) 1 [.int (iI (σ 7)), .ref (g 7), .int (iI (σ 7))]) (As := []) (rest := []) ⟨hx, hb, hml, hown, hts⟩ (c_size l D (ty3 cI cO cL) (g 5) (g 7) (σ 7) (σ 7)) (cwV 0 hts gX5_count_Jx4a65c_size_8abf5 rfl rfl rfl (by decide +kernel) ⟨Nat.le_of_ble_eq_true rfl, Nat.le_of_ble_eq_true rfl⟩) (ob_recv hPic.base.at5 hK rfl) hPic.base.at5 hK rfl hl.1 rfl (Nat.le_of_ble_eq_true rfl) dX5_count_120 (Nat.zero_le _) (Nat.zero_le _) ?_
    exact q_iret hx hb hr hlocks (by unfold m_count; rw [if_neg (by omega), show w = 7 by omega]; rfl) dX5_count_123
  by_cases c_9 : w = 8
  · refine q_tableIn (tgt := 124) hx hb dX5_count_1 (by omega) (by omega) 8 (by omega) rfl (by decide) ?_
    refine lv_aload_n hx hb dX5_count_124 rfl (lv_at hl 0 rfl) ?_
    refine q_callV (fr := 5) (lo := 109) (nL := 2) (Pic := PicC D cI cO g σ T P) (As := []) (rest := []) ⟨hx, hb, hml, hown, hts⟩ (c_wrongSheets l D cI cO cL g σ T P hW hS  ) (cwV 0 hts gX5_count_X5_wrongSheets rfl rfl rfl (by decide +kernel) ⟨Nat.le_of_ble_eq_true rfl, Nat.le_of_ble_eq_true rfl⟩) (ob_recv hPic.base.at0 hK rfl) hPic hK rfl hl.1 rfl (Nat.le_of_ble_eq_true rfl) dX5_count_125 (Nat.zero_le _) (Nat.zero_le _) ?_
    have hwc125 := m_wc_in σ T P (σ 7).toNat
    exact q_iret hx hb hr hlocks (by unfold m_count; rw [if_pos (by omega)]) dX5_count_128
  by_cases c_10 : w = 9
  · refine q_tableIn (tgt := 129) hx hb dX5_count_1 (by omega) (by omega) 9 (by omega) rfl (by decide) ?_
    refine lv_aload_n hx hb dX5_count_129 rfl (lv_at hl 0 rfl) ?_
    refine q_get (ci := 7) (C := RX5) (T := TX5) (N := 7) hx hb hts hin_X5 hown hK (v := .int (iI (σ 9))) hPic.base.at0 rfl 5 (by decide) (hts (.fieldLink RX5 150 "AlmanacHouse" "observations" "I") (List.mem_of_getElem? (i := 14) rfl)) (fun _ h9 => h9) rfl dX5_count_130 ?_
    exact q_iret hx hb hr hlocks (by unfold m_count; rw [if_neg (by omega), show w = 9 by omega]; rfl) dX5_count_133
  by_cases c_11 : w = 10
  · refine q_tableIn (tgt := 134) hx hb dX5_count_1 (by omega) (by omega) 10 (by omega) rfl (by decide) ?_
    refine lv_aload_n hx hb dX5_count_134 rfl (lv_at hl 0 rfl) ?_
    refine q_get (ci := 7) (C := RX5) (T := TX5) (N := 7) hx hb hts hin_X5 hown hK (v := .int (iI (σ 10))) hPic.base.at0 rfl 6 (by decide) (hts (.fieldLink RX5 157 "AlmanacHouse" "corrections" "I") (List.mem_of_getElem? (i := 15) rfl)) (fun _ h9 => h9) rfl dX5_count_135 ?_
    exact q_iret hx hb hr hlocks (by unfold m_count; rw [if_neg (by omega), show w = 10 by omega]; rfl) dX5_count_138
  refine q_tableOut (tgt := 139) hx hb dX5_count_1 (by omega) (by omega) (by decide) ?_
  exfalso
  omega
