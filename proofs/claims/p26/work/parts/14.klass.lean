/-! ===== AlmanacHouse: the methods that change nothing ===== -/
/-- one number of a line, its signs behind the sum a -/
def m_wn (a n : Int) : Int := if 100 ≤ n then ((a * 31 + (48 + n / 100)) * 31 + (48 + n / 10 % 10)) * 31 + (48 + n % 10) else if 10 ≤ n then (a * 31 + (48 + n / 10 % 10)) * 31 + (48 + n % 10) else a * 31 + (48 + n % 10)
def m_ds (σ : Nat → Int) (d : Int) : Int := if m_ff (σ 2) (σ 3) 0 (1000 * (d + 1)) = 0 then -1 else d - m_tm (σ 2) (σ 3) (m_ff (σ 2) (σ 3) 0 (1000 * (d + 1)) - 1) 0 / 1000
def m_N1 (σ : Nat → Int) (d b : Int) : Int := m_fe (σ 2) (σ 3) (σ 4) (σ 5) b (m_ff (σ 2) (σ 3) b (1000 * (d + 3000)) - m_ff (σ 2) (σ 3) b (1000 * d)).toNat (m_ff (σ 2) (σ 3) b (1000 * d))
theorem m_N1_in {σ T : Nat → Int} (hW : WF σ T) {d b : Int} (hd : 0 ≤ d ∧ d < 366001) : -1 ≤ m_N1 σ d b ∧ m_N1 σ d b ≤ 2100000 := by
  obtain ⟨-, -, w2, w3, -⟩ := hW
  have h1 := m_ff_in (ln := σ 2) (fi := σ 3) (b := b) (t := 1000 * d) w2
  have h2 := m_ff_up (ln := σ 2) (fi := σ 3) (b := b) (t := 1000 * d) w2 w3 (by omega)
  have h3 := m_ff_up (ln := σ 2) (fi := σ 3) (b := b) (t := 1000 * (d + 3000)) w2 w3 (by omega)
  exact m_fe_in w2 w3 _ _ h1 (by omega)
set_option maxHeartbeats 4000000 in
set_option maxRecDepth 100000 in
/-- ArrayList.size -/
theorem c_size (l : Launch) (D : va_G) (tys : List (ClassId × FieldType)) (h ed : Nat) (mc n : Int) : MI l yJx4a65c_size_8abf5 wsJx4a65c_size_8abf5 0 0 D tys (ob D h 1 [.int (iI (mc)), .ref (ed), .int (iI (n))]) [.ref h] (n) := by
  refine MI_of (cc := cJx4a65c_size_8abf5) (maxL := 1) (ret := (some .int)) (by decide) rfl (Nat.le_of_ble_eq_true rfl) ?_
  intro p e s m args below meth c ls hx hb hr hlocks hml hown hts hPic hK hl
  have hl : lv_has ls 1 [(0, .ref h)] := hl
  have hin_Jx4a65c : ∀ w ∈ u_ws RJx4a65c TJx4a65c 3, w ∈ wsJx4a65c_size_8abf5 := (fun w h => List.mem_cons_of_mem _ (List.mem_append_right _ h))
  refine lv_aload_n hx hb dJx4a65c_size_8abf5_0 rfl (lv_at hl 0 rfl) ?_
  refine q_get (ci := 1) (C := RJx4a65c) (T := TJx4a65c) (N := 3) hx hb hts hin_Jx4a65c hown hK (v := .int (iI (n))) hPic rfl 2 (by decide) (hts (.fieldLink RJx4a65c 48 "java/util/ArrayList" "size" "I") (List.mem_of_getElem? (i := 1) rfl)) (fun _ h9 => h9) rfl dJx4a65c_size_8abf5_1 ?_
  exact q_iret hx hb hr hlocks (rfl) dJx4a65c_size_8abf5_4
set_option maxHeartbeats 4000000 in
set_option maxRecDepth 100000 in
/-- Preconditions.checkIndex, in range -/
theorem c_checkIndex3 (l : Launch) (D : va_G) (tys : List (ClassId × FieldType)) (i n : Int) (hi : 0 ≤ i ∧ i < n) (hn : n < 2147483648) : MI l yJ3_checkIndex_8e157 wsJ3_checkIndex_8e157 0 0 D tys (fun _ => True) [.int (iI (i)), .int (iI (n)), .null] (i) := by
  refine MI_of (cc := cJ3_checkIndex_8e157) (maxL := 3) (ret := (some .int)) (by decide) rfl (Nat.le_of_ble_eq_true rfl) ?_
  intro p e s m args below meth c ls hx hb hr hlocks hml hown hts hPic hK hl
  have hl : lv_has ls 3 [(0, .int (iI (i))), (1, .int (iI (n))), (2, .null)] := hl
  refine lv_iload_n hx hb dJ3_checkIndex_8e157_0 rfl (lv_at hl 0 rfl) ?_
  refine q_if_lt (tgt := 9) hx hb dJ3_checkIndex_8e157_1 (by decide) (by omega) (fun c_1 => ?_) (fun c_1 => ?_)
  · exfalso
    omega
  · skip
    refine lv_iload_n hx hb dJ3_checkIndex_8e157_4 rfl (lv_at hl 0 rfl) ?_
    refine lv_iload_n hx hb dJ3_checkIndex_8e157_5 rfl (lv_at hl 1 rfl) ?_
    refine q_icmp_lt (tgt := 16) hx hb dJ3_checkIndex_8e157_6 (by decide) (by omega) (by omega) (fun c_2 => ?_) (fun c_2 => ?_)
    · skip
      refine lv_iload_n hx hb dJ3_checkIndex_8e157_16 rfl (lv_at hl 0 rfl) ?_
      exact q_iret hx hb hr hlocks (rfl) dJ3_checkIndex_8e157_17
    · exfalso
      omega
set_option maxHeartbeats 4000000 in
set_option maxRecDepth 100000 in
/-- Objects.checkIndex, in range -/
theorem c_checkIndex2 (l : Launch) (D : va_G) (tys : List (ClassId × FieldType)) (i n : Int) (hi : 0 ≤ i ∧ i < n) (hn : n < 2147483648) : MI l yJ15_checkIndex_7cf53 wsJ15_checkIndex_7cf53 1 22 D tys (fun _ => True) [.int (iI (i)), .int (iI (n))] (i) := by
  refine MI_of (cc := cJ15_checkIndex_7cf53) (maxL := 2) (ret := (some .int)) (by decide) rfl (Nat.le_of_ble_eq_true rfl) ?_
  intro p e s m args below meth c ls hx hb hr hlocks hml hown hts hPic hK hl
  have hl : lv_has ls 2 [(0, .int (iI (i))), (1, .int (iI (n)))] := hl
  refine lv_iload_n hx hb dJ15_checkIndex_7cf53_0 rfl (lv_at hl 0 rfl) ?_
  refine lv_iload_n hx hb dJ15_checkIndex_7cf53_1 rfl (lv_at hl 1 rfl) ?_
  refine lv_null hx hb dJ15_checkIndex_7cf53_2 ?_
  refine q_callS (fr := 0) (lo := 0) (nL := 2) (Pic := fun _ => True) (As := [.int (iI (i)), .int (iI (n)), .null]) (rest := []) ⟨hx, hb, hml, hown, hts⟩ (c_checkIndex3 l D tys (i) (n) (by omega) (by omega)) (va_cwS 3 hts gJ15_checkIndex_7cf53_J3_checkIndex_8e157 rfl rfl rfl (by decide +kernel) ⟨Nat.le_of_ble_eq_true rfl, Nat.le_of_ble_eq_true rfl⟩) trivial hK rfl hl.1 rfl (Nat.le_of_ble_eq_true rfl) dJ15_checkIndex_7cf53_3 (Nat.zero_le _) (Nat.zero_le _) ?_
  exact q_iret hx hb hr hlocks (rfl) dJ15_checkIndex_7cf53_6
set_option maxHeartbeats 4000000 in
set_option maxRecDepth 100000 in
/-- ArrayList.elementData -/
theorem c_elementData (l : Launch) (D : va_G) (cI cO cL : ClassId) (h ed v : Nat) (mc n i : Int) (f : Nat → Option Nat) (hi : 0 ≤ i ∧ i < n) (hn : n ≤ 10) (hv : f i.toNat = some v) : MR l yJx4a65c_elementData_915e3 wsJx4a65c_elementData_915e3 0 0 D (ty3 cI cO cL) (fun H => ob D h 1 [.int (iI mc), .ref ed, .int (iI n)] H ∧ ar D ed (cO, 10, .inr (.inr (.inr (.inr f)))) H) [.ref h, .int (iI (i))] (v) := by
  refine MR_of (cc := cJx4a65c_elementData_915e3) (maxL := 2) (ret := (some (.object "java/lang/Object"))) (by decide) rfl (Nat.le_of_ble_eq_true rfl) ?_
  intro p e s m args below meth c ls hx hb hr hlocks hml hown hts hPic hK hl
  have hl : lv_has ls 2 [(0, .ref h), (1, .int (iI (i)))] := hl
  have hin_Jx4a65c : ∀ w ∈ u_ws RJx4a65c TJx4a65c 3, w ∈ wsJx4a65c_elementData_915e3 := (fun w h => List.mem_cons_of_mem _ (List.mem_append_right _ h))
  refine lv_aload_n hx hb dJx4a65c_elementData_915e3_0 rfl (lv_at hl 0 rfl) ?_
  refine q_get (ci := 1) (C := RJx4a65c) (T := TJx4a65c) (N := 3) hx hb hts hin_Jx4a65c hown hK (v := .ref ed) hPic.1 rfl 1 (by decide) (hts (.fieldLink RJx4a65c 9 "java/util/ArrayList" "elementData" "[Ljava/lang/Object;") (List.mem_of_getElem? (i := 1) rfl)) (fun _ h9 => h9) rfl dJx4a65c_elementData_915e3_1 ?_
  refine lv_iload_n hx hb dJx4a65c_elementData_915e3_4 rfl (lv_at hl 1 rfl) ?_
  refine q_aldq (cA := cO) (C := "java/lang/Object") (n := 10) (f := f) (v := v) hx hb hK hPic.2 1 rfl (by omega) (by decide) (hv) dJx4a65c_elementData_915e3_5 ?_
  exact q_aret hx hb hr (Or.inl ⟨_, rfl⟩) hlocks dJx4a65c_elementData_915e3_6
set_option maxHeartbeats 4000000 in
set_option maxRecDepth 100000 in
/-- ArrayList.get -/
theorem c_get (l : Launch) (D : va_G) (cI cO cL : ClassId) (h ed v : Nat) (mc n i : Int) (f : Nat → Option Nat) (hi : 0 ≤ i ∧ i < n) (hn : n ≤ 10) (hv : f i.toNat = some v) : MR l yJx4a65c_get_915e3 wsJx4a65c_get_915e3 2 43 D (ty3 cI cO cL) (fun H => ob D h 1 [.int (iI mc), .ref ed, .int (iI n)] H ∧ ar D ed (cO, 10, .inr (.inr (.inr (.inr f)))) H) [.ref h, .int (iI (i))] (v) := by
  refine MR_of (cc := cJx4a65c_get_915e3) (maxL := 2) (ret := (some (.object "java/lang/Object"))) (by decide) rfl (Nat.le_of_ble_eq_true rfl) ?_
  intro p e s m args below meth c ls hx hb hr hlocks hml hown hts hPic hK hl
  have hl : lv_has ls 2 [(0, .ref h), (1, .int (iI (i)))] := hl
  have hin_Jx4a65c : ∀ w ∈ u_ws RJx4a65c TJx4a65c 3, w ∈ wsJx4a65c_get_915e3 := (fun w h => List.mem_cons_of_mem _ (List.mem_append_right _ h))
  refine lv_iload_n hx hb dJx4a65c_get_915e3_0 rfl (lv_at hl 1 rfl) ?_
  refine lv_aload_n hx hb dJx4a65c_get_915e3_1 rfl (lv_at hl 0 rfl) ?_
  refine q_get (ci := 1) (C := RJx4a65c) (T := TJx4a65c) (N := 3) hx hb hts hin_Jx4a65c hown hK (v := .int (iI (n))) hPic.1 rfl 2 (by decide) (hts (.fieldLink RJx4a65c 48 "java/util/ArrayList" "size" "I") (List.mem_of_getElem? (i := 1) rfl)) (fun _ h9 => h9) rfl dJx4a65c_get_915e3_2 ?_
  refine q_callS (fr := 1) (lo := 22) (nL := 2) (Pic := fun _ => True) (As := [.int (iI (i)), .int (iI (n))]) (rest := []) ⟨hx, hb, hml, hown, hts⟩ (c_checkIndex2 l D (ty3 cI cO cL) (i) (n) (by omega) (by omega)) (va_cwS 2 hts gJx4a65c_get_915e3_J15_checkIndex_7cf53 rfl rfl rfl (by decide +kernel) ⟨Nat.le_of_ble_eq_true rfl, Nat.le_of_ble_eq_true rfl⟩) trivial hK rfl hl.1 rfl (Nat.le_of_ble_eq_true rfl) dJx4a65c_get_915e3_5 (Nat.zero_le _) (Nat.zero_le _) ?_
  refine lv_pop hx hb dJx4a65c_get_915e3_8 rfl ?_
  refine lv_aload_n hx hb dJx4a65c_get_915e3_9 rfl (lv_at hl 0 rfl) ?_
  refine lv_iload_n hx hb dJx4a65c_get_915e3_10 rfl (lv_at hl 1 rfl) ?_
  refine q_callVq (fr := 0) (lo := 0) (nL := 2) (Pic := fun H => ob D h 1 [.int (iI mc), .ref ed, .int (iI n)] H ∧ ar D ed (cO, 10, .inr (.inr (.inr (.inr f)))) H) (As := [.int (iI (i))]) (rest := []) ⟨hx, hb, hml, hown, hts⟩ (c_elementData l D cI cO cL h ed v mc n i f hi hn hv) (cwV 1 hts gJx4a65c_get_915e3_Jx4a65c_elementData_915e3 rfl rfl rfl (by decide +kernel) ⟨Nat.le_of_ble_eq_true rfl, Nat.le_of_ble_eq_true rfl⟩) (ob_recv hPic.1 hK rfl) hPic hK rfl hl.1 rfl (Nat.le_of_ble_eq_true rfl) dJx4a65c_get_915e3_11 (Nat.zero_le _) (Nat.zero_le _) ?_
  exact q_aret hx hb hr (Or.inl ⟨_, rfl⟩) hlocks dJx4a65c_get_915e3_14
set_option maxHeartbeats 4000000 in
set_option maxRecDepth 100000 in
/-- isYear -/
theorem c_isYear (l : Launch) (D : va_G) (tys : List (ClassId × FieldType)) (y : Int) (hy : -2147483648 ≤ y ∧ y < 2147483648) : MI l yX5_isYear wsX5_isYear 0 0 D tys (fun _ => True) [.int (iI (y))] (if 0 ≤ y ∧ y < 1000 then 1 else 0) := by
  refine MI_of (cc := cX5_isYear) (maxL := 1) (ret := (some .boolean)) (by decide) rfl (Nat.le_of_ble_eq_true rfl) ?_
  intro p e s m args below meth c ls hx hb hr hlocks hml hown hts hPic hK hl
  have hl : lv_has ls 1 [(0, .int (iI (y)))] := hl
  refine lv_iload_n hx hb dX5_isYear_0 rfl (lv_at hl 0 rfl) ?_
  refine q_if_lt (tgt := 15) hx hb dX5_isYear_1 (by decide) (by omega) (fun c_1 => ?_) (fun c_1 => ?_)
  · skip
    refine q_iconst hx hb dX5_isYear_15 ?_
    exact q_zret hx hb hr hlocks (by omega) (by split <;> omega) dX5_isYear_16
  · skip
    refine lv_iload_n hx hb dX5_isYear_4 rfl (lv_at hl 0 rfl) ?_
    refine q_sipush hx hb dX5_isYear_5 (by decide) ?_
    refine q_icmp_ge (tgt := 15) hx hb dX5_isYear_8 (by decide) (by omega) (by omega) (fun c_2 => ?_) (fun c_2 => ?_)
    · skip
      refine q_iconst hx hb dX5_isYear_15 ?_
      exact q_zret hx hb hr hlocks (by omega) (by split <;> omega) dX5_isYear_16
    · skip
      refine q_iconst hx hb dX5_isYear_11 ?_
      refine lv_goto (tgt := 16) hx hb dX5_isYear_12 (by decide) ?_
      exact q_zret hx hb hr hlocks (by omega) (by split <;> omega) dX5_isYear_16
set_option maxHeartbeats 4000000 in
set_option maxRecDepth 100000 in
/-- inYear -/
theorem c_inYear (l : Launch) (D : va_G) (tys : List (ClassId × FieldType)) (mo da : Int) (hm : 0 ≤ mo ∧ mo ≤ 11) : MI l yX5_inYear wsX5_inYear 0 0 D tys (fun _ => True) [.int (iI (mo)), .int (iI (da))] (30 * mo + mo / 2 + da) := by
  refine MI_of (cc := cX5_inYear) (maxL := 2) (ret := (some .int)) (by decide) rfl (Nat.le_of_ble_eq_true rfl) ?_
  intro p e s m args below meth c ls hx hb hr hlocks hml hown hts hPic hK hl
  have hl : lv_has ls 2 [(0, .int (iI (mo))), (1, .int (iI (da)))] := hl
  refine q_bipush hx hb dX5_inYear_0 (by decide) ?_
  refine lv_iload_n hx hb dX5_inYear_2 rfl (lv_at hl 0 rfl) ?_
  refine q_imul hx hb dX5_inYear_3 ?_
  refine lv_iload_n hx hb dX5_inYear_4 rfl (lv_at hl 0 rfl) ?_
  refine q_iconst hx hb dX5_inYear_5 ?_
  refine q_idiv hx hb dX5_inYear_6 (by omega) (by omega) ?_
  refine q_iadd hx hb dX5_inYear_7 ?_
  refine lv_iload_n hx hb dX5_inYear_8 rfl (lv_at hl 1 rfl) ?_
  refine q_iadd hx hb dX5_inYear_9 ?_
  exact q_iret hx hb hr hlocks (by omega) dX5_inYear_10
set_option maxHeartbeats 4000000 in
set_option maxRecDepth 100000 in
/-- reach -/
theorem c_reach (l : Launch) (D : va_G) (tys : List (ClassId × FieldType)) (b : Int) (hb01 : b = 0 ∨ b = 1) : MI l yX5_reach wsX5_reach 0 0 D tys (fun _ => True) [.int (iI (b))] (m_rc b) := by
  refine MI_of (cc := cX5_reach) (maxL := 1) (ret := (some .int)) (by decide) rfl (Nat.le_of_ble_eq_true rfl) ?_
  intro p e s m args below meth c ls hx hb hr hlocks hml hown hts hPic hK hl
  have hl : lv_has ls 1 [(0, .int (iI (b)))] := hl
  refine lv_iload_n hx hb dX5_reach_0 rfl (lv_at hl 0 rfl) ?_
  refine q_if_eq (tgt := 10) hx hb dX5_reach_1 (by decide) (by omega) (fun c_1 => ?_) (fun c_1 => ?_)
  · skip
    refine q_sipush hx hb dX5_reach_10 (by decide) ?_
    exact q_iret hx hb hr hlocks (by unfold m_rc; split <;> omega) dX5_reach_13
  · skip
    refine q_sipush hx hb dX5_reach_4 (by decide) ?_
    refine lv_goto (tgt := 13) hx hb dX5_reach_7 (by decide) ?_
    exact q_iret hx hb hr hlocks (by unfold m_rc; split <;> omega) dX5_reach_13
set_option maxHeartbeats 4000000 in
set_option maxRecDepth 100000 in
/-- isDay -/
theorem c_isDay (l : Launch) (D : va_G) (cI cO cL : ClassId) (g : Nat → Nat) (σ T : Nat → Int) (hW : WF σ T) (d : Int) (hd : -2147483648 ≤ d ∧ d < 2147483648) : MI l yX5_isDay wsX5_isDay 1 21 D (ty3 cI cO cL) (PicB D cO g σ T) [.ref (g 0), .int (iI (d))] (if 0 ≤ d ∧ d < m_fd (σ 0) (σ 1) 1000 then 1 else 0) := by
  refine MI_of (cc := cX5_isDay) (maxL := 2) (ret := (some .boolean)) (by decide) rfl (Nat.le_of_ble_eq_true rfl) ?_
  intro p e s m args below meth c ls hx hb hr hlocks hml hown hts hPic hK hl
  have hl : lv_has ls 2 [(0, .ref (g 0)), (1, .int (iI (d)))] := hl
  have hin_X5 : ∀ w ∈ u_ws RX5 TX5 7, w ∈ wsX5_isDay := (fun w h => List.mem_cons_of_mem _ (List.mem_append_left _ (List.mem_append_right _ h)))
  obtain ⟨w0, w1, w2, w3, w4, w5, w6, w7, w8⟩ := id hW
  refine lv_iload_n hx hb dX5_isDay_0 rfl (lv_at hl 1 rfl) ?_
  refine q_if_lt (tgt := 22) hx hb dX5_isDay_1 (by decide) (by omega) (fun c_1 => ?_) (fun c_1 => ?_)
  · skip
    refine q_iconst hx hb dX5_isDay_22 ?_
    exact q_zret hx hb hr hlocks (by omega) (by split <;> omega) dX5_isDay_23
  · skip
    refine lv_iload_n hx hb dX5_isDay_4 rfl (lv_at hl 1 rfl) ?_
    refine lv_aload_n hx hb dX5_isDay_5 rfl (lv_at hl 0 rfl) ?_
    refine q_get (ci := 7) (C := RX5) (T := TX5) (N := 7) hx hb hts hin_X5 hown hK (v := .ref (g 1)) hPic.at0 rfl 0 (by decide) (hts (.fieldLink RX5 10 "AlmanacHouse" "years" "LAlmanacHouse$Years;") (List.mem_of_getElem? (i := 1) rfl)) (fun _ h9 => h9) rfl dX5_isDay_6 ?_
    refine q_sipush hx hb dX5_isDay_9 (by decide) ?_
    refine q_callV (fr := 0) (lo := 0) (nL := 2) (Pic := ob D (g 1) 6 [.int (iI (σ 0)), .int (iI (σ 1))]) (As := [.int (iI (1000))]) (rest := [.int (iI (d))]) ⟨hx, hb, hml, hown, hts⟩ (c_firstDay l D (ty3 cI cO cL) (g 1) (σ 0) (σ 1) (1000) w0 w1 (by omega)) (cwV 1 hts gX5_isDay_X4_firstDay rfl rfl rfl (by decide +kernel) ⟨Nat.le_of_ble_eq_true rfl, Nat.le_of_ble_eq_true rfl⟩) (ob_recv hPic.at1 hK rfl) hPic.at1 hK rfl hl.1 rfl (Nat.le_of_ble_eq_true rfl) dX5_isDay_12 (Nat.zero_le _) (Nat.zero_le _) ?_
    have hfd12 := m_fd_le (cy := (σ 0)) (lq := (σ 1)) (y := (1000)) w0.1 w1 (by omega)
    refine q_icmp_ge (tgt := 22) hx hb dX5_isDay_15 (by decide) (by omega) (by omega) (fun c_2 => ?_) (fun c_2 => ?_)
    · skip
      refine q_iconst hx hb dX5_isDay_22 ?_
      exact q_zret hx hb hr hlocks (by omega) (by split <;> omega) dX5_isDay_23
    · skip
      refine q_iconst hx hb dX5_isDay_18 ?_
      refine lv_goto (tgt := 23) hx hb dX5_isDay_19 (by decide) ?_
      exact q_zret hx hb hr hlocks (by omega) (by split <;> omega) dX5_isDay_23
set_option maxHeartbeats 4000000 in
set_option maxRecDepth 100000 in
/-- isSheet -/
theorem c_isSheet (l : Launch) (D : va_G) (cI cO cL : ClassId) (g : Nat → Nat) (σ T : Nat → Int) (hW : WF σ T) (j : Int) (hj : -2147483648 ≤ j ∧ j < 2147483648) : MI l yX5_isSheet wsX5_isSheet 1 20 D (ty3 cI cO cL) (PicB D cO g σ T) [.ref (g 0), .int (iI (j))] (if 0 ≤ j ∧ j < σ 7 then 1 else 0) := by
  refine MI_of (cc := cX5_isSheet) (maxL := 2) (ret := (some .boolean)) (by decide) rfl (Nat.le_of_ble_eq_true rfl) ?_
  intro p e s m args below meth c ls hx hb hr hlocks hml hown hts hPic hK hl
  have hl : lv_has ls 2 [(0, .ref (g 0)), (1, .int (iI (j)))] := hl
  have hin_X5 : ∀ w ∈ u_ws RX5 TX5 7, w ∈ wsX5_isSheet := (fun w h => List.mem_cons_of_mem _ (List.mem_append_left _ (List.mem_append_right _ h)))
  obtain ⟨w0, w1, w2, w3, w4, w5, w6, w7, w8⟩ := id hW
  refine lv_iload_n hx hb dX5_isSheet_0 rfl (lv_at hl 1 rfl) ?_
  refine q_if_lt (tgt := 19) hx hb dX5_isSheet_1 (by decide) (by omega) (fun c_1 => ?_) (fun c_1 => ?_)
  · skip
    refine q_iconst hx hb dX5_isSheet_19 ?_
    exact q_zret hx hb hr hlocks (by omega) (by split <;> omega) dX5_isSheet_20
  · skip
    refine lv_iload_n hx hb dX5_isSheet_4 rfl (lv_at hl 1 rfl) ?_
    refine lv_aload_n hx hb dX5_isSheet_5 rfl (lv_at hl 0 rfl) ?_
    refine q_get (ci := 7) (C := RX5) (T := TX5) (N := 7) hx hb hts hin_X5 hown hK (v := .ref (g 5)) hPic.at0 rfl 4 (by decide) (hts (.fieldLink RX5 37 "AlmanacHouse" "sheets" "Ljava/util/ArrayList;") (List.mem_of_getElem? (i := 1) rfl)) (fun _ h9 => h9) rfl dX5_isSheet_6 ?_
    refine q_callV (fr := 0) (lo := 0) (nL := 2) (Pic := ob D (g 5) 1 [.int (iI (σ 7)), .ref (g 7), .int (iI (σ 7))]) (As := []) (rest := [.int (iI (j))]) ⟨hx, hb, hml, hown, hts⟩ (c_size l D (ty3 cI cO cL) (g 5) (g 7) (σ 7) (σ 7)) (cwV 0 hts gX5_isSheet_Jx4a65c_size_8abf5 rfl rfl rfl (by decide +kernel) ⟨Nat.le_of_ble_eq_true rfl, Nat.le_of_ble_eq_true rfl⟩) (ob_recv hPic.at5 hK rfl) hPic.at5 hK rfl hl.1 rfl (Nat.le_of_ble_eq_true rfl) dX5_isSheet_9 (Nat.zero_le _) (Nat.zero_le _) ?_
    refine q_icmp_ge (tgt := 19) hx hb dX5_isSheet_12 (by decide) (by omega) (by omega) (fun c_2 => ?_) (fun c_2 => ?_)
    · skip
      refine q_iconst hx hb dX5_isSheet_19 ?_
      exact q_zret hx hb hr hlocks (by omega) (by split <;> omega) dX5_isSheet_20
    · skip
      refine q_iconst hx hb dX5_isSheet_15 ?_
      refine lv_goto (tgt := 20) hx hb dX5_isSheet_16 (by decide) ?_
      exact q_zret hx hb hr hlocks (by omega) (by split <;> omega) dX5_isSheet_20
set_option maxHeartbeats 4000000 in
set_option maxRecDepth 100000 in
/-- daysSinceNewMoon -/
theorem c_daysSince (l : Launch) (D : va_G) (cI cO cL : ClassId) (g : Nat → Nat) (σ T : Nat → Int) (hW : WF σ T) (d : Int) (hd : 0 ≤ d ∧ d < 370000) : MI l yX5_daysSinceNewMoon wsX5_daysSinceNewMoon 1 23 D (ty3 cI cO cL) (PicB D cO g σ T) [.ref (g 0), .int (iI (d))] (m_ds σ d) := by
  refine MI_of (cc := cX5_daysSinceNewMoon) (maxL := 3) (ret := (some .int)) (by decide) rfl (Nat.le_of_ble_eq_true rfl) ?_
  intro p e s m args below meth c ls hx hb hr hlocks hml hown hts hPic hK hl
  have hl : lv_has ls 3 [(0, .ref (g 0)), (1, .int (iI (d)))] := hl
  have hin_X5 : ∀ w ∈ u_ws RX5 TX5 7, w ∈ wsX5_daysSinceNewMoon := (fun w h => List.mem_cons_of_mem _ (List.mem_append_left _ (List.mem_append_right _ h)))
  obtain ⟨w0, w1, w2, w3, w4, w5, w6, w7, w8⟩ := id hW
  refine lv_aload_n hx hb dX5_daysSinceNewMoon_0 rfl (lv_at hl 0 rfl) ?_
  refine q_get (ci := 7) (C := RX5) (T := TX5) (N := 7) hx hb hts hin_X5 hown hK (v := .ref (g 2)) hPic.at0 rfl 1 (by decide) (hts (.fieldLink RX5 19 "AlmanacHouse" "moons" "LAlmanacHouse$Moons;") (List.mem_of_getElem? (i := 1) rfl)) (fun _ h9 => h9) rfl dX5_daysSinceNewMoon_1 ?_
  refine q_sipush hx hb dX5_daysSinceNewMoon_4 (by decide) ?_
  refine lv_iload_n hx hb dX5_daysSinceNewMoon_7 rfl (lv_at hl 1 rfl) ?_
  refine q_iconst hx hb dX5_daysSinceNewMoon_8 ?_
  refine q_iadd hx hb dX5_daysSinceNewMoon_9 ?_
  refine q_imul hx hb dX5_daysSinceNewMoon_10 ?_
  refine q_iconst hx hb dX5_daysSinceNewMoon_11 ?_
  refine q_callV (fr := 0) (lo := 0) (nL := 3) (Pic := ob D (g 2) 3 [.int (iI (σ 2)), .int (iI (σ 3))]) (As := [.int (iI ((1000) * (d + 1))), .int (iI (0))]) (rest := []) ⟨hx, hb, hml, hown, hts⟩ (c_firstFrom l D (ty3 cI cO cL) (g 2) (σ 2) (σ 3) ((1000) * (d + 1)) (0) w2 w3 (by omega) (by omega)) (cwV 2 hts gX5_daysSinceNewMoon_X1_firstFrom rfl rfl rfl (by decide +kernel) ⟨Nat.le_of_ble_eq_true rfl, Nat.le_of_ble_eq_true rfl⟩) (ob_recv hPic.at2 hK rfl) hPic.at2 hK rfl hl.1 rfl (Nat.le_of_ble_eq_true rfl) dX5_daysSinceNewMoon_12 (Nat.zero_le _) (Nat.zero_le _) ?_
  have hff12 := m_ff_in (ln := (σ 2)) (fi := (σ 3)) (b := (0)) (t := ((1000) * (d + 1))) w2
  have hfu12 := m_ff_up (ln := (σ 2)) (fi := (σ 3)) (b := (0)) (t := ((1000) * (d + 1))) w2 w3 (by omega)
  refine q_iconst hx hb dX5_daysSinceNewMoon_15 ?_
  refine q_isub hx hb dX5_daysSinceNewMoon_16 ?_
  refine q_top (fun k ek => ?_)
  refine lv_istore_n (lv' := [(2, .int (iI (k))), (0, .ref (g 0)), (1, .int (iI (d)))]) hx hb dX5_daysSinceNewMoon_17 rfl hl (by decide) rfl (fun ls hl => ?_)
  refine lv_iload_n hx hb dX5_daysSinceNewMoon_18 rfl (lv_at hl 0 rfl) ?_
  refine q_if_ge (tgt := 26) hx hb dX5_daysSinceNewMoon_19 (by decide) (by omega) (fun c_1 => ?_) (fun c_1 => ?_)
  · skip
    refine lv_iload_n hx hb dX5_daysSinceNewMoon_26 rfl (lv_at hl 2 rfl) ?_
    refine lv_aload_n hx hb dX5_daysSinceNewMoon_27 rfl (lv_at hl 1 rfl) ?_
    refine q_get (ci := 7) (C := RX5) (T := TX5) (N := 7) hx hb hts hin_X5 hown hK (v := .ref (g 2)) hPic.at0 rfl 1 (by decide) (hts (.fieldLink RX5 19 "AlmanacHouse" "moons" "LAlmanacHouse$Moons;") (List.mem_of_getElem? (i := 1) rfl)) (fun _ h9 => h9) rfl dX5_daysSinceNewMoon_28 ?_
    refine lv_iload_n hx hb dX5_daysSinceNewMoon_31 rfl (lv_at hl 0 rfl) ?_
    refine q_iconst hx hb dX5_daysSinceNewMoon_32 ?_
    refine q_callV (fr := 0) (lo := 0) (nL := 3) (Pic := ob D (g 2) 3 [.int (iI (σ 2)), .int (iI (σ 3))]) (As := [.int (iI (k)), .int (iI (0))]) (rest := [.int (iI (d))]) ⟨hx, hb, hml, hown, hts⟩ (c_timeOf l D (ty3 cI cO cL) (g 2) (σ 2) (σ 3) (k) (0) w2 w3 (by omega) (by omega)) (cwV 2 hts gX5_daysSinceNewMoon_X1_timeOf rfl rfl rfl (by decide +kernel) ⟨Nat.le_of_ble_eq_true rfl, Nat.le_of_ble_eq_true rfl⟩) (ob_recv hPic.at2 hK rfl) hPic.at2 hK rfl hl.1 rfl (Nat.le_of_ble_eq_true rfl) dX5_daysSinceNewMoon_33 (Nat.zero_le _) (Nat.zero_le _) ?_
    have htm33 := m_tm_in (ln := (σ 2)) (fi := (σ 3)) (b := (0)) (k := (k)) w2 w3 (by omega)
    refine q_sipush hx hb dX5_daysSinceNewMoon_36 (by decide) ?_
    refine q_idiv hx hb dX5_daysSinceNewMoon_39 (by omega) (by omega) ?_
    refine q_isub hx hb dX5_daysSinceNewMoon_40 ?_
    exact q_iret hx hb hr hlocks (by unfold m_ds; rw [show 1000 * (d + 1) = 1000 * d + 1000 by omega] at *; split <;> first | omega | rw [← ek]) dX5_daysSinceNewMoon_41
  · skip
    refine q_iconst hx hb dX5_daysSinceNewMoon_22 ?_
    refine lv_goto (tgt := 41) hx hb dX5_daysSinceNewMoon_23 (by decide) ?_
    exact q_iret hx hb hr hlocks (by unfold m_ds; rw [show 1000 * (d + 1) = 1000 * d + 1000 by omega] at *; split <;> first | omega | rw [← ek]) dX5_daysSinceNewMoon_41
set_option maxHeartbeats 4000000 in
set_option maxRecDepth 100000 in
/-- countEclipses -/
theorem c_countEclipses (l : Launch) (D : va_G) (cI cO cL : ClassId) (g : Nat → Nat) (σ T : Nat → Int) (hW : WF σ T) (y b : Int) (hy : 0 ≤ y ∧ y ≤ 999) (hb01 : b = 0 ∨ b = 1) : MI l yX5_countEclipses wsX5_countEclipses 1 23 D (ty3 cI cO cL) (PicB D cO g σ T) [.ref (g 0), .int (iI (y)), .int (iI (b))] (m_Eb σ y b) := by
  refine MI_of (cc := cX5_countEclipses) (maxL := 6) (ret := (some .int)) (by decide) rfl (Nat.le_of_ble_eq_true rfl) ?_
  intro p e s m args below meth c ls hx hb hr hlocks hml hown hts hPic hK hl
  have hl : lv_has ls 6 [(0, .ref (g 0)), (1, .int (iI (y))), (2, .int (iI (b)))] := hl
  have hin_X5 : ∀ w ∈ u_ws RX5 TX5 7, w ∈ wsX5_countEclipses := (fun w h => List.mem_cons_of_mem _ (List.mem_append_left _ (List.mem_append_left _ (List.mem_append_left _ (List.mem_append_right _ h)))))
  obtain ⟨w0, w1, w2, w3, w4, w5, w6, w7, w8⟩ := id hW
  refine lv_aload_n hx hb dX5_countEclipses_0 rfl (lv_at hl 0 rfl) ?_
  refine q_get (ci := 7) (C := RX5) (T := TX5) (N := 7) hx hb hts hin_X5 hown hK (v := .ref (g 2)) hPic.at0 rfl 1 (by decide) (hts (.fieldLink RX5 19 "AlmanacHouse" "moons" "LAlmanacHouse$Moons;") (List.mem_of_getElem? (i := 1) rfl)) (fun _ h9 => h9) rfl dX5_countEclipses_1 ?_
  refine q_sipush hx hb dX5_countEclipses_4 (by decide) ?_
  refine lv_aload_n hx hb dX5_countEclipses_7 rfl (lv_at hl 0 rfl) ?_
  refine q_get (ci := 7) (C := RX5) (T := TX5) (N := 7) hx hb hts hin_X5 hown hK (v := .ref (g 1)) hPic.at0 rfl 0 (by decide) (hts (.fieldLink RX5 10 "AlmanacHouse" "years" "LAlmanacHouse$Years;") (List.mem_of_getElem? (i := 2) rfl)) (fun _ h9 => h9) rfl dX5_countEclipses_8 ?_
  refine lv_iload_n hx hb dX5_countEclipses_11 rfl (lv_at hl 1 rfl) ?_
  refine q_iconst hx hb dX5_countEclipses_12 ?_
  refine q_iadd hx hb dX5_countEclipses_13 ?_
  refine q_callV (fr := 0) (lo := 0) (nL := 6) (Pic := ob D (g 1) 6 [.int (iI (σ 0)), .int (iI (σ 1))]) (As := [.int (iI (y + 1))]) (rest := [.int (iI (1000)), .ref (g 2)]) ⟨hx, hb, hml, hown, hts⟩ (c_firstDay l D (ty3 cI cO cL) (g 1) (σ 0) (σ 1) (y + 1) w0 w1 (by omega)) (cwV 1 hts gX5_countEclipses_X4_firstDay rfl rfl rfl (by decide +kernel) ⟨Nat.le_of_ble_eq_true rfl, Nat.le_of_ble_eq_true rfl⟩) (ob_recv hPic.at1 hK rfl) hPic.at1 hK rfl hl.1 rfl (Nat.le_of_ble_eq_true rfl) dX5_countEclipses_14 (Nat.zero_le _) (Nat.zero_le _) ?_
  have hfd14 := m_fd_le (cy := (σ 0)) (lq := (σ 1)) (y := (y + 1)) w0.1 w1 (by omega)
  refine q_imul hx hb dX5_countEclipses_17 ?_
  refine lv_iload_n hx hb dX5_countEclipses_18 rfl (lv_at hl 2 rfl) ?_
  refine q_callV (fr := 0) (lo := 0) (nL := 6) (Pic := ob D (g 2) 3 [.int (iI (σ 2)), .int (iI (σ 3))]) (As := [.int (iI ((1000) * (m_fd (σ 0) (σ 1) (y + 1)))), .int (iI (b))]) (rest := []) ⟨hx, hb, hml, hown, hts⟩ (c_firstFrom l D (ty3 cI cO cL) (g 2) (σ 2) (σ 3) ((1000) * (m_fd (σ 0) (σ 1) (y + 1))) (b) w2 w3 (by omega) (by omega)) (cwV 2 hts gX5_countEclipses_X1_firstFrom rfl rfl rfl (by decide +kernel) ⟨Nat.le_of_ble_eq_true rfl, Nat.le_of_ble_eq_true rfl⟩) (ob_recv hPic.at2 hK rfl) hPic.at2 hK rfl hl.1 rfl (Nat.le_of_ble_eq_true rfl) dX5_countEclipses_19 (Nat.zero_le _) (Nat.zero_le _) ?_
  have hff19 := m_ff_in (ln := (σ 2)) (fi := (σ 3)) (b := (b)) (t := ((1000) * (m_fd (σ 0) (σ 1) (y + 1)))) w2
  have hfu19 := m_ff_up (ln := (σ 2)) (fi := (σ 3)) (b := (b)) (t := ((1000) * (m_fd (σ 0) (σ 1) (y + 1)))) w2 w3 (by omega)
  refine q_top (fun en een => ?_)
  refine lv_istore_n (lv' := [(3, .int (iI (en))), (0, .ref (g 0)), (1, .int (iI (y))), (2, .int (iI (b)))]) hx hb dX5_countEclipses_22 rfl hl (by decide) rfl (fun ls hl => ?_)
  refine q_iconst hx hb dX5_countEclipses_23 ?_
  refine lv_istore (lv' := [(4, .int (iI (0))), (3, .int (iI (en))), (0, .ref (g 0)), (1, .int (iI (y))), (2, .int (iI (b)))]) hx hb dX5_countEclipses_24 hl (by decide) rfl (fun ls hl => ?_)
  refine lv_aload_n hx hb dX5_countEclipses_26 rfl (lv_at hl 2 rfl) ?_
  refine q_get (ci := 7) (C := RX5) (T := TX5) (N := 7) hx hb hts hin_X5 hown hK (v := .ref (g 2)) hPic.at0 rfl 1 (by decide) (hts (.fieldLink RX5 19 "AlmanacHouse" "moons" "LAlmanacHouse$Moons;") (List.mem_of_getElem? (i := 1) rfl)) (fun _ h9 => h9) rfl dX5_countEclipses_27 ?_
  refine q_sipush hx hb dX5_countEclipses_30 (by decide) ?_
  refine lv_aload_n hx hb dX5_countEclipses_33 rfl (lv_at hl 2 rfl) ?_
  refine q_get (ci := 7) (C := RX5) (T := TX5) (N := 7) hx hb hts hin_X5 hown hK (v := .ref (g 1)) hPic.at0 rfl 0 (by decide) (hts (.fieldLink RX5 10 "AlmanacHouse" "years" "LAlmanacHouse$Years;") (List.mem_of_getElem? (i := 2) rfl)) (fun _ h9 => h9) rfl dX5_countEclipses_34 ?_
  refine lv_iload_n hx hb dX5_countEclipses_37 rfl (lv_at hl 3 rfl) ?_
  refine q_callV (fr := 0) (lo := 0) (nL := 6) (Pic := ob D (g 1) 6 [.int (iI (σ 0)), .int (iI (σ 1))]) (As := [.int (iI (y))]) (rest := [.int (iI (1000)), .ref (g 2)]) ⟨hx, hb, hml, hown, hts⟩ (c_firstDay l D (ty3 cI cO cL) (g 1) (σ 0) (σ 1) (y) w0 w1 (by omega)) (cwV 1 hts gX5_countEclipses_X4_firstDay rfl rfl rfl (by decide +kernel) ⟨Nat.le_of_ble_eq_true rfl, Nat.le_of_ble_eq_true rfl⟩) (ob_recv hPic.at1 hK rfl) hPic.at1 hK rfl hl.1 rfl (Nat.le_of_ble_eq_true rfl) dX5_countEclipses_38 (Nat.zero_le _) (Nat.zero_le _) ?_
  have hfd38 := m_fd_le (cy := (σ 0)) (lq := (σ 1)) (y := (y)) w0.1 w1 (by omega)
  refine q_imul hx hb dX5_countEclipses_41 ?_
  refine lv_iload_n hx hb dX5_countEclipses_42 rfl (lv_at hl 4 rfl) ?_
  refine q_callV (fr := 0) (lo := 0) (nL := 6) (Pic := ob D (g 2) 3 [.int (iI (σ 2)), .int (iI (σ 3))]) (As := [.int (iI ((1000) * (m_fd (σ 0) (σ 1) (y)))), .int (iI (b))]) (rest := []) ⟨hx, hb, hml, hown, hts⟩ (c_firstFrom l D (ty3 cI cO cL) (g 2) (σ 2) (σ 3) ((1000) * (m_fd (σ 0) (σ 1) (y))) (b) w2 w3 (by omega) (by omega)) (cwV 2 hts gX5_countEclipses_X1_firstFrom rfl rfl rfl (by decide +kernel) ⟨Nat.le_of_ble_eq_true rfl, Nat.le_of_ble_eq_true rfl⟩) (ob_recv hPic.at2 hK rfl) hPic.at2 hK rfl hl.1 rfl (Nat.le_of_ble_eq_true rfl) dX5_countEclipses_43 (Nat.zero_le _) (Nat.zero_le _) ?_
  have hff43 := m_ff_in (ln := (σ 2)) (fi := (σ 3)) (b := (b)) (t := ((1000) * (m_fd (σ 0) (σ 1) (y)))) w2
  have hfu43 := m_ff_up (ln := (σ 2)) (fi := (σ 3)) (b := (b)) (t := ((1000) * (m_fd (σ 0) (σ 1) (y)))) w2 w3 (by omega)
  refine q_top (fun k0 ek0 => ?_)
  refine lv_istore (lv' := [(5, .int (iI (k0))), (4, .int (iI (0))), (3, .int (iI (en))), (0, .ref (g 0)), (1, .int (iI (y))), (2, .int (iI (b)))]) hx hb dX5_countEclipses_46 hl (by decide) rfl (fun ls hl => ?_)
  have key_48 : ∀ (fu : Nat) (k : Int) (ec : Int), k0 ≤ k ∧ (k ≤ en ∨ k = k0) → ec = m_ce (σ 2) (σ 3) (σ 4) (σ 5) b k0 (k - k0).toNat → (((en - k).toNat : Int)) < (fu : Int) → ∀ ls : Array Slot, lv_has ls 6 [(0, .ref (g 0)), (1, .int (iI (y))), (2, .int (iI (b))), (3, .int (iI (en))), (4, .int (iI (ec))), (5, .int (iI (k)))] → W p l e { frames := 1, cells := 0, slots := 0, locals := 23 } s m args below meth c s.heap [] 0 0 (MQ below (vp_Si (fun r => r = iI (m_Eb σ y b))) args s 0 0 (fun _ => False)) (F0 m 48 ls []) := by
    intro fu
    induction fu with
    | zero => intro k ec hk hec hm_48 ls hl; exact absurd hm_48 (by omega)
    | succ fu ih_48 =>
      intro k ec hk hec hm_48 ls hl
      refine lv_iload hx hb dX5_countEclipses_48 (lv_at hl 5 rfl) ?_
      refine lv_iload_n hx hb dX5_countEclipses_50 rfl (lv_at hl 3 rfl) ?_
      refine q_icmp_ge (tgt := 87) hx hb dX5_countEclipses_51 (by decide) (by omega) (by omega) (fun c_1 => ?_) (fun c_1 => ?_)
      · skip
        refine lv_iload hx hb dX5_countEclipses_87 (lv_at hl 4 rfl) ?_
        exact q_iret hx hb hr hlocks (by unfold m_Eb m_ec; rw [hec, ← een, ← ek0]; congr 1; omega) dX5_countEclipses_89
      · skip
        refine lv_aload_n hx hb dX5_countEclipses_54 rfl (lv_at hl 0 rfl) ?_
        refine q_get (ci := 7) (C := RX5) (T := TX5) (N := 7) hx hb hts hin_X5 hown hK (v := .ref (g 3)) hPic.at0 rfl 2 (by decide) (hts (.fieldLink RX5 26 "AlmanacHouse" "nodes" "LAlmanacHouse$Nodes;") (List.mem_of_getElem? (i := 3) rfl)) (fun _ h9 => h9) rfl dX5_countEclipses_55 ?_
        refine lv_aload_n hx hb dX5_countEclipses_58 rfl (lv_at hl 0 rfl) ?_
        refine q_get (ci := 7) (C := RX5) (T := TX5) (N := 7) hx hb hts hin_X5 hown hK (v := .ref (g 2)) hPic.at0 rfl 1 (by decide) (hts (.fieldLink RX5 19 "AlmanacHouse" "moons" "LAlmanacHouse$Moons;") (List.mem_of_getElem? (i := 1) rfl)) (fun _ h9 => h9) rfl dX5_countEclipses_59 ?_
        refine lv_iload hx hb dX5_countEclipses_62 (lv_at hl 5 rfl) ?_
        refine lv_iload_n hx hb dX5_countEclipses_64 rfl (lv_at hl 2 rfl) ?_
        refine q_callV (fr := 0) (lo := 0) (nL := 6) (Pic := ob D (g 2) 3 [.int (iI (σ 2)), .int (iI (σ 3))]) (As := [.int (iI (k)), .int (iI (b))]) (rest := [.ref (g 3)]) ⟨hx, hb, hml, hown, hts⟩ (c_timeOf l D (ty3 cI cO cL) (g 2) (σ 2) (σ 3) (k) (b) w2 w3 (by omega) (by omega)) (cwV 2 hts gX5_countEclipses_X1_timeOf rfl rfl rfl (by decide +kernel) ⟨Nat.le_of_ble_eq_true rfl, Nat.le_of_ble_eq_true rfl⟩) (ob_recv hPic.at2 hK rfl) hPic.at2 hK rfl hl.1 rfl (Nat.le_of_ble_eq_true rfl) dX5_countEclipses_65 (Nat.zero_le _) (Nat.zero_le _) ?_
        have htm65 := m_tm_in (ln := (σ 2)) (fi := (σ 3)) (b := (b)) (k := (k)) w2 w3 (by omega)
        refine lv_iload_n hx hb dX5_countEclipses_68 rfl (lv_at hl 2 rfl) ?_
        refine q_callS (fr := 0) (lo := 0) (nL := 6) (Pic := fun _ => True) (As := [.int (iI (b))]) (rest := [.int (iI (m_tm (σ 2) (σ 3) (k) (b))), .ref (g 3)]) ⟨hx, hb, hml, hown, hts⟩ (c_reach l D (ty3 cI cO cL) (b) (by omega)) (va_cwS 1 hts gX5_countEclipses_X5_reach rfl rfl rfl (by decide +kernel) ⟨Nat.le_of_ble_eq_true rfl, Nat.le_of_ble_eq_true rfl⟩) trivial hK rfl hl.1 rfl (Nat.le_of_ble_eq_true rfl) dX5_countEclipses_69 (Nat.zero_le _) (Nat.zero_le _) ?_
        have hrc : 0 ≤ m_rc b ∧ m_rc b ≤ 15000 := by unfold m_rc; split <;> omega
        refine q_callV (fr := 0) (lo := 0) (nL := 6) (Pic := ob D (g 3) 4 [.int (iI (σ 4)), .int (iI (σ 5))]) (As := [.int (iI (m_tm (σ 2) (σ 3) (k) (b))), .int (iI (m_rc (b)))]) (rest := []) ⟨hx, hb, hml, hown, hts⟩ (c_isNear l D (ty3 cI cO cL) (g 3) (σ 4) (σ 5) (m_tm (σ 2) (σ 3) (k) (b)) (m_rc (b)) w4 w5 (by omega) (hrc)) (cwV 2 hts gX5_countEclipses_X2_isNear rfl rfl rfl (by decide +kernel) ⟨Nat.le_of_ble_eq_true rfl, Nat.le_of_ble_eq_true rfl⟩) (ob_recv hPic.at3 hK rfl) hPic.at3 hK rfl hl.1 rfl (Nat.le_of_ble_eq_true rfl) dX5_countEclipses_72 (Nat.zero_le _) (Nat.zero_le _) ?_
        have hen72 := m_en_01 (σ 4) (σ 5) (m_tm (σ 2) (σ 3) (k) (b)) (m_rc (b))
        refine q_if_eq (tgt := 81) hx hb dX5_countEclipses_75 (by decide) (by omega) (fun c_2 => ?_) (fun c_2 => ?_)
        · skip
          refine q_iinc (k := 5) (lv' := [(5, .int (iI (k + 1))), (0, .ref (g 0)), (1, .int (iI (y))), (2, .int (iI (b))), (3, .int (iI (en))), (4, .int (iI (ec)))]) hx hb dX5_countEclipses_81 hl rfl (by decide) rfl (fun ls hl => ?_)
          refine lv_goto (tgt := 48) hx hb dX5_countEclipses_84 (by decide) ?_
          have hst := m_ce_step (ln := σ 2) (fi := σ 3) (pe := σ 4) (nd := σ 5) (b := b) hk.1
          exact ih_48 _ _ (by omega) (by rw [hst]; omega) (by omega) _ (lv_sub hl [1, 2, 3, 4, 5, 0] rfl)
        · skip
          refine q_iinc (k := 4) (lv' := [(4, .int (iI (ec + 1))), (0, .ref (g 0)), (1, .int (iI (y))), (2, .int (iI (b))), (3, .int (iI (en))), (5, .int (iI (k)))]) hx hb dX5_countEclipses_78 hl rfl (by decide) rfl (fun ls hl => ?_)
          refine q_iinc (k := 5) (lv' := [(5, .int (iI (k + 1))), (4, .int (iI (ec + 1))), (0, .ref (g 0)), (1, .int (iI (y))), (2, .int (iI (b))), (3, .int (iI (en)))]) hx hb dX5_countEclipses_81 hl rfl (by decide) rfl (fun ls hl => ?_)
          refine lv_goto (tgt := 48) hx hb dX5_countEclipses_84 (by decide) ?_
          have hst := m_ce_step (ln := σ 2) (fi := σ 3) (pe := σ 4) (nd := σ 5) (b := b) hk.1
          exact ih_48 _ _ (by omega) (by rw [hst]; omega) (by omega) _ (lv_sub hl [2, 3, 4, 5, 1, 0] rfl)
  exact key_48 ((en - k0).toNat + 1) _ _ (by omega) (by rw [show (k0 - k0).toNat = 0 by omega]; rfl) (by omega) _ (lv_sub hl [3, 4, 5, 2, 1, 0] rfl)
set_option maxHeartbeats 4000000 in
set_option maxRecDepth 100000 in
/-- firstEclipse -/
theorem c_firstEclipse (l : Launch) (D : va_G) (cI cO cL : ClassId) (g : Nat → Nat) (σ T : Nat → Int) (hW : WF σ T) (d b : Int) (hd : 0 ≤ d ∧ d < 366001) (hb01 : b = 0 ∨ b = 1) : MI l yX5_firstEclipse wsX5_firstEclipse 1 23 D (ty3 cI cO cL) (PicB D cO g σ T) [.ref (g 0), .int (iI (d)), .int (iI (b))] (m_N1 σ d b) := by
  refine MI_of (cc := cX5_firstEclipse) (maxL := 6) (ret := (some .int)) (by decide) rfl (Nat.le_of_ble_eq_true rfl) ?_
  intro p e s m args below meth c ls hx hb hr hlocks hml hown hts hPic hK hl
  have hl : lv_has ls 6 [(0, .ref (g 0)), (1, .int (iI (d))), (2, .int (iI (b)))] := hl
  have hin_X5 : ∀ w ∈ u_ws RX5 TX5 7, w ∈ wsX5_firstEclipse := (fun w h => List.mem_cons_of_mem _ (List.mem_append_left _ (List.mem_append_left _ (List.mem_append_right _ h))))
  obtain ⟨w0, w1, w2, w3, w4, w5, w6, w7, w8⟩ := id hW
  refine lv_aload_n hx hb dX5_firstEclipse_0 rfl (lv_at hl 0 rfl) ?_
  refine q_get (ci := 7) (C := RX5) (T := TX5) (N := 7) hx hb hts hin_X5 hown hK (v := .ref (g 2)) hPic.at0 rfl 1 (by decide) (hts (.fieldLink RX5 19 "AlmanacHouse" "moons" "LAlmanacHouse$Moons;") (List.mem_of_getElem? (i := 1) rfl)) (fun _ h9 => h9) rfl dX5_firstEclipse_1 ?_
  refine q_sipush hx hb dX5_firstEclipse_4 (by decide) ?_
  refine lv_iload_n hx hb dX5_firstEclipse_7 rfl (lv_at hl 1 rfl) ?_
  refine q_sipush hx hb dX5_firstEclipse_8 (by decide) ?_
  refine q_iadd hx hb dX5_firstEclipse_11 ?_
  refine q_imul hx hb dX5_firstEclipse_12 ?_
  refine lv_iload_n hx hb dX5_firstEclipse_13 rfl (lv_at hl 2 rfl) ?_
  refine q_callV (fr := 0) (lo := 0) (nL := 6) (Pic := ob D (g 2) 3 [.int (iI (σ 2)), .int (iI (σ 3))]) (As := [.int (iI ((1000) * (d + 3000))), .int (iI (b))]) (rest := []) ⟨hx, hb, hml, hown, hts⟩ (c_firstFrom l D (ty3 cI cO cL) (g 2) (σ 2) (σ 3) ((1000) * (d + 3000)) (b) w2 w3 (by omega) (by omega)) (cwV 2 hts gX5_firstEclipse_X1_firstFrom rfl rfl rfl (by decide +kernel) ⟨Nat.le_of_ble_eq_true rfl, Nat.le_of_ble_eq_true rfl⟩) (ob_recv hPic.at2 hK rfl) hPic.at2 hK rfl hl.1 rfl (Nat.le_of_ble_eq_true rfl) dX5_firstEclipse_14 (Nat.zero_le _) (Nat.zero_le _) ?_
  have hff14 := m_ff_in (ln := (σ 2)) (fi := (σ 3)) (b := (b)) (t := ((1000) * (d + 3000))) w2
  have hfu14 := m_ff_up (ln := (σ 2)) (fi := (σ 3)) (b := (b)) (t := ((1000) * (d + 3000))) w2 w3 (by omega)
  refine q_top (fun en een => ?_)
  refine lv_istore_n (lv' := [(3, .int (iI (en))), (0, .ref (g 0)), (1, .int (iI (d))), (2, .int (iI (b)))]) hx hb dX5_firstEclipse_17 rfl hl (by decide) rfl (fun ls hl => ?_)
  refine lv_aload_n hx hb dX5_firstEclipse_18 rfl (lv_at hl 1 rfl) ?_
  refine q_get (ci := 7) (C := RX5) (T := TX5) (N := 7) hx hb hts hin_X5 hown hK (v := .ref (g 2)) hPic.at0 rfl 1 (by decide) (hts (.fieldLink RX5 19 "AlmanacHouse" "moons" "LAlmanacHouse$Moons;") (List.mem_of_getElem? (i := 1) rfl)) (fun _ h9 => h9) rfl dX5_firstEclipse_19 ?_
  refine q_sipush hx hb dX5_firstEclipse_22 (by decide) ?_
  refine lv_iload_n hx hb dX5_firstEclipse_25 rfl (lv_at hl 2 rfl) ?_
  refine q_imul hx hb dX5_firstEclipse_26 ?_
  refine lv_iload_n hx hb dX5_firstEclipse_27 rfl (lv_at hl 3 rfl) ?_
  refine q_callV (fr := 0) (lo := 0) (nL := 6) (Pic := ob D (g 2) 3 [.int (iI (σ 2)), .int (iI (σ 3))]) (As := [.int (iI (1000 * d)), .int (iI (b))]) (rest := []) ⟨hx, hb, hml, hown, hts⟩ (c_firstFrom l D (ty3 cI cO cL) (g 2) (σ 2) (σ 3) (1000 * d) (b) w2 w3 (by omega) (by omega)) (cwV 2 hts gX5_firstEclipse_X1_firstFrom rfl rfl rfl (by decide +kernel) ⟨Nat.le_of_ble_eq_true rfl, Nat.le_of_ble_eq_true rfl⟩) (ob_recv hPic.at2 hK rfl) hPic.at2 hK rfl hl.1 rfl (Nat.le_of_ble_eq_true rfl) dX5_firstEclipse_28 (Nat.zero_le _) (Nat.zero_le _) ?_
  have hff28 := m_ff_in (ln := (σ 2)) (fi := (σ 3)) (b := (b)) (t := (1000 * d)) w2
  have hfu28 := m_ff_up (ln := (σ 2)) (fi := (σ 3)) (b := (b)) (t := (1000 * d)) w2 w3 (by omega)
  refine q_top (fun k0 ek0 => ?_)
  refine lv_istore (lv' := [(4, .int (iI (k0))), (3, .int (iI (en))), (0, .ref (g 0)), (1, .int (iI (d))), (2, .int (iI (b)))]) hx hb dX5_firstEclipse_31 hl (by decide) rfl (fun ls hl => ?_)
  have key_33 : ∀ (fu : Nat) (k : Int), k0 ≤ k ∧ (k ≤ en ∨ k = k0) → m_fe (σ 2) (σ 3) (σ 4) (σ 5) b (en - k).toNat k = m_N1 σ d b → (((en - k).toNat : Int)) < (fu : Int) → ∀ ls : Array Slot, lv_has ls 6 [(0, .ref (g 0)), (1, .int (iI (d))), (2, .int (iI (b))), (3, .int (iI (en))), (4, .int (iI (k)))] → W p l e { frames := 1, cells := 0, slots := 0, locals := 23 } s m args below meth c s.heap [] 0 0 (MQ below (vp_Si (fun r => r = iI (m_N1 σ d b))) args s 0 0 (fun _ => False)) (F0 m 33 ls []) := by
    intro fu
    induction fu with
    | zero => intro k hk hfe hm_33 ls hl; exact absurd hm_33 (by omega)
    | succ fu ih_33 =>
      intro k hk hfe hm_33 ls hl
      refine lv_iload hx hb dX5_firstEclipse_33 (lv_at hl 4 rfl) ?_
      refine lv_iload_n hx hb dX5_firstEclipse_35 rfl (lv_at hl 3 rfl) ?_
      refine q_icmp_ge (tgt := 80) hx hb dX5_firstEclipse_36 (by decide) (by omega) (by omega) (fun c_1 => ?_) (fun c_1 => ?_)
      · skip
        refine q_iconst hx hb dX5_firstEclipse_80 ?_
        exact q_iret hx hb hr hlocks (by rw [← hfe, m_fe_end (by omega)]) dX5_firstEclipse_81
      · skip
        refine lv_aload_n hx hb dX5_firstEclipse_39 rfl (lv_at hl 0 rfl) ?_
        refine q_get (ci := 7) (C := RX5) (T := TX5) (N := 7) hx hb hts hin_X5 hown hK (v := .ref (g 2)) hPic.at0 rfl 1 (by decide) (hts (.fieldLink RX5 19 "AlmanacHouse" "moons" "LAlmanacHouse$Moons;") (List.mem_of_getElem? (i := 1) rfl)) (fun _ h9 => h9) rfl dX5_firstEclipse_40 ?_
        refine lv_iload hx hb dX5_firstEclipse_43 (lv_at hl 4 rfl) ?_
        refine lv_iload_n hx hb dX5_firstEclipse_45 rfl (lv_at hl 2 rfl) ?_
        refine q_callV (fr := 0) (lo := 0) (nL := 6) (Pic := ob D (g 2) 3 [.int (iI (σ 2)), .int (iI (σ 3))]) (As := [.int (iI (k)), .int (iI (b))]) (rest := []) ⟨hx, hb, hml, hown, hts⟩ (c_timeOf l D (ty3 cI cO cL) (g 2) (σ 2) (σ 3) (k) (b) w2 w3 (by omega) (by omega)) (cwV 2 hts gX5_firstEclipse_X1_timeOf rfl rfl rfl (by decide +kernel) ⟨Nat.le_of_ble_eq_true rfl, Nat.le_of_ble_eq_true rfl⟩) (ob_recv hPic.at2 hK rfl) hPic.at2 hK rfl hl.1 rfl (Nat.le_of_ble_eq_true rfl) dX5_firstEclipse_46 (Nat.zero_le _) (Nat.zero_le _) ?_
        have htm46 := m_tm_in (ln := (σ 2)) (fi := (σ 3)) (b := (b)) (k := (k)) w2 w3 (by omega)
        refine q_top (fun t et => ?_)
        refine lv_istore (lv' := [(5, .int (iI (t))), (0, .ref (g 0)), (1, .int (iI (d))), (2, .int (iI (b))), (3, .int (iI (en))), (4, .int (iI (k)))]) hx hb dX5_firstEclipse_49 hl (by decide) rfl (fun ls hl => ?_)
        refine lv_aload_n hx hb dX5_firstEclipse_51 rfl (lv_at hl 1 rfl) ?_
        refine q_get (ci := 7) (C := RX5) (T := TX5) (N := 7) hx hb hts hin_X5 hown hK (v := .ref (g 3)) hPic.at0 rfl 2 (by decide) (hts (.fieldLink RX5 26 "AlmanacHouse" "nodes" "LAlmanacHouse$Nodes;") (List.mem_of_getElem? (i := 2) rfl)) (fun _ h9 => h9) rfl dX5_firstEclipse_52 ?_
        refine lv_iload hx hb dX5_firstEclipse_55 (lv_at hl 0 rfl) ?_
        refine lv_iload_n hx hb dX5_firstEclipse_57 rfl (lv_at hl 3 rfl) ?_
        refine q_callS (fr := 0) (lo := 0) (nL := 6) (Pic := fun _ => True) (As := [.int (iI (b))]) (rest := [.int (iI (t)), .ref (g 3)]) ⟨hx, hb, hml, hown, hts⟩ (c_reach l D (ty3 cI cO cL) (b) (by omega)) (va_cwS 1 hts gX5_firstEclipse_X5_reach rfl rfl rfl (by decide +kernel) ⟨Nat.le_of_ble_eq_true rfl, Nat.le_of_ble_eq_true rfl⟩) trivial hK rfl hl.1 rfl (Nat.le_of_ble_eq_true rfl) dX5_firstEclipse_58 (Nat.zero_le _) (Nat.zero_le _) ?_
        have hrc : 0 ≤ m_rc b ∧ m_rc b ≤ 15000 := by unfold m_rc; split <;> omega
        refine q_callV (fr := 0) (lo := 0) (nL := 6) (Pic := ob D (g 3) 4 [.int (iI (σ 4)), .int (iI (σ 5))]) (As := [.int (iI (t)), .int (iI (m_rc (b)))]) (rest := []) ⟨hx, hb, hml, hown, hts⟩ (c_isNear l D (ty3 cI cO cL) (g 3) (σ 4) (σ 5) (t) (m_rc (b)) w4 w5 (by omega) (hrc)) (cwV 2 hts gX5_firstEclipse_X2_isNear rfl rfl rfl (by decide +kernel) ⟨Nat.le_of_ble_eq_true rfl, Nat.le_of_ble_eq_true rfl⟩) (ob_recv hPic.at3 hK rfl) hPic.at3 hK rfl hl.1 rfl (Nat.le_of_ble_eq_true rfl) dX5_firstEclipse_61 (Nat.zero_le _) (Nat.zero_le _) ?_
        have hen61 := m_en_01 (σ 4) (σ 5) (t) (m_rc (b))
        refine q_if_eq (tgt := 74) hx hb dX5_firstEclipse_64 (by decide) (by omega) (fun c_2 => ?_) (fun c_2 => ?_)
        · skip
          refine q_iinc (k := 5) (lv' := [(4, .int (iI (k + 1))), (5, .int (iI (t))), (0, .ref (g 0)), (1, .int (iI (d))), (2, .int (iI (b))), (3, .int (iI (en)))]) hx hb dX5_firstEclipse_74 hl rfl (by decide) rfl (fun ls hl => ?_)
          refine lv_goto (tgt := 33) hx hb dX5_firstEclipse_77 (by decide) ?_
          exact ih_33 _ (by omega) (by rw [← hfe, m_fe_step (k := k) (en := en) (by omega), ← et, if_neg (by omega)]) (by omega) _ (lv_sub hl [2, 3, 4, 5, 0] rfl)
        · skip
          refine lv_iload hx hb dX5_firstEclipse_67 (lv_at hl 0 rfl) ?_
          refine q_sipush hx hb dX5_firstEclipse_69 (by decide) ?_
          refine q_idiv hx hb dX5_firstEclipse_72 (by omega) (by omega) ?_
          exact q_iret hx hb hr hlocks (by rw [← hfe, m_fe_step (k := k) (en := en) (by omega), ← et, if_pos (by omega)]) dX5_firstEclipse_73
  exact key_33 ((en - k0).toNat + 1) _ (by omega) (by unfold m_N1; rw [een, ek0]) (by omega) _ (lv_sub hl [2, 3, 4, 1, 0] rfl)
set_option maxHeartbeats 4000000 in
set_option maxRecDepth 100000 in
/-- feastDay -/
theorem c_feastDay (l : Launch) (D : va_G) (cI cO cL : ClassId) (g : Nat → Nat) (σ T : Nat → Int) (hW : WF σ T) (i : Nat) (y : Int) (hi : (i : Int) < σ 6) (hy : 0 ≤ y ∧ y ≤ 999) : MI l yX5_feastDay wsX5_feastDay 1 23 D (ty3 cI cO cL) (PicB D cO g σ T) [.ref (g 0), .ref (g (10 + i)), .int (iI (y))] (m_F σ T i y) := by
  refine MI_of (cc := cX5_feastDay) (maxL := 5) (ret := (some .int)) (by decide) rfl (Nat.le_of_ble_eq_true rfl) ?_
  intro p e s m args below meth c ls hx hb hr hlocks hml hown hts hPic hK hl
  have hl : lv_has ls 5 [(0, .ref (g 0)), (1, .ref (g (10 + i))), (2, .int (iI (y)))] := hl
  have hin_X5 : ∀ w ∈ u_ws RX5 TX5 7, w ∈ wsX5_feastDay := (fun w h => List.mem_cons_of_mem _ (List.mem_append_left _ (List.mem_append_left _ (List.mem_append_left _ (List.mem_append_right _ h)))))
  have hin_X0 : ∀ w ∈ u_ws RX0 TX0 5, w ∈ wsX5_feastDay := (fun w h => List.mem_cons_of_mem _ (List.mem_append_left _ (List.mem_append_left _ (List.mem_append_right _ h))))
  obtain ⟨w0, w1, w2, w3, w4, w5, w6, w7, w8⟩ := id hW
  obtain ⟨f0, f1, f2, f3, f4⟩ := w8 i hi
  have hd0 := m_d0_in (cy := σ 0) (lq := σ 1) (mo := T (5 * i)) (da := T (5 * i + 1)) (y := y) w0.1 w1 hy f0 f1
  have hd1 := m_d1_in (ln := σ 2) (fi := σ 3) (mn := T (5 * i + 2)) w2 w3 f2 hd0
  unfold m_d0 at hd0
  refine lv_aload_n hx hb dX5_feastDay_0 rfl (lv_at hl 0 rfl) ?_
  refine q_get (ci := 7) (C := RX5) (T := TX5) (N := 7) hx hb hts hin_X5 hown hK (v := .ref (g 1)) hPic.at0 rfl 0 (by decide) (hts (.fieldLink RX5 10 "AlmanacHouse" "years" "LAlmanacHouse$Years;") (List.mem_of_getElem? (i := 1) rfl)) (fun _ h9 => h9) rfl dX5_feastDay_1 ?_
  refine lv_iload_n hx hb dX5_feastDay_4 rfl (lv_at hl 2 rfl) ?_
  refine q_callV (fr := 0) (lo := 0) (nL := 5) (Pic := ob D (g 1) 6 [.int (iI (σ 0)), .int (iI (σ 1))]) (As := [.int (iI (y))]) (rest := []) ⟨hx, hb, hml, hown, hts⟩ (c_firstDay l D (ty3 cI cO cL) (g 1) (σ 0) (σ 1) (y) w0 w1 (by omega)) (cwV 1 hts gX5_feastDay_X4_firstDay rfl rfl rfl (by decide +kernel) ⟨Nat.le_of_ble_eq_true rfl, Nat.le_of_ble_eq_true rfl⟩) (ob_recv hPic.at1 hK rfl) hPic.at1 hK rfl hl.1 rfl (Nat.le_of_ble_eq_true rfl) dX5_feastDay_5 (Nat.zero_le _) (Nat.zero_le _) ?_
  have hfd5 := m_fd_le (cy := (σ 0)) (lq := (σ 1)) (y := (y)) w0.1 w1 (by omega)
  refine lv_aload_n hx hb dX5_feastDay_8 rfl (lv_at hl 1 rfl) ?_
  refine q_get (ci := 2) (C := RX0) (T := TX0) (N := 5) hx hb hts hin_X0 hown hK (v := .int (iI (T (5 * i)))) (hPic.fe hi) rfl 0 (by decide) (hts (.fieldLink RX5 279 "AlmanacHouse$Feast" "month" "I") (List.mem_of_getElem? (i := 2) rfl)) (fun _ h9 => h9) rfl dX5_feastDay_9 ?_
  refine lv_aload_n hx hb dX5_feastDay_12 rfl (lv_at hl 1 rfl) ?_
  refine q_get (ci := 2) (C := RX0) (T := TX0) (N := 5) hx hb hts hin_X0 hown hK (v := .int (iI (T (5 * i + 1)))) (hPic.fe hi) rfl 1 (by decide) (hts (.fieldLink RX5 282 "AlmanacHouse$Feast" "day" "I") (List.mem_of_getElem? (i := 3) rfl)) (fun _ h9 => h9) rfl dX5_feastDay_13 ?_
  refine q_callS (fr := 0) (lo := 0) (nL := 5) (Pic := fun _ => True) (As := [.int (iI (T (5 * i))), .int (iI (T (5 * i + 1)))]) (rest := [.int (iI (m_fd (σ 0) (σ 1) (y)))]) ⟨hx, hb, hml, hown, hts⟩ (c_inYear l D (ty3 cI cO cL) (T (5 * i)) (T (5 * i + 1)) (by omega)) (va_cwS 2 hts gX5_feastDay_X5_inYear rfl rfl rfl (by decide +kernel) ⟨Nat.le_of_ble_eq_true rfl, Nat.le_of_ble_eq_true rfl⟩) trivial hK rfl hl.1 rfl (Nat.le_of_ble_eq_true rfl) dX5_feastDay_16 (Nat.zero_le _) (Nat.zero_le _) ?_
  refine q_iadd hx hb dX5_feastDay_19 ?_
  refine q_top (fun d0 ed0 => ?_)
  refine lv_istore_n (lv' := [(3, .int (iI (d0))), (0, .ref (g 0)), (1, .ref (g (10 + i))), (2, .int (iI (y)))]) hx hb dX5_feastDay_20 rfl hl (by decide) rfl (fun ls hl => ?_)
  refine lv_aload_n hx hb dX5_feastDay_21 rfl (lv_at hl 2 rfl) ?_
  refine q_get (ci := 2) (C := RX0) (T := TX0) (N := 5) hx hb hts hin_X0 hown hK (v := .int (iI (T (5 * i + 2)))) (hPic.fe hi) rfl 2 (by decide) (hts (.fieldLink RX5 285 "AlmanacHouse$Feast" "moons" "I") (List.mem_of_getElem? (i := 4) rfl)) (fun _ h9 => h9) rfl dX5_feastDay_22 ?_
  refine q_iconst hx hb dX5_feastDay_25 ?_
  have key_66 : ∀ (d1 : Int), d1 = m_d1 (σ 2) (σ 3) (T (5 * i + 2)) (m_d0 (σ 0) (σ 1) (T (5 * i)) (T (5 * i + 1)) y) → ∀ ls : Array Slot, lv_has ls 5 [(0, .ref (g 0)), (1, .ref (g (10 + i))), (2, .int (iI (y))), (3, .int (iI (d1)))] → W p l e { frames := 1, cells := 0, slots := 0, locals := 23 } s m args below meth c s.heap [] 0 0 (MQ below (vp_Si (fun r => r = iI (m_F σ T i y))) args s 0 0 (fun _ => False)) (F0 m 66 ls []) := by
    intro d1 hd1e ls hl
    refine lv_aload_n hx hb dX5_feastDay_66 rfl (lv_at hl 1 rfl) ?_
    refine q_get (ci := 2) (C := RX0) (T := TX0) (N := 5) hx hb hts hin_X0 hown hK (v := .int (iI (T (5 * i + 3)))) (hPic.fe hi) rfl 3 (by decide) (hts (.fieldLink RX5 287 "AlmanacHouse$Feast" "weekday" "I") (List.mem_of_getElem? (i := 6) rfl)) (fun _ h9 => h9) rfl dX5_feastDay_67 ?_
    have key_91 : ∀ (d2 : Int), d2 = m_d2 (T (5 * i + 3)) d1 → ∀ ls : Array Slot, lv_has ls 5 [(0, .ref (g 0)), (1, .ref (g (10 + i))), (2, .int (iI (y))), (3, .int (iI (d2)))] → W p l e { frames := 1, cells := 0, slots := 0, locals := 23 } s m args below meth c s.heap [] 0 0 (MQ below (vp_Si (fun r => r = iI (m_F σ T i y))) args s 0 0 (fun _ => False)) (F0 m 91 ls []) := by
      intro d2 hd2e ls hl
      refine lv_iload_n hx hb dX5_feastDay_91 rfl (lv_at hl 3 rfl) ?_
      refine lv_aload_n hx hb dX5_feastDay_92 rfl (lv_at hl 1 rfl) ?_
      refine q_get (ci := 2) (C := RX0) (T := TX0) (N := 5) hx hb hts hin_X0 hown hK (v := .int (iI (T (5 * i + 4)))) (hPic.fe hi) rfl 4 (by decide) (hts (.fieldLink RX5 290 "AlmanacHouse$Feast" "offset" "I") (List.mem_of_getElem? (i := 7) rfl)) (fun _ h9 => h9) rfl dX5_feastDay_93 ?_
      refine q_iadd hx hb dX5_feastDay_96 ?_
      exact q_iret hx hb hr hlocks (by unfold m_F m_fday; rw [← hd1e, ← hd2e]) dX5_feastDay_97
    refine q_if_lt (tgt := 91) hx hb dX5_feastDay_70 (by decide) (by omega) (fun c_1 => ?_) (fun c_1 => ?_)
    · skip
      exact key_91 _ (by unfold m_d2; split <;> omega) _ (lv_sub hl [0, 1, 2, 3] rfl)
    · skip
      refine lv_iload_n hx hb dX5_feastDay_73 rfl (lv_at hl 3 rfl) ?_
      refine lv_aload_n hx hb dX5_feastDay_74 rfl (lv_at hl 1 rfl) ?_
      refine q_get (ci := 2) (C := RX0) (T := TX0) (N := 5) hx hb hts hin_X0 hown hK (v := .int (iI (T (5 * i + 3)))) (hPic.fe hi) rfl 3 (by decide) (hts (.fieldLink RX5 287 "AlmanacHouse$Feast" "weekday" "I") (List.mem_of_getElem? (i := 6) rfl)) (fun _ h9 => h9) rfl dX5_feastDay_75 ?_
      refine lv_iload_n hx hb dX5_feastDay_78 rfl (lv_at hl 3 rfl) ?_
      refine q_bipush hx hb dX5_feastDay_79 (by decide) ?_
      refine q_irem hx hb dX5_feastDay_81 (by omega) (by omega) ?_
      refine q_isub hx hb dX5_feastDay_82 ?_
      refine q_bipush hx hb dX5_feastDay_83 (by decide) ?_
      refine q_iadd hx hb dX5_feastDay_85 ?_
      refine q_bipush hx hb dX5_feastDay_86 (by decide) ?_
      refine q_irem hx hb dX5_feastDay_88 (by omega) (by omega) ?_
      refine q_iadd hx hb dX5_feastDay_89 ?_
      refine q_top (fun v_2 ev_2 => ?_)
      refine lv_istore_n (lv' := [(3, .int (iI (v_2))), (0, .ref (g 0)), (1, .ref (g (10 + i))), (2, .int (iI (y)))]) hx hb dX5_feastDay_90 rfl hl (by decide) rfl (fun ls hl => ?_)
      exact key_91 _ (by unfold m_d2; split <;> omega) _ (lv_sub hl [1, 2, 3, 0] rfl)
  refine q_icmp_lt (tgt := 66) hx hb dX5_feastDay_26 (by decide) (by omega) (by omega) (fun c_3 => ?_) (fun c_3 => ?_)
  · skip
    exact key_66 _ (by unfold m_d1; rw [show m_d0 (σ 0) (σ 1) (T (5 * i)) (T (5 * i + 1)) y = d0 by unfold m_d0; omega]; split <;> first | omega | (rw [← ek]; omega)) _ (lv_sub hl [1, 2, 3, 0] rfl)
  · skip
    refine lv_aload_n hx hb dX5_feastDay_29 rfl (lv_at hl 1 rfl) ?_
    refine q_get (ci := 7) (C := RX5) (T := TX5) (N := 7) hx hb hts hin_X5 hown hK (v := .ref (g 2)) hPic.at0 rfl 1 (by decide) (hts (.fieldLink RX5 19 "AlmanacHouse" "moons" "LAlmanacHouse$Moons;") (List.mem_of_getElem? (i := 5) rfl)) (fun _ h9 => h9) rfl dX5_feastDay_30 ?_
    refine q_sipush hx hb dX5_feastDay_33 (by decide) ?_
    refine lv_iload_n hx hb dX5_feastDay_36 rfl (lv_at hl 0 rfl) ?_
    refine q_imul hx hb dX5_feastDay_37 ?_
    refine q_iconst hx hb dX5_feastDay_38 ?_
    refine q_callV (fr := 0) (lo := 0) (nL := 5) (Pic := ob D (g 2) 3 [.int (iI (σ 2)), .int (iI (σ 3))]) (As := [.int (iI (1000 * d0)), .int (iI (1))]) (rest := []) ⟨hx, hb, hml, hown, hts⟩ (c_firstFrom l D (ty3 cI cO cL) (g 2) (σ 2) (σ 3) (1000 * d0) (1) w2 w3 (by omega) (by omega)) (cwV 2 hts gX5_feastDay_X1_firstFrom rfl rfl rfl (by decide +kernel) ⟨Nat.le_of_ble_eq_true rfl, Nat.le_of_ble_eq_true rfl⟩) (ob_recv hPic.at2 hK rfl) hPic.at2 hK rfl hl.1 rfl (Nat.le_of_ble_eq_true rfl) dX5_feastDay_39 (Nat.zero_le _) (Nat.zero_le _) ?_
    have hff39 := m_ff_in (ln := (σ 2)) (fi := (σ 3)) (b := (1)) (t := (1000 * d0)) w2
    have hfu39 := m_ff_up (ln := (σ 2)) (fi := (σ 3)) (b := (1)) (t := (1000 * d0)) w2 w3 (by omega)
    refine lv_aload_n hx hb dX5_feastDay_42 rfl (lv_at hl 2 rfl) ?_
    refine q_get (ci := 2) (C := RX0) (T := TX0) (N := 5) hx hb hts hin_X0 hown hK (v := .int (iI (T (5 * i + 2)))) (hPic.fe hi) rfl 2 (by decide) (hts (.fieldLink RX5 285 "AlmanacHouse$Feast" "moons" "I") (List.mem_of_getElem? (i := 4) rfl)) (fun _ h9 => h9) rfl dX5_feastDay_43 ?_
    refine q_iadd hx hb dX5_feastDay_46 ?_
    refine q_iconst hx hb dX5_feastDay_47 ?_
    refine q_isub hx hb dX5_feastDay_48 ?_
    refine q_top (fun k ek => ?_)
    refine lv_istore (lv' := [(4, .int (iI (k))), (3, .int (iI (d0))), (0, .ref (g 0)), (1, .ref (g (10 + i))), (2, .int (iI (y)))]) hx hb dX5_feastDay_49 hl (by decide) rfl (fun ls hl => ?_)
    refine lv_aload_n hx hb dX5_feastDay_51 rfl (lv_at hl 2 rfl) ?_
    refine q_get (ci := 7) (C := RX5) (T := TX5) (N := 7) hx hb hts hin_X5 hown hK (v := .ref (g 2)) hPic.at0 rfl 1 (by decide) (hts (.fieldLink RX5 19 "AlmanacHouse" "moons" "LAlmanacHouse$Moons;") (List.mem_of_getElem? (i := 5) rfl)) (fun _ h9 => h9) rfl dX5_feastDay_52 ?_
    refine lv_iload hx hb dX5_feastDay_55 (lv_at hl 0 rfl) ?_
    refine q_iconst hx hb dX5_feastDay_57 ?_
    refine q_callV (fr := 0) (lo := 0) (nL := 5) (Pic := ob D (g 2) 3 [.int (iI (σ 2)), .int (iI (σ 3))]) (As := [.int (iI (k)), .int (iI (1))]) (rest := []) ⟨hx, hb, hml, hown, hts⟩ (c_timeOf l D (ty3 cI cO cL) (g 2) (σ 2) (σ 3) (k) (1) w2 w3 (by omega) (by omega)) (cwV 2 hts gX5_feastDay_X1_timeOf rfl rfl rfl (by decide +kernel) ⟨Nat.le_of_ble_eq_true rfl, Nat.le_of_ble_eq_true rfl⟩) (ob_recv hPic.at2 hK rfl) hPic.at2 hK rfl hl.1 rfl (Nat.le_of_ble_eq_true rfl) dX5_feastDay_58 (Nat.zero_le _) (Nat.zero_le _) ?_
    have htm58 := m_tm_in (ln := (σ 2)) (fi := (σ 3)) (b := (1)) (k := (k)) w2 w3 (by omega)
    refine q_sipush hx hb dX5_feastDay_61 (by decide) ?_
    refine q_idiv hx hb dX5_feastDay_64 (by omega) (by omega) ?_
    refine q_top (fun v_4 ev_4 => ?_)
    refine lv_istore_n (lv' := [(3, .int (iI (v_4))), (4, .int (iI (k))), (0, .ref (g 0)), (1, .ref (g (10 + i))), (2, .int (iI (y)))]) hx hb dX5_feastDay_65 rfl hl (by decide) rfl (fun ls hl => ?_)
    exact key_66 _ (by unfold m_d1; rw [show m_d0 (σ 0) (σ 1) (T (5 * i)) (T (5 * i + 1)) y = d0 by unfold m_d0; omega]; split <;> first | omega | (rw [← ek]; omega)) _ (lv_sub hl [2, 3, 4, 0] rfl)
set_option maxHeartbeats 4000000 in
set_option maxRecDepth 100000 in
/-- Sheet.dayAt -/
theorem c_dayAt (l : Launch) (D : va_G) (cI cO cL : ClassId) (sa da : Nat) (yr hd ec : Int) (dy : Nat → Int) (i : Int) (hi : 0 ≤ i ∧ i < 8) : MI l yX3_dayAt wsX3_dayAt 0 0 D (ty3 cI cO cL) (fun H => ob D sa 5 [.int (iI yr), .ref da, .int (iI hd), .int (iI ec)] H ∧ ar D da (cI, 8, .inl (fun i => iI (dy i))) H) [.ref sa, .int (iI (i))] (dy i.toNat) := by
  refine MI_of (cc := cX3_dayAt) (maxL := 2) (ret := (some .int)) (by decide) rfl (Nat.le_of_ble_eq_true rfl) ?_
  intro p e s m args below meth c ls hx hb hr hlocks hml hown hts hPic hK hl
  have hl : lv_has ls 2 [(0, .ref sa), (1, .int (iI (i)))] := hl
  have hin_X3 : ∀ w ∈ u_ws RX3 TX3 4, w ∈ wsX3_dayAt := (fun w h => List.mem_cons_of_mem _ (List.mem_append_right _ h))
  refine lv_iload_n hx hb dX3_dayAt_0 rfl (lv_at hl 1 rfl) ?_
  refine q_if_lt (tgt := 13) hx hb dX3_dayAt_1 (by decide) (by omega) (fun c_1 => ?_) (fun c_1 => ?_)
  · exfalso
    omega
  · skip
    refine lv_iload_n hx hb dX3_dayAt_4 rfl (lv_at hl 1 rfl) ?_
    refine lv_aload_n hx hb dX3_dayAt_5 rfl (lv_at hl 0 rfl) ?_
    refine q_get (ci := 5) (C := RX3) (T := TX3) (N := 4) hx hb hts hin_X3 hown hK (v := .ref da) hPic.1 rfl 1 (by decide) (hts (.fieldLink RX3 9 "AlmanacHouse$Sheet" "days" "[I") (List.mem_of_getElem? (i := 1) rfl)) (fun _ h9 => h9) rfl dX3_dayAt_6 ?_
    refine q_alen (z := 8) hx hb hK hPic.2 0 rfl (by rfl) dX3_dayAt_9 ?_
    refine q_icmp_lt (tgt := 17) hx hb dX3_dayAt_10 (by decide) (by omega) (by omega) (fun c_2 => ?_) (fun c_2 => ?_)
    · skip
      refine lv_aload_n hx hb dX3_dayAt_17 rfl (lv_at hl 0 rfl) ?_
      refine q_get (ci := 5) (C := RX3) (T := TX3) (N := 4) hx hb hts hin_X3 hown hK (v := .ref da) hPic.1 rfl 1 (by decide) (hts (.fieldLink RX3 9 "AlmanacHouse$Sheet" "days" "[I") (List.mem_of_getElem? (i := 1) rfl)) (fun _ h9 => h9) rfl dX3_dayAt_18 ?_
      refine lv_iload_n hx hb dX3_dayAt_21 rfl (lv_at hl 1 rfl) ?_
      refine q_iald (cA := cI) (n := 8) (f := dy) hx hb hK hPic.2 0 rfl (by omega) (by decide) dX3_dayAt_22 ?_
      exact q_iret hx hb hr hlocks (rfl) dX3_dayAt_23
    · exfalso
      omega
set_option maxHeartbeats 4000000 in
set_option maxRecDepth 100000 in
/-- changedDays -/
theorem c_changedDays (l : Launch) (D : va_G) (cI cO cL : ClassId) (g : Nat → Nat) (σ T : Nat → Int) (hW : WF σ T) (sa da : Nat) (yr hd ec : Int) (dy : Nat → Int) (hyr : 0 ≤ yr ∧ yr ≤ 999) (hhd : 0 ≤ hd ∧ hd ≤ σ 6) (hec : 0 ≤ ec ∧ ec ≤ 100000) (hdy : ∀ i : Nat, i < 8 → -1000000 ≤ dy i ∧ dy i ≤ 1000000) : MI l yX5_changedDays wsX5_changedDays 3 64 D (ty3 cI cO cL) (fun H => PicB D cO g σ T H ∧ ob D sa 5 [.int (iI yr), .ref da, .int (iI hd), .int (iI ec)] H ∧ ar D da (cI, 8, .inl (fun i => iI (dy i))) H) [.ref (g 0), .ref sa] (m_chg (fun i => m_F σ T i yr) dy hd.toNat) := by
  refine MI_of (cc := cX5_changedDays) (maxL := 4) (ret := (some .int)) (by decide) rfl (Nat.le_of_ble_eq_true rfl) ?_
  intro p e s m args below meth c ls hx hb hr hlocks hml hown hts hPic hK hl
  have hl : lv_has ls 4 [(0, .ref (g 0)), (1, .ref sa)] := hl
  have hin_X3 : ∀ w ∈ u_ws RX3 TX3 4, w ∈ wsX5_changedDays := (fun w h => List.mem_cons_of_mem _ (List.mem_append_left _ (List.mem_append_left _ (List.mem_append_left _ (List.mem_append_left _ (List.mem_append_left _ (List.mem_append_right _ h)))))))
  have hin_X5 : ∀ w ∈ u_ws RX5 TX5 7, w ∈ wsX5_changedDays := (fun w h => List.mem_cons_of_mem _ (List.mem_append_left _ (List.mem_append_left _ (List.mem_append_left _ (List.mem_append_left _ (List.mem_append_right _ h))))))
  obtain ⟨w0, w1, w2, w3, w4, w5, w6, w7, w8⟩ := id hW
  refine q_iconst hx hb dX5_changedDays_0 ?_
  refine lv_istore_n (lv' := [(2, .int (iI (0))), (0, .ref (g 0)), (1, .ref sa)]) hx hb dX5_changedDays_1 rfl hl (by decide) rfl (fun ls hl => ?_)
  refine q_iconst hx hb dX5_changedDays_2 ?_
  refine lv_istore_n (lv' := [(3, .int (iI (0))), (2, .int (iI (0))), (0, .ref (g 0)), (1, .ref sa)]) hx hb dX5_changedDays_3 rfl hl (by decide) rfl (fun ls hl => ?_)
  have key_4 : ∀ (fu : Nat) (k : Int) (ch : Int), 0 ≤ k ∧ k ≤ hd → ch = m_chg (fun i => m_F σ T i yr) dy k.toNat → (hd - k) < (fu : Int) → ∀ ls : Array Slot, lv_has ls 4 [(0, .ref (g 0)), (1, .ref sa), (2, .int (iI (ch))), (3, .int (iI (k)))] → W p l e { frames := 3, cells := 0, slots := 0, locals := 64 } s m args below meth c s.heap [] 0 0 (MQ below (vp_Si (fun r => r = iI (m_chg (fun i => m_F σ T i yr) dy hd.toNat))) args s 0 0 (fun _ => False)) (F0 m 4 ls []) := by
    intro fu
    induction fu with
    | zero => intro k ch hk hch hm_4 ls hl; exact absurd hm_4 (by omega)
    | succ fu ih_4 =>
      intro k ch hk hch hm_4 ls hl
      refine lv_iload_n hx hb dX5_changedDays_4 rfl (lv_at hl 3 rfl) ?_
      refine lv_aload_n hx hb dX5_changedDays_5 rfl (lv_at hl 1 rfl) ?_
      refine q_get (ci := 5) (C := RX3) (T := TX3) (N := 4) hx hb hts hin_X3 hown hK (v := .int (iI (hd))) hPic.2.1 rfl 2 (by decide) (hts (.fieldLink RX5 219 "AlmanacHouse$Sheet" "held" "I") (List.mem_of_getElem? (i := 1) rfl)) (fun _ h9 => h9) rfl dX5_changedDays_6 ?_
      refine q_icmp_ge (tgt := 59) hx hb dX5_changedDays_9 (by decide) (by omega) (by omega) (fun c_1 => ?_) (fun c_1 => ?_)
      · skip
        refine lv_iload_n hx hb dX5_changedDays_59 rfl (lv_at hl 2 rfl) ?_
        exact q_iret hx hb hr hlocks (by rw [hch]; congr 1; omega) dX5_changedDays_60
      · skip
        refine lv_iload_n hx hb dX5_changedDays_12 rfl (lv_at hl 3 rfl) ?_
        refine lv_aload_n hx hb dX5_changedDays_13 rfl (lv_at hl 0 rfl) ?_
        refine q_get (ci := 7) (C := RX5) (T := TX5) (N := 7) hx hb hts hin_X5 hown hK (v := .ref (g 4)) hPic.1.at0 rfl 3 (by decide) (hts (.fieldLink RX5 33 "AlmanacHouse" "feasts" "Ljava/util/ArrayList;") (List.mem_of_getElem? (i := 2) rfl)) (fun _ h9 => h9) rfl dX5_changedDays_14 ?_
        refine q_callV (fr := 0) (lo := 0) (nL := 4) (Pic := ob D (g 4) 1 [.int (iI (σ 6)), .ref (g 6), .int (iI (σ 6))]) (As := []) (rest := [.int (iI (k))]) ⟨hx, hb, hml, hown, hts⟩ (c_size l D (ty3 cI cO cL) (g 4) (g 6) (σ 6) (σ 6)) (cwV 0 hts gX5_changedDays_Jx4a65c_size_8abf5 rfl rfl rfl (by decide +kernel) ⟨Nat.le_of_ble_eq_true rfl, Nat.le_of_ble_eq_true rfl⟩) (ob_recv hPic.1.at4 hK rfl) hPic.1.at4 hK rfl hl.1 rfl (Nat.le_of_ble_eq_true rfl) dX5_changedDays_17 (Nat.zero_le _) (Nat.zero_le _) ?_
        refine q_icmp_ge (tgt := 59) hx hb dX5_changedDays_20 (by decide) (by omega) (by omega) (fun c_2 => ?_) (fun c_2 => ?_)
        · skip
          refine lv_iload_n hx hb dX5_changedDays_59 rfl (lv_at hl 2 rfl) ?_
          exact q_iret hx hb hr hlocks (by rw [hch]; congr 1; omega) dX5_changedDays_60
        · skip
          refine lv_aload_n hx hb dX5_changedDays_23 rfl (lv_at hl 0 rfl) ?_
          refine lv_aload_n hx hb dX5_changedDays_24 rfl (lv_at hl 0 rfl) ?_
          refine q_get (ci := 7) (C := RX5) (T := TX5) (N := 7) hx hb hts hin_X5 hown hK (v := .ref (g 4)) hPic.1.at0 rfl 3 (by decide) (hts (.fieldLink RX5 33 "AlmanacHouse" "feasts" "Ljava/util/ArrayList;") (List.mem_of_getElem? (i := 2) rfl)) (fun _ h9 => h9) rfl dX5_changedDays_25 ?_
          refine lv_iload_n hx hb dX5_changedDays_28 rfl (lv_at hl 3 rfl) ?_
          refine q_callVq (fr := 2) (lo := 43) (nL := 4) (Pic := fun H => ob D (g 4) 1 [.int (iI (σ 6)), .ref (g 6), .int (iI (σ 6))] H ∧ ar D (g 6) (cO, 10, .inr (.inr (.inr (.inr (fun j => if j < (σ 6).toNat then some (g (10 + j)) else none))))) H) (As := [.int (iI (k))]) (rest := [.ref (g 0)]) ⟨hx, hb, hml, hown, hts⟩ (c_get l D cI cO cL (g 4) (g 6) (g (10 + (k).toNat)) (σ 6) (σ 6) (k) (fun j => if j < (σ 6).toNat then some (g (10 + j)) else none) (by omega) (by omega) (if_pos (by omega))) (cwV 1 hts gX5_changedDays_Jx4a65c_get_915e3 rfl rfl rfl (by decide +kernel) ⟨Nat.le_of_ble_eq_true rfl, Nat.le_of_ble_eq_true rfl⟩) (ob_recv hPic.1.at4 hK rfl) ⟨hPic.1.at4, hPic.1.arr (by omega)⟩ hK rfl hl.1 rfl (Nat.le_of_ble_eq_true rfl) dX5_changedDays_29 (Nat.zero_le _) (Nat.zero_le _) ?_
          refine q_cast (ci := 2) (T := TX0) (N := 5) hx hb hown (hts (.classLink RX5 173 "AlmanacHouse$Feast") (List.mem_of_getElem? (i := 3) rfl)) hK (hPic.1.fe (i := (k).toNat) (by omega)) rfl dX5_changedDays_32 ?_
          refine lv_aload_n hx hb dX5_changedDays_35 rfl (lv_at hl 1 rfl) ?_
          refine q_get (ci := 5) (C := RX3) (T := TX3) (N := 4) hx hb hts hin_X3 hown hK (v := .int (iI (yr))) hPic.2.1 rfl 0 (by decide) (hts (.fieldLink RX5 216 "AlmanacHouse$Sheet" "year" "I") (List.mem_of_getElem? (i := 4) rfl)) (fun _ h9 => h9) rfl dX5_changedDays_36 ?_
          refine q_callV (fr := 1) (lo := 23) (nL := 4) (Pic := PicB D cO g σ T) (As := [.ref (g (10 + (k).toNat)), .int (iI (yr))]) (rest := []) ⟨hx, hb, hml, hown, hts⟩ (c_feastDay l D cI cO cL g σ T hW ((k).toNat) (yr) (by omega) (by omega)) (cwV 2 hts gX5_changedDays_X5_feastDay rfl rfl rfl (by decide +kernel) ⟨Nat.le_of_ble_eq_true rfl, Nat.le_of_ble_eq_true rfl⟩) (ob_recv hPic.1.at0 hK rfl) hPic.1 hK rfl hl.1 rfl (Nat.le_of_ble_eq_true rfl) dX5_changedDays_39 (Nat.zero_le _) (Nat.zero_le _) ?_
          have hF39 := m_F_in hW (i := (k).toNat) (by omega) (y := yr) (by omega)
          refine lv_aload_n hx hb dX5_changedDays_42 rfl (lv_at hl 1 rfl) ?_
          refine lv_iload_n hx hb dX5_changedDays_43 rfl (lv_at hl 3 rfl) ?_
          refine q_callV (fr := 0) (lo := 0) (nL := 4) (Pic := fun H => ob D sa 5 [.int (iI (yr)), .ref da, .int (iI (hd)), .int (iI (ec))] H ∧ ar D da (cI, 8, .inl (fun i => iI ((dy) i))) H) (As := [.int (iI (k))]) (rest := [.int (iI (m_F σ T ((k).toNat) (yr)))]) ⟨hx, hb, hml, hown, hts⟩ (c_dayAt l D cI cO cL sa da (yr) (hd) (ec) (dy) (k) (by omega)) (cwV 1 hts gX5_changedDays_X3_dayAt rfl rfl rfl (by decide +kernel) ⟨Nat.le_of_ble_eq_true rfl, Nat.le_of_ble_eq_true rfl⟩) (ob_recv hPic.2.1 hK rfl) ⟨hPic.2.1, hPic.2.2⟩ hK rfl hl.1 rfl (Nat.le_of_ble_eq_true rfl) dX5_changedDays_44 (Nat.zero_le _) (Nat.zero_le _) ?_
          have hda44 := hdy (Int.toNat (k)) (by omega)
          refine q_icmp_eq (tgt := 53) hx hb dX5_changedDays_47 (by decide) (by omega) (by omega) (fun c_3 => ?_) (fun c_3 => ?_)
          · skip
            refine q_iinc (k := 3) (lv' := [(3, .int (iI (k + 1))), (0, .ref (g 0)), (1, .ref sa), (2, .int (iI (ch)))]) hx hb dX5_changedDays_53 hl rfl (by decide) rfl (fun ls hl => ?_)
            refine lv_goto (tgt := 4) hx hb dX5_changedDays_56 (by decide) ?_
            have hst := m_chg_step (fun i => m_F σ T i yr) dy hk.1
            exact ih_4 _ _ (by omega) (by rw [hst]; split <;> omega) (by omega) _ (lv_sub hl [1, 2, 3, 0] rfl)
          · skip
            refine q_iinc (k := 2) (lv' := [(2, .int (iI (ch + 1))), (0, .ref (g 0)), (1, .ref sa), (3, .int (iI (k)))]) hx hb dX5_changedDays_50 hl rfl (by decide) rfl (fun ls hl => ?_)
            refine q_iinc (k := 3) (lv' := [(3, .int (iI (k + 1))), (2, .int (iI (ch + 1))), (0, .ref (g 0)), (1, .ref sa)]) hx hb dX5_changedDays_53 hl rfl (by decide) rfl (fun ls hl => ?_)
            refine lv_goto (tgt := 4) hx hb dX5_changedDays_56 (by decide) ?_
            have hst := m_chg_step (fun i => m_F σ T i yr) dy hk.1
            exact ih_4 _ _ (by omega) (by rw [hst]; split <;> omega) (by omega) _ (lv_sub hl [2, 3, 1, 0] rfl)
  exact key_4 (hd.toNat + 1) _ _ (by omega) (by rfl) (by omega) _ (lv_sub hl [2, 3, 1, 0] rfl)
set_option maxHeartbeats 4000000 in
set_option maxRecDepth 100000 in
/-- greatestShift -/
theorem c_greatestShift (l : Launch) (D : va_G) (cI cO cL : ClassId) (g : Nat → Nat) (σ T : Nat → Int) (hW : WF σ T) (sa da : Nat) (yr hd ec : Int) (dy : Nat → Int) (hyr : 0 ≤ yr ∧ yr ≤ 999) (hhd : 0 ≤ hd ∧ hd ≤ σ 6) (hec : 0 ≤ ec ∧ ec ≤ 100000) (hdy : ∀ i : Nat, i < 8 → -1000000 ≤ dy i ∧ dy i ≤ 1000000) : MI l yX5_greatestShift wsX5_greatestShift 3 64 D (ty3 cI cO cL) (fun H => PicB D cO g σ T H ∧ ob D sa 5 [.int (iI yr), .ref da, .int (iI hd), .int (iI ec)] H ∧ ar D da (cI, 8, .inl (fun i => iI (dy i))) H) [.ref (g 0), .ref sa] (m_sh (fun i => m_F σ T i yr) dy hd.toNat) := by
  refine MI_of (cc := cX5_greatestShift) (maxL := 5) (ret := (some .int)) (by decide) rfl (Nat.le_of_ble_eq_true rfl) ?_
  intro p e s m args below meth c ls hx hb hr hlocks hml hown hts hPic hK hl
  have hl : lv_has ls 5 [(0, .ref (g 0)), (1, .ref sa)] := hl
  have hin_X3 : ∀ w ∈ u_ws RX3 TX3 4, w ∈ wsX5_greatestShift := (fun w h => List.mem_cons_of_mem _ (List.mem_append_left _ (List.mem_append_left _ (List.mem_append_left _ (List.mem_append_left _ (List.mem_append_left _ (List.mem_append_right _ h)))))))
  have hin_X5 : ∀ w ∈ u_ws RX5 TX5 7, w ∈ wsX5_greatestShift := (fun w h => List.mem_cons_of_mem _ (List.mem_append_left _ (List.mem_append_left _ (List.mem_append_left _ (List.mem_append_left _ (List.mem_append_right _ h))))))
  obtain ⟨w0, w1, w2, w3, w4, w5, w6, w7, w8⟩ := id hW
  refine q_iconst hx hb dX5_greatestShift_0 ?_
  refine lv_istore_n (lv' := [(2, .int (iI (0))), (0, .ref (g 0)), (1, .ref sa)]) hx hb dX5_greatestShift_1 rfl hl (by decide) rfl (fun ls hl => ?_)
  refine q_iconst hx hb dX5_greatestShift_2 ?_
  refine lv_istore_n (lv' := [(3, .int (iI (0))), (2, .int (iI (0))), (0, .ref (g 0)), (1, .ref sa)]) hx hb dX5_greatestShift_3 rfl hl (by decide) rfl (fun ls hl => ?_)
  have key_4 : ∀ (fu : Nat) (k : Int) (gr : Int), 0 ≤ k ∧ k ≤ hd → gr = m_sh (fun i => m_F σ T i yr) dy k.toNat → (hd - k) < (fu : Int) → ∀ ls : Array Slot, lv_has ls 5 [(0, .ref (g 0)), (1, .ref sa), (2, .int (iI (gr))), (3, .int (iI (k)))] → W p l e { frames := 3, cells := 0, slots := 0, locals := 64 } s m args below meth c s.heap [] 0 0 (MQ below (vp_Si (fun r => r = iI (m_sh (fun i => m_F σ T i yr) dy hd.toNat))) args s 0 0 (fun _ => False)) (F0 m 4 ls []) := by
    intro fu
    induction fu with
    | zero => intro k gr hk hgr hm_4 ls hl; exact absurd hm_4 (by omega)
    | succ fu ih_4 =>
      intro k gr hk hgr hm_4 ls hl
      have hgi := m_sh_in (f := fun i => m_F σ T i yr) (dy := dy) (n := k.toNat) (fun i hi => m_F_in hW (by omega) hyr) (fun i hi => hdy i (by omega))
      refine lv_iload_n hx hb dX5_greatestShift_4 rfl (lv_at hl 3 rfl) ?_
      refine lv_aload_n hx hb dX5_greatestShift_5 rfl (lv_at hl 1 rfl) ?_
      refine q_get (ci := 5) (C := RX3) (T := TX3) (N := 4) hx hb hts hin_X3 hown hK (v := .int (iI (hd))) hPic.2.1 rfl 2 (by decide) (hts (.fieldLink RX5 219 "AlmanacHouse$Sheet" "held" "I") (List.mem_of_getElem? (i := 1) rfl)) (fun _ h9 => h9) rfl dX5_greatestShift_6 ?_
      refine q_icmp_ge (tgt := 66) hx hb dX5_greatestShift_9 (by decide) (by omega) (by omega) (fun c_1 => ?_) (fun c_1 => ?_)
      · skip
        refine lv_iload_n hx hb dX5_greatestShift_66 rfl (lv_at hl 2 rfl) ?_
        exact q_iret hx hb hr hlocks (by rw [hgr]; congr 1; omega) dX5_greatestShift_67
      · skip
        refine lv_iload_n hx hb dX5_greatestShift_12 rfl (lv_at hl 3 rfl) ?_
        refine lv_aload_n hx hb dX5_greatestShift_13 rfl (lv_at hl 0 rfl) ?_
        refine q_get (ci := 7) (C := RX5) (T := TX5) (N := 7) hx hb hts hin_X5 hown hK (v := .ref (g 4)) hPic.1.at0 rfl 3 (by decide) (hts (.fieldLink RX5 33 "AlmanacHouse" "feasts" "Ljava/util/ArrayList;") (List.mem_of_getElem? (i := 2) rfl)) (fun _ h9 => h9) rfl dX5_greatestShift_14 ?_
        refine q_callV (fr := 0) (lo := 0) (nL := 5) (Pic := ob D (g 4) 1 [.int (iI (σ 6)), .ref (g 6), .int (iI (σ 6))]) (As := []) (rest := [.int (iI (k))]) ⟨hx, hb, hml, hown, hts⟩ (c_size l D (ty3 cI cO cL) (g 4) (g 6) (σ 6) (σ 6)) (cwV 0 hts gX5_greatestShift_Jx4a65c_size_8abf5 rfl rfl rfl (by decide +kernel) ⟨Nat.le_of_ble_eq_true rfl, Nat.le_of_ble_eq_true rfl⟩) (ob_recv hPic.1.at4 hK rfl) hPic.1.at4 hK rfl hl.1 rfl (Nat.le_of_ble_eq_true rfl) dX5_greatestShift_17 (Nat.zero_le _) (Nat.zero_le _) ?_
        refine q_icmp_ge (tgt := 66) hx hb dX5_greatestShift_20 (by decide) (by omega) (by omega) (fun c_2 => ?_) (fun c_2 => ?_)
        · skip
          refine lv_iload_n hx hb dX5_greatestShift_66 rfl (lv_at hl 2 rfl) ?_
          exact q_iret hx hb hr hlocks (by rw [hgr]; congr 1; omega) dX5_greatestShift_67
        · skip
          refine lv_aload_n hx hb dX5_greatestShift_23 rfl (lv_at hl 0 rfl) ?_
          refine lv_aload_n hx hb dX5_greatestShift_24 rfl (lv_at hl 0 rfl) ?_
          refine q_get (ci := 7) (C := RX5) (T := TX5) (N := 7) hx hb hts hin_X5 hown hK (v := .ref (g 4)) hPic.1.at0 rfl 3 (by decide) (hts (.fieldLink RX5 33 "AlmanacHouse" "feasts" "Ljava/util/ArrayList;") (List.mem_of_getElem? (i := 2) rfl)) (fun _ h9 => h9) rfl dX5_greatestShift_25 ?_
          refine lv_iload_n hx hb dX5_greatestShift_28 rfl (lv_at hl 3 rfl) ?_
          refine q_callVq (fr := 2) (lo := 43) (nL := 5) (Pic := fun H => ob D (g 4) 1 [.int (iI (σ 6)), .ref (g 6), .int (iI (σ 6))] H ∧ ar D (g 6) (cO, 10, .inr (.inr (.inr (.inr (fun j => if j < (σ 6).toNat then some (g (10 + j)) else none))))) H) (As := [.int (iI (k))]) (rest := [.ref (g 0)]) ⟨hx, hb, hml, hown, hts⟩ (c_get l D cI cO cL (g 4) (g 6) (g (10 + (k).toNat)) (σ 6) (σ 6) (k) (fun j => if j < (σ 6).toNat then some (g (10 + j)) else none) (by omega) (by omega) (if_pos (by omega))) (cwV 1 hts gX5_greatestShift_Jx4a65c_get_915e3 rfl rfl rfl (by decide +kernel) ⟨Nat.le_of_ble_eq_true rfl, Nat.le_of_ble_eq_true rfl⟩) (ob_recv hPic.1.at4 hK rfl) ⟨hPic.1.at4, hPic.1.arr (by omega)⟩ hK rfl hl.1 rfl (Nat.le_of_ble_eq_true rfl) dX5_greatestShift_29 (Nat.zero_le _) (Nat.zero_le _) ?_
          refine q_cast (ci := 2) (T := TX0) (N := 5) hx hb hown (hts (.classLink RX5 173 "AlmanacHouse$Feast") (List.mem_of_getElem? (i := 3) rfl)) hK (hPic.1.fe (i := (k).toNat) (by omega)) rfl dX5_greatestShift_32 ?_
          refine lv_aload_n hx hb dX5_greatestShift_35 rfl (lv_at hl 1 rfl) ?_
          refine q_get (ci := 5) (C := RX3) (T := TX3) (N := 4) hx hb hts hin_X3 hown hK (v := .int (iI (yr))) hPic.2.1 rfl 0 (by decide) (hts (.fieldLink RX5 216 "AlmanacHouse$Sheet" "year" "I") (List.mem_of_getElem? (i := 4) rfl)) (fun _ h9 => h9) rfl dX5_greatestShift_36 ?_
          refine q_callV (fr := 1) (lo := 23) (nL := 5) (Pic := PicB D cO g σ T) (As := [.ref (g (10 + (k).toNat)), .int (iI (yr))]) (rest := []) ⟨hx, hb, hml, hown, hts⟩ (c_feastDay l D cI cO cL g σ T hW ((k).toNat) (yr) (by omega) (by omega)) (cwV 2 hts gX5_greatestShift_X5_feastDay rfl rfl rfl (by decide +kernel) ⟨Nat.le_of_ble_eq_true rfl, Nat.le_of_ble_eq_true rfl⟩) (ob_recv hPic.1.at0 hK rfl) hPic.1 hK rfl hl.1 rfl (Nat.le_of_ble_eq_true rfl) dX5_greatestShift_39 (Nat.zero_le _) (Nat.zero_le _) ?_
          have hF39 := m_F_in hW (i := (k).toNat) (by omega) (y := yr) (by omega)
          refine lv_aload_n hx hb dX5_greatestShift_42 rfl (lv_at hl 1 rfl) ?_
          refine lv_iload_n hx hb dX5_greatestShift_43 rfl (lv_at hl 3 rfl) ?_
          refine q_callV (fr := 0) (lo := 0) (nL := 5) (Pic := fun H => ob D sa 5 [.int (iI (yr)), .ref da, .int (iI (hd)), .int (iI (ec))] H ∧ ar D da (cI, 8, .inl (fun i => iI ((dy) i))) H) (As := [.int (iI (k))]) (rest := [.int (iI (m_F σ T ((k).toNat) (yr)))]) ⟨hx, hb, hml, hown, hts⟩ (c_dayAt l D cI cO cL sa da (yr) (hd) (ec) (dy) (k) (by omega)) (cwV 1 hts gX5_greatestShift_X3_dayAt rfl rfl rfl (by decide +kernel) ⟨Nat.le_of_ble_eq_true rfl, Nat.le_of_ble_eq_true rfl⟩) (ob_recv hPic.2.1 hK rfl) ⟨hPic.2.1, hPic.2.2⟩ hK rfl hl.1 rfl (Nat.le_of_ble_eq_true rfl) dX5_greatestShift_44 (Nat.zero_le _) (Nat.zero_le _) ?_
          have hda44 := hdy (Int.toNat (k)) (by omega)
          refine q_isub hx hb dX5_greatestShift_47 ?_
          refine q_top (fun sh esh => ?_)
          refine lv_istore (lv' := [(4, .int (iI (sh))), (0, .ref (g 0)), (1, .ref sa), (2, .int (iI (gr))), (3, .int (iI (k)))]) hx hb dX5_greatestShift_48 hl (by decide) rfl (fun ls hl => ?_)
          refine lv_iload_n hx hb dX5_greatestShift_50 rfl (lv_at hl 3 rfl) ?_
          refine lv_iload hx hb dX5_greatestShift_51 (lv_at hl 0 rfl) ?_
          refine q_mabs hx hb (hml.trans hl.1.symm) hown (hts (.methodLink RX5 296 Lib.Math.abs.name) (List.mem_of_getElem? (i := 5) rfl)) (hts (.static Lib.Math.abs.name) (List.mem_of_getElem? (i := 6) rfl)) (hts (.initialized "java/lang/Math") (List.mem_of_getElem? (i := 7) rfl)) (hts (.code Lib.Math.abs.name Lib.Math.abs.code 1 (some .int)) (List.mem_of_getElem? (i := 8) rfl)) (by omega) (Nat.le_of_ble_eq_true rfl) (Nat.le_of_ble_eq_true rfl) (Nat.zero_le _) (Nat.zero_le _) dX5_greatestShift_53 ?_
          refine q_mmax hx hb (hml.trans hl.1.symm) hown (hts (.methodLink RX5 138 Lib.Math.max.name) (List.mem_of_getElem? (i := 9) rfl)) (hts (.static Lib.Math.max.name) (List.mem_of_getElem? (i := 10) rfl)) (hts (.initialized "java/lang/Math") (List.mem_of_getElem? (i := 7) rfl)) (hts (.code Lib.Math.max.name Lib.Math.max.code 2 (some .int)) (List.mem_of_getElem? (i := 11) rfl)) (by omega) (by split <;> omega) (Nat.le_of_ble_eq_true rfl) (Nat.le_of_ble_eq_true rfl) (Nat.zero_le _) (Nat.zero_le _) dX5_greatestShift_56 ?_
          refine q_top (fun g2 eg2 => ?_)
          refine lv_istore_n (lv' := [(2, .int (iI (g2))), (4, .int (iI (sh))), (0, .ref (g 0)), (1, .ref sa), (3, .int (iI (k)))]) hx hb dX5_greatestShift_59 rfl hl (by decide) rfl (fun ls hl => ?_)
          refine q_iinc (k := 4) (lv' := [(3, .int (iI (k + 1))), (2, .int (iI (g2))), (4, .int (iI (sh))), (0, .ref (g 0)), (1, .ref sa)]) hx hb dX5_greatestShift_60 hl rfl (by decide) rfl (fun ls hl => ?_)
          refine lv_goto (tgt := 4) hx hb dX5_greatestShift_63 (by decide) ?_
          have hst := m_sh_step (fun i => m_F σ T i yr) dy hk.1
          exact ih_4 _ _ (by omega) (by rw [hst, ← hgr]; unfold m_abs; rw [← esh]; exact eg2) (by omega) _ (lv_sub hl [3, 4, 1, 0] rfl)
  exact key_4 (hd.toNat + 1) _ _ (by omega) (by rfl) (by omega) _ (lv_sub hl [2, 3, 1, 0] rfl)
set_option maxHeartbeats 4000000 in
set_option maxRecDepth 100000 in
/-- isWrong -/
theorem c_isWrong (l : Launch) (D : va_G) (cI cO cL : ClassId) (g : Nat → Nat) (σ T : Nat → Int) (hW : WF σ T) (sa da : Nat) (yr hd ec : Int) (dy : Nat → Int) (hyr : 0 ≤ yr ∧ yr ≤ 999) (hhd : 0 ≤ hd ∧ hd ≤ σ 6) (hec : 0 ≤ ec ∧ ec ≤ 100000) (hdy : ∀ i : Nat, i < 8 → -1000000 ≤ dy i ∧ dy i ≤ 1000000) : MI l yX5_isWrong wsX5_isWrong 4 87 D (ty3 cI cO cL) (fun H => PicB D cO g σ T H ∧ ob D sa 5 [.int (iI yr), .ref da, .int (iI hd), .int (iI ec)] H ∧ ar D da (cI, 8, .inl (fun i => iI (dy i))) H) [.ref (g 0), .ref sa] (m_wr σ T yr hd ec dy) := by
  refine MI_of (cc := cX5_isWrong) (maxL := 3) (ret := (some .boolean)) (by decide) rfl (Nat.le_of_ble_eq_true rfl) ?_
  intro p e s m args below meth c ls hx hb hr hlocks hml hown hts hPic hK hl
  have hl : lv_has ls 3 [(0, .ref (g 0)), (1, .ref sa)] := hl
  have hin_X3 : ∀ w ∈ u_ws RX3 TX3 4, w ∈ wsX5_isWrong := (fun w h => List.mem_cons_of_mem _ (List.mem_append_left _ (List.mem_append_left _ (List.mem_append_left _ (List.mem_append_left _ (List.mem_append_left _ (List.mem_append_left _ (List.mem_append_right _ h))))))))
  obtain ⟨w0, w1, w2, w3, w4, w5, w6, w7, w8⟩ := id hW
  refine lv_aload_n hx hb dX5_isWrong_0 rfl (lv_at hl 0 rfl) ?_
  refine lv_aload_n hx hb dX5_isWrong_1 rfl (lv_at hl 1 rfl) ?_
  refine q_get (ci := 5) (C := RX3) (T := TX3) (N := 4) hx hb hts hin_X3 hown hK (v := .int (iI (yr))) hPic.2.1 rfl 0 (by decide) (hts (.fieldLink RX5 216 "AlmanacHouse$Sheet" "year" "I") (List.mem_of_getElem? (i := 1) rfl)) (fun _ h9 => h9) rfl dX5_isWrong_2 ?_
  refine q_iconst hx hb dX5_isWrong_5 ?_
  refine q_callV (fr := 1) (lo := 23) (nL := 3) (Pic := PicB D cO g σ T) (As := [.int (iI (yr)), .int (iI (0))]) (rest := []) ⟨hx, hb, hml, hown, hts⟩ (c_countEclipses l D cI cO cL g σ T hW (yr) (0) (by omega) (by omega)) (cwV 2 hts gX5_isWrong_X5_countEclipses rfl rfl rfl (by decide +kernel) ⟨Nat.le_of_ble_eq_true rfl, Nat.le_of_ble_eq_true rfl⟩) (ob_recv hPic.1.at0 hK rfl) hPic.1 hK rfl hl.1 rfl (Nat.le_of_ble_eq_true rfl) dX5_isWrong_6 (Nat.zero_le _) (Nat.zero_le _) ?_
  have hE6 := m_Eb_in hW (y := (yr)) (b := (0)) (by omega)
  refine lv_aload_n hx hb dX5_isWrong_9 rfl (lv_at hl 0 rfl) ?_
  refine lv_aload_n hx hb dX5_isWrong_10 rfl (lv_at hl 1 rfl) ?_
  refine q_get (ci := 5) (C := RX3) (T := TX3) (N := 4) hx hb hts hin_X3 hown hK (v := .int (iI (yr))) hPic.2.1 rfl 0 (by decide) (hts (.fieldLink RX5 216 "AlmanacHouse$Sheet" "year" "I") (List.mem_of_getElem? (i := 1) rfl)) (fun _ h9 => h9) rfl dX5_isWrong_11 ?_
  refine q_iconst hx hb dX5_isWrong_14 ?_
  refine q_callV (fr := 1) (lo := 23) (nL := 3) (Pic := PicB D cO g σ T) (As := [.int (iI (yr)), .int (iI (1))]) (rest := [.int (iI (m_Eb σ (yr) (0)))]) ⟨hx, hb, hml, hown, hts⟩ (c_countEclipses l D cI cO cL g σ T hW (yr) (1) (by omega) (by omega)) (cwV 2 hts gX5_isWrong_X5_countEclipses rfl rfl rfl (by decide +kernel) ⟨Nat.le_of_ble_eq_true rfl, Nat.le_of_ble_eq_true rfl⟩) (ob_recv hPic.1.at0 hK rfl) hPic.1 hK rfl hl.1 rfl (Nat.le_of_ble_eq_true rfl) dX5_isWrong_15 (Nat.zero_le _) (Nat.zero_le _) ?_
  have hE15 := m_Eb_in hW (y := (yr)) (b := (1)) (by omega)
  refine q_iadd hx hb dX5_isWrong_18 ?_
  refine q_top (fun now enow => ?_)
  refine lv_istore_n (lv' := [(2, .int (iI (now))), (0, .ref (g 0)), (1, .ref sa)]) hx hb dX5_isWrong_19 rfl hl (by decide) rfl (fun ls hl => ?_)
  refine lv_iload_n hx hb dX5_isWrong_20 rfl (lv_at hl 0 rfl) ?_
  refine lv_aload_n hx hb dX5_isWrong_21 rfl (lv_at hl 2 rfl) ?_
  refine q_get (ci := 5) (C := RX3) (T := TX3) (N := 4) hx hb hts hin_X3 hown hK (v := .int (iI (ec))) hPic.2.1 rfl 3 (by decide) (hts (.fieldLink RX5 222 "AlmanacHouse$Sheet" "eclipses" "I") (List.mem_of_getElem? (i := 2) rfl)) (fun _ h9 => h9) rfl dX5_isWrong_22 ?_
  refine q_icmp_ne (tgt := 36) hx hb dX5_isWrong_25 (by decide) (by omega) (by omega) (fun c_1 => ?_) (fun c_1 => ?_)
  · skip
    refine q_iconst hx hb dX5_isWrong_36 ?_
    refine lv_goto (tgt := 41) hx hb dX5_isWrong_37 (by decide) ?_
    exact q_zret hx hb hr hlocks (by omega) (by unfold m_wr m_E; split <;> omega) dX5_isWrong_41
  · skip
    refine lv_aload_n hx hb dX5_isWrong_28 rfl (lv_at hl 1 rfl) ?_
    refine lv_aload_n hx hb dX5_isWrong_29 rfl (lv_at hl 2 rfl) ?_
    refine q_callV (fr := 3) (lo := 64) (nL := 3) (Pic := fun H => PicB D cO g σ T H ∧ ob D sa 5 [.int (iI (yr)), .ref da, .int (iI (hd)), .int (iI (ec))] H ∧ ar D da (cI, 8, .inl (fun i => iI ((dy) i))) H) (As := [.ref sa]) (rest := []) ⟨hx, hb, hml, hown, hts⟩ (c_changedDays l D cI cO cL g σ T hW sa da (yr) (hd) (ec) (dy) (by omega) (by omega) (by omega) (hdy)) (cwV 1 hts gX5_isWrong_X5_changedDays rfl rfl rfl (by decide +kernel) ⟨Nat.le_of_ble_eq_true rfl, Nat.le_of_ble_eq_true rfl⟩) (ob_recv hPic.1.at0 hK rfl) ⟨hPic.1, hPic.2.1, hPic.2.2⟩ hK rfl hl.1 rfl (Nat.le_of_ble_eq_true rfl) dX5_isWrong_30 (Nat.zero_le _) (Nat.zero_le _) ?_
    have hch30 := m_chg_in (fun i => m_F σ T i (yr)) (dy) (Int.toNat (hd))
    refine q_if_le (tgt := 40) hx hb dX5_isWrong_33 (by decide) (by omega) (fun c_2 => ?_) (fun c_2 => ?_)
    · skip
      refine q_iconst hx hb dX5_isWrong_40 ?_
      exact q_zret hx hb hr hlocks (by omega) (by unfold m_wr m_E; split <;> omega) dX5_isWrong_41
    · skip
      refine q_iconst hx hb dX5_isWrong_36 ?_
      refine lv_goto (tgt := 41) hx hb dX5_isWrong_37 (by decide) ?_
      exact q_zret hx hb hr hlocks (by omega) (by unfold m_wr m_E; split <;> omega) dX5_isWrong_41
set_option maxHeartbeats 4000000 in
set_option maxRecDepth 100000 in
/-- wrongSheets -/
theorem c_wrongSheets (l : Launch) (D : va_G) (cI cO cL : ClassId) (g : Nat → Nat) (σ T P : Nat → Int) (hW : WF σ T) (hS : WS σ P) : MI l yX5_wrongSheets wsX5_wrongSheets 5 109 D (ty3 cI cO cL) (PicC D cI cO g σ T P) [.ref (g 0)] (m_wc σ T P (σ 7).toNat) := by
  refine MI_of (cc := cX5_wrongSheets) (maxL := 3) (ret := (some .int)) (by decide) rfl (Nat.le_of_ble_eq_true rfl) ?_
  intro p e s m args below meth c ls hx hb hr hlocks hml hown hts hPic hK hl
  have hl : lv_has ls 3 [(0, .ref (g 0))] := hl
  have hin_X5 : ∀ w ∈ u_ws RX5 TX5 7, w ∈ wsX5_wrongSheets := (fun w h => List.mem_cons_of_mem _ (List.mem_append_left _ (List.mem_append_left _ (List.mem_append_left _ (List.mem_append_left _ (List.mem_append_left _ (List.mem_append_left _ (List.mem_append_right _ h))))))))
  obtain ⟨w0, w1, w2, w3, w4, w5, w6, w7, w8⟩ := id hW
  refine q_iconst hx hb dX5_wrongSheets_0 ?_
  refine lv_istore_n (lv' := [(1, .int (iI (0))), (0, .ref (g 0))]) hx hb dX5_wrongSheets_1 rfl hl (by decide) rfl (fun ls hl => ?_)
  refine q_iconst hx hb dX5_wrongSheets_2 ?_
  refine lv_istore_n (lv' := [(2, .int (iI (0))), (1, .int (iI (0))), (0, .ref (g 0))]) hx hb dX5_wrongSheets_3 rfl hl (by decide) rfl (fun ls hl => ?_)
  have key_4 : ∀ (fu : Nat) (k : Int) (wr : Int), 0 ≤ k ∧ k ≤ σ 7 → wr = m_wc σ T P k.toNat → (σ 7 - k) < (fu : Int) → ∀ ls : Array Slot, lv_has ls 3 [(0, .ref (g 0)), (1, .int (iI (wr))), (2, .int (iI (k)))] → W p l e { frames := 5, cells := 0, slots := 0, locals := 109 } s m args below meth c s.heap [] 0 0 (MQ below (vp_Si (fun r => r = iI (m_wc σ T P (σ 7).toNat))) args s 0 0 (fun _ => False)) (F0 m 4 ls []) := by
    intro fu
    induction fu with
    | zero => intro k wr hk hwr hm_4 ls hl; exact absurd hm_4 (by omega)
    | succ fu ih_4 =>
      intro k wr hk hwr hm_4 ls hl
      refine lv_iload_n hx hb dX5_wrongSheets_4 rfl (lv_at hl 2 rfl) ?_
      refine lv_aload_n hx hb dX5_wrongSheets_5 rfl (lv_at hl 0 rfl) ?_
      refine q_get (ci := 7) (C := RX5) (T := TX5) (N := 7) hx hb hts hin_X5 hown hK (v := .ref (g 5)) hPic.base.at0 rfl 4 (by decide) (hts (.fieldLink RX5 37 "AlmanacHouse" "sheets" "Ljava/util/ArrayList;") (List.mem_of_getElem? (i := 1) rfl)) (fun _ h9 => h9) rfl dX5_wrongSheets_6 ?_
      refine q_callV (fr := 0) (lo := 0) (nL := 3) (Pic := ob D (g 5) 1 [.int (iI (σ 7)), .ref (g 7), .int (iI (σ 7))]) (As := []) (rest := [.int (iI (k))]) ⟨hx, hb, hml, hown, hts⟩ (c_size l D (ty3 cI cO cL) (g 5) (g 7) (σ 7) (σ 7)) (cwV 0 hts gX5_wrongSheets_Jx4a65c_size_8abf5 rfl rfl rfl (by decide +kernel) ⟨Nat.le_of_ble_eq_true rfl, Nat.le_of_ble_eq_true rfl⟩) (ob_recv hPic.base.at5 hK rfl) hPic.base.at5 hK rfl hl.1 rfl (Nat.le_of_ble_eq_true rfl) dX5_wrongSheets_9 (Nat.zero_le _) (Nat.zero_le _) ?_
      refine q_icmp_ge (tgt := 42) hx hb dX5_wrongSheets_12 (by decide) (by omega) (by omega) (fun c_1 => ?_) (fun c_1 => ?_)
      · skip
        refine lv_iload_n hx hb dX5_wrongSheets_42 rfl (lv_at hl 1 rfl) ?_
        exact q_iret hx hb hr hlocks (by rw [hwr]; congr 1; omega) dX5_wrongSheets_43
      · skip
        refine lv_aload_n hx hb dX5_wrongSheets_15 rfl (lv_at hl 0 rfl) ?_
        refine lv_aload_n hx hb dX5_wrongSheets_16 rfl (lv_at hl 0 rfl) ?_
        refine q_get (ci := 7) (C := RX5) (T := TX5) (N := 7) hx hb hts hin_X5 hown hK (v := .ref (g 5)) hPic.base.at0 rfl 4 (by decide) (hts (.fieldLink RX5 37 "AlmanacHouse" "sheets" "Ljava/util/ArrayList;") (List.mem_of_getElem? (i := 1) rfl)) (fun _ h9 => h9) rfl dX5_wrongSheets_17 ?_
        refine lv_iload_n hx hb dX5_wrongSheets_20 rfl (lv_at hl 2 rfl) ?_
        refine q_callVq (fr := 2) (lo := 43) (nL := 3) (Pic := fun H => ob D (g 5) 1 [.int (iI (σ 7)), .ref (g 7), .int (iI (σ 7))] H ∧ ar D (g 7) (cO, 10, .inr (.inr (.inr (.inr (fun j => if j < (σ 7).toNat then some (g (20 + j)) else none))))) H) (As := [.int (iI (k))]) (rest := [.ref (g 0)]) ⟨hx, hb, hml, hown, hts⟩ (c_get l D cI cO cL (g 5) (g 7) (g (20 + (k).toNat)) (σ 7) (σ 7) (k) (fun j => if j < (σ 7).toNat then some (g (20 + j)) else none) (by omega) (by omega) (if_pos (by omega))) (cwV 1 hts gX5_wrongSheets_Jx4a65c_get_915e3 rfl rfl rfl (by decide +kernel) ⟨Nat.le_of_ble_eq_true rfl, Nat.le_of_ble_eq_true rfl⟩) (ob_recv hPic.base.at5 hK rfl) ⟨hPic.base.at5, hPic.arr (by omega)⟩ hK rfl hl.1 rfl (Nat.le_of_ble_eq_true rfl) dX5_wrongSheets_21 (Nat.zero_le _) (Nat.zero_le _) ?_
        obtain ⟨s1, s2, s3, s4⟩ := hS k.toNat (by omega)
        refine q_cast (ci := 5) (T := TX3) (N := 4) hx hb hown (hts (.classLink RX5 198 "AlmanacHouse$Sheet") (List.mem_of_getElem? (i := 2) rfl)) hK (hPic.so (j := (k).toNat) (by omega)) rfl dX5_wrongSheets_24 ?_
        refine q_callV (fr := 4) (lo := 87) (nL := 3) (Pic := fun H => PicB D cO g σ T H ∧ ob D (g (20 + (k).toNat)) 5 [.int (iI (P (11 * (k).toNat))), .ref (g (40 + (k).toNat)), .int (iI (P (11 * (k).toNat + 1))), .int (iI (P (11 * (k).toNat + 2)))] H ∧ ar D (g (40 + (k).toNat)) (cI, 8, .inl (fun i => iI ((fun i => P (11 * (k).toNat + 3 + i)) i))) H) (As := [.ref (g (20 + (k).toNat))]) (rest := []) ⟨hx, hb, hml, hown, hts⟩ (c_isWrong l D cI cO cL g σ T hW (g (20 + (k).toNat)) (g (40 + (k).toNat)) (P (11 * (k).toNat)) (P (11 * (k).toNat + 1)) (P (11 * (k).toNat + 2)) (fun i => P (11 * (k).toNat + 3 + i)) (s1) (s2) (s3) (s4)) (cwV 1 hts gX5_wrongSheets_X5_isWrong rfl rfl rfl (by decide +kernel) ⟨Nat.le_of_ble_eq_true rfl, Nat.le_of_ble_eq_true rfl⟩) (ob_recv hPic.base.at0 hK rfl) ⟨hPic.base, (hPic.so (j := (k).toNat) (by omega)), (hPic.sd (j := (k).toNat) (by omega))⟩ hK rfl hl.1 rfl (Nat.le_of_ble_eq_true rfl) dX5_wrongSheets_27 (Nat.zero_le _) (Nat.zero_le _) ?_
        have hwr27 := m_wr_01 σ T (P (11 * (k).toNat)) (P (11 * (k).toNat + 1)) (P (11 * (k).toNat + 2)) (fun i => P (11 * (k).toNat + 3 + i))
        refine q_if_eq (tgt := 36) hx hb dX5_wrongSheets_30 (by decide) (by omega) (fun c_2 => ?_) (fun c_2 => ?_)
        · skip
          refine q_iinc (k := 2) (lv' := [(2, .int (iI (k + 1))), (0, .ref (g 0)), (1, .int (iI (wr)))]) hx hb dX5_wrongSheets_36 hl rfl (by decide) rfl (fun ls hl => ?_)
          refine lv_goto (tgt := 4) hx hb dX5_wrongSheets_39 (by decide) ?_
          have hst := m_wc_step σ T P hk.1
          exact ih_4 _ _ (by omega) (by rw [hst]; omega) (by omega) _ (lv_sub hl [1, 2, 0] rfl)
        · skip
          refine q_iinc (k := 1) (lv' := [(1, .int (iI (wr + 1))), (0, .ref (g 0)), (2, .int (iI (k)))]) hx hb dX5_wrongSheets_33 hl rfl (by decide) rfl (fun ls hl => ?_)
          refine q_iinc (k := 2) (lv' := [(2, .int (iI (k + 1))), (1, .int (iI (wr + 1))), (0, .ref (g 0))]) hx hb dX5_wrongSheets_36 hl rfl (by decide) rfl (fun ls hl => ?_)
          refine lv_goto (tgt := 4) hx hb dX5_wrongSheets_39 (by decide) ?_
          have hst := m_wc_step σ T P hk.1
          exact ih_4 _ _ (by omega) (by rw [hst]; omega) (by omega) _ (lv_sub hl [2, 1, 0] rfl)
  exact key_4 ((σ 7).toNat + 1) _ _ (by omega) (by rfl) (by omega) _ (lv_sub hl [2, 1, 0] rfl)
