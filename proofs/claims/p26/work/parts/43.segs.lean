/-! ===== the law: what its rounds stand on; more of what it says ===== -/
def LC (p : Program) (l : Launch) (s : State) (m : MethodId) (args : Array Value) (c : Code) (A0 : Nat → Prop) (D : va_G) (cI cO cL : ClassId) (ed : Nat × Nat × Nat) : Prop := p.tables.exec = Jvm.exec ∧ c.code = cL_law ∧ c.maxLocals = 18 ∧ s.vm.findClass RL = some m.cls ∧ (∀ w ∈ wsL_law, w.before args s = true) ∧ (∀ q : Nat, s.heap.size ≤ q → A0 q) ∧ va_K D vwCl (ty3 cI cO cL) s ∧ EZ ed A0 s s.heap ∧ ET s
theorem r_im_01 (ln fi b d : Int) : r_im ln fi b d = 0 ∨ r_im ln fi b d = 1 := m_ite01 _
theorem r_R_eq (σ : Nat → Int) (y : Int) : r_R σ (m_fd (σ 0) (σ 1) y) (m_fd (σ 0) (σ 1) (y + 1)) = m_Eb σ y 0 + m_Eb σ y 1 := rfl
theorem r_d1_in {ln fi mn d : Int} (hL : 20000 ≤ ln ∧ ln ≤ 40000) (hF : 0 ≤ fi ∧ fi ≤ 39999) (hm : 0 ≤ mn ∧ mn ≤ 3) (hd : 0 ≤ d) : 0 ≤ m_d1 ln fi mn d ∧ m_d1 ln fi mn d ≤ d + 150 := by
  unfold m_d1
  split
  · have h0 := m_ff_in (ln := ln) (fi := fi) (b := 1) (t := 1000 * d) hL
    have h1 := m_ff_tm (ln := ln) (fi := fi) (b := 1) (t := 1000 * d) hL hF (by omega)
    have h2 := m_tm_in (ln := ln) (fi := fi) (b := 1) (k := m_ff ln fi 1 (1000 * d) + mn - 1) hL hF (by omega)
    have h3 : m_tm ln fi (m_ff ln fi 1 (1000 * d) + mn - 1) 1 = m_tm ln fi (m_ff ln fi 1 (1000 * d)) 1 + (mn - 1) * ln := by
      unfold m_tm
      rw [show m_ff ln fi 1 (1000 * d) + mn - 1 = m_ff ln fi 1 (1000 * d) + (mn - 1) by omega, Int.add_mul]
      omega
    have h4 : (mn - 1) * ln ≤ (mn - 1) * 40000 := Int.mul_le_mul_of_nonneg_left hL.2 (by omega)
    omega
  · omega
theorem r_feast_in {σ T : Nat → Int} (hW : WF σ T) {i : Nat} (hi : (i : Int) < σ 6) {y : Int} (hy : 0 ≤ y ∧ y < 500) : 0 ≤ m_F σ T i y - T (5 * i + 4) ∧ m_F σ T i y - T (5 * i + 4) ≤ 190000 := by
  obtain ⟨w0, w1, w2, w3, -, -, -, -, w8⟩ := hW
  obtain ⟨a1, a2, a3, a4, a5⟩ := w8 i hi
  have h := m_fd_le (cy := σ 0) (lq := σ 1) (y := y) w0.1 w1 hy.1
  have h0 : 0 ≤ m_d0 (σ 0) (σ 1) (T (5 * i)) (T (5 * i + 1)) y ∧ m_d0 (σ 0) (σ 1) (T (5 * i)) (T (5 * i + 1)) y ≤ 184000 := by
    unfold m_d0
    omega
  have h1 := r_d1_in (mn := T (5 * i + 2)) w2 w3 a3 h0.1
  have h2 := m_d2_in (wd := T (5 * i + 3)) a4 h1.1
  unfold m_F m_fday
  omega
set_option maxHeartbeats 4000000 in
set_option maxRecDepth 100000 in
theorem sg_D {p : Program} {l : Launch} {e : Env} {s : State} {m : MethodId} {args : Array Value} {below : List Frame} {meth : Method} {c : Code} {Q : State → Prop} {A0 : Nat → Prop} {D : va_G} {cI cO cL : ClassId} {ed : Nat × Nat × Nat} (C0 : LC p l s m args c A0 D cI cO cL ed) {g z : Nat → Nat} {σ T P : Nat → Int} (hLW : LW σ T P) (hco : 0 ≤ σ 10 ∧ σ 10 ≤ σ 9 ∧ σ 9 ≤ 1000) {H : Heap} {locs : List Loc} {cells slots : Nat} (hcR : cells ≤ room_1.cells) (hsR : slots ≤ room_1.slots) (hPc : PicC D cI cO g σ T P H) (hPic : PicS D cI cL z σ T P H) {t x n0 : Int} (hn0 : 0 ≤ n0 ∧ n0 ≤ 10) (hnew : n0 < σ 7 → m_told σ T P n0.toNat 3 = 0) {ls : Array Slot} (hl : lv_has ls 18 [(0, .ref ed.2.1), (1, .ref (g 0)), (2, .ref (z 0)), (3, .int (iI (t))), (4, .int (iI (x))), (5, .int (iI (n0)))]) (kk : ∀ ls : Array Slot, lv_has ls 18 [(0, .ref ed.2.1), (1, .ref (g 0)), (2, .ref (z 0)), (3, .int (iI (t))), (4, .int (iI (x)))] → W p l e room_1 s m args below meth c H locs cells slots Q (F0 m 438 ls [])) : W p l e room_1 s m args below meth c H locs cells slots Q (F0 m 379 ls []) := by
  obtain ⟨hx, hb, hml, hown, hts, hA, hK, hE, hT⟩ := C0
  obtain ⟨hW, hSS, hp0⟩ := id hLW
  obtain ⟨w0, w1, w2, w3, w4, w5, w6, w7, w8⟩ := id hW
  have hin_X6 : ∀ w ∈ u_ws RX6 TX6 10, w ∈ wsL_law := (fun w h => (List.mem_append_left _ (List.mem_append_left _ (List.mem_append_left _ (List.mem_append_left _ (List.mem_append_left _ (List.mem_append_left _ (List.mem_append_left _ (List.mem_append_left _ (List.mem_append_left _ (List.mem_append_left _ (List.mem_append_right _ h))))))))))))
  refine lv_aload_n hx hb dL_law_379 rfl (lv_at hl 1 rfl) ?_
  refine q_bipush hx hb dL_law_380 (by decide) ?_
  refine q_callV (fr := 6) (lo := 131) (nL := 18) (Pic := PicC D cI cO g σ T P) (As := [.int (iI (7))]) (rest := []) ⟨hx, hb, hml, hown, hts⟩ (p_count l D cI cO cL g σ T P hW hSS (7) (by omega)) (cwV 1 hts gL_law_X5_count rfl rfl rfl (by decide +kernel) ⟨Nat.le_of_ble_eq_true rfl, Nat.le_of_ble_eq_true rfl⟩) (ob_recv hPc.base.at0 hK rfl) hPc hK rfl hl.1 rfl (Nat.le_of_ble_eq_true rfl) dL_law_382 (by omega) (by omega) ?_
  refine q_is (z := σ 7) (rfl) ?_
  refine lv_iload hx hb dL_law_385 (lv_at hl 5 rfl) ?_
  refine q_icmp_le (tgt := 400) hx hb dL_law_387 (by decide) (by omega) (by omega) (fun c_1 => ?_) (fun c_1 => ?_)
  · skip
    refine lv_aload_n hx hb dL_law_400 rfl (lv_at hl 1 rfl) ?_
    refine q_iconst hx hb dL_law_401 ?_
    refine q_callV (fr := 6) (lo := 131) (nL := 18) (Pic := PicC D cI cO g σ T P) (As := [.int (iI (2))]) (rest := []) ⟨hx, hb, hml, hown, hts⟩ (p_count l D cI cO cL g σ T P hW hSS (2) (by omega)) (cwV 1 hts gL_law_X5_count rfl rfl rfl (by decide +kernel) ⟨Nat.le_of_ble_eq_true rfl, Nat.le_of_ble_eq_true rfl⟩) (ob_recv hPc.base.at0 hK rfl) hPc hK rfl hl.1 rfl (Nat.le_of_ble_eq_true rfl) dL_law_402 (by omega) (by omega) ?_
    refine q_is (z := σ 2) (rfl) ?_
    refine q_sipush hx hb dL_law_405 (by decide) ?_
    refine q_icmp_lt (tgt := 436) hx hb dL_law_408 (by decide) (by omega) (by omega) (fun c_2 => ?_) (fun c_2 => ?_)
    · exfalso
      omega
    · skip
      refine lv_aload_n hx hb dL_law_411 rfl (lv_at hl 1 rfl) ?_
      refine q_iconst hx hb dL_law_412 ?_
      refine q_callV (fr := 6) (lo := 131) (nL := 18) (Pic := PicC D cI cO g σ T P) (As := [.int (iI (2))]) (rest := []) ⟨hx, hb, hml, hown, hts⟩ (p_count l D cI cO cL g σ T P hW hSS (2) (by omega)) (cwV 1 hts gL_law_X5_count rfl rfl rfl (by decide +kernel) ⟨Nat.le_of_ble_eq_true rfl, Nat.le_of_ble_eq_true rfl⟩) (ob_recv hPc.base.at0 hK rfl) hPc hK rfl hl.1 rfl (Nat.le_of_ble_eq_true rfl) dL_law_413 (by omega) (by omega) ?_
      refine q_is (z := σ 2) (rfl) ?_
      refine q_ldc (z := 40000) hx hb hown (hts (.constant RL 37 (40000)) (List.mem_of_getElem? (i := 5) rfl)) (by decide) dL_law_416 ?_
      refine q_icmp_gt (tgt := 436) hx hb dL_law_418 (by decide) (by omega) (by omega) (fun c_3 => ?_) (fun c_3 => ?_)
      · exfalso
        omega
      · skip
        refine lv_aload_n hx hb dL_law_421 rfl (lv_at hl 1 rfl) ?_
        refine q_bipush hx hb dL_law_422 (by decide) ?_
        refine q_callV (fr := 6) (lo := 131) (nL := 18) (Pic := PicC D cI cO g σ T P) (As := [.int (iI (10))]) (rest := []) ⟨hx, hb, hml, hown, hts⟩ (p_count l D cI cO cL g σ T P hW hSS (10) (by omega)) (cwV 1 hts gL_law_X5_count rfl rfl rfl (by decide +kernel) ⟨Nat.le_of_ble_eq_true rfl, Nat.le_of_ble_eq_true rfl⟩) (ob_recv hPc.base.at0 hK rfl) hPc hK rfl hl.1 rfl (Nat.le_of_ble_eq_true rfl) dL_law_424 (by omega) (by omega) ?_
        refine q_is (z := σ 10) (rfl) ?_
        refine lv_aload_n hx hb dL_law_427 rfl (lv_at hl 1 rfl) ?_
        refine q_bipush hx hb dL_law_428 (by decide) ?_
        refine q_callV (fr := 6) (lo := 131) (nL := 18) (Pic := PicC D cI cO g σ T P) (As := [.int (iI (9))]) (rest := [.int (iI (σ 10))]) ⟨hx, hb, hml, hown, hts⟩ (p_count l D cI cO cL g σ T P hW hSS (9) (by omega)) (cwV 1 hts gL_law_X5_count rfl rfl rfl (by decide +kernel) ⟨Nat.le_of_ble_eq_true rfl, Nat.le_of_ble_eq_true rfl⟩) (ob_recv hPc.base.at0 hK rfl) hPc hK rfl hl.1 rfl (Nat.le_of_ble_eq_true rfl) dL_law_430 (by omega) (by omega) ?_
        refine q_is (z := σ 9) (rfl) ?_
        refine q_icmp_le (tgt := 438) hx hb dL_law_433 (by decide) (by omega) (by omega) (fun c_4 => ?_) (fun c_4 => ?_)
        · skip
          exact kk  _ (lv_sub hl [0, 1, 2, 3, 4] rfl)
        · exfalso
          omega
  · skip
    refine lv_aload_n hx hb dL_law_390 rfl (lv_at hl 1 rfl) ?_
    refine lv_iload hx hb dL_law_391 (lv_at hl 5 rfl) ?_
    have hti := m_told_in hW hSS (j := n0.toNat) (w := 3) (by omega)
    refine q_iconst hx hb dL_law_393 ?_
    refine q_callV (fr := 5) (lo := 109) (nL := 18) (Pic := PicC D cI cO g σ T P) (As := [.int (iI (n0)), .int (iI (3))]) (rest := []) ⟨hx, hb, hml, hown, hts⟩ (p_sheet l D cI cO cL g σ T P hW hSS (n0) (3) (by omega) (by omega)) (cwV 2 hts gL_law_X5_sheet rfl rfl rfl (by decide +kernel) ⟨Nat.le_of_ble_eq_true rfl, Nat.le_of_ble_eq_true rfl⟩) (ob_recv hPc.base.at0 hK rfl) hPc hK rfl hl.1 rfl (Nat.le_of_ble_eq_true rfl) dL_law_394 (by omega) (by omega) ?_
    have hnw := hnew (by omega)
    refine q_if_ne (tgt := 436) hx hb dL_law_397 (by decide) (by omega) (fun c_5 => ?_) (fun c_5 => ?_)
    · exfalso
      omega
    · skip
      refine lv_aload_n hx hb dL_law_400 rfl (lv_at hl 1 rfl) ?_
      refine q_iconst hx hb dL_law_401 ?_
      refine q_callV (fr := 6) (lo := 131) (nL := 18) (Pic := PicC D cI cO g σ T P) (As := [.int (iI (2))]) (rest := []) ⟨hx, hb, hml, hown, hts⟩ (p_count l D cI cO cL g σ T P hW hSS (2) (by omega)) (cwV 1 hts gL_law_X5_count rfl rfl rfl (by decide +kernel) ⟨Nat.le_of_ble_eq_true rfl, Nat.le_of_ble_eq_true rfl⟩) (ob_recv hPc.base.at0 hK rfl) hPc hK rfl hl.1 rfl (Nat.le_of_ble_eq_true rfl) dL_law_402 (by omega) (by omega) ?_
      refine q_is (z := σ 2) (rfl) ?_
      refine q_sipush hx hb dL_law_405 (by decide) ?_
      refine q_icmp_lt (tgt := 436) hx hb dL_law_408 (by decide) (by omega) (by omega) (fun c_6 => ?_) (fun c_6 => ?_)
      · exfalso
        omega
      · skip
        refine lv_aload_n hx hb dL_law_411 rfl (lv_at hl 1 rfl) ?_
        refine q_iconst hx hb dL_law_412 ?_
        refine q_callV (fr := 6) (lo := 131) (nL := 18) (Pic := PicC D cI cO g σ T P) (As := [.int (iI (2))]) (rest := []) ⟨hx, hb, hml, hown, hts⟩ (p_count l D cI cO cL g σ T P hW hSS (2) (by omega)) (cwV 1 hts gL_law_X5_count rfl rfl rfl (by decide +kernel) ⟨Nat.le_of_ble_eq_true rfl, Nat.le_of_ble_eq_true rfl⟩) (ob_recv hPc.base.at0 hK rfl) hPc hK rfl hl.1 rfl (Nat.le_of_ble_eq_true rfl) dL_law_413 (by omega) (by omega) ?_
        refine q_is (z := σ 2) (rfl) ?_
        refine q_ldc (z := 40000) hx hb hown (hts (.constant RL 37 (40000)) (List.mem_of_getElem? (i := 5) rfl)) (by decide) dL_law_416 ?_
        refine q_icmp_gt (tgt := 436) hx hb dL_law_418 (by decide) (by omega) (by omega) (fun c_7 => ?_) (fun c_7 => ?_)
        · exfalso
          omega
        · skip
          refine lv_aload_n hx hb dL_law_421 rfl (lv_at hl 1 rfl) ?_
          refine q_bipush hx hb dL_law_422 (by decide) ?_
          refine q_callV (fr := 6) (lo := 131) (nL := 18) (Pic := PicC D cI cO g σ T P) (As := [.int (iI (10))]) (rest := []) ⟨hx, hb, hml, hown, hts⟩ (p_count l D cI cO cL g σ T P hW hSS (10) (by omega)) (cwV 1 hts gL_law_X5_count rfl rfl rfl (by decide +kernel) ⟨Nat.le_of_ble_eq_true rfl, Nat.le_of_ble_eq_true rfl⟩) (ob_recv hPc.base.at0 hK rfl) hPc hK rfl hl.1 rfl (Nat.le_of_ble_eq_true rfl) dL_law_424 (by omega) (by omega) ?_
          refine q_is (z := σ 10) (rfl) ?_
          refine lv_aload_n hx hb dL_law_427 rfl (lv_at hl 1 rfl) ?_
          refine q_bipush hx hb dL_law_428 (by decide) ?_
          refine q_callV (fr := 6) (lo := 131) (nL := 18) (Pic := PicC D cI cO g σ T P) (As := [.int (iI (9))]) (rest := [.int (iI (σ 10))]) ⟨hx, hb, hml, hown, hts⟩ (p_count l D cI cO cL g σ T P hW hSS (9) (by omega)) (cwV 1 hts gL_law_X5_count rfl rfl rfl (by decide +kernel) ⟨Nat.le_of_ble_eq_true rfl, Nat.le_of_ble_eq_true rfl⟩) (ob_recv hPc.base.at0 hK rfl) hPc hK rfl hl.1 rfl (Nat.le_of_ble_eq_true rfl) dL_law_430 (by omega) (by omega) ?_
          refine q_is (z := σ 9) (rfl) ?_
          refine q_icmp_le (tgt := 438) hx hb dL_law_433 (by decide) (by omega) (by omega) (fun c_8 => ?_) (fun c_8 => ?_)
          · skip
            exact kk  _ (lv_sub hl [0, 1, 2, 3, 4] rfl)
          · exfalso
            omega
set_option maxHeartbeats 4000000 in
set_option maxRecDepth 100000 in
theorem sg_E {p : Program} {l : Launch} {e : Env} {s : State} {m : MethodId} {args : Array Value} {below : List Frame} {meth : Method} {c : Code} {Q : State → Prop} {A0 : Nat → Prop} {D : va_G} {cI cO cL : ClassId} {ed : Nat × Nat × Nat} (C0 : LC p l s m args c A0 D cI cO cL ed) {g z : Nat → Nat} {σ T P : Nat → Int} (hLW : LW σ T P) (hco : 0 ≤ σ 10 ∧ σ 10 ≤ σ 9 ∧ σ 9 ≤ 1000) {H : Heap} {locs : List Loc} {cells slots : Nat} (hcR : cells ≤ room_1.cells) (hsR : slots ≤ room_1.slots) (hPc : PicC D cI cO g σ T P H) (hPic : PicS D cI cL z σ T P H) {t x : Int} (hx9 : -2147483648 ≤ x ∧ x < 2147483648) {ls : Array Slot} (hl : lv_has ls 18 [(0, .ref ed.2.1), (1, .ref (g 0)), (2, .ref (z 0)), (3, .int (iI (t))), (4, .int (iI (x)))]) (kk : ∀ (y be af dd : Int), (0 ≤ y ∧ y < 500) → (be = m_fd (σ 0) (σ 1) y ∧ af = m_fd (σ 0) (σ 1) (y + 1) ∧ 0 ≤ be ∧ be + 365 ≤ af ∧ af ≤ be + 366 ∧ af ≤ 183366) → (be ≤ dd ∧ dd < af) → ∀ ls : Array Slot, lv_has ls 18 [(0, .ref ed.2.1), (1, .ref (g 0)), (2, .ref (z 0)), (3, .int (iI (t))), (4, .int (iI (x))), (9, .int (iI (y))), (10, .int (iI (be))), (11, .int (iI (af))), (12, .int (iI (dd)))] → W p l e room_1 s m args below meth c H locs cells slots Q (F0 m 632 ls [])) : W p l e room_1 s m args below meth c H locs cells slots Q (F0 m 438 ls []) := by
  obtain ⟨hx, hb, hml, hown, hts, hA, hK, hE, hT⟩ := C0
  obtain ⟨hW, hSS, hp0⟩ := id hLW
  obtain ⟨w0, w1, w2, w3, w4, w5, w6, w7, w8⟩ := id hW
  have hin_X6 : ∀ w ∈ u_ws RX6 TX6 10, w ∈ wsL_law := (fun w h => (List.mem_append_left _ (List.mem_append_left _ (List.mem_append_left _ (List.mem_append_left _ (List.mem_append_left _ (List.mem_append_left _ (List.mem_append_left _ (List.mem_append_left _ (List.mem_append_left _ (List.mem_append_left _ (List.mem_append_right _ h))))))))))))
  have h500 := fun y (h : 0 ≤ y ∧ y ≤ 500) => m_fd_le (cy := σ 0) (lq := σ 1) (y := y) w0.1 w1 h.1
  have hf1000 := m_fd_lt (cy := σ 0) (lq := σ 1) (y := 501) (z := 1000) w0.1 w1 (by omega) (by omega)
  refine lv_iload hx hb dL_law_438 (lv_at hl 4 rfl) ?_
  refine q_iconst hx hb dL_law_440 ?_
  refine q_ishr hx hb dL_law_441 ?_
  have hsr441 := m_sr_in (x) (1)
  refine q_sipush hx hb dL_law_442 (by decide) ?_
  refine q_callS (fr := 0) (lo := 0) (nL := 18) (Pic := fun _ => True) (As := [.int (iI (m_sr (x) (1))), .int (iI (500))]) (rest := []) ⟨hx, hb, hml, hown, hts⟩ (l_below l D (ty3 cI cO cL) (m_sr (x) (1)) (500) (by omega) (by omega)) (va_cwS 2 hts gL_law_L_below rfl rfl rfl (by decide +kernel) ⟨Nat.le_of_ble_eq_true rfl, Nat.le_of_ble_eq_true rfl⟩) trivial hK rfl hl.1 rfl (Nat.le_of_ble_eq_true rfl) dL_law_445 (by omega) (by omega) ?_
  have hbl445 := m_bl_in (m_sr (x) (1)) (n := 500) (by omega)
  refine q_top (fun y ey => ?_)
  rw [← ey] at hbl445
  refine lv_istore (lv' := [(9, .int (iI (y))), (0, .ref ed.2.1), (1, .ref (g 0)), (2, .ref (z 0)), (3, .int (iI (t))), (4, .int (iI (x)))]) hx hb dL_law_448 hl (by decide) rfl (fun ls hl => ?_)
  have hyy : 0 ≤ y ∧ y < 500 := by omega
  obtain ⟨be, hbe⟩ : ∃ be : Int, be = m_fd (σ 0) (σ 1) y := ⟨_, rfl⟩
  obtain ⟨af, haf⟩ : ∃ af : Int, af = m_fd (σ 0) (σ 1) (y + 1) := ⟨_, rfl⟩
  have hsc := m_fd_succ (cy := σ 0) (lq := σ 1) (y := y) w0.1 w1 hyy.1
  have hl01 := m_leap_01 (σ 0) (σ 1) y
  have hfy := h500 y (by omega)
  have hfy1 := h500 (y + 1) (by omega)
  have hgt := m_fd_lt (cy := σ 0) (lq := σ 1) (y := y + 1) (z := 1000) w0.1 w1 (by omega) (by omega)
  have hlast := r_last (cy := σ 0) (lq := σ 1) (y := y) w0.1 w1 (by omega)
  rw [← hbe, ← haf] at hsc
  rw [← hbe] at hfy
  rw [← haf] at hfy1 hgt
  refine lv_aload_n hx hb dL_law_450 rfl (lv_at hl 2 rfl) ?_
  refine lv_iload hx hb dL_law_451 (lv_at hl 0 rfl) ?_
  refine q_iconst hx hb dL_law_453 ?_
  refine q_iconst hx hb dL_law_454 ?_
  refine q_callV (fr := 2) (lo := 43) (nL := 18) (Pic := PicB D cO g σ T) (As := [.int (iI (y)), .int (iI (0)), .int (iI (0))]) (rest := []) ⟨hx, hb, hml, hown, hts⟩ (p_day l D cI cO cL g σ T hW (y) (0) (0) (by omega) (by omega) (by have := m_md_in (σ 0) (σ 1) (y) (0); omega)) (cwV 3 hts gL_law_X5_day rfl rfl rfl (by decide +kernel) ⟨Nat.le_of_ble_eq_true rfl, Nat.le_of_ble_eq_true rfl⟩) (ob_recv hPc.base.at0 hK rfl) hPc.base hK rfl hl.1 rfl (Nat.le_of_ble_eq_true rfl) dL_law_455 (by omega) (by omega) ?_
  refine q_is (z := be) (by unfold m_d0; rw [hbe]; omega) ?_
  refine lv_istore (lv' := [(10, .int (iI (be))), (9, .int (iI (y))), (0, .ref ed.2.1), (1, .ref (g 0)), (2, .ref (z 0)), (3, .int (iI (t))), (4, .int (iI (x)))]) hx hb dL_law_458 hl (by decide) rfl (fun ls hl => ?_)
  refine lv_aload_n hx hb dL_law_460 rfl (lv_at hl 3 rfl) ?_
  refine lv_iload hx hb dL_law_461 (lv_at hl 1 rfl) ?_
  refine q_iconst hx hb dL_law_463 ?_
  refine q_iadd hx hb dL_law_464 ?_
  refine q_iconst hx hb dL_law_465 ?_
  refine q_iconst hx hb dL_law_466 ?_
  refine q_callV (fr := 2) (lo := 43) (nL := 18) (Pic := PicB D cO g σ T) (As := [.int (iI (y + 1)), .int (iI (0)), .int (iI (0))]) (rest := []) ⟨hx, hb, hml, hown, hts⟩ (p_day l D cI cO cL g σ T hW (y + 1) (0) (0) (by omega) (by omega) (by have := m_md_in (σ 0) (σ 1) (y + 1) (0); omega)) (cwV 3 hts gL_law_X5_day rfl rfl rfl (by decide +kernel) ⟨Nat.le_of_ble_eq_true rfl, Nat.le_of_ble_eq_true rfl⟩) (ob_recv hPc.base.at0 hK rfl) hPc.base hK rfl hl.1 rfl (Nat.le_of_ble_eq_true rfl) dL_law_467 (by omega) (by omega) ?_
  refine q_is (z := af) (by unfold m_d0; rw [haf]; omega) ?_
  refine lv_istore (lv' := [(11, .int (iI (af))), (10, .int (iI (be))), (9, .int (iI (y))), (0, .ref ed.2.1), (1, .ref (g 0)), (2, .ref (z 0)), (3, .int (iI (t))), (4, .int (iI (x)))]) hx hb dL_law_470 hl (by decide) rfl (fun ls hl => ?_)
  refine lv_iload hx hb dL_law_472 (lv_at hl 0 rfl) ?_
  refine lv_iload hx hb dL_law_474 (lv_at hl 1 rfl) ?_
  refine q_isub hx hb dL_law_476 ?_
  refine lv_aload_n hx hb dL_law_477 rfl (lv_at hl 4 rfl) ?_
  refine lv_iload hx hb dL_law_478 (lv_at hl 2 rfl) ?_
  refine q_callV (fr := 1) (lo := 21) (nL := 18) (Pic := PicB D cO g σ T) (As := [.int (iI (y))]) (rest := [.int (iI (af - be))]) ⟨hx, hb, hml, hown, hts⟩ (p_leap l D cI cO cL g σ T hW (y) (by omega)) (cwV 1 hts gL_law_X5_leap rfl rfl rfl (by decide +kernel) ⟨Nat.le_of_ble_eq_true rfl, Nat.le_of_ble_eq_true rfl⟩) (ob_recv hPc.base.at0 hK rfl) hPc.base hK rfl hl.1 rfl (Nat.le_of_ble_eq_true rfl) dL_law_480 (by omega) (by omega) ?_
  have hlp480 := m_leap_01 (σ 0) (σ 1) (y)
  have key_495 : ∀ (lv : Int), lv = 365 + m_leap (σ 0) (σ 1) y → ∀ ls : Array Slot, lv_has ls 18 [(0, .ref ed.2.1), (1, .ref (g 0)), (2, .ref (z 0)), (3, .int (iI (t))), (4, .int (iI (x))), (9, .int (iI (y))), (10, .int (iI (be))), (11, .int (iI (af)))] → W p l e room_1 s m args below meth c H locs cells slots Q (F0 m 495 ls [.int (iI (lv)), .int (iI (af - be))]) := by
    intro lv hlv ls hl
    refine q_icmp_ne (tgt := 566) hx hb dL_law_495 (by decide) (by omega) (by omega) (fun c_1 => ?_) (fun c_1 => ?_)
    · exfalso
      omega
    · skip
      refine lv_aload_n hx hb dL_law_498 rfl (lv_at hl 1 rfl) ?_
      refine lv_iload hx hb dL_law_499 (lv_at hl 6 rfl) ?_
      refine q_iconst hx hb dL_law_501 ?_
      refine q_callV (fr := 3) (lo := 65) (nL := 18) (Pic := PicB D cO g σ T) (As := [.int (iI (be)), .int (iI (0))]) (rest := []) ⟨hx, hb, hml, hown, hts⟩ (p_date l D cI cO cL g σ T hW (be) (0) (by omega) (by omega)) (cwV 2 hts gL_law_X5_date rfl rfl rfl (by decide +kernel) ⟨Nat.le_of_ble_eq_true rfl, Nat.le_of_ble_eq_true rfl⟩) (ob_recv hPc.base.at0 hK rfl) hPc.base hK rfl hl.1 rfl (Nat.le_of_ble_eq_true rfl) dL_law_502 (by omega) (by omega) ?_
      refine q_is (z := y) (by rw [show m_dated σ (be) (0) = m_y (σ 0) (σ 1) be from rfl]; exact r_day_y w0.1 w1 (by omega) (by omega) (by omega)) ?_
      refine lv_iload hx hb dL_law_505 (lv_at hl 5 rfl) ?_
      refine q_icmp_ne (tgt := 566) hx hb dL_law_507 (by decide) (by omega) (by omega) (fun c_2 => ?_) (fun c_2 => ?_)
      · exfalso
        omega
      · skip
        refine lv_aload_n hx hb dL_law_510 rfl (lv_at hl 1 rfl) ?_
        refine lv_iload hx hb dL_law_511 (lv_at hl 7 rfl) ?_
        refine q_iconst hx hb dL_law_513 ?_
        refine q_isub hx hb dL_law_514 ?_
        refine q_iconst hx hb dL_law_515 ?_
        refine q_callV (fr := 3) (lo := 65) (nL := 18) (Pic := PicB D cO g σ T) (As := [.int (iI (af - 1)), .int (iI (0))]) (rest := []) ⟨hx, hb, hml, hown, hts⟩ (p_date l D cI cO cL g σ T hW (af - 1) (0) (by omega) (by omega)) (cwV 2 hts gL_law_X5_date rfl rfl rfl (by decide +kernel) ⟨Nat.le_of_ble_eq_true rfl, Nat.le_of_ble_eq_true rfl⟩) (ob_recv hPc.base.at0 hK rfl) hPc.base hK rfl hl.1 rfl (Nat.le_of_ble_eq_true rfl) dL_law_516 (by omega) (by omega) ?_
        refine q_is (z := y) (by rw [show m_dated σ (af - 1) (0) = m_y (σ 0) (σ 1) (af - 1) from rfl, haf]; exact hlast.1) ?_
        refine lv_iload hx hb dL_law_519 (lv_at hl 5 rfl) ?_
        refine q_icmp_ne (tgt := 566) hx hb dL_law_521 (by decide) (by omega) (by omega) (fun c_3 => ?_) (fun c_3 => ?_)
        · exfalso
          omega
        · skip
          refine lv_aload_n hx hb dL_law_524 rfl (lv_at hl 1 rfl) ?_
          refine lv_iload hx hb dL_law_525 (lv_at hl 7 rfl) ?_
          refine q_iconst hx hb dL_law_527 ?_
          refine q_isub hx hb dL_law_528 ?_
          refine q_iconst hx hb dL_law_529 ?_
          refine q_callV (fr := 3) (lo := 65) (nL := 18) (Pic := PicB D cO g σ T) (As := [.int (iI (af - 1)), .int (iI (1))]) (rest := []) ⟨hx, hb, hml, hown, hts⟩ (p_date l D cI cO cL g σ T hW (af - 1) (1) (by omega) (by omega)) (cwV 2 hts gL_law_X5_date rfl rfl rfl (by decide +kernel) ⟨Nat.le_of_ble_eq_true rfl, Nat.le_of_ble_eq_true rfl⟩) (ob_recv hPc.base.at0 hK rfl) hPc.base hK rfl hl.1 rfl (Nat.le_of_ble_eq_true rfl) dL_law_530 (by omega) (by omega) ?_
          refine q_is (z := 11) (by rw [show m_dated σ (af - 1) (1) = m_mo (σ 0) (σ 1) (af - 1) from rfl, haf]; exact hlast.2.1) ?_
          refine q_bipush hx hb dL_law_533 (by decide) ?_
          refine q_icmp_ne (tgt := 566) hx hb dL_law_535 (by decide) (by omega) (by omega) (fun c_4 => ?_) (fun c_4 => ?_)
          · exfalso
            omega
          · skip
            refine lv_aload_n hx hb dL_law_538 rfl (lv_at hl 1 rfl) ?_
            refine lv_iload hx hb dL_law_539 (lv_at hl 7 rfl) ?_
            refine q_iconst hx hb dL_law_541 ?_
            refine q_isub hx hb dL_law_542 ?_
            refine q_iconst hx hb dL_law_543 ?_
            refine q_callV (fr := 3) (lo := 65) (nL := 18) (Pic := PicB D cO g σ T) (As := [.int (iI (af - 1)), .int (iI (2))]) (rest := []) ⟨hx, hb, hml, hown, hts⟩ (p_date l D cI cO cL g σ T hW (af - 1) (2) (by omega) (by omega)) (cwV 2 hts gL_law_X5_date rfl rfl rfl (by decide +kernel) ⟨Nat.le_of_ble_eq_true rfl, Nat.le_of_ble_eq_true rfl⟩) (ob_recv hPc.base.at0 hK rfl) hPc.base hK rfl hl.1 rfl (Nat.le_of_ble_eq_true rfl) dL_law_544 (by omega) (by omega) ?_
            refine q_is (z := 29 + m_leap (σ 0) (σ 1) y) (by rw [show m_dated σ (af - 1) (2) = m_dm (σ 0) (σ 1) (af - 1) from rfl, haf]; exact hlast.2.2) ?_
            refine lv_aload_n hx hb dL_law_547 rfl (lv_at hl 1 rfl) ?_
            refine lv_iload hx hb dL_law_548 (lv_at hl 5 rfl) ?_
            refine q_callV (fr := 1) (lo := 21) (nL := 18) (Pic := PicB D cO g σ T) (As := [.int (iI (y))]) (rest := [.int (iI (29 + m_leap (σ 0) (σ 1) y))]) ⟨hx, hb, hml, hown, hts⟩ (p_leap l D cI cO cL g σ T hW (y) (by omega)) (cwV 1 hts gL_law_X5_leap rfl rfl rfl (by decide +kernel) ⟨Nat.le_of_ble_eq_true rfl, Nat.le_of_ble_eq_true rfl⟩) (ob_recv hPc.base.at0 hK rfl) hPc.base hK rfl hl.1 rfl (Nat.le_of_ble_eq_true rfl) dL_law_550 (by omega) (by omega) ?_
            have hlp550 := m_leap_01 (σ 0) (σ 1) (y)
            have key_563 : ∀ (lv2 : Int), lv2 = 29 + m_leap (σ 0) (σ 1) y → ∀ ls : Array Slot, lv_has ls 18 [(0, .ref ed.2.1), (1, .ref (g 0)), (2, .ref (z 0)), (3, .int (iI (t))), (4, .int (iI (x))), (9, .int (iI (y))), (10, .int (iI (be))), (11, .int (iI (af)))] → W p l e room_1 s m args below meth c H locs cells slots Q (F0 m 563 ls [.int (iI (lv2)), .int (iI (29 + m_leap (σ 0) (σ 1) y))]) := by
              intro lv2 hlv2 ls hl
              refine q_icmp_eq (tgt := 568) hx hb dL_law_563 (by decide) (by omega) (by omega) (fun c_5 => ?_) (fun c_5 => ?_)
              · skip
                refine lv_iload hx hb dL_law_568 (lv_at hl 6 rfl) ?_
                refine lv_iload hx hb dL_law_570 (lv_at hl 4 rfl) ?_
                refine q_iconst hx hb dL_law_572 ?_
                refine q_ishr hx hb dL_law_573 ?_
                have hsr573 := m_sr_in (x) (3)
                refine lv_iload hx hb dL_law_574 (lv_at hl 7 rfl) ?_
                refine lv_iload hx hb dL_law_576 (lv_at hl 6 rfl) ?_
                refine q_isub hx hb dL_law_578 ?_
                refine q_callS (fr := 0) (lo := 0) (nL := 18) (Pic := fun _ => True) (As := [.int (iI (m_sr (x) (3))), .int (iI (af - be))]) (rest := [.int (iI (be))]) ⟨hx, hb, hml, hown, hts⟩ (l_below l D (ty3 cI cO cL) (m_sr (x) (3)) (af - be) (by omega) (by omega)) (va_cwS 2 hts gL_law_L_below rfl rfl rfl (by decide +kernel) ⟨Nat.le_of_ble_eq_true rfl, Nat.le_of_ble_eq_true rfl⟩) trivial hK rfl hl.1 rfl (Nat.le_of_ble_eq_true rfl) dL_law_579 (by omega) (by omega) ?_
                have hbl579 := m_bl_in (m_sr (x) (3)) (n := af - be) (by omega)
                refine q_top (fun dn edn => ?_)
                rw [← edn] at hbl579
                refine q_iadd hx hb dL_law_582 ?_
                refine q_top (fun dd edd => ?_)
                have hdr : 0 ≤ dd ∧ dd < m_fd (σ 0) (σ 1) 1000 := by omega
                have hback := r_back w0.1 w1 hdr
                refine lv_istore (lv' := [(12, .int (iI (dd))), (0, .ref ed.2.1), (1, .ref (g 0)), (2, .ref (z 0)), (3, .int (iI (t))), (4, .int (iI (x))), (9, .int (iI (y))), (10, .int (iI (be))), (11, .int (iI (af)))]) hx hb dL_law_583 hl (by decide) rfl (fun ls hl => ?_)
                refine lv_aload_n hx hb dL_law_585 rfl (lv_at hl 2 rfl) ?_
                refine lv_aload_n hx hb dL_law_586 rfl (lv_at hl 2 rfl) ?_
                refine lv_iload hx hb dL_law_587 (lv_at hl 0 rfl) ?_
                refine q_iconst hx hb dL_law_589 ?_
                refine q_callV (fr := 3) (lo := 65) (nL := 18) (Pic := PicB D cO g σ T) (As := [.int (iI (dd)), .int (iI (0))]) (rest := [.ref (g 0)]) ⟨hx, hb, hml, hown, hts⟩ (p_date l D cI cO cL g σ T hW (dd) (0) (by omega) (by omega)) (cwV 2 hts gL_law_X5_date rfl rfl rfl (by decide +kernel) ⟨Nat.le_of_ble_eq_true rfl, Nat.le_of_ble_eq_true rfl⟩) (ob_recv hPc.base.at0 hK rfl) hPc.base hK rfl hl.1 rfl (Nat.le_of_ble_eq_true rfl) dL_law_590 (by omega) (by omega) ?_
                refine q_is (z := m_y (σ 0) (σ 1) dd) (rfl) ?_
                refine lv_aload_n hx hb dL_law_593 rfl (lv_at hl 2 rfl) ?_
                refine lv_iload hx hb dL_law_594 (lv_at hl 0 rfl) ?_
                refine q_iconst hx hb dL_law_596 ?_
                refine q_callV (fr := 3) (lo := 65) (nL := 18) (Pic := PicB D cO g σ T) (As := [.int (iI (dd)), .int (iI (1))]) (rest := [.int (iI (m_y (σ 0) (σ 1) dd)), .ref (g 0)]) ⟨hx, hb, hml, hown, hts⟩ (p_date l D cI cO cL g σ T hW (dd) (1) (by omega) (by omega)) (cwV 2 hts gL_law_X5_date rfl rfl rfl (by decide +kernel) ⟨Nat.le_of_ble_eq_true rfl, Nat.le_of_ble_eq_true rfl⟩) (ob_recv hPc.base.at0 hK rfl) hPc.base hK rfl hl.1 rfl (Nat.le_of_ble_eq_true rfl) dL_law_597 (by omega) (by omega) ?_
                refine q_is (z := m_mo (σ 0) (σ 1) dd) (rfl) ?_
                refine lv_aload_n hx hb dL_law_600 rfl (lv_at hl 2 rfl) ?_
                refine lv_iload hx hb dL_law_601 (lv_at hl 0 rfl) ?_
                refine q_iconst hx hb dL_law_603 ?_
                refine q_callV (fr := 3) (lo := 65) (nL := 18) (Pic := PicB D cO g σ T) (As := [.int (iI (dd)), .int (iI (2))]) (rest := [.int (iI (m_mo (σ 0) (σ 1) dd)), .int (iI (m_y (σ 0) (σ 1) dd)), .ref (g 0)]) ⟨hx, hb, hml, hown, hts⟩ (p_date l D cI cO cL g σ T hW (dd) (2) (by omega) (by omega)) (cwV 2 hts gL_law_X5_date rfl rfl rfl (by decide +kernel) ⟨Nat.le_of_ble_eq_true rfl, Nat.le_of_ble_eq_true rfl⟩) (ob_recv hPc.base.at0 hK rfl) hPc.base hK rfl hl.1 rfl (Nat.le_of_ble_eq_true rfl) dL_law_604 (by omega) (by omega) ?_
                refine q_is (z := m_dm (σ 0) (σ 1) dd) (rfl) ?_
                refine q_callV (fr := 2) (lo := 43) (nL := 18) (Pic := PicB D cO g σ T) (As := [.int (iI (m_y (σ 0) (σ 1) dd)), .int (iI (m_mo (σ 0) (σ 1) dd)), .int (iI (m_dm (σ 0) (σ 1) dd))]) (rest := []) ⟨hx, hb, hml, hown, hts⟩ (p_day l D cI cO cL g σ T hW (m_y (σ 0) (σ 1) dd) (m_mo (σ 0) (σ 1) dd) (m_dm (σ 0) (σ 1) dd) (by have := m_y_in (σ 0) (σ 1) dd; omega) (by have := m_mo_in w0.1 w1 (d := dd) hdr; omega) (by have := m_dm_in w0.1 w1 (d := dd) hdr; omega)) (cwV 3 hts gL_law_X5_day rfl rfl rfl (by decide +kernel) ⟨Nat.le_of_ble_eq_true rfl, Nat.le_of_ble_eq_true rfl⟩) (ob_recv hPc.base.at0 hK rfl) hPc.base hK rfl hl.1 rfl (Nat.le_of_ble_eq_true rfl) dL_law_607 (by omega) (by omega) ?_
                refine q_is (z := dd) (hback.1) ?_
                refine lv_iload hx hb dL_law_610 (lv_at hl 0 rfl) ?_
                refine q_icmp_ne (tgt := 630) hx hb dL_law_612 (by decide) (by omega) (by omega) (fun c_6 => ?_) (fun c_6 => ?_)
                · exfalso
                  omega
                · skip
                  refine lv_aload_n hx hb dL_law_615 rfl (lv_at hl 2 rfl) ?_
                  refine lv_iload hx hb dL_law_616 (lv_at hl 0 rfl) ?_
                  refine q_iconst hx hb dL_law_618 ?_
                  refine q_callV (fr := 3) (lo := 65) (nL := 18) (Pic := PicB D cO g σ T) (As := [.int (iI (dd)), .int (iI (3))]) (rest := []) ⟨hx, hb, hml, hown, hts⟩ (p_date l D cI cO cL g σ T hW (dd) (3) (by omega) (by omega)) (cwV 2 hts gL_law_X5_date rfl rfl rfl (by decide +kernel) ⟨Nat.le_of_ble_eq_true rfl, Nat.le_of_ble_eq_true rfl⟩) (ob_recv hPc.base.at0 hK rfl) hPc.base hK rfl hl.1 rfl (Nat.le_of_ble_eq_true rfl) dL_law_619 (by omega) (by omega) ?_
                  refine q_is (z := dd % 7) (rfl) ?_
                  refine lv_iload hx hb dL_law_622 (lv_at hl 0 rfl) ?_
                  refine q_bipush hx hb dL_law_624 (by decide) ?_
                  refine q_irem hx hb dL_law_626 (by omega) (by omega) ?_
                  refine q_icmp_eq (tgt := 632) hx hb dL_law_627 (by decide) (by omega) (by omega) (fun c_7 => ?_) (fun c_7 => ?_)
                  · skip
                    exact kk y be af dd (by omega) (by omega) (by omega) _ (lv_sub hl [1, 2, 3, 4, 5, 6, 7, 8, 0] rfl)
                  · exfalso
                    omega
              · exfalso
                omega
            refine q_if_eq (tgt := 561) hx hb dL_law_553 (by decide) (by omega) (fun c_8 => ?_) (fun c_8 => ?_)
            · skip
              refine q_bipush hx hb dL_law_561 (by decide) ?_
              exact key_563 _ (by omega) _ (lv_sub hl [0, 1, 2, 3, 4, 5, 6, 7] rfl)
            · skip
              refine q_bipush hx hb dL_law_556 (by decide) ?_
              refine lv_goto (tgt := 563) hx hb dL_law_558 (by decide) ?_
              exact key_563 _ (by omega) _ (lv_sub hl [0, 1, 2, 3, 4, 5, 6, 7] rfl)
  refine q_if_eq (tgt := 492) hx hb dL_law_483 (by decide) (by omega) (fun c_9 => ?_) (fun c_9 => ?_)
  · skip
    refine q_sipush hx hb dL_law_492 (by decide) ?_
    exact key_495 _ (by omega) _ (lv_sub hl [3, 4, 5, 6, 7, 2, 1, 0] rfl)
  · skip
    refine q_sipush hx hb dL_law_486 (by decide) ?_
    refine lv_goto (tgt := 495) hx hb dL_law_489 (by decide) ?_
    exact key_495 _ (by omega) _ (lv_sub hl [3, 4, 5, 6, 7, 2, 1, 0] rfl)
set_option maxHeartbeats 4000000 in
set_option maxRecDepth 100000 in
theorem sg_F {p : Program} {l : Launch} {e : Env} {s : State} {m : MethodId} {args : Array Value} {below : List Frame} {meth : Method} {c : Code} {Q : State → Prop} {A0 : Nat → Prop} {D : va_G} {cI cO cL : ClassId} {ed : Nat × Nat × Nat} (C0 : LC p l s m args c A0 D cI cO cL ed) {g z : Nat → Nat} {σ T P : Nat → Int} (hLW : LW σ T P) (hco : 0 ≤ σ 10 ∧ σ 10 ≤ σ 9 ∧ σ 9 ≤ 1000) {H : Heap} {locs : List Loc} {cells slots : Nat} (hcR : cells ≤ room_1.cells) (hsR : slots ≤ room_1.slots) (hPc : PicC D cI cO g σ T P H) (hPic : PicS D cI cL z σ T P H) {t x y be af dd : Int} (hyy : 0 ≤ y ∧ y < 500) (hbe : be = m_fd (σ 0) (σ 1) y ∧ af = m_fd (σ 0) (σ 1) (y + 1) ∧ 0 ≤ be ∧ be + 365 ≤ af ∧ af ≤ be + 366 ∧ af ≤ 183366) (hdd : be ≤ dd ∧ dd < af) {ls : Array Slot} (hl : lv_has ls 18 [(0, .ref ed.2.1), (1, .ref (g 0)), (2, .ref (z 0)), (3, .int (iI (t))), (4, .int (iI (x))), (9, .int (iI (y))), (10, .int (iI (be))), (11, .int (iI (af))), (12, .int (iI (dd)))]) (kk : ∀ ls : Array Slot, lv_has ls 18 [(0, .ref ed.2.1), (1, .ref (g 0)), (2, .ref (z 0)), (3, .int (iI (t))), (4, .int (iI (x))), (9, .int (iI (y))), (10, .int (iI (be))), (11, .int (iI (af))), (12, .int (iI (dd)))] → W p l e room_1 s m args below meth c H locs cells slots Q (F0 m 694 ls [])) : W p l e room_1 s m args below meth c H locs cells slots Q (F0 m 632 ls []) := by
  obtain ⟨hx, hb, hml, hown, hts, hA, hK, hE, hT⟩ := C0
  obtain ⟨hW, hSS, hp0⟩ := id hLW
  obtain ⟨w0, w1, w2, w3, w4, w5, w6, w7, w8⟩ := id hW
  have hin_X6 : ∀ w ∈ u_ws RX6 TX6 10, w ∈ wsL_law := (fun w h => (List.mem_append_left _ (List.mem_append_left _ (List.mem_append_left _ (List.mem_append_left _ (List.mem_append_left _ (List.mem_append_left _ (List.mem_append_left _ (List.mem_append_left _ (List.mem_append_left _ (List.mem_append_left _ (List.mem_append_right _ h))))))))))))
  have hf1000 := m_fd_lt (cy := σ 0) (lq := σ 1) (y := y + 1) (z := 1000) w0.1 w1 (by omega) (by omega)
  have hds := r_ds hW (d := dd) (by omega)
  refine lv_aload_n hx hb dL_law_632 rfl (lv_at hl 1 rfl) ?_
  refine lv_iload hx hb dL_law_633 (lv_at hl 8 rfl) ?_
  refine q_iconst hx hb dL_law_635 ?_
  refine q_callV (fr := 3) (lo := 65) (nL := 18) (Pic := PicB D cO g σ T) (As := [.int (iI (dd)), .int (iI (4))]) (rest := []) ⟨hx, hb, hml, hown, hts⟩ (p_date l D cI cO cL g σ T hW (dd) (4) (by omega) (by omega)) (cwV 2 hts gL_law_X5_date rfl rfl rfl (by decide +kernel) ⟨Nat.le_of_ble_eq_true rfl, Nat.le_of_ble_eq_true rfl⟩) (ob_recv hPc.base.at0 hK rfl) hPc.base hK rfl hl.1 rfl (Nat.le_of_ble_eq_true rfl) dL_law_636 (by omega) (by omega) ?_
  refine q_is (z := m_ds σ dd) (rfl) ?_
  refine q_top (fun ag eag => ?_)
  rw [← eag] at hds
  refine lv_istore (lv' := [(13, .int (iI (ag))), (0, .ref ed.2.1), (1, .ref (g 0)), (2, .ref (z 0)), (3, .int (iI (t))), (4, .int (iI (x))), (9, .int (iI (y))), (10, .int (iI (be))), (11, .int (iI (af))), (12, .int (iI (dd)))]) hx hb dL_law_639 hl (by decide) rfl (fun ls hl => ?_)
  refine lv_iload hx hb dL_law_641 (lv_at hl 0 rfl) ?_
  refine q_bipush hx hb dL_law_643 (by decide) ?_
  refine q_icmp_gt (tgt := 692) hx hb dL_law_645 (by decide) (by omega) (by omega) (fun c_1 => ?_) (fun c_1 => ?_)
  · exfalso
    omega
  · skip
    refine lv_iload hx hb dL_law_648 (lv_at hl 0 rfl) ?_
    refine q_iconst hx hb dL_law_650 ?_
    refine q_icmp_lt (tgt := 692) hx hb dL_law_651 (by decide) (by omega) (by omega) (fun c_2 => ?_) (fun c_2 => ?_)
    · exfalso
      omega
    · skip
      refine lv_iload hx hb dL_law_654 (lv_at hl 0 rfl) ?_
      have key_664 : ∀ (v : Int), (v = 1 ∧ ag = 0) ∨ (v = 0 ∧ ag ≠ 0) → ∀ ls : Array Slot, lv_has ls 18 [(0, .ref ed.2.1), (1, .ref (g 0)), (2, .ref (z 0)), (3, .int (iI (t))), (4, .int (iI (x))), (9, .int (iI (y))), (10, .int (iI (be))), (11, .int (iI (af))), (12, .int (iI (dd))), (13, .int (iI (ag)))] → W p l e room_1 s m args below meth c H locs cells slots Q (F0 m 664 ls [.int (iI (v))]) := by
        intro v hv ls hl
        refine lv_aload_n hx hb dL_law_664 rfl (lv_at hl 1 rfl) ?_
        refine lv_iload hx hb dL_law_665 (lv_at hl 8 rfl) ?_
        refine q_iconst hx hb dL_law_667 ?_
        refine q_callS (fr := 7) (lo := 152) (nL := 18) (Pic := PicC D cI cO g σ T P) (As := [.ref (g 0), .int (iI (dd)), .int (iI (0))]) (rest := [.int (iI (v))]) ⟨hx, hb, hml, hown, hts⟩ (l_isMoon l D cI cO cL g σ T P hW hSS (dd) (0) (by omega) (Or.inl rfl)) (va_cwS 3 hts gL_law_L_isMoon rfl rfl rfl (by decide +kernel) ⟨Nat.le_of_ble_eq_true rfl, Nat.le_of_ble_eq_true rfl⟩) hPc hK rfl hl.1 rfl (Nat.le_of_ble_eq_true rfl) dL_law_668 (by omega) (by omega) ?_
        have him668 := r_im_01 (σ 2) (σ 3) (0) (dd)
        refine q_icmp_ne (tgt := 692) hx hb dL_law_671 (by decide) (by omega) (by omega) (fun c_3 => ?_) (fun c_3 => ?_)
        · exfalso
          omega
        · skip
          refine lv_iload hx hb dL_law_674 (lv_at hl 9 rfl) ?_
          refine q_if_le (tgt := 694) hx hb dL_law_676 (by decide) (by omega) (fun c_4 => ?_) (fun c_4 => ?_)
          · skip
            exact kk  _ (lv_sub hl [0, 1, 2, 3, 4, 5, 6, 7, 8] rfl)
          · skip
            refine lv_aload_n hx hb dL_law_679 rfl (lv_at hl 1 rfl) ?_
            refine lv_iload hx hb dL_law_680 (lv_at hl 8 rfl) ?_
            refine lv_iload hx hb dL_law_682 (lv_at hl 9 rfl) ?_
            refine q_isub hx hb dL_law_684 ?_
            refine q_iconst hx hb dL_law_685 ?_
            refine q_callS (fr := 7) (lo := 152) (nL := 18) (Pic := PicC D cI cO g σ T P) (As := [.ref (g 0), .int (iI (dd - ag)), .int (iI (0))]) (rest := []) ⟨hx, hb, hml, hown, hts⟩ (l_isMoon l D cI cO cL g σ T P hW hSS (dd - ag) (0) (by omega) (Or.inl rfl)) (va_cwS 3 hts gL_law_L_isMoon rfl rfl rfl (by decide +kernel) ⟨Nat.le_of_ble_eq_true rfl, Nat.le_of_ble_eq_true rfl⟩) hPc hK rfl hl.1 rfl (Nat.le_of_ble_eq_true rfl) dL_law_686 (by omega) (by omega) ?_
            have him686 := r_im_01 (σ 2) (σ 3) (0) (dd - ag)
            refine q_if_ne (tgt := 694) hx hb dL_law_689 (by decide) (by omega) (fun c_5 => ?_) (fun c_5 => ?_)
            · skip
              exact kk  _ (lv_sub hl [0, 1, 2, 3, 4, 5, 6, 7, 8] rfl)
            · exfalso
              omega
      refine q_if_ne (tgt := 663) hx hb dL_law_656 (by decide) (by omega) (fun c_6 => ?_) (fun c_6 => ?_)
      · skip
        refine q_iconst hx hb dL_law_663 ?_
        exact key_664 _ (by omega) _ (lv_sub hl [1, 2, 3, 4, 5, 6, 7, 8, 9, 0] rfl)
      · skip
        refine q_iconst hx hb dL_law_659 ?_
        refine lv_goto (tgt := 664) hx hb dL_law_660 (by decide) ?_
        exact key_664 _ (by omega) _ (lv_sub hl [1, 2, 3, 4, 5, 6, 7, 8, 9, 0] rfl)
set_option maxHeartbeats 4000000 in
set_option maxRecDepth 100000 in
theorem sg_G {p : Program} {l : Launch} {e : Env} {s : State} {m : MethodId} {args : Array Value} {below : List Frame} {meth : Method} {c : Code} {Q : State → Prop} {A0 : Nat → Prop} {D : va_G} {cI cO cL : ClassId} {ed : Nat × Nat × Nat} (C0 : LC p l s m args c A0 D cI cO cL ed) {g z : Nat → Nat} {σ T P : Nat → Int} (hLW : LW σ T P) (hco : 0 ≤ σ 10 ∧ σ 10 ≤ σ 9 ∧ σ 9 ≤ 1000) {H : Heap} {locs : List Loc} {cells slots : Nat} (hcR : cells ≤ room_1.cells) (hsR : slots ≤ room_1.slots) (hPc : PicC D cI cO g σ T P H) (hPic : PicS D cI cL z σ T P H) {t x y be af dd : Int} (hyy : 0 ≤ y ∧ y < 500) (hbe : be = m_fd (σ 0) (σ 1) y ∧ af = m_fd (σ 0) (σ 1) (y + 1) ∧ 0 ≤ be ∧ be + 365 ≤ af ∧ af ≤ be + 366 ∧ af ≤ 183366) (hdd : be ≤ dd ∧ dd < af) {ls : Array Slot} (hl : lv_has ls 18 [(0, .ref ed.2.1), (1, .ref (g 0)), (2, .ref (z 0)), (3, .int (iI (t))), (4, .int (iI (x))), (9, .int (iI (y))), (10, .int (iI (be))), (11, .int (iI (af))), (12, .int (iI (dd)))]) (kk : ∀ ls : Array Slot, lv_has ls 18 [(0, .ref ed.2.1), (1, .ref (g 0)), (2, .ref (z 0)), (3, .int (iI (t))), (4, .int (iI (x))), (9, .int (iI (y))), (10, .int (iI (be))), (11, .int (iI (af))), (12, .int (iI (dd)))] → W p l e room_1 s m args below meth c H locs cells slots Q (F0 m 854 ls [])) : W p l e room_1 s m args below meth c H locs cells slots Q (F0 m 694 ls []) := by
  obtain ⟨hx, hb, hml, hown, hts, hA, hK, hE, hT⟩ := C0
  obtain ⟨hW, hSS, hp0⟩ := id hLW
  obtain ⟨w0, w1, w2, w3, w4, w5, w6, w7, w8⟩ := id hW
  have hin_X6 : ∀ w ∈ u_ws RX6 TX6 10, w ∈ wsL_law := (fun w h => (List.mem_append_left _ (List.mem_append_left _ (List.mem_append_left _ (List.mem_append_left _ (List.mem_append_left _ (List.mem_append_left _ (List.mem_append_left _ (List.mem_append_left _ (List.mem_append_left _ (List.mem_append_left _ (List.mem_append_right _ h))))))))))))
  have hf1000 := m_fd_lt (cy := σ 0) (lq := σ 1) (y := y + 1) (z := 1000) w0.1 w1 (by omega) (by omega)
  refine q_iconst hx hb dL_law_694 ?_
  refine lv_istore (lv' := [(14, .int (iI (0))), (0, .ref ed.2.1), (1, .ref (g 0)), (2, .ref (z 0)), (3, .int (iI (t))), (4, .int (iI (x))), (9, .int (iI (y))), (10, .int (iI (be))), (11, .int (iI (af))), (12, .int (iI (dd)))]) hx hb dL_law_695 hl (by decide) rfl (fun ls hl => ?_)
  have key_697 : ∀ (fu : Nat) (f : Int), 0 ≤ f ∧ f ≤ σ 6 → (((σ 6 - f).toNat : Int)) < (fu : Int) → ∀ ls : Array Slot, lv_has ls 18 [(0, .ref ed.2.1), (1, .ref (g 0)), (2, .ref (z 0)), (3, .int (iI (t))), (4, .int (iI (x))), (9, .int (iI (y))), (10, .int (iI (be))), (11, .int (iI (af))), (12, .int (iI (dd))), (14, .int (iI (f)))] → W p l e room_1 s m args below meth c H locs cells slots Q (F0 m 697 ls []) := by
    intro fu
    induction fu with
    | zero => intro f hf hm_697 ls hl; exact absurd hm_697 (by omega)
    | succ fu ih_697 =>
      intro f hf hm_697 ls hl
      refine lv_iload hx hb dL_law_697 (lv_at hl 9 rfl) ?_
      refine lv_aload_n hx hb dL_law_699 rfl (lv_at hl 2 rfl) ?_
      refine q_get (ci := 8) (C := RX6) (T := TX6) (N := 10) hx hb hts hin_X6 hown hK (v := .ref (z 1)) hPic.at0 rfl 6 (by decide) (hts (.fieldLink RL 57 "AlmanacHouseLaw$Sim" "feasts" "[[I") (List.mem_of_getElem? (i := 6) rfl)) (fun _ h9 => h9) rfl dL_law_700 ?_
      refine q_alen (z := σ 6) hx hb hK hPic.fs 2 rfl (by omega) dL_law_703 ?_
      refine q_icmp_ge (tgt := 854) hx hb dL_law_704 (by decide) (by omega) (by omega) (fun c_1 => ?_) (fun c_1 => ?_)
      · skip
        exact kk  _ (lv_sub hl [0, 1, 2, 3, 4, 5, 6, 7, 8] rfl)
      · skip
        refine lv_aload_n hx hb dL_law_707 rfl (lv_at hl 1 rfl) ?_
        refine lv_iload hx hb dL_law_708 (lv_at hl 9 rfl) ?_
        refine lv_iload hx hb dL_law_710 (lv_at hl 5 rfl) ?_
        refine q_callV (fr := 3) (lo := 64) (nL := 18) (Pic := PicB D cO g σ T) (As := [.int (iI (f)), .int (iI (y))]) (rest := []) ⟨hx, hb, hml, hown, hts⟩ (p_feast l D cI cO cL g σ T hW (f) (y) (by omega) (by omega)) (cwV 2 hts gL_law_X5_feast rfl rfl rfl (by decide +kernel) ⟨Nat.le_of_ble_eq_true rfl, Nat.le_of_ble_eq_true rfl⟩) (ob_recv hPc.base.at0 hK rfl) hPc.base hK rfl hl.1 rfl (Nat.le_of_ble_eq_true rfl) dL_law_712 (by omega) (by omega) ?_
        obtain ⟨f0, f1, f2, f3, f4⟩ := w8 (f).toNat (by omega)
        have hF := m_F_in hW (i := (f).toNat) (by omega) (y := y) (by omega)
        have hft := r_feast (cy := σ 0) (lq := σ 1) (ln := σ 2) (fi := σ 3) (mo := T (5 * (f).toNat)) (da := T (5 * (f).toNat + 1)) (mn := T (5 * (f).toNat + 2)) (wd := T (5 * (f).toNat + 3)) (of := T (5 * (f).toNat + 4)) (y := y) w2 f3
        have hfb := r_feast_in (i := (f).toNat) (y := y) hW (by omega) (by omega)
        have hag := r_again (σ := σ) (T := T) (i := (f).toNat) (y := y) hyy
        refine lv_aload_n hx hb dL_law_715 rfl (lv_at hl 2 rfl) ?_
        refine q_get (ci := 8) (C := RX6) (T := TX6) (N := 10) hx hb hts hin_X6 hown hK (v := .ref (z 1)) hPic.at0 rfl 6 (by decide) (hts (.fieldLink RL 57 "AlmanacHouseLaw$Sim" "feasts" "[[I") (List.mem_of_getElem? (i := 6) rfl)) (fun _ h9 => h9) rfl dL_law_716 ?_
        refine lv_iload hx hb dL_law_719 (lv_at hl 9 rfl) ?_
        refine q_aldA (cA := cL) (n := (σ 6).toNat) (f := (fun j => if j < (σ 6).toNat then some (z (10 + j)) else none)) (v := z (10 + (f).toNat)) hx hb hK hPic.fs 2 rfl (by omega) (by omega) (if_pos (by omega)) dL_law_721 ?_
        refine q_iconst hx hb dL_law_722 ?_
        refine q_iald (cA := cI) (n := 5) (f := (fun q8 => T (5 * (f).toNat + q8))) hx hb hK (hPic.fr (i := (f).toNat) (by omega)) 0 rfl (by omega) (by decide) dL_law_723 ?_
        refine q_is (z := T (5 * (f).toNat + 4)) (by rfl) ?_
        refine q_isub hx hb dL_law_724 ?_
        refine q_top (fun its eits => ?_)
        rw [show m_fday (σ 0) (σ 1) (σ 2) (σ 3) (T (5 * (f).toNat)) (T (5 * (f).toNat + 1)) (T (5 * (f).toNat + 2)) (T (5 * (f).toNat + 3)) (T (5 * (f).toNat + 4)) y = m_F σ T (f).toNat y from rfl, ← eits] at hft
        rw [← eits] at hfb
        refine lv_istore (lv' := [(15, .int (iI (its))), (0, .ref ed.2.1), (1, .ref (g 0)), (2, .ref (z 0)), (3, .int (iI (t))), (4, .int (iI (x))), (9, .int (iI (y))), (10, .int (iI (be))), (11, .int (iI (af))), (12, .int (iI (dd))), (14, .int (iI (f)))]) hx hb dL_law_725 hl (by decide) rfl (fun ls hl => ?_)
        refine lv_aload_n hx hb dL_law_727 rfl (lv_at hl 3 rfl) ?_
        refine q_get (ci := 8) (C := RX6) (T := TX6) (N := 10) hx hb hts hin_X6 hown hK (v := .ref (z 1)) hPic.at0 rfl 6 (by decide) (hts (.fieldLink RL 57 "AlmanacHouseLaw$Sim" "feasts" "[[I") (List.mem_of_getElem? (i := 6) rfl)) (fun _ h9 => h9) rfl dL_law_728 ?_
        refine lv_iload hx hb dL_law_731 (lv_at hl 10 rfl) ?_
        refine q_aldA (cA := cL) (n := (σ 6).toNat) (f := (fun j => if j < (σ 6).toNat then some (z (10 + j)) else none)) (v := z (10 + (f).toNat)) hx hb hK hPic.fs 2 rfl (by omega) (by omega) (if_pos (by omega)) dL_law_733 ?_
        refine q_iconst hx hb dL_law_734 ?_
        refine q_iald (cA := cI) (n := 5) (f := (fun q8 => T (5 * (f).toNat + q8))) hx hb hK (hPic.fr (i := (f).toNat) (by omega)) 0 rfl (by omega) (by decide) dL_law_735 ?_
        refine q_is (z := T (5 * (f).toNat + 3)) (by rfl) ?_
        have key_783 : ∀ ls : Array Slot, lv_has ls 18 [(0, .ref ed.2.1), (1, .ref (g 0)), (2, .ref (z 0)), (3, .int (iI (t))), (4, .int (iI (x))), (9, .int (iI (y))), (10, .int (iI (be))), (11, .int (iI (af))), (12, .int (iI (dd))), (14, .int (iI (f))), (15, .int (iI (its)))] → W p l e room_1 s m args below meth c H locs cells slots Q (F0 m 783 ls []) := by
          intro   ls hl
          refine lv_aload_n hx hb dL_law_783 rfl (lv_at hl 1 rfl) ?_
          refine lv_iload hx hb dL_law_784 (lv_at hl 9 rfl) ?_
          refine lv_iload hx hb dL_law_786 (lv_at hl 5 rfl) ?_
          refine q_callV (fr := 3) (lo := 64) (nL := 18) (Pic := PicB D cO g σ T) (As := [.int (iI (f)), .int (iI (y))]) (rest := []) ⟨hx, hb, hml, hown, hts⟩ (p_again l D cI cO cL g σ T hW (f) (y) (by omega) (by omega)) (cwV 2 hts gL_law_X5_again rfl rfl rfl (by decide +kernel) ⟨Nat.le_of_ble_eq_true rfl, Nat.le_of_ble_eq_true rfl⟩) (ob_recv hPc.base.at0 hK rfl) hPc.base hK rfl hl.1 rfl (Nat.le_of_ble_eq_true rfl) dL_law_788 (by omega) (by omega) ?_
          refine q_top (fun agn eagn => ?_)
          rw [← eagn] at hag
          refine lv_istore (lv' := [(16, .int (iI (agn))), (0, .ref ed.2.1), (1, .ref (g 0)), (2, .ref (z 0)), (3, .int (iI (t))), (4, .int (iI (x))), (9, .int (iI (y))), (10, .int (iI (be))), (11, .int (iI (af))), (12, .int (iI (dd))), (14, .int (iI (f))), (15, .int (iI (its)))]) hx hb dL_law_791 hl (by decide) rfl (fun ls hl => ?_)
          refine lv_iload hx hb dL_law_793 (lv_at hl 0 rfl) ?_
          refine q_if_lt (tgt := 848) hx hb dL_law_795 (by decide) (by omega) (fun c_2 => ?_) (fun c_2 => ?_)
          · skip
            refine q_iinc (k := 10) (lv' := [(14, .int (iI (f + 1))), (16, .int (iI (agn))), (0, .ref ed.2.1), (1, .ref (g 0)), (2, .ref (z 0)), (3, .int (iI (t))), (4, .int (iI (x))), (9, .int (iI (y))), (10, .int (iI (be))), (11, .int (iI (af))), (12, .int (iI (dd))), (15, .int (iI (its)))]) hx hb dL_law_848 hl rfl (by decide) rfl (fun ls hl => ?_)
            refine lv_goto (tgt := 697) hx hb dL_law_851 (by decide) ?_
            exact ih_697 _ (by omega) (by omega) _ (lv_sub hl [2, 3, 4, 5, 6, 7, 8, 9, 10, 0] rfl)
          · skip
            refine lv_iload hx hb dL_law_798 (lv_at hl 0 rfl) ?_
            refine lv_iload hx hb dL_law_800 (lv_at hl 6 rfl) ?_
            refine q_icmp_le (tgt := 846) hx hb dL_law_802 (by decide) (by omega) (by omega) (fun c_3 => ?_) (fun c_3 => ?_)
            · exfalso
              omega
            · skip
              refine lv_iload hx hb dL_law_805 (lv_at hl 0 rfl) ?_
              refine lv_iload hx hb dL_law_807 (lv_at hl 6 rfl) ?_
              refine q_bipush hx hb dL_law_809 (by decide) ?_
              refine q_iadd hx hb dL_law_811 ?_
              refine q_icmp_gt (tgt := 846) hx hb dL_law_812 (by decide) (by omega) (by omega) (fun c_4 => ?_) (fun c_4 => ?_)
              · exfalso
                omega
              · skip
                have hF2 := m_F_in hW (i := (f).toNat) (by omega) (y := agn) (by omega)
                have hfa := m_fd_le (cy := σ 0) (lq := σ 1) (y := agn) w0.1 w1 (by omega)
                refine lv_aload_n hx hb dL_law_815 rfl (lv_at hl 2 rfl) ?_
                refine lv_iload hx hb dL_law_816 (lv_at hl 10 rfl) ?_
                refine lv_iload hx hb dL_law_818 (lv_at hl 0 rfl) ?_
                refine q_callV (fr := 3) (lo := 64) (nL := 18) (Pic := PicB D cO g σ T) (As := [.int (iI (f)), .int (iI (agn))]) (rest := []) ⟨hx, hb, hml, hown, hts⟩ (p_feast l D cI cO cL g σ T hW (f) (agn) (by omega) (by omega)) (cwV 2 hts gL_law_X5_feast rfl rfl rfl (by decide +kernel) ⟨Nat.le_of_ble_eq_true rfl, Nat.le_of_ble_eq_true rfl⟩) (ob_recv hPc.base.at0 hK rfl) hPc.base hK rfl hl.1 rfl (Nat.le_of_ble_eq_true rfl) dL_law_820 (by omega) (by omega) ?_
                refine lv_aload_n hx hb dL_law_823 rfl (lv_at hl 2 rfl) ?_
                refine lv_iload hx hb dL_law_824 (lv_at hl 0 rfl) ?_
                refine q_iconst hx hb dL_law_826 ?_
                refine q_iconst hx hb dL_law_827 ?_
                refine q_callV (fr := 2) (lo := 43) (nL := 18) (Pic := PicB D cO g σ T) (As := [.int (iI (agn)), .int (iI (0)), .int (iI (0))]) (rest := [.int (iI (m_F σ T (Int.toNat (f)) (agn)))]) ⟨hx, hb, hml, hown, hts⟩ (p_day l D cI cO cL g σ T hW (agn) (0) (0) (by omega) (by omega) (by have := m_md_in (σ 0) (σ 1) (agn) (0); omega)) (cwV 3 hts gL_law_X5_day rfl rfl rfl (by decide +kernel) ⟨Nat.le_of_ble_eq_true rfl, Nat.le_of_ble_eq_true rfl⟩) (ob_recv hPc.base.at0 hK rfl) hPc.base hK rfl hl.1 rfl (Nat.le_of_ble_eq_true rfl) dL_law_828 (by omega) (by omega) ?_
                refine q_is (z := m_fd (σ 0) (σ 1) agn) (by unfold m_d0; omega) ?_
                refine q_isub hx hb dL_law_831 ?_
                refine lv_aload_n hx hb dL_law_832 rfl (lv_at hl 2 rfl) ?_
                refine lv_iload hx hb dL_law_833 (lv_at hl 10 rfl) ?_
                refine lv_iload hx hb dL_law_835 (lv_at hl 6 rfl) ?_
                obtain ⟨h91, h92, h93⟩ := hag.resolve_left (by omega)
                refine q_callV (fr := 3) (lo := 64) (nL := 18) (Pic := PicB D cO g σ T) (As := [.int (iI (f)), .int (iI (y))]) (rest := [.int (iI ((m_F σ T (Int.toNat (f)) (agn)) - (m_fd (σ 0) (σ 1) agn)))]) ⟨hx, hb, hml, hown, hts⟩ (p_feast l D cI cO cL g σ T hW (f) (y) (by omega) (by omega)) (cwV 2 hts gL_law_X5_feast rfl rfl rfl (by decide +kernel) ⟨Nat.le_of_ble_eq_true rfl, Nat.le_of_ble_eq_true rfl⟩) (ob_recv hPc.base.at0 hK rfl) hPc.base hK rfl hl.1 rfl (Nat.le_of_ble_eq_true rfl) dL_law_837 (by omega) (by omega) ?_
                refine lv_iload hx hb dL_law_840 (lv_at hl 7 rfl) ?_
                refine q_isub hx hb dL_law_842 ?_
                refine q_icmp_eq (tgt := 848) hx hb dL_law_843 (by decide) (by omega) (by omega) (fun c_5 => ?_) (fun c_5 => ?_)
                · skip
                  refine q_iinc (k := 10) (lv' := [(14, .int (iI (f + 1))), (16, .int (iI (agn))), (0, .ref ed.2.1), (1, .ref (g 0)), (2, .ref (z 0)), (3, .int (iI (t))), (4, .int (iI (x))), (9, .int (iI (y))), (10, .int (iI (be))), (11, .int (iI (af))), (12, .int (iI (dd))), (15, .int (iI (its)))]) hx hb dL_law_848 hl rfl (by decide) rfl (fun ls hl => ?_)
                  refine lv_goto (tgt := 697) hx hb dL_law_851 (by decide) ?_
                  exact ih_697 _ (by omega) (by omega) _ (lv_sub hl [2, 3, 4, 5, 6, 7, 8, 9, 10, 0] rfl)
                · exfalso
                  omega
        refine q_if_lt (tgt := 759) hx hb dL_law_736 (by decide) (by omega) (fun c_6 => ?_) (fun c_6 => ?_)
        · skip
          refine lv_aload_n hx hb dL_law_759 rfl (lv_at hl 3 rfl) ?_
          refine q_get (ci := 8) (C := RX6) (T := TX6) (N := 10) hx hb hts hin_X6 hown hK (v := .ref (z 1)) hPic.at0 rfl 6 (by decide) (hts (.fieldLink RL 57 "AlmanacHouseLaw$Sim" "feasts" "[[I") (List.mem_of_getElem? (i := 6) rfl)) (fun _ h9 => h9) rfl dL_law_760 ?_
          refine lv_iload hx hb dL_law_763 (lv_at hl 10 rfl) ?_
          refine q_aldA (cA := cL) (n := (σ 6).toNat) (f := (fun j => if j < (σ 6).toNat then some (z (10 + j)) else none)) (v := z (10 + (f).toNat)) hx hb hK hPic.fs 2 rfl (by omega) (by omega) (if_pos (by omega)) dL_law_765 ?_
          refine q_iconst hx hb dL_law_766 ?_
          refine q_iald (cA := cI) (n := 5) (f := (fun q8 => T (5 * (f).toNat + q8))) hx hb hK (hPic.fr (i := (f).toNat) (by omega)) 0 rfl (by omega) (by decide) dL_law_767 ?_
          refine q_is (z := T (5 * (f).toNat + 2)) (by rfl) ?_
          refine q_if_le (tgt := 783) hx hb dL_law_768 (by decide) (by omega) (fun c_7 => ?_) (fun c_7 => ?_)
          · skip
            exact key_783   _ (lv_sub hl [1, 2, 3, 4, 5, 6, 7, 8, 9, 10, 0] rfl)
          · skip
            refine lv_aload_n hx hb dL_law_771 rfl (lv_at hl 2 rfl) ?_
            refine lv_iload hx hb dL_law_772 (lv_at hl 0 rfl) ?_
            refine q_iconst hx hb dL_law_774 ?_
            refine q_callS (fr := 7) (lo := 152) (nL := 18) (Pic := PicC D cI cO g σ T P) (As := [.ref (g 0), .int (iI (its)), .int (iI (1))]) (rest := []) ⟨hx, hb, hml, hown, hts⟩ (l_isMoon l D cI cO cL g σ T P hW hSS (its) (1) (by omega) (Or.inr rfl)) (va_cwS 3 hts gL_law_L_isMoon rfl rfl rfl (by decide +kernel) ⟨Nat.le_of_ble_eq_true rfl, Nat.le_of_ble_eq_true rfl⟩) hPc hK rfl hl.1 rfl (Nat.le_of_ble_eq_true rfl) dL_law_775 (by omega) (by omega) ?_
            have him775 := r_im_01 (σ 2) (σ 3) (1) (its)
            refine q_if_ne (tgt := 783) hx hb dL_law_778 (by decide) (by omega) (fun c_8 => ?_) (fun c_8 => ?_)
            · skip
              exact key_783   _ (lv_sub hl [1, 2, 3, 4, 5, 6, 7, 8, 9, 10, 0] rfl)
            · exfalso
              omega
        · skip
          refine lv_iload hx hb dL_law_739 (lv_at hl 0 rfl) ?_
          refine q_bipush hx hb dL_law_741 (by decide) ?_
          refine q_irem hx hb dL_law_743 (by omega) (by omega) ?_
          refine lv_aload_n hx hb dL_law_744 rfl (lv_at hl 3 rfl) ?_
          refine q_get (ci := 8) (C := RX6) (T := TX6) (N := 10) hx hb hts hin_X6 hown hK (v := .ref (z 1)) hPic.at0 rfl 6 (by decide) (hts (.fieldLink RL 57 "AlmanacHouseLaw$Sim" "feasts" "[[I") (List.mem_of_getElem? (i := 6) rfl)) (fun _ h9 => h9) rfl dL_law_745 ?_
          refine lv_iload hx hb dL_law_748 (lv_at hl 10 rfl) ?_
          refine q_aldA (cA := cL) (n := (σ 6).toNat) (f := (fun j => if j < (σ 6).toNat then some (z (10 + j)) else none)) (v := z (10 + (f).toNat)) hx hb hK hPic.fs 2 rfl (by omega) (by omega) (if_pos (by omega)) dL_law_750 ?_
          refine q_iconst hx hb dL_law_751 ?_
          refine q_iald (cA := cI) (n := 5) (f := (fun q8 => T (5 * (f).toNat + q8))) hx hb hK (hPic.fr (i := (f).toNat) (by omega)) 0 rfl (by omega) (by decide) dL_law_752 ?_
          refine q_is (z := T (5 * (f).toNat + 3)) (by rfl) ?_
          refine q_icmp_eq (tgt := 783) hx hb dL_law_753 (by decide) (by omega) (by omega) (fun c_9 => ?_) (fun c_9 => ?_)
          · skip
            exact key_783   _ (lv_sub hl [1, 2, 3, 4, 5, 6, 7, 8, 9, 10, 0] rfl)
          · exfalso
            omega
  exact key_697 ((σ 6).toNat + 1) _ (by omega) (by omega) _ (lv_sub hl [1, 2, 3, 4, 5, 6, 7, 8, 9, 0] rfl)
set_option maxHeartbeats 4000000 in
set_option maxRecDepth 100000 in
theorem sg_H {p : Program} {l : Launch} {e : Env} {s : State} {m : MethodId} {args : Array Value} {below : List Frame} {meth : Method} {c : Code} {Q : State → Prop} {A0 : Nat → Prop} {D : va_G} {cI cO cL : ClassId} {ed : Nat × Nat × Nat} (C0 : LC p l s m args c A0 D cI cO cL ed) {g z : Nat → Nat} {σ T P : Nat → Int} (hLW : LW σ T P) (hco : 0 ≤ σ 10 ∧ σ 10 ≤ σ 9 ∧ σ 9 ≤ 1000) {H : Heap} {locs : List Loc} {cells slots : Nat} (hcR : cells ≤ room_1.cells) (hsR : slots ≤ room_1.slots) (hPc : PicC D cI cO g σ T P H) (hPic : PicS D cI cL z σ T P H) {t x y be af dd : Int} (hyy : 0 ≤ y ∧ y < 500) (hbe : be = m_fd (σ 0) (σ 1) y ∧ af = m_fd (σ 0) (σ 1) (y + 1) ∧ 0 ≤ be ∧ be + 365 ≤ af ∧ af ≤ be + 366 ∧ af ≤ 183366) (hdd : be ≤ dd ∧ dd < af) {ls : Array Slot} (hl : lv_has ls 18 [(0, .ref ed.2.1), (1, .ref (g 0)), (2, .ref (z 0)), (3, .int (iI (t))), (4, .int (iI (x))), (9, .int (iI (y))), (10, .int (iI (be))), (11, .int (iI (af))), (12, .int (iI (dd)))]) (kk : ∀ (nx : Int), (nx = m_next σ dd) → ∀ ls : Array Slot, lv_has ls 18 [(0, .ref ed.2.1), (1, .ref (g 0)), (2, .ref (z 0)), (3, .int (iI (t))), (4, .int (iI (x))), (9, .int (iI (y))), (10, .int (iI (be))), (11, .int (iI (af))), (12, .int (iI (dd))), (14, .int (iI (nx)))] → W p l e room_1 s m args below meth c H locs cells slots Q (F0 m 907 ls [])) : W p l e room_1 s m args below meth c H locs cells slots Q (F0 m 854 ls []) := by
  obtain ⟨hx, hb, hml, hown, hts, hA, hK, hE, hT⟩ := C0
  obtain ⟨hW, hSS, hp0⟩ := id hLW
  obtain ⟨w0, w1, w2, w3, w4, w5, w6, w7, w8⟩ := id hW
  have hin_X6 : ∀ w ∈ u_ws RX6 TX6 10, w ∈ wsL_law := (fun w h => (List.mem_append_left _ (List.mem_append_left _ (List.mem_append_left _ (List.mem_append_left _ (List.mem_append_left _ (List.mem_append_left _ (List.mem_append_left _ (List.mem_append_left _ (List.mem_append_left _ (List.mem_append_left _ (List.mem_append_right _ h))))))))))))
  have hf1000 := m_fd_lt (cy := σ 0) (lq := σ 1) (y := y + 1) (z := 1000) w0.1 w1 (by omega) (by omega)
  have hnx := r_next hW (d := dd) (by omega)
  have hnm := r_next_im hW (d := dd) (by omega)
  refine lv_aload_n hx hb dL_law_854 rfl (lv_at hl 1 rfl) ?_
  refine lv_iload hx hb dL_law_855 (lv_at hl 8 rfl) ?_
  refine q_callV (fr := 2) (lo := 48) (nL := 18) (Pic := PicB D cO g σ T) (As := [.int (iI (dd))]) (rest := []) ⟨hx, hb, hml, hown, hts⟩ (p_next l D cI cO cL g σ T hW (dd) (by omega)) (cwV 1 hts gL_law_X5_next rfl rfl rfl (by decide +kernel) ⟨Nat.le_of_ble_eq_true rfl, Nat.le_of_ble_eq_true rfl⟩) (ob_recv hPc.base.at0 hK rfl) hPc.base hK rfl hl.1 rfl (Nat.le_of_ble_eq_true rfl) dL_law_857 (by omega) (by omega) ?_
  refine q_top (fun nx enx => ?_)
  rw [← enx] at hnx hnm
  refine lv_istore (lv' := [(14, .int (iI (nx))), (0, .ref ed.2.1), (1, .ref (g 0)), (2, .ref (z 0)), (3, .int (iI (t))), (4, .int (iI (x))), (9, .int (iI (y))), (10, .int (iI (be))), (11, .int (iI (af))), (12, .int (iI (dd)))]) hx hb dL_law_860 hl (by decide) rfl (fun ls hl => ?_)
  refine lv_iload hx hb dL_law_862 (lv_at hl 0 rfl) ?_
  refine q_if_lt (tgt := 907) hx hb dL_law_864 (by decide) (by omega) (fun c_1 => ?_) (fun c_1 => ?_)
  · skip
    exact kk nx enx _ (lv_sub hl [1, 2, 3, 4, 5, 6, 7, 8, 9, 0] rfl)
  · skip
    refine lv_iload hx hb dL_law_867 (lv_at hl 0 rfl) ?_
    refine lv_iload hx hb dL_law_869 (lv_at hl 9 rfl) ?_
    refine q_icmp_lt (tgt := 905) hx hb dL_law_871 (by decide) (by omega) (by omega) (fun c_2 => ?_) (fun c_2 => ?_)
    · exfalso
      omega
    · skip
      refine lv_iload hx hb dL_law_874 (lv_at hl 0 rfl) ?_
      refine lv_iload hx hb dL_law_876 (lv_at hl 9 rfl) ?_
      refine q_sipush hx hb dL_law_878 (by decide) ?_
      refine q_iadd hx hb dL_law_881 ?_
      refine q_icmp_gt (tgt := 905) hx hb dL_law_882 (by decide) (by omega) (by omega) (fun c_3 => ?_) (fun c_3 => ?_)
      · exfalso
        omega
      · skip
        refine lv_aload_n hx hb dL_law_885 rfl (lv_at hl 2 rfl) ?_
        refine lv_iload hx hb dL_law_886 (lv_at hl 0 rfl) ?_
        refine q_iconst hx hb dL_law_888 ?_
        refine q_callS (fr := 7) (lo := 152) (nL := 18) (Pic := PicC D cI cO g σ T P) (As := [.ref (g 0), .int (iI (nx)), .int (iI (1))]) (rest := []) ⟨hx, hb, hml, hown, hts⟩ (l_isMoon l D cI cO cL g σ T P hW hSS (nx) (1) (by omega) (Or.inr rfl)) (va_cwS 3 hts gL_law_L_isMoon rfl rfl rfl (by decide +kernel) ⟨Nat.le_of_ble_eq_true rfl, Nat.le_of_ble_eq_true rfl⟩) hPc hK rfl hl.1 rfl (Nat.le_of_ble_eq_true rfl) dL_law_889 (by omega) (by omega) ?_
        have him889 := r_im_01 (σ 2) (σ 3) (1) (nx)
        refine q_if_ne (tgt := 907) hx hb dL_law_892 (by decide) (by omega) (fun c_4 => ?_) (fun c_4 => ?_)
        · skip
          exact kk nx enx _ (lv_sub hl [1, 2, 3, 4, 5, 6, 7, 8, 9, 0] rfl)
        · skip
          have hnm2 := hnm (by omega)
          refine lv_aload_n hx hb dL_law_895 rfl (lv_at hl 2 rfl) ?_
          refine lv_iload hx hb dL_law_896 (lv_at hl 0 rfl) ?_
          refine q_iconst hx hb dL_law_898 ?_
          refine q_callS (fr := 7) (lo := 152) (nL := 18) (Pic := PicC D cI cO g σ T P) (As := [.ref (g 0), .int (iI (nx)), .int (iI (0))]) (rest := []) ⟨hx, hb, hml, hown, hts⟩ (l_isMoon l D cI cO cL g σ T P hW hSS (nx) (0) (by omega) (Or.inl rfl)) (va_cwS 3 hts gL_law_L_isMoon rfl rfl rfl (by decide +kernel) ⟨Nat.le_of_ble_eq_true rfl, Nat.le_of_ble_eq_true rfl⟩) hPc hK rfl hl.1 rfl (Nat.le_of_ble_eq_true rfl) dL_law_899 (by omega) (by omega) ?_
          have him899 := r_im_01 (σ 2) (σ 3) (0) (nx)
          refine q_if_ne (tgt := 907) hx hb dL_law_902 (by decide) (by omega) (fun c_5 => ?_) (fun c_5 => ?_)
          · skip
            exact kk nx enx _ (lv_sub hl [1, 2, 3, 4, 5, 6, 7, 8, 9, 0] rfl)
          · exfalso
            omega
set_option maxHeartbeats 4000000 in
set_option maxRecDepth 100000 in
theorem sg_I {p : Program} {l : Launch} {e : Env} {s : State} {m : MethodId} {args : Array Value} {below : List Frame} {meth : Method} {c : Code} {Q : State → Prop} {A0 : Nat → Prop} {D : va_G} {cI cO cL : ClassId} {ed : Nat × Nat × Nat} (C0 : LC p l s m args c A0 D cI cO cL ed) {g z : Nat → Nat} {σ T P : Nat → Int} (hLW : LW σ T P) (hco : 0 ≤ σ 10 ∧ σ 10 ≤ σ 9 ∧ σ 9 ≤ 1000) {H : Heap} {locs : List Loc} {cells slots : Nat} (hcR : cells ≤ room_1.cells) (hsR : slots ≤ room_1.slots) (hPc : PicC D cI cO g σ T P H) (hPic : PicS D cI cL z σ T P H) {t x y be af dd nx : Int} (hyy : 0 ≤ y ∧ y < 500) (hbe : be = m_fd (σ 0) (σ 1) y ∧ af = m_fd (σ 0) (σ 1) (y + 1) ∧ 0 ≤ be ∧ be + 365 ≤ af ∧ af ≤ be + 366 ∧ af ≤ 183366) (hdd : be ≤ dd ∧ dd < af) (hnx : nx = m_next σ dd) {ls : Array Slot} (hl : lv_has ls 18 [(0, .ref ed.2.1), (1, .ref (g 0)), (2, .ref (z 0)), (3, .int (iI (t))), (4, .int (iI (x))), (9, .int (iI (y))), (10, .int (iI (be))), (11, .int (iI (af))), (12, .int (iI (dd))), (14, .int (iI (nx)))]) (kk : ∀ ls : Array Slot, lv_has ls 18 [(0, .ref ed.2.1), (1, .ref (g 0)), (2, .ref (z 0)), (3, .int (iI (t)))] → W p l e room_1 s m args below meth c H locs cells slots Q (F0 m 1033 ls [])) : W p l e room_1 s m args below meth c H locs cells slots Q (F0 m 907 ls []) := by
  obtain ⟨hx, hb, hml, hown, hts, hA, hK, hE, hT⟩ := C0
  obtain ⟨hW, hSS, hp0⟩ := id hLW
  obtain ⟨w0, w1, w2, w3, w4, w5, w6, w7, w8⟩ := id hW
  have hin_X6 : ∀ w ∈ u_ws RX6 TX6 10, w ∈ wsL_law := (fun w h => (List.mem_append_left _ (List.mem_append_left _ (List.mem_append_left _ (List.mem_append_left _ (List.mem_append_left _ (List.mem_append_left _ (List.mem_append_left _ (List.mem_append_left _ (List.mem_append_left _ (List.mem_append_left _ (List.mem_append_right _ h))))))))))))
  have hf1000 := m_fd_lt (cy := σ 0) (lq := σ 1) (y := y + 1) (z := 1000) w0.1 w1 (by omega) (by omega)
  have hnr := r_next hW (d := dd) (by omega)
  rw [← hnx] at hnr
  have hRe := r_R_eq σ y
  have hRi := fun v => r_R_in σ v af
  have hRm := fun v (h1 : be ≤ v) (h2 : v ≤ af) => r_R_mono hW (d := be) (v := v) (u := af) h1 h2
  have hRs := r_R_self σ af
  have hR4 := m_Eb_in hW (y := y) (b := 0) (by omega)
  have hR5 := m_Eb_in hW (y := y) (b := 1) (by omega)
  rw [← hbe.1, ← hbe.2.1] at hRe
  refine q_iconst hx hb dL_law_907 ?_
  refine lv_istore (lv' := [(15, .int (iI (0))), (0, .ref ed.2.1), (1, .ref (g 0)), (2, .ref (z 0)), (3, .int (iI (t))), (4, .int (iI (x))), (9, .int (iI (y))), (10, .int (iI (be))), (11, .int (iI (af))), (12, .int (iI (dd))), (14, .int (iI (nx)))]) hx hb dL_law_908 hl (by decide) rfl (fun ls hl => ?_)
  refine lv_iload hx hb dL_law_910 (lv_at hl 7 rfl) ?_
  refine lv_istore (lv' := [(16, .int (iI (be))), (15, .int (iI (0))), (0, .ref ed.2.1), (1, .ref (g 0)), (2, .ref (z 0)), (3, .int (iI (t))), (4, .int (iI (x))), (9, .int (iI (y))), (10, .int (iI (be))), (11, .int (iI (af))), (12, .int (iI (dd))), (14, .int (iI (nx)))]) hx hb dL_law_912 hl (by decide) rfl (fun ls hl => ?_)
  have key_914 : ∀ (fu : Nat) (ds : Int) (fr : Int), be ≤ fr ∧ fr ≤ af → 0 ≤ ds ∧ ds ≤ r_R σ be af - r_R σ fr af ∧ r_R σ be af - r_R σ fr af ≤ 2 * ds → (((af - fr).toNat : Int)) < (fu : Int) → ∀ ls : Array Slot, lv_has ls 18 [(0, .ref ed.2.1), (1, .ref (g 0)), (2, .ref (z 0)), (3, .int (iI (t))), (4, .int (iI (x))), (9, .int (iI (y))), (10, .int (iI (be))), (11, .int (iI (af))), (12, .int (iI (dd))), (14, .int (iI (nx))), (15, .int (iI (ds))), (16, .int (iI (fr)))] → W p l e room_1 s m args below meth c H locs cells slots Q (F0 m 914 ls []) := by
    intro fu
    induction fu with
    | zero => intro ds fr hfr hds hm_914 ls hl; exact absurd hm_914 (by omega)
    | succ fu ih_914 =>
      intro ds fr hfr hds hm_914 ls hl
      have key_956 : r_R σ fr af = 0 → ∀ ls : Array Slot, lv_has ls 18 [(0, .ref ed.2.1), (1, .ref (g 0)), (2, .ref (z 0)), (3, .int (iI (t))), (4, .int (iI (x))), (9, .int (iI (y))), (10, .int (iI (be))), (11, .int (iI (af))), (12, .int (iI (dd))), (14, .int (iI (nx))), (15, .int (iI (ds))), (16, .int (iI (fr)))] → W p l e room_1 s m args below meth c H locs cells slots Q (F0 m 956 ls []) := by
        intro  hR0 ls hl
        refine lv_aload_n hx hb dL_law_956 rfl (lv_at hl 1 rfl) ?_
        refine lv_iload hx hb dL_law_957 (lv_at hl 5 rfl) ?_
        refine q_iconst hx hb dL_law_959 ?_
        refine q_callV (fr := 2) (lo := 48) (nL := 18) (Pic := PicB D cO g σ T) (As := [.int (iI (y)), .int (iI (1))]) (rest := []) ⟨hx, hb, hml, hown, hts⟩ (p_eclipses l D cI cO cL g σ T hW (y) (1) (by omega) (by omega)) (cwV 2 hts gL_law_X5_eclipses rfl rfl rfl (by decide +kernel) ⟨Nat.le_of_ble_eq_true rfl, Nat.le_of_ble_eq_true rfl⟩) (ob_recv hPc.base.at0 hK rfl) hPc.base hK rfl hl.1 rfl (Nat.le_of_ble_eq_true rfl) dL_law_960 (by omega) (by omega) ?_
        refine q_is (z := m_Eb σ (y) 0) (by simp only [Int.sub_self]) ?_
        refine lv_aload_n hx hb dL_law_963 rfl (lv_at hl 1 rfl) ?_
        refine lv_iload hx hb dL_law_964 (lv_at hl 5 rfl) ?_
        refine q_iconst hx hb dL_law_966 ?_
        refine q_callV (fr := 2) (lo := 48) (nL := 18) (Pic := PicB D cO g σ T) (As := [.int (iI (y)), .int (iI (0))]) (rest := [.int (iI (m_Eb σ (y) 0))]) ⟨hx, hb, hml, hown, hts⟩ (p_eclipses l D cI cO cL g σ T hW (y) (0) (by omega) (by omega)) (cwV 2 hts gL_law_X5_eclipses rfl rfl rfl (by decide +kernel) ⟨Nat.le_of_ble_eq_true rfl, Nat.le_of_ble_eq_true rfl⟩) (ob_recv hPc.base.at0 hK rfl) hPc.base hK rfl hl.1 rfl (Nat.le_of_ble_eq_true rfl) dL_law_967 (by omega) (by omega) ?_
        refine q_is (z := m_Eb σ (y) 1) (by simp only [Int.sub_zero]) ?_
        refine q_iadd hx hb dL_law_970 ?_
        refine q_top (fun all eall => ?_)
        refine lv_istore (lv' := [(16, .int (iI (all))), (0, .ref ed.2.1), (1, .ref (g 0)), (2, .ref (z 0)), (3, .int (iI (t))), (4, .int (iI (x))), (9, .int (iI (y))), (10, .int (iI (be))), (11, .int (iI (af))), (12, .int (iI (dd))), (14, .int (iI (nx))), (15, .int (iI (ds)))]) hx hb dL_law_971 hl (by decide) rfl (fun ls hl => ?_)
        refine lv_iload hx hb dL_law_973 (lv_at hl 11 rfl) ?_
        refine lv_iload hx hb dL_law_975 (lv_at hl 0 rfl) ?_
        refine q_icmp_gt (tgt := 1012) hx hb dL_law_977 (by decide) (by omega) (by omega) (fun c_1 => ?_) (fun c_1 => ?_)
        · exfalso
          omega
        · skip
          have hdn := r_R_step hW (d := dd) (u := af) (by omega) (by omega)
          have hdm := hRm dd (by omega) (by omega)
          have hdi := hRi dd
          rw [← hnx] at hdn
          have hdj := hRi (nx + 1)
          refine lv_iload hx hb dL_law_980 (lv_at hl 0 rfl) ?_
          have key_990 : ∀ (v1 : Int), (v1 = 1 ∧ 0 < all) ∨ (v1 = 0 ∧ all ≤ 0) → ∀ ls : Array Slot, lv_has ls 18 [(0, .ref ed.2.1), (1, .ref (g 0)), (2, .ref (z 0)), (3, .int (iI (t))), (4, .int (iI (x))), (9, .int (iI (y))), (10, .int (iI (be))), (11, .int (iI (af))), (12, .int (iI (dd))), (14, .int (iI (nx))), (15, .int (iI (ds))), (16, .int (iI (all)))] → W p l e room_1 s m args below meth c H locs cells slots Q (F0 m 990 ls [.int (iI (v1))]) := by
            intro v1 hv1 ls hl
            refine lv_iload hx hb dL_law_990 (lv_at hl 10 rfl) ?_
            have key_1000 : ∀ (v2 : Int), (v2 = 1 ∧ 0 < ds) ∨ (v2 = 0 ∧ ds ≤ 0) → ∀ ls : Array Slot, lv_has ls 18 [(0, .ref ed.2.1), (1, .ref (g 0)), (2, .ref (z 0)), (3, .int (iI (t))), (4, .int (iI (x))), (9, .int (iI (y))), (10, .int (iI (be))), (11, .int (iI (af))), (12, .int (iI (dd))), (14, .int (iI (nx))), (15, .int (iI (ds))), (16, .int (iI (all)))] → W p l e room_1 s m args below meth c H locs cells slots Q (F0 m 1000 ls [.int (iI (v2)), .int (iI (v1))]) := by
              intro v2 hv2 ls hl
              refine q_icmp_ne (tgt := 1012) hx hb dL_law_1000 (by decide) (by omega) (by omega) (fun c_2 => ?_) (fun c_2 => ?_)
              · exfalso
                omega
              · skip
                refine lv_iload hx hb dL_law_1003 (lv_at hl 11 rfl) ?_
                refine q_iconst hx hb dL_law_1005 ?_
                refine lv_iload hx hb dL_law_1006 (lv_at hl 10 rfl) ?_
                refine q_imul hx hb dL_law_1008 ?_
                refine q_icmp_le (tgt := 1014) hx hb dL_law_1009 (by decide) (by omega) (by omega) (fun c_3 => ?_) (fun c_3 => ?_)
                · skip
                  refine lv_iload hx hb dL_law_1014 (lv_at hl 9 rfl) ?_
                  refine q_if_lt (tgt := 1033) hx hb dL_law_1016 (by decide) (by omega) (fun c_4 => ?_) (fun c_4 => ?_)
                  · skip
                    exact kk  _ (lv_sub hl [0, 1, 2, 3] rfl)
                  · skip
                    refine lv_iload hx hb dL_law_1019 (lv_at hl 9 rfl) ?_
                    refine lv_iload hx hb dL_law_1021 (lv_at hl 7 rfl) ?_
                    refine q_icmp_ge (tgt := 1033) hx hb dL_law_1023 (by decide) (by omega) (by omega) (fun c_5 => ?_) (fun c_5 => ?_)
                    · skip
                      exact kk  _ (lv_sub hl [0, 1, 2, 3] rfl)
                    · skip
                      refine lv_iload hx hb dL_law_1026 (lv_at hl 11 rfl) ?_
                      refine q_if_ne (tgt := 1033) hx hb dL_law_1028 (by decide) (by omega) (fun c_6 => ?_) (fun c_6 => ?_)
                      · skip
                        exact kk  _ (lv_sub hl [0, 1, 2, 3] rfl)
                      · exfalso
                        omega
                · exfalso
                  omega
            refine q_if_le (tgt := 999) hx hb dL_law_992 (by decide) (by omega) (fun c_7 => ?_) (fun c_7 => ?_)
            · skip
              refine q_iconst hx hb dL_law_999 ?_
              exact key_1000 _ (by omega) _ (lv_sub hl [0, 1, 2, 3, 4, 5, 6, 7, 8, 9, 10, 11] rfl)
            · skip
              refine q_iconst hx hb dL_law_995 ?_
              refine lv_goto (tgt := 1000) hx hb dL_law_996 (by decide) ?_
              exact key_1000 _ (by omega) _ (lv_sub hl [0, 1, 2, 3, 4, 5, 6, 7, 8, 9, 10, 11] rfl)
          refine q_if_le (tgt := 989) hx hb dL_law_982 (by decide) (by omega) (fun c_8 => ?_) (fun c_8 => ?_)
          · skip
            refine q_iconst hx hb dL_law_989 ?_
            exact key_990 _ (by omega) _ (lv_sub hl [1, 2, 3, 4, 5, 6, 7, 8, 9, 10, 11, 0] rfl)
          · skip
            refine q_iconst hx hb dL_law_985 ?_
            refine lv_goto (tgt := 990) hx hb dL_law_986 (by decide) ?_
            exact key_990 _ (by omega) _ (lv_sub hl [1, 2, 3, 4, 5, 6, 7, 8, 9, 10, 11, 0] rfl)
      refine lv_iload hx hb dL_law_914 (lv_at hl 11 rfl) ?_
      refine lv_iload hx hb dL_law_916 (lv_at hl 7 rfl) ?_
      refine q_icmp_ge (tgt := 956) hx hb dL_law_918 (by decide) (by omega) (by omega) (fun c_9 => ?_) (fun c_9 => ?_)
      · skip
        exact key_956  (by first | exact hen (by omega) | (rw [show fr = af by omega]; exact hRs)) _ (lv_sub hl [0, 1, 2, 3, 4, 5, 6, 7, 8, 9, 10, 11] rfl)
      · skip
        refine lv_aload_n hx hb dL_law_921 rfl (lv_at hl 1 rfl) ?_
        refine lv_iload hx hb dL_law_922 (lv_at hl 11 rfl) ?_
        refine q_callV (fr := 2) (lo := 48) (nL := 18) (Pic := PicB D cO g σ T) (As := [.int (iI (fr))]) (rest := []) ⟨hx, hb, hml, hown, hts⟩ (p_next l D cI cO cL g σ T hW (fr) (by omega)) (cwV 1 hts gL_law_X5_next rfl rfl rfl (by decide +kernel) ⟨Nat.le_of_ble_eq_true rfl, Nat.le_of_ble_eq_true rfl⟩) (ob_recv hPc.base.at0 hK rfl) hPc.base hK rfl hl.1 rfl (Nat.le_of_ble_eq_true rfl) dL_law_924 (by omega) (by omega) ?_
        have hst := r_R_step hW (d := fr) (u := af) (by omega) (by omega)
        have hen := r_R_end hW (d := fr) (u := af) (by omega) (by omega)
        have hnb := r_next hW (d := fr) (by omega)
        refine q_top (fun its eits => ?_)
        rw [← eits] at hst hen hnb
        refine lv_istore (lv' := [(17, .int (iI (its))), (0, .ref ed.2.1), (1, .ref (g 0)), (2, .ref (z 0)), (3, .int (iI (t))), (4, .int (iI (x))), (9, .int (iI (y))), (10, .int (iI (be))), (11, .int (iI (af))), (12, .int (iI (dd))), (14, .int (iI (nx))), (15, .int (iI (ds))), (16, .int (iI (fr)))]) hx hb dL_law_927 hl (by decide) rfl (fun ls hl => ?_)
        refine lv_iload hx hb dL_law_929 (lv_at hl 0 rfl) ?_
        refine q_if_lt (tgt := 956) hx hb dL_law_931 (by decide) (by omega) (fun c_10 => ?_) (fun c_10 => ?_)
        · skip
          exact key_956  (by first | exact hen (by omega) | (rw [show fr = af by omega]; exact hRs)) _ (lv_sub hl [1, 2, 3, 4, 5, 6, 7, 8, 9, 10, 11, 12] rfl)
        · skip
          refine lv_iload hx hb dL_law_934 (lv_at hl 0 rfl) ?_
          refine lv_iload hx hb dL_law_936 (lv_at hl 8 rfl) ?_
          refine q_icmp_lt (tgt := 944) hx hb dL_law_938 (by decide) (by omega) (by omega) (fun c_11 => ?_) (fun c_11 => ?_)
          · skip
            refine q_iinc (k := 11) (lv' := [(15, .int (iI (ds + 1))), (17, .int (iI (its))), (0, .ref ed.2.1), (1, .ref (g 0)), (2, .ref (z 0)), (3, .int (iI (t))), (4, .int (iI (x))), (9, .int (iI (y))), (10, .int (iI (be))), (11, .int (iI (af))), (12, .int (iI (dd))), (14, .int (iI (nx))), (16, .int (iI (fr)))]) hx hb dL_law_944 hl rfl (by decide) rfl (fun ls hl => ?_)
            refine lv_iload hx hb dL_law_947 (lv_at hl 1 rfl) ?_
            refine q_iconst hx hb dL_law_949 ?_
            refine q_iadd hx hb dL_law_950 ?_
            refine lv_istore (lv' := [(16, .int (iI (its + 1))), (15, .int (iI (ds + 1))), (17, .int (iI (its))), (0, .ref ed.2.1), (1, .ref (g 0)), (2, .ref (z 0)), (3, .int (iI (t))), (4, .int (iI (x))), (9, .int (iI (y))), (10, .int (iI (be))), (11, .int (iI (af))), (12, .int (iI (dd))), (14, .int (iI (nx)))]) hx hb dL_law_951 hl (by decide) rfl (fun ls hl => ?_)
            refine lv_goto (tgt := 914) hx hb dL_law_953 (by decide) ?_
            have hs2 := hst (by omega)
            exact ih_914 _ _ (by omega) (by omega) (by omega) _ (lv_sub hl [3, 4, 5, 6, 7, 8, 9, 10, 11, 12, 1, 0] rfl)
          · skip
            refine lv_goto (tgt := 956) hx hb dL_law_941 (by decide) ?_
            exact key_956  (by first | exact hen (by omega) | (rw [show fr = af by omega]; exact hRs)) _ (lv_sub hl [1, 2, 3, 4, 5, 6, 7, 8, 9, 10, 11, 12] rfl)
  exact key_914 (400) _ _ (by omega) (by omega) (by omega) _ (lv_sub hl [2, 3, 4, 5, 6, 7, 8, 9, 10, 11, 1, 0] rfl)
