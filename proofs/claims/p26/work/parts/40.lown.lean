/-! ===== the law's own: below, cell, isMoon ===== -/
set_option maxHeartbeats 4000000 in
set_option maxRecDepth 100000 in
/-- a number of the script, or one of its own -/
theorem l_cell (l : Launch) (D : va_G) (sz : Nat) (ed : Nat × Nat × Nat) (tys : List (ClassId × FieldType)) (k : Int) (hk : 0 ≤ k ∧ k < 1000) : MGe l yL_cell wsL_cell 0 0 0 0 D tys sz [] [.ref ed.2.1, .int (iI (k))] ed (fun (u : Int) => u) (fun (u : Int) => -2147483648 ≤ u ∧ u < 2147483648) (fun (_ : Int) => []) := by
  refine MGe_of (cc := cL_cell) (maxL := 2) (ret := (some .int)) (by decide) rfl (Nat.le_of_ble_eq_true rfl) ?_
  intro p e s m args below meth c ls hx hb hr hlocks hml hown hts hsz hP hK hD hS hA hin hE hT hl
  have hl : lv_has ls 2 [(0, .ref ed.2.1), (1, .int (iI (k)))] := hl
  obtain ⟨-, -, h260, xs, hX⟩ := hE
  refine lv_iload_n hx hb dL_cell_0 rfl (lv_at hl 1 rfl) ?_
  refine lv_aload_n hx hb dL_cell_1 rfl (lv_at hl 0 rfl) ?_
  refine va_tlen hx hb hX hS (v := iI (ed.2.2 : Int)) (iI_size rfl) dL_cell_2 ?_
  refine q_icmp_ge (tgt := 12) hx hb dL_cell_3 (by decide) (by omega) (by omega) (fun c_1 => ?_) (fun c_1 => ?_)
  · skip
    refine q_ldc (z := 790386105) hx hb hown (hts (.constant RL 8 (790386105)) (List.mem_of_getElem? (i := 1) rfl)) (by decide) dL_cell_12 ?_
    refine lv_iload_n hx hb dL_cell_14 rfl (lv_at hl 1 rfl) ?_
    refine q_iconst hx hb dL_cell_15 ?_
    refine q_iadd hx hb dL_cell_16 ?_
    refine q_imul hx hb dL_cell_17 ?_
    refine q_wrap (fun z hz => ?_)
    exact q_geret (w1 := fun (_ : Int) => []) (v := fun (u : Int) => u) z hx hb hr hlocks hS rfl hz ⟨hP, hD⟩ (Nat.le_refl _) (Nat.le_refl _) dL_cell_18
  · skip
    refine lv_aload_n hx hb dL_cell_6 rfl (lv_at hl 0 rfl) ?_
    refine lv_iload_n hx hb dL_cell_7 rfl (lv_at hl 1 rfl) ?_
    refine va_ti hx hb hX hS (iI_in (by omega) (by omega)) rfl dL_cell_8 ?_
    rw [iI_of (xs (iI k).toNatClampNeg)]
    refine lv_goto (tgt := 18) hx hb dL_cell_9 (by decide) ?_
    exact q_geret (w1 := fun (_ : Int) => []) (v := fun (u : Int) => u) _ hx hb hr hlocks hS rfl (iI_rng _) ⟨hP, hD⟩ (Nat.le_refl _) (Nat.le_refl _) dL_cell_18
set_option maxHeartbeats 4000000 in
set_option maxRecDepth 100000 in
/-- below -/
theorem l_below (l : Launch) (D : va_G) (tys : List (ClassId × FieldType)) (v n : Int) (hv : -2147483648 ≤ v ∧ v < 2147483648) (hn : 0 < n ∧ n < 2147483648) : MI l yL_below wsL_below 0 0 D tys (fun _ => True) [.int (iI (v)), .int (iI (n))] (m_bl v n) := by
  refine MI_of (cc := cL_below) (maxL := 2) (ret := (some .int)) (by decide) rfl (Nat.le_of_ble_eq_true rfl) ?_
  intro p e s m args below meth c ls hx hb hr hlocks hml hown hts hPic hK hl
  have hl : lv_has ls 2 [(0, .int (iI (v))), (1, .int (iI (n)))] := hl
  refine lv_iload_n hx hb dL_below_0 rfl (lv_at hl 0 rfl) ?_
  refine q_ldc (z := 2147483647) hx hb hown (hts (.constant RL 7 (2147483647)) (List.mem_of_getElem? (i := 1) rfl)) (by decide) dL_below_1 ?_
  refine q_iandM hx hb dL_below_3 ?_
  refine lv_iload_n hx hb dL_below_4 rfl (lv_at hl 1 rfl) ?_
  refine q_irem hx hb dL_below_5 (by omega) (by omega) ?_
  exact q_iret hx hb hr hlocks (rfl) dL_below_6
set_option maxHeartbeats 4000000 in
set_option maxRecDepth 100000 in
theorem l_isMoon (l : Launch) (D : va_G) (cI cO cL : ClassId) (g : Nat → Nat) (σ T P : Nat → Int) (hW : WF σ T) (hS : WS σ P) (d b : Int) (hd : 0 ≤ d ∧ d ≤ 199000) (hb01 : b = 0 ∨ b = 1) : MI l yL_isMoon wsL_isMoon 7 152 D (ty3 cI cO cL) (PicC D cI cO g σ T P) [.ref (g 0), .int (iI (d)), .int (iI (b))] (r_im (σ 2) (σ 3) b d) := by
  refine MI_of (cc := cL_isMoon) (maxL := 4) (ret := (some .boolean)) (by decide) rfl (Nat.le_of_ble_eq_true rfl) ?_
  intro p e s m args below meth c ls hx hb hr hlocks hml hown hts hPic hK hl
  have hl : lv_has ls 4 [(0, .ref (g 0)), (1, .int (iI (d))), (2, .int (iI (b)))] := hl
  obtain ⟨w0, w1, w2, w3, w4, w5, w6, w7, w8⟩ := id hW
  have htd := m_tdiv_in (ln := σ 2) (x := 1000 * d - σ 3) w2 (by omega)
  have hmf := m_mf0 (ln := σ 2) (fi := σ 3) (b := b) (d := d) w2 w3 (by omega)
  have hff := m_ff_in (ln := σ 2) (fi := σ 3) (b := b) (t := 1000 * d) w2
  have hfu := m_ff_up (ln := σ 2) (fi := σ 3) (b := b) (t := 1000 * d) w2 w3 (by omega)
  refine q_iconst hx hb dL_isMoon_0 ?_
  refine q_sipush hx hb dL_isMoon_1 (by decide) ?_
  refine lv_iload_n hx hb dL_isMoon_4 rfl (lv_at hl 1 rfl) ?_
  refine q_imul hx hb dL_isMoon_5 ?_
  refine lv_aload_n hx hb dL_isMoon_6 rfl (lv_at hl 0 rfl) ?_
  refine q_iconst hx hb dL_isMoon_7 ?_
  refine q_callV (fr := 6) (lo := 131) (nL := 4) (Pic := PicC D cI cO g σ T P) (As := [.int (iI (3))]) (rest := [.int (iI (1000 * d)), .int (iI (0))]) ⟨hx, hb, hml, hown, hts⟩ (p_count l D cI cO cL g σ T P hW hS (3) (by omega)) (cwV 1 hts gL_isMoon_X5_count rfl rfl rfl (by decide +kernel) ⟨Nat.le_of_ble_eq_true rfl, Nat.le_of_ble_eq_true rfl⟩) (ob_recv hPic.base.at0 hK rfl) hPic hK rfl hl.1 rfl (Nat.le_of_ble_eq_true rfl) dL_isMoon_8 (Nat.zero_le _) (Nat.zero_le _) ?_
  refine q_is (z := σ 3) (rfl) ?_
  refine q_isub hx hb dL_isMoon_11 ?_
  refine lv_aload_n hx hb dL_isMoon_12 rfl (lv_at hl 0 rfl) ?_
  refine q_iconst hx hb dL_isMoon_13 ?_
  refine q_callV (fr := 6) (lo := 131) (nL := 4) (Pic := PicC D cI cO g σ T P) (As := [.int (iI (2))]) (rest := [.int (iI ((1000 * d) - (σ 3))), .int (iI (0))]) ⟨hx, hb, hml, hown, hts⟩ (p_count l D cI cO cL g σ T P hW hS (2) (by omega)) (cwV 1 hts gL_isMoon_X5_count rfl rfl rfl (by decide +kernel) ⟨Nat.le_of_ble_eq_true rfl, Nat.le_of_ble_eq_true rfl⟩) (ob_recv hPic.base.at0 hK rfl) hPic hK rfl hl.1 rfl (Nat.le_of_ble_eq_true rfl) dL_isMoon_14 (Nat.zero_le _) (Nat.zero_le _) ?_
  refine q_is (z := σ 2) (rfl) ?_
  refine q_idivt hx hb dL_isMoon_17 (by omega) (by omega) ?_
  refine q_iconst hx hb dL_isMoon_18 ?_
  refine q_isub hx hb dL_isMoon_19 ?_
  refine q_mmax hx hb (hml.trans hl.1.symm) hown (hts (.methodLink RL 92 Lib.Math.max.name) (List.mem_of_getElem? (i := 1) rfl)) (hts (.static Lib.Math.max.name) (List.mem_of_getElem? (i := 2) rfl)) (hts (.initialized "java/lang/Math") (List.mem_of_getElem? (i := 3) rfl)) (hts (.code Lib.Math.max.name Lib.Math.max.code 2 (some .int)) (List.mem_of_getElem? (i := 4) rfl)) (by omega) (by omega) (Nat.le_of_ble_eq_true rfl) (Nat.le_of_ble_eq_true rfl) (Nat.zero_le _) (Nat.zero_le _) dL_isMoon_20 ?_
  refine q_top (fun k0 ek0 => ?_)
  refine lv_istore_n (lv' := [(3, .int (iI (k0))), (0, .ref (g 0)), (1, .int (iI (d))), (2, .int (iI (b)))]) hx hb dL_isMoon_23 rfl hl (by decide) rfl (fun ls hl => ?_)
  have key_24 : ∀ (fu : Nat) (k : Int), 0 ≤ k ∧ k ≤ m_ff (σ 2) (σ 3) b (1000 * d) → (((m_ff (σ 2) (σ 3) b (1000 * d) - k).toNat : Int)) < (fu : Int) → ∀ ls : Array Slot, lv_has ls 4 [(0, .ref (g 0)), (1, .int (iI (d))), (2, .int (iI (b))), (3, .int (iI (k)))] → W p l e { frames := 7, cells := 0, slots := 0, locals := 152 } s m args below meth c s.heap [] 0 0 (MQ below (vp_Si (fun r => r = iI (r_im (σ 2) (σ 3) b d))) args s 0 0 (fun _ => False)) (F0 m 24 ls []) := by
    intro fu
    induction fu with
    | zero => intro k hk hm_24 ls hl; exact absurd hm_24 (by omega)
    | succ fu ih_24 =>
      intro k hk hm_24 ls hl
      have hge := s_ge (ln := σ 2) (fi := σ 3) (b := b) (d := d) (k := k) w2 hk.1
      refine lv_iload_n hx hb dL_isMoon_24 rfl (lv_at hl 3 rfl) ?_
      refine q_sipush hx hb dL_isMoon_25 (by decide) ?_
      refine q_icmp_ge (tgt := 47) hx hb dL_isMoon_28 (by decide) (by omega) (by omega) (fun c_1 => ?_) (fun c_1 => ?_)
      · exfalso
        omega
      · skip
        refine lv_aload_n hx hb dL_isMoon_31 rfl (lv_at hl 0 rfl) ?_
        refine lv_iload_n hx hb dL_isMoon_32 rfl (lv_at hl 3 rfl) ?_
        refine lv_iload_n hx hb dL_isMoon_33 rfl (lv_at hl 2 rfl) ?_
        refine q_callV (fr := 1) (lo := 22) (nL := 4) (Pic := PicB D cO g σ T) (As := [.int (iI (k)), .int (iI (b))]) (rest := []) ⟨hx, hb, hml, hown, hts⟩ (p_moon l D cI cO cL g σ T hW (k) (b) (by omega) (by omega)) (cwV 2 hts gL_isMoon_X5_moon rfl rfl rfl (by decide +kernel) ⟨Nat.le_of_ble_eq_true rfl, Nat.le_of_ble_eq_true rfl⟩) (ob_recv hPic.base.at0 hK rfl) hPic.base hK rfl hl.1 rfl (Nat.le_of_ble_eq_true rfl) dL_isMoon_34 (Nat.zero_le _) (Nat.zero_le _) ?_
        have htm1 := m_tm_in (ln := σ 2) (fi := σ 3) (b := b) (k := k) w2 w3 (by omega)
        refine lv_iload_n hx hb dL_isMoon_37 rfl (lv_at hl 1 rfl) ?_
        refine q_icmp_ge (tgt := 47) hx hb dL_isMoon_38 (by decide) (by omega) (by omega) (fun c_2 => ?_) (fun c_2 => ?_)
        · skip
          have hkf : k = m_ff (σ 2) (σ 3) b (1000 * d) := by omega
          refine lv_aload_n hx hb dL_isMoon_47 rfl (lv_at hl 0 rfl) ?_
          refine lv_iload_n hx hb dL_isMoon_48 rfl (lv_at hl 3 rfl) ?_
          refine lv_iload_n hx hb dL_isMoon_49 rfl (lv_at hl 2 rfl) ?_
          refine q_callV (fr := 1) (lo := 22) (nL := 4) (Pic := PicB D cO g σ T) (As := [.int (iI (k)), .int (iI (b))]) (rest := []) ⟨hx, hb, hml, hown, hts⟩ (p_moon l D cI cO cL g σ T hW (k) (b) (by omega) (by omega)) (cwV 2 hts gL_isMoon_X5_moon rfl rfl rfl (by decide +kernel) ⟨Nat.le_of_ble_eq_true rfl, Nat.le_of_ble_eq_true rfl⟩) (ob_recv hPic.base.at0 hK rfl) hPic.base hK rfl hl.1 rfl (Nat.le_of_ble_eq_true rfl) dL_isMoon_50 (Nat.zero_le _) (Nat.zero_le _) ?_
          have htm2 := m_tm_in (ln := σ 2) (fi := σ 3) (b := b) (k := k) w2 w3 (by omega)
          refine lv_iload_n hx hb dL_isMoon_53 rfl (lv_at hl 1 rfl) ?_
          refine q_icmp_ne (tgt := 61) hx hb dL_isMoon_54 (by decide) (by omega) (by omega) (fun c_3 => ?_) (fun c_3 => ?_)
          · skip
            refine q_iconst hx hb dL_isMoon_61 ?_
            exact q_zret hx hb hr hlocks (by omega) (by unfold r_im; rw [← hkf]; split <;> omega) dL_isMoon_62
          · skip
            refine q_iconst hx hb dL_isMoon_57 ?_
            refine lv_goto (tgt := 62) hx hb dL_isMoon_58 (by decide) ?_
            exact q_zret hx hb hr hlocks (by omega) (by unfold r_im; rw [← hkf]; split <;> omega) dL_isMoon_62
        · skip
          refine q_iinc (k := 3) (lv' := [(3, .int (iI (k + 1))), (0, .ref (g 0)), (1, .int (iI (d))), (2, .int (iI (b)))]) hx hb dL_isMoon_41 hl rfl (by decide) rfl (fun ls hl => ?_)
          refine lv_goto (tgt := 24) hx hb dL_isMoon_44 (by decide) ?_
          exact ih_24 _ (by omega) (by omega) _ (lv_sub hl [1, 2, 3, 0] rfl)
  exact key_24 ((m_ff (σ 2) (σ 3) b (1000 * d)).toNat + 1) _ (by omega) (by omega) _ (lv_sub hl [1, 2, 3, 0] rfl)
