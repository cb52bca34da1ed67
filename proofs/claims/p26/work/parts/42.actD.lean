/-! ===== the law's act ===== -/
set_option maxHeartbeats 4000000 in
set_option maxRecDepth 100000 in
theorem g_act4 (l : Launch) (D : va_G) (sz : Nat) (ed : Nat × Nat × Nat) (cI cO cL : ClassId) (g z : Nat → Nat) (σ T P : Nat → Int) (x : Int) (hLW : LW σ T P) (hx : -2147483648 ≤ x ∧ x < 2147483648) (he6 : σ 6 = 0 → g 6 = ed.1) (he7 : σ 7 = 0 → g 7 = ed.1) (hco : 0 ≤ σ 10 ∧ σ 10 ≤ σ 9 ∧ σ 9 ≤ 1000) (hc : m_bl (m_sr (x) (9)) (8) = 4) : MGp l yL_act wsL_act 6 139 5 60 D (ty3 cI cO cL) sz (WC cI cO g σ T P ++ WZ cI cL z σ T P) [.ref (g 0), .ref (z 0), .int (iI (x))] ed (1) (ActK g z ed σ T P x) (fun (u : AS) => WC cI cO u.1 u.2.2.1 u.2.2.2.1 u.2.2.2.2 ++ WZ cI cL u.2.1 u.2.2.1 u.2.2.2.1 u.2.2.2.2) := by
  refine MGp_of (cc := cL_act) (maxL := 11) (ret := (some .boolean)) (by decide) rfl (Nat.le_of_ble_eq_true rfl) ?_
  intro p e s m args below meth c ls hx hb hr hlocks hml hown hts hsz hP hK hD hS hA hin hE hT hl
  have hl : lv_has ls 11 [(0, .ref (g 0)), (1, .ref (z 0)), (2, .int (iI (x)))] := hl
  have hin_X6 : ∀ w ∈ u_ws RX6 TX6 10, w ∈ wsL_act := (fun w h => List.mem_cons_of_mem _ (List.mem_append_left _ (List.mem_append_left _ (List.mem_append_left _ (List.mem_append_left _ (List.mem_append_left _ (List.mem_append_left _ (List.mem_append_left _ (List.mem_append_left _ (List.mem_append_left _ (List.mem_append_left _ (List.mem_append_right _ h))))))))))))
  have hP : va_P D vwCl ([] ++ (WC cI cO g σ T P ++ WZ cI cL z σ T P)) s.heap := hP
  have hD : va_D (va_A (WC cI cO g σ T P ++ WZ cI cL z σ T P) sz) ([] ++ (WC cI cO g σ T P ++ WZ cI cL z σ T P)) := hD
  obtain ⟨hW, hSS, hp0⟩ := id hLW
  obtain ⟨w0, w1, w2, w3, w4, w5, w6, w7, w8⟩ := id hW
  have hPc : PicC D cI cO g σ T P s.heap := vaP_mems hP (fun q hq => List.mem_append_right _ (List.mem_append_left _ hq))
  have hPic : PicS D cI cL z σ T P s.heap := vaP_mems hP (fun q hq => List.mem_append_right _ (List.mem_append_right _ hq))
  refine lv_iload_n hx hb dL_act_0 rfl (lv_at hl 2 rfl) ?_
  refine q_bipush hx hb dL_act_1 (by decide) ?_
  refine q_ishr hx hb dL_act_3 ?_
  have hsr3 := m_sr_in (x) (9)
  refine q_bipush hx hb dL_act_4 (by decide) ?_
  refine q_callS (fr := 0) (lo := 0) (nL := 11) (Pic := fun _ => True) (As := [.int (iI (m_sr (x) (9))), .int (iI (8))]) (rest := []) ⟨hx, hb, hml, hown, hts⟩ (l_below l D (ty3 cI cO cL) (m_sr (x) (9)) (8) (by omega) (by omega)) (va_cwS 2 hts gL_act_L_below rfl rfl rfl (by decide +kernel) ⟨Nat.le_of_ble_eq_true rfl, Nat.le_of_ble_eq_true rfl⟩) trivial hK rfl hl.1 rfl (Nat.le_of_ble_eq_true rfl) dL_act_6 (Nat.zero_le _) (Nat.zero_le _) ?_
  have hbl6 := m_bl_in (m_sr (x) (9)) (n := 8) (by omega)
  refine q_tableIn (tgt := 247) hx hb dL_act_9 (by omega) (by omega) 4 (by omega) rfl (by decide) ?_
  refine lv_aload_n hx hb dL_act_247 rfl (lv_at hl 1 rfl) ?_
  refine q_get (ci := 8) (C := RX6) (T := TX6) (N := 10) hx hb hts hin_X6 hown hK (v := .ref (z 2)) hPic.at0 rfl 7 (by decide) (hts (.fieldLink RL 69 "AlmanacHouseLaw$Sim" "sheets" "[[I") (List.mem_of_getElem? (i := 3) rfl)) (fun _ h9 => h9) rfl dL_act_248 ?_
  refine q_alen (z := σ 7) hx hb hK hPic.ss 2 rfl (by omega) dL_act_251 ?_
  refine q_if_ne (tgt := 257) hx hb dL_act_252 (by decide) (by omega) (fun c_1 => ?_) (fun c_1 => ?_)
  · skip
    refine lv_iload_n hx hb dL_act_257 rfl (lv_at hl 2 rfl) ?_
    refine q_iconst hx hb dL_act_258 ?_
    refine q_ishr hx hb dL_act_259 ?_
    have hsr259 := m_sr_in (x) (2)
    refine lv_aload_n hx hb dL_act_260 rfl (lv_at hl 1 rfl) ?_
    refine q_get (ci := 8) (C := RX6) (T := TX6) (N := 10) hx hb hts hin_X6 hown hK (v := .ref (z 2)) hPic.at0 rfl 7 (by decide) (hts (.fieldLink RL 69 "AlmanacHouseLaw$Sim" "sheets" "[[I") (List.mem_of_getElem? (i := 3) rfl)) (fun _ h9 => h9) rfl dL_act_261 ?_
    refine q_alen (z := σ 7) hx hb hK hPic.ss 2 rfl (by omega) dL_act_264 ?_
    refine q_callS (fr := 0) (lo := 0) (nL := 11) (Pic := fun _ => True) (As := [.int (iI (m_sr (x) (2))), .int (iI (σ 7))]) (rest := []) ⟨hx, hb, hml, hown, hts⟩ (l_below l D (ty3 cI cO cL) (m_sr (x) (2)) (σ 7) (by omega) (by omega)) (va_cwS 2 hts gL_act_L_below rfl rfl rfl (by decide +kernel) ⟨Nat.le_of_ble_eq_true rfl, Nat.le_of_ble_eq_true rfl⟩) trivial hK rfl hl.1 rfl (Nat.le_of_ble_eq_true rfl) dL_act_265 (Nat.zero_le _) (Nat.zero_le _) ?_
    have hbl265 := m_bl_in (m_sr (x) (2)) (n := σ 7) (by omega)
    refine q_top (fun j ej => ?_)
    rw [← ej] at hbl265
    refine lv_istore (lv' := [(5, .int (iI (j))), (0, .ref (g 0)), (1, .ref (z 0)), (2, .int (iI (x)))]) hx hb dL_act_268 hl (by decide) rfl (fun ls hl => ?_)
    refine lv_aload_n hx hb dL_act_270 rfl (lv_at hl 2 rfl) ?_
    refine lv_aload_n hx hb dL_act_271 rfl (lv_at hl 2 rfl) ?_
    refine q_get (ci := 8) (C := RX6) (T := TX6) (N := 10) hx hb hts hin_X6 hown hK (v := .ref (z 2)) hPic.at0 rfl 7 (by decide) (hts (.fieldLink RL 69 "AlmanacHouseLaw$Sim" "sheets" "[[I") (List.mem_of_getElem? (i := 3) rfl)) (fun _ h9 => h9) rfl dL_act_272 ?_
    refine lv_iload hx hb dL_act_275 (lv_at hl 0 rfl) ?_
    refine q_aldA (cA := cL) (n := (σ 7).toNat) (f := (fun j => if j < (σ 7).toNat then some (z (20 + j)) else none)) (v := z (20 + (j).toNat)) hx hb hK hPic.ss 2 rfl (by omega) (by omega) (if_pos (by omega)) dL_act_277 ?_
    obtain ⟨s1, s2, s3, s4⟩ := hSS (j).toNat (by omega)
    have hsh := m_sh_in2 (f := fun i => m_F σ T i (P (11 * (j).toNat))) (dy := fun i => P (11 * (j).toNat + 3 + i)) (n := (P (11 * (j).toNat + 1)).toNat) (fun i hi => m_F_in hW (by omega) s1) (fun i hi => s4 i (by omega))
    have hcg := m_chg_in (fun i => m_F σ T i (P (11 * (j).toNat))) (fun i => P (11 * (j).toNat + 3 + i)) (P (11 * (j).toNat + 1)).toNat
    refine q_callV (fr := 5) (lo := 114) (nL := 11) (Pic := PicS D cI cL z σ T P) (As := [.ref (z (20 + (j).toNat))]) (rest := []) ⟨hx, hb, hml, hown, hts⟩ (z_off l D cI cO cL z σ T P hW hSS (j) (by omega)) (cwV 1 hts gL_act_X6_off rfl rfl rfl (by decide +kernel) ⟨Nat.le_of_ble_eq_true rfl, Nat.le_of_ble_eq_true rfl⟩) (ob_recv hPic.at0 hK rfl) hPic hK rfl hl.1 rfl (Nat.le_of_ble_eq_true rfl) dL_act_278 (Nat.zero_le _) (Nat.zero_le _) ?_
    have hof278 := m_chg_in (fun i => m_F σ T i (P (11 * (Int.toNat (j))))) (fun i => P (11 * (Int.toNat (j)) + 3 + i)) (P (11 * (Int.toNat (j)) + 1)).toNat
    refine q_sipush hx hb dL_act_281 (by decide) ?_
    refine q_irem hx hb dL_act_284 (by omega) (by omega) ?_
    refine q_is (z := m_chg (fun i => m_F σ T i (P (11 * (j).toNat))) (fun i => P (11 * (j).toNat + 3 + i)) (P (11 * (j).toNat + 1)).toNat) (by omega) ?_
    refine q_top (fun off eoff => ?_)
    refine lv_istore (lv' := [(6, .int (iI (off))), (5, .int (iI (j))), (0, .ref (g 0)), (1, .ref (z 0)), (2, .int (iI (x)))]) hx hb dL_act_285 hl (by decide) rfl (fun ls hl => ?_)
    refine lv_aload_n hx hb dL_act_287 rfl (lv_at hl 3 rfl) ?_
    refine q_get (ci := 8) (C := RX6) (T := TX6) (N := 10) hx hb hts hin_X6 hown hK (v := .ref (z 2)) hPic.at0 rfl 7 (by decide) (hts (.fieldLink RL 69 "AlmanacHouseLaw$Sim" "sheets" "[[I") (List.mem_of_getElem? (i := 3) rfl)) (fun _ h9 => h9) rfl dL_act_288 ?_
    refine lv_iload hx hb dL_act_291 (lv_at hl 1 rfl) ?_
    refine lv_aload_n hx hb dL_act_293 rfl (lv_at hl 3 rfl) ?_
    refine lv_aload_n hx hb dL_act_294 rfl (lv_at hl 3 rfl) ?_
    refine q_get (ci := 8) (C := RX6) (T := TX6) (N := 10) hx hb hts hin_X6 hown hK (v := .ref (z 2)) hPic.at0 rfl 7 (by decide) (hts (.fieldLink RL 69 "AlmanacHouseLaw$Sim" "sheets" "[[I") (List.mem_of_getElem? (i := 3) rfl)) (fun _ h9 => h9) rfl dL_act_295 ?_
    refine lv_iload hx hb dL_act_298 (lv_at hl 1 rfl) ?_
    refine q_aldA (cA := cL) (n := (σ 7).toNat) (f := (fun j => if j < (σ 7).toNat then some (z (20 + j)) else none)) (v := z (20 + (j).toNat)) hx hb hK hPic.ss 2 rfl (by omega) (by omega) (if_pos (by omega)) dL_act_300 ?_
    refine q_iconst hx hb dL_act_301 ?_
    refine q_iald (cA := cI) (n := (2 + (P (11 * (j).toNat + 1)).toNat)) (f := (fun q8 => P (11 * (j).toNat + sx q8))) hx hb hK (hPic.sr (j := (j).toNat) (by omega)) 0 rfl (by omega) (by omega) dL_act_302 ?_
    refine q_is (z := P (11 * (j).toNat)) (by rfl) ?_
    obtain ⟨hP, hD⟩ := va_swap (w1 := WC cI cO g σ T P) (w2 := WZ cI cL z σ T P) (by exact hP) (by exact hD)
    refine q_callGr (fr := 5) (lo := 114) (nL := 11) (wc := WZ cI cL z σ T P) (wr := WC cI cO g σ T P) (As := [.int (iI (P (11 * (j).toNat)))]) (rest := [.int (iI (j)), .ref (z 2)]) ⟨hx, hb, hml, hown, hts⟩ (g_sheet l D _ ed cI cO cL z σ T P hW hSS (P (11 * (j).toNat)) (by omega)) (cwV 1 hts gL_act_X6_sheet rfl rfl rfl (by decide +kernel) ⟨Nat.le_of_ble_eq_true rfl, Nat.le_of_ble_eq_true rfl⟩) (zo_rec hP hK) hP hD hS hA hK hE hT rfl hl.1 rfl (Nat.le_of_ble_eq_true rfl) dL_act_303 (Nat.le_of_ble_eq_true rfl) (Nat.le_of_ble_eq_true rfl) ?_
    intro sh303 H locs hP hD hS
    have hP : va_P D vwCl ([(sh303, .inl (cI, 2 + (σ 6).toNat, .inl (fun q9 => iI ((s_row σ T (P (11 * (j).toNat)) (σ 6).toNat) q9)))), (z 0, .inr (8, [.int (iI (σ 0)), .int (iI (σ 1)), .int (iI (σ 2)), .int (iI (σ 3)), .int (iI (σ 4)), .int (iI (σ 5)), .ref (z 1), .ref (z 2), .int (iI (σ 9)), .int (iI (σ 10))])), (z 1, .inl (cL, (σ 6).toNat, .inr (.inr (.inr (.inr (fun j => if j < (σ 6).toNat then some (z (10 + j)) else none)))))), (z 2, .inl (cL, (σ 7).toNat, .inr (.inr (.inr (.inr (fun j => if j < (σ 7).toNat then some (z (20 + j)) else none))))))] ++ ((wZf cI z T (σ 6).toNat ++ wZs cI z P (σ 7).toNat) ++ WC cI cO g σ T P)) H := hP
    have hD : va_D (va_A (WC cI cO g σ T P ++ WZ cI cL z σ T P) sz) ([(sh303, .inl (cI, 2 + (σ 6).toNat, .inl (fun q9 => iI ((s_row σ T (P (11 * (j).toNat)) (σ 6).toNat) q9)))), (z 0, .inr (8, [.int (iI (σ 0)), .int (iI (σ 1)), .int (iI (σ 2)), .int (iI (σ 3)), .int (iI (σ 4)), .int (iI (σ 5)), .ref (z 1), .ref (z 2), .int (iI (σ 9)), .int (iI (σ 10))])), (z 1, .inl (cL, (σ 6).toNat, .inr (.inr (.inr (.inr (fun j => if j < (σ 6).toNat then some (z (10 + j)) else none)))))), (z 2, .inl (cL, (σ 7).toNat, .inr (.inr (.inr (.inr (fun j => if j < (σ 7).toNat then some (z (20 + j)) else none))))))] ++ ((wZf cI z T (σ 6).toNat ++ wZs cI z P (σ 7).toNat) ++ WC cI cO g σ T P)) := hD
    refine q_aastM (f := fun j => if j < (σ 7).toNat then some (z (20 + j)) else none) (x := _) hx hb hT.1.1 hK hP hD hS 3 2 0 rfl rfl rfl (List.mem_of_getElem? (i := 0) rfl) ((j).toNat) (by omega) (by omega) (by omega) dL_act_306 (fun H locs hP hD hS => ?_)
    have hP : va_P D vwCl ([(sh303, .inl (cI, 2 + (σ 6).toNat, .inl (fun q9 => iI ((s_row σ T (P (11 * (j).toNat)) (σ 6).toNat) q9)))), (z 0, .inr (8, [.int (iI (σ 0)), .int (iI (σ 1)), .int (iI (σ 2)), .int (iI (σ 3)), .int (iI (σ 4)), .int (iI (σ 5)), .ref (z 1), .ref (z 2), .int (iI (σ 9)), .int (iI (σ 10))])), (z 1, .inl (cL, (σ 6).toNat, .inr (.inr (.inr (.inr (fun j => if j < (σ 6).toNat then some (z (10 + j)) else none)))))), (z 2, .inl (cL, (σ 7).toNat, .inr (.inr (.inr (.inr (va_up (fun j => if j < (σ 7).toNat then some (z (20 + j)) else none) ((j).toNat) (some (sh303))))))))] ++ ((wZf cI z T (σ 6).toNat ++ wZs cI z P (σ 7).toNat) ++ WC cI cO g σ T P)) H := hP
    have hD : va_D (va_A (WC cI cO g σ T P ++ WZ cI cL z σ T P) sz) ([(sh303, .inl (cI, 2 + (σ 6).toNat, .inl (fun q9 => iI ((s_row σ T (P (11 * (j).toNat)) (σ 6).toNat) q9)))), (z 0, .inr (8, [.int (iI (σ 0)), .int (iI (σ 1)), .int (iI (σ 2)), .int (iI (σ 3)), .int (iI (σ 4)), .int (iI (σ 5)), .ref (z 1), .ref (z 2), .int (iI (σ 9)), .int (iI (σ 10))])), (z 1, .inl (cL, (σ 6).toNat, .inr (.inr (.inr (.inr (fun j => if j < (σ 6).toNat then some (z (10 + j)) else none)))))), (z 2, .inl (cL, (σ 7).toNat, .inr (.inr (.inr (.inr (va_up (fun j => if j < (σ 7).toNat then some (z (20 + j)) else none) ((j).toNat) (some (sh303))))))))] ++ ((wZf cI z T (σ 6).toNat ++ wZs cI z P (σ 7).toNat) ++ WC cI cO g σ T P)) := hD
    refine lv_aload_n hx hb dL_act_307 rfl (lv_at hl 2 rfl) ?_
    refine lv_iload hx hb dL_act_308 (lv_at hl 1 rfl) ?_
    obtain ⟨hP, hD⟩ := va_swap (w1 := [(sh303, .inl (cI, 2 + (σ 6).toNat, .inl (fun q9 => iI ((s_row σ T (P (11 * (j).toNat)) (σ 6).toNat) q9)))), (z 0, .inr (8, [.int (iI (σ 0)), .int (iI (σ 1)), .int (iI (σ 2)), .int (iI (σ 3)), .int (iI (σ 4)), .int (iI (σ 5)), .ref (z 1), .ref (z 2), .int (iI (σ 9)), .int (iI (σ 10))])), (z 1, .inl (cL, (σ 6).toNat, .inr (.inr (.inr (.inr (fun j => if j < (σ 6).toNat then some (z (10 + j)) else none)))))), (z 2, .inl (cL, (σ 7).toNat, .inr (.inr (.inr (.inr (va_up (fun j => if j < (σ 7).toNat then some (z (20 + j)) else none) ((j).toNat) (some (sh303))))))))] ++ (wZf cI z T (σ 6).toNat ++ wZs cI z P (σ 7).toNat)) (w2 := WC cI cO g σ T P) (by exact hP) (by exact hD)
    refine q_callGp (fr := 4) (lo := 87) (nL := 11) (wc := WC cI cO g σ T P) (wr := [(sh303, .inl (cI, 2 + (σ 6).toNat, .inl (fun q9 => iI ((s_row σ T (P (11 * (j).toNat)) (σ 6).toNat) q9)))), (z 0, .inr (8, [.int (iI (σ 0)), .int (iI (σ 1)), .int (iI (σ 2)), .int (iI (σ 3)), .int (iI (σ 4)), .int (iI (σ 5)), .ref (z 1), .ref (z 2), .int (iI (σ 9)), .int (iI (σ 10))])), (z 1, .inl (cL, (σ 6).toNat, .inr (.inr (.inr (.inr (fun j => if j < (σ 6).toNat then some (z (10 + j)) else none)))))), (z 2, .inl (cL, (σ 7).toNat, .inr (.inr (.inr (.inr (va_up (fun j => if j < (σ 7).toNat then some (z (20 + j)) else none) ((j).toNat) (some (sh303))))))))] ++ (wZf cI z T (σ 6).toNat ++ wZs cI z P (σ 7).toNat)) (As := [.int (iI (j))]) (rest := []) ⟨hx, hb, hml, hown, hts⟩ (t_reprint l D _ ed cI cO cL g σ T P hW hSS he6 he7 (j) (by omega)) (cwV 1 hts gL_act_X5_reprint rfl rfl rfl (by decide +kernel) ⟨Nat.le_of_ble_eq_true rfl, Nat.le_of_ble_eq_true rfl⟩) (ho_rec hP hK) hP hD hS hA hK hE hT rfl hl.1 rfl (Nat.le_of_ble_eq_true rfl) dL_act_310 (Nat.le_of_ble_eq_true rfl) (Nat.le_of_ble_eq_true rfl) ?_
    intro u H locs hu hP hD hS
    obtain ⟨hP, hD⟩ := va_swap (w1 := WC cI cO u (σ) (T) (m_fl σ T P (11 * (j).toNat) (P (11 * (j).toNat)) (σ 6).toNat)) (w2 := [(sh303, .inl (cI, 2 + (σ 6).toNat, .inl (fun q9 => iI ((s_row σ T (P (11 * (j).toNat)) (σ 6).toNat) q9)))), (z 0, .inr (8, [.int (iI (σ 0)), .int (iI (σ 1)), .int (iI (σ 2)), .int (iI (σ 3)), .int (iI (σ 4)), .int (iI (σ 5)), .ref (z 1), .ref (z 2), .int (iI (σ 9)), .int (iI (σ 10))])), (z 1, .inl (cL, (σ 6).toNat, .inr (.inr (.inr (.inr (fun j => if j < (σ 6).toNat then some (z (10 + j)) else none)))))), (z 2, .inl (cL, (σ 7).toNat, .inr (.inr (.inr (.inr (va_up (fun j => if j < (σ 7).toNat then some (z (20 + j)) else none) ((j).toNat) (some (sh303))))))))] ++ (wZf cI z T (σ 6).toNat ++ wZs cI z P (σ 7).toNat)) (by exact hP) (by exact hD)
    have hP : va_P D vwCl ([(sh303, .inl (cI, 2 + (σ 6).toNat, .inl (fun q9 => iI ((s_row σ T (P (11 * (j).toNat)) (σ 6).toNat) q9)))), (z 0, .inr (8, [.int (iI (σ 0)), .int (iI (σ 1)), .int (iI (σ 2)), .int (iI (σ 3)), .int (iI (σ 4)), .int (iI (σ 5)), .ref (z 1), .ref (z 2), .int (iI (σ 9)), .int (iI (σ 10))])), (z 1, .inl (cL, (σ 6).toNat, .inr (.inr (.inr (.inr (fun j => if j < (σ 6).toNat then some (z (10 + j)) else none)))))), (z 2, .inl (cL, (σ 7).toNat, .inr (.inr (.inr (.inr (va_up (fun j => if j < (σ 7).toNat then some (z (20 + j)) else none) ((j).toNat) (some (sh303))))))))] ++ ((wZf cI z T (σ 6).toNat ++ wZs cI z P (σ 7).toNat) ++ WC cI cO u (σ) (T) (m_fl σ T P (11 * (j).toNat) (P (11 * (j).toNat)) (σ 6).toNat))) H := hP
    have hD : va_D (va_A (WC cI cO g σ T P ++ WZ cI cL z σ T P) sz) ([(sh303, .inl (cI, 2 + (σ 6).toNat, .inl (fun q9 => iI ((s_row σ T (P (11 * (j).toNat)) (σ 6).toNat) q9)))), (z 0, .inr (8, [.int (iI (σ 0)), .int (iI (σ 1)), .int (iI (σ 2)), .int (iI (σ 3)), .int (iI (σ 4)), .int (iI (σ 5)), .ref (z 1), .ref (z 2), .int (iI (σ 9)), .int (iI (σ 10))])), (z 1, .inl (cL, (σ 6).toNat, .inr (.inr (.inr (.inr (fun j => if j < (σ 6).toNat then some (z (10 + j)) else none)))))), (z 2, .inl (cL, (σ 7).toNat, .inr (.inr (.inr (.inr (va_up (fun j => if j < (σ 7).toNat then some (z (20 + j)) else none) ((j).toNat) (some (sh303))))))))] ++ ((wZf cI z T (σ 6).toNat ++ wZs cI z P (σ 7).toNat) ++ WC cI cO u (σ) (T) (m_fl σ T P (11 * (j).toNat) (P (11 * (j).toNat)) (σ 6).toNat))) := hD
    refine lv_iload hx hb dL_act_313 (lv_at hl 0 rfl) ?_
    refine q_icmp_ne (tgt := 322) hx hb dL_act_315 (by decide) (by omega) (by omega) (fun c_2 => ?_) (fun c_2 => ?_)
    · exfalso
      omega
    · skip
      refine q_iconst hx hb dL_act_318 ?_
      refine lv_goto (tgt := 323) hx hb dL_act_319 (by decide) ?_
      obtain ⟨hP, hD⟩ := WZ_reprintP (X := WC cI cO u (σ) (T) (m_fl σ T P (11 * (j).toNat) (P (11 * (j).toNat)) (σ 6).toNat)) (j := (j).toNat) (by omega) (by omega) (by omega) hSS (by exact hP) (by exact hD)
      obtain ⟨hP, hD⟩ := va_swap (w1 := WZ cI cL (zR z (j).toNat sh303) σ T (m_fl σ T P (11 * (j).toNat) (P (11 * (j).toNat)) (σ 6).toNat)) (w2 := WC cI cO u (σ) (T) (m_fl σ T P (11 * (j).toNat) (P (11 * (j).toNat)) (σ 6).toNat)) (by exact hP) (by exact hD)
      have hP : va_P D vwCl ([] ++ (WC cI cO u (σ) (T) (m_fl σ T P (11 * (j).toNat) (P (11 * (j).toNat)) (σ 6).toNat) ++ WZ cI cL (zR z (j).toNat sh303) σ T (m_fl σ T P (11 * (j).toNat) (P (11 * (j).toNat)) (σ 6).toNat))) H := hP
      have hD : va_D (va_A (WC cI cO g σ T P ++ WZ cI cL z σ T P) sz) ([] ++ (WC cI cO u (σ) (T) (m_fl σ T P (11 * (j).toNat) (P (11 * (j).toNat)) (σ 6).toNat) ++ WZ cI cL (zR z (j).toNat sh303) σ T (m_fl σ T P (11 * (j).toNat) (P (11 * (j).toNat)) (σ 6).toNat))) := hD
      exact q_gpzret (K := ActK g z ed σ T P x) (cells := 1) (slots := 10) (mc := 5) (ms := 60) (w1 := fun (u : AS) => WC cI cO u.1 u.2.2.1 u.2.2.2.1 u.2.2.2.2 ++ WZ cI cL u.2.1 u.2.2.1 u.2.2.2.1 u.2.2.2.2) ((u, zR z (j).toNat sh303, σ, T, m_fl σ T P (11 * (j).toNat) (P (11 * (j).toNat)) (σ 6).toNat)) hx hb hr hlocks (Or.inr rfl) hS (rfl) (actK_reprint (by omega) (by omega) ej hLW hu (zR_ne (by omega)) hco) (⟨hP, hD⟩) (by omega) (by omega) dL_act_323
  · skip
    refine q_iconst hx hb dL_act_255 ?_
    exact q_gpzret (K := ActK g z ed σ T P x) (cells := 0) (slots := 0) (mc := 5) (ms := 60) (w1 := fun (u : AS) => WC cI cO u.1 u.2.2.1 u.2.2.2.1 u.2.2.2.2 ++ WZ cI cL u.2.1 u.2.2.1 u.2.2.2.1 u.2.2.2.2) ((g, z, σ, T, P)) hx hb hr hlocks (Or.inr rfl) hS (rfl) (actK_id (Or.inr (by omega)) hLW he6 he7 hco) (⟨hP, hD⟩) (by omega) (by omega) dL_act_256
set_option maxHeartbeats 4000000 in
set_option maxRecDepth 100000 in
theorem g_act5 (l : Launch) (D : va_G) (sz : Nat) (ed : Nat × Nat × Nat) (cI cO cL : ClassId) (g z : Nat → Nat) (σ T P : Nat → Int) (x : Int) (hLW : LW σ T P) (hx : -2147483648 ≤ x ∧ x < 2147483648) (he6 : σ 6 = 0 → g 6 = ed.1) (he7 : σ 7 = 0 → g 7 = ed.1) (hco : 0 ≤ σ 10 ∧ σ 10 ≤ σ 9 ∧ σ 9 ≤ 1000) (hc : m_bl (m_sr (x) (9)) (8) = 5) : MGp l yL_act wsL_act 6 139 5 60 D (ty3 cI cO cL) sz (WC cI cO g σ T P ++ WZ cI cL z σ T P) [.ref (g 0), .ref (z 0), .int (iI (x))] ed (1) (ActK g z ed σ T P x) (fun (u : AS) => WC cI cO u.1 u.2.2.1 u.2.2.2.1 u.2.2.2.2 ++ WZ cI cL u.2.1 u.2.2.1 u.2.2.2.1 u.2.2.2.2) := by
  refine MGp_of (cc := cL_act) (maxL := 11) (ret := (some .boolean)) (by decide) rfl (Nat.le_of_ble_eq_true rfl) ?_
  intro p e s m args below meth c ls hx hb hr hlocks hml hown hts hsz hP hK hD hS hA hin hE hT hl
  have hl : lv_has ls 11 [(0, .ref (g 0)), (1, .ref (z 0)), (2, .int (iI (x)))] := hl
  have hin_X6 : ∀ w ∈ u_ws RX6 TX6 10, w ∈ wsL_act := (fun w h => List.mem_cons_of_mem _ (List.mem_append_left _ (List.mem_append_left _ (List.mem_append_left _ (List.mem_append_left _ (List.mem_append_left _ (List.mem_append_left _ (List.mem_append_left _ (List.mem_append_left _ (List.mem_append_left _ (List.mem_append_left _ (List.mem_append_right _ h))))))))))))
  have hP : va_P D vwCl ([] ++ (WC cI cO g σ T P ++ WZ cI cL z σ T P)) s.heap := hP
  have hD : va_D (va_A (WC cI cO g σ T P ++ WZ cI cL z σ T P) sz) ([] ++ (WC cI cO g σ T P ++ WZ cI cL z σ T P)) := hD
  obtain ⟨hW, hSS, hp0⟩ := id hLW
  obtain ⟨w0, w1, w2, w3, w4, w5, w6, w7, w8⟩ := id hW
  have hPc : PicC D cI cO g σ T P s.heap := vaP_mems hP (fun q hq => List.mem_append_right _ (List.mem_append_left _ hq))
  have hPic : PicS D cI cL z σ T P s.heap := vaP_mems hP (fun q hq => List.mem_append_right _ (List.mem_append_right _ hq))
  obtain ⟨bb, hbb⟩ : ∃ bb : Int, bb = if m_bl (x) (2) = 0 then 1 else 0 := ⟨_, rfl⟩
  have hb01 : bb = 0 ∨ bb = 1 := by rw [hbb]; split <;> omega
  refine lv_iload_n hx hb dL_act_0 rfl (lv_at hl 2 rfl) ?_
  refine q_bipush hx hb dL_act_1 (by decide) ?_
  refine q_ishr hx hb dL_act_3 ?_
  have hsr3 := m_sr_in (x) (9)
  refine q_bipush hx hb dL_act_4 (by decide) ?_
  refine q_callS (fr := 0) (lo := 0) (nL := 11) (Pic := fun _ => True) (As := [.int (iI (m_sr (x) (9))), .int (iI (8))]) (rest := []) ⟨hx, hb, hml, hown, hts⟩ (l_below l D (ty3 cI cO cL) (m_sr (x) (9)) (8) (by omega) (by omega)) (va_cwS 2 hts gL_act_L_below rfl rfl rfl (by decide +kernel) ⟨Nat.le_of_ble_eq_true rfl, Nat.le_of_ble_eq_true rfl⟩) trivial hK rfl hl.1 rfl (Nat.le_of_ble_eq_true rfl) dL_act_6 (Nat.zero_le _) (Nat.zero_le _) ?_
  have hbl6 := m_bl_in (m_sr (x) (9)) (n := 8) (by omega)
  refine q_tableIn (tgt := 324) hx hb dL_act_9 (by omega) (by omega) 5 (by omega) rfl (by decide) ?_
  refine lv_iload_n hx hb dL_act_324 rfl (lv_at hl 2 rfl) ?_
  refine q_iconst hx hb dL_act_325 ?_
  refine q_ishr hx hb dL_act_326 ?_
  have hsr326 := m_sr_in (x) (3)
  refine lv_iload_n hx hb dL_act_327 rfl (lv_at hl 2 rfl) ?_
  refine q_bipush hx hb dL_act_328 (by decide) ?_
  refine q_ishr hx hb dL_act_330 ?_
  have hsr330 := m_sr_in (x) (6)
  refine q_iconst hx hb dL_act_331 ?_
  refine q_callS (fr := 0) (lo := 0) (nL := 11) (Pic := fun _ => True) (As := [.int (iI (m_sr (x) (6))), .int (iI (2))]) (rest := [.int (iI (m_sr (x) (3)))]) ⟨hx, hb, hml, hown, hts⟩ (l_below l D (ty3 cI cO cL) (m_sr (x) (6)) (2) (by omega) (by omega)) (va_cwS 2 hts gL_act_L_below rfl rfl rfl (by decide +kernel) ⟨Nat.le_of_ble_eq_true rfl, Nat.le_of_ble_eq_true rfl⟩) trivial hK rfl hl.1 rfl (Nat.le_of_ble_eq_true rfl) dL_act_332 (Nat.zero_le _) (Nat.zero_le _) ?_
  have hbl332 := m_bl_in (m_sr (x) (6)) (n := 2) (by omega)
  have key_346 : ∀ (nn : Int), nn = 3000 ∨ nn = 6 → ∀ ls : Array Slot, lv_has ls 11 [(0, .ref (g 0)), (1, .ref (z 0)), (2, .int (iI (x)))] → W p l e { frames := 6, cells := 5, slots := 60, locals := 139 } s m args below meth c s.heap [] 0 0 (MQ below (va_Qi (fun (r : Int32) (u : AS) => r = iI (1) ∧ (ActK g z ed σ T P x) u) (fun u t => va_P D vwCl ((fun (u : AS) => WC cI cO u.1 u.2.2.1 u.2.2.2.1 u.2.2.2.2 ++ WZ cI cL u.2.1 u.2.2.1 u.2.2.2.1 u.2.2.2.2) u) t.heap ∧ va_D (va_A (WC cI cO g σ T P ++ WZ cI cL z σ T P) sz) ((fun (u : AS) => WC cI cO u.1 u.2.2.1 u.2.2.2.1 u.2.2.2.2 ++ WZ cI cL u.2.1 u.2.2.1 u.2.2.2.1 u.2.2.2.2) u)) (va_A (WC cI cO g σ T P ++ WZ cI cL z σ T P) sz)) args s 5 60 (va_A (WC cI cO g σ T P ++ WZ cI cL z σ T P) sz)) (F0 m 346 ls [.int (iI (nn)), .int (iI (m_sr (x) (3)))]) := by
    intro nn hnn ls hl
    refine q_callS (fr := 0) (lo := 0) (nL := 11) (Pic := fun _ => True) (As := [.int (iI (m_sr (x) (3))), .int (iI (nn))]) (rest := []) ⟨hx, hb, hml, hown, hts⟩ (l_below l D (ty3 cI cO cL) (m_sr (x) (3)) (nn) (by omega) (by omega)) (va_cwS 2 hts gL_act_L_below rfl rfl rfl (by decide +kernel) ⟨Nat.le_of_ble_eq_true rfl, Nat.le_of_ble_eq_true rfl⟩) trivial hK rfl hl.1 rfl (Nat.le_of_ble_eq_true rfl) dL_act_346 (Nat.zero_le _) (Nat.zero_le _) ?_
    have hbl346 := m_bl_in (m_sr (x) (3)) (n := nn) (by omega)
    refine q_top (fun mo emo => ?_)
    rw [← emo] at hbl346
    refine lv_istore (lv' := [(7, .int (iI (mo))), (0, .ref (g 0)), (1, .ref (z 0)), (2, .int (iI (x)))]) hx hb dL_act_349 hl (by decide) rfl (fun ls hl => ?_)
    refine q_ldc (z := 99999) hx hb hown (hts (.constant RL 87 (99999)) (List.mem_of_getElem? (i := 4) rfl)) (by decide) dL_act_351 ?_
    refine q_iconst hx hb dL_act_353 ?_
    refine lv_aload_n hx hb dL_act_354 rfl (lv_at hl 2 rfl) ?_
    refine lv_iload hx hb dL_act_355 (lv_at hl 0 rfl) ?_
    refine lv_iload_n hx hb dL_act_357 rfl (lv_at hl 3 rfl) ?_
    refine q_iconst hx hb dL_act_358 ?_
    refine q_callS (fr := 0) (lo := 0) (nL := 11) (Pic := fun _ => True) (As := [.int (iI (x)), .int (iI (2))]) (rest := [.int (iI (mo)), .ref (z 0), .int (iI (0)), .int (iI (99999))]) ⟨hx, hb, hml, hown, hts⟩ (l_below l D (ty3 cI cO cL) (x) (2) (by omega) (by omega)) (va_cwS 2 hts gL_act_L_below rfl rfl rfl (by decide +kernel) ⟨Nat.le_of_ble_eq_true rfl, Nat.le_of_ble_eq_true rfl⟩) trivial hK rfl hl.1 rfl (Nat.le_of_ble_eq_true rfl) dL_act_359 (Nat.zero_le _) (Nat.zero_le _) ?_
    have hbl359 := m_bl_in (x) (n := 2) (by omega)
    have key_370 : ∀ ls : Array Slot, lv_has ls 11 [(0, .ref (g 0)), (1, .ref (z 0)), (2, .int (iI (x))), (7, .int (iI (mo)))] → W p l e { frames := 6, cells := 5, slots := 60, locals := 139 } s m args below meth c s.heap [] 0 0 (MQ below (va_Qi (fun (r : Int32) (u : AS) => r = iI (1) ∧ (ActK g z ed σ T P x) u) (fun u t => va_P D vwCl ((fun (u : AS) => WC cI cO u.1 u.2.2.1 u.2.2.2.1 u.2.2.2.2 ++ WZ cI cL u.2.1 u.2.2.1 u.2.2.2.1 u.2.2.2.2) u) t.heap ∧ va_D (va_A (WC cI cO g σ T P ++ WZ cI cL z σ T P) sz) ((fun (u : AS) => WC cI cO u.1 u.2.2.1 u.2.2.2.1 u.2.2.2.2 ++ WZ cI cL u.2.1 u.2.2.1 u.2.2.2.1 u.2.2.2.2) u)) (va_A (WC cI cO g σ T P ++ WZ cI cL z σ T P) sz)) args s 5 60 (va_A (WC cI cO g σ T P ++ WZ cI cL z σ T P) sz)) (F0 m 370 ls [.int (iI (bb)), .int (iI (mo)), .ref (z 0), .int (iI (0)), .int (iI (99999))]) := by
      intro   ls hl
      refine q_callV (fr := 1) (lo := 22) (nL := 11) (Pic := PicS D cI cL z σ T P) (As := [.int (iI (mo)), .int (iI (bb))]) (rest := [.int (iI (0)), .int (iI (99999))]) ⟨hx, hb, hml, hown, hts⟩ (z_moon l D cI cO cL z σ T P hW hSS (mo) (bb) (by omega) (by omega)) (cwV 2 hts gL_act_X6_moon rfl rfl rfl (by decide +kernel) ⟨Nat.le_of_ble_eq_true rfl, Nat.le_of_ble_eq_true rfl⟩) (ob_recv hPic.at0 hK rfl) hPic hK rfl hl.1 rfl (Nat.le_of_ble_eq_true rfl) dL_act_370 (Nat.zero_le _) (Nat.zero_le _) ?_
      have htm370 := m_tm_in (ln := σ 2) (fi := σ 3) (b := (bb)) (k := (mo)) w2 w3 (by omega)
      have htm := m_tm_in (ln := σ 2) (fi := σ 3) (b := bb) (k := mo) w2 w3 (by omega)
      refine lv_iload_n hx hb dL_act_373 rfl (lv_at hl 2 rfl) ?_
      refine q_iconst hx hb dL_act_374 ?_
      refine q_ishr hx hb dL_act_375 ?_
      have hsr375 := m_sr_in (x) (2)
      refine q_bipush hx hb dL_act_376 (by decide) ?_
      refine q_callS (fr := 0) (lo := 0) (nL := 11) (Pic := fun _ => True) (As := [.int (iI (m_sr (x) (2))), .int (iI (9))]) (rest := [.int (iI (m_tm (σ 2) (σ 3) (mo) (bb) / 1000)), .int (iI (0)), .int (iI (99999))]) ⟨hx, hb, hml, hown, hts⟩ (l_below l D (ty3 cI cO cL) (m_sr (x) (2)) (9) (by omega) (by omega)) (va_cwS 2 hts gL_act_L_below rfl rfl rfl (by decide +kernel) ⟨Nat.le_of_ble_eq_true rfl, Nat.le_of_ble_eq_true rfl⟩) trivial hK rfl hl.1 rfl (Nat.le_of_ble_eq_true rfl) dL_act_378 (Nat.zero_le _) (Nat.zero_le _) ?_
      have hbl378 := m_bl_in (m_sr (x) (2)) (n := 9) (by omega)
      refine q_iadd hx hb dL_act_381 ?_
      refine q_iconst hx hb dL_act_382 ?_
      refine q_isub hx hb dL_act_383 ?_
      refine q_mmax hx hb (hml.trans hl.1.symm) hown (hts (.methodLink RL 92 Lib.Math.max.name) (List.mem_of_getElem? (i := 5) rfl)) (hts (.static Lib.Math.max.name) (List.mem_of_getElem? (i := 6) rfl)) (hts (.initialized "java/lang/Math") (List.mem_of_getElem? (i := 7) rfl)) (hts (.code Lib.Math.max.name Lib.Math.max.code 2 (some .int)) (List.mem_of_getElem? (i := 8) rfl)) (by omega) (by omega) (Nat.le_of_ble_eq_true rfl) (Nat.le_of_ble_eq_true rfl) (Nat.zero_le _) (Nat.zero_le _) dL_act_384 ?_
      refine q_mmin hx hb (hml.trans hl.1.symm) hown (hts (.methodLink RL 97 Lib.Math.min.name) (List.mem_of_getElem? (i := 9) rfl)) (hts (.static Lib.Math.min.name) (List.mem_of_getElem? (i := 10) rfl)) (hts (.initialized "java/lang/Math") (List.mem_of_getElem? (i := 7) rfl)) (hts (.code Lib.Math.min.name Lib.Math.min.code 2 (some .int)) (List.mem_of_getElem? (i := 11) rfl)) (by omega) (by omega) (Nat.le_of_ble_eq_true rfl) (Nat.le_of_ble_eq_true rfl) (Nat.zero_le _) (Nat.zero_le _) dL_act_387 ?_
      refine q_top (fun da eda => ?_)
      have hda : 0 ≤ da ∧ da ≤ 99999 := by rw [eda]; (repeat' split) <;> omega
      refine lv_istore (lv' := [(8, .int (iI (da))), (0, .ref (g 0)), (1, .ref (z 0)), (2, .int (iI (x))), (7, .int (iI (mo)))]) hx hb dL_act_390 hl (by decide) rfl (fun ls hl => ?_)
      refine lv_aload_n hx hb dL_act_392 rfl (lv_at hl 1 rfl) ?_
      refine lv_iload hx hb dL_act_393 (lv_at hl 0 rfl) ?_
      refine lv_iload_n hx hb dL_act_395 rfl (lv_at hl 3 rfl) ?_
      refine q_iconst hx hb dL_act_396 ?_
      refine q_callS (fr := 0) (lo := 0) (nL := 11) (Pic := fun _ => True) (As := [.int (iI (x)), .int (iI (2))]) (rest := [.int (iI (da)), .ref (g 0)]) ⟨hx, hb, hml, hown, hts⟩ (l_below l D (ty3 cI cO cL) (x) (2) (by omega) (by omega)) (va_cwS 2 hts gL_act_L_below rfl rfl rfl (by decide +kernel) ⟨Nat.le_of_ble_eq_true rfl, Nat.le_of_ble_eq_true rfl⟩) trivial hK rfl hl.1 rfl (Nat.le_of_ble_eq_true rfl) dL_act_397 (Nat.zero_le _) (Nat.zero_le _) ?_
      have hbl397 := m_bl_in (x) (n := 2) (by omega)
      have key_408 : ∀ ls : Array Slot, lv_has ls 11 [(0, .ref (g 0)), (1, .ref (z 0)), (2, .int (iI (x))), (7, .int (iI (mo))), (8, .int (iI (da)))] → W p l e { frames := 6, cells := 5, slots := 60, locals := 139 } s m args below meth c s.heap [] 0 0 (MQ below (va_Qi (fun (r : Int32) (u : AS) => r = iI (1) ∧ (ActK g z ed σ T P x) u) (fun u t => va_P D vwCl ((fun (u : AS) => WC cI cO u.1 u.2.2.1 u.2.2.2.1 u.2.2.2.2 ++ WZ cI cL u.2.1 u.2.2.1 u.2.2.2.1 u.2.2.2.2) u) t.heap ∧ va_D (va_A (WC cI cO g σ T P ++ WZ cI cL z σ T P) sz) ((fun (u : AS) => WC cI cO u.1 u.2.2.1 u.2.2.2.1 u.2.2.2.2 ++ WZ cI cL u.2.1 u.2.2.1 u.2.2.2.1 u.2.2.2.2) u)) (va_A (WC cI cO g σ T P ++ WZ cI cL z σ T P) sz)) args s 5 60 (va_A (WC cI cO g σ T P ++ WZ cI cL z σ T P) sz)) (F0 m 408 ls [.int (iI (bb)), .int (iI (da)), .ref (g 0)]) := by
        intro   ls hl
        refine q_callGp (fr := 2) (lo := 51) (nL := 11) (wc := WC cI cO g σ T P) (wr := WZ cI cL z σ T P) (As := [.int (iI (da)), .int (iI (bb))]) (rest := []) ⟨hx, hb, hml, hown, hts⟩ (t_observe l D _ ed cI cO cL g σ T P hW hSS he6 he7 (da) (bb) (by omega) (by omega)) (cwV 2 hts gL_act_X5_observe rfl rfl rfl (by decide +kernel) ⟨Nat.le_of_ble_eq_true rfl, Nat.le_of_ble_eq_true rfl⟩) (ho_rec hP hK) hP hD hS hA hK hE hT rfl hl.1 rfl (Nat.le_of_ble_eq_true rfl) dL_act_408 (Nat.le_of_ble_eq_true rfl) (Nat.le_of_ble_eq_true rfl) ?_
        intro u H locs hu hP hD hS
        have hP : va_P D vwCl ([] ++ (WC cI cO u (m_obs σ (da) (bb)) T P ++ WZ cI cL z σ T P)) H := hP
        have hD : va_D (va_A (WC cI cO g σ T P ++ WZ cI cL z σ T P) sz) ([] ++ (WC cI cO u (m_obs σ (da) (bb)) T P ++ WZ cI cL z σ T P)) := hD
        refine lv_aload_n hx hb dL_act_411 rfl (lv_at hl 1 rfl) ?_
        refine lv_iload hx hb dL_act_412 (lv_at hl 4 rfl) ?_
        refine lv_iload_n hx hb dL_act_414 rfl (lv_at hl 2 rfl) ?_
        refine q_iconst hx hb dL_act_415 ?_
        refine q_callS (fr := 0) (lo := 0) (nL := 11) (Pic := fun _ => True) (As := [.int (iI (x)), .int (iI (2))]) (rest := [.int (iI (da)), .ref (z 0), .int (iI (m_late σ (da) (bb)))]) ⟨hx, hb, hml, hown, hts⟩ (l_below l D (ty3 cI cO cL) (x) (2) (by omega) (by omega)) (va_cwS 2 hts gL_act_L_below rfl rfl rfl (by decide +kernel) ⟨Nat.le_of_ble_eq_true rfl, Nat.le_of_ble_eq_true rfl⟩) trivial hK rfl hl.1 rfl (Nat.le_of_ble_eq_true rfl) dL_act_416 (Nat.zero_le _) (Nat.zero_le _) ?_
        have hbl416 := m_bl_in (x) (n := 2) (by omega)
        have key_427 : ∀ ls : Array Slot, lv_has ls 11 [(0, .ref (g 0)), (1, .ref (z 0)), (2, .int (iI (x))), (7, .int (iI (mo))), (8, .int (iI (da)))] → W p l e { frames := 6, cells := 5, slots := 60, locals := 139 } s m args below meth c H locs 0 0 (MQ below (va_Qi (fun (r : Int32) (u : AS) => r = iI (1) ∧ (ActK g z ed σ T P x) u) (fun u t => va_P D vwCl ((fun (u : AS) => WC cI cO u.1 u.2.2.1 u.2.2.2.1 u.2.2.2.2 ++ WZ cI cL u.2.1 u.2.2.1 u.2.2.2.1 u.2.2.2.2) u) t.heap ∧ va_D (va_A (WC cI cO g σ T P ++ WZ cI cL z σ T P) sz) ((fun (u : AS) => WC cI cO u.1 u.2.2.1 u.2.2.2.1 u.2.2.2.2 ++ WZ cI cL u.2.1 u.2.2.1 u.2.2.2.1 u.2.2.2.2) u)) (va_A (WC cI cO g σ T P ++ WZ cI cL z σ T P) sz)) args s 5 60 (va_A (WC cI cO g σ T P ++ WZ cI cL z σ T P) sz)) (F0 m 427 ls [.int (iI (bb)), .int (iI (da)), .ref (z 0), .int (iI (m_late σ (da) (bb)))]) := by
          intro   ls hl
          obtain ⟨hP, hD⟩ := va_swap (w1 := WC cI cO u (m_obs σ (da) (bb)) T P) (w2 := WZ cI cL z σ T P) (by exact hP) (by exact hD)
          refine q_callGi (fr := 2) (lo := 44) (nL := 11) (wc := WZ cI cL z σ T P) (wr := WC cI cO u (m_obs σ (da) (bb)) T P) (As := [.int (iI (da)), .int (iI (bb))]) (rest := [.int (iI (m_late σ (da) (bb)))]) ⟨hx, hb, hml, hown, hts⟩ (g_zobserve l D _ ed cI cO cL z σ T P hW hSS (da) (bb) (by omega) (by omega)) (cwV 2 hts gL_act_X6_observe rfl rfl rfl (by decide +kernel) ⟨Nat.le_of_ble_eq_true rfl, Nat.le_of_ble_eq_true rfl⟩) (zo_rec hP hK) hP hD hS hA hK hE hT rfl hl.1 rfl (Nat.le_of_ble_eq_true rfl) dL_act_427 (Nat.le_of_ble_eq_true rfl) (Nat.le_of_ble_eq_true rfl) ?_
          intro _ H locs hP hD hS
          obtain ⟨hP, hD⟩ := va_swap (w1 := WZ cI cL z (m_obs σ (da) (bb)) T P) (w2 := WC cI cO u (m_obs σ (da) (bb)) T P) (by exact hP) (by exact hD)
          have hP : va_P D vwCl ([] ++ (WC cI cO u (m_obs σ (da) (bb)) T P ++ WZ cI cL z (m_obs σ (da) (bb)) T P)) H := hP
          have hD : va_D (va_A (WC cI cO g σ T P ++ WZ cI cL z σ T P) sz) ([] ++ (WC cI cO u (m_obs σ (da) (bb)) T P ++ WZ cI cL z (m_obs σ (da) (bb)) T P)) := hD
          have hlt := m_late_in hW (d := da) (b := bb) (by omega)
          refine q_icmp_ne (tgt := 437) hx hb dL_act_430 (by decide) (by omega) (by omega) (fun c_1 => ?_) (fun c_1 => ?_)
          · exfalso
            omega
          · skip
            refine q_iconst hx hb dL_act_433 ?_
            refine lv_goto (tgt := 438) hx hb dL_act_434 (by decide) ?_
            exact q_gpzret (K := ActK g z ed σ T P x) (cells := 0) (slots := 0) (mc := 5) (ms := 60) (w1 := fun (u : AS) => WC cI cO u.1 u.2.2.1 u.2.2.2.1 u.2.2.2.2 ++ WZ cI cL u.2.1 u.2.2.1 u.2.2.2.1 u.2.2.2.2) ((u, z, m_obs σ (da) (bb), T, P)) hx hb hr hlocks (Or.inr rfl) hS (rfl) (actK_set (by omega) (LW_obs hLW da bb) hu rfl (m_obs_co hco) (m_obs_at (by omega))) (⟨hP, hD⟩) (by omega) (by omega) dL_act_438
        refine q_if_ne (tgt := 426) hx hb dL_act_419 (by decide) (by omega) (fun c_2 => ?_) (fun c_2 => ?_)
        · skip
          refine q_iconst hx hb dL_act_426 ?_
          refine q_is (z := bb) (by rw [hbb]; first | (rw [if_pos (by omega)]) | (rw [if_neg (by omega)])) ?_
          exact key_427   _ (lv_sub hl [0, 1, 2, 3, 4] rfl)
        · skip
          refine q_iconst hx hb dL_act_422 ?_
          refine lv_goto (tgt := 427) hx hb dL_act_423 (by decide) ?_
          refine q_is (z := bb) (by rw [hbb]; first | (rw [if_pos (by omega)]) | (rw [if_neg (by omega)])) ?_
          exact key_427   _ (lv_sub hl [0, 1, 2, 3, 4] rfl)
      refine q_if_ne (tgt := 407) hx hb dL_act_400 (by decide) (by omega) (fun c_3 => ?_) (fun c_3 => ?_)
      · skip
        refine q_iconst hx hb dL_act_407 ?_
        refine q_is (z := bb) (by rw [hbb]; first | (rw [if_pos (by omega)]) | (rw [if_neg (by omega)])) ?_
        exact key_408   _ (lv_sub hl [1, 2, 3, 4, 0] rfl)
      · skip
        refine q_iconst hx hb dL_act_403 ?_
        refine lv_goto (tgt := 408) hx hb dL_act_404 (by decide) ?_
        refine q_is (z := bb) (by rw [hbb]; first | (rw [if_pos (by omega)]) | (rw [if_neg (by omega)])) ?_
        exact key_408   _ (lv_sub hl [1, 2, 3, 4, 0] rfl)
    refine q_if_ne (tgt := 369) hx hb dL_act_362 (by decide) (by omega) (fun c_4 => ?_) (fun c_4 => ?_)
    · skip
      refine q_iconst hx hb dL_act_369 ?_
      refine q_is (z := bb) (by rw [hbb]; first | (rw [if_pos (by omega)]) | (rw [if_neg (by omega)])) ?_
      exact key_370   _ (lv_sub hl [1, 2, 3, 0] rfl)
    · skip
      refine q_iconst hx hb dL_act_365 ?_
      refine lv_goto (tgt := 370) hx hb dL_act_366 (by decide) ?_
      refine q_is (z := bb) (by rw [hbb]; first | (rw [if_pos (by omega)]) | (rw [if_neg (by omega)])) ?_
      exact key_370   _ (lv_sub hl [1, 2, 3, 0] rfl)
  refine q_if_ne (tgt := 344) hx hb dL_act_335 (by decide) (by omega) (fun c_5 => ?_) (fun c_5 => ?_)
  · skip
    refine q_bipush hx hb dL_act_344 (by decide) ?_
    exact key_346 _ (by omega) _ (lv_sub hl [0, 1, 2] rfl)
  · skip
    refine q_sipush hx hb dL_act_338 (by decide) ?_
    refine lv_goto (tgt := 346) hx hb dL_act_341 (by decide) ?_
    exact key_346 _ (by omega) _ (lv_sub hl [0, 1, 2] rfl)
