/-! ===== what the law's act leaves ===== -/
abbrev AS : Type := (Nat → Nat) × (Nat → Nat) × (Nat → Int) × (Nat → Int) × (Nat → Int)
/-- the sheet that is printed anew -/
def act_is (x : Int) (σ : Nat → Int) (j : Nat) : Prop := m_bl (m_sr x 9) 8 = 4 ∧ 0 < σ 7 ∧ (j : Int) = m_bl (m_sr x 2) (σ 7)
def ActK (g z : Nat → Nat) (ed : Nat × Nat × Nat) (σ T P : Nat → Int) (x : Int) (u : AS) : Prop := LW u.2.2.1 u.2.2.2.1 u.2.2.2.2 ∧ (u.1 0 = g 0 ∧ u.2.1 0 = z 0) ∧ ((u.2.2.1 6 = 0 → u.1 6 = ed.1) ∧ (u.2.2.1 7 = 0 → u.1 7 = ed.1)) ∧ (0 ≤ u.2.2.1 10 ∧ u.2.2.1 10 ≤ u.2.2.1 9 ∧ u.2.2.1 9 ≤ σ 9 + 1) ∧ σ 7 ≤ u.2.2.1 7 ∧ (∀ j : Nat, (j : Int) < σ 7 → (act_is x σ j ∧ m_told u.2.2.1 u.2.2.2.1 u.2.2.2.2 j 3 = 0 ∧ m_told u.2.2.1 u.2.2.2.1 u.2.2.2.2 j 1 = u.2.2.1 6 ∧ m_told u.2.2.1 u.2.2.2.1 u.2.2.2.2 j 4 = 0) ∨ (¬ act_is x σ j ∧ ∀ i : Nat, i < 11 → u.2.2.2.2 (11 * j + i) = P (11 * j + i))) ∧ (σ 7 < u.2.2.1 7 → m_told u.2.2.1 u.2.2.2.1 u.2.2.2.2 (σ 7).toNat 3 = 0)
theorem actK_set {g z z' u : Nat → Nat} {ed : Nat × Nat × Nat} {σ T P σ' T' : Nat → Int} {x : Int} (hc : m_bl (m_sr x 9) 8 ≠ 4) (hL : LW σ' T' P) (hk : kT g ed σ' u) (hz : z' 0 = z 0) (hco : 0 ≤ σ' 10 ∧ σ' 10 ≤ σ' 9 ∧ σ' 9 ≤ σ 9 + 1) (h7 : σ' 7 = σ 7) : ActK g z ed σ T P x (u, z', σ', T', P) :=
  ⟨hL, ⟨hk.1, hz⟩, hk.2, hco, by show σ 7 ≤ σ' 7; omega, fun j hj => Or.inr ⟨fun h => hc h.1, fun i hi => rfl⟩, fun h => absurd h (by show ¬ σ 7 < σ' 7; omega)⟩
theorem actK_id {g z : Nat → Nat} {ed : Nat × Nat × Nat} {σ T P : Nat → Int} {x : Int} (hc : m_bl (m_sr x 9) 8 ≠ 4 ∨ σ 7 = 0) (hL : LW σ T P) (he6 : σ 6 = 0 → g 6 = ed.1) (he7 : σ 7 = 0 → g 7 = ed.1) (hco : 0 ≤ σ 10 ∧ σ 10 ≤ σ 9 ∧ σ 9 ≤ 1000) : ActK g z ed σ T P x (g, z, σ, T, P) :=
  ⟨hL, ⟨rfl, rfl⟩, ⟨he6, he7⟩, by show 0 ≤ σ 10 ∧ σ 10 ≤ σ 9 ∧ σ 9 ≤ σ 9 + 1; omega, Int.le_refl _, fun j hj => Or.inr ⟨fun h => hc.elim (fun q => q h.1) (fun q => by have := h.2.1; omega), fun i hi => rfl⟩, fun h => absurd h (Int.lt_irrefl _)⟩
theorem m_chg_0 {f dy : Nat → Int} : ∀ {n : Nat}, (∀ i, i < n → f i = dy i) → m_chg f dy n = 0
  | 0, _ => rfl
  | n + 1, h => by
    rw [m_chg, m_chg_0 (n := n) (fun i hi => h i (by omega)), if_pos (h n (by omega))]
    rfl
theorem m_fl_days {σ T P : Nat → Int} {b : Nat} {y : Int} : ∀ i : Nat, i < (σ 6).toNat → m_F σ T i y = m_fl σ T P b y (σ 6).toNat (b + 3 + i) := by
  intro i hi
  rw [m_fl_dy]
  unfold m_dy
  rw [if_pos hi]
/-- a sheet that is written now is right -/
theorem m_fl_right {σ T P : Nat → Int} {j : Nat} {y : Int} : m_told σ T (m_fl σ T P (11 * j) y (σ 6).toNat) j 3 = 0 ∧ m_told σ T (m_fl σ T P (11 * j) y (σ 6).toNat) j 1 = σ 6 ∧ m_told σ T (m_fl σ T P (11 * j) y (σ 6).toNat) j 4 = 0 := by
  obtain ⟨f0, f1, f2⟩ := m_fl_at (σ := σ) (T := T) (P := P) (b := 11 * j) (k := (σ 6).toNat) (y := y)
  have hc : m_chg (fun i => m_F σ T i y) (fun i => m_fl σ T P (11 * j) y (σ 6).toNat (11 * j + 3 + i)) (σ 6).toNat = 0 := m_chg_0 (fun i hi => m_fl_days i hi)
  have hs := m_sh_chg (fun i => m_F σ T i y) (fun i => m_fl σ T P (11 * j) y (σ 6).toNat (11 * j + 3 + i)) (σ 6).toNat
  refine ⟨?_, f1, ?_⟩
  · rw [m_told_3, f0, f1, f2]
    unfold m_wr
    rw [hc, if_neg (by omega)]
  · rw [m_told_4, f0, f1]
    omega
theorem actK_print {g z z' u : Nat → Nat} {ed : Nat × Nat × Nat} {σ T P : Nat → Int} {x y : Int} (hc : m_bl (m_sr x 9) 8 ≠ 4) (hL : LW σ T P) (hy : 0 ≤ y ∧ y < 1000) (h10 : σ 7 ≠ 10) (hk : kT g ed (st σ 7 (σ 7 + 1)) u) (hz : z' 0 = z 0) (hco : 0 ≤ σ 10 ∧ σ 10 ≤ σ 9 ∧ σ 9 ≤ 1000) : ActK g z ed σ T P x (u, z', st σ 7 (σ 7 + 1), T, m_fl σ T P (11 * (σ 7).toNat) y (σ 6).toNat) := by
  obtain ⟨w0, w1, w2, w3, w4, w5, w6, w7, w8⟩ := hL.1
  have h7 : st σ 7 (σ 7 + 1) 7 = σ 7 + 1 := st_eq _ _ _
  refine ⟨LW_print hL h10 hy, ⟨hk.1, hz⟩, hk.2, ?_, ?_, fun j hj => Or.inr ⟨fun h => hc h.1, fun i hi => ?_⟩, fun _ => ?_⟩
  · show 0 ≤ σ 10 ∧ σ 10 ≤ σ 9 ∧ σ 9 ≤ σ 9 + 1
    omega
  · show σ 7 ≤ st σ 7 (σ 7 + 1) 7
    omega
  · exact m_fl_off (by omega) (by omega)
  · exact (m_fl_right (σ := σ) (T := T) (P := P) (j := (σ 7).toNat) (y := y)).1
theorem actK_reprint {g z z' u : Nat → Nat} {ed : Nat × Nat × Nat} {σ T P : Nat → Int} {x j : Int} (hc : m_bl (m_sr x 9) 8 = 4) (h0 : 0 < σ 7) (hj : j = m_bl (m_sr x 2) (σ 7)) (hL : LW σ T P) (hk : kT g ed σ u) (hz : z' 0 = z 0) (hco : 0 ≤ σ 10 ∧ σ 10 ≤ σ 9 ∧ σ 9 ≤ 1000) : ActK g z ed σ T P x (u, z', σ, T, m_fl σ T P (11 * j.toNat) (P (11 * j.toNat)) (σ 6).toNat) := by
  obtain ⟨w0, w1, w2, w3, w4, w5, w6, w7, w8⟩ := hL.1
  have hb := m_bl_in (m_sr x 2) h0
  rw [← hj] at hb
  refine ⟨LW_reprint hL hb, ⟨hk.1, hz⟩, hk.2, ?_, Int.le_refl _, fun i hi => ?_, fun h => absurd h (Int.lt_irrefl _)⟩
  · show 0 ≤ σ 10 ∧ σ 10 ≤ σ 9 ∧ σ 9 ≤ σ 9 + 1
    omega
  · by_cases e : i = j.toNat
    · left
      subst e
      exact ⟨⟨hc, h0, by omega⟩, m_fl_right⟩
    · right
      exact ⟨fun h => e (by have := h.2.2; omega), fun k hk2 => m_fl_off (by omega) (by omega)⟩
theorem m_obs_co {σ : Nat → Int} {d b : Int} (hco : 0 ≤ σ 10 ∧ σ 10 ≤ σ 9 ∧ σ 9 ≤ 1000) : 0 ≤ m_obs σ d b 10 ∧ m_obs σ d b 10 ≤ m_obs σ d b 9 ∧ m_obs σ d b 9 ≤ σ 9 + 1 := by
  unfold m_obs
  split
  · show 0 ≤ σ 10 ∧ σ 10 ≤ σ 9 + 1 ∧ σ 9 + 1 ≤ σ 9 + 1
    omega
  · show 0 ≤ σ 10 + 1 ∧ σ 10 + 1 ≤ σ 9 + 1 ∧ σ 9 + 1 ≤ σ 9 + 1
    omega
theorem m_late_in {σ T : Nat → Int} (hW : WF σ T) {d b : Int} (hd : 0 ≤ d ∧ d ≤ 99999) : -2000000 ≤ m_late σ d b ∧ m_late σ d b ≤ 2000000 := by
  obtain ⟨w0, w1, w2, w3, -⟩ := hW
  have h1 := s_nt_in (ln := σ 2) (fi := σ 3) (b := b) (d := d) w2 w3 (by omega)
  have h2 := m_tm_in (ln := σ 2) (fi := σ 3) (b := b) (k := m_nt (σ 2) (σ 3) b d) w2 w3 h1.1
  unfold m_late
  omega
theorem z_frow (T : Nat → Int) (n : Nat) (mo da mn wd of : Int) : ∀ k, k < 5 → (st (st (st (st (st (fun _ => 0) (0) (mo)) (1) (da)) (2) (mn)) (3) (wd)) (4) (of)) k = m_tp T n mo da mn wd of (5 * n + k) := by
  intro k hk
  have h : k = 0 ∨ k = 1 ∨ k = 2 ∨ k = 3 ∨ k = 4 := by omega
  unfold m_tp
  rcases h with h | h | h | h | h <;> subst h
  · rw [if_pos (by omega)]; rfl
  · rw [if_neg (by omega), if_pos rfl]; rfl
  · rw [if_neg (by omega), if_neg (by omega), if_pos rfl]; rfl
  · rw [if_neg (by omega), if_neg (by omega), if_neg (by omega), if_pos rfl]; rfl
  · rw [if_neg (by omega), if_neg (by omega), if_neg (by omega), if_neg (by omega), if_pos rfl]; rfl
section QAC
variable {s : State} {H : Heap} {D : va_G} {cI cO cL : ClassId} {g z : Nat → Nat} {σ T P : Nat → Int} {wr : va_W} {tys : List (ClassId × FieldType)}
theorem ho_rec (hP : va_P D vwCl (WC cI cO g σ T P ++ wr) H) (hK : va_K D vwCl tys s) : ∃ cell : Cell, H[g 0]? = some cell ∧ cell.vm.isStatics = false ∧ s.vm.findClass RX5 = some cell.cls :=
  ob_recv (ci := 7) ((vaP_mems (ws' := WC cI cO g σ T P) hP (fun q hq => List.mem_append_left _ hq)) 0 _ rfl) hK rfl
theorem zo_rec (hP : va_P D vwCl (WZ cI cL z σ T P ++ wr) H) (hK : va_K D vwCl tys s) : ∃ cell : Cell, H[z 0]? = some cell ∧ cell.vm.isStatics = false ∧ s.vm.findClass RX6 = some cell.cls :=
  ob_recv (ci := 8) ((vaP_mems (ws' := WZ cI cL z σ T P) hP (fun q hq => List.mem_append_left _ hq)) 0 _ rfl) hK rfl
theorem va_swap {A : Nat → Prop} {w1 w2 : va_W} (hP : va_P D vwCl (w1 ++ w2) H) (hD : va_D A (w1 ++ w2)) : va_P D vwCl (w2 ++ w1) H ∧ va_D A (w2 ++ w1) := va_of_perm List.perm_append_comm hP hD
end QAC
set_option maxHeartbeats 4000000 in
set_option maxRecDepth 100000 in
theorem g_act6 (l : Launch) (D : va_G) (sz : Nat) (ed : Nat × Nat × Nat) (cI cO cL : ClassId) (g z : Nat → Nat) (σ T P : Nat → Int) (x : Int) (hLW : LW σ T P) (hx : -2147483648 ≤ x ∧ x < 2147483648) (he6 : σ 6 = 0 → g 6 = ed.1) (he7 : σ 7 = 0 → g 7 = ed.1) (hco : 0 ≤ σ 10 ∧ σ 10 ≤ σ 9 ∧ σ 9 ≤ 1000) (hc : m_bl (m_sr (x) (9)) (8) = 6) : MGp l yL_act wsL_act 6 139 5 60 D (ty3 cI cO cL) sz (WC cI cO g σ T P ++ WZ cI cL z σ T P) [.ref (g 0), .ref (z 0), .int (iI (x))] ed (1) (ActK g z ed σ T P x) (fun (u : AS) => WC cI cO u.1 u.2.2.1 u.2.2.2.1 u.2.2.2.2 ++ WZ cI cL u.2.1 u.2.2.1 u.2.2.2.1 u.2.2.2.2) := by
  refine MGp_of (cc := cL_act) (maxL := 11) (ret := (some .boolean)) (by decide) rfl (Nat.le_of_ble_eq_true rfl) ?_
  intro p e s m args below meth c ls hx hb hr hlocks hml hown hts hsz hP hK hD hS hA hin hE hT hl
  have hl : lv_has ls 11 [(0, .ref (g 0)), (1, .ref (z 0)), (2, .int (iI (x)))] := hl
  have hin_X6 : ∀ w ∈ u_ws RX6 TX6 10, w ∈ wsL_act := (fun w h => List.mem_cons_of_mem _ (List.mem_append_left _ (List.mem_append_left _ (List.mem_append_left _ (List.mem_append_left _ (List.mem_append_left _ (List.mem_append_left _ (List.mem_append_left _ (List.mem_append_left _ (List.mem_append_left _ (List.mem_append_left _ (List.mem_append_right _ h))))))))))))
  have hP : va_P D vwCl ([] ++ (WC cI cO g σ T P ++ WZ cI cL z σ T P)) s.heap := hP
  have hD : va_D (va_A (WC cI cO g σ T P ++ WZ cI cL z σ T P) sz) ([] ++ (WC cI cO g σ T P ++ WZ cI cL z σ T P)) := hD
  obtain ⟨hW, hSS, hp0⟩ := id hLW
  obtain ⟨w0, w1, w2, w3, w4, w5, w6, w7, w8⟩ := id hW
  have hPc : PicC D cI cO g σ T P s.heap := vaP_mems hP (fun q hq => List.mem_append_right _ (List.mem_append_left _ hq))
  have hPic : PicS D cI cL z σ T P s.heap := vaP_mems hP (fun q hq => List.mem_append_right _ (List.mem_append_right _ hq))
  refine lv_iload_n hx hb dL_act_0 rfl (lv_at hl 2 rfl) ?_
  refine q_bipush hx hb dL_act_1 (by decide) ?_
  refine q_ishr hx hb dL_act_3 ?_
  have hsr3 := m_sr_in (x) (9)
  refine q_bipush hx hb dL_act_4 (by decide) ?_
  refine q_callS (fr := 0) (lo := 0) (nL := 11) (Pic := fun _ => True) (As := [.int (iI (m_sr (x) (9))), .int (iI (8))]) (rest := []) ⟨hx, hb, hml, hown, hts⟩ (l_below l D (ty3 cI cO cL) (m_sr (x) (9)) (8) (by omega) (by omega)) (va_cwS 2 hts gL_act_L_below rfl rfl rfl (by decide +kernel) ⟨Nat.le_of_ble_eq_true rfl, Nat.le_of_ble_eq_true rfl⟩) trivial hK rfl hl.1 rfl (Nat.le_of_ble_eq_true rfl) dL_act_6 (Nat.zero_le _) (Nat.zero_le _) ?_
  have hbl6 := m_bl_in (m_sr (x) (9)) (n := 8) (by omega)
  refine q_tableIn (tgt := 439) hx hb dL_act_9 (by omega) (by omega) 6 (by omega) rfl (by decide) ?_
  obtain ⟨hP, hD⟩ := va_swap (w1 := WC cI cO g σ T P) (w2 := WZ cI cL z σ T P) (by exact hP) (by exact hD)
  have hP : va_P D vwCl ([(z 0, .inr (8, [.int (iI (σ 0)), .int (iI (σ 1)), .int (iI (σ 2)), .int (iI (σ 3)), .int (iI (σ 4)), .int (iI (σ 5)), .ref (z 1), .ref (z 2), .int (iI (σ 9)), .int (iI (σ 10))])), (z 1, .inl (cL, (σ 6).toNat, .inr (.inr (.inr (.inr (fun j => if j < (σ 6).toNat then some (z (10 + j)) else none)))))), (z 2, .inl (cL, (σ 7).toNat, .inr (.inr (.inr (.inr (fun j => if j < (σ 7).toNat then some (z (20 + j)) else none))))))] ++ ((wZf cI z T (σ 6).toNat ++ wZs cI z P (σ 7).toNat) ++ WC cI cO g σ T P)) s.heap := hP
  have hD : va_D (va_A (WC cI cO g σ T P ++ WZ cI cL z σ T P) sz) ([(z 0, .inr (8, [.int (iI (σ 0)), .int (iI (σ 1)), .int (iI (σ 2)), .int (iI (σ 3)), .int (iI (σ 4)), .int (iI (σ 5)), .ref (z 1), .ref (z 2), .int (iI (σ 9)), .int (iI (σ 10))])), (z 1, .inl (cL, (σ 6).toNat, .inr (.inr (.inr (.inr (fun j => if j < (σ 6).toNat then some (z (10 + j)) else none)))))), (z 2, .inl (cL, (σ 7).toNat, .inr (.inr (.inr (.inr (fun j => if j < (σ 7).toNat then some (z (20 + j)) else none))))))] ++ ((wZf cI z T (σ 6).toNat ++ wZs cI z P (σ 7).toNat) ++ WC cI cO g σ T P)) := hD
  refine lv_aload_n hx hb dL_act_439 rfl (lv_at hl 1 rfl) ?_
  refine q_get (ci := 8) (C := RX6) (T := TX6) (N := 10) hx hb hts hin_X6 hown hK (v := .int (iI (σ 2))) (hP 0 _ rfl) rfl 2 (by decide) (hts (.fieldLink RL 34 "AlmanacHouseLaw$Sim" "length" "I") (List.mem_of_getElem? (i := 12) rfl)) (fun _ h9 => h9) rfl dL_act_440 ?_
  refine lv_istore (lv' := [(9, .int (iI (σ 2))), (0, .ref (g 0)), (1, .ref (z 0)), (2, .int (iI (x)))]) hx hb dL_act_443 hl (by decide) rfl (fun ls hl => ?_)
  refine lv_aload_n hx hb dL_act_445 rfl (lv_at hl 2 rfl) ?_
  refine q_sipush hx hb dL_act_446 (by decide) ?_
  refine lv_iload_n hx hb dL_act_449 rfl (lv_at hl 3 rfl) ?_
  refine q_sipush hx hb dL_act_450 (by decide) ?_
  refine q_callS (fr := 0) (lo := 0) (nL := 11) (Pic := fun _ => True) (As := [.int (iI (x)), .int (iI (20001))]) (rest := [.int (iI (20000)), .ref (z 0)]) ⟨hx, hb, hml, hown, hts⟩ (l_below l D (ty3 cI cO cL) (x) (20001) (by omega) (by omega)) (va_cwS 2 hts gL_act_L_below rfl rfl rfl (by decide +kernel) ⟨Nat.le_of_ble_eq_true rfl, Nat.le_of_ble_eq_true rfl⟩) trivial hK rfl hl.1 rfl (Nat.le_of_ble_eq_true rfl) dL_act_453 (Nat.zero_le _) (Nat.zero_le _) ?_
  have hbl453 := m_bl_in (x) (n := 20001) (by omega)
  refine q_iadd hx hb dL_act_456 ?_
  refine va_put (D := D) (ci := 8) (v := .int (iI ((20000) + (m_bl (x) (20001))))) (ty := .int) (C := RX6) (T := TX6) (N := 10) hx hb hts (fun w h => List.mem_cons_of_mem _ (List.mem_append_left _ (List.mem_append_left _ (List.mem_append_left _ (List.mem_append_left _ (List.mem_append_left _ (List.mem_append_left _ (List.mem_append_left _ (List.mem_append_left _ (List.mem_append_left _ (List.mem_append_left _ (List.mem_append_right _ h)))))))))))) tyX6 tyX6_ok nmX6 hown hK hP hD hS 0 rfl rfl 2 (by decide) (hts (.fieldLink RL 34 "AlmanacHouseLaw$Sim" "length" "I") (List.mem_of_getElem? (i := 12) rfl)) (fun _ h9 => h9) rfl (by decide +kernel) rfl rfl (Nat.le_of_ble_eq_true rfl) dL_act_457 (fun H locs hP hD hS => ?_)
  have hP : va_P D vwCl ([(z 0, .inr (8, [.int (iI (σ 0)), .int (iI (σ 1)), .int (iI ((20000) + (m_bl (x) (20001)))), .int (iI (σ 3)), .int (iI (σ 4)), .int (iI (σ 5)), .ref (z 1), .ref (z 2), .int (iI (σ 9)), .int (iI (σ 10))])), (z 1, .inl (cL, (σ 6).toNat, .inr (.inr (.inr (.inr (fun j => if j < (σ 6).toNat then some (z (10 + j)) else none)))))), (z 2, .inl (cL, (σ 7).toNat, .inr (.inr (.inr (.inr (fun j => if j < (σ 7).toNat then some (z (20 + j)) else none))))))] ++ ((wZf cI z T (σ 6).toNat ++ wZs cI z P (σ 7).toNat) ++ WC cI cO g σ T P)) H := hP
  have hD : va_D (va_A (WC cI cO g σ T P ++ WZ cI cL z σ T P) sz) ([(z 0, .inr (8, [.int (iI (σ 0)), .int (iI (σ 1)), .int (iI ((20000) + (m_bl (x) (20001)))), .int (iI (σ 3)), .int (iI (σ 4)), .int (iI (σ 5)), .ref (z 1), .ref (z 2), .int (iI (σ 9)), .int (iI (σ 10))])), (z 1, .inl (cL, (σ 6).toNat, .inr (.inr (.inr (.inr (fun j => if j < (σ 6).toNat then some (z (10 + j)) else none)))))), (z 2, .inl (cL, (σ 7).toNat, .inr (.inr (.inr (.inr (fun j => if j < (σ 7).toNat then some (z (20 + j)) else none))))))] ++ ((wZf cI z T (σ 6).toNat ++ wZs cI z P (σ 7).toNat) ++ WC cI cO g σ T P)) := hD
  refine lv_aload_n hx hb dL_act_460 rfl (lv_at hl 2 rfl) ?_
  refine lv_iload_n hx hb dL_act_461 rfl (lv_at hl 3 rfl) ?_
  refine q_iconst hx hb dL_act_462 ?_
  refine q_ishr hx hb dL_act_463 ?_
  have hsr463 := m_sr_in (x) (3)
  refine q_ldc (z := 40000) hx hb hown (hts (.constant RL 37 (40000)) (List.mem_of_getElem? (i := 13) rfl)) (by decide) dL_act_464 ?_
  refine q_callS (fr := 0) (lo := 0) (nL := 11) (Pic := fun _ => True) (As := [.int (iI (m_sr (x) (3))), .int (iI (40000))]) (rest := [.ref (z 0)]) ⟨hx, hb, hml, hown, hts⟩ (l_below l D (ty3 cI cO cL) (m_sr (x) (3)) (40000) (by omega) (by omega)) (va_cwS 2 hts gL_act_L_below rfl rfl rfl (by decide +kernel) ⟨Nat.le_of_ble_eq_true rfl, Nat.le_of_ble_eq_true rfl⟩) trivial hK rfl hl.1 rfl (Nat.le_of_ble_eq_true rfl) dL_act_466 (Nat.zero_le _) (Nat.zero_le _) ?_
  have hbl466 := m_bl_in (m_sr (x) (3)) (n := 40000) (by omega)
  refine va_put (D := D) (ci := 8) (v := .int (iI (m_bl (m_sr (x) (3)) (40000)))) (ty := .int) (C := RX6) (T := TX6) (N := 10) hx hb hts (fun w h => List.mem_cons_of_mem _ (List.mem_append_left _ (List.mem_append_left _ (List.mem_append_left _ (List.mem_append_left _ (List.mem_append_left _ (List.mem_append_left _ (List.mem_append_left _ (List.mem_append_left _ (List.mem_append_left _ (List.mem_append_left _ (List.mem_append_right _ h)))))))))))) tyX6 tyX6_ok nmX6 hown hK hP hD hS 0 rfl rfl 3 (by decide) (hts (.fieldLink RL 38 "AlmanacHouseLaw$Sim" "first" "I") (List.mem_of_getElem? (i := 14) rfl)) (fun _ h9 => h9) rfl (by decide +kernel) rfl rfl (Nat.le_of_ble_eq_true rfl) dL_act_469 (fun H locs hP hD hS => ?_)
  have hP : va_P D vwCl ([(z 0, .inr (8, [.int (iI (σ 0)), .int (iI (σ 1)), .int (iI ((20000) + (m_bl (x) (20001)))), .int (iI (m_bl (m_sr (x) (3)) (40000))), .int (iI (σ 4)), .int (iI (σ 5)), .ref (z 1), .ref (z 2), .int (iI (σ 9)), .int (iI (σ 10))])), (z 1, .inl (cL, (σ 6).toNat, .inr (.inr (.inr (.inr (fun j => if j < (σ 6).toNat then some (z (10 + j)) else none)))))), (z 2, .inl (cL, (σ 7).toNat, .inr (.inr (.inr (.inr (fun j => if j < (σ 7).toNat then some (z (20 + j)) else none))))))] ++ ((wZf cI z T (σ 6).toNat ++ wZs cI z P (σ 7).toNat) ++ WC cI cO g σ T P)) H := hP
  have hD : va_D (va_A (WC cI cO g σ T P ++ WZ cI cL z σ T P) sz) ([(z 0, .inr (8, [.int (iI (σ 0)), .int (iI (σ 1)), .int (iI ((20000) + (m_bl (x) (20001)))), .int (iI (m_bl (m_sr (x) (3)) (40000))), .int (iI (σ 4)), .int (iI (σ 5)), .ref (z 1), .ref (z 2), .int (iI (σ 9)), .int (iI (σ 10))])), (z 1, .inl (cL, (σ 6).toNat, .inr (.inr (.inr (.inr (fun j => if j < (σ 6).toNat then some (z (10 + j)) else none)))))), (z 2, .inl (cL, (σ 7).toNat, .inr (.inr (.inr (.inr (fun j => if j < (σ 7).toNat then some (z (20 + j)) else none))))))] ++ ((wZf cI z T (σ 6).toNat ++ wZs cI z P (σ 7).toNat) ++ WC cI cO g σ T P)) := hD
  refine lv_aload_n hx hb dL_act_472 rfl (lv_at hl 1 rfl) ?_
  refine lv_aload_n hx hb dL_act_473 rfl (lv_at hl 2 rfl) ?_
  refine q_get (ci := 8) (C := RX6) (T := TX6) (N := 10) hx hb hts hin_X6 hown hK (v := .int (iI ((20000) + (m_bl (x) (20001))))) (hP 0 _ rfl) rfl 2 (by decide) (hts (.fieldLink RL 34 "AlmanacHouseLaw$Sim" "length" "I") (List.mem_of_getElem? (i := 12) rfl)) (fun _ h9 => h9) rfl dL_act_474 ?_
  refine lv_aload_n hx hb dL_act_477 rfl (lv_at hl 2 rfl) ?_
  refine q_get (ci := 8) (C := RX6) (T := TX6) (N := 10) hx hb hts hin_X6 hown hK (v := .int (iI (m_bl (m_sr (x) (3)) (40000)))) (hP 0 _ rfl) rfl 3 (by decide) (hts (.fieldLink RL 38 "AlmanacHouseLaw$Sim" "first" "I") (List.mem_of_getElem? (i := 14) rfl)) (fun _ h9 => h9) rfl dL_act_478 ?_
  obtain ⟨hP, hD⟩ := va_swap (w1 := [(z 0, .inr (8, [.int (iI (σ 0)), .int (iI (σ 1)), .int (iI ((20000) + (m_bl (x) (20001)))), .int (iI (m_bl (m_sr (x) (3)) (40000))), .int (iI (σ 4)), .int (iI (σ 5)), .ref (z 1), .ref (z 2), .int (iI (σ 9)), .int (iI (σ 10))])), (z 1, .inl (cL, (σ 6).toNat, .inr (.inr (.inr (.inr (fun j => if j < (σ 6).toNat then some (z (10 + j)) else none)))))), (z 2, .inl (cL, (σ 7).toNat, .inr (.inr (.inr (.inr (fun j => if j < (σ 7).toNat then some (z (20 + j)) else none))))))] ++ (wZf cI z T (σ 6).toNat ++ wZs cI z P (σ 7).toNat)) (w2 := WC cI cO g σ T P) (by exact hP) (by exact hD)
  refine q_callGp (fr := 0) (lo := 0) (nL := 11) (wc := WC cI cO g σ T P) (wr := [(z 0, .inr (8, [.int (iI (σ 0)), .int (iI (σ 1)), .int (iI ((20000) + (m_bl (x) (20001)))), .int (iI (m_bl (m_sr (x) (3)) (40000))), .int (iI (σ 4)), .int (iI (σ 5)), .ref (z 1), .ref (z 2), .int (iI (σ 9)), .int (iI (σ 10))])), (z 1, .inl (cL, (σ 6).toNat, .inr (.inr (.inr (.inr (fun j => if j < (σ 6).toNat then some (z (10 + j)) else none)))))), (z 2, .inl (cL, (σ 7).toNat, .inr (.inr (.inr (.inr (fun j => if j < (σ 7).toNat then some (z (20 + j)) else none))))))] ++ (wZf cI z T (σ 6).toNat ++ wZs cI z P (σ 7).toNat)) (As := [.int (iI ((20000) + (m_bl (x) (20001)))), .int (iI (m_bl (m_sr (x) (3)) (40000)))]) (rest := []) ⟨hx, hb, hml, hown, hts⟩ (t_setMoon l D _ ed cI cO cL g σ T P hW hSS he6 he7 ((20000) + (m_bl (x) (20001))) (m_bl (m_sr (x) (3)) (40000)) (by omega) (by omega)) (cwV 2 hts gL_act_X5_setMoon rfl rfl rfl (by decide +kernel) ⟨Nat.le_of_ble_eq_true rfl, Nat.le_of_ble_eq_true rfl⟩) (ho_rec hP hK) hP hD hS hA hK hE hT rfl hl.1 rfl (Nat.le_of_ble_eq_true rfl) dL_act_481 (Nat.le_of_ble_eq_true rfl) (Nat.le_of_ble_eq_true rfl) ?_
  intro u H locs hu hP hD hS
  obtain ⟨hP, hD⟩ := va_swap (w1 := WC cI cO u (st (st σ 2 ((20000) + (m_bl (x) (20001)))) 3 (m_bl (m_sr (x) (3)) (40000))) (T) (P)) (w2 := [(z 0, .inr (8, [.int (iI (σ 0)), .int (iI (σ 1)), .int (iI ((20000) + (m_bl (x) (20001)))), .int (iI (m_bl (m_sr (x) (3)) (40000))), .int (iI (σ 4)), .int (iI (σ 5)), .ref (z 1), .ref (z 2), .int (iI (σ 9)), .int (iI (σ 10))])), (z 1, .inl (cL, (σ 6).toNat, .inr (.inr (.inr (.inr (fun j => if j < (σ 6).toNat then some (z (10 + j)) else none)))))), (z 2, .inl (cL, (σ 7).toNat, .inr (.inr (.inr (.inr (fun j => if j < (σ 7).toNat then some (z (20 + j)) else none))))))] ++ (wZf cI z T (σ 6).toNat ++ wZs cI z P (σ 7).toNat)) (by exact hP) (by exact hD)
  have hP : va_P D vwCl ([(z 0, .inr (8, [.int (iI (σ 0)), .int (iI (σ 1)), .int (iI ((20000) + (m_bl (x) (20001)))), .int (iI (m_bl (m_sr (x) (3)) (40000))), .int (iI (σ 4)), .int (iI (σ 5)), .ref (z 1), .ref (z 2), .int (iI (σ 9)), .int (iI (σ 10))])), (z 1, .inl (cL, (σ 6).toNat, .inr (.inr (.inr (.inr (fun j => if j < (σ 6).toNat then some (z (10 + j)) else none)))))), (z 2, .inl (cL, (σ 7).toNat, .inr (.inr (.inr (.inr (fun j => if j < (σ 7).toNat then some (z (20 + j)) else none))))))] ++ ((wZf cI z T (σ 6).toNat ++ wZs cI z P (σ 7).toNat) ++ WC cI cO u (st (st σ 2 ((20000) + (m_bl (x) (20001)))) 3 (m_bl (m_sr (x) (3)) (40000))) (T) (P))) H := hP
  have hD : va_D (va_A (WC cI cO g σ T P ++ WZ cI cL z σ T P) sz) ([(z 0, .inr (8, [.int (iI (σ 0)), .int (iI (σ 1)), .int (iI ((20000) + (m_bl (x) (20001)))), .int (iI (m_bl (m_sr (x) (3)) (40000))), .int (iI (σ 4)), .int (iI (σ 5)), .ref (z 1), .ref (z 2), .int (iI (σ 9)), .int (iI (σ 10))])), (z 1, .inl (cL, (σ 6).toNat, .inr (.inr (.inr (.inr (fun j => if j < (σ 6).toNat then some (z (10 + j)) else none)))))), (z 2, .inl (cL, (σ 7).toNat, .inr (.inr (.inr (.inr (fun j => if j < (σ 7).toNat then some (z (20 + j)) else none))))))] ++ ((wZf cI z T (σ 6).toNat ++ wZs cI z P (σ 7).toNat) ++ WC cI cO u (st (st σ 2 ((20000) + (m_bl (x) (20001)))) 3 (m_bl (m_sr (x) (3)) (40000))) (T) (P))) := hD
  refine lv_iload hx hb dL_act_484 (lv_at hl 0 rfl) ?_
  refine q_icmp_ne (tgt := 493) hx hb dL_act_486 (by decide) (by omega) (by omega) (fun c_1 => ?_) (fun c_1 => ?_)
  · exfalso
    omega
  · skip
    refine q_iconst hx hb dL_act_489 ?_
    refine lv_goto (tgt := 494) hx hb dL_act_490 (by decide) ?_
    obtain ⟨hP, hD⟩ := va_swap (w1 := [(z 0, .inr (8, [.int (iI (σ 0)), .int (iI (σ 1)), .int (iI ((20000) + (m_bl (x) (20001)))), .int (iI (m_bl (m_sr (x) (3)) (40000))), .int (iI (σ 4)), .int (iI (σ 5)), .ref (z 1), .ref (z 2), .int (iI (σ 9)), .int (iI (σ 10))])), (z 1, .inl (cL, (σ 6).toNat, .inr (.inr (.inr (.inr (fun j => if j < (σ 6).toNat then some (z (10 + j)) else none)))))), (z 2, .inl (cL, (σ 7).toNat, .inr (.inr (.inr (.inr (fun j => if j < (σ 7).toNat then some (z (20 + j)) else none))))))] ++ (wZf cI z T (σ 6).toNat ++ wZs cI z P (σ 7).toNat)) (w2 := WC cI cO u (st (st σ 2 ((20000) + (m_bl (x) (20001)))) 3 (m_bl (m_sr (x) (3)) (40000))) (T) (P)) (by exact hP) (by exact hD)
    have hP : va_P D vwCl ([] ++ (WC cI cO u (st (st σ 2 ((20000) + (m_bl (x) (20001)))) 3 (m_bl (m_sr (x) (3)) (40000))) (T) (P) ++ WZ cI cL z (st (st σ 2 (20000 + m_bl (x) (20001))) 3 (m_bl (m_sr (x) (3)) (40000))) T P)) H := hP
    have hD : va_D (va_A (WC cI cO g σ T P ++ WZ cI cL z σ T P) sz) ([] ++ (WC cI cO u (st (st σ 2 ((20000) + (m_bl (x) (20001)))) 3 (m_bl (m_sr (x) (3)) (40000))) (T) (P) ++ WZ cI cL z (st (st σ 2 (20000 + m_bl (x) (20001))) 3 (m_bl (m_sr (x) (3)) (40000))) T P)) := hD
    exact q_gpzret (K := ActK g z ed σ T P x) (cells := 0) (slots := 0) (mc := 5) (ms := 60) (w1 := fun (u : AS) => WC cI cO u.1 u.2.2.1 u.2.2.2.1 u.2.2.2.2 ++ WZ cI cL u.2.1 u.2.2.1 u.2.2.2.1 u.2.2.2.2) ((u, z, st (st σ 2 (20000 + m_bl (x) (20001))) 3 (m_bl (m_sr (x) (3)) (40000)), T, P)) hx hb hr hlocks (Or.inr rfl) hS (rfl) (actK_set (by omega) (LW_moon hLW (by omega) (by omega)) hu rfl (by show 0 ≤ σ 10 ∧ σ 10 ≤ σ 9 ∧ σ 9 ≤ σ 9 + 1; omega) rfl) (⟨hP, hD⟩) (by omega) (by omega) dL_act_494
set_option maxHeartbeats 4000000 in
set_option maxRecDepth 100000 in
theorem g_act7a (l : Launch) (D : va_G) (sz : Nat) (ed : Nat × Nat × Nat) (cI cO cL : ClassId) (g z : Nat → Nat) (σ T P : Nat → Int) (x : Int) (hLW : LW σ T P) (hx : -2147483648 ≤ x ∧ x < 2147483648) (he6 : σ 6 = 0 → g 6 = ed.1) (he7 : σ 7 = 0 → g 7 = ed.1) (hco : 0 ≤ σ 10 ∧ σ 10 ≤ σ 9 ∧ σ 9 ≤ 1000) (hc : m_bl (m_sr (x) (9)) (8) = 7) (hc2 : m_bl (m_sr (x) (4)) (2) = 0) : MGp l yL_act wsL_act 6 139 5 60 D (ty3 cI cO cL) sz (WC cI cO g σ T P ++ WZ cI cL z σ T P) [.ref (g 0), .ref (z 0), .int (iI (x))] ed (1) (ActK g z ed σ T P x) (fun (u : AS) => WC cI cO u.1 u.2.2.1 u.2.2.2.1 u.2.2.2.2 ++ WZ cI cL u.2.1 u.2.2.1 u.2.2.2.1 u.2.2.2.2) := by
  refine MGp_of (cc := cL_act) (maxL := 11) (ret := (some .boolean)) (by decide) rfl (Nat.le_of_ble_eq_true rfl) ?_
  intro p e s m args below meth c ls hx hb hr hlocks hml hown hts hsz hP hK hD hS hA hin hE hT hl
  have hl : lv_has ls 11 [(0, .ref (g 0)), (1, .ref (z 0)), (2, .int (iI (x)))] := hl
  have hin_X6 : ∀ w ∈ u_ws RX6 TX6 10, w ∈ wsL_act := (fun w h => List.mem_cons_of_mem _ (List.mem_append_left _ (List.mem_append_left _ (List.mem_append_left _ (List.mem_append_left _ (List.mem_append_left _ (List.mem_append_left _ (List.mem_append_left _ (List.mem_append_left _ (List.mem_append_left _ (List.mem_append_left _ (List.mem_append_right _ h))))))))))))
  have hP : va_P D vwCl ([] ++ (WC cI cO g σ T P ++ WZ cI cL z σ T P)) s.heap := hP
  have hD : va_D (va_A (WC cI cO g σ T P ++ WZ cI cL z σ T P) sz) ([] ++ (WC cI cO g σ T P ++ WZ cI cL z σ T P)) := hD
  obtain ⟨hW, hSS, hp0⟩ := id hLW
  obtain ⟨w0, w1, w2, w3, w4, w5, w6, w7, w8⟩ := id hW
  have hPc : PicC D cI cO g σ T P s.heap := vaP_mems hP (fun q hq => List.mem_append_right _ (List.mem_append_left _ hq))
  have hPic : PicS D cI cL z σ T P s.heap := vaP_mems hP (fun q hq => List.mem_append_right _ (List.mem_append_right _ hq))
  refine lv_iload_n hx hb dL_act_0 rfl (lv_at hl 2 rfl) ?_
  refine q_bipush hx hb dL_act_1 (by decide) ?_
  refine q_ishr hx hb dL_act_3 ?_
  have hsr3 := m_sr_in (x) (9)
  refine q_bipush hx hb dL_act_4 (by decide) ?_
  refine q_callS (fr := 0) (lo := 0) (nL := 11) (Pic := fun _ => True) (As := [.int (iI (m_sr (x) (9))), .int (iI (8))]) (rest := []) ⟨hx, hb, hml, hown, hts⟩ (l_below l D (ty3 cI cO cL) (m_sr (x) (9)) (8) (by omega) (by omega)) (va_cwS 2 hts gL_act_L_below rfl rfl rfl (by decide +kernel) ⟨Nat.le_of_ble_eq_true rfl, Nat.le_of_ble_eq_true rfl⟩) trivial hK rfl hl.1 rfl (Nat.le_of_ble_eq_true rfl) dL_act_6 (Nat.zero_le _) (Nat.zero_le _) ?_
  have hbl6 := m_bl_in (m_sr (x) (9)) (n := 8) (by omega)
  refine q_tableOut (tgt := 495) hx hb dL_act_9 (by omega) (by omega) (by decide) ?_
  obtain ⟨hP, hD⟩ := va_swap (w1 := WC cI cO g σ T P) (w2 := WZ cI cL z σ T P) (by exact hP) (by exact hD)
  have hP : va_P D vwCl ([(z 0, .inr (8, [.int (iI (σ 0)), .int (iI (σ 1)), .int (iI (σ 2)), .int (iI (σ 3)), .int (iI (σ 4)), .int (iI (σ 5)), .ref (z 1), .ref (z 2), .int (iI (σ 9)), .int (iI (σ 10))])), (z 1, .inl (cL, (σ 6).toNat, .inr (.inr (.inr (.inr (fun j => if j < (σ 6).toNat then some (z (10 + j)) else none)))))), (z 2, .inl (cL, (σ 7).toNat, .inr (.inr (.inr (.inr (fun j => if j < (σ 7).toNat then some (z (20 + j)) else none))))))] ++ ((wZf cI z T (σ 6).toNat ++ wZs cI z P (σ 7).toNat) ++ WC cI cO g σ T P)) s.heap := hP
  have hD : va_D (va_A (WC cI cO g σ T P ++ WZ cI cL z σ T P) sz) ([(z 0, .inr (8, [.int (iI (σ 0)), .int (iI (σ 1)), .int (iI (σ 2)), .int (iI (σ 3)), .int (iI (σ 4)), .int (iI (σ 5)), .ref (z 1), .ref (z 2), .int (iI (σ 9)), .int (iI (σ 10))])), (z 1, .inl (cL, (σ 6).toNat, .inr (.inr (.inr (.inr (fun j => if j < (σ 6).toNat then some (z (10 + j)) else none)))))), (z 2, .inl (cL, (σ 7).toNat, .inr (.inr (.inr (.inr (fun j => if j < (σ 7).toNat then some (z (20 + j)) else none))))))] ++ ((wZf cI z T (σ 6).toNat ++ wZs cI z P (σ 7).toNat) ++ WC cI cO g σ T P)) := hD
  refine lv_iload_n hx hb dL_act_495 rfl (lv_at hl 2 rfl) ?_
  refine q_iconst hx hb dL_act_496 ?_
  refine q_ishr hx hb dL_act_497 ?_
  have hsr497 := m_sr_in (x) (4)
  refine q_iconst hx hb dL_act_498 ?_
  refine q_callS (fr := 0) (lo := 0) (nL := 11) (Pic := fun _ => True) (As := [.int (iI (m_sr (x) (4))), .int (iI (2))]) (rest := []) ⟨hx, hb, hml, hown, hts⟩ (l_below l D (ty3 cI cO cL) (m_sr (x) (4)) (2) (by omega) (by omega)) (va_cwS 2 hts gL_act_L_below rfl rfl rfl (by decide +kernel) ⟨Nat.le_of_ble_eq_true rfl, Nat.le_of_ble_eq_true rfl⟩) trivial hK rfl hl.1 rfl (Nat.le_of_ble_eq_true rfl) dL_act_499 (Nat.zero_le _) (Nat.zero_le _) ?_
  have hbl499 := m_bl_in (m_sr (x) (4)) (n := 2) (by omega)
  refine q_if_ne (tgt := 571) hx hb dL_act_502 (by decide) (by omega) (fun c_1 => ?_) (fun c_1 => ?_)
  · exfalso
    omega
  · skip
    refine q_sipush hx hb dL_act_505 (by decide) ?_
    refine lv_aload_n hx hb dL_act_508 rfl (lv_at hl 1 rfl) ?_
    refine q_get (ci := 8) (C := RX6) (T := TX6) (N := 10) hx hb hts hin_X6 hown hK (v := .int (iI (σ 0))) (hP 0 _ rfl) rfl 0 (by decide) (hts (.fieldLink RL 22 "AlmanacHouseLaw$Sim" "cycle" "I") (List.mem_of_getElem? (i := 15) rfl)) (fun _ h9 => h9) rfl dL_act_509 ?_
    refine q_imul hx hb dL_act_512 ?_
    refine lv_aload_n hx hb dL_act_513 rfl (lv_at hl 1 rfl) ?_
    refine q_get (ci := 8) (C := RX6) (T := TX6) (N := 10) hx hb hts hin_X6 hown hK (v := .int (iI (σ 1))) (hP 0 _ rfl) rfl 1 (by decide) (hts (.fieldLink RL 26 "AlmanacHouseLaw$Sim" "leaps" "I") (List.mem_of_getElem? (i := 16) rfl)) (fun _ h9 => h9) rfl dL_act_514 ?_
    refine q_iadd hx hb dL_act_517 ?_
    refine q_top (fun be0 ebe0 => ?_)
    refine lv_istore (lv' := [(10, .int (iI (be0))), (0, .ref (g 0)), (1, .ref (z 0)), (2, .int (iI (x)))]) hx hb dL_act_518 hl (by decide) rfl (fun ls hl => ?_)
    refine lv_aload_n hx hb dL_act_520 rfl (lv_at hl 2 rfl) ?_
    refine q_iconst hx hb dL_act_521 ?_
    refine lv_iload_n hx hb dL_act_522 rfl (lv_at hl 3 rfl) ?_
    refine q_bipush hx hb dL_act_523 (by decide) ?_
    refine q_callS (fr := 0) (lo := 0) (nL := 11) (Pic := fun _ => True) (As := [.int (iI (x)), .int (iI (60))]) (rest := [.int (iI (1)), .ref (z 0)]) ⟨hx, hb, hml, hown, hts⟩ (l_below l D (ty3 cI cO cL) (x) (60) (by omega) (by omega)) (va_cwS 2 hts gL_act_L_below rfl rfl rfl (by decide +kernel) ⟨Nat.le_of_ble_eq_true rfl, Nat.le_of_ble_eq_true rfl⟩) trivial hK rfl hl.1 rfl (Nat.le_of_ble_eq_true rfl) dL_act_525 (Nat.zero_le _) (Nat.zero_le _) ?_
    have hbl525 := m_bl_in (x) (n := 60) (by omega)
    refine q_iadd hx hb dL_act_528 ?_
    refine va_put (D := D) (ci := 8) (v := .int (iI ((1) + (m_bl (x) (60))))) (ty := .int) (C := RX6) (T := TX6) (N := 10) hx hb hts (fun w h => List.mem_cons_of_mem _ (List.mem_append_left _ (List.mem_append_left _ (List.mem_append_left _ (List.mem_append_left _ (List.mem_append_left _ (List.mem_append_left _ (List.mem_append_left _ (List.mem_append_left _ (List.mem_append_left _ (List.mem_append_left _ (List.mem_append_right _ h)))))))))))) tyX6 tyX6_ok nmX6 hown hK hP hD hS 0 rfl rfl 0 (by decide) (hts (.fieldLink RL 22 "AlmanacHouseLaw$Sim" "cycle" "I") (List.mem_of_getElem? (i := 15) rfl)) (fun _ h9 => h9) rfl (by decide +kernel) rfl rfl (Nat.le_of_ble_eq_true rfl) dL_act_529 (fun H locs hP hD hS => ?_)
    have hP : va_P D vwCl ([(z 0, .inr (8, [.int (iI ((1) + (m_bl (x) (60)))), .int (iI (σ 1)), .int (iI (σ 2)), .int (iI (σ 3)), .int (iI (σ 4)), .int (iI (σ 5)), .ref (z 1), .ref (z 2), .int (iI (σ 9)), .int (iI (σ 10))])), (z 1, .inl (cL, (σ 6).toNat, .inr (.inr (.inr (.inr (fun j => if j < (σ 6).toNat then some (z (10 + j)) else none)))))), (z 2, .inl (cL, (σ 7).toNat, .inr (.inr (.inr (.inr (fun j => if j < (σ 7).toNat then some (z (20 + j)) else none))))))] ++ ((wZf cI z T (σ 6).toNat ++ wZs cI z P (σ 7).toNat) ++ WC cI cO g σ T P)) H := hP
    have hD : va_D (va_A (WC cI cO g σ T P ++ WZ cI cL z σ T P) sz) ([(z 0, .inr (8, [.int (iI ((1) + (m_bl (x) (60)))), .int (iI (σ 1)), .int (iI (σ 2)), .int (iI (σ 3)), .int (iI (σ 4)), .int (iI (σ 5)), .ref (z 1), .ref (z 2), .int (iI (σ 9)), .int (iI (σ 10))])), (z 1, .inl (cL, (σ 6).toNat, .inr (.inr (.inr (.inr (fun j => if j < (σ 6).toNat then some (z (10 + j)) else none)))))), (z 2, .inl (cL, (σ 7).toNat, .inr (.inr (.inr (.inr (fun j => if j < (σ 7).toNat then some (z (20 + j)) else none))))))] ++ ((wZf cI z T (σ 6).toNat ++ wZs cI z P (σ 7).toNat) ++ WC cI cO g σ T P)) := hD
    refine lv_aload_n hx hb dL_act_532 rfl (lv_at hl 2 rfl) ?_
    refine lv_iload_n hx hb dL_act_533 rfl (lv_at hl 3 rfl) ?_
    refine q_iconst hx hb dL_act_534 ?_
    refine q_ishr hx hb dL_act_535 ?_
    have hsr535 := m_sr_in (x) (2)
    refine lv_aload_n hx hb dL_act_536 rfl (lv_at hl 2 rfl) ?_
    refine q_get (ci := 8) (C := RX6) (T := TX6) (N := 10) hx hb hts hin_X6 hown hK (v := .int (iI ((1) + (m_bl (x) (60))))) (hP 0 _ rfl) rfl 0 (by decide) (hts (.fieldLink RL 22 "AlmanacHouseLaw$Sim" "cycle" "I") (List.mem_of_getElem? (i := 15) rfl)) (fun _ h9 => h9) rfl dL_act_537 ?_
    refine q_iconst hx hb dL_act_540 ?_
    refine q_iadd hx hb dL_act_541 ?_
    refine q_callS (fr := 0) (lo := 0) (nL := 11) (Pic := fun _ => True) (As := [.int (iI (m_sr (x) (2))), .int (iI (((1) + (m_bl (x) (60))) + (1)))]) (rest := [.ref (z 0)]) ⟨hx, hb, hml, hown, hts⟩ (l_below l D (ty3 cI cO cL) (m_sr (x) (2)) (((1) + (m_bl (x) (60))) + (1)) (by omega) (by omega)) (va_cwS 2 hts gL_act_L_below rfl rfl rfl (by decide +kernel) ⟨Nat.le_of_ble_eq_true rfl, Nat.le_of_ble_eq_true rfl⟩) trivial hK rfl hl.1 rfl (Nat.le_of_ble_eq_true rfl) dL_act_542 (Nat.zero_le _) (Nat.zero_le _) ?_
    have hbl542 := m_bl_in (m_sr (x) (2)) (n := ((1) + (m_bl (x) (60))) + (1)) (by omega)
    refine va_put (D := D) (ci := 8) (v := .int (iI (m_bl (m_sr (x) (2)) (((1) + (m_bl (x) (60))) + (1))))) (ty := .int) (C := RX6) (T := TX6) (N := 10) hx hb hts (fun w h => List.mem_cons_of_mem _ (List.mem_append_left _ (List.mem_append_left _ (List.mem_append_left _ (List.mem_append_left _ (List.mem_append_left _ (List.mem_append_left _ (List.mem_append_left _ (List.mem_append_left _ (List.mem_append_left _ (List.mem_append_left _ (List.mem_append_right _ h)))))))))))) tyX6 tyX6_ok nmX6 hown hK hP hD hS 0 rfl rfl 1 (by decide) (hts (.fieldLink RL 26 "AlmanacHouseLaw$Sim" "leaps" "I") (List.mem_of_getElem? (i := 16) rfl)) (fun _ h9 => h9) rfl (by decide +kernel) rfl rfl (Nat.le_of_ble_eq_true rfl) dL_act_545 (fun H locs hP hD hS => ?_)
    have hP : va_P D vwCl ([(z 0, .inr (8, [.int (iI ((1) + (m_bl (x) (60)))), .int (iI (m_bl (m_sr (x) (2)) (((1) + (m_bl (x) (60))) + (1)))), .int (iI (σ 2)), .int (iI (σ 3)), .int (iI (σ 4)), .int (iI (σ 5)), .ref (z 1), .ref (z 2), .int (iI (σ 9)), .int (iI (σ 10))])), (z 1, .inl (cL, (σ 6).toNat, .inr (.inr (.inr (.inr (fun j => if j < (σ 6).toNat then some (z (10 + j)) else none)))))), (z 2, .inl (cL, (σ 7).toNat, .inr (.inr (.inr (.inr (fun j => if j < (σ 7).toNat then some (z (20 + j)) else none))))))] ++ ((wZf cI z T (σ 6).toNat ++ wZs cI z P (σ 7).toNat) ++ WC cI cO g σ T P)) H := hP
    have hD : va_D (va_A (WC cI cO g σ T P ++ WZ cI cL z σ T P) sz) ([(z 0, .inr (8, [.int (iI ((1) + (m_bl (x) (60)))), .int (iI (m_bl (m_sr (x) (2)) (((1) + (m_bl (x) (60))) + (1)))), .int (iI (σ 2)), .int (iI (σ 3)), .int (iI (σ 4)), .int (iI (σ 5)), .ref (z 1), .ref (z 2), .int (iI (σ 9)), .int (iI (σ 10))])), (z 1, .inl (cL, (σ 6).toNat, .inr (.inr (.inr (.inr (fun j => if j < (σ 6).toNat then some (z (10 + j)) else none)))))), (z 2, .inl (cL, (σ 7).toNat, .inr (.inr (.inr (.inr (fun j => if j < (σ 7).toNat then some (z (20 + j)) else none))))))] ++ ((wZf cI z T (σ 6).toNat ++ wZs cI z P (σ 7).toNat) ++ WC cI cO g σ T P)) := hD
    refine lv_aload_n hx hb dL_act_548 rfl (lv_at hl 1 rfl) ?_
    refine lv_aload_n hx hb dL_act_549 rfl (lv_at hl 2 rfl) ?_
    refine q_get (ci := 8) (C := RX6) (T := TX6) (N := 10) hx hb hts hin_X6 hown hK (v := .int (iI ((1) + (m_bl (x) (60))))) (hP 0 _ rfl) rfl 0 (by decide) (hts (.fieldLink RL 22 "AlmanacHouseLaw$Sim" "cycle" "I") (List.mem_of_getElem? (i := 15) rfl)) (fun _ h9 => h9) rfl dL_act_550 ?_
    refine lv_aload_n hx hb dL_act_553 rfl (lv_at hl 2 rfl) ?_
    refine q_get (ci := 8) (C := RX6) (T := TX6) (N := 10) hx hb hts hin_X6 hown hK (v := .int (iI (m_bl (m_sr (x) (2)) (((1) + (m_bl (x) (60))) + (1))))) (hP 0 _ rfl) rfl 1 (by decide) (hts (.fieldLink RL 26 "AlmanacHouseLaw$Sim" "leaps" "I") (List.mem_of_getElem? (i := 16) rfl)) (fun _ h9 => h9) rfl dL_act_554 ?_
    obtain ⟨hP, hD⟩ := va_swap (w1 := [(z 0, .inr (8, [.int (iI ((1) + (m_bl (x) (60)))), .int (iI (m_bl (m_sr (x) (2)) (((1) + (m_bl (x) (60))) + (1)))), .int (iI (σ 2)), .int (iI (σ 3)), .int (iI (σ 4)), .int (iI (σ 5)), .ref (z 1), .ref (z 2), .int (iI (σ 9)), .int (iI (σ 10))])), (z 1, .inl (cL, (σ 6).toNat, .inr (.inr (.inr (.inr (fun j => if j < (σ 6).toNat then some (z (10 + j)) else none)))))), (z 2, .inl (cL, (σ 7).toNat, .inr (.inr (.inr (.inr (fun j => if j < (σ 7).toNat then some (z (20 + j)) else none))))))] ++ (wZf cI z T (σ 6).toNat ++ wZs cI z P (σ 7).toNat)) (w2 := WC cI cO g σ T P) (by exact hP) (by exact hD)
    refine q_callGp (fr := 0) (lo := 0) (nL := 11) (wc := WC cI cO g σ T P) (wr := [(z 0, .inr (8, [.int (iI ((1) + (m_bl (x) (60)))), .int (iI (m_bl (m_sr (x) (2)) (((1) + (m_bl (x) (60))) + (1)))), .int (iI (σ 2)), .int (iI (σ 3)), .int (iI (σ 4)), .int (iI (σ 5)), .ref (z 1), .ref (z 2), .int (iI (σ 9)), .int (iI (σ 10))])), (z 1, .inl (cL, (σ 6).toNat, .inr (.inr (.inr (.inr (fun j => if j < (σ 6).toNat then some (z (10 + j)) else none)))))), (z 2, .inl (cL, (σ 7).toNat, .inr (.inr (.inr (.inr (fun j => if j < (σ 7).toNat then some (z (20 + j)) else none))))))] ++ (wZf cI z T (σ 6).toNat ++ wZs cI z P (σ 7).toNat)) (As := [.int (iI ((1) + (m_bl (x) (60)))), .int (iI (m_bl (m_sr (x) (2)) (((1) + (m_bl (x) (60))) + (1))))]) (rest := []) ⟨hx, hb, hml, hown, hts⟩ (t_setLeaps l D _ ed cI cO cL g σ T P hW hSS he6 he7 ((1) + (m_bl (x) (60))) (m_bl (m_sr (x) (2)) (((1) + (m_bl (x) (60))) + (1))) (by omega) (by omega)) (cwV 2 hts gL_act_X5_setLeaps rfl rfl rfl (by decide +kernel) ⟨Nat.le_of_ble_eq_true rfl, Nat.le_of_ble_eq_true rfl⟩) (ho_rec hP hK) hP hD hS hA hK hE hT rfl hl.1 rfl (Nat.le_of_ble_eq_true rfl) dL_act_557 (Nat.le_of_ble_eq_true rfl) (Nat.le_of_ble_eq_true rfl) ?_
    intro u H locs hu hP hD hS
    obtain ⟨hP, hD⟩ := va_swap (w1 := WC cI cO u (st (st σ 0 ((1) + (m_bl (x) (60)))) 1 (m_bl (m_sr (x) (2)) (((1) + (m_bl (x) (60))) + (1)))) (T) (P)) (w2 := [(z 0, .inr (8, [.int (iI ((1) + (m_bl (x) (60)))), .int (iI (m_bl (m_sr (x) (2)) (((1) + (m_bl (x) (60))) + (1)))), .int (iI (σ 2)), .int (iI (σ 3)), .int (iI (σ 4)), .int (iI (σ 5)), .ref (z 1), .ref (z 2), .int (iI (σ 9)), .int (iI (σ 10))])), (z 1, .inl (cL, (σ 6).toNat, .inr (.inr (.inr (.inr (fun j => if j < (σ 6).toNat then some (z (10 + j)) else none)))))), (z 2, .inl (cL, (σ 7).toNat, .inr (.inr (.inr (.inr (fun j => if j < (σ 7).toNat then some (z (20 + j)) else none))))))] ++ (wZf cI z T (σ 6).toNat ++ wZs cI z P (σ 7).toNat)) (by exact hP) (by exact hD)
    have hP : va_P D vwCl ([(z 0, .inr (8, [.int (iI ((1) + (m_bl (x) (60)))), .int (iI (m_bl (m_sr (x) (2)) (((1) + (m_bl (x) (60))) + (1)))), .int (iI (σ 2)), .int (iI (σ 3)), .int (iI (σ 4)), .int (iI (σ 5)), .ref (z 1), .ref (z 2), .int (iI (σ 9)), .int (iI (σ 10))])), (z 1, .inl (cL, (σ 6).toNat, .inr (.inr (.inr (.inr (fun j => if j < (σ 6).toNat then some (z (10 + j)) else none)))))), (z 2, .inl (cL, (σ 7).toNat, .inr (.inr (.inr (.inr (fun j => if j < (σ 7).toNat then some (z (20 + j)) else none))))))] ++ ((wZf cI z T (σ 6).toNat ++ wZs cI z P (σ 7).toNat) ++ WC cI cO u (st (st σ 0 ((1) + (m_bl (x) (60)))) 1 (m_bl (m_sr (x) (2)) (((1) + (m_bl (x) (60))) + (1)))) (T) (P))) H := hP
    have hD : va_D (va_A (WC cI cO g σ T P ++ WZ cI cL z σ T P) sz) ([(z 0, .inr (8, [.int (iI ((1) + (m_bl (x) (60)))), .int (iI (m_bl (m_sr (x) (2)) (((1) + (m_bl (x) (60))) + (1)))), .int (iI (σ 2)), .int (iI (σ 3)), .int (iI (σ 4)), .int (iI (σ 5)), .ref (z 1), .ref (z 2), .int (iI (σ 9)), .int (iI (σ 10))])), (z 1, .inl (cL, (σ 6).toNat, .inr (.inr (.inr (.inr (fun j => if j < (σ 6).toNat then some (z (10 + j)) else none)))))), (z 2, .inl (cL, (σ 7).toNat, .inr (.inr (.inr (.inr (fun j => if j < (σ 7).toNat then some (z (20 + j)) else none))))))] ++ ((wZf cI z T (σ 6).toNat ++ wZs cI z P (σ 7).toNat) ++ WC cI cO u (st (st σ 0 ((1) + (m_bl (x) (60)))) 1 (m_bl (m_sr (x) (2)) (((1) + (m_bl (x) (60))) + (1)))) (T) (P))) := hD
    refine lv_iload hx hb dL_act_560 (lv_at hl 0 rfl) ?_
    refine q_icmp_ne (tgt := 569) hx hb dL_act_562 (by decide) (by omega) (by omega) (fun c_2 => ?_) (fun c_2 => ?_)
    · exfalso
      omega
    · skip
      refine q_iconst hx hb dL_act_565 ?_
      refine lv_goto (tgt := 570) hx hb dL_act_566 (by decide) ?_
      obtain ⟨hP, hD⟩ := va_swap (w1 := [(z 0, .inr (8, [.int (iI ((1) + (m_bl (x) (60)))), .int (iI (m_bl (m_sr (x) (2)) (((1) + (m_bl (x) (60))) + (1)))), .int (iI (σ 2)), .int (iI (σ 3)), .int (iI (σ 4)), .int (iI (σ 5)), .ref (z 1), .ref (z 2), .int (iI (σ 9)), .int (iI (σ 10))])), (z 1, .inl (cL, (σ 6).toNat, .inr (.inr (.inr (.inr (fun j => if j < (σ 6).toNat then some (z (10 + j)) else none)))))), (z 2, .inl (cL, (σ 7).toNat, .inr (.inr (.inr (.inr (fun j => if j < (σ 7).toNat then some (z (20 + j)) else none))))))] ++ (wZf cI z T (σ 6).toNat ++ wZs cI z P (σ 7).toNat)) (w2 := WC cI cO u (st (st σ 0 ((1) + (m_bl (x) (60)))) 1 (m_bl (m_sr (x) (2)) (((1) + (m_bl (x) (60))) + (1)))) (T) (P)) (by exact hP) (by exact hD)
      have hP : va_P D vwCl ([] ++ (WC cI cO u (st (st σ 0 ((1) + (m_bl (x) (60)))) 1 (m_bl (m_sr (x) (2)) (((1) + (m_bl (x) (60))) + (1)))) (T) (P) ++ WZ cI cL z (st (st σ 0 (1 + m_bl (x) (60))) 1 (m_bl (m_sr (x) (2)) (1 + m_bl (x) (60) + 1))) T P)) H := hP
      have hD : va_D (va_A (WC cI cO g σ T P ++ WZ cI cL z σ T P) sz) ([] ++ (WC cI cO u (st (st σ 0 ((1) + (m_bl (x) (60)))) 1 (m_bl (m_sr (x) (2)) (((1) + (m_bl (x) (60))) + (1)))) (T) (P) ++ WZ cI cL z (st (st σ 0 (1 + m_bl (x) (60))) 1 (m_bl (m_sr (x) (2)) (1 + m_bl (x) (60) + 1))) T P)) := hD
      exact q_gpzret (K := ActK g z ed σ T P x) (cells := 0) (slots := 0) (mc := 5) (ms := 60) (w1 := fun (u : AS) => WC cI cO u.1 u.2.2.1 u.2.2.2.1 u.2.2.2.2 ++ WZ cI cL u.2.1 u.2.2.1 u.2.2.2.1 u.2.2.2.2) ((u, z, st (st σ 0 (1 + m_bl (x) (60))) 1 (m_bl (m_sr (x) (2)) (1 + m_bl (x) (60) + 1)), T, P)) hx hb hr hlocks (Or.inr rfl) hS (rfl) (actK_set (by omega) (LW_leaps hLW (by omega) (by omega)) hu rfl (by show 0 ≤ σ 10 ∧ σ 10 ≤ σ 9 ∧ σ 9 ≤ σ 9 + 1; omega) rfl) (⟨hP, hD⟩) (by omega) (by omega) dL_act_570
set_option maxHeartbeats 4000000 in
set_option maxRecDepth 100000 in
theorem g_act7b (l : Launch) (D : va_G) (sz : Nat) (ed : Nat × Nat × Nat) (cI cO cL : ClassId) (g z : Nat → Nat) (σ T P : Nat → Int) (x : Int) (hLW : LW σ T P) (hx : -2147483648 ≤ x ∧ x < 2147483648) (he6 : σ 6 = 0 → g 6 = ed.1) (he7 : σ 7 = 0 → g 7 = ed.1) (hco : 0 ≤ σ 10 ∧ σ 10 ≤ σ 9 ∧ σ 9 ≤ 1000) (hc : m_bl (m_sr (x) (9)) (8) = 7) (hc2 : m_bl (m_sr (x) (4)) (2) ≠ 0) : MGp l yL_act wsL_act 6 139 5 60 D (ty3 cI cO cL) sz (WC cI cO g σ T P ++ WZ cI cL z σ T P) [.ref (g 0), .ref (z 0), .int (iI (x))] ed (1) (ActK g z ed σ T P x) (fun (u : AS) => WC cI cO u.1 u.2.2.1 u.2.2.2.1 u.2.2.2.2 ++ WZ cI cL u.2.1 u.2.2.1 u.2.2.2.1 u.2.2.2.2) := by
  refine MGp_of (cc := cL_act) (maxL := 11) (ret := (some .boolean)) (by decide) rfl (Nat.le_of_ble_eq_true rfl) ?_
  intro p e s m args below meth c ls hx hb hr hlocks hml hown hts hsz hP hK hD hS hA hin hE hT hl
  have hl : lv_has ls 11 [(0, .ref (g 0)), (1, .ref (z 0)), (2, .int (iI (x)))] := hl
  have hin_X6 : ∀ w ∈ u_ws RX6 TX6 10, w ∈ wsL_act := (fun w h => List.mem_cons_of_mem _ (List.mem_append_left _ (List.mem_append_left _ (List.mem_append_left _ (List.mem_append_left _ (List.mem_append_left _ (List.mem_append_left _ (List.mem_append_left _ (List.mem_append_left _ (List.mem_append_left _ (List.mem_append_left _ (List.mem_append_right _ h))))))))))))
  have hP : va_P D vwCl ([] ++ (WC cI cO g σ T P ++ WZ cI cL z σ T P)) s.heap := hP
  have hD : va_D (va_A (WC cI cO g σ T P ++ WZ cI cL z σ T P) sz) ([] ++ (WC cI cO g σ T P ++ WZ cI cL z σ T P)) := hD
  obtain ⟨hW, hSS, hp0⟩ := id hLW
  obtain ⟨w0, w1, w2, w3, w4, w5, w6, w7, w8⟩ := id hW
  have hPc : PicC D cI cO g σ T P s.heap := vaP_mems hP (fun q hq => List.mem_append_right _ (List.mem_append_left _ hq))
  have hPic : PicS D cI cL z σ T P s.heap := vaP_mems hP (fun q hq => List.mem_append_right _ (List.mem_append_right _ hq))
  refine lv_iload_n hx hb dL_act_0 rfl (lv_at hl 2 rfl) ?_
  refine q_bipush hx hb dL_act_1 (by decide) ?_
  refine q_ishr hx hb dL_act_3 ?_
  have hsr3 := m_sr_in (x) (9)
  refine q_bipush hx hb dL_act_4 (by decide) ?_
  refine q_callS (fr := 0) (lo := 0) (nL := 11) (Pic := fun _ => True) (As := [.int (iI (m_sr (x) (9))), .int (iI (8))]) (rest := []) ⟨hx, hb, hml, hown, hts⟩ (l_below l D (ty3 cI cO cL) (m_sr (x) (9)) (8) (by omega) (by omega)) (va_cwS 2 hts gL_act_L_below rfl rfl rfl (by decide +kernel) ⟨Nat.le_of_ble_eq_true rfl, Nat.le_of_ble_eq_true rfl⟩) trivial hK rfl hl.1 rfl (Nat.le_of_ble_eq_true rfl) dL_act_6 (Nat.zero_le _) (Nat.zero_le _) ?_
  have hbl6 := m_bl_in (m_sr (x) (9)) (n := 8) (by omega)
  refine q_tableOut (tgt := 495) hx hb dL_act_9 (by omega) (by omega) (by decide) ?_
  obtain ⟨hP, hD⟩ := va_swap (w1 := WC cI cO g σ T P) (w2 := WZ cI cL z σ T P) (by exact hP) (by exact hD)
  have hP : va_P D vwCl ([(z 0, .inr (8, [.int (iI (σ 0)), .int (iI (σ 1)), .int (iI (σ 2)), .int (iI (σ 3)), .int (iI (σ 4)), .int (iI (σ 5)), .ref (z 1), .ref (z 2), .int (iI (σ 9)), .int (iI (σ 10))])), (z 1, .inl (cL, (σ 6).toNat, .inr (.inr (.inr (.inr (fun j => if j < (σ 6).toNat then some (z (10 + j)) else none)))))), (z 2, .inl (cL, (σ 7).toNat, .inr (.inr (.inr (.inr (fun j => if j < (σ 7).toNat then some (z (20 + j)) else none))))))] ++ ((wZf cI z T (σ 6).toNat ++ wZs cI z P (σ 7).toNat) ++ WC cI cO g σ T P)) s.heap := hP
  have hD : va_D (va_A (WC cI cO g σ T P ++ WZ cI cL z σ T P) sz) ([(z 0, .inr (8, [.int (iI (σ 0)), .int (iI (σ 1)), .int (iI (σ 2)), .int (iI (σ 3)), .int (iI (σ 4)), .int (iI (σ 5)), .ref (z 1), .ref (z 2), .int (iI (σ 9)), .int (iI (σ 10))])), (z 1, .inl (cL, (σ 6).toNat, .inr (.inr (.inr (.inr (fun j => if j < (σ 6).toNat then some (z (10 + j)) else none)))))), (z 2, .inl (cL, (σ 7).toNat, .inr (.inr (.inr (.inr (fun j => if j < (σ 7).toNat then some (z (20 + j)) else none))))))] ++ ((wZf cI z T (σ 6).toNat ++ wZs cI z P (σ 7).toNat) ++ WC cI cO g σ T P)) := hD
  refine lv_iload_n hx hb dL_act_495 rfl (lv_at hl 2 rfl) ?_
  refine q_iconst hx hb dL_act_496 ?_
  refine q_ishr hx hb dL_act_497 ?_
  have hsr497 := m_sr_in (x) (4)
  refine q_iconst hx hb dL_act_498 ?_
  refine q_callS (fr := 0) (lo := 0) (nL := 11) (Pic := fun _ => True) (As := [.int (iI (m_sr (x) (4))), .int (iI (2))]) (rest := []) ⟨hx, hb, hml, hown, hts⟩ (l_below l D (ty3 cI cO cL) (m_sr (x) (4)) (2) (by omega) (by omega)) (va_cwS 2 hts gL_act_L_below rfl rfl rfl (by decide +kernel) ⟨Nat.le_of_ble_eq_true rfl, Nat.le_of_ble_eq_true rfl⟩) trivial hK rfl hl.1 rfl (Nat.le_of_ble_eq_true rfl) dL_act_499 (Nat.zero_le _) (Nat.zero_le _) ?_
  have hbl499 := m_bl_in (m_sr (x) (4)) (n := 2) (by omega)
  refine q_if_ne (tgt := 571) hx hb dL_act_502 (by decide) (by omega) (fun c_1 => ?_) (fun c_1 => ?_)
  · skip
    refine lv_aload_n hx hb dL_act_571 rfl (lv_at hl 1 rfl) ?_
    refine q_get (ci := 8) (C := RX6) (T := TX6) (N := 10) hx hb hts hin_X6 hown hK (v := .int (iI (σ 4))) (hP 0 _ rfl) rfl 4 (by decide) (hts (.fieldLink RL 46 "AlmanacHouseLaw$Sim" "period" "I") (List.mem_of_getElem? (i := 17) rfl)) (fun _ h9 => h9) rfl dL_act_572 ?_
    refine q_top (fun be0 ebe0 => ?_)
    refine lv_istore (lv' := [(10, .int (iI (be0))), (0, .ref (g 0)), (1, .ref (z 0)), (2, .int (iI (x)))]) hx hb dL_act_575 hl (by decide) rfl (fun ls hl => ?_)
    refine lv_aload_n hx hb dL_act_577 rfl (lv_at hl 2 rfl) ?_
    refine q_ldc (z := 100000) hx hb hown (hts (.constant RL 44 (100000)) (List.mem_of_getElem? (i := 18) rfl)) (by decide) dL_act_578 ?_
    refine lv_iload_n hx hb dL_act_580 rfl (lv_at hl 3 rfl) ?_
    refine q_ldc (z := 200001) hx hb hown (hts (.constant RL 45 (200001)) (List.mem_of_getElem? (i := 19) rfl)) (by decide) dL_act_581 ?_
    refine q_callS (fr := 0) (lo := 0) (nL := 11) (Pic := fun _ => True) (As := [.int (iI (x)), .int (iI (200001))]) (rest := [.int (iI (100000)), .ref (z 0)]) ⟨hx, hb, hml, hown, hts⟩ (l_below l D (ty3 cI cO cL) (x) (200001) (by omega) (by omega)) (va_cwS 2 hts gL_act_L_below rfl rfl rfl (by decide +kernel) ⟨Nat.le_of_ble_eq_true rfl, Nat.le_of_ble_eq_true rfl⟩) trivial hK rfl hl.1 rfl (Nat.le_of_ble_eq_true rfl) dL_act_583 (Nat.zero_le _) (Nat.zero_le _) ?_
    have hbl583 := m_bl_in (x) (n := 200001) (by omega)
    refine q_iadd hx hb dL_act_586 ?_
    refine va_put (D := D) (ci := 8) (v := .int (iI ((100000) + (m_bl (x) (200001))))) (ty := .int) (C := RX6) (T := TX6) (N := 10) hx hb hts (fun w h => List.mem_cons_of_mem _ (List.mem_append_left _ (List.mem_append_left _ (List.mem_append_left _ (List.mem_append_left _ (List.mem_append_left _ (List.mem_append_left _ (List.mem_append_left _ (List.mem_append_left _ (List.mem_append_left _ (List.mem_append_left _ (List.mem_append_right _ h)))))))))))) tyX6 tyX6_ok nmX6 hown hK hP hD hS 0 rfl rfl 4 (by decide) (hts (.fieldLink RL 46 "AlmanacHouseLaw$Sim" "period" "I") (List.mem_of_getElem? (i := 17) rfl)) (fun _ h9 => h9) rfl (by decide +kernel) rfl rfl (Nat.le_of_ble_eq_true rfl) dL_act_587 (fun H locs hP hD hS => ?_)
    have hP : va_P D vwCl ([(z 0, .inr (8, [.int (iI (σ 0)), .int (iI (σ 1)), .int (iI (σ 2)), .int (iI (σ 3)), .int (iI ((100000) + (m_bl (x) (200001)))), .int (iI (σ 5)), .ref (z 1), .ref (z 2), .int (iI (σ 9)), .int (iI (σ 10))])), (z 1, .inl (cL, (σ 6).toNat, .inr (.inr (.inr (.inr (fun j => if j < (σ 6).toNat then some (z (10 + j)) else none)))))), (z 2, .inl (cL, (σ 7).toNat, .inr (.inr (.inr (.inr (fun j => if j < (σ 7).toNat then some (z (20 + j)) else none))))))] ++ ((wZf cI z T (σ 6).toNat ++ wZs cI z P (σ 7).toNat) ++ WC cI cO g σ T P)) H := hP
    have hD : va_D (va_A (WC cI cO g σ T P ++ WZ cI cL z σ T P) sz) ([(z 0, .inr (8, [.int (iI (σ 0)), .int (iI (σ 1)), .int (iI (σ 2)), .int (iI (σ 3)), .int (iI ((100000) + (m_bl (x) (200001)))), .int (iI (σ 5)), .ref (z 1), .ref (z 2), .int (iI (σ 9)), .int (iI (σ 10))])), (z 1, .inl (cL, (σ 6).toNat, .inr (.inr (.inr (.inr (fun j => if j < (σ 6).toNat then some (z (10 + j)) else none)))))), (z 2, .inl (cL, (σ 7).toNat, .inr (.inr (.inr (.inr (fun j => if j < (σ 7).toNat then some (z (20 + j)) else none))))))] ++ ((wZf cI z T (σ 6).toNat ++ wZs cI z P (σ 7).toNat) ++ WC cI cO g σ T P)) := hD
    refine lv_aload_n hx hb dL_act_590 rfl (lv_at hl 2 rfl) ?_
    refine lv_iload_n hx hb dL_act_591 rfl (lv_at hl 3 rfl) ?_
    refine q_iconst hx hb dL_act_592 ?_
    refine q_ishr hx hb dL_act_593 ?_
    have hsr593 := m_sr_in (x) (2)
    refine q_ldc (z := 300000) hx hb hown (hts (.constant RL 49 (300000)) (List.mem_of_getElem? (i := 20) rfl)) (by decide) dL_act_594 ?_
    refine q_callS (fr := 0) (lo := 0) (nL := 11) (Pic := fun _ => True) (As := [.int (iI (m_sr (x) (2))), .int (iI (300000))]) (rest := [.ref (z 0)]) ⟨hx, hb, hml, hown, hts⟩ (l_below l D (ty3 cI cO cL) (m_sr (x) (2)) (300000) (by omega) (by omega)) (va_cwS 2 hts gL_act_L_below rfl rfl rfl (by decide +kernel) ⟨Nat.le_of_ble_eq_true rfl, Nat.le_of_ble_eq_true rfl⟩) trivial hK rfl hl.1 rfl (Nat.le_of_ble_eq_true rfl) dL_act_596 (Nat.zero_le _) (Nat.zero_le _) ?_
    have hbl596 := m_bl_in (m_sr (x) (2)) (n := 300000) (by omega)
    refine va_put (D := D) (ci := 8) (v := .int (iI (m_bl (m_sr (x) (2)) (300000)))) (ty := .int) (C := RX6) (T := TX6) (N := 10) hx hb hts (fun w h => List.mem_cons_of_mem _ (List.mem_append_left _ (List.mem_append_left _ (List.mem_append_left _ (List.mem_append_left _ (List.mem_append_left _ (List.mem_append_left _ (List.mem_append_left _ (List.mem_append_left _ (List.mem_append_left _ (List.mem_append_left _ (List.mem_append_right _ h)))))))))))) tyX6 tyX6_ok nmX6 hown hK hP hD hS 0 rfl rfl 5 (by decide) (hts (.fieldLink RL 50 "AlmanacHouseLaw$Sim" "node" "I") (List.mem_of_getElem? (i := 21) rfl)) (fun _ h9 => h9) rfl (by decide +kernel) rfl rfl (Nat.le_of_ble_eq_true rfl) dL_act_599 (fun H locs hP hD hS => ?_)
    have hP : va_P D vwCl ([(z 0, .inr (8, [.int (iI (σ 0)), .int (iI (σ 1)), .int (iI (σ 2)), .int (iI (σ 3)), .int (iI ((100000) + (m_bl (x) (200001)))), .int (iI (m_bl (m_sr (x) (2)) (300000))), .ref (z 1), .ref (z 2), .int (iI (σ 9)), .int (iI (σ 10))])), (z 1, .inl (cL, (σ 6).toNat, .inr (.inr (.inr (.inr (fun j => if j < (σ 6).toNat then some (z (10 + j)) else none)))))), (z 2, .inl (cL, (σ 7).toNat, .inr (.inr (.inr (.inr (fun j => if j < (σ 7).toNat then some (z (20 + j)) else none))))))] ++ ((wZf cI z T (σ 6).toNat ++ wZs cI z P (σ 7).toNat) ++ WC cI cO g σ T P)) H := hP
    have hD : va_D (va_A (WC cI cO g σ T P ++ WZ cI cL z σ T P) sz) ([(z 0, .inr (8, [.int (iI (σ 0)), .int (iI (σ 1)), .int (iI (σ 2)), .int (iI (σ 3)), .int (iI ((100000) + (m_bl (x) (200001)))), .int (iI (m_bl (m_sr (x) (2)) (300000))), .ref (z 1), .ref (z 2), .int (iI (σ 9)), .int (iI (σ 10))])), (z 1, .inl (cL, (σ 6).toNat, .inr (.inr (.inr (.inr (fun j => if j < (σ 6).toNat then some (z (10 + j)) else none)))))), (z 2, .inl (cL, (σ 7).toNat, .inr (.inr (.inr (.inr (fun j => if j < (σ 7).toNat then some (z (20 + j)) else none))))))] ++ ((wZf cI z T (σ 6).toNat ++ wZs cI z P (σ 7).toNat) ++ WC cI cO g σ T P)) := hD
    refine lv_aload_n hx hb dL_act_602 rfl (lv_at hl 1 rfl) ?_
    refine lv_aload_n hx hb dL_act_603 rfl (lv_at hl 2 rfl) ?_
    refine q_get (ci := 8) (C := RX6) (T := TX6) (N := 10) hx hb hts hin_X6 hown hK (v := .int (iI ((100000) + (m_bl (x) (200001))))) (hP 0 _ rfl) rfl 4 (by decide) (hts (.fieldLink RL 46 "AlmanacHouseLaw$Sim" "period" "I") (List.mem_of_getElem? (i := 17) rfl)) (fun _ h9 => h9) rfl dL_act_604 ?_
    refine lv_aload_n hx hb dL_act_607 rfl (lv_at hl 2 rfl) ?_
    refine q_get (ci := 8) (C := RX6) (T := TX6) (N := 10) hx hb hts hin_X6 hown hK (v := .int (iI (m_bl (m_sr (x) (2)) (300000)))) (hP 0 _ rfl) rfl 5 (by decide) (hts (.fieldLink RL 50 "AlmanacHouseLaw$Sim" "node" "I") (List.mem_of_getElem? (i := 21) rfl)) (fun _ h9 => h9) rfl dL_act_608 ?_
    obtain ⟨hP, hD⟩ := va_swap (w1 := [(z 0, .inr (8, [.int (iI (σ 0)), .int (iI (σ 1)), .int (iI (σ 2)), .int (iI (σ 3)), .int (iI ((100000) + (m_bl (x) (200001)))), .int (iI (m_bl (m_sr (x) (2)) (300000))), .ref (z 1), .ref (z 2), .int (iI (σ 9)), .int (iI (σ 10))])), (z 1, .inl (cL, (σ 6).toNat, .inr (.inr (.inr (.inr (fun j => if j < (σ 6).toNat then some (z (10 + j)) else none)))))), (z 2, .inl (cL, (σ 7).toNat, .inr (.inr (.inr (.inr (fun j => if j < (σ 7).toNat then some (z (20 + j)) else none))))))] ++ (wZf cI z T (σ 6).toNat ++ wZs cI z P (σ 7).toNat)) (w2 := WC cI cO g σ T P) (by exact hP) (by exact hD)
    refine q_callGp (fr := 0) (lo := 0) (nL := 11) (wc := WC cI cO g σ T P) (wr := [(z 0, .inr (8, [.int (iI (σ 0)), .int (iI (σ 1)), .int (iI (σ 2)), .int (iI (σ 3)), .int (iI ((100000) + (m_bl (x) (200001)))), .int (iI (m_bl (m_sr (x) (2)) (300000))), .ref (z 1), .ref (z 2), .int (iI (σ 9)), .int (iI (σ 10))])), (z 1, .inl (cL, (σ 6).toNat, .inr (.inr (.inr (.inr (fun j => if j < (σ 6).toNat then some (z (10 + j)) else none)))))), (z 2, .inl (cL, (σ 7).toNat, .inr (.inr (.inr (.inr (fun j => if j < (σ 7).toNat then some (z (20 + j)) else none))))))] ++ (wZf cI z T (σ 6).toNat ++ wZs cI z P (σ 7).toNat)) (As := [.int (iI ((100000) + (m_bl (x) (200001)))), .int (iI (m_bl (m_sr (x) (2)) (300000)))]) (rest := []) ⟨hx, hb, hml, hown, hts⟩ (t_setNodes l D _ ed cI cO cL g σ T P hW hSS he6 he7 ((100000) + (m_bl (x) (200001))) (m_bl (m_sr (x) (2)) (300000)) (by omega) (by omega)) (cwV 2 hts gL_act_X5_setNodes rfl rfl rfl (by decide +kernel) ⟨Nat.le_of_ble_eq_true rfl, Nat.le_of_ble_eq_true rfl⟩) (ho_rec hP hK) hP hD hS hA hK hE hT rfl hl.1 rfl (Nat.le_of_ble_eq_true rfl) dL_act_611 (Nat.le_of_ble_eq_true rfl) (Nat.le_of_ble_eq_true rfl) ?_
    intro u H locs hu hP hD hS
    obtain ⟨hP, hD⟩ := va_swap (w1 := WC cI cO u (st (st σ 4 ((100000) + (m_bl (x) (200001)))) 5 (m_bl (m_sr (x) (2)) (300000))) (T) (P)) (w2 := [(z 0, .inr (8, [.int (iI (σ 0)), .int (iI (σ 1)), .int (iI (σ 2)), .int (iI (σ 3)), .int (iI ((100000) + (m_bl (x) (200001)))), .int (iI (m_bl (m_sr (x) (2)) (300000))), .ref (z 1), .ref (z 2), .int (iI (σ 9)), .int (iI (σ 10))])), (z 1, .inl (cL, (σ 6).toNat, .inr (.inr (.inr (.inr (fun j => if j < (σ 6).toNat then some (z (10 + j)) else none)))))), (z 2, .inl (cL, (σ 7).toNat, .inr (.inr (.inr (.inr (fun j => if j < (σ 7).toNat then some (z (20 + j)) else none))))))] ++ (wZf cI z T (σ 6).toNat ++ wZs cI z P (σ 7).toNat)) (by exact hP) (by exact hD)
    have hP : va_P D vwCl ([(z 0, .inr (8, [.int (iI (σ 0)), .int (iI (σ 1)), .int (iI (σ 2)), .int (iI (σ 3)), .int (iI ((100000) + (m_bl (x) (200001)))), .int (iI (m_bl (m_sr (x) (2)) (300000))), .ref (z 1), .ref (z 2), .int (iI (σ 9)), .int (iI (σ 10))])), (z 1, .inl (cL, (σ 6).toNat, .inr (.inr (.inr (.inr (fun j => if j < (σ 6).toNat then some (z (10 + j)) else none)))))), (z 2, .inl (cL, (σ 7).toNat, .inr (.inr (.inr (.inr (fun j => if j < (σ 7).toNat then some (z (20 + j)) else none))))))] ++ ((wZf cI z T (σ 6).toNat ++ wZs cI z P (σ 7).toNat) ++ WC cI cO u (st (st σ 4 ((100000) + (m_bl (x) (200001)))) 5 (m_bl (m_sr (x) (2)) (300000))) (T) (P))) H := hP
    have hD : va_D (va_A (WC cI cO g σ T P ++ WZ cI cL z σ T P) sz) ([(z 0, .inr (8, [.int (iI (σ 0)), .int (iI (σ 1)), .int (iI (σ 2)), .int (iI (σ 3)), .int (iI ((100000) + (m_bl (x) (200001)))), .int (iI (m_bl (m_sr (x) (2)) (300000))), .ref (z 1), .ref (z 2), .int (iI (σ 9)), .int (iI (σ 10))])), (z 1, .inl (cL, (σ 6).toNat, .inr (.inr (.inr (.inr (fun j => if j < (σ 6).toNat then some (z (10 + j)) else none)))))), (z 2, .inl (cL, (σ 7).toNat, .inr (.inr (.inr (.inr (fun j => if j < (σ 7).toNat then some (z (20 + j)) else none))))))] ++ ((wZf cI z T (σ 6).toNat ++ wZs cI z P (σ 7).toNat) ++ WC cI cO u (st (st σ 4 ((100000) + (m_bl (x) (200001)))) 5 (m_bl (m_sr (x) (2)) (300000))) (T) (P))) := hD
    refine lv_iload hx hb dL_act_614 (lv_at hl 0 rfl) ?_
    refine q_icmp_ne (tgt := 623) hx hb dL_act_616 (by decide) (by omega) (by omega) (fun c_2 => ?_) (fun c_2 => ?_)
    · exfalso
      omega
    · skip
      refine q_iconst hx hb dL_act_619 ?_
      refine lv_goto (tgt := 624) hx hb dL_act_620 (by decide) ?_
      obtain ⟨hP, hD⟩ := va_swap (w1 := [(z 0, .inr (8, [.int (iI (σ 0)), .int (iI (σ 1)), .int (iI (σ 2)), .int (iI (σ 3)), .int (iI ((100000) + (m_bl (x) (200001)))), .int (iI (m_bl (m_sr (x) (2)) (300000))), .ref (z 1), .ref (z 2), .int (iI (σ 9)), .int (iI (σ 10))])), (z 1, .inl (cL, (σ 6).toNat, .inr (.inr (.inr (.inr (fun j => if j < (σ 6).toNat then some (z (10 + j)) else none)))))), (z 2, .inl (cL, (σ 7).toNat, .inr (.inr (.inr (.inr (fun j => if j < (σ 7).toNat then some (z (20 + j)) else none))))))] ++ (wZf cI z T (σ 6).toNat ++ wZs cI z P (σ 7).toNat)) (w2 := WC cI cO u (st (st σ 4 ((100000) + (m_bl (x) (200001)))) 5 (m_bl (m_sr (x) (2)) (300000))) (T) (P)) (by exact hP) (by exact hD)
      have hP : va_P D vwCl ([] ++ (WC cI cO u (st (st σ 4 ((100000) + (m_bl (x) (200001)))) 5 (m_bl (m_sr (x) (2)) (300000))) (T) (P) ++ WZ cI cL z (st (st σ 4 (100000 + m_bl (x) (200001))) 5 (m_bl (m_sr (x) (2)) (300000))) T P)) H := hP
      have hD : va_D (va_A (WC cI cO g σ T P ++ WZ cI cL z σ T P) sz) ([] ++ (WC cI cO u (st (st σ 4 ((100000) + (m_bl (x) (200001)))) 5 (m_bl (m_sr (x) (2)) (300000))) (T) (P) ++ WZ cI cL z (st (st σ 4 (100000 + m_bl (x) (200001))) 5 (m_bl (m_sr (x) (2)) (300000))) T P)) := hD
      exact q_gpzret (K := ActK g z ed σ T P x) (cells := 0) (slots := 0) (mc := 5) (ms := 60) (w1 := fun (u : AS) => WC cI cO u.1 u.2.2.1 u.2.2.2.1 u.2.2.2.2 ++ WZ cI cL u.2.1 u.2.2.1 u.2.2.2.1 u.2.2.2.2) ((u, z, st (st σ 4 (100000 + m_bl (x) (200001))) 5 (m_bl (m_sr (x) (2)) (300000)), T, P)) hx hb hr hlocks (Or.inr rfl) hS (rfl) (actK_set (by omega) (LW_nodes hLW (by omega) (by omega)) hu rfl (by show 0 ≤ σ 10 ∧ σ 10 ≤ σ 9 ∧ σ 9 ≤ σ 9 + 1; omega) rfl) (⟨hP, hD⟩) (by omega) (by omega) dL_act_624
  · exfalso
    omega
