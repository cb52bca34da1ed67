/-! ===== what the law's act leaves ===== -/
abbrev AS : Type := (Nat → Nat) × (Nat → Nat) × (Nat → Int) × (Nat → Int) × (Nat → Int)
/-- the sheet that is printed anew -/
def act_is (x : Int) (σ : Nat → Int) (j : Nat) : Prop := m_bl (m_sr x 9) 8 = 4 ∧ 0 < σ 7 ∧ (j : Int) = m_bl (m_sr x 2) (σ 7)
def ActK (g z : Nat → Nat) (ed : Nat × Nat × Nat) (σ T P : Nat → Int) (x : Int) (u : AS) : Prop := LW u.2.2.1 u.2.2.2.1 u.2.2.2.2 ∧ (u.1 0 = g 0 ∧ u.2.1 0 = z 0) ∧ ((u.2.2.1 6 = 0 → u.1 6 = ed.1) ∧ (u.2.2.1 7 = 0 → u.1 7 = ed.1)) ∧ (0 ≤ u.2.2.1 10 ∧ u.2.2.1 10 ≤ u.2.2.1 9 ∧ u.2.2.1 9 ≤ σ 9 + 1) ∧ σ 7 ≤ u.2.2.1 7 ∧ (∀ j : Nat, (j : Int) < σ 7 → (act_is x σ j ∧ m_told u.2.2.1 u.2.2.2.1 u.2.2.2.2 j 3 = 0 ∧ m_told u.2.2.1 u.2.2.2.1 u.2.2.2.2 j 1 = u.2.2.1 6 ∧ m_told u.2.2.1 u.2.2.2.1 u.2.2.2.2 j 4 = 0) ∨ (¬ act_is x σ j ∧ ∀ i : Nat, i < 11 → u.2.2.2.2 (11 * j + i) = P (11 * j + i))) ∧ (σ 7 < u.2.2.1 7 → m_told u.2.2.1 u.2.2.2.1 u.2.2.2.2 (σ 7).toNat 3 = 0)
theorem actK_set {g z z' u : Nat → Nat} {ed : Nat × Nat × Nat} {σ T P σ' T' : Nat → Int} {x : Int} (hc : m_bl (m_sr x 9) 8 ≠ 4) (hL : LW σ' T' P) (hk : kT g ed σ' u) (hz : z' 0 = z 0) (hco : 0 ≤ σ' 10 ∧ σ' 10 ≤ σ' 9 ∧ σ' 9 ≤ σ 9 + 1) (h7 : σ' 7 = σ 7) : ActK g z ed σ T P x (u, z', σ', T', P) :=
  ⟨hL, ⟨hk.1, hz⟩, hk.2, hco, by show σ 7 ≤ σ' 7; omega, fun j hj => Or.inr ⟨fun h => hc h.1, fun i hi => rfl⟩, fun h => absurd h (by show ¬ σ 7 < σ' 7; omega)⟩
theorem actK_id {g z : Nat → Nat} {ed : Nat × Nat × Nat} {σ T P : Nat → Int} {x : Int} (hc : m_bl (m_sr x 9) 8 ≠ 4 ∨ σ 7 = 0) (hL : LW σ T P) (he6 : σ 6 = 0 → g 6 = ed.1) (he7 : σ 7 = 0 → g 7 = ed.1) (hco : 0 ≤ σ 10 ∧ σ 10 ≤ σ 9 ∧ σ 9 ≤ 1000) : ActK g z ed σ T P x (g, z, σ, T, P) :=
  ⟨hL, ⟨rfl, rfl⟩, ⟨he6, he7⟩, by show 0 ≤ σ 10 ∧ σ 10 ≤ σ 9 ∧ σ 9 ≤ σ 9 + 1; omega, Int.le_refl _, fun j hj => Or.inr ⟨fun h => hc.elim (fun q => q h.1) (fun q => by have := h.2.1; omega), fun i hi => rfl⟩, fun h => absurd h (Int.lt_irrefl _)⟩
theorem m_chg_0 {f dy : Nat → Int} : ∀ {n : Nat}, (∀ i, i < n → f i = dy i) → m_chg f dy n = 0
  | 0, _ => rfl
  | n + 1, h => by
    rw [m_chg, m_chg_0 (n := n) (fun i hi => h i (by omega)), if_pos (h n (by omega))]
    rfl
theorem m_fl_days {σ T P : Nat → Int} {b : Nat} {y : Int} : ∀ i : Nat, i < (σ 6).toNat → m_F σ T i y = m_fl σ T P b y (σ 6).toNat (b + 3 + i) := by
  intro i hi
  rw [m_fl_dy]
  unfold m_dy
  rw [if_pos hi]
/-- a sheet that is written now is right -/
theorem m_fl_right {σ T P : Nat → Int} {j : Nat} {y : Int} : m_told σ T (m_fl σ T P (11 * j) y (σ 6).toNat) j 3 = 0 ∧ m_told σ T (m_fl σ T P (11 * j) y (σ 6).toNat) j 1 = σ 6 ∧ m_told σ T (m_fl σ T P (11 * j) y (σ 6).toNat) j 4 = 0 := by
  obtain ⟨f0, f1, f2⟩ := m_fl_at (σ := σ) (T := T) (P := P) (b := 11 * j) (k := (σ 6).toNat) (y := y)
  have hc : m_chg (fun i => m_F σ T i y) (fun i => m_fl σ T P (11 * j) y (σ 6).toNat (11 * j + 3 + i)) (σ 6).toNat = 0 := m_chg_0 (fun i hi => m_fl_days i hi)
  have hs := m_sh_chg (fun i => m_F σ T i y) (fun i => m_fl σ T P (11 * j) y (σ 6).toNat (11 * j + 3 + i)) (σ 6).toNat
  refine ⟨?_, f1, ?_⟩
  · rw [m_told_3, f0, f1, f2]
    unfold m_wr
    rw [hc, if_neg (by omega)]
  · rw [m_told_4, f0, f1]
    omega
theorem actK_print {g z z' u : Nat → Nat} {ed : Nat × Nat × Nat} {σ T P : Nat → Int} {x y : Int} (hc : m_bl (m_sr x 9) 8 ≠ 4) (hL : LW σ T P) (hy : 0 ≤ y ∧ y < 1000) (h10 : σ 7 ≠ 10) (hk : kT g ed (st σ 7 (σ 7 + 1)) u) (hz : z' 0 = z 0) (hco : 0 ≤ σ 10 ∧ σ 10 ≤ σ 9 ∧ σ 9 ≤ 1000) : ActK g z ed σ T P x (u, z', st σ 7 (σ 7 + 1), T, m_fl σ T P (11 * (σ 7).toNat) y (σ 6).toNat) := by
  obtain ⟨w0, w1, w2, w3, w4, w5, w6, w7, w8⟩ := hL.1
  have h7 : st σ 7 (σ 7 + 1) 7 = σ 7 + 1 := st_eq _ _ _
  refine ⟨LW_print hL h10 hy, ⟨hk.1, hz⟩, hk.2, ?_, ?_, fun j hj => Or.inr ⟨fun h => hc h.1, fun i hi => ?_⟩, fun _ => ?_⟩
  · show 0 ≤ σ 10 ∧ σ 10 ≤ σ 9 ∧ σ 9 ≤ σ 9 + 1
    omega
  · show σ 7 ≤ st σ 7 (σ 7 + 1) 7
    omega
  · exact m_fl_off (by omega) (by omega)
  · exact (m_fl_right (σ := σ) (T := T) (P := P) (j := (σ 7).toNat) (y := y)).1
theorem actK_reprint {g z z' u : Nat → Nat} {ed : Nat × Nat × Nat} {σ T P : Nat → Int} {x j : Int} (hc : m_bl (m_sr x 9) 8 = 4) (h0 : 0 < σ 7) (hj : j = m_bl (m_sr x 2) (σ 7)) (hL : LW σ T P) (hk : kT g ed σ u) (hz : z' 0 = z 0) (hco : 0 ≤ σ 10 ∧ σ 10 ≤ σ 9 ∧ σ 9 ≤ 1000) : ActK g z ed σ T P x (u, z', σ, T, m_fl σ T P (11 * j.toNat) (P (11 * j.toNat)) (σ 6).toNat) := by
  obtain ⟨w0, w1, w2, w3, w4, w5, w6, w7, w8⟩ := hL.1
  have hb := m_bl_in (m_sr x 2) h0
  rw [← hj] at hb
  refine ⟨LW_reprint hL hb, ⟨hk.1, hz⟩, hk.2, ?_, Int.le_refl _, fun i hi => ?_, fun h => absurd h (Int.lt_irrefl _)⟩
  · show 0 ≤ σ 10 ∧ σ 10 ≤ σ 9 ∧ σ 9 ≤ σ 9 + 1
    omega
  · by_cases e : i = j.toNat
    · left
      subst e
      exact ⟨⟨hc, h0, by omega⟩, m_fl_right⟩
    · right
      exact ⟨fun h => e (by have := h.2.2; omega), fun k hk2 => m_fl_off (by omega) (by omega)⟩
theorem m_obs_co {σ : Nat → Int} {d b : Int} (hco : 0 ≤ σ 10 ∧ σ 10 ≤ σ 9 ∧ σ 9 ≤ 1000) : 0 ≤ m_obs σ d b 10 ∧ m_obs σ d b 10 ≤ m_obs σ d b 9 ∧ m_obs σ d b 9 ≤ σ 9 + 1 := by
  unfold m_obs
  split
  · show 0 ≤ σ 10 ∧ σ 10 ≤ σ 9 + 1 ∧ σ 9 + 1 ≤ σ 9 + 1
    omega
  · show 0 ≤ σ 10 + 1 ∧ σ 10 + 1 ≤ σ 9 + 1 ∧ σ 9 + 1 ≤ σ 9 + 1
    omega
theorem m_late_in {σ T : Nat → Int} (hW : WF σ T) {d b : Int} (hd : 0 ≤ d ∧ d ≤ 99999) : -2000000 ≤ m_late σ d b ∧ m_late σ d b ≤ 2000000 := by
  obtain ⟨w0, w1, w2, w3, -⟩ := hW
  have h1 := s_nt_in (ln := σ 2) (fi := σ 3) (b := b) (d := d) w2 w3 (by omega)
  have h2 := m_tm_in (ln := σ 2) (fi := σ 3) (b := b) (k := m_nt (σ 2) (σ 3) b d) w2 w3 h1.1
  unfold m_late
  omega
theorem z_frow (T : Nat → Int) (n : Nat) (mo da mn wd of : Int) : ∀ k, k < 5 → (st (st (st (st (st (fun _ => 0) (0) (mo)) (1) (da)) (2) (mn)) (3) (wd)) (4) (of)) k = m_tp T n mo da mn wd of (5 * n + k) := by
  intro k hk
  have h : k = 0 ∨ k = 1 ∨ k = 2 ∨ k = 3 ∨ k = 4 := by omega
  unfold m_tp
  rcases h with h | h | h | h | h <;> subst h
  · rw [if_pos (by omega)]; rfl
  · rw [if_neg (by omega), if_pos rfl]; rfl
  · rw [if_neg (by omega), if_neg (by omega), if_pos rfl]; rfl
  · rw [if_neg (by omega), if_neg (by omega), if_neg (by omega), if_pos rfl]; rfl
  · rw [if_neg (by omega), if_neg (by omega), if_neg (by omega), if_neg (by omega), if_pos rfl]; rfl
section QAC
variable {s : State} {H : Heap} {D : va_G} {cI cO cL : ClassId} {g z : Nat → Nat} {σ T P : Nat → Int} {wr : va_W} {tys : List (ClassId × FieldType)}
theorem ho_rec (hP : va_P D vwCl (WC cI cO g σ T P ++ wr) H) (hK : va_K D vwCl tys s) : ∃ cell : Cell, H[g 0]? = some cell ∧ cell.vm.isStatics = false ∧ s.vm.findClass RX5 = some cell.cls :=
  ob_recv (ci := 7) ((vaP_mems (ws' := WC cI cO g σ T P) hP (fun q hq => List.mem_append_left _ hq)) 0 _ rfl) hK rfl
theorem zo_rec (hP : va_P D vwCl (WZ cI cL z σ T P ++ wr) H) (hK : va_K D vwCl tys s) : ∃ cell : Cell, H[z 0]? = some cell ∧ cell.vm.isStatics = false ∧ s.vm.findClass RX6 = some cell.cls :=
  ob_recv (ci := 8) ((vaP_mems (ws' := WZ cI cL z σ T P) hP (fun q hq => List.mem_append_left _ hq)) 0 _ rfl) hK rfl
theorem va_swap {A : Nat → Prop} {w1 w2 : va_W} (hP : va_P D vwCl (w1 ++ w2) H) (hD : va_D A (w1 ++ w2)) : va_P D vwCl (w2 ++ w1) H ∧ va_D A (w2 ++ w1) := va_of_perm List.perm_append_comm hP hD
end QAC
