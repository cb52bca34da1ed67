/-! ===== what holds of the settings all along the law ===== -/
def LW (σ T P : Nat → Int) : Prop := WF σ T ∧ WS σ P ∧ ∀ i : Nat, 11 * (σ 7).toNat ≤ i → P i = 0
/-- the settings of new objects -/
def σN : Nat → Int := fun k => if k = 0 then 4 else if k = 1 then 1 else if k = 2 then 29531 else if k = 4 then 173310 else 0
theorem LW_new : LW σN (fun _ => 0) (fun _ => 0) := by
  have h : ∀ k, σN k = if k = 0 then 4 else if k = 1 then 1 else if k = 2 then 29531 else if k = 4 then 173310 else 0 := fun _ => rfl
  have h0 := h 0
  have h1 := h 1
  have h2 := h 2
  have h3 := h 3
  have h4 := h 4
  have h5 := h 5
  have h6 := h 6
  have h7 := h 7
  simp at h0 h1 h2 h3 h4 h5 h6 h7
  refine ⟨⟨by omega, by omega, by omega, by omega, by omega, by omega, by omega, by omega, fun i hi => by omega⟩, fun j hj => by omega, fun _ _ => rfl⟩
/-- settings that differ in none of the numbers 6 and 7 -/
theorem LW_set {σ σ' T P : Nat → Int} (h : LW σ T P) (h0 : 1 ≤ σ' 0 ∧ σ' 0 ≤ 400) (h1 : 0 ≤ σ' 1 ∧ σ' 1 ≤ σ' 0) (h2 : 20000 ≤ σ' 2 ∧ σ' 2 ≤ 40000) (h3 : 0 ≤ σ' 3 ∧ σ' 3 ≤ 39999) (h4 : 100000 ≤ σ' 4 ∧ σ' 4 ≤ 300000) (h5 : 0 ≤ σ' 5 ∧ σ' 5 ≤ 299999) (h6 : σ' 6 = σ 6) (h7 : σ' 7 = σ 7) : LW σ' T P := by
  obtain ⟨⟨w0, w1, w2, w3, w4, w5, w6, w7, w8⟩, hS, hp⟩ := h
  refine ⟨⟨h0, h1, h2, h3, h4, h5, by omega, by omega, fun i hi => w8 i (by omega)⟩, fun j hj => ?_, fun i hi => hp i (by rw [← h7]; exact hi)⟩
  obtain ⟨a1, a2, a3, a4⟩ := hS j (by omega)
  exact ⟨a1, by omega, a3, a4⟩
theorem m_clamp_in (x : Int) : 20000 ≤ m_clamp x ∧ m_clamp x ≤ 40000 := by
  unfold m_clamp
  (repeat' split) <;> omega
theorem LW_leaps {σ T P : Nat → Int} (h : LW σ T P) {x y : Int} (hx : 1 ≤ x ∧ x ≤ 400) (hy : 0 ≤ y ∧ y ≤ x) : LW (st (st σ 0 x) 1 y) T P := by
  obtain ⟨w0, w1, w2, w3, w4, w5, w6, w7, w8⟩ := id h.1
  exact LW_set h hx hy w2 w3 w4 w5 rfl rfl
theorem LW_moon {σ T P : Nat → Int} (h : LW σ T P) {x y : Int} (hx : 20000 ≤ x ∧ x ≤ 40000) (hy : 0 ≤ y ∧ y ≤ 39999) : LW (st (st σ 2 x) 3 y) T P := by
  obtain ⟨w0, w1, w2, w3, w4, w5, w6, w7, w8⟩ := id h.1
  exact LW_set h w0 w1 hx hy w4 w5 rfl rfl
theorem LW_nodes {σ T P : Nat → Int} (h : LW σ T P) {x y : Int} (hx : 100000 ≤ x ∧ x ≤ 300000) (hy : 0 ≤ y ∧ y ≤ 299999) : LW (st (st σ 4 x) 5 y) T P := by
  obtain ⟨w0, w1, w2, w3, w4, w5, w6, w7, w8⟩ := id h.1
  exact LW_set h w0 w1 w2 w3 hx hy rfl rfl
theorem LW_obs {σ T P : Nat → Int} (h : LW σ T P) (d b : Int) : LW (m_obs σ d b) T P := by
  obtain ⟨w0, w1, w2, w3, w4, w5, w6, w7, w8⟩ := id h.1
  have h2 : 20000 ≤ m_obs σ d b 2 ∧ m_obs σ d b 2 ≤ 40000 := by
    unfold m_obs
    split
    · exact w2
    · rw [st_eq]
      exact m_clamp_in _
  refine LW_set h ?_ ?_ h2 ?_ ?_ ?_ (m_obs_at (by omega)) (m_obs_at (by omega))
  · rw [m_obs_at (by omega)]; exact w0
  · rw [m_obs_at (by omega), m_obs_at (by omega)]; exact w1
  · rw [m_obs_at (by omega)]; exact w3
  · rw [m_obs_at (by omega)]; exact w4
  · rw [m_obs_at (by omega)]; exact w5
theorem LW_feast {σ T P : Nat → Int} (h : LW σ T P) (h8 : σ 6 ≠ 8) {mo da mn wd of : Int} (a0 : 0 ≤ mo ∧ mo ≤ 11) (a1 : 0 ≤ da ∧ da ≤ 29) (a2 : 0 ≤ mn ∧ mn ≤ 3) (a3 : -1 ≤ wd ∧ wd ≤ 6) (a4 : -60 ≤ of ∧ of ≤ 60) : LW (st σ 6 (σ 6 + 1)) (m_tp T (σ 6).toNat mo da mn wd of) P := by
  obtain ⟨⟨w0, w1, w2, w3, w4, w5, w6, w7, w8⟩, hS, hp⟩ := h
  have e6 : st σ 6 (σ 6 + 1) 6 = σ 6 + 1 := st_eq _ _ _
  have e7 : st σ 6 (σ 6 + 1) 7 = σ 7 := st_ne (by omega)
  refine ⟨⟨w0, w1, w2, w3, w4, w5, by rw [e6]; omega, w7, fun i hi => ?_⟩, fun j hj => ?_, hp⟩
  · rw [e6] at hi
    by_cases hn : i = (σ 6).toNat
    · subst hn
      unfold m_tp
      refine ⟨?_, ?_, ?_, ?_, ?_⟩
      · rw [if_pos rfl]; exact a0
      · rw [if_neg (by omega), if_pos rfl]; exact a1
      · rw [if_neg (by omega), if_neg (by omega), if_pos rfl]; exact a2
      · rw [if_neg (by omega), if_neg (by omega), if_neg (by omega), if_pos rfl]; exact a3
      · rw [if_neg (by omega), if_neg (by omega), if_neg (by omega), if_neg (by omega), if_pos rfl]; exact a4
    · have ht : ∀ k, k < 5 → m_tp T (σ 6).toNat mo da mn wd of (5 * i + k) = T (5 * i + k) := by
        intro k hk
        unfold m_tp
        rw [if_neg (by omega), if_neg (by omega), if_neg (by omega), if_neg (by omega), if_neg (by omega)]
      have h0 := ht 0 (by omega)
      rw [Nat.add_zero] at h0
      rw [h0, ht 1 (by omega), ht 2 (by omega), ht 3 (by omega), ht 4 (by omega)]
      exact w8 i (by omega)
  · rw [e7] at hj
    obtain ⟨b1, b2, b3, b4⟩ := hS j hj
    exact ⟨b1, by rw [e6]; omega, b3, b4⟩
theorem LW_print {σ T P : Nat → Int} (h : LW σ T P) (h10 : σ 7 ≠ 10) {y : Int} (hy : 0 ≤ y ∧ y < 1000) : LW (st σ 7 (σ 7 + 1)) T (m_fl σ T P (11 * (σ 7).toNat) y (σ 6).toNat) := by
  obtain ⟨hW, hS, hp⟩ := h
  obtain ⟨w0, w1, w2, w3, w4, w5, w6, w7, w8⟩ := id hW
  have e6 : st σ 7 (σ 7 + 1) 6 = σ 6 := st_ne (by omega)
  have e7 : st σ 7 (σ 7 + 1) 7 = σ 7 + 1 := st_eq _ _ _
  have hE0 := m_Eb_in hW (y := y) (b := 0) (by omega)
  have hE1 := m_Eb_in hW (y := y) (b := 1) (by omega)
  have hE : m_E σ y = m_Eb σ y 0 + m_Eb σ y 1 := rfl
  refine ⟨⟨w0, w1, w2, w3, w4, w5, w6, by rw [e7]; omega, w8⟩, fun j hj => ?_, fun i hi => ?_⟩
  · rw [e7] at hj
    rw [e6]
    by_cases hn : j = (σ 7).toNat
    · subst hn
      obtain ⟨f0, f1, f2⟩ := m_fl_at (σ := σ) (T := T) (P := P) (b := 11 * (σ 7).toNat) (k := (σ 6).toNat) (y := y)
      refine ⟨by rw [f0]; omega, by rw [f1]; omega, by rw [f2]; omega, fun i hi => ?_⟩
      rw [m_fl_dy]
      unfold m_dy
      split
      · exact m_F_in hW (by omega) (by omega)
      · show -1000000 ≤ P (11 * (σ 7).toNat + 3 + i) ∧ P (11 * (σ 7).toNat + 3 + i) ≤ 1000000
        rw [hp (11 * (σ 7).toNat + 3 + i) (by omega)]
        omega
    · have key : ∀ u, u ≤ 10 → m_fl σ T P (11 * (σ 7).toNat) y (σ 6).toNat (11 * j + u) = P (11 * j + u) := fun u hu => m_fl_off (by omega) (by omega)
      obtain ⟨b1, b2, b3, b4⟩ := hS j (by omega)
      have k0 := key 0 (by omega)
      rw [Nat.add_zero] at k0
      refine ⟨by rw [k0]; exact b1, by rw [key 1 (by omega)]; exact b2, by rw [key 2 (by omega)]; exact b3, fun i hi => ?_⟩
      have k3 := key (3 + i) (by omega)
      rw [← Nat.add_assoc] at k3
      rw [k3]
      exact b4 i hi
  · rw [e7] at hi
    rw [m_fl_off (by omega) (by omega)]
    exact hp i (by omega)
theorem LW_reprint {σ T P : Nat → Int} (h : LW σ T P) {j : Int} (hj : 0 ≤ j ∧ j < σ 7) : LW σ T (m_fl σ T P (11 * j.toNat) (P (11 * j.toNat)) (σ 6).toNat) := by
  obtain ⟨hW, hS, hp⟩ := h
  obtain ⟨w0, w1, w2, w3, w4, w5, w6, w7, w8⟩ := id hW
  obtain ⟨b1, b2, b3, b4⟩ := hS j.toNat (by omega)
  refine ⟨hW, m_fl_WS hW hS b1 (by omega), fun i hi => ?_⟩
  rw [m_fl_off (by omega) (by omega)]
  exact hp i hi
