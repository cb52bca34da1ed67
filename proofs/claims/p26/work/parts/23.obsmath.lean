/-! ===== what an observation and a writing leave ===== -/
def m_late (σ : Nat → Int) (d b : Int) : Int := d - m_tm (σ 2) (σ 3) (m_nt (σ 2) (σ 3) b d) b / 1000
def m_clamp (x : Int) : Int := if 20000 < (if x < 40000 then x else 40000) then (if x < 40000 then x else 40000) else 20000
/-- the settings behind an observation -/
def m_obs (σ : Nat → Int) (d b : Int) : Nat → Int := if m_late σ d b = 0 ∨ (m_nt (σ 2) (σ 3) b d = 0 ∧ b = 0) then st σ 9 (σ 9 + 1) else st (st (st σ 9 (σ 9 + 1)) 10 (σ 10 + 1)) 2 (m_clamp (Int.tdiv (2 * (1000 * d + 500 - σ 3)) (2 * m_nt (σ 2) (σ 3) b d + b)))
theorem m_td2 (x k : Int) : (2 * x).tdiv (2 * k) = x.tdiv k := Int.mul_tdiv_mul_of_pos _ _ (by omega)
theorem m_tdr {x n : Int} (hx : -2000000000 < x ∧ x < 2000000000) (hn : 0 < n) : -2000000000 < x.tdiv n ∧ x.tdiv n < 2000000000 := by
  by_cases h : 0 ≤ x
  · rw [Int.tdiv_eq_ediv_of_nonneg h]
    have h1 := Int.ediv_nonneg h (show 0 ≤ n by omega)
    have h2 := Int.ediv_le_self n h
    omega
  · have h4 : x.tdiv n = -((-x).tdiv n) := by
      rw [Int.neg_tdiv, Int.neg_neg]
    have h5 : (-x).tdiv n = (-x) / n := Int.tdiv_eq_ediv_of_nonneg (by omega)
    have h1 := Int.ediv_nonneg (show 0 ≤ -x by omega) (show 0 ≤ n by omega)
    have h2 := Int.ediv_le_self n (show 0 ≤ -x by omega)
    rw [h4, h5]
    omega
theorem m_abs_pos (x : Int) : 0 < m_abs x ↔ x ≠ 0 := by
  unfold m_abs
  split <;> omega
/-- the paper when the first k days of the sheet at b are written -/
def m_fl (σ T P : Nat → Int) (b : Nat) (y : Int) (k : Nat) : Nat → Int := fun i => if i = b then y else if i = b + 1 then σ 6 else if i = b + 2 then m_E σ y else if b + 3 ≤ i ∧ i < b + 3 + k then m_F σ T (i - (b + 3)) y else P i
theorem m_fl_0 (σ T P : Nat → Int) (b : Nat) (y : Int) : st (st (st P b y) (b + 1) (σ 6)) (b + 2) (m_E σ y) = m_fl σ T P b y 0 := by
  funext i
  unfold st m_fl
  (repeat' split) <;> first | rfl | (exfalso; omega)
theorem m_fl_st (σ T P : Nat → Int) (b : Nat) (y : Int) (k : Nat) : st (m_fl σ T P b y k) (b + 3 + k) (m_F σ T k y) = m_fl σ T P b y (k + 1) := by
  funext i
  by_cases h : i = b + 3 + k
  · subst h
    rw [st_eq]
    unfold m_fl
    rw [if_neg (by omega), if_neg (by omega), if_neg (by omega), if_pos (by omega), show b + 3 + k - (b + 3) = k by omega]
  · rw [st_ne h]
    unfold m_fl
    (repeat' split) <;> first | rfl | (exfalso; omega)
theorem m_fl_step (σ T P : Nat → Int) (b : Nat) (y : Int) {k : Int} (h : 0 ≤ k) : st (m_fl σ T P b y k.toNat) (b + 3 + k.toNat) (m_F σ T k.toNat y) = m_fl σ T P b y (k + 1).toNat := by
  rw [show (k + 1).toNat = k.toNat + 1 by omega]
  exact m_fl_st σ T P b y k.toNat
theorem WS_put {σ P : Nat → Int} (h : WS σ P) {j u : Nat} {v : Int} (hu : u ≤ 10) (h0 : u = 0 → 0 ≤ v ∧ v ≤ 999) (h1 : u = 1 → 0 ≤ v ∧ v ≤ σ 6) (h2 : u = 2 → 0 ≤ v ∧ v ≤ 100000) (h3 : 3 ≤ u → -1000000 ≤ v ∧ v ≤ 1000000) : WS σ (st P (11 * j + u) v) := by
  intro jj hjj
  obtain ⟨a1, a2, a3, a4⟩ := h jj hjj
  have key : ∀ x, x ≤ 10 → st P (11 * j + u) v (11 * jj + x) = if jj = j ∧ x = u then v else P (11 * jj + x) := by
    intro x hx
    unfold st
    (repeat' split) <;> first | rfl | (exfalso; omega)
  have k0 := key 0 (by omega)
  rw [Nat.add_zero] at k0
  refine ⟨?_, ?_, ?_, fun i hi => ?_⟩
  · rw [k0]
    split
    · exact h0 (by omega)
    · exact a1
  · rw [key 1 (by omega)]
    split
    · exact h1 (by omega)
    · exact a2
  · rw [key 2 (by omega)]
    split
    · exact h2 (by omega)
    · exact a3
  · have k3 := key (3 + i) (by omega)
    rw [← Nat.add_assoc] at k3
    rw [k3]
    split
    · exact h3 (by omega)
    · exact a4 i hi
theorem m_fl_WS {σ T P : Nat → Int} (hW : WF σ T) (hS : WS σ P) {j k : Nat} {y : Int} (hy : 0 ≤ y ∧ y ≤ 999) (hk : (k : Int) ≤ σ 6) : WS σ (m_fl σ T P (11 * j) y k) := by
  have hE0 := m_Eb_in hW (y := y) (b := 0) hy
  have hE1 := m_Eb_in hW (y := y) (b := 1) hy
  have hE : m_E σ y = m_Eb σ y 0 + m_Eb σ y 1 := rfl
  obtain ⟨w0, w1, w2, w3, w4, w5, w6, w7, w8⟩ := id hW
  intro jj hjj
  obtain ⟨a1, a2, a3, a4⟩ := hS jj hjj
  by_cases h : jj = j
  · subst h
    refine ⟨?_, ?_, ?_, fun i hi => ?_⟩
    · unfold m_fl
      rw [if_pos rfl]
      exact hy
    · unfold m_fl
      rw [if_neg (by omega), if_pos rfl]
      omega
    · unfold m_fl
      rw [if_neg (by omega), if_neg (by omega), if_pos rfl]
      omega
    · unfold m_fl
      rw [if_neg (by omega), if_neg (by omega), if_neg (by omega)]
      split
      · exact m_F_in hW (by omega) hy
      · exact a4 i hi
  · have key : ∀ u, u ≤ 10 → m_fl σ T P (11 * j) y k (11 * jj + u) = P (11 * jj + u) := by
      intro u hu
      unfold m_fl
      rw [if_neg (by omega), if_neg (by omega), if_neg (by omega), if_neg (by omega)]
    have k0 := key 0 (by omega)
    rw [Nat.add_zero] at k0
    refine ⟨?_, ?_, ?_, fun i hi => ?_⟩
    · rw [k0]
      exact a1
    · rw [key 1 (by omega)]
      exact a2
    · rw [key 2 (by omega)]
      exact a3
    · have k3 := key (3 + i) (by omega)
      rw [← Nat.add_assoc] at k3
      rw [k3]
      exact a4 i hi
