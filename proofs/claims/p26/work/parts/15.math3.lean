/-! ===== the reference's picture, and what its own ways of counting come to ===== -/
theorem m_y_next {cy lq d k : Int} (hk : 0 ≤ k ∧ k ≤ 999) (h1 : m_fd cy lq (k + 1) ≤ d) (h2 : d < m_fd cy lq 1000) : k + 1 ≤ 999 := by
  by_cases h : k = 999
  · subst h
    rw [show (999 + 1 : Int) = 1000 from rfl] at h1
    omega
  · omega
theorem m_tdiv_in {ln x : Int} (hL : 20000 ≤ ln ∧ ln ≤ 40000) (hx : -40000 < x ∧ x ≤ 400000000) : -2 ≤ x.tdiv ln ∧ x.tdiv ln ≤ 20000 ∧ (0 < x.tdiv ln → x.tdiv ln * ln ≤ x) := by
  by_cases h : 0 ≤ x
  · rw [Int.tdiv_eq_ediv_of_nonneg h]
    have h1 := Int.ediv_nonneg h (show 0 ≤ ln by omega)
    have h2 := Int.ediv_mul_le x (show ln ≠ 0 by omega)
    have h3 : x / ln * 20000 ≤ x / ln * ln := Int.mul_le_mul_of_nonneg_left hL.1 h1
    omega
  · have h4 : x.tdiv ln = -((-x).tdiv ln) := by
      rw [Int.neg_tdiv, Int.neg_neg]
    have h5 : (-x).tdiv ln = (-x) / ln := Int.tdiv_eq_ediv_of_nonneg (by omega)
    have h1 := Int.ediv_nonneg (show 0 ≤ -x by omega) (show 0 ≤ ln by omega)
    have h2 := Int.ediv_mul_le (-x) (show ln ≠ 0 by omega)
    have h3 : (-x) / ln * 20000 ≤ (-x) / ln * ln := Int.mul_le_mul_of_nonneg_left hL.1 h1
    rw [h4, h5]
    omega
/-- where the reference begins to look for a moon -/
theorem m_mf0 {ln fi b d : Int} (hL : 20000 ≤ ln ∧ ln ≤ 40000) (hF : 0 ≤ fi ∧ fi ≤ 39999) (hd : 0 ≤ d ∧ d ≤ 400000) (h0 : 0 < (1000 * d - fi).tdiv ln - 2) : (1000 * d - fi).tdiv ln - 2 ≤ m_ff ln fi b (1000 * d) := by
  obtain ⟨h1, h2, h3⟩ := m_tdiv_in (x := 1000 * d - fi) hL (by omega)
  have h4 := h3 (by omega)
  have h5 := m_hf_in (ln := ln) (b := b) hL
  generalize (1000 * d - fi).tdiv ln = z at *
  have h6 := (m_ff_lt (ln := ln) (fi := fi) (b := b) (t := 1000 * d) (k := z - 3) hL (by omega)).mpr (by
    unfold m_tm
    have h7 : (z - 3) * ln = z * ln - 3 * ln := by rw [Int.sub_mul]
    omega)
  omega
def m_dated (σ : Nat → Int) (d w : Int) : Int := if w = 0 then m_y (σ 0) (σ 1) d else if w = 1 then m_mo (σ 0) (σ 1) d else if w = 2 then m_dm (σ 0) (σ 1) d else if w = 3 then d % 7 else m_ds σ d
/-- what a sheet tells -/
def m_told (σ T P : Nat → Int) (j : Nat) (w : Int) : Int := if w = 0 then P (11 * j) else if w = 1 then P (11 * j + 1) else if w = 2 then P (11 * j + 2) else if w = 3 then m_wr σ T (P (11 * j)) (P (11 * j + 1)) (P (11 * j + 2)) (fun i => P (11 * j + 3 + i)) else m_sh (fun i => m_F σ T i (P (11 * j))) (fun i => P (11 * j + 3 + i)) (P (11 * j + 1)).toNat
def m_count (σ T P : Nat → Int) (w : Int) : Int := if w = 8 then m_wc σ T P (σ 7).toNat else σ w.toNat
theorem m_sh_chg (f dy : Nat → Int) : ∀ n : Nat, (0 ≤ m_sh f dy n ∧ (0 < m_sh f dy n ↔ 0 < m_chg f dy n))
  | 0 => by simp [m_sh, m_chg]
  | n + 1 => by
    obtain ⟨h1, h2⟩ := m_sh_chg f dy n
    have h3 := m_chg_in f dy n
    rw [m_sh, m_chg]
    have ha : (f n = dy n → m_abs (f n - dy n) = 0) ∧ (¬ f n = dy n → 0 < m_abs (f n - dy n)) := by
      unfold m_abs
      constructor
      · intro h; split <;> omega
      · intro h; split <;> omega
    by_cases h : f n = dy n
    · have e := ha.1 h
      rw [if_pos h, e, if_neg (by omega)]
      omega
    · have e := ha.2 h
      rw [if_neg h]
      split <;> omega
