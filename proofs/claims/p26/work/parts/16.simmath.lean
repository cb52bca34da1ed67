/-! ===== the law's own simulation: its numbers ===== -/
theorem s_leap (cy lq y : Int) : y * lq - y * lq / cy * cy = y * lq % cy := by
  rw [Int.emod_def, Int.mul_comm cy]
/-- a remainder, told by its quotient -/
theorem s_mod {u pe q : Int} (hpe : 0 < pe) (h1 : q * pe ≤ u) (h2 : u < q * pe + pe) : u % pe = u - q * pe := by
  have e : u = (u - q * pe) + q * pe := by omega
  have h := Int.add_mul_emod_self_right (u - q * pe) q pe
  rw [← e] at h
  rw [h]
  exact Int.emod_eq_of_lt (by omega) (by omega)
theorem s_mul1 (q pe : Int) : (q + 1) * pe = q * pe + pe := by rw [Int.add_mul, Int.one_mul]
theorem s_mulm (q pe : Int) : (q - 1) * pe = q * pe - pe := by rw [Int.sub_mul, Int.one_mul]
/-- a node near t -/
theorem s_en_of {pe nd t r k : Int} (hpe : 100000 ≤ pe) (hr : 0 ≤ r ∧ r ≤ 15000) (hk : 0 ≤ k) (h1 : t - (nd + k * pe) ≤ r) (h2 : -(t - (nd + k * pe)) ≤ r) : m_en pe nd t r = 1 := by
  have hkp : k = 0 ∨ pe ≤ k * pe := by
    by_cases h : k = 0
    · exact Or.inl h
    · right
      have h3 : 1 * pe ≤ k * pe := Int.mul_le_mul_of_nonneg_right (by omega) (by omega)
      omega
  unfold m_en
  by_cases h : t ≤ nd
  · rw [if_pos h]
    rcases hkp with h3 | h3
    · subst h3
      rw [if_pos (by omega)]
    · exact absurd h3 (by omega)
  · rw [if_neg h]
    by_cases h4 : k * pe ≤ t - nd
    · have h5 := s_mod (u := t - nd) (pe := pe) (q := k) (by omega) h4 (by omega)
      rw [if_pos (by omega)]
    · have hm := s_mulm k pe
      have h5 := s_mod (u := t - nd) (pe := pe) (q := k - 1) (by omega) (by omega) (by omega)
      rw [if_pos (by omega)]
/-- no node near t: three are looked at -/
theorem s_en_not {pe nd t r j : Int} (hpe : 100000 ≤ pe) (hr : 0 ≤ r ∧ r ≤ 15000) (hj : j = Int.tdiv (t - nd) pe) (h0 : 0 ≤ j → t - (nd + j * pe) ≤ r → -(t - (nd + j * pe)) ≤ r → False) (h1 : 0 ≤ j + 1 → t - (nd + (j + 1) * pe) ≤ r → -(t - (nd + (j + 1) * pe)) ≤ r → False) : m_en pe nd t r = 0 := by
  unfold m_en
  by_cases h : t ≤ nd
  · rw [if_pos h]
    by_cases h2 : nd - t ≤ r
    · exfalso
      have e : t - nd = -(nd - t) := by omega
      rw [e, Int.neg_tdiv, Int.tdiv_eq_zero_of_lt (by omega) (by omega)] at hj
      have hj0 : j = 0 := by omega
      subst hj0
      exact h0 (by omega) (by omega) (by omega)
    · rw [if_neg h2]
  · rw [if_neg h]
    rw [Int.tdiv_eq_ediv_of_nonneg (by omega)] at hj
    have hd := Int.emod_def (t - nd) pe
    have hc : pe * ((t - nd) / pe) = j * pe := by rw [hj, Int.mul_comm]
    rw [hc] at hd
    have hn := Int.emod_nonneg (t - nd) (show pe ≠ 0 by omega)
    have hl := Int.emod_lt_of_pos (t - nd) (show 0 < pe by omega)
    have hj0 : 0 ≤ j := by rw [hj]; exact Int.ediv_nonneg (by omega) (by omega)
    have hm := s_mul1 j pe
    rw [if_neg]
    intro g
    rcases g with g | g
    · exact h0 hj0 (by omega) (by omega)
    · exact h1 (by omega) (by omega) (by omega)
/-- where a search for moons about a day begins -/
def s_k0 (ln d : Int) : Int := if 0 < 1000 * d / ln - 3 then 1000 * d / ln - 3 else 0
theorem s_q {ln d : Int} (hL : 20000 ≤ ln ∧ ln ≤ 40000) (hd : 0 ≤ d ∧ d ≤ 400000) : 1000 * d / ln * ln ≤ 1000 * d ∧ 1000 * d < 1000 * d / ln * ln + ln ∧ 0 ≤ 1000 * d / ln ∧ 1000 * d / ln ≤ 20000 := by
  have h1 := Int.ediv_mul_le (1000 * d) (show ln ≠ 0 by omega)
  have h2 := Int.lt_ediv_add_one_mul_self (1000 * d) (show 0 < ln by omega)
  rw [Int.add_mul, Int.one_mul] at h2
  have h3 : 0 ≤ 1000 * d / ln := Int.ediv_nonneg (by omega) (by omega)
  have h4 : 1000 * d / ln * 20000 ≤ 1000 * d / ln * ln := Int.mul_le_mul_of_nonneg_left hL.1 h3
  omega
theorem s_k0_in {ln d : Int} (hL : 20000 ≤ ln ∧ ln ≤ 40000) (hd : 0 ≤ d ∧ d ≤ 400000) : 0 ≤ s_k0 ln d ∧ s_k0 ln d ≤ 20000 := by
  have h := s_q hL hd
  unfold s_k0
  split <;> omega
theorem s_k0_le {ln fi b d : Int} (hL : 20000 ≤ ln ∧ ln ≤ 40000) (hF : 0 ≤ fi ∧ fi ≤ 39999) (hd : 0 ≤ d ∧ d ≤ 400000) : s_k0 ln d ≤ m_ff ln fi b (1000 * d) := by
  have h := s_q hL hd
  have h0 := m_ff_in (ln := ln) (fi := fi) (b := b) (t := 1000 * d) hL
  have h1 := m_ff_tm (ln := ln) (fi := fi) (b := b) (t := 1000 * d) hL hF (by omega)
  have hh := m_hf_in (ln := ln) (b := b) hL
  unfold s_k0
  split
  · rename_i g
    by_cases hc : 1000 * d / ln - 3 ≤ m_ff ln fi b (1000 * d)
    · exact hc
    · exfalso
      have h2 : m_ff ln fi b (1000 * d) * ln ≤ (1000 * d / ln - 4) * ln := Int.mul_le_mul_of_nonneg_right (by omega) (by omega)
      have h3 : (1000 * d / ln - 4) * ln = 1000 * d / ln * ln - 4 * ln := Int.sub_mul _ _ _
      have h4 : m_tm ln fi (m_ff ln fi b (1000 * d)) b = fi + m_ff ln fi b (1000 * d) * ln + m_hf ln b := rfl
      omega
  · exact h0
theorem s_k0_up {ln fi b d u : Int} (hL : 20000 ≤ ln ∧ ln ≤ 40000) (hF : 0 ≤ fi ∧ fi ≤ 39999) (hd : 0 ≤ d ∧ d ≤ 400000) (hu : 0 ≤ u ∧ u ≤ 366) : m_ff ln fi b (1000 * (d + u)) ≤ s_k0 ln d + 25 := by
  have h := s_q hL hd
  have h0 := m_ff_in (ln := ln) (fi := fi) (b := b) (t := 1000 * (d + u)) hL
  have hh := m_hf_in (ln := ln) (b := b) hL
  have hk : 1000 * d / ln - 3 ≤ s_k0 ln d := by unfold s_k0; split <;> omega
  have hk0 := s_k0_in hL hd
  by_cases hc : m_ff ln fi b (1000 * (d + u)) ≤ s_k0 ln d + 25
  · exact hc
  · exfalso
    have h1 := (m_ff_lt (ln := ln) (fi := fi) (b := b) (t := 1000 * (d + u)) (k := m_ff ln fi b (1000 * (d + u)) - 1) hL (by omega)).mp (by omega)
    have h4 : m_tm ln fi (m_ff ln fi b (1000 * (d + u)) - 1) b = fi + (m_ff ln fi b (1000 * (d + u)) - 1) * ln + m_hf ln b := rfl
    have h2 : (1000 * d / ln + 22) * ln ≤ (m_ff ln fi b (1000 * (d + u)) - 1) * ln := Int.mul_le_mul_of_nonneg_right (by omega) (by omega)
    have h3 : (1000 * d / ln + 22) * ln = 1000 * d / ln * ln + 22 * ln := Int.add_mul _ _ _
    omega
/-- nine moons behind the first one that is looked at -/
theorem s_k0_up8 {ln fi b d : Int} (hL : 20000 ≤ ln ∧ ln ≤ 40000) (hF : 0 ≤ fi ∧ fi ≤ 39999) (hd : 0 ≤ d ∧ d ≤ 400000) : m_ff ln fi b (1000 * d) ≤ s_k0 ln d + 4 := by
  have h := s_q hL hd
  have h0 := m_ff_in (ln := ln) (fi := fi) (b := b) (t := 1000 * d) hL
  have hh := m_hf_in (ln := ln) (b := b) hL
  have hk : 1000 * d / ln - 3 ≤ s_k0 ln d := by unfold s_k0; split <;> omega
  have hk0 := s_k0_in hL hd
  by_cases hc : m_ff ln fi b (1000 * d) ≤ s_k0 ln d + 4
  · exact hc
  · exfalso
    have h1 := (m_ff_lt (ln := ln) (fi := fi) (b := b) (t := 1000 * d) (k := m_ff ln fi b (1000 * d) - 1) hL (by omega)).mp (by omega)
    have h4 : m_tm ln fi (m_ff ln fi b (1000 * d) - 1) b = fi + (m_ff ln fi b (1000 * d) - 1) * ln + m_hf ln b := rfl
    have h2 : (1000 * d / ln + 1) * ln ≤ (m_ff ln fi b (1000 * d) - 1) * ln := Int.mul_le_mul_of_nonneg_right (by omega) (by omega)
    have h3 : (1000 * d / ln + 1) * ln = 1000 * d / ln * ln + ln := by rw [Int.add_mul, Int.one_mul]
    omega
/-- a moon on the day d or later -/
theorem s_ge {ln fi b d k : Int} (hL : 20000 ≤ ln ∧ ln ≤ 40000) (hk : 0 ≤ k) : d ≤ m_tm ln fi k b / 1000 ↔ m_ff ln fi b (1000 * d) ≤ k := by
  have h := m_ff_lt (ln := ln) (fi := fi) (b := b) (t := 1000 * d) hL hk
  constructor
  · intro g
    have : ¬ k < m_ff ln fi b (1000 * d) := fun q => by have := h.mp q; omega
    omega
  · intro g
    have : ¬ m_tm ln fi k b < 1000 * d := fun q => by have := h.mpr q; omega
    omega
/-- x, held between A and B -/
def s_cl (A B x : Int) : Int := if x ≤ A then A else if x ≤ B then x else B
theorem s_cl_lo {A B x : Int} (h : x ≤ A) : s_cl A B x = A := if_pos h
theorem s_cl_hi {A B x : Int} (hAB : A ≤ B) (h : B ≤ x) : s_cl A B x = B := by
  unfold s_cl
  split
  · omega
  · split <;> omega
theorem s_ce_step {ln fi pe nd b A B x : Int} (hAB : A ≤ B) : m_ce ln fi pe nd b A (s_cl A B (x + 1) - A).toNat = m_ce ln fi pe nd b A (s_cl A B x - A).toNat + (if A ≤ x ∧ x < B then m_en pe nd (m_tm ln fi x b) (m_rc b) else 0) := by
  by_cases h : A ≤ x ∧ x < B
  · have e1 : s_cl A B x = x := by unfold s_cl; split <;> (try split) <;> omega
    have e2 : s_cl A B (x + 1) = x + 1 := by unfold s_cl; split <;> (try split) <;> omega
    rw [e1, e2, if_pos h]
    exact m_ce_step h.1
  · have e1 : s_cl A B (x + 1) = s_cl A B x := by unfold s_cl; (repeat' split) <;> omega
    rw [e1, if_neg h, Int.add_zero]
/-- the nearest moon, found downwards: what is best when i is looked at -/
def s_best (ln fi b d i : Int) : Int := if m_ff ln fi b (1000 * d) ≤ i then i else m_nt ln fi b d
theorem s_tm_next {ln fi k b : Int} (hL : 20000 ≤ ln ∧ ln ≤ 40000) : m_tm ln fi k b / 1000 + 19 ≤ m_tm ln fi (k + 1) b / 1000 := by
  have h := m_tm_succ ln fi k b
  omega
theorem s_tm_apart {ln fi k j b : Int} (hL : 20000 ≤ ln ∧ ln ≤ 40000) (h : k < j) : m_tm ln fi k b / 1000 + 19 ≤ m_tm ln fi j b / 1000 := by
  have h1 := m_tm_mono (ln := ln) (fi := fi) (b := b) hL (show k ≤ j by omega)
  omega
theorem m_abs_p {x : Int} (h : 0 ≤ x) : m_abs x = x := by
  unfold m_abs
  rw [if_pos h]
theorem m_abs_n {x : Int} (h : x ≤ 0) : m_abs x = -x := by
  unfold m_abs
  split <;> omega
/-- one step downwards: i is taken if it is as near as what was best -/
theorem s_best_step {ln fi b d i : Int} (hL : 20000 ≤ ln ∧ ln ≤ 40000) (hF : 0 ≤ fi ∧ fi ≤ 39999) (hd : 0 ≤ d ∧ d ≤ 400000) (hi : 0 ≤ i) : s_best ln fi b d i = if m_abs (m_tm ln fi i b / 1000 - d) ≤ m_abs (m_tm ln fi (s_best ln fi b d (i + 1)) b / 1000 - d) then i else s_best ln fi b d (i + 1) := by
  have hL0 := m_ff_in (ln := ln) (fi := fi) (b := b) (t := 1000 * d) hL
  have hge := s_ge (ln := ln) (fi := fi) (b := b) (d := d) hL hi
  have hge1 := s_ge (ln := ln) (fi := fi) (b := b) (d := d) (k := i + 1) hL (by omega)
  have hap := s_tm_next (ln := ln) (fi := fi) (b := b) (k := i) hL
  by_cases h : m_ff ln fi b (1000 * d) ≤ i
  · have e0 : s_best ln fi b d i = i := if_pos h
    have e1 : s_best ln fi b d (i + 1) = i + 1 := if_pos (by omega)
    have := hge.mpr h
    rw [e0, e1, m_abs_p (by omega), m_abs_p (by omega), if_pos (by omega)]
  · have e0 : s_best ln fi b d i = m_nt ln fi b d := if_neg h
    have hlt : ¬ d ≤ m_tm ln fi i b / 1000 := fun q => h (hge.mp q)
    rw [e0]
    by_cases h1 : m_ff ln fi b (1000 * d) ≤ i + 1
    · have e1 : s_best ln fi b d (i + 1) = i + 1 := if_pos h1
      have e : m_ff ln fi b (1000 * d) = i + 1 := by omega
      have := hge1.mpr h1
      rw [e1, m_abs_n (x := m_tm ln fi i b / 1000 - d) (by omega), m_abs_p (x := m_tm ln fi (i + 1) b / 1000 - d) (by omega)]
      have e2 : m_nt ln fi b d = if d - m_tm ln fi i b / 1000 ≤ m_tm ln fi (i + 1) b / 1000 - d then i else i + 1 := by
        unfold m_nt
        rw [if_neg (by omega), e, show i + 1 - 1 = i by omega]
      rw [e2]
      by_cases h2 : d - m_tm ln fi i b / 1000 ≤ m_tm ln fi (i + 1) b / 1000 - d
      · rw [if_pos h2, if_pos (show -(m_tm ln fi i b / 1000 - d) ≤ m_tm ln fi (i + 1) b / 1000 - d by omega)]
      · rw [if_neg h2, if_neg (show ¬ -(m_tm ln fi i b / 1000 - d) ≤ m_tm ln fi (i + 1) b / 1000 - d by omega)]
    · have e1 : s_best ln fi b d (i + 1) = m_nt ln fi b d := if_neg h1
      have hgL := s_ge (ln := ln) (fi := fi) (b := b) (d := d) (k := m_ff ln fi b (1000 * d)) hL hL0
      have hgM := s_ge (ln := ln) (fi := fi) (b := b) (d := d) (k := m_ff ln fi b (1000 * d) - 1) hL (by omega)
      have hd1 := hgL.mpr (Int.le_refl _)
      have hd2 : ¬ d ≤ m_tm ln fi (m_ff ln fi b (1000 * d) - 1) b / 1000 := fun q => by have := hgM.mp q; omega
      have hap2 := s_tm_apart (ln := ln) (fi := fi) (b := b) (k := i) (j := m_ff ln fi b (1000 * d) - 1) hL (by omega)
      rw [e1]
      have key : m_abs (m_tm ln fi (m_nt ln fi b d) b / 1000 - d) ≤ d - m_tm ln fi (m_ff ln fi b (1000 * d) - 1) b / 1000 := by
        unfold m_nt
        rw [if_neg (show ¬ m_ff ln fi b (1000 * d) = 0 by omega)]
        by_cases h2 : d - m_tm ln fi (m_ff ln fi b (1000 * d) - 1) b / 1000 ≤ m_tm ln fi (m_ff ln fi b (1000 * d)) b / 1000 - d
        · rw [if_pos h2, m_abs_n (by omega)]
          omega
        · rw [if_neg h2, m_abs_p (by omega)]
          omega
      rw [m_abs_n (x := m_tm ln fi i b / 1000 - d) (by omega), if_neg (by omega)]
theorem s_best_0 {ln fi b d i : Int} (h : m_ff ln fi b (1000 * d) ≤ i) : s_best ln fi b d i = i := if_pos h
theorem s_best_end {ln fi b d i : Int} (hi : i = 0 ∨ i ≤ m_ff ln fi b (1000 * d) - 1) (h0 : 0 ≤ m_ff ln fi b (1000 * d)) : s_best ln fi b d i = m_nt ln fi b d := by
  unfold s_best
  split
  · rename_i h
    unfold m_nt
    rw [if_pos (by omega)]
    omega
  · rfl
theorem s_j_in {pe nd t : Int} (hP : 100000 ≤ pe ∧ pe ≤ 300000) (hN : 0 ≤ nd ∧ nd ≤ 299999) (ht : 0 ≤ t ∧ t ≤ 2100000000) : -3 ≤ Int.tdiv (t - nd) pe ∧ Int.tdiv (t - nd) pe ≤ 21000 := by
  by_cases h : nd ≤ t
  · rw [Int.tdiv_eq_ediv_of_nonneg (by omega)]
    have h1 := Int.ediv_mul_le (t - nd) (show pe ≠ 0 by omega)
    have h2 : 0 ≤ (t - nd) / pe := Int.ediv_nonneg (by omega) (by omega)
    have h3 : (t - nd) / pe * 100000 ≤ (t - nd) / pe * pe := Int.mul_le_mul_of_nonneg_left hP.1 h2
    omega
  · have e : t - nd = -(nd - t) := by omega
    rw [e, Int.neg_tdiv, Int.tdiv_eq_ediv_of_nonneg (by omega)]
    have h1 := Int.ediv_mul_le (nd - t) (show pe ≠ 0 by omega)
    have h2 : 0 ≤ (nd - t) / pe := Int.ediv_nonneg (by omega) (by omega)
    have h3 : (nd - t) / pe * 100000 ≤ (nd - t) / pe * pe := Int.mul_le_mul_of_nonneg_left hP.1 h2
    omega
theorem s_kp {pe k : Int} (hP : 100000 ≤ pe ∧ pe ≤ 300000) (hk : -4 ≤ k ∧ k ≤ 21100) : -1200000 ≤ k * pe ∧ k * pe ≤ 6400000000 := by
  have h1 : (k + 4) * 100000 ≤ (k + 4) * pe := Int.mul_le_mul_of_nonneg_left hP.1 (by omega)
  have h2 : (k + 4) * pe ≤ (k + 4) * 300000 := Int.mul_le_mul_of_nonneg_left hP.2 (by omega)
  have h3 : (k + 4) * pe = k * pe + 4 * pe := Int.add_mul _ _ _
  omega
theorem r_ff_mono0 {ln fi b d u : Int} (hL : 20000 ≤ ln ∧ ln ≤ 40000) (h : d ≤ u) : m_ff ln fi b (1000 * d) ≤ m_ff ln fi b (1000 * u) := by
  have h0 := m_ff_in (ln := ln) (fi := fi) (b := b) (t := 1000 * u) hL
  have h1 := (s_ge (ln := ln) (fi := fi) (b := b) (d := u) (k := m_ff ln fi b (1000 * u)) hL h0).mpr (Int.le_refl _)
  exact (s_ge (ln := ln) (fi := fi) (b := b) (d := d) (k := m_ff ln fi b (1000 * u)) hL h0).mp (by omega)
