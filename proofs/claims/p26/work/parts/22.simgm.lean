/-! ===== Sim: a printed row; bounds of the nearest moon ===== -/
def s_row (σ T : Nat → Int) (y : Int) (k : Nat) : Nat → Int := fun i => if i = 0 then y else if i = 1 then m_E σ y else if i < 2 + k then m_F σ T (i - 2) y else 0
theorem s_row_0 (σ T : Nat → Int) (y : Int) : st (st (fun _ => 0) (0) (y)) (1) (m_Eb σ (y) (1 - (1)) + m_Eb σ (y) (1 - (0))) = s_row σ T y (Int.toNat 0) := by
  funext i
  unfold s_row st m_E
  rw [show (1 : Int) - 1 = 0 by omega, show (1 : Int) - 0 = 1 by omega]
  by_cases h0 : i = 0
  · subst h0
    rw [if_neg (by omega), if_pos rfl, if_pos rfl]
  · by_cases h1 : i = 1
    · rw [if_pos h1, if_neg h0, if_pos h1]
    · rw [if_neg h1, if_neg h0, if_neg h0, if_neg h1, if_neg (by simp; omega)]
theorem s_row_st (σ T : Nat → Int) (y : Int) {k : Int} (h : 0 ≤ k) : st (s_row σ T y k.toNat) (2 + k.toNat) (m_F σ T k.toNat y) = s_row σ T y (k + 1).toNat := by
  funext i
  have e : (k + 1).toNat = k.toNat + 1 := by omega
  rw [e]
  by_cases hi : i = 2 + k.toNat
  · subst hi
    rw [st_eq]
    unfold s_row
    rw [if_neg (by omega), if_neg (by omega), if_pos (by omega), show 2 + k.toNat - 2 = k.toNat by omega]
  · rw [st_ne hi]
    unfold s_row
    (repeat' split) <;> first | rfl | (exfalso; omega)
theorem s_nt_in {ln fi b d : Int} (hL : 20000 ≤ ln ∧ ln ≤ 40000) (hF : 0 ≤ fi ∧ fi ≤ 39999) (hd : 0 ≤ d ∧ d ≤ 400000) : 0 ≤ m_nt ln fi b d ∧ m_nt ln fi b d ≤ 20010 := by
  have h0 := m_ff_in (ln := ln) (fi := fi) (b := b) (t := 1000 * d) hL
  have h1 := m_ff_up (ln := ln) (fi := fi) (b := b) (t := 1000 * d) hL hF (by omega)
  unfold m_nt
  (repeat' split) <;> omega
theorem s_best_in {ln fi b d i : Int} (hL : 20000 ≤ ln ∧ ln ≤ 40000) (hF : 0 ≤ fi ∧ fi ≤ 39999) (hd : 0 ≤ d ∧ d ≤ 99999) (hi : 0 ≤ i) : 0 ≤ s_best ln fi b d i ∧ (s_best ln fi b d i ≤ i ∨ s_best ln fi b d i ≤ 20010) := by
  have h := s_nt_in (ln := ln) (fi := fi) (b := b) (d := d) hL hF (by omega)
  unfold s_best
  split <;> omega
/-- a row of rows that is filled -/
theorem s_up_0 (z : Nat → Nat) (bs : Nat) : (fun _ => none : Nat → Option Nat) = fun j => if j < Int.toNat 0 then some (z (bs + j)) else none := by
  funext j
  rw [if_neg (by simp)]
theorem s_up_step (z : Nat → Nat) (bs : Nat) {k : Int} (h : 0 ≤ k) : va_up (fun j => if j < k.toNat then some (z (bs + j)) else none) (k.toNat) (some (z (bs + (k).toNat))) = fun j => if j < (k + 1).toNat then some (z (bs + j)) else none := by
  funext j
  show (if j = k.toNat then some (z (bs + (k).toNat)) else (if j < k.toNat then some (z (bs + j)) else none)) = _
  by_cases h1 : j = k.toNat
  · subst h1
    rw [if_pos rfl, if_pos (by omega)]
  · rw [if_neg h1]
    by_cases h2 : j < k.toNat
    · rw [if_pos h2, if_pos (by omega)]
    · rw [if_neg h2, if_neg (by omega)]
theorem s_up_end (z : Nat → Nat) (bs v : Nat) {k : Int} {n : Nat} (h : k.toNat = n) : va_up (fun j => if j < k.toNat then some (z (bs + j)) else none) (n) (some (v)) = fun j => if j < n then some (z (bs + j)) else if j = n then some v else none := by
  funext j
  show (if j = n then some v else (if j < k.toNat then some (z (bs + j)) else none)) = _
  rw [h]
  by_cases h1 : j = n
  · subst h1
    rw [if_pos rfl, if_neg (by omega), if_pos rfl]
  · rw [if_neg h1]
    by_cases h2 : j < n
    · rw [if_pos h2, if_pos h2]
    · rw [if_neg h2, if_neg h2, if_neg h1]
