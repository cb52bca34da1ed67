/-! ===== what the law says, of the numbers ===== -/
theorem r_day_y {cy lq y d : Int} (hc : 1 ≤ cy) (hq : 0 ≤ lq ∧ lq ≤ cy) (hy : 0 ≤ y ∧ y ≤ 999) (h1 : m_fd cy lq y ≤ d) (h2 : d < m_fd cy lq (y + 1)) : m_y cy lq d = y := (m_y_eq hc hq hy h1 h2).symm
/-- the last day of a year -/
theorem r_last {cy lq y : Int} (hc : 1 ≤ cy) (hq : 0 ≤ lq ∧ lq ≤ cy) (hy : 0 ≤ y ∧ y ≤ 999) : m_y cy lq (m_fd cy lq (y + 1) - 1) = y ∧ m_mo cy lq (m_fd cy lq (y + 1) - 1) = 11 ∧ m_dm cy lq (m_fd cy lq (y + 1) - 1) = 29 + m_leap cy lq y := by
  have hs := m_fd_succ (cy := cy) (lq := lq) (y := y) hc hq hy.1
  have hl := m_leap_01 cy lq y
  have e := r_day_y (d := m_fd cy lq (y + 1) - 1) hc hq hy (by omega) (by omega)
  have er : m_r cy lq (m_fd cy lq (y + 1) - 1) = 364 + m_leap cy lq y := by
    unfold m_r
    rw [e]
    omega
  refine ⟨e, ?_, ?_⟩
  · unfold m_mo
    rw [er]
    split <;> omega
  · unfold m_dm
    rw [er]
    split <;> omega
/-- a day goes to its date and back -/
theorem r_back {cy lq d : Int} (hc : 1 ≤ cy) (hq : 0 ≤ lq ∧ lq ≤ cy) (hd : 0 ≤ d ∧ d < m_fd cy lq 1000) : m_d0 cy lq (m_mo cy lq d) (m_dm cy lq d) (m_y cy lq d) = d ∧ m_dm cy lq d < m_md cy lq (m_y cy lq d) (m_mo cy lq d) := by
  have hr := m_r_in hc hq hd
  have hl := m_leap_01 cy lq (m_y cy lq d)
  have er : m_r cy lq d = d - m_fd cy lq (m_y cy lq d) := rfl
  constructor
  · unfold m_d0 m_mo m_dm
    split <;> omega
  · unfold m_md m_mo m_dm
    (repeat' split) <;> omega
/-- a moon on the day d -/
def r_im (ln fi b d : Int) : Int := if m_tm ln fi (m_ff ln fi b (1000 * d)) b / 1000 = d then 1 else 0
theorem r_ff {ln fi b d k : Int} (hL : 20000 ≤ ln ∧ ln ≤ 40000) (hk : 0 ≤ k) (h : m_tm ln fi k b / 1000 = d) : m_ff ln fi b (1000 * d) = k := by
  have h0 := m_ff_in (ln := ln) (fi := fi) (b := b) (t := 1000 * d) hL
  have h1 := (s_ge (ln := ln) (fi := fi) (b := b) (d := d) hL hk).mp (by omega)
  by_cases hz : k = 0
  · omega
  · have h2 := s_ge (ln := ln) (fi := fi) (b := b) (d := d) (k := k - 1) hL (by omega)
    have h3 := s_tm_next (ln := ln) (fi := fi) (b := b) (k := k - 1) hL
    rw [show k - 1 + 1 = k by omega] at h3
    have : ¬ m_ff ln fi b (1000 * d) ≤ k - 1 := fun q => by have := h2.mpr q; omega
    omega
theorem r_im_of {ln fi b d k : Int} (hL : 20000 ≤ ln ∧ ln ≤ 40000) (hk : 0 ≤ k) (h : m_tm ln fi k b / 1000 = d) : r_im ln fi b d = 1 := by
  unfold r_im
  rw [r_ff hL hk h, if_pos h]
/-- the first moon behind the day d -/
theorem r_ff1 {ln fi b d k : Int} (hL : 20000 ≤ ln ∧ ln ≤ 40000) (hk : 0 ≤ k) (h : m_tm ln fi k b / 1000 = d) : m_ff ln fi b (1000 * (d + 1)) = k + 1 := by
  have h1 := s_ge (ln := ln) (fi := fi) (b := b) (d := d + 1) (k := k + 1) hL (by omega)
  have h2 := s_ge (ln := ln) (fi := fi) (b := b) (d := d + 1) hL hk
  have h3 := s_tm_next (ln := ln) (fi := fi) (b := b) (k := k) hL
  have h4 := h1.mp (by omega)
  have : ¬ m_ff ln fi b (1000 * (d + 1)) ≤ k := fun q => by have := h2.mpr q; omega
  omega
/-- the latest new moon -/
theorem r_ds {σ T : Nat → Int} (hW : WF σ T) {d : Int} (hd : 0 ≤ d ∧ d ≤ 400000) : (-1 ≤ m_ds σ d ∧ m_ds σ d ≤ 40) ∧ (m_ds σ d = 0 ↔ r_im (σ 2) (σ 3) 0 d = 1) ∧ (0 < m_ds σ d → r_im (σ 2) (σ 3) 0 (d - m_ds σ d) = 1) ∧ (0 < m_ds σ d → m_ds σ d ≤ d) := by
  obtain ⟨-, -, hL, hF, -⟩ := hW
  have h0 := m_ff_in (ln := σ 2) (fi := σ 3) (b := 0) (t := 1000 * (d + 1)) hL
  unfold m_ds
  by_cases h : m_ff (σ 2) (σ 3) 0 (1000 * (d + 1)) = 0
  · rw [if_pos h]
    refine ⟨by omega, ⟨fun g => by omega, fun g => ?_⟩, fun g => by omega, fun g => by omega⟩
    exfalso
    unfold r_im at g
    split at g
    · rename_i e
      have := r_ff1 hL (m_ff_in (ln := σ 2) (fi := σ 3) (b := 0) (t := 1000 * d) hL) e
      have := m_ff_in (ln := σ 2) (fi := σ 3) (b := 0) (t := 1000 * d) hL
      omega
    · omega
  · rw [if_neg h]
    obtain ⟨K, hK⟩ : ∃ K : Int, K = m_ff (σ 2) (σ 3) 0 (1000 * (d + 1)) := ⟨_, rfl⟩
    rw [← hK] at h h0 ⊢
    have h1 := s_ge (ln := σ 2) (fi := σ 3) (b := 0) (d := d + 1) (k := K - 1) hL (by omega)
    have h2 := (s_ge (ln := σ 2) (fi := σ 3) (b := 0) (d := d + 1) (k := K) hL (by omega)).mpr (by omega)
    have h3 : ¬ d + 1 ≤ m_tm (σ 2) (σ 3) (K - 1) 0 / 1000 := fun q => by have := h1.mp q; omega
    have h4 := m_tm_succ (σ 2) (σ 3) (K - 1) 0
    rw [show K - 1 + 1 = K by omega] at h4
    have h5 := m_tm_in (ln := σ 2) (fi := σ 3) (b := 0) (k := K - 1) hL hF (by omega)
    refine ⟨by omega, ⟨fun g => r_im_of hL (show 0 ≤ K - 1 by omega) (by omega), fun g => ?_⟩, fun g => r_im_of hL (show 0 ≤ K - 1 by omega) (by omega), fun g => by omega⟩
    unfold r_im at g
    split at g
    · rename_i e
      have h6 := r_ff1 hL (m_ff_in (ln := σ 2) (fi := σ 3) (b := 0) (t := 1000 * d) hL) e
      have e2 : K - 1 = m_ff (σ 2) (σ 3) 0 (1000 * d) := by omega
      rw [e2]
      omega
    · omega
/-- a feast without its offset -/
theorem r_feast {cy lq ln fi mo da mn wd of y : Int} (hL : 20000 ≤ ln ∧ ln ≤ 40000) (hw : -1 ≤ wd ∧ wd ≤ 6) : (0 ≤ wd → (m_fday cy lq ln fi mo da mn wd of y - of) % 7 = wd) ∧ (wd < 0 → 0 < mn → r_im ln fi 1 (m_fday cy lq ln fi mo da mn wd of y - of) = 1) := by
  unfold m_fday
  constructor
  · intro h
    unfold m_d2
    rw [if_pos h]
    omega
  · intro h1 h2
    unfold m_d2
    rw [if_neg (by omega)]
    unfold m_d1
    rw [if_pos (by omega)]
    have h0 := m_ff_in (ln := ln) (fi := fi) (b := 1) (t := 1000 * m_d0 cy lq mo da y) hL
    refine r_im_of hL (k := m_ff ln fi 1 (1000 * m_d0 cy lq mo da y) + mn - 1) (by omega) (by omega)
/-- a year in which a feast comes back -/
theorem r_ag {σ T : Nat → Int} {i : Nat} {bh : Int} : ∀ (n : Nat) (k : Int), m_ag σ T i bh n k = -1 ∨ (k ≤ m_ag σ T i bh n k ∧ m_ag σ T i bh n k < k + n ∧ m_F σ T i (m_ag σ T i bh n k) - m_fd (σ 0) (σ 1) (m_ag σ T i bh n k) = bh)
  | 0, _ => Or.inl rfl
  | n + 1, k => by
    rw [m_ag]
    by_cases h : m_F σ T i k - m_fd (σ 0) (σ 1) k = bh
    · rw [if_pos h]
      exact Or.inr ⟨by omega, by omega, h⟩
    · rw [if_neg h]
      rcases r_ag n (k + 1) with h1 | ⟨h1, h2, h3⟩
      · exact Or.inl h1
      · exact Or.inr ⟨by omega, by omega, h3⟩
theorem r_again {σ T : Nat → Int} {i : Nat} {y : Int} (hy : 0 ≤ y ∧ y < 500) : m_again σ T i y = -1 ∨ (y < m_again σ T i y ∧ m_again σ T i y ≤ y + 100 ∧ m_F σ T i (m_again σ T i y) - m_fd (σ 0) (σ 1) (m_again σ T i y) = m_F σ T i y - m_fd (σ 0) (σ 1) y) := by
  unfold m_again
  rw [if_pos (by omega)]
  rcases r_ag (σ := σ) (T := T) (i := i) (bh := m_F σ T i y - m_fd (σ 0) (σ 1) y) (y + 101 - (y + 1)).toNat (y + 1) with h | ⟨h1, h2, h3⟩
  · exact Or.inl h
  · exact Or.inr ⟨by omega, by omega, h3⟩
/-- eclipses among n moons, then m -/
theorem r_ce_add (ln fi pe nd b k : Int) (n : Nat) : ∀ m : Nat, m_ce ln fi pe nd b k (n + m) = m_ce ln fi pe nd b k n + m_ce ln fi pe nd b (k + n) m
  | 0 => by
    show m_ce ln fi pe nd b k n = m_ce ln fi pe nd b k n + 0
    omega
  | m + 1 => by
    show m_ce ln fi pe nd b k (n + m) + m_en pe nd (m_tm ln fi (k + (n + m : Nat)) b) (m_rc b) = m_ce ln fi pe nd b k n + (m_ce ln fi pe nd b (k + n) m + m_en pe nd (m_tm ln fi (k + n + m) b) (m_rc b))
    rw [r_ce_add ln fi pe nd b k n m, show k + ((n + m : Nat) : Int) = k + n + m by omega]
    omega
theorem r_ce_0 {ln fi pe nd b k : Int} : ∀ n : Nat, (∀ j : Nat, j < n → m_en pe nd (m_tm ln fi (k + j) b) (m_rc b) = 0) → m_ce ln fi pe nd b k n = 0
  | 0, _ => rfl
  | n + 1, h => by
    show m_ce ln fi pe nd b k n + m_en pe nd (m_tm ln fi (k + n) b) (m_rc b) = 0
    rw [r_ce_0 n (fun j hj => h j (by omega)), h n (by omega)]
    omega
/-- the first eclipse among n moons: none, or the j-th -/
theorem r_fe {ln fi pe nd b : Int} : ∀ (n : Nat) (k : Int), (m_fe ln fi pe nd b n k = -1 ∧ ∀ j : Nat, j < n → m_en pe nd (m_tm ln fi (k + j) b) (m_rc b) = 0) ∨ ∃ i : Nat, i < n ∧ m_fe ln fi pe nd b n k = m_tm ln fi (k + i) b / 1000 ∧ m_en pe nd (m_tm ln fi (k + i) b) (m_rc b) = 1 ∧ ∀ j : Nat, j < i → m_en pe nd (m_tm ln fi (k + j) b) (m_rc b) = 0
  | 0, _ => Or.inl ⟨rfl, fun j hj => absurd hj (Nat.not_lt_zero j)⟩
  | n + 1, k => by
    rw [m_fe]
    by_cases h : m_en pe nd (m_tm ln fi k b) (m_rc b) = 1
    · rw [if_pos h]
      refine Or.inr ⟨0, by omega, ?_, ?_, fun j hj => absurd hj (Nat.not_lt_zero j)⟩
      · rw [show k + ((0 : Nat) : Int) = k by omega]
      · rw [show k + ((0 : Nat) : Int) = k by omega]; exact h
    · rw [if_neg h]
      have h0 : m_en pe nd (m_tm ln fi k b) (m_rc b) = 0 := by
        rcases m_en_01 pe nd (m_tm ln fi k b) (m_rc b) with g | g
        · exact g
        · exact absurd g h
      have hs : ∀ j : Nat, m_en pe nd (m_tm ln fi (k + ((j + 1 : Nat) : Int)) b) (m_rc b) = m_en pe nd (m_tm ln fi (k + 1 + (j : Int)) b) (m_rc b) := fun j => by rw [show k + ((j + 1 : Nat) : Int) = k + 1 + (j : Int) by omega]
      have hz : m_en pe nd (m_tm ln fi (k + ((0 : Nat) : Int)) b) (m_rc b) = 0 := by rw [show k + ((0 : Nat) : Int) = k by omega]; exact h0
      rcases r_fe n (k + 1) with ⟨h1, h2⟩ | ⟨i, h1, h2, h3, h4⟩
      · refine Or.inl ⟨h1, fun j hj => ?_⟩
        cases j with
        | zero => exact hz
        | succ j => rw [hs]; exact h2 j (by omega)
      · refine Or.inr ⟨i + 1, by omega, ?_, ?_, fun j hj => ?_⟩
        · rw [h2, show k + 1 + (i : Int) = k + ((i + 1 : Nat) : Int) by omega]
        · rw [hs]; exact h3
        · cases j with
          | zero => exact hz
          | succ j => rw [hs]; exact h4 j (by omega)
/-- the eclipses of a kind from the day d on, ahead of the day u -/
def r_c (σ : Nat → Int) (b d u : Int) : Int := m_ce (σ 2) (σ 3) (σ 4) (σ 5) b (m_ff (σ 2) (σ 3) b (1000 * d)) (m_ff (σ 2) (σ 3) b (1000 * u) - m_ff (σ 2) (σ 3) b (1000 * d)).toNat
theorem r_c_year (σ : Nat → Int) (y b : Int) : m_Eb σ y b = r_c σ b (m_fd (σ 0) (σ 1) y) (m_fd (σ 0) (σ 1) (y + 1)) := rfl
theorem r_c_in (σ : Nat → Int) (b d u : Int) : 0 ≤ r_c σ b d u := (m_ce_in _ _ _ _ _ _ _).1
theorem r_ff_mono {ln fi b d u : Int} (hL : 20000 ≤ ln ∧ ln ≤ 40000) (h : d ≤ u) : m_ff ln fi b (1000 * d) ≤ m_ff ln fi b (1000 * u) := by
  have h0 := m_ff_in (ln := ln) (fi := fi) (b := b) (t := 1000 * u) hL
  have h1 := (s_ge (ln := ln) (fi := fi) (b := b) (d := u) (k := m_ff ln fi b (1000 * u)) hL h0).mpr (Int.le_refl _)
  exact (s_ge (ln := ln) (fi := fi) (b := b) (d := d) (k := m_ff ln fi b (1000 * u)) hL h0).mp (by omega)
theorem r_c_self (σ : Nat → Int) (b d : Int) : r_c σ b d d = 0 := by
  unfold r_c
  rw [Int.sub_self]
  rfl
/-- .. first ahead of the day v, then from there on -/
theorem r_c_add {σ T : Nat → Int} (hW : WF σ T) {b d v u : Int} (h1 : d ≤ v) (h2 : v ≤ u) : r_c σ b d u = r_c σ b d v + r_c σ b v u := by
  obtain ⟨-, -, hL, -⟩ := hW
  have g1 := r_ff_mono (ln := σ 2) (fi := σ 3) (b := b) hL h1
  have g2 := r_ff_mono (ln := σ 2) (fi := σ 3) (b := b) hL h2
  have h := r_ce_add (σ 2) (σ 3) (σ 4) (σ 5) b (m_ff (σ 2) (σ 3) b (1000 * d)) (m_ff (σ 2) (σ 3) b (1000 * v) - m_ff (σ 2) (σ 3) b (1000 * d)).toNat (m_ff (σ 2) (σ 3) b (1000 * u) - m_ff (σ 2) (σ 3) b (1000 * v)).toNat
  unfold r_c
  rw [show (m_ff (σ 2) (σ 3) b (1000 * u) - m_ff (σ 2) (σ 3) b (1000 * d)).toNat = (m_ff (σ 2) (σ 3) b (1000 * v) - m_ff (σ 2) (σ 3) b (1000 * d)).toNat + (m_ff (σ 2) (σ 3) b (1000 * u) - m_ff (σ 2) (σ 3) b (1000 * v)).toNat by omega, h]
  congr 2
  omega
/-- the next eclipse of a kind: none within 3000 days; or on a day of its own -/
theorem r_N1 {σ T : Nat → Int} (hW : WF σ T) {d b : Int} (hd : 0 ≤ d ∧ d ≤ 400000) : (m_N1 σ d b = -1 ∧ ∀ u, d ≤ u → u ≤ d + 3000 → r_c σ b d u = 0) ∨ (d ≤ m_N1 σ d b ∧ m_N1 σ d b ≤ d + 2999 ∧ r_im (σ 2) (σ 3) b (m_N1 σ d b) = 1 ∧ r_c σ b d (m_N1 σ d b) = 0 ∧ r_c σ b (m_N1 σ d b) (m_N1 σ d b + 1) = 1) := by
  obtain ⟨-, -, hL, hF, -⟩ := id hW
  have hA := m_ff_in (ln := σ 2) (fi := σ 3) (b := b) (t := 1000 * d) hL
  have hg := r_ff_mono (ln := σ 2) (fi := σ 3) (b := b) (d := d) (u := d + 3000) hL (by omega)
  unfold m_N1
  obtain ⟨A, eA⟩ : ∃ A : Int, A = m_ff (σ 2) (σ 3) b (1000 * d) := ⟨_, rfl⟩
  obtain ⟨B, eB⟩ : ∃ B : Int, B = m_ff (σ 2) (σ 3) b (1000 * (d + 3000)) := ⟨_, rfl⟩
  rw [← eA] at hA hg ⊢
  rw [← eB] at hg ⊢
  rcases r_fe (ln := σ 2) (fi := σ 3) (pe := σ 4) (nd := σ 5) (b := b) (B - A).toNat A with ⟨h1, h2⟩ | ⟨i, h1, h2, h3, h4⟩
  · refine Or.inl ⟨h1, fun u hu1 hu2 => ?_⟩
    have g := r_ff_mono (ln := σ 2) (fi := σ 3) (b := b) (d := u) (u := d + 3000) hL hu2
    unfold r_c
    rw [← eA]
    exact r_ce_0 _ (fun j hj => h2 j (by omega))
  · right
    rw [h2]
    obtain ⟨K, eK⟩ : ∃ K : Int, K = A + i := ⟨_, rfl⟩
    rw [← eK] at h3 ⊢
    have k1 := (s_ge (ln := σ 2) (fi := σ 3) (b := b) (d := d) (k := K) hL (by omega)).mpr (by omega)
    have k2 := s_ge (ln := σ 2) (fi := σ 3) (b := b) (d := d + 3000) (k := K) hL (by omega)
    have k3 : ¬ d + 3000 ≤ m_tm (σ 2) (σ 3) K b / 1000 := fun q => by have := k2.mp q; omega
    have f0 := r_ff (ln := σ 2) (fi := σ 3) (b := b) (k := K) hL (by omega) rfl
    have f1 := r_ff1 (ln := σ 2) (fi := σ 3) (b := b) (k := K) hL (by omega) rfl
    refine ⟨by omega, by omega, r_im_of hL (k := K) (by omega) rfl, ?_, ?_⟩
    · unfold r_c
      rw [f0, ← eA]
      exact r_ce_0 _ (fun j hj => h4 j (by omega))
    · unfold r_c
      rw [f0, f1, show (K + 1 - K).toNat = 0 + 1 by omega, m_ce, m_ce, show K + ((0 : Nat) : Int) = K by omega, h3]
      rfl
/-- a day of an eclipse ahead of the day u: how many eclipses are left behind it -/
theorem r_step {σ T : Nat → Int} (hW : WF σ T) {d b n u : Int} (hd : 0 ≤ d ∧ d ≤ 400000) (hn : d ≤ n ∧ n < u) (hu : u ≤ d + 3000) (h : m_N1 σ d b = n ∨ n < m_N1 σ d b ∨ m_N1 σ d b = -1) : (m_N1 σ d b = n ∧ r_c σ b d u = 1 + r_c σ b (n + 1) u) ∨ (m_N1 σ d b ≠ n ∧ r_c σ b d u = r_c σ b (n + 1) u) := by
  rcases r_N1 hW (d := d) (b := b) hd with ⟨h1, h2⟩ | ⟨h1, h2, h3, h4, h5⟩
  · right
    refine ⟨by omega, ?_⟩
    rw [r_c_add hW (b := b) (d := d) (v := n + 1) (u := u) (by omega) (by omega), h2 (n + 1) (by omega) (by omega)]
    omega
  · by_cases e : m_N1 σ d b = n
    · left
      rw [e] at h4 h5
      refine ⟨e, ?_⟩
      rw [r_c_add hW (b := b) (d := d) (v := n) (u := u) (by omega) (by omega), r_c_add hW (b := b) (d := n) (v := n + 1) (u := u) (by omega) (by omega), h4, h5]
      omega
    · right
      refine ⟨e, ?_⟩
      have h6 := r_c_add hW (b := b) (d := d) (v := n + 1) (u := m_N1 σ d b) (by omega) (by omega)
      have h7 := r_c_in σ b d (n + 1)
      have h8 := r_c_in σ b (n + 1) (m_N1 σ d b)
      rw [r_c_add hW (b := b) (d := d) (v := n + 1) (u := u) (by omega) (by omega)]
      omega
/-- no eclipse ahead of the day u -/
theorem r_none {σ T : Nat → Int} (hW : WF σ T) {d b u : Int} (hd : 0 ≤ d ∧ d ≤ 400000) (hu : d ≤ u ∧ u ≤ d + 3000) (h : m_N1 σ d b = -1 ∨ u ≤ m_N1 σ d b) : r_c σ b d u = 0 := by
  rcases r_N1 hW (d := d) (b := b) hd with ⟨h1, h2⟩ | ⟨h1, h2, h3, h4, h5⟩
  · exact h2 u hu.1 hu.2
  · have h6 := r_c_add hW (b := b) (d := d) (v := u) (u := m_N1 σ d b) hu.1 (by omega)
    have h7 := r_c_in σ b d u
    have h8 := r_c_in σ b u (m_N1 σ d b)
    omega
/-- the next eclipse: of one kind, none of the other is earlier -/
theorem r_next {σ T : Nat → Int} (hW : WF σ T) {d : Int} (hd : 0 ≤ d ∧ d ≤ 400000) : (m_next σ d = -1 ∧ m_N1 σ d 0 = -1 ∧ m_N1 σ d 1 = -1) ∨ (d ≤ m_next σ d ∧ m_next σ d ≤ d + 2999 ∧ (m_N1 σ d 0 = m_next σ d ∨ m_N1 σ d 1 = m_next σ d) ∧ (m_N1 σ d 0 = m_next σ d ∨ m_next σ d < m_N1 σ d 0 ∨ m_N1 σ d 0 = -1) ∧ (m_N1 σ d 1 = m_next σ d ∨ m_next σ d < m_N1 σ d 1 ∨ m_N1 σ d 1 = -1)) := by
  have h0 := r_N1 hW (d := d) (b := 0) hd
  have h1 := r_N1 hW (d := d) (b := 1) hd
  have h0' : m_N1 σ d 0 = -1 ∨ (d ≤ m_N1 σ d 0 ∧ m_N1 σ d 0 ≤ d + 2999) := h0.elim (fun h => Or.inl h.1) (fun h => Or.inr ⟨h.1, h.2.1⟩)
  have h1' : m_N1 σ d 1 = -1 ∨ (d ≤ m_N1 σ d 1 ∧ m_N1 σ d 1 ≤ d + 2999) := h1.elim (fun h => Or.inl h.1) (fun h => Or.inr ⟨h.1, h.2.1⟩)
  unfold m_next
  (repeat' split) <;> omega
/-- .. a moon falls on it -/
theorem r_next_im {σ T : Nat → Int} (hW : WF σ T) {d : Int} (hd : 0 ≤ d ∧ d ≤ 400000) (h : 0 ≤ m_next σ d) : r_im (σ 2) (σ 3) 1 (m_next σ d) = 1 ∨ r_im (σ 2) (σ 3) 0 (m_next σ d) = 1 := by
  rcases r_next hW hd with ⟨h1, -⟩ | ⟨h1, h2, h3 | h3, -, -⟩
  · omega
  · right
    rcases r_N1 hW (d := d) (b := 0) hd with ⟨g1, -⟩ | ⟨-, -, g3, -⟩
    · omega
    · rw [h3] at g3; exact g3
  · left
    rcases r_N1 hW (d := d) (b := 1) hd with ⟨g1, -⟩ | ⟨-, -, g3, -⟩
    · omega
    · rw [h3] at g3; exact g3
/-- both kinds -/
def r_R (σ : Nat → Int) (d u : Int) : Int := r_c σ 0 d u + r_c σ 1 d u
theorem r_R_step {σ T : Nat → Int} (hW : WF σ T) {d u : Int} (hd : 0 ≤ d ∧ d ≤ 400000) (hu : u ≤ d + 3000) (h : 0 ≤ m_next σ d ∧ m_next σ d < u) : d ≤ m_next σ d ∧ (r_R σ d u = 1 + r_R σ (m_next σ d + 1) u ∨ r_R σ d u = 2 + r_R σ (m_next σ d + 1) u) := by
  rcases r_next hW hd with ⟨h1, -⟩ | ⟨h1, h2, h3, h4, h5⟩
  · omega
  · refine ⟨h1, ?_⟩
    have g0 := r_step hW (b := 0) (n := m_next σ d) (u := u) hd ⟨h1, h.2⟩ hu h4
    have g1 := r_step hW (b := 1) (n := m_next σ d) (u := u) hd ⟨h1, h.2⟩ hu h5
    unfold r_R
    omega
theorem r_R_end {σ T : Nat → Int} (hW : WF σ T) {d u : Int} (hd : 0 ≤ d ∧ d ≤ 400000) (hu : d ≤ u ∧ u ≤ d + 3000) (h : m_next σ d < 0 ∨ u ≤ m_next σ d) : r_R σ d u = 0 := by
  rcases r_next hW hd with ⟨h1, h2, h3⟩ | ⟨h1, h2, h3, h4, h5⟩
  · have g0 := r_none hW (b := 0) (u := u) hd hu (Or.inl h2)
    have g1 := r_none hW (b := 1) (u := u) hd hu (Or.inl h3)
    unfold r_R
    omega
  · have g0 := r_none hW (b := 0) (u := u) hd hu (by omega)
    have g1 := r_none hW (b := 1) (u := u) hd hu (by omega)
    unfold r_R
    omega
theorem r_R_self (σ : Nat → Int) (d : Int) : r_R σ d d = 0 := by
  unfold r_R
  rw [r_c_self, r_c_self]
  rfl
theorem r_R_in (σ : Nat → Int) (d u : Int) : 0 ≤ r_R σ d u := by
  have h0 := r_c_in σ 0 d u
  have h1 := r_c_in σ 1 d u
  unfold r_R
  omega
theorem r_R_mono {σ T : Nat → Int} (hW : WF σ T) {d v u : Int} (h1 : d ≤ v) (h2 : v ≤ u) : r_R σ v u ≤ r_R σ d u := by
  have g0 := r_c_add hW (b := 0) h1 h2
  have g1 := r_c_add hW (b := 1) h1 h2
  have g2 := r_c_in σ 0 d v
  have g3 := r_c_in σ 1 d v
  unfold r_R
  omega
