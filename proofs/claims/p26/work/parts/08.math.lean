/-! ===== the almanac in whole numbers: what both the class and the reference answer ===== -/
/-- 1 if the year y is a leap year of the cycle cy with lq leaps, otherwise 0 -/
def m_leap (cy lq y : Int) : Int := if y * lq % cy < lq then 1 else 0
/-- the first day of the year y -/
def m_fd (cy lq y : Int) : Int := if y < 1 ∨ lq < 1 then 365 * y else 365 * y + (y - 1) * lq / cy + 1
theorem m_leap_01 (cy lq y : Int) : m_leap cy lq y = 0 ∨ m_leap cy lq y = 1 := by
  unfold m_leap
  split
  · exact Or.inr rfl
  · exact Or.inl rfl
theorem m_step {a cy lq : Int} (hc : 0 < cy) (hq : 0 ≤ lq ∧ lq ≤ cy) : (a + lq) / cy = a / cy + (if (a + lq) % cy < lq then 1 else 0) := by
  have h1 := Int.mul_ediv_add_emod a cy
  have h2 := Int.emod_nonneg a (show cy ≠ 0 by omega)
  have h3 := Int.emod_lt_of_pos a hc
  by_cases h : a % cy + lq < cy
  · have h4 := (Int.ediv_emod_unique (a := a + lq) (b := cy) (r := a % cy + lq) (q := a / cy) hc).mpr ⟨by omega, by omega, h⟩
    rw [h4.1, h4.2, if_neg (by omega)]
    omega
  · have h5 : cy * (a / cy + 1) = cy * (a / cy) + cy := by rw [Int.mul_add, Int.mul_one]
    have h4 := (Int.ediv_emod_unique (a := a + lq) (b := cy) (r := a % cy + lq - cy) (q := a / cy + 1) hc).mpr ⟨by omega, by omega, by omega⟩
    rw [h4.1, h4.2, if_pos (by omega)]
theorem m_fd_0 (cy lq : Int) : m_fd cy lq 0 = 0 := by
  unfold m_fd
  rw [if_pos (Or.inl (by omega))]
  rfl
theorem m_fd_succ {cy lq y : Int} (hc : 1 ≤ cy) (hq : 0 ≤ lq ∧ lq ≤ cy) (hy : 0 ≤ y) : m_fd cy lq (y + 1) = m_fd cy lq y + 365 + m_leap cy lq y := by
  unfold m_fd m_leap
  by_cases h0 : lq < 1
  · have hq0 : lq = 0 := by omega
    subst hq0
    have h1 : y * 0 % cy = 0 := by rw [Int.mul_zero, Int.zero_emod]
    rw [if_pos (Or.inr h0), if_pos (Or.inr h0), h1, if_neg (by omega)]
    omega
  · by_cases h1 : y < 1
    · have hy0 : y = 0 := by omega
      subst hy0
      have e1 : (0 + 1 - 1 : Int) * lq / cy = 0 := by
        rw [show (0 + 1 - 1 : Int) = 0 by omega, Int.zero_mul, Int.zero_ediv]
      have e2 : (0 : Int) * lq % cy = 0 := by rw [Int.zero_mul, Int.zero_emod]
      rw [if_neg (by omega), if_pos (Or.inl h1), e1, e2, if_pos (by omega)]
      omega
    · have e1 : (y + 1 - 1) * lq = (y - 1) * lq + lq := by
        rw [show y + 1 - 1 = (y - 1) + 1 by omega, Int.add_mul, Int.one_mul]
      have e2 : y * lq = (y - 1) * lq + lq := by
        rw [← e1, show y + 1 - 1 = y by omega]
      have h2 := m_step (a := (y - 1) * lq) (cy := cy) (lq := lq) (by omega) hq
      rw [if_neg (by omega), if_neg (by omega), e1, e2, h2]
      omega
theorem m_fd_mono {cy lq y : Int} (hc : 1 ≤ cy) (hq : 0 ≤ lq ∧ lq ≤ cy) (hy : 0 ≤ y) : ∀ n : Nat, m_fd cy lq y + 365 * n ≤ m_fd cy lq (y + n) ∧ m_fd cy lq (y + n) ≤ m_fd cy lq y + 366 * n
  | 0 => by simp
  | n + 1 => by
    have h1 := m_fd_mono hc hq hy n
    have h2 := m_fd_succ (y := y + n) hc hq (by omega)
    have h3 := m_leap_01 cy lq (y + n)
    have e : y + ((n + 1 : Nat) : Int) = y + n + 1 := by omega
    rw [e]
    omega
theorem m_fd_le {cy lq y : Int} (hc : 1 ≤ cy) (hq : 0 ≤ lq ∧ lq ≤ cy) (hy : 0 ≤ y) : 365 * y ≤ m_fd cy lq y ∧ m_fd cy lq y ≤ 366 * y := by
  have h := m_fd_mono (y := 0) hc hq (Int.le_refl 0) y.toNat
  have e : (0 : Int) + (y.toNat : Int) = y := by omega
  rw [e, m_fd_0] at h
  omega
theorem m_fd_lt {cy lq y z : Int} (hc : 1 ≤ cy) (hq : 0 ≤ lq ∧ lq ≤ cy) (hy : 0 ≤ y) (hz : y ≤ z) : m_fd cy lq y + 365 * (z - y) ≤ m_fd cy lq z := by
  have h := m_fd_mono (y := y) hc hq hy (z - y).toNat
  have e : y + ((z - y).toNat : Int) = z := by omega
  rw [e] at h
  omega
/-- what the walk through (y - 1) * lq / cy needs -/
theorem m_mulq {cy lq y : Int} (hc : 1 ≤ cy ∧ cy ≤ 400) (hq : 0 ≤ lq ∧ lq ≤ cy) (hy : 0 ≤ y ∧ y ≤ 1001) : 0 ≤ y * lq ∧ y * lq ≤ 401000 := by
  have h1 := Int.mul_nonneg hy.1 hq.1
  have h2 : y * lq ≤ 1001 * 400 := Int.mul_le_mul hy.2 (by omega) hq.1 (by omega)
  omega
/-- the year of the day d -/
def m_yo (cy lq d : Int) : Nat → Int
  | 0 => 0
  | n + 1 => if m_fd cy lq ((n : Int) + 1) ≤ d then (n : Int) + 1 else m_yo cy lq d n
theorem m_yo_in (cy lq d : Int) : ∀ n : Nat, 0 ≤ m_yo cy lq d n ∧ m_yo cy lq d n ≤ n
  | 0 => by simp [m_yo]
  | n + 1 => by
    have h := m_yo_in cy lq d n
    rw [m_yo]
    split <;> omega
theorem m_yo_le {cy lq d : Int} (hd : 0 ≤ d) : ∀ n : Nat, m_fd cy lq (m_yo cy lq d n) ≤ d
  | 0 => by rw [m_yo, m_fd_0]; exact hd
  | n + 1 => by
    rw [m_yo]
    split
    · assumption
    · exact m_yo_le hd n
theorem m_yo_gt {cy lq d : Int} : ∀ (n : Nat) (k : Int), m_yo cy lq d n < k → k ≤ n → d < m_fd cy lq k
  | 0, k, h1, h2 => by rw [m_yo] at h1; omega
  | n + 1, k, h1, h2 => by
    rw [m_yo] at h1
    split at h1
    · omega
    · rename_i h3
      by_cases h4 : k = (n : Int) + 1
      · rw [h4]; omega
      · exact m_yo_gt n k h1 (by omega)
def m_y (cy lq d : Int) : Int := m_yo cy lq d 999
theorem m_y_in (cy lq d : Int) : 0 ≤ m_y cy lq d ∧ m_y cy lq d ≤ 999 := m_yo_in cy lq d 999
theorem m_y_le {cy lq d : Int} (hd : 0 ≤ d) : m_fd cy lq (m_y cy lq d) ≤ d := m_yo_le hd 999
theorem m_y_lt {cy lq d : Int} (hd : d < m_fd cy lq 1000) : d < m_fd cy lq (m_y cy lq d + 1) := by
  have h := m_y_in cy lq d
  by_cases h1 : m_y cy lq d = 999
  · rw [h1]; exact hd
  · exact m_yo_gt 999 (m_y cy lq d + 1) (show m_y cy lq d < m_y cy lq d + 1 by omega) (by omega)
theorem m_y_eq {cy lq d y : Int} (hc : 1 ≤ cy) (hq : 0 ≤ lq ∧ lq ≤ cy) (hy : 0 ≤ y ∧ y ≤ 999) (h1 : m_fd cy lq y ≤ d) (h2 : d < m_fd cy lq (y + 1)) : y = m_y cy lq d := by
  have hi := m_y_in cy lq d
  have h3 := m_fd_le (y := y) hc hq hy.1
  have h4 := m_y_le (cy := cy) (lq := lq) (d := d) (by omega)
  have h6 : m_fd cy lq (y + 1) ≤ m_fd cy lq 1000 := by
    have := m_fd_lt (y := y + 1) (z := 1000) hc hq (by omega) (by omega)
    omega
  have h5 := m_y_lt (cy := cy) (lq := lq) (d := d) (by omega)
  rcases Int.lt_trichotomy y (m_y cy lq d) with h | h | h
  · have := m_fd_lt (y := y + 1) (z := m_y cy lq d) hc hq (by omega) (by omega)
    omega
  · exact h
  · have := m_fd_lt (y := m_y cy lq d + 1) (z := y) hc hq (by omega) (by omega)
    omega
/-- how far the day d lies behind the first day of its year; its month; its day there -/
def m_r (cy lq d : Int) : Int := d - m_fd cy lq (m_y cy lq d)
def m_mo (cy lq d : Int) : Int := m_r cy lq d / 61 * 2 + (if m_r cy lq d % 61 < 30 then 0 else 1)
def m_dm (cy lq d : Int) : Int := if m_r cy lq d % 61 < 30 then m_r cy lq d % 61 else m_r cy lq d % 61 - 30
theorem m_r_in {cy lq d : Int} (hc : 1 ≤ cy) (hq : 0 ≤ lq ∧ lq ≤ cy) (hd : 0 ≤ d ∧ d < m_fd cy lq 1000) : 0 ≤ m_r cy lq d ∧ m_r cy lq d < 365 + m_leap cy lq (m_y cy lq d) := by
  have h1 := m_y_le (cy := cy) (lq := lq) hd.1
  have h2 := m_y_lt hd.2
  rw [m_fd_succ hc hq (m_y_in cy lq d).1] at h2
  unfold m_r
  omega
def m_md (cy lq y mo : Int) : Int := if mo = 11 then 30 + m_leap cy lq y else 30 + mo % 2
/-- moons -/
def m_hf (ln b : Int) : Int := if b = 0 then 0 else ln / 2
def m_tm (ln fi k b : Int) : Int := fi + k * ln + m_hf ln b
def m_ff (ln fi b t : Int) : Int := if t - fi - m_hf ln b ≤ 0 then 0 else (t - fi - m_hf ln b + ln - 1) / ln
theorem m_hf_in {ln b : Int} (hL : 20000 ≤ ln ∧ ln ≤ 40000) : 0 ≤ m_hf ln b ∧ m_hf ln b ≤ 20000 := by
  unfold m_hf
  split <;> omega
theorem m_ff_in {ln fi b t : Int} (hL : 20000 ≤ ln ∧ ln ≤ 40000) : 0 ≤ m_ff ln fi b t := by
  unfold m_ff
  split
  · exact Int.le_refl 0
  · exact Int.ediv_nonneg (by omega) (by omega)
theorem m_ff_lt {ln fi b t k : Int} (hL : 20000 ≤ ln ∧ ln ≤ 40000) (hk : 0 ≤ k) : k < m_ff ln fi b t ↔ m_tm ln fi k b < t := by
  unfold m_ff m_tm
  have h0 := Int.mul_nonneg hk (show 0 ≤ ln by omega)
  split
  · rename_i h
    constructor
    · intro g; omega
    · intro g; omega
  · rename_i h
    have h1 := Int.le_ediv_iff_mul_le (a := k + 1) (b := t - fi - m_hf ln b + ln - 1) (show 0 < ln by omega)
    rw [Int.add_mul, Int.one_mul] at h1
    constructor
    · intro g
      have := h1.mp (by omega)
      omega
    · intro g
      have := h1.mpr (by omega)
      omega
theorem m_tm_succ (ln fi k b : Int) : m_tm ln fi (k + 1) b = m_tm ln fi k b + ln := by
  unfold m_tm
  rw [Int.add_mul, Int.one_mul]
  omega
theorem m_tm_mono {ln fi b k j : Int} (hL : 20000 ≤ ln ∧ ln ≤ 40000) (h : k ≤ j) : m_tm ln fi k b + 20000 * (j - k) ≤ m_tm ln fi j b := by
  unfold m_tm
  have h1 : j * ln = k * ln + (j - k) * ln := by rw [← Int.add_mul]; congr 1; omega
  have h2 : (j - k) * 20000 ≤ (j - k) * ln := Int.mul_le_mul_of_nonneg_left hL.1 (by omega)
  omega
theorem m_tm_in {ln fi b k : Int} (hL : 20000 ≤ ln ∧ ln ≤ 40000) (hF : 0 ≤ fi ∧ fi ≤ 39999) (hk : 0 ≤ k) : 20000 * k ≤ m_tm ln fi k b ∧ m_tm ln fi k b ≤ 40000 * k + 60000 := by
  have h1 := m_hf_in (ln := ln) (b := b) hL
  unfold m_tm
  have h2 : k * 20000 ≤ k * ln := Int.mul_le_mul_of_nonneg_left hL.1 hk
  have h3 : k * ln ≤ k * 40000 := Int.mul_le_mul_of_nonneg_left hL.2 hk
  omega
/-- k * ln alone, where a walk has it -/
theorem m_kL {ln k : Int} (hL : 20000 ≤ ln ∧ ln ≤ 40000) (hk : 0 ≤ k) : 20000 * k ≤ k * ln ∧ k * ln ≤ 40000 * k := by
  have h2 : k * 20000 ≤ k * ln := Int.mul_le_mul_of_nonneg_left hL.1 hk
  have h3 : k * ln ≤ k * 40000 := Int.mul_le_mul_of_nonneg_left hL.2 hk
  omega
/-- the first moon from t on: no more than t / 20000 + 2 -/
theorem m_ff_up {ln fi b t : Int} (hL : 20000 ≤ ln ∧ ln ≤ 40000) (hF : 0 ≤ fi ∧ fi ≤ 39999) (ht : 0 ≤ t) : 20000 * m_ff ln fi b t < t + 40000 := by
  by_cases h : m_ff ln fi b t = 0
  · omega
  · have h1 := m_ff_in (ln := ln) (fi := fi) (b := b) (t := t) hL
    have h2 := (m_ff_lt (ln := ln) (fi := fi) (b := b) (t := t) (k := m_ff ln fi b t - 1) hL (by omega)).mp (by omega)
    have h3 := (m_tm_in (ln := ln) (fi := fi) (b := b) (k := m_ff ln fi b t - 1) hL hF (by omega)).1
    omega
theorem m_ff_tm {ln fi b t : Int} (hL : 20000 ≤ ln ∧ ln ≤ 40000) (hF : 0 ≤ fi ∧ fi ≤ 39999) (ht : 0 ≤ t) : t ≤ m_tm ln fi (m_ff ln fi b t) b ∧ m_tm ln fi (m_ff ln fi b t) b ≤ t + 60000 := by
  have h0 := m_ff_in (ln := ln) (fi := fi) (b := b) (t := t) hL
  have h1 := m_ff_lt (ln := ln) (fi := fi) (b := b) (t := t) (k := m_ff ln fi b t) hL h0
  refine ⟨by omega, ?_⟩
  by_cases h : m_ff ln fi b t = 0
  · rw [h]
    have := m_tm_in (ln := ln) (fi := fi) (b := b) (k := 0) hL hF (by omega)
    omega
  · have h2 := (m_ff_lt (ln := ln) (fi := fi) (b := b) (t := t) (k := m_ff ln fi b t - 1) hL (by omega)).mp (by omega)
    have h3 := m_tm_succ ln fi (m_ff ln fi b t - 1) b
    rw [show m_ff ln fi b t - 1 + 1 = m_ff ln fi b t by omega] at h3
    omega
def m_nt (ln fi b d : Int) : Int := if m_ff ln fi b (1000 * d) = 0 then 0 else if d - m_tm ln fi (m_ff ln fi b (1000 * d) - 1) b / 1000 ≤ m_tm ln fi (m_ff ln fi b (1000 * d)) b / 1000 - d then m_ff ln fi b (1000 * d) - 1 else m_ff ln fi b (1000 * d)
/-- 1 if the time t lies near a node, otherwise 0 -/
def m_en (pe nd t r : Int) : Int := if t ≤ nd then (if nd - t ≤ r then 1 else 0) else (if (t - nd) % pe ≤ r ∨ pe - (t - nd) % pe ≤ r then 1 else 0)
theorem m_ite01 (Q : Prop) [Decidable Q] : (if Q then (1 : Int) else 0) = 0 ∨ (if Q then (1 : Int) else 0) = 1 := by
  by_cases h : Q
  · exact Or.inr (if_pos h)
  · exact Or.inl (if_neg h)
theorem m_en_01 (pe nd t r : Int) : m_en pe nd t r = 0 ∨ m_en pe nd t r = 1 := by
  unfold m_en
  by_cases h : t ≤ nd
  · rw [if_pos h]; exact m_ite01 _
  · rw [if_neg h]; exact m_ite01 _
def m_rc (b : Int) : Int := if b = 0 then 15000 else 11000
/-- eclipses among n moons from k on -/
def m_ce (ln fi pe nd b k : Int) : Nat → Int
  | 0 => 0
  | n + 1 => m_ce ln fi pe nd b k n + m_en pe nd (m_tm ln fi (k + n) b) (m_rc b)
theorem m_ce_in (ln fi pe nd b k : Int) : ∀ n : Nat, 0 ≤ m_ce ln fi pe nd b k n ∧ m_ce ln fi pe nd b k n ≤ n
  | 0 => by simp [m_ce]
  | n + 1 => by
    have h1 := m_ce_in ln fi pe nd b k n
    have h2 := m_en_01 pe nd (m_tm ln fi (k + n) b) (m_rc b)
    rw [m_ce]
    omega
/-- .. of a year -/
def m_ec (cy lq ln fi pe nd y b : Int) : Int := m_ce ln fi pe nd b (m_ff ln fi b (1000 * m_fd cy lq y)) (m_ff ln fi b (1000 * m_fd cy lq (y + 1)) - m_ff ln fi b (1000 * m_fd cy lq y)).toNat
/-- the day of the first eclipse among n moons from k on, or -1 -/
def m_fe (ln fi pe nd b : Int) : Nat → Int → Int
  | 0, _ => -1
  | n + 1, k => if m_en pe nd (m_tm ln fi k b) (m_rc b) = 1 then m_tm ln fi k b / 1000 else m_fe ln fi pe nd b n (k + 1)
/-- feasts -/
def m_d0 (cy lq mo da y : Int) : Int := m_fd cy lq y + (30 * mo + mo / 2 + da)
def m_d1 (ln fi mn d : Int) : Int := if 1 ≤ mn then m_tm ln fi (m_ff ln fi 1 (1000 * d) + mn - 1) 1 / 1000 else d
def m_d2 (wd d : Int) : Int := if 0 ≤ wd then d + (wd - d % 7 + 7) % 7 else d
def m_fday (cy lq ln fi mo da mn wd off y : Int) : Int := m_d2 wd (m_d1 ln fi mn (m_d0 cy lq mo da y)) + off
