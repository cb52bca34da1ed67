/-! ===== the reference's picture, and what its own ways of counting come to ===== -/
def WMo (cI : ClassId) (a ta pa : Nat) (th : Int) (σ T P : Nat → Int) : va_W := [(a, .inr (8, [.int (iI th), .int (iI (σ 0)), .int (iI (σ 1)), .int (iI (σ 2)), .int (iI (σ 3)), .int (iI (σ 4)), .int (iI (σ 5)), .int (iI (σ 6)), .ref ta, .int (iI (σ 7)), .ref pa, .int (iI (σ 9)), .int (iI (σ 10))])), (ta, .inl (cI, 40, .inl (fun j => iI (T j)))), (pa, .inl (cI, 110, .inl (fun j => iI (P j))))]
def PicM (D : va_G) (cI : ClassId) (a ta pa : Nat) (th : Int) (σ T P : Nat → Int) (H : Heap) : Prop := va_P D vwCl (WMo cI a ta pa th σ T P) H
section PM
variable {D : va_G} {cI : ClassId} {a ta pa : Nat} {th : Int} {σ T P : Nat → Int} {H : Heap}
theorem PicM.ob (h : PicM D cI a ta pa th σ T P H) : ob D a 8 [.int (iI th), .int (iI (σ 0)), .int (iI (σ 1)), .int (iI (σ 2)), .int (iI (σ 3)), .int (iI (σ 4)), .int (iI (σ 5)), .int (iI (σ 6)), .ref ta, .int (iI (σ 7)), .ref pa, .int (iI (σ 9)), .int (iI (σ 10))] H := h 0 _ rfl
theorem PicM.told (h : PicM D cI a ta pa th σ T P H) : ar D ta (cI, 40, .inl (fun j => iI (T j))) H := h 1 _ rfl
theorem PicM.paper (h : PicM D cI a ta pa th σ T P H) : ar D pa (cI, 110, .inl (fun j => iI (P j))) H := h 2 _ rfl
end PM
theorem m_y_next {cy lq d k : Int} (hk : 0 ≤ k ∧ k ≤ 999) (h1 : m_fd cy lq (k + 1) ≤ d) (h2 : d < m_fd cy lq 1000) : k + 1 ≤ 999 := by
  by_cases h : k = 999
  · subst h
    rw [show (999 + 1 : Int) = 1000 from rfl] at h1
    omega
  · omega
theorem m_tdiv_in {ln x : Int} (hL : 20000 ≤ ln ∧ ln ≤ 40000) (hx : -40000 < x ∧ x ≤ 400000000) : -2 ≤ x.tdiv ln ∧ x.tdiv ln ≤ 20000 ∧ (0 < x.tdiv ln → x.tdiv ln * ln ≤ x) := by
  by_cases h : 0 ≤ x
  · rw [Int.tdiv_eq_ediv_of_nonneg h]
    have h1 := Int.ediv_nonneg h (show 0 ≤ ln by omega)
    have h2 := Int.ediv_mul_le x (show ln ≠ 0 by omega)
    have h3 : x / ln * 20000 ≤ x / ln * ln := Int.mul_le_mul_of_nonneg_left hL.1 h1
    omega
  · have h4 : x.tdiv ln = -((-x).tdiv ln) := by
      rw [Int.neg_tdiv, Int.neg_neg]
    have h5 : (-x).tdiv ln = (-x) / ln := Int.tdiv_eq_ediv_of_nonneg (by omega)
    have h1 := Int.ediv_nonneg (show 0 ≤ -x by omega) (show 0 ≤ ln by omega)
    have h2 := Int.ediv_mul_le (-x) (show ln ≠ 0 by omega)
    have h3 : (-x) / ln * 20000 ≤ (-x) / ln * ln := Int.mul_le_mul_of_nonneg_left hL.1 h1
    rw [h4, h5]
    omega
/-- where the reference begins to look for a moon -/
theorem m_mf0 {ln fi b d : Int} (hL : 20000 ≤ ln ∧ ln ≤ 40000) (hF : 0 ≤ fi ∧ fi ≤ 39999) (hd : 0 ≤ d ∧ d ≤ 400000) (h0 : 0 < (1000 * d - fi).tdiv ln - 2) : (1000 * d - fi).tdiv ln - 2 ≤ m_ff ln fi b (1000 * d) := by
  obtain ⟨h1, h2, h3⟩ := m_tdiv_in (x := 1000 * d - fi) hL (by omega)
  have h4 := h3 (by omega)
  have h5 := m_hf_in (ln := ln) (b := b) hL
  generalize (1000 * d - fi).tdiv ln = z at *
  have h6 := (m_ff_lt (ln := ln) (fi := fi) (b := b) (t := 1000 * d) (k := z - 3) hL (by omega)).mpr (by
    unfold m_tm
    have h7 : (z - 3) * ln = z * ln - 3 * ln := by rw [Int.sub_mul]
    omega)
  omega
/-- the first eclipse as the reference looks for it: the moon behind the n-th when there is none -/
def m_nx (ln fi pe nd b : Int) : Nat → Int → Int
  | 0, k => m_tm ln fi k b / 1000
  | n + 1, k => if m_en pe nd (m_tm ln fi k b) (m_rc b) = 1 then m_tm ln fi k b / 1000 else m_nx ln fi pe nd b n (k + 1)
theorem m_nx_step {ln fi pe nd b k en : Int} (h : k < en) : m_nx ln fi pe nd b (en - k).toNat k = if m_en pe nd (m_tm ln fi k b) (m_rc b) = 1 then m_tm ln fi k b / 1000 else m_nx ln fi pe nd b (en - (k + 1)).toNat (k + 1) := by
  have e : (en - k).toNat = (en - (k + 1)).toNat + 1 := by omega
  rw [e, m_nx]
theorem m_nx_end {ln fi pe nd b k en : Int} (h : en ≤ k) : m_nx ln fi pe nd b (en - k).toNat k = m_tm ln fi k b / 1000 := by
  have e : (en - k).toNat = 0 := by omega
  rw [e, m_nx]
theorem m_nx_fe {ln fi pe nd b : Int} (hL : 20000 ≤ ln ∧ ln ≤ 40000) (hF : 0 ≤ fi ∧ fi ≤ 39999) : ∀ (n : Nat) (k : Int), 0 ≤ k → (m_fe ln fi pe nd b n k = -1 ∧ m_nx ln fi pe nd b n k = m_tm ln fi (k + n) b / 1000) ∨ (m_fe ln fi pe nd b n k = m_nx ln fi pe nd b n k ∧ 0 ≤ m_nx ln fi pe nd b n k ∧ ∃ j : Int, k ≤ j ∧ j < k + n ∧ m_nx ln fi pe nd b n k = m_tm ln fi j b / 1000)
  | 0, k, hk => by
    refine Or.inl ⟨rfl, ?_⟩
    rw [m_nx, show k + ((0 : Nat) : Int) = k by omega]
  | n + 1, k, hk => by
    have h1 := m_nx_fe (pe := pe) (nd := nd) (b := b) hL hF n (k + 1) (by omega)
    have h2 := m_tm_in (ln := ln) (fi := fi) (b := b) (k := k) hL hF hk
    rw [m_fe, m_nx]
    by_cases h : m_en pe nd (m_tm ln fi k b) (m_rc b) = 1
    · rw [if_pos h, if_pos h]
      exact Or.inr ⟨rfl, by omega, k, by omega, by omega, rfl⟩
    · rw [if_neg h, if_neg h]
      rcases h1 with ⟨a1, a2⟩ | ⟨a1, a2, j, j1, j2, j3⟩
      · exact Or.inl ⟨a1, by rw [a2]; congr 2; omega⟩
      · exact Or.inr ⟨a1, a2, j, by omega, by omega, j3⟩
def m_N2 (σ : Nat → Int) (d b : Int) : Int := m_nx (σ 2) (σ 3) (σ 4) (σ 5) b (m_ff (σ 2) (σ 3) b (1000 * (d + 3000)) - m_ff (σ 2) (σ 3) b (1000 * d)).toNat (m_ff (σ 2) (σ 3) b (1000 * d))
/-- both ways to look for the next eclipse of a kind -/
theorem m_N12 {σ T : Nat → Int} (hW : WF σ T) {d b : Int} (hd : 0 ≤ d ∧ d < 366001) : (m_N1 σ d b = -1 ∧ d + 3000 ≤ m_N2 σ d b ∧ m_N2 σ d b ≤ 1000000) ∨ (m_N1 σ d b = m_N2 σ d b ∧ d ≤ m_N2 σ d b ∧ m_N2 σ d b ≤ d + 2999) := by
  obtain ⟨-, -, w2, w3, -⟩ := hW
  have h1 := m_ff_in (ln := σ 2) (fi := σ 3) (b := b) (t := 1000 * d) w2
  have h0 := m_ff_in (ln := σ 2) (fi := σ 3) (b := b) (t := 1000 * (d + 3000)) w2
  have hmono : m_ff (σ 2) (σ 3) b (1000 * d) ≤ m_ff (σ 2) (σ 3) b (1000 * (d + 3000)) := by
    by_cases h : m_ff (σ 2) (σ 3) b (1000 * d) = 0
    · omega
    · have h2 := (m_ff_lt (ln := σ 2) (fi := σ 3) (b := b) (t := 1000 * d) (k := m_ff (σ 2) (σ 3) b (1000 * d) - 1) w2 (by omega)).mp (by omega)
      have h3 := (m_ff_lt (ln := σ 2) (fi := σ 3) (b := b) (t := 1000 * (d + 3000)) (k := m_ff (σ 2) (σ 3) b (1000 * d) - 1) w2 (by omega)).mpr (by omega)
      omega
  have ht := m_ff_tm (ln := σ 2) (fi := σ 3) (b := b) (t := 1000 * (d + 3000)) w2 w3 (by omega)
  unfold m_N1 m_N2
  rcases m_nx_fe (pe := σ 4) (nd := σ 5) (b := b) w2 w3 (m_ff (σ 2) (σ 3) b (1000 * (d + 3000)) - m_ff (σ 2) (σ 3) b (1000 * d)).toNat (m_ff (σ 2) (σ 3) b (1000 * d)) h1 with ⟨a1, a2⟩ | ⟨a1, a2, j, j1, j2, j3⟩
  · rw [show m_ff (σ 2) (σ 3) b (1000 * d) + ((m_ff (σ 2) (σ 3) b (1000 * (d + 3000)) - m_ff (σ 2) (σ 3) b (1000 * d)).toNat : Int) = m_ff (σ 2) (σ 3) b (1000 * (d + 3000)) by omega] at a2
    exact Or.inl ⟨a1, by omega, by omega⟩
  · have q1 := m_ff_lt (ln := σ 2) (fi := σ 3) (b := b) (t := 1000 * d) (k := j) w2 (by omega)
    have q2 := m_ff_lt (ln := σ 2) (fi := σ 3) (b := b) (t := 1000 * (d + 3000)) (k := j) w2 (by omega)
    exact Or.inr ⟨a1, by omega, by omega⟩
def m_dated (σ : Nat → Int) (d w : Int) : Int := if w = 0 then m_y (σ 0) (σ 1) d else if w = 1 then m_mo (σ 0) (σ 1) d else if w = 2 then m_dm (σ 0) (σ 1) d else if w = 3 then d % 7 else m_ds σ d
/-- what a sheet tells -/
def m_told (σ T P : Nat → Int) (j : Nat) (w : Int) : Int := if w = 0 then P (11 * j) else if w = 1 then P (11 * j + 1) else if w = 2 then P (11 * j + 2) else if w = 3 then m_wr σ T (P (11 * j)) (P (11 * j + 1)) (P (11 * j + 2)) (fun i => P (11 * j + 3 + i)) else m_sh (fun i => m_F σ T i (P (11 * j))) (fun i => P (11 * j + 3 + i)) (P (11 * j + 1)).toNat
def m_count (σ T P : Nat → Int) (w : Int) : Int := if w = 8 then m_wc σ T P (σ 7).toNat else σ w.toNat
theorem m_sh_chg (f dy : Nat → Int) : ∀ n : Nat, (0 ≤ m_sh f dy n ∧ (0 < m_sh f dy n ↔ 0 < m_chg f dy n))
  | 0 => by simp [m_sh, m_chg]
  | n + 1 => by
    obtain ⟨h1, h2⟩ := m_sh_chg f dy n
    have h3 := m_chg_in f dy n
    rw [m_sh, m_chg]
    have ha : (f n = dy n → m_abs (f n - dy n) = 0) ∧ (¬ f n = dy n → 0 < m_abs (f n - dy n)) := by
      unfold m_abs
      constructor
      · intro h; split <;> omega
      · intro h; split <;> omega
    by_cases h : f n = dy n
    · have e := ha.1 h
      rw [if_pos h, e, if_neg (by omega)]
      omega
    · have e := ha.2 h
      rw [if_neg h]
      split <;> omega
theorem m_month {r k le ml x : Int} (hk : 0 ≤ k ∧ k ≤ 11) (hle : le = r - (30 * k + k / 2)) (h0 : 0 ≤ le) (hlt : le < ml) (hml : ml = if k = 11 then 30 + x else 30 + k % 2) (hx : x = 0 ∨ x = 1) : k = r / 61 * 2 + (if r % 61 < 30 then 0 else 1) ∧ le = if r % 61 < 30 then r % 61 else r % 61 - 30 := by
  rcases (show k = 0 ∨ k = 1 ∨ k = 2 ∨ k = 3 ∨ k = 4 ∨ k = 5 ∨ k = 6 ∨ k = 7 ∨ k = 8 ∨ k = 9 ∨ k = 10 ∨ k = 11 by omega) with h | h | h | h | h | h | h | h | h | h | h | h <;> subst h <;> split at hml <;> split <;> omega
