/-! ===== the same over a state ===== -/
/-- the day of the i-th feast in the year y -/
def m_F (σ T : Nat → Int) (i : Nat) (y : Int) : Int := m_fday (σ 0) (σ 1) (σ 2) (σ 3) (T (5 * i)) (T (5 * i + 1)) (T (5 * i + 2)) (T (5 * i + 3)) (T (5 * i + 4)) y
/-- the eclipses of a year, of a kind, and of both -/
def m_Eb (σ : Nat → Int) (y b : Int) : Int := m_ec (σ 0) (σ 1) (σ 2) (σ 3) (σ 4) (σ 5) y b
def m_E (σ : Nat → Int) (y : Int) : Int := m_Eb σ y 0 + m_Eb σ y 1
def m_abs (x : Int) : Int := if 0 ≤ x then x else -x
/-- how many of the first n differ; how far at most -/
def m_chg (f dy : Nat → Int) : Nat → Int
  | 0 => 0
  | n + 1 => m_chg f dy n + (if f n = dy n then 0 else 1)
def m_sh (f dy : Nat → Int) : Nat → Int
  | 0 => 0
  | n + 1 => if m_sh f dy n < m_abs (f n - dy n) then m_abs (f n - dy n) else m_sh f dy n
/-- how many of the first n are d; how many pairs of the first n agree -/
def m_same (f : Nat → Int) (d : Int) : Nat → Int
  | 0 => 0
  | n + 1 => m_same f d n + (if f n = d then 1 else 0)
def m_pairs (f : Nat → Int) : Nat → Int
  | 0 => 0
  | n + 1 => m_pairs f n + m_same f (f n) n
/-- 1 if a sheet is wrong, otherwise 0; how many of the first n sheets are wrong -/
def m_wr (σ T : Nat → Int) (yr hd ec : Int) (dy : Nat → Int) : Int := if m_E σ yr ≠ ec ∨ 0 < m_chg (fun i => m_F σ T i yr) dy hd.toNat then 1 else 0
def m_wc (σ T P : Nat → Int) : Nat → Int
  | 0 => 0
  | n + 1 => m_wc σ T P n + m_wr σ T (P (11 * n)) (P (11 * n + 1)) (P (11 * n + 2)) (fun i => P (11 * n + 3 + i))
theorem m_chg_in (f dy : Nat → Int) : ∀ n : Nat, 0 ≤ m_chg f dy n ∧ m_chg f dy n ≤ n
  | 0 => by simp [m_chg]
  | n + 1 => by
    have h := m_chg_in f dy n
    rw [m_chg]
    split <;> omega
theorem m_same_in (f : Nat → Int) (d : Int) : ∀ n : Nat, 0 ≤ m_same f d n ∧ m_same f d n ≤ n
  | 0 => by simp [m_same]
  | n + 1 => by
    have h := m_same_in f d n
    rw [m_same]
    split <;> omega
theorem m_abs_in {x : Int} (h : -3000000 ≤ x ∧ x ≤ 3000000) : 0 ≤ m_abs x ∧ m_abs x ≤ 3000000 := by
  unfold m_abs
  split <;> omega
theorem m_sh_in {f dy : Nat → Int} : ∀ {n : Nat}, (∀ i, i < n → -1000000 ≤ f i ∧ f i ≤ 1000000) → (∀ i, i < n → -1000000 ≤ dy i ∧ dy i ≤ 1000000) → 0 ≤ m_sh f dy n ∧ m_sh f dy n ≤ 3000000
  | 0, _, _ => by simp [m_sh]
  | n + 1, h1, h2 => by
    have h := m_sh_in (n := n) (fun i hi => h1 i (by omega)) (fun i hi => h2 i (by omega))
    have a := h1 n (by omega)
    have b := h2 n (by omega)
    have c := m_abs_in (x := f n - dy n) (by omega)
    rw [m_sh]
    split <;> omega
theorem m_wr_01 (σ T : Nat → Int) (yr hd ec : Int) (dy : Nat → Int) : m_wr σ T yr hd ec dy = 0 ∨ m_wr σ T yr hd ec dy = 1 := m_ite01 _
theorem m_wc_in (σ T P : Nat → Int) : ∀ n : Nat, 0 ≤ m_wc σ T P n ∧ m_wc σ T P n ≤ n
  | 0 => by simp [m_wc]
  | n + 1 => by
    have h := m_wc_in σ T P n
    have h2 := m_wr_01 σ T (P (11 * n)) (P (11 * n + 1)) (P (11 * n + 2)) (fun i => P (11 * n + 3 + i))
    rw [m_wc]
    omega
/-- steps of loops -/
theorem m_ce_step {ln fi pe nd b k0 k : Int} (h : k0 ≤ k) : m_ce ln fi pe nd b k0 (k + 1 - k0).toNat = m_ce ln fi pe nd b k0 (k - k0).toNat + m_en pe nd (m_tm ln fi k b) (m_rc b) := by
  have e : (k + 1 - k0).toNat = (k - k0).toNat + 1 := by omega
  have e2 : k0 + ((k - k0).toNat : Int) = k := by omega
  rw [e, m_ce, e2]
theorem m_fe_step {ln fi pe nd b k en : Int} (h : k < en) : m_fe ln fi pe nd b (en - k).toNat k = if m_en pe nd (m_tm ln fi k b) (m_rc b) = 1 then m_tm ln fi k b / 1000 else m_fe ln fi pe nd b (en - (k + 1)).toNat (k + 1) := by
  have e : (en - k).toNat = (en - (k + 1)).toNat + 1 := by omega
  rw [e, m_fe]
theorem m_fe_end {ln fi pe nd b k en : Int} (h : en ≤ k) : m_fe ln fi pe nd b (en - k).toNat k = -1 := by
  have e : (en - k).toNat = 0 := by omega
  rw [e, m_fe]
theorem m_chg_step (f dy : Nat → Int) {k : Int} (h : 0 ≤ k) : m_chg f dy (k + 1).toNat = m_chg f dy k.toNat + (if f k.toNat = dy k.toNat then 0 else 1) := by
  have e : (k + 1).toNat = k.toNat + 1 := by omega
  rw [e, m_chg]
theorem m_sh_step (f dy : Nat → Int) {k : Int} (h : 0 ≤ k) : m_sh f dy (k + 1).toNat = if m_sh f dy k.toNat < m_abs (f k.toNat - dy k.toNat) then m_abs (f k.toNat - dy k.toNat) else m_sh f dy k.toNat := by
  have e : (k + 1).toNat = k.toNat + 1 := by omega
  rw [e, m_sh]
theorem m_same_step (f : Nat → Int) (d : Int) {k : Int} (h : 0 ≤ k) : m_same f d (k + 1).toNat = m_same f d k.toNat + (if f k.toNat = d then 1 else 0) := by
  have e : (k + 1).toNat = k.toNat + 1 := by omega
  rw [e, m_same]
theorem m_pairs_step (f : Nat → Int) {k : Int} (h : 0 ≤ k) : m_pairs f (k + 1).toNat = m_pairs f k.toNat + m_same f (f k.toNat) k.toNat := by
  have e : (k + 1).toNat = k.toNat + 1 := by omega
  rw [e, m_pairs]
theorem m_wc_step (σ T P : Nat → Int) {k : Int} (h : 0 ≤ k) : m_wc σ T P (k + 1).toNat = m_wc σ T P k.toNat + m_wr σ T (P (11 * k.toNat)) (P (11 * k.toNat + 1)) (P (11 * k.toNat + 2)) (fun i => P (11 * k.toNat + 3 + i)) := by
  have e : (k + 1).toNat = k.toNat + 1 := by omega
  rw [e, m_wc]
/-- how large all this is -/
theorem m_d0_in {cy lq mo da y : Int} (hc : 1 ≤ cy) (hq : 0 ≤ lq ∧ lq ≤ cy) (hy : 0 ≤ y ∧ y ≤ 999) (hm : 0 ≤ mo ∧ mo ≤ 11) (hd : 0 ≤ da ∧ da ≤ 29) : 0 ≤ m_d0 cy lq mo da y ∧ m_d0 cy lq mo da y ≤ 366100 := by
  have h := m_fd_le (cy := cy) (lq := lq) (y := y) hc hq hy.1
  unfold m_d0
  omega
theorem m_d1_in {ln fi mn d : Int} (hL : 20000 ≤ ln ∧ ln ≤ 40000) (hF : 0 ≤ fi ∧ fi ≤ 39999) (hm : 0 ≤ mn ∧ mn ≤ 3) (hd : 0 ≤ d ∧ d ≤ 366100) : 0 ≤ m_d1 ln fi mn d ∧ m_d1 ln fi mn d ≤ 732500 := by
  unfold m_d1
  split
  · have h1 := m_ff_in (ln := ln) (fi := fi) (b := 1) (t := 1000 * d) hL
    have h2 := m_ff_up (ln := ln) (fi := fi) (b := 1) (t := 1000 * d) hL hF (by omega)
    have h3 := m_tm_in (ln := ln) (fi := fi) (b := 1) (k := m_ff ln fi 1 (1000 * d) + mn - 1) hL hF (by omega)
    omega
  · omega
theorem m_d2_in {wd d : Int} (hw : -1 ≤ wd ∧ wd ≤ 6) (hd : 0 ≤ d) : d ≤ m_d2 wd d ∧ m_d2 wd d ≤ d + 6 := by
  unfold m_d2
  split <;> omega
theorem m_fday_in {cy lq ln fi mo da mn wd off y : Int} (hc : 1 ≤ cy) (hq : 0 ≤ lq ∧ lq ≤ cy) (hL : 20000 ≤ ln ∧ ln ≤ 40000) (hF : 0 ≤ fi ∧ fi ≤ 39999) (hy : 0 ≤ y ∧ y ≤ 999) (hm : 0 ≤ mo ∧ mo ≤ 11) (hd : 0 ≤ da ∧ da ≤ 29) (hn : 0 ≤ mn ∧ mn ≤ 3) (hw : -1 ≤ wd ∧ wd ≤ 6) (ho : -60 ≤ off ∧ off ≤ 60) : -1000000 ≤ m_fday cy lq ln fi mo da mn wd off y ∧ m_fday cy lq ln fi mo da mn wd off y ≤ 1000000 := by
  have h0 := m_d0_in (cy := cy) (lq := lq) (mo := mo) (da := da) (y := y) hc hq hy hm hd
  have h1 := m_d1_in (ln := ln) (fi := fi) (mn := mn) (d := m_d0 cy lq mo da y) hL hF hn h0
  have h2 := m_d2_in (wd := wd) (d := m_d1 ln fi mn (m_d0 cy lq mo da y)) hw h1.1
  unfold m_fday
  omega
theorem m_F_in {σ T : Nat → Int} (hW : WF σ T) {i : Nat} (hi : (i : Int) < σ 6) {y : Int} (hy : 0 ≤ y ∧ y ≤ 999) : -1000000 ≤ m_F σ T i y ∧ m_F σ T i y ≤ 1000000 := by
  obtain ⟨w0, w1, w2, w3, -, -, -, -, w8⟩ := hW
  obtain ⟨a1, a2, a3, a4, a5⟩ := w8 i hi
  exact m_fday_in w0.1 w1 w2 w3 hy a1 a2 a3 a4 a5
theorem m_Eb_in {σ T : Nat → Int} (hW : WF σ T) {y b : Int} (hy : 0 ≤ y ∧ y ≤ 999) : 0 ≤ m_Eb σ y b ∧ m_Eb σ y b ≤ 40000 := by
  obtain ⟨w0, w1, w2, w3, -⟩ := hW
  have h1 := m_ce_in (σ 2) (σ 3) (σ 4) (σ 5) b (m_ff (σ 2) (σ 3) b (1000 * m_fd (σ 0) (σ 1) y)) (m_ff (σ 2) (σ 3) b (1000 * m_fd (σ 0) (σ 1) (y + 1)) - m_ff (σ 2) (σ 3) b (1000 * m_fd (σ 0) (σ 1) y)).toNat
  have h2 := m_fd_le (cy := σ 0) (lq := σ 1) (y := y + 1) w0.1 w1 (by omega)
  have h3 := m_ff_up (ln := σ 2) (fi := σ 3) (b := b) (t := 1000 * m_fd (σ 0) (σ 1) (y + 1)) w2 w3 (by omega)
  have h4 := m_ff_in (ln := σ 2) (fi := σ 3) (b := b) (t := 1000 * m_fd (σ 0) (σ 1) y) w2
  unfold m_Eb m_ec
  omega
theorem m_fe_in {ln fi pe nd b : Int} (hL : 20000 ≤ ln ∧ ln ≤ 40000) (hF : 0 ≤ fi ∧ fi ≤ 39999) : ∀ (n : Nat) (k : Int), 0 ≤ k → k + n ≤ 50000 → -1 ≤ m_fe ln fi pe nd b n k ∧ m_fe ln fi pe nd b n k ≤ 2100000
  | 0, k, _, _ => by simp [m_fe]
  | n + 1, k, h1, h2 => by
    have h3 := m_fe_in (pe := pe) (nd := nd) (b := b) hL hF n (k + 1) (by omega) (by omega)
    have h4 := m_tm_in (ln := ln) (fi := fi) (b := b) (k := k) hL hF h1
    rw [m_fe]
    split <;> omega
