/-! ===== the mean year: no number here is a NaN ===== -/
def fgood : FP.Core.Datum → Prop
  | .nan => False
  | .inf _ => True
  | .fin _ c q => c < 9007199254740992 ∧ q ≤ 971
theorem fgood_bound {s : Bool} {c : Nat} {q : Int} (h : c < 9007199254740992) : fgood (FP.Core.bound FP.Core.b64 s c q) := by
  unfold FP.Core.bound
  have e : FP.Core.b64.qmax = 971 := by decide
  split
  · rename_i hq
    rw [e] at hq
    exact ⟨h, hq⟩
  · exact trivial
theorem fgood_settle {s : Bool} {c : Nat} {q : Int} : fgood (FP.Core.settle FP.Core.b64 s c q) := by
  unfold FP.Core.settle
  split
  · rename_i h
    exact fgood_bound h
  · exact fgood_bound (by decide)
theorem fgood_ratio {s : Bool} {n d : Nat} {e : Int} : fgood (FP.Core.roundRatio FP.Core.b64 s n d e) := by
  unfold FP.Core.roundRatio
  split
  · exact ⟨by decide, by decide⟩
  · exact fgood_settle
theorem fgood_enc {d : FP.Core.Datum} (h : fgood d) : FP.Core.encode FP.Core.b64 d % 9223372036854775808 ≤ 9218868437227405312 ∧ FP.Core.encode FP.Core.b64 d < 18446744073709551616 := by
  have e1 : FP.Core.b64.tails = 4503599627370496 := by decide
  have e2 : FP.Core.b64.exps = 2048 := by decide
  have e3 : FP.Core.b64.qmin = -1074 := by decide
  cases d with
  | nan => exact h.elim
  | inf s =>
    unfold FP.Core.encode FP.Core.assemble
    rw [e1, e2]
    cases s <;> decide
  | fin s c q =>
    obtain ⟨h1, h2⟩ := h
    unfold FP.Core.encode FP.Core.assemble
    simp only [e1, e2, e3]
    split
    · cases s
      · simp only [Bool.toNat_false]; omega
      · simp only [Bool.toNat_true]; omega
    · cases s
      · simp only [Bool.toNat_false]; omega
      · simp only [Bool.toNat_true]; omega
theorem fn64 {n : Nat} (h : n % 9223372036854775808 ≤ 9218868437227405312 ∧ n < 18446744073709551616) : vf_n64 (UInt64.ofNat n) := by
  unfold vf_n64
  rw [UInt64.le_iff_toNat_le, UInt64.toNat_and]
  have e1 : (UInt64.ofNat n).toNat = n := by
    rw [UInt64.toNat_ofNat']
    exact Nat.mod_eq_of_lt h.2
  rw [e1]
  show n &&& (2 ^ 63 - 1) ≤ 9218868437227405312
  rw [Nat.and_two_pow_sub_one_eq_mod]
  exact h.1
def fisfin : FP.Core.Datum → Bool
  | .fin _ _ _ => true
  | _ => false
def fisfin0 : FP.Core.Datum → Bool
  | .fin _ c _ => c != 0
  | _ => false
theorem f_tab : (List.range 401).all (fun a => fisfin (FP.Core.decode FP.Core.b64 (FP.i2d (iI a)).toNat)) = true := by decide +kernel
theorem f_tab0 : (List.range 400).all (fun a => fisfin0 (FP.Core.decode FP.Core.b64 (FP.i2d (iI ((a : Int) + 1))).toNat)) = true := by decide +kernel
theorem f_tab365 : fisfin (FP.Core.decode FP.Core.b64 (4645128764097822720 : UInt64).toNat) = true := by decide +kernel
theorem f_fin {a : Int} (h : 0 ≤ a ∧ a ≤ 400) : ∃ s c q, FP.Core.decode FP.Core.b64 (FP.i2d (iI a)).toNat = .fin s c q := by
  have h1 := List.all_eq_true.mp f_tab a.toNat (List.mem_range.mpr (by omega))
  rw [show ((a.toNat : Nat) : Int) = a by omega] at h1
  cases hd : FP.Core.decode FP.Core.b64 (FP.i2d (iI a)).toNat with
  | fin s c q => exact ⟨s, c, q, rfl⟩
  | nan => rw [hd] at h1; cases h1
  | inf s => rw [hd] at h1; cases h1
theorem f_fin0 {a : Int} (h : 1 ≤ a ∧ a ≤ 400) : ∃ s c q, FP.Core.decode FP.Core.b64 (FP.i2d (iI a)).toNat = .fin s c q ∧ c ≠ 0 := by
  have h1 := List.all_eq_true.mp f_tab0 (a - 1).toNat (List.mem_range.mpr (by omega))
  rw [show (((a - 1).toNat : Nat) : Int) + 1 = a by omega] at h1
  cases hd : FP.Core.decode FP.Core.b64 (FP.i2d (iI a)).toNat with
  | fin s c q =>
    rw [hd] at h1
    refine ⟨s, c, q, rfl, ?_⟩
    intro hc
    subst hc
    simp [fisfin0] at h1
  | nan => rw [hd] at h1; cases h1
  | inf s => rw [hd] at h1; cases h1
theorem f_quot {a b : Int} (ha : 0 ≤ a ∧ a ≤ 400) (hb : 1 ≤ b ∧ b ≤ 400) : fgood (FP.Core.quotient FP.Core.b64 (FP.Core.decode FP.Core.b64 (FP.i2d (iI a)).toNat) (FP.Core.decode FP.Core.b64 (FP.i2d (iI b)).toNat)) := by
  obtain ⟨s1, c1, q1, e1⟩ := f_fin ha
  obtain ⟨s2, c2, q2, e2, hne⟩ := f_fin0 hb
  rw [e1, e2]
  show fgood (if c2 = 0 then (if c1 = 0 then FP.Core.Datum.nan else .inf (s1 != s2)) else FP.Core.roundRatio FP.Core.b64 (s1 != s2) c1 c2 (q1 - q2))
  rw [if_neg hne]
  exact fgood_ratio
theorem f_div {a b : Int} (ha : 0 ≤ a ∧ a ≤ 400) (hb : 1 ≤ b ∧ b ≤ 400) : vf_n64 (FP.ddiv (FP.i2d (iI a)) (FP.i2d (iI b))) := fn64 (fgood_enc (f_quot ha hb))
theorem f_dec {n : Nat} (h : n % 9223372036854775808 ≤ 9218868437227405312) : FP.Core.decode FP.Core.b64 n ≠ .nan := by
  have e1 : FP.Core.b64.tails = 4503599627370496 := by decide
  have e2 : FP.Core.b64.exps = 2048 := by decide
  unfold FP.Core.decode FP.Core.fieldE FP.Core.fieldT
  rw [e1, e2]
  intro hn
  split at hn
  · split at hn
    · cases hn
    · omega
  · split at hn <;> cases hn
theorem f_mean {a b : Int} (ha : 0 ≤ a ∧ a ≤ 400) (hb : 1 ≤ b ∧ b ≤ 400) : vf_n64 (FP.dadd 4645128764097822720 (FP.ddiv (FP.i2d (iI a)) (FP.i2d (iI b)))) := by
  have hg := fgood_enc (f_quot ha hb)
  have e : (FP.ddiv (FP.i2d (iI a)) (FP.i2d (iI b))).toNat = FP.Core.encode FP.Core.b64 (FP.Core.quotient FP.Core.b64 (FP.Core.decode FP.Core.b64 (FP.i2d (iI a)).toNat) (FP.Core.decode FP.Core.b64 (FP.i2d (iI b)).toNat)) := by
    show (UInt64.ofNat _).toNat = _
    rw [UInt64.toNat_ofNat']
    exact Nat.mod_eq_of_lt hg.2
  have hd := f_dec hg.1
  refine fn64 (fgood_enc ?_)
  rw [e]
  cases h1 : FP.Core.decode FP.Core.b64 (4645128764097822720 : UInt64).toNat with
  | nan => have := f_tab365; rw [h1] at this; cases this
  | inf s => have := f_tab365; rw [h1] at this; cases this
  | fin s c q =>
    cases h2 : FP.Core.decode FP.Core.b64 (FP.Core.encode FP.Core.b64 (FP.Core.quotient FP.Core.b64 (FP.Core.decode FP.Core.b64 (FP.i2d (iI a)).toNat) (FP.Core.decode FP.Core.b64 (FP.i2d (iI b)).toNat))) with
    | nan => exact absurd h2 hd
    | inf t => exact trivial
    | fin t c2 q2 => exact fgood_ratio
def m_mean (σ : Nat → Int) : UInt64 := FP.dadd 4645128764097822720 (FP.ddiv (FP.i2d (iI (σ 1))) (FP.i2d (iI (σ 0))))
/-! ===== checksums ===== -/
def d_t (f : Nat → Int) (d : Int64) : Nat → Int64
  | 0 => d
  | n + 1 => d_t f d n * 31 + (iI (f n)).toInt64
def d_s (σ T P : Nat → Int) (d : Int64) : Nat → Int64
  | 0 => d
  | n + 1 => d_t (fun i => P (11 * n + 3 + i)) (d_t (fun w => m_told σ T P n (w : Int)) (d_s σ T P d n) 5) (P (11 * n + 1)).toNat
def m_digest (σ T P : Nat → Int) : Int64 := d_s σ T P (d_t T (d_t (fun w => m_count σ T P (w : Int)) 827 11) (5 * (σ 6).toNat)) (σ 7).toNat
theorem d_t_step (f : Nat → Int) (d : Int64) {k : Int} (h : 0 ≤ k) : d_t f d (k + 1).toNat = d_t f d k.toNat * 31 + (iI (f k.toNat)).toInt64 := by
  have e : (k + 1).toNat = k.toNat + 1 := by omega
  rw [e, d_t]
theorem d_t_five (f : Nat → Int) (d : Int64) {k : Int} (h : 0 ≤ k) : d_t f d (5 * (k + 1).toNat) = ((((d_t f d (5 * k.toNat) * 31 + (iI (f (5 * k.toNat))).toInt64) * 31 + (iI (f (5 * k.toNat + 1))).toInt64) * 31 + (iI (f (5 * k.toNat + 2))).toInt64) * 31 + (iI (f (5 * k.toNat + 3))).toInt64) * 31 + (iI (f (5 * k.toNat + 4))).toInt64 := by
  have e : 5 * (k + 1).toNat = 5 * k.toNat + 1 + 1 + 1 + 1 + 1 := by omega
  rw [e, d_t, d_t, d_t, d_t, d_t]
theorem d_s_step (σ T P : Nat → Int) (d : Int64) {k : Int} (h : 0 ≤ k) : d_s σ T P d (k + 1).toNat = d_t (fun i => P (11 * k.toNat + 3 + i)) (d_t (fun w => m_told σ T P k.toNat (w : Int)) (d_s σ T P d k.toNat) 5) (P (11 * k.toNat + 1)).toNat := by
  have e : (k + 1).toNat = k.toNat + 1 := by omega
  rw [e, d_s]
