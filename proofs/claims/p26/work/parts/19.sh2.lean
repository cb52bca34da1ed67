/-! ===== how far a sheet is off: a closer bound ===== -/
theorem m_sh_in2 {f dy : Nat → Int} : ∀ {n : Nat}, (∀ i, i < n → -1000000 ≤ f i ∧ f i ≤ 1000000) → (∀ i, i < n → -1000000 ≤ dy i ∧ dy i ≤ 1000000) → 0 ≤ m_sh f dy n ∧ m_sh f dy n ≤ 2000000
  | 0, _, _ => by simp [m_sh]
  | n + 1, h1, h2 => by
    have h := m_sh_in2 (n := n) (fun i hi => h1 i (by omega)) (fun i hi => h2 i (by omega))
    have a := h1 n (by omega)
    have b := h2 n (by omega)
    have c : m_abs (f n - dy n) ≤ 2000000 := by
      unfold m_abs
      split <;> omega
    rw [m_sh]
    split <;> omega
