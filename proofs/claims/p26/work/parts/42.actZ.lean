/-! ===== act ===== -/
theorem g_act (l : Launch) (D : va_G) (sz : Nat) (ed : Nat × Nat × Nat) (cI cO cL : ClassId) (g z : Nat → Nat) (σ T P : Nat → Int) (x : Int) (hLW : LW σ T P) (hx : -2147483648 ≤ x ∧ x < 2147483648) (he6 : σ 6 = 0 → g 6 = ed.1) (he7 : σ 7 = 0 → g 7 = ed.1) (hco : 0 ≤ σ 10 ∧ σ 10 ≤ σ 9 ∧ σ 9 ≤ 1000) : MGp l yL_act wsL_act 6 139 5 60 D (ty3 cI cO cL) sz (WC cI cO g σ T P ++ WZ cI cL z σ T P) [.ref (g 0), .ref (z 0), .int (iI (x))] ed (1) (ActK g z ed σ T P x) (fun (u : AS) => WC cI cO u.1 u.2.2.1 u.2.2.2.1 u.2.2.2.2 ++ WZ cI cL u.2.1 u.2.2.1 u.2.2.2.1 u.2.2.2.2) := by
  have hb := m_bl_in (m_sr (x) (9)) (n := 8) (by omega)
  have h : (m_bl (m_sr (x) (9)) (8) = 0 ∨ m_bl (m_sr (x) (9)) (8) = 1) ∨ (m_bl (m_sr (x) (9)) (8) = 2 ∨ m_bl (m_sr (x) (9)) (8) = 3) ∨ m_bl (m_sr (x) (9)) (8) = 4 ∨ m_bl (m_sr (x) (9)) (8) = 5 ∨ m_bl (m_sr (x) (9)) (8) = 6 ∨ m_bl (m_sr (x) (9)) (8) = 7 := by omega
  rcases h with h | h | h | h | h | h
  · exact g_act0 l D sz ed cI cO cL g z σ T P x hLW hx he6 he7 hco h
  · exact g_act2 l D sz ed cI cO cL g z σ T P x hLW hx he6 he7 hco h
  · exact g_act4 l D sz ed cI cO cL g z σ T P x hLW hx he6 he7 hco h
  · exact g_act5 l D sz ed cI cO cL g z σ T P x hLW hx he6 he7 hco h
  · exact g_act6 l D sz ed cI cO cL g z σ T P x hLW hx he6 he7 hco h
  · by_cases h2 : m_bl (m_sr (x) (4)) (2) = 0
    · exact g_act7a l D sz ed cI cO cL g z σ T P x hLW hx he6 he7 hco h h2
    · exact g_act7b l D sz ed cI cO cL g z σ T P x hLW hx he6 he7 hco h h2
