/-! ===== a new feast, a new sheet: the first one and later ones ===== -/
theorem t_addFeast (l : Launch) (D : va_G) (sz : Nat) (ed : Nat × Nat × Nat) (cI cO cL : ClassId) (g : Nat → Nat) (σ T P : Nat → Int) (hW : WF σ T) (hS0 : WS σ P) (he6 : σ 6 = 0 → g 6 = ed.1) (he7 : σ 7 = 0 → g 7 = ed.1)  (mo da mn wd of : Int) (h0 : 0 ≤ mo ∧ mo ≤ 11) (h1 : 0 ≤ da ∧ da ≤ 29) (h2 : 0 ≤ mn ∧ mn ≤ 3) (h3 : -1 ≤ wd ∧ wd ≤ 6) (h4 : -60 ≤ of ∧ of ≤ 60) (h8 : σ 6 ≠ 8) : MT l yX5_addFeast wsX5_addFeast 5 108 2 15 D cI cO cL sz g σ T P [.ref (g 0), .int (iI (mo)), .int (iI (da)), .int (iI (mn)), .int (iI (wd)), .int (iI (of))] ed (σ 6) (st σ 6 (σ 6 + 1)) (m_tp T (σ 6).toNat mo da mn wd of) (P) := by
  by_cases hc6 : σ 6 = 0
  · exact t_addFeastA l D sz ed cI cO cL g σ T P hW hS0 he6 he7 hc6 mo da mn wd of h0 h1 h2 h3 h4 h8
  · exact t_addFeastB l D sz ed cI cO cL g σ T P hW hS0 he6 he7 (by have := hW.2.2.2.2.2.2; omega) mo da mn wd of h0 h1 h2 h3 h4 h8
theorem t_print (l : Launch) (D : va_G) (sz : Nat) (ed : Nat × Nat × Nat) (cI cO cL : ClassId) (g : Nat → Nat) (σ T P : Nat → Int) (hW : WF σ T) (hS0 : WS σ P) (he6 : σ 6 = 0 → g 6 = ed.1) (he7 : σ 7 = 0 → g 7 = ed.1)  (hp0 : ∀ i : Nat, 11 * (σ 7).toNat ≤ i → P i = 0) (y : Int) (hy : 0 ≤ y ∧ y < 1000) (h10 : σ 7 ≠ 10) : MT l yX5_print wsX5_print 5 108 3 22 D cI cO cL sz g σ T P [.ref (g 0), .int (iI (y))] ed (σ 7) (st σ 7 (σ 7 + 1)) (T) (m_fl σ T P (11 * (σ 7).toNat) y (σ 6).toNat) := by
  by_cases hc7 : σ 7 = 0
  · exact t_printA l D sz ed cI cO cL g σ T P hW hS0 he6 he7 hc7 hp0 y hy h10
  · exact t_printB l D sz ed cI cO cL g σ T P hW hS0 he6 he7 (by have := hW.2.2.2.2.2.2; omega) hp0 y hy h10
