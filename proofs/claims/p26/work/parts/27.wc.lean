/-! ===== the class's world behind a new feast, a new sheet, a sheet written anew ===== -/
theorem arrV_cg {cI : ClassId} {N : Nat} {f f' : Nat → Value} (h : ∀ i, i < N → f i = f' i) : arrV cI N f = arrV cI N f' := by
  unfold arrV
  have e : (fun j : Fin N => f j.val) = fun j : Fin N => f' j.val := funext fun j => h j.val j.isLt
  rw [e]
theorem vaP_days {D : va_G} {a : Nat} {cI : ClassId} {f f' : Nat → Int} {H : Heap} (h : ∀ i, i < 8 → f i = f' i) (ha : va_at D vwCl (a, .inl (cI, 8, .inl (fun i => iI (f i)))) H) : va_at D vwCl (a, .inl (cI, 8, .inl (fun i => iI (f' i)))) H := by
  show H[a]? = some (arrV cI 8 (fun j => .int (iI (f' j))))
  rw [← arrV_cg (f := fun j => .int (iI (f j))) (fun i hi => by rw [h i hi])]
  exact ha
theorem va_of_perm {D : va_G} {A : Nat → Prop} {ws ws' : va_W} {H : Heap} (hp : ws'.Perm ws) (hP : va_P D vwCl ws H) (hD : va_D A ws) : va_P D vwCl ws' H ∧ va_D A ws' := ⟨vaP_mems hP (fun q hq => hp.mem_iff.mp hq), vaD_perm hD (hp.map _)⟩
/-- a feast more: its address, and its list's row -/
def gF (g : Nat → Nat) (n u q : Nat) : Nat → Nat := fun k => if k = 10 + n then q else if k = 6 then u else g k
def m_tp (T : Nat → Int) (n : Nat) (mo da mn wd of : Int) : Nat → Int := fun i => if i = 5 * n then mo else if i = 5 * n + 1 then da else if i = 5 * n + 2 then mn else if i = 5 * n + 3 then wd else if i = 5 * n + 4 then of else T i
theorem gF_ne {g : Nat → Nat} {n u q k : Nat} (h1 : k ≠ 10 + n) (h2 : k ≠ 6) : gF g n u q k = g k := by
  unfold gF
  rw [if_neg h1, if_neg h2]
theorem WC_feast {cI cO : ClassId} {g : Nat → Nat} {σ T P : Nat → Int} {n u q : Nat} {fA : Nat → Option Nat} {mo da mn wd of : Int} (hn : n = (σ 6).toNat) (h6 : 0 ≤ σ 6 ∧ σ 6 < 8) (h7 : 0 ≤ σ 7 ∧ σ 7 ≤ 10) (hf : ∀ j, fA j = if j < n then some (g (10 + j)) else none) :
    WC cI cO (gF g n u q) (st σ 6 (σ 6 + 1)) (m_tp T n mo da mn wd of) P = (([(g 0, .inr (7, [.ref (g 1), .ref (g 2), .ref (g 3), .ref (g 4), .ref (g 5), .int (iI (σ 9)), .int (iI (σ 10))])), (g 1, .inr (6, [.int (iI (σ 0)), .int (iI (σ 1))])), (g 2, .inr (3, [.int (iI (σ 2)), .int (iI (σ 3))])), (g 3, .inr (4, [.int (iI (σ 4)), .int (iI (σ 5))])), (g 4, .inr (1, [.int (iI (σ 6 + 1)), .ref u, .int (iI (σ 6 + 1))])), (g 5, .inr (1, [.int (iI (σ 7)), .ref (g 7), .int (iI (σ 7))])), (u, .inl (cO, 10, .inr (.inr (.inr (.inr (va_up fA n (some q)))))))] : va_W) ++ (wFe g T n ++ [(q, .inr (2, [.int (iI mo), .int (iI da), .int (iI mn), .int (iI wd), .int (iI of)]))])) ++ WH cI cO g σ P := by
  have hg : ∀ k, k ≠ 10 + n → k ≠ 6 → gF g n u q k = g k := fun k h1 h2 => gF_ne h1 h2
  have hg6 : gF g n u q 6 = u := by
    unfold gF
    rw [if_neg (by omega), if_pos rfl]
  have hgq : gF g n u q (10 + n) = q := by
    unfold gF
    rw [if_pos rfl]
  have e1 : wPre (gF g n u q) (st σ 6 (σ 6 + 1)) = [(g 0, .inr (7, [.ref (g 1), .ref (g 2), .ref (g 3), .ref (g 4), .ref (g 5), .int (iI (σ 9)), .int (iI (σ 10))])), (g 1, .inr (6, [.int (iI (σ 0)), .int (iI (σ 1))])), (g 2, .inr (3, [.int (iI (σ 2)), .int (iI (σ 3))])), (g 3, .inr (4, [.int (iI (σ 4)), .int (iI (σ 5))])), (g 4, .inr (1, [.int (iI (σ 6 + 1)), .ref u, .int (iI (σ 6 + 1))])), (g 5, .inr (1, [.int (iI (σ 7)), .ref (g 7), .int (iI (σ 7))]))] := by
    unfold wPre
    rw [hg6, hg 0 (by omega) (by omega), hg 1 (by omega) (by omega), hg 2 (by omega) (by omega), hg 3 (by omega) (by omega), hg 4 (by omega) (by omega), hg 5 (by omega) (by omega), hg 7 (by omega) (by omega)]
    rfl
  have e6 : (st σ 6 (σ 6 + 1) 6).toNat = n + 1 := by
    rw [st_eq]
    omega
  have e2 : wAr cO (gF g n u q) 6 (n + 1) 10 = [(u, .inl (cO, 10, .inr (.inr (.inr (.inr (va_up fA n (some q)))))))] := by
    unfold wAr
    rw [if_neg (by omega), hg6]
    have e : (fun j => if j < n + 1 then some (gF g n u q (10 + j)) else none) = va_up fA n (some q) := by
      funext j
      unfold va_up
      by_cases h : j = n
      · subst h
        rw [if_pos (by omega), if_pos rfl, hgq]
      · rw [if_neg h, hf]
        by_cases h2 : j < n
        · rw [if_pos (by omega), if_pos h2, hg (10 + j) (by omega) (by omega)]
        · rw [if_neg (by omega), if_neg h2]
    rw [e]
  have e3 : wFe (gF g n u q) (m_tp T n mo da mn wd of) (n + 1) = wFe g T n ++ [(q, .inr (2, [.int (iI mo), .int (iI da), .int (iI mn), .int (iI wd), .int (iI of)]))] := by
    unfold wFe
    rw [List.range_succ, List.map_append]
    have ea : (List.range n).map (fun i => ((gF g n u q (10 + i), .inr (2, [.int (iI (m_tp T n mo da mn wd of (5 * i))), .int (iI (m_tp T n mo da mn wd of (5 * i + 1))), .int (iI (m_tp T n mo da mn wd of (5 * i + 2))), .int (iI (m_tp T n mo da mn wd of (5 * i + 3))), .int (iI (m_tp T n mo da mn wd of (5 * i + 4)))])) : Nat × va_E)) = (List.range n).map (fun i => (g (10 + i), .inr (2, [.int (iI (T (5 * i))), .int (iI (T (5 * i + 1))), .int (iI (T (5 * i + 2))), .int (iI (T (5 * i + 3))), .int (iI (T (5 * i + 4)))]))) := by
      apply List.map_congr_left
      intro i hi
      have hin := List.mem_range.mp hi
      have ht : ∀ k, k < 5 → m_tp T n mo da mn wd of (5 * i + k) = T (5 * i + k) := by
        intro k hk
        unfold m_tp
        rw [if_neg (by omega), if_neg (by omega), if_neg (by omega), if_neg (by omega), if_neg (by omega)]
      have h0 := ht 0 (by omega)
      rw [Nat.add_zero] at h0
      rw [h0, ht 1 (by omega), ht 2 (by omega), ht 3 (by omega), ht 4 (by omega), hg (10 + i) (by omega) (by omega)]
    rw [ea]
    congr 1
    rw [List.map_cons, List.map_nil, hgq]
    have f0 : m_tp T n mo da mn wd of (5 * n) = mo := by
      unfold m_tp
      rw [if_pos rfl]
    have f1 : m_tp T n mo da mn wd of (5 * n + 1) = da := by
      unfold m_tp
      rw [if_neg (by omega), if_pos rfl]
    have f2 : m_tp T n mo da mn wd of (5 * n + 2) = mn := by
      unfold m_tp
      rw [if_neg (by omega), if_neg (by omega), if_pos rfl]
    have f3 : m_tp T n mo da mn wd of (5 * n + 3) = wd := by
      unfold m_tp
      rw [if_neg (by omega), if_neg (by omega), if_neg (by omega), if_pos rfl]
    have f4 : m_tp T n mo da mn wd of (5 * n + 4) = of := by
      unfold m_tp
      rw [if_neg (by omega), if_neg (by omega), if_neg (by omega), if_neg (by omega), if_pos rfl]
    rw [f0, f1, f2, f3, f4]
  have e7 : st σ 6 (σ 6 + 1) 7 = σ 7 := st_ne (by omega)
  have e4 : WH cI cO (gF g n u q) (st σ 6 (σ 6 + 1)) P = WH cI cO g σ P := by
    unfold WH wAr wSo wSd
    rw [e7, hg 7 (by omega) (by omega)]
    have ea : ∀ b, 20 ≤ b → (fun j => gF g n u q (b + j)) = fun j => g (b + j) := fun b hb => funext fun j => hg (b + j) (by omega) (by omega)
    have eb : ∀ j, gF g n u q (20 + j) = g (20 + j) := fun j => hg (20 + j) (by omega) (by omega)
    have ec : ∀ j, gF g n u q (40 + j) = g (40 + j) := fun j => hg (40 + j) (by omega) (by omega)
    simp only [eb, ec]
  unfold WC WB
  rw [e4, e6, e1, e2, e3]
  simp only [List.cons_append, List.nil_append, List.append_assoc]
/-- a sheet more -/
def gS (g : Nat → Nat) (n u q r : Nat) : Nat → Nat := fun k => if k = 40 + n then r else if k = 20 + n then q else if k = 7 then u else g k
theorem gS_ne {g : Nat → Nat} {n u q r k : Nat} (h0 : k ≠ 40 + n) (h1 : k ≠ 20 + n) (h2 : k ≠ 7) : gS g n u q r k = g k := by
  unfold gS
  rw [if_neg h0, if_neg h1, if_neg h2]
theorem WC_sheet {cI cO : ClassId} {g : Nat → Nat} {σ T P P' : Nat → Int} {n u q r : Nat} {fA : Nat → Option Nat} (hn : n = (σ 7).toNat) (h6 : 0 ≤ σ 6 ∧ σ 6 ≤ 8) (h7 : 0 ≤ σ 7 ∧ σ 7 < 10) (hf : ∀ j, fA j = if j < n then some (g (20 + j)) else none) (hPo : ∀ i, i < 11 * n → P' i = P i) :
    WC cI cO (gS g n u q r) (st σ 7 (σ 7 + 1)) T P' = (([(g 0, .inr (7, [.ref (g 1), .ref (g 2), .ref (g 3), .ref (g 4), .ref (g 5), .int (iI (σ 9)), .int (iI (σ 10))])), (g 1, .inr (6, [.int (iI (σ 0)), .int (iI (σ 1))])), (g 2, .inr (3, [.int (iI (σ 2)), .int (iI (σ 3))])), (g 3, .inr (4, [.int (iI (σ 4)), .int (iI (σ 5))])), (g 4, .inr (1, [.int (iI (σ 6)), .ref (g 6), .int (iI (σ 6))])), (g 5, .inr (1, [.int (iI (σ 7 + 1)), .ref u, .int (iI (σ 7 + 1))]))] : va_W) ++ (wAr cO g 6 (σ 6).toNat 10 ++ wFe g T (σ 6).toNat)) ++ ([(u, .inl (cO, 10, .inr (.inr (.inr (.inr (va_up fA n (some q)))))))] ++ ((wSo g P n ++ [(q, .inr (5, [.int (iI (P' (11 * n))), .ref r, .int (iI (P' (11 * n + 1))), .int (iI (P' (11 * n + 2)))]))]) ++ (wSd cI g P' n ++ [(r, .inl (cI, 8, .inl (fun i => iI (P' (11 * n + 3 + i)))))]))) := by
  have hg : ∀ k, k ≠ 40 + n → k ≠ 20 + n → k ≠ 7 → gS g n u q r k = g k := fun k h0 h1 h2 => gS_ne h0 h1 h2
  have hg7 : gS g n u q r 7 = u := by
    unfold gS
    rw [if_neg (by omega), if_neg (by omega), if_pos rfl]
  have hgq : gS g n u q r (20 + n) = q := by
    unfold gS
    rw [if_neg (by omega), if_pos rfl]
  have hgr : gS g n u q r (40 + n) = r := by
    unfold gS
    rw [if_pos rfl]
  have e1 : wPre (gS g n u q r) (st σ 7 (σ 7 + 1)) = [(g 0, .inr (7, [.ref (g 1), .ref (g 2), .ref (g 3), .ref (g 4), .ref (g 5), .int (iI (σ 9)), .int (iI (σ 10))])), (g 1, .inr (6, [.int (iI (σ 0)), .int (iI (σ 1))])), (g 2, .inr (3, [.int (iI (σ 2)), .int (iI (σ 3))])), (g 3, .inr (4, [.int (iI (σ 4)), .int (iI (σ 5))])), (g 4, .inr (1, [.int (iI (σ 6)), .ref (g 6), .int (iI (σ 6))])), (g 5, .inr (1, [.int (iI (σ 7 + 1)), .ref u, .int (iI (σ 7 + 1))]))] := by
    unfold wPre
    rw [hg7, hg 0 (by omega) (by omega) (by omega), hg 1 (by omega) (by omega) (by omega), hg 2 (by omega) (by omega) (by omega), hg 3 (by omega) (by omega) (by omega), hg 4 (by omega) (by omega) (by omega), hg 5 (by omega) (by omega) (by omega), hg 6 (by omega) (by omega) (by omega)]
    rfl
  have e6 : st σ 7 (σ 7 + 1) 6 = σ 6 := st_ne (by omega)
  have e7 : (st σ 7 (σ 7 + 1) 7).toNat = n + 1 := by
    rw [st_eq]
    omega
  have e2 : wAr cO (gS g n u q r) 7 (n + 1) 20 = [(u, .inl (cO, 10, .inr (.inr (.inr (.inr (va_up fA n (some q)))))))] := by
    unfold wAr
    rw [if_neg (by omega), hg7]
    have e : (fun j => if j < n + 1 then some (gS g n u q r (20 + j)) else none) = va_up fA n (some q) := by
      funext j
      unfold va_up
      by_cases h : j = n
      · subst h
        rw [if_pos (by omega), if_pos rfl, hgq]
      · rw [if_neg h, hf]
        by_cases h2 : j < n
        · rw [if_pos (by omega), if_pos h2, hg (20 + j) (by omega) (by omega) (by omega)]
        · rw [if_neg (by omega), if_neg h2]
    rw [e]
  have eF : wAr cO (gS g n u q r) 6 (σ 6).toNat 10 ++ wFe (gS g n u q r) T (σ 6).toNat = wAr cO g 6 (σ 6).toNat 10 ++ wFe g T (σ 6).toNat := by
    have ea : wFe (gS g n u q r) T (σ 6).toNat = wFe g T (σ 6).toNat := by
      unfold wFe
      apply List.map_congr_left
      intro i hi
      have hin := List.mem_range.mp hi
      rw [hg (10 + i) (by omega) (by omega) (by omega)]
    have eb : wAr cO (gS g n u q r) 6 (σ 6).toNat 10 = wAr cO g 6 (σ 6).toNat 10 := by
      unfold wAr
      rw [hg 6 (by omega) (by omega) (by omega)]
      have e : (fun j => if j < (σ 6).toNat then some (gS g n u q r (10 + j)) else none) = fun j => if j < (σ 6).toNat then some (g (10 + j)) else none := by
        funext j
        by_cases h2 : j < (σ 6).toNat
        · rw [if_pos h2, if_pos h2, hg (10 + j) (by omega) (by omega) (by omega)]
        · rw [if_neg h2, if_neg h2]
      rw [e]
    rw [ea, eb]
  have e3 : wSo (gS g n u q r) P' (n + 1) = wSo g P n ++ [(q, .inr (5, [.int (iI (P' (11 * n))), .ref r, .int (iI (P' (11 * n + 1))), .int (iI (P' (11 * n + 2)))]))] := by
    unfold wSo
    rw [List.range_succ, List.map_append]
    have ea : (List.range n).map (fun j => ((gS g n u q r (20 + j), .inr (5, [.int (iI (P' (11 * j))), .ref (gS g n u q r (40 + j)), .int (iI (P' (11 * j + 1))), .int (iI (P' (11 * j + 2)))])) : Nat × va_E)) = (List.range n).map (fun j => (g (20 + j), .inr (5, [.int (iI (P (11 * j))), .ref (g (40 + j)), .int (iI (P (11 * j + 1))), .int (iI (P (11 * j + 2)))]))) := by
      apply List.map_congr_left
      intro j hj
      have hin := List.mem_range.mp hj
      rw [hPo (11 * j) (by omega), hPo (11 * j + 1) (by omega), hPo (11 * j + 2) (by omega), hg (20 + j) (by omega) (by omega) (by omega), hg (40 + j) (by omega) (by omega) (by omega)]
    rw [ea]
    congr 1
    rw [List.map_cons, List.map_nil, hgq, hgr]
  have e4 : wSd cI (gS g n u q r) P' (n + 1) = wSd cI g P' n ++ [(r, .inl (cI, 8, .inl (fun i => iI (P' (11 * n + 3 + i)))))] := by
    unfold wSd
    rw [List.range_succ, List.map_append]
    have ea : (List.range n).map (fun j => ((gS g n u q r (40 + j), .inl (cI, 8, .inl (fun i => iI (P' (11 * j + 3 + i))))) : Nat × va_E)) = (List.range n).map (fun j => ((g (40 + j), .inl (cI, 8, .inl (fun i => iI (P' (11 * j + 3 + i))))) : Nat × va_E)) := by
      apply List.map_congr_left
      intro j hj
      have hin := List.mem_range.mp hj
      rw [hg (40 + j) (by omega) (by omega) (by omega)]
    rw [ea]
    congr 1
    rw [List.map_cons, List.map_nil, hgr]
  unfold WC WB WH
  rw [e6, e7, e1, e2, eF, e3, e4]

/-- what the paper holds behind a writing -/
theorem m_fl_at {σ T P : Nat → Int} {b k : Nat} {y : Int} : m_fl σ T P b y k b = y ∧ m_fl σ T P b y k (b + 1) = σ 6 ∧ m_fl σ T P b y k (b + 2) = m_E σ y := by
  refine ⟨?_, ?_, ?_⟩ <;> unfold m_fl
  · rw [if_pos rfl]
  · rw [if_neg (by omega), if_pos rfl]
  · rw [if_neg (by omega), if_neg (by omega), if_pos rfl]
def m_dy (σ T dy : Nat → Int) (y : Int) (k : Nat) : Nat → Int := fun i => if i < k then m_F σ T i y else dy i
theorem m_dy_st (σ T dy : Nat → Int) (y : Int) {k : Int} (h : 0 ≤ k) : st (m_dy σ T dy y k.toNat) k.toNat (m_F σ T k.toNat y) = m_dy σ T dy y (k + 1).toNat := by
  funext i
  by_cases hi : i = k.toNat
  · subst hi
    rw [st_eq]
    unfold m_dy
    rw [if_pos (by omega)]
  · rw [st_ne hi]
    unfold m_dy
    (repeat' split) <;> first | rfl | (exfalso; omega)
theorem m_dy_0 (σ T dy : Nat → Int) (y : Int) : m_dy σ T dy y 0 = dy := by
  funext i
  unfold m_dy
  rw [if_neg (by omega)]
theorem m_fl_dy {σ T P : Nat → Int} {b k i : Nat} {y : Int} : m_fl σ T P b y k (b + 3 + i) = m_dy σ T (fun i => P (b + 3 + i)) y k i := by
  unfold m_fl m_dy
  rw [if_neg (by omega), if_neg (by omega), if_neg (by omega)]
  by_cases h : i < k
  · rw [if_pos (by omega), if_pos h, show b + 3 + i - (b + 3) = i by omega]
  · rw [if_neg (by omega), if_neg h]
theorem m_fl_off {σ T P : Nat → Int} {b k i : Nat} {y : Int} (hk : k ≤ 8) (h : i < b ∨ b + 11 ≤ i) : m_fl σ T P b y k i = P i := by
  unfold m_fl
  rw [if_neg (by omega), if_neg (by omega), if_neg (by omega), if_neg (by omega)]
theorem WC_feastP {D : va_G} {A : Nat → Prop} {H : Heap} {cI cO : ClassId} {g : Nat → Nat} {σ T P : Nat → Int} {n u q : Nat} {fA : Nat → Option Nat} {mo da mn wd of : Int} (hn : n = (σ 6).toNat) (h6 : 0 ≤ σ 6 ∧ σ 6 < 8) (h7 : 0 ≤ σ 7 ∧ σ 7 ≤ 10) (hf : ∀ j, fA j = if j < n then some (g (10 + j)) else none)
    (hP : va_P D vwCl (([(g 0, .inr (7, [.ref (g 1), .ref (g 2), .ref (g 3), .ref (g 4), .ref (g 5), .int (iI (σ 9)), .int (iI (σ 10))])), (g 1, .inr (6, [.int (iI (σ 0)), .int (iI (σ 1))])), (g 2, .inr (3, [.int (iI (σ 2)), .int (iI (σ 3))])), (g 3, .inr (4, [.int (iI (σ 4)), .int (iI (σ 5))])), (g 4, .inr (1, [.int (iI (σ 6 + 1)), .ref u, .int (iI (σ 6 + 1))])), (g 5, .inr (1, [.int (iI (σ 7)), .ref (g 7), .int (iI (σ 7))])), (u, .inl (cO, 10, .inr (.inr (.inr (.inr (va_up fA n (some q))))))), (q, .inr (2, [.int (iI mo), .int (iI da), .int (iI mn), .int (iI wd), .int (iI of)]))] : va_W) ++ (wFe g T n ++ WH cI cO g σ P)) H)
    (hD : va_D A (([(g 0, .inr (7, [.ref (g 1), .ref (g 2), .ref (g 3), .ref (g 4), .ref (g 5), .int (iI (σ 9)), .int (iI (σ 10))])), (g 1, .inr (6, [.int (iI (σ 0)), .int (iI (σ 1))])), (g 2, .inr (3, [.int (iI (σ 2)), .int (iI (σ 3))])), (g 3, .inr (4, [.int (iI (σ 4)), .int (iI (σ 5))])), (g 4, .inr (1, [.int (iI (σ 6 + 1)), .ref u, .int (iI (σ 6 + 1))])), (g 5, .inr (1, [.int (iI (σ 7)), .ref (g 7), .int (iI (σ 7))])), (u, .inl (cO, 10, .inr (.inr (.inr (.inr (va_up fA n (some q))))))), (q, .inr (2, [.int (iI mo), .int (iI da), .int (iI mn), .int (iI wd), .int (iI of)]))] : va_W) ++ (wFe g T n ++ WH cI cO g σ P))) :
    va_P D vwCl (WC cI cO (gF g n u q) (st σ 6 (σ 6 + 1)) (m_tp T n mo da mn wd of) P) H ∧ va_D A (WC cI cO (gF g n u q) (st σ 6 (σ 6 + 1)) (m_tp T n mo da mn wd of) P) := by
  rw [WC_feast (fA := fA) hn h6 h7 hf]
  refine va_of_perm ?_ hP hD
  simp only [List.cons_append, List.nil_append, List.append_assoc]
  exact (((((((List.perm_middle).cons _).cons _).cons _).cons _).cons _).cons _).cons _
theorem WC_sheetP {D : va_G} {A : Nat → Prop} {H : Heap} {cI cO : ClassId} {g : Nat → Nat} {σ T P : Nat → Int} {n u q r : Nat} {fA : Nat → Option Nat} {y : Int} (hn : n = (σ 7).toNat) (h6 : 0 ≤ σ 6 ∧ σ 6 ≤ 8) (h7 : 0 ≤ σ 7 ∧ σ 7 < 10) (hf : ∀ j, fA j = if j < n then some (g (20 + j)) else none) (h0 : ∀ i, 11 * n ≤ i → P i = 0)
    (hP : va_P D vwCl (([(g 0, .inr (7, [.ref (g 1), .ref (g 2), .ref (g 3), .ref (g 4), .ref (g 5), .int (iI (σ 9)), .int (iI (σ 10))])), (g 1, .inr (6, [.int (iI (σ 0)), .int (iI (σ 1))])), (g 2, .inr (3, [.int (iI (σ 2)), .int (iI (σ 3))])), (g 3, .inr (4, [.int (iI (σ 4)), .int (iI (σ 5))])), (g 4, .inr (1, [.int (iI (σ 6)), .ref (g 6), .int (iI (σ 6))])), (g 5, .inr (1, [.int (iI (σ 7 + 1)), .ref u, .int (iI (σ 7 + 1))])), (u, .inl (cO, 10, .inr (.inr (.inr (.inr (va_up fA n (some q))))))), (q, .inr (5, [.int (iI y), .ref r, .int (iI (σ 6)), .int (iI (m_E σ y))])), (r, .inl (cI, 8, .inl (fun i => iI (m_dy σ T (fun _ => 0) y (σ 6).toNat i))))] : va_W) ++ ((wAr cO g 6 (σ 6).toNat 10 ++ wFe g T (σ 6).toNat) ++ (wSo g P n ++ wSd cI g P n))) H)
    (hD : va_D A (([(g 0, .inr (7, [.ref (g 1), .ref (g 2), .ref (g 3), .ref (g 4), .ref (g 5), .int (iI (σ 9)), .int (iI (σ 10))])), (g 1, .inr (6, [.int (iI (σ 0)), .int (iI (σ 1))])), (g 2, .inr (3, [.int (iI (σ 2)), .int (iI (σ 3))])), (g 3, .inr (4, [.int (iI (σ 4)), .int (iI (σ 5))])), (g 4, .inr (1, [.int (iI (σ 6)), .ref (g 6), .int (iI (σ 6))])), (g 5, .inr (1, [.int (iI (σ 7 + 1)), .ref u, .int (iI (σ 7 + 1))])), (u, .inl (cO, 10, .inr (.inr (.inr (.inr (va_up fA n (some q))))))), (q, .inr (5, [.int (iI y), .ref r, .int (iI (σ 6)), .int (iI (m_E σ y))])), (r, .inl (cI, 8, .inl (fun i => iI (m_dy σ T (fun _ => 0) y (σ 6).toNat i))))] : va_W) ++ ((wAr cO g 6 (σ 6).toNat 10 ++ wFe g T (σ 6).toNat) ++ (wSo g P n ++ wSd cI g P n)))) :
    va_P D vwCl (WC cI cO (gS g n u q r) (st σ 7 (σ 7 + 1)) T (m_fl σ T P (11 * n) y (σ 6).toNat)) H ∧ va_D A (WC cI cO (gS g n u q r) (st σ 7 (σ 7 + 1)) T (m_fl σ T P (11 * n) y (σ 6).toNat)) := by
  have hPo : ∀ i, i < 11 * n → m_fl σ T P (11 * n) y (σ 6).toNat i = P i := fun i hi => m_fl_off (by omega) (Or.inl hi)
  obtain ⟨f0, f1, f2⟩ := m_fl_at (σ := σ) (T := T) (P := P) (b := 11 * n) (k := (σ 6).toNat) (y := y)
  rw [WC_sheet (fA := fA) (P := P) hn h6 h7 hf hPo, f0, f1, f2]
  -- the same cells, the days told otherwise
  have key : ∀ x ∈ ((([(g 0, .inr (7, [.ref (g 1), .ref (g 2), .ref (g 3), .ref (g 4), .ref (g 5), .int (iI (σ 9)), .int (iI (σ 10))])), (g 1, .inr (6, [.int (iI (σ 0)), .int (iI (σ 1))])), (g 2, .inr (3, [.int (iI (σ 2)), .int (iI (σ 3))])), (g 3, .inr (4, [.int (iI (σ 4)), .int (iI (σ 5))])), (g 4, .inr (1, [.int (iI (σ 6)), .ref (g 6), .int (iI (σ 6))])), (g 5, .inr (1, [.int (iI (σ 7 + 1)), .ref u, .int (iI (σ 7 + 1))])), (u, .inl (cO, 10, .inr (.inr (.inr (.inr (va_up fA n (some q))))))), (q, .inr (5, [.int (iI y), .ref r, .int (iI (σ 6)), .int (iI (m_E σ y))])), (r, .inl (cI, 8, .inl (fun i => iI (m_fl σ T P (11 * n) y (σ 6).toNat (11 * n + 3 + i)))))] : va_W) ++ ((wAr cO g 6 (σ 6).toNat 10 ++ wFe g T (σ 6).toNat) ++ (wSo g P n ++ wSd cI g (m_fl σ T P (11 * n) y (σ 6).toNat) n)))), va_at D vwCl x H := by
    intro x hx
    rcases List.mem_append.mp hx with h | h
    · simp only [List.mem_cons, List.not_mem_nil, or_false] at h
      rcases h with rfl | rfl | rfl | rfl | rfl | rfl | rfl | rfl | rfl
      · exact hP 0 _ rfl
      · exact hP 1 _ rfl
      · exact hP 2 _ rfl
      · exact hP 3 _ rfl
      · exact hP 4 _ rfl
      · exact hP 5 _ rfl
      · exact hP 6 _ rfl
      · exact hP 7 _ rfl
      · refine vaP_days (f := m_dy σ T (fun _ => 0) y (σ 6).toNat) (fun i hi => ?_) (hP 8 _ rfl)
        rw [m_fl_dy]
        unfold m_dy
        show _ = if i < (σ 6).toNat then m_F σ T i y else P (11 * n + 3 + i)
        rw [h0 (11 * n + 3 + i) (by omega)]
    · rcases List.mem_append.mp h with h | h
      · exact vaP_mem hP (List.mem_append_right _ (List.mem_append_left _ h))
      · rcases List.mem_append.mp h with h | h
        · exact vaP_mem hP (List.mem_append_right _ (List.mem_append_right _ (List.mem_append_left _ h)))
        · unfold wSd at h
          obtain ⟨j, hj, rfl⟩ := List.mem_map.mp h
          have hjn := List.mem_range.mp hj
          refine vaP_days (f := fun i => P (11 * j + 3 + i)) (fun i hi => ?_) (vaP_mem hP (List.mem_append_right _ (List.mem_append_right _ (List.mem_append_right _ (List.mem_map.mpr ⟨j, hj, rfl⟩)))))
          exact (hPo _ (by omega)).symm
  have hD2 : va_D A (([(g 0, .inr (7, [.ref (g 1), .ref (g 2), .ref (g 3), .ref (g 4), .ref (g 5), .int (iI (σ 9)), .int (iI (σ 10))])), (g 1, .inr (6, [.int (iI (σ 0)), .int (iI (σ 1))])), (g 2, .inr (3, [.int (iI (σ 2)), .int (iI (σ 3))])), (g 3, .inr (4, [.int (iI (σ 4)), .int (iI (σ 5))])), (g 4, .inr (1, [.int (iI (σ 6)), .ref (g 6), .int (iI (σ 6))])), (g 5, .inr (1, [.int (iI (σ 7 + 1)), .ref u, .int (iI (σ 7 + 1))])), (u, .inl (cO, 10, .inr (.inr (.inr (.inr (va_up fA n (some q))))))), (q, .inr (5, [.int (iI y), .ref r, .int (iI (σ 6)), .int (iI (m_E σ y))])), (r, .inl (cI, 8, .inl (fun i => iI (m_fl σ T P (11 * n) y (σ 6).toNat (11 * n + 3 + i)))))] : va_W) ++ ((wAr cO g 6 (σ 6).toNat 10 ++ wFe g T (σ 6).toNat) ++ (wSo g P n ++ wSd cI g (m_fl σ T P (11 * n) y (σ 6).toNat) n))) := by
    refine vaD_addr hD ?_
    have e : (wSd cI g (m_fl σ T P (11 * n) y (σ 6).toNat) n).map (·.1) = (wSd cI g P n).map (·.1) := by
      unfold wSd
      rw [List.map_map, List.map_map]
      rfl
    simp only [List.map_append, List.map_cons, List.map_nil, e]
  refine va_of_perm ?_ (fun k x hk => key x (List.mem_of_getElem? hk)) hD2
  simp only [List.cons_append, List.nil_append, List.append_assoc]
  refine ((((((List.Perm.cons _ (List.Perm.cons _ (List.Perm.cons _ (List.Perm.cons _ (List.Perm.cons _ (List.Perm.cons _ ?_))))))))))) 
  generalize wAr cO g 6 (σ 6).toNat 10 = L1
  generalize wFe g T (σ 6).toNat = L2
  generalize wSo g P n = L3
  generalize wSd cI g (m_fl σ T P (11 * n) y (σ 6).toNat) n = L4
  have p1 : ∀ (a : Nat × va_E) (X Y : va_W), (X ++ a :: Y).Perm (a :: (X ++ Y)) := fun a X Y => List.perm_middle
  rw [← List.append_assoc L1 L2, ← List.append_assoc L1 L2 (L3 ++ L4)]
  generalize L1 ++ L2 = L5
  refine (p1 _ L5 _).trans (List.Perm.cons _ ?_)
  rw [← List.append_assoc L5 L3]
  refine (p1 _ (L5 ++ L3) _).trans (List.Perm.cons _ ?_)
  rw [← List.append_assoc (L5 ++ L3) L4]
  refine (p1 _ (L5 ++ L3 ++ L4) []).trans (List.Perm.cons _ ?_)
  rw [List.append_nil, List.append_assoc]
/-- a sheet taken out of the others -/
def WHr (cI cO : ClassId) (g : Nat → Nat) (σ P : Nat → Int) (j : Nat) : va_W := wAr cO g 7 (σ 7).toNat 20 ++ (((List.range (σ 7).toNat).erase j).map (fun j => ((g (20 + j), .inr (5, [.int (iI (P (11 * j))), .ref (g (40 + j)), .int (iI (P (11 * j + 1))), .int (iI (P (11 * j + 2)))])) : Nat × va_E)) ++ ((List.range (σ 7).toNat).erase j).map (fun j => ((g (40 + j), .inl (cI, 8, .inl (fun i => iI (P (11 * j + 3 + i))))) : Nat × va_E)))
theorem WH_out {cI cO : ClassId} {g : Nat → Nat} {σ P : Nat → Int} {j : Nat} (hj : (j : Int) < σ 7) : (WH cI cO g σ P).Perm ((g (20 + j), .inr (5, [.int (iI (P (11 * j))), .ref (g (40 + j)), .int (iI (P (11 * j + 1))), .int (iI (P (11 * j + 2)))])) :: (g (40 + j), .inl (cI, 8, .inl (fun i => iI (P (11 * j + 3 + i))))) :: WHr cI cO g σ P j) := by
  have hr : (List.range (σ 7).toNat).Perm (j :: (List.range (σ 7).toNat).erase j) := List.perm_cons_erase (List.mem_range.mpr (by omega))
  unfold WH WHr wSo wSd
  have h1 := hr.map (fun j => ((g (20 + j), .inr (5, [.int (iI (P (11 * j))), .ref (g (40 + j)), .int (iI (P (11 * j + 1))), .int (iI (P (11 * j + 2)))])) : Nat × va_E))
  have h2 := hr.map (fun j => ((g (40 + j), .inl (cI, 8, .inl (fun i => iI (P (11 * j + 3 + i))))) : Nat × va_E))
  rw [List.map_cons] at h1 h2
  refine (List.Perm.append_left _ (h1.append h2)).trans ?_
  have p1 : ∀ (a : Nat × va_E) (X Y : va_W), (X ++ a :: Y).Perm (a :: (X ++ Y)) := fun a X Y => List.perm_middle
  rw [List.cons_append]
  refine (p1 _ _ _).trans (List.Perm.cons _ ?_)
  rw [← List.append_assoc]
  refine (p1 _ _ _).trans (List.Perm.cons _ ?_)
  rw [List.append_assoc]
theorem WC_out {D : va_G} {A : Nat → Prop} {H : Heap} {cI cO : ClassId} {g : Nat → Nat} {σ T P : Nat → Int} {j : Nat} (hj : (j : Int) < σ 7) (hP : va_P D vwCl (WC cI cO g σ T P) H) (hD : va_D A (WC cI cO g σ T P)) :
    va_P D vwCl (([(g (20 + j), .inr (5, [.int (iI (P (11 * j))), .ref (g (40 + j)), .int (iI (P (11 * j + 1))), .int (iI (P (11 * j + 2)))])), (g (40 + j), .inl (cI, 8, .inl (fun i => iI (P (11 * j + 3 + i)))))] ++ WB cO g σ T) ++ WHr cI cO g σ P j) H ∧ va_D A (([(g (20 + j), .inr (5, [.int (iI (P (11 * j))), .ref (g (40 + j)), .int (iI (P (11 * j + 1))), .int (iI (P (11 * j + 2)))])), (g (40 + j), .inl (cI, 8, .inl (fun i => iI (P (11 * j + 3 + i)))))] ++ WB cO g σ T) ++ WHr cI cO g σ P j) := by
  refine va_of_perm ?_ hP hD
  unfold WC
  have p1 : ∀ (a : Nat × va_E) (X Y : va_W), (X ++ a :: Y).Perm (a :: (X ++ Y)) := fun a X Y => List.perm_middle
  refine List.Perm.symm ((List.Perm.append_left _ (WH_out hj)).trans ?_)
  refine (p1 _ _ _).trans (List.Perm.cons _ ?_)
  exact (p1 _ _ _).trans (List.Perm.cons _ (List.Perm.refl _))
theorem WC_in {D : va_G} {A : Nat → Prop} {H : Heap} {cI cO : ClassId} {g : Nat → Nat} {σ T P : Nat → Int} {j : Nat} {y : Int} (hj : (j : Int) < σ 7) (h6 : 0 ≤ σ 6 ∧ σ 6 ≤ 8)
    (hP : va_P D vwCl (([(g (20 + j), .inr (5, [.int (iI y), .ref (g (40 + j)), .int (iI (σ 6)), .int (iI (m_E σ y))])), (g (40 + j), .inl (cI, 8, .inl (fun i => iI (m_dy σ T (fun i => P (11 * j + 3 + i)) y (σ 6).toNat i))))] ++ WB cO g σ T) ++ WHr cI cO g σ P j) H) (hD : va_D A (([(g (20 + j), .inr (5, [.int (iI y), .ref (g (40 + j)), .int (iI (σ 6)), .int (iI (m_E σ y))])), (g (40 + j), .inl (cI, 8, .inl (fun i => iI (m_dy σ T (fun i => P (11 * j + 3 + i)) y (σ 6).toNat i))))] ++ WB cO g σ T) ++ WHr cI cO g σ P j)) :
    va_P D vwCl (WC cI cO g σ T (m_fl σ T P (11 * j) y (σ 6).toNat)) H ∧ va_D A (WC cI cO g σ T (m_fl σ T P (11 * j) y (σ 6).toNat)) := by
  obtain ⟨f0, f1, f2⟩ := m_fl_at (σ := σ) (T := T) (P := P) (b := 11 * j) (k := (σ 6).toNat) (y := y)
  have hoff : ∀ i k, i ≠ j → k < 11 → m_fl σ T P (11 * j) y (σ 6).toNat (11 * i + k) = P (11 * i + k) := fun i k hi hk => m_fl_off (by omega) (by omega)
  have hdy : (fun i => iI (m_fl σ T P (11 * j) y (σ 6).toNat (11 * j + 3 + i))) = fun i => iI (m_dy σ T (fun i => P (11 * j + 3 + i)) y (σ 6).toNat i) := funext fun i => by rw [m_fl_dy]
  have hp : (WC cI cO g σ T (m_fl σ T P (11 * j) y (σ 6).toNat)).Perm (([(g (20 + j), .inr (5, [.int (iI y), .ref (g (40 + j)), .int (iI (σ 6)), .int (iI (m_E σ y))])), (g (40 + j), .inl (cI, 8, .inl (fun i => iI (m_dy σ T (fun i => P (11 * j + 3 + i)) y (σ 6).toNat i))))] ++ WB cO g σ T) ++ WHr cI cO g σ (m_fl σ T P (11 * j) y (σ 6).toNat) j) := by
    unfold WC
    have p1 : ∀ (a : Nat × va_E) (X Y : va_W), (X ++ a :: Y).Perm (a :: (X ++ Y)) := fun a X Y => List.perm_middle
    have h1 := WH_out (cI := cI) (cO := cO) (g := g) (P := m_fl σ T P (11 * j) y (σ 6).toNat) hj
    rw [f0, f1, f2, hdy] at h1
    refine (List.Perm.append_left _ h1).trans ?_
    refine (p1 _ _ _).trans (List.Perm.cons _ ?_)
    exact (p1 _ _ _).trans (List.Perm.cons _ (List.Perm.refl _))
  have hne : ∀ i ∈ (List.range (σ 7).toNat).erase j, i ≠ j := fun i hi => ((List.Nodup.mem_erase_iff List.nodup_range).mp hi).1
  have e1 : ((List.range (σ 7).toNat).erase j).map (fun i => ((g (20 + i), .inr (5, [.int (iI (m_fl σ T P (11 * j) y (σ 6).toNat (11 * i))), .ref (g (40 + i)), .int (iI (m_fl σ T P (11 * j) y (σ 6).toNat (11 * i + 1))), .int (iI (m_fl σ T P (11 * j) y (σ 6).toNat (11 * i + 2)))])) : Nat × va_E)) = ((List.range (σ 7).toNat).erase j).map (fun i => ((g (20 + i), .inr (5, [.int (iI (P (11 * i))), .ref (g (40 + i)), .int (iI (P (11 * i + 1))), .int (iI (P (11 * i + 2)))])) : Nat × va_E)) := by
    apply List.map_congr_left
    intro i hi
    have h0 := hoff i 0 (hne i hi) (by omega)
    rw [Nat.add_zero] at h0
    rw [h0, hoff i 1 (hne i hi) (by omega), hoff i 2 (hne i hi) (by omega)]
  have hD2 : va_D A (([(g (20 + j), .inr (5, [.int (iI y), .ref (g (40 + j)), .int (iI (σ 6)), .int (iI (m_E σ y))])), (g (40 + j), .inl (cI, 8, .inl (fun i => iI (m_dy σ T (fun i => P (11 * j + 3 + i)) y (σ 6).toNat i))))] ++ WB cO g σ T) ++ WHr cI cO g σ (m_fl σ T P (11 * j) y (σ 6).toNat) j) := by
    refine vaD_addr hD ?_
    have e : (WHr cI cO g σ (m_fl σ T P (11 * j) y (σ 6).toNat) j).map (·.1) = (WHr cI cO g σ P j).map (·.1) := by
      unfold WHr
      rw [e1]
      simp only [List.map_append, List.map_map]
      rfl
    simp only [List.map_append, List.map_cons, List.map_nil, e]
  refine va_of_perm hp ?_ hD2
  intro k x hk
  rcases List.mem_append.mp (List.mem_of_getElem? hk) with h | h
  · exact vaP_mem hP (List.mem_append_left _ h)
  · unfold WHr at h
    rcases List.mem_append.mp h with h | h
    · exact vaP_mem hP (List.mem_append_right _ (List.mem_append_left _ h))
    · rcases List.mem_append.mp h with h | h
      · rw [e1] at h
        exact vaP_mem hP (List.mem_append_right _ (List.mem_append_right _ (List.mem_append_left _ h)))
      · obtain ⟨i, hi, rfl⟩ := List.mem_map.mp h
        refine vaP_days (f := fun k => P (11 * i + 3 + k)) (fun k hk => ?_) (vaP_mem hP (List.mem_append_right _ (List.mem_append_right _ (List.mem_append_right _ (List.mem_map.mpr ⟨i, hi, rfl⟩)))))
        have h3 := hoff i (3 + k) (hne i hi) (by omega)
        rw [← Nat.add_assoc] at h3
        exact h3.symm
