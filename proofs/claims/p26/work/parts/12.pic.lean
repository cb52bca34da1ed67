/-! ===== the state: its numbers, what holds of them, where they lie in the heap ===== -/
/-- the settings: 0 cycle, 1 leaps, 2 length, 3 first, 4 period, 5 node, 6 feasts, 7 sheets, 9 observations, 10 corrections; T: five numbers a feast -/
def WF (σ T : Nat → Int) : Prop := (1 ≤ σ 0 ∧ σ 0 ≤ 400) ∧ (0 ≤ σ 1 ∧ σ 1 ≤ σ 0) ∧ (20000 ≤ σ 2 ∧ σ 2 ≤ 40000) ∧ (0 ≤ σ 3 ∧ σ 3 ≤ 39999) ∧ (100000 ≤ σ 4 ∧ σ 4 ≤ 300000) ∧ (0 ≤ σ 5 ∧ σ 5 ≤ 299999) ∧ (0 ≤ σ 6 ∧ σ 6 ≤ 8) ∧ (0 ≤ σ 7 ∧ σ 7 ≤ 10) ∧
  ∀ i : Nat, (i : Int) < σ 6 → (0 ≤ T (5 * i) ∧ T (5 * i) ≤ 11) ∧ (0 ≤ T (5 * i + 1) ∧ T (5 * i + 1) ≤ 29) ∧ (0 ≤ T (5 * i + 2) ∧ T (5 * i + 2) ≤ 3) ∧ (-1 ≤ T (5 * i + 3) ∧ T (5 * i + 3) ≤ 6) ∧ (-60 ≤ T (5 * i + 4) ∧ T (5 * i + 4) ≤ 60)
/-- P: eleven numbers a sheet: its year, what it holds, its eclipses, eight days -/
def WS (σ P : Nat → Int) : Prop := ∀ j : Nat, (j : Int) < σ 7 → (0 ≤ P (11 * j) ∧ P (11 * j) ≤ 999) ∧ (0 ≤ P (11 * j + 1) ∧ P (11 * j + 1) ≤ σ 6) ∧ (0 ≤ P (11 * j + 2) ∧ P (11 * j + 2) ≤ 100000) ∧ ∀ i : Nat, i < 8 → -1000000 ≤ P (11 * j + 3 + i) ∧ P (11 * j + 3 + i) ≤ 1000000
/-- feasts' own objects: the i-th at g (10 + i) -/
def wFe (g : Nat → Nat) (T : Nat → Int) (n : Nat) : va_W := (List.range n).map (fun i => (g (10 + i), .inr (2, [.int (iI (T (5 * i))), .int (iI (T (5 * i + 1))), .int (iI (T (5 * i + 2))), .int (iI (T (5 * i + 3))), .int (iI (T (5 * i + 4)))])))
/-- sheets: the j-th at g (20 + j), its row at g (40 + j) -/
def wSo (g : Nat → Nat) (P : Nat → Int) (n : Nat) : va_W := (List.range n).map (fun j => (g (20 + j), .inr (5, [.int (iI (P (11 * j))), .ref (g (40 + j)), .int (iI (P (11 * j + 1))), .int (iI (P (11 * j + 2)))])))
def wSd (cI : ClassId) (g : Nat → Nat) (P : Nat → Int) (n : Nat) : va_W := (List.range n).map (fun j => (g (40 + j), .inl (cI, 8, .inl (fun i => iI (P (11 * j + 3 + i))))))
/-- a list's own row, once something has come in -/
def wAr (cO : ClassId) (g : Nat → Nat) (k n b : Nat) : va_W := if n = 0 then [] else [(g k, .inl (cO, 10, .inr (.inr (.inr (.inr (fun j => if j < n then some (g (b + j)) else none))))))]
def wPre (g : Nat → Nat) (σ : Nat → Int) : va_W := [(g 0, .inr (7, [.ref (g 1), .ref (g 2), .ref (g 3), .ref (g 4), .ref (g 5), .int (iI (σ 9)), .int (iI (σ 10))])), (g 1, .inr (6, [.int (iI (σ 0)), .int (iI (σ 1))])), (g 2, .inr (3, [.int (iI (σ 2)), .int (iI (σ 3))])), (g 3, .inr (4, [.int (iI (σ 4)), .int (iI (σ 5))])), (g 4, .inr (1, [.int (iI (σ 6)), .ref (g 6), .int (iI (σ 6))])), (g 5, .inr (1, [.int (iI (σ 7)), .ref (g 7), .int (iI (σ 7))]))]
/-- without the sheets -/
def WB (cO : ClassId) (g : Nat → Nat) (σ T : Nat → Int) : va_W := wPre g σ ++ (wAr cO g 6 (σ 6).toNat 10 ++ wFe g T (σ 6).toNat)
/-- the sheets, and their list's row -/
def WH (cI cO : ClassId) (g : Nat → Nat) (σ P : Nat → Int) : va_W := wAr cO g 7 (σ 7).toNat 20 ++ (wSo g P (σ 7).toNat ++ wSd cI g P (σ 7).toNat)
def WC (cI cO : ClassId) (g : Nat → Nat) (σ T P : Nat → Int) : va_W := WB cO g σ T ++ WH cI cO g σ P
def PicB (D : va_G) (cO : ClassId) (g : Nat → Nat) (σ T : Nat → Int) (H : Heap) : Prop := va_P D vwCl (WB cO g σ T) H
def PicC (D : va_G) (cI cO : ClassId) (g : Nat → Nat) (σ T P : Nat → Int) (H : Heap) : Prop := va_P D vwCl (WC cI cO g σ T P) H
theorem vaP_mem {D : va_G} {ws : va_W} {H : Heap} (h : va_P D vwCl ws H) {q : Nat × va_E} (hq : q ∈ ws) : va_at D vwCl q H := by
  obtain ⟨k, hk⟩ := List.getElem?_of_mem hq
  exact h k q hk
section PB
variable {D : va_G} {cI cO : ClassId} {g : Nat → Nat} {σ T P : Nat → Int} {H : Heap}
theorem PicC.base (h : PicC D cI cO g σ T P H) : PicB D cO g σ T H := by
  intro k q hk
  have h1 : q ∈ WC cI cO g σ T P := List.mem_append_left _ (List.mem_of_getElem? hk)
  exact vaP_mem h h1
theorem PicB.at0 (h : PicB D cO g σ T H) : ob D (g 0) 7 [.ref (g 1), .ref (g 2), .ref (g 3), .ref (g 4), .ref (g 5), .int (iI (σ 9)), .int (iI (σ 10))] H := h 0 _ rfl
theorem PicB.at1 (h : PicB D cO g σ T H) : ob D (g 1) 6 [.int (iI (σ 0)), .int (iI (σ 1))] H := h 1 _ rfl
theorem PicB.at2 (h : PicB D cO g σ T H) : ob D (g 2) 3 [.int (iI (σ 2)), .int (iI (σ 3))] H := h 2 _ rfl
theorem PicB.at3 (h : PicB D cO g σ T H) : ob D (g 3) 4 [.int (iI (σ 4)), .int (iI (σ 5))] H := h 3 _ rfl
theorem PicB.at4 (h : PicB D cO g σ T H) : ob D (g 4) 1 [.int (iI (σ 6)), .ref (g 6), .int (iI (σ 6))] H := h 4 _ rfl
theorem PicB.at5 (h : PicB D cO g σ T H) : ob D (g 5) 1 [.int (iI (σ 7)), .ref (g 7), .int (iI (σ 7))] H := h 5 _ rfl
theorem PicB.arr (h : PicB D cO g σ T H) (hn : 0 < σ 6) : ar D (g 6) (cO, 10, .inr (.inr (.inr (.inr (fun j => if j < (σ 6).toNat then some (g (10 + j)) else none))))) H := by
  refine vaP_mem h (List.mem_append_right _ (List.mem_append_left _ ?_))
  unfold wAr
  rw [if_neg (by omega)]
  exact List.mem_cons_self
theorem PicB.fe (h : PicB D cO g σ T H) {i : Nat} (hi : (i : Int) < σ 6) : ob D (g (10 + i)) 2 [.int (iI (T (5 * i))), .int (iI (T (5 * i + 1))), .int (iI (T (5 * i + 2))), .int (iI (T (5 * i + 3))), .int (iI (T (5 * i + 4)))] H := by
  refine vaP_mem h (List.mem_append_right _ (List.mem_append_right _ ?_))
  exact List.mem_map.mpr ⟨i, List.mem_range.mpr (by omega), rfl⟩
theorem PicC.arr (h : PicC D cI cO g σ T P H) (hn : 0 < σ 7) : ar D (g 7) (cO, 10, .inr (.inr (.inr (.inr (fun j => if j < (σ 7).toNat then some (g (20 + j)) else none))))) H := by
  refine vaP_mem h (List.mem_append_right _ (List.mem_append_left _ ?_))
  unfold wAr
  rw [if_neg (by omega)]
  exact List.mem_cons_self
theorem PicC.so (h : PicC D cI cO g σ T P H) {j : Nat} (hj : (j : Int) < σ 7) : ob D (g (20 + j)) 5 [.int (iI (P (11 * j))), .ref (g (40 + j)), .int (iI (P (11 * j + 1))), .int (iI (P (11 * j + 2)))] H := by
  refine vaP_mem h (List.mem_append_right _ (List.mem_append_right _ (List.mem_append_left _ ?_)))
  exact List.mem_map.mpr ⟨j, List.mem_range.mpr (by omega), rfl⟩
theorem PicC.sd (h : PicC D cI cO g σ T P H) {j : Nat} (hj : (j : Int) < σ 7) : ar D (g (40 + j)) (cI, 8, .inl (fun i => iI (P (11 * j + 3 + i)))) H := by
  refine vaP_mem h (List.mem_append_right _ (List.mem_append_right _ (List.mem_append_right _ ?_)))
  exact List.mem_map.mpr ⟨j, List.mem_range.mpr (by omega), rfl⟩
end PB
