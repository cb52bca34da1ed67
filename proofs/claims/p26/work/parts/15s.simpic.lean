/-! ===== the law's own simulation: where its numbers lie ===== -/
/-- a printed row's k-th number, by its place among a sheet's eleven -/
def sx (k : Nat) : Nat := if k = 0 then 0 else if k = 1 then 2 else k + 1
def wZf (cI : ClassId) (z : Nat → Nat) (T : Nat → Int) (n : Nat) : va_W := (List.range n).map (fun i => (z (10 + i), .inl (cI, 5, .inl (fun k => iI (T (5 * i + k))))))
def wZs (cI : ClassId) (z : Nat → Nat) (P : Nat → Int) (n : Nat) : va_W := (List.range n).map (fun j => (z (20 + j), .inl (cI, 2 + (P (11 * j + 1)).toNat, .inl (fun k => iI (P (11 * j + sx k))))))
def wZ0 (cL : ClassId) (z : Nat → Nat) (σ : Nat → Int) : va_W := [(z 0, .inr (8, [.int (iI (σ 0)), .int (iI (σ 1)), .int (iI (σ 2)), .int (iI (σ 3)), .int (iI (σ 4)), .int (iI (σ 5)), .ref (z 1), .ref (z 2), .int (iI (σ 9)), .int (iI (σ 10))])), (z 1, .inl (cL, (σ 6).toNat, .inr (.inr (.inr (.inr (fun j => if j < (σ 6).toNat then some (z (10 + j)) else none)))))), (z 2, .inl (cL, (σ 7).toNat, .inr (.inr (.inr (.inr (fun j => if j < (σ 7).toNat then some (z (20 + j)) else none))))))]
def WZ (cI cL : ClassId) (z : Nat → Nat) (σ T P : Nat → Int) : va_W := wZ0 cL z σ ++ (wZf cI z T (σ 6).toNat ++ wZs cI z P (σ 7).toNat)
def PicS (D : va_G) (cI cL : ClassId) (z : Nat → Nat) (σ T P : Nat → Int) (H : Heap) : Prop := va_P D vwCl (WZ cI cL z σ T P) H
section PZ
variable {D : va_G} {cI cL : ClassId} {z : Nat → Nat} {σ T P : Nat → Int} {H : Heap}
theorem PicS.at0 (h : PicS D cI cL z σ T P H) : ob D (z 0) 8 [.int (iI (σ 0)), .int (iI (σ 1)), .int (iI (σ 2)), .int (iI (σ 3)), .int (iI (σ 4)), .int (iI (σ 5)), .ref (z 1), .ref (z 2), .int (iI (σ 9)), .int (iI (σ 10))] H := h 0 _ rfl
theorem PicS.fs (h : PicS D cI cL z σ T P H) : ar D (z 1) (cL, (σ 6).toNat, .inr (.inr (.inr (.inr (fun j => if j < (σ 6).toNat then some (z (10 + j)) else none))))) H := h 1 _ rfl
theorem PicS.ss (h : PicS D cI cL z σ T P H) : ar D (z 2) (cL, (σ 7).toNat, .inr (.inr (.inr (.inr (fun j => if j < (σ 7).toNat then some (z (20 + j)) else none))))) H := h 2 _ rfl
theorem PicS.fr (h : PicS D cI cL z σ T P H) {i : Nat} (hi : (i : Int) < σ 6) : ar D (z (10 + i)) (cI, 5, .inl (fun k => iI (T (5 * i + k)))) H := by
  refine vaP_mem h (List.mem_append_right _ (List.mem_append_left _ ?_))
  exact List.mem_map.mpr ⟨i, List.mem_range.mpr (by omega), rfl⟩
theorem PicS.sr (h : PicS D cI cL z σ T P H) {j : Nat} (hj : (j : Int) < σ 7) : ar D (z (20 + j)) (cI, 2 + (P (11 * j + 1)).toNat, .inl (fun k => iI (P (11 * j + sx k)))) H := by
  refine vaP_mem h (List.mem_append_right _ (List.mem_append_right _ ?_))
  exact List.mem_map.mpr ⟨j, List.mem_range.mpr (by omega), rfl⟩
end PZ
