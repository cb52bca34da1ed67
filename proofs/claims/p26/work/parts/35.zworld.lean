/-! ===== Sim's world behind a new feast, a new sheet, a sheet printed anew ===== -/
theorem va_newW {D : va_G} {A : Nat → Prop} {ws ws' : va_W} {H : Heap} (hD : va_D A ws) (hp : ∀ q ∈ ws', va_at D vwCl q H) (r : List Nat) (hs : (ws'.map (·.1) ++ r).Perm (ws.map (·.1))) : va_P D vwCl ws' H ∧ va_D A ws' := by
  have hnd : (ws'.map (·.1) ++ r).Nodup := hs.nodup_iff.mpr (vaD_nd hD)
  rw [List.nodup_append] at hnd
  exact ⟨fun k q hk => hp q (List.mem_of_getElem? hk), nd_vaD hnd.1 (fun a ha => vaD_A hD a (hs.mem_iff.mp (List.mem_append_left _ ha)))⟩
theorem vaP_row {D : va_G} {a n : Nat} {cI : ClassId} {f f' : Nat → Int} {H : Heap} (h : ∀ i, i < n → f i = f' i) (ha : va_at D vwCl (a, .inl (cI, n, .inl (fun i => iI (f i)))) H) : va_at D vwCl (a, .inl (cI, n, .inl (fun i => iI (f' i)))) H := by
  show H[a]? = some (arrV cI n (fun j => .int (iI (f' j))))
  rw [← arrV_cg (f := fun j => .int (iI (f j))) (fun i hi => by rw [h i hi])]
  exact ha
theorem wZf_addr (cI : ClassId) (z : Nat → Nat) (T : Nat → Int) (n : Nat) : (wZf cI z T n).map (·.1) = (List.range n).map (fun i => z (10 + i)) := by
  unfold wZf
  rw [List.map_map]
  rfl
theorem wZs_addr (cI : ClassId) (z : Nat → Nat) (P : Nat → Int) (n : Nat) : (wZs cI z P n).map (·.1) = (List.range n).map (fun j => z (20 + j)) := by
  unfold wZs
  rw [List.map_map]
  rfl
def zF (z : Nat → Nat) (n v q : Nat) : Nat → Nat := fun k => if k = 10 + n then q else if k = 1 then v else z k
def zS (z : Nat → Nat) (n v q : Nat) : Nat → Nat := fun k => if k = 20 + n then q else if k = 2 then v else z k
def zR (z : Nat → Nat) (j q : Nat) : Nat → Nat := fun k => if k = 20 + j then q else z k
theorem zF_ne {z : Nat → Nat} {n v q k : Nat} (h1 : k ≠ 10 + n) (h2 : k ≠ 1) : zF z n v q k = z k := by
  unfold zF
  rw [if_neg h1, if_neg h2]
theorem zS_ne {z : Nat → Nat} {n v q k : Nat} (h1 : k ≠ 20 + n) (h2 : k ≠ 2) : zS z n v q k = z k := by
  unfold zS
  rw [if_neg h1, if_neg h2]
theorem zR_ne {z : Nat → Nat} {j q k : Nat} (h1 : k ≠ 20 + j) : zR z j q k = z k := by
  unfold zR
  rw [if_neg h1]
/-- the rows of a list that grows -/
theorem z_grow {z z' : Nat → Nat} {b n q : Nat} (h1 : ∀ j, j < n → z' (b + j) = z (b + j)) (h2 : z' (b + n) = q) : (fun j => if j < n + 1 then some (z' (b + j)) else none) = fun j => if j < n then some (z (b + j)) else if j = n then some q else none := by
  funext j
  by_cases h : j < n
  · rw [if_pos (by omega), if_pos h, h1 j h]
  · rw [if_neg h]
    by_cases h3 : j = n
    · subst h3
      rw [if_pos (by omega), if_pos rfl, h2]
    · rw [if_neg (by omega), if_neg h3]
theorem z_same {z z' : Nat → Nat} {b n : Nat} (h1 : ∀ j, j < n → z' (b + j) = z (b + j)) : (fun j => if j < n then some (z' (b + j)) else none) = fun j => if j < n then some (z (b + j)) else none := by
  funext j
  by_cases h : j < n
  · rw [if_pos h, if_pos h, h1 j h]
  · rw [if_neg h, if_neg h]
theorem z_map {z z' : Nat → Nat} {b n : Nat} (h1 : ∀ j, j < n → z' (b + j) = z (b + j)) : (List.range n).map (fun j => z' (b + j)) = (List.range n).map (fun j => z (b + j)) := List.map_congr_left (fun j hj => h1 j (List.mem_range.mp hj))
theorem WZ_feastP {D : va_G} {A : Nat → Prop} {H : Heap} {cI cL : ClassId} {z : Nat → Nat} {σ T P : Nat → Int} {X : va_W} {n v q : Nat} {row : Nat → Int} {mo da mn wd of : Int} (hn : n = (σ 6).toNat) (h6 : 0 ≤ σ 6 ∧ σ 6 < 8) (h7 : 0 ≤ σ 7 ∧ σ 7 ≤ 10) (hrow : ∀ k, k < 5 → row k = m_tp T n mo da mn wd of (5 * n + k))
    (hP : va_P D vwCl (([(v, .inl (cL, n + 1, .inr (.inr (.inr (.inr (fun j => if j < n then some (z (10 + j)) else if j = n then some q else none)))))), (z 1, .inl (cL, n, .inr (.inr (.inr (.inr (fun j => if j < n then some (z (10 + j)) else none)))))), (q, .inl (cI, 5, .inl (fun i => iI (row i)))), (z 0, .inr (8, [.int (iI (σ 0)), .int (iI (σ 1)), .int (iI (σ 2)), .int (iI (σ 3)), .int (iI (σ 4)), .int (iI (σ 5)), .ref v, .ref (z 2), .int (iI (σ 9)), .int (iI (σ 10))])), (z 2, .inl (cL, (σ 7).toNat, .inr (.inr (.inr (.inr (fun j => if j < (σ 7).toNat then some (z (20 + j)) else none))))))] : va_W) ++ ((wZf cI z T n ++ wZs cI z P (σ 7).toNat) ++ X)) H)
    (hD : va_D A (([(v, .inl (cL, n + 1, .inr (.inr (.inr (.inr (fun j => if j < n then some (z (10 + j)) else if j = n then some q else none)))))), (z 1, .inl (cL, n, .inr (.inr (.inr (.inr (fun j => if j < n then some (z (10 + j)) else none)))))), (q, .inl (cI, 5, .inl (fun i => iI (row i)))), (z 0, .inr (8, [.int (iI (σ 0)), .int (iI (σ 1)), .int (iI (σ 2)), .int (iI (σ 3)), .int (iI (σ 4)), .int (iI (σ 5)), .ref v, .ref (z 2), .int (iI (σ 9)), .int (iI (σ 10))])), (z 2, .inl (cL, (σ 7).toNat, .inr (.inr (.inr (.inr (fun j => if j < (σ 7).toNat then some (z (20 + j)) else none))))))] : va_W) ++ ((wZf cI z T n ++ wZs cI z P (σ 7).toNat) ++ X))) :
    va_P D vwCl (WZ cI cL (zF z n v q) (st σ 6 (σ 6 + 1)) (m_tp T n mo da mn wd of) P ++ X) H ∧ va_D A (WZ cI cL (zF z n v q) (st σ 6 (σ 6 + 1)) (m_tp T n mo da mn wd of) P ++ X) := by
  have g0 : zF z n v q 0 = z 0 := zF_ne (by omega) (by omega)
  have g2 : zF z n v q 2 = z 2 := zF_ne (by omega) (by omega)
  have g1 : zF z n v q 1 = v := by
    unfold zF
    rw [if_neg (by omega), if_pos rfl]
  have gq : zF z n v q (10 + n) = q := if_pos rfl
  have gf : ∀ j, j < n → zF z n v q (10 + j) = z (10 + j) := fun j hj => zF_ne (by omega) (by omega)
  have gs : ∀ j, j < (σ 7).toNat → zF z n v q (20 + j) = z (20 + j) := fun j hj => zF_ne (by omega) (by omega)
  have e6 : (st σ 6 (σ 6 + 1) 6).toNat = n + 1 := by rw [st_eq]; omega
  have e7 : (st σ 6 (σ 6 + 1) 7).toNat = (σ 7).toNat := rfl
  refine va_newW hD ?_ [z 1] ?_
  · intro x hx
    rcases List.mem_append.mp hx with h | h
    · unfold WZ at h
      rw [e6, e7] at h
      rcases List.mem_append.mp h with h | h
      · unfold wZ0 at h
        rw [e6, e7, g0, g1, g2, z_grow gf gq, z_same gs] at h
        simp only [List.mem_cons, List.not_mem_nil, or_false] at h
        rcases h with rfl | rfl | rfl
        · exact hP 3 _ rfl
        · exact hP 0 _ rfl
        · exact hP 4 _ rfl
      · rcases List.mem_append.mp h with h | h
        · unfold wZf at h
          obtain ⟨i, hi, rfl⟩ := List.mem_map.mp h
          have hin := List.mem_range.mp hi
          by_cases e : i = n
          · subst e
            show va_at D vwCl (zF z i v q (10 + i), _) H
            rw [gq]
            exact vaP_row hrow (hP 2 _ rfl)
          · show va_at D vwCl (zF z n v q (10 + i), _) H
            rw [gf i (by omega)]
            refine vaP_row (f := fun k => T (5 * i + k)) (fun k hk => ?_) (vaP_mem hP (List.mem_append_right _ (List.mem_append_left _ (List.mem_append_left _ (List.mem_map.mpr ⟨i, List.mem_range.mpr (by omega), rfl⟩)))))
            unfold m_tp
            rw [if_neg (by omega), if_neg (by omega), if_neg (by omega), if_neg (by omega), if_neg (by omega)]
        · unfold wZs at h
          obtain ⟨j, hj, rfl⟩ := List.mem_map.mp h
          have hjn := List.mem_range.mp hj
          show va_at D vwCl (zF z n v q (20 + j), _) H
          rw [gs j hjn]
          exact vaP_mem hP (List.mem_append_right _ (List.mem_append_left _ (List.mem_append_right _ (List.mem_map.mpr ⟨j, hj, rfl⟩))))
    · exact vaP_mem hP (List.mem_append_right _ (List.mem_append_right _ h))
  · unfold WZ wZ0
    simp only [List.map_append, List.map_cons, List.map_nil, wZf_addr, wZs_addr]
    rw [e6, e7, List.range_succ, List.map_append, List.map_cons, List.map_nil, gq, z_map gf, z_map gs, g0, g1, g2]
    generalize (List.range n).map (fun i => z (10 + i)) = L1
    generalize (List.range (σ 7).toNat).map (fun j => z (20 + j)) = L2
    generalize X.map (·.1) = L3
    rw [List.perm_iff_count]
    intro a
    simp only [List.count_append, List.count_cons, List.count_nil]
    omega
theorem sx_in {k n : Nat} (h : k < 2 + n) : sx k < 3 + n := by
  unfold sx
  (repeat' split) <;> omega
/-- a printed row: what the paper holds -/
theorem s_row_fl {σ T P : Nat → Int} {b : Nat} {y : Int} (h6 : 0 ≤ σ 6 ∧ σ 6 ≤ 8) : ∀ k, k < 2 + (σ 6).toNat → s_row σ T y (σ 6).toNat k = m_fl σ T P b y (σ 6).toNat (b + sx k) := by
  intro k hk
  obtain ⟨f0, f1, f2⟩ := m_fl_at (σ := σ) (T := T) (P := P) (b := b) (k := (σ 6).toNat) (y := y)
  unfold s_row
  by_cases h0 : k = 0
  · subst h0
    rw [if_pos rfl, show sx 0 = 0 from rfl, Nat.add_zero, f0]
  · rw [if_neg h0]
    by_cases h1 : k = 1
    · subst h1
      rw [if_pos rfl, show sx 1 = 2 from rfl, f2]
    · rw [if_neg h1, if_pos hk]
      have e : b + sx k = b + 3 + (k - 2) := by
        unfold sx
        rw [if_neg h0, if_neg h1]
        omega
      rw [e, m_fl_dy]
      unfold m_dy
      rw [if_pos (by omega)]
theorem WZ_sheetP {D : va_G} {A : Nat → Prop} {H : Heap} {cI cL : ClassId} {z : Nat → Nat} {σ T P : Nat → Int} {X : va_W} {n v q : Nat} {y : Int} (hn : n = (σ 7).toNat) (h6 : 0 ≤ σ 6 ∧ σ 6 ≤ 8) (h7 : 0 ≤ σ 7 ∧ σ 7 < 10) (hS : WS σ P)
    (hP : va_P D vwCl (([(v, .inl (cL, n + 1, .inr (.inr (.inr (.inr (fun j => if j < n then some (z (20 + j)) else if j = n then some q else none)))))), (z 2, .inl (cL, n, .inr (.inr (.inr (.inr (fun j => if j < n then some (z (20 + j)) else none)))))), (q, .inl (cI, 2 + (σ 6).toNat, .inl (fun i => iI (s_row σ T y (σ 6).toNat i)))), (z 0, .inr (8, [.int (iI (σ 0)), .int (iI (σ 1)), .int (iI (σ 2)), .int (iI (σ 3)), .int (iI (σ 4)), .int (iI (σ 5)), .ref (z 1), .ref v, .int (iI (σ 9)), .int (iI (σ 10))])), (z 1, .inl (cL, (σ 6).toNat, .inr (.inr (.inr (.inr (fun j => if j < (σ 6).toNat then some (z (10 + j)) else none))))))] : va_W) ++ ((wZf cI z T (σ 6).toNat ++ wZs cI z P n) ++ X)) H)
    (hD : va_D A (([(v, .inl (cL, n + 1, .inr (.inr (.inr (.inr (fun j => if j < n then some (z (20 + j)) else if j = n then some q else none)))))), (z 2, .inl (cL, n, .inr (.inr (.inr (.inr (fun j => if j < n then some (z (20 + j)) else none)))))), (q, .inl (cI, 2 + (σ 6).toNat, .inl (fun i => iI (s_row σ T y (σ 6).toNat i)))), (z 0, .inr (8, [.int (iI (σ 0)), .int (iI (σ 1)), .int (iI (σ 2)), .int (iI (σ 3)), .int (iI (σ 4)), .int (iI (σ 5)), .ref (z 1), .ref v, .int (iI (σ 9)), .int (iI (σ 10))])), (z 1, .inl (cL, (σ 6).toNat, .inr (.inr (.inr (.inr (fun j => if j < (σ 6).toNat then some (z (10 + j)) else none))))))] : va_W) ++ ((wZf cI z T (σ 6).toNat ++ wZs cI z P n) ++ X))) :
    va_P D vwCl (WZ cI cL (zS z n v q) (st σ 7 (σ 7 + 1)) T (m_fl σ T P (11 * n) y (σ 6).toNat) ++ X) H ∧ va_D A (WZ cI cL (zS z n v q) (st σ 7 (σ 7 + 1)) T (m_fl σ T P (11 * n) y (σ 6).toNat) ++ X) := by
  have g0 : zS z n v q 0 = z 0 := zS_ne (by omega) (by omega)
  have g1 : zS z n v q 1 = z 1 := zS_ne (by omega) (by omega)
  have g2 : zS z n v q 2 = v := by
    unfold zS
    rw [if_neg (by omega), if_pos rfl]
  have gq : zS z n v q (20 + n) = q := if_pos rfl
  have gf : ∀ j, j < (σ 6).toNat → zS z n v q (10 + j) = z (10 + j) := fun j hj => zS_ne (by omega) (by omega)
  have gs : ∀ j, j < n → zS z n v q (20 + j) = z (20 + j) := fun j hj => zS_ne (by omega) (by omega)
  have e6 : (st σ 7 (σ 7 + 1) 6).toNat = (σ 6).toNat := rfl
  have e7 : (st σ 7 (σ 7 + 1) 7).toNat = n + 1 := by rw [st_eq]; omega
  obtain ⟨f0, f1, f2⟩ := m_fl_at (σ := σ) (T := T) (P := P) (b := 11 * n) (k := (σ 6).toNat) (y := y)
  refine va_newW hD ?_ [z 2] ?_
  · intro x hx
    rcases List.mem_append.mp hx with h | h
    · unfold WZ at h
      rw [e6, e7] at h
      rcases List.mem_append.mp h with h | h
      · unfold wZ0 at h
        rw [e6, e7, g0, g1, g2, z_grow gs gq, z_same gf] at h
        simp only [List.mem_cons, List.not_mem_nil, or_false] at h
        rcases h with rfl | rfl | rfl
        · exact hP 3 _ rfl
        · exact hP 4 _ rfl
        · exact hP 0 _ rfl
      · rcases List.mem_append.mp h with h | h
        · unfold wZf at h
          obtain ⟨i, hi, rfl⟩ := List.mem_map.mp h
          have hin := List.mem_range.mp hi
          show va_at D vwCl (zS z n v q (10 + i), _) H
          rw [gf i hin]
          exact vaP_mem hP (List.mem_append_right _ (List.mem_append_left _ (List.mem_append_left _ (List.mem_map.mpr ⟨i, hi, rfl⟩))))
        · unfold wZs at h
          obtain ⟨j, hj, rfl⟩ := List.mem_map.mp h
          have hjn := List.mem_range.mp hj
          by_cases e : j = n
          · subst e
            show va_at D vwCl (zS z j v q (20 + j), .inl (cI, 2 + (m_fl σ T P (11 * j) y (σ 6).toNat (11 * j + 1)).toNat, _)) H
            rw [gq, f1]
            exact vaP_row (s_row_fl (by omega)) (hP 2 _ rfl)
          · show va_at D vwCl (zS z n v q (20 + j), .inl (cI, 2 + (m_fl σ T P (11 * n) y (σ 6).toNat (11 * j + 1)).toNat, _)) H
            obtain ⟨-, s2, -, -⟩ := hS j (by omega)
            rw [gs j (by omega), m_fl_off (by omega) (by omega)]
            refine vaP_row (f := fun k => P (11 * j + sx k)) (fun k hk => ?_) (vaP_mem hP (List.mem_append_right _ (List.mem_append_left _ (List.mem_append_right _ (List.mem_map.mpr ⟨j, List.mem_range.mpr (by omega), rfl⟩)))))
            have := sx_in hk
            exact (m_fl_off (by omega) (by omega)).symm
    · exact vaP_mem hP (List.mem_append_right _ (List.mem_append_right _ h))
  · unfold WZ wZ0
    simp only [List.map_append, List.map_cons, List.map_nil, wZf_addr, wZs_addr]
    rw [e6, e7, List.range_succ, List.map_append, List.map_cons, List.map_nil, gq, z_map gf, z_map gs, g0, g1, g2]
    generalize (List.range (σ 6).toNat).map (fun i => z (10 + i)) = L1
    generalize (List.range n).map (fun j => z (20 + j)) = L2
    generalize X.map (·.1) = L3
    rw [List.perm_iff_count]
    intro a
    simp only [List.count_append, List.count_cons, List.count_nil]
    omega
theorem WZ_reprintP {D : va_G} {A : Nat → Prop} {H : Heap} {cI cL : ClassId} {z : Nat → Nat} {σ T P : Nat → Int} {X : va_W} {j q : Nat} {y : Int} (hj : (j : Int) < σ 7) (h6 : 0 ≤ σ 6 ∧ σ 6 ≤ 8) (h7 : 0 ≤ σ 7 ∧ σ 7 ≤ 10) (hS : WS σ P)
    (hP : va_P D vwCl (([(q, .inl (cI, 2 + (σ 6).toNat, .inl (fun i => iI (s_row σ T y (σ 6).toNat i)))), (z 0, .inr (8, [.int (iI (σ 0)), .int (iI (σ 1)), .int (iI (σ 2)), .int (iI (σ 3)), .int (iI (σ 4)), .int (iI (σ 5)), .ref (z 1), .ref (z 2), .int (iI (σ 9)), .int (iI (σ 10))])), (z 1, .inl (cL, (σ 6).toNat, .inr (.inr (.inr (.inr (fun j => if j < (σ 6).toNat then some (z (10 + j)) else none)))))), (z 2, .inl (cL, (σ 7).toNat, .inr (.inr (.inr (.inr (va_up (fun j => if j < (σ 7).toNat then some (z (20 + j)) else none) j (some q)))))))] : va_W) ++ ((wZf cI z T (σ 6).toNat ++ wZs cI z P (σ 7).toNat) ++ X)) H)
    (hD : va_D A (([(q, .inl (cI, 2 + (σ 6).toNat, .inl (fun i => iI (s_row σ T y (σ 6).toNat i)))), (z 0, .inr (8, [.int (iI (σ 0)), .int (iI (σ 1)), .int (iI (σ 2)), .int (iI (σ 3)), .int (iI (σ 4)), .int (iI (σ 5)), .ref (z 1), .ref (z 2), .int (iI (σ 9)), .int (iI (σ 10))])), (z 1, .inl (cL, (σ 6).toNat, .inr (.inr (.inr (.inr (fun j => if j < (σ 6).toNat then some (z (10 + j)) else none)))))), (z 2, .inl (cL, (σ 7).toNat, .inr (.inr (.inr (.inr (va_up (fun j => if j < (σ 7).toNat then some (z (20 + j)) else none) j (some q)))))))] : va_W) ++ ((wZf cI z T (σ 6).toNat ++ wZs cI z P (σ 7).toNat) ++ X))) :
    va_P D vwCl (WZ cI cL (zR z j q) σ T (m_fl σ T P (11 * j) y (σ 6).toNat) ++ X) H ∧ va_D A (WZ cI cL (zR z j q) σ T (m_fl σ T P (11 * j) y (σ 6).toNat) ++ X) := by
  have g0 : zR z j q 0 = z 0 := zR_ne (by omega)
  have g1 : zR z j q 1 = z 1 := zR_ne (by omega)
  have g2 : zR z j q 2 = z 2 := zR_ne (by omega)
  have gq : zR z j q (20 + j) = q := if_pos rfl
  have gf : ∀ i, i < (σ 6).toNat → zR z j q (10 + i) = z (10 + i) := fun i hi => zR_ne (by omega)
  have gs : ∀ i, i ≠ j → zR z j q (20 + i) = z (20 + i) := fun i hi => zR_ne (by omega)
  obtain ⟨f0, f1, f2⟩ := m_fl_at (σ := σ) (T := T) (P := P) (b := 11 * j) (k := (σ 6).toNat) (y := y)
  have gup : (fun i => if i < (σ 7).toNat then some (zR z j q (20 + i)) else none) = va_up (fun j => if j < (σ 7).toNat then some (z (20 + j)) else none) j (some q) := by
    funext i
    unfold va_up
    by_cases h : i = j
    · subst h
      rw [if_pos (by omega), if_pos rfl, gq]
    · rw [if_neg h, gs i h]
  refine va_newW hD ?_ [z (20 + j)] ?_
  · intro x hx
    rcases List.mem_append.mp hx with h | h
    · unfold WZ at h
      rcases List.mem_append.mp h with h | h
      · unfold wZ0 at h
        rw [g0, g1, g2, z_same gf, gup] at h
        simp only [List.mem_cons, List.not_mem_nil, or_false] at h
        rcases h with rfl | rfl | rfl
        · exact hP 1 _ rfl
        · exact hP 2 _ rfl
        · exact hP 3 _ rfl
      · rcases List.mem_append.mp h with h | h
        · unfold wZf at h
          obtain ⟨i, hi, rfl⟩ := List.mem_map.mp h
          have hin := List.mem_range.mp hi
          show va_at D vwCl (zR z j q (10 + i), _) H
          rw [gf i hin]
          exact vaP_mem hP (List.mem_append_right _ (List.mem_append_left _ (List.mem_append_left _ (List.mem_map.mpr ⟨i, hi, rfl⟩))))
        · unfold wZs at h
          obtain ⟨i, hi, rfl⟩ := List.mem_map.mp h
          have hin := List.mem_range.mp hi
          by_cases e : i = j
          · subst e
            show va_at D vwCl (zR z i q (20 + i), .inl (cI, 2 + (m_fl σ T P (11 * i) y (σ 6).toNat (11 * i + 1)).toNat, _)) H
            rw [gq, f1]
            exact vaP_row (s_row_fl (by omega)) (hP 0 _ rfl)
          · show va_at D vwCl (zR z j q (20 + i), .inl (cI, 2 + (m_fl σ T P (11 * j) y (σ 6).toNat (11 * i + 1)).toNat, _)) H
            obtain ⟨-, s2, -, -⟩ := hS i (by omega)
            rw [gs i e, m_fl_off (by omega) (by omega)]
            refine vaP_row (f := fun k => P (11 * i + sx k)) (fun k hk => ?_) (vaP_mem hP (List.mem_append_right _ (List.mem_append_left _ (List.mem_append_right _ (List.mem_map.mpr ⟨i, hi, rfl⟩)))))
            have := sx_in hk
            exact (m_fl_off (by omega) (by omega)).symm
    · exact vaP_mem hP (List.mem_append_right _ (List.mem_append_right _ h))
  · unfold WZ wZ0
    simp only [List.map_append, List.map_cons, List.map_nil, wZf_addr, wZs_addr]
    rw [z_map gf, g0, g1, g2]
    have hr : (List.range (σ 7).toNat).Perm (j :: (List.range (σ 7).toNat).erase j) := List.perm_cons_erase (List.mem_range.mpr (by omega))
    have h1 := hr.map (fun i => zR z j q (20 + i))
    have h2 := hr.map (fun i => z (20 + i))
    have hne : ((List.range (σ 7).toNat).erase j).map (fun i => zR z j q (20 + i)) = ((List.range (σ 7).toNat).erase j).map (fun i => z (20 + i)) := List.map_congr_left (fun i hi => gs i ((List.Nodup.mem_erase_iff List.nodup_range).mp hi).1)
    rw [List.map_cons, gq, hne] at h1
    rw [List.map_cons] at h2
    generalize (List.range (σ 6).toNat).map (fun i => z (10 + i)) = L1
    generalize X.map (·.1) = L3
    generalize ((List.range (σ 7).toNat).erase j).map (fun i => z (20 + i)) = L2 at h1 h2
    generalize (List.range (σ 7).toNat).map (fun i => zR z j q (20 + i)) = M1 at h1 ⊢
    generalize (List.range (σ 7).toNat).map (fun i => z (20 + i)) = M2 at h2 ⊢
    rw [List.perm_iff_count] at h1 h2 ⊢
    intro a
    have c1 := h1 a
    have c2 := h2 a
    simp only [List.count_append, List.count_cons, List.count_nil] at c1 c2 ⊢
    omega
