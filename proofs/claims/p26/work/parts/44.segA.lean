/-! ===== the law: the rows of before ===== -/
def WAS (cI cL : ClassId) (q : Nat) (w : Nat → Nat) (P : Nat → Int) (n : Nat) : va_W := (q, .inl (cL, n, .inr (.inr (.inr (.inr (fun j => if j < n then some (w (20 + j)) else none)))))) :: wZs cI w P n
theorem was_at {D : va_G} {cI cL : ClassId} {q : Nat} {w : Nat → Nat} {P : Nat → Int} {n : Nat} {H : Heap} (h : va_P D vwCl (WAS cI cL q w P n) H) : ar D q (cL, n, .inr (.inr (.inr (.inr (fun j => if j < n then some (w (20 + j)) else none))))) H := h 0 _ rfl
theorem was_row {D : va_G} {cI cL : ClassId} {q : Nat} {w : Nat → Nat} {P : Nat → Int} {n : Nat} {H : Heap} (h : va_P D vwCl (WAS cI cL q w P n) H) {j : Nat} (hj : j < n) : ar D (w (20 + j)) (cI, 2 + (P (11 * j + 1)).toNat, .inl (fun k => iI (P (11 * j + sx k)))) H :=
  vaP_mem h (List.mem_cons_of_mem _ (List.mem_map.mpr ⟨j, List.mem_range.mpr hj, rfl⟩))
def w_row (P : Nat → Int) (b f : Nat) : Nat → Int := fun i => if i < f then P (b + sx i) else 0
theorem w_row_0 (P : Nat → Int) (b : Nat) : st (st (fun _ => 0) (0) (P (b))) (1) (P (b + 2)) = w_row P b (Int.toNat 2) := by
  funext i
  unfold st w_row
  by_cases h1 : i = 1
  · subst h1
    rw [if_pos rfl, if_pos (by simp)]
    rfl
  · rw [if_neg h1]
    by_cases h0 : i = 0
    · subst h0
      rw [if_pos rfl, if_pos (by simp)]
      rfl
    · rw [if_neg h0, if_neg (by simp; omega)]
theorem w_row_st (P : Nat → Int) (b : Nat) {f : Int} (h : 2 ≤ f) : st (w_row P b f.toNat) (f.toNat) (P (b + 3 + Int.toNat (f - 2))) = w_row P b (f + 1).toNat := by
  funext i
  by_cases hi : i = f.toNat
  · subst hi
    rw [st_eq]
    unfold w_row sx
    rw [if_pos (by omega), if_neg (by omega), if_neg (by omega)]
    congr 1
    omega
  · rw [st_ne hi]
    unfold w_row
    by_cases h2 : i < f.toNat
    · rw [if_pos h2, if_pos (by omega)]
    · rw [if_neg h2, if_neg (by omega)]
theorem was_step {D : va_G} {A : Nat → Prop} {H : Heap} {cI cL : ClassId} {w : Nat → Nat} {P : Nat → Int} {X : va_W} {n q r : Nat} {k : Int} {f : Nat → Int} (hk : 0 ≤ k) (hf : ∀ i, i < 2 + (P (11 * k.toNat + 1)).toNat → f i = P (11 * k.toNat + sx i))
    (hP : va_P D vwCl (([(r, .inl (cI, 2 + (P (11 * k.toNat + 1)).toNat, .inl (fun i => iI (f i)))), (q, .inl (cL, n, .inr (.inr (.inr (.inr (va_up (fun j => if j < k.toNat then some (w (20 + j)) else none) (k.toNat) (some (r))))))))] : va_W) ++ (wZs cI w P k.toNat ++ X)) H)
    (hD : va_D A (([(r, .inl (cI, 2 + (P (11 * k.toNat + 1)).toNat, .inl (fun i => iI (f i)))), (q, .inl (cL, n, .inr (.inr (.inr (.inr (va_up (fun j => if j < k.toNat then some (w (20 + j)) else none) (k.toNat) (some (r))))))))] : va_W) ++ (wZs cI w P k.toNat ++ X))) :
    va_P D vwCl (([(q, .inl (cL, n, .inr (.inr (.inr (.inr (fun j => if j < (k + 1).toNat then some (zR w k.toNat r (20 + j)) else none))))))] : va_W) ++ (wZs cI (zR w k.toNat r) P (k + 1).toNat ++ X)) H ∧ va_D A (([(q, .inl (cL, n, .inr (.inr (.inr (.inr (fun j => if j < (k + 1).toNat then some (zR w k.toNat r (20 + j)) else none))))))] : va_W) ++ (wZs cI (zR w k.toNat r) P (k + 1).toNat ++ X)) := by
  have e : (k + 1).toNat = k.toNat + 1 := by omega
  rw [e]
  generalize k.toNat = kn at *
  have gq : zR w kn r (20 + kn) = r := if_pos rfl
  have gs : ∀ j, j < kn → zR w kn r (20 + j) = w (20 + j) := fun j hj => zR_ne (by omega)
  have gup : (fun j => if j < kn + 1 then some (zR w kn r (20 + j)) else none) = va_up (fun j => if j < kn then some (w (20 + j)) else none) (kn) (some (r)) := by
    rw [z_grow gs gq]
    funext j
    show _ = if j = kn then some r else (if j < kn then some (w (20 + j)) else none)
    by_cases h : j < kn
    · rw [if_pos h, if_neg (by omega), if_pos h]
    · rw [if_neg h]
      by_cases h2 : j = kn
      · rw [if_pos h2, if_pos h2]
      · rw [if_neg h2, if_neg h2, if_neg h]
  rw [gup]
  refine va_newW hD ?_ [] ?_
  · intro x hx
    rcases List.mem_append.mp hx with h | h
    · simp only [List.mem_cons, List.not_mem_nil, or_false] at h
      rw [h]
      exact hP 1 _ rfl
    · rcases List.mem_append.mp h with h | h
      · unfold wZs at h
        obtain ⟨j, hj, rfl⟩ := List.mem_map.mp h
        have hjn := List.mem_range.mp hj
        by_cases e2 : j = kn
        · subst e2
          show va_at D vwCl (zR w j r (20 + j), _) H
          rw [gq]
          exact vaP_row hf (hP 0 _ rfl)
        · show va_at D vwCl (zR w kn r (20 + j), _) H
          rw [gs j (by omega)]
          exact vaP_mem hP (List.mem_append_right _ (List.mem_append_left _ (List.mem_map.mpr ⟨j, List.mem_range.mpr (by omega), rfl⟩)))
      · exact vaP_mem hP (List.mem_append_right _ (List.mem_append_right _ h))
  · simp only [List.map_append, List.map_cons, List.map_nil, wZs_addr]
    rw [List.range_succ, List.map_append, List.map_cons, List.map_nil, gq, z_map gs]
    generalize (List.range kn).map (fun j => w (20 + j)) = L1
    generalize X.map (·.1) = L3
    rw [List.perm_iff_count]
    intro a
    simp only [List.count_append, List.count_cons, List.count_nil]
    omega
set_option maxHeartbeats 4000000 in
set_option maxRecDepth 100000 in
theorem sg_A {p : Program} {l : Launch} {e : Env} {s : State} {m : MethodId} {args : Array Value} {below : List Frame} {meth : Method} {c : Code} {Q : State → Prop} {A0 : Nat → Prop} {D : va_G} {cI cO cL : ClassId} {ed : Nat × Nat × Nat} (C0 : LC p l s m args c A0 D cI cO cL ed) {g z : Nat → Nat} {σ T P : Nat → Int} (hLW : LW σ T P) (hco : 0 ≤ σ 10 ∧ σ 10 ≤ σ 9 ∧ σ 9 ≤ 1000) {H : Heap} {locs : List Loc} {cells slots : Nat} (hcR : cells + 30 ≤ room_1.cells) (hsR : slots + 300 ≤ room_1.slots) (hP : va_P D vwCl (WC cI cO g σ T P ++ WZ cI cL z σ T P) H) (hD : va_D A0 (WC cI cO g σ T P ++ WZ cI cL z σ T P)) (hS : va_S A0 s.heap H locs) {t : Int} (ht : 0 ≤ t ∧ t < 24) {ls : Array Slot} (hl : lv_has ls 18 [(0, .ref ed.2.1), (1, .ref (g 0)), (2, .ref (z 0)), (3, .int (iI (t)))]) (kk : ∀ (x : Int) (wq : Nat) (w : Nat → Nat) (H : Heap) (locs : List Loc) (ls : Array Slot), (-2147483648 ≤ x ∧ x < 2147483648) → va_P D vwCl ((WC cI cO g σ T P ++ WZ cI cL z σ T P) ++ WAS cI cL wq w P (σ 7).toNat) H → va_D A0 ((WC cI cO g σ T P ++ WZ cI cL z σ T P) ++ WAS cI cL wq w P (σ 7).toNat) → va_S A0 s.heap H locs → lv_has ls 18 [(0, .ref ed.2.1), (1, .ref (g 0)), (2, .ref (z 0)), (3, .int (iI (t))), (4, .int (iI (x))), (5, .int (iI (σ 7))), (6, .ref wq)] → W p l e room_1 s m args below meth c H locs (cells + 11) (slots + 110) Q (F0 m 163 ls [])) : W p l e room_1 s m args below meth c H locs cells slots Q (F0 m 28 ls []) := by
  obtain ⟨hx, hb, hml, hown, hts, hA, hK, hE, hT⟩ := C0
  obtain ⟨hW, hSS, hp0⟩ := id hLW
  obtain ⟨w0, w1, w2, w3, w4, w5, w6, w7, w8⟩ := id hW
  have hin_X6 : ∀ w ∈ u_ws RX6 TX6 10, w ∈ wsL_law := (fun w h => (List.mem_append_left _ (List.mem_append_left _ (List.mem_append_left _ (List.mem_append_left _ (List.mem_append_left _ (List.mem_append_left _ (List.mem_append_left _ (List.mem_append_left _ (List.mem_append_left _ (List.mem_append_left _ (List.mem_append_right _ h))))))))))))
  have hP : va_P D vwCl ([] ++ ([] ++ (WC cI cO g σ T P ++ WZ cI cL z σ T P))) H := hP
  have hD : va_D A0 ([] ++ ([] ++ (WC cI cO g σ T P ++ WZ cI cL z σ T P))) := hD
  have hPc : PicC D cI cO g σ T P H := vaP_mems hP (fun q hq => List.mem_append_right _ (List.mem_append_right _ (List.mem_append_left _ hq)))
  refine lv_aload_n hx hb dL_law_28 rfl (lv_at hl 0 rfl) ?_
  refine lv_iload_n hx hb dL_law_29 rfl (lv_at hl 3 rfl) ?_
  refine q_bipush hx hb dL_law_30 (by decide) ?_
  refine q_irem hx hb dL_law_32 (by omega) (by omega) ?_
  refine q_callSe (fr := 0) (lo := 0) (nL := 18) (wc := []) (wr := [] ++ ([] ++ (WC cI cO g σ T P ++ WZ cI cL z σ T P))) (As := [.ref ed.2.1, .int (iI ((t) % (16)))]) (rest := []) ⟨hx, hb, hml, hown, hts⟩ (l_cell l D _ ed (ty3 cI cO cL) ((t) % (16)) (by omega)) (va_cwS 2 hts gL_law_L_cell rfl rfl rfl (by decide +kernel) ⟨Nat.le_of_ble_eq_true rfl, Nat.le_of_ble_eq_true rfl⟩) hP hD hS hA hK hE hT rfl hl.1 rfl (Nat.le_of_ble_eq_true rfl) dL_law_33 (by omega) (by omega) ?_
  intro cl33 H locs hcl33 hP hD hS
  have hP : va_P D vwCl ([] ++ ([] ++ (WC cI cO g σ T P ++ WZ cI cL z σ T P))) H := hP
  have hD : va_D A0 ([] ++ ([] ++ (WC cI cO g σ T P ++ WZ cI cL z σ T P))) := hD
  have hPc : PicC D cI cO g σ T P H := vaP_mems hP (fun q hq => List.mem_append_right _ (List.mem_append_right _ (List.mem_append_left _ hq)))
  refine lv_iload_n hx hb dL_law_36 rfl (lv_at hl 3 rfl) ?_
  refine q_bipush hx hb dL_law_37 (by decide) ?_
  refine q_idiv hx hb dL_law_39 (by omega) (by omega) ?_
  refine q_iconst hx hb dL_law_40 ?_
  refine q_imul hx hb dL_law_41 ?_
  refine q_ishr hx hb dL_law_42 ?_
  have hsr42 := m_sr_in (cl33) (((t) / (16)) * (3))
  refine q_bipush hx hb dL_law_43 (by decide) ?_
  refine lv_iload_n hx hb dL_law_45 rfl (lv_at hl 3 rfl) ?_
  refine q_imul hx hb dL_law_46 ?_
  refine q_iadd hx hb dL_law_47 ?_
  refine q_wrap (fun x hx9 => ?_)
  refine lv_istore (lv' := [(4, .int (iI (x))), (0, .ref ed.2.1), (1, .ref (g 0)), (2, .ref (z 0)), (3, .int (iI (t)))]) hx hb dL_law_48 hl (by decide) rfl (fun ls hl => ?_)
  refine lv_aload_n hx hb dL_law_50 rfl (lv_at hl 2 rfl) ?_
  refine q_bipush hx hb dL_law_51 (by decide) ?_
  refine q_callV (fr := 6) (lo := 131) (nL := 18) (Pic := PicC D cI cO g σ T P) (As := [.int (iI (7))]) (rest := []) ⟨hx, hb, hml, hown, hts⟩ (p_count l D cI cO cL g σ T P hW hSS (7) (by omega)) (cwV 1 hts gL_law_X5_count rfl rfl rfl (by decide +kernel) ⟨Nat.le_of_ble_eq_true rfl, Nat.le_of_ble_eq_true rfl⟩) (ob_recv hPc.base.at0 hK rfl) hPc hK rfl hl.1 rfl (Nat.le_of_ble_eq_true rfl) dL_law_53 (by omega) (by omega) ?_
  refine q_is (z := σ 7) (rfl) ?_
  refine lv_istore (lv' := [(5, .int (iI (σ 7))), (4, .int (iI (x))), (0, .ref ed.2.1), (1, .ref (g 0)), (2, .ref (z 0)), (3, .int (iI (t)))]) hx hb dL_law_56 hl (by decide) rfl (fun ls hl => ?_)
  refine lv_iload hx hb dL_law_58 (lv_at hl 0 rfl) ?_
  refine q_newM hx hb hown (hts (.classLink RL 112 "[I") (List.mem_of_getElem? (i := 3) rfl)) hT.1.1 hK 2 rfl hP hD hS hA ((σ 7).toNat) (by omega) (by omega) (by omega) (by omega) dL_law_60 ?_
  intro q60 H hP hD hS
  refine W.widen (k := (cells + 1)) (n := (slots + 10)) (by omega) (by omega) ?_
  have hP : va_P D vwCl ([(q60, .inl (cL, (σ 7).toNat, .inr (.inr (.inr (.inr (fun _ => none))))))] ++ ([] ++ (WC cI cO g σ T P ++ WZ cI cL z σ T P))) H := hP
  have hD : va_D A0 ([(q60, .inl (cL, (σ 7).toNat, .inr (.inr (.inr (.inr (fun _ => none))))))] ++ ([] ++ (WC cI cO g σ T P ++ WZ cI cL z σ T P))) := hD
  have hPc : PicC D cI cO g σ T P H := vaP_mems hP (fun q hq => List.mem_append_right _ (List.mem_append_right _ (List.mem_append_left _ hq)))
  refine lv_astore (lv' := [(6, .ref q60), (5, .int (iI (σ 7))), (4, .int (iI (x))), (0, .ref ed.2.1), (1, .ref (g 0)), (2, .ref (z 0)), (3, .int (iI (t)))]) hx hb dL_law_63 hl (by decide) rfl (fun ls hl => ?_)
  refine q_iconst hx hb dL_law_65 ?_
  refine lv_istore (lv' := [(7, .int (iI (0))), (6, .ref q60), (5, .int (iI (σ 7))), (4, .int (iI (x))), (0, .ref ed.2.1), (1, .ref (g 0)), (2, .ref (z 0)), (3, .int (iI (t)))]) hx hb dL_law_66 hl (by decide) rfl (fun ls hl => ?_)
  have key_68 : ∀ (fu : Nat) (w : Nat → Nat) (k : Int), 0 ≤ k ∧ k ≤ σ 7 → (((σ 7 - k).toNat : Int)) < (fu : Int) → ∀ (H : Heap) (locs : List Loc), va_P D vwCl ([(q60, .inl (cL, (σ 7).toNat, .inr (.inr (.inr (.inr (fun j => if j < k.toNat then some (w (20 + j)) else none))))))] ++ (wZs cI w P k.toNat ++ (WC cI cO g σ T P ++ WZ cI cL z σ T P))) H → va_D A0 ([(q60, .inl (cL, (σ 7).toNat, .inr (.inr (.inr (.inr (fun j => if j < k.toNat then some (w (20 + j)) else none))))))] ++ (wZs cI w P k.toNat ++ (WC cI cO g σ T P ++ WZ cI cL z σ T P))) → va_S A0 s.heap H locs → ∀ ls : Array Slot, lv_has ls 18 [(0, .ref ed.2.1), (1, .ref (g 0)), (2, .ref (z 0)), (3, .int (iI (t))), (4, .int (iI (x))), (5, .int (iI (σ 7))), (6, .ref q60), (7, .int (iI (k)))] → W p l e room_1 s m args below meth c H locs (cells + (1 + k.toNat)) (slots + (10 + 10 * k.toNat)) (Q) (F0 m 68 ls []) := by
    intro fu
    induction fu with
    | zero => intro w k hk hm_68 H locs hP hD hS ls hl; exact absurd hm_68 (by omega)
    | succ fu ih_68 =>
      intro w k hk hm_68 H locs hP hD hS ls hl
      have hPc : PicC D cI cO g σ T P H := vaP_mems hP (fun q hq => List.mem_append_right _ (List.mem_append_right _ (List.mem_append_left _ hq)))
      refine lv_iload hx hb dL_law_68 (lv_at hl 7 rfl) ?_
      refine lv_iload hx hb dL_law_70 (lv_at hl 5 rfl) ?_
      refine q_icmp_ge (tgt := 163) hx hb dL_law_72 (by decide) (by omega) (by omega) (fun c_1 => ?_) (fun c_1 => ?_)
      · skip
        rw [show k = σ 7 by omega] at hP hD
        obtain ⟨hP, hD⟩ := va_swap (w1 := WAS cI cL q60 w P (σ 7).toNat) (w2 := (WC cI cO g σ T P ++ WZ cI cL z σ T P)) (by exact hP) (by exact hD)
        refine W.widen (k := cells + 11) (n := slots + 110) (by omega) (by omega) ?_
        exact kk x q60 w _ _ _ hx9 hP hD hS (lv_sub hl [0, 1, 2, 3, 4, 5, 6] rfl)
      · skip
        refine lv_aload hx hb dL_law_75 (lv_at hl 6 rfl) ?_
        refine lv_iload hx hb dL_law_77 (lv_at hl 7 rfl) ?_
        obtain ⟨s1, s2, s3, s4⟩ := hSS k.toNat (by omega)
        refine q_iconst hx hb dL_law_79 ?_
        refine lv_aload_n hx hb dL_law_80 rfl (lv_at hl 1 rfl) ?_
        refine lv_iload hx hb dL_law_81 (lv_at hl 7 rfl) ?_
        refine q_iconst hx hb dL_law_83 ?_
        refine q_callV (fr := 5) (lo := 109) (nL := 18) (Pic := PicC D cI cO g σ T P) (As := [.int (iI (k)), .int (iI (1))]) (rest := [.int (iI (2)), .int (iI (k)), .ref q60]) ⟨hx, hb, hml, hown, hts⟩ (p_sheet l D cI cO cL g σ T P hW hSS (k) (1) (by omega) (by omega)) (cwV 2 hts gL_law_X5_sheet rfl rfl rfl (by decide +kernel) ⟨Nat.le_of_ble_eq_true rfl, Nat.le_of_ble_eq_true rfl⟩) (ob_recv hPc.base.at0 hK rfl) hPc hK rfl hl.1 rfl (Nat.le_of_ble_eq_true rfl) dL_law_84 (by omega) (by omega) ?_
        refine q_is (z := P (11 * k.toNat + 1)) (rfl) ?_
        refine q_iadd hx hb dL_law_87 ?_
        refine q_newi hx hb (hts (.arrayClass .int) (List.mem_of_getElem? (i := 4) rfl)) hK 0 rfl hP hD hS hA (2 + (P (11 * k.toNat + 1)).toNat) (by omega) (by omega) (by omega) (by omega) dL_law_88 ?_
        intro q88 H hP hD hS
        refine W.widen (k := (cells + (1 + k.toNat) + 1)) (n := (slots + (10 + 10 * k.toNat) + 10)) (by omega) (by omega) ?_
        have hP : va_P D vwCl ([(q88, .inl (cI, 2 + (P (11 * k.toNat + 1)).toNat, .inl (fun q9 => iI ((fun _ => 0) q9)))), (q60, .inl (cL, (σ 7).toNat, .inr (.inr (.inr (.inr (fun j => if j < k.toNat then some (w (20 + j)) else none))))))] ++ (wZs cI w P k.toNat ++ (WC cI cO g σ T P ++ WZ cI cL z σ T P))) H := hP
        have hD : va_D A0 ([(q88, .inl (cI, 2 + (P (11 * k.toNat + 1)).toNat, .inl (fun q9 => iI ((fun _ => 0) q9)))), (q60, .inl (cL, (σ 7).toNat, .inr (.inr (.inr (.inr (fun j => if j < k.toNat then some (w (20 + j)) else none))))))] ++ (wZs cI w P k.toNat ++ (WC cI cO g σ T P ++ WZ cI cL z σ T P))) := hD
        have hPc : PicC D cI cO g σ T P H := vaP_mems hP (fun q hq => List.mem_append_right _ (List.mem_append_right _ (List.mem_append_left _ hq)))
        refine q_aastM (f := fun j => if j < k.toNat then some (w (20 + j)) else none) (x := _) hx hb hT.1.1 hK hP hD hS 1 2 0 rfl rfl rfl (List.mem_of_getElem? (i := 0) rfl) (k.toNat) (by omega) (by omega) (by omega) dL_law_90 (fun H locs hP hD hS => ?_)
        have hP : va_P D vwCl ([(q88, .inl (cI, 2 + (P (11 * k.toNat + 1)).toNat, .inl (fun q9 => iI ((fun _ => 0) q9)))), (q60, .inl (cL, (σ 7).toNat, .inr (.inr (.inr (.inr (va_up (fun j => if j < k.toNat then some (w (20 + j)) else none) (k.toNat) (some (q88))))))))] ++ (wZs cI w P k.toNat ++ (WC cI cO g σ T P ++ WZ cI cL z σ T P))) H := hP
        have hD : va_D A0 ([(q88, .inl (cI, 2 + (P (11 * k.toNat + 1)).toNat, .inl (fun q9 => iI ((fun _ => 0) q9)))), (q60, .inl (cL, (σ 7).toNat, .inr (.inr (.inr (.inr (va_up (fun j => if j < k.toNat then some (w (20 + j)) else none) (k.toNat) (some (q88))))))))] ++ (wZs cI w P k.toNat ++ (WC cI cO g σ T P ++ WZ cI cL z σ T P))) := hD
        have hPc : PicC D cI cO g σ T P H := vaP_mems hP (fun q hq => List.mem_append_right _ (List.mem_append_right _ (List.mem_append_left _ hq)))
        refine lv_aload hx hb dL_law_91 (lv_at hl 6 rfl) ?_
        refine lv_iload hx hb dL_law_93 (lv_at hl 7 rfl) ?_
        refine q_aldA (cA := cL) (n := (σ 7).toNat) (f := (va_up (fun j => if j < k.toNat then some (w (20 + j)) else none) (k.toNat) (some (q88)))) (v := q88) hx hb hK (hP 1 _ rfl) 2 rfl (by omega) (by omega) (if_pos rfl) dL_law_95 ?_
        refine q_iconst hx hb dL_law_96 ?_
        refine lv_aload_n hx hb dL_law_97 rfl (lv_at hl 1 rfl) ?_
        refine lv_iload hx hb dL_law_98 (lv_at hl 7 rfl) ?_
        refine q_iconst hx hb dL_law_100 ?_
        refine q_callV (fr := 5) (lo := 109) (nL := 18) (Pic := PicC D cI cO g σ T P) (As := [.int (iI (k)), .int (iI (0))]) (rest := [.int (iI (0)), .ref q88]) ⟨hx, hb, hml, hown, hts⟩ (p_sheet l D cI cO cL g σ T P hW hSS (k) (0) (by omega) (by omega)) (cwV 2 hts gL_law_X5_sheet rfl rfl rfl (by decide +kernel) ⟨Nat.le_of_ble_eq_true rfl, Nat.le_of_ble_eq_true rfl⟩) (ob_recv hPc.base.at0 hK rfl) hPc hK rfl hl.1 rfl (Nat.le_of_ble_eq_true rfl) dL_law_101 (by omega) (by omega) ?_
        refine q_is (z := P (11 * k.toNat)) (rfl) ?_
        refine q_iast (f := (fun _ => 0)) (x := P (11 * k.toNat)) hx hb hK hP hD hS 0 0 rfl rfl (0) (rfl) (by omega) (by omega) dL_law_104 (fun H locs hP hD hS => ?_)
        have hP : va_P D vwCl ([(q88, .inl (cI, 2 + (P (11 * k.toNat + 1)).toNat, .inl (fun q9 => iI (((st (fun _ => 0) (0) (P (11 * k.toNat)))) q9)))), (q60, .inl (cL, (σ 7).toNat, .inr (.inr (.inr (.inr (va_up (fun j => if j < k.toNat then some (w (20 + j)) else none) (k.toNat) (some (q88))))))))] ++ (wZs cI w P k.toNat ++ (WC cI cO g σ T P ++ WZ cI cL z σ T P))) H := hP
        have hD : va_D A0 ([(q88, .inl (cI, 2 + (P (11 * k.toNat + 1)).toNat, .inl (fun q9 => iI (((st (fun _ => 0) (0) (P (11 * k.toNat)))) q9)))), (q60, .inl (cL, (σ 7).toNat, .inr (.inr (.inr (.inr (va_up (fun j => if j < k.toNat then some (w (20 + j)) else none) (k.toNat) (some (q88))))))))] ++ (wZs cI w P k.toNat ++ (WC cI cO g σ T P ++ WZ cI cL z σ T P))) := hD
        have hPc : PicC D cI cO g σ T P H := vaP_mems hP (fun q hq => List.mem_append_right _ (List.mem_append_right _ (List.mem_append_left _ hq)))
        refine lv_aload hx hb dL_law_105 (lv_at hl 6 rfl) ?_
        refine lv_iload hx hb dL_law_107 (lv_at hl 7 rfl) ?_
        refine q_aldA (cA := cL) (n := (σ 7).toNat) (f := (va_up (fun j => if j < k.toNat then some (w (20 + j)) else none) (k.toNat) (some (q88)))) (v := q88) hx hb hK (hP 1 _ rfl) 2 rfl (by omega) (by omega) (if_pos rfl) dL_law_109 ?_
        refine q_iconst hx hb dL_law_110 ?_
        refine lv_aload_n hx hb dL_law_111 rfl (lv_at hl 1 rfl) ?_
        refine lv_iload hx hb dL_law_112 (lv_at hl 7 rfl) ?_
        refine q_iconst hx hb dL_law_114 ?_
        refine q_callV (fr := 5) (lo := 109) (nL := 18) (Pic := PicC D cI cO g σ T P) (As := [.int (iI (k)), .int (iI (2))]) (rest := [.int (iI (1)), .ref q88]) ⟨hx, hb, hml, hown, hts⟩ (p_sheet l D cI cO cL g σ T P hW hSS (k) (2) (by omega) (by omega)) (cwV 2 hts gL_law_X5_sheet rfl rfl rfl (by decide +kernel) ⟨Nat.le_of_ble_eq_true rfl, Nat.le_of_ble_eq_true rfl⟩) (ob_recv hPc.base.at0 hK rfl) hPc hK rfl hl.1 rfl (Nat.le_of_ble_eq_true rfl) dL_law_115 (by omega) (by omega) ?_
        refine q_is (z := P (11 * k.toNat + 2)) (rfl) ?_
        refine q_iast (f := ((st (fun _ => 0) (0) (P (11 * k.toNat))))) (x := P (11 * k.toNat + 2)) hx hb hK hP hD hS 0 0 rfl rfl (1) (rfl) (by omega) (by omega) dL_law_118 (fun H locs hP hD hS => ?_)
        have hP : va_P D vwCl ([(q88, .inl (cI, 2 + (P (11 * k.toNat + 1)).toNat, .inl (fun q9 => iI (((st ((st (fun _ => 0) (0) (P (11 * k.toNat)))) (1) (P (11 * k.toNat + 2)))) q9)))), (q60, .inl (cL, (σ 7).toNat, .inr (.inr (.inr (.inr (va_up (fun j => if j < k.toNat then some (w (20 + j)) else none) (k.toNat) (some (q88))))))))] ++ (wZs cI w P k.toNat ++ (WC cI cO g σ T P ++ WZ cI cL z σ T P))) H := hP
        have hD : va_D A0 ([(q88, .inl (cI, 2 + (P (11 * k.toNat + 1)).toNat, .inl (fun q9 => iI (((st ((st (fun _ => 0) (0) (P (11 * k.toNat)))) (1) (P (11 * k.toNat + 2)))) q9)))), (q60, .inl (cL, (σ 7).toNat, .inr (.inr (.inr (.inr (va_up (fun j => if j < k.toNat then some (w (20 + j)) else none) (k.toNat) (some (q88))))))))] ++ (wZs cI w P k.toNat ++ (WC cI cO g σ T P ++ WZ cI cL z σ T P))) := hD
        have hPc : PicC D cI cO g σ T P H := vaP_mems hP (fun q hq => List.mem_append_right _ (List.mem_append_right _ (List.mem_append_left _ hq)))
        refine q_iconst hx hb dL_law_119 ?_
        refine lv_istore (lv' := [(8, .int (iI (2))), (0, .ref ed.2.1), (1, .ref (g 0)), (2, .ref (z 0)), (3, .int (iI (t))), (4, .int (iI (x))), (5, .int (iI (σ 7))), (6, .ref q60), (7, .int (iI (k)))]) hx hb dL_law_120 hl (by decide) rfl (fun ls hl => ?_)
        have key_122 : ∀ (fu : Nat) (f : Int), 2 ≤ f ∧ f ≤ 2 + P (11 * k.toNat + 1) → (((2 + P (11 * k.toNat + 1) - f).toNat : Int)) < (fu : Int) → ∀ (H : Heap) (locs : List Loc), va_P D vwCl ([(q88, .inl (cI, 2 + (P (11 * k.toNat + 1)).toNat, .inl (fun q9 => iI ((w_row P (11 * k.toNat) f.toNat) q9)))), (q60, .inl (cL, (σ 7).toNat, .inr (.inr (.inr (.inr (va_up (fun j => if j < k.toNat then some (w (20 + j)) else none) (k.toNat) (some (q88))))))))] ++ (wZs cI w P k.toNat ++ (WC cI cO g σ T P ++ WZ cI cL z σ T P))) H → va_D A0 ([(q88, .inl (cI, 2 + (P (11 * k.toNat + 1)).toNat, .inl (fun q9 => iI ((w_row P (11 * k.toNat) f.toNat) q9)))), (q60, .inl (cL, (σ 7).toNat, .inr (.inr (.inr (.inr (va_up (fun j => if j < k.toNat then some (w (20 + j)) else none) (k.toNat) (some (q88))))))))] ++ (wZs cI w P k.toNat ++ (WC cI cO g σ T P ++ WZ cI cL z σ T P))) → va_S A0 s.heap H locs → ∀ ls : Array Slot, lv_has ls 18 [(0, .ref ed.2.1), (1, .ref (g 0)), (2, .ref (z 0)), (3, .int (iI (t))), (4, .int (iI (x))), (5, .int (iI (σ 7))), (6, .ref q60), (7, .int (iI (k))), (8, .int (iI (f)))] → W p l e room_1 s m args below meth c H locs (cells + (1 + k.toNat) + 1) (slots + (10 + 10 * k.toNat) + 10) (Q) (F0 m 122 ls []) := by
          intro fu
          induction fu with
          | zero => intro f hf hm_122 H locs hP hD hS ls hl; exact absurd hm_122 (by omega)
          | succ fu ih_122 =>
            intro f hf hm_122 H locs hP hD hS ls hl
            have hPc : PicC D cI cO g σ T P H := vaP_mems hP (fun q hq => List.mem_append_right _ (List.mem_append_right _ (List.mem_append_left _ hq)))
            refine lv_iload hx hb dL_law_122 (lv_at hl 8 rfl) ?_
            refine lv_aload hx hb dL_law_124 (lv_at hl 6 rfl) ?_
            refine lv_iload hx hb dL_law_126 (lv_at hl 7 rfl) ?_
            refine q_aldA (cA := cL) (n := (σ 7).toNat) (f := (va_up (fun j => if j < k.toNat then some (w (20 + j)) else none) (k.toNat) (some (q88)))) (v := q88) hx hb hK (hP 1 _ rfl) 2 rfl (by omega) (by omega) (if_pos rfl) dL_law_128 ?_
            refine q_alen (z := 2 + P (11 * k.toNat + 1)) hx hb hK (hP 0 _ rfl) 0 rfl (by omega) dL_law_129 ?_
            refine q_icmp_ge (tgt := 157) hx hb dL_law_130 (by decide) (by omega) (by omega) (fun c_2 => ?_) (fun c_2 => ?_)
            · skip
              refine q_iinc (k := 7) (lv' := [(7, .int (iI (k + 1))), (0, .ref ed.2.1), (1, .ref (g 0)), (2, .ref (z 0)), (3, .int (iI (t))), (4, .int (iI (x))), (5, .int (iI (σ 7))), (6, .ref q60), (8, .int (iI (f)))]) hx hb dL_law_157 hl rfl (by decide) rfl (fun ls hl => ?_)
              refine lv_goto (tgt := 68) hx hb dL_law_160 (by decide) ?_
              obtain ⟨hP, hD⟩ := was_step (w := w) (k := k) (f := w_row P (11 * k.toNat) f.toNat) (X := (WC cI cO g σ T P ++ WZ cI cL z σ T P)) hk.1 (fun i hi => if_pos (by omega)) (by exact hP) (by exact hD)
              refine W.widen (k := cells + (1 + (k + 1).toNat)) (n := slots + (10 + 10 * (k + 1).toNat)) (by omega) (by omega) ?_
              exact ih_68 (zR w k.toNat q88) (k + 1) (by omega) (by omega) _ _ (hP) (hD) hS _ (lv_sub hl [1, 2, 3, 4, 5, 6, 7, 0] rfl)
            · skip
              refine lv_aload hx hb dL_law_133 (lv_at hl 6 rfl) ?_
              refine lv_iload hx hb dL_law_135 (lv_at hl 7 rfl) ?_
              refine q_aldA (cA := cL) (n := (σ 7).toNat) (f := (va_up (fun j => if j < k.toNat then some (w (20 + j)) else none) (k.toNat) (some (q88)))) (v := q88) hx hb hK (hP 1 _ rfl) 2 rfl (by omega) (by omega) (if_pos rfl) dL_law_137 ?_
              refine lv_iload hx hb dL_law_138 (lv_at hl 8 rfl) ?_
              refine lv_aload_n hx hb dL_law_140 rfl (lv_at hl 1 rfl) ?_
              refine lv_iload hx hb dL_law_141 (lv_at hl 7 rfl) ?_
              refine lv_iload hx hb dL_law_143 (lv_at hl 8 rfl) ?_
              refine q_iconst hx hb dL_law_145 ?_
              refine q_isub hx hb dL_law_146 ?_
              refine q_callV (fr := 3) (lo := 64) (nL := 18) (Pic := PicC D cI cO g σ T P) (As := [.int (iI (k)), .int (iI (f - 2))]) (rest := [.int (iI (f)), .ref q88]) ⟨hx, hb, hml, hown, hts⟩ (p_printed l D cI cO cL g σ T P hW hSS (k) (f - 2) (by omega) (by omega)) (cwV 2 hts gL_law_X5_printed rfl rfl rfl (by decide +kernel) ⟨Nat.le_of_ble_eq_true rfl, Nat.le_of_ble_eq_true rfl⟩) (ob_recv hPc.base.at0 hK rfl) hPc hK rfl hl.1 rfl (Nat.le_of_ble_eq_true rfl) dL_law_147 (by omega) (by omega) ?_
              refine q_iast (f := (w_row P (11 * k.toNat) f.toNat)) (x := P (11 * Int.toNat (k) + 3 + Int.toNat (f - 2))) hx hb hK hP hD hS 0 0 rfl rfl (f.toNat) (by omega) (by omega) (by omega) dL_law_150 (fun H locs hP hD hS => ?_)
              have hP : va_P D vwCl ([(q88, .inl (cI, 2 + (P (11 * k.toNat + 1)).toNat, .inl (fun q9 => iI (((st (w_row P (11 * k.toNat) f.toNat) (f.toNat) (P (11 * Int.toNat (k) + 3 + Int.toNat (f - 2))))) q9)))), (q60, .inl (cL, (σ 7).toNat, .inr (.inr (.inr (.inr (va_up (fun j => if j < k.toNat then some (w (20 + j)) else none) (k.toNat) (some (q88))))))))] ++ (wZs cI w P k.toNat ++ (WC cI cO g σ T P ++ WZ cI cL z σ T P))) H := hP
              have hD : va_D A0 ([(q88, .inl (cI, 2 + (P (11 * k.toNat + 1)).toNat, .inl (fun q9 => iI (((st (w_row P (11 * k.toNat) f.toNat) (f.toNat) (P (11 * Int.toNat (k) + 3 + Int.toNat (f - 2))))) q9)))), (q60, .inl (cL, (σ 7).toNat, .inr (.inr (.inr (.inr (va_up (fun j => if j < k.toNat then some (w (20 + j)) else none) (k.toNat) (some (q88))))))))] ++ (wZs cI w P k.toNat ++ (WC cI cO g σ T P ++ WZ cI cL z σ T P))) := hD
              have hPc : PicC D cI cO g σ T P H := vaP_mems hP (fun q hq => List.mem_append_right _ (List.mem_append_right _ (List.mem_append_left _ hq)))
              refine q_iinc (k := 8) (lv' := [(8, .int (iI (f + 1))), (0, .ref ed.2.1), (1, .ref (g 0)), (2, .ref (z 0)), (3, .int (iI (t))), (4, .int (iI (x))), (5, .int (iI (σ 7))), (6, .ref q60), (7, .int (iI (k)))]) hx hb dL_law_151 hl rfl (by decide) rfl (fun ls hl => ?_)
              refine lv_goto (tgt := 122) hx hb dL_law_154 (by decide) ?_
              have hm2 := w_row_st P (11 * k.toNat) hf.1
              rw [hm2] at hP hD
              exact ih_122 (f + 1) (by omega) (by omega) _ _ (hP) (hD) hS _ (lv_sub hl [1, 2, 3, 4, 5, 6, 7, 8, 0] rfl)
        have hm1 := w_row_0 P (11 * k.toNat)
        rw [hm1] at hP hD
        exact key_122 (20) 2 (by omega) (by omega) _ _ (hP) (hD) hS _ (lv_sub hl [1, 2, 3, 4, 5, 6, 7, 8, 0] rfl)
  have hm0 := s_up_0 (fun _ => 0) 20
  rw [hm0] at hP hD
  refine W.widen (k := cells + (1 + Int.toNat 0)) (n := slots + (10 + 10 * Int.toNat 0)) (by simp) (by simp) ?_
  exact key_68 ((σ 7).toNat + 1) (fun _ => 0) 0 (by omega) (by omega) _ _ (hP) (hD) hS _ (lv_sub hl [4, 5, 6, 7, 3, 2, 1, 0] rfl)
set_option maxHeartbeats 4000000 in
set_option maxRecDepth 100000 in
theorem sg_B {p : Program} {l : Launch} {e : Env} {s : State} {m : MethodId} {args : Array Value} {below : List Frame} {meth : Method} {c : Code} {Q : State → Prop} {A0 : Nat → Prop} {D : va_G} {cI cO cL : ClassId} {ed : Nat × Nat × Nat} (C0 : LC p l s m args c A0 D cI cO cL ed) {g z : Nat → Nat} {σ T P : Nat → Int} (hLW : LW σ T P) (hco : 0 ≤ σ 10 ∧ σ 10 ≤ σ 9 ∧ σ 9 ≤ 1000) {H : Heap} {locs : List Loc} {cells slots : Nat} (hcR : cells + 30 ≤ room_1.cells) (hsR : slots + 300 ≤ room_1.slots) {x : Int} (hx9 : -2147483648 ≤ x ∧ x < 2147483648) {wq : Nat} {w : Nat → Nat} (hP : va_P D vwCl ((WC cI cO g σ T P ++ WZ cI cL z σ T P) ++ WAS cI cL wq w P (σ 7).toNat) H) (hD : va_D A0 ((WC cI cO g σ T P ++ WZ cI cL z σ T P) ++ WAS cI cL wq w P (σ 7).toNat)) (hS : va_S A0 s.heap H locs) (he6 : σ 6 = 0 → g 6 = ed.1) (he7 : σ 7 = 0 → g 7 = ed.1) {t : Int} {ls : Array Slot} (hl : lv_has ls 18 [(0, .ref ed.2.1), (1, .ref (g 0)), (2, .ref (z 0)), (3, .int (iI (t))), (4, .int (iI (x))), (5, .int (iI (σ 7))), (6, .ref wq)]) (kk : ∀ (wh : Int) (u : AS) (H : Heap) (locs : List Loc) (ls : Array Slot), ((m_bl (m_sr x 9) 8 = 4 ∧ 0 < σ 7) ∧ wh = m_bl (m_sr x 2) (σ 7)) ∨ (¬ (m_bl (m_sr x 9) 8 = 4 ∧ 0 < σ 7) ∧ wh = -1) → ActK g z ed σ T P x u → va_P D vwCl ((WC cI cO u.1 u.2.2.1 u.2.2.2.1 u.2.2.2.2 ++ WZ cI cL u.2.1 u.2.2.1 u.2.2.2.1 u.2.2.2.2) ++ WAS cI cL wq w P (σ 7).toNat) H → va_D A0 ((WC cI cO u.1 u.2.2.1 u.2.2.2.1 u.2.2.2.2 ++ WZ cI cL u.2.1 u.2.2.1 u.2.2.2.1 u.2.2.2.2) ++ WAS cI cL wq w P (σ 7).toNat) → va_S A0 s.heap H locs → lv_has ls 18 [(0, .ref ed.2.1), (1, .ref (g 0)), (2, .ref (z 0)), (3, .int (iI (t))), (4, .int (iI (x))), (5, .int (iI (σ 7))), (6, .ref wq), (8, .int (iI (wh)))] → W p l e room_1 s m args below meth c H locs (cells + 5) (slots + 60) Q (F0 m 221 ls [])) : W p l e room_1 s m args below meth c H locs cells slots Q (F0 m 163 ls []) := by
  obtain ⟨hx, hb, hml, hown, hts, hA, hK, hE, hT⟩ := C0
  obtain ⟨hW, hSS, hp0⟩ := id hLW
  obtain ⟨w0, w1, w2, w3, w4, w5, w6, w7, w8⟩ := id hW
  have hin_X6 : ∀ w ∈ u_ws RX6 TX6 10, w ∈ wsL_law := (fun w h => (List.mem_append_left _ (List.mem_append_left _ (List.mem_append_left _ (List.mem_append_left _ (List.mem_append_left _ (List.mem_append_left _ (List.mem_append_left _ (List.mem_append_left _ (List.mem_append_left _ (List.mem_append_left _ (List.mem_append_right _ h))))))))))))
  have hP : va_P D vwCl ([] ++ ((WC cI cO g σ T P ++ WZ cI cL z σ T P) ++ WAS cI cL wq w P (σ 7).toNat)) H := hP
  have hD : va_D A0 ([] ++ ((WC cI cO g σ T P ++ WZ cI cL z σ T P) ++ WAS cI cL wq w P (σ 7).toNat)) := hD
  have key_187 : ∀ (ir : Int), (ir = 1 ∧ m_bl (m_sr x 9) 8 = 4 ∧ 0 < σ 7) ∨ (ir = 0 ∧ ¬ (m_bl (m_sr x 9) 8 = 4 ∧ 0 < σ 7)) → ∀ ls : Array Slot, lv_has ls 18 [(0, .ref ed.2.1), (1, .ref (g 0)), (2, .ref (z 0)), (3, .int (iI (t))), (4, .int (iI (x))), (5, .int (iI (σ 7))), (6, .ref wq)] → W p l e room_1 s m args below meth c H locs (cells) (slots) (Q) (F0 m 187 ls [.int (iI (ir))]) := by
    intro ir hir ls hl
    refine lv_istore (lv' := [(7, .int (iI (ir))), (0, .ref ed.2.1), (1, .ref (g 0)), (2, .ref (z 0)), (3, .int (iI (t))), (4, .int (iI (x))), (5, .int (iI (σ 7))), (6, .ref wq)]) hx hb dL_law_187 hl (by decide) rfl (fun ls hl => ?_)
    have key_207 : ∀ (wh : Int), ((m_bl (m_sr x 9) 8 = 4 ∧ 0 < σ 7) ∧ wh = m_bl (m_sr x 2) (σ 7)) ∨ (¬ (m_bl (m_sr x 9) 8 = 4 ∧ 0 < σ 7) ∧ wh = -1) → ∀ ls : Array Slot, lv_has ls 18 [(0, .ref ed.2.1), (1, .ref (g 0)), (2, .ref (z 0)), (3, .int (iI (t))), (4, .int (iI (x))), (5, .int (iI (σ 7))), (6, .ref wq), (7, .int (iI (ir)))] → W p l e room_1 s m args below meth c H locs (cells) (slots) (Q) (F0 m 207 ls [.int (iI (wh))]) := by
      intro wh hwh ls hl
      refine lv_istore (lv' := [(8, .int (iI (wh))), (0, .ref ed.2.1), (1, .ref (g 0)), (2, .ref (z 0)), (3, .int (iI (t))), (4, .int (iI (x))), (5, .int (iI (σ 7))), (6, .ref wq), (7, .int (iI (ir)))]) hx hb dL_law_207 hl (by decide) rfl (fun ls hl => ?_)
      refine lv_aload_n hx hb dL_law_209 rfl (lv_at hl 2 rfl) ?_
      refine lv_aload_n hx hb dL_law_210 rfl (lv_at hl 3 rfl) ?_
      refine lv_iload hx hb dL_law_211 (lv_at hl 5 rfl) ?_
      refine q_callSp (fr := 6) (lo := 139) (nL := 18) (wc := (WC cI cO g σ T P ++ WZ cI cL z σ T P)) (wr := WAS cI cL wq w P (σ 7).toNat) (As := [.ref (g 0), .ref (z 0), .int (iI (x))]) (rest := []) ⟨hx, hb, hml, hown, hts⟩ (g_act l D _ ed cI cO cL g z σ T P (x) hLW hx9 he6 he7 hco) (va_cwS 3 hts gL_law_L_act rfl rfl rfl (by decide +kernel) ⟨Nat.le_of_ble_eq_true rfl, Nat.le_of_ble_eq_true rfl⟩) (by exact hP) (by exact hD) hS hA hK hE hT rfl hl.1 rfl (Nat.le_of_ble_eq_true rfl) dL_law_213 (by omega) (by omega) ?_
      intro u H locs hu hP hD hS
      refine q_if_ne (tgt := 221) hx hb dL_law_216 (by decide) (by omega) (fun c_1 => ?_) (fun c_1 => ?_)
      · skip
        exact kk wh u _ _ _ hwh hu hP hD hS (lv_sub hl [1, 2, 3, 4, 5, 6, 7, 0] rfl)
      · exfalso
        omega
    refine lv_iload hx hb dL_law_189 (lv_at hl 0 rfl) ?_
    refine q_if_eq (tgt := 206) hx hb dL_law_191 (by decide) (by omega) (fun c_2 => ?_) (fun c_2 => ?_)
    · skip
      refine q_iconst hx hb dL_law_206 ?_
      exact key_207 _ (by omega) _ (lv_sub hl [1, 2, 3, 4, 5, 6, 7, 0] rfl)
    · skip
      refine lv_iload hx hb dL_law_194 (lv_at hl 5 rfl) ?_
      refine q_iconst hx hb dL_law_196 ?_
      refine q_ishr hx hb dL_law_197 ?_
      have hsr197 := m_sr_in (x) (2)
      refine lv_iload hx hb dL_law_198 (lv_at hl 6 rfl) ?_
      refine q_callS (fr := 0) (lo := 0) (nL := 18) (Pic := fun _ => True) (As := [.int (iI (m_sr (x) (2))), .int (iI (σ 7))]) (rest := []) ⟨hx, hb, hml, hown, hts⟩ (l_below l D (ty3 cI cO cL) (m_sr (x) (2)) (σ 7) (by omega) (by omega)) (va_cwS 2 hts gL_law_L_below rfl rfl rfl (by decide +kernel) ⟨Nat.le_of_ble_eq_true rfl, Nat.le_of_ble_eq_true rfl⟩) trivial hK rfl hl.1 rfl (Nat.le_of_ble_eq_true rfl) dL_law_200 (by omega) (by omega) ?_
      have hbl200 := m_bl_in (m_sr (x) (2)) (n := σ 7) (by omega)
      refine lv_goto (tgt := 207) hx hb dL_law_203 (by decide) ?_
      exact key_207 _ (by omega) _ (lv_sub hl [1, 2, 3, 4, 5, 6, 7, 0] rfl)
  refine lv_iload hx hb dL_law_163 (lv_at hl 4 rfl) ?_
  refine q_bipush hx hb dL_law_165 (by decide) ?_
  refine q_ishr hx hb dL_law_167 ?_
  have hsr167 := m_sr_in (x) (9)
  refine q_bipush hx hb dL_law_168 (by decide) ?_
  refine q_callS (fr := 0) (lo := 0) (nL := 18) (Pic := fun _ => True) (As := [.int (iI (m_sr (x) (9))), .int (iI (8))]) (rest := []) ⟨hx, hb, hml, hown, hts⟩ (l_below l D (ty3 cI cO cL) (m_sr (x) (9)) (8) (by omega) (by omega)) (va_cwS 2 hts gL_law_L_below rfl rfl rfl (by decide +kernel) ⟨Nat.le_of_ble_eq_true rfl, Nat.le_of_ble_eq_true rfl⟩) trivial hK rfl hl.1 rfl (Nat.le_of_ble_eq_true rfl) dL_law_170 (by omega) (by omega) ?_
  have hbl170 := m_bl_in (m_sr (x) (9)) (n := 8) (by omega)
  refine q_iconst hx hb dL_law_173 ?_
  refine q_icmp_ne (tgt := 186) hx hb dL_law_174 (by decide) (by omega) (by omega) (fun c_3 => ?_) (fun c_3 => ?_)
  · skip
    refine q_iconst hx hb dL_law_186 ?_
    exact key_187 _ (by omega) _ (lv_sub hl [0, 1, 2, 3, 4, 5, 6] rfl)
  · skip
    refine lv_iload hx hb dL_law_177 (lv_at hl 5 rfl) ?_
    refine q_if_le (tgt := 186) hx hb dL_law_179 (by decide) (by omega) (fun c_4 => ?_) (fun c_4 => ?_)
    · skip
      refine q_iconst hx hb dL_law_186 ?_
      exact key_187 _ (by omega) _ (lv_sub hl [0, 1, 2, 3, 4, 5, 6] rfl)
    · skip
      refine q_iconst hx hb dL_law_182 ?_
      refine lv_goto (tgt := 187) hx hb dL_law_183 (by decide) ?_
      exact key_187 _ (by omega) _ (lv_sub hl [0, 1, 2, 3, 4, 5, 6] rfl)
set_option maxHeartbeats 4000000 in
set_option maxRecDepth 100000 in
theorem sg_C {p : Program} {l : Launch} {e : Env} {s : State} {m : MethodId} {args : Array Value} {below : List Frame} {meth : Method} {c : Code} {Q : State → Prop} {A0 : Nat → Prop} {D : va_G} {cI cO cL : ClassId} {ed : Nat × Nat × Nat} (C0 : LC p l s m args c A0 D cI cO cL ed) {g z : Nat → Nat} {σ T P : Nat → Int} (hLW : LW σ T P) (hco : 0 ≤ σ 10 ∧ σ 10 ≤ σ 9 ∧ σ 9 ≤ 1000) {H : Heap} {locs : List Loc} {cells slots : Nat} (hcR : cells ≤ room_1.cells) (hsR : slots ≤ room_1.slots) (hPc : PicC D cI cO g σ T P H) (hPic : PicS D cI cL z σ T P H) {t x n0 wh : Int} (hn0 : 0 ≤ n0 ∧ n0 ≤ 10) (hn7 : n0 ≤ σ 7) (hwi : -1 ≤ wh ∧ wh ≤ 10) {wq : Nat} {w : Nat → Nat} {P0 : Nat → Int} (hWa : va_P D vwCl (WAS cI cL wq w P0 n0.toNat) H) (hAct : ∀ j : Nat, (j : Int) < n0 → (wh = (j : Int) ∧ m_told σ T P j 3 = 0 ∧ m_told σ T P j 1 = σ 6 ∧ m_told σ T P j 4 = 0) ∨ (wh ≠ (j : Int) ∧ ∀ i : Nat, i < 11 → P (11 * j + i) = P0 (11 * j + i))) {ls : Array Slot} (hl : lv_has ls 18 [(0, .ref ed.2.1), (1, .ref (g 0)), (2, .ref (z 0)), (3, .int (iI (t))), (4, .int (iI (x))), (5, .int (iI (n0))), (6, .ref wq), (8, .int (iI (wh)))]) (kk : ∀ ls : Array Slot, lv_has ls 18 [(0, .ref ed.2.1), (1, .ref (g 0)), (2, .ref (z 0)), (3, .int (iI (t))), (4, .int (iI (x))), (5, .int (iI (n0)))] → W p l e room_1 s m args below meth c H locs cells slots Q (F0 m 379 ls [])) : W p l e room_1 s m args below meth c H locs cells slots Q (F0 m 221 ls []) := by
  obtain ⟨hx, hb, hml, hown, hts, hA, hK, hE, hT⟩ := C0
  obtain ⟨hW, hSS, hp0⟩ := id hLW
  obtain ⟨w0, w1, w2, w3, w4, w5, w6, w7, w8⟩ := id hW
  have hin_X6 : ∀ w ∈ u_ws RX6 TX6 10, w ∈ wsL_law := (fun w h => (List.mem_append_left _ (List.mem_append_left _ (List.mem_append_left _ (List.mem_append_left _ (List.mem_append_left _ (List.mem_append_left _ (List.mem_append_left _ (List.mem_append_left _ (List.mem_append_left _ (List.mem_append_left _ (List.mem_append_right _ h))))))))))))
  refine q_iconst hx hb dL_law_221 ?_
  refine lv_istore (lv' := [(9, .int (iI (0))), (0, .ref ed.2.1), (1, .ref (g 0)), (2, .ref (z 0)), (3, .int (iI (t))), (4, .int (iI (x))), (5, .int (iI (n0))), (6, .ref wq), (8, .int (iI (wh)))]) hx hb dL_law_222 hl (by decide) rfl (fun ls hl => ?_)
  have key_224 : ∀ (fu : Nat) (k : Int), 0 ≤ k ∧ k ≤ n0 → (n0 - k) < (fu : Int) → ∀ ls : Array Slot, lv_has ls 18 [(0, .ref ed.2.1), (1, .ref (g 0)), (2, .ref (z 0)), (3, .int (iI (t))), (4, .int (iI (x))), (5, .int (iI (n0))), (6, .ref wq), (8, .int (iI (wh))), (9, .int (iI (k)))] → W p l e room_1 s m args below meth c H locs cells slots Q (F0 m 224 ls []) := by
    intro fu
    induction fu with
    | zero => intro k hk hm_224 ls hl; exact absurd hm_224 (by omega)
    | succ fu ih_224 =>
      intro k hk hm_224 ls hl
      refine lv_iload hx hb dL_law_224 (lv_at hl 8 rfl) ?_
      refine lv_iload hx hb dL_law_226 (lv_at hl 5 rfl) ?_
      refine q_icmp_ge (tgt := 379) hx hb dL_law_228 (by decide) (by omega) (by omega) (fun c_1 => ?_) (fun c_1 => ?_)
      · skip
        exact kk  _ (lv_sub hl [0, 1, 2, 3, 4, 5] rfl)
      · skip
        have hti := fun v => m_told_in hW hSS (j := k.toNat) (w := v) (by omega)
        obtain ⟨s1, s2, s3, s4⟩ := hSS k.toNat (by omega)
        have hac := hAct k.toNat (by omega)
        refine lv_iload hx hb dL_law_231 (lv_at hl 8 rfl) ?_
        refine lv_iload hx hb dL_law_233 (lv_at hl 7 rfl) ?_
        refine q_icmp_ne (tgt := 276) hx hb dL_law_235 (by decide) (by omega) (by omega) (fun c_2 => ?_) (fun c_2 => ?_)
        · skip
          have hB := hac.elim (fun h => absurd h.1 (show ¬ wh = (k.toNat : Int) by omega)) (fun h => h.2)
          have e0 := hB 0 (by omega)
          have e1 := hB 1 (by omega)
          have e2 := hB 2 (by omega)
          rw [Nat.add_zero] at e0
          refine lv_aload_n hx hb dL_law_276 rfl (lv_at hl 1 rfl) ?_
          refine lv_iload hx hb dL_law_277 (lv_at hl 8 rfl) ?_
          refine q_iconst hx hb dL_law_279 ?_
          refine q_callV (fr := 5) (lo := 109) (nL := 18) (Pic := PicC D cI cO g σ T P) (As := [.int (iI (k)), .int (iI (0))]) (rest := []) ⟨hx, hb, hml, hown, hts⟩ (p_sheet l D cI cO cL g σ T P hW hSS (k) (0) (by omega) (by omega)) (cwV 2 hts gL_law_X5_sheet rfl rfl rfl (by decide +kernel) ⟨Nat.le_of_ble_eq_true rfl, Nat.le_of_ble_eq_true rfl⟩) (ob_recv hPc.base.at0 hK rfl) hPc hK rfl hl.1 rfl (Nat.le_of_ble_eq_true rfl) dL_law_280 (by omega) (by omega) ?_
          refine q_is (z := P (11 * k.toNat)) (rfl) ?_
          refine lv_aload hx hb dL_law_283 (lv_at hl 6 rfl) ?_
          refine lv_iload hx hb dL_law_285 (lv_at hl 8 rfl) ?_
          refine q_aldA (cA := cL) (n := n0.toNat) (f := (fun j => if j < n0.toNat then some (w (20 + j)) else none)) (v := w (20 + (k).toNat)) hx hb hK (was_at hWa) 2 rfl (by omega) (by omega) (if_pos (by omega)) dL_law_287 ?_
          refine q_iconst hx hb dL_law_288 ?_
          refine q_iald (cA := cI) (n := (2 + (P0 (11 * (k).toNat + 1)).toNat)) (f := (fun i => P0 (11 * (k).toNat + sx i))) hx hb hK (was_row hWa (j := (k).toNat) (by omega)) 0 rfl (by omega) (by omega) dL_law_289 ?_
          refine q_is (z := P0 (11 * (k).toNat)) (by rfl) ?_
          refine q_icmp_ne (tgt := 328) hx hb dL_law_290 (by decide) (by omega) (by omega) (fun c_3 => ?_) (fun c_3 => ?_)
          · exfalso
            omega
          · skip
            refine lv_aload_n hx hb dL_law_293 rfl (lv_at hl 1 rfl) ?_
            refine lv_iload hx hb dL_law_294 (lv_at hl 8 rfl) ?_
            refine q_iconst hx hb dL_law_296 ?_
            refine q_callV (fr := 5) (lo := 109) (nL := 18) (Pic := PicC D cI cO g σ T P) (As := [.int (iI (k)), .int (iI (1))]) (rest := []) ⟨hx, hb, hml, hown, hts⟩ (p_sheet l D cI cO cL g σ T P hW hSS (k) (1) (by omega) (by omega)) (cwV 2 hts gL_law_X5_sheet rfl rfl rfl (by decide +kernel) ⟨Nat.le_of_ble_eq_true rfl, Nat.le_of_ble_eq_true rfl⟩) (ob_recv hPc.base.at0 hK rfl) hPc hK rfl hl.1 rfl (Nat.le_of_ble_eq_true rfl) dL_law_297 (by omega) (by omega) ?_
            refine q_is (z := P (11 * k.toNat + 1)) (rfl) ?_
            refine lv_aload hx hb dL_law_300 (lv_at hl 6 rfl) ?_
            refine lv_iload hx hb dL_law_302 (lv_at hl 8 rfl) ?_
            refine q_aldA (cA := cL) (n := n0.toNat) (f := (fun j => if j < n0.toNat then some (w (20 + j)) else none)) (v := w (20 + (k).toNat)) hx hb hK (was_at hWa) 2 rfl (by omega) (by omega) (if_pos (by omega)) dL_law_304 ?_
            refine q_alen (z := 2 + P0 (11 * (k).toNat + 1)) hx hb hK (was_row hWa (j := (k).toNat) (by omega)) 0 rfl (by omega) dL_law_305 ?_
            refine q_iconst hx hb dL_law_306 ?_
            refine q_isub hx hb dL_law_307 ?_
            refine q_icmp_ne (tgt := 328) hx hb dL_law_308 (by decide) (by omega) (by omega) (fun c_4 => ?_) (fun c_4 => ?_)
            · exfalso
              omega
            · skip
              refine lv_aload_n hx hb dL_law_311 rfl (lv_at hl 1 rfl) ?_
              refine lv_iload hx hb dL_law_312 (lv_at hl 8 rfl) ?_
              refine q_iconst hx hb dL_law_314 ?_
              refine q_callV (fr := 5) (lo := 109) (nL := 18) (Pic := PicC D cI cO g σ T P) (As := [.int (iI (k)), .int (iI (2))]) (rest := []) ⟨hx, hb, hml, hown, hts⟩ (p_sheet l D cI cO cL g σ T P hW hSS (k) (2) (by omega) (by omega)) (cwV 2 hts gL_law_X5_sheet rfl rfl rfl (by decide +kernel) ⟨Nat.le_of_ble_eq_true rfl, Nat.le_of_ble_eq_true rfl⟩) (ob_recv hPc.base.at0 hK rfl) hPc hK rfl hl.1 rfl (Nat.le_of_ble_eq_true rfl) dL_law_315 (by omega) (by omega) ?_
              refine q_is (z := P (11 * k.toNat + 2)) (rfl) ?_
              refine lv_aload hx hb dL_law_318 (lv_at hl 6 rfl) ?_
              refine lv_iload hx hb dL_law_320 (lv_at hl 8 rfl) ?_
              refine q_aldA (cA := cL) (n := n0.toNat) (f := (fun j => if j < n0.toNat then some (w (20 + j)) else none)) (v := w (20 + (k).toNat)) hx hb hK (was_at hWa) 2 rfl (by omega) (by omega) (if_pos (by omega)) dL_law_322 ?_
              refine q_iconst hx hb dL_law_323 ?_
              refine q_iald (cA := cI) (n := (2 + (P0 (11 * (k).toNat + 1)).toNat)) (f := (fun i => P0 (11 * (k).toNat + sx i))) hx hb hK (was_row hWa (j := (k).toNat) (by omega)) 0 rfl (by omega) (by omega) dL_law_324 ?_
              refine q_is (z := P0 (11 * (k).toNat + 2)) (by rfl) ?_
              refine q_icmp_eq (tgt := 330) hx hb dL_law_325 (by decide) (by omega) (by omega) (fun c_5 => ?_) (fun c_5 => ?_)
              · skip
                refine q_iconst hx hb dL_law_330 ?_
                refine lv_istore (lv' := [(10, .int (iI (2))), (0, .ref ed.2.1), (1, .ref (g 0)), (2, .ref (z 0)), (3, .int (iI (t))), (4, .int (iI (x))), (5, .int (iI (n0))), (6, .ref wq), (8, .int (iI (wh))), (9, .int (iI (k)))]) hx hb dL_law_331 hl (by decide) rfl (fun ls hl => ?_)
                have key_333 : ∀ (fu : Nat) (f : Int), 2 ≤ f ∧ f ≤ 2 + P0 (11 * k.toNat + 1) → (2 + P0 (11 * k.toNat + 1) - f) < (fu : Int) → ∀ ls : Array Slot, lv_has ls 18 [(0, .ref ed.2.1), (1, .ref (g 0)), (2, .ref (z 0)), (3, .int (iI (t))), (4, .int (iI (x))), (5, .int (iI (n0))), (6, .ref wq), (8, .int (iI (wh))), (9, .int (iI (k))), (10, .int (iI (f)))] → W p l e room_1 s m args below meth c H locs cells slots Q (F0 m 333 ls []) := by
                  intro fu
                  induction fu with
                  | zero => intro f hf hm_333 ls hl; exact absurd hm_333 (by omega)
                  | succ fu ih_333 =>
                    intro f hf hm_333 ls hl
                    refine lv_iload hx hb dL_law_333 (lv_at hl 9 rfl) ?_
                    refine lv_aload hx hb dL_law_335 (lv_at hl 6 rfl) ?_
                    refine lv_iload hx hb dL_law_337 (lv_at hl 8 rfl) ?_
                    refine q_aldA (cA := cL) (n := n0.toNat) (f := (fun j => if j < n0.toNat then some (w (20 + j)) else none)) (v := w (20 + (k).toNat)) hx hb hK (was_at hWa) 2 rfl (by omega) (by omega) (if_pos (by omega)) dL_law_339 ?_
                    refine q_alen (z := 2 + P0 (11 * (k).toNat + 1)) hx hb hK (was_row hWa (j := (k).toNat) (by omega)) 0 rfl (by omega) dL_law_340 ?_
                    refine q_icmp_ge (tgt := 373) hx hb dL_law_341 (by decide) (by omega) (by omega) (fun c_6 => ?_) (fun c_6 => ?_)
                    · skip
                      refine q_iinc (k := 8) (lv' := [(9, .int (iI (k + 1))), (0, .ref ed.2.1), (1, .ref (g 0)), (2, .ref (z 0)), (3, .int (iI (t))), (4, .int (iI (x))), (5, .int (iI (n0))), (6, .ref wq), (8, .int (iI (wh))), (10, .int (iI (f)))]) hx hb dL_law_373 hl rfl (by decide) rfl (fun ls hl => ?_)
                      refine lv_goto (tgt := 224) hx hb dL_law_376 (by decide) ?_
                      exact ih_224 _ (by omega) (by omega) _ (lv_sub hl [1, 2, 3, 4, 5, 6, 7, 8, 0] rfl)
                    · skip
                      refine lv_aload_n hx hb dL_law_344 rfl (lv_at hl 1 rfl) ?_
                      refine lv_iload hx hb dL_law_345 (lv_at hl 8 rfl) ?_
                      refine lv_iload hx hb dL_law_347 (lv_at hl 9 rfl) ?_
                      refine q_iconst hx hb dL_law_349 ?_
                      refine q_isub hx hb dL_law_350 ?_
                      refine q_callV (fr := 3) (lo := 64) (nL := 18) (Pic := PicC D cI cO g σ T P) (As := [.int (iI (k)), .int (iI (f - 2))]) (rest := []) ⟨hx, hb, hml, hown, hts⟩ (p_printed l D cI cO cL g σ T P hW hSS (k) (f - 2) (by omega) (by omega)) (cwV 2 hts gL_law_X5_printed rfl rfl rfl (by decide +kernel) ⟨Nat.le_of_ble_eq_true rfl, Nat.le_of_ble_eq_true rfl⟩) (ob_recv hPc.base.at0 hK rfl) hPc hK rfl hl.1 rfl (Nat.le_of_ble_eq_true rfl) dL_law_351 (by omega) (by omega) ?_
                      have e3 := hB (3 + Int.toNat (f - 2)) (by omega)
                      rw [← Nat.add_assoc] at e3
                      have hday := s4 (f - 2).toNat (by omega)
                      refine lv_aload hx hb dL_law_354 (lv_at hl 6 rfl) ?_
                      refine lv_iload hx hb dL_law_356 (lv_at hl 8 rfl) ?_
                      refine q_aldA (cA := cL) (n := n0.toNat) (f := (fun j => if j < n0.toNat then some (w (20 + j)) else none)) (v := w (20 + (k).toNat)) hx hb hK (was_at hWa) 2 rfl (by omega) (by omega) (if_pos (by omega)) dL_law_358 ?_
                      refine lv_iload hx hb dL_law_359 (lv_at hl 9 rfl) ?_
                      refine q_iald (cA := cI) (n := (2 + (P0 (11 * (k).toNat + 1)).toNat)) (f := (fun i => P0 (11 * (k).toNat + sx i))) hx hb hK (was_row hWa (j := (k).toNat) (by omega)) 0 rfl (by omega) (by omega) dL_law_361 ?_
                      refine q_is (z := P0 (11 * (k).toNat + 3 + Int.toNat (f - 2))) (congrArg P0 (by unfold sx; rw [if_neg (by omega), if_neg (by omega)]; omega)) ?_
                      refine q_icmp_eq (tgt := 367) hx hb dL_law_362 (by decide) (by omega) (by omega) (fun c_7 => ?_) (fun c_7 => ?_)
                      · skip
                        refine q_iinc (k := 9) (lv' := [(10, .int (iI (f + 1))), (0, .ref ed.2.1), (1, .ref (g 0)), (2, .ref (z 0)), (3, .int (iI (t))), (4, .int (iI (x))), (5, .int (iI (n0))), (6, .ref wq), (8, .int (iI (wh))), (9, .int (iI (k)))]) hx hb dL_law_367 hl rfl (by decide) rfl (fun ls hl => ?_)
                        refine lv_goto (tgt := 333) hx hb dL_law_370 (by decide) ?_
                        exact ih_333 _ (by omega) (by omega) _ (lv_sub hl [1, 2, 3, 4, 5, 6, 7, 8, 9, 0] rfl)
                      · exfalso
                        omega
                exact key_333 (20) _ (by omega) (by omega) _ (lv_sub hl [1, 2, 3, 4, 5, 6, 7, 8, 9, 0] rfl)
              · exfalso
                omega
        · skip
          have hA2 := hac.elim (fun h => h.2) (fun h => absurd (show wh = (k.toNat : Int) by omega) h.1)
          have ht3 := hti 3
          have ht1 := hti 1
          have ht4 := hti 4
          refine lv_aload_n hx hb dL_law_238 rfl (lv_at hl 1 rfl) ?_
          refine lv_iload hx hb dL_law_239 (lv_at hl 8 rfl) ?_
          refine q_iconst hx hb dL_law_241 ?_
          refine q_callV (fr := 5) (lo := 109) (nL := 18) (Pic := PicC D cI cO g σ T P) (As := [.int (iI (k)), .int (iI (3))]) (rest := []) ⟨hx, hb, hml, hown, hts⟩ (p_sheet l D cI cO cL g σ T P hW hSS (k) (3) (by omega) (by omega)) (cwV 2 hts gL_law_X5_sheet rfl rfl rfl (by decide +kernel) ⟨Nat.le_of_ble_eq_true rfl, Nat.le_of_ble_eq_true rfl⟩) (ob_recv hPc.base.at0 hK rfl) hPc hK rfl hl.1 rfl (Nat.le_of_ble_eq_true rfl) dL_law_242 (by omega) (by omega) ?_
          refine q_if_ne (tgt := 274) hx hb dL_law_245 (by decide) (by omega) (fun c_8 => ?_) (fun c_8 => ?_)
          · exfalso
            omega
          · skip
            refine lv_aload_n hx hb dL_law_248 rfl (lv_at hl 1 rfl) ?_
            refine lv_iload hx hb dL_law_249 (lv_at hl 8 rfl) ?_
            refine q_iconst hx hb dL_law_251 ?_
            refine q_callV (fr := 5) (lo := 109) (nL := 18) (Pic := PicC D cI cO g σ T P) (As := [.int (iI (k)), .int (iI (1))]) (rest := []) ⟨hx, hb, hml, hown, hts⟩ (p_sheet l D cI cO cL g σ T P hW hSS (k) (1) (by omega) (by omega)) (cwV 2 hts gL_law_X5_sheet rfl rfl rfl (by decide +kernel) ⟨Nat.le_of_ble_eq_true rfl, Nat.le_of_ble_eq_true rfl⟩) (ob_recv hPc.base.at0 hK rfl) hPc hK rfl hl.1 rfl (Nat.le_of_ble_eq_true rfl) dL_law_252 (by omega) (by omega) ?_
            refine lv_aload_n hx hb dL_law_255 rfl (lv_at hl 1 rfl) ?_
            refine q_bipush hx hb dL_law_256 (by decide) ?_
            refine q_callV (fr := 6) (lo := 131) (nL := 18) (Pic := PicC D cI cO g σ T P) (As := [.int (iI (6))]) (rest := [.int (iI (m_told σ T P (Int.toNat (k)) (1)))]) ⟨hx, hb, hml, hown, hts⟩ (p_count l D cI cO cL g σ T P hW hSS (6) (by omega)) (cwV 1 hts gL_law_X5_count rfl rfl rfl (by decide +kernel) ⟨Nat.le_of_ble_eq_true rfl, Nat.le_of_ble_eq_true rfl⟩) (ob_recv hPc.base.at0 hK rfl) hPc hK rfl hl.1 rfl (Nat.le_of_ble_eq_true rfl) dL_law_258 (by omega) (by omega) ?_
            refine q_is (z := σ 6) (rfl) ?_
            refine q_icmp_ne (tgt := 274) hx hb dL_law_261 (by decide) (by omega) (by omega) (fun c_9 => ?_) (fun c_9 => ?_)
            · exfalso
              omega
            · skip
              refine lv_aload_n hx hb dL_law_264 rfl (lv_at hl 1 rfl) ?_
              refine lv_iload hx hb dL_law_265 (lv_at hl 8 rfl) ?_
              refine q_iconst hx hb dL_law_267 ?_
              refine q_callV (fr := 5) (lo := 109) (nL := 18) (Pic := PicC D cI cO g σ T P) (As := [.int (iI (k)), .int (iI (4))]) (rest := []) ⟨hx, hb, hml, hown, hts⟩ (p_sheet l D cI cO cL g σ T P hW hSS (k) (4) (by omega) (by omega)) (cwV 2 hts gL_law_X5_sheet rfl rfl rfl (by decide +kernel) ⟨Nat.le_of_ble_eq_true rfl, Nat.le_of_ble_eq_true rfl⟩) (ob_recv hPc.base.at0 hK rfl) hPc hK rfl hl.1 rfl (Nat.le_of_ble_eq_true rfl) dL_law_268 (by omega) (by omega) ?_
              refine q_if_eq (tgt := 373) hx hb dL_law_271 (by decide) (by omega) (fun c_10 => ?_) (fun c_10 => ?_)
              · skip
                refine q_iinc (k := 8) (lv' := [(9, .int (iI (k + 1))), (0, .ref ed.2.1), (1, .ref (g 0)), (2, .ref (z 0)), (3, .int (iI (t))), (4, .int (iI (x))), (5, .int (iI (n0))), (6, .ref wq), (8, .int (iI (wh)))]) hx hb dL_law_373 hl rfl (by decide) rfl (fun ls hl => ?_)
                refine lv_goto (tgt := 224) hx hb dL_law_376 (by decide) ?_
                exact ih_224 _ (by omega) (by omega) _ (lv_sub hl [1, 2, 3, 4, 5, 6, 7, 8, 0] rfl)
              · exfalso
                omega
  exact key_224 (n0.toNat + 1) _ (by omega) (by omega) _ (lv_sub hl [1, 2, 3, 4, 5, 6, 7, 8, 0] rfl)
