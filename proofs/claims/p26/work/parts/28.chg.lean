/-! ===== AlmanacHouse: the calls that change it ===== -/
theorem WHnil {cI cO : ClassId} {g : Nat → Nat} {σ P : Nat → Int} (h : σ 7 = 0) : WH cI cO g σ P = [] := by
  unfold WH wAr wSo wSd
  rw [h]
  rfl
theorem WHone {cI cO : ClassId} {g : Nat → Nat} {σ P : Nat → Int} (h : 0 < σ 7) : WH cI cO g σ P = (g 7, .inl (cO, 10, .inr (.inr (.inr (.inr (fun j => if j < (σ 7).toNat then some (g (20 + j)) else none)))))) :: (wSo g P (σ 7).toNat ++ wSd cI g P (σ 7).toNat) := by
  unfold WH wAr
  rw [if_neg (by omega)]
  rfl
theorem WFnil {cO : ClassId} {g : Nat → Nat} {σ T : Nat → Int} (h : σ 6 = 0) : wAr cO g 6 (σ 6).toNat 10 ++ wFe g T (σ 6).toNat = [] := by
  unfold wAr wFe
  rw [h]
  rfl
theorem WFone {cO : ClassId} {g : Nat → Nat} {σ T : Nat → Int} (h : 0 < σ 6) : wAr cO g 6 (σ 6).toNat 10 ++ wFe g T (σ 6).toNat = (g 6, .inl (cO, 10, .inr (.inr (.inr (.inr (fun j => if j < (σ 6).toNat then some (g (10 + j)) else none)))))) :: wFe g T (σ 6).toNat := by
  unfold wAr
  rw [if_neg (by omega)]
  rfl
theorem va_mid {D : va_G} {A : Nat → Prop} {ex t1 t2 : va_W} {x : Nat × va_E} {H : Heap} (hP : va_P D vwCl (ex ++ (t1 ++ x :: t2)) H) (hD : va_D A (ex ++ (t1 ++ x :: t2))) : va_P D vwCl ((x :: ex) ++ (t1 ++ t2)) H ∧ va_D A ((x :: ex) ++ (t1 ++ t2)) := by
  refine va_of_perm ?_ hP hD
  rw [← List.append_assoc ex t1 (x :: t2), List.cons_append, ← List.append_assoc ex t1 t2]
  exact List.perm_middle.symm
theorem m_obs_at {σ : Nat → Int} {d b : Int} {k : Nat} (h : k ≠ 2 ∧ k ≠ 9 ∧ k ≠ 10) : m_obs σ d b k = σ k := by
  unfold m_obs
  split
  · exact st_ne h.2.1
  · rw [st_ne h.1, st_ne h.2.2, st_ne h.2.1]
/-- what a call of the class that changes it leaves: the same object, its lists' first rows -/
def kT (g : Nat → Nat) (ed : Nat × Nat × Nat) (σ' : Nat → Int) (u : Nat → Nat) : Prop := u 0 = g 0 ∧ (σ' 6 = 0 → u 6 = ed.1) ∧ (σ' 7 = 0 → u 7 = ed.1)
abbrev MT (l : Launch) (y : MethodName) (ws : List Cond) (fr lo mc ms : Nat) (D : va_G) (cI cO cL : ClassId) (sz : Nat) (g : Nat → Nat) (σ T P : Nat → Int) (av : List Value) (ed : Nat × Nat × Nat) (v : Int) (σ' T' P' : Nat → Int) : Prop := MGp l y ws fr lo mc ms D (ty3 cI cO cL) sz (WC cI cO g σ T P) av ed v (kT g ed σ') (fun u => WC cI cO u σ' T' P')
set_option maxHeartbeats 4000000 in
set_option maxRecDepth 100000 in
theorem g_fill (l : Launch) (D : va_G) (sz : Nat) (ed : Nat × Nat × Nat) (cI cO cL : ClassId) (g : Nat → Nat) (σ T : Nat → Int) (hW : WF σ T) (sa da : Nat) (yr hd ec : Int) (dy : Nat → Int) (hyr : 0 ≤ yr ∧ yr ≤ 999) : MGv l yX5_fill wsX5_fill 3 64 0 0 D (ty3 cI cO cL) sz ([(sa, .inr (5, [.int (iI (yr)), .ref da, .int (iI (hd)), .int (iI (ec))])), (da, .inl (cI, 8, .inl (fun i => iI (dy i))))] ++ WB cO g σ T) [.ref (g 0), .ref sa] ed (fun (_ : Unit) => [(sa, .inr (5, [.int (iI (yr)), .ref da, .int (iI (σ 6)), .int (iI (m_E σ yr))])), (da, .inl (cI, 8, .inl (fun i => iI (m_dy σ T dy yr (σ 6).toNat i))))] ++ WB cO g σ T) := by
  refine MGv_of (cc := cX5_fill) (maxL := 3) (ret := none) (by decide) rfl (Nat.le_of_ble_eq_true rfl) ?_
  intro p e s m args below meth c ls hx hb hr hlocks hml hown hts hsz hP hK hD hS hA hin hE hT hl
  have hl : lv_has ls 3 [(0, .ref (g 0)), (1, .ref sa)] := hl
  have hin_X5 : ∀ w ∈ u_ws RX5 TX5 7, w ∈ wsX5_fill := (fun w h => List.mem_cons_of_mem _ (List.mem_append_left _ (List.mem_append_left _ (List.mem_append_left _ (List.mem_append_left _ (List.mem_append_left _ (List.mem_append_right _ h)))))))
  have hin_X3 : ∀ w ∈ u_ws RX3 TX3 4, w ∈ wsX5_fill := (fun w h => List.mem_cons_of_mem _ (List.mem_append_left _ (List.mem_append_left _ (List.mem_append_left _ (List.mem_append_left _ (List.mem_append_left _ (List.mem_append_left _ (List.mem_append_right _ h))))))))
  have hP : va_P D vwCl ([(sa, .inr (5, [.int (iI (yr)), .ref da, .int (iI (hd)), .int (iI (ec))])), (da, .inl (cI, 8, .inl (fun q9 => iI (dy q9))))] ++ WB cO g σ T) s.heap := hP
  have hD : va_D (va_A ([(sa, .inr (5, [.int (iI (yr)), .ref da, .int (iI (hd)), .int (iI (ec))])), (da, .inl (cI, 8, .inl (fun i => iI (dy i))))] ++ WB cO g σ T) sz) ([(sa, .inr (5, [.int (iI (yr)), .ref da, .int (iI (hd)), .int (iI (ec))])), (da, .inl (cI, 8, .inl (fun q9 => iI (dy q9))))] ++ WB cO g σ T) := hD
  have hB : PicB D cO g σ T s.heap := vaP_mems hP (fun q hq => List.mem_append_right _ hq)
  obtain ⟨w0, w1, w2, w3, w4, w5, w6, w7, w8⟩ := id hW
  refine lv_aload_n hx hb dX5_fill_0 rfl (lv_at hl 1 rfl) ?_
  refine q_iconst hx hb dX5_fill_1 ?_
  refine va_put (D := D) (ci := 5) (v := .int (iI (0))) (ty := .int) (C := RX3) (T := TX3) (N := 4) hx hb hts (fun w h => List.mem_cons_of_mem _ (List.mem_append_left _ (List.mem_append_left _ (List.mem_append_left _ (List.mem_append_left _ (List.mem_append_left _ (List.mem_append_left _ (List.mem_append_right _ h)))))))) tyX3 tyX3_ok nmX3 hown hK hP hD hS 0 rfl rfl 2 (by decide) (hts (.fieldLink RX5 219 "AlmanacHouse$Sheet" "held" "I") (List.mem_of_getElem? (i := 1) rfl)) (fun _ h9 => h9) rfl (by decide +kernel) rfl rfl (Nat.le_of_ble_eq_true rfl) dX5_fill_2 (fun H locs hP hD hS => ?_)
  have hP : va_P D vwCl ([(sa, .inr (5, [.int (iI (yr)), .ref da, .int (iI (0)), .int (iI (ec))])), (da, .inl (cI, 8, .inl (fun q9 => iI (dy q9))))] ++ WB cO g σ T) H := hP
  have hD : va_D (va_A ([(sa, .inr (5, [.int (iI (yr)), .ref da, .int (iI (hd)), .int (iI (ec))])), (da, .inl (cI, 8, .inl (fun i => iI (dy i))))] ++ WB cO g σ T) sz) ([(sa, .inr (5, [.int (iI (yr)), .ref da, .int (iI (0)), .int (iI (ec))])), (da, .inl (cI, 8, .inl (fun q9 => iI (dy q9))))] ++ WB cO g σ T) := hD
  have hB : PicB D cO g σ T H := vaP_mems hP (fun q hq => List.mem_append_right _ hq)
  refine q_iconst hx hb dX5_fill_5 ?_
  refine lv_istore_n (lv' := [(2, .int (iI (0))), (0, .ref (g 0)), (1, .ref sa)]) hx hb dX5_fill_6 rfl hl (by decide) rfl (fun ls hl => ?_)
  have key_7 : ∀ (fu : Nat) (k : Int), 0 ≤ k ∧ k ≤ σ 6 → (((σ 6 - k).toNat : Int)) < (fu : Int) → ∀ (H : Heap) (locs : List Loc), va_P D vwCl ([(sa, .inr (5, [.int (iI (yr)), .ref da, .int (iI (k)), .int (iI (ec))])), (da, .inl (cI, 8, .inl (fun q9 => iI ((m_dy σ T dy yr k.toNat) q9))))] ++ WB cO g σ T) H → va_D (va_A ([(sa, .inr (5, [.int (iI (yr)), .ref da, .int (iI (hd)), .int (iI (ec))])), (da, .inl (cI, 8, .inl (fun i => iI (dy i))))] ++ WB cO g σ T) sz) ([(sa, .inr (5, [.int (iI (yr)), .ref da, .int (iI (k)), .int (iI (ec))])), (da, .inl (cI, 8, .inl (fun q9 => iI ((m_dy σ T dy yr k.toNat) q9))))] ++ WB cO g σ T) → va_S (va_A ([(sa, .inr (5, [.int (iI (yr)), .ref da, .int (iI (hd)), .int (iI (ec))])), (da, .inl (cI, 8, .inl (fun i => iI (dy i))))] ++ WB cO g σ T) sz) s.heap H locs → ∀ ls : Array Slot, lv_has ls 3 [(0, .ref (g 0)), (1, .ref sa), (2, .int (iI (k)))] → W p l e { frames := 3, cells := 0, slots := 0, locals := 64 } s m args below meth c H locs 0 0 (MQ below (va_Qv (fun (_ : Unit) => True) (fun u t => va_P D vwCl ((fun (_ : Unit) => [(sa, .inr (5, [.int (iI (yr)), .ref da, .int (iI (σ 6)), .int (iI (m_E σ yr))])), (da, .inl (cI, 8, .inl (fun i => iI (m_dy σ T dy yr (σ 6).toNat i))))] ++ WB cO g σ T) u) t.heap ∧ va_D (va_A ([(sa, .inr (5, [.int (iI (yr)), .ref da, .int (iI (hd)), .int (iI (ec))])), (da, .inl (cI, 8, .inl (fun i => iI (dy i))))] ++ WB cO g σ T) sz) ((fun (_ : Unit) => [(sa, .inr (5, [.int (iI (yr)), .ref da, .int (iI (σ 6)), .int (iI (m_E σ yr))])), (da, .inl (cI, 8, .inl (fun i => iI (m_dy σ T dy yr (σ 6).toNat i))))] ++ WB cO g σ T) u)) (va_A ([(sa, .inr (5, [.int (iI (yr)), .ref da, .int (iI (hd)), .int (iI (ec))])), (da, .inl (cI, 8, .inl (fun i => iI (dy i))))] ++ WB cO g σ T) sz)) args s 0 0 (va_A ([(sa, .inr (5, [.int (iI (yr)), .ref da, .int (iI (hd)), .int (iI (ec))])), (da, .inl (cI, 8, .inl (fun i => iI (dy i))))] ++ WB cO g σ T) sz)) (F0 m 7 ls []) := by
    intro fu
    induction fu with
    | zero => intro k hk hm_7 H locs hP hD hS ls hl; exact absurd hm_7 (by omega)
    | succ fu ih_7 =>
      intro k hk hm_7 H locs hP hD hS ls hl
      have hB : PicB D cO g σ T H := vaP_mems hP (fun q hq => List.mem_append_right _ hq)
      refine lv_iload_n hx hb dX5_fill_7 rfl (lv_at hl 2 rfl) ?_
      refine lv_aload_n hx hb dX5_fill_8 rfl (lv_at hl 0 rfl) ?_
      refine q_get (ci := 7) (C := RX5) (T := TX5) (N := 7) hx hb hts hin_X5 hown hK (v := .ref (g 4)) hB.at0 rfl 3 (by decide) (hts (.fieldLink RX5 33 "AlmanacHouse" "feasts" "Ljava/util/ArrayList;") (List.mem_of_getElem? (i := 2) rfl)) (fun _ h9 => h9) rfl dX5_fill_9 ?_
      refine q_callV (fr := 0) (lo := 0) (nL := 3) (Pic := ob D (g 4) 1 [.int (iI (σ 6)), .ref (g 6), .int (iI (σ 6))]) (As := []) (rest := [.int (iI (k))]) ⟨hx, hb, hml, hown, hts⟩ (c_size l D (ty3 cI cO cL) (g 4) (g 6) (σ 6) (σ 6)) (cwV 0 hts gX5_fill_Jx4a65c_size_8abf5 rfl rfl rfl (by decide +kernel) ⟨Nat.le_of_ble_eq_true rfl, Nat.le_of_ble_eq_true rfl⟩) (ob_recv hB.at4 hK rfl) hB.at4 hK rfl hl.1 rfl (Nat.le_of_ble_eq_true rfl) dX5_fill_12 (Nat.zero_le _) (Nat.zero_le _) ?_
      refine q_icmp_ge (tgt := 47) hx hb dX5_fill_15 (by decide) (by omega) (by omega) (fun c_1 => ?_) (fun c_1 => ?_)
      · skip
        refine lv_aload_n hx hb dX5_fill_47 rfl (lv_at hl 1 rfl) ?_
        refine lv_aload_n hx hb dX5_fill_48 rfl (lv_at hl 0 rfl) ?_
        refine lv_aload_n hx hb dX5_fill_49 rfl (lv_at hl 1 rfl) ?_
        refine q_get (ci := 5) (C := RX3) (T := TX3) (N := 4) hx hb hts hin_X3 hown hK (v := .int (iI (yr))) (hP 0 _ rfl) rfl 0 (by decide) (hts (.fieldLink RX5 216 "AlmanacHouse$Sheet" "year" "I") (List.mem_of_getElem? (i := 4) rfl)) (fun _ h9 => h9) rfl dX5_fill_50 ?_
        refine q_iconst hx hb dX5_fill_53 ?_
        refine q_callV (fr := 1) (lo := 23) (nL := 3) (Pic := PicB D cO g σ T) (As := [.int (iI (yr)), .int (iI (0))]) (rest := [.ref sa]) ⟨hx, hb, hml, hown, hts⟩ (c_countEclipses l D cI cO cL g σ T hW (yr) (0) (by omega) (by omega)) (cwV 2 hts gX5_fill_X5_countEclipses rfl rfl rfl (by decide +kernel) ⟨Nat.le_of_ble_eq_true rfl, Nat.le_of_ble_eq_true rfl⟩) (ob_recv hB.at0 hK rfl) hB hK rfl hl.1 rfl (Nat.le_of_ble_eq_true rfl) dX5_fill_54 (Nat.zero_le _) (Nat.zero_le _) ?_
        have hE54 := m_Eb_in hW (y := (yr)) (b := (0)) (by omega)
        refine lv_aload_n hx hb dX5_fill_57 rfl (lv_at hl 0 rfl) ?_
        refine lv_aload_n hx hb dX5_fill_58 rfl (lv_at hl 1 rfl) ?_
        refine q_get (ci := 5) (C := RX3) (T := TX3) (N := 4) hx hb hts hin_X3 hown hK (v := .int (iI (yr))) (hP 0 _ rfl) rfl 0 (by decide) (hts (.fieldLink RX5 216 "AlmanacHouse$Sheet" "year" "I") (List.mem_of_getElem? (i := 4) rfl)) (fun _ h9 => h9) rfl dX5_fill_59 ?_
        refine q_iconst hx hb dX5_fill_62 ?_
        refine q_callV (fr := 1) (lo := 23) (nL := 3) (Pic := PicB D cO g σ T) (As := [.int (iI (yr)), .int (iI (1))]) (rest := [.int (iI (m_Eb σ (yr) (0))), .ref sa]) ⟨hx, hb, hml, hown, hts⟩ (c_countEclipses l D cI cO cL g σ T hW (yr) (1) (by omega) (by omega)) (cwV 2 hts gX5_fill_X5_countEclipses rfl rfl rfl (by decide +kernel) ⟨Nat.le_of_ble_eq_true rfl, Nat.le_of_ble_eq_true rfl⟩) (ob_recv hB.at0 hK rfl) hB hK rfl hl.1 rfl (Nat.le_of_ble_eq_true rfl) dX5_fill_63 (Nat.zero_le _) (Nat.zero_le _) ?_
        have hE63 := m_Eb_in hW (y := (yr)) (b := (1)) (by omega)
        refine q_iadd hx hb dX5_fill_66 ?_
        refine va_put (D := D) (ci := 5) (v := .int (iI ((m_Eb σ (yr) (0)) + (m_Eb σ (yr) (1))))) (ty := .int) (C := RX3) (T := TX3) (N := 4) hx hb hts (fun w h => List.mem_cons_of_mem _ (List.mem_append_left _ (List.mem_append_left _ (List.mem_append_left _ (List.mem_append_left _ (List.mem_append_left _ (List.mem_append_left _ (List.mem_append_right _ h)))))))) tyX3 tyX3_ok nmX3 hown hK hP hD hS 0 rfl rfl 3 (by decide) (hts (.fieldLink RX5 222 "AlmanacHouse$Sheet" "eclipses" "I") (List.mem_of_getElem? (i := 5) rfl)) (fun _ h9 => h9) rfl (by decide +kernel) rfl rfl (Nat.le_of_ble_eq_true rfl) dX5_fill_67 (fun H locs hP hD hS => ?_)
        have hP : va_P D vwCl ([(sa, .inr (5, [.int (iI (yr)), .ref da, .int (iI (k)), .int (iI ((m_Eb σ (yr) (0)) + (m_Eb σ (yr) (1))))])), (da, .inl (cI, 8, .inl (fun q9 => iI ((m_dy σ T dy yr k.toNat) q9))))] ++ WB cO g σ T) H := hP
        have hD : va_D (va_A ([(sa, .inr (5, [.int (iI (yr)), .ref da, .int (iI (hd)), .int (iI (ec))])), (da, .inl (cI, 8, .inl (fun i => iI (dy i))))] ++ WB cO g σ T) sz) ([(sa, .inr (5, [.int (iI (yr)), .ref da, .int (iI (k)), .int (iI ((m_Eb σ (yr) (0)) + (m_Eb σ (yr) (1))))])), (da, .inl (cI, 8, .inl (fun q9 => iI ((m_dy σ T dy yr k.toNat) q9))))] ++ WB cO g σ T) := hD
        have hB : PicB D cO g σ T H := vaP_mems hP (fun q hq => List.mem_append_right _ hq)
        exact q_gvret (cells := 0) (slots := 0) (mc := 0) (ms := 0) (w1 := fun (_ : Unit) => [(sa, .inr (5, [.int (iI (yr)), .ref da, .int (iI (σ 6)), .int (iI (m_E σ yr))])), (da, .inl (cI, 8, .inl (fun i => iI (m_dy σ T dy yr (σ 6).toNat i))))] ++ WB cO g σ T) (()) hx hb hr hlocks hS (by rw [show k.toNat = (σ 6).toNat by omega, show k = σ 6 by omega] at hP hD; exact ⟨hP, hD⟩) (Nat.le_of_ble_eq_true rfl) (Nat.le_of_ble_eq_true rfl) dX5_fill_70
      · skip
        refine lv_aload_n hx hb dX5_fill_18 rfl (lv_at hl 1 rfl) ?_
        refine lv_aload_n hx hb dX5_fill_19 rfl (lv_at hl 0 rfl) ?_
        refine lv_aload_n hx hb dX5_fill_20 rfl (lv_at hl 0 rfl) ?_
        refine q_get (ci := 7) (C := RX5) (T := TX5) (N := 7) hx hb hts hin_X5 hown hK (v := .ref (g 4)) hB.at0 rfl 3 (by decide) (hts (.fieldLink RX5 33 "AlmanacHouse" "feasts" "Ljava/util/ArrayList;") (List.mem_of_getElem? (i := 2) rfl)) (fun _ h9 => h9) rfl dX5_fill_21 ?_
        refine lv_iload_n hx hb dX5_fill_24 rfl (lv_at hl 2 rfl) ?_
        refine q_callVq (fr := 2) (lo := 43) (nL := 3) (Pic := fun H => ob D (g 4) 1 [.int (iI (σ 6)), .ref (g 6), .int (iI (σ 6))] H ∧ ar D (g 6) (cO, 10, .inr (.inr (.inr (.inr (fun j => if j < (σ 6).toNat then some (g (10 + j)) else none))))) H) (As := [.int (iI (k))]) (rest := [.ref (g 0), .ref sa]) ⟨hx, hb, hml, hown, hts⟩ (c_get l D cI cO cL (g 4) (g 6) (g (10 + (k).toNat)) (σ 6) (σ 6) (k) (fun j => if j < (σ 6).toNat then some (g (10 + j)) else none) (by omega) (by omega) (if_pos (by omega))) (cwV 1 hts gX5_fill_Jx4a65c_get_915e3 rfl rfl rfl (by decide +kernel) ⟨Nat.le_of_ble_eq_true rfl, Nat.le_of_ble_eq_true rfl⟩) (ob_recv hB.at4 hK rfl) ⟨hB.at4, hB.arr (by omega)⟩ hK rfl hl.1 rfl (Nat.le_of_ble_eq_true rfl) dX5_fill_25 (Nat.zero_le _) (Nat.zero_le _) ?_
        refine q_cast (ci := 2) (T := TX0) (N := 5) hx hb hown (hts (.classLink RX5 173 "AlmanacHouse$Feast") (List.mem_of_getElem? (i := 3) rfl)) hK (hB.fe (i := (k).toNat) (by omega)) rfl dX5_fill_28 ?_
        refine lv_aload_n hx hb dX5_fill_31 rfl (lv_at hl 1 rfl) ?_
        refine q_get (ci := 5) (C := RX3) (T := TX3) (N := 4) hx hb hts hin_X3 hown hK (v := .int (iI (yr))) (hP 0 _ rfl) rfl 0 (by decide) (hts (.fieldLink RX5 216 "AlmanacHouse$Sheet" "year" "I") (List.mem_of_getElem? (i := 4) rfl)) (fun _ h9 => h9) rfl dX5_fill_32 ?_
        refine q_callV (fr := 1) (lo := 23) (nL := 3) (Pic := PicB D cO g σ T) (As := [.ref (g (10 + (k).toNat)), .int (iI (yr))]) (rest := [.ref sa]) ⟨hx, hb, hml, hown, hts⟩ (c_feastDay l D cI cO cL g σ T hW ((k).toNat) (yr) (by omega) (by omega)) (cwV 2 hts gX5_fill_X5_feastDay rfl rfl rfl (by decide +kernel) ⟨Nat.le_of_ble_eq_true rfl, Nat.le_of_ble_eq_true rfl⟩) (ob_recv hB.at0 hK rfl) hB hK rfl hl.1 rfl (Nat.le_of_ble_eq_true rfl) dX5_fill_35 (Nat.zero_le _) (Nat.zero_le _) ?_
        have hF35 := m_F_in hW (i := (k).toNat) (by omega) (y := yr) (by omega)
        refine q_callGv (fr := 0) (lo := 0) (nL := 3) (wc := [(sa, .inr (5, [.int (iI (yr)), .ref da, .int (iI (k)), .int (iI (ec))])), (da, .inl (cI, 8, .inl (fun q9 => iI ((m_dy σ T dy yr k.toNat) q9))))]) (wr := WB cO g σ T) (As := [.int (iI (m_F σ T ((k).toNat) (yr)))]) (rest := []) ⟨hx, hb, hml, hown, hts⟩ (g_addDay l D _ ed cI cO cL sa da (yr) (k) (ec) (m_dy σ T dy yr k.toNat) (m_F σ T ((k).toNat) (yr)) (by omega)) (cwV 1 hts gX5_fill_X3_addDay rfl rfl rfl (by decide +kernel) ⟨Nat.le_of_ble_eq_true rfl, Nat.le_of_ble_eq_true rfl⟩) (ob_recv (hP 0 _ rfl) hK rfl) hP hD hS hA hK hE hT rfl hl.1 rfl (Nat.le_of_ble_eq_true rfl) dX5_fill_38 (Nat.le_of_ble_eq_true rfl) (Nat.le_of_ble_eq_true rfl) ?_
        intro _u H locs hP hD hS
        have hP : va_P D vwCl ([(sa, .inr (5, [.int (iI (yr)), .ref da, .int (iI (k + 1)), .int (iI (ec))])), (da, .inl (cI, 8, .inl (fun q9 => iI ((st (m_dy σ T dy yr k.toNat) (Int.toNat (k)) (m_F σ T ((k).toNat) (yr))) q9))))] ++ WB cO g σ T) H := hP
        have hD : va_D (va_A ([(sa, .inr (5, [.int (iI (yr)), .ref da, .int (iI (hd)), .int (iI (ec))])), (da, .inl (cI, 8, .inl (fun i => iI (dy i))))] ++ WB cO g σ T) sz) ([(sa, .inr (5, [.int (iI (yr)), .ref da, .int (iI (k + 1)), .int (iI (ec))])), (da, .inl (cI, 8, .inl (fun q9 => iI ((st (m_dy σ T dy yr k.toNat) (Int.toNat (k)) (m_F σ T ((k).toNat) (yr))) q9))))] ++ WB cO g σ T) := hD
        have hB : PicB D cO g σ T H := vaP_mems hP (fun q hq => List.mem_append_right _ hq)
        refine q_iinc (k := 2) (lv' := [(2, .int (iI (k + 1))), (0, .ref (g 0)), (1, .ref sa)]) hx hb dX5_fill_41 hl rfl (by decide) rfl (fun ls hl => ?_)
        refine lv_goto (tgt := 7) hx hb dX5_fill_44 (by decide) ?_
        have hm1 := m_dy_st σ T dy yr hk.1
        rw [hm1] at hP hD
        exact ih_7 (k + 1) (by omega) (by omega) _ _ (hP) (hD) hS _ (lv_sub hl [1, 2, 0] rfl)
  have hm0 := m_dy_0 σ T dy yr
  rw [← hm0] at hP hD
  exact key_7 ((σ 6).toNat + 1) 0 (by omega) (by omega) _ _ (hP) (hD) hS _ (lv_sub hl [1, 2, 0] rfl)
set_option maxHeartbeats 4000000 in
set_option maxRecDepth 100000 in
theorem t_setLeaps (l : Launch) (D : va_G) (sz : Nat) (ed : Nat × Nat × Nat) (cI cO cL : ClassId) (g : Nat → Nat) (σ T P : Nat → Int) (hW : WF σ T) (hS0 : WS σ P) (he6 : σ 6 = 0 → g 6 = ed.1) (he7 : σ 7 = 0 → g 7 = ed.1)  (x y : Int) (hx1 : 1 ≤ x ∧ x ≤ 400) (hy1 : 0 ≤ y ∧ y ≤ x) : MT l yX5_setLeaps wsX5_setLeaps 0 0 0 0 D cI cO cL sz g σ T P [.ref (g 0), .int (iI (x)), .int (iI (y))] ed (1000 * σ 0 + σ 1) (st (st σ 0 x) 1 y) (T) (P) := by
  refine MGp_of (cc := cX5_setLeaps) (maxL := 4) (ret := (some .int)) (by decide) rfl (Nat.le_of_ble_eq_true rfl) ?_
  intro p e s m args below meth c ls hx hb hr hlocks hml hown hts hsz hP hK hD hS hA hin hE hT hl
  have hl : lv_has ls 4 [(0, .ref (g 0)), (1, .int (iI (x))), (2, .int (iI (y)))] := hl
  have hin_X5 : ∀ w ∈ u_ws RX5 TX5 7, w ∈ wsX5_setLeaps := (fun w h => List.mem_cons_of_mem _ (List.mem_append_left _ (List.mem_append_left _ (List.mem_append_right _ h))))
  have hin_X4 : ∀ w ∈ u_ws RX4 TX4 2, w ∈ wsX5_setLeaps := (fun w h => List.mem_cons_of_mem _ (List.mem_append_left _ (List.mem_append_right _ h)))
  have hP : va_P D vwCl ([(g 0, .inr (7, [.ref (g 1), .ref (g 2), .ref (g 3), .ref (g 4), .ref (g 5), .int (iI (σ 9)), .int (iI (σ 10))])), (g 1, .inr (6, [.int (iI (σ 0)), .int (iI (σ 1))])), (g 2, .inr (3, [.int (iI (σ 2)), .int (iI (σ 3))])), (g 3, .inr (4, [.int (iI (σ 4)), .int (iI (σ 5))])), (g 4, .inr (1, [.int (iI (σ 6)), .ref (g 6), .int (iI (σ 6))])), (g 5, .inr (1, [.int (iI (σ 7)), .ref (g 7), .int (iI (σ 7))]))] ++ ((wAr cO g 6 (σ 6).toNat 10 ++ wFe g T (σ 6).toNat) ++ WH cI cO g σ P)) s.heap := hP
  have hD : va_D (va_A (WC cI cO g σ T P) sz) ([(g 0, .inr (7, [.ref (g 1), .ref (g 2), .ref (g 3), .ref (g 4), .ref (g 5), .int (iI (σ 9)), .int (iI (σ 10))])), (g 1, .inr (6, [.int (iI (σ 0)), .int (iI (σ 1))])), (g 2, .inr (3, [.int (iI (σ 2)), .int (iI (σ 3))])), (g 3, .inr (4, [.int (iI (σ 4)), .int (iI (σ 5))])), (g 4, .inr (1, [.int (iI (σ 6)), .ref (g 6), .int (iI (σ 6))])), (g 5, .inr (1, [.int (iI (σ 7)), .ref (g 7), .int (iI (σ 7))]))] ++ ((wAr cO g 6 (σ 6).toNat 10 ++ wFe g T (σ 6).toNat) ++ WH cI cO g σ P)) := hD
  obtain ⟨w0, w1, w2, w3, w4, w5, w6, w7, w8⟩ := id hW
  refine lv_iload_n hx hb dX5_setLeaps_0 rfl (lv_at hl 1 rfl) ?_
  refine q_iconst hx hb dX5_setLeaps_1 ?_
  refine q_icmp_lt (tgt := 21) hx hb dX5_setLeaps_2 (by decide) (by omega) (by omega) (fun c_1 => ?_) (fun c_1 => ?_)
  · skip
    exfalso
    omega
  · skip
    refine lv_iload_n hx hb dX5_setLeaps_5 rfl (lv_at hl 1 rfl) ?_
    refine q_sipush hx hb dX5_setLeaps_6 (by decide) ?_
    refine q_icmp_gt (tgt := 21) hx hb dX5_setLeaps_9 (by decide) (by omega) (by omega) (fun c_2 => ?_) (fun c_2 => ?_)
    · skip
      exfalso
      omega
    · skip
      refine lv_iload_n hx hb dX5_setLeaps_12 rfl (lv_at hl 2 rfl) ?_
      refine q_if_lt (tgt := 21) hx hb dX5_setLeaps_13 (by decide) (by omega) (fun c_3 => ?_) (fun c_3 => ?_)
      · skip
        exfalso
        omega
      · skip
        refine lv_iload_n hx hb dX5_setLeaps_16 rfl (lv_at hl 2 rfl) ?_
        refine lv_iload_n hx hb dX5_setLeaps_17 rfl (lv_at hl 1 rfl) ?_
        refine q_icmp_le (tgt := 31) hx hb dX5_setLeaps_18 (by decide) (by omega) (by omega) (fun c_4 => ?_) (fun c_4 => ?_)
        · skip
          refine q_sipush hx hb dX5_setLeaps_31 (by decide) ?_
          refine lv_aload_n hx hb dX5_setLeaps_34 rfl (lv_at hl 0 rfl) ?_
          refine q_get (ci := 7) (C := RX5) (T := TX5) (N := 7) hx hb hts hin_X5 hown hK (v := .ref (g 1)) (hP 0 _ rfl) rfl 0 (by decide) (hts (.fieldLink RX5 10 "AlmanacHouse" "years" "LAlmanacHouse$Years;") (List.mem_of_getElem? (i := 3) rfl)) (fun _ h9 => h9) rfl dX5_setLeaps_35 ?_
          refine q_get (ci := 6) (C := RX4) (T := TX4) (N := 2) hx hb hts hin_X4 hown hK (v := .int (iI (σ 0))) (hP 1 _ rfl) rfl 0 (by decide) (hts (.fieldLink RX5 47 "AlmanacHouse$Years" "cycle" "I") (List.mem_of_getElem? (i := 4) rfl)) (fun _ h9 => h9) rfl dX5_setLeaps_38 ?_
          refine q_imul hx hb dX5_setLeaps_41 ?_
          refine lv_aload_n hx hb dX5_setLeaps_42 rfl (lv_at hl 0 rfl) ?_
          refine q_get (ci := 7) (C := RX5) (T := TX5) (N := 7) hx hb hts hin_X5 hown hK (v := .ref (g 1)) (hP 0 _ rfl) rfl 0 (by decide) (hts (.fieldLink RX5 10 "AlmanacHouse" "years" "LAlmanacHouse$Years;") (List.mem_of_getElem? (i := 3) rfl)) (fun _ h9 => h9) rfl dX5_setLeaps_43 ?_
          refine q_get (ci := 6) (C := RX4) (T := TX4) (N := 2) hx hb hts hin_X4 hown hK (v := .int (iI (σ 1))) (hP 1 _ rfl) rfl 1 (by decide) (hts (.fieldLink RX5 51 "AlmanacHouse$Years" "leaps" "I") (List.mem_of_getElem? (i := 5) rfl)) (fun _ h9 => h9) rfl dX5_setLeaps_46 ?_
          refine q_iadd hx hb dX5_setLeaps_49 ?_
          refine lv_istore_n (lv' := [(3, .int (iI (((1000) * (σ 0)) + (σ 1)))), (0, .ref (g 0)), (1, .int (iI (x))), (2, .int (iI (y)))]) hx hb dX5_setLeaps_50 rfl hl (by decide) rfl (fun ls hl => ?_)
          refine lv_aload_n hx hb dX5_setLeaps_51 rfl (lv_at hl 1 rfl) ?_
          refine q_get (ci := 7) (C := RX5) (T := TX5) (N := 7) hx hb hts hin_X5 hown hK (v := .ref (g 1)) (hP 0 _ rfl) rfl 0 (by decide) (hts (.fieldLink RX5 10 "AlmanacHouse" "years" "LAlmanacHouse$Years;") (List.mem_of_getElem? (i := 3) rfl)) (fun _ h9 => h9) rfl dX5_setLeaps_52 ?_
          refine lv_iload_n hx hb dX5_setLeaps_55 rfl (lv_at hl 2 rfl) ?_
          refine va_put (D := D) (ci := 6) (v := .int (iI (x))) (ty := .int) (C := RX4) (T := TX4) (N := 2) hx hb hts (fun w h => List.mem_cons_of_mem _ (List.mem_append_left _ (List.mem_append_right _ h))) tyX4 tyX4_ok nmX4 hown hK hP hD hS 1 rfl rfl 0 (by decide) (hts (.fieldLink RX5 47 "AlmanacHouse$Years" "cycle" "I") (List.mem_of_getElem? (i := 4) rfl)) (fun _ h9 => h9) rfl (by decide +kernel) rfl rfl (Nat.le_of_ble_eq_true rfl) dX5_setLeaps_56 (fun H locs hP hD hS => ?_)
          have hP : va_P D vwCl ([(g 0, .inr (7, [.ref (g 1), .ref (g 2), .ref (g 3), .ref (g 4), .ref (g 5), .int (iI (σ 9)), .int (iI (σ 10))])), (g 1, .inr (6, [.int (iI (x)), .int (iI (σ 1))])), (g 2, .inr (3, [.int (iI (σ 2)), .int (iI (σ 3))])), (g 3, .inr (4, [.int (iI (σ 4)), .int (iI (σ 5))])), (g 4, .inr (1, [.int (iI (σ 6)), .ref (g 6), .int (iI (σ 6))])), (g 5, .inr (1, [.int (iI (σ 7)), .ref (g 7), .int (iI (σ 7))]))] ++ ((wAr cO g 6 (σ 6).toNat 10 ++ wFe g T (σ 6).toNat) ++ WH cI cO g σ P)) H := hP
          have hD : va_D (va_A (WC cI cO g σ T P) sz) ([(g 0, .inr (7, [.ref (g 1), .ref (g 2), .ref (g 3), .ref (g 4), .ref (g 5), .int (iI (σ 9)), .int (iI (σ 10))])), (g 1, .inr (6, [.int (iI (x)), .int (iI (σ 1))])), (g 2, .inr (3, [.int (iI (σ 2)), .int (iI (σ 3))])), (g 3, .inr (4, [.int (iI (σ 4)), .int (iI (σ 5))])), (g 4, .inr (1, [.int (iI (σ 6)), .ref (g 6), .int (iI (σ 6))])), (g 5, .inr (1, [.int (iI (σ 7)), .ref (g 7), .int (iI (σ 7))]))] ++ ((wAr cO g 6 (σ 6).toNat 10 ++ wFe g T (σ 6).toNat) ++ WH cI cO g σ P)) := hD
          refine lv_aload_n hx hb dX5_setLeaps_59 rfl (lv_at hl 1 rfl) ?_
          refine q_get (ci := 7) (C := RX5) (T := TX5) (N := 7) hx hb hts hin_X5 hown hK (v := .ref (g 1)) (hP 0 _ rfl) rfl 0 (by decide) (hts (.fieldLink RX5 10 "AlmanacHouse" "years" "LAlmanacHouse$Years;") (List.mem_of_getElem? (i := 3) rfl)) (fun _ h9 => h9) rfl dX5_setLeaps_60 ?_
          refine lv_iload_n hx hb dX5_setLeaps_63 rfl (lv_at hl 3 rfl) ?_
          refine va_put (D := D) (ci := 6) (v := .int (iI (y))) (ty := .int) (C := RX4) (T := TX4) (N := 2) hx hb hts (fun w h => List.mem_cons_of_mem _ (List.mem_append_left _ (List.mem_append_right _ h))) tyX4 tyX4_ok nmX4 hown hK hP hD hS 1 rfl rfl 1 (by decide) (hts (.fieldLink RX5 51 "AlmanacHouse$Years" "leaps" "I") (List.mem_of_getElem? (i := 5) rfl)) (fun _ h9 => h9) rfl (by decide +kernel) rfl rfl (Nat.le_of_ble_eq_true rfl) dX5_setLeaps_64 (fun H locs hP hD hS => ?_)
          have hP : va_P D vwCl ([(g 0, .inr (7, [.ref (g 1), .ref (g 2), .ref (g 3), .ref (g 4), .ref (g 5), .int (iI (σ 9)), .int (iI (σ 10))])), (g 1, .inr (6, [.int (iI (x)), .int (iI (y))])), (g 2, .inr (3, [.int (iI (σ 2)), .int (iI (σ 3))])), (g 3, .inr (4, [.int (iI (σ 4)), .int (iI (σ 5))])), (g 4, .inr (1, [.int (iI (σ 6)), .ref (g 6), .int (iI (σ 6))])), (g 5, .inr (1, [.int (iI (σ 7)), .ref (g 7), .int (iI (σ 7))]))] ++ ((wAr cO g 6 (σ 6).toNat 10 ++ wFe g T (σ 6).toNat) ++ WH cI cO g σ P)) H := hP
          have hD : va_D (va_A (WC cI cO g σ T P) sz) ([(g 0, .inr (7, [.ref (g 1), .ref (g 2), .ref (g 3), .ref (g 4), .ref (g 5), .int (iI (σ 9)), .int (iI (σ 10))])), (g 1, .inr (6, [.int (iI (x)), .int (iI (y))])), (g 2, .inr (3, [.int (iI (σ 2)), .int (iI (σ 3))])), (g 3, .inr (4, [.int (iI (σ 4)), .int (iI (σ 5))])), (g 4, .inr (1, [.int (iI (σ 6)), .ref (g 6), .int (iI (σ 6))])), (g 5, .inr (1, [.int (iI (σ 7)), .ref (g 7), .int (iI (σ 7))]))] ++ ((wAr cO g 6 (σ 6).toNat 10 ++ wFe g T (σ 6).toNat) ++ WH cI cO g σ P)) := hD
          refine lv_iload_n hx hb dX5_setLeaps_67 rfl (lv_at hl 0 rfl) ?_
          exact q_gpret (cells := 0) (slots := 0) (mc := 0) (ms := 0) (g) hx hb hr hlocks hS (by omega) (⟨rfl, he6, he7⟩) (⟨hP, hD⟩) (Nat.le_of_ble_eq_true rfl) (Nat.le_of_ble_eq_true rfl) dX5_setLeaps_68
        · skip
          exfalso
          omega
set_option maxHeartbeats 4000000 in
set_option maxRecDepth 100000 in
theorem t_setMoon (l : Launch) (D : va_G) (sz : Nat) (ed : Nat × Nat × Nat) (cI cO cL : ClassId) (g : Nat → Nat) (σ T P : Nat → Int) (hW : WF σ T) (hS0 : WS σ P) (he6 : σ 6 = 0 → g 6 = ed.1) (he7 : σ 7 = 0 → g 7 = ed.1)  (x y : Int) (hx1 : 20000 ≤ x ∧ x ≤ 40000) (hy1 : 0 ≤ y ∧ y ≤ 39999) : MT l yX5_setMoon wsX5_setMoon 0 0 0 0 D cI cO cL sz g σ T P [.ref (g 0), .int (iI (x)), .int (iI (y))] ed (σ 2) (st (st σ 2 x) 3 y) (T) (P) := by
  refine MGp_of (cc := cX5_setMoon) (maxL := 4) (ret := (some .int)) (by decide) rfl (Nat.le_of_ble_eq_true rfl) ?_
  intro p e s m args below meth c ls hx hb hr hlocks hml hown hts hsz hP hK hD hS hA hin hE hT hl
  have hl : lv_has ls 4 [(0, .ref (g 0)), (1, .int (iI (x))), (2, .int (iI (y)))] := hl
  have hin_X5 : ∀ w ∈ u_ws RX5 TX5 7, w ∈ wsX5_setMoon := (fun w h => List.mem_cons_of_mem _ (List.mem_append_left _ (List.mem_append_left _ (List.mem_append_right _ h))))
  have hin_X1 : ∀ w ∈ u_ws RX1 TX1 2, w ∈ wsX5_setMoon := (fun w h => List.mem_cons_of_mem _ (List.mem_append_left _ (List.mem_append_right _ h)))
  have hP : va_P D vwCl ([(g 0, .inr (7, [.ref (g 1), .ref (g 2), .ref (g 3), .ref (g 4), .ref (g 5), .int (iI (σ 9)), .int (iI (σ 10))])), (g 1, .inr (6, [.int (iI (σ 0)), .int (iI (σ 1))])), (g 2, .inr (3, [.int (iI (σ 2)), .int (iI (σ 3))])), (g 3, .inr (4, [.int (iI (σ 4)), .int (iI (σ 5))])), (g 4, .inr (1, [.int (iI (σ 6)), .ref (g 6), .int (iI (σ 6))])), (g 5, .inr (1, [.int (iI (σ 7)), .ref (g 7), .int (iI (σ 7))]))] ++ ((wAr cO g 6 (σ 6).toNat 10 ++ wFe g T (σ 6).toNat) ++ WH cI cO g σ P)) s.heap := hP
  have hD : va_D (va_A (WC cI cO g σ T P) sz) ([(g 0, .inr (7, [.ref (g 1), .ref (g 2), .ref (g 3), .ref (g 4), .ref (g 5), .int (iI (σ 9)), .int (iI (σ 10))])), (g 1, .inr (6, [.int (iI (σ 0)), .int (iI (σ 1))])), (g 2, .inr (3, [.int (iI (σ 2)), .int (iI (σ 3))])), (g 3, .inr (4, [.int (iI (σ 4)), .int (iI (σ 5))])), (g 4, .inr (1, [.int (iI (σ 6)), .ref (g 6), .int (iI (σ 6))])), (g 5, .inr (1, [.int (iI (σ 7)), .ref (g 7), .int (iI (σ 7))]))] ++ ((wAr cO g 6 (σ 6).toNat 10 ++ wFe g T (σ 6).toNat) ++ WH cI cO g σ P)) := hD
  obtain ⟨w0, w1, w2, w3, w4, w5, w6, w7, w8⟩ := id hW
  refine lv_iload_n hx hb dX5_setMoon_0 rfl (lv_at hl 1 rfl) ?_
  refine q_sipush hx hb dX5_setMoon_1 (by decide) ?_
  refine q_icmp_lt (tgt := 23) hx hb dX5_setMoon_4 (by decide) (by omega) (by omega) (fun c_1 => ?_) (fun c_1 => ?_)
  · skip
    exfalso
    omega
  · skip
    refine lv_iload_n hx hb dX5_setMoon_7 rfl (lv_at hl 1 rfl) ?_
    refine q_ldc (z := 40000) hx hb hown (hts (.constant RX5 54 (40000)) (List.mem_of_getElem? (i := 3) rfl)) (by decide) dX5_setMoon_8 ?_
    refine q_icmp_gt (tgt := 23) hx hb dX5_setMoon_10 (by decide) (by omega) (by omega) (fun c_2 => ?_) (fun c_2 => ?_)
    · skip
      exfalso
      omega
    · skip
      refine lv_iload_n hx hb dX5_setMoon_13 rfl (lv_at hl 2 rfl) ?_
      refine q_if_lt (tgt := 23) hx hb dX5_setMoon_14 (by decide) (by omega) (fun c_3 => ?_) (fun c_3 => ?_)
      · skip
        exfalso
        omega
      · skip
        refine lv_iload_n hx hb dX5_setMoon_17 rfl (lv_at hl 2 rfl) ?_
        refine q_ldc (z := 39999) hx hb hown (hts (.constant RX5 55 (39999)) (List.mem_of_getElem? (i := 4) rfl)) (by decide) dX5_setMoon_18 ?_
        refine q_icmp_le (tgt := 33) hx hb dX5_setMoon_20 (by decide) (by omega) (by omega) (fun c_4 => ?_) (fun c_4 => ?_)
        · skip
          refine lv_aload_n hx hb dX5_setMoon_33 rfl (lv_at hl 0 rfl) ?_
          refine q_get (ci := 7) (C := RX5) (T := TX5) (N := 7) hx hb hts hin_X5 hown hK (v := .ref (g 2)) (hP 0 _ rfl) rfl 1 (by decide) (hts (.fieldLink RX5 19 "AlmanacHouse" "moons" "LAlmanacHouse$Moons;") (List.mem_of_getElem? (i := 5) rfl)) (fun _ h9 => h9) rfl dX5_setMoon_34 ?_
          refine q_get (ci := 3) (C := RX1) (T := TX1) (N := 2) hx hb hts hin_X1 hown hK (v := .int (iI (σ 2))) (hP 2 _ rfl) rfl 0 (by decide) (hts (.fieldLink RX5 58 "AlmanacHouse$Moons" "length" "I") (List.mem_of_getElem? (i := 6) rfl)) (fun _ h9 => h9) rfl dX5_setMoon_37 ?_
          refine lv_istore_n (lv' := [(3, .int (iI (σ 2))), (0, .ref (g 0)), (1, .int (iI (x))), (2, .int (iI (y)))]) hx hb dX5_setMoon_40 rfl hl (by decide) rfl (fun ls hl => ?_)
          refine lv_aload_n hx hb dX5_setMoon_41 rfl (lv_at hl 1 rfl) ?_
          refine q_get (ci := 7) (C := RX5) (T := TX5) (N := 7) hx hb hts hin_X5 hown hK (v := .ref (g 2)) (hP 0 _ rfl) rfl 1 (by decide) (hts (.fieldLink RX5 19 "AlmanacHouse" "moons" "LAlmanacHouse$Moons;") (List.mem_of_getElem? (i := 5) rfl)) (fun _ h9 => h9) rfl dX5_setMoon_42 ?_
          refine lv_iload_n hx hb dX5_setMoon_45 rfl (lv_at hl 2 rfl) ?_
          refine va_put (D := D) (ci := 3) (v := .int (iI (x))) (ty := .int) (C := RX1) (T := TX1) (N := 2) hx hb hts (fun w h => List.mem_cons_of_mem _ (List.mem_append_left _ (List.mem_append_right _ h))) tyX1 tyX1_ok nmX1 hown hK hP hD hS 2 rfl rfl 0 (by decide) (hts (.fieldLink RX5 58 "AlmanacHouse$Moons" "length" "I") (List.mem_of_getElem? (i := 6) rfl)) (fun _ h9 => h9) rfl (by decide +kernel) rfl rfl (Nat.le_of_ble_eq_true rfl) dX5_setMoon_46 (fun H locs hP hD hS => ?_)
          have hP : va_P D vwCl ([(g 0, .inr (7, [.ref (g 1), .ref (g 2), .ref (g 3), .ref (g 4), .ref (g 5), .int (iI (σ 9)), .int (iI (σ 10))])), (g 1, .inr (6, [.int (iI (σ 0)), .int (iI (σ 1))])), (g 2, .inr (3, [.int (iI (x)), .int (iI (σ 3))])), (g 3, .inr (4, [.int (iI (σ 4)), .int (iI (σ 5))])), (g 4, .inr (1, [.int (iI (σ 6)), .ref (g 6), .int (iI (σ 6))])), (g 5, .inr (1, [.int (iI (σ 7)), .ref (g 7), .int (iI (σ 7))]))] ++ ((wAr cO g 6 (σ 6).toNat 10 ++ wFe g T (σ 6).toNat) ++ WH cI cO g σ P)) H := hP
          have hD : va_D (va_A (WC cI cO g σ T P) sz) ([(g 0, .inr (7, [.ref (g 1), .ref (g 2), .ref (g 3), .ref (g 4), .ref (g 5), .int (iI (σ 9)), .int (iI (σ 10))])), (g 1, .inr (6, [.int (iI (σ 0)), .int (iI (σ 1))])), (g 2, .inr (3, [.int (iI (x)), .int (iI (σ 3))])), (g 3, .inr (4, [.int (iI (σ 4)), .int (iI (σ 5))])), (g 4, .inr (1, [.int (iI (σ 6)), .ref (g 6), .int (iI (σ 6))])), (g 5, .inr (1, [.int (iI (σ 7)), .ref (g 7), .int (iI (σ 7))]))] ++ ((wAr cO g 6 (σ 6).toNat 10 ++ wFe g T (σ 6).toNat) ++ WH cI cO g σ P)) := hD
          refine lv_aload_n hx hb dX5_setMoon_49 rfl (lv_at hl 1 rfl) ?_
          refine q_get (ci := 7) (C := RX5) (T := TX5) (N := 7) hx hb hts hin_X5 hown hK (v := .ref (g 2)) (hP 0 _ rfl) rfl 1 (by decide) (hts (.fieldLink RX5 19 "AlmanacHouse" "moons" "LAlmanacHouse$Moons;") (List.mem_of_getElem? (i := 5) rfl)) (fun _ h9 => h9) rfl dX5_setMoon_50 ?_
          refine lv_iload_n hx hb dX5_setMoon_53 rfl (lv_at hl 3 rfl) ?_
          refine va_put (D := D) (ci := 3) (v := .int (iI (y))) (ty := .int) (C := RX1) (T := TX1) (N := 2) hx hb hts (fun w h => List.mem_cons_of_mem _ (List.mem_append_left _ (List.mem_append_right _ h))) tyX1 tyX1_ok nmX1 hown hK hP hD hS 2 rfl rfl 1 (by decide) (hts (.fieldLink RX5 61 "AlmanacHouse$Moons" "first" "I") (List.mem_of_getElem? (i := 7) rfl)) (fun _ h9 => h9) rfl (by decide +kernel) rfl rfl (Nat.le_of_ble_eq_true rfl) dX5_setMoon_54 (fun H locs hP hD hS => ?_)
          have hP : va_P D vwCl ([(g 0, .inr (7, [.ref (g 1), .ref (g 2), .ref (g 3), .ref (g 4), .ref (g 5), .int (iI (σ 9)), .int (iI (σ 10))])), (g 1, .inr (6, [.int (iI (σ 0)), .int (iI (σ 1))])), (g 2, .inr (3, [.int (iI (x)), .int (iI (y))])), (g 3, .inr (4, [.int (iI (σ 4)), .int (iI (σ 5))])), (g 4, .inr (1, [.int (iI (σ 6)), .ref (g 6), .int (iI (σ 6))])), (g 5, .inr (1, [.int (iI (σ 7)), .ref (g 7), .int (iI (σ 7))]))] ++ ((wAr cO g 6 (σ 6).toNat 10 ++ wFe g T (σ 6).toNat) ++ WH cI cO g σ P)) H := hP
          have hD : va_D (va_A (WC cI cO g σ T P) sz) ([(g 0, .inr (7, [.ref (g 1), .ref (g 2), .ref (g 3), .ref (g 4), .ref (g 5), .int (iI (σ 9)), .int (iI (σ 10))])), (g 1, .inr (6, [.int (iI (σ 0)), .int (iI (σ 1))])), (g 2, .inr (3, [.int (iI (x)), .int (iI (y))])), (g 3, .inr (4, [.int (iI (σ 4)), .int (iI (σ 5))])), (g 4, .inr (1, [.int (iI (σ 6)), .ref (g 6), .int (iI (σ 6))])), (g 5, .inr (1, [.int (iI (σ 7)), .ref (g 7), .int (iI (σ 7))]))] ++ ((wAr cO g 6 (σ 6).toNat 10 ++ wFe g T (σ 6).toNat) ++ WH cI cO g σ P)) := hD
          refine lv_iload_n hx hb dX5_setMoon_57 rfl (lv_at hl 0 rfl) ?_
          exact q_gpret (cells := 0) (slots := 0) (mc := 0) (ms := 0) (g) hx hb hr hlocks hS (rfl) (⟨rfl, he6, he7⟩) (⟨hP, hD⟩) (Nat.le_of_ble_eq_true rfl) (Nat.le_of_ble_eq_true rfl) dX5_setMoon_58
        · skip
          exfalso
          omega
set_option maxHeartbeats 4000000 in
set_option maxRecDepth 100000 in
theorem t_setNodes (l : Launch) (D : va_G) (sz : Nat) (ed : Nat × Nat × Nat) (cI cO cL : ClassId) (g : Nat → Nat) (σ T P : Nat → Int) (hW : WF σ T) (hS0 : WS σ P) (he6 : σ 6 = 0 → g 6 = ed.1) (he7 : σ 7 = 0 → g 7 = ed.1)  (x y : Int) (hx1 : 100000 ≤ x ∧ x ≤ 300000) (hy1 : 0 ≤ y ∧ y ≤ 299999) : MT l yX5_setNodes wsX5_setNodes 0 0 0 0 D cI cO cL sz g σ T P [.ref (g 0), .int (iI (x)), .int (iI (y))] ed (σ 4) (st (st σ 4 x) 5 y) (T) (P) := by
  refine MGp_of (cc := cX5_setNodes) (maxL := 4) (ret := (some .int)) (by decide) rfl (Nat.le_of_ble_eq_true rfl) ?_
  intro p e s m args below meth c ls hx hb hr hlocks hml hown hts hsz hP hK hD hS hA hin hE hT hl
  have hl : lv_has ls 4 [(0, .ref (g 0)), (1, .int (iI (x))), (2, .int (iI (y)))] := hl
  have hin_X5 : ∀ w ∈ u_ws RX5 TX5 7, w ∈ wsX5_setNodes := (fun w h => List.mem_cons_of_mem _ (List.mem_append_left _ (List.mem_append_left _ (List.mem_append_right _ h))))
  have hin_X2 : ∀ w ∈ u_ws RX2 TX2 2, w ∈ wsX5_setNodes := (fun w h => List.mem_cons_of_mem _ (List.mem_append_left _ (List.mem_append_right _ h)))
  have hP : va_P D vwCl ([(g 0, .inr (7, [.ref (g 1), .ref (g 2), .ref (g 3), .ref (g 4), .ref (g 5), .int (iI (σ 9)), .int (iI (σ 10))])), (g 1, .inr (6, [.int (iI (σ 0)), .int (iI (σ 1))])), (g 2, .inr (3, [.int (iI (σ 2)), .int (iI (σ 3))])), (g 3, .inr (4, [.int (iI (σ 4)), .int (iI (σ 5))])), (g 4, .inr (1, [.int (iI (σ 6)), .ref (g 6), .int (iI (σ 6))])), (g 5, .inr (1, [.int (iI (σ 7)), .ref (g 7), .int (iI (σ 7))]))] ++ ((wAr cO g 6 (σ 6).toNat 10 ++ wFe g T (σ 6).toNat) ++ WH cI cO g σ P)) s.heap := hP
  have hD : va_D (va_A (WC cI cO g σ T P) sz) ([(g 0, .inr (7, [.ref (g 1), .ref (g 2), .ref (g 3), .ref (g 4), .ref (g 5), .int (iI (σ 9)), .int (iI (σ 10))])), (g 1, .inr (6, [.int (iI (σ 0)), .int (iI (σ 1))])), (g 2, .inr (3, [.int (iI (σ 2)), .int (iI (σ 3))])), (g 3, .inr (4, [.int (iI (σ 4)), .int (iI (σ 5))])), (g 4, .inr (1, [.int (iI (σ 6)), .ref (g 6), .int (iI (σ 6))])), (g 5, .inr (1, [.int (iI (σ 7)), .ref (g 7), .int (iI (σ 7))]))] ++ ((wAr cO g 6 (σ 6).toNat 10 ++ wFe g T (σ 6).toNat) ++ WH cI cO g σ P)) := hD
  obtain ⟨w0, w1, w2, w3, w4, w5, w6, w7, w8⟩ := id hW
  refine lv_iload_n hx hb dX5_setNodes_0 rfl (lv_at hl 1 rfl) ?_
  refine q_ldc (z := 100000) hx hb hown (hts (.constant RX5 64 (100000)) (List.mem_of_getElem? (i := 3) rfl)) (by decide) dX5_setNodes_1 ?_
  refine q_icmp_lt (tgt := 22) hx hb dX5_setNodes_3 (by decide) (by omega) (by omega) (fun c_1 => ?_) (fun c_1 => ?_)
  · skip
    exfalso
    omega
  · skip
    refine lv_iload_n hx hb dX5_setNodes_6 rfl (lv_at hl 1 rfl) ?_
    refine q_ldc (z := 300000) hx hb hown (hts (.constant RX5 65 (300000)) (List.mem_of_getElem? (i := 4) rfl)) (by decide) dX5_setNodes_7 ?_
    refine q_icmp_gt (tgt := 22) hx hb dX5_setNodes_9 (by decide) (by omega) (by omega) (fun c_2 => ?_) (fun c_2 => ?_)
    · skip
      exfalso
      omega
    · skip
      refine lv_iload_n hx hb dX5_setNodes_12 rfl (lv_at hl 2 rfl) ?_
      refine q_if_lt (tgt := 22) hx hb dX5_setNodes_13 (by decide) (by omega) (fun c_3 => ?_) (fun c_3 => ?_)
      · skip
        exfalso
        omega
      · skip
        refine lv_iload_n hx hb dX5_setNodes_16 rfl (lv_at hl 2 rfl) ?_
        refine q_ldc (z := 299999) hx hb hown (hts (.constant RX5 66 (299999)) (List.mem_of_getElem? (i := 5) rfl)) (by decide) dX5_setNodes_17 ?_
        refine q_icmp_le (tgt := 32) hx hb dX5_setNodes_19 (by decide) (by omega) (by omega) (fun c_4 => ?_) (fun c_4 => ?_)
        · skip
          refine lv_aload_n hx hb dX5_setNodes_32 rfl (lv_at hl 0 rfl) ?_
          refine q_get (ci := 7) (C := RX5) (T := TX5) (N := 7) hx hb hts hin_X5 hown hK (v := .ref (g 3)) (hP 0 _ rfl) rfl 2 (by decide) (hts (.fieldLink RX5 26 "AlmanacHouse" "nodes" "LAlmanacHouse$Nodes;") (List.mem_of_getElem? (i := 6) rfl)) (fun _ h9 => h9) rfl dX5_setNodes_33 ?_
          refine q_get (ci := 4) (C := RX2) (T := TX2) (N := 2) hx hb hts hin_X2 hown hK (v := .int (iI (σ 4))) (hP 3 _ rfl) rfl 0 (by decide) (hts (.fieldLink RX5 69 "AlmanacHouse$Nodes" "period" "I") (List.mem_of_getElem? (i := 7) rfl)) (fun _ h9 => h9) rfl dX5_setNodes_36 ?_
          refine lv_istore_n (lv' := [(3, .int (iI (σ 4))), (0, .ref (g 0)), (1, .int (iI (x))), (2, .int (iI (y)))]) hx hb dX5_setNodes_39 rfl hl (by decide) rfl (fun ls hl => ?_)
          refine lv_aload_n hx hb dX5_setNodes_40 rfl (lv_at hl 1 rfl) ?_
          refine q_get (ci := 7) (C := RX5) (T := TX5) (N := 7) hx hb hts hin_X5 hown hK (v := .ref (g 3)) (hP 0 _ rfl) rfl 2 (by decide) (hts (.fieldLink RX5 26 "AlmanacHouse" "nodes" "LAlmanacHouse$Nodes;") (List.mem_of_getElem? (i := 6) rfl)) (fun _ h9 => h9) rfl dX5_setNodes_41 ?_
          refine lv_iload_n hx hb dX5_setNodes_44 rfl (lv_at hl 2 rfl) ?_
          refine va_put (D := D) (ci := 4) (v := .int (iI (x))) (ty := .int) (C := RX2) (T := TX2) (N := 2) hx hb hts (fun w h => List.mem_cons_of_mem _ (List.mem_append_left _ (List.mem_append_right _ h))) tyX2 tyX2_ok nmX2 hown hK hP hD hS 3 rfl rfl 0 (by decide) (hts (.fieldLink RX5 69 "AlmanacHouse$Nodes" "period" "I") (List.mem_of_getElem? (i := 7) rfl)) (fun _ h9 => h9) rfl (by decide +kernel) rfl rfl (Nat.le_of_ble_eq_true rfl) dX5_setNodes_45 (fun H locs hP hD hS => ?_)
          have hP : va_P D vwCl ([(g 0, .inr (7, [.ref (g 1), .ref (g 2), .ref (g 3), .ref (g 4), .ref (g 5), .int (iI (σ 9)), .int (iI (σ 10))])), (g 1, .inr (6, [.int (iI (σ 0)), .int (iI (σ 1))])), (g 2, .inr (3, [.int (iI (σ 2)), .int (iI (σ 3))])), (g 3, .inr (4, [.int (iI (x)), .int (iI (σ 5))])), (g 4, .inr (1, [.int (iI (σ 6)), .ref (g 6), .int (iI (σ 6))])), (g 5, .inr (1, [.int (iI (σ 7)), .ref (g 7), .int (iI (σ 7))]))] ++ ((wAr cO g 6 (σ 6).toNat 10 ++ wFe g T (σ 6).toNat) ++ WH cI cO g σ P)) H := hP
          have hD : va_D (va_A (WC cI cO g σ T P) sz) ([(g 0, .inr (7, [.ref (g 1), .ref (g 2), .ref (g 3), .ref (g 4), .ref (g 5), .int (iI (σ 9)), .int (iI (σ 10))])), (g 1, .inr (6, [.int (iI (σ 0)), .int (iI (σ 1))])), (g 2, .inr (3, [.int (iI (σ 2)), .int (iI (σ 3))])), (g 3, .inr (4, [.int (iI (x)), .int (iI (σ 5))])), (g 4, .inr (1, [.int (iI (σ 6)), .ref (g 6), .int (iI (σ 6))])), (g 5, .inr (1, [.int (iI (σ 7)), .ref (g 7), .int (iI (σ 7))]))] ++ ((wAr cO g 6 (σ 6).toNat 10 ++ wFe g T (σ 6).toNat) ++ WH cI cO g σ P)) := hD
          refine lv_aload_n hx hb dX5_setNodes_48 rfl (lv_at hl 1 rfl) ?_
          refine q_get (ci := 7) (C := RX5) (T := TX5) (N := 7) hx hb hts hin_X5 hown hK (v := .ref (g 3)) (hP 0 _ rfl) rfl 2 (by decide) (hts (.fieldLink RX5 26 "AlmanacHouse" "nodes" "LAlmanacHouse$Nodes;") (List.mem_of_getElem? (i := 6) rfl)) (fun _ h9 => h9) rfl dX5_setNodes_49 ?_
          refine lv_iload_n hx hb dX5_setNodes_52 rfl (lv_at hl 3 rfl) ?_
          refine va_put (D := D) (ci := 4) (v := .int (iI (y))) (ty := .int) (C := RX2) (T := TX2) (N := 2) hx hb hts (fun w h => List.mem_cons_of_mem _ (List.mem_append_left _ (List.mem_append_right _ h))) tyX2 tyX2_ok nmX2 hown hK hP hD hS 3 rfl rfl 1 (by decide) (hts (.fieldLink RX5 72 "AlmanacHouse$Nodes" "node" "I") (List.mem_of_getElem? (i := 8) rfl)) (fun _ h9 => h9) rfl (by decide +kernel) rfl rfl (Nat.le_of_ble_eq_true rfl) dX5_setNodes_53 (fun H locs hP hD hS => ?_)
          have hP : va_P D vwCl ([(g 0, .inr (7, [.ref (g 1), .ref (g 2), .ref (g 3), .ref (g 4), .ref (g 5), .int (iI (σ 9)), .int (iI (σ 10))])), (g 1, .inr (6, [.int (iI (σ 0)), .int (iI (σ 1))])), (g 2, .inr (3, [.int (iI (σ 2)), .int (iI (σ 3))])), (g 3, .inr (4, [.int (iI (x)), .int (iI (y))])), (g 4, .inr (1, [.int (iI (σ 6)), .ref (g 6), .int (iI (σ 6))])), (g 5, .inr (1, [.int (iI (σ 7)), .ref (g 7), .int (iI (σ 7))]))] ++ ((wAr cO g 6 (σ 6).toNat 10 ++ wFe g T (σ 6).toNat) ++ WH cI cO g σ P)) H := hP
          have hD : va_D (va_A (WC cI cO g σ T P) sz) ([(g 0, .inr (7, [.ref (g 1), .ref (g 2), .ref (g 3), .ref (g 4), .ref (g 5), .int (iI (σ 9)), .int (iI (σ 10))])), (g 1, .inr (6, [.int (iI (σ 0)), .int (iI (σ 1))])), (g 2, .inr (3, [.int (iI (σ 2)), .int (iI (σ 3))])), (g 3, .inr (4, [.int (iI (x)), .int (iI (y))])), (g 4, .inr (1, [.int (iI (σ 6)), .ref (g 6), .int (iI (σ 6))])), (g 5, .inr (1, [.int (iI (σ 7)), .ref (g 7), .int (iI (σ 7))]))] ++ ((wAr cO g 6 (σ 6).toNat 10 ++ wFe g T (σ 6).toNat) ++ WH cI cO g σ P)) := hD
          refine lv_iload_n hx hb dX5_setNodes_56 rfl (lv_at hl 0 rfl) ?_
          exact q_gpret (cells := 0) (slots := 0) (mc := 0) (ms := 0) (g) hx hb hr hlocks hS (rfl) (⟨rfl, he6, he7⟩) (⟨hP, hD⟩) (Nat.le_of_ble_eq_true rfl) (Nat.le_of_ble_eq_true rfl) dX5_setNodes_57
        · skip
          exfalso
          omega
