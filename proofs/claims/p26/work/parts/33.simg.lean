/-! ===== Sim: constructor, more, sheet, observe ===== -/
set_option maxHeartbeats 4000000 in
set_option maxRecDepth 100000 in
theorem g_simInit (l : Launch) (D : va_G) (sz : Nat) (ed : Nat × Nat × Nat) (cI cO cL : ClassId) (h : Nat) : MGv l yX6_init wsX6_init 1 20 2 0 D (ty3 cI cO cL) sz ([(h, .inr (8, [.int (iI (0)), .int (iI (0)), .int (iI (0)), .int (iI (0)), .int (iI (0)), .int (iI (0)), .null, .null, .int (iI (0)), .int (iI (0))]))]) [.ref h] ed (fun (u : Nat × Nat) => [(u.2, .inl (cL, 0, .inr (.inr (.inr (.inr (fun _ => none)))))), (u.1, .inl (cL, 0, .inr (.inr (.inr (.inr (fun _ => none)))))), (h, .inr (8, [.int (iI (4)), .int (iI (1)), .int (iI (29531)), .int (iI (0)), .int (iI (173310)), .int (iI (0)), .ref u.1, .ref u.2, .int (iI (0)), .int (iI (0))]))]) := by
  refine MGv_of (cc := cX6_init) (maxL := 1) (ret := none) (by decide) rfl (Nat.le_of_ble_eq_true rfl) ?_
  intro p e s m args below meth c ls hx hb hr hlocks hml hown hts hsz hP hK hD hS hA hin hE hT hl
  have hl : lv_has ls 1 [(0, .ref h)] := hl
  have hP : va_P D vwCl ([(h, .inr (8, [.int (iI (0)), .int (iI (0)), .int (iI (0)), .int (iI (0)), .int (iI (0)), .int (iI (0)), .null, .null, .int (iI (0)), .int (iI (0))]))]) s.heap := hP
  have hD : va_D (va_A ([(h, .inr (8, [.int (iI (0)), .int (iI (0)), .int (iI (0)), .int (iI (0)), .int (iI (0)), .int (iI (0)), .null, .null, .int (iI (0)), .int (iI (0))]))]) sz) ([(h, .inr (8, [.int (iI (0)), .int (iI (0)), .int (iI (0)), .int (iI (0)), .int (iI (0)), .int (iI (0)), .null, .null, .int (iI (0)), .int (iI (0))]))]) := hD
  refine lv_aload_n hx hb dX6_init_0 rfl (lv_at hl 0 rfl) ?_
  refine W.objInit hx hb hown (hts (.methodLink RX6 1 objectInit) (List.mem_of_getElem? (i := 1) rfl)) (hts (.instanceMethod objectInit) (List.mem_of_getElem? (i := 2) rfl)) (hts (.code objectInit ⟨#[0xb1]⟩ 1 none) (List.mem_of_getElem? (i := 3) rfl)) rfl (hl.1.trans hml.symm) rfl dX6_init_1 (Nat.le_of_ble_eq_true rfl) (Nat.le_of_ble_eq_true rfl) ?_
  refine W.eq (g2 := F0 m 4 ls []) rfl ?_
  refine lv_aload_n hx hb dX6_init_4 rfl (lv_at hl 0 rfl) ?_
  refine q_iconst hx hb dX6_init_5 ?_
  refine va_put (D := D) (ci := 8) (v := .int (iI (4))) (ty := .int) (C := RX6) (T := TX6) (N := 10) hx hb hts (fun w h => List.mem_cons_of_mem _ (List.mem_append_right _ h)) tyX6 tyX6_ok nmX6 hown hK hP hD hS 0 rfl rfl 0 (by decide) (hts (.fieldLink RX6 7 "AlmanacHouseLaw$Sim" "cycle" "I") (List.mem_of_getElem? (i := 4) rfl)) (fun _ h9 => h9) rfl (by decide +kernel) rfl rfl (Nat.le_of_ble_eq_true rfl) dX6_init_6 (fun H locs hP hD hS => ?_)
  have hP : va_P D vwCl ([(h, .inr (8, [.int (iI (4)), .int (iI (0)), .int (iI (0)), .int (iI (0)), .int (iI (0)), .int (iI (0)), .null, .null, .int (iI (0)), .int (iI (0))]))]) H := hP
  have hD : va_D (va_A ([(h, .inr (8, [.int (iI (0)), .int (iI (0)), .int (iI (0)), .int (iI (0)), .int (iI (0)), .int (iI (0)), .null, .null, .int (iI (0)), .int (iI (0))]))]) sz) ([(h, .inr (8, [.int (iI (4)), .int (iI (0)), .int (iI (0)), .int (iI (0)), .int (iI (0)), .int (iI (0)), .null, .null, .int (iI (0)), .int (iI (0))]))]) := hD
  refine lv_aload_n hx hb dX6_init_9 rfl (lv_at hl 0 rfl) ?_
  refine q_iconst hx hb dX6_init_10 ?_
  refine va_put (D := D) (ci := 8) (v := .int (iI (1))) (ty := .int) (C := RX6) (T := TX6) (N := 10) hx hb hts (fun w h => List.mem_cons_of_mem _ (List.mem_append_right _ h)) tyX6 tyX6_ok nmX6 hown hK hP hD hS 0 rfl rfl 1 (by decide) (hts (.fieldLink RX6 13 "AlmanacHouseLaw$Sim" "leaps" "I") (List.mem_of_getElem? (i := 5) rfl)) (fun _ h9 => h9) rfl (by decide +kernel) rfl rfl (Nat.le_of_ble_eq_true rfl) dX6_init_11 (fun H locs hP hD hS => ?_)
  have hP : va_P D vwCl ([(h, .inr (8, [.int (iI (4)), .int (iI (1)), .int (iI (0)), .int (iI (0)), .int (iI (0)), .int (iI (0)), .null, .null, .int (iI (0)), .int (iI (0))]))]) H := hP
  have hD : va_D (va_A ([(h, .inr (8, [.int (iI (0)), .int (iI (0)), .int (iI (0)), .int (iI (0)), .int (iI (0)), .int (iI (0)), .null, .null, .int (iI (0)), .int (iI (0))]))]) sz) ([(h, .inr (8, [.int (iI (4)), .int (iI (1)), .int (iI (0)), .int (iI (0)), .int (iI (0)), .int (iI (0)), .null, .null, .int (iI (0)), .int (iI (0))]))]) := hD
  refine lv_aload_n hx hb dX6_init_14 rfl (lv_at hl 0 rfl) ?_
  refine q_sipush hx hb dX6_init_15 (by decide) ?_
  refine va_put (D := D) (ci := 8) (v := .int (iI (29531))) (ty := .int) (C := RX6) (T := TX6) (N := 10) hx hb hts (fun w h => List.mem_cons_of_mem _ (List.mem_append_right _ h)) tyX6 tyX6_ok nmX6 hown hK hP hD hS 0 rfl rfl 2 (by decide) (hts (.fieldLink RX6 16 "AlmanacHouseLaw$Sim" "length" "I") (List.mem_of_getElem? (i := 6) rfl)) (fun _ h9 => h9) rfl (by decide +kernel) rfl rfl (Nat.le_of_ble_eq_true rfl) dX6_init_18 (fun H locs hP hD hS => ?_)
  have hP : va_P D vwCl ([(h, .inr (8, [.int (iI (4)), .int (iI (1)), .int (iI (29531)), .int (iI (0)), .int (iI (0)), .int (iI (0)), .null, .null, .int (iI (0)), .int (iI (0))]))]) H := hP
  have hD : va_D (va_A ([(h, .inr (8, [.int (iI (0)), .int (iI (0)), .int (iI (0)), .int (iI (0)), .int (iI (0)), .int (iI (0)), .null, .null, .int (iI (0)), .int (iI (0))]))]) sz) ([(h, .inr (8, [.int (iI (4)), .int (iI (1)), .int (iI (29531)), .int (iI (0)), .int (iI (0)), .int (iI (0)), .null, .null, .int (iI (0)), .int (iI (0))]))]) := hD
  refine lv_aload_n hx hb dX6_init_21 rfl (lv_at hl 0 rfl) ?_
  refine q_ldc (z := 173310) hx hb hown (hts (.constant RX6 19 (173310)) (List.mem_of_getElem? (i := 7) rfl)) (by decide) dX6_init_22 ?_
  refine va_put (D := D) (ci := 8) (v := .int (iI (173310))) (ty := .int) (C := RX6) (T := TX6) (N := 10) hx hb hts (fun w h => List.mem_cons_of_mem _ (List.mem_append_right _ h)) tyX6 tyX6_ok nmX6 hown hK hP hD hS 0 rfl rfl 4 (by decide) (hts (.fieldLink RX6 20 "AlmanacHouseLaw$Sim" "period" "I") (List.mem_of_getElem? (i := 8) rfl)) (fun _ h9 => h9) rfl (by decide +kernel) rfl rfl (Nat.le_of_ble_eq_true rfl) dX6_init_24 (fun H locs hP hD hS => ?_)
  have hP : va_P D vwCl ([(h, .inr (8, [.int (iI (4)), .int (iI (1)), .int (iI (29531)), .int (iI (0)), .int (iI (173310)), .int (iI (0)), .null, .null, .int (iI (0)), .int (iI (0))]))]) H := hP
  have hD : va_D (va_A ([(h, .inr (8, [.int (iI (0)), .int (iI (0)), .int (iI (0)), .int (iI (0)), .int (iI (0)), .int (iI (0)), .null, .null, .int (iI (0)), .int (iI (0))]))]) sz) ([(h, .inr (8, [.int (iI (4)), .int (iI (1)), .int (iI (29531)), .int (iI (0)), .int (iI (173310)), .int (iI (0)), .null, .null, .int (iI (0)), .int (iI (0))]))]) := hD
  refine lv_aload_n hx hb dX6_init_27 rfl (lv_at hl 0 rfl) ?_
  refine q_iconst hx hb dX6_init_28 ?_
  refine q_newM hx hb hown (hts (.classLink RX6 23 "[I") (List.mem_of_getElem? (i := 9) rfl)) hT.1.1 hK 2 rfl hP hD hS hA (0) (rfl) (by decide) (Nat.le_of_ble_eq_true rfl) (Nat.le_of_ble_eq_true rfl) dX6_init_29 ?_
  intro q29 H hP hD hS
  have hP : va_P D vwCl ([(q29, .inl (cL, 0, .inr (.inr (.inr (.inr (fun _ => none)))))), (h, .inr (8, [.int (iI (4)), .int (iI (1)), .int (iI (29531)), .int (iI (0)), .int (iI (173310)), .int (iI (0)), .null, .null, .int (iI (0)), .int (iI (0))]))]) H := hP
  have hD : va_D (va_A ([(h, .inr (8, [.int (iI (0)), .int (iI (0)), .int (iI (0)), .int (iI (0)), .int (iI (0)), .int (iI (0)), .null, .null, .int (iI (0)), .int (iI (0))]))]) sz) ([(q29, .inl (cL, 0, .inr (.inr (.inr (.inr (fun _ => none)))))), (h, .inr (8, [.int (iI (4)), .int (iI (1)), .int (iI (29531)), .int (iI (0)), .int (iI (173310)), .int (iI (0)), .null, .null, .int (iI (0)), .int (iI (0))]))]) := hD
  refine va_put (D := D) (ci := 8) (v := .ref q29) (ty := tyX6 6) (C := RX6) (T := TX6) (N := 10) hx hb hts (fun w h => List.mem_cons_of_mem _ (List.mem_append_right _ h)) tyX6 tyX6_ok nmX6 hown hK hP hD hS 1 rfl rfl 6 (by decide) (hts (.fieldLink RX6 25 "AlmanacHouseLaw$Sim" "feasts" "[[I") (List.mem_of_getElem? (i := 10) rfl)) (fun _ h9 => h9) rfl (by decide +kernel) rfl rfl (Nat.le_of_ble_eq_true rfl) dX6_init_32 (fun H locs hP hD hS => ?_)
  have hP : va_P D vwCl ([(q29, .inl (cL, 0, .inr (.inr (.inr (.inr (fun _ => none)))))), (h, .inr (8, [.int (iI (4)), .int (iI (1)), .int (iI (29531)), .int (iI (0)), .int (iI (173310)), .int (iI (0)), .ref q29, .null, .int (iI (0)), .int (iI (0))]))]) H := hP
  have hD : va_D (va_A ([(h, .inr (8, [.int (iI (0)), .int (iI (0)), .int (iI (0)), .int (iI (0)), .int (iI (0)), .int (iI (0)), .null, .null, .int (iI (0)), .int (iI (0))]))]) sz) ([(q29, .inl (cL, 0, .inr (.inr (.inr (.inr (fun _ => none)))))), (h, .inr (8, [.int (iI (4)), .int (iI (1)), .int (iI (29531)), .int (iI (0)), .int (iI (173310)), .int (iI (0)), .ref q29, .null, .int (iI (0)), .int (iI (0))]))]) := hD
  refine lv_aload_n hx hb dX6_init_35 rfl (lv_at hl 0 rfl) ?_
  refine q_iconst hx hb dX6_init_36 ?_
  refine q_newM hx hb hown (hts (.classLink RX6 23 "[I") (List.mem_of_getElem? (i := 9) rfl)) hT.1.1 hK 2 rfl hP hD hS hA (0) (rfl) (by decide) (Nat.le_of_ble_eq_true rfl) (Nat.le_of_ble_eq_true rfl) dX6_init_37 ?_
  intro q37 H hP hD hS
  have hP : va_P D vwCl ([(q37, .inl (cL, 0, .inr (.inr (.inr (.inr (fun _ => none)))))), (q29, .inl (cL, 0, .inr (.inr (.inr (.inr (fun _ => none)))))), (h, .inr (8, [.int (iI (4)), .int (iI (1)), .int (iI (29531)), .int (iI (0)), .int (iI (173310)), .int (iI (0)), .ref q29, .null, .int (iI (0)), .int (iI (0))]))]) H := hP
  have hD : va_D (va_A ([(h, .inr (8, [.int (iI (0)), .int (iI (0)), .int (iI (0)), .int (iI (0)), .int (iI (0)), .int (iI (0)), .null, .null, .int (iI (0)), .int (iI (0))]))]) sz) ([(q37, .inl (cL, 0, .inr (.inr (.inr (.inr (fun _ => none)))))), (q29, .inl (cL, 0, .inr (.inr (.inr (.inr (fun _ => none)))))), (h, .inr (8, [.int (iI (4)), .int (iI (1)), .int (iI (29531)), .int (iI (0)), .int (iI (173310)), .int (iI (0)), .ref q29, .null, .int (iI (0)), .int (iI (0))]))]) := hD
  refine va_put (D := D) (ci := 8) (v := .ref q37) (ty := tyX6 7) (C := RX6) (T := TX6) (N := 10) hx hb hts (fun w h => List.mem_cons_of_mem _ (List.mem_append_right _ h)) tyX6 tyX6_ok nmX6 hown hK hP hD hS 2 rfl rfl 7 (by decide) (hts (.fieldLink RX6 29 "AlmanacHouseLaw$Sim" "sheets" "[[I") (List.mem_of_getElem? (i := 11) rfl)) (fun _ h9 => h9) rfl (by decide +kernel) rfl rfl (Nat.le_of_ble_eq_true rfl) dX6_init_40 (fun H locs hP hD hS => ?_)
  have hP : va_P D vwCl ([(q37, .inl (cL, 0, .inr (.inr (.inr (.inr (fun _ => none)))))), (q29, .inl (cL, 0, .inr (.inr (.inr (.inr (fun _ => none)))))), (h, .inr (8, [.int (iI (4)), .int (iI (1)), .int (iI (29531)), .int (iI (0)), .int (iI (173310)), .int (iI (0)), .ref q29, .ref q37, .int (iI (0)), .int (iI (0))]))]) H := hP
  have hD : va_D (va_A ([(h, .inr (8, [.int (iI (0)), .int (iI (0)), .int (iI (0)), .int (iI (0)), .int (iI (0)), .int (iI (0)), .null, .null, .int (iI (0)), .int (iI (0))]))]) sz) ([(q37, .inl (cL, 0, .inr (.inr (.inr (.inr (fun _ => none)))))), (q29, .inl (cL, 0, .inr (.inr (.inr (.inr (fun _ => none)))))), (h, .inr (8, [.int (iI (4)), .int (iI (1)), .int (iI (29531)), .int (iI (0)), .int (iI (173310)), .int (iI (0)), .ref q29, .ref q37, .int (iI (0)), .int (iI (0))]))]) := hD
  exact q_gvret (cells := 2) (slots := 0) (mc := 2) (ms := 0) (w1 := fun (u : Nat × Nat) => [(u.2, .inl (cL, 0, .inr (.inr (.inr (.inr (fun _ => none)))))), (u.1, .inl (cL, 0, .inr (.inr (.inr (.inr (fun _ => none)))))), (h, .inr (8, [.int (iI (4)), .int (iI (1)), .int (iI (29531)), .int (iI (0)), .int (iI (173310)), .int (iI (0)), .ref u.1, .ref u.2, .int (iI (0)), .int (iI (0))]))]) ((q29, q37)) hx hb hr hlocks hS (⟨hP, hD⟩) (Nat.le_of_ble_eq_true rfl) (Nat.le_of_ble_eq_true rfl) dX6_init_43
set_option maxHeartbeats 4000000 in
set_option maxRecDepth 100000 in
theorem g_more (l : Launch) (D : va_G) (sz : Nat) (ed : Nat × Nat × Nat) (cI cO cL : ClassId) (ao v n bs : Nat) (z : Nat → Nat) (xv : vp_A) (tl : va_W) (hn : n ≤ 9) (hR : ∀ j, j < n → ∃ x : vp_A, (z (bs + j), (.inl (cI, x) : va_E)) ∈ tl) : MGk l yX6_more wsX6_more 0 0 1 10 D (ty3 cI cO cL) sz ([(ao, .inl (cL, n, .inr (.inr (.inr (.inr (fun j => if j < n then some (z (bs + j)) else none)))))), (v, .inl (cI, xv))] ++ tl) [.ref ao, .ref v] ed (fun (u : Nat) => u) (fun (_ : Nat) => True) (fun (u : Nat) => [(u, .inl (cL, n + 1, .inr (.inr (.inr (.inr (fun j => if j < n then some (z (bs + j)) else if j = n then some v else none)))))), (ao, .inl (cL, n, .inr (.inr (.inr (.inr (fun j => if j < n then some (z (bs + j)) else none)))))), (v, .inl (cI, xv))] ++ tl) := by
  refine MGk_of (cc := cX6_more) (maxL := 4) (ret := (some (.array (.array .int)))) (by decide) rfl (Nat.le_of_ble_eq_true rfl) ?_
  intro p e s m args below meth c ls hx hb hr hlocks hml hown hts hsz hP hK hD hS hA hin hE hT hl
  have hl : lv_has ls 4 [(0, .ref ao), (1, .ref v)] := hl
  have hP : va_P D vwCl ([(ao, .inl (cL, n, .inr (.inr (.inr (.inr (fun j => if j < n then some (z (bs + j)) else none)))))), (v, .inl (cI, xv))] ++ tl) s.heap := hP
  have hD : va_D (va_A ([(ao, .inl (cL, n, .inr (.inr (.inr (.inr (fun j => if j < n then some (z (bs + j)) else none)))))), (v, .inl (cI, xv))] ++ tl) sz) ([(ao, .inl (cL, n, .inr (.inr (.inr (.inr (fun j => if j < n then some (z (bs + j)) else none)))))), (v, .inl (cI, xv))] ++ tl) := hD
  refine lv_aload_n hx hb dX6_more_0 rfl (lv_at hl 0 rfl) ?_
  refine q_alen (z := n) hx hb hK (hP 0 _ rfl) 2 rfl (by rfl) dX6_more_1 ?_
  refine q_iconst hx hb dX6_more_2 ?_
  refine q_iadd hx hb dX6_more_3 ?_
  refine q_newM hx hb hown (hts (.classLink RX6 23 "[I") (List.mem_of_getElem? (i := 1) rfl)) hT.1.1 hK 2 rfl hP hD hS hA (n + 1) (by omega) (by omega) (Nat.le_of_ble_eq_true rfl) (by show 0 + (n + 1) ≤ 10; omega) dX6_more_4 ?_
  intro q4 H hP hD hS
  refine W.widen (k := 1) (n := 10) (by omega) (by omega) ?_
  have hP : va_P D vwCl ([(q4, .inl (cL, n + 1, .inr (.inr (.inr (.inr (fun _ => none)))))), (ao, .inl (cL, n, .inr (.inr (.inr (.inr (fun j => if j < n then some (z (bs + j)) else none)))))), (v, .inl (cI, xv))] ++ tl) H := hP
  have hD : va_D (va_A ([(ao, .inl (cL, n, .inr (.inr (.inr (.inr (fun j => if j < n then some (z (bs + j)) else none)))))), (v, .inl (cI, xv))] ++ tl) sz) ([(q4, .inl (cL, n + 1, .inr (.inr (.inr (.inr (fun _ => none)))))), (ao, .inl (cL, n, .inr (.inr (.inr (.inr (fun j => if j < n then some (z (bs + j)) else none)))))), (v, .inl (cI, xv))] ++ tl) := hD
  refine lv_astore_n (lv' := [(2, .ref q4), (0, .ref ao), (1, .ref v)]) hx hb dX6_more_7 rfl hl (by decide) rfl (fun ls hl => ?_)
  refine q_iconst hx hb dX6_more_8 ?_
  refine lv_istore_n (lv' := [(3, .int (iI (0))), (2, .ref q4), (0, .ref ao), (1, .ref v)]) hx hb dX6_more_9 rfl hl (by decide) rfl (fun ls hl => ?_)
  have key_10 : ∀ (fu : Nat) (k : Int), 0 ≤ k ∧ k ≤ n → (((n - k).toNat : Int)) < (fu : Int) → ∀ (H : Heap) (locs : List Loc), va_P D vwCl ([(q4, .inl (cL, n + 1, .inr (.inr (.inr (.inr (fun j => if j < k.toNat then some (z (bs + j)) else none)))))), (ao, .inl (cL, n, .inr (.inr (.inr (.inr (fun j => if j < n then some (z (bs + j)) else none)))))), (v, .inl (cI, xv))] ++ tl) H → va_D (va_A ([(ao, .inl (cL, n, .inr (.inr (.inr (.inr (fun j => if j < n then some (z (bs + j)) else none)))))), (v, .inl (cI, xv))] ++ tl) sz) ([(q4, .inl (cL, n + 1, .inr (.inr (.inr (.inr (fun j => if j < k.toNat then some (z (bs + j)) else none)))))), (ao, .inl (cL, n, .inr (.inr (.inr (.inr (fun j => if j < n then some (z (bs + j)) else none)))))), (v, .inl (cI, xv))] ++ tl) → va_S (va_A ([(ao, .inl (cL, n, .inr (.inr (.inr (.inr (fun j => if j < n then some (z (bs + j)) else none)))))), (v, .inl (cI, xv))] ++ tl) sz) s.heap H locs → ∀ ls : Array Slot, lv_has ls 4 [(0, .ref ao), (1, .ref v), (2, .ref q4), (3, .int (iI (k)))] → W p l e { frames := 0, cells := 1, slots := 10, locals := 0 } s m args below meth c H locs 1 10 (MQ below (va_Qr (fun (u : Nat) => (fun (_ : Nat) => True) u) (fun u a t => a = (fun (u : Nat) => u) u ∧ va_P D vwCl ((fun (u : Nat) => [(u, .inl (cL, n + 1, .inr (.inr (.inr (.inr (fun j => if j < n then some (z (bs + j)) else if j = n then some v else none)))))), (ao, .inl (cL, n, .inr (.inr (.inr (.inr (fun j => if j < n then some (z (bs + j)) else none)))))), (v, .inl (cI, xv))] ++ tl) u) t.heap ∧ va_D (va_A ([(ao, .inl (cL, n, .inr (.inr (.inr (.inr (fun j => if j < n then some (z (bs + j)) else none)))))), (v, .inl (cI, xv))] ++ tl) sz) ((fun (u : Nat) => [(u, .inl (cL, n + 1, .inr (.inr (.inr (.inr (fun j => if j < n then some (z (bs + j)) else if j = n then some v else none)))))), (ao, .inl (cL, n, .inr (.inr (.inr (.inr (fun j => if j < n then some (z (bs + j)) else none)))))), (v, .inl (cI, xv))] ++ tl) u)) (va_A ([(ao, .inl (cL, n, .inr (.inr (.inr (.inr (fun j => if j < n then some (z (bs + j)) else none)))))), (v, .inl (cI, xv))] ++ tl) sz)) args s 1 10 (va_A ([(ao, .inl (cL, n, .inr (.inr (.inr (.inr (fun j => if j < n then some (z (bs + j)) else none)))))), (v, .inl (cI, xv))] ++ tl) sz)) (F0 m 10 ls []) := by
    intro fu
    induction fu with
    | zero => intro k hk hm_10 H locs hP hD hS ls hl; exact absurd hm_10 (by omega)
    | succ fu ih_10 =>
      intro k hk hm_10 H locs hP hD hS ls hl
      refine lv_iload_n hx hb dX6_more_10 rfl (lv_at hl 3 rfl) ?_
      refine lv_aload_n hx hb dX6_more_11 rfl (lv_at hl 0 rfl) ?_
      refine q_alen (z := n) hx hb hK (hP 1 _ rfl) 2 rfl (by rfl) dX6_more_12 ?_
      refine q_icmp_ge (tgt := 28) hx hb dX6_more_13 (by decide) (by omega) (by omega) (fun c_1 => ?_) (fun c_1 => ?_)
      · skip
        refine lv_aload_n hx hb dX6_more_28 rfl (lv_at hl 2 rfl) ?_
        refine lv_aload_n hx hb dX6_more_29 rfl (lv_at hl 0 rfl) ?_
        refine q_alen (z := n) hx hb hK (hP 1 _ rfl) 2 rfl (by rfl) dX6_more_30 ?_
        refine lv_aload_n hx hb dX6_more_31 rfl (lv_at hl 1 rfl) ?_
        refine q_aastM (f := fun j => if j < k.toNat then some (z (bs + j)) else none) (x := xv) hx hb hT.1.1 hK hP hD hS 0 2 0 rfl rfl rfl (List.mem_of_getElem? (i := 2) rfl) (n) (rfl) (by omega) (by omega) dX6_more_32 (fun H locs hP hD hS => ?_)
        have hP : va_P D vwCl ([(q4, .inl (cL, n + 1, .inr (.inr (.inr (.inr (va_up (fun j => if j < k.toNat then some (z (bs + j)) else none) (n) (some (v)))))))), (ao, .inl (cL, n, .inr (.inr (.inr (.inr (fun j => if j < n then some (z (bs + j)) else none)))))), (v, .inl (cI, xv))] ++ tl) H := hP
        have hD : va_D (va_A ([(ao, .inl (cL, n, .inr (.inr (.inr (.inr (fun j => if j < n then some (z (bs + j)) else none)))))), (v, .inl (cI, xv))] ++ tl) sz) ([(q4, .inl (cL, n + 1, .inr (.inr (.inr (.inr (va_up (fun j => if j < k.toNat then some (z (bs + j)) else none) (n) (some (v)))))))), (ao, .inl (cL, n, .inr (.inr (.inr (.inr (fun j => if j < n then some (z (bs + j)) else none)))))), (v, .inl (cI, xv))] ++ tl) := hD
        refine lv_aload_n hx hb dX6_more_33 rfl (lv_at hl 2 rfl) ?_
        exact q_gkret (K := fun (_ : Nat) => True) (cells := 1) (slots := 10) (mc := 1) (ms := 10) (w1 := fun (u : Nat) => [(u, .inl (cL, n + 1, .inr (.inr (.inr (.inr (fun j => if j < n then some (z (bs + j)) else if j = n then some v else none)))))), (ao, .inl (cL, n, .inr (.inr (.inr (.inr (fun j => if j < n then some (z (bs + j)) else none)))))), (v, .inl (cI, xv))] ++ tl) (rr := fun (u : Nat) => u) (q4) hx hb hr (Or.inr ⟨_, rfl⟩) hlocks hS (rfl) (trivial) (by rw [s_up_end z bs v (show k.toNat = n by omega)] at hP hD; exact ⟨hP, hD⟩) (by omega) (by omega) dX6_more_34
      · skip
        refine lv_aload_n hx hb dX6_more_16 rfl (lv_at hl 2 rfl) ?_
        refine lv_iload_n hx hb dX6_more_17 rfl (lv_at hl 3 rfl) ?_
        refine lv_aload_n hx hb dX6_more_18 rfl (lv_at hl 0 rfl) ?_
        refine lv_iload_n hx hb dX6_more_19 rfl (lv_at hl 3 rfl) ?_
        refine q_aldA (cA := cL) (n := n) (f := (fun j => if j < n then some (z (bs + j)) else none)) (v := z (bs + (k).toNat)) hx hb hK (hP 1 _ rfl) 2 rfl (by omega) (by omega) (if_pos (by omega)) dX6_more_20 ?_
        obtain ⟨xk, hxk⟩ := hR k.toNat (by omega)
        refine q_aastM (f := fun j => if j < k.toNat then some (z (bs + j)) else none) (x := xk) hx hb hT.1.1 hK hP hD hS 0 2 0 rfl rfl rfl (List.mem_append_right _ hxk) (k.toNat) (by omega) (by omega) (by omega) dX6_more_21 (fun H locs hP hD hS => ?_)
        have hP : va_P D vwCl ([(q4, .inl (cL, n + 1, .inr (.inr (.inr (.inr (va_up (fun j => if j < k.toNat then some (z (bs + j)) else none) (k.toNat) (some (z (bs + (k).toNat))))))))), (ao, .inl (cL, n, .inr (.inr (.inr (.inr (fun j => if j < n then some (z (bs + j)) else none)))))), (v, .inl (cI, xv))] ++ tl) H := hP
        have hD : va_D (va_A ([(ao, .inl (cL, n, .inr (.inr (.inr (.inr (fun j => if j < n then some (z (bs + j)) else none)))))), (v, .inl (cI, xv))] ++ tl) sz) ([(q4, .inl (cL, n + 1, .inr (.inr (.inr (.inr (va_up (fun j => if j < k.toNat then some (z (bs + j)) else none) (k.toNat) (some (z (bs + (k).toNat))))))))), (ao, .inl (cL, n, .inr (.inr (.inr (.inr (fun j => if j < n then some (z (bs + j)) else none)))))), (v, .inl (cI, xv))] ++ tl) := hD
        refine q_iinc (k := 3) (lv' := [(3, .int (iI (k + 1))), (0, .ref ao), (1, .ref v), (2, .ref q4)]) hx hb dX6_more_22 hl rfl (by decide) rfl (fun ls hl => ?_)
        refine lv_goto (tgt := 10) hx hb dX6_more_25 (by decide) ?_
        have hm1 := s_up_step z bs hk.1
        rw [hm1] at hP hD
        exact ih_10 (k + 1) (by omega) (by omega) _ _ (hP) (hD) hS _ (lv_sub hl [1, 2, 3, 0] rfl)
  have hm0 := s_up_0 z bs
  rw [hm0] at hP hD
  exact key_10 (n + 1) 0 (by omega) (by omega) _ _ (hP) (hD) hS _ (lv_sub hl [2, 3, 1, 0] rfl)
set_option maxHeartbeats 4000000 in
set_option maxRecDepth 100000 in
theorem g_sheet (l : Launch) (D : va_G) (sz : Nat) (ed : Nat × Nat × Nat) (cI cO cL : ClassId) (z : Nat → Nat) (σ T P : Nat → Int) (hW : WF σ T) (hSS : WS σ P) (y : Int) (hy : 0 ≤ y ∧ y ≤ 999) : MGr l yX6_sheet wsX6_sheet 5 114 1 10 D (ty3 cI cO cL) sz (WZ cI cL z σ T P) [.ref (z 0), .int (iI (y))] ed (fun (u : Nat) => u) (fun (u : Nat) => (u, .inl (cI, 2 + (σ 6).toNat, .inl (fun i => iI (s_row σ T y (σ 6).toNat i)))) :: WZ cI cL z σ T P) := by
  refine MGr_of (cc := cX6_sheet) (maxL := 4) (ret := (some (.array .int))) (by decide) rfl (Nat.le_of_ble_eq_true rfl) ?_
  intro p e s m args below meth c ls hx hb hr hlocks hml hown hts hsz hP hK hD hS hA hin hE hT hl
  have hl : lv_has ls 4 [(0, .ref (z 0)), (1, .int (iI (y)))] := hl
  have hin_X6 : ∀ w ∈ u_ws RX6 TX6 10, w ∈ wsX6_sheet := (fun w h => List.mem_cons_of_mem _ (List.mem_append_right _ h))
  have hP : va_P D vwCl ([] ++ WZ cI cL z σ T P) s.heap := hP
  have hD : va_D (va_A (WZ cI cL z σ T P) sz) ([] ++ WZ cI cL z σ T P) := hD
  have hPic : PicS D cI cL z σ T P s.heap := vaP_mems hP (fun q hq => by first | exact hq | exact List.mem_cons_of_mem _ hq)
  obtain ⟨w0, w1, w2, w3, w4, w5, w6, w7, w8⟩ := id hW
  refine q_iconst hx hb dX6_sheet_0 ?_
  refine lv_aload_n hx hb dX6_sheet_1 rfl (lv_at hl 0 rfl) ?_
  refine q_get (ci := 8) (C := RX6) (T := TX6) (N := 10) hx hb hts hin_X6 hown hK (v := .ref (z 1)) hPic.at0 rfl 6 (by decide) (hts (.fieldLink RX6 25 "AlmanacHouseLaw$Sim" "feasts" "[[I") (List.mem_of_getElem? (i := 1) rfl)) (fun _ h9 => h9) rfl dX6_sheet_2 ?_
  refine q_alen (z := σ 6) hx hb hK hPic.fs 2 rfl (by omega) dX6_sheet_5 ?_
  refine q_iadd hx hb dX6_sheet_6 ?_
  refine q_newi hx hb (hts (.arrayClass .int) (List.mem_of_getElem? (i := 2) rfl)) hK 0 rfl hP hD hS hA (2 + (σ 6).toNat) (by omega) (by omega) (Nat.le_of_ble_eq_true rfl) (by show 0 + (2 + (σ 6).toNat) ≤ 10; omega) dX6_sheet_7 ?_
  intro q7 H hP hD hS
  refine W.widen (k := 1) (n := 10) (by omega) (by omega) ?_
  have hP : va_P D vwCl ([(q7, .inl (cI, 2 + (σ 6).toNat, .inl (fun q9 => iI ((fun _ => 0) q9))))] ++ WZ cI cL z σ T P) H := hP
  have hD : va_D (va_A (WZ cI cL z σ T P) sz) ([(q7, .inl (cI, 2 + (σ 6).toNat, .inl (fun q9 => iI ((fun _ => 0) q9))))] ++ WZ cI cL z σ T P) := hD
  have hPic : PicS D cI cL z σ T P H := vaP_mems hP (fun q hq => by first | exact hq | exact List.mem_cons_of_mem _ hq)
  refine lv_astore_n (lv' := [(2, .ref q7), (0, .ref (z 0)), (1, .int (iI (y)))]) hx hb dX6_sheet_9 rfl hl (by decide) rfl (fun ls hl => ?_)
  refine lv_aload_n hx hb dX6_sheet_10 rfl (lv_at hl 0 rfl) ?_
  refine q_iconst hx hb dX6_sheet_11 ?_
  refine lv_iload_n hx hb dX6_sheet_12 rfl (lv_at hl 2 rfl) ?_
  refine q_iast (f := (fun _ => 0)) (x := y) hx hb hK hP hD hS 0 0 rfl rfl (0) (rfl) (by omega) (by omega) dX6_sheet_13 (fun H locs hP hD hS => ?_)
  have hP : va_P D vwCl ([(q7, .inl (cI, 2 + (σ 6).toNat, .inl (fun q9 => iI (((st (fun _ => 0) (0) (y))) q9))))] ++ WZ cI cL z σ T P) H := hP
  have hD : va_D (va_A (WZ cI cL z σ T P) sz) ([(q7, .inl (cI, 2 + (σ 6).toNat, .inl (fun q9 => iI (((st (fun _ => 0) (0) (y))) q9))))] ++ WZ cI cL z σ T P) := hD
  have hPic : PicS D cI cL z σ T P H := vaP_mems hP (fun q hq => by first | exact hq | exact List.mem_cons_of_mem _ hq)
  refine lv_aload_n hx hb dX6_sheet_14 rfl (lv_at hl 0 rfl) ?_
  refine q_iconst hx hb dX6_sheet_15 ?_
  refine lv_aload_n hx hb dX6_sheet_16 rfl (lv_at hl 1 rfl) ?_
  refine lv_iload_n hx hb dX6_sheet_17 rfl (lv_at hl 2 rfl) ?_
  refine q_iconst hx hb dX6_sheet_18 ?_
  refine q_callV (fr := 3) (lo := 66) (nL := 4) (Pic := PicS D cI cL z σ T P) (As := [.int (iI (y)), .int (iI (1))]) (rest := [.int (iI (1)), .ref q7]) ⟨hx, hb, hml, hown, hts⟩ (z_eclipses l D cI cO cL z σ T P hW hSS (y) (1) (by omega) (by omega)) (cwV 2 hts gX6_sheet_X6_eclipses rfl rfl rfl (by decide +kernel) ⟨Nat.le_of_ble_eq_true rfl, Nat.le_of_ble_eq_true rfl⟩) (ob_recv hPic.at0 hK rfl) hPic hK rfl hl.1 rfl (Nat.le_of_ble_eq_true rfl) dX6_sheet_19 (Nat.le_of_ble_eq_true rfl) (Nat.le_of_ble_eq_true rfl) ?_
  have hE19 := m_Eb_in hW (y := (y)) (b := 1 - (1)) (by omega)
  refine lv_aload_n hx hb dX6_sheet_22 rfl (lv_at hl 1 rfl) ?_
  refine lv_iload_n hx hb dX6_sheet_23 rfl (lv_at hl 2 rfl) ?_
  refine q_iconst hx hb dX6_sheet_24 ?_
  refine q_callV (fr := 3) (lo := 66) (nL := 4) (Pic := PicS D cI cL z σ T P) (As := [.int (iI (y)), .int (iI (0))]) (rest := [.int (iI (m_Eb σ (y) (1 - (1)))), .int (iI (1)), .ref q7]) ⟨hx, hb, hml, hown, hts⟩ (z_eclipses l D cI cO cL z σ T P hW hSS (y) (0) (by omega) (by omega)) (cwV 2 hts gX6_sheet_X6_eclipses rfl rfl rfl (by decide +kernel) ⟨Nat.le_of_ble_eq_true rfl, Nat.le_of_ble_eq_true rfl⟩) (ob_recv hPic.at0 hK rfl) hPic hK rfl hl.1 rfl (Nat.le_of_ble_eq_true rfl) dX6_sheet_25 (Nat.le_of_ble_eq_true rfl) (Nat.le_of_ble_eq_true rfl) ?_
  have hE25 := m_Eb_in hW (y := (y)) (b := 1 - (0)) (by omega)
  refine q_iadd hx hb dX6_sheet_28 ?_
  refine q_iast (f := ((st (fun _ => 0) (0) (y)))) (x := (m_Eb σ (y) (1 - (1))) + (m_Eb σ (y) (1 - (0)))) hx hb hK hP hD hS 0 0 rfl rfl (1) (rfl) (by omega) (by omega) dX6_sheet_29 (fun H locs hP hD hS => ?_)
  have hP : va_P D vwCl ([(q7, .inl (cI, 2 + (σ 6).toNat, .inl (fun q9 => iI (((st ((st (fun _ => 0) (0) (y))) (1) ((m_Eb σ (y) (1 - (1))) + (m_Eb σ (y) (1 - (0)))))) q9))))] ++ WZ cI cL z σ T P) H := hP
  have hD : va_D (va_A (WZ cI cL z σ T P) sz) ([(q7, .inl (cI, 2 + (σ 6).toNat, .inl (fun q9 => iI (((st ((st (fun _ => 0) (0) (y))) (1) ((m_Eb σ (y) (1 - (1))) + (m_Eb σ (y) (1 - (0)))))) q9))))] ++ WZ cI cL z σ T P) := hD
  have hPic : PicS D cI cL z σ T P H := vaP_mems hP (fun q hq => by first | exact hq | exact List.mem_cons_of_mem _ hq)
  refine q_iconst hx hb dX6_sheet_30 ?_
  refine lv_istore_n (lv' := [(3, .int (iI (0))), (2, .ref q7), (0, .ref (z 0)), (1, .int (iI (y)))]) hx hb dX6_sheet_31 rfl hl (by decide) rfl (fun ls hl => ?_)
  have key_32 : ∀ (fu : Nat) (k : Int), 0 ≤ k ∧ k ≤ σ 6 → (((σ 6 - k).toNat : Int)) < (fu : Int) → ∀ (H : Heap) (locs : List Loc), va_P D vwCl ([(q7, .inl (cI, 2 + (σ 6).toNat, .inl (fun q9 => iI ((s_row σ T y k.toNat) q9))))] ++ WZ cI cL z σ T P) H → va_D (va_A (WZ cI cL z σ T P) sz) ([(q7, .inl (cI, 2 + (σ 6).toNat, .inl (fun q9 => iI ((s_row σ T y k.toNat) q9))))] ++ WZ cI cL z σ T P) → va_S (va_A (WZ cI cL z σ T P) sz) s.heap H locs → ∀ ls : Array Slot, lv_has ls 4 [(0, .ref (z 0)), (1, .int (iI (y))), (2, .ref q7), (3, .int (iI (k)))] → W p l e { frames := 5, cells := 1, slots := 10, locals := 114 } s m args below meth c H locs 1 10 (MQ below (va_Qr (fun (_ : Nat) => True) (fun u a t => a = (fun (u : Nat) => u) u ∧ va_P D vwCl ((fun (u : Nat) => (u, .inl (cI, 2 + (σ 6).toNat, .inl (fun i => iI (s_row σ T y (σ 6).toNat i)))) :: WZ cI cL z σ T P) u) t.heap ∧ va_D (va_A (WZ cI cL z σ T P) sz) ((fun (u : Nat) => (u, .inl (cI, 2 + (σ 6).toNat, .inl (fun i => iI (s_row σ T y (σ 6).toNat i)))) :: WZ cI cL z σ T P) u)) (va_A (WZ cI cL z σ T P) sz)) args s 1 10 (va_A (WZ cI cL z σ T P) sz)) (F0 m 32 ls []) := by
    intro fu
    induction fu with
    | zero => intro k hk hm_32 H locs hP hD hS ls hl; exact absurd hm_32 (by omega)
    | succ fu ih_32 =>
      intro k hk hm_32 H locs hP hD hS ls hl
      have hPic : PicS D cI cL z σ T P H := vaP_mems hP (fun q hq => List.mem_cons_of_mem _ hq)
      refine lv_iload_n hx hb dX6_sheet_32 rfl (lv_at hl 3 rfl) ?_
      refine lv_aload_n hx hb dX6_sheet_33 rfl (lv_at hl 0 rfl) ?_
      refine q_get (ci := 8) (C := RX6) (T := TX6) (N := 10) hx hb hts hin_X6 hown hK (v := .ref (z 1)) hPic.at0 rfl 6 (by decide) (hts (.fieldLink RX6 25 "AlmanacHouseLaw$Sim" "feasts" "[[I") (List.mem_of_getElem? (i := 1) rfl)) (fun _ h9 => h9) rfl dX6_sheet_34 ?_
      refine q_alen (z := σ 6) hx hb hK hPic.fs 2 rfl (by omega) dX6_sheet_37 ?_
      refine q_icmp_ge (tgt := 58) hx hb dX6_sheet_38 (by decide) (by omega) (by omega) (fun c_1 => ?_) (fun c_1 => ?_)
      · skip
        refine lv_aload_n hx hb dX6_sheet_58 rfl (lv_at hl 2 rfl) ?_
        exact q_grret (cells := 1) (slots := 10) (mc := 1) (ms := 10) (w1 := fun (u : Nat) => (u, .inl (cI, 2 + (σ 6).toNat, .inl (fun i => iI (s_row σ T y (σ 6).toNat i)))) :: WZ cI cL z σ T P) (rr := fun (u : Nat) => u) (q7) hx hb hr (Or.inr ⟨_, rfl⟩) hlocks hS (rfl) (by rw [show k = σ 6 by omega] at hP hD; exact ⟨hP, hD⟩) (Nat.le_of_ble_eq_true rfl) (Nat.le_of_ble_eq_true rfl) dX6_sheet_59
      · skip
        refine lv_aload_n hx hb dX6_sheet_41 rfl (lv_at hl 2 rfl) ?_
        refine q_iconst hx hb dX6_sheet_42 ?_
        refine lv_iload_n hx hb dX6_sheet_43 rfl (lv_at hl 3 rfl) ?_
        refine q_iadd hx hb dX6_sheet_44 ?_
        refine lv_aload_n hx hb dX6_sheet_45 rfl (lv_at hl 0 rfl) ?_
        refine lv_iload_n hx hb dX6_sheet_46 rfl (lv_at hl 3 rfl) ?_
        refine lv_iload_n hx hb dX6_sheet_47 rfl (lv_at hl 1 rfl) ?_
        refine q_callV (fr := 4) (lo := 89) (nL := 4) (Pic := PicS D cI cL z σ T P) (As := [.int (iI (k)), .int (iI (y))]) (rest := [.int (iI (2 + k)), .ref q7]) ⟨hx, hb, hml, hown, hts⟩ (z_feast l D cI cO cL z σ T P hW hSS (k) (y) (by omega) (by omega)) (cwV 2 hts gX6_sheet_X6_feast rfl rfl rfl (by decide +kernel) ⟨Nat.le_of_ble_eq_true rfl, Nat.le_of_ble_eq_true rfl⟩) (ob_recv hPic.at0 hK rfl) hPic hK rfl hl.1 rfl (Nat.le_of_ble_eq_true rfl) dX6_sheet_48 (Nat.le_of_ble_eq_true rfl) (Nat.le_of_ble_eq_true rfl) ?_
        have hF48 := m_F_in hW (i := Int.toNat (k)) (by omega) (y := (y)) (by omega)
        refine q_iast (f := (s_row σ T y k.toNat)) (x := m_F σ T (Int.toNat (k)) (y)) hx hb hK hP hD hS 0 0 rfl rfl (2 + k.toNat) (by omega) (by omega) (by omega) dX6_sheet_51 (fun H locs hP hD hS => ?_)
        have hP : va_P D vwCl ([(q7, .inl (cI, 2 + (σ 6).toNat, .inl (fun q9 => iI (((st (s_row σ T y k.toNat) (2 + k.toNat) (m_F σ T (Int.toNat (k)) (y)))) q9))))] ++ WZ cI cL z σ T P) H := hP
        have hD : va_D (va_A (WZ cI cL z σ T P) sz) ([(q7, .inl (cI, 2 + (σ 6).toNat, .inl (fun q9 => iI (((st (s_row σ T y k.toNat) (2 + k.toNat) (m_F σ T (Int.toNat (k)) (y)))) q9))))] ++ WZ cI cL z σ T P) := hD
        have hPic : PicS D cI cL z σ T P H := vaP_mems hP (fun q hq => by first | exact hq | exact List.mem_cons_of_mem _ hq)
        refine q_iinc (k := 3) (lv' := [(3, .int (iI (k + 1))), (0, .ref (z 0)), (1, .int (iI (y))), (2, .ref q7)]) hx hb dX6_sheet_52 hl rfl (by decide) rfl (fun ls hl => ?_)
        refine lv_goto (tgt := 32) hx hb dX6_sheet_55 (by decide) ?_
        have hm1 := s_row_st σ T y hk.1
        rw [hm1] at hP hD
        exact ih_32 (k + 1) (by omega) (by omega) _ _ (hP) (hD) hS _ (lv_sub hl [1, 2, 3, 0] rfl)
  have hm0 := s_row_0 σ T y
  rw [hm0] at hP hD
  exact key_32 ((σ 6).toNat + 1) 0 (by omega) (by omega) _ _ (hP) (hD) hS _ (lv_sub hl [2, 3, 1, 0] rfl)
set_option maxHeartbeats 4000000 in
set_option maxRecDepth 100000 in
theorem g_zobserve (l : Launch) (D : va_G) (sz : Nat) (ed : Nat × Nat × Nat) (cI cO cL : ClassId) (z : Nat → Nat) (σ T P : Nat → Int) (hW : WF σ T) (hSS : WS σ P) (d b : Int) (hd : 0 ≤ d ∧ d ≤ 99999) (hb01 : b = 0 ∨ b = 1) : MGi l yX6_observe wsX6_observe 2 44 0 0 D (ty3 cI cO cL) sz (WZ cI cL z σ T P) [.ref (z 0), .int (iI (d)), .int (iI (b))] ed (m_late σ d b) (fun (_ : Unit) => WZ cI cL z (m_obs σ d b) T P) := by
  refine MGi_of (cc := cX6_observe) (maxL := 8) (ret := (some .int)) (by decide) rfl (Nat.le_of_ble_eq_true rfl) ?_
  intro p e s m args below meth c ls hx hb hr hlocks hml hown hts hsz hP hK hD hS hA hin hE hT hl
  have hl : lv_has ls 8 [(0, .ref (z 0)), (1, .int (iI (d))), (2, .int (iI (b)))] := hl
  have hin_X6 : ∀ w ∈ u_ws RX6 TX6 10, w ∈ wsX6_observe := (fun w h => List.mem_cons_of_mem _ (List.mem_append_right _ h))
  have hP : va_P D vwCl ([(z 0, .inr (8, [.int (iI (σ 0)), .int (iI (σ 1)), .int (iI (σ 2)), .int (iI (σ 3)), .int (iI (σ 4)), .int (iI (σ 5)), .ref (z 1), .ref (z 2), .int (iI (σ 9)), .int (iI (σ 10))])), (z 1, .inl (cL, (σ 6).toNat, .inr (.inr (.inr (.inr (fun j => if j < (σ 6).toNat then some (z (10 + j)) else none)))))), (z 2, .inl (cL, (σ 7).toNat, .inr (.inr (.inr (.inr (fun j => if j < (σ 7).toNat then some (z (20 + j)) else none))))))] ++ (wZf cI z T (σ 6).toNat ++ wZs cI z P (σ 7).toNat)) s.heap := hP
  have hD : va_D (va_A (WZ cI cL z σ T P) sz) ([(z 0, .inr (8, [.int (iI (σ 0)), .int (iI (σ 1)), .int (iI (σ 2)), .int (iI (σ 3)), .int (iI (σ 4)), .int (iI (σ 5)), .ref (z 1), .ref (z 2), .int (iI (σ 9)), .int (iI (σ 10))])), (z 1, .inl (cL, (σ 6).toNat, .inr (.inr (.inr (.inr (fun j => if j < (σ 6).toNat then some (z (10 + j)) else none)))))), (z 2, .inl (cL, (σ 7).toNat, .inr (.inr (.inr (.inr (fun j => if j < (σ 7).toNat then some (z (20 + j)) else none))))))] ++ (wZf cI z T (σ 6).toNat ++ wZs cI z P (σ 7).toNat)) := hD
  obtain ⟨w0, w1, w2, w3, w4, w5, w6, w7, w8⟩ := id hW
  have hPic : PicS D cI cL z σ T P s.heap := hP
  have hsq := s_q (ln := σ 2) (d := d) w2 (by omega)
  have hcm : d * 1000 = 1000 * d := Int.mul_comm _ _
  have hk2 := s_k0_le (ln := σ 2) (fi := σ 3) (b := b) (d := d) w2 w3 (by omega)
  have hk8 := s_k0_up8 (ln := σ 2) (fi := σ 3) (b := b) (d := d) w2 w3 (by omega)
  have hff := m_ff_in (ln := σ 2) (fi := σ 3) (b := b) (t := 1000 * d) w2
  refine q_iconst hx hb dX6_observe_0 ?_
  refine lv_istore_n (lv' := [(3, .int (iI (0))), (0, .ref (z 0)), (1, .int (iI (d))), (2, .int (iI (b)))]) hx hb dX6_observe_1 rfl hl (by decide) rfl (fun ls hl => ?_)
  refine q_iconst hx hb dX6_observe_2 ?_
  refine lv_iload_n hx hb dX6_observe_3 rfl (lv_at hl 2 rfl) ?_
  refine q_sipush hx hb dX6_observe_4 (by decide) ?_
  refine q_imul hx hb dX6_observe_7 ?_
  refine lv_aload_n hx hb dX6_observe_8 rfl (lv_at hl 1 rfl) ?_
  refine q_get (ci := 8) (C := RX6) (T := TX6) (N := 10) hx hb hts hin_X6 hown hK (v := .int (iI (σ 2))) (hP 0 _ rfl) rfl 2 (by decide) (hts (.fieldLink RX6 16 "AlmanacHouseLaw$Sim" "length" "I") (List.mem_of_getElem? (i := 1) rfl)) (fun _ h9 => h9) rfl dX6_observe_9 ?_
  refine q_idiv hx hb dX6_observe_12 (by omega) (by omega) ?_
  refine q_is (z := 1000 * d / σ 2) (by rw [Int.mul_comm d 1000]) ?_
  refine q_iconst hx hb dX6_observe_13 ?_
  refine q_isub hx hb dX6_observe_14 ?_
  refine q_mmax hx hb (hml.trans hl.1.symm) hown (hts (.methodLink RX6 63 Lib.Math.max.name) (List.mem_of_getElem? (i := 2) rfl)) (hts (.static Lib.Math.max.name) (List.mem_of_getElem? (i := 3) rfl)) (hts (.initialized "java/lang/Math") (List.mem_of_getElem? (i := 4) rfl)) (hts (.code Lib.Math.max.name Lib.Math.max.code 2 (some .int)) (List.mem_of_getElem? (i := 5) rfl)) (by omega) (by omega) (Nat.le_of_ble_eq_true rfl) (Nat.le_of_ble_eq_true rfl) (Nat.zero_le _) (Nat.zero_le _) dX6_observe_15 ?_
  refine q_top (fun k0 ek0 => ?_)
  have hk0 : k0 = s_k0 (σ 2) d := ek0
  have hk1 := s_k0_in (ln := σ 2) (d := d) w2 (by omega)
  refine lv_istore (lv' := [(4, .int (iI (k0))), (3, .int (iI (0))), (0, .ref (z 0)), (1, .int (iI (d))), (2, .int (iI (b)))]) hx hb dX6_observe_18 hl (by decide) rfl (fun ls hl => ?_)
  refine lv_iload hx hb dX6_observe_20 (lv_at hl 0 rfl) ?_
  refine q_bipush hx hb dX6_observe_22 (by decide) ?_
  refine q_iadd hx hb dX6_observe_24 ?_
  refine lv_istore (lv' := [(5, .int (iI (k0 + 8))), (4, .int (iI (k0))), (3, .int (iI (0))), (0, .ref (z 0)), (1, .int (iI (d))), (2, .int (iI (b)))]) hx hb dX6_observe_25 hl (by decide) rfl (fun ls hl => ?_)
  have key_27 : ∀ (fu : Nat) (be : Int) (i : Int), k0 - 2 ≤ i ∧ i ≤ k0 + 8 ∧ -1 ≤ i → (i = k0 + 8 ∧ be = 0) ∨ (i < k0 + 8 ∧ be = s_best (σ 2) (σ 3) b d (i + 1)) → (i + 2) < (fu : Int) → ∀ (H : Heap) (locs : List Loc), va_P D vwCl ([(z 0, .inr (8, [.int (iI (σ 0)), .int (iI (σ 1)), .int (iI (σ 2)), .int (iI (σ 3)), .int (iI (σ 4)), .int (iI (σ 5)), .ref (z 1), .ref (z 2), .int (iI (σ 9)), .int (iI (σ 10))])), (z 1, .inl (cL, (σ 6).toNat, .inr (.inr (.inr (.inr (fun j => if j < (σ 6).toNat then some (z (10 + j)) else none)))))), (z 2, .inl (cL, (σ 7).toNat, .inr (.inr (.inr (.inr (fun j => if j < (σ 7).toNat then some (z (20 + j)) else none))))))] ++ (wZf cI z T (σ 6).toNat ++ wZs cI z P (σ 7).toNat)) H → va_D (va_A (WZ cI cL z σ T P) sz) ([(z 0, .inr (8, [.int (iI (σ 0)), .int (iI (σ 1)), .int (iI (σ 2)), .int (iI (σ 3)), .int (iI (σ 4)), .int (iI (σ 5)), .ref (z 1), .ref (z 2), .int (iI (σ 9)), .int (iI (σ 10))])), (z 1, .inl (cL, (σ 6).toNat, .inr (.inr (.inr (.inr (fun j => if j < (σ 6).toNat then some (z (10 + j)) else none)))))), (z 2, .inl (cL, (σ 7).toNat, .inr (.inr (.inr (.inr (fun j => if j < (σ 7).toNat then some (z (20 + j)) else none))))))] ++ (wZf cI z T (σ 6).toNat ++ wZs cI z P (σ 7).toNat)) → va_S (va_A (WZ cI cL z σ T P) sz) s.heap H locs → ∀ ls : Array Slot, lv_has ls 8 [(0, .ref (z 0)), (1, .int (iI (d))), (2, .int (iI (b))), (3, .int (iI (be))), (4, .int (iI (k0))), (5, .int (iI (i)))] → W p l e { frames := 2, cells := 0, slots := 0, locals := 44 } s m args below meth c H locs 0 0 (MQ below (va_Qi (fun (r : Int32) (_ : Unit) => r = iI (m_late σ d b)) (fun u t => va_P D vwCl ((fun (_ : Unit) => WZ cI cL z (m_obs σ d b) T P) u) t.heap ∧ va_D (va_A (WZ cI cL z σ T P) sz) ((fun (_ : Unit) => WZ cI cL z (m_obs σ d b) T P) u)) (va_A (WZ cI cL z σ T P) sz)) args s 0 0 (va_A (WZ cI cL z σ T P) sz)) (F0 m 27 ls []) := by
    intro fu
    induction fu with
    | zero => intro be i hi hbe hm_27 H locs hP hD hS ls hl; exact absurd hm_27 (by omega)
    | succ fu ih_27 =>
      intro be i hi hbe hm_27 H locs hP hD hS ls hl
      have hPic : PicS D cI cL z σ T P H := hP
      have hsb := s_best_in (ln := σ 2) (fi := σ 3) (b := b) (d := d) (i := i + 1) w2 w3 (by omega) (by omega)
      refine lv_iload hx hb dX6_observe_27 (lv_at hl 5 rfl) ?_
      refine q_if_lt (tgt := 90) hx hb dX6_observe_29 (by decide) (by omega) (fun c_1 => ?_) (fun c_1 => ?_)
      · skip
        refine lv_iload_n hx hb dX6_observe_90 rfl (lv_at hl 1 rfl) ?_
        refine lv_aload_n hx hb dX6_observe_91 rfl (lv_at hl 0 rfl) ?_
        refine lv_iload_n hx hb dX6_observe_92 rfl (lv_at hl 3 rfl) ?_
        refine lv_iload_n hx hb dX6_observe_93 rfl (lv_at hl 2 rfl) ?_
        refine q_callV (fr := 1) (lo := 22) (nL := 8) (Pic := PicS D cI cL z σ T P) (As := [.int (iI (be)), .int (iI (b))]) (rest := [.int (iI (d))]) ⟨hx, hb, hml, hown, hts⟩ (z_moon l D cI cO cL z σ T P hW hSS (be) (b) (by omega) (by omega)) (cwV 2 hts gX6_observe_X6_moon rfl rfl rfl (by decide +kernel) ⟨Nat.le_of_ble_eq_true rfl, Nat.le_of_ble_eq_true rfl⟩) (ob_recv hPic.at0 hK rfl) hPic hK rfl hl.1 rfl (Nat.le_of_ble_eq_true rfl) dX6_observe_94 (Nat.zero_le _) (Nat.zero_le _) ?_
        have htm94 := m_tm_in (ln := σ 2) (fi := σ 3) (b := (b)) (k := (be)) w2 w3 (by omega)
        refine q_isub hx hb dX6_observe_97 ?_
        refine q_top (fun la ela => ?_)
        have hnt : be = m_nt (σ 2) (σ 3) b d := by
            rcases hbe with h9 | h9
            · exfalso; omega
            · rw [h9.2]; exact s_best_end (by omega) hff
        have hla : la = m_late σ d b := by rw [ela, hnt]; rfl
        refine lv_istore (lv' := [(5, .int (iI (la))), (0, .ref (z 0)), (1, .int (iI (d))), (2, .int (iI (b))), (3, .int (iI (be))), (4, .int (iI (k0)))]) hx hb dX6_observe_98 hl (by decide) rfl (fun ls hl => ?_)
        refine lv_aload_n hx hb dX6_observe_100 rfl (lv_at hl 1 rfl) ?_
        refine lv_dup hx hb dX6_observe_101 rfl ?_
        refine q_get (ci := 8) (C := RX6) (T := TX6) (N := 10) hx hb hts hin_X6 hown hK (v := .int (iI (σ 9))) (hP 0 _ rfl) rfl 8 (by decide) (hts (.fieldLink RX6 75 "AlmanacHouseLaw$Sim" "seen" "I") (List.mem_of_getElem? (i := 9) rfl)) (fun _ h9 => h9) rfl dX6_observe_102 ?_
        refine q_iconst hx hb dX6_observe_105 ?_
        refine q_iadd hx hb dX6_observe_106 ?_
        refine va_put (D := D) (ci := 8) (v := .int (iI ((σ 9) + (1)))) (ty := .int) (C := RX6) (T := TX6) (N := 10) hx hb hts (fun w h => List.mem_cons_of_mem _ (List.mem_append_right _ h)) tyX6 tyX6_ok nmX6 hown hK hP hD hS 0 rfl rfl 8 (by decide) (hts (.fieldLink RX6 75 "AlmanacHouseLaw$Sim" "seen" "I") (List.mem_of_getElem? (i := 9) rfl)) (fun _ h9 => h9) rfl (by decide +kernel) rfl rfl (Nat.le_of_ble_eq_true rfl) dX6_observe_107 (fun H locs hP hD hS => ?_)
        have hP : va_P D vwCl ([(z 0, .inr (8, [.int (iI (σ 0)), .int (iI (σ 1)), .int (iI (σ 2)), .int (iI (σ 3)), .int (iI (σ 4)), .int (iI (σ 5)), .ref (z 1), .ref (z 2), .int (iI ((σ 9) + (1))), .int (iI (σ 10))])), (z 1, .inl (cL, (σ 6).toNat, .inr (.inr (.inr (.inr (fun j => if j < (σ 6).toNat then some (z (10 + j)) else none)))))), (z 2, .inl (cL, (σ 7).toNat, .inr (.inr (.inr (.inr (fun j => if j < (σ 7).toNat then some (z (20 + j)) else none))))))] ++ (wZf cI z T (σ 6).toNat ++ wZs cI z P (σ 7).toNat)) H := hP
        have hD : va_D (va_A (WZ cI cL z σ T P) sz) ([(z 0, .inr (8, [.int (iI (σ 0)), .int (iI (σ 1)), .int (iI (σ 2)), .int (iI (σ 3)), .int (iI (σ 4)), .int (iI (σ 5)), .ref (z 1), .ref (z 2), .int (iI ((σ 9) + (1))), .int (iI (σ 10))])), (z 1, .inl (cL, (σ 6).toNat, .inr (.inr (.inr (.inr (fun j => if j < (σ 6).toNat then some (z (10 + j)) else none)))))), (z 2, .inl (cL, (σ 7).toNat, .inr (.inr (.inr (.inr (fun j => if j < (σ 7).toNat then some (z (20 + j)) else none))))))] ++ (wZf cI z T (σ 6).toNat ++ wZs cI z P (σ 7).toNat)) := hD
        refine lv_iload hx hb dX6_observe_110 (lv_at hl 0 rfl) ?_
        refine q_if_eq (tgt := 123) hx hb dX6_observe_112 (by decide) (by omega) (fun c_2 => ?_) (fun c_2 => ?_)
        · skip
          refine lv_iload hx hb dX6_observe_123 (lv_at hl 0 rfl) ?_
          exact q_giret (cells := 0) (slots := 0) (mc := 0) (ms := 0) (w1 := fun (_ : Unit) => WZ cI cL z (m_obs σ d b) T P) (()) hx hb hr hlocks hS (hla) (by rw [show m_obs σ d b = st σ 9 (σ 9 + 1) from if_pos (by rw [← hla, ← hnt]; omega)]; exact ⟨hP, hD⟩) (by omega) (by omega) dX6_observe_125
        · skip
          refine lv_iload_n hx hb dX6_observe_115 rfl (lv_at hl 4 rfl) ?_
          refine q_if_ne (tgt := 126) hx hb dX6_observe_116 (by decide) (by omega) (fun c_3 => ?_) (fun c_3 => ?_)
          · skip
            refine lv_aload_n hx hb dX6_observe_126 rfl (lv_at hl 1 rfl) ?_
            refine lv_dup hx hb dX6_observe_127 rfl ?_
            refine q_get (ci := 8) (C := RX6) (T := TX6) (N := 10) hx hb hts hin_X6 hown hK (v := .int (iI (σ 10))) (hP 0 _ rfl) rfl 9 (by decide) (hts (.fieldLink RX6 78 "AlmanacHouseLaw$Sim" "corrected" "I") (List.mem_of_getElem? (i := 10) rfl)) (fun _ h9 => h9) rfl dX6_observe_128 ?_
            refine q_iconst hx hb dX6_observe_131 ?_
            refine q_iadd hx hb dX6_observe_132 ?_
            refine va_put (D := D) (ci := 8) (v := .int (iI ((σ 10) + (1)))) (ty := .int) (C := RX6) (T := TX6) (N := 10) hx hb hts (fun w h => List.mem_cons_of_mem _ (List.mem_append_right _ h)) tyX6 tyX6_ok nmX6 hown hK hP hD hS 0 rfl rfl 9 (by decide) (hts (.fieldLink RX6 78 "AlmanacHouseLaw$Sim" "corrected" "I") (List.mem_of_getElem? (i := 10) rfl)) (fun _ h9 => h9) rfl (by decide +kernel) rfl rfl (Nat.le_of_ble_eq_true rfl) dX6_observe_133 (fun H locs hP hD hS => ?_)
            have hP : va_P D vwCl ([(z 0, .inr (8, [.int (iI (σ 0)), .int (iI (σ 1)), .int (iI (σ 2)), .int (iI (σ 3)), .int (iI (σ 4)), .int (iI (σ 5)), .ref (z 1), .ref (z 2), .int (iI ((σ 9) + (1))), .int (iI ((σ 10) + (1)))])), (z 1, .inl (cL, (σ 6).toNat, .inr (.inr (.inr (.inr (fun j => if j < (σ 6).toNat then some (z (10 + j)) else none)))))), (z 2, .inl (cL, (σ 7).toNat, .inr (.inr (.inr (.inr (fun j => if j < (σ 7).toNat then some (z (20 + j)) else none))))))] ++ (wZf cI z T (σ 6).toNat ++ wZs cI z P (σ 7).toNat)) H := hP
            have hD : va_D (va_A (WZ cI cL z σ T P) sz) ([(z 0, .inr (8, [.int (iI (σ 0)), .int (iI (σ 1)), .int (iI (σ 2)), .int (iI (σ 3)), .int (iI (σ 4)), .int (iI (σ 5)), .ref (z 1), .ref (z 2), .int (iI ((σ 9) + (1))), .int (iI ((σ 10) + (1)))])), (z 1, .inl (cL, (σ 6).toNat, .inr (.inr (.inr (.inr (fun j => if j < (σ 6).toNat then some (z (10 + j)) else none)))))), (z 2, .inl (cL, (σ 7).toNat, .inr (.inr (.inr (.inr (fun j => if j < (σ 7).toNat then some (z (20 + j)) else none))))))] ++ (wZf cI z T (σ 6).toNat ++ wZs cI z P (σ 7).toNat)) := hD
            refine q_sipush hx hb dX6_observe_136 (by decide) ?_
            refine lv_iload_n hx hb dX6_observe_139 rfl (lv_at hl 2 rfl) ?_
            refine q_imul hx hb dX6_observe_140 ?_
            refine q_sipush hx hb dX6_observe_141 (by decide) ?_
            refine q_iadd hx hb dX6_observe_144 ?_
            refine lv_aload_n hx hb dX6_observe_145 rfl (lv_at hl 1 rfl) ?_
            refine q_get (ci := 8) (C := RX6) (T := TX6) (N := 10) hx hb hts hin_X6 hown hK (v := .int (iI (σ 3))) (hP 0 _ rfl) rfl 3 (by decide) (hts (.fieldLink RX6 43 "AlmanacHouseLaw$Sim" "first" "I") (List.mem_of_getElem? (i := 11) rfl)) (fun _ h9 => h9) rfl dX6_observe_146 ?_
            refine q_isub hx hb dX6_observe_149 ?_
            refine q_top (fun mi emi => ?_)
            have hmr := m_tdr (x := mi) (n := be) (by omega)
            have hmr2 := m_tdr (x := 2 * mi) (n := 2 * be + 1) (by omega)
            refine lv_istore (lv' := [(6, .int (iI (mi))), (5, .int (iI (la))), (0, .ref (z 0)), (1, .int (iI (d))), (2, .int (iI (b))), (3, .int (iI (be))), (4, .int (iI (k0)))]) hx hb dX6_observe_150 hl (by decide) rfl (fun ls hl => ?_)
            refine lv_iload_n hx hb dX6_observe_152 rfl (lv_at hl 4 rfl) ?_
            refine q_if_eq (tgt := 169) hx hb dX6_observe_153 (by decide) (by omega) (fun c_4 => ?_) (fun c_4 => ?_)
            · skip
              refine lv_iload hx hb dX6_observe_169 (lv_at hl 0 rfl) ?_
              refine lv_iload_n hx hb dX6_observe_171 rfl (lv_at hl 5 rfl) ?_
              refine q_idivt hx hb dX6_observe_172 (by omega) (by omega) ?_
              refine q_top (fun its eits => ?_)
              have hits : its = Int.tdiv (2 * (1000 * d + 500 - σ 3)) (2 * m_nt (σ 2) (σ 3) b d + b) := by
                  rw [← hnt]
                  first
                  | (have hb0 : b = 0 := by omega
                     rw [eits, emi, hb0, Int.add_zero, m_td2])
                  | (have hb1 : b = 1 := by omega
                     rw [eits, emi, hb1])
              refine lv_istore (lv' := [(7, .int (iI (its))), (6, .int (iI (mi))), (5, .int (iI (la))), (0, .ref (z 0)), (1, .int (iI (d))), (2, .int (iI (b))), (3, .int (iI (be))), (4, .int (iI (k0)))]) hx hb dX6_observe_173 hl (by decide) rfl (fun ls hl => ?_)
              refine lv_aload_n hx hb dX6_observe_175 rfl (lv_at hl 3 rfl) ?_
              refine lv_iload hx hb dX6_observe_176 (lv_at hl 0 rfl) ?_
              refine q_sipush hx hb dX6_observe_178 (by decide) ?_
              refine q_icmp_ge (tgt := 190) hx hb dX6_observe_181 (by decide) (by omega) (by omega) (fun c_5 => ?_) (fun c_5 => ?_)
              · skip
                refine lv_iload hx hb dX6_observe_190 (lv_at hl 0 rfl) ?_
                refine q_ldc (z := 40000) hx hb hown (hts (.constant RX6 81 (40000)) (List.mem_of_getElem? (i := 12) rfl)) (by decide) dX6_observe_192 ?_
                refine q_icmp_le (tgt := 202) hx hb dX6_observe_194 (by decide) (by omega) (by omega) (fun c_6 => ?_) (fun c_6 => ?_)
                · skip
                  refine lv_iload hx hb dX6_observe_202 (lv_at hl 0 rfl) ?_
                  refine va_put (D := D) (ci := 8) (v := .int (iI (its))) (ty := .int) (C := RX6) (T := TX6) (N := 10) hx hb hts (fun w h => List.mem_cons_of_mem _ (List.mem_append_right _ h)) tyX6 tyX6_ok nmX6 hown hK hP hD hS 0 rfl rfl 2 (by decide) (hts (.fieldLink RX6 16 "AlmanacHouseLaw$Sim" "length" "I") (List.mem_of_getElem? (i := 1) rfl)) (fun _ h9 => h9) rfl (by decide +kernel) rfl rfl (Nat.le_of_ble_eq_true rfl) dX6_observe_204 (fun H locs hP hD hS => ?_)
                  have hP : va_P D vwCl ([(z 0, .inr (8, [.int (iI (σ 0)), .int (iI (σ 1)), .int (iI (its)), .int (iI (σ 3)), .int (iI (σ 4)), .int (iI (σ 5)), .ref (z 1), .ref (z 2), .int (iI ((σ 9) + (1))), .int (iI ((σ 10) + (1)))])), (z 1, .inl (cL, (σ 6).toNat, .inr (.inr (.inr (.inr (fun j => if j < (σ 6).toNat then some (z (10 + j)) else none)))))), (z 2, .inl (cL, (σ 7).toNat, .inr (.inr (.inr (.inr (fun j => if j < (σ 7).toNat then some (z (20 + j)) else none))))))] ++ (wZf cI z T (σ 6).toNat ++ wZs cI z P (σ 7).toNat)) H := hP
                  have hD : va_D (va_A (WZ cI cL z σ T P) sz) ([(z 0, .inr (8, [.int (iI (σ 0)), .int (iI (σ 1)), .int (iI (its)), .int (iI (σ 3)), .int (iI (σ 4)), .int (iI (σ 5)), .ref (z 1), .ref (z 2), .int (iI ((σ 9) + (1))), .int (iI ((σ 10) + (1)))])), (z 1, .inl (cL, (σ 6).toNat, .inr (.inr (.inr (.inr (fun j => if j < (σ 6).toNat then some (z (10 + j)) else none)))))), (z 2, .inl (cL, (σ 7).toNat, .inr (.inr (.inr (.inr (fun j => if j < (σ 7).toNat then some (z (20 + j)) else none))))))] ++ (wZf cI z T (σ 6).toNat ++ wZs cI z P (σ 7).toNat)) := hD
                  refine lv_iload hx hb dX6_observe_207 (lv_at hl 2 rfl) ?_
                  exact q_giret (cells := 0) (slots := 0) (mc := 0) (ms := 0) (w1 := fun (_ : Unit) => WZ cI cL z (m_obs σ d b) T P) (()) hx hb hr hlocks hS (hla) (by first | (rw [show m_obs σ d b = st (st (st σ 9 (σ 9 + 1)) 10 (σ 10 + 1)) 2 (m_clamp (Int.tdiv (2 * (1000 * d + 500 - σ 3)) (2 * m_nt (σ 2) (σ 3) b d + b))) from if_neg (by rw [← hla, ← hnt]; omega), show m_clamp (Int.tdiv (2 * (1000 * d + 500 - σ 3)) (2 * m_nt (σ 2) (σ 3) b d + b)) = its from by rw [← hits]; unfold m_clamp; (repeat' split) <;> omega]; exact ⟨hP, hD⟩) | (rw [show m_obs σ d b = st (st (st σ 9 (σ 9 + 1)) 10 (σ 10 + 1)) 2 (m_clamp (Int.tdiv (2 * (1000 * d + 500 - σ 3)) (2 * m_nt (σ 2) (σ 3) b d + b))) from if_neg (by rw [← hla, ← hnt]; omega), show m_clamp (Int.tdiv (2 * (1000 * d + 500 - σ 3)) (2 * m_nt (σ 2) (σ 3) b d + b)) = 40000 from by rw [← hits]; unfold m_clamp; (repeat' split) <;> omega]; exact ⟨hP, hD⟩) | (rw [show m_obs σ d b = st (st (st σ 9 (σ 9 + 1)) 10 (σ 10 + 1)) 2 (m_clamp (Int.tdiv (2 * (1000 * d + 500 - σ 3)) (2 * m_nt (σ 2) (σ 3) b d + b))) from if_neg (by rw [← hla, ← hnt]; omega), show m_clamp (Int.tdiv (2 * (1000 * d + 500 - σ 3)) (2 * m_nt (σ 2) (σ 3) b d + b)) = 20000 from by rw [← hits]; unfold m_clamp; (repeat' split) <;> omega]; exact ⟨hP, hD⟩)) (by omega) (by omega) dX6_observe_209
                · skip
                  refine q_ldc (z := 40000) hx hb hown (hts (.constant RX6 81 (40000)) (List.mem_of_getElem? (i := 12) rfl)) (by decide) dX6_observe_197 ?_
                  refine lv_goto (tgt := 204) hx hb dX6_observe_199 (by decide) ?_
                  refine va_put (D := D) (ci := 8) (v := .int (iI (40000))) (ty := .int) (C := RX6) (T := TX6) (N := 10) hx hb hts (fun w h => List.mem_cons_of_mem _ (List.mem_append_right _ h)) tyX6 tyX6_ok nmX6 hown hK hP hD hS 0 rfl rfl 2 (by decide) (hts (.fieldLink RX6 16 "AlmanacHouseLaw$Sim" "length" "I") (List.mem_of_getElem? (i := 1) rfl)) (fun _ h9 => h9) rfl (by decide +kernel) rfl rfl (Nat.le_of_ble_eq_true rfl) dX6_observe_204 (fun H locs hP hD hS => ?_)
                  have hP : va_P D vwCl ([(z 0, .inr (8, [.int (iI (σ 0)), .int (iI (σ 1)), .int (iI (40000)), .int (iI (σ 3)), .int (iI (σ 4)), .int (iI (σ 5)), .ref (z 1), .ref (z 2), .int (iI ((σ 9) + (1))), .int (iI ((σ 10) + (1)))])), (z 1, .inl (cL, (σ 6).toNat, .inr (.inr (.inr (.inr (fun j => if j < (σ 6).toNat then some (z (10 + j)) else none)))))), (z 2, .inl (cL, (σ 7).toNat, .inr (.inr (.inr (.inr (fun j => if j < (σ 7).toNat then some (z (20 + j)) else none))))))] ++ (wZf cI z T (σ 6).toNat ++ wZs cI z P (σ 7).toNat)) H := hP
                  have hD : va_D (va_A (WZ cI cL z σ T P) sz) ([(z 0, .inr (8, [.int (iI (σ 0)), .int (iI (σ 1)), .int (iI (40000)), .int (iI (σ 3)), .int (iI (σ 4)), .int (iI (σ 5)), .ref (z 1), .ref (z 2), .int (iI ((σ 9) + (1))), .int (iI ((σ 10) + (1)))])), (z 1, .inl (cL, (σ 6).toNat, .inr (.inr (.inr (.inr (fun j => if j < (σ 6).toNat then some (z (10 + j)) else none)))))), (z 2, .inl (cL, (σ 7).toNat, .inr (.inr (.inr (.inr (fun j => if j < (σ 7).toNat then some (z (20 + j)) else none))))))] ++ (wZf cI z T (σ 6).toNat ++ wZs cI z P (σ 7).toNat)) := hD
                  refine lv_iload hx hb dX6_observe_207 (lv_at hl 2 rfl) ?_
                  exact q_giret (cells := 0) (slots := 0) (mc := 0) (ms := 0) (w1 := fun (_ : Unit) => WZ cI cL z (m_obs σ d b) T P) (()) hx hb hr hlocks hS (hla) (by first | (rw [show m_obs σ d b = st (st (st σ 9 (σ 9 + 1)) 10 (σ 10 + 1)) 2 (m_clamp (Int.tdiv (2 * (1000 * d + 500 - σ 3)) (2 * m_nt (σ 2) (σ 3) b d + b))) from if_neg (by rw [← hla, ← hnt]; omega), show m_clamp (Int.tdiv (2 * (1000 * d + 500 - σ 3)) (2 * m_nt (σ 2) (σ 3) b d + b)) = its from by rw [← hits]; unfold m_clamp; (repeat' split) <;> omega]; exact ⟨hP, hD⟩) | (rw [show m_obs σ d b = st (st (st σ 9 (σ 9 + 1)) 10 (σ 10 + 1)) 2 (m_clamp (Int.tdiv (2 * (1000 * d + 500 - σ 3)) (2 * m_nt (σ 2) (σ 3) b d + b))) from if_neg (by rw [← hla, ← hnt]; omega), show m_clamp (Int.tdiv (2 * (1000 * d + 500 - σ 3)) (2 * m_nt (σ 2) (σ 3) b d + b)) = 40000 from by rw [← hits]; unfold m_clamp; (repeat' split) <;> omega]; exact ⟨hP, hD⟩) | (rw [show m_obs σ d b = st (st (st σ 9 (σ 9 + 1)) 10 (σ 10 + 1)) 2 (m_clamp (Int.tdiv (2 * (1000 * d + 500 - σ 3)) (2 * m_nt (σ 2) (σ 3) b d + b))) from if_neg (by rw [← hla, ← hnt]; omega), show m_clamp (Int.tdiv (2 * (1000 * d + 500 - σ 3)) (2 * m_nt (σ 2) (σ 3) b d + b)) = 20000 from by rw [← hits]; unfold m_clamp; (repeat' split) <;> omega]; exact ⟨hP, hD⟩)) (by omega) (by omega) dX6_observe_209
              · skip
                refine q_sipush hx hb dX6_observe_184 (by decide) ?_
                refine lv_goto (tgt := 204) hx hb dX6_observe_187 (by decide) ?_
                refine va_put (D := D) (ci := 8) (v := .int (iI (20000))) (ty := .int) (C := RX6) (T := TX6) (N := 10) hx hb hts (fun w h => List.mem_cons_of_mem _ (List.mem_append_right _ h)) tyX6 tyX6_ok nmX6 hown hK hP hD hS 0 rfl rfl 2 (by decide) (hts (.fieldLink RX6 16 "AlmanacHouseLaw$Sim" "length" "I") (List.mem_of_getElem? (i := 1) rfl)) (fun _ h9 => h9) rfl (by decide +kernel) rfl rfl (Nat.le_of_ble_eq_true rfl) dX6_observe_204 (fun H locs hP hD hS => ?_)
                have hP : va_P D vwCl ([(z 0, .inr (8, [.int (iI (σ 0)), .int (iI (σ 1)), .int (iI (20000)), .int (iI (σ 3)), .int (iI (σ 4)), .int (iI (σ 5)), .ref (z 1), .ref (z 2), .int (iI ((σ 9) + (1))), .int (iI ((σ 10) + (1)))])), (z 1, .inl (cL, (σ 6).toNat, .inr (.inr (.inr (.inr (fun j => if j < (σ 6).toNat then some (z (10 + j)) else none)))))), (z 2, .inl (cL, (σ 7).toNat, .inr (.inr (.inr (.inr (fun j => if j < (σ 7).toNat then some (z (20 + j)) else none))))))] ++ (wZf cI z T (σ 6).toNat ++ wZs cI z P (σ 7).toNat)) H := hP
                have hD : va_D (va_A (WZ cI cL z σ T P) sz) ([(z 0, .inr (8, [.int (iI (σ 0)), .int (iI (σ 1)), .int (iI (20000)), .int (iI (σ 3)), .int (iI (σ 4)), .int (iI (σ 5)), .ref (z 1), .ref (z 2), .int (iI ((σ 9) + (1))), .int (iI ((σ 10) + (1)))])), (z 1, .inl (cL, (σ 6).toNat, .inr (.inr (.inr (.inr (fun j => if j < (σ 6).toNat then some (z (10 + j)) else none)))))), (z 2, .inl (cL, (σ 7).toNat, .inr (.inr (.inr (.inr (fun j => if j < (σ 7).toNat then some (z (20 + j)) else none))))))] ++ (wZf cI z T (σ 6).toNat ++ wZs cI z P (σ 7).toNat)) := hD
                refine lv_iload hx hb dX6_observe_207 (lv_at hl 2 rfl) ?_
                exact q_giret (cells := 0) (slots := 0) (mc := 0) (ms := 0) (w1 := fun (_ : Unit) => WZ cI cL z (m_obs σ d b) T P) (()) hx hb hr hlocks hS (hla) (by first | (rw [show m_obs σ d b = st (st (st σ 9 (σ 9 + 1)) 10 (σ 10 + 1)) 2 (m_clamp (Int.tdiv (2 * (1000 * d + 500 - σ 3)) (2 * m_nt (σ 2) (σ 3) b d + b))) from if_neg (by rw [← hla, ← hnt]; omega), show m_clamp (Int.tdiv (2 * (1000 * d + 500 - σ 3)) (2 * m_nt (σ 2) (σ 3) b d + b)) = its from by rw [← hits]; unfold m_clamp; (repeat' split) <;> omega]; exact ⟨hP, hD⟩) | (rw [show m_obs σ d b = st (st (st σ 9 (σ 9 + 1)) 10 (σ 10 + 1)) 2 (m_clamp (Int.tdiv (2 * (1000 * d + 500 - σ 3)) (2 * m_nt (σ 2) (σ 3) b d + b))) from if_neg (by rw [← hla, ← hnt]; omega), show m_clamp (Int.tdiv (2 * (1000 * d + 500 - σ 3)) (2 * m_nt (σ 2) (σ 3) b d + b)) = 40000 from by rw [← hits]; unfold m_clamp; (repeat' split) <;> omega]; exact ⟨hP, hD⟩) | (rw [show m_obs σ d b = st (st (st σ 9 (σ 9 + 1)) 10 (σ 10 + 1)) 2 (m_clamp (Int.tdiv (2 * (1000 * d + 500 - σ 3)) (2 * m_nt (σ 2) (σ 3) b d + b))) from if_neg (by rw [← hla, ← hnt]; omega), show m_clamp (Int.tdiv (2 * (1000 * d + 500 - σ 3)) (2 * m_nt (σ 2) (σ 3) b d + b)) = 20000 from by rw [← hits]; unfold m_clamp; (repeat' split) <;> omega]; exact ⟨hP, hD⟩)) (by omega) (by omega) dX6_observe_209
            · skip
              refine q_iconst hx hb dX6_observe_156 ?_
              refine lv_iload hx hb dX6_observe_157 (lv_at hl 0 rfl) ?_
              refine q_imul hx hb dX6_observe_159 ?_
              refine q_iconst hx hb dX6_observe_160 ?_
              refine lv_iload_n hx hb dX6_observe_161 rfl (lv_at hl 5 rfl) ?_
              refine q_imul hx hb dX6_observe_162 ?_
              refine q_iconst hx hb dX6_observe_163 ?_
              refine q_iadd hx hb dX6_observe_164 ?_
              refine q_idivt hx hb dX6_observe_165 (by omega) (by omega) ?_
              refine lv_goto (tgt := 173) hx hb dX6_observe_166 (by decide) ?_
              refine q_top (fun its eits => ?_)
              have hits : its = Int.tdiv (2 * (1000 * d + 500 - σ 3)) (2 * m_nt (σ 2) (σ 3) b d + b) := by
                  rw [← hnt]
                  first
                  | (have hb0 : b = 0 := by omega
                     rw [eits, emi, hb0, Int.add_zero, m_td2])
                  | (have hb1 : b = 1 := by omega
                     rw [eits, emi, hb1])
              refine lv_istore (lv' := [(7, .int (iI (its))), (6, .int (iI (mi))), (5, .int (iI (la))), (0, .ref (z 0)), (1, .int (iI (d))), (2, .int (iI (b))), (3, .int (iI (be))), (4, .int (iI (k0)))]) hx hb dX6_observe_173 hl (by decide) rfl (fun ls hl => ?_)
              refine lv_aload_n hx hb dX6_observe_175 rfl (lv_at hl 3 rfl) ?_
              refine lv_iload hx hb dX6_observe_176 (lv_at hl 0 rfl) ?_
              refine q_sipush hx hb dX6_observe_178 (by decide) ?_
              refine q_icmp_ge (tgt := 190) hx hb dX6_observe_181 (by decide) (by omega) (by omega) (fun c_7 => ?_) (fun c_7 => ?_)
              · skip
                refine lv_iload hx hb dX6_observe_190 (lv_at hl 0 rfl) ?_
                refine q_ldc (z := 40000) hx hb hown (hts (.constant RX6 81 (40000)) (List.mem_of_getElem? (i := 12) rfl)) (by decide) dX6_observe_192 ?_
                refine q_icmp_le (tgt := 202) hx hb dX6_observe_194 (by decide) (by omega) (by omega) (fun c_8 => ?_) (fun c_8 => ?_)
                · skip
                  refine lv_iload hx hb dX6_observe_202 (lv_at hl 0 rfl) ?_
                  refine va_put (D := D) (ci := 8) (v := .int (iI (its))) (ty := .int) (C := RX6) (T := TX6) (N := 10) hx hb hts (fun w h => List.mem_cons_of_mem _ (List.mem_append_right _ h)) tyX6 tyX6_ok nmX6 hown hK hP hD hS 0 rfl rfl 2 (by decide) (hts (.fieldLink RX6 16 "AlmanacHouseLaw$Sim" "length" "I") (List.mem_of_getElem? (i := 1) rfl)) (fun _ h9 => h9) rfl (by decide +kernel) rfl rfl (Nat.le_of_ble_eq_true rfl) dX6_observe_204 (fun H locs hP hD hS => ?_)
                  have hP : va_P D vwCl ([(z 0, .inr (8, [.int (iI (σ 0)), .int (iI (σ 1)), .int (iI (its)), .int (iI (σ 3)), .int (iI (σ 4)), .int (iI (σ 5)), .ref (z 1), .ref (z 2), .int (iI ((σ 9) + (1))), .int (iI ((σ 10) + (1)))])), (z 1, .inl (cL, (σ 6).toNat, .inr (.inr (.inr (.inr (fun j => if j < (σ 6).toNat then some (z (10 + j)) else none)))))), (z 2, .inl (cL, (σ 7).toNat, .inr (.inr (.inr (.inr (fun j => if j < (σ 7).toNat then some (z (20 + j)) else none))))))] ++ (wZf cI z T (σ 6).toNat ++ wZs cI z P (σ 7).toNat)) H := hP
                  have hD : va_D (va_A (WZ cI cL z σ T P) sz) ([(z 0, .inr (8, [.int (iI (σ 0)), .int (iI (σ 1)), .int (iI (its)), .int (iI (σ 3)), .int (iI (σ 4)), .int (iI (σ 5)), .ref (z 1), .ref (z 2), .int (iI ((σ 9) + (1))), .int (iI ((σ 10) + (1)))])), (z 1, .inl (cL, (σ 6).toNat, .inr (.inr (.inr (.inr (fun j => if j < (σ 6).toNat then some (z (10 + j)) else none)))))), (z 2, .inl (cL, (σ 7).toNat, .inr (.inr (.inr (.inr (fun j => if j < (σ 7).toNat then some (z (20 + j)) else none))))))] ++ (wZf cI z T (σ 6).toNat ++ wZs cI z P (σ 7).toNat)) := hD
                  refine lv_iload hx hb dX6_observe_207 (lv_at hl 2 rfl) ?_
                  exact q_giret (cells := 0) (slots := 0) (mc := 0) (ms := 0) (w1 := fun (_ : Unit) => WZ cI cL z (m_obs σ d b) T P) (()) hx hb hr hlocks hS (hla) (by first | (rw [show m_obs σ d b = st (st (st σ 9 (σ 9 + 1)) 10 (σ 10 + 1)) 2 (m_clamp (Int.tdiv (2 * (1000 * d + 500 - σ 3)) (2 * m_nt (σ 2) (σ 3) b d + b))) from if_neg (by rw [← hla, ← hnt]; omega), show m_clamp (Int.tdiv (2 * (1000 * d + 500 - σ 3)) (2 * m_nt (σ 2) (σ 3) b d + b)) = its from by rw [← hits]; unfold m_clamp; (repeat' split) <;> omega]; exact ⟨hP, hD⟩) | (rw [show m_obs σ d b = st (st (st σ 9 (σ 9 + 1)) 10 (σ 10 + 1)) 2 (m_clamp (Int.tdiv (2 * (1000 * d + 500 - σ 3)) (2 * m_nt (σ 2) (σ 3) b d + b))) from if_neg (by rw [← hla, ← hnt]; omega), show m_clamp (Int.tdiv (2 * (1000 * d + 500 - σ 3)) (2 * m_nt (σ 2) (σ 3) b d + b)) = 40000 from by rw [← hits]; unfold m_clamp; (repeat' split) <;> omega]; exact ⟨hP, hD⟩) | (rw [show m_obs σ d b = st (st (st σ 9 (σ 9 + 1)) 10 (σ 10 + 1)) 2 (m_clamp (Int.tdiv (2 * (1000 * d + 500 - σ 3)) (2 * m_nt (σ 2) (σ 3) b d + b))) from if_neg (by rw [← hla, ← hnt]; omega), show m_clamp (Int.tdiv (2 * (1000 * d + 500 - σ 3)) (2 * m_nt (σ 2) (σ 3) b d + b)) = 20000 from by rw [← hits]; unfold m_clamp; (repeat' split) <;> omega]; exact ⟨hP, hD⟩)) (by omega) (by omega) dX6_observe_209
                · skip
                  refine q_ldc (z := 40000) hx hb hown (hts (.constant RX6 81 (40000)) (List.mem_of_getElem? (i := 12) rfl)) (by decide) dX6_observe_197 ?_
                  refine lv_goto (tgt := 204) hx hb dX6_observe_199 (by decide) ?_
                  refine va_put (D := D) (ci := 8) (v := .int (iI (40000))) (ty := .int) (C := RX6) (T := TX6) (N := 10) hx hb hts (fun w h => List.mem_cons_of_mem _ (List.mem_append_right _ h)) tyX6 tyX6_ok nmX6 hown hK hP hD hS 0 rfl rfl 2 (by decide) (hts (.fieldLink RX6 16 "AlmanacHouseLaw$Sim" "length" "I") (List.mem_of_getElem? (i := 1) rfl)) (fun _ h9 => h9) rfl (by decide +kernel) rfl rfl (Nat.le_of_ble_eq_true rfl) dX6_observe_204 (fun H locs hP hD hS => ?_)
                  have hP : va_P D vwCl ([(z 0, .inr (8, [.int (iI (σ 0)), .int (iI (σ 1)), .int (iI (40000)), .int (iI (σ 3)), .int (iI (σ 4)), .int (iI (σ 5)), .ref (z 1), .ref (z 2), .int (iI ((σ 9) + (1))), .int (iI ((σ 10) + (1)))])), (z 1, .inl (cL, (σ 6).toNat, .inr (.inr (.inr (.inr (fun j => if j < (σ 6).toNat then some (z (10 + j)) else none)))))), (z 2, .inl (cL, (σ 7).toNat, .inr (.inr (.inr (.inr (fun j => if j < (σ 7).toNat then some (z (20 + j)) else none))))))] ++ (wZf cI z T (σ 6).toNat ++ wZs cI z P (σ 7).toNat)) H := hP
                  have hD : va_D (va_A (WZ cI cL z σ T P) sz) ([(z 0, .inr (8, [.int (iI (σ 0)), .int (iI (σ 1)), .int (iI (40000)), .int (iI (σ 3)), .int (iI (σ 4)), .int (iI (σ 5)), .ref (z 1), .ref (z 2), .int (iI ((σ 9) + (1))), .int (iI ((σ 10) + (1)))])), (z 1, .inl (cL, (σ 6).toNat, .inr (.inr (.inr (.inr (fun j => if j < (σ 6).toNat then some (z (10 + j)) else none)))))), (z 2, .inl (cL, (σ 7).toNat, .inr (.inr (.inr (.inr (fun j => if j < (σ 7).toNat then some (z (20 + j)) else none))))))] ++ (wZf cI z T (σ 6).toNat ++ wZs cI z P (σ 7).toNat)) := hD
                  refine lv_iload hx hb dX6_observe_207 (lv_at hl 2 rfl) ?_
                  exact q_giret (cells := 0) (slots := 0) (mc := 0) (ms := 0) (w1 := fun (_ : Unit) => WZ cI cL z (m_obs σ d b) T P) (()) hx hb hr hlocks hS (hla) (by first | (rw [show m_obs σ d b = st (st (st σ 9 (σ 9 + 1)) 10 (σ 10 + 1)) 2 (m_clamp (Int.tdiv (2 * (1000 * d + 500 - σ 3)) (2 * m_nt (σ 2) (σ 3) b d + b))) from if_neg (by rw [← hla, ← hnt]; omega), show m_clamp (Int.tdiv (2 * (1000 * d + 500 - σ 3)) (2 * m_nt (σ 2) (σ 3) b d + b)) = its from by rw [← hits]; unfold m_clamp; (repeat' split) <;> omega]; exact ⟨hP, hD⟩) | (rw [show m_obs σ d b = st (st (st σ 9 (σ 9 + 1)) 10 (σ 10 + 1)) 2 (m_clamp (Int.tdiv (2 * (1000 * d + 500 - σ 3)) (2 * m_nt (σ 2) (σ 3) b d + b))) from if_neg (by rw [← hla, ← hnt]; omega), show m_clamp (Int.tdiv (2 * (1000 * d + 500 - σ 3)) (2 * m_nt (σ 2) (σ 3) b d + b)) = 40000 from by rw [← hits]; unfold m_clamp; (repeat' split) <;> omega]; exact ⟨hP, hD⟩) | (rw [show m_obs σ d b = st (st (st σ 9 (σ 9 + 1)) 10 (σ 10 + 1)) 2 (m_clamp (Int.tdiv (2 * (1000 * d + 500 - σ 3)) (2 * m_nt (σ 2) (σ 3) b d + b))) from if_neg (by rw [← hla, ← hnt]; omega), show m_clamp (Int.tdiv (2 * (1000 * d + 500 - σ 3)) (2 * m_nt (σ 2) (σ 3) b d + b)) = 20000 from by rw [← hits]; unfold m_clamp; (repeat' split) <;> omega]; exact ⟨hP, hD⟩)) (by omega) (by omega) dX6_observe_209
              · skip
                refine q_sipush hx hb dX6_observe_184 (by decide) ?_
                refine lv_goto (tgt := 204) hx hb dX6_observe_187 (by decide) ?_
                refine va_put (D := D) (ci := 8) (v := .int (iI (20000))) (ty := .int) (C := RX6) (T := TX6) (N := 10) hx hb hts (fun w h => List.mem_cons_of_mem _ (List.mem_append_right _ h)) tyX6 tyX6_ok nmX6 hown hK hP hD hS 0 rfl rfl 2 (by decide) (hts (.fieldLink RX6 16 "AlmanacHouseLaw$Sim" "length" "I") (List.mem_of_getElem? (i := 1) rfl)) (fun _ h9 => h9) rfl (by decide +kernel) rfl rfl (Nat.le_of_ble_eq_true rfl) dX6_observe_204 (fun H locs hP hD hS => ?_)
                have hP : va_P D vwCl ([(z 0, .inr (8, [.int (iI (σ 0)), .int (iI (σ 1)), .int (iI (20000)), .int (iI (σ 3)), .int (iI (σ 4)), .int (iI (σ 5)), .ref (z 1), .ref (z 2), .int (iI ((σ 9) + (1))), .int (iI ((σ 10) + (1)))])), (z 1, .inl (cL, (σ 6).toNat, .inr (.inr (.inr (.inr (fun j => if j < (σ 6).toNat then some (z (10 + j)) else none)))))), (z 2, .inl (cL, (σ 7).toNat, .inr (.inr (.inr (.inr (fun j => if j < (σ 7).toNat then some (z (20 + j)) else none))))))] ++ (wZf cI z T (σ 6).toNat ++ wZs cI z P (σ 7).toNat)) H := hP
                have hD : va_D (va_A (WZ cI cL z σ T P) sz) ([(z 0, .inr (8, [.int (iI (σ 0)), .int (iI (σ 1)), .int (iI (20000)), .int (iI (σ 3)), .int (iI (σ 4)), .int (iI (σ 5)), .ref (z 1), .ref (z 2), .int (iI ((σ 9) + (1))), .int (iI ((σ 10) + (1)))])), (z 1, .inl (cL, (σ 6).toNat, .inr (.inr (.inr (.inr (fun j => if j < (σ 6).toNat then some (z (10 + j)) else none)))))), (z 2, .inl (cL, (σ 7).toNat, .inr (.inr (.inr (.inr (fun j => if j < (σ 7).toNat then some (z (20 + j)) else none))))))] ++ (wZf cI z T (σ 6).toNat ++ wZs cI z P (σ 7).toNat)) := hD
                refine lv_iload hx hb dX6_observe_207 (lv_at hl 2 rfl) ?_
                exact q_giret (cells := 0) (slots := 0) (mc := 0) (ms := 0) (w1 := fun (_ : Unit) => WZ cI cL z (m_obs σ d b) T P) (()) hx hb hr hlocks hS (hla) (by first | (rw [show m_obs σ d b = st (st (st σ 9 (σ 9 + 1)) 10 (σ 10 + 1)) 2 (m_clamp (Int.tdiv (2 * (1000 * d + 500 - σ 3)) (2 * m_nt (σ 2) (σ 3) b d + b))) from if_neg (by rw [← hla, ← hnt]; omega), show m_clamp (Int.tdiv (2 * (1000 * d + 500 - σ 3)) (2 * m_nt (σ 2) (σ 3) b d + b)) = its from by rw [← hits]; unfold m_clamp; (repeat' split) <;> omega]; exact ⟨hP, hD⟩) | (rw [show m_obs σ d b = st (st (st σ 9 (σ 9 + 1)) 10 (σ 10 + 1)) 2 (m_clamp (Int.tdiv (2 * (1000 * d + 500 - σ 3)) (2 * m_nt (σ 2) (σ 3) b d + b))) from if_neg (by rw [← hla, ← hnt]; omega), show m_clamp (Int.tdiv (2 * (1000 * d + 500 - σ 3)) (2 * m_nt (σ 2) (σ 3) b d + b)) = 40000 from by rw [← hits]; unfold m_clamp; (repeat' split) <;> omega]; exact ⟨hP, hD⟩) | (rw [show m_obs σ d b = st (st (st σ 9 (σ 9 + 1)) 10 (σ 10 + 1)) 2 (m_clamp (Int.tdiv (2 * (1000 * d + 500 - σ 3)) (2 * m_nt (σ 2) (σ 3) b d + b))) from if_neg (by rw [← hla, ← hnt]; omega), show m_clamp (Int.tdiv (2 * (1000 * d + 500 - σ 3)) (2 * m_nt (σ 2) (σ 3) b d + b)) = 20000 from by rw [← hits]; unfold m_clamp; (repeat' split) <;> omega]; exact ⟨hP, hD⟩)) (by omega) (by omega) dX6_observe_209
          · skip
            refine lv_iload_n hx hb dX6_observe_119 rfl (lv_at hl 3 rfl) ?_
            refine q_if_ne (tgt := 126) hx hb dX6_observe_120 (by decide) (by omega) (fun c_9 => ?_) (fun c_9 => ?_)
            · skip
              refine lv_aload_n hx hb dX6_observe_126 rfl (lv_at hl 1 rfl) ?_
              refine lv_dup hx hb dX6_observe_127 rfl ?_
              refine q_get (ci := 8) (C := RX6) (T := TX6) (N := 10) hx hb hts hin_X6 hown hK (v := .int (iI (σ 10))) (hP 0 _ rfl) rfl 9 (by decide) (hts (.fieldLink RX6 78 "AlmanacHouseLaw$Sim" "corrected" "I") (List.mem_of_getElem? (i := 10) rfl)) (fun _ h9 => h9) rfl dX6_observe_128 ?_
              refine q_iconst hx hb dX6_observe_131 ?_
              refine q_iadd hx hb dX6_observe_132 ?_
              refine va_put (D := D) (ci := 8) (v := .int (iI ((σ 10) + (1)))) (ty := .int) (C := RX6) (T := TX6) (N := 10) hx hb hts (fun w h => List.mem_cons_of_mem _ (List.mem_append_right _ h)) tyX6 tyX6_ok nmX6 hown hK hP hD hS 0 rfl rfl 9 (by decide) (hts (.fieldLink RX6 78 "AlmanacHouseLaw$Sim" "corrected" "I") (List.mem_of_getElem? (i := 10) rfl)) (fun _ h9 => h9) rfl (by decide +kernel) rfl rfl (Nat.le_of_ble_eq_true rfl) dX6_observe_133 (fun H locs hP hD hS => ?_)
              have hP : va_P D vwCl ([(z 0, .inr (8, [.int (iI (σ 0)), .int (iI (σ 1)), .int (iI (σ 2)), .int (iI (σ 3)), .int (iI (σ 4)), .int (iI (σ 5)), .ref (z 1), .ref (z 2), .int (iI ((σ 9) + (1))), .int (iI ((σ 10) + (1)))])), (z 1, .inl (cL, (σ 6).toNat, .inr (.inr (.inr (.inr (fun j => if j < (σ 6).toNat then some (z (10 + j)) else none)))))), (z 2, .inl (cL, (σ 7).toNat, .inr (.inr (.inr (.inr (fun j => if j < (σ 7).toNat then some (z (20 + j)) else none))))))] ++ (wZf cI z T (σ 6).toNat ++ wZs cI z P (σ 7).toNat)) H := hP
              have hD : va_D (va_A (WZ cI cL z σ T P) sz) ([(z 0, .inr (8, [.int (iI (σ 0)), .int (iI (σ 1)), .int (iI (σ 2)), .int (iI (σ 3)), .int (iI (σ 4)), .int (iI (σ 5)), .ref (z 1), .ref (z 2), .int (iI ((σ 9) + (1))), .int (iI ((σ 10) + (1)))])), (z 1, .inl (cL, (σ 6).toNat, .inr (.inr (.inr (.inr (fun j => if j < (σ 6).toNat then some (z (10 + j)) else none)))))), (z 2, .inl (cL, (σ 7).toNat, .inr (.inr (.inr (.inr (fun j => if j < (σ 7).toNat then some (z (20 + j)) else none))))))] ++ (wZf cI z T (σ 6).toNat ++ wZs cI z P (σ 7).toNat)) := hD
              refine q_sipush hx hb dX6_observe_136 (by decide) ?_
              refine lv_iload_n hx hb dX6_observe_139 rfl (lv_at hl 2 rfl) ?_
              refine q_imul hx hb dX6_observe_140 ?_
              refine q_sipush hx hb dX6_observe_141 (by decide) ?_
              refine q_iadd hx hb dX6_observe_144 ?_
              refine lv_aload_n hx hb dX6_observe_145 rfl (lv_at hl 1 rfl) ?_
              refine q_get (ci := 8) (C := RX6) (T := TX6) (N := 10) hx hb hts hin_X6 hown hK (v := .int (iI (σ 3))) (hP 0 _ rfl) rfl 3 (by decide) (hts (.fieldLink RX6 43 "AlmanacHouseLaw$Sim" "first" "I") (List.mem_of_getElem? (i := 11) rfl)) (fun _ h9 => h9) rfl dX6_observe_146 ?_
              refine q_isub hx hb dX6_observe_149 ?_
              refine q_top (fun mi emi => ?_)
              have hmr := m_tdr (x := mi) (n := be) (by omega)
              have hmr2 := m_tdr (x := 2 * mi) (n := 2 * be + 1) (by omega)
              refine lv_istore (lv' := [(6, .int (iI (mi))), (5, .int (iI (la))), (0, .ref (z 0)), (1, .int (iI (d))), (2, .int (iI (b))), (3, .int (iI (be))), (4, .int (iI (k0)))]) hx hb dX6_observe_150 hl (by decide) rfl (fun ls hl => ?_)
              refine lv_iload_n hx hb dX6_observe_152 rfl (lv_at hl 4 rfl) ?_
              refine q_if_eq (tgt := 169) hx hb dX6_observe_153 (by decide) (by omega) (fun c_10 => ?_) (fun c_10 => ?_)
              · skip
                refine lv_iload hx hb dX6_observe_169 (lv_at hl 0 rfl) ?_
                refine lv_iload_n hx hb dX6_observe_171 rfl (lv_at hl 5 rfl) ?_
                refine q_idivt hx hb dX6_observe_172 (by omega) (by omega) ?_
                refine q_top (fun its eits => ?_)
                have hits : its = Int.tdiv (2 * (1000 * d + 500 - σ 3)) (2 * m_nt (σ 2) (σ 3) b d + b) := by
                    rw [← hnt]
                    first
                    | (have hb0 : b = 0 := by omega
                       rw [eits, emi, hb0, Int.add_zero, m_td2])
                    | (have hb1 : b = 1 := by omega
                       rw [eits, emi, hb1])
                refine lv_istore (lv' := [(7, .int (iI (its))), (6, .int (iI (mi))), (5, .int (iI (la))), (0, .ref (z 0)), (1, .int (iI (d))), (2, .int (iI (b))), (3, .int (iI (be))), (4, .int (iI (k0)))]) hx hb dX6_observe_173 hl (by decide) rfl (fun ls hl => ?_)
                refine lv_aload_n hx hb dX6_observe_175 rfl (lv_at hl 3 rfl) ?_
                refine lv_iload hx hb dX6_observe_176 (lv_at hl 0 rfl) ?_
                refine q_sipush hx hb dX6_observe_178 (by decide) ?_
                refine q_icmp_ge (tgt := 190) hx hb dX6_observe_181 (by decide) (by omega) (by omega) (fun c_11 => ?_) (fun c_11 => ?_)
                · skip
                  refine lv_iload hx hb dX6_observe_190 (lv_at hl 0 rfl) ?_
                  refine q_ldc (z := 40000) hx hb hown (hts (.constant RX6 81 (40000)) (List.mem_of_getElem? (i := 12) rfl)) (by decide) dX6_observe_192 ?_
                  refine q_icmp_le (tgt := 202) hx hb dX6_observe_194 (by decide) (by omega) (by omega) (fun c_12 => ?_) (fun c_12 => ?_)
                  · skip
                    refine lv_iload hx hb dX6_observe_202 (lv_at hl 0 rfl) ?_
                    refine va_put (D := D) (ci := 8) (v := .int (iI (its))) (ty := .int) (C := RX6) (T := TX6) (N := 10) hx hb hts (fun w h => List.mem_cons_of_mem _ (List.mem_append_right _ h)) tyX6 tyX6_ok nmX6 hown hK hP hD hS 0 rfl rfl 2 (by decide) (hts (.fieldLink RX6 16 "AlmanacHouseLaw$Sim" "length" "I") (List.mem_of_getElem? (i := 1) rfl)) (fun _ h9 => h9) rfl (by decide +kernel) rfl rfl (Nat.le_of_ble_eq_true rfl) dX6_observe_204 (fun H locs hP hD hS => ?_)
                    have hP : va_P D vwCl ([(z 0, .inr (8, [.int (iI (σ 0)), .int (iI (σ 1)), .int (iI (its)), .int (iI (σ 3)), .int (iI (σ 4)), .int (iI (σ 5)), .ref (z 1), .ref (z 2), .int (iI ((σ 9) + (1))), .int (iI ((σ 10) + (1)))])), (z 1, .inl (cL, (σ 6).toNat, .inr (.inr (.inr (.inr (fun j => if j < (σ 6).toNat then some (z (10 + j)) else none)))))), (z 2, .inl (cL, (σ 7).toNat, .inr (.inr (.inr (.inr (fun j => if j < (σ 7).toNat then some (z (20 + j)) else none))))))] ++ (wZf cI z T (σ 6).toNat ++ wZs cI z P (σ 7).toNat)) H := hP
                    have hD : va_D (va_A (WZ cI cL z σ T P) sz) ([(z 0, .inr (8, [.int (iI (σ 0)), .int (iI (σ 1)), .int (iI (its)), .int (iI (σ 3)), .int (iI (σ 4)), .int (iI (σ 5)), .ref (z 1), .ref (z 2), .int (iI ((σ 9) + (1))), .int (iI ((σ 10) + (1)))])), (z 1, .inl (cL, (σ 6).toNat, .inr (.inr (.inr (.inr (fun j => if j < (σ 6).toNat then some (z (10 + j)) else none)))))), (z 2, .inl (cL, (σ 7).toNat, .inr (.inr (.inr (.inr (fun j => if j < (σ 7).toNat then some (z (20 + j)) else none))))))] ++ (wZf cI z T (σ 6).toNat ++ wZs cI z P (σ 7).toNat)) := hD
                    refine lv_iload hx hb dX6_observe_207 (lv_at hl 2 rfl) ?_
                    exact q_giret (cells := 0) (slots := 0) (mc := 0) (ms := 0) (w1 := fun (_ : Unit) => WZ cI cL z (m_obs σ d b) T P) (()) hx hb hr hlocks hS (hla) (by first | (rw [show m_obs σ d b = st (st (st σ 9 (σ 9 + 1)) 10 (σ 10 + 1)) 2 (m_clamp (Int.tdiv (2 * (1000 * d + 500 - σ 3)) (2 * m_nt (σ 2) (σ 3) b d + b))) from if_neg (by rw [← hla, ← hnt]; omega), show m_clamp (Int.tdiv (2 * (1000 * d + 500 - σ 3)) (2 * m_nt (σ 2) (σ 3) b d + b)) = its from by rw [← hits]; unfold m_clamp; (repeat' split) <;> omega]; exact ⟨hP, hD⟩) | (rw [show m_obs σ d b = st (st (st σ 9 (σ 9 + 1)) 10 (σ 10 + 1)) 2 (m_clamp (Int.tdiv (2 * (1000 * d + 500 - σ 3)) (2 * m_nt (σ 2) (σ 3) b d + b))) from if_neg (by rw [← hla, ← hnt]; omega), show m_clamp (Int.tdiv (2 * (1000 * d + 500 - σ 3)) (2 * m_nt (σ 2) (σ 3) b d + b)) = 40000 from by rw [← hits]; unfold m_clamp; (repeat' split) <;> omega]; exact ⟨hP, hD⟩) | (rw [show m_obs σ d b = st (st (st σ 9 (σ 9 + 1)) 10 (σ 10 + 1)) 2 (m_clamp (Int.tdiv (2 * (1000 * d + 500 - σ 3)) (2 * m_nt (σ 2) (σ 3) b d + b))) from if_neg (by rw [← hla, ← hnt]; omega), show m_clamp (Int.tdiv (2 * (1000 * d + 500 - σ 3)) (2 * m_nt (σ 2) (σ 3) b d + b)) = 20000 from by rw [← hits]; unfold m_clamp; (repeat' split) <;> omega]; exact ⟨hP, hD⟩)) (by omega) (by omega) dX6_observe_209
                  · skip
                    refine q_ldc (z := 40000) hx hb hown (hts (.constant RX6 81 (40000)) (List.mem_of_getElem? (i := 12) rfl)) (by decide) dX6_observe_197 ?_
                    refine lv_goto (tgt := 204) hx hb dX6_observe_199 (by decide) ?_
                    refine va_put (D := D) (ci := 8) (v := .int (iI (40000))) (ty := .int) (C := RX6) (T := TX6) (N := 10) hx hb hts (fun w h => List.mem_cons_of_mem _ (List.mem_append_right _ h)) tyX6 tyX6_ok nmX6 hown hK hP hD hS 0 rfl rfl 2 (by decide) (hts (.fieldLink RX6 16 "AlmanacHouseLaw$Sim" "length" "I") (List.mem_of_getElem? (i := 1) rfl)) (fun _ h9 => h9) rfl (by decide +kernel) rfl rfl (Nat.le_of_ble_eq_true rfl) dX6_observe_204 (fun H locs hP hD hS => ?_)
                    have hP : va_P D vwCl ([(z 0, .inr (8, [.int (iI (σ 0)), .int (iI (σ 1)), .int (iI (40000)), .int (iI (σ 3)), .int (iI (σ 4)), .int (iI (σ 5)), .ref (z 1), .ref (z 2), .int (iI ((σ 9) + (1))), .int (iI ((σ 10) + (1)))])), (z 1, .inl (cL, (σ 6).toNat, .inr (.inr (.inr (.inr (fun j => if j < (σ 6).toNat then some (z (10 + j)) else none)))))), (z 2, .inl (cL, (σ 7).toNat, .inr (.inr (.inr (.inr (fun j => if j < (σ 7).toNat then some (z (20 + j)) else none))))))] ++ (wZf cI z T (σ 6).toNat ++ wZs cI z P (σ 7).toNat)) H := hP
                    have hD : va_D (va_A (WZ cI cL z σ T P) sz) ([(z 0, .inr (8, [.int (iI (σ 0)), .int (iI (σ 1)), .int (iI (40000)), .int (iI (σ 3)), .int (iI (σ 4)), .int (iI (σ 5)), .ref (z 1), .ref (z 2), .int (iI ((σ 9) + (1))), .int (iI ((σ 10) + (1)))])), (z 1, .inl (cL, (σ 6).toNat, .inr (.inr (.inr (.inr (fun j => if j < (σ 6).toNat then some (z (10 + j)) else none)))))), (z 2, .inl (cL, (σ 7).toNat, .inr (.inr (.inr (.inr (fun j => if j < (σ 7).toNat then some (z (20 + j)) else none))))))] ++ (wZf cI z T (σ 6).toNat ++ wZs cI z P (σ 7).toNat)) := hD
                    refine lv_iload hx hb dX6_observe_207 (lv_at hl 2 rfl) ?_
                    exact q_giret (cells := 0) (slots := 0) (mc := 0) (ms := 0) (w1 := fun (_ : Unit) => WZ cI cL z (m_obs σ d b) T P) (()) hx hb hr hlocks hS (hla) (by first | (rw [show m_obs σ d b = st (st (st σ 9 (σ 9 + 1)) 10 (σ 10 + 1)) 2 (m_clamp (Int.tdiv (2 * (1000 * d + 500 - σ 3)) (2 * m_nt (σ 2) (σ 3) b d + b))) from if_neg (by rw [← hla, ← hnt]; omega), show m_clamp (Int.tdiv (2 * (1000 * d + 500 - σ 3)) (2 * m_nt (σ 2) (σ 3) b d + b)) = its from by rw [← hits]; unfold m_clamp; (repeat' split) <;> omega]; exact ⟨hP, hD⟩) | (rw [show m_obs σ d b = st (st (st σ 9 (σ 9 + 1)) 10 (σ 10 + 1)) 2 (m_clamp (Int.tdiv (2 * (1000 * d + 500 - σ 3)) (2 * m_nt (σ 2) (σ 3) b d + b))) from if_neg (by rw [← hla, ← hnt]; omega), show m_clamp (Int.tdiv (2 * (1000 * d + 500 - σ 3)) (2 * m_nt (σ 2) (σ 3) b d + b)) = 40000 from by rw [← hits]; unfold m_clamp; (repeat' split) <;> omega]; exact ⟨hP, hD⟩) | (rw [show m_obs σ d b = st (st (st σ 9 (σ 9 + 1)) 10 (σ 10 + 1)) 2 (m_clamp (Int.tdiv (2 * (1000 * d + 500 - σ 3)) (2 * m_nt (σ 2) (σ 3) b d + b))) from if_neg (by rw [← hla, ← hnt]; omega), show m_clamp (Int.tdiv (2 * (1000 * d + 500 - σ 3)) (2 * m_nt (σ 2) (σ 3) b d + b)) = 20000 from by rw [← hits]; unfold m_clamp; (repeat' split) <;> omega]; exact ⟨hP, hD⟩)) (by omega) (by omega) dX6_observe_209
                · skip
                  refine q_sipush hx hb dX6_observe_184 (by decide) ?_
                  refine lv_goto (tgt := 204) hx hb dX6_observe_187 (by decide) ?_
                  refine va_put (D := D) (ci := 8) (v := .int (iI (20000))) (ty := .int) (C := RX6) (T := TX6) (N := 10) hx hb hts (fun w h => List.mem_cons_of_mem _ (List.mem_append_right _ h)) tyX6 tyX6_ok nmX6 hown hK hP hD hS 0 rfl rfl 2 (by decide) (hts (.fieldLink RX6 16 "AlmanacHouseLaw$Sim" "length" "I") (List.mem_of_getElem? (i := 1) rfl)) (fun _ h9 => h9) rfl (by decide +kernel) rfl rfl (Nat.le_of_ble_eq_true rfl) dX6_observe_204 (fun H locs hP hD hS => ?_)
                  have hP : va_P D vwCl ([(z 0, .inr (8, [.int (iI (σ 0)), .int (iI (σ 1)), .int (iI (20000)), .int (iI (σ 3)), .int (iI (σ 4)), .int (iI (σ 5)), .ref (z 1), .ref (z 2), .int (iI ((σ 9) + (1))), .int (iI ((σ 10) + (1)))])), (z 1, .inl (cL, (σ 6).toNat, .inr (.inr (.inr (.inr (fun j => if j < (σ 6).toNat then some (z (10 + j)) else none)))))), (z 2, .inl (cL, (σ 7).toNat, .inr (.inr (.inr (.inr (fun j => if j < (σ 7).toNat then some (z (20 + j)) else none))))))] ++ (wZf cI z T (σ 6).toNat ++ wZs cI z P (σ 7).toNat)) H := hP
                  have hD : va_D (va_A (WZ cI cL z σ T P) sz) ([(z 0, .inr (8, [.int (iI (σ 0)), .int (iI (σ 1)), .int (iI (20000)), .int (iI (σ 3)), .int (iI (σ 4)), .int (iI (σ 5)), .ref (z 1), .ref (z 2), .int (iI ((σ 9) + (1))), .int (iI ((σ 10) + (1)))])), (z 1, .inl (cL, (σ 6).toNat, .inr (.inr (.inr (.inr (fun j => if j < (σ 6).toNat then some (z (10 + j)) else none)))))), (z 2, .inl (cL, (σ 7).toNat, .inr (.inr (.inr (.inr (fun j => if j < (σ 7).toNat then some (z (20 + j)) else none))))))] ++ (wZf cI z T (σ 6).toNat ++ wZs cI z P (σ 7).toNat)) := hD
                  refine lv_iload hx hb dX6_observe_207 (lv_at hl 2 rfl) ?_
                  exact q_giret (cells := 0) (slots := 0) (mc := 0) (ms := 0) (w1 := fun (_ : Unit) => WZ cI cL z (m_obs σ d b) T P) (()) hx hb hr hlocks hS (hla) (by first | (rw [show m_obs σ d b = st (st (st σ 9 (σ 9 + 1)) 10 (σ 10 + 1)) 2 (m_clamp (Int.tdiv (2 * (1000 * d + 500 - σ 3)) (2 * m_nt (σ 2) (σ 3) b d + b))) from if_neg (by rw [← hla, ← hnt]; omega), show m_clamp (Int.tdiv (2 * (1000 * d + 500 - σ 3)) (2 * m_nt (σ 2) (σ 3) b d + b)) = its from by rw [← hits]; unfold m_clamp; (repeat' split) <;> omega]; exact ⟨hP, hD⟩) | (rw [show m_obs σ d b = st (st (st σ 9 (σ 9 + 1)) 10 (σ 10 + 1)) 2 (m_clamp (Int.tdiv (2 * (1000 * d + 500 - σ 3)) (2 * m_nt (σ 2) (σ 3) b d + b))) from if_neg (by rw [← hla, ← hnt]; omega), show m_clamp (Int.tdiv (2 * (1000 * d + 500 - σ 3)) (2 * m_nt (σ 2) (σ 3) b d + b)) = 40000 from by rw [← hits]; unfold m_clamp; (repeat' split) <;> omega]; exact ⟨hP, hD⟩) | (rw [show m_obs σ d b = st (st (st σ 9 (σ 9 + 1)) 10 (σ 10 + 1)) 2 (m_clamp (Int.tdiv (2 * (1000 * d + 500 - σ 3)) (2 * m_nt (σ 2) (σ 3) b d + b))) from if_neg (by rw [← hla, ← hnt]; omega), show m_clamp (Int.tdiv (2 * (1000 * d + 500 - σ 3)) (2 * m_nt (σ 2) (σ 3) b d + b)) = 20000 from by rw [← hits]; unfold m_clamp; (repeat' split) <;> omega]; exact ⟨hP, hD⟩)) (by omega) (by omega) dX6_observe_209
              · skip
                refine q_iconst hx hb dX6_observe_156 ?_
                refine lv_iload hx hb dX6_observe_157 (lv_at hl 0 rfl) ?_
                refine q_imul hx hb dX6_observe_159 ?_
                refine q_iconst hx hb dX6_observe_160 ?_
                refine lv_iload_n hx hb dX6_observe_161 rfl (lv_at hl 5 rfl) ?_
                refine q_imul hx hb dX6_observe_162 ?_
                refine q_iconst hx hb dX6_observe_163 ?_
                refine q_iadd hx hb dX6_observe_164 ?_
                refine q_idivt hx hb dX6_observe_165 (by omega) (by omega) ?_
                refine lv_goto (tgt := 173) hx hb dX6_observe_166 (by decide) ?_
                refine q_top (fun its eits => ?_)
                have hits : its = Int.tdiv (2 * (1000 * d + 500 - σ 3)) (2 * m_nt (σ 2) (σ 3) b d + b) := by
                    rw [← hnt]
                    first
                    | (have hb0 : b = 0 := by omega
                       rw [eits, emi, hb0, Int.add_zero, m_td2])
                    | (have hb1 : b = 1 := by omega
                       rw [eits, emi, hb1])
                refine lv_istore (lv' := [(7, .int (iI (its))), (6, .int (iI (mi))), (5, .int (iI (la))), (0, .ref (z 0)), (1, .int (iI (d))), (2, .int (iI (b))), (3, .int (iI (be))), (4, .int (iI (k0)))]) hx hb dX6_observe_173 hl (by decide) rfl (fun ls hl => ?_)
                refine lv_aload_n hx hb dX6_observe_175 rfl (lv_at hl 3 rfl) ?_
                refine lv_iload hx hb dX6_observe_176 (lv_at hl 0 rfl) ?_
                refine q_sipush hx hb dX6_observe_178 (by decide) ?_
                refine q_icmp_ge (tgt := 190) hx hb dX6_observe_181 (by decide) (by omega) (by omega) (fun c_13 => ?_) (fun c_13 => ?_)
                · skip
                  refine lv_iload hx hb dX6_observe_190 (lv_at hl 0 rfl) ?_
                  refine q_ldc (z := 40000) hx hb hown (hts (.constant RX6 81 (40000)) (List.mem_of_getElem? (i := 12) rfl)) (by decide) dX6_observe_192 ?_
                  refine q_icmp_le (tgt := 202) hx hb dX6_observe_194 (by decide) (by omega) (by omega) (fun c_14 => ?_) (fun c_14 => ?_)
                  · skip
                    refine lv_iload hx hb dX6_observe_202 (lv_at hl 0 rfl) ?_
                    refine va_put (D := D) (ci := 8) (v := .int (iI (its))) (ty := .int) (C := RX6) (T := TX6) (N := 10) hx hb hts (fun w h => List.mem_cons_of_mem _ (List.mem_append_right _ h)) tyX6 tyX6_ok nmX6 hown hK hP hD hS 0 rfl rfl 2 (by decide) (hts (.fieldLink RX6 16 "AlmanacHouseLaw$Sim" "length" "I") (List.mem_of_getElem? (i := 1) rfl)) (fun _ h9 => h9) rfl (by decide +kernel) rfl rfl (Nat.le_of_ble_eq_true rfl) dX6_observe_204 (fun H locs hP hD hS => ?_)
                    have hP : va_P D vwCl ([(z 0, .inr (8, [.int (iI (σ 0)), .int (iI (σ 1)), .int (iI (its)), .int (iI (σ 3)), .int (iI (σ 4)), .int (iI (σ 5)), .ref (z 1), .ref (z 2), .int (iI ((σ 9) + (1))), .int (iI ((σ 10) + (1)))])), (z 1, .inl (cL, (σ 6).toNat, .inr (.inr (.inr (.inr (fun j => if j < (σ 6).toNat then some (z (10 + j)) else none)))))), (z 2, .inl (cL, (σ 7).toNat, .inr (.inr (.inr (.inr (fun j => if j < (σ 7).toNat then some (z (20 + j)) else none))))))] ++ (wZf cI z T (σ 6).toNat ++ wZs cI z P (σ 7).toNat)) H := hP
                    have hD : va_D (va_A (WZ cI cL z σ T P) sz) ([(z 0, .inr (8, [.int (iI (σ 0)), .int (iI (σ 1)), .int (iI (its)), .int (iI (σ 3)), .int (iI (σ 4)), .int (iI (σ 5)), .ref (z 1), .ref (z 2), .int (iI ((σ 9) + (1))), .int (iI ((σ 10) + (1)))])), (z 1, .inl (cL, (σ 6).toNat, .inr (.inr (.inr (.inr (fun j => if j < (σ 6).toNat then some (z (10 + j)) else none)))))), (z 2, .inl (cL, (σ 7).toNat, .inr (.inr (.inr (.inr (fun j => if j < (σ 7).toNat then some (z (20 + j)) else none))))))] ++ (wZf cI z T (σ 6).toNat ++ wZs cI z P (σ 7).toNat)) := hD
                    refine lv_iload hx hb dX6_observe_207 (lv_at hl 2 rfl) ?_
                    exact q_giret (cells := 0) (slots := 0) (mc := 0) (ms := 0) (w1 := fun (_ : Unit) => WZ cI cL z (m_obs σ d b) T P) (()) hx hb hr hlocks hS (hla) (by first | (rw [show m_obs σ d b = st (st (st σ 9 (σ 9 + 1)) 10 (σ 10 + 1)) 2 (m_clamp (Int.tdiv (2 * (1000 * d + 500 - σ 3)) (2 * m_nt (σ 2) (σ 3) b d + b))) from if_neg (by rw [← hla, ← hnt]; omega), show m_clamp (Int.tdiv (2 * (1000 * d + 500 - σ 3)) (2 * m_nt (σ 2) (σ 3) b d + b)) = its from by rw [← hits]; unfold m_clamp; (repeat' split) <;> omega]; exact ⟨hP, hD⟩) | (rw [show m_obs σ d b = st (st (st σ 9 (σ 9 + 1)) 10 (σ 10 + 1)) 2 (m_clamp (Int.tdiv (2 * (1000 * d + 500 - σ 3)) (2 * m_nt (σ 2) (σ 3) b d + b))) from if_neg (by rw [← hla, ← hnt]; omega), show m_clamp (Int.tdiv (2 * (1000 * d + 500 - σ 3)) (2 * m_nt (σ 2) (σ 3) b d + b)) = 40000 from by rw [← hits]; unfold m_clamp; (repeat' split) <;> omega]; exact ⟨hP, hD⟩) | (rw [show m_obs σ d b = st (st (st σ 9 (σ 9 + 1)) 10 (σ 10 + 1)) 2 (m_clamp (Int.tdiv (2 * (1000 * d + 500 - σ 3)) (2 * m_nt (σ 2) (σ 3) b d + b))) from if_neg (by rw [← hla, ← hnt]; omega), show m_clamp (Int.tdiv (2 * (1000 * d + 500 - σ 3)) (2 * m_nt (σ 2) (σ 3) b d + b)) = 20000 from by rw [← hits]; unfold m_clamp; (repeat' split) <;> omega]; exact ⟨hP, hD⟩)) (by omega) (by omega) dX6_observe_209
                  · skip
                    refine q_ldc (z := 40000) hx hb hown (hts (.constant RX6 81 (40000)) (List.mem_of_getElem? (i := 12) rfl)) (by decide) dX6_observe_197 ?_
                    refine lv_goto (tgt := 204) hx hb dX6_observe_199 (by decide) ?_
                    refine va_put (D := D) (ci := 8) (v := .int (iI (40000))) (ty := .int) (C := RX6) (T := TX6) (N := 10) hx hb hts (fun w h => List.mem_cons_of_mem _ (List.mem_append_right _ h)) tyX6 tyX6_ok nmX6 hown hK hP hD hS 0 rfl rfl 2 (by decide) (hts (.fieldLink RX6 16 "AlmanacHouseLaw$Sim" "length" "I") (List.mem_of_getElem? (i := 1) rfl)) (fun _ h9 => h9) rfl (by decide +kernel) rfl rfl (Nat.le_of_ble_eq_true rfl) dX6_observe_204 (fun H locs hP hD hS => ?_)
                    have hP : va_P D vwCl ([(z 0, .inr (8, [.int (iI (σ 0)), .int (iI (σ 1)), .int (iI (40000)), .int (iI (σ 3)), .int (iI (σ 4)), .int (iI (σ 5)), .ref (z 1), .ref (z 2), .int (iI ((σ 9) + (1))), .int (iI ((σ 10) + (1)))])), (z 1, .inl (cL, (σ 6).toNat, .inr (.inr (.inr (.inr (fun j => if j < (σ 6).toNat then some (z (10 + j)) else none)))))), (z 2, .inl (cL, (σ 7).toNat, .inr (.inr (.inr (.inr (fun j => if j < (σ 7).toNat then some (z (20 + j)) else none))))))] ++ (wZf cI z T (σ 6).toNat ++ wZs cI z P (σ 7).toNat)) H := hP
                    have hD : va_D (va_A (WZ cI cL z σ T P) sz) ([(z 0, .inr (8, [.int (iI (σ 0)), .int (iI (σ 1)), .int (iI (40000)), .int (iI (σ 3)), .int (iI (σ 4)), .int (iI (σ 5)), .ref (z 1), .ref (z 2), .int (iI ((σ 9) + (1))), .int (iI ((σ 10) + (1)))])), (z 1, .inl (cL, (σ 6).toNat, .inr (.inr (.inr (.inr (fun j => if j < (σ 6).toNat then some (z (10 + j)) else none)))))), (z 2, .inl (cL, (σ 7).toNat, .inr (.inr (.inr (.inr (fun j => if j < (σ 7).toNat then some (z (20 + j)) else none))))))] ++ (wZf cI z T (σ 6).toNat ++ wZs cI z P (σ 7).toNat)) := hD
                    refine lv_iload hx hb dX6_observe_207 (lv_at hl 2 rfl) ?_
                    exact q_giret (cells := 0) (slots := 0) (mc := 0) (ms := 0) (w1 := fun (_ : Unit) => WZ cI cL z (m_obs σ d b) T P) (()) hx hb hr hlocks hS (hla) (by first | (rw [show m_obs σ d b = st (st (st σ 9 (σ 9 + 1)) 10 (σ 10 + 1)) 2 (m_clamp (Int.tdiv (2 * (1000 * d + 500 - σ 3)) (2 * m_nt (σ 2) (σ 3) b d + b))) from if_neg (by rw [← hla, ← hnt]; omega), show m_clamp (Int.tdiv (2 * (1000 * d + 500 - σ 3)) (2 * m_nt (σ 2) (σ 3) b d + b)) = its from by rw [← hits]; unfold m_clamp; (repeat' split) <;> omega]; exact ⟨hP, hD⟩) | (rw [show m_obs σ d b = st (st (st σ 9 (σ 9 + 1)) 10 (σ 10 + 1)) 2 (m_clamp (Int.tdiv (2 * (1000 * d + 500 - σ 3)) (2 * m_nt (σ 2) (σ 3) b d + b))) from if_neg (by rw [← hla, ← hnt]; omega), show m_clamp (Int.tdiv (2 * (1000 * d + 500 - σ 3)) (2 * m_nt (σ 2) (σ 3) b d + b)) = 40000 from by rw [← hits]; unfold m_clamp; (repeat' split) <;> omega]; exact ⟨hP, hD⟩) | (rw [show m_obs σ d b = st (st (st σ 9 (σ 9 + 1)) 10 (σ 10 + 1)) 2 (m_clamp (Int.tdiv (2 * (1000 * d + 500 - σ 3)) (2 * m_nt (σ 2) (σ 3) b d + b))) from if_neg (by rw [← hla, ← hnt]; omega), show m_clamp (Int.tdiv (2 * (1000 * d + 500 - σ 3)) (2 * m_nt (σ 2) (σ 3) b d + b)) = 20000 from by rw [← hits]; unfold m_clamp; (repeat' split) <;> omega]; exact ⟨hP, hD⟩)) (by omega) (by omega) dX6_observe_209
                · skip
                  refine q_sipush hx hb dX6_observe_184 (by decide) ?_
                  refine lv_goto (tgt := 204) hx hb dX6_observe_187 (by decide) ?_
                  refine va_put (D := D) (ci := 8) (v := .int (iI (20000))) (ty := .int) (C := RX6) (T := TX6) (N := 10) hx hb hts (fun w h => List.mem_cons_of_mem _ (List.mem_append_right _ h)) tyX6 tyX6_ok nmX6 hown hK hP hD hS 0 rfl rfl 2 (by decide) (hts (.fieldLink RX6 16 "AlmanacHouseLaw$Sim" "length" "I") (List.mem_of_getElem? (i := 1) rfl)) (fun _ h9 => h9) rfl (by decide +kernel) rfl rfl (Nat.le_of_ble_eq_true rfl) dX6_observe_204 (fun H locs hP hD hS => ?_)
                  have hP : va_P D vwCl ([(z 0, .inr (8, [.int (iI (σ 0)), .int (iI (σ 1)), .int (iI (20000)), .int (iI (σ 3)), .int (iI (σ 4)), .int (iI (σ 5)), .ref (z 1), .ref (z 2), .int (iI ((σ 9) + (1))), .int (iI ((σ 10) + (1)))])), (z 1, .inl (cL, (σ 6).toNat, .inr (.inr (.inr (.inr (fun j => if j < (σ 6).toNat then some (z (10 + j)) else none)))))), (z 2, .inl (cL, (σ 7).toNat, .inr (.inr (.inr (.inr (fun j => if j < (σ 7).toNat then some (z (20 + j)) else none))))))] ++ (wZf cI z T (σ 6).toNat ++ wZs cI z P (σ 7).toNat)) H := hP
                  have hD : va_D (va_A (WZ cI cL z σ T P) sz) ([(z 0, .inr (8, [.int (iI (σ 0)), .int (iI (σ 1)), .int (iI (20000)), .int (iI (σ 3)), .int (iI (σ 4)), .int (iI (σ 5)), .ref (z 1), .ref (z 2), .int (iI ((σ 9) + (1))), .int (iI ((σ 10) + (1)))])), (z 1, .inl (cL, (σ 6).toNat, .inr (.inr (.inr (.inr (fun j => if j < (σ 6).toNat then some (z (10 + j)) else none)))))), (z 2, .inl (cL, (σ 7).toNat, .inr (.inr (.inr (.inr (fun j => if j < (σ 7).toNat then some (z (20 + j)) else none))))))] ++ (wZf cI z T (σ 6).toNat ++ wZs cI z P (σ 7).toNat)) := hD
                  refine lv_iload hx hb dX6_observe_207 (lv_at hl 2 rfl) ?_
                  exact q_giret (cells := 0) (slots := 0) (mc := 0) (ms := 0) (w1 := fun (_ : Unit) => WZ cI cL z (m_obs σ d b) T P) (()) hx hb hr hlocks hS (hla) (by first | (rw [show m_obs σ d b = st (st (st σ 9 (σ 9 + 1)) 10 (σ 10 + 1)) 2 (m_clamp (Int.tdiv (2 * (1000 * d + 500 - σ 3)) (2 * m_nt (σ 2) (σ 3) b d + b))) from if_neg (by rw [← hla, ← hnt]; omega), show m_clamp (Int.tdiv (2 * (1000 * d + 500 - σ 3)) (2 * m_nt (σ 2) (σ 3) b d + b)) = its from by rw [← hits]; unfold m_clamp; (repeat' split) <;> omega]; exact ⟨hP, hD⟩) | (rw [show m_obs σ d b = st (st (st σ 9 (σ 9 + 1)) 10 (σ 10 + 1)) 2 (m_clamp (Int.tdiv (2 * (1000 * d + 500 - σ 3)) (2 * m_nt (σ 2) (σ 3) b d + b))) from if_neg (by rw [← hla, ← hnt]; omega), show m_clamp (Int.tdiv (2 * (1000 * d + 500 - σ 3)) (2 * m_nt (σ 2) (σ 3) b d + b)) = 40000 from by rw [← hits]; unfold m_clamp; (repeat' split) <;> omega]; exact ⟨hP, hD⟩) | (rw [show m_obs σ d b = st (st (st σ 9 (σ 9 + 1)) 10 (σ 10 + 1)) 2 (m_clamp (Int.tdiv (2 * (1000 * d + 500 - σ 3)) (2 * m_nt (σ 2) (σ 3) b d + b))) from if_neg (by rw [← hla, ← hnt]; omega), show m_clamp (Int.tdiv (2 * (1000 * d + 500 - σ 3)) (2 * m_nt (σ 2) (σ 3) b d + b)) = 20000 from by rw [← hits]; unfold m_clamp; (repeat' split) <;> omega]; exact ⟨hP, hD⟩)) (by omega) (by omega) dX6_observe_209
            · skip
              refine lv_iload hx hb dX6_observe_123 (lv_at hl 0 rfl) ?_
              exact q_giret (cells := 0) (slots := 0) (mc := 0) (ms := 0) (w1 := fun (_ : Unit) => WZ cI cL z (m_obs σ d b) T P) (()) hx hb hr hlocks hS (hla) (by rw [show m_obs σ d b = st σ 9 (σ 9 + 1) from if_pos (by rw [← hla, ← hnt]; omega)]; exact ⟨hP, hD⟩) (by omega) (by omega) dX6_observe_125
      · skip
        refine lv_iload hx hb dX6_observe_32 (lv_at hl 5 rfl) ?_
        refine lv_iload hx hb dX6_observe_34 (lv_at hl 4 rfl) ?_
        refine q_iconst hx hb dX6_observe_36 ?_
        refine q_isub hx hb dX6_observe_37 ?_
        refine q_icmp_lt (tgt := 90) hx hb dX6_observe_38 (by decide) (by omega) (by omega) (fun c_15 => ?_) (fun c_15 => ?_)
        · skip
          refine lv_iload_n hx hb dX6_observe_90 rfl (lv_at hl 1 rfl) ?_
          refine lv_aload_n hx hb dX6_observe_91 rfl (lv_at hl 0 rfl) ?_
          refine lv_iload_n hx hb dX6_observe_92 rfl (lv_at hl 3 rfl) ?_
          refine lv_iload_n hx hb dX6_observe_93 rfl (lv_at hl 2 rfl) ?_
          refine q_callV (fr := 1) (lo := 22) (nL := 8) (Pic := PicS D cI cL z σ T P) (As := [.int (iI (be)), .int (iI (b))]) (rest := [.int (iI (d))]) ⟨hx, hb, hml, hown, hts⟩ (z_moon l D cI cO cL z σ T P hW hSS (be) (b) (by omega) (by omega)) (cwV 2 hts gX6_observe_X6_moon rfl rfl rfl (by decide +kernel) ⟨Nat.le_of_ble_eq_true rfl, Nat.le_of_ble_eq_true rfl⟩) (ob_recv hPic.at0 hK rfl) hPic hK rfl hl.1 rfl (Nat.le_of_ble_eq_true rfl) dX6_observe_94 (Nat.zero_le _) (Nat.zero_le _) ?_
          have htm94 := m_tm_in (ln := σ 2) (fi := σ 3) (b := (b)) (k := (be)) w2 w3 (by omega)
          refine q_isub hx hb dX6_observe_97 ?_
          refine q_top (fun la ela => ?_)
          have hnt : be = m_nt (σ 2) (σ 3) b d := by
              rcases hbe with h9 | h9
              · exfalso; omega
              · rw [h9.2]; exact s_best_end (by omega) hff
          have hla : la = m_late σ d b := by rw [ela, hnt]; rfl
          refine lv_istore (lv' := [(5, .int (iI (la))), (0, .ref (z 0)), (1, .int (iI (d))), (2, .int (iI (b))), (3, .int (iI (be))), (4, .int (iI (k0)))]) hx hb dX6_observe_98 hl (by decide) rfl (fun ls hl => ?_)
          refine lv_aload_n hx hb dX6_observe_100 rfl (lv_at hl 1 rfl) ?_
          refine lv_dup hx hb dX6_observe_101 rfl ?_
          refine q_get (ci := 8) (C := RX6) (T := TX6) (N := 10) hx hb hts hin_X6 hown hK (v := .int (iI (σ 9))) (hP 0 _ rfl) rfl 8 (by decide) (hts (.fieldLink RX6 75 "AlmanacHouseLaw$Sim" "seen" "I") (List.mem_of_getElem? (i := 9) rfl)) (fun _ h9 => h9) rfl dX6_observe_102 ?_
          refine q_iconst hx hb dX6_observe_105 ?_
          refine q_iadd hx hb dX6_observe_106 ?_
          refine va_put (D := D) (ci := 8) (v := .int (iI ((σ 9) + (1)))) (ty := .int) (C := RX6) (T := TX6) (N := 10) hx hb hts (fun w h => List.mem_cons_of_mem _ (List.mem_append_right _ h)) tyX6 tyX6_ok nmX6 hown hK hP hD hS 0 rfl rfl 8 (by decide) (hts (.fieldLink RX6 75 "AlmanacHouseLaw$Sim" "seen" "I") (List.mem_of_getElem? (i := 9) rfl)) (fun _ h9 => h9) rfl (by decide +kernel) rfl rfl (Nat.le_of_ble_eq_true rfl) dX6_observe_107 (fun H locs hP hD hS => ?_)
          have hP : va_P D vwCl ([(z 0, .inr (8, [.int (iI (σ 0)), .int (iI (σ 1)), .int (iI (σ 2)), .int (iI (σ 3)), .int (iI (σ 4)), .int (iI (σ 5)), .ref (z 1), .ref (z 2), .int (iI ((σ 9) + (1))), .int (iI (σ 10))])), (z 1, .inl (cL, (σ 6).toNat, .inr (.inr (.inr (.inr (fun j => if j < (σ 6).toNat then some (z (10 + j)) else none)))))), (z 2, .inl (cL, (σ 7).toNat, .inr (.inr (.inr (.inr (fun j => if j < (σ 7).toNat then some (z (20 + j)) else none))))))] ++ (wZf cI z T (σ 6).toNat ++ wZs cI z P (σ 7).toNat)) H := hP
          have hD : va_D (va_A (WZ cI cL z σ T P) sz) ([(z 0, .inr (8, [.int (iI (σ 0)), .int (iI (σ 1)), .int (iI (σ 2)), .int (iI (σ 3)), .int (iI (σ 4)), .int (iI (σ 5)), .ref (z 1), .ref (z 2), .int (iI ((σ 9) + (1))), .int (iI (σ 10))])), (z 1, .inl (cL, (σ 6).toNat, .inr (.inr (.inr (.inr (fun j => if j < (σ 6).toNat then some (z (10 + j)) else none)))))), (z 2, .inl (cL, (σ 7).toNat, .inr (.inr (.inr (.inr (fun j => if j < (σ 7).toNat then some (z (20 + j)) else none))))))] ++ (wZf cI z T (σ 6).toNat ++ wZs cI z P (σ 7).toNat)) := hD
          refine lv_iload hx hb dX6_observe_110 (lv_at hl 0 rfl) ?_
          refine q_if_eq (tgt := 123) hx hb dX6_observe_112 (by decide) (by omega) (fun c_16 => ?_) (fun c_16 => ?_)
          · skip
            refine lv_iload hx hb dX6_observe_123 (lv_at hl 0 rfl) ?_
            exact q_giret (cells := 0) (slots := 0) (mc := 0) (ms := 0) (w1 := fun (_ : Unit) => WZ cI cL z (m_obs σ d b) T P) (()) hx hb hr hlocks hS (hla) (by rw [show m_obs σ d b = st σ 9 (σ 9 + 1) from if_pos (by rw [← hla, ← hnt]; omega)]; exact ⟨hP, hD⟩) (by omega) (by omega) dX6_observe_125
          · skip
            refine lv_iload_n hx hb dX6_observe_115 rfl (lv_at hl 4 rfl) ?_
            refine q_if_ne (tgt := 126) hx hb dX6_observe_116 (by decide) (by omega) (fun c_17 => ?_) (fun c_17 => ?_)
            · skip
              refine lv_aload_n hx hb dX6_observe_126 rfl (lv_at hl 1 rfl) ?_
              refine lv_dup hx hb dX6_observe_127 rfl ?_
              refine q_get (ci := 8) (C := RX6) (T := TX6) (N := 10) hx hb hts hin_X6 hown hK (v := .int (iI (σ 10))) (hP 0 _ rfl) rfl 9 (by decide) (hts (.fieldLink RX6 78 "AlmanacHouseLaw$Sim" "corrected" "I") (List.mem_of_getElem? (i := 10) rfl)) (fun _ h9 => h9) rfl dX6_observe_128 ?_
              refine q_iconst hx hb dX6_observe_131 ?_
              refine q_iadd hx hb dX6_observe_132 ?_
              refine va_put (D := D) (ci := 8) (v := .int (iI ((σ 10) + (1)))) (ty := .int) (C := RX6) (T := TX6) (N := 10) hx hb hts (fun w h => List.mem_cons_of_mem _ (List.mem_append_right _ h)) tyX6 tyX6_ok nmX6 hown hK hP hD hS 0 rfl rfl 9 (by decide) (hts (.fieldLink RX6 78 "AlmanacHouseLaw$Sim" "corrected" "I") (List.mem_of_getElem? (i := 10) rfl)) (fun _ h9 => h9) rfl (by decide +kernel) rfl rfl (Nat.le_of_ble_eq_true rfl) dX6_observe_133 (fun H locs hP hD hS => ?_)
              have hP : va_P D vwCl ([(z 0, .inr (8, [.int (iI (σ 0)), .int (iI (σ 1)), .int (iI (σ 2)), .int (iI (σ 3)), .int (iI (σ 4)), .int (iI (σ 5)), .ref (z 1), .ref (z 2), .int (iI ((σ 9) + (1))), .int (iI ((σ 10) + (1)))])), (z 1, .inl (cL, (σ 6).toNat, .inr (.inr (.inr (.inr (fun j => if j < (σ 6).toNat then some (z (10 + j)) else none)))))), (z 2, .inl (cL, (σ 7).toNat, .inr (.inr (.inr (.inr (fun j => if j < (σ 7).toNat then some (z (20 + j)) else none))))))] ++ (wZf cI z T (σ 6).toNat ++ wZs cI z P (σ 7).toNat)) H := hP
              have hD : va_D (va_A (WZ cI cL z σ T P) sz) ([(z 0, .inr (8, [.int (iI (σ 0)), .int (iI (σ 1)), .int (iI (σ 2)), .int (iI (σ 3)), .int (iI (σ 4)), .int (iI (σ 5)), .ref (z 1), .ref (z 2), .int (iI ((σ 9) + (1))), .int (iI ((σ 10) + (1)))])), (z 1, .inl (cL, (σ 6).toNat, .inr (.inr (.inr (.inr (fun j => if j < (σ 6).toNat then some (z (10 + j)) else none)))))), (z 2, .inl (cL, (σ 7).toNat, .inr (.inr (.inr (.inr (fun j => if j < (σ 7).toNat then some (z (20 + j)) else none))))))] ++ (wZf cI z T (σ 6).toNat ++ wZs cI z P (σ 7).toNat)) := hD
              refine q_sipush hx hb dX6_observe_136 (by decide) ?_
              refine lv_iload_n hx hb dX6_observe_139 rfl (lv_at hl 2 rfl) ?_
              refine q_imul hx hb dX6_observe_140 ?_
              refine q_sipush hx hb dX6_observe_141 (by decide) ?_
              refine q_iadd hx hb dX6_observe_144 ?_
              refine lv_aload_n hx hb dX6_observe_145 rfl (lv_at hl 1 rfl) ?_
              refine q_get (ci := 8) (C := RX6) (T := TX6) (N := 10) hx hb hts hin_X6 hown hK (v := .int (iI (σ 3))) (hP 0 _ rfl) rfl 3 (by decide) (hts (.fieldLink RX6 43 "AlmanacHouseLaw$Sim" "first" "I") (List.mem_of_getElem? (i := 11) rfl)) (fun _ h9 => h9) rfl dX6_observe_146 ?_
              refine q_isub hx hb dX6_observe_149 ?_
              refine q_top (fun mi emi => ?_)
              have hmr := m_tdr (x := mi) (n := be) (by omega)
              have hmr2 := m_tdr (x := 2 * mi) (n := 2 * be + 1) (by omega)
              refine lv_istore (lv' := [(6, .int (iI (mi))), (5, .int (iI (la))), (0, .ref (z 0)), (1, .int (iI (d))), (2, .int (iI (b))), (3, .int (iI (be))), (4, .int (iI (k0)))]) hx hb dX6_observe_150 hl (by decide) rfl (fun ls hl => ?_)
              refine lv_iload_n hx hb dX6_observe_152 rfl (lv_at hl 4 rfl) ?_
              refine q_if_eq (tgt := 169) hx hb dX6_observe_153 (by decide) (by omega) (fun c_18 => ?_) (fun c_18 => ?_)
              · skip
                refine lv_iload hx hb dX6_observe_169 (lv_at hl 0 rfl) ?_
                refine lv_iload_n hx hb dX6_observe_171 rfl (lv_at hl 5 rfl) ?_
                refine q_idivt hx hb dX6_observe_172 (by omega) (by omega) ?_
                refine q_top (fun its eits => ?_)
                have hits : its = Int.tdiv (2 * (1000 * d + 500 - σ 3)) (2 * m_nt (σ 2) (σ 3) b d + b) := by
                    rw [← hnt]
                    first
                    | (have hb0 : b = 0 := by omega
                       rw [eits, emi, hb0, Int.add_zero, m_td2])
                    | (have hb1 : b = 1 := by omega
                       rw [eits, emi, hb1])
                refine lv_istore (lv' := [(7, .int (iI (its))), (6, .int (iI (mi))), (5, .int (iI (la))), (0, .ref (z 0)), (1, .int (iI (d))), (2, .int (iI (b))), (3, .int (iI (be))), (4, .int (iI (k0)))]) hx hb dX6_observe_173 hl (by decide) rfl (fun ls hl => ?_)
                refine lv_aload_n hx hb dX6_observe_175 rfl (lv_at hl 3 rfl) ?_
                refine lv_iload hx hb dX6_observe_176 (lv_at hl 0 rfl) ?_
                refine q_sipush hx hb dX6_observe_178 (by decide) ?_
                refine q_icmp_ge (tgt := 190) hx hb dX6_observe_181 (by decide) (by omega) (by omega) (fun c_19 => ?_) (fun c_19 => ?_)
                · skip
                  refine lv_iload hx hb dX6_observe_190 (lv_at hl 0 rfl) ?_
                  refine q_ldc (z := 40000) hx hb hown (hts (.constant RX6 81 (40000)) (List.mem_of_getElem? (i := 12) rfl)) (by decide) dX6_observe_192 ?_
                  refine q_icmp_le (tgt := 202) hx hb dX6_observe_194 (by decide) (by omega) (by omega) (fun c_20 => ?_) (fun c_20 => ?_)
                  · skip
                    refine lv_iload hx hb dX6_observe_202 (lv_at hl 0 rfl) ?_
                    refine va_put (D := D) (ci := 8) (v := .int (iI (its))) (ty := .int) (C := RX6) (T := TX6) (N := 10) hx hb hts (fun w h => List.mem_cons_of_mem _ (List.mem_append_right _ h)) tyX6 tyX6_ok nmX6 hown hK hP hD hS 0 rfl rfl 2 (by decide) (hts (.fieldLink RX6 16 "AlmanacHouseLaw$Sim" "length" "I") (List.mem_of_getElem? (i := 1) rfl)) (fun _ h9 => h9) rfl (by decide +kernel) rfl rfl (Nat.le_of_ble_eq_true rfl) dX6_observe_204 (fun H locs hP hD hS => ?_)
                    have hP : va_P D vwCl ([(z 0, .inr (8, [.int (iI (σ 0)), .int (iI (σ 1)), .int (iI (its)), .int (iI (σ 3)), .int (iI (σ 4)), .int (iI (σ 5)), .ref (z 1), .ref (z 2), .int (iI ((σ 9) + (1))), .int (iI ((σ 10) + (1)))])), (z 1, .inl (cL, (σ 6).toNat, .inr (.inr (.inr (.inr (fun j => if j < (σ 6).toNat then some (z (10 + j)) else none)))))), (z 2, .inl (cL, (σ 7).toNat, .inr (.inr (.inr (.inr (fun j => if j < (σ 7).toNat then some (z (20 + j)) else none))))))] ++ (wZf cI z T (σ 6).toNat ++ wZs cI z P (σ 7).toNat)) H := hP
                    have hD : va_D (va_A (WZ cI cL z σ T P) sz) ([(z 0, .inr (8, [.int (iI (σ 0)), .int (iI (σ 1)), .int (iI (its)), .int (iI (σ 3)), .int (iI (σ 4)), .int (iI (σ 5)), .ref (z 1), .ref (z 2), .int (iI ((σ 9) + (1))), .int (iI ((σ 10) + (1)))])), (z 1, .inl (cL, (σ 6).toNat, .inr (.inr (.inr (.inr (fun j => if j < (σ 6).toNat then some (z (10 + j)) else none)))))), (z 2, .inl (cL, (σ 7).toNat, .inr (.inr (.inr (.inr (fun j => if j < (σ 7).toNat then some (z (20 + j)) else none))))))] ++ (wZf cI z T (σ 6).toNat ++ wZs cI z P (σ 7).toNat)) := hD
                    refine lv_iload hx hb dX6_observe_207 (lv_at hl 2 rfl) ?_
                    exact q_giret (cells := 0) (slots := 0) (mc := 0) (ms := 0) (w1 := fun (_ : Unit) => WZ cI cL z (m_obs σ d b) T P) (()) hx hb hr hlocks hS (hla) (by first | (rw [show m_obs σ d b = st (st (st σ 9 (σ 9 + 1)) 10 (σ 10 + 1)) 2 (m_clamp (Int.tdiv (2 * (1000 * d + 500 - σ 3)) (2 * m_nt (σ 2) (σ 3) b d + b))) from if_neg (by rw [← hla, ← hnt]; omega), show m_clamp (Int.tdiv (2 * (1000 * d + 500 - σ 3)) (2 * m_nt (σ 2) (σ 3) b d + b)) = its from by rw [← hits]; unfold m_clamp; (repeat' split) <;> omega]; exact ⟨hP, hD⟩) | (rw [show m_obs σ d b = st (st (st σ 9 (σ 9 + 1)) 10 (σ 10 + 1)) 2 (m_clamp (Int.tdiv (2 * (1000 * d + 500 - σ 3)) (2 * m_nt (σ 2) (σ 3) b d + b))) from if_neg (by rw [← hla, ← hnt]; omega), show m_clamp (Int.tdiv (2 * (1000 * d + 500 - σ 3)) (2 * m_nt (σ 2) (σ 3) b d + b)) = 40000 from by rw [← hits]; unfold m_clamp; (repeat' split) <;> omega]; exact ⟨hP, hD⟩) | (rw [show m_obs σ d b = st (st (st σ 9 (σ 9 + 1)) 10 (σ 10 + 1)) 2 (m_clamp (Int.tdiv (2 * (1000 * d + 500 - σ 3)) (2 * m_nt (σ 2) (σ 3) b d + b))) from if_neg (by rw [← hla, ← hnt]; omega), show m_clamp (Int.tdiv (2 * (1000 * d + 500 - σ 3)) (2 * m_nt (σ 2) (σ 3) b d + b)) = 20000 from by rw [← hits]; unfold m_clamp; (repeat' split) <;> omega]; exact ⟨hP, hD⟩)) (by omega) (by omega) dX6_observe_209
                  · skip
                    refine q_ldc (z := 40000) hx hb hown (hts (.constant RX6 81 (40000)) (List.mem_of_getElem? (i := 12) rfl)) (by decide) dX6_observe_197 ?_
                    refine lv_goto (tgt := 204) hx hb dX6_observe_199 (by decide) ?_
                    refine va_put (D := D) (ci := 8) (v := .int (iI (40000))) (ty := .int) (C := RX6) (T := TX6) (N := 10) hx hb hts (fun w h => List.mem_cons_of_mem _ (List.mem_append_right _ h)) tyX6 tyX6_ok nmX6 hown hK hP hD hS 0 rfl rfl 2 (by decide) (hts (.fieldLink RX6 16 "AlmanacHouseLaw$Sim" "length" "I") (List.mem_of_getElem? (i := 1) rfl)) (fun _ h9 => h9) rfl (by decide +kernel) rfl rfl (Nat.le_of_ble_eq_true rfl) dX6_observe_204 (fun H locs hP hD hS => ?_)
                    have hP : va_P D vwCl ([(z 0, .inr (8, [.int (iI (σ 0)), .int (iI (σ 1)), .int (iI (40000)), .int (iI (σ 3)), .int (iI (σ 4)), .int (iI (σ 5)), .ref (z 1), .ref (z 2), .int (iI ((σ 9) + (1))), .int (iI ((σ 10) + (1)))])), (z 1, .inl (cL, (σ 6).toNat, .inr (.inr (.inr (.inr (fun j => if j < (σ 6).toNat then some (z (10 + j)) else none)))))), (z 2, .inl (cL, (σ 7).toNat, .inr (.inr (.inr (.inr (fun j => if j < (σ 7).toNat then some (z (20 + j)) else none))))))] ++ (wZf cI z T (σ 6).toNat ++ wZs cI z P (σ 7).toNat)) H := hP
                    have hD : va_D (va_A (WZ cI cL z σ T P) sz) ([(z 0, .inr (8, [.int (iI (σ 0)), .int (iI (σ 1)), .int (iI (40000)), .int (iI (σ 3)), .int (iI (σ 4)), .int (iI (σ 5)), .ref (z 1), .ref (z 2), .int (iI ((σ 9) + (1))), .int (iI ((σ 10) + (1)))])), (z 1, .inl (cL, (σ 6).toNat, .inr (.inr (.inr (.inr (fun j => if j < (σ 6).toNat then some (z (10 + j)) else none)))))), (z 2, .inl (cL, (σ 7).toNat, .inr (.inr (.inr (.inr (fun j => if j < (σ 7).toNat then some (z (20 + j)) else none))))))] ++ (wZf cI z T (σ 6).toNat ++ wZs cI z P (σ 7).toNat)) := hD
                    refine lv_iload hx hb dX6_observe_207 (lv_at hl 2 rfl) ?_
                    exact q_giret (cells := 0) (slots := 0) (mc := 0) (ms := 0) (w1 := fun (_ : Unit) => WZ cI cL z (m_obs σ d b) T P) (()) hx hb hr hlocks hS (hla) (by first | (rw [show m_obs σ d b = st (st (st σ 9 (σ 9 + 1)) 10 (σ 10 + 1)) 2 (m_clamp (Int.tdiv (2 * (1000 * d + 500 - σ 3)) (2 * m_nt (σ 2) (σ 3) b d + b))) from if_neg (by rw [← hla, ← hnt]; omega), show m_clamp (Int.tdiv (2 * (1000 * d + 500 - σ 3)) (2 * m_nt (σ 2) (σ 3) b d + b)) = its from by rw [← hits]; unfold m_clamp; (repeat' split) <;> omega]; exact ⟨hP, hD⟩) | (rw [show m_obs σ d b = st (st (st σ 9 (σ 9 + 1)) 10 (σ 10 + 1)) 2 (m_clamp (Int.tdiv (2 * (1000 * d + 500 - σ 3)) (2 * m_nt (σ 2) (σ 3) b d + b))) from if_neg (by rw [← hla, ← hnt]; omega), show m_clamp (Int.tdiv (2 * (1000 * d + 500 - σ 3)) (2 * m_nt (σ 2) (σ 3) b d + b)) = 40000 from by rw [← hits]; unfold m_clamp; (repeat' split) <;> omega]; exact ⟨hP, hD⟩) | (rw [show m_obs σ d b = st (st (st σ 9 (σ 9 + 1)) 10 (σ 10 + 1)) 2 (m_clamp (Int.tdiv (2 * (1000 * d + 500 - σ 3)) (2 * m_nt (σ 2) (σ 3) b d + b))) from if_neg (by rw [← hla, ← hnt]; omega), show m_clamp (Int.tdiv (2 * (1000 * d + 500 - σ 3)) (2 * m_nt (σ 2) (σ 3) b d + b)) = 20000 from by rw [← hits]; unfold m_clamp; (repeat' split) <;> omega]; exact ⟨hP, hD⟩)) (by omega) (by omega) dX6_observe_209
                · skip
                  refine q_sipush hx hb dX6_observe_184 (by decide) ?_
                  refine lv_goto (tgt := 204) hx hb dX6_observe_187 (by decide) ?_
                  refine va_put (D := D) (ci := 8) (v := .int (iI (20000))) (ty := .int) (C := RX6) (T := TX6) (N := 10) hx hb hts (fun w h => List.mem_cons_of_mem _ (List.mem_append_right _ h)) tyX6 tyX6_ok nmX6 hown hK hP hD hS 0 rfl rfl 2 (by decide) (hts (.fieldLink RX6 16 "AlmanacHouseLaw$Sim" "length" "I") (List.mem_of_getElem? (i := 1) rfl)) (fun _ h9 => h9) rfl (by decide +kernel) rfl rfl (Nat.le_of_ble_eq_true rfl) dX6_observe_204 (fun H locs hP hD hS => ?_)
                  have hP : va_P D vwCl ([(z 0, .inr (8, [.int (iI (σ 0)), .int (iI (σ 1)), .int (iI (20000)), .int (iI (σ 3)), .int (iI (σ 4)), .int (iI (σ 5)), .ref (z 1), .ref (z 2), .int (iI ((σ 9) + (1))), .int (iI ((σ 10) + (1)))])), (z 1, .inl (cL, (σ 6).toNat, .inr (.inr (.inr (.inr (fun j => if j < (σ 6).toNat then some (z (10 + j)) else none)))))), (z 2, .inl (cL, (σ 7).toNat, .inr (.inr (.inr (.inr (fun j => if j < (σ 7).toNat then some (z (20 + j)) else none))))))] ++ (wZf cI z T (σ 6).toNat ++ wZs cI z P (σ 7).toNat)) H := hP
                  have hD : va_D (va_A (WZ cI cL z σ T P) sz) ([(z 0, .inr (8, [.int (iI (σ 0)), .int (iI (σ 1)), .int (iI (20000)), .int (iI (σ 3)), .int (iI (σ 4)), .int (iI (σ 5)), .ref (z 1), .ref (z 2), .int (iI ((σ 9) + (1))), .int (iI ((σ 10) + (1)))])), (z 1, .inl (cL, (σ 6).toNat, .inr (.inr (.inr (.inr (fun j => if j < (σ 6).toNat then some (z (10 + j)) else none)))))), (z 2, .inl (cL, (σ 7).toNat, .inr (.inr (.inr (.inr (fun j => if j < (σ 7).toNat then some (z (20 + j)) else none))))))] ++ (wZf cI z T (σ 6).toNat ++ wZs cI z P (σ 7).toNat)) := hD
                  refine lv_iload hx hb dX6_observe_207 (lv_at hl 2 rfl) ?_
                  exact q_giret (cells := 0) (slots := 0) (mc := 0) (ms := 0) (w1 := fun (_ : Unit) => WZ cI cL z (m_obs σ d b) T P) (()) hx hb hr hlocks hS (hla) (by first | (rw [show m_obs σ d b = st (st (st σ 9 (σ 9 + 1)) 10 (σ 10 + 1)) 2 (m_clamp (Int.tdiv (2 * (1000 * d + 500 - σ 3)) (2 * m_nt (σ 2) (σ 3) b d + b))) from if_neg (by rw [← hla, ← hnt]; omega), show m_clamp (Int.tdiv (2 * (1000 * d + 500 - σ 3)) (2 * m_nt (σ 2) (σ 3) b d + b)) = its from by rw [← hits]; unfold m_clamp; (repeat' split) <;> omega]; exact ⟨hP, hD⟩) | (rw [show m_obs σ d b = st (st (st σ 9 (σ 9 + 1)) 10 (σ 10 + 1)) 2 (m_clamp (Int.tdiv (2 * (1000 * d + 500 - σ 3)) (2 * m_nt (σ 2) (σ 3) b d + b))) from if_neg (by rw [← hla, ← hnt]; omega), show m_clamp (Int.tdiv (2 * (1000 * d + 500 - σ 3)) (2 * m_nt (σ 2) (σ 3) b d + b)) = 40000 from by rw [← hits]; unfold m_clamp; (repeat' split) <;> omega]; exact ⟨hP, hD⟩) | (rw [show m_obs σ d b = st (st (st σ 9 (σ 9 + 1)) 10 (σ 10 + 1)) 2 (m_clamp (Int.tdiv (2 * (1000 * d + 500 - σ 3)) (2 * m_nt (σ 2) (σ 3) b d + b))) from if_neg (by rw [← hla, ← hnt]; omega), show m_clamp (Int.tdiv (2 * (1000 * d + 500 - σ 3)) (2 * m_nt (σ 2) (σ 3) b d + b)) = 20000 from by rw [← hits]; unfold m_clamp; (repeat' split) <;> omega]; exact ⟨hP, hD⟩)) (by omega) (by omega) dX6_observe_209
              · skip
                refine q_iconst hx hb dX6_observe_156 ?_
                refine lv_iload hx hb dX6_observe_157 (lv_at hl 0 rfl) ?_
                refine q_imul hx hb dX6_observe_159 ?_
                refine q_iconst hx hb dX6_observe_160 ?_
                refine lv_iload_n hx hb dX6_observe_161 rfl (lv_at hl 5 rfl) ?_
                refine q_imul hx hb dX6_observe_162 ?_
                refine q_iconst hx hb dX6_observe_163 ?_
                refine q_iadd hx hb dX6_observe_164 ?_
                refine q_idivt hx hb dX6_observe_165 (by omega) (by omega) ?_
                refine lv_goto (tgt := 173) hx hb dX6_observe_166 (by decide) ?_
                refine q_top (fun its eits => ?_)
                have hits : its = Int.tdiv (2 * (1000 * d + 500 - σ 3)) (2 * m_nt (σ 2) (σ 3) b d + b) := by
                    rw [← hnt]
                    first
                    | (have hb0 : b = 0 := by omega
                       rw [eits, emi, hb0, Int.add_zero, m_td2])
                    | (have hb1 : b = 1 := by omega
                       rw [eits, emi, hb1])
                refine lv_istore (lv' := [(7, .int (iI (its))), (6, .int (iI (mi))), (5, .int (iI (la))), (0, .ref (z 0)), (1, .int (iI (d))), (2, .int (iI (b))), (3, .int (iI (be))), (4, .int (iI (k0)))]) hx hb dX6_observe_173 hl (by decide) rfl (fun ls hl => ?_)
                refine lv_aload_n hx hb dX6_observe_175 rfl (lv_at hl 3 rfl) ?_
                refine lv_iload hx hb dX6_observe_176 (lv_at hl 0 rfl) ?_
                refine q_sipush hx hb dX6_observe_178 (by decide) ?_
                refine q_icmp_ge (tgt := 190) hx hb dX6_observe_181 (by decide) (by omega) (by omega) (fun c_21 => ?_) (fun c_21 => ?_)
                · skip
                  refine lv_iload hx hb dX6_observe_190 (lv_at hl 0 rfl) ?_
                  refine q_ldc (z := 40000) hx hb hown (hts (.constant RX6 81 (40000)) (List.mem_of_getElem? (i := 12) rfl)) (by decide) dX6_observe_192 ?_
                  refine q_icmp_le (tgt := 202) hx hb dX6_observe_194 (by decide) (by omega) (by omega) (fun c_22 => ?_) (fun c_22 => ?_)
                  · skip
                    refine lv_iload hx hb dX6_observe_202 (lv_at hl 0 rfl) ?_
                    refine va_put (D := D) (ci := 8) (v := .int (iI (its))) (ty := .int) (C := RX6) (T := TX6) (N := 10) hx hb hts (fun w h => List.mem_cons_of_mem _ (List.mem_append_right _ h)) tyX6 tyX6_ok nmX6 hown hK hP hD hS 0 rfl rfl 2 (by decide) (hts (.fieldLink RX6 16 "AlmanacHouseLaw$Sim" "length" "I") (List.mem_of_getElem? (i := 1) rfl)) (fun _ h9 => h9) rfl (by decide +kernel) rfl rfl (Nat.le_of_ble_eq_true rfl) dX6_observe_204 (fun H locs hP hD hS => ?_)
                    have hP : va_P D vwCl ([(z 0, .inr (8, [.int (iI (σ 0)), .int (iI (σ 1)), .int (iI (its)), .int (iI (σ 3)), .int (iI (σ 4)), .int (iI (σ 5)), .ref (z 1), .ref (z 2), .int (iI ((σ 9) + (1))), .int (iI ((σ 10) + (1)))])), (z 1, .inl (cL, (σ 6).toNat, .inr (.inr (.inr (.inr (fun j => if j < (σ 6).toNat then some (z (10 + j)) else none)))))), (z 2, .inl (cL, (σ 7).toNat, .inr (.inr (.inr (.inr (fun j => if j < (σ 7).toNat then some (z (20 + j)) else none))))))] ++ (wZf cI z T (σ 6).toNat ++ wZs cI z P (σ 7).toNat)) H := hP
                    have hD : va_D (va_A (WZ cI cL z σ T P) sz) ([(z 0, .inr (8, [.int (iI (σ 0)), .int (iI (σ 1)), .int (iI (its)), .int (iI (σ 3)), .int (iI (σ 4)), .int (iI (σ 5)), .ref (z 1), .ref (z 2), .int (iI ((σ 9) + (1))), .int (iI ((σ 10) + (1)))])), (z 1, .inl (cL, (σ 6).toNat, .inr (.inr (.inr (.inr (fun j => if j < (σ 6).toNat then some (z (10 + j)) else none)))))), (z 2, .inl (cL, (σ 7).toNat, .inr (.inr (.inr (.inr (fun j => if j < (σ 7).toNat then some (z (20 + j)) else none))))))] ++ (wZf cI z T (σ 6).toNat ++ wZs cI z P (σ 7).toNat)) := hD
                    refine lv_iload hx hb dX6_observe_207 (lv_at hl 2 rfl) ?_
                    exact q_giret (cells := 0) (slots := 0) (mc := 0) (ms := 0) (w1 := fun (_ : Unit) => WZ cI cL z (m_obs σ d b) T P) (()) hx hb hr hlocks hS (hla) (by first | (rw [show m_obs σ d b = st (st (st σ 9 (σ 9 + 1)) 10 (σ 10 + 1)) 2 (m_clamp (Int.tdiv (2 * (1000 * d + 500 - σ 3)) (2 * m_nt (σ 2) (σ 3) b d + b))) from if_neg (by rw [← hla, ← hnt]; omega), show m_clamp (Int.tdiv (2 * (1000 * d + 500 - σ 3)) (2 * m_nt (σ 2) (σ 3) b d + b)) = its from by rw [← hits]; unfold m_clamp; (repeat' split) <;> omega]; exact ⟨hP, hD⟩) | (rw [show m_obs σ d b = st (st (st σ 9 (σ 9 + 1)) 10 (σ 10 + 1)) 2 (m_clamp (Int.tdiv (2 * (1000 * d + 500 - σ 3)) (2 * m_nt (σ 2) (σ 3) b d + b))) from if_neg (by rw [← hla, ← hnt]; omega), show m_clamp (Int.tdiv (2 * (1000 * d + 500 - σ 3)) (2 * m_nt (σ 2) (σ 3) b d + b)) = 40000 from by rw [← hits]; unfold m_clamp; (repeat' split) <;> omega]; exact ⟨hP, hD⟩) | (rw [show m_obs σ d b = st (st (st σ 9 (σ 9 + 1)) 10 (σ 10 + 1)) 2 (m_clamp (Int.tdiv (2 * (1000 * d + 500 - σ 3)) (2 * m_nt (σ 2) (σ 3) b d + b))) from if_neg (by rw [← hla, ← hnt]; omega), show m_clamp (Int.tdiv (2 * (1000 * d + 500 - σ 3)) (2 * m_nt (σ 2) (σ 3) b d + b)) = 20000 from by rw [← hits]; unfold m_clamp; (repeat' split) <;> omega]; exact ⟨hP, hD⟩)) (by omega) (by omega) dX6_observe_209
                  · skip
                    refine q_ldc (z := 40000) hx hb hown (hts (.constant RX6 81 (40000)) (List.mem_of_getElem? (i := 12) rfl)) (by decide) dX6_observe_197 ?_
                    refine lv_goto (tgt := 204) hx hb dX6_observe_199 (by decide) ?_
                    refine va_put (D := D) (ci := 8) (v := .int (iI (40000))) (ty := .int) (C := RX6) (T := TX6) (N := 10) hx hb hts (fun w h => List.mem_cons_of_mem _ (List.mem_append_right _ h)) tyX6 tyX6_ok nmX6 hown hK hP hD hS 0 rfl rfl 2 (by decide) (hts (.fieldLink RX6 16 "AlmanacHouseLaw$Sim" "length" "I") (List.mem_of_getElem? (i := 1) rfl)) (fun _ h9 => h9) rfl (by decide +kernel) rfl rfl (Nat.le_of_ble_eq_true rfl) dX6_observe_204 (fun H locs hP hD hS => ?_)
                    have hP : va_P D vwCl ([(z 0, .inr (8, [.int (iI (σ 0)), .int (iI (σ 1)), .int (iI (40000)), .int (iI (σ 3)), .int (iI (σ 4)), .int (iI (σ 5)), .ref (z 1), .ref (z 2), .int (iI ((σ 9) + (1))), .int (iI ((σ 10) + (1)))])), (z 1, .inl (cL, (σ 6).toNat, .inr (.inr (.inr (.inr (fun j => if j < (σ 6).toNat then some (z (10 + j)) else none)))))), (z 2, .inl (cL, (σ 7).toNat, .inr (.inr (.inr (.inr (fun j => if j < (σ 7).toNat then some (z (20 + j)) else none))))))] ++ (wZf cI z T (σ 6).toNat ++ wZs cI z P (σ 7).toNat)) H := hP
                    have hD : va_D (va_A (WZ cI cL z σ T P) sz) ([(z 0, .inr (8, [.int (iI (σ 0)), .int (iI (σ 1)), .int (iI (40000)), .int (iI (σ 3)), .int (iI (σ 4)), .int (iI (σ 5)), .ref (z 1), .ref (z 2), .int (iI ((σ 9) + (1))), .int (iI ((σ 10) + (1)))])), (z 1, .inl (cL, (σ 6).toNat, .inr (.inr (.inr (.inr (fun j => if j < (σ 6).toNat then some (z (10 + j)) else none)))))), (z 2, .inl (cL, (σ 7).toNat, .inr (.inr (.inr (.inr (fun j => if j < (σ 7).toNat then some (z (20 + j)) else none))))))] ++ (wZf cI z T (σ 6).toNat ++ wZs cI z P (σ 7).toNat)) := hD
                    refine lv_iload hx hb dX6_observe_207 (lv_at hl 2 rfl) ?_
                    exact q_giret (cells := 0) (slots := 0) (mc := 0) (ms := 0) (w1 := fun (_ : Unit) => WZ cI cL z (m_obs σ d b) T P) (()) hx hb hr hlocks hS (hla) (by first | (rw [show m_obs σ d b = st (st (st σ 9 (σ 9 + 1)) 10 (σ 10 + 1)) 2 (m_clamp (Int.tdiv (2 * (1000 * d + 500 - σ 3)) (2 * m_nt (σ 2) (σ 3) b d + b))) from if_neg (by rw [← hla, ← hnt]; omega), show m_clamp (Int.tdiv (2 * (1000 * d + 500 - σ 3)) (2 * m_nt (σ 2) (σ 3) b d + b)) = its from by rw [← hits]; unfold m_clamp; (repeat' split) <;> omega]; exact ⟨hP, hD⟩) | (rw [show m_obs σ d b = st (st (st σ 9 (σ 9 + 1)) 10 (σ 10 + 1)) 2 (m_clamp (Int.tdiv (2 * (1000 * d + 500 - σ 3)) (2 * m_nt (σ 2) (σ 3) b d + b))) from if_neg (by rw [← hla, ← hnt]; omega), show m_clamp (Int.tdiv (2 * (1000 * d + 500 - σ 3)) (2 * m_nt (σ 2) (σ 3) b d + b)) = 40000 from by rw [← hits]; unfold m_clamp; (repeat' split) <;> omega]; exact ⟨hP, hD⟩) | (rw [show m_obs σ d b = st (st (st σ 9 (σ 9 + 1)) 10 (σ 10 + 1)) 2 (m_clamp (Int.tdiv (2 * (1000 * d + 500 - σ 3)) (2 * m_nt (σ 2) (σ 3) b d + b))) from if_neg (by rw [← hla, ← hnt]; omega), show m_clamp (Int.tdiv (2 * (1000 * d + 500 - σ 3)) (2 * m_nt (σ 2) (σ 3) b d + b)) = 20000 from by rw [← hits]; unfold m_clamp; (repeat' split) <;> omega]; exact ⟨hP, hD⟩)) (by omega) (by omega) dX6_observe_209
                · skip
                  refine q_sipush hx hb dX6_observe_184 (by decide) ?_
                  refine lv_goto (tgt := 204) hx hb dX6_observe_187 (by decide) ?_
                  refine va_put (D := D) (ci := 8) (v := .int (iI (20000))) (ty := .int) (C := RX6) (T := TX6) (N := 10) hx hb hts (fun w h => List.mem_cons_of_mem _ (List.mem_append_right _ h)) tyX6 tyX6_ok nmX6 hown hK hP hD hS 0 rfl rfl 2 (by decide) (hts (.fieldLink RX6 16 "AlmanacHouseLaw$Sim" "length" "I") (List.mem_of_getElem? (i := 1) rfl)) (fun _ h9 => h9) rfl (by decide +kernel) rfl rfl (Nat.le_of_ble_eq_true rfl) dX6_observe_204 (fun H locs hP hD hS => ?_)
                  have hP : va_P D vwCl ([(z 0, .inr (8, [.int (iI (σ 0)), .int (iI (σ 1)), .int (iI (20000)), .int (iI (σ 3)), .int (iI (σ 4)), .int (iI (σ 5)), .ref (z 1), .ref (z 2), .int (iI ((σ 9) + (1))), .int (iI ((σ 10) + (1)))])), (z 1, .inl (cL, (σ 6).toNat, .inr (.inr (.inr (.inr (fun j => if j < (σ 6).toNat then some (z (10 + j)) else none)))))), (z 2, .inl (cL, (σ 7).toNat, .inr (.inr (.inr (.inr (fun j => if j < (σ 7).toNat then some (z (20 + j)) else none))))))] ++ (wZf cI z T (σ 6).toNat ++ wZs cI z P (σ 7).toNat)) H := hP
                  have hD : va_D (va_A (WZ cI cL z σ T P) sz) ([(z 0, .inr (8, [.int (iI (σ 0)), .int (iI (σ 1)), .int (iI (20000)), .int (iI (σ 3)), .int (iI (σ 4)), .int (iI (σ 5)), .ref (z 1), .ref (z 2), .int (iI ((σ 9) + (1))), .int (iI ((σ 10) + (1)))])), (z 1, .inl (cL, (σ 6).toNat, .inr (.inr (.inr (.inr (fun j => if j < (σ 6).toNat then some (z (10 + j)) else none)))))), (z 2, .inl (cL, (σ 7).toNat, .inr (.inr (.inr (.inr (fun j => if j < (σ 7).toNat then some (z (20 + j)) else none))))))] ++ (wZf cI z T (σ 6).toNat ++ wZs cI z P (σ 7).toNat)) := hD
                  refine lv_iload hx hb dX6_observe_207 (lv_at hl 2 rfl) ?_
                  exact q_giret (cells := 0) (slots := 0) (mc := 0) (ms := 0) (w1 := fun (_ : Unit) => WZ cI cL z (m_obs σ d b) T P) (()) hx hb hr hlocks hS (hla) (by first | (rw [show m_obs σ d b = st (st (st σ 9 (σ 9 + 1)) 10 (σ 10 + 1)) 2 (m_clamp (Int.tdiv (2 * (1000 * d + 500 - σ 3)) (2 * m_nt (σ 2) (σ 3) b d + b))) from if_neg (by rw [← hla, ← hnt]; omega), show m_clamp (Int.tdiv (2 * (1000 * d + 500 - σ 3)) (2 * m_nt (σ 2) (σ 3) b d + b)) = its from by rw [← hits]; unfold m_clamp; (repeat' split) <;> omega]; exact ⟨hP, hD⟩) | (rw [show m_obs σ d b = st (st (st σ 9 (σ 9 + 1)) 10 (σ 10 + 1)) 2 (m_clamp (Int.tdiv (2 * (1000 * d + 500 - σ 3)) (2 * m_nt (σ 2) (σ 3) b d + b))) from if_neg (by rw [← hla, ← hnt]; omega), show m_clamp (Int.tdiv (2 * (1000 * d + 500 - σ 3)) (2 * m_nt (σ 2) (σ 3) b d + b)) = 40000 from by rw [← hits]; unfold m_clamp; (repeat' split) <;> omega]; exact ⟨hP, hD⟩) | (rw [show m_obs σ d b = st (st (st σ 9 (σ 9 + 1)) 10 (σ 10 + 1)) 2 (m_clamp (Int.tdiv (2 * (1000 * d + 500 - σ 3)) (2 * m_nt (σ 2) (σ 3) b d + b))) from if_neg (by rw [← hla, ← hnt]; omega), show m_clamp (Int.tdiv (2 * (1000 * d + 500 - σ 3)) (2 * m_nt (σ 2) (σ 3) b d + b)) = 20000 from by rw [← hits]; unfold m_clamp; (repeat' split) <;> omega]; exact ⟨hP, hD⟩)) (by omega) (by omega) dX6_observe_209
            · skip
              refine lv_iload_n hx hb dX6_observe_119 rfl (lv_at hl 3 rfl) ?_
              refine q_if_ne (tgt := 126) hx hb dX6_observe_120 (by decide) (by omega) (fun c_23 => ?_) (fun c_23 => ?_)
              · skip
                refine lv_aload_n hx hb dX6_observe_126 rfl (lv_at hl 1 rfl) ?_
                refine lv_dup hx hb dX6_observe_127 rfl ?_
                refine q_get (ci := 8) (C := RX6) (T := TX6) (N := 10) hx hb hts hin_X6 hown hK (v := .int (iI (σ 10))) (hP 0 _ rfl) rfl 9 (by decide) (hts (.fieldLink RX6 78 "AlmanacHouseLaw$Sim" "corrected" "I") (List.mem_of_getElem? (i := 10) rfl)) (fun _ h9 => h9) rfl dX6_observe_128 ?_
                refine q_iconst hx hb dX6_observe_131 ?_
                refine q_iadd hx hb dX6_observe_132 ?_
                refine va_put (D := D) (ci := 8) (v := .int (iI ((σ 10) + (1)))) (ty := .int) (C := RX6) (T := TX6) (N := 10) hx hb hts (fun w h => List.mem_cons_of_mem _ (List.mem_append_right _ h)) tyX6 tyX6_ok nmX6 hown hK hP hD hS 0 rfl rfl 9 (by decide) (hts (.fieldLink RX6 78 "AlmanacHouseLaw$Sim" "corrected" "I") (List.mem_of_getElem? (i := 10) rfl)) (fun _ h9 => h9) rfl (by decide +kernel) rfl rfl (Nat.le_of_ble_eq_true rfl) dX6_observe_133 (fun H locs hP hD hS => ?_)
                have hP : va_P D vwCl ([(z 0, .inr (8, [.int (iI (σ 0)), .int (iI (σ 1)), .int (iI (σ 2)), .int (iI (σ 3)), .int (iI (σ 4)), .int (iI (σ 5)), .ref (z 1), .ref (z 2), .int (iI ((σ 9) + (1))), .int (iI ((σ 10) + (1)))])), (z 1, .inl (cL, (σ 6).toNat, .inr (.inr (.inr (.inr (fun j => if j < (σ 6).toNat then some (z (10 + j)) else none)))))), (z 2, .inl (cL, (σ 7).toNat, .inr (.inr (.inr (.inr (fun j => if j < (σ 7).toNat then some (z (20 + j)) else none))))))] ++ (wZf cI z T (σ 6).toNat ++ wZs cI z P (σ 7).toNat)) H := hP
                have hD : va_D (va_A (WZ cI cL z σ T P) sz) ([(z 0, .inr (8, [.int (iI (σ 0)), .int (iI (σ 1)), .int (iI (σ 2)), .int (iI (σ 3)), .int (iI (σ 4)), .int (iI (σ 5)), .ref (z 1), .ref (z 2), .int (iI ((σ 9) + (1))), .int (iI ((σ 10) + (1)))])), (z 1, .inl (cL, (σ 6).toNat, .inr (.inr (.inr (.inr (fun j => if j < (σ 6).toNat then some (z (10 + j)) else none)))))), (z 2, .inl (cL, (σ 7).toNat, .inr (.inr (.inr (.inr (fun j => if j < (σ 7).toNat then some (z (20 + j)) else none))))))] ++ (wZf cI z T (σ 6).toNat ++ wZs cI z P (σ 7).toNat)) := hD
                refine q_sipush hx hb dX6_observe_136 (by decide) ?_
                refine lv_iload_n hx hb dX6_observe_139 rfl (lv_at hl 2 rfl) ?_
                refine q_imul hx hb dX6_observe_140 ?_
                refine q_sipush hx hb dX6_observe_141 (by decide) ?_
                refine q_iadd hx hb dX6_observe_144 ?_
                refine lv_aload_n hx hb dX6_observe_145 rfl (lv_at hl 1 rfl) ?_
                refine q_get (ci := 8) (C := RX6) (T := TX6) (N := 10) hx hb hts hin_X6 hown hK (v := .int (iI (σ 3))) (hP 0 _ rfl) rfl 3 (by decide) (hts (.fieldLink RX6 43 "AlmanacHouseLaw$Sim" "first" "I") (List.mem_of_getElem? (i := 11) rfl)) (fun _ h9 => h9) rfl dX6_observe_146 ?_
                refine q_isub hx hb dX6_observe_149 ?_
                refine q_top (fun mi emi => ?_)
                have hmr := m_tdr (x := mi) (n := be) (by omega)
                have hmr2 := m_tdr (x := 2 * mi) (n := 2 * be + 1) (by omega)
                refine lv_istore (lv' := [(6, .int (iI (mi))), (5, .int (iI (la))), (0, .ref (z 0)), (1, .int (iI (d))), (2, .int (iI (b))), (3, .int (iI (be))), (4, .int (iI (k0)))]) hx hb dX6_observe_150 hl (by decide) rfl (fun ls hl => ?_)
                refine lv_iload_n hx hb dX6_observe_152 rfl (lv_at hl 4 rfl) ?_
                refine q_if_eq (tgt := 169) hx hb dX6_observe_153 (by decide) (by omega) (fun c_24 => ?_) (fun c_24 => ?_)
                · skip
                  refine lv_iload hx hb dX6_observe_169 (lv_at hl 0 rfl) ?_
                  refine lv_iload_n hx hb dX6_observe_171 rfl (lv_at hl 5 rfl) ?_
                  refine q_idivt hx hb dX6_observe_172 (by omega) (by omega) ?_
                  refine q_top (fun its eits => ?_)
                  have hits : its = Int.tdiv (2 * (1000 * d + 500 - σ 3)) (2 * m_nt (σ 2) (σ 3) b d + b) := by
                      rw [← hnt]
                      first
                      | (have hb0 : b = 0 := by omega
                         rw [eits, emi, hb0, Int.add_zero, m_td2])
                      | (have hb1 : b = 1 := by omega
                         rw [eits, emi, hb1])
                  refine lv_istore (lv' := [(7, .int (iI (its))), (6, .int (iI (mi))), (5, .int (iI (la))), (0, .ref (z 0)), (1, .int (iI (d))), (2, .int (iI (b))), (3, .int (iI (be))), (4, .int (iI (k0)))]) hx hb dX6_observe_173 hl (by decide) rfl (fun ls hl => ?_)
                  refine lv_aload_n hx hb dX6_observe_175 rfl (lv_at hl 3 rfl) ?_
                  refine lv_iload hx hb dX6_observe_176 (lv_at hl 0 rfl) ?_
                  refine q_sipush hx hb dX6_observe_178 (by decide) ?_
                  refine q_icmp_ge (tgt := 190) hx hb dX6_observe_181 (by decide) (by omega) (by omega) (fun c_25 => ?_) (fun c_25 => ?_)
                  · skip
                    refine lv_iload hx hb dX6_observe_190 (lv_at hl 0 rfl) ?_
                    refine q_ldc (z := 40000) hx hb hown (hts (.constant RX6 81 (40000)) (List.mem_of_getElem? (i := 12) rfl)) (by decide) dX6_observe_192 ?_
                    refine q_icmp_le (tgt := 202) hx hb dX6_observe_194 (by decide) (by omega) (by omega) (fun c_26 => ?_) (fun c_26 => ?_)
                    · skip
                      refine lv_iload hx hb dX6_observe_202 (lv_at hl 0 rfl) ?_
                      refine va_put (D := D) (ci := 8) (v := .int (iI (its))) (ty := .int) (C := RX6) (T := TX6) (N := 10) hx hb hts (fun w h => List.mem_cons_of_mem _ (List.mem_append_right _ h)) tyX6 tyX6_ok nmX6 hown hK hP hD hS 0 rfl rfl 2 (by decide) (hts (.fieldLink RX6 16 "AlmanacHouseLaw$Sim" "length" "I") (List.mem_of_getElem? (i := 1) rfl)) (fun _ h9 => h9) rfl (by decide +kernel) rfl rfl (Nat.le_of_ble_eq_true rfl) dX6_observe_204 (fun H locs hP hD hS => ?_)
                      have hP : va_P D vwCl ([(z 0, .inr (8, [.int (iI (σ 0)), .int (iI (σ 1)), .int (iI (its)), .int (iI (σ 3)), .int (iI (σ 4)), .int (iI (σ 5)), .ref (z 1), .ref (z 2), .int (iI ((σ 9) + (1))), .int (iI ((σ 10) + (1)))])), (z 1, .inl (cL, (σ 6).toNat, .inr (.inr (.inr (.inr (fun j => if j < (σ 6).toNat then some (z (10 + j)) else none)))))), (z 2, .inl (cL, (σ 7).toNat, .inr (.inr (.inr (.inr (fun j => if j < (σ 7).toNat then some (z (20 + j)) else none))))))] ++ (wZf cI z T (σ 6).toNat ++ wZs cI z P (σ 7).toNat)) H := hP
                      have hD : va_D (va_A (WZ cI cL z σ T P) sz) ([(z 0, .inr (8, [.int (iI (σ 0)), .int (iI (σ 1)), .int (iI (its)), .int (iI (σ 3)), .int (iI (σ 4)), .int (iI (σ 5)), .ref (z 1), .ref (z 2), .int (iI ((σ 9) + (1))), .int (iI ((σ 10) + (1)))])), (z 1, .inl (cL, (σ 6).toNat, .inr (.inr (.inr (.inr (fun j => if j < (σ 6).toNat then some (z (10 + j)) else none)))))), (z 2, .inl (cL, (σ 7).toNat, .inr (.inr (.inr (.inr (fun j => if j < (σ 7).toNat then some (z (20 + j)) else none))))))] ++ (wZf cI z T (σ 6).toNat ++ wZs cI z P (σ 7).toNat)) := hD
                      refine lv_iload hx hb dX6_observe_207 (lv_at hl 2 rfl) ?_
                      exact q_giret (cells := 0) (slots := 0) (mc := 0) (ms := 0) (w1 := fun (_ : Unit) => WZ cI cL z (m_obs σ d b) T P) (()) hx hb hr hlocks hS (hla) (by first | (rw [show m_obs σ d b = st (st (st σ 9 (σ 9 + 1)) 10 (σ 10 + 1)) 2 (m_clamp (Int.tdiv (2 * (1000 * d + 500 - σ 3)) (2 * m_nt (σ 2) (σ 3) b d + b))) from if_neg (by rw [← hla, ← hnt]; omega), show m_clamp (Int.tdiv (2 * (1000 * d + 500 - σ 3)) (2 * m_nt (σ 2) (σ 3) b d + b)) = its from by rw [← hits]; unfold m_clamp; (repeat' split) <;> omega]; exact ⟨hP, hD⟩) | (rw [show m_obs σ d b = st (st (st σ 9 (σ 9 + 1)) 10 (σ 10 + 1)) 2 (m_clamp (Int.tdiv (2 * (1000 * d + 500 - σ 3)) (2 * m_nt (σ 2) (σ 3) b d + b))) from if_neg (by rw [← hla, ← hnt]; omega), show m_clamp (Int.tdiv (2 * (1000 * d + 500 - σ 3)) (2 * m_nt (σ 2) (σ 3) b d + b)) = 40000 from by rw [← hits]; unfold m_clamp; (repeat' split) <;> omega]; exact ⟨hP, hD⟩) | (rw [show m_obs σ d b = st (st (st σ 9 (σ 9 + 1)) 10 (σ 10 + 1)) 2 (m_clamp (Int.tdiv (2 * (1000 * d + 500 - σ 3)) (2 * m_nt (σ 2) (σ 3) b d + b))) from if_neg (by rw [← hla, ← hnt]; omega), show m_clamp (Int.tdiv (2 * (1000 * d + 500 - σ 3)) (2 * m_nt (σ 2) (σ 3) b d + b)) = 20000 from by rw [← hits]; unfold m_clamp; (repeat' split) <;> omega]; exact ⟨hP, hD⟩)) (by omega) (by omega) dX6_observe_209
                    · skip
                      refine q_ldc (z := 40000) hx hb hown (hts (.constant RX6 81 (40000)) (List.mem_of_getElem? (i := 12) rfl)) (by decide) dX6_observe_197 ?_
                      refine lv_goto (tgt := 204) hx hb dX6_observe_199 (by decide) ?_
                      refine va_put (D := D) (ci := 8) (v := .int (iI (40000))) (ty := .int) (C := RX6) (T := TX6) (N := 10) hx hb hts (fun w h => List.mem_cons_of_mem _ (List.mem_append_right _ h)) tyX6 tyX6_ok nmX6 hown hK hP hD hS 0 rfl rfl 2 (by decide) (hts (.fieldLink RX6 16 "AlmanacHouseLaw$Sim" "length" "I") (List.mem_of_getElem? (i := 1) rfl)) (fun _ h9 => h9) rfl (by decide +kernel) rfl rfl (Nat.le_of_ble_eq_true rfl) dX6_observe_204 (fun H locs hP hD hS => ?_)
                      have hP : va_P D vwCl ([(z 0, .inr (8, [.int (iI (σ 0)), .int (iI (σ 1)), .int (iI (40000)), .int (iI (σ 3)), .int (iI (σ 4)), .int (iI (σ 5)), .ref (z 1), .ref (z 2), .int (iI ((σ 9) + (1))), .int (iI ((σ 10) + (1)))])), (z 1, .inl (cL, (σ 6).toNat, .inr (.inr (.inr (.inr (fun j => if j < (σ 6).toNat then some (z (10 + j)) else none)))))), (z 2, .inl (cL, (σ 7).toNat, .inr (.inr (.inr (.inr (fun j => if j < (σ 7).toNat then some (z (20 + j)) else none))))))] ++ (wZf cI z T (σ 6).toNat ++ wZs cI z P (σ 7).toNat)) H := hP
                      have hD : va_D (va_A (WZ cI cL z σ T P) sz) ([(z 0, .inr (8, [.int (iI (σ 0)), .int (iI (σ 1)), .int (iI (40000)), .int (iI (σ 3)), .int (iI (σ 4)), .int (iI (σ 5)), .ref (z 1), .ref (z 2), .int (iI ((σ 9) + (1))), .int (iI ((σ 10) + (1)))])), (z 1, .inl (cL, (σ 6).toNat, .inr (.inr (.inr (.inr (fun j => if j < (σ 6).toNat then some (z (10 + j)) else none)))))), (z 2, .inl (cL, (σ 7).toNat, .inr (.inr (.inr (.inr (fun j => if j < (σ 7).toNat then some (z (20 + j)) else none))))))] ++ (wZf cI z T (σ 6).toNat ++ wZs cI z P (σ 7).toNat)) := hD
                      refine lv_iload hx hb dX6_observe_207 (lv_at hl 2 rfl) ?_
                      exact q_giret (cells := 0) (slots := 0) (mc := 0) (ms := 0) (w1 := fun (_ : Unit) => WZ cI cL z (m_obs σ d b) T P) (()) hx hb hr hlocks hS (hla) (by first | (rw [show m_obs σ d b = st (st (st σ 9 (σ 9 + 1)) 10 (σ 10 + 1)) 2 (m_clamp (Int.tdiv (2 * (1000 * d + 500 - σ 3)) (2 * m_nt (σ 2) (σ 3) b d + b))) from if_neg (by rw [← hla, ← hnt]; omega), show m_clamp (Int.tdiv (2 * (1000 * d + 500 - σ 3)) (2 * m_nt (σ 2) (σ 3) b d + b)) = its from by rw [← hits]; unfold m_clamp; (repeat' split) <;> omega]; exact ⟨hP, hD⟩) | (rw [show m_obs σ d b = st (st (st σ 9 (σ 9 + 1)) 10 (σ 10 + 1)) 2 (m_clamp (Int.tdiv (2 * (1000 * d + 500 - σ 3)) (2 * m_nt (σ 2) (σ 3) b d + b))) from if_neg (by rw [← hla, ← hnt]; omega), show m_clamp (Int.tdiv (2 * (1000 * d + 500 - σ 3)) (2 * m_nt (σ 2) (σ 3) b d + b)) = 40000 from by rw [← hits]; unfold m_clamp; (repeat' split) <;> omega]; exact ⟨hP, hD⟩) | (rw [show m_obs σ d b = st (st (st σ 9 (σ 9 + 1)) 10 (σ 10 + 1)) 2 (m_clamp (Int.tdiv (2 * (1000 * d + 500 - σ 3)) (2 * m_nt (σ 2) (σ 3) b d + b))) from if_neg (by rw [← hla, ← hnt]; omega), show m_clamp (Int.tdiv (2 * (1000 * d + 500 - σ 3)) (2 * m_nt (σ 2) (σ 3) b d + b)) = 20000 from by rw [← hits]; unfold m_clamp; (repeat' split) <;> omega]; exact ⟨hP, hD⟩)) (by omega) (by omega) dX6_observe_209
                  · skip
                    refine q_sipush hx hb dX6_observe_184 (by decide) ?_
                    refine lv_goto (tgt := 204) hx hb dX6_observe_187 (by decide) ?_
                    refine va_put (D := D) (ci := 8) (v := .int (iI (20000))) (ty := .int) (C := RX6) (T := TX6) (N := 10) hx hb hts (fun w h => List.mem_cons_of_mem _ (List.mem_append_right _ h)) tyX6 tyX6_ok nmX6 hown hK hP hD hS 0 rfl rfl 2 (by decide) (hts (.fieldLink RX6 16 "AlmanacHouseLaw$Sim" "length" "I") (List.mem_of_getElem? (i := 1) rfl)) (fun _ h9 => h9) rfl (by decide +kernel) rfl rfl (Nat.le_of_ble_eq_true rfl) dX6_observe_204 (fun H locs hP hD hS => ?_)
                    have hP : va_P D vwCl ([(z 0, .inr (8, [.int (iI (σ 0)), .int (iI (σ 1)), .int (iI (20000)), .int (iI (σ 3)), .int (iI (σ 4)), .int (iI (σ 5)), .ref (z 1), .ref (z 2), .int (iI ((σ 9) + (1))), .int (iI ((σ 10) + (1)))])), (z 1, .inl (cL, (σ 6).toNat, .inr (.inr (.inr (.inr (fun j => if j < (σ 6).toNat then some (z (10 + j)) else none)))))), (z 2, .inl (cL, (σ 7).toNat, .inr (.inr (.inr (.inr (fun j => if j < (σ 7).toNat then some (z (20 + j)) else none))))))] ++ (wZf cI z T (σ 6).toNat ++ wZs cI z P (σ 7).toNat)) H := hP
                    have hD : va_D (va_A (WZ cI cL z σ T P) sz) ([(z 0, .inr (8, [.int (iI (σ 0)), .int (iI (σ 1)), .int (iI (20000)), .int (iI (σ 3)), .int (iI (σ 4)), .int (iI (σ 5)), .ref (z 1), .ref (z 2), .int (iI ((σ 9) + (1))), .int (iI ((σ 10) + (1)))])), (z 1, .inl (cL, (σ 6).toNat, .inr (.inr (.inr (.inr (fun j => if j < (σ 6).toNat then some (z (10 + j)) else none)))))), (z 2, .inl (cL, (σ 7).toNat, .inr (.inr (.inr (.inr (fun j => if j < (σ 7).toNat then some (z (20 + j)) else none))))))] ++ (wZf cI z T (σ 6).toNat ++ wZs cI z P (σ 7).toNat)) := hD
                    refine lv_iload hx hb dX6_observe_207 (lv_at hl 2 rfl) ?_
                    exact q_giret (cells := 0) (slots := 0) (mc := 0) (ms := 0) (w1 := fun (_ : Unit) => WZ cI cL z (m_obs σ d b) T P) (()) hx hb hr hlocks hS (hla) (by first | (rw [show m_obs σ d b = st (st (st σ 9 (σ 9 + 1)) 10 (σ 10 + 1)) 2 (m_clamp (Int.tdiv (2 * (1000 * d + 500 - σ 3)) (2 * m_nt (σ 2) (σ 3) b d + b))) from if_neg (by rw [← hla, ← hnt]; omega), show m_clamp (Int.tdiv (2 * (1000 * d + 500 - σ 3)) (2 * m_nt (σ 2) (σ 3) b d + b)) = its from by rw [← hits]; unfold m_clamp; (repeat' split) <;> omega]; exact ⟨hP, hD⟩) | (rw [show m_obs σ d b = st (st (st σ 9 (σ 9 + 1)) 10 (σ 10 + 1)) 2 (m_clamp (Int.tdiv (2 * (1000 * d + 500 - σ 3)) (2 * m_nt (σ 2) (σ 3) b d + b))) from if_neg (by rw [← hla, ← hnt]; omega), show m_clamp (Int.tdiv (2 * (1000 * d + 500 - σ 3)) (2 * m_nt (σ 2) (σ 3) b d + b)) = 40000 from by rw [← hits]; unfold m_clamp; (repeat' split) <;> omega]; exact ⟨hP, hD⟩) | (rw [show m_obs σ d b = st (st (st σ 9 (σ 9 + 1)) 10 (σ 10 + 1)) 2 (m_clamp (Int.tdiv (2 * (1000 * d + 500 - σ 3)) (2 * m_nt (σ 2) (σ 3) b d + b))) from if_neg (by rw [← hla, ← hnt]; omega), show m_clamp (Int.tdiv (2 * (1000 * d + 500 - σ 3)) (2 * m_nt (σ 2) (σ 3) b d + b)) = 20000 from by rw [← hits]; unfold m_clamp; (repeat' split) <;> omega]; exact ⟨hP, hD⟩)) (by omega) (by omega) dX6_observe_209
                · skip
                  refine q_iconst hx hb dX6_observe_156 ?_
                  refine lv_iload hx hb dX6_observe_157 (lv_at hl 0 rfl) ?_
                  refine q_imul hx hb dX6_observe_159 ?_
                  refine q_iconst hx hb dX6_observe_160 ?_
                  refine lv_iload_n hx hb dX6_observe_161 rfl (lv_at hl 5 rfl) ?_
                  refine q_imul hx hb dX6_observe_162 ?_
                  refine q_iconst hx hb dX6_observe_163 ?_
                  refine q_iadd hx hb dX6_observe_164 ?_
                  refine q_idivt hx hb dX6_observe_165 (by omega) (by omega) ?_
                  refine lv_goto (tgt := 173) hx hb dX6_observe_166 (by decide) ?_
                  refine q_top (fun its eits => ?_)
                  have hits : its = Int.tdiv (2 * (1000 * d + 500 - σ 3)) (2 * m_nt (σ 2) (σ 3) b d + b) := by
                      rw [← hnt]
                      first
                      | (have hb0 : b = 0 := by omega
                         rw [eits, emi, hb0, Int.add_zero, m_td2])
                      | (have hb1 : b = 1 := by omega
                         rw [eits, emi, hb1])
                  refine lv_istore (lv' := [(7, .int (iI (its))), (6, .int (iI (mi))), (5, .int (iI (la))), (0, .ref (z 0)), (1, .int (iI (d))), (2, .int (iI (b))), (3, .int (iI (be))), (4, .int (iI (k0)))]) hx hb dX6_observe_173 hl (by decide) rfl (fun ls hl => ?_)
                  refine lv_aload_n hx hb dX6_observe_175 rfl (lv_at hl 3 rfl) ?_
                  refine lv_iload hx hb dX6_observe_176 (lv_at hl 0 rfl) ?_
                  refine q_sipush hx hb dX6_observe_178 (by decide) ?_
                  refine q_icmp_ge (tgt := 190) hx hb dX6_observe_181 (by decide) (by omega) (by omega) (fun c_27 => ?_) (fun c_27 => ?_)
                  · skip
                    refine lv_iload hx hb dX6_observe_190 (lv_at hl 0 rfl) ?_
                    refine q_ldc (z := 40000) hx hb hown (hts (.constant RX6 81 (40000)) (List.mem_of_getElem? (i := 12) rfl)) (by decide) dX6_observe_192 ?_
                    refine q_icmp_le (tgt := 202) hx hb dX6_observe_194 (by decide) (by omega) (by omega) (fun c_28 => ?_) (fun c_28 => ?_)
                    · skip
                      refine lv_iload hx hb dX6_observe_202 (lv_at hl 0 rfl) ?_
                      refine va_put (D := D) (ci := 8) (v := .int (iI (its))) (ty := .int) (C := RX6) (T := TX6) (N := 10) hx hb hts (fun w h => List.mem_cons_of_mem _ (List.mem_append_right _ h)) tyX6 tyX6_ok nmX6 hown hK hP hD hS 0 rfl rfl 2 (by decide) (hts (.fieldLink RX6 16 "AlmanacHouseLaw$Sim" "length" "I") (List.mem_of_getElem? (i := 1) rfl)) (fun _ h9 => h9) rfl (by decide +kernel) rfl rfl (Nat.le_of_ble_eq_true rfl) dX6_observe_204 (fun H locs hP hD hS => ?_)
                      have hP : va_P D vwCl ([(z 0, .inr (8, [.int (iI (σ 0)), .int (iI (σ 1)), .int (iI (its)), .int (iI (σ 3)), .int (iI (σ 4)), .int (iI (σ 5)), .ref (z 1), .ref (z 2), .int (iI ((σ 9) + (1))), .int (iI ((σ 10) + (1)))])), (z 1, .inl (cL, (σ 6).toNat, .inr (.inr (.inr (.inr (fun j => if j < (σ 6).toNat then some (z (10 + j)) else none)))))), (z 2, .inl (cL, (σ 7).toNat, .inr (.inr (.inr (.inr (fun j => if j < (σ 7).toNat then some (z (20 + j)) else none))))))] ++ (wZf cI z T (σ 6).toNat ++ wZs cI z P (σ 7).toNat)) H := hP
                      have hD : va_D (va_A (WZ cI cL z σ T P) sz) ([(z 0, .inr (8, [.int (iI (σ 0)), .int (iI (σ 1)), .int (iI (its)), .int (iI (σ 3)), .int (iI (σ 4)), .int (iI (σ 5)), .ref (z 1), .ref (z 2), .int (iI ((σ 9) + (1))), .int (iI ((σ 10) + (1)))])), (z 1, .inl (cL, (σ 6).toNat, .inr (.inr (.inr (.inr (fun j => if j < (σ 6).toNat then some (z (10 + j)) else none)))))), (z 2, .inl (cL, (σ 7).toNat, .inr (.inr (.inr (.inr (fun j => if j < (σ 7).toNat then some (z (20 + j)) else none))))))] ++ (wZf cI z T (σ 6).toNat ++ wZs cI z P (σ 7).toNat)) := hD
                      refine lv_iload hx hb dX6_observe_207 (lv_at hl 2 rfl) ?_
                      exact q_giret (cells := 0) (slots := 0) (mc := 0) (ms := 0) (w1 := fun (_ : Unit) => WZ cI cL z (m_obs σ d b) T P) (()) hx hb hr hlocks hS (hla) (by first | (rw [show m_obs σ d b = st (st (st σ 9 (σ 9 + 1)) 10 (σ 10 + 1)) 2 (m_clamp (Int.tdiv (2 * (1000 * d + 500 - σ 3)) (2 * m_nt (σ 2) (σ 3) b d + b))) from if_neg (by rw [← hla, ← hnt]; omega), show m_clamp (Int.tdiv (2 * (1000 * d + 500 - σ 3)) (2 * m_nt (σ 2) (σ 3) b d + b)) = its from by rw [← hits]; unfold m_clamp; (repeat' split) <;> omega]; exact ⟨hP, hD⟩) | (rw [show m_obs σ d b = st (st (st σ 9 (σ 9 + 1)) 10 (σ 10 + 1)) 2 (m_clamp (Int.tdiv (2 * (1000 * d + 500 - σ 3)) (2 * m_nt (σ 2) (σ 3) b d + b))) from if_neg (by rw [← hla, ← hnt]; omega), show m_clamp (Int.tdiv (2 * (1000 * d + 500 - σ 3)) (2 * m_nt (σ 2) (σ 3) b d + b)) = 40000 from by rw [← hits]; unfold m_clamp; (repeat' split) <;> omega]; exact ⟨hP, hD⟩) | (rw [show m_obs σ d b = st (st (st σ 9 (σ 9 + 1)) 10 (σ 10 + 1)) 2 (m_clamp (Int.tdiv (2 * (1000 * d + 500 - σ 3)) (2 * m_nt (σ 2) (σ 3) b d + b))) from if_neg (by rw [← hla, ← hnt]; omega), show m_clamp (Int.tdiv (2 * (1000 * d + 500 - σ 3)) (2 * m_nt (σ 2) (σ 3) b d + b)) = 20000 from by rw [← hits]; unfold m_clamp; (repeat' split) <;> omega]; exact ⟨hP, hD⟩)) (by omega) (by omega) dX6_observe_209
                    · skip
                      refine q_ldc (z := 40000) hx hb hown (hts (.constant RX6 81 (40000)) (List.mem_of_getElem? (i := 12) rfl)) (by decide) dX6_observe_197 ?_
                      refine lv_goto (tgt := 204) hx hb dX6_observe_199 (by decide) ?_
                      refine va_put (D := D) (ci := 8) (v := .int (iI (40000))) (ty := .int) (C := RX6) (T := TX6) (N := 10) hx hb hts (fun w h => List.mem_cons_of_mem _ (List.mem_append_right _ h)) tyX6 tyX6_ok nmX6 hown hK hP hD hS 0 rfl rfl 2 (by decide) (hts (.fieldLink RX6 16 "AlmanacHouseLaw$Sim" "length" "I") (List.mem_of_getElem? (i := 1) rfl)) (fun _ h9 => h9) rfl (by decide +kernel) rfl rfl (Nat.le_of_ble_eq_true rfl) dX6_observe_204 (fun H locs hP hD hS => ?_)
                      have hP : va_P D vwCl ([(z 0, .inr (8, [.int (iI (σ 0)), .int (iI (σ 1)), .int (iI (40000)), .int (iI (σ 3)), .int (iI (σ 4)), .int (iI (σ 5)), .ref (z 1), .ref (z 2), .int (iI ((σ 9) + (1))), .int (iI ((σ 10) + (1)))])), (z 1, .inl (cL, (σ 6).toNat, .inr (.inr (.inr (.inr (fun j => if j < (σ 6).toNat then some (z (10 + j)) else none)))))), (z 2, .inl (cL, (σ 7).toNat, .inr (.inr (.inr (.inr (fun j => if j < (σ 7).toNat then some (z (20 + j)) else none))))))] ++ (wZf cI z T (σ 6).toNat ++ wZs cI z P (σ 7).toNat)) H := hP
                      have hD : va_D (va_A (WZ cI cL z σ T P) sz) ([(z 0, .inr (8, [.int (iI (σ 0)), .int (iI (σ 1)), .int (iI (40000)), .int (iI (σ 3)), .int (iI (σ 4)), .int (iI (σ 5)), .ref (z 1), .ref (z 2), .int (iI ((σ 9) + (1))), .int (iI ((σ 10) + (1)))])), (z 1, .inl (cL, (σ 6).toNat, .inr (.inr (.inr (.inr (fun j => if j < (σ 6).toNat then some (z (10 + j)) else none)))))), (z 2, .inl (cL, (σ 7).toNat, .inr (.inr (.inr (.inr (fun j => if j < (σ 7).toNat then some (z (20 + j)) else none))))))] ++ (wZf cI z T (σ 6).toNat ++ wZs cI z P (σ 7).toNat)) := hD
                      refine lv_iload hx hb dX6_observe_207 (lv_at hl 2 rfl) ?_
                      exact q_giret (cells := 0) (slots := 0) (mc := 0) (ms := 0) (w1 := fun (_ : Unit) => WZ cI cL z (m_obs σ d b) T P) (()) hx hb hr hlocks hS (hla) (by first | (rw [show m_obs σ d b = st (st (st σ 9 (σ 9 + 1)) 10 (σ 10 + 1)) 2 (m_clamp (Int.tdiv (2 * (1000 * d + 500 - σ 3)) (2 * m_nt (σ 2) (σ 3) b d + b))) from if_neg (by rw [← hla, ← hnt]; omega), show m_clamp (Int.tdiv (2 * (1000 * d + 500 - σ 3)) (2 * m_nt (σ 2) (σ 3) b d + b)) = its from by rw [← hits]; unfold m_clamp; (repeat' split) <;> omega]; exact ⟨hP, hD⟩) | (rw [show m_obs σ d b = st (st (st σ 9 (σ 9 + 1)) 10 (σ 10 + 1)) 2 (m_clamp (Int.tdiv (2 * (1000 * d + 500 - σ 3)) (2 * m_nt (σ 2) (σ 3) b d + b))) from if_neg (by rw [← hla, ← hnt]; omega), show m_clamp (Int.tdiv (2 * (1000 * d + 500 - σ 3)) (2 * m_nt (σ 2) (σ 3) b d + b)) = 40000 from by rw [← hits]; unfold m_clamp; (repeat' split) <;> omega]; exact ⟨hP, hD⟩) | (rw [show m_obs σ d b = st (st (st σ 9 (σ 9 + 1)) 10 (σ 10 + 1)) 2 (m_clamp (Int.tdiv (2 * (1000 * d + 500 - σ 3)) (2 * m_nt (σ 2) (σ 3) b d + b))) from if_neg (by rw [← hla, ← hnt]; omega), show m_clamp (Int.tdiv (2 * (1000 * d + 500 - σ 3)) (2 * m_nt (σ 2) (σ 3) b d + b)) = 20000 from by rw [← hits]; unfold m_clamp; (repeat' split) <;> omega]; exact ⟨hP, hD⟩)) (by omega) (by omega) dX6_observe_209
                  · skip
                    refine q_sipush hx hb dX6_observe_184 (by decide) ?_
                    refine lv_goto (tgt := 204) hx hb dX6_observe_187 (by decide) ?_
                    refine va_put (D := D) (ci := 8) (v := .int (iI (20000))) (ty := .int) (C := RX6) (T := TX6) (N := 10) hx hb hts (fun w h => List.mem_cons_of_mem _ (List.mem_append_right _ h)) tyX6 tyX6_ok nmX6 hown hK hP hD hS 0 rfl rfl 2 (by decide) (hts (.fieldLink RX6 16 "AlmanacHouseLaw$Sim" "length" "I") (List.mem_of_getElem? (i := 1) rfl)) (fun _ h9 => h9) rfl (by decide +kernel) rfl rfl (Nat.le_of_ble_eq_true rfl) dX6_observe_204 (fun H locs hP hD hS => ?_)
                    have hP : va_P D vwCl ([(z 0, .inr (8, [.int (iI (σ 0)), .int (iI (σ 1)), .int (iI (20000)), .int (iI (σ 3)), .int (iI (σ 4)), .int (iI (σ 5)), .ref (z 1), .ref (z 2), .int (iI ((σ 9) + (1))), .int (iI ((σ 10) + (1)))])), (z 1, .inl (cL, (σ 6).toNat, .inr (.inr (.inr (.inr (fun j => if j < (σ 6).toNat then some (z (10 + j)) else none)))))), (z 2, .inl (cL, (σ 7).toNat, .inr (.inr (.inr (.inr (fun j => if j < (σ 7).toNat then some (z (20 + j)) else none))))))] ++ (wZf cI z T (σ 6).toNat ++ wZs cI z P (σ 7).toNat)) H := hP
                    have hD : va_D (va_A (WZ cI cL z σ T P) sz) ([(z 0, .inr (8, [.int (iI (σ 0)), .int (iI (σ 1)), .int (iI (20000)), .int (iI (σ 3)), .int (iI (σ 4)), .int (iI (σ 5)), .ref (z 1), .ref (z 2), .int (iI ((σ 9) + (1))), .int (iI ((σ 10) + (1)))])), (z 1, .inl (cL, (σ 6).toNat, .inr (.inr (.inr (.inr (fun j => if j < (σ 6).toNat then some (z (10 + j)) else none)))))), (z 2, .inl (cL, (σ 7).toNat, .inr (.inr (.inr (.inr (fun j => if j < (σ 7).toNat then some (z (20 + j)) else none))))))] ++ (wZf cI z T (σ 6).toNat ++ wZs cI z P (σ 7).toNat)) := hD
                    refine lv_iload hx hb dX6_observe_207 (lv_at hl 2 rfl) ?_
                    exact q_giret (cells := 0) (slots := 0) (mc := 0) (ms := 0) (w1 := fun (_ : Unit) => WZ cI cL z (m_obs σ d b) T P) (()) hx hb hr hlocks hS (hla) (by first | (rw [show m_obs σ d b = st (st (st σ 9 (σ 9 + 1)) 10 (σ 10 + 1)) 2 (m_clamp (Int.tdiv (2 * (1000 * d + 500 - σ 3)) (2 * m_nt (σ 2) (σ 3) b d + b))) from if_neg (by rw [← hla, ← hnt]; omega), show m_clamp (Int.tdiv (2 * (1000 * d + 500 - σ 3)) (2 * m_nt (σ 2) (σ 3) b d + b)) = its from by rw [← hits]; unfold m_clamp; (repeat' split) <;> omega]; exact ⟨hP, hD⟩) | (rw [show m_obs σ d b = st (st (st σ 9 (σ 9 + 1)) 10 (σ 10 + 1)) 2 (m_clamp (Int.tdiv (2 * (1000 * d + 500 - σ 3)) (2 * m_nt (σ 2) (σ 3) b d + b))) from if_neg (by rw [← hla, ← hnt]; omega), show m_clamp (Int.tdiv (2 * (1000 * d + 500 - σ 3)) (2 * m_nt (σ 2) (σ 3) b d + b)) = 40000 from by rw [← hits]; unfold m_clamp; (repeat' split) <;> omega]; exact ⟨hP, hD⟩) | (rw [show m_obs σ d b = st (st (st σ 9 (σ 9 + 1)) 10 (σ 10 + 1)) 2 (m_clamp (Int.tdiv (2 * (1000 * d + 500 - σ 3)) (2 * m_nt (σ 2) (σ 3) b d + b))) from if_neg (by rw [← hla, ← hnt]; omega), show m_clamp (Int.tdiv (2 * (1000 * d + 500 - σ 3)) (2 * m_nt (σ 2) (σ 3) b d + b)) = 20000 from by rw [← hits]; unfold m_clamp; (repeat' split) <;> omega]; exact ⟨hP, hD⟩)) (by omega) (by omega) dX6_observe_209
              · skip
                refine lv_iload hx hb dX6_observe_123 (lv_at hl 0 rfl) ?_
                exact q_giret (cells := 0) (slots := 0) (mc := 0) (ms := 0) (w1 := fun (_ : Unit) => WZ cI cL z (m_obs σ d b) T P) (()) hx hb hr hlocks hS (hla) (by rw [show m_obs σ d b = st σ 9 (σ 9 + 1) from if_pos (by rw [← hla, ← hnt]; omega)]; exact ⟨hP, hD⟩) (by omega) (by omega) dX6_observe_125
        · skip
          refine lv_aload_n hx hb dX6_observe_41 rfl (lv_at hl 0 rfl) ?_
          refine lv_iload hx hb dX6_observe_42 (lv_at hl 5 rfl) ?_
          refine lv_iload_n hx hb dX6_observe_44 rfl (lv_at hl 2 rfl) ?_
          refine q_callV (fr := 1) (lo := 22) (nL := 8) (Pic := PicS D cI cL z σ T P) (As := [.int (iI (i)), .int (iI (b))]) (rest := []) ⟨hx, hb, hml, hown, hts⟩ (z_moon l D cI cO cL z σ T P hW hSS (i) (b) (by omega) (by omega)) (cwV 2 hts gX6_observe_X6_moon rfl rfl rfl (by decide +kernel) ⟨Nat.le_of_ble_eq_true rfl, Nat.le_of_ble_eq_true rfl⟩) (ob_recv hPic.at0 hK rfl) hPic hK rfl hl.1 rfl (Nat.le_of_ble_eq_true rfl) dX6_observe_45 (Nat.zero_le _) (Nat.zero_le _) ?_
          have htm45 := m_tm_in (ln := σ 2) (fi := σ 3) (b := (b)) (k := (i)) w2 w3 (by omega)
          refine lv_iload_n hx hb dX6_observe_48 rfl (lv_at hl 1 rfl) ?_
          refine q_isub hx hb dX6_observe_49 ?_
          refine q_mabs hx hb (hml.trans hl.1.symm) hown (hts (.methodLink RX6 72 Lib.Math.abs.name) (List.mem_of_getElem? (i := 6) rfl)) (hts (.static Lib.Math.abs.name) (List.mem_of_getElem? (i := 7) rfl)) (hts (.initialized "java/lang/Math") (List.mem_of_getElem? (i := 4) rfl)) (hts (.code Lib.Math.abs.name Lib.Math.abs.code 1 (some .int)) (List.mem_of_getElem? (i := 8) rfl)) (by omega) (Nat.le_of_ble_eq_true rfl) (Nat.le_of_ble_eq_true rfl) (Nat.zero_le _) (Nat.zero_le _) dX6_observe_50 ?_
          refine q_top (fun by1 eby1 => ?_)
          refine lv_istore (lv' := [(6, .int (iI (by1))), (0, .ref (z 0)), (1, .int (iI (d))), (2, .int (iI (b))), (3, .int (iI (be))), (4, .int (iI (k0))), (5, .int (iI (i)))]) hx hb dX6_observe_53 hl (by decide) rfl (fun ls hl => ?_)
          refine lv_iload hx hb dX6_observe_55 (lv_at hl 6 rfl) ?_
          refine lv_iload hx hb dX6_observe_57 (lv_at hl 5 rfl) ?_
          refine q_bipush hx hb dX6_observe_59 (by decide) ?_
          refine q_iadd hx hb dX6_observe_61 ?_
          refine q_icmp_eq (tgt := 81) hx hb dX6_observe_62 (by decide) (by omega) (by omega) (fun c_29 => ?_) (fun c_29 => ?_)
          · skip
            refine lv_iload hx hb dX6_observe_81 (lv_at hl 6 rfl) ?_
            refine lv_istore_n (lv' := [(3, .int (iI (i))), (6, .int (iI (by1))), (0, .ref (z 0)), (1, .int (iI (d))), (2, .int (iI (b))), (4, .int (iI (k0))), (5, .int (iI (i)))]) hx hb dX6_observe_83 rfl hl (by decide) rfl (fun ls hl => ?_)
            refine q_iinc (k := 6) (lv' := [(5, .int (iI (i + (-1)))), (3, .int (iI (i))), (6, .int (iI (by1))), (0, .ref (z 0)), (1, .int (iI (d))), (2, .int (iI (b))), (4, .int (iI (k0)))]) hx hb dX6_observe_84 hl rfl (by decide) rfl (fun ls hl => ?_)
            refine lv_goto (tgt := 27) hx hb dX6_observe_87 (by decide) ?_
            exact ih_27 _ _ (by omega) (by
              refine Or.inr ⟨by omega, ?_⟩
              rw [show i + (-1) + 1 = i by omega]
              first
              | exact (s_best_0 (by omega)).symm
              | (rw [s_best_step w2 w3 (by omega) (by omega), ← hbe2, if_pos hcc])
              | (rw [s_best_step w2 w3 (by omega) (by omega), ← hbe2, if_neg hcc])) (by omega) _ _ (hP) (hD) hS _ (lv_sub hl [3, 4, 5, 1, 6, 0] rfl)
          · skip
            have hbe2 : be = s_best (σ 2) (σ 3) b d (i + 1) := hbe.elim (fun h => absurd h.1 (by omega)) (fun h => h.2)
            refine lv_iload hx hb dX6_observe_65 (lv_at hl 0 rfl) ?_
            refine lv_aload_n hx hb dX6_observe_67 rfl (lv_at hl 1 rfl) ?_
            refine lv_iload_n hx hb dX6_observe_68 rfl (lv_at hl 4 rfl) ?_
            refine lv_iload_n hx hb dX6_observe_69 rfl (lv_at hl 3 rfl) ?_
            refine q_callV (fr := 1) (lo := 22) (nL := 8) (Pic := PicS D cI cL z σ T P) (As := [.int (iI (be)), .int (iI (b))]) (rest := [.int (iI (by1))]) ⟨hx, hb, hml, hown, hts⟩ (z_moon l D cI cO cL z σ T P hW hSS (be) (b) (by omega) (by omega)) (cwV 2 hts gX6_observe_X6_moon rfl rfl rfl (by decide +kernel) ⟨Nat.le_of_ble_eq_true rfl, Nat.le_of_ble_eq_true rfl⟩) (ob_recv hPic.at0 hK rfl) hPic hK rfl hl.1 rfl (Nat.le_of_ble_eq_true rfl) dX6_observe_70 (Nat.zero_le _) (Nat.zero_le _) ?_
            have htm70 := m_tm_in (ln := σ 2) (fi := σ 3) (b := (b)) (k := (be)) w2 w3 (by omega)
            refine lv_iload_n hx hb dX6_observe_73 rfl (lv_at hl 2 rfl) ?_
            refine q_isub hx hb dX6_observe_74 ?_
            refine q_mabs hx hb (hml.trans hl.1.symm) hown (hts (.methodLink RX6 72 Lib.Math.abs.name) (List.mem_of_getElem? (i := 6) rfl)) (hts (.static Lib.Math.abs.name) (List.mem_of_getElem? (i := 7) rfl)) (hts (.initialized "java/lang/Math") (List.mem_of_getElem? (i := 4) rfl)) (hts (.code Lib.Math.abs.name Lib.Math.abs.code 1 (some .int)) (List.mem_of_getElem? (i := 8) rfl)) (by omega) (Nat.le_of_ble_eq_true rfl) (Nat.le_of_ble_eq_true rfl) (Nat.zero_le _) (Nat.zero_le _) dX6_observe_75 ?_
            refine q_icmp_gt (tgt := 84) hx hb dX6_observe_78 (by decide) (by omega) (by omega) (fun c_30 => ?_) (fun c_30 => ?_)
            · skip
              have hcc : ¬ m_abs (m_tm (σ 2) (σ 3) i b / 1000 - d) ≤ m_abs (m_tm (σ 2) (σ 3) be b / 1000 - d) := by unfold m_abs; omega
              refine q_iinc (k := 6) (lv' := [(5, .int (iI (i + (-1)))), (6, .int (iI (by1))), (0, .ref (z 0)), (1, .int (iI (d))), (2, .int (iI (b))), (3, .int (iI (be))), (4, .int (iI (k0)))]) hx hb dX6_observe_84 hl rfl (by decide) rfl (fun ls hl => ?_)
              refine lv_goto (tgt := 27) hx hb dX6_observe_87 (by decide) ?_
              exact ih_27 _ _ (by omega) (by
                refine Or.inr ⟨by omega, ?_⟩
                rw [show i + (-1) + 1 = i by omega]
                first
                | exact (s_best_0 (by omega)).symm
                | (rw [s_best_step w2 w3 (by omega) (by omega), ← hbe2, if_pos hcc])
                | (rw [s_best_step w2 w3 (by omega) (by omega), ← hbe2, if_neg hcc])) (by omega) _ _ (hP) (hD) hS _ (lv_sub hl [2, 3, 4, 5, 6, 0] rfl)
            · skip
              have hcc : m_abs (m_tm (σ 2) (σ 3) i b / 1000 - d) ≤ m_abs (m_tm (σ 2) (σ 3) be b / 1000 - d) := by unfold m_abs; omega
              refine lv_iload hx hb dX6_observe_81 (lv_at hl 6 rfl) ?_
              refine lv_istore_n (lv' := [(3, .int (iI (i))), (6, .int (iI (by1))), (0, .ref (z 0)), (1, .int (iI (d))), (2, .int (iI (b))), (4, .int (iI (k0))), (5, .int (iI (i)))]) hx hb dX6_observe_83 rfl hl (by decide) rfl (fun ls hl => ?_)
              refine q_iinc (k := 6) (lv' := [(5, .int (iI (i + (-1)))), (3, .int (iI (i))), (6, .int (iI (by1))), (0, .ref (z 0)), (1, .int (iI (d))), (2, .int (iI (b))), (4, .int (iI (k0)))]) hx hb dX6_observe_84 hl rfl (by decide) rfl (fun ls hl => ?_)
              refine lv_goto (tgt := 27) hx hb dX6_observe_87 (by decide) ?_
              exact ih_27 _ _ (by omega) (by
                refine Or.inr ⟨by omega, ?_⟩
                rw [show i + (-1) + 1 = i by omega]
                first
                | exact (s_best_0 (by omega)).symm
                | (rw [s_best_step w2 w3 (by omega) (by omega), ← hbe2, if_pos hcc])
                | (rw [s_best_step w2 w3 (by omega) (by omega), ← hbe2, if_neg hcc])) (by omega) _ _ (hP) (hD) hS _ (lv_sub hl [3, 4, 5, 1, 6, 0] rfl)
  exact key_27 (k0.toNat + 11) 0 (k0 + 8) (by omega) (Or.inl ⟨by omega, rfl⟩) (by omega) _ _ (hP) (hD) hS _ (lv_sub hl [3, 4, 5, 2, 1, 0] rfl)
