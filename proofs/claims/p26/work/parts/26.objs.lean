/-! ===== the whole objects; Moons.correct; Sheet.addDay ===== -/
set_option maxHeartbeats 4000000 in
set_option maxRecDepth 100000 in
theorem g_houseInit (l : Launch) (D : va_G) (sz : Nat) (ed : Nat × Nat × Nat) (cI cO cL : ClassId) (h : Nat) : MGv l yX5_init wsX5_init 4 80 5 12 D (ty3 cI cO cL) sz ([(h, .inr (7, [.null, .null, .null, .null, .null, .int (iI (0)), .int (iI (0))]))]) [.ref h] ed (fun (u : Nat × Nat × Nat × Nat × Nat) => [(u.2.2.2.2, .inr (1, [.int (iI (0)), .ref ed.1, .int (iI (0))])), (u.2.2.2.1, .inr (1, [.int (iI (0)), .ref ed.1, .int (iI (0))])), (u.2.2.1, .inr (4, [.int (iI (173310)), .int (iI (0))])), (u.2.1, .inr (3, [.int (iI (29531)), .int (iI (0))])), (u.1, .inr (6, [.int (iI (4)), .int (iI (1))])), (h, .inr (7, [.ref u.1, .ref u.2.1, .ref u.2.2.1, .ref u.2.2.2.1, .ref u.2.2.2.2, .int (iI (0)), .int (iI (0))]))]) := by
  refine MGv_of (cc := cX5_init) (maxL := 1) (ret := none) (by decide) rfl (Nat.le_of_ble_eq_true rfl) ?_
  intro p e s m args below meth c ls hx hb hr hlocks hml hown hts hsz hP hK hD hS hA hin hE hT hl
  have hl : lv_has ls 1 [(0, .ref h)] := hl
  have hP : va_P D vwCl ([(h, .inr (7, [.null, .null, .null, .null, .null, .int (iI (0)), .int (iI (0))]))]) s.heap := hP
  have hD : va_D (va_A ([(h, .inr (7, [.null, .null, .null, .null, .null, .int (iI (0)), .int (iI (0))]))]) sz) ([(h, .inr (7, [.null, .null, .null, .null, .null, .int (iI (0)), .int (iI (0))]))]) := hD
  refine lv_aload_n hx hb dX5_init_0 rfl (lv_at hl 0 rfl) ?_
  refine W.objInit hx hb hown (hts (.methodLink RX5 1 objectInit) (List.mem_of_getElem? (i := 1) rfl)) (hts (.instanceMethod objectInit) (List.mem_of_getElem? (i := 2) rfl)) (hts (.code objectInit ⟨#[0xb1]⟩ 1 none) (List.mem_of_getElem? (i := 3) rfl)) rfl (hl.1.trans hml.symm) rfl dX5_init_1 (Nat.le_of_ble_eq_true rfl) (Nat.le_of_ble_eq_true rfl) ?_
  refine W.eq (g2 := F0 m 4 ls []) rfl ?_
  refine lv_aload_n hx hb dX5_init_4 rfl (lv_at hl 0 rfl) ?_
  refine q_newo (T := TX4) (N := 2) (ci := 6) (fs := [.int (iI (0)), .int (iI (0))]) hx hb hts (fun w h => List.mem_cons_of_mem _ (List.mem_append_left _ (List.mem_append_left _ (List.mem_append_left _ (List.mem_append_left _ (List.mem_append_right _ h)))))) tyX4 tyX4_ok hown (hts (.classLink RX5 7 RX4) (List.mem_of_getElem? (i := 4) rfl)) (hts (.instantiable RX4 2) (List.mem_of_getElem? (i := 5) rfl)) (hts (.initialized RX4) (List.mem_of_getElem? (i := 6) rfl)) hK hP hD hS hA rfl (by decide +kernel) (Nat.le_of_ble_eq_true rfl) (Nat.le_of_ble_eq_true rfl) dX5_init_5 ?_
  intro q5 H hP hD hS
  have hP : va_P D vwCl ([(q5, .inr (6, [.int (iI (0)), .int (iI (0))])), (h, .inr (7, [.null, .null, .null, .null, .null, .int (iI (0)), .int (iI (0))]))]) H := hP
  have hD : va_D (va_A ([(h, .inr (7, [.null, .null, .null, .null, .null, .int (iI (0)), .int (iI (0))]))]) sz) ([(q5, .inr (6, [.int (iI (0)), .int (iI (0))])), (h, .inr (7, [.null, .null, .null, .null, .null, .int (iI (0)), .int (iI (0))]))]) := hD
  refine lv_dup hx hb dX5_init_8 rfl ?_
  refine q_callGn (fr := 1) (lo := 20) (nL := 1) (wc := [(q5, .inr (6, [.int (iI (0)), .int (iI (0))]))]) (wr := [(h, .inr (7, [.null, .null, .null, .null, .null, .int (iI (0)), .int (iI (0))]))]) (As := []) (rest := [.ref q5, .ref h]) ⟨hx, hb, hml, hown, hts⟩ (g_yearsInit l D _ ed cI cO cL q5) (⟨va_cnB 0 hts gX5_init_X4_init_n9 rfl rfl rfl hT.2.2.2.2.1 (hts (.initialized RX4) (List.mem_of_getElem? (i := 6) rfl)) (by decide +kernel) ⟨Nat.le_of_ble_eq_true rfl, Nat.le_of_ble_eq_true rfl⟩, rfl, (hts (.instanceMethod yX4_init) (List.mem_of_getElem? (i := 21) rfl))⟩) hP hD hS hA hK hE hT rfl hl.1 rfl (Nat.le_of_ble_eq_true rfl) dX5_init_9 (Nat.le_of_ble_eq_true rfl) (Nat.le_of_ble_eq_true rfl) ?_
  intro _u H locs hP hD hS
  have hP : va_P D vwCl ([(q5, .inr (6, [.int (iI (4)), .int (iI (1))])), (h, .inr (7, [.null, .null, .null, .null, .null, .int (iI (0)), .int (iI (0))]))]) H := hP
  have hD : va_D (va_A ([(h, .inr (7, [.null, .null, .null, .null, .null, .int (iI (0)), .int (iI (0))]))]) sz) ([(q5, .inr (6, [.int (iI (4)), .int (iI (1))])), (h, .inr (7, [.null, .null, .null, .null, .null, .int (iI (0)), .int (iI (0))]))]) := hD
  refine va_putF (D := D) (ci := 7) (v := .ref q5) (ty := tyX5 0) (C := RX5) (T := TX5) (N := 7) hx hb hts (fun w h => List.mem_cons_of_mem _ (List.mem_append_left _ (List.mem_append_left _ (List.mem_append_left _ (List.mem_append_right _ h))))) tyX5 tyX5_ok nmX5 hown hK hP hD hS 1 rfl rfl 0 (by decide) (hts (.fieldLink RX5 10 "AlmanacHouse" "years" "LAlmanacHouse$Years;") (List.mem_of_getElem? (i := 7) rfl)) (fun _ h9 => h9) rfl hin rfl (by decide +kernel) rfl rfl (Nat.le_of_ble_eq_true rfl) dX5_init_12 (fun H locs hP hD hS => ?_)
  have hP : va_P D vwCl ([(q5, .inr (6, [.int (iI (4)), .int (iI (1))])), (h, .inr (7, [.ref q5, .null, .null, .null, .null, .int (iI (0)), .int (iI (0))]))]) H := hP
  have hD : va_D (va_A ([(h, .inr (7, [.null, .null, .null, .null, .null, .int (iI (0)), .int (iI (0))]))]) sz) ([(q5, .inr (6, [.int (iI (4)), .int (iI (1))])), (h, .inr (7, [.ref q5, .null, .null, .null, .null, .int (iI (0)), .int (iI (0))]))]) := hD
  refine lv_aload_n hx hb dX5_init_15 rfl (lv_at hl 0 rfl) ?_
  refine q_newo (T := TX1) (N := 2) (ci := 3) (fs := [.int (iI (0)), .int (iI (0))]) hx hb hts (fun w h => List.mem_cons_of_mem _ (List.mem_append_left _ (List.mem_append_left _ (List.mem_append_right _ h)))) tyX1 tyX1_ok hown (hts (.classLink RX5 16 RX1) (List.mem_of_getElem? (i := 8) rfl)) (hts (.instantiable RX1 2) (List.mem_of_getElem? (i := 9) rfl)) (hts (.initialized RX1) (List.mem_of_getElem? (i := 10) rfl)) hK hP hD hS hA rfl (by decide +kernel) (Nat.le_of_ble_eq_true rfl) (Nat.le_of_ble_eq_true rfl) dX5_init_16 ?_
  intro q16 H hP hD hS
  have hP : va_P D vwCl ([(q16, .inr (3, [.int (iI (0)), .int (iI (0))])), (q5, .inr (6, [.int (iI (4)), .int (iI (1))])), (h, .inr (7, [.ref q5, .null, .null, .null, .null, .int (iI (0)), .int (iI (0))]))]) H := hP
  have hD : va_D (va_A ([(h, .inr (7, [.null, .null, .null, .null, .null, .int (iI (0)), .int (iI (0))]))]) sz) ([(q16, .inr (3, [.int (iI (0)), .int (iI (0))])), (q5, .inr (6, [.int (iI (4)), .int (iI (1))])), (h, .inr (7, [.ref q5, .null, .null, .null, .null, .int (iI (0)), .int (iI (0))]))]) := hD
  refine lv_dup hx hb dX5_init_19 rfl ?_
  refine q_callGn (fr := 1) (lo := 20) (nL := 1) (wc := [(q16, .inr (3, [.int (iI (0)), .int (iI (0))]))]) (wr := [(q5, .inr (6, [.int (iI (4)), .int (iI (1))])), (h, .inr (7, [.ref q5, .null, .null, .null, .null, .int (iI (0)), .int (iI (0))]))]) (As := []) (rest := [.ref q16, .ref h]) ⟨hx, hb, hml, hown, hts⟩ (g_moonsInit l D _ ed cI cO cL q16) (⟨va_cnB 0 hts gX5_init_X1_init_n18 rfl rfl rfl hT.2.2.2.2.2.1 (hts (.initialized RX1) (List.mem_of_getElem? (i := 10) rfl)) (by decide +kernel) ⟨Nat.le_of_ble_eq_true rfl, Nat.le_of_ble_eq_true rfl⟩, rfl, (hts (.instanceMethod yX1_init) (List.mem_of_getElem? (i := 26) rfl))⟩) hP hD hS hA hK hE hT rfl hl.1 rfl (Nat.le_of_ble_eq_true rfl) dX5_init_20 (Nat.le_of_ble_eq_true rfl) (Nat.le_of_ble_eq_true rfl) ?_
  intro _u H locs hP hD hS
  have hP : va_P D vwCl ([(q16, .inr (3, [.int (iI (29531)), .int (iI (0))])), (q5, .inr (6, [.int (iI (4)), .int (iI (1))])), (h, .inr (7, [.ref q5, .null, .null, .null, .null, .int (iI (0)), .int (iI (0))]))]) H := hP
  have hD : va_D (va_A ([(h, .inr (7, [.null, .null, .null, .null, .null, .int (iI (0)), .int (iI (0))]))]) sz) ([(q16, .inr (3, [.int (iI (29531)), .int (iI (0))])), (q5, .inr (6, [.int (iI (4)), .int (iI (1))])), (h, .inr (7, [.ref q5, .null, .null, .null, .null, .int (iI (0)), .int (iI (0))]))]) := hD
  refine va_putF (D := D) (ci := 7) (v := .ref q16) (ty := tyX5 1) (C := RX5) (T := TX5) (N := 7) hx hb hts (fun w h => List.mem_cons_of_mem _ (List.mem_append_left _ (List.mem_append_left _ (List.mem_append_left _ (List.mem_append_right _ h))))) tyX5 tyX5_ok nmX5 hown hK hP hD hS 2 rfl rfl 1 (by decide) (hts (.fieldLink RX5 19 "AlmanacHouse" "moons" "LAlmanacHouse$Moons;") (List.mem_of_getElem? (i := 11) rfl)) (fun _ h9 => h9) rfl hin rfl (by decide +kernel) rfl rfl (Nat.le_of_ble_eq_true rfl) dX5_init_23 (fun H locs hP hD hS => ?_)
  have hP : va_P D vwCl ([(q16, .inr (3, [.int (iI (29531)), .int (iI (0))])), (q5, .inr (6, [.int (iI (4)), .int (iI (1))])), (h, .inr (7, [.ref q5, .ref q16, .null, .null, .null, .int (iI (0)), .int (iI (0))]))]) H := hP
  have hD : va_D (va_A ([(h, .inr (7, [.null, .null, .null, .null, .null, .int (iI (0)), .int (iI (0))]))]) sz) ([(q16, .inr (3, [.int (iI (29531)), .int (iI (0))])), (q5, .inr (6, [.int (iI (4)), .int (iI (1))])), (h, .inr (7, [.ref q5, .ref q16, .null, .null, .null, .int (iI (0)), .int (iI (0))]))]) := hD
  refine lv_aload_n hx hb dX5_init_26 rfl (lv_at hl 0 rfl) ?_
  refine q_newo (T := TX2) (N := 2) (ci := 4) (fs := [.int (iI (0)), .int (iI (0))]) hx hb hts (fun w h => List.mem_cons_of_mem _ (List.mem_append_left _ (List.mem_append_right _ h))) tyX2 tyX2_ok hown (hts (.classLink RX5 23 RX2) (List.mem_of_getElem? (i := 12) rfl)) (hts (.instantiable RX2 2) (List.mem_of_getElem? (i := 13) rfl)) (hts (.initialized RX2) (List.mem_of_getElem? (i := 14) rfl)) hK hP hD hS hA rfl (by decide +kernel) (Nat.le_of_ble_eq_true rfl) (Nat.le_of_ble_eq_true rfl) dX5_init_27 ?_
  intro q27 H hP hD hS
  have hP : va_P D vwCl ([(q27, .inr (4, [.int (iI (0)), .int (iI (0))])), (q16, .inr (3, [.int (iI (29531)), .int (iI (0))])), (q5, .inr (6, [.int (iI (4)), .int (iI (1))])), (h, .inr (7, [.ref q5, .ref q16, .null, .null, .null, .int (iI (0)), .int (iI (0))]))]) H := hP
  have hD : va_D (va_A ([(h, .inr (7, [.null, .null, .null, .null, .null, .int (iI (0)), .int (iI (0))]))]) sz) ([(q27, .inr (4, [.int (iI (0)), .int (iI (0))])), (q16, .inr (3, [.int (iI (29531)), .int (iI (0))])), (q5, .inr (6, [.int (iI (4)), .int (iI (1))])), (h, .inr (7, [.ref q5, .ref q16, .null, .null, .null, .int (iI (0)), .int (iI (0))]))]) := hD
  refine lv_dup hx hb dX5_init_30 rfl ?_
  refine q_callGn (fr := 1) (lo := 20) (nL := 1) (wc := [(q27, .inr (4, [.int (iI (0)), .int (iI (0))]))]) (wr := [(q16, .inr (3, [.int (iI (29531)), .int (iI (0))])), (q5, .inr (6, [.int (iI (4)), .int (iI (1))])), (h, .inr (7, [.ref q5, .ref q16, .null, .null, .null, .int (iI (0)), .int (iI (0))]))]) (As := []) (rest := [.ref q27, .ref h]) ⟨hx, hb, hml, hown, hts⟩ (g_nodesInit l D _ ed cI cO cL q27) (⟨va_cnB 0 hts gX5_init_X2_init_n25 rfl rfl rfl hT.2.2.2.2.2.2 (hts (.initialized RX2) (List.mem_of_getElem? (i := 14) rfl)) (by decide +kernel) ⟨Nat.le_of_ble_eq_true rfl, Nat.le_of_ble_eq_true rfl⟩, rfl, (hts (.instanceMethod yX2_init) (List.mem_of_getElem? (i := 31) rfl))⟩) hP hD hS hA hK hE hT rfl hl.1 rfl (Nat.le_of_ble_eq_true rfl) dX5_init_31 (Nat.le_of_ble_eq_true rfl) (Nat.le_of_ble_eq_true rfl) ?_
  intro _u H locs hP hD hS
  have hP : va_P D vwCl ([(q27, .inr (4, [.int (iI (173310)), .int (iI (0))])), (q16, .inr (3, [.int (iI (29531)), .int (iI (0))])), (q5, .inr (6, [.int (iI (4)), .int (iI (1))])), (h, .inr (7, [.ref q5, .ref q16, .null, .null, .null, .int (iI (0)), .int (iI (0))]))]) H := hP
  have hD : va_D (va_A ([(h, .inr (7, [.null, .null, .null, .null, .null, .int (iI (0)), .int (iI (0))]))]) sz) ([(q27, .inr (4, [.int (iI (173310)), .int (iI (0))])), (q16, .inr (3, [.int (iI (29531)), .int (iI (0))])), (q5, .inr (6, [.int (iI (4)), .int (iI (1))])), (h, .inr (7, [.ref q5, .ref q16, .null, .null, .null, .int (iI (0)), .int (iI (0))]))]) := hD
  refine va_putF (D := D) (ci := 7) (v := .ref q27) (ty := tyX5 2) (C := RX5) (T := TX5) (N := 7) hx hb hts (fun w h => List.mem_cons_of_mem _ (List.mem_append_left _ (List.mem_append_left _ (List.mem_append_left _ (List.mem_append_right _ h))))) tyX5 tyX5_ok nmX5 hown hK hP hD hS 3 rfl rfl 2 (by decide) (hts (.fieldLink RX5 26 "AlmanacHouse" "nodes" "LAlmanacHouse$Nodes;") (List.mem_of_getElem? (i := 15) rfl)) (fun _ h9 => h9) rfl hin rfl (by decide +kernel) rfl rfl (Nat.le_of_ble_eq_true rfl) dX5_init_34 (fun H locs hP hD hS => ?_)
  have hP : va_P D vwCl ([(q27, .inr (4, [.int (iI (173310)), .int (iI (0))])), (q16, .inr (3, [.int (iI (29531)), .int (iI (0))])), (q5, .inr (6, [.int (iI (4)), .int (iI (1))])), (h, .inr (7, [.ref q5, .ref q16, .ref q27, .null, .null, .int (iI (0)), .int (iI (0))]))]) H := hP
  have hD : va_D (va_A ([(h, .inr (7, [.null, .null, .null, .null, .null, .int (iI (0)), .int (iI (0))]))]) sz) ([(q27, .inr (4, [.int (iI (173310)), .int (iI (0))])), (q16, .inr (3, [.int (iI (29531)), .int (iI (0))])), (q5, .inr (6, [.int (iI (4)), .int (iI (1))])), (h, .inr (7, [.ref q5, .ref q16, .ref q27, .null, .null, .int (iI (0)), .int (iI (0))]))]) := hD
  refine lv_aload_n hx hb dX5_init_37 rfl (lv_at hl 0 rfl) ?_
  refine q_newo (T := TJx4a65c) (N := 3) (ci := 1) (fs := [.int (iI (0)), .null, .int (iI (0))]) hx hb hts (fun w h => List.mem_cons_of_mem _ (List.mem_append_right _ h)) tyJx4a65c tyJx4a65c_ok hown (hts (.classLink RX5 30 RJx4a65c) (List.mem_of_getElem? (i := 16) rfl)) (hts (.instantiable RJx4a65c 3) (List.mem_of_getElem? (i := 17) rfl)) (hts (.initialized RJx4a65c) (List.mem_of_getElem? (i := 18) rfl)) hK hP hD hS hA rfl (by decide +kernel) (Nat.le_of_ble_eq_true rfl) (Nat.le_of_ble_eq_true rfl) dX5_init_38 ?_
  intro q38 H hP hD hS
  have hP : va_P D vwCl ([(q38, .inr (1, [.int (iI (0)), .null, .int (iI (0))])), (q27, .inr (4, [.int (iI (173310)), .int (iI (0))])), (q16, .inr (3, [.int (iI (29531)), .int (iI (0))])), (q5, .inr (6, [.int (iI (4)), .int (iI (1))])), (h, .inr (7, [.ref q5, .ref q16, .ref q27, .null, .null, .int (iI (0)), .int (iI (0))]))]) H := hP
  have hD : va_D (va_A ([(h, .inr (7, [.null, .null, .null, .null, .null, .int (iI (0)), .int (iI (0))]))]) sz) ([(q38, .inr (1, [.int (iI (0)), .null, .int (iI (0))])), (q27, .inr (4, [.int (iI (173310)), .int (iI (0))])), (q16, .inr (3, [.int (iI (29531)), .int (iI (0))])), (q5, .inr (6, [.int (iI (4)), .int (iI (1))])), (h, .inr (7, [.ref q5, .ref q16, .ref q27, .null, .null, .int (iI (0)), .int (iI (0))]))]) := hD
  refine lv_dup hx hb dX5_init_41 rfl ?_
  refine q_callGc (fr := 3) (lo := 60) (nL := 1) (wc := [(q38, .inr (1, [.int (iI (0)), .null, .int (iI (0))]))]) (wr := [(q27, .inr (4, [.int (iI (173310)), .int (iI (0))])), (q16, .inr (3, [.int (iI (29531)), .int (iI (0))])), (q5, .inr (6, [.int (iI (4)), .int (iI (1))])), (h, .inr (7, [.ref q5, .ref q16, .ref q27, .null, .null, .int (iI (0)), .int (iI (0))]))]) (As := []) (rest := [.ref q38, .ref h]) ⟨hx, hb, hml, hown, hts⟩ (g_listInit l D _ ed cI cO cL q38) (cwI 0 hts gX5_init_Jx4a65c_init_da8c8 rfl rfl rfl (hts (.initialized RJx4a65c) (List.mem_of_getElem? (i := 18) rfl)) (hts (.methodLink RX5 32 yJx4a65c_init_da8c8) (List.mem_of_getElem? (i := 37) rfl)) (hts (.instanceMethod yJx4a65c_init_da8c8) (List.mem_of_getElem? (i := 38) rfl)) rfl (by decide +kernel) ⟨Nat.le_of_ble_eq_true rfl, Nat.le_of_ble_eq_true rfl⟩) hP hD hS hA hK hE hT rfl hl.1 rfl (Nat.le_of_ble_eq_true rfl) dX5_init_42 (Nat.le_of_ble_eq_true rfl) (Nat.le_of_ble_eq_true rfl) ?_
  intro _u H locs hP hD hS
  have hP : va_P D vwCl ([(q38, .inr (1, [.int (iI (0)), .ref ed.1, .int (iI (0))])), (q27, .inr (4, [.int (iI (173310)), .int (iI (0))])), (q16, .inr (3, [.int (iI (29531)), .int (iI (0))])), (q5, .inr (6, [.int (iI (4)), .int (iI (1))])), (h, .inr (7, [.ref q5, .ref q16, .ref q27, .null, .null, .int (iI (0)), .int (iI (0))]))]) H := hP
  have hD : va_D (va_A ([(h, .inr (7, [.null, .null, .null, .null, .null, .int (iI (0)), .int (iI (0))]))]) sz) ([(q38, .inr (1, [.int (iI (0)), .ref ed.1, .int (iI (0))])), (q27, .inr (4, [.int (iI (173310)), .int (iI (0))])), (q16, .inr (3, [.int (iI (29531)), .int (iI (0))])), (q5, .inr (6, [.int (iI (4)), .int (iI (1))])), (h, .inr (7, [.ref q5, .ref q16, .ref q27, .null, .null, .int (iI (0)), .int (iI (0))]))]) := hD
  refine va_putF (D := D) (ci := 7) (v := .ref q38) (ty := tyX5 3) (C := RX5) (T := TX5) (N := 7) hx hb hts (fun w h => List.mem_cons_of_mem _ (List.mem_append_left _ (List.mem_append_left _ (List.mem_append_left _ (List.mem_append_right _ h))))) tyX5 tyX5_ok nmX5 hown hK hP hD hS 4 rfl rfl 3 (by decide) (hts (.fieldLink RX5 33 "AlmanacHouse" "feasts" "Ljava/util/ArrayList;") (List.mem_of_getElem? (i := 19) rfl)) (fun _ h9 => h9) rfl hin rfl (by decide +kernel) rfl rfl (Nat.le_of_ble_eq_true rfl) dX5_init_45 (fun H locs hP hD hS => ?_)
  have hP : va_P D vwCl ([(q38, .inr (1, [.int (iI (0)), .ref ed.1, .int (iI (0))])), (q27, .inr (4, [.int (iI (173310)), .int (iI (0))])), (q16, .inr (3, [.int (iI (29531)), .int (iI (0))])), (q5, .inr (6, [.int (iI (4)), .int (iI (1))])), (h, .inr (7, [.ref q5, .ref q16, .ref q27, .ref q38, .null, .int (iI (0)), .int (iI (0))]))]) H := hP
  have hD : va_D (va_A ([(h, .inr (7, [.null, .null, .null, .null, .null, .int (iI (0)), .int (iI (0))]))]) sz) ([(q38, .inr (1, [.int (iI (0)), .ref ed.1, .int (iI (0))])), (q27, .inr (4, [.int (iI (173310)), .int (iI (0))])), (q16, .inr (3, [.int (iI (29531)), .int (iI (0))])), (q5, .inr (6, [.int (iI (4)), .int (iI (1))])), (h, .inr (7, [.ref q5, .ref q16, .ref q27, .ref q38, .null, .int (iI (0)), .int (iI (0))]))]) := hD
  refine lv_aload_n hx hb dX5_init_48 rfl (lv_at hl 0 rfl) ?_
  refine q_newo (T := TJx4a65c) (N := 3) (ci := 1) (fs := [.int (iI (0)), .null, .int (iI (0))]) hx hb hts (fun w h => List.mem_cons_of_mem _ (List.mem_append_right _ h)) tyJx4a65c tyJx4a65c_ok hown (hts (.classLink RX5 30 RJx4a65c) (List.mem_of_getElem? (i := 16) rfl)) (hts (.instantiable RJx4a65c 3) (List.mem_of_getElem? (i := 17) rfl)) (hts (.initialized RJx4a65c) (List.mem_of_getElem? (i := 18) rfl)) hK hP hD hS hA rfl (by decide +kernel) (Nat.le_of_ble_eq_true rfl) (Nat.le_of_ble_eq_true rfl) dX5_init_49 ?_
  intro q49 H hP hD hS
  have hP : va_P D vwCl ([(q49, .inr (1, [.int (iI (0)), .null, .int (iI (0))])), (q38, .inr (1, [.int (iI (0)), .ref ed.1, .int (iI (0))])), (q27, .inr (4, [.int (iI (173310)), .int (iI (0))])), (q16, .inr (3, [.int (iI (29531)), .int (iI (0))])), (q5, .inr (6, [.int (iI (4)), .int (iI (1))])), (h, .inr (7, [.ref q5, .ref q16, .ref q27, .ref q38, .null, .int (iI (0)), .int (iI (0))]))]) H := hP
  have hD : va_D (va_A ([(h, .inr (7, [.null, .null, .null, .null, .null, .int (iI (0)), .int (iI (0))]))]) sz) ([(q49, .inr (1, [.int (iI (0)), .null, .int (iI (0))])), (q38, .inr (1, [.int (iI (0)), .ref ed.1, .int (iI (0))])), (q27, .inr (4, [.int (iI (173310)), .int (iI (0))])), (q16, .inr (3, [.int (iI (29531)), .int (iI (0))])), (q5, .inr (6, [.int (iI (4)), .int (iI (1))])), (h, .inr (7, [.ref q5, .ref q16, .ref q27, .ref q38, .null, .int (iI (0)), .int (iI (0))]))]) := hD
  refine lv_dup hx hb dX5_init_52 rfl ?_
  refine q_callGc (fr := 3) (lo := 60) (nL := 1) (wc := [(q49, .inr (1, [.int (iI (0)), .null, .int (iI (0))]))]) (wr := [(q38, .inr (1, [.int (iI (0)), .ref ed.1, .int (iI (0))])), (q27, .inr (4, [.int (iI (173310)), .int (iI (0))])), (q16, .inr (3, [.int (iI (29531)), .int (iI (0))])), (q5, .inr (6, [.int (iI (4)), .int (iI (1))])), (h, .inr (7, [.ref q5, .ref q16, .ref q27, .ref q38, .null, .int (iI (0)), .int (iI (0))]))]) (As := []) (rest := [.ref q49, .ref h]) ⟨hx, hb, hml, hown, hts⟩ (g_listInit l D _ ed cI cO cL q49) (cwI 0 hts gX5_init_Jx4a65c_init_da8c8 rfl rfl rfl (hts (.initialized RJx4a65c) (List.mem_of_getElem? (i := 18) rfl)) (hts (.methodLink RX5 32 yJx4a65c_init_da8c8) (List.mem_of_getElem? (i := 37) rfl)) (hts (.instanceMethod yJx4a65c_init_da8c8) (List.mem_of_getElem? (i := 38) rfl)) rfl (by decide +kernel) ⟨Nat.le_of_ble_eq_true rfl, Nat.le_of_ble_eq_true rfl⟩) hP hD hS hA hK hE hT rfl hl.1 rfl (Nat.le_of_ble_eq_true rfl) dX5_init_53 (Nat.le_of_ble_eq_true rfl) (Nat.le_of_ble_eq_true rfl) ?_
  intro _u H locs hP hD hS
  have hP : va_P D vwCl ([(q49, .inr (1, [.int (iI (0)), .ref ed.1, .int (iI (0))])), (q38, .inr (1, [.int (iI (0)), .ref ed.1, .int (iI (0))])), (q27, .inr (4, [.int (iI (173310)), .int (iI (0))])), (q16, .inr (3, [.int (iI (29531)), .int (iI (0))])), (q5, .inr (6, [.int (iI (4)), .int (iI (1))])), (h, .inr (7, [.ref q5, .ref q16, .ref q27, .ref q38, .null, .int (iI (0)), .int (iI (0))]))]) H := hP
  have hD : va_D (va_A ([(h, .inr (7, [.null, .null, .null, .null, .null, .int (iI (0)), .int (iI (0))]))]) sz) ([(q49, .inr (1, [.int (iI (0)), .ref ed.1, .int (iI (0))])), (q38, .inr (1, [.int (iI (0)), .ref ed.1, .int (iI (0))])), (q27, .inr (4, [.int (iI (173310)), .int (iI (0))])), (q16, .inr (3, [.int (iI (29531)), .int (iI (0))])), (q5, .inr (6, [.int (iI (4)), .int (iI (1))])), (h, .inr (7, [.ref q5, .ref q16, .ref q27, .ref q38, .null, .int (iI (0)), .int (iI (0))]))]) := hD
  refine va_putF (D := D) (ci := 7) (v := .ref q49) (ty := tyX5 4) (C := RX5) (T := TX5) (N := 7) hx hb hts (fun w h => List.mem_cons_of_mem _ (List.mem_append_left _ (List.mem_append_left _ (List.mem_append_left _ (List.mem_append_right _ h))))) tyX5 tyX5_ok nmX5 hown hK hP hD hS 5 rfl rfl 4 (by decide) (hts (.fieldLink RX5 37 "AlmanacHouse" "sheets" "Ljava/util/ArrayList;") (List.mem_of_getElem? (i := 20) rfl)) (fun _ h9 => h9) rfl hin rfl (by decide +kernel) rfl rfl (Nat.le_of_ble_eq_true rfl) dX5_init_56 (fun H locs hP hD hS => ?_)
  have hP : va_P D vwCl ([(q49, .inr (1, [.int (iI (0)), .ref ed.1, .int (iI (0))])), (q38, .inr (1, [.int (iI (0)), .ref ed.1, .int (iI (0))])), (q27, .inr (4, [.int (iI (173310)), .int (iI (0))])), (q16, .inr (3, [.int (iI (29531)), .int (iI (0))])), (q5, .inr (6, [.int (iI (4)), .int (iI (1))])), (h, .inr (7, [.ref q5, .ref q16, .ref q27, .ref q38, .ref q49, .int (iI (0)), .int (iI (0))]))]) H := hP
  have hD : va_D (va_A ([(h, .inr (7, [.null, .null, .null, .null, .null, .int (iI (0)), .int (iI (0))]))]) sz) ([(q49, .inr (1, [.int (iI (0)), .ref ed.1, .int (iI (0))])), (q38, .inr (1, [.int (iI (0)), .ref ed.1, .int (iI (0))])), (q27, .inr (4, [.int (iI (173310)), .int (iI (0))])), (q16, .inr (3, [.int (iI (29531)), .int (iI (0))])), (q5, .inr (6, [.int (iI (4)), .int (iI (1))])), (h, .inr (7, [.ref q5, .ref q16, .ref q27, .ref q38, .ref q49, .int (iI (0)), .int (iI (0))]))]) := hD
  exact q_gvret (cells := 5) (slots := 12) (mc := 5) (ms := 12) (w1 := fun (u : Nat × Nat × Nat × Nat × Nat) => [(u.2.2.2.2, .inr (1, [.int (iI (0)), .ref ed.1, .int (iI (0))])), (u.2.2.2.1, .inr (1, [.int (iI (0)), .ref ed.1, .int (iI (0))])), (u.2.2.1, .inr (4, [.int (iI (173310)), .int (iI (0))])), (u.2.1, .inr (3, [.int (iI (29531)), .int (iI (0))])), (u.1, .inr (6, [.int (iI (4)), .int (iI (1))])), (h, .inr (7, [.ref u.1, .ref u.2.1, .ref u.2.2.1, .ref u.2.2.2.1, .ref u.2.2.2.2, .int (iI (0)), .int (iI (0))]))]) ((q5, q16, q27, q38, q49)) hx hb hr hlocks hS (⟨hP, hD⟩) (Nat.le_of_ble_eq_true rfl) (Nat.le_of_ble_eq_true rfl) dX5_init_59
set_option maxHeartbeats 4000000 in
set_option maxRecDepth 100000 in
theorem g_correct (l : Launch) (D : va_G) (sz : Nat) (ed : Nat × Nat × Nat) (cI cO cL : ClassId) (h : Nat) (ln fi k b d : Int) (hL : 20000 ≤ ln ∧ ln ≤ 40000) (hF : 0 ≤ fi ∧ fi ≤ 39999) (hk : 0 ≤ k ∧ k ≤ 50000) (hb01 : b = 0 ∨ b = 1) (hd : 0 ≤ d ∧ d ≤ 99999) : MGi l yX1_correct wsX1_correct 1 21 0 0 D (ty3 cI cO cL) sz ([(h, .inr (3, [.int (iI (ln)), .int (iI (fi))]))]) [.ref h, .int (iI (k)), .int (iI (b)), .int (iI (d))] ed (if 2 * k + b < 1 then 0 else 1) (fun (_ : Unit) => [(h, .inr (3, [.int (iI (if 2 * k + b < 1 then ln else m_clamp (Int.tdiv (2 * (1000 * d + 500 - fi)) (2 * k + b)))), .int (iI (fi))]))]) := by
  refine MGi_of (cc := cX1_correct) (maxL := 6) (ret := (some .boolean)) (by decide) rfl (Nat.le_of_ble_eq_true rfl) ?_
  intro p e s m args below meth c ls hx hb hr hlocks hml hown hts hsz hP hK hD hS hA hin hE hT hl
  have hl : lv_has ls 6 [(0, .ref h), (1, .int (iI (k))), (2, .int (iI (b))), (3, .int (iI (d)))] := hl
  have hin_X1 : ∀ w ∈ u_ws RX1 TX1 2, w ∈ wsX1_correct := (fun w h => List.mem_cons_of_mem _ (List.mem_append_right _ h))
  have hP : va_P D vwCl ([(h, .inr (3, [.int (iI (ln)), .int (iI (fi))]))]) s.heap := hP
  have hD : va_D (va_A ([(h, .inr (3, [.int (iI (ln)), .int (iI (fi))]))]) sz) ([(h, .inr (3, [.int (iI (ln)), .int (iI (fi))]))]) := hD
  refine q_iconst hx hb dX1_correct_0 ?_
  refine lv_iload_n hx hb dX1_correct_1 rfl (lv_at hl 1 rfl) ?_
  refine q_imul hx hb dX1_correct_2 ?_
  refine lv_iload_n hx hb dX1_correct_3 rfl (lv_at hl 2 rfl) ?_
  refine q_if_eq (tgt := 11) hx hb dX1_correct_4 (by decide) (by omega) (fun c_1 => ?_) (fun c_1 => ?_)
  · skip
    refine q_iconst hx hb dX1_correct_11 ?_
    refine q_iadd hx hb dX1_correct_12 ?_
    refine q_top (fun hv ehv => ?_)
    refine lv_istore (lv' := [(4, .int (iI (hv))), (0, .ref h), (1, .int (iI (k))), (2, .int (iI (b))), (3, .int (iI (d)))]) hx hb dX1_correct_13 hl (by decide) rfl (fun ls hl => ?_)
    refine lv_iload hx hb dX1_correct_15 (lv_at hl 0 rfl) ?_
    refine q_iconst hx hb dX1_correct_17 ?_
    refine q_icmp_ge (tgt := 23) hx hb dX1_correct_18 (by decide) (by omega) (by omega) (fun c_2 => ?_) (fun c_2 => ?_)
    · skip
      refine q_iconst hx hb dX1_correct_23 ?_
      refine q_sipush hx hb dX1_correct_24 (by decide) ?_
      refine lv_iload_n hx hb dX1_correct_27 rfl (lv_at hl 4 rfl) ?_
      refine q_imul hx hb dX1_correct_28 ?_
      refine q_sipush hx hb dX1_correct_29 (by decide) ?_
      refine q_iadd hx hb dX1_correct_32 ?_
      refine lv_aload_n hx hb dX1_correct_33 rfl (lv_at hl 1 rfl) ?_
      refine q_get (ci := 3) (C := RX1) (T := TX1) (N := 2) hx hb hts hin_X1 hown hK (v := .int (iI (fi))) (hP 0 _ rfl) rfl 1 (by decide) (hts (.fieldLink RX1 15 "AlmanacHouse$Moons" "first" "I") (List.mem_of_getElem? (i := 1) rfl)) (fun _ h9 => h9) rfl dX1_correct_34 ?_
      refine q_isub hx hb dX1_correct_37 ?_
      refine q_imul hx hb dX1_correct_38 ?_
      refine lv_iload hx hb dX1_correct_39 (lv_at hl 0 rfl) ?_
      refine q_idivt hx hb dX1_correct_41 (by omega) (by omega) ?_
      refine q_top (fun ha eha => ?_)
      have hha : -2000000000 < ha ∧ ha < 2000000000 := by rw [eha]; exact m_tdr (by omega) (by omega)
      refine lv_istore (lv' := [(5, .int (iI (ha))), (4, .int (iI (hv))), (0, .ref h), (1, .int (iI (k))), (2, .int (iI (b))), (3, .int (iI (d)))]) hx hb dX1_correct_42 hl (by decide) rfl (fun ls hl => ?_)
      refine lv_aload_n hx hb dX1_correct_44 rfl (lv_at hl 2 rfl) ?_
      refine q_sipush hx hb dX1_correct_45 (by decide) ?_
      refine q_ldc (z := 40000) hx hb hown (hts (.constant RX1 25 (40000)) (List.mem_of_getElem? (i := 2) rfl)) (by decide) dX1_correct_48 ?_
      refine lv_iload hx hb dX1_correct_50 (lv_at hl 0 rfl) ?_
      refine q_mmin hx hb (hml.trans hl.1.symm) hown (hts (.methodLink RX1 26 Lib.Math.min.name) (List.mem_of_getElem? (i := 3) rfl)) (hts (.static Lib.Math.min.name) (List.mem_of_getElem? (i := 4) rfl)) (hts (.initialized "java/lang/Math") (List.mem_of_getElem? (i := 5) rfl)) (hts (.code Lib.Math.min.name Lib.Math.min.code 2 (some .int)) (List.mem_of_getElem? (i := 6) rfl)) (by omega) (by omega) (Nat.le_of_ble_eq_true rfl) (Nat.le_of_ble_eq_true rfl) (Nat.zero_le _) (Nat.zero_le _) dX1_correct_52 ?_
      refine q_mmax hx hb (hml.trans hl.1.symm) hown (hts (.methodLink RX1 32 Lib.Math.max.name) (List.mem_of_getElem? (i := 7) rfl)) (hts (.static Lib.Math.max.name) (List.mem_of_getElem? (i := 8) rfl)) (hts (.initialized "java/lang/Math") (List.mem_of_getElem? (i := 5) rfl)) (hts (.code Lib.Math.max.name Lib.Math.max.code 2 (some .int)) (List.mem_of_getElem? (i := 9) rfl)) (by omega) (by split <;> omega) (Nat.le_of_ble_eq_true rfl) (Nat.le_of_ble_eq_true rfl) (Nat.zero_le _) (Nat.zero_le _) dX1_correct_55 ?_
      refine va_put (D := D) (ci := 3) (v := .int (iI (if 20000 < if ha < 40000 then ha else 40000 then if ha < 40000 then ha else 40000 else 20000))) (ty := .int) (C := RX1) (T := TX1) (N := 2) hx hb hts (fun w h => List.mem_cons_of_mem _ (List.mem_append_right _ h)) tyX1 tyX1_ok nmX1 hown hK hP hD hS 0 rfl rfl 0 (by decide) (hts (.fieldLink RX1 9 "AlmanacHouse$Moons" "length" "I") (List.mem_of_getElem? (i := 10) rfl)) (fun _ h9 => h9) rfl (by decide +kernel) rfl rfl (Nat.le_of_ble_eq_true rfl) dX1_correct_58 (fun H locs hP hD hS => ?_)
      have hP : va_P D vwCl ([(h, .inr (3, [.int (iI (if 20000 < if ha < 40000 then ha else 40000 then if ha < 40000 then ha else 40000 else 20000)), .int (iI (fi))]))]) H := hP
      have hD : va_D (va_A ([(h, .inr (3, [.int (iI (ln)), .int (iI (fi))]))]) sz) ([(h, .inr (3, [.int (iI (if 20000 < if ha < 40000 then ha else 40000 then if ha < 40000 then ha else 40000 else 20000)), .int (iI (fi))]))]) := hD
      refine q_iconst hx hb dX1_correct_61 ?_
      exact q_gzret (cells := 0) (slots := 0) (mc := 0) (ms := 0) (w1 := fun (_ : Unit) => [(h, .inr (3, [.int (iI (if 2 * k + b < 1 then ln else m_clamp (Int.tdiv (2 * (1000 * d + 500 - fi)) (2 * k + b)))), .int (iI (fi))]))]) (()) hx hb hr hlocks (by omega) hS (by rw [if_neg (by omega)]) (by rw [if_neg (show ¬ 2 * k + b < 1 by omega), show Int.tdiv (2 * (1000 * d + 500 - fi)) (2 * k + b) = ha from by rw [eha]; congr 1 <;> omega]; exact ⟨hP, hD⟩) (Nat.le_of_ble_eq_true rfl) (Nat.le_of_ble_eq_true rfl) dX1_correct_62
    · skip
      refine q_iconst hx hb dX1_correct_21 ?_
      exact q_gzret (cells := 0) (slots := 0) (mc := 0) (ms := 0) (w1 := fun (_ : Unit) => [(h, .inr (3, [.int (iI (if 2 * k + b < 1 then ln else m_clamp (Int.tdiv (2 * (1000 * d + 500 - fi)) (2 * k + b)))), .int (iI (fi))]))]) (()) hx hb hr hlocks (by omega) hS (by rw [if_pos (by omega)]) (by rw [if_pos (show 2 * k + b < 1 by omega)]; exact ⟨hP, hD⟩) (Nat.le_of_ble_eq_true rfl) (Nat.le_of_ble_eq_true rfl) dX1_correct_22
  · skip
    refine q_iconst hx hb dX1_correct_7 ?_
    refine lv_goto (tgt := 12) hx hb dX1_correct_8 (by decide) ?_
    refine q_iadd hx hb dX1_correct_12 ?_
    refine q_top (fun hv ehv => ?_)
    refine lv_istore (lv' := [(4, .int (iI (hv))), (0, .ref h), (1, .int (iI (k))), (2, .int (iI (b))), (3, .int (iI (d)))]) hx hb dX1_correct_13 hl (by decide) rfl (fun ls hl => ?_)
    refine lv_iload hx hb dX1_correct_15 (lv_at hl 0 rfl) ?_
    refine q_iconst hx hb dX1_correct_17 ?_
    refine q_icmp_ge (tgt := 23) hx hb dX1_correct_18 (by decide) (by omega) (by omega) (fun c_3 => ?_) (fun c_3 => ?_)
    · skip
      refine q_iconst hx hb dX1_correct_23 ?_
      refine q_sipush hx hb dX1_correct_24 (by decide) ?_
      refine lv_iload_n hx hb dX1_correct_27 rfl (lv_at hl 4 rfl) ?_
      refine q_imul hx hb dX1_correct_28 ?_
      refine q_sipush hx hb dX1_correct_29 (by decide) ?_
      refine q_iadd hx hb dX1_correct_32 ?_
      refine lv_aload_n hx hb dX1_correct_33 rfl (lv_at hl 1 rfl) ?_
      refine q_get (ci := 3) (C := RX1) (T := TX1) (N := 2) hx hb hts hin_X1 hown hK (v := .int (iI (fi))) (hP 0 _ rfl) rfl 1 (by decide) (hts (.fieldLink RX1 15 "AlmanacHouse$Moons" "first" "I") (List.mem_of_getElem? (i := 1) rfl)) (fun _ h9 => h9) rfl dX1_correct_34 ?_
      refine q_isub hx hb dX1_correct_37 ?_
      refine q_imul hx hb dX1_correct_38 ?_
      refine lv_iload hx hb dX1_correct_39 (lv_at hl 0 rfl) ?_
      refine q_idivt hx hb dX1_correct_41 (by omega) (by omega) ?_
      refine q_top (fun ha eha => ?_)
      have hha : -2000000000 < ha ∧ ha < 2000000000 := by rw [eha]; exact m_tdr (by omega) (by omega)
      refine lv_istore (lv' := [(5, .int (iI (ha))), (4, .int (iI (hv))), (0, .ref h), (1, .int (iI (k))), (2, .int (iI (b))), (3, .int (iI (d)))]) hx hb dX1_correct_42 hl (by decide) rfl (fun ls hl => ?_)
      refine lv_aload_n hx hb dX1_correct_44 rfl (lv_at hl 2 rfl) ?_
      refine q_sipush hx hb dX1_correct_45 (by decide) ?_
      refine q_ldc (z := 40000) hx hb hown (hts (.constant RX1 25 (40000)) (List.mem_of_getElem? (i := 2) rfl)) (by decide) dX1_correct_48 ?_
      refine lv_iload hx hb dX1_correct_50 (lv_at hl 0 rfl) ?_
      refine q_mmin hx hb (hml.trans hl.1.symm) hown (hts (.methodLink RX1 26 Lib.Math.min.name) (List.mem_of_getElem? (i := 3) rfl)) (hts (.static Lib.Math.min.name) (List.mem_of_getElem? (i := 4) rfl)) (hts (.initialized "java/lang/Math") (List.mem_of_getElem? (i := 5) rfl)) (hts (.code Lib.Math.min.name Lib.Math.min.code 2 (some .int)) (List.mem_of_getElem? (i := 6) rfl)) (by omega) (by omega) (Nat.le_of_ble_eq_true rfl) (Nat.le_of_ble_eq_true rfl) (Nat.zero_le _) (Nat.zero_le _) dX1_correct_52 ?_
      refine q_mmax hx hb (hml.trans hl.1.symm) hown (hts (.methodLink RX1 32 Lib.Math.max.name) (List.mem_of_getElem? (i := 7) rfl)) (hts (.static Lib.Math.max.name) (List.mem_of_getElem? (i := 8) rfl)) (hts (.initialized "java/lang/Math") (List.mem_of_getElem? (i := 5) rfl)) (hts (.code Lib.Math.max.name Lib.Math.max.code 2 (some .int)) (List.mem_of_getElem? (i := 9) rfl)) (by omega) (by split <;> omega) (Nat.le_of_ble_eq_true rfl) (Nat.le_of_ble_eq_true rfl) (Nat.zero_le _) (Nat.zero_le _) dX1_correct_55 ?_
      refine va_put (D := D) (ci := 3) (v := .int (iI (if 20000 < if ha < 40000 then ha else 40000 then if ha < 40000 then ha else 40000 else 20000))) (ty := .int) (C := RX1) (T := TX1) (N := 2) hx hb hts (fun w h => List.mem_cons_of_mem _ (List.mem_append_right _ h)) tyX1 tyX1_ok nmX1 hown hK hP hD hS 0 rfl rfl 0 (by decide) (hts (.fieldLink RX1 9 "AlmanacHouse$Moons" "length" "I") (List.mem_of_getElem? (i := 10) rfl)) (fun _ h9 => h9) rfl (by decide +kernel) rfl rfl (Nat.le_of_ble_eq_true rfl) dX1_correct_58 (fun H locs hP hD hS => ?_)
      have hP : va_P D vwCl ([(h, .inr (3, [.int (iI (if 20000 < if ha < 40000 then ha else 40000 then if ha < 40000 then ha else 40000 else 20000)), .int (iI (fi))]))]) H := hP
      have hD : va_D (va_A ([(h, .inr (3, [.int (iI (ln)), .int (iI (fi))]))]) sz) ([(h, .inr (3, [.int (iI (if 20000 < if ha < 40000 then ha else 40000 then if ha < 40000 then ha else 40000 else 20000)), .int (iI (fi))]))]) := hD
      refine q_iconst hx hb dX1_correct_61 ?_
      exact q_gzret (cells := 0) (slots := 0) (mc := 0) (ms := 0) (w1 := fun (_ : Unit) => [(h, .inr (3, [.int (iI (if 2 * k + b < 1 then ln else m_clamp (Int.tdiv (2 * (1000 * d + 500 - fi)) (2 * k + b)))), .int (iI (fi))]))]) (()) hx hb hr hlocks (by omega) hS (by rw [if_neg (by omega)]) (by rw [if_neg (show ¬ 2 * k + b < 1 by omega), show Int.tdiv (2 * (1000 * d + 500 - fi)) (2 * k + b) = ha from by rw [eha]; congr 1 <;> omega]; exact ⟨hP, hD⟩) (Nat.le_of_ble_eq_true rfl) (Nat.le_of_ble_eq_true rfl) dX1_correct_62
    · skip
      refine q_iconst hx hb dX1_correct_21 ?_
      exact q_gzret (cells := 0) (slots := 0) (mc := 0) (ms := 0) (w1 := fun (_ : Unit) => [(h, .inr (3, [.int (iI (if 2 * k + b < 1 then ln else m_clamp (Int.tdiv (2 * (1000 * d + 500 - fi)) (2 * k + b)))), .int (iI (fi))]))]) (()) hx hb hr hlocks (by omega) hS (by rw [if_pos (by omega)]) (by rw [if_pos (show 2 * k + b < 1 by omega)]; exact ⟨hP, hD⟩) (Nat.le_of_ble_eq_true rfl) (Nat.le_of_ble_eq_true rfl) dX1_correct_22
set_option maxHeartbeats 4000000 in
set_option maxRecDepth 100000 in
theorem g_addDay (l : Launch) (D : va_G) (sz : Nat) (ed : Nat × Nat × Nat) (cI cO cL : ClassId) (sa da : Nat) (yr hd ec : Int) (dy : Nat → Int) (x : Int) (hhd : 0 ≤ hd ∧ hd < 8) : MGv l yX3_addDay wsX3_addDay 0 0 0 0 D (ty3 cI cO cL) sz ([(sa, .inr (5, [.int (iI (yr)), .ref da, .int (iI (hd)), .int (iI (ec))])), (da, .inl (cI, 8, .inl (fun i => iI (dy i))))]) [.ref sa, .int (iI (x))] ed (fun (_ : Unit) => [(sa, .inr (5, [.int (iI (yr)), .ref da, .int (iI (hd + 1)), .int (iI (ec))])), (da, .inl (cI, 8, .inl (fun i => iI (st dy (Int.toNat (hd)) (x) i))))]) := by
  refine MGv_of (cc := cX3_addDay) (maxL := 2) (ret := none) (by decide) rfl (Nat.le_of_ble_eq_true rfl) ?_
  intro p e s m args below meth c ls hx hb hr hlocks hml hown hts hsz hP hK hD hS hA hin hE hT hl
  have hl : lv_has ls 2 [(0, .ref sa), (1, .int (iI (x)))] := hl
  have hin_X3 : ∀ w ∈ u_ws RX3 TX3 4, w ∈ wsX3_addDay := (fun w h => List.mem_cons_of_mem _ (List.mem_append_right _ h))
  have hP : va_P D vwCl ([(sa, .inr (5, [.int (iI (yr)), .ref da, .int (iI (hd)), .int (iI (ec))])), (da, .inl (cI, 8, .inl (fun q9 => iI (dy q9))))]) s.heap := hP
  have hD : va_D (va_A ([(sa, .inr (5, [.int (iI (yr)), .ref da, .int (iI (hd)), .int (iI (ec))])), (da, .inl (cI, 8, .inl (fun i => iI (dy i))))]) sz) ([(sa, .inr (5, [.int (iI (yr)), .ref da, .int (iI (hd)), .int (iI (ec))])), (da, .inl (cI, 8, .inl (fun q9 => iI (dy q9))))]) := hD
  refine lv_aload_n hx hb dX3_addDay_0 rfl (lv_at hl 0 rfl) ?_
  refine q_get (ci := 5) (C := RX3) (T := TX3) (N := 4) hx hb hts hin_X3 hown hK (v := .int (iI (hd))) (hP 0 _ rfl) rfl 2 (by decide) (hts (.fieldLink RX3 19 "AlmanacHouse$Sheet" "held" "I") (List.mem_of_getElem? (i := 1) rfl)) (fun _ h9 => h9) rfl dX3_addDay_1 ?_
  refine q_if_lt (tgt := 39) hx hb dX3_addDay_4 (by decide) (by omega) (fun c_1 => ?_) (fun c_1 => ?_)
  · exfalso
    omega
  · skip
    refine lv_aload_n hx hb dX3_addDay_7 rfl (lv_at hl 0 rfl) ?_
    refine q_get (ci := 5) (C := RX3) (T := TX3) (N := 4) hx hb hts hin_X3 hown hK (v := .int (iI (hd))) (hP 0 _ rfl) rfl 2 (by decide) (hts (.fieldLink RX3 19 "AlmanacHouse$Sheet" "held" "I") (List.mem_of_getElem? (i := 1) rfl)) (fun _ h9 => h9) rfl dX3_addDay_8 ?_
    refine lv_aload_n hx hb dX3_addDay_11 rfl (lv_at hl 0 rfl) ?_
    refine q_get (ci := 5) (C := RX3) (T := TX3) (N := 4) hx hb hts hin_X3 hown hK (v := .ref da) (hP 0 _ rfl) rfl 1 (by decide) (hts (.fieldLink RX3 9 "AlmanacHouse$Sheet" "days" "[I") (List.mem_of_getElem? (i := 2) rfl)) (fun _ h9 => h9) rfl dX3_addDay_12 ?_
    refine q_alen (z := 8) hx hb hK (hP 1 _ rfl) 0 rfl (by rfl) dX3_addDay_15 ?_
    refine q_icmp_ge (tgt := 39) hx hb dX3_addDay_16 (by decide) (by omega) (by omega) (fun c_2 => ?_) (fun c_2 => ?_)
    · exfalso
      omega
    · skip
      refine lv_aload_n hx hb dX3_addDay_19 rfl (lv_at hl 0 rfl) ?_
      refine q_get (ci := 5) (C := RX3) (T := TX3) (N := 4) hx hb hts hin_X3 hown hK (v := .ref da) (hP 0 _ rfl) rfl 1 (by decide) (hts (.fieldLink RX3 9 "AlmanacHouse$Sheet" "days" "[I") (List.mem_of_getElem? (i := 2) rfl)) (fun _ h9 => h9) rfl dX3_addDay_20 ?_
      refine lv_aload_n hx hb dX3_addDay_23 rfl (lv_at hl 0 rfl) ?_
      refine q_get (ci := 5) (C := RX3) (T := TX3) (N := 4) hx hb hts hin_X3 hown hK (v := .int (iI (hd))) (hP 0 _ rfl) rfl 2 (by decide) (hts (.fieldLink RX3 19 "AlmanacHouse$Sheet" "held" "I") (List.mem_of_getElem? (i := 1) rfl)) (fun _ h9 => h9) rfl dX3_addDay_24 ?_
      refine lv_iload_n hx hb dX3_addDay_27 rfl (lv_at hl 1 rfl) ?_
      refine q_iast (f := dy) hx hb hK hP hD hS 1 0 rfl rfl (Int.toNat (hd)) (by omega) (by omega) (by decide) dX3_addDay_28 (fun H locs hP hD hS => ?_)
      have hP : va_P D vwCl ([(sa, .inr (5, [.int (iI (yr)), .ref da, .int (iI (hd)), .int (iI (ec))])), (da, .inl (cI, 8, .inl (fun q9 => iI (((st dy (Int.toNat (hd)) (x))) q9))))]) H := hP
      have hD : va_D (va_A ([(sa, .inr (5, [.int (iI (yr)), .ref da, .int (iI (hd)), .int (iI (ec))])), (da, .inl (cI, 8, .inl (fun i => iI (dy i))))]) sz) ([(sa, .inr (5, [.int (iI (yr)), .ref da, .int (iI (hd)), .int (iI (ec))])), (da, .inl (cI, 8, .inl (fun q9 => iI (((st dy (Int.toNat (hd)) (x))) q9))))]) := hD
      refine lv_aload_n hx hb dX3_addDay_29 rfl (lv_at hl 0 rfl) ?_
      refine lv_dup hx hb dX3_addDay_30 rfl ?_
      refine q_get (ci := 5) (C := RX3) (T := TX3) (N := 4) hx hb hts hin_X3 hown hK (v := .int (iI (hd))) (hP 0 _ rfl) rfl 2 (by decide) (hts (.fieldLink RX3 19 "AlmanacHouse$Sheet" "held" "I") (List.mem_of_getElem? (i := 1) rfl)) (fun _ h9 => h9) rfl dX3_addDay_31 ?_
      refine q_iconst hx hb dX3_addDay_34 ?_
      refine q_iadd hx hb dX3_addDay_35 ?_
      refine va_put (D := D) (ci := 5) (v := .int (iI (hd + 1))) (ty := .int) (C := RX3) (T := TX3) (N := 4) hx hb hts (fun w h => List.mem_cons_of_mem _ (List.mem_append_right _ h)) tyX3 tyX3_ok nmX3 hown hK hP hD hS 0 rfl rfl 2 (by decide) (hts (.fieldLink RX3 19 "AlmanacHouse$Sheet" "held" "I") (List.mem_of_getElem? (i := 1) rfl)) (fun _ h9 => h9) rfl (by decide +kernel) rfl rfl (Nat.le_of_ble_eq_true rfl) dX3_addDay_36 (fun H locs hP hD hS => ?_)
      have hP : va_P D vwCl ([(sa, .inr (5, [.int (iI (yr)), .ref da, .int (iI (hd + 1)), .int (iI (ec))])), (da, .inl (cI, 8, .inl (fun q9 => iI (((st dy (Int.toNat (hd)) (x))) q9))))]) H := hP
      have hD : va_D (va_A ([(sa, .inr (5, [.int (iI (yr)), .ref da, .int (iI (hd)), .int (iI (ec))])), (da, .inl (cI, 8, .inl (fun i => iI (dy i))))]) sz) ([(sa, .inr (5, [.int (iI (yr)), .ref da, .int (iI (hd + 1)), .int (iI (ec))])), (da, .inl (cI, 8, .inl (fun q9 => iI (((st dy (Int.toNat (hd)) (x))) q9))))]) := hD
      exact q_gvret (cells := 0) (slots := 0) (mc := 0) (ms := 0) (w1 := fun (_ : Unit) => [(sa, .inr (5, [.int (iI (yr)), .ref da, .int (iI (hd + 1)), .int (iI (ec))])), (da, .inl (cI, 8, .inl (fun i => iI (st dy (Int.toNat (hd)) (x) i))))]) (()) hx hb hr hlocks hS (⟨hP, hD⟩) (Nat.le_of_ble_eq_true rfl) (Nat.le_of_ble_eq_true rfl) dX3_addDay_39
