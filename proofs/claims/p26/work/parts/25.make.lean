/-! ===== constructors; ArrayList.add ===== -/
section QN
variable {p : Program} {l : Launch} {e : Env} {R : Room} {s : State} {m : MethodId} {args : Array Value} {below : List Frame} {meth : Method} {c : Code} {H : Heap} {locs : List Loc} {cells slots : Nat} {Q : State → Prop} {cc : ByteArray} {pc : Nat} {ls : Array Slot} {rest : List Value} {A0 : Nat → Prop} {H0 : Heap} {D : va_G} {tys : List (ClassId × FieldType)} {ws : va_W}
theorem q_newq (hx : p.tables.exec = Jvm.exec) (hb : c.code = cc) {own : String} {index : Nat} (hown : s.vm.findClass own = some m.cls) (hclink : (Cond.classLink own index "java/lang/Object").before args s = true) (hover : va_AO "java/lang/Object" s) {cO : ClassId} (hK : va_K D vwCl tys s) (t0 : Nat) (ht : tys[t0]? = some (cO, .object "java/lang/Object")) (hP : va_P D vwCl ws H) (hD : va_D A0 ws) (hS : va_S A0 H0 H locs) (hA : ∀ q, H0.size ≤ q → A0 q) {z : Int} (N : Nat) (hz : z = (N : Int)) (hN : N ≤ 1000) (hcells : cells + 1 ≤ R.cells) (hslots : slots + N ≤ R.slots) (hdg : decode cc pc = .ok (.anewarray index, 3))
    (kk : ∀ (q : Nat) (H : Heap), va_P D vwCl ((q, .inl (cO, N, .inr (.inr (.inr (.inr (fun _ => none)))))) :: ws) H → va_D A0 ((q, .inl (cO, N, .inr (.inr (.inr (.inr (fun _ => none)))))) :: ws) → va_S A0 H0 H locs → W p l e R s m args below meth c H locs (cells + 1) (slots + N) Q (F0 m (pc + 3) ls (.ref q :: rest))) : W p l e R s m args below meth c H locs cells slots Q (F0 m pc ls (.int (iI z) :: rest)) := by
  refine va_newq hx hb hown hclink hover hK hP hD hS hA (N' := N) ?_ ?_ ?_ hcells hslots hdg (fun q cA H1 hK1 hP1 hD1 hS1 => ?_)
  · rw [iI_zero, iI_lt (by omega) (by omega)]
    omega
  · rw [iI_cl (by omega)]
    omega
  · omega
  · obtain ⟨_, _, _, _, _, e1⟩ := (hK1.2 tys.length (cA, .object "java/lang/Object") (by rw [List.getElem?_append_right (Nat.le_refl _), Nat.sub_self]; rfl)).2
    obtain ⟨_, _, _, _, _, e2⟩ := (hK.2 t0 _ ht).2
    have e3 : some cA = some cO := e1.symm.trans e2
    cases Option.some.inj e3
    obtain ⟨h1, h2⟩ := va_lst hP1 hD1
    exact kk q H1 h1 h2 hS1
theorem q_aast (hx : p.tables.exec = Jvm.exec) (hb : c.code = cc) (hK : va_K D vwCl tys s) (hP : va_P D vwCl ws H) (hD : va_D A0 ws) (hS : va_S A0 H0 H locs) (q0 t0 qk : Nat) {a ci : Nat} {cA : ClassId} {r : vw_C} {n v : Nat} {vs : List Value} {f : Nat → Option Nat} (ha : ws[q0]? = some (a, .inl (cA, n, .inr (.inr (.inr (.inr f)))))) (ht : tys[t0]? = some (cA, .object "java/lang/Object")) (hca : va_Nw (.castable r.1 "java/lang/Object") s) (hv : ws[qk]? = some (v, .inr (ci, vs))) (hc : vwCl[ci]? = some r) {i : Int} (k : Nat) (hi : i = (k : Int)) (hk : k < n) (hn : n < 2147483648) (hdg : decode cc pc = .ok (.aastore, 1))
    (kk : ∀ (H1 : Heap) (locs1 : List Loc), va_P D vwCl (ws.set q0 (a, .inl (cA, n, .inr (.inr (.inr (.inr (va_up f k (some v)))))))) H1 → va_D A0 (ws.set q0 (a, .inl (cA, n, .inr (.inr (.inr (.inr (va_up f k (some v)))))))) → va_S A0 H0 H1 locs1 → W p l e R s m args below meth c H1 locs1 cells slots Q (F0 m (pc + 1) ls rest)) : W p l e R s m args below meth c H locs cells slots Q (F0 m pc ls (.ref v :: .int (iI i) :: .ref a :: rest)) := by
  refine va_astqO hx hb hK hP hD hS q0 t0 qk ci ha ht hca hv hc (iI_in (by omega) hn) hdg ?_
  rw [iI_cl (by omega), show i.toNat = k by omega]
  exact kk
end QN
set_option maxHeartbeats 4000000 in
set_option maxRecDepth 100000 in
theorem g_feastInit (l : Launch) (D : va_G) (sz : Nat) (ed : Nat × Nat × Nat) (cI cO cL : ClassId) (h : Nat) (mo da mn wd of : Int) : MGv l yX0_init wsX0_init 1 20 0 0 D (ty3 cI cO cL) sz ([(h, .inr (2, [.int (iI (0)), .int (iI (0)), .int (iI (0)), .int (iI (0)), .int (iI (0))]))]) [.ref h, .int (iI (mo)), .int (iI (da)), .int (iI (mn)), .int (iI (wd)), .int (iI (of))] ed (fun (_ : Unit) => [(h, .inr (2, [.int (iI (mo)), .int (iI (da)), .int (iI (mn)), .int (iI (wd)), .int (iI (of))]))]) := by
  refine MGv_of (cc := cX0_init) (maxL := 6) (ret := none) (by decide) rfl (Nat.le_of_ble_eq_true rfl) ?_
  intro p e s m args below meth c ls hx hb hr hlocks hml hown hts hsz hP hK hD hS hA hin hE hT hl
  have hl : lv_has ls 6 [(0, .ref h), (1, .int (iI (mo))), (2, .int (iI (da))), (3, .int (iI (mn))), (4, .int (iI (wd))), (5, .int (iI (of)))] := hl
  have hP : va_P D vwCl ([(h, .inr (2, [.int (iI (0)), .int (iI (0)), .int (iI (0)), .int (iI (0)), .int (iI (0))]))]) s.heap := hP
  have hD : va_D (va_A ([(h, .inr (2, [.int (iI (0)), .int (iI (0)), .int (iI (0)), .int (iI (0)), .int (iI (0))]))]) sz) ([(h, .inr (2, [.int (iI (0)), .int (iI (0)), .int (iI (0)), .int (iI (0)), .int (iI (0))]))]) := hD
  refine lv_aload_n hx hb dX0_init_0 rfl (lv_at hl 0 rfl) ?_
  refine W.objInit hx hb hown (hts (.methodLink RX0 1 objectInit) (List.mem_of_getElem? (i := 1) rfl)) (hts (.instanceMethod objectInit) (List.mem_of_getElem? (i := 2) rfl)) (hts (.code objectInit ⟨#[0xb1]⟩ 1 none) (List.mem_of_getElem? (i := 3) rfl)) rfl (hl.1.trans hml.symm) rfl dX0_init_1 (Nat.le_of_ble_eq_true rfl) (Nat.le_of_ble_eq_true rfl) ?_
  refine W.eq (g2 := F0 m 4 ls []) rfl ?_
  refine lv_aload_n hx hb dX0_init_4 rfl (lv_at hl 0 rfl) ?_
  refine lv_iload_n hx hb dX0_init_5 rfl (lv_at hl 1 rfl) ?_
  refine va_putF (D := D) (ci := 2) (v := .int (iI (mo))) (ty := .int) (C := RX0) (T := TX0) (N := 5) hx hb hts (fun w h => List.mem_cons_of_mem _ (List.mem_append_right _ h)) tyX0 tyX0_ok nmX0 hown hK hP hD hS 0 rfl rfl 0 (by decide) (hts (.fieldLink RX0 7 "AlmanacHouse$Feast" "month" "I") (List.mem_of_getElem? (i := 4) rfl)) (fun _ h9 => h9) rfl hin rfl (by decide +kernel) rfl rfl (Nat.le_of_ble_eq_true rfl) dX0_init_6 (fun H locs hP hD hS => ?_)
  have hP : va_P D vwCl ([(h, .inr (2, [.int (iI (mo)), .int (iI (0)), .int (iI (0)), .int (iI (0)), .int (iI (0))]))]) H := hP
  have hD : va_D (va_A ([(h, .inr (2, [.int (iI (0)), .int (iI (0)), .int (iI (0)), .int (iI (0)), .int (iI (0))]))]) sz) ([(h, .inr (2, [.int (iI (mo)), .int (iI (0)), .int (iI (0)), .int (iI (0)), .int (iI (0))]))]) := hD
  refine lv_aload_n hx hb dX0_init_9 rfl (lv_at hl 0 rfl) ?_
  refine lv_iload_n hx hb dX0_init_10 rfl (lv_at hl 2 rfl) ?_
  refine va_putF (D := D) (ci := 2) (v := .int (iI (da))) (ty := .int) (C := RX0) (T := TX0) (N := 5) hx hb hts (fun w h => List.mem_cons_of_mem _ (List.mem_append_right _ h)) tyX0 tyX0_ok nmX0 hown hK hP hD hS 0 rfl rfl 1 (by decide) (hts (.fieldLink RX0 13 "AlmanacHouse$Feast" "day" "I") (List.mem_of_getElem? (i := 5) rfl)) (fun _ h9 => h9) rfl hin rfl (by decide +kernel) rfl rfl (Nat.le_of_ble_eq_true rfl) dX0_init_11 (fun H locs hP hD hS => ?_)
  have hP : va_P D vwCl ([(h, .inr (2, [.int (iI (mo)), .int (iI (da)), .int (iI (0)), .int (iI (0)), .int (iI (0))]))]) H := hP
  have hD : va_D (va_A ([(h, .inr (2, [.int (iI (0)), .int (iI (0)), .int (iI (0)), .int (iI (0)), .int (iI (0))]))]) sz) ([(h, .inr (2, [.int (iI (mo)), .int (iI (da)), .int (iI (0)), .int (iI (0)), .int (iI (0))]))]) := hD
  refine lv_aload_n hx hb dX0_init_14 rfl (lv_at hl 0 rfl) ?_
  refine lv_iload_n hx hb dX0_init_15 rfl (lv_at hl 3 rfl) ?_
  refine va_putF (D := D) (ci := 2) (v := .int (iI (mn))) (ty := .int) (C := RX0) (T := TX0) (N := 5) hx hb hts (fun w h => List.mem_cons_of_mem _ (List.mem_append_right _ h)) tyX0 tyX0_ok nmX0 hown hK hP hD hS 0 rfl rfl 2 (by decide) (hts (.fieldLink RX0 16 "AlmanacHouse$Feast" "moons" "I") (List.mem_of_getElem? (i := 6) rfl)) (fun _ h9 => h9) rfl hin rfl (by decide +kernel) rfl rfl (Nat.le_of_ble_eq_true rfl) dX0_init_16 (fun H locs hP hD hS => ?_)
  have hP : va_P D vwCl ([(h, .inr (2, [.int (iI (mo)), .int (iI (da)), .int (iI (mn)), .int (iI (0)), .int (iI (0))]))]) H := hP
  have hD : va_D (va_A ([(h, .inr (2, [.int (iI (0)), .int (iI (0)), .int (iI (0)), .int (iI (0)), .int (iI (0))]))]) sz) ([(h, .inr (2, [.int (iI (mo)), .int (iI (da)), .int (iI (mn)), .int (iI (0)), .int (iI (0))]))]) := hD
  refine lv_aload_n hx hb dX0_init_19 rfl (lv_at hl 0 rfl) ?_
  refine lv_iload hx hb dX0_init_20 (lv_at hl 4 rfl) ?_
  refine va_putF (D := D) (ci := 2) (v := .int (iI (wd))) (ty := .int) (C := RX0) (T := TX0) (N := 5) hx hb hts (fun w h => List.mem_cons_of_mem _ (List.mem_append_right _ h)) tyX0 tyX0_ok nmX0 hown hK hP hD hS 0 rfl rfl 3 (by decide) (hts (.fieldLink RX0 19 "AlmanacHouse$Feast" "weekday" "I") (List.mem_of_getElem? (i := 7) rfl)) (fun _ h9 => h9) rfl hin rfl (by decide +kernel) rfl rfl (Nat.le_of_ble_eq_true rfl) dX0_init_22 (fun H locs hP hD hS => ?_)
  have hP : va_P D vwCl ([(h, .inr (2, [.int (iI (mo)), .int (iI (da)), .int (iI (mn)), .int (iI (wd)), .int (iI (0))]))]) H := hP
  have hD : va_D (va_A ([(h, .inr (2, [.int (iI (0)), .int (iI (0)), .int (iI (0)), .int (iI (0)), .int (iI (0))]))]) sz) ([(h, .inr (2, [.int (iI (mo)), .int (iI (da)), .int (iI (mn)), .int (iI (wd)), .int (iI (0))]))]) := hD
  refine lv_aload_n hx hb dX0_init_25 rfl (lv_at hl 0 rfl) ?_
  refine lv_iload hx hb dX0_init_26 (lv_at hl 5 rfl) ?_
  refine va_putF (D := D) (ci := 2) (v := .int (iI (of))) (ty := .int) (C := RX0) (T := TX0) (N := 5) hx hb hts (fun w h => List.mem_cons_of_mem _ (List.mem_append_right _ h)) tyX0 tyX0_ok nmX0 hown hK hP hD hS 0 rfl rfl 4 (by decide) (hts (.fieldLink RX0 22 "AlmanacHouse$Feast" "offset" "I") (List.mem_of_getElem? (i := 8) rfl)) (fun _ h9 => h9) rfl hin rfl (by decide +kernel) rfl rfl (Nat.le_of_ble_eq_true rfl) dX0_init_28 (fun H locs hP hD hS => ?_)
  have hP : va_P D vwCl ([(h, .inr (2, [.int (iI (mo)), .int (iI (da)), .int (iI (mn)), .int (iI (wd)), .int (iI (of))]))]) H := hP
  have hD : va_D (va_A ([(h, .inr (2, [.int (iI (0)), .int (iI (0)), .int (iI (0)), .int (iI (0)), .int (iI (0))]))]) sz) ([(h, .inr (2, [.int (iI (mo)), .int (iI (da)), .int (iI (mn)), .int (iI (wd)), .int (iI (of))]))]) := hD
  exact q_gvret (cells := 0) (slots := 0) (mc := 0) (ms := 0) (w1 := fun (_ : Unit) => [(h, .inr (2, [.int (iI (mo)), .int (iI (da)), .int (iI (mn)), .int (iI (wd)), .int (iI (of))]))]) (()) hx hb hr hlocks hS (⟨hP, hD⟩) (Nat.le_of_ble_eq_true rfl) (Nat.le_of_ble_eq_true rfl) dX0_init_31
set_option maxHeartbeats 4000000 in
set_option maxRecDepth 100000 in
theorem g_sheetInit (l : Launch) (D : va_G) (sz : Nat) (ed : Nat × Nat × Nat) (cI cO cL : ClassId) (h : Nat) (y : Int) : MGv l yX3_init wsX3_init 1 20 1 8 D (ty3 cI cO cL) sz ([(h, .inr (5, [.int (iI (0)), .null, .int (iI (0)), .int (iI (0))]))]) [.ref h, .int (iI (y))] ed (fun (u : Nat) => [(u, .inl (cI, 8, .inl (fun _ => iI 0))), (h, .inr (5, [.int (iI (y)), .ref u, .int (iI (0)), .int (iI (0))]))]) := by
  refine MGv_of (cc := cX3_init) (maxL := 2) (ret := none) (by decide) rfl (Nat.le_of_ble_eq_true rfl) ?_
  intro p e s m args below meth c ls hx hb hr hlocks hml hown hts hsz hP hK hD hS hA hin hE hT hl
  have hl : lv_has ls 2 [(0, .ref h), (1, .int (iI (y)))] := hl
  have hP : va_P D vwCl ([(h, .inr (5, [.int (iI (0)), .null, .int (iI (0)), .int (iI (0))]))]) s.heap := hP
  have hD : va_D (va_A ([(h, .inr (5, [.int (iI (0)), .null, .int (iI (0)), .int (iI (0))]))]) sz) ([(h, .inr (5, [.int (iI (0)), .null, .int (iI (0)), .int (iI (0))]))]) := hD
  refine lv_aload_n hx hb dX3_init_0 rfl (lv_at hl 0 rfl) ?_
  refine W.objInit hx hb hown (hts (.methodLink RX3 3 objectInit) (List.mem_of_getElem? (i := 1) rfl)) (hts (.instanceMethod objectInit) (List.mem_of_getElem? (i := 2) rfl)) (hts (.code objectInit ⟨#[0xb1]⟩ 1 none) (List.mem_of_getElem? (i := 3) rfl)) rfl (hl.1.trans hml.symm) rfl dX3_init_1 (Nat.le_of_ble_eq_true rfl) (Nat.le_of_ble_eq_true rfl) ?_
  refine W.eq (g2 := F0 m 4 ls []) rfl ?_
  refine lv_aload_n hx hb dX3_init_4 rfl (lv_at hl 0 rfl) ?_
  refine q_bipush hx hb dX3_init_5 (by decide) ?_
  refine q_newi hx hb (hts (.arrayClass .int) (List.mem_of_getElem? (i := 4) rfl)) hK 0 rfl hP hD hS hA 8 rfl (by decide) (Nat.le_of_ble_eq_true rfl) (Nat.le_of_ble_eq_true rfl) dX3_init_7 ?_
  intro q7 H hP hD hS
  have hP : va_P D vwCl ([(q7, .inl (cI, 8, .inl (fun q9 => iI ((fun _ => 0) q9)))), (h, .inr (5, [.int (iI (0)), .null, .int (iI (0)), .int (iI (0))]))]) H := hP
  have hD : va_D (va_A ([(h, .inr (5, [.int (iI (0)), .null, .int (iI (0)), .int (iI (0))]))]) sz) ([(q7, .inl (cI, 8, .inl (fun q9 => iI ((fun _ => 0) q9)))), (h, .inr (5, [.int (iI (0)), .null, .int (iI (0)), .int (iI (0))]))]) := hD
  refine va_putF (D := D) (ci := 5) (v := .ref q7) (ty := tyX3 1) (C := RX3) (T := TX3) (N := 4) hx hb hts (fun w h => List.mem_cons_of_mem _ (List.mem_append_right _ h)) tyX3 tyX3_ok nmX3 hown hK hP hD hS 1 rfl rfl 1 (by decide) (hts (.fieldLink RX3 9 "AlmanacHouse$Sheet" "days" "[I") (List.mem_of_getElem? (i := 5) rfl)) (fun _ h9 => h9) rfl hin rfl (by decide +kernel) rfl rfl (Nat.le_of_ble_eq_true rfl) dX3_init_9 (fun H locs hP hD hS => ?_)
  have hP : va_P D vwCl ([(q7, .inl (cI, 8, .inl (fun q9 => iI ((fun _ => 0) q9)))), (h, .inr (5, [.int (iI (0)), .ref q7, .int (iI (0)), .int (iI (0))]))]) H := hP
  have hD : va_D (va_A ([(h, .inr (5, [.int (iI (0)), .null, .int (iI (0)), .int (iI (0))]))]) sz) ([(q7, .inl (cI, 8, .inl (fun q9 => iI ((fun _ => 0) q9)))), (h, .inr (5, [.int (iI (0)), .ref q7, .int (iI (0)), .int (iI (0))]))]) := hD
  refine lv_aload_n hx hb dX3_init_12 rfl (lv_at hl 0 rfl) ?_
  refine lv_iload_n hx hb dX3_init_13 rfl (lv_at hl 1 rfl) ?_
  refine va_putF (D := D) (ci := 5) (v := .int (iI (y))) (ty := .int) (C := RX3) (T := TX3) (N := 4) hx hb hts (fun w h => List.mem_cons_of_mem _ (List.mem_append_right _ h)) tyX3 tyX3_ok nmX3 hown hK hP hD hS 1 rfl rfl 0 (by decide) (hts (.fieldLink RX3 15 "AlmanacHouse$Sheet" "year" "I") (List.mem_of_getElem? (i := 6) rfl)) (fun _ h9 => h9) rfl hin rfl (by decide +kernel) rfl rfl (Nat.le_of_ble_eq_true rfl) dX3_init_14 (fun H locs hP hD hS => ?_)
  have hP : va_P D vwCl ([(q7, .inl (cI, 8, .inl (fun q9 => iI ((fun _ => 0) q9)))), (h, .inr (5, [.int (iI (y)), .ref q7, .int (iI (0)), .int (iI (0))]))]) H := hP
  have hD : va_D (va_A ([(h, .inr (5, [.int (iI (0)), .null, .int (iI (0)), .int (iI (0))]))]) sz) ([(q7, .inl (cI, 8, .inl (fun q9 => iI ((fun _ => 0) q9)))), (h, .inr (5, [.int (iI (y)), .ref q7, .int (iI (0)), .int (iI (0))]))]) := hD
  exact q_gvret (cells := 1) (slots := 8) (mc := 1) (ms := 8) (w1 := fun (u : Nat) => [(u, .inl (cI, 8, .inl (fun _ => iI 0))), (h, .inr (5, [.int (iI (y)), .ref u, .int (iI (0)), .int (iI (0))]))]) (q7) hx hb hr hlocks hS (⟨hP, hD⟩) (Nat.le_of_ble_eq_true rfl) (Nat.le_of_ble_eq_true rfl) dX3_init_17
set_option maxHeartbeats 4000000 in
set_option maxRecDepth 100000 in
theorem g_yearsInit (l : Launch) (D : va_G) (sz : Nat) (ed : Nat × Nat × Nat) (cI cO cL : ClassId) (h : Nat) : MGv l yX4_init wsX4_init 1 20 0 0 D (ty3 cI cO cL) sz ([(h, .inr (6, [.int (iI (0)), .int (iI (0))]))]) [.ref h] ed (fun (_ : Unit) => [(h, .inr (6, [.int (iI (4)), .int (iI (1))]))]) := by
  refine MGv_of (cc := cX4_init) (maxL := 1) (ret := none) (by decide) rfl (Nat.le_of_ble_eq_true rfl) ?_
  intro p e s m args below meth c ls hx hb hr hlocks hml hown hts hsz hP hK hD hS hA hin hE hT hl
  have hl : lv_has ls 1 [(0, .ref h)] := hl
  have hP : va_P D vwCl ([(h, .inr (6, [.int (iI (0)), .int (iI (0))]))]) s.heap := hP
  have hD : va_D (va_A ([(h, .inr (6, [.int (iI (0)), .int (iI (0))]))]) sz) ([(h, .inr (6, [.int (iI (0)), .int (iI (0))]))]) := hD
  refine lv_aload_n hx hb dX4_init_0 rfl (lv_at hl 0 rfl) ?_
  refine W.objInit hx hb hown (hts (.methodLink RX4 3 objectInit) (List.mem_of_getElem? (i := 1) rfl)) (hts (.instanceMethod objectInit) (List.mem_of_getElem? (i := 2) rfl)) (hts (.code objectInit ⟨#[0xb1]⟩ 1 none) (List.mem_of_getElem? (i := 3) rfl)) rfl (hl.1.trans hml.symm) rfl dX4_init_1 (Nat.le_of_ble_eq_true rfl) (Nat.le_of_ble_eq_true rfl) ?_
  refine W.eq (g2 := F0 m 4 ls []) rfl ?_
  refine lv_aload_n hx hb dX4_init_4 rfl (lv_at hl 0 rfl) ?_
  refine q_iconst hx hb dX4_init_5 ?_
  refine va_put (D := D) (ci := 6) (v := .int (iI (4))) (ty := .int) (C := RX4) (T := TX4) (N := 2) hx hb hts (fun w h => List.mem_cons_of_mem _ (List.mem_append_right _ h)) tyX4 tyX4_ok nmX4 hown hK hP hD hS 0 rfl rfl 0 (by decide) (hts (.fieldLink RX4 9 "AlmanacHouse$Years" "cycle" "I") (List.mem_of_getElem? (i := 4) rfl)) (fun _ h9 => h9) rfl (by decide +kernel) rfl rfl (Nat.le_of_ble_eq_true rfl) dX4_init_6 (fun H locs hP hD hS => ?_)
  have hP : va_P D vwCl ([(h, .inr (6, [.int (iI (4)), .int (iI (0))]))]) H := hP
  have hD : va_D (va_A ([(h, .inr (6, [.int (iI (0)), .int (iI (0))]))]) sz) ([(h, .inr (6, [.int (iI (4)), .int (iI (0))]))]) := hD
  refine lv_aload_n hx hb dX4_init_9 rfl (lv_at hl 0 rfl) ?_
  refine q_iconst hx hb dX4_init_10 ?_
  refine va_put (D := D) (ci := 6) (v := .int (iI (1))) (ty := .int) (C := RX4) (T := TX4) (N := 2) hx hb hts (fun w h => List.mem_cons_of_mem _ (List.mem_append_right _ h)) tyX4 tyX4_ok nmX4 hown hK hP hD hS 0 rfl rfl 1 (by decide) (hts (.fieldLink RX4 15 "AlmanacHouse$Years" "leaps" "I") (List.mem_of_getElem? (i := 5) rfl)) (fun _ h9 => h9) rfl (by decide +kernel) rfl rfl (Nat.le_of_ble_eq_true rfl) dX4_init_11 (fun H locs hP hD hS => ?_)
  have hP : va_P D vwCl ([(h, .inr (6, [.int (iI (4)), .int (iI (1))]))]) H := hP
  have hD : va_D (va_A ([(h, .inr (6, [.int (iI (0)), .int (iI (0))]))]) sz) ([(h, .inr (6, [.int (iI (4)), .int (iI (1))]))]) := hD
  exact q_gvret (cells := 0) (slots := 0) (mc := 0) (ms := 0) (w1 := fun (_ : Unit) => [(h, .inr (6, [.int (iI (4)), .int (iI (1))]))]) (()) hx hb hr hlocks hS (⟨hP, hD⟩) (Nat.le_of_ble_eq_true rfl) (Nat.le_of_ble_eq_true rfl) dX4_init_14
set_option maxHeartbeats 4000000 in
set_option maxRecDepth 100000 in
theorem g_moonsInit (l : Launch) (D : va_G) (sz : Nat) (ed : Nat × Nat × Nat) (cI cO cL : ClassId) (h : Nat) : MGv l yX1_init wsX1_init 1 20 0 0 D (ty3 cI cO cL) sz ([(h, .inr (3, [.int (iI (0)), .int (iI (0))]))]) [.ref h] ed (fun (_ : Unit) => [(h, .inr (3, [.int (iI (29531)), .int (iI (0))]))]) := by
  refine MGv_of (cc := cX1_init) (maxL := 1) (ret := none) (by decide) rfl (Nat.le_of_ble_eq_true rfl) ?_
  intro p e s m args below meth c ls hx hb hr hlocks hml hown hts hsz hP hK hD hS hA hin hE hT hl
  have hl : lv_has ls 1 [(0, .ref h)] := hl
  have hP : va_P D vwCl ([(h, .inr (3, [.int (iI (0)), .int (iI (0))]))]) s.heap := hP
  have hD : va_D (va_A ([(h, .inr (3, [.int (iI (0)), .int (iI (0))]))]) sz) ([(h, .inr (3, [.int (iI (0)), .int (iI (0))]))]) := hD
  refine lv_aload_n hx hb dX1_init_0 rfl (lv_at hl 0 rfl) ?_
  refine W.objInit hx hb hown (hts (.methodLink RX1 3 objectInit) (List.mem_of_getElem? (i := 1) rfl)) (hts (.instanceMethod objectInit) (List.mem_of_getElem? (i := 2) rfl)) (hts (.code objectInit ⟨#[0xb1]⟩ 1 none) (List.mem_of_getElem? (i := 3) rfl)) rfl (hl.1.trans hml.symm) rfl dX1_init_1 (Nat.le_of_ble_eq_true rfl) (Nat.le_of_ble_eq_true rfl) ?_
  refine W.eq (g2 := F0 m 4 ls []) rfl ?_
  refine lv_aload_n hx hb dX1_init_4 rfl (lv_at hl 0 rfl) ?_
  refine q_sipush hx hb dX1_init_5 (by decide) ?_
  refine va_put (D := D) (ci := 3) (v := .int (iI (29531))) (ty := .int) (C := RX1) (T := TX1) (N := 2) hx hb hts (fun w h => List.mem_cons_of_mem _ (List.mem_append_right _ h)) tyX1 tyX1_ok nmX1 hown hK hP hD hS 0 rfl rfl 0 (by decide) (hts (.fieldLink RX1 9 "AlmanacHouse$Moons" "length" "I") (List.mem_of_getElem? (i := 4) rfl)) (fun _ h9 => h9) rfl (by decide +kernel) rfl rfl (Nat.le_of_ble_eq_true rfl) dX1_init_8 (fun H locs hP hD hS => ?_)
  have hP : va_P D vwCl ([(h, .inr (3, [.int (iI (29531)), .int (iI (0))]))]) H := hP
  have hD : va_D (va_A ([(h, .inr (3, [.int (iI (0)), .int (iI (0))]))]) sz) ([(h, .inr (3, [.int (iI (29531)), .int (iI (0))]))]) := hD
  refine lv_aload_n hx hb dX1_init_11 rfl (lv_at hl 0 rfl) ?_
  refine q_iconst hx hb dX1_init_12 ?_
  refine va_put (D := D) (ci := 3) (v := .int (iI (0))) (ty := .int) (C := RX1) (T := TX1) (N := 2) hx hb hts (fun w h => List.mem_cons_of_mem _ (List.mem_append_right _ h)) tyX1 tyX1_ok nmX1 hown hK hP hD hS 0 rfl rfl 1 (by decide) (hts (.fieldLink RX1 15 "AlmanacHouse$Moons" "first" "I") (List.mem_of_getElem? (i := 5) rfl)) (fun _ h9 => h9) rfl (by decide +kernel) rfl rfl (Nat.le_of_ble_eq_true rfl) dX1_init_13 (fun H locs hP hD hS => ?_)
  have hP : va_P D vwCl ([(h, .inr (3, [.int (iI (29531)), .int (iI (0))]))]) H := hP
  have hD : va_D (va_A ([(h, .inr (3, [.int (iI (0)), .int (iI (0))]))]) sz) ([(h, .inr (3, [.int (iI (29531)), .int (iI (0))]))]) := hD
  exact q_gvret (cells := 0) (slots := 0) (mc := 0) (ms := 0) (w1 := fun (_ : Unit) => [(h, .inr (3, [.int (iI (29531)), .int (iI (0))]))]) (()) hx hb hr hlocks hS (⟨hP, hD⟩) (Nat.le_of_ble_eq_true rfl) (Nat.le_of_ble_eq_true rfl) dX1_init_16
set_option maxHeartbeats 4000000 in
set_option maxRecDepth 100000 in
theorem g_nodesInit (l : Launch) (D : va_G) (sz : Nat) (ed : Nat × Nat × Nat) (cI cO cL : ClassId) (h : Nat) : MGv l yX2_init wsX2_init 1 20 0 0 D (ty3 cI cO cL) sz ([(h, .inr (4, [.int (iI (0)), .int (iI (0))]))]) [.ref h] ed (fun (_ : Unit) => [(h, .inr (4, [.int (iI (173310)), .int (iI (0))]))]) := by
  refine MGv_of (cc := cX2_init) (maxL := 1) (ret := none) (by decide) rfl (Nat.le_of_ble_eq_true rfl) ?_
  intro p e s m args below meth c ls hx hb hr hlocks hml hown hts hsz hP hK hD hS hA hin hE hT hl
  have hl : lv_has ls 1 [(0, .ref h)] := hl
  have hP : va_P D vwCl ([(h, .inr (4, [.int (iI (0)), .int (iI (0))]))]) s.heap := hP
  have hD : va_D (va_A ([(h, .inr (4, [.int (iI (0)), .int (iI (0))]))]) sz) ([(h, .inr (4, [.int (iI (0)), .int (iI (0))]))]) := hD
  refine lv_aload_n hx hb dX2_init_0 rfl (lv_at hl 0 rfl) ?_
  refine W.objInit hx hb hown (hts (.methodLink RX2 1 objectInit) (List.mem_of_getElem? (i := 1) rfl)) (hts (.instanceMethod objectInit) (List.mem_of_getElem? (i := 2) rfl)) (hts (.code objectInit ⟨#[0xb1]⟩ 1 none) (List.mem_of_getElem? (i := 3) rfl)) rfl (hl.1.trans hml.symm) rfl dX2_init_1 (Nat.le_of_ble_eq_true rfl) (Nat.le_of_ble_eq_true rfl) ?_
  refine W.eq (g2 := F0 m 4 ls []) rfl ?_
  refine lv_aload_n hx hb dX2_init_4 rfl (lv_at hl 0 rfl) ?_
  refine q_ldc (z := 173310) hx hb hown (hts (.constant RX2 7 (173310)) (List.mem_of_getElem? (i := 4) rfl)) (by decide) dX2_init_5 ?_
  refine va_put (D := D) (ci := 4) (v := .int (iI (173310))) (ty := .int) (C := RX2) (T := TX2) (N := 2) hx hb hts (fun w h => List.mem_cons_of_mem _ (List.mem_append_right _ h)) tyX2 tyX2_ok nmX2 hown hK hP hD hS 0 rfl rfl 0 (by decide) (hts (.fieldLink RX2 8 "AlmanacHouse$Nodes" "period" "I") (List.mem_of_getElem? (i := 5) rfl)) (fun _ h9 => h9) rfl (by decide +kernel) rfl rfl (Nat.le_of_ble_eq_true rfl) dX2_init_7 (fun H locs hP hD hS => ?_)
  have hP : va_P D vwCl ([(h, .inr (4, [.int (iI (173310)), .int (iI (0))]))]) H := hP
  have hD : va_D (va_A ([(h, .inr (4, [.int (iI (0)), .int (iI (0))]))]) sz) ([(h, .inr (4, [.int (iI (173310)), .int (iI (0))]))]) := hD
  refine lv_aload_n hx hb dX2_init_10 rfl (lv_at hl 0 rfl) ?_
  refine q_iconst hx hb dX2_init_11 ?_
  refine va_put (D := D) (ci := 4) (v := .int (iI (0))) (ty := .int) (C := RX2) (T := TX2) (N := 2) hx hb hts (fun w h => List.mem_cons_of_mem _ (List.mem_append_right _ h)) tyX2 tyX2_ok nmX2 hown hK hP hD hS 0 rfl rfl 1 (by decide) (hts (.fieldLink RX2 14 "AlmanacHouse$Nodes" "node" "I") (List.mem_of_getElem? (i := 6) rfl)) (fun _ h9 => h9) rfl (by decide +kernel) rfl rfl (Nat.le_of_ble_eq_true rfl) dX2_init_12 (fun H locs hP hD hS => ?_)
  have hP : va_P D vwCl ([(h, .inr (4, [.int (iI (173310)), .int (iI (0))]))]) H := hP
  have hD : va_D (va_A ([(h, .inr (4, [.int (iI (0)), .int (iI (0))]))]) sz) ([(h, .inr (4, [.int (iI (173310)), .int (iI (0))]))]) := hD
  exact q_gvret (cells := 0) (slots := 0) (mc := 0) (ms := 0) (w1 := fun (_ : Unit) => [(h, .inr (4, [.int (iI (173310)), .int (iI (0))]))]) (()) hx hb hr hlocks hS (⟨hP, hD⟩) (Nat.le_of_ble_eq_true rfl) (Nat.le_of_ble_eq_true rfl) dX2_init_15
set_option maxHeartbeats 4000000 in
set_option maxRecDepth 100000 in
theorem g_acInit (l : Launch) (D : va_G) (sz : Nat) (ed : Nat × Nat × Nat) (cI cO cL : ClassId) (h : Nat) : MGv l yJxa1e45_init_da8c8 wsJxa1e45_init_da8c8 1 20 0 0 D (ty3 cI cO cL) sz ([(h, .inr (1, [.int (iI (0)), .null, .int (iI (0))]))]) [.ref h] ed (fun (_ : Unit) => [(h, .inr (1, [.int (iI (0)), .null, .int (iI (0))]))]) := by
  refine MGv_of (cc := cJxa1e45_init_da8c8) (maxL := 1) (ret := none) (by decide) rfl (Nat.le_of_ble_eq_true rfl) ?_
  intro p e s m args below meth c ls hx hb hr hlocks hml hown hts hsz hP hK hD hS hA hin hE hT hl
  have hl : lv_has ls 1 [(0, .ref h)] := hl
  have hP : va_P D vwCl ([(h, .inr (1, [.int (iI (0)), .null, .int (iI (0))]))]) s.heap := hP
  have hD : va_D (va_A ([(h, .inr (1, [.int (iI (0)), .null, .int (iI (0))]))]) sz) ([(h, .inr (1, [.int (iI (0)), .null, .int (iI (0))]))]) := hD
  refine lv_aload_n hx hb dJxa1e45_init_da8c8_0 rfl (lv_at hl 0 rfl) ?_
  refine W.objInit hx hb hown (hts (.methodLink RJxa1e45 1 objectInit) (List.mem_of_getElem? (i := 1) rfl)) (hts (.instanceMethod objectInit) (List.mem_of_getElem? (i := 2) rfl)) (hts (.code objectInit ⟨#[0xb1]⟩ 1 none) (List.mem_of_getElem? (i := 3) rfl)) rfl (hl.1.trans hml.symm) rfl dJxa1e45_init_da8c8_1 (Nat.le_of_ble_eq_true rfl) (Nat.le_of_ble_eq_true rfl) ?_
  refine W.eq (g2 := F0 m 4 ls []) rfl ?_
  exact q_gvret (cells := 0) (slots := 0) (mc := 0) (ms := 0) (w1 := fun (_ : Unit) => [(h, .inr (1, [.int (iI (0)), .null, .int (iI (0))]))]) (()) hx hb hr hlocks hS (⟨hP, hD⟩) (Nat.le_of_ble_eq_true rfl) (Nat.le_of_ble_eq_true rfl) dJxa1e45_init_da8c8_4
set_option maxHeartbeats 4000000 in
set_option maxRecDepth 100000 in
theorem g_alInit (l : Launch) (D : va_G) (sz : Nat) (ed : Nat × Nat × Nat) (cI cO cL : ClassId) (h : Nat) : MGv l yJxc12de_init_da8c8 wsJxc12de_init_da8c8 2 40 0 0 D (ty3 cI cO cL) sz ([(h, .inr (1, [.int (iI (0)), .null, .int (iI (0))]))]) [.ref h] ed (fun (_ : Unit) => [(h, .inr (1, [.int (iI (0)), .null, .int (iI (0))]))]) := by
  refine MGv_of (cc := cJxc12de_init_da8c8) (maxL := 1) (ret := none) (by decide) rfl (Nat.le_of_ble_eq_true rfl) ?_
  intro p e s m args below meth c ls hx hb hr hlocks hml hown hts hsz hP hK hD hS hA hin hE hT hl
  have hl : lv_has ls 1 [(0, .ref h)] := hl
  have hP : va_P D vwCl ([(h, .inr (1, [.int (iI (0)), .null, .int (iI (0))]))]) s.heap := hP
  have hD : va_D (va_A ([(h, .inr (1, [.int (iI (0)), .null, .int (iI (0))]))]) sz) ([(h, .inr (1, [.int (iI (0)), .null, .int (iI (0))]))]) := hD
  refine lv_aload_n hx hb dJxc12de_init_da8c8_0 rfl (lv_at hl 0 rfl) ?_
  refine q_callGc (fr := 1) (lo := 20) (nL := 1) (wc := [(h, .inr (1, [.int (iI (0)), .null, .int (iI (0))]))]) (wr := []) (As := []) (rest := []) ⟨hx, hb, hml, hown, hts⟩ (g_acInit l D _ ed cI cO cL h) (cwI 0 hts gJxc12de_init_da8c8_Jxa1e45_init_da8c8 rfl rfl rfl (hts (.initialized RJxa1e45) (List.mem_of_getElem? (i := 4) rfl)) (hts (.methodLink RJxc12de 1 yJxa1e45_init_da8c8) (List.mem_of_getElem? (i := 2) rfl)) (hts (.instanceMethod yJxa1e45_init_da8c8) (List.mem_of_getElem? (i := 3) rfl)) rfl (by decide +kernel) ⟨Nat.le_of_ble_eq_true rfl, Nat.le_of_ble_eq_true rfl⟩) hP hD hS hA hK hE hT rfl hl.1 rfl (Nat.le_of_ble_eq_true rfl) dJxc12de_init_da8c8_1 (Nat.le_of_ble_eq_true rfl) (Nat.le_of_ble_eq_true rfl) ?_
  intro _u H locs hP hD hS
  have hP : va_P D vwCl ([(h, .inr (1, [.int (iI (0)), .null, .int (iI (0))]))]) H := hP
  have hD : va_D (va_A ([(h, .inr (1, [.int (iI (0)), .null, .int (iI (0))]))]) sz) ([(h, .inr (1, [.int (iI (0)), .null, .int (iI (0))]))]) := hD
  refine lv_aload_n hx hb dJxc12de_init_da8c8_4 rfl (lv_at hl 0 rfl) ?_
  refine q_iconst hx hb dJxc12de_init_da8c8_5 ?_
  refine va_put (D := D) (ci := 1) (v := .int (iI (0))) (ty := .int) (C := RJx4a65c) (T := TJx4a65c) (N := 3) hx hb hts (fun w h => List.mem_cons_of_mem _ (List.mem_append_right _ h)) tyJx4a65c tyJx4a65c_ok nmJx4a65c hown hK hP hD hS 0 rfl rfl 0 (by decide) (hts (.fieldLink RJxc12de 7 "java/util/AbstractList" "modCount" "I") (List.mem_of_getElem? (i := 1) rfl)) (fun _ h9 => h9) rfl (by decide +kernel) rfl rfl (Nat.le_of_ble_eq_true rfl) dJxc12de_init_da8c8_6 (fun H locs hP hD hS => ?_)
  have hP : va_P D vwCl ([(h, .inr (1, [.int (iI (0)), .null, .int (iI (0))]))]) H := hP
  have hD : va_D (va_A ([(h, .inr (1, [.int (iI (0)), .null, .int (iI (0))]))]) sz) ([(h, .inr (1, [.int (iI (0)), .null, .int (iI (0))]))]) := hD
  exact q_gvret (cells := 0) (slots := 0) (mc := 0) (ms := 0) (w1 := fun (_ : Unit) => [(h, .inr (1, [.int (iI (0)), .null, .int (iI (0))]))]) (()) hx hb hr hlocks hS (⟨hP, hD⟩) (Nat.le_of_ble_eq_true rfl) (Nat.le_of_ble_eq_true rfl) dJxc12de_init_da8c8_9
set_option maxHeartbeats 4000000 in
set_option maxRecDepth 100000 in
theorem g_listInit (l : Launch) (D : va_G) (sz : Nat) (ed : Nat × Nat × Nat) (cI cO cL : ClassId) (h : Nat) : MGv l yJx4a65c_init_da8c8 wsJx4a65c_init_da8c8 3 60 0 0 D (ty3 cI cO cL) sz ([(h, .inr (1, [.int (iI (0)), .null, .int (iI (0))]))]) [.ref h] ed (fun (_ : Unit) => [(h, .inr (1, [.int (iI (0)), .ref ed.1, .int (iI (0))]))]) := by
  refine MGv_of (cc := cJx4a65c_init_da8c8) (maxL := 1) (ret := none) (by decide) rfl (Nat.le_of_ble_eq_true rfl) ?_
  intro p e s m args below meth c ls hx hb hr hlocks hml hown hts hsz hP hK hD hS hA hin hE hT hl
  have hl : lv_has ls 1 [(0, .ref h)] := hl
  have hP : va_P D vwCl ([(h, .inr (1, [.int (iI (0)), .null, .int (iI (0))]))]) s.heap := hP
  have hD : va_D (va_A ([(h, .inr (1, [.int (iI (0)), .null, .int (iI (0))]))]) sz) ([(h, .inr (1, [.int (iI (0)), .null, .int (iI (0))]))]) := hD
  refine lv_aload_n hx hb dJx4a65c_init_da8c8_0 rfl (lv_at hl 0 rfl) ?_
  refine q_callGc (fr := 2) (lo := 40) (nL := 1) (wc := [(h, .inr (1, [.int (iI (0)), .null, .int (iI (0))]))]) (wr := []) (As := []) (rest := []) ⟨hx, hb, hml, hown, hts⟩ (g_alInit l D _ ed cI cO cL h) (cwI 0 hts gJx4a65c_init_da8c8_Jxc12de_init_da8c8 rfl rfl rfl (hts (.initialized RJxc12de) (List.mem_of_getElem? (i := 5) rfl)) (hts (.methodLink RJx4a65c 1 yJxc12de_init_da8c8) (List.mem_of_getElem? (i := 3) rfl)) (hts (.instanceMethod yJxc12de_init_da8c8) (List.mem_of_getElem? (i := 4) rfl)) rfl (by decide +kernel) ⟨Nat.le_of_ble_eq_true rfl, Nat.le_of_ble_eq_true rfl⟩) hP hD hS hA hK hE hT rfl hl.1 rfl (Nat.le_of_ble_eq_true rfl) dJx4a65c_init_da8c8_1 (Nat.le_of_ble_eq_true rfl) (Nat.le_of_ble_eq_true rfl) ?_
  intro _u H locs hP hD hS
  have hP : va_P D vwCl ([(h, .inr (1, [.int (iI (0)), .null, .int (iI (0))]))]) H := hP
  have hD : va_D (va_A ([(h, .inr (1, [.int (iI (0)), .null, .int (iI (0))]))]) sz) ([(h, .inr (1, [.int (iI (0)), .null, .int (iI (0))]))]) := hD
  refine lv_aload_n hx hb dJx4a65c_init_da8c8_4 rfl (lv_at hl 0 rfl) ?_
  refine va_gets (v := .ref ed.1) hx hb hE.1 hS hown (hts (.fieldLink RJx4a65c 39 "java/util/ArrayList" "DEFAULTCAPACITY_EMPTY_ELEMENTDATA" "[Ljava/lang/Object;") (List.mem_of_getElem? (i := 1) rfl)) (fun _ h9 => h9) dJx4a65c_init_da8c8_5 ?_
  refine va_put (D := D) (ci := 1) (v := .ref ed.1) (ty := tyJx4a65c 1) (C := RJx4a65c) (T := TJx4a65c) (N := 3) hx hb hts (fun w h => List.mem_cons_of_mem _ (List.mem_append_right _ h)) tyJx4a65c tyJx4a65c_ok nmJx4a65c hown hK hP hD hS 0 rfl rfl 1 (by decide) (hts (.fieldLink RJx4a65c 9 "java/util/ArrayList" "elementData" "[Ljava/lang/Object;") (List.mem_of_getElem? (i := 2) rfl)) (fun _ h9 => h9) rfl (by decide +kernel) rfl rfl (Nat.le_of_ble_eq_true rfl) dJx4a65c_init_da8c8_8 (fun H locs hP hD hS => ?_)
  have hP : va_P D vwCl ([(h, .inr (1, [.int (iI (0)), .ref ed.1, .int (iI (0))]))]) H := hP
  have hD : va_D (va_A ([(h, .inr (1, [.int (iI (0)), .null, .int (iI (0))]))]) sz) ([(h, .inr (1, [.int (iI (0)), .ref ed.1, .int (iI (0))]))]) := hD
  exact q_gvret (cells := 0) (slots := 0) (mc := 0) (ms := 0) (w1 := fun (_ : Unit) => [(h, .inr (1, [.int (iI (0)), .ref ed.1, .int (iI (0))]))]) (()) hx hb hr hlocks hS (⟨hP, hD⟩) (Nat.le_of_ble_eq_true rfl) (Nat.le_of_ble_eq_true rfl) dJx4a65c_init_da8c8_11
set_option maxHeartbeats 4000000 in
set_option maxRecDepth 100000 in
theorem g_growN (l : Launch) (D : va_G) (sz : Nat) (ed : Nat × Nat × Nat) (cI cO cL : ClassId) (h : Nat) (mc z : Int) (hz : z = 1) : MGr l yJx4a65c_grow_92f84 wsJx4a65c_grow_92f84 1 21 1 10 D (ty3 cI cO cL) sz ([(h, .inr (1, [.int (iI (mc)), .ref ed.1, .int (iI (0))]))]) [.ref h, .int (iI (z))] ed (fun (u : Nat) => u) (fun (u : Nat) => [(u, .inl (cO, 10, .inr (.inr (.inr (.inr (fun _ => none)))))), (h, .inr (1, [.int (iI (mc)), .ref u, .int (iI (0))]))]) := by
  refine MGr_of (cc := cJx4a65c_grow_92f84) (maxL := 4) (ret := (some (.array (.object "java/lang/Object")))) (by decide) rfl (Nat.le_of_ble_eq_true rfl) ?_
  intro p e s m args below meth c ls hx hb hr hlocks hml hown hts hsz hP hK hD hS hA hin hE hT hl
  have hl : lv_has ls 4 [(0, .ref h), (1, .int (iI (z)))] := hl
  have hin_Jx4a65c : ∀ w ∈ u_ws RJx4a65c TJx4a65c 3, w ∈ wsJx4a65c_grow_92f84 := (fun w h => List.mem_cons_of_mem _ (List.mem_append_right _ h))
  have hP : va_P D vwCl ([(h, .inr (1, [.int (iI (mc)), .ref ed.1, .int (iI (0))]))]) s.heap := hP
  have hD : va_D (va_A ([(h, .inr (1, [.int (iI (mc)), .ref ed.1, .int (iI (0))]))]) sz) ([(h, .inr (1, [.int (iI (mc)), .ref ed.1, .int (iI (0))]))]) := hD
  refine lv_aload_n hx hb dJx4a65c_grow_92f84_0 rfl (lv_at hl 0 rfl) ?_
  refine q_get (ci := 1) (C := RJx4a65c) (T := TJx4a65c) (N := 3) hx hb hts hin_Jx4a65c hown hK (v := .ref ed.1) (hP 0 _ rfl) rfl 1 (by decide) (hts (.fieldLink RJx4a65c 9 "java/util/ArrayList" "elementData" "[Ljava/lang/Object;") (List.mem_of_getElem? (i := 1) rfl)) (fun _ h9 => h9) rfl dJx4a65c_grow_92f84_1 ?_
  refine va_tlen hx hb hE.2.1 hS (v := iI 0) rfl dJx4a65c_grow_92f84_4 ?_
  refine lv_istore_n (lv' := [(2, .int (iI (0))), (0, .ref h), (1, .int (iI (z)))]) hx hb dJx4a65c_grow_92f84_5 rfl hl (by decide) rfl (fun ls hl => ?_)
  refine lv_iload_n hx hb dJx4a65c_grow_92f84_6 rfl (lv_at hl 0 rfl) ?_
  refine q_if_gt (tgt := 20) hx hb dJx4a65c_grow_92f84_7 (by decide) (by omega) (fun c_1 => ?_) (fun c_1 => ?_)
  · exfalso
    omega
  · skip
    refine lv_aload_n hx hb dJx4a65c_grow_92f84_10 rfl (lv_at hl 1 rfl) ?_
    refine q_get (ci := 1) (C := RJx4a65c) (T := TJx4a65c) (N := 3) hx hb hts hin_Jx4a65c hown hK (v := .ref ed.1) (hP 0 _ rfl) rfl 1 (by decide) (hts (.fieldLink RJx4a65c 9 "java/util/ArrayList" "elementData" "[Ljava/lang/Object;") (List.mem_of_getElem? (i := 1) rfl)) (fun _ h9 => h9) rfl dJx4a65c_grow_92f84_11 ?_
    refine va_gets (v := .ref ed.1) hx hb hE.1 hS hown (hts (.fieldLink RJx4a65c 39 "java/util/ArrayList" "DEFAULTCAPACITY_EMPTY_ELEMENTDATA" "[Ljava/lang/Object;") (List.mem_of_getElem? (i := 2) rfl)) (fun _ h9 => h9) dJx4a65c_grow_92f84_14 ?_
    refine lv_acmp_eq (rx := some (ed.1)) (ry := some (ed.1)) (tgt := 45) hx hb dJx4a65c_grow_92f84_17 (by decide) (fun c_2 => ?_) (fun c_2 => ?_)
    · skip
      refine lv_aload_n hx hb dJx4a65c_grow_92f84_45 rfl (lv_at hl 1 rfl) ?_
      refine q_bipush hx hb dJx4a65c_grow_92f84_46 (by decide) ?_
      refine lv_iload_n hx hb dJx4a65c_grow_92f84_48 rfl (lv_at hl 2 rfl) ?_
      refine q_mmax hx hb (hml.trans hl.1.symm) hown (hts (.methodLink RJx4a65c 79 Lib.Math.max.name) (List.mem_of_getElem? (i := 3) rfl)) (hts (.static Lib.Math.max.name) (List.mem_of_getElem? (i := 4) rfl)) (hts (.initialized "java/lang/Math") (List.mem_of_getElem? (i := 5) rfl)) (hts (.code Lib.Math.max.name Lib.Math.max.code 2 (some .int)) (List.mem_of_getElem? (i := 6) rfl)) (by omega) (by omega) (Nat.le_of_ble_eq_true rfl) (Nat.le_of_ble_eq_true rfl) (Nat.zero_le _) (Nat.zero_le _) dJx4a65c_grow_92f84_49 ?_
      refine q_newq hx hb hown (hts (.classLink RJx4a65c 7 "java/lang/Object") (List.mem_of_getElem? (i := 7) rfl)) hT.2.1 hK 1 rfl hP hD hS hA 10 (by rw [if_neg (by omega)]; rfl) (by decide) (Nat.le_of_ble_eq_true rfl) (Nat.le_of_ble_eq_true rfl) dJx4a65c_grow_92f84_52 ?_
      intro q52 H hP hD hS
      have hP : va_P D vwCl ([(q52, .inl (cO, 10, .inr (.inr (.inr (.inr (fun _ => none)))))), (h, .inr (1, [.int (iI (mc)), .ref ed.1, .int (iI (0))]))]) H := hP
      have hD : va_D (va_A ([(h, .inr (1, [.int (iI (mc)), .ref ed.1, .int (iI (0))]))]) sz) ([(q52, .inl (cO, 10, .inr (.inr (.inr (.inr (fun _ => none)))))), (h, .inr (1, [.int (iI (mc)), .ref ed.1, .int (iI (0))]))]) := hD
      refine lv_dup_x1 hx hb dJx4a65c_grow_92f84_55 rfl rfl ?_
      refine va_put (D := D) (ci := 1) (v := .ref q52) (ty := tyJx4a65c 1) (C := RJx4a65c) (T := TJx4a65c) (N := 3) hx hb hts (fun w h => List.mem_cons_of_mem _ (List.mem_append_right _ h)) tyJx4a65c tyJx4a65c_ok nmJx4a65c hown hK hP hD hS 1 rfl rfl 1 (by decide) (hts (.fieldLink RJx4a65c 9 "java/util/ArrayList" "elementData" "[Ljava/lang/Object;") (List.mem_of_getElem? (i := 1) rfl)) (fun _ h9 => h9) rfl (by decide +kernel) rfl rfl (Nat.le_of_ble_eq_true rfl) dJx4a65c_grow_92f84_56 (fun H locs hP hD hS => ?_)
      have hP : va_P D vwCl ([(q52, .inl (cO, 10, .inr (.inr (.inr (.inr (fun _ => none)))))), (h, .inr (1, [.int (iI (mc)), .ref q52, .int (iI (0))]))]) H := hP
      have hD : va_D (va_A ([(h, .inr (1, [.int (iI (mc)), .ref ed.1, .int (iI (0))]))]) sz) ([(q52, .inl (cO, 10, .inr (.inr (.inr (.inr (fun _ => none)))))), (h, .inr (1, [.int (iI (mc)), .ref q52, .int (iI (0))]))]) := hD
      exact q_grret (cells := 1) (slots := 10) (mc := 1) (ms := 10) (w1 := fun (u : Nat) => [(u, .inl (cO, 10, .inr (.inr (.inr (.inr (fun _ => none)))))), (h, .inr (1, [.int (iI (mc)), .ref u, .int (iI (0))]))]) (rr := fun (u : Nat) => u) (q52) hx hb hr (Or.inr ⟨_, rfl⟩) hlocks hS (rfl) (⟨hP, hD⟩) (Nat.le_of_ble_eq_true rfl) (Nat.le_of_ble_eq_true rfl) dJx4a65c_grow_92f84_59
    · exfalso
      exact c_2 rfl
set_option maxHeartbeats 4000000 in
set_option maxRecDepth 100000 in
theorem g_grow (l : Launch) (D : va_G) (sz : Nat) (ed : Nat × Nat × Nat) (cI cO cL : ClassId) (h : Nat) (mc : Int) : MGr l yJx4a65c_grow_d5877 wsJx4a65c_grow_d5877 2 44 1 10 D (ty3 cI cO cL) sz ([(h, .inr (1, [.int (iI (mc)), .ref ed.1, .int (iI (0))]))]) [.ref h] ed (fun (u : Nat) => u) (fun (u : Nat) => [(u, .inl (cO, 10, .inr (.inr (.inr (.inr (fun _ => none)))))), (h, .inr (1, [.int (iI (mc)), .ref u, .int (iI (0))]))]) := by
  refine MGr_of (cc := cJx4a65c_grow_d5877) (maxL := 1) (ret := (some (.array (.object "java/lang/Object")))) (by decide) rfl (Nat.le_of_ble_eq_true rfl) ?_
  intro p e s m args below meth c ls hx hb hr hlocks hml hown hts hsz hP hK hD hS hA hin hE hT hl
  have hl : lv_has ls 1 [(0, .ref h)] := hl
  have hin_Jx4a65c : ∀ w ∈ u_ws RJx4a65c TJx4a65c 3, w ∈ wsJx4a65c_grow_d5877 := (fun w h => List.mem_cons_of_mem _ (List.mem_append_right _ h))
  have hP : va_P D vwCl ([(h, .inr (1, [.int (iI (mc)), .ref ed.1, .int (iI (0))]))]) s.heap := hP
  have hD : va_D (va_A ([(h, .inr (1, [.int (iI (mc)), .ref ed.1, .int (iI (0))]))]) sz) ([(h, .inr (1, [.int (iI (mc)), .ref ed.1, .int (iI (0))]))]) := hD
  refine lv_aload_n hx hb dJx4a65c_grow_d5877_0 rfl (lv_at hl 0 rfl) ?_
  refine lv_aload_n hx hb dJx4a65c_grow_d5877_1 rfl (lv_at hl 0 rfl) ?_
  refine q_get (ci := 1) (C := RJx4a65c) (T := TJx4a65c) (N := 3) hx hb hts hin_Jx4a65c hown hK (v := .int (iI (0))) (hP 0 _ rfl) rfl 2 (by decide) (hts (.fieldLink RJx4a65c 48 "java/util/ArrayList" "size" "I") (List.mem_of_getElem? (i := 1) rfl)) (fun _ h9 => h9) rfl dJx4a65c_grow_d5877_2 ?_
  refine q_iconst hx hb dJx4a65c_grow_d5877_5 ?_
  refine q_iadd hx hb dJx4a65c_grow_d5877_6 ?_
  refine q_callGr (fr := 1) (lo := 21) (nL := 1) (wc := [(h, .inr (1, [.int (iI (mc)), .ref ed.1, .int (iI (0))]))]) (wr := []) (As := [.int (iI (0 + 1))]) (rest := []) ⟨hx, hb, hml, hown, hts⟩ (g_growN l D _ ed cI cO cL h (mc) (0 + 1) (by omega)) (cwV 1 hts gJx4a65c_grow_d5877_Jx4a65c_grow_92f84 rfl rfl rfl (by decide +kernel) ⟨Nat.le_of_ble_eq_true rfl, Nat.le_of_ble_eq_true rfl⟩) (ob_recv (hP 0 _ rfl) hK rfl) hP hD hS hA hK hE hT rfl hl.1 rfl (Nat.le_of_ble_eq_true rfl) dJx4a65c_grow_d5877_7 (Nat.le_of_ble_eq_true rfl) (Nat.le_of_ble_eq_true rfl) ?_
  intro u7 H locs hP hD hS
  have hP : va_P D vwCl ([(u7, .inl (cO, 10, .inr (.inr (.inr (.inr (fun _ => none)))))), (h, .inr (1, [.int (iI (mc)), .ref u7, .int (iI (0))]))]) H := hP
  have hD : va_D (va_A ([(h, .inr (1, [.int (iI (mc)), .ref ed.1, .int (iI (0))]))]) sz) ([(u7, .inl (cO, 10, .inr (.inr (.inr (.inr (fun _ => none)))))), (h, .inr (1, [.int (iI (mc)), .ref u7, .int (iI (0))]))]) := hD
  exact q_grret (cells := 1) (slots := 10) (mc := 1) (ms := 10) (w1 := fun (u : Nat) => [(u, .inl (cO, 10, .inr (.inr (.inr (.inr (fun _ => none)))))), (h, .inr (1, [.int (iI (mc)), .ref u, .int (iI (0))]))]) (rr := fun (u : Nat) => u) (u7) hx hb hr (Or.inr ⟨_, rfl⟩) hlocks hS (rfl) (⟨hP, hD⟩) (Nat.le_of_ble_eq_true rfl) (Nat.le_of_ble_eq_true rfl) dJx4a65c_grow_d5877_10
set_option maxHeartbeats 4000000 in
set_option maxRecDepth 100000 in
theorem g_add3a (l : Launch) (D : va_G) (sz : Nat) (ed : Nat × Nat × Nat) (cI cO cL : ClassId) (h : Nat) (mc : Int) (v ci : Nat) (vs : List Value) (rc : vw_C) (hc9 : vwCl[ci]? = some rc) (hrc : rc.1 = RX0 ∨ rc.1 = RX3) : MGv l yJx4a65c_add_72be8 wsJx4a65c_add_72be8 3 64 1 10 D (ty3 cI cO cL) sz ([(h, .inr (1, [.int (iI (mc)), .ref ed.1, .int (iI (0))])), (v, .inr (ci, vs))]) [.ref h, .ref v, .ref ed.1, .int (iI (0))] ed (fun (u : Nat) => [(u, .inl (cO, 10, .inr (.inr (.inr (.inr (va_up (fun _ => none) 0 (some (v)))))))), (h, .inr (1, [.int (iI (mc)), .ref u, .int (iI (0 + 1))])), (v, .inr (ci, vs))]) := by
  refine MGv_of (cc := cJx4a65c_add_72be8) (maxL := 4) (ret := none) (by decide) rfl (Nat.le_of_ble_eq_true rfl) ?_
  intro p e s m args below meth c ls hx hb hr hlocks hml hown hts hsz hP hK hD hS hA hin hE hT hl
  have hl : lv_has ls 4 [(0, .ref h), (1, .ref v), (2, .ref ed.1), (3, .int (iI (0)))] := hl
  have hP : va_P D vwCl ([(h, .inr (1, [.int (iI (mc)), .ref ed.1, .int (iI (0))])), (v, .inr (ci, vs))]) s.heap := hP
  have hD : va_D (va_A ([(h, .inr (1, [.int (iI (mc)), .ref ed.1, .int (iI (0))])), (v, .inr (ci, vs))]) sz) ([(h, .inr (1, [.int (iI (mc)), .ref ed.1, .int (iI (0))])), (v, .inr (ci, vs))]) := hD
  have hcw : va_Nw (.castable rc.1 "java/lang/Object") s := by
    rcases hrc with h | h
    · rw [h]; exact hT.2.2.1
    · rw [h]; exact hT.2.2.2.1
  refine lv_iload_n hx hb dJx4a65c_add_72be8_0 rfl (lv_at hl 3 rfl) ?_
  refine lv_aload_n hx hb dJx4a65c_add_72be8_1 rfl (lv_at hl 2 rfl) ?_
  refine va_tlen hx hb hE.2.1 hS (v := iI 0) rfl dJx4a65c_add_72be8_2 ?_
  refine q_icmp_ne (tgt := 11) hx hb dJx4a65c_add_72be8_3 (by decide) (by omega) (by omega) (fun c_1 => ?_) (fun c_1 => ?_)
  · exfalso
    omega
  · skip
    refine lv_aload_n hx hb dJx4a65c_add_72be8_6 rfl (lv_at hl 0 rfl) ?_
    refine q_callGr (fr := 2) (lo := 44) (nL := 4) (wc := [(h, .inr (1, [.int (iI (mc)), .ref ed.1, .int (iI (0))]))]) (wr := [(v, .inr (ci, vs))]) (As := []) (rest := []) ⟨hx, hb, hml, hown, hts⟩ (g_grow l D _ ed cI cO cL h (mc)) (cwV 0 hts gJx4a65c_add_72be8_Jx4a65c_grow_d5877 rfl rfl rfl (by decide +kernel) ⟨Nat.le_of_ble_eq_true rfl, Nat.le_of_ble_eq_true rfl⟩) (ob_recv (hP 0 _ rfl) hK rfl) hP hD hS hA hK hE hT rfl hl.1 rfl (Nat.le_of_ble_eq_true rfl) dJx4a65c_add_72be8_7 (Nat.le_of_ble_eq_true rfl) (Nat.le_of_ble_eq_true rfl) ?_
    intro u7 H locs hP hD hS
    have hP : va_P D vwCl ([(u7, .inl (cO, 10, .inr (.inr (.inr (.inr (fun _ => none)))))), (h, .inr (1, [.int (iI (mc)), .ref u7, .int (iI (0))])), (v, .inr (ci, vs))]) H := hP
    have hD : va_D (va_A ([(h, .inr (1, [.int (iI (mc)), .ref ed.1, .int (iI (0))])), (v, .inr (ci, vs))]) sz) ([(u7, .inl (cO, 10, .inr (.inr (.inr (.inr (fun _ => none)))))), (h, .inr (1, [.int (iI (mc)), .ref u7, .int (iI (0))])), (v, .inr (ci, vs))]) := hD
    refine lv_astore_n (lv' := [(2, .ref u7), (0, .ref h), (1, .ref v), (3, .int (iI (0)))]) hx hb dJx4a65c_add_72be8_10 rfl hl (by decide) rfl (fun ls hl => ?_)
    refine lv_aload_n hx hb dJx4a65c_add_72be8_11 rfl (lv_at hl 0 rfl) ?_
    refine lv_iload_n hx hb dJx4a65c_add_72be8_12 rfl (lv_at hl 3 rfl) ?_
    refine lv_aload_n hx hb dJx4a65c_add_72be8_13 rfl (lv_at hl 2 rfl) ?_
    refine q_aast (f := fun _ => none) hx hb hK hP hD hS 0 1 2 rfl rfl hcw rfl hc9 (0) (rfl) (by decide) (by decide) dJx4a65c_add_72be8_14 (fun H locs hP hD hS => ?_)
    have hP : va_P D vwCl ([(u7, .inl (cO, 10, .inr (.inr (.inr (.inr (va_up (fun _ => none) (0) (some (v)))))))), (h, .inr (1, [.int (iI (mc)), .ref u7, .int (iI (0))])), (v, .inr (ci, vs))]) H := hP
    have hD : va_D (va_A ([(h, .inr (1, [.int (iI (mc)), .ref ed.1, .int (iI (0))])), (v, .inr (ci, vs))]) sz) ([(u7, .inl (cO, 10, .inr (.inr (.inr (.inr (va_up (fun _ => none) (0) (some (v)))))))), (h, .inr (1, [.int (iI (mc)), .ref u7, .int (iI (0))])), (v, .inr (ci, vs))]) := hD
    refine lv_aload_n hx hb dJx4a65c_add_72be8_15 rfl (lv_at hl 1 rfl) ?_
    refine lv_iload_n hx hb dJx4a65c_add_72be8_16 rfl (lv_at hl 3 rfl) ?_
    refine q_iconst hx hb dJx4a65c_add_72be8_17 ?_
    refine q_iadd hx hb dJx4a65c_add_72be8_18 ?_
    refine va_put (D := D) (ci := 1) (v := .int (iI (0 + 1))) (ty := .int) (C := RJx4a65c) (T := TJx4a65c) (N := 3) hx hb hts (fun w h => List.mem_cons_of_mem _ (List.mem_append_right _ h)) tyJx4a65c tyJx4a65c_ok nmJx4a65c hown hK hP hD hS 1 rfl rfl 2 (by decide) (hts (.fieldLink RJx4a65c 48 "java/util/ArrayList" "size" "I") (List.mem_of_getElem? (i := 1) rfl)) (fun _ h9 => h9) rfl (by decide +kernel) rfl rfl (Nat.le_of_ble_eq_true rfl) dJx4a65c_add_72be8_19 (fun H locs hP hD hS => ?_)
    have hP : va_P D vwCl ([(u7, .inl (cO, 10, .inr (.inr (.inr (.inr (va_up (fun _ => none) (0) (some (v)))))))), (h, .inr (1, [.int (iI (mc)), .ref u7, .int (iI (0 + 1))])), (v, .inr (ci, vs))]) H := hP
    have hD : va_D (va_A ([(h, .inr (1, [.int (iI (mc)), .ref ed.1, .int (iI (0))])), (v, .inr (ci, vs))]) sz) ([(u7, .inl (cO, 10, .inr (.inr (.inr (.inr (va_up (fun _ => none) (0) (some (v)))))))), (h, .inr (1, [.int (iI (mc)), .ref u7, .int (iI (0 + 1))])), (v, .inr (ci, vs))]) := hD
    exact q_gvret (cells := 1) (slots := 10) (mc := 1) (ms := 10) (w1 := fun (u : Nat) => [(u, .inl (cO, 10, .inr (.inr (.inr (.inr (va_up (fun _ => none) 0 (some (v)))))))), (h, .inr (1, [.int (iI (mc)), .ref u, .int (iI (0 + 1))])), (v, .inr (ci, vs))]) (u7) hx hb hr hlocks hS (⟨hP, hD⟩) (Nat.le_of_ble_eq_true rfl) (Nat.le_of_ble_eq_true rfl) dJx4a65c_add_72be8_22
set_option maxHeartbeats 4000000 in
set_option maxRecDepth 100000 in
theorem g_add3b (l : Launch) (D : va_G) (sz : Nat) (ed : Nat × Nat × Nat) (cI cO cL : ClassId) (h : Nat) (mc : Int) (v ci : Nat) (vs : List Value) (rc : vw_C) (hc9 : vwCl[ci]? = some rc) (hrc : rc.1 = RX0 ∨ rc.1 = RX3) (ad : Nat) (n : Int) (fA : Nat → Option Nat) (hn : 0 ≤ n ∧ n < 10) : MGv l yJx4a65c_add_72be8 wsJx4a65c_add_72be8 3 64 1 10 D (ty3 cI cO cL) sz ([(h, .inr (1, [.int (iI (mc)), .ref ad, .int (iI (n))])), (ad, .inl (cO, 10, .inr (.inr (.inr (.inr (fA)))))), (v, .inr (ci, vs))]) [.ref h, .ref v, .ref ad, .int (iI (n))] ed (fun (_ : Unit) => [(h, .inr (1, [.int (iI (mc)), .ref ad, .int (iI (n + 1))])), (ad, .inl (cO, 10, .inr (.inr (.inr (.inr (va_up (fA) (Int.toNat (n)) (some (v)))))))), (v, .inr (ci, vs))]) := by
  refine MGv_of (cc := cJx4a65c_add_72be8) (maxL := 4) (ret := none) (by decide) rfl (Nat.le_of_ble_eq_true rfl) ?_
  intro p e s m args below meth c ls hx hb hr hlocks hml hown hts hsz hP hK hD hS hA hin hE hT hl
  have hl : lv_has ls 4 [(0, .ref h), (1, .ref v), (2, .ref ad), (3, .int (iI (n)))] := hl
  have hP : va_P D vwCl ([(h, .inr (1, [.int (iI (mc)), .ref ad, .int (iI (n))])), (ad, .inl (cO, 10, .inr (.inr (.inr (.inr (fA)))))), (v, .inr (ci, vs))]) s.heap := hP
  have hD : va_D (va_A ([(h, .inr (1, [.int (iI (mc)), .ref ad, .int (iI (n))])), (ad, .inl (cO, 10, .inr (.inr (.inr (.inr (fA)))))), (v, .inr (ci, vs))]) sz) ([(h, .inr (1, [.int (iI (mc)), .ref ad, .int (iI (n))])), (ad, .inl (cO, 10, .inr (.inr (.inr (.inr (fA)))))), (v, .inr (ci, vs))]) := hD
  have hcw : va_Nw (.castable rc.1 "java/lang/Object") s := by
    rcases hrc with h | h
    · rw [h]; exact hT.2.2.1
    · rw [h]; exact hT.2.2.2.1
  refine lv_iload_n hx hb dJx4a65c_add_72be8_0 rfl (lv_at hl 3 rfl) ?_
  refine lv_aload_n hx hb dJx4a65c_add_72be8_1 rfl (lv_at hl 2 rfl) ?_
  refine q_alen (z := 10) hx hb hK (hP 1 _ rfl) 1 rfl (by rfl) dJx4a65c_add_72be8_2 ?_
  refine q_icmp_ne (tgt := 11) hx hb dJx4a65c_add_72be8_3 (by decide) (by omega) (by omega) (fun c_1 => ?_) (fun c_1 => ?_)
  · skip
    refine lv_aload_n hx hb dJx4a65c_add_72be8_11 rfl (lv_at hl 2 rfl) ?_
    refine lv_iload_n hx hb dJx4a65c_add_72be8_12 rfl (lv_at hl 3 rfl) ?_
    refine lv_aload_n hx hb dJx4a65c_add_72be8_13 rfl (lv_at hl 1 rfl) ?_
    refine q_aast (f := fA) hx hb hK hP hD hS 1 1 2 rfl rfl hcw rfl hc9 (Int.toNat (n)) (by omega) (by omega) (by decide) dJx4a65c_add_72be8_14 (fun H locs hP hD hS => ?_)
    have hP : va_P D vwCl ([(h, .inr (1, [.int (iI (mc)), .ref ad, .int (iI (n))])), (ad, .inl (cO, 10, .inr (.inr (.inr (.inr (va_up (fA) (Int.toNat (n)) (some (v)))))))), (v, .inr (ci, vs))]) H := hP
    have hD : va_D (va_A ([(h, .inr (1, [.int (iI (mc)), .ref ad, .int (iI (n))])), (ad, .inl (cO, 10, .inr (.inr (.inr (.inr (fA)))))), (v, .inr (ci, vs))]) sz) ([(h, .inr (1, [.int (iI (mc)), .ref ad, .int (iI (n))])), (ad, .inl (cO, 10, .inr (.inr (.inr (.inr (va_up (fA) (Int.toNat (n)) (some (v)))))))), (v, .inr (ci, vs))]) := hD
    refine lv_aload_n hx hb dJx4a65c_add_72be8_15 rfl (lv_at hl 0 rfl) ?_
    refine lv_iload_n hx hb dJx4a65c_add_72be8_16 rfl (lv_at hl 3 rfl) ?_
    refine q_iconst hx hb dJx4a65c_add_72be8_17 ?_
    refine q_iadd hx hb dJx4a65c_add_72be8_18 ?_
    refine va_put (D := D) (ci := 1) (v := .int (iI (n + 1))) (ty := .int) (C := RJx4a65c) (T := TJx4a65c) (N := 3) hx hb hts (fun w h => List.mem_cons_of_mem _ (List.mem_append_right _ h)) tyJx4a65c tyJx4a65c_ok nmJx4a65c hown hK hP hD hS 0 rfl rfl 2 (by decide) (hts (.fieldLink RJx4a65c 48 "java/util/ArrayList" "size" "I") (List.mem_of_getElem? (i := 1) rfl)) (fun _ h9 => h9) rfl (by decide +kernel) rfl rfl (Nat.le_of_ble_eq_true rfl) dJx4a65c_add_72be8_19 (fun H locs hP hD hS => ?_)
    have hP : va_P D vwCl ([(h, .inr (1, [.int (iI (mc)), .ref ad, .int (iI (n + 1))])), (ad, .inl (cO, 10, .inr (.inr (.inr (.inr (va_up (fA) (Int.toNat (n)) (some (v)))))))), (v, .inr (ci, vs))]) H := hP
    have hD : va_D (va_A ([(h, .inr (1, [.int (iI (mc)), .ref ad, .int (iI (n))])), (ad, .inl (cO, 10, .inr (.inr (.inr (.inr (fA)))))), (v, .inr (ci, vs))]) sz) ([(h, .inr (1, [.int (iI (mc)), .ref ad, .int (iI (n + 1))])), (ad, .inl (cO, 10, .inr (.inr (.inr (.inr (va_up (fA) (Int.toNat (n)) (some (v)))))))), (v, .inr (ci, vs))]) := hD
    exact q_gvret (cells := 0) (slots := 0) (mc := 1) (ms := 10) (w1 := fun (_ : Unit) => [(h, .inr (1, [.int (iI (mc)), .ref ad, .int (iI (n + 1))])), (ad, .inl (cO, 10, .inr (.inr (.inr (.inr (va_up (fA) (Int.toNat (n)) (some (v)))))))), (v, .inr (ci, vs))]) (()) hx hb hr hlocks hS (⟨hP, hD⟩) (Nat.le_of_ble_eq_true rfl) (Nat.le_of_ble_eq_true rfl) dJx4a65c_add_72be8_22
  · exfalso
    omega
set_option maxHeartbeats 4000000 in
set_option maxRecDepth 100000 in
theorem g_adda (l : Launch) (D : va_G) (sz : Nat) (ed : Nat × Nat × Nat) (cI cO cL : ClassId) (h : Nat) (mc : Int) (v ci : Nat) (vs : List Value) (rc : vw_C) (hc9 : vwCl[ci]? = some rc) (hrc : rc.1 = RX0 ∨ rc.1 = RX3) : MGi l yJx4a65c_add_9ea2d wsJx4a65c_add_9ea2d 4 87 1 10 D (ty3 cI cO cL) sz ([(h, .inr (1, [.int (iI (mc)), .ref ed.1, .int (iI (0))])), (v, .inr (ci, vs))]) [.ref h, .ref v] ed (1) (fun (u : Nat) => [(u, .inl (cO, 10, .inr (.inr (.inr (.inr (va_up (fun _ => none) 0 (some (v)))))))), (h, .inr (1, [.int (iI (mc + 1)), .ref u, .int (iI (0 + 1))])), (v, .inr (ci, vs))]) := by
  refine MGi_of (cc := cJx4a65c_add_9ea2d) (maxL := 2) (ret := (some .boolean)) (by decide) rfl (Nat.le_of_ble_eq_true rfl) ?_
  intro p e s m args below meth c ls hx hb hr hlocks hml hown hts hsz hP hK hD hS hA hin hE hT hl
  have hl : lv_has ls 2 [(0, .ref h), (1, .ref v)] := hl
  have hin_Jx4a65c : ∀ w ∈ u_ws RJx4a65c TJx4a65c 3, w ∈ wsJx4a65c_add_9ea2d := (fun w h => List.mem_cons_of_mem _ (List.mem_append_right _ h))
  have hP : va_P D vwCl ([(h, .inr (1, [.int (iI (mc)), .ref ed.1, .int (iI (0))])), (v, .inr (ci, vs))]) s.heap := hP
  have hD : va_D (va_A ([(h, .inr (1, [.int (iI (mc)), .ref ed.1, .int (iI (0))])), (v, .inr (ci, vs))]) sz) ([(h, .inr (1, [.int (iI (mc)), .ref ed.1, .int (iI (0))])), (v, .inr (ci, vs))]) := hD
  have hcw : va_Nw (.castable rc.1 "java/lang/Object") s := by
    rcases hrc with h | h
    · rw [h]; exact hT.2.2.1
    · rw [h]; exact hT.2.2.2.1
  refine lv_aload_n hx hb dJx4a65c_add_9ea2d_0 rfl (lv_at hl 0 rfl) ?_
  refine lv_dup hx hb dJx4a65c_add_9ea2d_1 rfl ?_
  refine q_get (ci := 1) (C := RJx4a65c) (T := TJx4a65c) (N := 3) hx hb hts hin_Jx4a65c hown hK (v := .int (iI (mc))) (hP 0 _ rfl) rfl 0 (by decide) (hts (.fieldLink RJx4a65c 63 "java/util/ArrayList" "modCount" "I") (List.mem_of_getElem? (i := 1) rfl)) (fun _ h9 => u_same (hts (.sameField "java/util/ArrayList" "java/util/AbstractList" "modCount" "I") (List.mem_of_getElem? (i := 2) rfl)) _ h9) rfl dJx4a65c_add_9ea2d_2 ?_
  refine q_iconst hx hb dJx4a65c_add_9ea2d_5 ?_
  refine q_iadd hx hb dJx4a65c_add_9ea2d_6 ?_
  refine va_put (D := D) (ci := 1) (v := .int (iI (mc + 1))) (ty := .int) (C := RJx4a65c) (T := TJx4a65c) (N := 3) hx hb hts (fun w h => List.mem_cons_of_mem _ (List.mem_append_right _ h)) tyJx4a65c tyJx4a65c_ok nmJx4a65c hown hK hP hD hS 0 rfl rfl 0 (by decide) (hts (.fieldLink RJx4a65c 63 "java/util/ArrayList" "modCount" "I") (List.mem_of_getElem? (i := 1) rfl)) (fun _ h9 => u_same (hts (.sameField "java/util/ArrayList" "java/util/AbstractList" "modCount" "I") (List.mem_of_getElem? (i := 2) rfl)) _ h9) rfl (by decide +kernel) rfl rfl (Nat.le_of_ble_eq_true rfl) dJx4a65c_add_9ea2d_7 (fun H locs hP hD hS => ?_)
  have hP : va_P D vwCl ([(h, .inr (1, [.int (iI (mc + 1)), .ref ed.1, .int (iI (0))])), (v, .inr (ci, vs))]) H := hP
  have hD : va_D (va_A ([(h, .inr (1, [.int (iI (mc)), .ref ed.1, .int (iI (0))])), (v, .inr (ci, vs))]) sz) ([(h, .inr (1, [.int (iI (mc + 1)), .ref ed.1, .int (iI (0))])), (v, .inr (ci, vs))]) := hD
  refine lv_aload_n hx hb dJx4a65c_add_9ea2d_10 rfl (lv_at hl 0 rfl) ?_
  refine lv_aload_n hx hb dJx4a65c_add_9ea2d_11 rfl (lv_at hl 1 rfl) ?_
  refine lv_aload_n hx hb dJx4a65c_add_9ea2d_12 rfl (lv_at hl 0 rfl) ?_
  refine q_get (ci := 1) (C := RJx4a65c) (T := TJx4a65c) (N := 3) hx hb hts hin_Jx4a65c hown hK (v := .ref ed.1) (hP 0 _ rfl) rfl 1 (by decide) (hts (.fieldLink RJx4a65c 9 "java/util/ArrayList" "elementData" "[Ljava/lang/Object;") (List.mem_of_getElem? (i := 3) rfl)) (fun _ h9 => h9) rfl dJx4a65c_add_9ea2d_13 ?_
  refine lv_aload_n hx hb dJx4a65c_add_9ea2d_16 rfl (lv_at hl 0 rfl) ?_
  refine q_get (ci := 1) (C := RJx4a65c) (T := TJx4a65c) (N := 3) hx hb hts hin_Jx4a65c hown hK (v := .int (iI (0))) (hP 0 _ rfl) rfl 2 (by decide) (hts (.fieldLink RJx4a65c 48 "java/util/ArrayList" "size" "I") (List.mem_of_getElem? (i := 4) rfl)) (fun _ h9 => h9) rfl dJx4a65c_add_9ea2d_17 ?_
  refine q_callGv (fr := 3) (lo := 64) (nL := 2) (wc := [(h, .inr (1, [.int (iI (mc + 1)), .ref ed.1, .int (iI (0))])), (v, .inr (ci, vs))]) (wr := []) (As := [.ref v, .ref ed.1, .int (iI (0))]) (rest := []) ⟨hx, hb, hml, hown, hts⟩ (g_add3a l D _ ed cI cO cL h (mc + 1) v ci vs rc hc9 hrc) (cwV 3 hts gJx4a65c_add_9ea2d_Jx4a65c_add_72be8 rfl rfl rfl (by decide +kernel) ⟨Nat.le_of_ble_eq_true rfl, Nat.le_of_ble_eq_true rfl⟩) (ob_recv (hP 0 _ rfl) hK rfl) hP hD hS hA hK hE hT rfl hl.1 rfl (Nat.le_of_ble_eq_true rfl) dJx4a65c_add_9ea2d_20 (Nat.le_of_ble_eq_true rfl) (Nat.le_of_ble_eq_true rfl) ?_
  intro u20 H locs hP hD hS
  have hP : va_P D vwCl ([(u20, .inl (cO, 10, .inr (.inr (.inr (.inr (va_up (fun _ => none) 0 (some (v)))))))), (h, .inr (1, [.int (iI (mc + 1)), .ref u20, .int (iI (0 + 1))])), (v, .inr (ci, vs))]) H := hP
  have hD : va_D (va_A ([(h, .inr (1, [.int (iI (mc)), .ref ed.1, .int (iI (0))])), (v, .inr (ci, vs))]) sz) ([(u20, .inl (cO, 10, .inr (.inr (.inr (.inr (va_up (fun _ => none) 0 (some (v)))))))), (h, .inr (1, [.int (iI (mc + 1)), .ref u20, .int (iI (0 + 1))])), (v, .inr (ci, vs))]) := hD
  refine q_iconst hx hb dJx4a65c_add_9ea2d_23 ?_
  exact q_gzret (cells := 1) (slots := 10) (mc := 1) (ms := 10) (w1 := fun (u : Nat) => [(u, .inl (cO, 10, .inr (.inr (.inr (.inr (va_up (fun _ => none) 0 (some (v)))))))), (h, .inr (1, [.int (iI (mc + 1)), .ref u, .int (iI (0 + 1))])), (v, .inr (ci, vs))]) (u20) hx hb hr hlocks (by omega) hS (rfl) (⟨hP, hD⟩) (Nat.le_of_ble_eq_true rfl) (Nat.le_of_ble_eq_true rfl) dJx4a65c_add_9ea2d_24
set_option maxHeartbeats 4000000 in
set_option maxRecDepth 100000 in
theorem g_addb (l : Launch) (D : va_G) (sz : Nat) (ed : Nat × Nat × Nat) (cI cO cL : ClassId) (h : Nat) (mc : Int) (v ci : Nat) (vs : List Value) (rc : vw_C) (hc9 : vwCl[ci]? = some rc) (hrc : rc.1 = RX0 ∨ rc.1 = RX3) (ad : Nat) (n : Int) (fA : Nat → Option Nat) (hn : 0 ≤ n ∧ n < 10) : MGi l yJx4a65c_add_9ea2d wsJx4a65c_add_9ea2d 4 87 1 10 D (ty3 cI cO cL) sz ([(h, .inr (1, [.int (iI (mc)), .ref ad, .int (iI (n))])), (ad, .inl (cO, 10, .inr (.inr (.inr (.inr (fA)))))), (v, .inr (ci, vs))]) [.ref h, .ref v] ed (1) (fun (_ : Unit) => [(h, .inr (1, [.int (iI (mc + 1)), .ref ad, .int (iI (n + 1))])), (ad, .inl (cO, 10, .inr (.inr (.inr (.inr (va_up (fA) (Int.toNat (n)) (some (v)))))))), (v, .inr (ci, vs))]) := by
  refine MGi_of (cc := cJx4a65c_add_9ea2d) (maxL := 2) (ret := (some .boolean)) (by decide) rfl (Nat.le_of_ble_eq_true rfl) ?_
  intro p e s m args below meth c ls hx hb hr hlocks hml hown hts hsz hP hK hD hS hA hin hE hT hl
  have hl : lv_has ls 2 [(0, .ref h), (1, .ref v)] := hl
  have hin_Jx4a65c : ∀ w ∈ u_ws RJx4a65c TJx4a65c 3, w ∈ wsJx4a65c_add_9ea2d := (fun w h => List.mem_cons_of_mem _ (List.mem_append_right _ h))
  have hP : va_P D vwCl ([(h, .inr (1, [.int (iI (mc)), .ref ad, .int (iI (n))])), (ad, .inl (cO, 10, .inr (.inr (.inr (.inr (fA)))))), (v, .inr (ci, vs))]) s.heap := hP
  have hD : va_D (va_A ([(h, .inr (1, [.int (iI (mc)), .ref ad, .int (iI (n))])), (ad, .inl (cO, 10, .inr (.inr (.inr (.inr (fA)))))), (v, .inr (ci, vs))]) sz) ([(h, .inr (1, [.int (iI (mc)), .ref ad, .int (iI (n))])), (ad, .inl (cO, 10, .inr (.inr (.inr (.inr (fA)))))), (v, .inr (ci, vs))]) := hD
  have hcw : va_Nw (.castable rc.1 "java/lang/Object") s := by
    rcases hrc with h | h
    · rw [h]; exact hT.2.2.1
    · rw [h]; exact hT.2.2.2.1
  refine lv_aload_n hx hb dJx4a65c_add_9ea2d_0 rfl (lv_at hl 0 rfl) ?_
  refine lv_dup hx hb dJx4a65c_add_9ea2d_1 rfl ?_
  refine q_get (ci := 1) (C := RJx4a65c) (T := TJx4a65c) (N := 3) hx hb hts hin_Jx4a65c hown hK (v := .int (iI (mc))) (hP 0 _ rfl) rfl 0 (by decide) (hts (.fieldLink RJx4a65c 63 "java/util/ArrayList" "modCount" "I") (List.mem_of_getElem? (i := 1) rfl)) (fun _ h9 => u_same (hts (.sameField "java/util/ArrayList" "java/util/AbstractList" "modCount" "I") (List.mem_of_getElem? (i := 2) rfl)) _ h9) rfl dJx4a65c_add_9ea2d_2 ?_
  refine q_iconst hx hb dJx4a65c_add_9ea2d_5 ?_
  refine q_iadd hx hb dJx4a65c_add_9ea2d_6 ?_
  refine va_put (D := D) (ci := 1) (v := .int (iI (mc + 1))) (ty := .int) (C := RJx4a65c) (T := TJx4a65c) (N := 3) hx hb hts (fun w h => List.mem_cons_of_mem _ (List.mem_append_right _ h)) tyJx4a65c tyJx4a65c_ok nmJx4a65c hown hK hP hD hS 0 rfl rfl 0 (by decide) (hts (.fieldLink RJx4a65c 63 "java/util/ArrayList" "modCount" "I") (List.mem_of_getElem? (i := 1) rfl)) (fun _ h9 => u_same (hts (.sameField "java/util/ArrayList" "java/util/AbstractList" "modCount" "I") (List.mem_of_getElem? (i := 2) rfl)) _ h9) rfl (by decide +kernel) rfl rfl (Nat.le_of_ble_eq_true rfl) dJx4a65c_add_9ea2d_7 (fun H locs hP hD hS => ?_)
  have hP : va_P D vwCl ([(h, .inr (1, [.int (iI (mc + 1)), .ref ad, .int (iI (n))])), (ad, .inl (cO, 10, .inr (.inr (.inr (.inr (fA)))))), (v, .inr (ci, vs))]) H := hP
  have hD : va_D (va_A ([(h, .inr (1, [.int (iI (mc)), .ref ad, .int (iI (n))])), (ad, .inl (cO, 10, .inr (.inr (.inr (.inr (fA)))))), (v, .inr (ci, vs))]) sz) ([(h, .inr (1, [.int (iI (mc + 1)), .ref ad, .int (iI (n))])), (ad, .inl (cO, 10, .inr (.inr (.inr (.inr (fA)))))), (v, .inr (ci, vs))]) := hD
  refine lv_aload_n hx hb dJx4a65c_add_9ea2d_10 rfl (lv_at hl 0 rfl) ?_
  refine lv_aload_n hx hb dJx4a65c_add_9ea2d_11 rfl (lv_at hl 1 rfl) ?_
  refine lv_aload_n hx hb dJx4a65c_add_9ea2d_12 rfl (lv_at hl 0 rfl) ?_
  refine q_get (ci := 1) (C := RJx4a65c) (T := TJx4a65c) (N := 3) hx hb hts hin_Jx4a65c hown hK (v := .ref ad) (hP 0 _ rfl) rfl 1 (by decide) (hts (.fieldLink RJx4a65c 9 "java/util/ArrayList" "elementData" "[Ljava/lang/Object;") (List.mem_of_getElem? (i := 3) rfl)) (fun _ h9 => h9) rfl dJx4a65c_add_9ea2d_13 ?_
  refine lv_aload_n hx hb dJx4a65c_add_9ea2d_16 rfl (lv_at hl 0 rfl) ?_
  refine q_get (ci := 1) (C := RJx4a65c) (T := TJx4a65c) (N := 3) hx hb hts hin_Jx4a65c hown hK (v := .int (iI (n))) (hP 0 _ rfl) rfl 2 (by decide) (hts (.fieldLink RJx4a65c 48 "java/util/ArrayList" "size" "I") (List.mem_of_getElem? (i := 4) rfl)) (fun _ h9 => h9) rfl dJx4a65c_add_9ea2d_17 ?_
  refine q_callGv (fr := 3) (lo := 64) (nL := 2) (wc := [(h, .inr (1, [.int (iI (mc + 1)), .ref ad, .int (iI (n))])), (ad, .inl (cO, 10, .inr (.inr (.inr (.inr (fA)))))), (v, .inr (ci, vs))]) (wr := []) (As := [.ref v, .ref ad, .int (iI (n))]) (rest := []) ⟨hx, hb, hml, hown, hts⟩ (g_add3b l D _ ed cI cO cL h (mc + 1) v ci vs rc hc9 hrc ad (n) (fA) (by omega)) (cwV 3 hts gJx4a65c_add_9ea2d_Jx4a65c_add_72be8 rfl rfl rfl (by decide +kernel) ⟨Nat.le_of_ble_eq_true rfl, Nat.le_of_ble_eq_true rfl⟩) (ob_recv (hP 0 _ rfl) hK rfl) hP hD hS hA hK hE hT rfl hl.1 rfl (Nat.le_of_ble_eq_true rfl) dJx4a65c_add_9ea2d_20 (Nat.le_of_ble_eq_true rfl) (Nat.le_of_ble_eq_true rfl) ?_
  intro _u20 H locs hP hD hS
  have hP : va_P D vwCl ([(h, .inr (1, [.int (iI (mc + 1)), .ref ad, .int (iI (n + 1))])), (ad, .inl (cO, 10, .inr (.inr (.inr (.inr (va_up (fA) (Int.toNat (n)) (some (v)))))))), (v, .inr (ci, vs))]) H := hP
  have hD : va_D (va_A ([(h, .inr (1, [.int (iI (mc)), .ref ad, .int (iI (n))])), (ad, .inl (cO, 10, .inr (.inr (.inr (.inr (fA)))))), (v, .inr (ci, vs))]) sz) ([(h, .inr (1, [.int (iI (mc + 1)), .ref ad, .int (iI (n + 1))])), (ad, .inl (cO, 10, .inr (.inr (.inr (.inr (va_up (fA) (Int.toNat (n)) (some (v)))))))), (v, .inr (ci, vs))]) := hD
  refine q_iconst hx hb dJx4a65c_add_9ea2d_23 ?_
  exact q_gzret (cells := 1) (slots := 10) (mc := 1) (ms := 10) (w1 := fun (_ : Unit) => [(h, .inr (1, [.int (iI (mc + 1)), .ref ad, .int (iI (n + 1))])), (ad, .inl (cO, 10, .inr (.inr (.inr (.inr (va_up (fA) (Int.toNat (n)) (some (v)))))))), (v, .inr (ci, vs))]) (()) hx hb hr hlocks (by omega) hS (rfl) (⟨hP, hD⟩) (Nat.le_of_ble_eq_true rfl) (Nat.le_of_ble_eq_true rfl) dJx4a65c_add_9ea2d_24
