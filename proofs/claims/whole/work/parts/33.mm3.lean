/-! ===== AlmanacHouseModel: mean, digest, addFeast ===== -/
def MUl (l : Launch) (y : MethodName) (ws : List Cond) (fr lo mc ms : Nat) (D : va_G) (tys : List (ClassId × FieldType)) (sz : Nat) (w0 : va_W) (av : List Value) (v : Int64) (w1 : va_W) : Prop := Met l y ws { frames := fr, cells := mc, slots := ms, locals := lo } (pcW D tys sz w0 av) (va_Ql (fun (r : Int64) (_ : Unit) => r = v) (fun _ t => va_P D vwCl w1 t.heap) (va_A w0 sz)) mc ms (va_A w0 sz)
def MUd (l : Launch) (y : MethodName) (ws : List Cond) (fr lo mc ms : Nat) (D : va_G) (tys : List (ClassId × FieldType)) (sz : Nat) (w0 : va_W) (av : List Value) (v : UInt64) (w1 : va_W) : Prop := Met l y ws { frames := fr, cells := mc, slots := ms, locals := lo } (pcW D tys sz w0 av) (va_Qd (fun (r : UInt64) (_ : Unit) => r = v) (fun _ t => va_P D vwCl w1 t.heap) (va_A w0 sz)) mc ms (va_A w0 sz)
def cpy (f g : Nat → Int) (sp dp n : Nat) : Nat → Int := fun k => if dp ≤ k ∧ k < dp + n then f (sp + (k - dp)) else g k
theorem cpy_tp {T : Nat → Int} {n : Nat} {mo da mn wd of : Int} : cpy (st (st (st (st (st (fun _ => 0) 0 mo) 1 da) 2 mn) 3 wd) 4 of) T 0 (5 * n) 5 = m_tp T n mo da mn wd of := by
  funext k
  unfold cpy m_tp
  by_cases h : 5 * n ≤ k ∧ k < 5 * n + 5
  · rw [if_pos h]
    rcases (show k = 5 * n ∨ k = 5 * n + 1 ∨ k = 5 * n + 2 ∨ k = 5 * n + 3 ∨ k = 5 * n + 4 by omega) with h | h | h | h | h
    · subst h
      rw [if_pos rfl, show 0 + (5 * n - 5 * n) = 0 by omega]
      rfl
    · subst h
      rw [if_neg (by omega), if_pos rfl, show 0 + (5 * n + 1 - 5 * n) = 1 by omega]
      rfl
    · subst h
      rw [if_neg (by omega), if_neg (by omega), if_pos rfl, show 0 + (5 * n + 2 - 5 * n) = 2 by omega]
      rfl
    · subst h
      rw [if_neg (by omega), if_neg (by omega), if_neg (by omega), if_pos rfl, show 0 + (5 * n + 3 - 5 * n) = 3 by omega]
      rfl
    · subst h
      rw [if_neg (by omega), if_neg (by omega), if_neg (by omega), if_neg (by omega), if_pos rfl, show 0 + (5 * n + 4 - 5 * n) = 4 by omega]
      rfl
  · rw [if_neg h, if_neg (by omega), if_neg (by omega), if_neg (by omega), if_neg (by omega), if_neg (by omega)]
section QUL
variable {p : Program} {l : Launch} {e : Env} {R : Room} {s : State} {m : MethodId} {args : Array Value} {below : List Frame} {meth : Method} {c : Code} {H : Heap} {locs : List Loc} {cells slots : Nat} {Q : State → Prop} {cc : ByteArray} {pc : Nat} {ls : Array Slot} {rest : List Value} {A0 : Nat → Prop} {H0 : Heap} {mc ms : Nat} {D : va_G} {tys : List (ClassId × FieldType)} {w0 w1 ws : va_W} {sz : Nat}
theorem q_ulret {v a : Int64} (hx : p.tables.exec = Jvm.exec) (hb : c.code = cc) (hr : meth.sig.returnType = some .long) (hlocks : meth.locks = false) (hS : va_S (va_A w0 sz) s.heap H locs) (hv : a = v) (hP : va_P D vwCl w1 H) (hmc : cells ≤ mc) (hms : slots ≤ ms) (hdg : decode cc pc = .ok (.lreturn, 1)) : W p l e R s m args below meth c H locs cells slots (MQ below (va_Ql (fun (r : Int64) (_ : Unit) => r = v) (fun _ t => va_P D vwCl w1 t.heap) (va_A w0 sz)) args s mc ms (va_A w0 sz)) (F0 m pc ls [.long a]) :=
  W.widen hmc hms (W.lret hx hb hr (fun t ht _ => ⟨⟨a, (), rfl, hv, by subst ht; exact hP⟩, hS.F ht⟩) hS.2.2 hdg hlocks)
theorem q_udret {v a : UInt64} (hx : p.tables.exec = Jvm.exec) (hb : c.code = cc) (hr : meth.sig.returnType = some .double) (hlocks : meth.locks = false) (hS : va_S (va_A w0 sz) s.heap H locs) (hv : a = v) (hP : va_P D vwCl w1 H) (hmc : cells ≤ mc) (hms : slots ≤ ms) (hdg : decode cc pc = .ok (.dreturn, 1)) : W p l e R s m args below meth c H locs cells slots (MQ below (va_Qd (fun (r : UInt64) (_ : Unit) => r = v) (fun _ t => va_P D vwCl w1 t.heap) (va_A w0 sz)) args s mc ms (va_A w0 sz)) (F0 m pc ls [.double a]) :=
  W.widen hmc hms (W.dret hx hb hr (fun t ht _ => ⟨⟨a, (), rfl, hv, by subst ht; exact hP⟩, hS.F ht⟩) hS.2.2 hdg hlocks)
theorem q_copyi (hx : p.tables.exec = Jvm.exec) (hb : c.code = cc) (hml : c.maxLocals = ls.size) {own : String} {index : Nat} (hown : s.vm.findClass own = some m.cls) (hlink : (Cond.methodLink own index arraycopyName).before args s = true) (hnat : (Cond.native arraycopyName).before args s = true) (hstat : (Cond.static arraycopyName).before args s = true) (hini : (Cond.initialized "java/lang/System").before args s = true)
    (hK : va_K D vwCl tys s) (hP : va_P D vwCl ws H) (hD : va_D A0 ws) (hS : va_S A0 H0 H locs) (q0 q1 t0 : Nat) {a0 a : Nat} {cA : ClassId} {n0 n1 : Nat} {f g : Nat → Int} (ha0 : ws[q0]? = some (a0, .inl (cA, n0, .inl (fun j => iI (f j))))) (ha1 : ws[q1]? = some (a, .inl (cA, n1, .inl (fun j => iI (g j))))) (ht : tys[t0]? = some (cA, .int)) {sp dp n : Int} (sp' dp' n' : Nat) (h1 : sp = (sp' : Int)) (h2 : dp = (dp' : Int)) (h3 : n = (n' : Int)) (h4 : sp' + n' ≤ n0) (h5 : dp' + n' ≤ n1) (h6 : n0 ≤ 1000 ∧ n1 ≤ 1000)
    (hframes : 1 ≤ R.frames) (hlocals : (rest.map fun v => v.category).sum + (nativeFrameWords "java/lang/System" "arraycopy" 5 + 11) ≤ R.locals) (hdg : decode cc pc = .ok (.invokestatic index, 3))
    (kk : ∀ (H1 : Heap) (locs1 : List Loc), va_P D vwCl (ws.set q1 (a, .inl (cA, n1, .inl (fun j => iI (cpy f g sp' dp' n' j))))) H1 → va_D A0 (ws.set q1 (a, .inl (cA, n1, .inl (fun j => iI (cpy f g sp' dp' n' j))))) → va_S A0 H0 H1 locs1 → W p l e R s m args below meth c H1 locs1 cells slots Q (F0 m (pc + 3) ls rest)) : W p l e R s m args below meth c H locs cells slots Q (F0 m pc ls (.int (iI n) :: .int (iI dp) :: .ref a :: .int (iI sp) :: .ref a0 :: rest)) := by
  have nn : ∀ z : Int, 0 ≤ z ∧ z ≤ 1000 → ¬ iI z < 0 := fun z hz => by
    rw [iI_zero, iI_lt (by omega) (by omega)]
    omega
  have c1 : (iI sp).toNatClampNeg = sp' := by rw [iI_cl (by omega)]; omega
  have c2 : (iI dp).toNatClampNeg = dp' := by rw [iI_cl (by omega)]; omega
  have c3 : (iI n).toNatClampNeg = n' := by rw [iI_cl (by omega)]; omega
  refine va_copyi hx hb hml hown hlink hnat hstat hini hK hP hD hS q0 q1 t0 t0 ha0 ha1 ht ht rfl (nn sp (by omega)) (nn dp (by omega)) (nn n (by omega)) (by rw [c1, c3]; exact h4) (by rw [c2, c3]; exact h5) (fun _ _ => rfl) hframes hlocals hdg ?_
  rw [c1, c2, c3]
  have e : va_cpy (fun j => iI (f j)) (fun j => iI (g j)) sp' dp' n' = fun j => iI (cpy f g sp' dp' n' j) := by
    funext k
    unfold va_cpy cpy
    split <;> rfl
  rw [e]
  exact kk
end QUL

theorem MUl_of {l : Launch} {y : MethodName} {ws ws' : List Cond} {fr lo mc ms : Nat} {D : va_G} {tys : List (ClassId × FieldType)} {sz : Nat} {w0 w1 : va_W} {av : List Value} {v : Int64} {cc : ByteArray} {maxL : Nat} {ret : Option FieldType} (hy : plainName y.cls = true) (hw : ws = Cond.code y cc maxL ret :: ws') (hlen : (lg_sl av).length ≤ maxL)
    (body : ∀ (p : Program) (e : Env) (s : State) (m : MethodId) (args : Array Value) (below : List Frame) (meth : Method) (c : Code) (ls : Array Slot), p.tables.exec = Jvm.exec → c.code = cc → meth.sig.returnType = ret → meth.locks = false → c.maxLocals = maxL → s.vm.findClass y.cls = some m.cls → (∀ w ∈ ws, w.before args s = true) → s.heap.size = sz → va_P D vwCl w0 s.heap → va_K D vwCl tys s → va_D (va_A w0 sz) w0 → va_S (va_A w0 sz) s.heap s.heap [] → (∀ q : Nat, s.heap.size ≤ q → va_A w0 sz q) → lv_has ls maxL (lv_args 0 av) →
      W p l e { frames := fr, cells := mc, slots := ms, locals := lo } s m args below meth c s.heap [] 0 0 (MQ below (va_Ql (fun (r : Int64) (_ : Unit) => r = v) (fun _ t => va_P D vwCl w1 t.heap) (va_A w0 sz)) args s mc ms (va_A w0 sz)) (F0 m 0 ls [])) : MUl l y ws fr lo mc ms D tys sz w0 av v w1 := by
  refine Met.ofW (cc := cc) (maxL := maxL) (ret := ret) hy hw ?_
  intro p e s m args below meth c s₁ B hml hv
  obtain ⟨rfl, hsz, hP, hK, hD⟩ := hv
  rw [lg_entry_eq]
  exact body p e s m _ below meth c _ B.exec B.bytes B.returns B.notSynchronized hml (findClass_of_methodNamed B.named) (atoms_spec (ws := ws) B.pre) hsz hP hK (hD.self) va_S.rf (fun q h => by rw [← hsz]; exact Or.inr h) (lv_entry av hlen)
theorem MUd_of {l : Launch} {y : MethodName} {ws ws' : List Cond} {fr lo mc ms : Nat} {D : va_G} {tys : List (ClassId × FieldType)} {sz : Nat} {w0 w1 : va_W} {av : List Value} {v : UInt64} {cc : ByteArray} {maxL : Nat} {ret : Option FieldType} (hy : plainName y.cls = true) (hw : ws = Cond.code y cc maxL ret :: ws') (hlen : (lg_sl av).length ≤ maxL)
    (body : ∀ (p : Program) (e : Env) (s : State) (m : MethodId) (args : Array Value) (below : List Frame) (meth : Method) (c : Code) (ls : Array Slot), p.tables.exec = Jvm.exec → c.code = cc → meth.sig.returnType = ret → meth.locks = false → c.maxLocals = maxL → s.vm.findClass y.cls = some m.cls → (∀ w ∈ ws, w.before args s = true) → s.heap.size = sz → va_P D vwCl w0 s.heap → va_K D vwCl tys s → va_D (va_A w0 sz) w0 → va_S (va_A w0 sz) s.heap s.heap [] → (∀ q : Nat, s.heap.size ≤ q → va_A w0 sz q) → lv_has ls maxL (lv_args 0 av) →
      W p l e { frames := fr, cells := mc, slots := ms, locals := lo } s m args below meth c s.heap [] 0 0 (MQ below (va_Qd (fun (r : UInt64) (_ : Unit) => r = v) (fun _ t => va_P D vwCl w1 t.heap) (va_A w0 sz)) args s mc ms (va_A w0 sz)) (F0 m 0 ls [])) : MUd l y ws fr lo mc ms D tys sz w0 av v w1 := by
  refine Met.ofW (cc := cc) (maxL := maxL) (ret := ret) hy hw ?_
  intro p e s m args below meth c s₁ B hml hv
  obtain ⟨rfl, hsz, hP, hK, hD⟩ := hv
  rw [lg_entry_eq]
  exact body p e s m _ below meth c _ B.exec B.bytes B.returns B.notSynchronized hml (findClass_of_methodNamed B.named) (atoms_spec (ws := ws) B.pre) hsz hP hK (hD.self) va_S.rf (fun q h => by rw [← hsz]; exact Or.inr h) (lv_entry av hlen)
set_option maxHeartbeats 1000000 in
set_option maxRecDepth 100000 in
theorem u_mean (l : Launch) (D : va_G) (sz : Nat) (cI cO cL : ClassId) (a ta pa : Nat) (th : Int) (σ T P : Nat → Int) (hW : WF σ T) (hS0 : WS σ P) : MUd l yX6_mean wsX6_mean 0 0 0 0 D (ty3 cI cO cL) sz (WMo cI a ta pa th σ T P) [.ref a] (m_mean σ) (WMo cI a ta pa 0 (σ) (T) (P)) := by
  refine MUd_of (cc := cX6_mean) (maxL := 1) (ret := (some .double)) (by decide) rfl (Nat.le_of_ble_eq_true rfl) ?_
  intro p e s m args below meth c ls hx hb hr hlocks hml hown hts hsz hP hK hD hS hA hl
  have hl : lv_has ls 1 [(0, .ref a)] := hl
  have hin_X6 : ∀ w ∈ u_ws RX6 TX6 13, w ∈ wsX6_mean := (fun w h => List.mem_cons_of_mem _ (List.mem_append_right _ h))
  have hP : va_P D vwCl ([(a, .inr (8, [.int (iI (th)), .int (iI (σ 0)), .int (iI (σ 1)), .int (iI (σ 2)), .int (iI (σ 3)), .int (iI (σ 4)), .int (iI (σ 5)), .int (iI (σ 6)), .ref ta, .int (iI (σ 7)), .ref pa, .int (iI (σ 9)), .int (iI (σ 10))])), (ta, .inl (cI, 40, .inl (fun q9 => iI (T q9)))), (pa, .inl (cI, 110, .inl (fun q9 => iI (P q9))))]) s.heap := hP
  have hD : va_D (va_A (WMo cI a ta pa th σ T P) sz) ([(a, .inr (8, [.int (iI (th)), .int (iI (σ 0)), .int (iI (σ 1)), .int (iI (σ 2)), .int (iI (σ 3)), .int (iI (σ 4)), .int (iI (σ 5)), .int (iI (σ 6)), .ref ta, .int (iI (σ 7)), .ref pa, .int (iI (σ 9)), .int (iI (σ 10))])), (ta, .inl (cI, 40, .inl (fun q9 => iI (T q9)))), (pa, .inl (cI, 110, .inl (fun q9 => iI (P q9))))]) := hD
  obtain ⟨w0, w1, w2, w3, w4, w5, w6, w7, w8⟩ := id hW
  refine lv_aload_n hx hb dX6_mean_0 rfl (lv_at hl 0 rfl) ?_
  refine q_iconst hx hb dX6_mean_1 ?_
  refine va_put (D := D) (ci := 8) (v := .int (iI (0))) (ty := .int) (C := RX6) (T := TX6) (N := 13) hx hb hts hin_X6 tyX6 tyX6_ok nmX6 hown hK hP hD hS 0 rfl rfl 0 (by decide) (hts (.fieldLink RX6 30 "AlmanacHouseModel" "thrown" "I") (List.mem_of_getElem? (i := 1) rfl)) (fun _ h9 => h9) rfl (by decide +kernel) rfl rfl (Nat.le_of_ble_eq_true rfl) dX6_mean_2 (fun H locs hP hD hS => ?_)
  have hP : va_P D vwCl ([(a, .inr (8, [.int (iI (0)), .int (iI (σ 0)), .int (iI (σ 1)), .int (iI (σ 2)), .int (iI (σ 3)), .int (iI (σ 4)), .int (iI (σ 5)), .int (iI (σ 6)), .ref ta, .int (iI (σ 7)), .ref pa, .int (iI (σ 9)), .int (iI (σ 10))])), (ta, .inl (cI, 40, .inl (fun q9 => iI (T q9)))), (pa, .inl (cI, 110, .inl (fun q9 => iI (P q9))))]) H := hP
  have hD : va_D (va_A (WMo cI a ta pa th σ T P) sz) ([(a, .inr (8, [.int (iI (0)), .int (iI (σ 0)), .int (iI (σ 1)), .int (iI (σ 2)), .int (iI (σ 3)), .int (iI (σ 4)), .int (iI (σ 5)), .int (iI (σ 6)), .ref ta, .int (iI (σ 7)), .ref pa, .int (iI (σ 9)), .int (iI (σ 10))])), (ta, .inl (cI, 40, .inl (fun q9 => iI (T q9)))), (pa, .inl (cI, 110, .inl (fun q9 => iI (P q9))))]) := hD
  refine lv_ldc2d hx hb hown (hts (.constantDouble RX6 186 (4645128764097822720)) (List.mem_of_getElem? (i := 2) rfl)) dX6_mean_5 ?_
  refine lv_aload_n hx hb dX6_mean_8 rfl (lv_at hl 0 rfl) ?_
  refine q_get (ci := 8) (C := RX6) (T := TX6) (N := 13) hx hb hts hin_X6 hown hK (v := .int (iI (σ 1))) (hP 0 _ rfl) rfl 2 (by decide) (hts (.fieldLink RX6 13 "AlmanacHouseModel" "leaps" "I") (List.mem_of_getElem? (i := 3) rfl)) (fun _ h9 => h9) rfl dX6_mean_9 ?_
  refine lv_i2d hx hb dX6_mean_12 ?_
  refine lv_aload_n hx hb dX6_mean_13 rfl (lv_at hl 0 rfl) ?_
  refine q_get (ci := 8) (C := RX6) (T := TX6) (N := 13) hx hb hts hin_X6 hown hK (v := .int (iI (σ 0))) (hP 0 _ rfl) rfl 1 (by decide) (hts (.fieldLink RX6 7 "AlmanacHouseModel" "cycle" "I") (List.mem_of_getElem? (i := 4) rfl)) (fun _ h9 => h9) rfl dX6_mean_14 ?_
  refine lv_i2d hx hb dX6_mean_17 ?_
  refine lv_ddiv hx hb dX6_mean_18 (f_div (by omega) w0) ?_
  refine lv_dadd hx hb dX6_mean_19 (f_mean (by omega) w0) ?_
  exact q_udret hx hb hr hlocks hS (rfl) (hP) (Nat.le_of_ble_eq_true rfl) (Nat.le_of_ble_eq_true rfl) dX6_mean_20
set_option maxHeartbeats 1000000 in
set_option maxRecDepth 100000 in
theorem u_digest (l : Launch) (D : va_G) (sz : Nat) (cI cO cL : ClassId) (a ta pa : Nat) (th : Int) (σ T P : Nat → Int) (hW : WF σ T) (hS0 : WS σ P) : MUl l yX6_digest wsX6_digest 8 182 0 0 D (ty3 cI cO cL) sz (WMo cI a ta pa th σ T P) [.ref a] (m_digest σ T P) (WMo cI a ta pa 0 (σ) (T) (P)) := by
  refine MUl_of (cc := cX6_digest) (maxL := 5) (ret := (some .long)) (by decide) rfl (Nat.le_of_ble_eq_true rfl) ?_
  intro p e s m args below meth c ls hx hb hr hlocks hml hown hts hsz hP hK hD hS hA hl
  have hl : lv_has ls 5 [(0, .ref a)] := hl
  have hin_X6 : ∀ w ∈ u_ws RX6 TX6 13, w ∈ wsX6_digest := (fun w h => List.mem_cons_of_mem _ (List.mem_append_right _ h))
  have hP : va_P D vwCl ([(a, .inr (8, [.int (iI (th)), .int (iI (σ 0)), .int (iI (σ 1)), .int (iI (σ 2)), .int (iI (σ 3)), .int (iI (σ 4)), .int (iI (σ 5)), .int (iI (σ 6)), .ref ta, .int (iI (σ 7)), .ref pa, .int (iI (σ 9)), .int (iI (σ 10))])), (ta, .inl (cI, 40, .inl (fun q9 => iI (T q9)))), (pa, .inl (cI, 110, .inl (fun q9 => iI (P q9))))]) s.heap := hP
  have hD : va_D (va_A (WMo cI a ta pa th σ T P) sz) ([(a, .inr (8, [.int (iI (th)), .int (iI (σ 0)), .int (iI (σ 1)), .int (iI (σ 2)), .int (iI (σ 3)), .int (iI (σ 4)), .int (iI (σ 5)), .int (iI (σ 6)), .ref ta, .int (iI (σ 7)), .ref pa, .int (iI (σ 9)), .int (iI (σ 10))])), (ta, .inl (cI, 40, .inl (fun q9 => iI (T q9)))), (pa, .inl (cI, 110, .inl (fun q9 => iI (P q9))))]) := hD
  obtain ⟨w0, w1, w2, w3, w4, w5, w6, w7, w8⟩ := id hW
  refine lv_aload_n hx hb dX6_digest_0 rfl (lv_at hl 0 rfl) ?_
  refine q_iconst hx hb dX6_digest_1 ?_
  refine va_put (D := D) (ci := 8) (v := .int (iI (0))) (ty := .int) (C := RX6) (T := TX6) (N := 13) hx hb hts hin_X6 tyX6 tyX6_ok nmX6 hown hK hP hD hS 0 rfl rfl 0 (by decide) (hts (.fieldLink RX6 30 "AlmanacHouseModel" "thrown" "I") (List.mem_of_getElem? (i := 1) rfl)) (fun _ h9 => h9) rfl (by decide +kernel) rfl rfl (Nat.le_of_ble_eq_true rfl) dX6_digest_2 (fun H locs hP hD hS => ?_)
  have hP : va_P D vwCl ([(a, .inr (8, [.int (iI (0)), .int (iI (σ 0)), .int (iI (σ 1)), .int (iI (σ 2)), .int (iI (σ 3)), .int (iI (σ 4)), .int (iI (σ 5)), .int (iI (σ 6)), .ref ta, .int (iI (σ 7)), .ref pa, .int (iI (σ 9)), .int (iI (σ 10))])), (ta, .inl (cI, 40, .inl (fun q9 => iI (T q9)))), (pa, .inl (cI, 110, .inl (fun q9 => iI (P q9))))]) H := hP
  have hD : va_D (va_A (WMo cI a ta pa th σ T P) sz) ([(a, .inr (8, [.int (iI (0)), .int (iI (σ 0)), .int (iI (σ 1)), .int (iI (σ 2)), .int (iI (σ 3)), .int (iI (σ 4)), .int (iI (σ 5)), .int (iI (σ 6)), .ref ta, .int (iI (σ 7)), .ref pa, .int (iI (σ 9)), .int (iI (σ 10))])), (ta, .inl (cI, 40, .inl (fun q9 => iI (T q9)))), (pa, .inl (cI, 110, .inl (fun q9 => iI (P q9))))]) := hD
  refine lv_ldc2 hx hb hown (hts (.constantLong RX6 188 (827)) (List.mem_of_getElem? (i := 2) rfl)) dX6_digest_5 ?_
  refine lv_lstore_n (lv' := [(1, .long (827)), (0, .ref a)]) hx hb dX6_digest_8 rfl hl (by decide) rfl (fun ls hl => ?_)
  refine q_iconst hx hb dX6_digest_9 ?_
  refine lv_istore_n (lv' := [(3, .int (iI (0))), (1, .long (827)), (0, .ref a)]) hx hb dX6_digest_10 rfl hl (by decide) rfl (fun ls hl => ?_)
  have key_11 : ∀ (fu : Nat) (k : Int) (dg : Int64), 0 ≤ k ∧ k ≤ 11 → dg = d_t (fun w => m_count σ T P (w : Int)) 827 k.toNat → (((11 - k).toNat : Int)) < (fu : Int) → ∀ (H : Heap) (locs : List Loc), va_P D vwCl ([(a, .inr (8, [.int (iI (0)), .int (iI (σ 0)), .int (iI (σ 1)), .int (iI (σ 2)), .int (iI (σ 3)), .int (iI (σ 4)), .int (iI (σ 5)), .int (iI (σ 6)), .ref ta, .int (iI (σ 7)), .ref pa, .int (iI (σ 9)), .int (iI (σ 10))])), (ta, .inl (cI, 40, .inl (fun q9 => iI (T q9)))), (pa, .inl (cI, 110, .inl (fun q9 => iI (P q9))))]) H → va_D (va_A (WMo cI a ta pa th σ T P) sz) ([(a, .inr (8, [.int (iI (0)), .int (iI (σ 0)), .int (iI (σ 1)), .int (iI (σ 2)), .int (iI (σ 3)), .int (iI (σ 4)), .int (iI (σ 5)), .int (iI (σ 6)), .ref ta, .int (iI (σ 7)), .ref pa, .int (iI (σ 9)), .int (iI (σ 10))])), (ta, .inl (cI, 40, .inl (fun q9 => iI (T q9)))), (pa, .inl (cI, 110, .inl (fun q9 => iI (P q9))))]) → va_S (va_A (WMo cI a ta pa th σ T P) sz) s.heap H locs → ∀ ls : Array Slot, lv_has ls 5 [(0, .ref a), (1, .long (dg)), (3, .int (iI (k)))] → W p l e { frames := 8, cells := 0, slots := 0, locals := 182 } s m args below meth c H locs 0 0 (MQ below (va_Ql (fun (r : Int64) (_ : Unit) => r = m_digest σ T P) (fun _ t => va_P D vwCl (WMo cI a ta pa 0 (σ) (T) (P)) t.heap) (va_A (WMo cI a ta pa th σ T P) sz)) args s 0 0 (va_A (WMo cI a ta pa th σ T P) sz)) (F0 m 11 ls []) := by
    intro fu
    induction fu with
    | zero => intro k dg hk hdg2 hm_11 H locs hP hD hS ls hl; exact absurd hm_11 (by omega)
    | succ fu ih_11 =>
      intro k dg hk hdg2 hm_11 H locs hP hD hS ls hl
      refine lv_iload_n hx hb dX6_digest_11 rfl (lv_at hl 2 rfl) ?_
      refine q_bipush hx hb dX6_digest_12 (by decide) ?_
      refine q_icmp_ge (tgt := 36) hx hb dX6_digest_14 (by decide) (by omega) (by omega) (fun c_1 => ?_) (fun c_1 => ?_)
      · skip
        refine q_iconst hx hb dX6_digest_36 ?_
        refine lv_istore_n (lv' := [(3, .int (iI (0))), (0, .ref a), (1, .long (dg))]) hx hb dX6_digest_37 rfl hl (by decide) rfl (fun ls hl => ?_)
        have key_38 : ∀ (fu : Nat) (k : Int) (dg : Int64), 0 ≤ k ∧ k ≤ 5 * σ 6 → dg = d_t T (d_t (fun w => m_count σ T P (w : Int)) 827 11) k.toNat → (((5 * σ 6 - k).toNat : Int)) < (fu : Int) → ∀ (H : Heap) (locs : List Loc), va_P D vwCl ([(a, .inr (8, [.int (iI (0)), .int (iI (σ 0)), .int (iI (σ 1)), .int (iI (σ 2)), .int (iI (σ 3)), .int (iI (σ 4)), .int (iI (σ 5)), .int (iI (σ 6)), .ref ta, .int (iI (σ 7)), .ref pa, .int (iI (σ 9)), .int (iI (σ 10))])), (ta, .inl (cI, 40, .inl (fun q9 => iI (T q9)))), (pa, .inl (cI, 110, .inl (fun q9 => iI (P q9))))]) H → va_D (va_A (WMo cI a ta pa th σ T P) sz) ([(a, .inr (8, [.int (iI (0)), .int (iI (σ 0)), .int (iI (σ 1)), .int (iI (σ 2)), .int (iI (σ 3)), .int (iI (σ 4)), .int (iI (σ 5)), .int (iI (σ 6)), .ref ta, .int (iI (σ 7)), .ref pa, .int (iI (σ 9)), .int (iI (σ 10))])), (ta, .inl (cI, 40, .inl (fun q9 => iI (T q9)))), (pa, .inl (cI, 110, .inl (fun q9 => iI (P q9))))]) → va_S (va_A (WMo cI a ta pa th σ T P) sz) s.heap H locs → ∀ ls : Array Slot, lv_has ls 5 [(0, .ref a), (1, .long (dg)), (3, .int (iI (k)))] → W p l e { frames := 8, cells := 0, slots := 0, locals := 182 } s m args below meth c H locs 0 0 (MQ below (va_Ql (fun (r : Int64) (_ : Unit) => r = m_digest σ T P) (fun _ t => va_P D vwCl (WMo cI a ta pa 0 (σ) (T) (P)) t.heap) (va_A (WMo cI a ta pa th σ T P) sz)) args s 0 0 (va_A (WMo cI a ta pa th σ T P) sz)) (F0 m 38 ls []) := by
          intro fu
          induction fu with
          | zero => intro k dg hk hdg2 hm_38 H locs hP hD hS ls hl; exact absurd hm_38 (by omega)
          | succ fu ih_38 =>
            intro k dg hk hdg2 hm_38 H locs hP hD hS ls hl
            refine lv_iload_n hx hb dX6_digest_38 rfl (lv_at hl 2 rfl) ?_
            refine q_iconst hx hb dX6_digest_39 ?_
            refine lv_aload_n hx hb dX6_digest_40 rfl (lv_at hl 0 rfl) ?_
            refine q_get (ci := 8) (C := RX6) (T := TX6) (N := 13) hx hb hts hin_X6 hown hK (v := .int (iI (σ 6))) (hP 0 _ rfl) rfl 7 (by decide) (hts (.fieldLink RX6 140 "AlmanacHouseModel" "feasts" "I") (List.mem_of_getElem? (i := 4) rfl)) (fun _ h9 => h9) rfl dX6_digest_41 ?_
            refine q_imul hx hb dX6_digest_44 ?_
            refine q_icmp_ge (tgt := 68) hx hb dX6_digest_45 (by decide) (by omega) (by omega) (fun c_2 => ?_) (fun c_2 => ?_)
            · skip
              refine q_iconst hx hb dX6_digest_68 ?_
              refine lv_istore_n (lv' := [(3, .int (iI (0))), (0, .ref a), (1, .long (dg))]) hx hb dX6_digest_69 rfl hl (by decide) rfl (fun ls hl => ?_)
              have key_70 : ∀ (fu : Nat) (k : Int) (dg : Int64), 0 ≤ k ∧ k ≤ σ 7 → dg = d_s σ T P (d_t T (d_t (fun w => m_count σ T P (w : Int)) 827 11) (5 * (σ 6).toNat)) k.toNat → (((σ 7 - k).toNat : Int)) < (fu : Int) → ∀ (H : Heap) (locs : List Loc), va_P D vwCl ([(a, .inr (8, [.int (iI (0)), .int (iI (σ 0)), .int (iI (σ 1)), .int (iI (σ 2)), .int (iI (σ 3)), .int (iI (σ 4)), .int (iI (σ 5)), .int (iI (σ 6)), .ref ta, .int (iI (σ 7)), .ref pa, .int (iI (σ 9)), .int (iI (σ 10))])), (ta, .inl (cI, 40, .inl (fun q9 => iI (T q9)))), (pa, .inl (cI, 110, .inl (fun q9 => iI (P q9))))]) H → va_D (va_A (WMo cI a ta pa th σ T P) sz) ([(a, .inr (8, [.int (iI (0)), .int (iI (σ 0)), .int (iI (σ 1)), .int (iI (σ 2)), .int (iI (σ 3)), .int (iI (σ 4)), .int (iI (σ 5)), .int (iI (σ 6)), .ref ta, .int (iI (σ 7)), .ref pa, .int (iI (σ 9)), .int (iI (σ 10))])), (ta, .inl (cI, 40, .inl (fun q9 => iI (T q9)))), (pa, .inl (cI, 110, .inl (fun q9 => iI (P q9))))]) → va_S (va_A (WMo cI a ta pa th σ T P) sz) s.heap H locs → ∀ ls : Array Slot, lv_has ls 5 [(0, .ref a), (1, .long (dg)), (3, .int (iI (k)))] → W p l e { frames := 8, cells := 0, slots := 0, locals := 182 } s m args below meth c H locs 0 0 (MQ below (va_Ql (fun (r : Int64) (_ : Unit) => r = m_digest σ T P) (fun _ t => va_P D vwCl (WMo cI a ta pa 0 (σ) (T) (P)) t.heap) (va_A (WMo cI a ta pa th σ T P) sz)) args s 0 0 (va_A (WMo cI a ta pa th σ T P) sz)) (F0 m 70 ls []) := by
                intro fu
                induction fu with
                | zero => intro k dg hk hdg3 hm_70 H locs hP hD hS ls hl; exact absurd hm_70 (by omega)
                | succ fu ih_70 =>
                  intro k dg hk hdg3 hm_70 H locs hP hD hS ls hl
                  refine lv_iload_n hx hb dX6_digest_70 rfl (lv_at hl 2 rfl) ?_
                  refine lv_aload_n hx hb dX6_digest_71 rfl (lv_at hl 0 rfl) ?_
                  refine q_get (ci := 8) (C := RX6) (T := TX6) (N := 13) hx hb hts hin_X6 hown hK (v := .int (iI (σ 7))) (hP 0 _ rfl) rfl 9 (by decide) (hts (.fieldLink RX6 161 "AlmanacHouseModel" "sheets" "I") (List.mem_of_getElem? (i := 6) rfl)) (fun _ h9 => h9) rfl dX6_digest_72 ?_
                  refine q_icmp_ge (tgt := 151) hx hb dX6_digest_75 (by decide) (by omega) (by omega) (fun c_3 => ?_) (fun c_3 => ?_)
                  · skip
                    refine lv_lload_n hx hb dX6_digest_151 rfl (lv_at hl 1 rfl) ?_
                    exact q_ulret hx hb hr hlocks hS (by unfold m_digest; rw [hdg3, show k.toNat = (σ 7).toNat by omega]) (hP) (Nat.le_of_ble_eq_true rfl) (Nat.le_of_ble_eq_true rfl) dX6_digest_152
                  · skip
                    refine q_iconst hx hb dX6_digest_78 ?_
                    refine lv_istore (lv' := [(4, .int (iI (0))), (0, .ref a), (1, .long (dg)), (3, .int (iI (k)))]) hx hb dX6_digest_79 hl (by decide) rfl (fun ls hl => ?_)
                    have key_81 : ∀ (fu : Nat) (k2 : Int) (dg2 : Int64), 0 ≤ k2 ∧ k2 ≤ 5 → dg2 = d_t (fun w => m_told σ T P k.toNat (w : Int)) (d_s σ T P (d_t T (d_t (fun w => m_count σ T P (w : Int)) 827 11) (5 * (σ 6).toNat)) k.toNat) k2.toNat → (((5 - k2).toNat : Int)) < (fu : Int) → ∀ (H : Heap) (locs : List Loc), va_P D vwCl ([(a, .inr (8, [.int (iI (0)), .int (iI (σ 0)), .int (iI (σ 1)), .int (iI (σ 2)), .int (iI (σ 3)), .int (iI (σ 4)), .int (iI (σ 5)), .int (iI (σ 6)), .ref ta, .int (iI (σ 7)), .ref pa, .int (iI (σ 9)), .int (iI (σ 10))])), (ta, .inl (cI, 40, .inl (fun q9 => iI (T q9)))), (pa, .inl (cI, 110, .inl (fun q9 => iI (P q9))))]) H → va_D (va_A (WMo cI a ta pa th σ T P) sz) ([(a, .inr (8, [.int (iI (0)), .int (iI (σ 0)), .int (iI (σ 1)), .int (iI (σ 2)), .int (iI (σ 3)), .int (iI (σ 4)), .int (iI (σ 5)), .int (iI (σ 6)), .ref ta, .int (iI (σ 7)), .ref pa, .int (iI (σ 9)), .int (iI (σ 10))])), (ta, .inl (cI, 40, .inl (fun q9 => iI (T q9)))), (pa, .inl (cI, 110, .inl (fun q9 => iI (P q9))))]) → va_S (va_A (WMo cI a ta pa th σ T P) sz) s.heap H locs → ∀ ls : Array Slot, lv_has ls 5 [(0, .ref a), (1, .long (dg2)), (3, .int (iI (k))), (4, .int (iI (k2)))] → W p l e { frames := 8, cells := 0, slots := 0, locals := 182 } s m args below meth c H locs 0 0 (MQ below (va_Ql (fun (r : Int64) (_ : Unit) => r = m_digest σ T P) (fun _ t => va_P D vwCl (WMo cI a ta pa 0 (σ) (T) (P)) t.heap) (va_A (WMo cI a ta pa th σ T P) sz)) args s 0 0 (va_A (WMo cI a ta pa th σ T P) sz)) (F0 m 81 ls []) := by
                      intro fu
                      induction fu with
                      | zero => intro k2 dg2 hk2 hdg4 hm_81 H locs hP hD hS ls hl; exact absurd hm_81 (by omega)
                      | succ fu ih_81 =>
                        intro k2 dg2 hk2 hdg4 hm_81 H locs hP hD hS ls hl
                        refine lv_iload hx hb dX6_digest_81 (lv_at hl 3 rfl) ?_
                        refine q_iconst hx hb dX6_digest_83 ?_
                        refine q_icmp_ge (tgt := 108) hx hb dX6_digest_84 (by decide) (by omega) (by omega) (fun c_4 => ?_) (fun c_4 => ?_)
                        · skip
                          refine q_iconst hx hb dX6_digest_108 ?_
                          refine lv_istore (lv' := [(4, .int (iI (0))), (0, .ref a), (1, .long (dg2)), (3, .int (iI (k)))]) hx hb dX6_digest_109 hl (by decide) rfl (fun ls hl => ?_)
                          have key_111 : ∀ (fu : Nat) (k3 : Int) (dg3 : Int64), 0 ≤ k3 ∧ k3 ≤ P (11 * k.toNat + 1) → dg3 = d_t (fun i => P (11 * k.toNat + 3 + i)) (d_t (fun w => m_told σ T P k.toNat (w : Int)) (d_s σ T P (d_t T (d_t (fun w => m_count σ T P (w : Int)) 827 11) (5 * (σ 6).toNat)) k.toNat) 5) k3.toNat → (((P (11 * k.toNat + 1) - k3).toNat : Int)) < (fu : Int) → ∀ (H : Heap) (locs : List Loc), va_P D vwCl ([(a, .inr (8, [.int (iI (0)), .int (iI (σ 0)), .int (iI (σ 1)), .int (iI (σ 2)), .int (iI (σ 3)), .int (iI (σ 4)), .int (iI (σ 5)), .int (iI (σ 6)), .ref ta, .int (iI (σ 7)), .ref pa, .int (iI (σ 9)), .int (iI (σ 10))])), (ta, .inl (cI, 40, .inl (fun q9 => iI (T q9)))), (pa, .inl (cI, 110, .inl (fun q9 => iI (P q9))))]) H → va_D (va_A (WMo cI a ta pa th σ T P) sz) ([(a, .inr (8, [.int (iI (0)), .int (iI (σ 0)), .int (iI (σ 1)), .int (iI (σ 2)), .int (iI (σ 3)), .int (iI (σ 4)), .int (iI (σ 5)), .int (iI (σ 6)), .ref ta, .int (iI (σ 7)), .ref pa, .int (iI (σ 9)), .int (iI (σ 10))])), (ta, .inl (cI, 40, .inl (fun q9 => iI (T q9)))), (pa, .inl (cI, 110, .inl (fun q9 => iI (P q9))))]) → va_S (va_A (WMo cI a ta pa th σ T P) sz) s.heap H locs → ∀ ls : Array Slot, lv_has ls 5 [(0, .ref a), (1, .long (dg3)), (3, .int (iI (k))), (4, .int (iI (k3)))] → W p l e { frames := 8, cells := 0, slots := 0, locals := 182 } s m args below meth c H locs 0 0 (MQ below (va_Ql (fun (r : Int64) (_ : Unit) => r = m_digest σ T P) (fun _ t => va_P D vwCl (WMo cI a ta pa 0 (σ) (T) (P)) t.heap) (va_A (WMo cI a ta pa th σ T P) sz)) args s 0 0 (va_A (WMo cI a ta pa th σ T P) sz)) (F0 m 111 ls []) := by
                            intro fu
                            induction fu with
                            | zero => intro k3 dg3 hk3 hdg5 hm_111 H locs hP hD hS ls hl; exact absurd hm_111 (by omega)
                            | succ fu ih_111 =>
                              intro k3 dg3 hk3 hdg5 hm_111 H locs hP hD hS ls hl
                              obtain ⟨s1, s2, s3, s4⟩ := hS0 k.toNat (by omega)
                              refine lv_iload hx hb dX6_digest_111 (lv_at hl 3 rfl) ?_
                              refine lv_aload_n hx hb dX6_digest_113 rfl (lv_at hl 0 rfl) ?_
                              refine lv_iload_n hx hb dX6_digest_114 rfl (lv_at hl 2 rfl) ?_
                              refine q_iconst hx hb dX6_digest_115 ?_
                              refine q_callV (fr := 0) (lo := 0) (nL := 5) (Pic := PicM D cI a ta pa (0) σ T (P)) (As := [.int (iI (k)), .int (iI (1))]) (rest := [.int (iI (k3))]) ⟨hx, hb, hml, hown, hts⟩ (c_pa l D cI cO cL a ta pa (0) σ T (P) hW hS0 (k) (1) (11 * Int.toNat (k) + 1) (by omega) (by omega)) (cwV 2 hts gX6_digest_X6_pa rfl rfl rfl (by decide +kernel) ⟨Nat.le_of_ble_eq_true rfl, Nat.le_of_ble_eq_true rfl⟩) (ob_recv (hP 0 _ rfl) hK rfl) hP hK rfl hl.1 rfl (Nat.le_of_ble_eq_true rfl) dX6_digest_116 (Nat.zero_le _) (Nat.zero_le _) ?_
                              refine q_icmp_ge (tgt := 145) hx hb dX6_digest_119 (by decide) (by omega) (by omega) (fun c_5 => ?_) (fun c_5 => ?_)
                              · skip
                                refine q_iinc (k := 2) (lv' := [(3, .int (iI (k + 1))), (0, .ref a), (1, .long (dg3)), (4, .int (iI (k3)))]) hx hb dX6_digest_145 hl rfl (by decide) rfl (fun ls hl => ?_)
                                refine lv_goto (tgt := 70) hx hb dX6_digest_148 (by decide) ?_
                                have hst := d_s_step σ T P (d_t T (d_t (fun w => m_count σ T P (w : Int)) 827 11) (5 * (σ 6).toNat)) hk.1
                                exact ih_70 _ _ (by omega) (by rw [hst, hdg5, show k3.toNat = (P (11 * k.toNat + 1)).toNat by omega]) (by omega) _ _ (hP) (hD) hS _ (lv_sub hl [1, 2, 0] rfl)
                              · skip
                                refine lv_lload_n hx hb dX6_digest_122 rfl (lv_at hl 1 rfl) ?_
                                refine lv_ldc2 hx hb hown (hts (.constantLong RX6 190 (31)) (List.mem_of_getElem? (i := 3) rfl)) dX6_digest_123 ?_
                                refine lv_lmul hx hb dX6_digest_126 ?_
                                refine lv_aload_n hx hb dX6_digest_127 rfl (lv_at hl 0 rfl) ?_
                                refine lv_iload_n hx hb dX6_digest_128 rfl (lv_at hl 2 rfl) ?_
                                refine q_iconst hx hb dX6_digest_129 ?_
                                refine lv_iload hx hb dX6_digest_130 (lv_at hl 3 rfl) ?_
                                refine q_iadd hx hb dX6_digest_132 ?_
                                refine q_callV (fr := 0) (lo := 0) (nL := 5) (Pic := PicM D cI a ta pa (0) σ T (P)) (As := [.int (iI (k)), .int (iI (3 + k3))]) (rest := [.long ((dg3) * (31))]) ⟨hx, hb, hml, hown, hts⟩ (c_pa l D cI cO cL a ta pa (0) σ T (P) hW hS0 (k) (3 + k3) (11 * Int.toNat (k) + 3 + Int.toNat (k3)) (by omega) (by omega)) (cwV 2 hts gX6_digest_X6_pa rfl rfl rfl (by decide +kernel) ⟨Nat.le_of_ble_eq_true rfl, Nat.le_of_ble_eq_true rfl⟩) (ob_recv (hP 0 _ rfl) hK rfl) hP hK rfl hl.1 rfl (Nat.le_of_ble_eq_true rfl) dX6_digest_133 (Nat.zero_le _) (Nat.zero_le _) ?_
                                refine lv_i2l hx hb dX6_digest_136 rfl ?_
                                refine lv_ladd hx hb dX6_digest_137 ?_
                                refine lv_lstore_n (lv' := [(1, .long (((dg3) * (31)) + ((iI (P (11 * Int.toNat (k) + 3 + Int.toNat (k3)))).toInt64))), (0, .ref a), (3, .int (iI (k))), (4, .int (iI (k3)))]) hx hb dX6_digest_138 rfl hl (by decide) rfl (fun ls hl => ?_)
                                refine q_iinc (k := 3) (lv' := [(4, .int (iI (k3 + 1))), (1, .long (((dg3) * (31)) + ((iI (P (11 * Int.toNat (k) + 3 + Int.toNat (k3)))).toInt64))), (0, .ref a), (3, .int (iI (k)))]) hx hb dX6_digest_139 hl rfl (by decide) rfl (fun ls hl => ?_)
                                refine lv_goto (tgt := 111) hx hb dX6_digest_142 (by decide) ?_
                                have hst3 := d_t_step (fun i => P (11 * k.toNat + 3 + i)) (d_t (fun w => m_told σ T P k.toNat (w : Int)) (d_s σ T P (d_t T (d_t (fun w => m_count σ T P (w : Int)) 827 11) (5 * (σ 6).toNat)) k.toNat) 5) hk3.1
                                exact ih_111 _ _ (by omega) (by rw [hst3, hdg5]) (by omega) _ _ (hP) (hD) hS _ (lv_sub hl [2, 1, 3, 0] rfl)
                          obtain ⟨s1, s2, s3, s4⟩ := hS0 k.toNat (by omega)
                          exact key_111 ((P (11 * k.toNat + 1)).toNat + 1) _ _ (by omega) (by rw [hdg4, show k2.toNat = 5 by omega]; rfl) (by omega) _ _ (hP) (hD) hS _ (lv_sub hl [1, 2, 3, 0] rfl)
                        · skip
                          refine lv_lload_n hx hb dX6_digest_87 rfl (lv_at hl 1 rfl) ?_
                          refine lv_ldc2 hx hb hown (hts (.constantLong RX6 190 (31)) (List.mem_of_getElem? (i := 3) rfl)) dX6_digest_88 ?_
                          refine lv_lmul hx hb dX6_digest_91 ?_
                          refine lv_aload_n hx hb dX6_digest_92 rfl (lv_at hl 0 rfl) ?_
                          refine lv_iload_n hx hb dX6_digest_93 rfl (lv_at hl 2 rfl) ?_
                          refine lv_iload hx hb dX6_digest_94 (lv_at hl 3 rfl) ?_
                          refine q_callV (fr := 6) (lo := 135) (nL := 5) (Pic := PicM D cI a ta pa (0) σ T (P)) (As := [.int (iI (k)), .int (iI (k2))]) (rest := [.long ((dg2) * (31))]) ⟨hx, hb, hml, hown, hts⟩ (c_sheetTold l D cI cO cL a ta pa (0) σ T (P) hW hS0 (k) (k2) (by omega) (by omega)) (cwV 2 hts gX6_digest_X6_sheetTold rfl rfl rfl (by decide +kernel) ⟨Nat.le_of_ble_eq_true rfl, Nat.le_of_ble_eq_true rfl⟩) (ob_recv (hP 0 _ rfl) hK rfl) hP hK rfl hl.1 rfl (Nat.le_of_ble_eq_true rfl) dX6_digest_96 (Nat.zero_le _) (Nat.zero_le _) ?_
                          refine lv_i2l hx hb dX6_digest_99 rfl ?_
                          refine lv_ladd hx hb dX6_digest_100 ?_
                          refine lv_lstore_n (lv' := [(1, .long (((dg2) * (31)) + ((iI (m_told σ T P (Int.toNat ((k))) (k2))).toInt64))), (0, .ref a), (3, .int (iI (k))), (4, .int (iI (k2)))]) hx hb dX6_digest_101 rfl hl (by decide) rfl (fun ls hl => ?_)
                          refine q_iinc (k := 3) (lv' := [(4, .int (iI (k2 + 1))), (1, .long (((dg2) * (31)) + ((iI (m_told σ T P (Int.toNat ((k))) (k2))).toInt64))), (0, .ref a), (3, .int (iI (k)))]) hx hb dX6_digest_102 hl rfl (by decide) rfl (fun ls hl => ?_)
                          refine lv_goto (tgt := 81) hx hb dX6_digest_105 (by decide) ?_
                          have hst2 := d_t_step (fun w => m_told σ T P k.toNat (w : Int)) (d_s σ T P (d_t T (d_t (fun w => m_count σ T P (w : Int)) 827 11) (5 * (σ 6).toNat)) k.toNat) hk2.1
                          exact ih_81 _ _ (by omega) (by rw [hst2, hdg4]; rw [show ((k2.toNat : Nat) : Int) = k2 by omega]) (by omega) _ _ (hP) (hD) hS _ (lv_sub hl [2, 1, 3, 0] rfl)
                    exact key_81 (6) _ _ (by omega) (by rw [hdg3]; rfl) (by omega) _ _ (hP) (hD) hS _ (lv_sub hl [1, 2, 3, 0] rfl)
              exact key_70 ((σ 7).toNat + 1) _ _ (by omega) (by rw [hdg2, show k.toNat = 5 * (σ 6).toNat by omega]; rfl) (by omega) _ _ (hP) (hD) hS _ (lv_sub hl [1, 2, 0] rfl)
            · skip
              refine lv_lload_n hx hb dX6_digest_48 rfl (lv_at hl 1 rfl) ?_
              refine lv_ldc2 hx hb hown (hts (.constantLong RX6 190 (31)) (List.mem_of_getElem? (i := 3) rfl)) dX6_digest_49 ?_
              refine lv_lmul hx hb dX6_digest_52 ?_
              refine lv_aload_n hx hb dX6_digest_53 rfl (lv_at hl 0 rfl) ?_
              refine q_get (ci := 8) (C := RX6) (T := TX6) (N := 13) hx hb hts hin_X6 hown hK (v := .ref ta) (hP 0 _ rfl) rfl 8 (by decide) (hts (.fieldLink RX6 23 "AlmanacHouseModel" "told" "[I") (List.mem_of_getElem? (i := 5) rfl)) (fun _ h9 => h9) rfl dX6_digest_54 ?_
              refine lv_iload_n hx hb dX6_digest_57 rfl (lv_at hl 2 rfl) ?_
              refine q_iald (cA := cI) (n := 40) (f := T) hx hb hK (hP 1 _ rfl) 0 rfl (by omega) (by decide) dX6_digest_58 ?_
              refine lv_i2l hx hb dX6_digest_59 rfl ?_
              refine lv_ladd hx hb dX6_digest_60 ?_
              refine lv_lstore_n (lv' := [(1, .long (((dg) * (31)) + ((iI (T (Int.toNat (k)))).toInt64))), (0, .ref a), (3, .int (iI (k)))]) hx hb dX6_digest_61 rfl hl (by decide) rfl (fun ls hl => ?_)
              refine q_iinc (k := 2) (lv' := [(3, .int (iI (k + 1))), (1, .long (((dg) * (31)) + ((iI (T (Int.toNat (k)))).toInt64))), (0, .ref a)]) hx hb dX6_digest_62 hl rfl (by decide) rfl (fun ls hl => ?_)
              refine lv_goto (tgt := 38) hx hb dX6_digest_65 (by decide) ?_
              have hst := d_t_step T (d_t (fun w => m_count σ T P (w : Int)) 827 11) hk.1
              exact ih_38 _ _ (by omega) (by rw [hst, hdg2]) (by omega) _ _ (hP) (hD) hS _ (lv_sub hl [2, 1, 0] rfl)
        have hk11 : k.toNat = 11 := by omega
        rw [hk11] at hdg2
        exact key_38 ((5 * σ 6).toNat + 1) _ _ (by omega) (by rw [hdg2]; rfl) (by omega) _ _ (hP) (hD) hS _ (lv_sub hl [1, 2, 0] rfl)
      · skip
        refine lv_lload_n hx hb dX6_digest_17 rfl (lv_at hl 1 rfl) ?_
        refine lv_ldc2 hx hb hown (hts (.constantLong RX6 190 (31)) (List.mem_of_getElem? (i := 3) rfl)) dX6_digest_18 ?_
        refine lv_lmul hx hb dX6_digest_21 ?_
        refine lv_aload_n hx hb dX6_digest_22 rfl (lv_at hl 0 rfl) ?_
        refine lv_iload_n hx hb dX6_digest_23 rfl (lv_at hl 2 rfl) ?_
        refine q_callV (fr := 7) (lo := 159) (nL := 5) (Pic := PicM D cI a ta pa (0) σ T (P)) (As := [.int (iI (k))]) (rest := [.long ((dg) * (31))]) ⟨hx, hb, hml, hown, hts⟩ (c_counted l D cI cO cL a ta pa (0) σ T (P) hW hS0 (k) (by omega)) (cwV 1 hts gX6_digest_X6_counted rfl rfl rfl (by decide +kernel) ⟨Nat.le_of_ble_eq_true rfl, Nat.le_of_ble_eq_true rfl⟩) (ob_recv (hP 0 _ rfl) hK rfl) hP hK rfl hl.1 rfl (Nat.le_of_ble_eq_true rfl) dX6_digest_24 (Nat.zero_le _) (Nat.zero_le _) ?_
        refine lv_i2l hx hb dX6_digest_27 rfl ?_
        refine lv_ladd hx hb dX6_digest_28 ?_
        refine lv_lstore_n (lv' := [(1, .long (((dg) * (31)) + ((iI (m_count σ T P (k))).toInt64))), (0, .ref a), (3, .int (iI (k)))]) hx hb dX6_digest_29 rfl hl (by decide) rfl (fun ls hl => ?_)
        refine q_iinc (k := 2) (lv' := [(3, .int (iI (k + 1))), (1, .long (((dg) * (31)) + ((iI (m_count σ T P (k))).toInt64))), (0, .ref a)]) hx hb dX6_digest_30 hl rfl (by decide) rfl (fun ls hl => ?_)
        refine lv_goto (tgt := 11) hx hb dX6_digest_33 (by decide) ?_
        have hst := d_t_step (fun w => m_count σ T P (w : Int)) 827 hk.1
        exact ih_11 _ _ (by omega) (by rw [hst, hdg2]; rw [show ((k.toNat : Nat) : Int) = k by omega]) (by omega) _ _ (hP) (hD) hS _ (lv_sub hl [2, 1, 0] rfl)
  exact key_11 (12) _ _ (by omega) (by rfl) (by omega) _ _ (hP) (hD) hS _ (lv_sub hl [2, 1, 0] rfl)
set_option maxHeartbeats 4000000 in
set_option maxRecDepth 100000 in
theorem u_addFeast (l : Launch) (D : va_G) (sz : Nat) (cI cO cL : ClassId) (a ta pa : Nat) (th : Int) (σ T P : Nat → Int) (hW : WF σ T) (hS0 : WS σ P) (mo da mn wd of : Int) (hmor : -2147483648 ≤ mo ∧ mo < 2147483648) (hdar : -2147483648 ≤ da ∧ da < 2147483648) (hmnr : -2147483648 ≤ mn ∧ mn < 2147483648) (hwdr : -2147483648 ≤ wd ∧ wd < 2147483648) (hofr : -2147483648 ≤ of ∧ of < 2147483648) : MU l yX6_addFeast wsX6_addFeast 2 60 1 5 D (ty3 cI cO cL) sz (WMo cI a ta pa th σ T P) [.ref a, .int (iI (mo)), .int (iI (da)), .int (iI (mn)), .int (iI (wd)), .int (iI (of))] (if (0 ≤ mo ∧ mo ≤ 11) ∧ (0 ≤ da ∧ da ≤ 29) ∧ (0 ≤ mn ∧ mn ≤ 3) ∧ (-1 ≤ wd ∧ wd ≤ 6) ∧ (-60 ≤ of ∧ of ≤ 60) then (if σ 6 = 8 then 2 else 0) else 1) (σ 6) (WMo cI a ta pa 0 (st σ 6 (σ 6 + 1)) (m_tp T (σ 6).toNat mo da mn wd of) (P)) (WMo cI a ta pa (if (0 ≤ mo ∧ mo ≤ 11) ∧ (0 ≤ da ∧ da ≤ 29) ∧ (0 ≤ mn ∧ mn ≤ 3) ∧ (-1 ≤ wd ∧ wd ≤ 6) ∧ (-60 ≤ of ∧ of ≤ 60) then (if σ 6 = 8 then 2 else 0) else 1) σ T P) := by
  refine MU_of (cc := cX6_addFeast) (maxL := 7) (ret := (some .int)) (by decide) rfl (Nat.le_of_ble_eq_true rfl) ?_
  intro p e s m args below meth c ls hx hb hr hlocks hml hown hts hsz hP hK hD hS hA hl
  have hl : lv_has ls 7 [(0, .ref a), (1, .int (iI (mo))), (2, .int (iI (da))), (3, .int (iI (mn))), (4, .int (iI (wd))), (5, .int (iI (of)))] := hl
  have hin_X6 : ∀ w ∈ u_ws RX6 TX6 13, w ∈ wsX6_addFeast := (fun w h => List.mem_cons_of_mem _ (List.mem_append_right _ h))
  have hP : va_P D vwCl ([(a, .inr (8, [.int (iI (th)), .int (iI (σ 0)), .int (iI (σ 1)), .int (iI (σ 2)), .int (iI (σ 3)), .int (iI (σ 4)), .int (iI (σ 5)), .int (iI (σ 6)), .ref ta, .int (iI (σ 7)), .ref pa, .int (iI (σ 9)), .int (iI (σ 10))])), (ta, .inl (cI, 40, .inl (fun q9 => iI (T q9)))), (pa, .inl (cI, 110, .inl (fun q9 => iI (P q9))))]) s.heap := hP
  have hD : va_D (va_A (WMo cI a ta pa th σ T P) sz) ([(a, .inr (8, [.int (iI (th)), .int (iI (σ 0)), .int (iI (σ 1)), .int (iI (σ 2)), .int (iI (σ 3)), .int (iI (σ 4)), .int (iI (σ 5)), .int (iI (σ 6)), .ref ta, .int (iI (σ 7)), .ref pa, .int (iI (σ 9)), .int (iI (σ 10))])), (ta, .inl (cI, 40, .inl (fun q9 => iI (T q9)))), (pa, .inl (cI, 110, .inl (fun q9 => iI (P q9))))]) := hD
  obtain ⟨w0, w1, w2, w3, w4, w5, w6, w7, w8⟩ := id hW
  refine lv_aload_n hx hb dX6_addFeast_0 rfl (lv_at hl 0 rfl) ?_
  refine q_iconst hx hb dX6_addFeast_1 ?_
  refine va_put (D := D) (ci := 8) (v := .int (iI (0))) (ty := .int) (C := RX6) (T := TX6) (N := 13) hx hb hts hin_X6 tyX6 tyX6_ok nmX6 hown hK hP hD hS 0 rfl rfl 0 (by decide) (hts (.fieldLink RX6 30 "AlmanacHouseModel" "thrown" "I") (List.mem_of_getElem? (i := 1) rfl)) (fun _ h9 => h9) rfl (by decide +kernel) rfl rfl (Nat.le_of_ble_eq_true rfl) dX6_addFeast_2 (fun H locs hP hD hS => ?_)
  have hP : va_P D vwCl ([(a, .inr (8, [.int (iI (0)), .int (iI (σ 0)), .int (iI (σ 1)), .int (iI (σ 2)), .int (iI (σ 3)), .int (iI (σ 4)), .int (iI (σ 5)), .int (iI (σ 6)), .ref ta, .int (iI (σ 7)), .ref pa, .int (iI (σ 9)), .int (iI (σ 10))])), (ta, .inl (cI, 40, .inl (fun q9 => iI (T q9)))), (pa, .inl (cI, 110, .inl (fun q9 => iI (P q9))))]) H := hP
  have hD : va_D (va_A (WMo cI a ta pa th σ T P) sz) ([(a, .inr (8, [.int (iI (0)), .int (iI (σ 0)), .int (iI (σ 1)), .int (iI (σ 2)), .int (iI (σ 3)), .int (iI (σ 4)), .int (iI (σ 5)), .int (iI (σ 6)), .ref ta, .int (iI (σ 7)), .ref pa, .int (iI (σ 9)), .int (iI (σ 10))])), (ta, .inl (cI, 40, .inl (fun q9 => iI (T q9)))), (pa, .inl (cI, 110, .inl (fun q9 => iI (P q9))))]) := hD
  refine lv_iload_n hx hb dX6_addFeast_5 rfl (lv_at hl 1 rfl) ?_
  refine q_iconst hx hb dX6_addFeast_6 ?_
  refine q_bipush hx hb dX6_addFeast_7 (by decide) ?_
  refine q_callS (fr := 0) (lo := 0) (nL := 7) (Pic := fun _ => True) (As := [.int (iI (mo)), .int (iI (0)), .int (iI (11))]) (rest := []) ⟨hx, hb, hml, hown, hts⟩ (c_isIn l D (ty3 cI cO cL) (mo) (0) (11) (by omega) (by omega) (by omega)) (va_cwS 3 hts gX6_addFeast_X6_isIn rfl rfl rfl (by decide +kernel) ⟨Nat.le_of_ble_eq_true rfl, Nat.le_of_ble_eq_true rfl⟩) trivial hK rfl hl.1 rfl (Nat.le_of_ble_eq_true rfl) dX6_addFeast_9 (Nat.zero_le _) (Nat.zero_le _) ?_
  refine q_pif_eq (tgt := 57) hx hb dX6_addFeast_12 (by decide) (fun c_1 => ?_) (fun c_1 => ?_)
  · skip
    refine lv_aload_n hx hb dX6_addFeast_57 rfl (lv_at hl 0 rfl) ?_
    refine q_iconst hx hb dX6_addFeast_58 ?_
    have hPc := hP.sub (ws' := [(a, .inr (8, [.int (iI (0)), .int (iI (σ 0)), .int (iI (σ 1)), .int (iI (σ 2)), .int (iI (σ 3)), .int (iI (σ 4)), .int (iI (σ 5)), .int (iI (σ 6)), .ref ta, .int (iI (σ 7)), .ref pa, .int (iI (σ 9)), .int (iI (σ 10))]))]) [0] rfl
    have hDc := hD.sub (ws' := [(a, .inr (8, [.int (iI (0)), .int (iI (σ 0)), .int (iI (σ 1)), .int (iI (σ 2)), .int (iI (σ 3)), .int (iI (σ 4)), .int (iI (σ 5)), .int (iI (σ 6)), .ref ta, .int (iI (σ 7)), .ref pa, .int (iI (σ 9)), .int (iI (σ 10))]))]) [0] (by decide) rfl
    have hFc := va_free (wc := [(a, .inr (8, [.int (iI (0)), .int (iI (σ 0)), .int (iI (σ 1)), .int (iI (σ 2)), .int (iI (σ 3)), .int (iI (σ 4)), .int (iI (σ 5)), .int (iI (σ 6)), .ref ta, .int (iI (σ 7)), .ref pa, .int (iI (σ 9)), .int (iI (σ 10))]))]) hD hS hA [0] rfl
    refine q_callU (fr := 0) (lo := 0) (nL := 7) (As := [.int (iI (1))]) (rest := []) ⟨hx, hb, hml, hown, hts⟩ (u_fail l D _ _ a (0) (1) _ _ _ _ _ _ _ _ _ _ _ _) (cwV 1 hts gX6_addFeast_X6_fail rfl rfl rfl (by decide +kernel) ⟨Nat.le_of_ble_eq_true rfl, Nat.le_of_ble_eq_true rfl⟩) (ob_recv (hP 0 _ rfl) hK rfl) hPc (hDc.weaken (fun _ _ _ _ => trivial)) hFc hS hK rfl hl.1 rfl (Nat.le_of_ble_eq_true rfl) dX6_addFeast_59 (Nat.le_of_ble_eq_true rfl) (Nat.le_of_ble_eq_true rfl) ?_
    intro r H1 locs1 hr1 hP1 hk1 hS1
    have hr2 := hr1 rfl
    subst hr2
    have hP1 := (hP1.resolve_right (fun z => z.1 rfl)).2
    have hP2 : va_P D vwCl ([(a, .inr (8, [.int (iI (1)), .int (iI (σ 0)), .int (iI (σ 1)), .int (iI (σ 2)), .int (iI (σ 3)), .int (iI (σ 4)), .int (iI (σ 5)), .int (iI (σ 6)), .ref ta, .int (iI (σ 7)), .ref pa, .int (iI (σ 9)), .int (iI (σ 10))])), (ta, .inl (cI, 40, .inl (fun q9 => iI (T q9)))), (pa, .inl (cI, 110, .inl (fun q9 => iI (P q9))))]) H1 := va_upd (A0 := fun _ => True) hP hk1 hP1 (by
      intro q hq
      simp only [List.mem_cons, List.not_mem_nil, or_false] at hq
      rcases hq with rfl | rfl | rfl
      · exact Or.inl (List.mem_of_getElem? (i := 0) rfl)
      · refine Or.inr ⟨List.mem_of_getElem? (i := 1) rfl, fun z hz => ?_⟩
        simp only [List.mem_cons, List.not_mem_nil, or_false] at hz
        rcases hz with rfl
        · exact vaD_ne hD (i := 0) (j := 1) rfl rfl (by decide)
      · refine Or.inr ⟨List.mem_of_getElem? (i := 2) rfl, fun z hz => ?_⟩
        simp only [List.mem_cons, List.not_mem_nil, or_false] at hz
        rcases hz with rfl
        · exact vaD_ne hD (i := 0) (j := 2) rfl rfl (by decide))
    have hD2 : va_D (va_A (WMo cI a ta pa th σ T P) sz) ([(a, .inr (8, [.int (iI (1)), .int (iI (σ 0)), .int (iI (σ 1)), .int (iI (σ 2)), .int (iI (σ 3)), .int (iI (σ 4)), .int (iI (σ 5)), .int (iI (σ 6)), .ref ta, .int (iI (σ 7)), .ref pa, .int (iI (σ 9)), .int (iI (σ 10))])), (ta, .inl (cI, 40, .inl (fun q9 => iI (T q9)))), (pa, .inl (cI, 110, .inl (fun q9 => iI (P q9))))]) := vaD_addr hD rfl
    clear hP hD hS hPc hDc hFc hP1 hk1
    have hP := hP2; have hD := hD2; have hS := hS1
    clear hP2 hD2 hS1
    generalize H1 = H at hP hS ⊢
    generalize locs1 = locs at hS ⊢
    have hER : (if (0 ≤ mo ∧ mo ≤ 11) ∧ (0 ≤ da ∧ da ≤ 29) ∧ (0 ≤ mn ∧ mn ≤ 3) ∧ (-1 ≤ wd ∧ wd ≤ 6) ∧ (-60 ≤ of ∧ of ≤ 60) then (if σ 6 = 8 then 2 else 0) else 1 : Int) = 1 := by (repeat' split) <;> omega
    exact q_uret (ws := []) hx hb hr hlocks hS (Or.inr ⟨by rw [hER]; decide, by rw [hER]; exact hP⟩) (fun h => absurd (hER.symm.trans h) (by decide)) (Nat.le_of_ble_eq_true rfl) (Nat.le_of_ble_eq_true rfl) dX6_addFeast_62
  · skip
    refine lv_iload_n hx hb dX6_addFeast_15 rfl (lv_at hl 2 rfl) ?_
    refine q_iconst hx hb dX6_addFeast_16 ?_
    refine q_bipush hx hb dX6_addFeast_17 (by decide) ?_
    refine q_callS (fr := 0) (lo := 0) (nL := 7) (Pic := fun _ => True) (As := [.int (iI (da)), .int (iI (0)), .int (iI (29))]) (rest := []) ⟨hx, hb, hml, hown, hts⟩ (c_isIn l D (ty3 cI cO cL) (da) (0) (29) (by omega) (by omega) (by omega)) (va_cwS 3 hts gX6_addFeast_X6_isIn rfl rfl rfl (by decide +kernel) ⟨Nat.le_of_ble_eq_true rfl, Nat.le_of_ble_eq_true rfl⟩) trivial hK rfl hl.1 rfl (Nat.le_of_ble_eq_true rfl) dX6_addFeast_19 (Nat.zero_le _) (Nat.zero_le _) ?_
    refine q_pif_eq (tgt := 57) hx hb dX6_addFeast_22 (by decide) (fun c_2 => ?_) (fun c_2 => ?_)
    · skip
      refine lv_aload_n hx hb dX6_addFeast_57 rfl (lv_at hl 0 rfl) ?_
      refine q_iconst hx hb dX6_addFeast_58 ?_
      have hPc := hP.sub (ws' := [(a, .inr (8, [.int (iI (0)), .int (iI (σ 0)), .int (iI (σ 1)), .int (iI (σ 2)), .int (iI (σ 3)), .int (iI (σ 4)), .int (iI (σ 5)), .int (iI (σ 6)), .ref ta, .int (iI (σ 7)), .ref pa, .int (iI (σ 9)), .int (iI (σ 10))]))]) [0] rfl
      have hDc := hD.sub (ws' := [(a, .inr (8, [.int (iI (0)), .int (iI (σ 0)), .int (iI (σ 1)), .int (iI (σ 2)), .int (iI (σ 3)), .int (iI (σ 4)), .int (iI (σ 5)), .int (iI (σ 6)), .ref ta, .int (iI (σ 7)), .ref pa, .int (iI (σ 9)), .int (iI (σ 10))]))]) [0] (by decide) rfl
      have hFc := va_free (wc := [(a, .inr (8, [.int (iI (0)), .int (iI (σ 0)), .int (iI (σ 1)), .int (iI (σ 2)), .int (iI (σ 3)), .int (iI (σ 4)), .int (iI (σ 5)), .int (iI (σ 6)), .ref ta, .int (iI (σ 7)), .ref pa, .int (iI (σ 9)), .int (iI (σ 10))]))]) hD hS hA [0] rfl
      refine q_callU (fr := 0) (lo := 0) (nL := 7) (As := [.int (iI (1))]) (rest := []) ⟨hx, hb, hml, hown, hts⟩ (u_fail l D _ _ a (0) (1) _ _ _ _ _ _ _ _ _ _ _ _) (cwV 1 hts gX6_addFeast_X6_fail rfl rfl rfl (by decide +kernel) ⟨Nat.le_of_ble_eq_true rfl, Nat.le_of_ble_eq_true rfl⟩) (ob_recv (hP 0 _ rfl) hK rfl) hPc (hDc.weaken (fun _ _ _ _ => trivial)) hFc hS hK rfl hl.1 rfl (Nat.le_of_ble_eq_true rfl) dX6_addFeast_59 (Nat.le_of_ble_eq_true rfl) (Nat.le_of_ble_eq_true rfl) ?_
      intro r H1 locs1 hr1 hP1 hk1 hS1
      have hr2 := hr1 rfl
      subst hr2
      have hP1 := (hP1.resolve_right (fun z => z.1 rfl)).2
      have hP2 : va_P D vwCl ([(a, .inr (8, [.int (iI (1)), .int (iI (σ 0)), .int (iI (σ 1)), .int (iI (σ 2)), .int (iI (σ 3)), .int (iI (σ 4)), .int (iI (σ 5)), .int (iI (σ 6)), .ref ta, .int (iI (σ 7)), .ref pa, .int (iI (σ 9)), .int (iI (σ 10))])), (ta, .inl (cI, 40, .inl (fun q9 => iI (T q9)))), (pa, .inl (cI, 110, .inl (fun q9 => iI (P q9))))]) H1 := va_upd (A0 := fun _ => True) hP hk1 hP1 (by
        intro q hq
        simp only [List.mem_cons, List.not_mem_nil, or_false] at hq
        rcases hq with rfl | rfl | rfl
        · exact Or.inl (List.mem_of_getElem? (i := 0) rfl)
        · refine Or.inr ⟨List.mem_of_getElem? (i := 1) rfl, fun z hz => ?_⟩
          simp only [List.mem_cons, List.not_mem_nil, or_false] at hz
          rcases hz with rfl
          · exact vaD_ne hD (i := 0) (j := 1) rfl rfl (by decide)
        · refine Or.inr ⟨List.mem_of_getElem? (i := 2) rfl, fun z hz => ?_⟩
          simp only [List.mem_cons, List.not_mem_nil, or_false] at hz
          rcases hz with rfl
          · exact vaD_ne hD (i := 0) (j := 2) rfl rfl (by decide))
      have hD2 : va_D (va_A (WMo cI a ta pa th σ T P) sz) ([(a, .inr (8, [.int (iI (1)), .int (iI (σ 0)), .int (iI (σ 1)), .int (iI (σ 2)), .int (iI (σ 3)), .int (iI (σ 4)), .int (iI (σ 5)), .int (iI (σ 6)), .ref ta, .int (iI (σ 7)), .ref pa, .int (iI (σ 9)), .int (iI (σ 10))])), (ta, .inl (cI, 40, .inl (fun q9 => iI (T q9)))), (pa, .inl (cI, 110, .inl (fun q9 => iI (P q9))))]) := vaD_addr hD rfl
      clear hP hD hS hPc hDc hFc hP1 hk1
      have hP := hP2; have hD := hD2; have hS := hS1
      clear hP2 hD2 hS1
      generalize H1 = H at hP hS ⊢
      generalize locs1 = locs at hS ⊢
      have hER : (if (0 ≤ mo ∧ mo ≤ 11) ∧ (0 ≤ da ∧ da ≤ 29) ∧ (0 ≤ mn ∧ mn ≤ 3) ∧ (-1 ≤ wd ∧ wd ≤ 6) ∧ (-60 ≤ of ∧ of ≤ 60) then (if σ 6 = 8 then 2 else 0) else 1 : Int) = 1 := by (repeat' split) <;> omega
      exact q_uret (ws := []) hx hb hr hlocks hS (Or.inr ⟨by rw [hER]; decide, by rw [hER]; exact hP⟩) (fun h => absurd (hER.symm.trans h) (by decide)) (Nat.le_of_ble_eq_true rfl) (Nat.le_of_ble_eq_true rfl) dX6_addFeast_62
    · skip
      refine lv_iload_n hx hb dX6_addFeast_25 rfl (lv_at hl 3 rfl) ?_
      refine q_iconst hx hb dX6_addFeast_26 ?_
      refine q_iconst hx hb dX6_addFeast_27 ?_
      refine q_callS (fr := 0) (lo := 0) (nL := 7) (Pic := fun _ => True) (As := [.int (iI (mn)), .int (iI (0)), .int (iI (3))]) (rest := []) ⟨hx, hb, hml, hown, hts⟩ (c_isIn l D (ty3 cI cO cL) (mn) (0) (3) (by omega) (by omega) (by omega)) (va_cwS 3 hts gX6_addFeast_X6_isIn rfl rfl rfl (by decide +kernel) ⟨Nat.le_of_ble_eq_true rfl, Nat.le_of_ble_eq_true rfl⟩) trivial hK rfl hl.1 rfl (Nat.le_of_ble_eq_true rfl) dX6_addFeast_28 (Nat.zero_le _) (Nat.zero_le _) ?_
      refine q_pif_eq (tgt := 57) hx hb dX6_addFeast_31 (by decide) (fun c_3 => ?_) (fun c_3 => ?_)
      · skip
        refine lv_aload_n hx hb dX6_addFeast_57 rfl (lv_at hl 0 rfl) ?_
        refine q_iconst hx hb dX6_addFeast_58 ?_
        have hPc := hP.sub (ws' := [(a, .inr (8, [.int (iI (0)), .int (iI (σ 0)), .int (iI (σ 1)), .int (iI (σ 2)), .int (iI (σ 3)), .int (iI (σ 4)), .int (iI (σ 5)), .int (iI (σ 6)), .ref ta, .int (iI (σ 7)), .ref pa, .int (iI (σ 9)), .int (iI (σ 10))]))]) [0] rfl
        have hDc := hD.sub (ws' := [(a, .inr (8, [.int (iI (0)), .int (iI (σ 0)), .int (iI (σ 1)), .int (iI (σ 2)), .int (iI (σ 3)), .int (iI (σ 4)), .int (iI (σ 5)), .int (iI (σ 6)), .ref ta, .int (iI (σ 7)), .ref pa, .int (iI (σ 9)), .int (iI (σ 10))]))]) [0] (by decide) rfl
        have hFc := va_free (wc := [(a, .inr (8, [.int (iI (0)), .int (iI (σ 0)), .int (iI (σ 1)), .int (iI (σ 2)), .int (iI (σ 3)), .int (iI (σ 4)), .int (iI (σ 5)), .int (iI (σ 6)), .ref ta, .int (iI (σ 7)), .ref pa, .int (iI (σ 9)), .int (iI (σ 10))]))]) hD hS hA [0] rfl
        refine q_callU (fr := 0) (lo := 0) (nL := 7) (As := [.int (iI (1))]) (rest := []) ⟨hx, hb, hml, hown, hts⟩ (u_fail l D _ _ a (0) (1) _ _ _ _ _ _ _ _ _ _ _ _) (cwV 1 hts gX6_addFeast_X6_fail rfl rfl rfl (by decide +kernel) ⟨Nat.le_of_ble_eq_true rfl, Nat.le_of_ble_eq_true rfl⟩) (ob_recv (hP 0 _ rfl) hK rfl) hPc (hDc.weaken (fun _ _ _ _ => trivial)) hFc hS hK rfl hl.1 rfl (Nat.le_of_ble_eq_true rfl) dX6_addFeast_59 (Nat.le_of_ble_eq_true rfl) (Nat.le_of_ble_eq_true rfl) ?_
        intro r H1 locs1 hr1 hP1 hk1 hS1
        have hr2 := hr1 rfl
        subst hr2
        have hP1 := (hP1.resolve_right (fun z => z.1 rfl)).2
        have hP2 : va_P D vwCl ([(a, .inr (8, [.int (iI (1)), .int (iI (σ 0)), .int (iI (σ 1)), .int (iI (σ 2)), .int (iI (σ 3)), .int (iI (σ 4)), .int (iI (σ 5)), .int (iI (σ 6)), .ref ta, .int (iI (σ 7)), .ref pa, .int (iI (σ 9)), .int (iI (σ 10))])), (ta, .inl (cI, 40, .inl (fun q9 => iI (T q9)))), (pa, .inl (cI, 110, .inl (fun q9 => iI (P q9))))]) H1 := va_upd (A0 := fun _ => True) hP hk1 hP1 (by
          intro q hq
          simp only [List.mem_cons, List.not_mem_nil, or_false] at hq
          rcases hq with rfl | rfl | rfl
          · exact Or.inl (List.mem_of_getElem? (i := 0) rfl)
          · refine Or.inr ⟨List.mem_of_getElem? (i := 1) rfl, fun z hz => ?_⟩
            simp only [List.mem_cons, List.not_mem_nil, or_false] at hz
            rcases hz with rfl
            · exact vaD_ne hD (i := 0) (j := 1) rfl rfl (by decide)
          · refine Or.inr ⟨List.mem_of_getElem? (i := 2) rfl, fun z hz => ?_⟩
            simp only [List.mem_cons, List.not_mem_nil, or_false] at hz
            rcases hz with rfl
            · exact vaD_ne hD (i := 0) (j := 2) rfl rfl (by decide))
        have hD2 : va_D (va_A (WMo cI a ta pa th σ T P) sz) ([(a, .inr (8, [.int (iI (1)), .int (iI (σ 0)), .int (iI (σ 1)), .int (iI (σ 2)), .int (iI (σ 3)), .int (iI (σ 4)), .int (iI (σ 5)), .int (iI (σ 6)), .ref ta, .int (iI (σ 7)), .ref pa, .int (iI (σ 9)), .int (iI (σ 10))])), (ta, .inl (cI, 40, .inl (fun q9 => iI (T q9)))), (pa, .inl (cI, 110, .inl (fun q9 => iI (P q9))))]) := vaD_addr hD rfl
        clear hP hD hS hPc hDc hFc hP1 hk1
        have hP := hP2; have hD := hD2; have hS := hS1
        clear hP2 hD2 hS1
        generalize H1 = H at hP hS ⊢
        generalize locs1 = locs at hS ⊢
        have hER : (if (0 ≤ mo ∧ mo ≤ 11) ∧ (0 ≤ da ∧ da ≤ 29) ∧ (0 ≤ mn ∧ mn ≤ 3) ∧ (-1 ≤ wd ∧ wd ≤ 6) ∧ (-60 ≤ of ∧ of ≤ 60) then (if σ 6 = 8 then 2 else 0) else 1 : Int) = 1 := by (repeat' split) <;> omega
        exact q_uret (ws := []) hx hb hr hlocks hS (Or.inr ⟨by rw [hER]; decide, by rw [hER]; exact hP⟩) (fun h => absurd (hER.symm.trans h) (by decide)) (Nat.le_of_ble_eq_true rfl) (Nat.le_of_ble_eq_true rfl) dX6_addFeast_62
      · skip
        refine lv_iload hx hb dX6_addFeast_34 (lv_at hl 4 rfl) ?_
        refine q_iconst hx hb dX6_addFeast_36 ?_
        refine q_bipush hx hb dX6_addFeast_37 (by decide) ?_
        refine q_callS (fr := 0) (lo := 0) (nL := 7) (Pic := fun _ => True) (As := [.int (iI (wd)), .int (iI ((-1))), .int (iI (6))]) (rest := []) ⟨hx, hb, hml, hown, hts⟩ (c_isIn l D (ty3 cI cO cL) (wd) ((-1)) (6) (by omega) (by omega) (by omega)) (va_cwS 3 hts gX6_addFeast_X6_isIn rfl rfl rfl (by decide +kernel) ⟨Nat.le_of_ble_eq_true rfl, Nat.le_of_ble_eq_true rfl⟩) trivial hK rfl hl.1 rfl (Nat.le_of_ble_eq_true rfl) dX6_addFeast_39 (Nat.zero_le _) (Nat.zero_le _) ?_
        refine q_pif_eq (tgt := 57) hx hb dX6_addFeast_42 (by decide) (fun c_4 => ?_) (fun c_4 => ?_)
        · skip
          refine lv_aload_n hx hb dX6_addFeast_57 rfl (lv_at hl 0 rfl) ?_
          refine q_iconst hx hb dX6_addFeast_58 ?_
          have hPc := hP.sub (ws' := [(a, .inr (8, [.int (iI (0)), .int (iI (σ 0)), .int (iI (σ 1)), .int (iI (σ 2)), .int (iI (σ 3)), .int (iI (σ 4)), .int (iI (σ 5)), .int (iI (σ 6)), .ref ta, .int (iI (σ 7)), .ref pa, .int (iI (σ 9)), .int (iI (σ 10))]))]) [0] rfl
          have hDc := hD.sub (ws' := [(a, .inr (8, [.int (iI (0)), .int (iI (σ 0)), .int (iI (σ 1)), .int (iI (σ 2)), .int (iI (σ 3)), .int (iI (σ 4)), .int (iI (σ 5)), .int (iI (σ 6)), .ref ta, .int (iI (σ 7)), .ref pa, .int (iI (σ 9)), .int (iI (σ 10))]))]) [0] (by decide) rfl
          have hFc := va_free (wc := [(a, .inr (8, [.int (iI (0)), .int (iI (σ 0)), .int (iI (σ 1)), .int (iI (σ 2)), .int (iI (σ 3)), .int (iI (σ 4)), .int (iI (σ 5)), .int (iI (σ 6)), .ref ta, .int (iI (σ 7)), .ref pa, .int (iI (σ 9)), .int (iI (σ 10))]))]) hD hS hA [0] rfl
          refine q_callU (fr := 0) (lo := 0) (nL := 7) (As := [.int (iI (1))]) (rest := []) ⟨hx, hb, hml, hown, hts⟩ (u_fail l D _ _ a (0) (1) _ _ _ _ _ _ _ _ _ _ _ _) (cwV 1 hts gX6_addFeast_X6_fail rfl rfl rfl (by decide +kernel) ⟨Nat.le_of_ble_eq_true rfl, Nat.le_of_ble_eq_true rfl⟩) (ob_recv (hP 0 _ rfl) hK rfl) hPc (hDc.weaken (fun _ _ _ _ => trivial)) hFc hS hK rfl hl.1 rfl (Nat.le_of_ble_eq_true rfl) dX6_addFeast_59 (Nat.le_of_ble_eq_true rfl) (Nat.le_of_ble_eq_true rfl) ?_
          intro r H1 locs1 hr1 hP1 hk1 hS1
          have hr2 := hr1 rfl
          subst hr2
          have hP1 := (hP1.resolve_right (fun z => z.1 rfl)).2
          have hP2 : va_P D vwCl ([(a, .inr (8, [.int (iI (1)), .int (iI (σ 0)), .int (iI (σ 1)), .int (iI (σ 2)), .int (iI (σ 3)), .int (iI (σ 4)), .int (iI (σ 5)), .int (iI (σ 6)), .ref ta, .int (iI (σ 7)), .ref pa, .int (iI (σ 9)), .int (iI (σ 10))])), (ta, .inl (cI, 40, .inl (fun q9 => iI (T q9)))), (pa, .inl (cI, 110, .inl (fun q9 => iI (P q9))))]) H1 := va_upd (A0 := fun _ => True) hP hk1 hP1 (by
            intro q hq
            simp only [List.mem_cons, List.not_mem_nil, or_false] at hq
            rcases hq with rfl | rfl | rfl
            · exact Or.inl (List.mem_of_getElem? (i := 0) rfl)
            · refine Or.inr ⟨List.mem_of_getElem? (i := 1) rfl, fun z hz => ?_⟩
              simp only [List.mem_cons, List.not_mem_nil, or_false] at hz
              rcases hz with rfl
              · exact vaD_ne hD (i := 0) (j := 1) rfl rfl (by decide)
            · refine Or.inr ⟨List.mem_of_getElem? (i := 2) rfl, fun z hz => ?_⟩
              simp only [List.mem_cons, List.not_mem_nil, or_false] at hz
              rcases hz with rfl
              · exact vaD_ne hD (i := 0) (j := 2) rfl rfl (by decide))
          have hD2 : va_D (va_A (WMo cI a ta pa th σ T P) sz) ([(a, .inr (8, [.int (iI (1)), .int (iI (σ 0)), .int (iI (σ 1)), .int (iI (σ 2)), .int (iI (σ 3)), .int (iI (σ 4)), .int (iI (σ 5)), .int (iI (σ 6)), .ref ta, .int (iI (σ 7)), .ref pa, .int (iI (σ 9)), .int (iI (σ 10))])), (ta, .inl (cI, 40, .inl (fun q9 => iI (T q9)))), (pa, .inl (cI, 110, .inl (fun q9 => iI (P q9))))]) := vaD_addr hD rfl
          clear hP hD hS hPc hDc hFc hP1 hk1
          have hP := hP2; have hD := hD2; have hS := hS1
          clear hP2 hD2 hS1
          generalize H1 = H at hP hS ⊢
          generalize locs1 = locs at hS ⊢
          have hER : (if (0 ≤ mo ∧ mo ≤ 11) ∧ (0 ≤ da ∧ da ≤ 29) ∧ (0 ≤ mn ∧ mn ≤ 3) ∧ (-1 ≤ wd ∧ wd ≤ 6) ∧ (-60 ≤ of ∧ of ≤ 60) then (if σ 6 = 8 then 2 else 0) else 1 : Int) = 1 := by (repeat' split) <;> omega
          exact q_uret (ws := []) hx hb hr hlocks hS (Or.inr ⟨by rw [hER]; decide, by rw [hER]; exact hP⟩) (fun h => absurd (hER.symm.trans h) (by decide)) (Nat.le_of_ble_eq_true rfl) (Nat.le_of_ble_eq_true rfl) dX6_addFeast_62
        · skip
          refine lv_iload hx hb dX6_addFeast_45 (lv_at hl 5 rfl) ?_
          refine q_bipush hx hb dX6_addFeast_47 (by decide) ?_
          refine q_bipush hx hb dX6_addFeast_49 (by decide) ?_
          refine q_callS (fr := 0) (lo := 0) (nL := 7) (Pic := fun _ => True) (As := [.int (iI (of)), .int (iI ((-60))), .int (iI (60))]) (rest := []) ⟨hx, hb, hml, hown, hts⟩ (c_isIn l D (ty3 cI cO cL) (of) ((-60)) (60) (by omega) (by omega) (by omega)) (va_cwS 3 hts gX6_addFeast_X6_isIn rfl rfl rfl (by decide +kernel) ⟨Nat.le_of_ble_eq_true rfl, Nat.le_of_ble_eq_true rfl⟩) trivial hK rfl hl.1 rfl (Nat.le_of_ble_eq_true rfl) dX6_addFeast_51 (Nat.zero_le _) (Nat.zero_le _) ?_
          refine q_pif_ne (tgt := 63) hx hb dX6_addFeast_54 (by decide) (fun c_5 => ?_) (fun c_5 => ?_)
          · skip
            refine lv_aload_n hx hb dX6_addFeast_63 rfl (lv_at hl 0 rfl) ?_
            refine q_get (ci := 8) (C := RX6) (T := TX6) (N := 13) hx hb hts hin_X6 hown hK (v := .int (iI (σ 6))) (hP 0 _ rfl) rfl 7 (by decide) (hts (.fieldLink RX6 140 "AlmanacHouseModel" "feasts" "I") (List.mem_of_getElem? (i := 2) rfl)) (fun _ h9 => h9) rfl dX6_addFeast_64 ?_
            refine q_bipush hx hb dX6_addFeast_67 (by decide) ?_
            refine q_icmp_ne (tgt := 78) hx hb dX6_addFeast_69 (by decide) (by omega) (by omega) (fun c_6 => ?_) (fun c_6 => ?_)
            · skip
              refine q_iconst hx hb dX6_addFeast_78 ?_
              refine q_newi hx hb (hts (.arrayClass .int) (List.mem_of_getElem? (i := 3) rfl)) hK 0 rfl hP hD hS hA 5 rfl (by decide) (Nat.le_of_ble_eq_true rfl) (Nat.le_of_ble_eq_true rfl) dX6_addFeast_79 ?_
              intro q79 H hP hD hS
              have hP : va_P D vwCl ([(q79, .inl (cI, 5, .inl (fun q9 => iI ((fun _ => 0) q9)))), (a, .inr (8, [.int (iI (0)), .int (iI (σ 0)), .int (iI (σ 1)), .int (iI (σ 2)), .int (iI (σ 3)), .int (iI (σ 4)), .int (iI (σ 5)), .int (iI (σ 6)), .ref ta, .int (iI (σ 7)), .ref pa, .int (iI (σ 9)), .int (iI (σ 10))])), (ta, .inl (cI, 40, .inl (fun q9 => iI (T q9)))), (pa, .inl (cI, 110, .inl (fun q9 => iI (P q9))))]) H := hP
              have hD : va_D (va_A (WMo cI a ta pa th σ T P) sz) ([(q79, .inl (cI, 5, .inl (fun q9 => iI ((fun _ => 0) q9)))), (a, .inr (8, [.int (iI (0)), .int (iI (σ 0)), .int (iI (σ 1)), .int (iI (σ 2)), .int (iI (σ 3)), .int (iI (σ 4)), .int (iI (σ 5)), .int (iI (σ 6)), .ref ta, .int (iI (σ 7)), .ref pa, .int (iI (σ 9)), .int (iI (σ 10))])), (ta, .inl (cI, 40, .inl (fun q9 => iI (T q9)))), (pa, .inl (cI, 110, .inl (fun q9 => iI (P q9))))]) := hD
              refine lv_dup hx hb dX6_addFeast_81 rfl ?_
              refine q_iconst hx hb dX6_addFeast_82 ?_
              refine lv_iload_n hx hb dX6_addFeast_83 rfl (lv_at hl 1 rfl) ?_
              refine q_iast (f := (fun _ => 0)) hx hb hK hP hD hS 0 0 rfl rfl (0) (rfl) (by decide) (by decide) dX6_addFeast_84 (fun H locs hP hD hS => ?_)
              have hP : va_P D vwCl ([(q79, .inl (cI, 5, .inl (fun q9 => iI (((st (fun _ => 0) (0) (mo))) q9)))), (a, .inr (8, [.int (iI (0)), .int (iI (σ 0)), .int (iI (σ 1)), .int (iI (σ 2)), .int (iI (σ 3)), .int (iI (σ 4)), .int (iI (σ 5)), .int (iI (σ 6)), .ref ta, .int (iI (σ 7)), .ref pa, .int (iI (σ 9)), .int (iI (σ 10))])), (ta, .inl (cI, 40, .inl (fun q9 => iI (T q9)))), (pa, .inl (cI, 110, .inl (fun q9 => iI (P q9))))]) H := hP
              have hD : va_D (va_A (WMo cI a ta pa th σ T P) sz) ([(q79, .inl (cI, 5, .inl (fun q9 => iI (((st (fun _ => 0) (0) (mo))) q9)))), (a, .inr (8, [.int (iI (0)), .int (iI (σ 0)), .int (iI (σ 1)), .int (iI (σ 2)), .int (iI (σ 3)), .int (iI (σ 4)), .int (iI (σ 5)), .int (iI (σ 6)), .ref ta, .int (iI (σ 7)), .ref pa, .int (iI (σ 9)), .int (iI (σ 10))])), (ta, .inl (cI, 40, .inl (fun q9 => iI (T q9)))), (pa, .inl (cI, 110, .inl (fun q9 => iI (P q9))))]) := hD
              refine lv_dup hx hb dX6_addFeast_85 rfl ?_
              refine q_iconst hx hb dX6_addFeast_86 ?_
              refine lv_iload_n hx hb dX6_addFeast_87 rfl (lv_at hl 2 rfl) ?_
              refine q_iast (f := ((st (fun _ => 0) (0) (mo)))) hx hb hK hP hD hS 0 0 rfl rfl (1) (rfl) (by decide) (by decide) dX6_addFeast_88 (fun H locs hP hD hS => ?_)
              have hP : va_P D vwCl ([(q79, .inl (cI, 5, .inl (fun q9 => iI (((st ((st (fun _ => 0) (0) (mo))) (1) (da))) q9)))), (a, .inr (8, [.int (iI (0)), .int (iI (σ 0)), .int (iI (σ 1)), .int (iI (σ 2)), .int (iI (σ 3)), .int (iI (σ 4)), .int (iI (σ 5)), .int (iI (σ 6)), .ref ta, .int (iI (σ 7)), .ref pa, .int (iI (σ 9)), .int (iI (σ 10))])), (ta, .inl (cI, 40, .inl (fun q9 => iI (T q9)))), (pa, .inl (cI, 110, .inl (fun q9 => iI (P q9))))]) H := hP
              have hD : va_D (va_A (WMo cI a ta pa th σ T P) sz) ([(q79, .inl (cI, 5, .inl (fun q9 => iI (((st ((st (fun _ => 0) (0) (mo))) (1) (da))) q9)))), (a, .inr (8, [.int (iI (0)), .int (iI (σ 0)), .int (iI (σ 1)), .int (iI (σ 2)), .int (iI (σ 3)), .int (iI (σ 4)), .int (iI (σ 5)), .int (iI (σ 6)), .ref ta, .int (iI (σ 7)), .ref pa, .int (iI (σ 9)), .int (iI (σ 10))])), (ta, .inl (cI, 40, .inl (fun q9 => iI (T q9)))), (pa, .inl (cI, 110, .inl (fun q9 => iI (P q9))))]) := hD
              refine lv_dup hx hb dX6_addFeast_89 rfl ?_
              refine q_iconst hx hb dX6_addFeast_90 ?_
              refine lv_iload_n hx hb dX6_addFeast_91 rfl (lv_at hl 3 rfl) ?_
              refine q_iast (f := ((st ((st (fun _ => 0) (0) (mo))) (1) (da)))) hx hb hK hP hD hS 0 0 rfl rfl (2) (rfl) (by decide) (by decide) dX6_addFeast_92 (fun H locs hP hD hS => ?_)
              have hP : va_P D vwCl ([(q79, .inl (cI, 5, .inl (fun q9 => iI (((st ((st ((st (fun _ => 0) (0) (mo))) (1) (da))) (2) (mn))) q9)))), (a, .inr (8, [.int (iI (0)), .int (iI (σ 0)), .int (iI (σ 1)), .int (iI (σ 2)), .int (iI (σ 3)), .int (iI (σ 4)), .int (iI (σ 5)), .int (iI (σ 6)), .ref ta, .int (iI (σ 7)), .ref pa, .int (iI (σ 9)), .int (iI (σ 10))])), (ta, .inl (cI, 40, .inl (fun q9 => iI (T q9)))), (pa, .inl (cI, 110, .inl (fun q9 => iI (P q9))))]) H := hP
              have hD : va_D (va_A (WMo cI a ta pa th σ T P) sz) ([(q79, .inl (cI, 5, .inl (fun q9 => iI (((st ((st ((st (fun _ => 0) (0) (mo))) (1) (da))) (2) (mn))) q9)))), (a, .inr (8, [.int (iI (0)), .int (iI (σ 0)), .int (iI (σ 1)), .int (iI (σ 2)), .int (iI (σ 3)), .int (iI (σ 4)), .int (iI (σ 5)), .int (iI (σ 6)), .ref ta, .int (iI (σ 7)), .ref pa, .int (iI (σ 9)), .int (iI (σ 10))])), (ta, .inl (cI, 40, .inl (fun q9 => iI (T q9)))), (pa, .inl (cI, 110, .inl (fun q9 => iI (P q9))))]) := hD
              refine lv_dup hx hb dX6_addFeast_93 rfl ?_
              refine q_iconst hx hb dX6_addFeast_94 ?_
              refine lv_iload hx hb dX6_addFeast_95 (lv_at hl 4 rfl) ?_
              refine q_iast (f := ((st ((st ((st (fun _ => 0) (0) (mo))) (1) (da))) (2) (mn)))) hx hb hK hP hD hS 0 0 rfl rfl (3) (rfl) (by decide) (by decide) dX6_addFeast_97 (fun H locs hP hD hS => ?_)
              have hP : va_P D vwCl ([(q79, .inl (cI, 5, .inl (fun q9 => iI (((st ((st ((st ((st (fun _ => 0) (0) (mo))) (1) (da))) (2) (mn))) (3) (wd))) q9)))), (a, .inr (8, [.int (iI (0)), .int (iI (σ 0)), .int (iI (σ 1)), .int (iI (σ 2)), .int (iI (σ 3)), .int (iI (σ 4)), .int (iI (σ 5)), .int (iI (σ 6)), .ref ta, .int (iI (σ 7)), .ref pa, .int (iI (σ 9)), .int (iI (σ 10))])), (ta, .inl (cI, 40, .inl (fun q9 => iI (T q9)))), (pa, .inl (cI, 110, .inl (fun q9 => iI (P q9))))]) H := hP
              have hD : va_D (va_A (WMo cI a ta pa th σ T P) sz) ([(q79, .inl (cI, 5, .inl (fun q9 => iI (((st ((st ((st ((st (fun _ => 0) (0) (mo))) (1) (da))) (2) (mn))) (3) (wd))) q9)))), (a, .inr (8, [.int (iI (0)), .int (iI (σ 0)), .int (iI (σ 1)), .int (iI (σ 2)), .int (iI (σ 3)), .int (iI (σ 4)), .int (iI (σ 5)), .int (iI (σ 6)), .ref ta, .int (iI (σ 7)), .ref pa, .int (iI (σ 9)), .int (iI (σ 10))])), (ta, .inl (cI, 40, .inl (fun q9 => iI (T q9)))), (pa, .inl (cI, 110, .inl (fun q9 => iI (P q9))))]) := hD
              refine lv_dup hx hb dX6_addFeast_98 rfl ?_
              refine q_iconst hx hb dX6_addFeast_99 ?_
              refine lv_iload hx hb dX6_addFeast_100 (lv_at hl 5 rfl) ?_
              refine q_iast (f := ((st ((st ((st ((st (fun _ => 0) (0) (mo))) (1) (da))) (2) (mn))) (3) (wd)))) hx hb hK hP hD hS 0 0 rfl rfl (4) (rfl) (by decide) (by decide) dX6_addFeast_102 (fun H locs hP hD hS => ?_)
              have hP : va_P D vwCl ([(q79, .inl (cI, 5, .inl (fun q9 => iI (((st ((st ((st ((st ((st (fun _ => 0) (0) (mo))) (1) (da))) (2) (mn))) (3) (wd))) (4) (of))) q9)))), (a, .inr (8, [.int (iI (0)), .int (iI (σ 0)), .int (iI (σ 1)), .int (iI (σ 2)), .int (iI (σ 3)), .int (iI (σ 4)), .int (iI (σ 5)), .int (iI (σ 6)), .ref ta, .int (iI (σ 7)), .ref pa, .int (iI (σ 9)), .int (iI (σ 10))])), (ta, .inl (cI, 40, .inl (fun q9 => iI (T q9)))), (pa, .inl (cI, 110, .inl (fun q9 => iI (P q9))))]) H := hP
              have hD : va_D (va_A (WMo cI a ta pa th σ T P) sz) ([(q79, .inl (cI, 5, .inl (fun q9 => iI (((st ((st ((st ((st ((st (fun _ => 0) (0) (mo))) (1) (da))) (2) (mn))) (3) (wd))) (4) (of))) q9)))), (a, .inr (8, [.int (iI (0)), .int (iI (σ 0)), .int (iI (σ 1)), .int (iI (σ 2)), .int (iI (σ 3)), .int (iI (σ 4)), .int (iI (σ 5)), .int (iI (σ 6)), .ref ta, .int (iI (σ 7)), .ref pa, .int (iI (σ 9)), .int (iI (σ 10))])), (ta, .inl (cI, 40, .inl (fun q9 => iI (T q9)))), (pa, .inl (cI, 110, .inl (fun q9 => iI (P q9))))]) := hD
              refine lv_astore (lv' := [(6, .ref q79), (0, .ref a), (1, .int (iI (mo))), (2, .int (iI (da))), (3, .int (iI (mn))), (4, .int (iI (wd))), (5, .int (iI (of)))]) hx hb dX6_addFeast_103 hl (by decide) rfl (fun ls hl => ?_)
              refine lv_aload hx hb dX6_addFeast_105 (lv_at hl 0 rfl) ?_
              refine q_iconst hx hb dX6_addFeast_107 ?_
              refine lv_aload_n hx hb dX6_addFeast_108 rfl (lv_at hl 1 rfl) ?_
              refine q_get (ci := 8) (C := RX6) (T := TX6) (N := 13) hx hb hts hin_X6 hown hK (v := .ref ta) (hP 1 _ rfl) rfl 8 (by decide) (hts (.fieldLink RX6 23 "AlmanacHouseModel" "told" "[I") (List.mem_of_getElem? (i := 4) rfl)) (fun _ h9 => h9) rfl dX6_addFeast_109 ?_
              refine q_iconst hx hb dX6_addFeast_112 ?_
              refine lv_aload_n hx hb dX6_addFeast_113 rfl (lv_at hl 1 rfl) ?_
              refine q_get (ci := 8) (C := RX6) (T := TX6) (N := 13) hx hb hts hin_X6 hown hK (v := .int (iI (σ 6))) (hP 1 _ rfl) rfl 7 (by decide) (hts (.fieldLink RX6 140 "AlmanacHouseModel" "feasts" "I") (List.mem_of_getElem? (i := 2) rfl)) (fun _ h9 => h9) rfl dX6_addFeast_114 ?_
              refine q_imul hx hb dX6_addFeast_117 ?_
              refine q_iconst hx hb dX6_addFeast_118 ?_
              refine q_copyi (f := (st ((st ((st ((st ((st (fun _ => 0) (0) (mo))) (1) (da))) (2) (mn))) (3) (wd))) (4) (of))) (g := T) hx hb (hml.trans hl.1.symm) hown (hts (.methodLink RX6 143 arraycopyName) (List.mem_of_getElem? (i := 5) rfl)) (hts (.native arraycopyName) (List.mem_of_getElem? (i := 6) rfl)) (hts (.static arraycopyName) (List.mem_of_getElem? (i := 7) rfl)) (hts (.initialized "java/lang/System") (List.mem_of_getElem? (i := 8) rfl)) hK hP hD hS 0 2 0 rfl rfl rfl 0 (5 * (σ 6).toNat) 5 rfl (by omega) rfl (by omega) (by omega) (by decide) (Nat.le_of_ble_eq_true rfl) (by decide) dX6_addFeast_119 (fun H locs hP hD hS => ?_)
              have hP : va_P D vwCl ([(q79, .inl (cI, 5, .inl (fun q9 => iI (((st ((st ((st ((st ((st (fun _ => 0) (0) (mo))) (1) (da))) (2) (mn))) (3) (wd))) (4) (of))) q9)))), (a, .inr (8, [.int (iI (0)), .int (iI (σ 0)), .int (iI (σ 1)), .int (iI (σ 2)), .int (iI (σ 3)), .int (iI (σ 4)), .int (iI (σ 5)), .int (iI (σ 6)), .ref ta, .int (iI (σ 7)), .ref pa, .int (iI (σ 9)), .int (iI (σ 10))])), (ta, .inl (cI, 40, .inl (fun q9 => iI ((cpy ((st ((st ((st ((st ((st (fun _ => 0) (0) (mo))) (1) (da))) (2) (mn))) (3) (wd))) (4) (of))) (T) 0 (5 * (σ 6).toNat) 5) q9)))), (pa, .inl (cI, 110, .inl (fun q9 => iI (P q9))))]) H := hP
              have hD : va_D (va_A (WMo cI a ta pa th σ T P) sz) ([(q79, .inl (cI, 5, .inl (fun q9 => iI (((st ((st ((st ((st ((st (fun _ => 0) (0) (mo))) (1) (da))) (2) (mn))) (3) (wd))) (4) (of))) q9)))), (a, .inr (8, [.int (iI (0)), .int (iI (σ 0)), .int (iI (σ 1)), .int (iI (σ 2)), .int (iI (σ 3)), .int (iI (σ 4)), .int (iI (σ 5)), .int (iI (σ 6)), .ref ta, .int (iI (σ 7)), .ref pa, .int (iI (σ 9)), .int (iI (σ 10))])), (ta, .inl (cI, 40, .inl (fun q9 => iI ((cpy ((st ((st ((st ((st ((st (fun _ => 0) (0) (mo))) (1) (da))) (2) (mn))) (3) (wd))) (4) (of))) (T) 0 (5 * (σ 6).toNat) 5) q9)))), (pa, .inl (cI, 110, .inl (fun q9 => iI (P q9))))]) := hD
              refine lv_aload_n hx hb dX6_addFeast_122 rfl (lv_at hl 1 rfl) ?_
              refine lv_dup hx hb dX6_addFeast_123 rfl ?_
              refine q_get (ci := 8) (C := RX6) (T := TX6) (N := 13) hx hb hts hin_X6 hown hK (v := .int (iI (σ 6))) (hP 1 _ rfl) rfl 7 (by decide) (hts (.fieldLink RX6 140 "AlmanacHouseModel" "feasts" "I") (List.mem_of_getElem? (i := 2) rfl)) (fun _ h9 => h9) rfl dX6_addFeast_124 ?_
              refine q_iconst hx hb dX6_addFeast_127 ?_
              refine q_iadd hx hb dX6_addFeast_128 ?_
              refine va_put (D := D) (ci := 8) (v := .int (iI ((σ 6) + (1)))) (ty := .int) (C := RX6) (T := TX6) (N := 13) hx hb hts hin_X6 tyX6 tyX6_ok nmX6 hown hK hP hD hS 1 rfl rfl 7 (by decide) (hts (.fieldLink RX6 140 "AlmanacHouseModel" "feasts" "I") (List.mem_of_getElem? (i := 2) rfl)) (fun _ h9 => h9) rfl (by decide +kernel) rfl rfl (Nat.le_of_ble_eq_true rfl) dX6_addFeast_129 (fun H locs hP hD hS => ?_)
              have hP : va_P D vwCl ([(q79, .inl (cI, 5, .inl (fun q9 => iI (((st ((st ((st ((st ((st (fun _ => 0) (0) (mo))) (1) (da))) (2) (mn))) (3) (wd))) (4) (of))) q9)))), (a, .inr (8, [.int (iI (0)), .int (iI (σ 0)), .int (iI (σ 1)), .int (iI (σ 2)), .int (iI (σ 3)), .int (iI (σ 4)), .int (iI (σ 5)), .int (iI ((σ 6) + (1))), .ref ta, .int (iI (σ 7)), .ref pa, .int (iI (σ 9)), .int (iI (σ 10))])), (ta, .inl (cI, 40, .inl (fun q9 => iI ((cpy ((st ((st ((st ((st ((st (fun _ => 0) (0) (mo))) (1) (da))) (2) (mn))) (3) (wd))) (4) (of))) (T) 0 (5 * (σ 6).toNat) 5) q9)))), (pa, .inl (cI, 110, .inl (fun q9 => iI (P q9))))]) H := hP
              have hD : va_D (va_A (WMo cI a ta pa th σ T P) sz) ([(q79, .inl (cI, 5, .inl (fun q9 => iI (((st ((st ((st ((st ((st (fun _ => 0) (0) (mo))) (1) (da))) (2) (mn))) (3) (wd))) (4) (of))) q9)))), (a, .inr (8, [.int (iI (0)), .int (iI (σ 0)), .int (iI (σ 1)), .int (iI (σ 2)), .int (iI (σ 3)), .int (iI (σ 4)), .int (iI (σ 5)), .int (iI ((σ 6) + (1))), .ref ta, .int (iI (σ 7)), .ref pa, .int (iI (σ 9)), .int (iI (σ 10))])), (ta, .inl (cI, 40, .inl (fun q9 => iI ((cpy ((st ((st ((st ((st ((st (fun _ => 0) (0) (mo))) (1) (da))) (2) (mn))) (3) (wd))) (4) (of))) (T) 0 (5 * (σ 6).toNat) 5) q9)))), (pa, .inl (cI, 110, .inl (fun q9 => iI (P q9))))]) := hD
              refine lv_aload_n hx hb dX6_addFeast_132 rfl (lv_at hl 1 rfl) ?_
              refine q_get (ci := 8) (C := RX6) (T := TX6) (N := 13) hx hb hts hin_X6 hown hK (v := .int (iI ((σ 6) + (1)))) (hP 1 _ rfl) rfl 7 (by decide) (hts (.fieldLink RX6 140 "AlmanacHouseModel" "feasts" "I") (List.mem_of_getElem? (i := 2) rfl)) (fun _ h9 => h9) rfl dX6_addFeast_133 ?_
              refine q_iconst hx hb dX6_addFeast_136 ?_
              refine q_isub hx hb dX6_addFeast_137 ?_
              have hER : (if (0 ≤ mo ∧ mo ≤ 11) ∧ (0 ≤ da ∧ da ≤ 29) ∧ (0 ≤ mn ∧ mn ≤ 3) ∧ (-1 ≤ wd ∧ wd ≤ 6) ∧ (-60 ≤ of ∧ of ≤ 60) then (if σ 6 = 8 then 2 else 0) else 1 : Int) = 0 := by (repeat' split) <;> omega
              exact q_uret (ws := []) hx hb hr hlocks hS (Or.inl ⟨hER, by have hP : va_P D vwCl _ H := fun k q hq => hP (k + 1) q hq; rw [← cpy_tp]; exact hP⟩) (fun _ => by omega) (Nat.le_of_ble_eq_true rfl) (Nat.le_of_ble_eq_true rfl) dX6_addFeast_138
            · skip
              refine lv_aload_n hx hb dX6_addFeast_72 rfl (lv_at hl 0 rfl) ?_
              refine q_iconst hx hb dX6_addFeast_73 ?_
              have hPc := hP.sub (ws' := [(a, .inr (8, [.int (iI (0)), .int (iI (σ 0)), .int (iI (σ 1)), .int (iI (σ 2)), .int (iI (σ 3)), .int (iI (σ 4)), .int (iI (σ 5)), .int (iI (σ 6)), .ref ta, .int (iI (σ 7)), .ref pa, .int (iI (σ 9)), .int (iI (σ 10))]))]) [0] rfl
              have hDc := hD.sub (ws' := [(a, .inr (8, [.int (iI (0)), .int (iI (σ 0)), .int (iI (σ 1)), .int (iI (σ 2)), .int (iI (σ 3)), .int (iI (σ 4)), .int (iI (σ 5)), .int (iI (σ 6)), .ref ta, .int (iI (σ 7)), .ref pa, .int (iI (σ 9)), .int (iI (σ 10))]))]) [0] (by decide) rfl
              have hFc := va_free (wc := [(a, .inr (8, [.int (iI (0)), .int (iI (σ 0)), .int (iI (σ 1)), .int (iI (σ 2)), .int (iI (σ 3)), .int (iI (σ 4)), .int (iI (σ 5)), .int (iI (σ 6)), .ref ta, .int (iI (σ 7)), .ref pa, .int (iI (σ 9)), .int (iI (σ 10))]))]) hD hS hA [0] rfl
              refine q_callU (fr := 0) (lo := 0) (nL := 7) (As := [.int (iI (2))]) (rest := []) ⟨hx, hb, hml, hown, hts⟩ (u_fail l D _ _ a (0) (2) _ _ _ _ _ _ _ _ _ _ _ _) (cwV 1 hts gX6_addFeast_X6_fail rfl rfl rfl (by decide +kernel) ⟨Nat.le_of_ble_eq_true rfl, Nat.le_of_ble_eq_true rfl⟩) (ob_recv (hP 0 _ rfl) hK rfl) hPc (hDc.weaken (fun _ _ _ _ => trivial)) hFc hS hK rfl hl.1 rfl (Nat.le_of_ble_eq_true rfl) dX6_addFeast_74 (Nat.le_of_ble_eq_true rfl) (Nat.le_of_ble_eq_true rfl) ?_
              intro r H1 locs1 hr1 hP1 hk1 hS1
              have hr2 := hr1 rfl
              subst hr2
              have hP1 := (hP1.resolve_right (fun z => z.1 rfl)).2
              have hP2 : va_P D vwCl ([(a, .inr (8, [.int (iI (2)), .int (iI (σ 0)), .int (iI (σ 1)), .int (iI (σ 2)), .int (iI (σ 3)), .int (iI (σ 4)), .int (iI (σ 5)), .int (iI (σ 6)), .ref ta, .int (iI (σ 7)), .ref pa, .int (iI (σ 9)), .int (iI (σ 10))])), (ta, .inl (cI, 40, .inl (fun q9 => iI (T q9)))), (pa, .inl (cI, 110, .inl (fun q9 => iI (P q9))))]) H1 := va_upd (A0 := fun _ => True) hP hk1 hP1 (by
                intro q hq
                simp only [List.mem_cons, List.not_mem_nil, or_false] at hq
                rcases hq with rfl | rfl | rfl
                · exact Or.inl (List.mem_of_getElem? (i := 0) rfl)
                · refine Or.inr ⟨List.mem_of_getElem? (i := 1) rfl, fun z hz => ?_⟩
                  simp only [List.mem_cons, List.not_mem_nil, or_false] at hz
                  rcases hz with rfl
                  · exact vaD_ne hD (i := 0) (j := 1) rfl rfl (by decide)
                · refine Or.inr ⟨List.mem_of_getElem? (i := 2) rfl, fun z hz => ?_⟩
                  simp only [List.mem_cons, List.not_mem_nil, or_false] at hz
                  rcases hz with rfl
                  · exact vaD_ne hD (i := 0) (j := 2) rfl rfl (by decide))
              have hD2 : va_D (va_A (WMo cI a ta pa th σ T P) sz) ([(a, .inr (8, [.int (iI (2)), .int (iI (σ 0)), .int (iI (σ 1)), .int (iI (σ 2)), .int (iI (σ 3)), .int (iI (σ 4)), .int (iI (σ 5)), .int (iI (σ 6)), .ref ta, .int (iI (σ 7)), .ref pa, .int (iI (σ 9)), .int (iI (σ 10))])), (ta, .inl (cI, 40, .inl (fun q9 => iI (T q9)))), (pa, .inl (cI, 110, .inl (fun q9 => iI (P q9))))]) := vaD_addr hD rfl
              clear hP hD hS hPc hDc hFc hP1 hk1
              have hP := hP2; have hD := hD2; have hS := hS1
              clear hP2 hD2 hS1
              generalize H1 = H at hP hS ⊢
              generalize locs1 = locs at hS ⊢
              have hER : (if (0 ≤ mo ∧ mo ≤ 11) ∧ (0 ≤ da ∧ da ≤ 29) ∧ (0 ≤ mn ∧ mn ≤ 3) ∧ (-1 ≤ wd ∧ wd ≤ 6) ∧ (-60 ≤ of ∧ of ≤ 60) then (if σ 6 = 8 then 2 else 0) else 1 : Int) = 2 := by (repeat' split) <;> omega
              exact q_uret (ws := []) hx hb hr hlocks hS (Or.inr ⟨by rw [hER]; decide, by rw [hER]; exact hP⟩) (fun h => absurd (hER.symm.trans h) (by decide)) (Nat.le_of_ble_eq_true rfl) (Nat.le_of_ble_eq_true rfl) dX6_addFeast_77
          · skip
            refine lv_aload_n hx hb dX6_addFeast_57 rfl (lv_at hl 0 rfl) ?_
            refine q_iconst hx hb dX6_addFeast_58 ?_
            have hPc := hP.sub (ws' := [(a, .inr (8, [.int (iI (0)), .int (iI (σ 0)), .int (iI (σ 1)), .int (iI (σ 2)), .int (iI (σ 3)), .int (iI (σ 4)), .int (iI (σ 5)), .int (iI (σ 6)), .ref ta, .int (iI (σ 7)), .ref pa, .int (iI (σ 9)), .int (iI (σ 10))]))]) [0] rfl
            have hDc := hD.sub (ws' := [(a, .inr (8, [.int (iI (0)), .int (iI (σ 0)), .int (iI (σ 1)), .int (iI (σ 2)), .int (iI (σ 3)), .int (iI (σ 4)), .int (iI (σ 5)), .int (iI (σ 6)), .ref ta, .int (iI (σ 7)), .ref pa, .int (iI (σ 9)), .int (iI (σ 10))]))]) [0] (by decide) rfl
            have hFc := va_free (wc := [(a, .inr (8, [.int (iI (0)), .int (iI (σ 0)), .int (iI (σ 1)), .int (iI (σ 2)), .int (iI (σ 3)), .int (iI (σ 4)), .int (iI (σ 5)), .int (iI (σ 6)), .ref ta, .int (iI (σ 7)), .ref pa, .int (iI (σ 9)), .int (iI (σ 10))]))]) hD hS hA [0] rfl
            refine q_callU (fr := 0) (lo := 0) (nL := 7) (As := [.int (iI (1))]) (rest := []) ⟨hx, hb, hml, hown, hts⟩ (u_fail l D _ _ a (0) (1) _ _ _ _ _ _ _ _ _ _ _ _) (cwV 1 hts gX6_addFeast_X6_fail rfl rfl rfl (by decide +kernel) ⟨Nat.le_of_ble_eq_true rfl, Nat.le_of_ble_eq_true rfl⟩) (ob_recv (hP 0 _ rfl) hK rfl) hPc (hDc.weaken (fun _ _ _ _ => trivial)) hFc hS hK rfl hl.1 rfl (Nat.le_of_ble_eq_true rfl) dX6_addFeast_59 (Nat.le_of_ble_eq_true rfl) (Nat.le_of_ble_eq_true rfl) ?_
            intro r H1 locs1 hr1 hP1 hk1 hS1
            have hr2 := hr1 rfl
            subst hr2
            have hP1 := (hP1.resolve_right (fun z => z.1 rfl)).2
            have hP2 : va_P D vwCl ([(a, .inr (8, [.int (iI (1)), .int (iI (σ 0)), .int (iI (σ 1)), .int (iI (σ 2)), .int (iI (σ 3)), .int (iI (σ 4)), .int (iI (σ 5)), .int (iI (σ 6)), .ref ta, .int (iI (σ 7)), .ref pa, .int (iI (σ 9)), .int (iI (σ 10))])), (ta, .inl (cI, 40, .inl (fun q9 => iI (T q9)))), (pa, .inl (cI, 110, .inl (fun q9 => iI (P q9))))]) H1 := va_upd (A0 := fun _ => True) hP hk1 hP1 (by
              intro q hq
              simp only [List.mem_cons, List.not_mem_nil, or_false] at hq
              rcases hq with rfl | rfl | rfl
              · exact Or.inl (List.mem_of_getElem? (i := 0) rfl)
              · refine Or.inr ⟨List.mem_of_getElem? (i := 1) rfl, fun z hz => ?_⟩
                simp only [List.mem_cons, List.not_mem_nil, or_false] at hz
                rcases hz with rfl
                · exact vaD_ne hD (i := 0) (j := 1) rfl rfl (by decide)
              · refine Or.inr ⟨List.mem_of_getElem? (i := 2) rfl, fun z hz => ?_⟩
                simp only [List.mem_cons, List.not_mem_nil, or_false] at hz
                rcases hz with rfl
                · exact vaD_ne hD (i := 0) (j := 2) rfl rfl (by decide))
            have hD2 : va_D (va_A (WMo cI a ta pa th σ T P) sz) ([(a, .inr (8, [.int (iI (1)), .int (iI (σ 0)), .int (iI (σ 1)), .int (iI (σ 2)), .int (iI (σ 3)), .int (iI (σ 4)), .int (iI (σ 5)), .int (iI (σ 6)), .ref ta, .int (iI (σ 7)), .ref pa, .int (iI (σ 9)), .int (iI (σ 10))])), (ta, .inl (cI, 40, .inl (fun q9 => iI (T q9)))), (pa, .inl (cI, 110, .inl (fun q9 => iI (P q9))))]) := vaD_addr hD rfl
            clear hP hD hS hPc hDc hFc hP1 hk1
            have hP := hP2; have hD := hD2; have hS := hS1
            clear hP2 hD2 hS1
            generalize H1 = H at hP hS ⊢
            generalize locs1 = locs at hS ⊢
            have hER : (if (0 ≤ mo ∧ mo ≤ 11) ∧ (0 ≤ da ∧ da ≤ 29) ∧ (0 ≤ mn ∧ mn ≤ 3) ∧ (-1 ≤ wd ∧ wd ≤ 6) ∧ (-60 ≤ of ∧ of ≤ 60) then (if σ 6 = 8 then 2 else 0) else 1 : Int) = 1 := by (repeat' split) <;> omega
            exact q_uret (ws := []) hx hb hr hlocks hS (Or.inr ⟨by rw [hER]; decide, by rw [hER]; exact hP⟩) (fun h => absurd (hER.symm.trans h) (by decide)) (Nat.le_of_ble_eq_true rfl) (Nat.le_of_ble_eq_true rfl) dX6_addFeast_62
