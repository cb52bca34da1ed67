/-! ===== methods that may throw: rows for 'throw new E(text)' of the class, and ends ===== -/
abbrev nIA : String := "java/lang/IllegalArgumentException"
abbrev nIO : String := "java/lang/IndexOutOfBoundsException"
abbrev nIS : String := "java/lang/IllegalStateException"
abbrev xnames : List String := ["java/lang/RuntimeException", "java/lang/Exception"]
/-- the class's own texts -/
def xstrs : List (Nat × String) := [(242, "counts tell 0 to 10"), (210, "no such sheet"), (232, "sheets tell 0 to 4"), (42, "no such cycle of leap years"), (56, "no such moons"), (67, "no such nodes"), (79, "no such year"), (84, "no such month"), (90, "no such day"), (116, "dates tell 0 to 4"), (126, "no such moon"), (160, "no such month, day or number of moons"), (162, "no such weekday or offset"), (170, "there are 8 feasts"), (182, "no such feast"), (196, "there are 10 sheets"), (234, "no such feast on the sheet"), (244, "off is 0 to 5000")]
/-- what the heap holds for a throw, out of A's reach -/
def XA (A : Nat → Prop) (U : State) (H : Heap) : Prop := vx_Zq Bundle.tN "UNASSIGNED_STACK" Bundle.steD A U H ∧ vx_Zq Bundle.tN "SUPPRESSED_SENTINEL" Bundle.listD A U H
/-- what the tables hold for a throw -/
abbrev nRT : String := "java/lang/RuntimeException"
abbrev nEx : String := "java/lang/Exception"
def XT (U : State) : Prop := ((va_Nw (.castable nIA nIA) U ∧ va_Nw (.castable nIO nIO) U ∧ va_Nw (.castable nIS nIS) U) ∧ va_Nw (.declares (Bundle.initS nRT)) U ∧ va_Nw (.declares (Bundle.initS nEx)) U ∧ va_Nw (.declares (Bundle.initS Bundle.tN)) U) ∧ ∀ q ∈ xstrs, ∃ a : Nat, vk_R RX5 q.1 q.2 a U
theorem XA.to {A B : Nat → Prop} {s U : State} {H : Heap} {locs : List Loc} (h : XA A s s.heap) (hS : va_S A s.heap H locs) (hvm : s.vm.Alike U.vm) (hAB : ∀ q, B q → A q) : XA B U H := by
  have hk : ∀ a : Nat, a < s.heap.size → ¬ A a → H[a]? = s.heap[a]? := fun a h1 h2 => hS.2.1 a h1 h2
  exact ⟨((h.1.kept hk).narrow hAB).moved hvm, ((h.2.kept hk).narrow hAB).moved hvm⟩
theorem XT.warm {s U : State} (hW : s.WarmedH U.vm) (h : XT s) : XT U := ⟨⟨⟨va_Nw.warmC hW h.1.1.1, va_Nw.warmC hW h.1.1.2.1, va_Nw.warmC hW h.1.1.2.2⟩, va_Nw.warmD hW h.1.2.1, va_Nw.warmD hW h.1.2.2.1, va_Nw.warmD hW h.1.2.2.2⟩, fun q hq => by obtain ⟨a, ha⟩ := h.2 q hq; exact ⟨a, vk_R.warm hW ha⟩⟩
theorem XT.same {s U : State} (hv : U.vm = s.vm) (h : XT s) : XT U := ⟨⟨⟨va_Nw.same rfl hv.symm h.1.1.1, va_Nw.same rfl hv.symm h.1.1.2.1, va_Nw.same rfl hv.symm h.1.1.2.2⟩, va_Nw.same rfl hv.symm h.1.2.1, va_Nw.same rfl hv.symm h.1.2.2.1, va_Nw.same rfl hv.symm h.1.2.2.2⟩, fun q hq => by obtain ⟨a, ha⟩ := h.2 q hq; exact ⟨a, vk_R.same hv ha⟩⟩
theorem x_IA_n : ∀ w ∈ (vx_atS RX5 44 nIA xnames).filter (fun w => !goodWord w), w ∈ [Cond.castable nIA nIA, Cond.declares (Bundle.initS nRT), Cond.declares (Bundle.initS nEx), Cond.declares (Bundle.initS Bundle.tN)] := by decide +kernel
theorem x_IO_n : ∀ w ∈ (vx_atS RX5 118 nIO xnames).filter (fun w => !goodWord w), w ∈ [Cond.castable nIO nIO, Cond.declares (Bundle.initS nRT), Cond.declares (Bundle.initS nEx), Cond.declares (Bundle.initS Bundle.tN)] := by decide +kernel
theorem x_IS_n : ∀ w ∈ (vx_atS RX5 172 nIS xnames).filter (fun w => !goodWord w), w ∈ [Cond.castable nIS nIS, Cond.declares (Bundle.initS nRT), Cond.declares (Bundle.initS nEx), Cond.declares (Bundle.initS Bundle.tN)] := by decide +kernel
theorem x_IA_ot : ∀ w ∈ Cond.classLink RX5 40 nIA :: Cond.initialized nIA :: vx_atS RX5 44 nIA xnames, vx_ot w = true := by decide +kernel
theorem x_IO_ot : ∀ w ∈ Cond.classLink RX5 114 nIO :: Cond.initialized nIO :: vx_atS RX5 118 nIO xnames, vx_ot w = true := by decide +kernel
theorem x_IS_ot : ∀ w ∈ Cond.classLink RX5 168 nIS :: Cond.initialized nIS :: vx_atS RX5 172 nIS xnames, vx_ot w = true := by decide +kernel
theorem x_four {s : State} {args : Array Value} {w : Cond} (hw : w.onTables = true) (h : va_Nw w s) (hT : XT s) : ∀ w' ∈ [w, Cond.declares (Bundle.initS nRT), Cond.declares (Bundle.initS nEx), Cond.declares (Bundle.initS Bundle.tN)], w'.before args s = true :=
  vx_c (va_Nw.use hw h) (vx_c (va_Nw.use rfl hT.1.2.1) (vx_c (va_Nw.use rfl hT.1.2.2.1) (vx_c (va_Nw.use rfl hT.1.2.2.2) vx_n)))
theorem x_IA {s : State} {args : Array Value} (h1 : ∀ w ∈ (vx_atS RX5 44 nIA xnames).filter goodWord, w.before args s = true) (hT : XT s) : ∀ w ∈ vx_atS RX5 44 nIA xnames, w.before args s = true := vx_hat h1 x_IA_n (x_four rfl hT.1.1.1 hT)
theorem x_IO {s : State} {args : Array Value} (h1 : ∀ w ∈ (vx_atS RX5 118 nIO xnames).filter goodWord, w.before args s = true) (hT : XT s) : ∀ w ∈ vx_atS RX5 118 nIO xnames, w.before args s = true := vx_hat h1 x_IO_n (x_four rfl hT.1.1.2.1 hT)
theorem x_IS {s : State} {args : Array Value} (h1 : ∀ w ∈ (vx_atS RX5 172 nIS xnames).filter goodWord, w.before args s = true) (hT : XT s) : ∀ w ∈ vx_atS RX5 172 nIS xnames, w.before args s = true := vx_hat h1 x_IS_n (x_four rfl hT.1.1.2.2 hT)
/-- what a throw leaves: which one, why, and all old things as they were -/
abbrev xBX (n1 n2 : String) (er : Int) : String → State → State → Prop := vx_X (fun _ : Unit => True) (fun E _ _ => (E = n1 ∧ er = 1) ∨ (E = n2 ∧ er = 2)) (fun _ => False)
section QX
variable {p : Program} {l : Launch} {e : Env} {R : Room} {s : State} {m : MethodId} {args : Array Value} {below : List Frame} {meth : Method} {c : Code} {cc : ByteArray} {pc : Nat} {ls : Array Slot} {rest : List Value} {Qc : Array Value → State → Outcome → State → Prop} {n1 n2 : String} {er : Int} {mc ms : Nat} {free : Addr → Prop}
theorem q_throw {cls text : String} {ik is ic : Nat} (hx : p.tables.exec = Jvm.exec) (hb : c.code = cc) (hl : l.stackTraces = false) (hown : s.vm.findClass RX5 = some m.cls) (hcls : Bundle.fit cls = true) (hk : (Cond.classLink RX5 ik cls).before args s = true) (hini : (Cond.initialized cls).before args s = true)
    (hX : XA (fun q => s.heap.size ≤ q) s s.heap) (hT : XT s) (hmem : (is, text) ∈ xstrs) (hat : ∀ w ∈ vx_atS RX5 ic cls xnames, w.before args s = true) (hgood : ∀ w ∈ Cond.classLink RX5 ik cls :: Cond.initialized cls :: vx_atS RX5 ic cls xnames, vx_ot w = true) (hsize : ls.size = c.maxLocals)
    (d0 : decode cc pc = .ok (.new ik, 3)) (d3 : decode cc (pc + 3) = .ok (.dup, 1)) (d4 : decode cc (pc + 4) = .ok (.ldc is, 2)) (d6 : decode cc (pc + 6) = .ok (.invokespecial ic, 3)) (d9 : decode cc (pc + 9) = .ok (.athrow, 1))
    (hout : ∀ x ∈ c.exceptionTable.toList, False) (hRframes : 5 < R.frames) (hRlocals : (rest.map fun v => v.category).sum + 82 ≤ R.locals) (hRcells : 1 ≤ R.cells) (hRslots : 6 ≤ R.slots) (hlocks : meth.locks = false) (hmc : 1 ≤ mc) (hms : 6 ≤ ms)
    (hE : (cls = n1 ∧ er = 1) ∨ (cls = n2 ∧ er = 2)) : W p l e R s m args below meth c s.heap [] 0 0 (vx_MQ below Qc (xBX n1 n2 er) args s mc ms free) (F0 m pc ls rest) := by
  obtain ⟨sa, hstr⟩ := hT.2 _ hmem
  exact vx_throwS hx hb hl hown hcls (by decide) hk hini hstr hat hgood hX.1 hX.2 va_S.rf hsize d0 d3 d4 d6 d9 (fun x hx => (hout x hx).elim) hRframes hRlocals (by omega) (by omega) hlocks
    (fun t _ h1 h2 => ⟨(), trivial, hE, h1, fun q hq _ => h2 q hq⟩) (fun z hz => absurd hz List.not_mem_nil) (by omega) (by omega)
theorem q_xiret {v a : Int} {XC : String → State → State → Prop} (hx : p.tables.exec = Jvm.exec) (hb : c.code = cc) (hr : meth.sig.returnType = some .int) (hlocks : meth.locks = false) (he : er = 0) (hv : a = v) (hdg : decode cc pc = .ok (.ireturn, 1)) : W p l e R s m args below meth c s.heap [] 0 0 (vx_MQ below (va_Qi (fun (r : Int32) (_ : Unit) => er = 0 ∧ r = iI v) (fun _ _ => True) (fun _ => False)) XC args s mc ms free) (F0 m pc ls [.int (iI a)]) :=
  W.widen (Nat.zero_le mc) (Nat.zero_le ms) (vx_ret (W.iret hx hb hr (fun t ht _ => ⟨⟨iI a, (), rfl, ⟨he, by rw [hv]⟩, trivial⟩, by rw [ht]; exact Nat.le_refl _, fun q _ _ => by rw [ht]⟩) (fun q hq => absurd hq List.not_mem_nil) hdg hlocks))
theorem q_xzret {v a : Int} {XC : String → State → State → Prop} (hx : p.tables.exec = Jvm.exec) (hb : c.code = cc) (hr : meth.sig.returnType = some .boolean) (hlocks : meth.locks = false) (hz : a = 0 ∨ a = 1) (he : er = 0) (hv : a = v) (hdg : decode cc pc = .ok (.ireturn, 1)) : W p l e R s m args below meth c s.heap [] 0 0 (vx_MQ below (va_Qi (fun (r : Int32) (_ : Unit) => er = 0 ∧ r = iI v) (fun _ _ => True) (fun _ => False)) XC args s mc ms free) (F0 m pc ls [.int (iI a)]) :=
  W.widen (Nat.zero_le mc) (Nat.zero_le ms) (vx_ret (W.zret hx hb hr (iI_z hz) (fun t ht _ => ⟨⟨iI a, (), rfl, ⟨he, by rw [hv]⟩, trivial⟩, by rw [ht]; exact Nat.le_refl _, fun q _ _ => by rw [ht]⟩) (fun q hq => absurd hq List.not_mem_nil) hdg hlocks))
end QX
/-- what a method that may throw asks of its start -/
abbrev pcX (D : va_G) (tys : List (ClassId × FieldType)) (sz : Nat) (Pic : Heap → Prop) (av : List Value) : Array Value → State → Prop := va_Pc av (fun U => U.heap.size = sz ∧ Pic U.heap ∧ va_K D vwCl tys U ∧ XA (fun q => U.heap.size ≤ q) U U.heap ∧ XT U)
/-- a method that changes nothing and answers an int, or throws -/
def MX (l : Launch) (y : MethodName) (ws : List Cond) (fr lo : Nat) (D : va_G) (tys : List (ClassId × FieldType)) (sz : Nat) (Pic : Heap → Prop) (av : List Value) (n1 n2 : String) (er v : Int) : Prop := vx_Met l y ws { frames := fr, cells := 1, slots := 6, locals := lo } (pcX D tys sz Pic av) (va_Qi (fun (r : Int32) (_ : Unit) => er = 0 ∧ r = iI v) (fun _ _ => True) (fun _ => False)) (xBX n1 n2 er) 1 6 (fun q => sz ≤ q)
theorem pcX_blind {D : va_G} {tys : List (ClassId × FieldType)} {sz : Nat} {Pic : Heap → Prop} {av : List Value} : FrameBlind (pcX D tys sz Pic av) := fun a U g mk q => ⟨q.1, q.2.1, q.2.2.1, va_K.moved (u := U) (U := U.calling g mk a) (Vm.Alike.refl U.vm) q.2.2.2.1, ⟨q.2.2.2.2.1.1.moved (Vm.Alike.refl U.vm), q.2.2.2.2.1.2.moved (Vm.Alike.refl U.vm)⟩, XT.same rfl q.2.2.2.2.2⟩
theorem MX_of {l : Launch} {y : MethodName} {ws ws' : List Cond} {fr lo : Nat} {D : va_G} {tys : List (ClassId × FieldType)} {sz : Nat} {Pic : Heap → Prop} {av : List Value} {n1 n2 : String} {er v : Int} {cc : ByteArray} {maxL : Nat} {ret : Option FieldType} (hy : plainName y.cls = true) (hw : ws = Cond.code y cc maxL ret :: ws') (hlen : (lg_sl av).length ≤ maxL)
    (body : ∀ (p : Program) (e : Env) (s : State) (m : MethodId) (args : Array Value) (below : List Frame) (meth : Method) (c : Code) (ls : Array Slot), p.tables.exec = Jvm.exec → c.code = cc → meth.sig.returnType = ret → meth.locks = false → c.maxLocals = maxL → (∀ x ∈ c.exceptionTable.toList, False) → s.vm.findClass y.cls = some m.cls → (∀ w ∈ ws, w.before args s = true) → s.heap.size = sz → Pic s.heap → va_K D vwCl tys s → XA (fun q => s.heap.size ≤ q) s s.heap → XT s → lv_has ls maxL (lv_args 0 av) →
      W p l e { frames := fr, cells := 1, slots := 6, locals := lo } s m args below meth c s.heap [] 0 0 (vx_MQ below (va_Qi (fun (r : Int32) (_ : Unit) => er = 0 ∧ r = iI v) (fun _ _ => True) (fun _ => False)) (xBX n1 n2 er) args s 1 6 (fun q => sz ≤ q)) (F0 m 0 ls [])) : MX l y ws fr lo D tys sz Pic av n1 n2 er v := by
  refine vx_ofW (cc := cc) (maxL := maxL) (ret := ret) hy hw ?_
  intro p e s m args below meth c s₁ B hml hno hv
  obtain ⟨rfl, hsz, hPic, hK, hX, hT⟩ := hv
  rw [lg_entry_eq]
  exact body p e s m _ below meth c _ B.exec B.bytes B.returns B.notSynchronized hml hno (findClass_of_methodNamed B.named) (atoms_spec (ws := ws) B.pre) hsz hPic hK hX hT (lv_entry av hlen)
