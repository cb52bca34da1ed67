/-! ===== methods that change the heap: worlds whose cells keep their places ===== -/
def st (f : Nat → Int) (k : Nat) (v : Int) : Nat → Int := fun j => if j = k then v else f j
theorem st_eq (f : Nat → Int) (k : Nat) (v : Int) : st f k v k = v := if_pos rfl
theorem st_ne {f : Nat → Int} {k : Nat} {v : Int} {j : Nat} (h : j ≠ k) : st f k v j = f j := if_neg h
theorem st_upd (f : Nat → Int) (k : Nat) (v : Int) : upd (fun j => iI (f j)) k (iI v) = fun j => iI (st f k v j) := by
  funext j
  unfold upd st
  split <;> rfl
theorem vaD_addr {A : Nat → Prop} {ws ws' : va_W} (hD : va_D A ws) (h : ws'.map (·.1) = ws.map (·.1)) : va_D A ws' := by
  have key : ∀ (k : Nat) (q : Nat × va_E), ws'[k]? = some q → ∃ q2, ws[k]? = some q2 ∧ q2.1 = q.1 := by
    intro k q hk
    have h1 : (ws'.map (·.1))[k]? = some q.1 := by rw [List.getElem?_map, hk]; rfl
    rw [h, List.getElem?_map] at h1
    cases h2 : ws[k]? with
    | none => rw [h2] at h1; cases h1
    | some q2 => rw [h2] at h1; exact ⟨q2, rfl, Option.some.inj h1⟩
  refine ⟨fun i j x y hi hj hxy => ?_, fun k q hk => ?_⟩
  · obtain ⟨x2, a1, a2⟩ := key i x hi
    obtain ⟨y2, b1, b2⟩ := key j y hj
    exact hD.1 i j x2 y2 a1 b1 (by rw [a2, b2, hxy])
  · obtain ⟨q2, a1, a2⟩ := key k q hk
    rw [← a2]
    exact hD.2 k q2 a1
/-- behind a call: the cells that the callee had as it left them, the others as they were -/
theorem va_upd {A0 : Nat → Prop} {D : va_G} {ws ws' wc w1 : va_W} {H H1 : Heap} (hP : va_P D vwCl ws H) (hk : ∀ q : Nat, q < H.size → ¬ va_A wc H.size q → H1[q]? = H[q]?) (hP1 : va_P D vwCl w1 H1) (hsame : ∀ q ∈ ws', q ∈ w1 ∨ (q ∈ ws ∧ ∀ z ∈ wc, z.1 ≠ q.1)) : va_P D vwCl ws' H1 := by
  intro k q hq
  rcases hsame q (List.mem_of_getElem? hq) with h | ⟨h, hn⟩
  · exact vaP_mem hP1 h
  · have h1 := vaP_mem hP h
    refine h1.kept (hk q.1 h1.lt ?_)
    intro hA
    rcases hA with ⟨j, e, hj⟩ | hA
    · exact hn _ (List.mem_of_getElem? hj) rfl
    · exact absurd h1.lt (Nat.not_lt.mpr hA)
/-- nothing of what was there has changed -/
theorem vaP_keep {D : va_G} {ws : va_W} {H H1 : Heap} (hP : va_P D vwCl ws H) (hk : ∀ q : Nat, q < H.size → H1[q]? = H[q]?) : va_P D vwCl ws H1 := hP.kept (fun k q hq => hk q.1 (hP k q hq).lt)
theorem vaD_ne {A : Nat → Prop} {ws : va_W} (hD : va_D A ws) {i j : Nat} {p q : Nat × va_E} (hi : ws[i]? = some p) (hj : ws[j]? = some q) (hij : i ≠ j) : p.1 ≠ q.1 := fun h => hij (hD.1 i j p q hi hj h)
abbrev pcW (D : va_G) (tys : List (ClassId × FieldType)) (sz : Nat) (w0 : va_W) (av : List Value) : Array Value → State → Prop := va_Pc av (fun U => U.heap.size = sz ∧ va_P D vwCl w0 U.heap ∧ va_K D vwCl tys U ∧ va_D (fun _ => True) w0)
theorem pcW_blind {D : va_G} {tys : List (ClassId × FieldType)} {sz : Nat} {w0 : va_W} {av : List Value} : FrameBlind (pcW D tys sz w0 av) := fun a U g mk q => ⟨q.1, q.2.1, q.2.2.1, va_K.moved (u := U) (U := U.calling g mk a) (Vm.Alike.refl U.vm) q.2.2.2.1, q.2.2.2.2⟩
/-- a method that answers an int and leaves one world if er is 0, another one if it isn't -/
def MU (l : Launch) (y : MethodName) (ws : List Cond) (fr lo mc ms : Nat) (D : va_G) (tys : List (ClassId × FieldType)) (sz : Nat) (w0 : va_W) (av : List Value) (er v : Int) (wok wf : va_W) : Prop := Met l y ws { frames := fr, cells := mc, slots := ms, locals := lo } (pcW D tys sz w0 av) (va_Qi (fun (r : Int32) (_ : Unit) => er = 0 → r = iI v) (fun _ t => (er = 0 ∧ va_P D vwCl wok t.heap) ∨ (er ≠ 0 ∧ va_P D vwCl wf t.heap)) (va_A w0 sz)) mc ms (va_A w0 sz)
/-- .. that answers nothing -/
def MV (l : Launch) (y : MethodName) (ws : List Cond) (fr lo mc ms : Nat) (D : va_G) (tys : List (ClassId × FieldType)) (sz : Nat) (w0 : va_W) (av : List Value) (w1 : va_W) : Prop := Met l y ws { frames := fr, cells := mc, slots := ms, locals := lo } (pcW D tys sz w0 av) (va_Qv (fun (_ : Unit) => True) (fun _ t => va_P D vwCl w1 t.heap) (va_A w0 sz)) mc ms (va_A w0 sz)
section QU
variable {p : Program} {l : Launch} {e : Env} {R : Room} {s : State} {m : MethodId} {args : Array Value} {below : List Frame} {meth : Method} {c : Code} {H : Heap} {locs : List Loc} {cells slots : Nat} {Q : State → Prop} {cc : ByteArray} {pc : Nat} {ls : Array Slot} {rest : List Value} {A A0 : Nat → Prop} {H0 : Heap} {mc ms : Nat}
theorem q_uret {D : va_G} {w0 wok wf ws : va_W} {sz : Nat} {er v a : Int} (hx : p.tables.exec = Jvm.exec) (hb : c.code = cc) (hr : meth.sig.returnType = some .int) (hlocks : meth.locks = false) (hS : va_S (va_A w0 sz) s.heap H locs) (hP : (er = 0 ∧ va_P D vwCl wok H) ∨ (er ≠ 0 ∧ va_P D vwCl wf H)) (hv : er = 0 → a = v) (hmc : cells ≤ mc) (hms : slots ≤ ms) (hdg : decode cc pc = .ok (.ireturn, 1)) : W p l e R s m args below meth c H locs cells slots (MQ below (va_Qi (fun (r : Int32) (_ : Unit) => er = 0 → r = iI v) (fun _ t => (er = 0 ∧ va_P D vwCl wok t.heap) ∨ (er ≠ 0 ∧ va_P D vwCl wf t.heap)) (va_A w0 sz)) args s mc ms (va_A w0 sz)) (F0 m pc ls [.int (iI a)]) :=
  W.widen hmc hms (W.iret hx hb hr (fun t ht _ => ⟨⟨iI a, (), rfl, fun h => by rw [hv h], by subst ht; exact hP⟩, hS.F ht⟩) hS.2.2 hdg hlocks)
theorem q_uzret {D : va_G} {w0 wok wf ws : va_W} {sz : Nat} {er v a : Int} (hx : p.tables.exec = Jvm.exec) (hb : c.code = cc) (hr : meth.sig.returnType = some .boolean) (hlocks : meth.locks = false) (hz : a = 0 ∨ a = 1) (hS : va_S (va_A w0 sz) s.heap H locs) (hP : (er = 0 ∧ va_P D vwCl wok H) ∨ (er ≠ 0 ∧ va_P D vwCl wf H)) (hv : er = 0 → a = v) (hmc : cells ≤ mc) (hms : slots ≤ ms) (hdg : decode cc pc = .ok (.ireturn, 1)) : W p l e R s m args below meth c H locs cells slots (MQ below (va_Qi (fun (r : Int32) (_ : Unit) => er = 0 → r = iI v) (fun _ t => (er = 0 ∧ va_P D vwCl wok t.heap) ∨ (er ≠ 0 ∧ va_P D vwCl wf t.heap)) (va_A w0 sz)) args s mc ms (va_A w0 sz)) (F0 m pc ls [.int (iI a)]) :=
  W.widen hmc hms (W.zret hx hb hr (iI_z hz) (fun t ht _ => ⟨⟨iI a, (), rfl, fun h => by rw [hv h], by subst ht; exact hP⟩, hS.F ht⟩) hS.2.2 hdg hlocks)
theorem q_vret {D : va_G} {w0 w1 : va_W} {sz : Nat} (hx : p.tables.exec = Jvm.exec) (hb : c.code = cc) (hr : meth.sig.returnType = none) (hlocks : meth.locks = false) (hS : va_S (va_A w0 sz) s.heap H locs) (hP : va_P D vwCl w1 H) (hmc : cells ≤ mc) (hms : slots ≤ ms) (hdg : decode cc pc = .ok (.return_, 1)) : W p l e R s m args below meth c H locs cells slots (MQ below (va_Qv (fun (_ : Unit) => True) (fun _ t => va_P D vwCl w1 t.heap) (va_A w0 sz)) args s mc ms (va_A w0 sz)) (F0 m pc ls []) :=
  W.widen hmc hms (W.vret hx hb hr (fun t ht _ => ⟨⟨(), rfl, trivial, by subst ht; exact hP⟩, hS.F ht⟩) hS.2.2 hdg hlocks)
/-- a call of a method that changes a part wc of the world -/
theorem q_callU {D : va_G} {tys : List (ClassId × FieldType)} {wc wok wf : va_W} {er v : Int} {fr lo : Nat} {y : MethodName} {bytes : ByteArray} {maxL nL n index : Nat} {ret : Option FieldType} {ws : List Cond} {Ts : List Cond} {own C : String} {b : Addr} {As st0 : List Value}
    (S : CallFix p m c cc nL s args Ts own) (hM : MU l y ws fr lo mc ms D tys H.size wc (.ref b :: As) er v wok wf) (cw : CallW R s args own C index y bytes maxL ret ws { frames := fr, cells := mc, slots := ms, locals := lo } mc ms n) (hrec : ∃ cell : Cell, H[b]? = some cell ∧ cell.vm.isStatics = false ∧ s.vm.findClass C = some cell.cls) (hPc : va_P D vwCl wc H) (hDc : va_D (fun _ => True) wc) (hFc : ∀ q, va_A wc H.size q → A0 q) (hS : va_S A0 s.heap H locs) (hK : va_K D vwCl tys s)
    (hn : As.length = n) (hsize : ls.size = nL) (hst : st0 = As.reverse ++ .ref b :: rest) (hroom : (rest.map fun v => v.category).sum ≤ 8) (hdg : decode cc pc = .ok (.invokevirtual index, 3)) (hc : cells + mc ≤ R.cells) (hs : slots + ms ≤ R.slots)
    (kk : ∀ (r : Int32) (H1 : Heap) (locs1 : List Loc), (er = 0 → r = iI v) → ((er = 0 ∧ va_P D vwCl wok H1) ∨ (er ≠ 0 ∧ va_P D vwCl wf H1)) → (∀ q : Nat, q < H.size → ¬ va_A wc H.size q → H1[q]? = H[q]?) → va_S A0 s.heap H1 locs1 → W p l e R s m args below meth c H1 locs1 (cells + mc) (slots + ms) Q (F0 m (pc + 3) ls (.int r :: rest))) : W p l e R s m args below meth c H locs cells slots Q (F0 m pc ls st0) :=
  va_calli (va_runV S hM cw ⟨pcW_blind, hrec, fun U hU hW => ⟨rfl, by rw [hU], by rw [hU]; exact hPc, va_K.moved hW.alike hK, hDc⟩⟩ rfl hn hsize hst (lv_room hroom) hdg ⟨hc, hs⟩) hS (fun q _ h => hFc q h) hFc
    (fun r u t H1 locs1 ht _ hp hB _ hk1 hS1 => kk r H1 locs1 hp (by rw [ht] at hB; exact hB) hk1 hS1)
theorem q_callUv {D : va_G} {tys : List (ClassId × FieldType)} {wc w1 : va_W} {fr lo : Nat} {y : MethodName} {bytes : ByteArray} {maxL nL n index : Nat} {ret : Option FieldType} {ws : List Cond} {Ts : List Cond} {own C : String} {b : Addr} {As st0 : List Value}
    (S : CallFix p m c cc nL s args Ts own) (hM : MV l y ws fr lo mc ms D tys H.size wc (.ref b :: As) w1) (cw : CallW R s args own C index y bytes maxL ret ws { frames := fr, cells := mc, slots := ms, locals := lo } mc ms n) (hrec : ∃ cell : Cell, H[b]? = some cell ∧ cell.vm.isStatics = false ∧ s.vm.findClass C = some cell.cls) (hPc : va_P D vwCl wc H) (hDc : va_D (fun _ => True) wc) (hFc : ∀ q, va_A wc H.size q → A0 q) (hS : va_S A0 s.heap H locs) (hK : va_K D vwCl tys s)
    (hn : As.length = n) (hsize : ls.size = nL) (hst : st0 = As.reverse ++ .ref b :: rest) (hroom : (rest.map fun v => v.category).sum ≤ 8) (hdg : decode cc pc = .ok (.invokevirtual index, 3)) (hc : cells + mc ≤ R.cells) (hs : slots + ms ≤ R.slots)
    (kk : ∀ (H1 : Heap) (locs1 : List Loc), va_P D vwCl w1 H1 → (∀ q : Nat, q < H.size → ¬ va_A wc H.size q → H1[q]? = H[q]?) → va_S A0 s.heap H1 locs1 → W p l e R s m args below meth c H1 locs1 (cells + mc) (slots + ms) Q (F0 m (pc + 3) ls rest)) : W p l e R s m args below meth c H locs cells slots Q (F0 m pc ls st0) :=
  va_callv (va_runV S hM cw ⟨pcW_blind, hrec, fun U hU hW => ⟨rfl, by rw [hU], by rw [hU]; exact hPc, va_K.moved hW.alike hK, hDc⟩⟩ rfl hn hsize hst (lv_room hroom) hdg ⟨hc, hs⟩) hS (fun q _ h => hFc q h) hFc
    (fun u t H1 locs1 ht _ hp hB _ hk1 hS1 => kk H1 locs1 (by rw [ht] at hB; exact hB) hk1 hS1)
theorem q_iast (hx : p.tables.exec = Jvm.exec) (hb : c.code = cc) {D : va_G} {tys : List (ClassId × FieldType)} {ws : va_W} {a : Nat} (hK : va_K D vwCl tys s) (hP : va_P D vwCl ws H) (hD : va_D A ws) (hS : va_S A H0 H locs) (q0 t0 : Nat) {cA : ClassId} {n : Nat} {f : Nat → Int} (ha : ws[q0]? = some (a, .inl (cA, n, .inl (fun j => iI (f j))))) (ht : tys[t0]? = some (cA, .int)) {i x : Int} (k : Nat) (hi : i = (k : Int)) (hk : k < n) (hn : n < 2147483648) (hdg : decode cc pc = .ok (.iastore, 1))
    (kk : ∀ (H1 : Heap) (locs1 : List Loc), va_P D vwCl (ws.set q0 (a, .inl (cA, n, .inl (fun j => iI (st f k x j))))) H1 → va_D A (ws.set q0 (a, .inl (cA, n, .inl (fun j => iI (st f k x j))))) → va_S A H0 H1 locs1 → W p l e R s m args below meth c H1 locs1 cells slots Q (F0 m (pc + 1) ls rest)) : W p l e R s m args below meth c H locs cells slots Q (F0 m pc ls (.int (iI x) :: .int (iI i) :: .ref a :: rest)) := by
  refine va_iast hx hb hK hP hD hS q0 t0 ha ht (iI_in (by omega) hn) hdg ?_
  rw [iI_cl (by omega), show i.toNat = k by omega, st_upd]
  exact kk
end QU
theorem MU_of {l : Launch} {y : MethodName} {ws ws' : List Cond} {fr lo mc ms : Nat} {D : va_G} {tys : List (ClassId × FieldType)} {sz : Nat} {w0 wok wf : va_W} {av : List Value} {er v : Int} {cc : ByteArray} {maxL : Nat} {ret : Option FieldType} (hy : plainName y.cls = true) (hw : ws = Cond.code y cc maxL ret :: ws') (hlen : (lg_sl av).length ≤ maxL)
    (body : ∀ (p : Program) (e : Env) (s : State) (m : MethodId) (args : Array Value) (below : List Frame) (meth : Method) (c : Code) (ls : Array Slot), p.tables.exec = Jvm.exec → c.code = cc → meth.sig.returnType = ret → meth.locks = false → c.maxLocals = maxL → s.vm.findClass y.cls = some m.cls → (∀ w ∈ ws, w.before args s = true) → s.heap.size = sz → va_P D vwCl w0 s.heap → va_K D vwCl tys s → va_D (va_A w0 sz) w0 → va_S (va_A w0 sz) s.heap s.heap [] → (∀ q : Nat, s.heap.size ≤ q → va_A w0 sz q) → lv_has ls maxL (lv_args 0 av) →
      W p l e { frames := fr, cells := mc, slots := ms, locals := lo } s m args below meth c s.heap [] 0 0 (MQ below (va_Qi (fun (r : Int32) (_ : Unit) => er = 0 → r = iI v) (fun _ t => (er = 0 ∧ va_P D vwCl wok t.heap) ∨ (er ≠ 0 ∧ va_P D vwCl wf t.heap)) (va_A w0 sz)) args s mc ms (va_A w0 sz)) (F0 m 0 ls [])) : MU l y ws fr lo mc ms D tys sz w0 av er v wok wf := by
  refine Met.ofW (cc := cc) (maxL := maxL) (ret := ret) hy hw ?_
  intro p e s m args below meth c s₁ B hml hv
  obtain ⟨rfl, hsz, hP, hK, hD⟩ := hv
  rw [lg_entry_eq]
  exact body p e s m _ below meth c _ B.exec B.bytes B.returns B.notSynchronized hml (findClass_of_methodNamed B.named) (atoms_spec (ws := ws) B.pre) hsz hP hK (hD.self) va_S.rf (fun q h => by rw [← hsz]; exact Or.inr h) (lv_entry av hlen)
theorem MV_of {l : Launch} {y : MethodName} {ws ws' : List Cond} {fr lo mc ms : Nat} {D : va_G} {tys : List (ClassId × FieldType)} {sz : Nat} {w0 w1 : va_W} {av : List Value} {cc : ByteArray} {maxL : Nat} {ret : Option FieldType} (hy : plainName y.cls = true) (hw : ws = Cond.code y cc maxL ret :: ws') (hlen : (lg_sl av).length ≤ maxL)
    (body : ∀ (p : Program) (e : Env) (s : State) (m : MethodId) (args : Array Value) (below : List Frame) (meth : Method) (c : Code) (ls : Array Slot), p.tables.exec = Jvm.exec → c.code = cc → meth.sig.returnType = ret → meth.locks = false → c.maxLocals = maxL → s.vm.findClass y.cls = some m.cls → (∀ w ∈ ws, w.before args s = true) → s.heap.size = sz → va_P D vwCl w0 s.heap → va_K D vwCl tys s → va_D (va_A w0 sz) w0 → va_S (va_A w0 sz) s.heap s.heap [] → (∀ q : Nat, s.heap.size ≤ q → va_A w0 sz q) → meth.name = y.name → lv_has ls maxL (lv_args 0 av) →
      W p l e { frames := fr, cells := mc, slots := ms, locals := lo } s m args below meth c s.heap [] 0 0 (MQ below (va_Qv (fun (_ : Unit) => True) (fun _ t => va_P D vwCl w1 t.heap) (va_A w0 sz)) args s mc ms (va_A w0 sz)) (F0 m 0 ls [])) : MV l y ws fr lo mc ms D tys sz w0 av w1 := by
  refine Met.ofW (cc := cc) (maxL := maxL) (ret := ret) hy hw ?_
  intro p e s m args below meth c s₁ B hml hv
  obtain ⟨rfl, hsz, hP, hK, hD⟩ := hv
  rw [lg_entry_eq]
  exact body p e s m _ below meth c _ B.exec B.bytes B.returns B.notSynchronized hml (findClass_of_methodNamed B.named) (atoms_spec (ws := ws) B.pre) hsz hP hK (hD.self) va_S.rf (fun q h => by rw [← hsz]; exact Or.inr h) (name_of_methodNamed B.named B.method).1 (lv_entry av hlen)
