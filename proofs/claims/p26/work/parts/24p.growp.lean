/-! ===== methods that make cells and answer an int, of a world that is only known by what holds of it ===== -/
def MGp (l : Launch) (y : MethodName) (ws : List Cond) (fr lo mc ms : Nat) (D : va_G) (tys : List (ClassId × FieldType)) (sz : Nat) (w0 : va_W) (av : List Value) (ed : Nat × Nat × Nat) (v : Int) {S : Type} (K : S → Prop) (w1 : S → va_W) : Prop := Met l y ws { frames := fr, cells := mc, slots := ms, locals := lo } (pcY D tys sz w0 av ed) (va_Qi (fun (r : Int32) (u : S) => r = iI v ∧ K u) (fun u t => va_P D vwCl (w1 u) t.heap ∧ va_D (va_A w0 sz) (w1 u)) (va_A w0 sz)) mc ms (va_A w0 sz)
section QGP
variable {p : Program} {l : Launch} {e : Env} {R : Room} {s : State} {m : MethodId} {args : Array Value} {below : List Frame} {meth : Method} {c : Code} {H : Heap} {locs : List Loc} {cells slots : Nat} {Q : State → Prop} {cc : ByteArray} {pc : Nat} {ls : Array Slot} {rest : List Value} {A0 : Nat → Prop} {H0 : Heap} {mc ms : Nat}
variable {D : va_G} {tys : List (ClassId × FieldType)} {wc wr : va_W} {ed : Nat × Nat × Nat} {fr lo : Nat} {y : MethodName} {bytes : ByteArray} {maxL nL n index : Nat} {ret : Option FieldType} {ws : List Cond} {Ts : List Cond} {own C : String} {b : Addr} {As st0 : List Value} {S0 : Type} {K : S0 → Prop} {w1 : S0 → va_W}
theorem q_callGp {v : Int} (S : CallFix p m c cc nL s args Ts own) (hM : MGp l y ws fr lo mc ms D tys H.size wc (.ref b :: As) ed v K w1) (cw : CallW R s args own C index y bytes maxL ret ws { frames := fr, cells := mc, slots := ms, locals := lo } mc ms n) (hrec : ∃ cell : Cell, H[b]? = some cell ∧ cell.vm.isStatics = false ∧ s.vm.findClass C = some cell.cls) (hP : va_P D vwCl (wc ++ wr) H) (hD : va_D A0 (wc ++ wr)) (hS : va_S A0 s.heap H locs) (hA : ∀ q : Nat, s.heap.size ≤ q → A0 q) (hK : va_K D vwCl tys s) (hE : EZ ed A0 s s.heap) (hT : ET s)
    (hn : As.length = n) (hsize : ls.size = nL) (hst : st0 = As.reverse ++ .ref b :: rest) (hroom : (rest.map fun v => v.category).sum ≤ 8) (hdg : decode cc pc = .ok (.invokevirtual index, 3)) (hc : cells + mc ≤ R.cells) (hs : slots + ms ≤ R.slots)
    (kk : ∀ (u : S0) (H : Heap) (locs : List Loc), K u → va_P D vwCl (w1 u ++ wr) H → va_D A0 (w1 u ++ wr) → va_S A0 s.heap H locs → W p l e R s m args below meth c H locs (cells + mc) (slots + ms) Q (F0 m (pc + 3) ls (.int (iI v) :: rest))) : W p l e R s m args below meth c H locs cells slots Q (F0 m pc ls st0) :=
  va_calli (va_runV S hM cw ⟨pcY_blind, hrec, pcY_at hP hD hS hA hK hE hT⟩ rfl hn hsize hst (lv_room hroom) hdg ⟨hc, hs⟩) hS (fun q _ h => va_frP hD hS hA q h) (va_frP hD hS hA)
    (fun r u t H1 locs1 ht _ hp hB _ hk1 hS1 => by
      rw [ht] at hB
      obtain ⟨h1, h2⟩ := va_pre hP hD hk1 (va_frP hD hS hA) hB.1 hB.2
      rw [show r = iI v from hp.1]
      exact kk u H1 locs1 hp.2 h1 h2 hS1)
/-- .. of a static method -/
theorem q_callSp {v : Int} (S : CallFix p m c cc nL s args Ts own) (hM : MGp l y ws fr lo mc ms D tys H.size wc As ed v K w1) (cw : CallB R s args own index y bytes maxL ret ws { frames := fr, cells := mc, slots := ms, locals := lo } mc ms n ∧ (Cond.static y).before args s = true) (hP : va_P D vwCl (wc ++ wr) H) (hD : va_D A0 (wc ++ wr)) (hS : va_S A0 s.heap H locs) (hA : ∀ q : Nat, s.heap.size ≤ q → A0 q) (hK : va_K D vwCl tys s) (hE : EZ ed A0 s s.heap) (hT : ET s)
    (hn : As.length = n) (hsize : ls.size = nL) (hst : st0 = As.reverse ++ rest) (hroom : (rest.map fun v => v.category).sum ≤ 8) (hdg : decode cc pc = .ok (.invokestatic index, 3)) (hc : cells + mc ≤ R.cells) (hs : slots + ms ≤ R.slots)
    (kk : ∀ (u : S0) (H : Heap) (locs : List Loc), K u → va_P D vwCl (w1 u ++ wr) H → va_D A0 (w1 u ++ wr) → va_S A0 s.heap H locs → W p l e R s m args below meth c H locs (cells + mc) (slots + ms) Q (F0 m (pc + 3) ls (.int (iI v) :: rest))) : W p l e R s m args below meth c H locs cells slots Q (F0 m pc ls st0) :=
  va_calli (va_runS S hM cw ⟨pcY_blind, pcY_at hP hD hS hA hK hE hT⟩ rfl hn hsize hst (lv_room hroom) hdg ⟨hc, hs⟩) hS (fun q _ h => va_frP hD hS hA q h) (va_frP hD hS hA)
    (fun r u t H1 locs1 ht _ hp hB _ hk1 hS1 => by
      rw [ht] at hB
      obtain ⟨h1, h2⟩ := va_pre hP hD hk1 (va_frP hD hS hA) hB.1 hB.2
      rw [show r = iI v from hp.1]
      exact kk u H1 locs1 hp.2 h1 h2 hS1)
theorem q_gpret {w0 : va_W} {sz : Nat} {v a : Int} (u : S0) (hx : p.tables.exec = Jvm.exec) (hb : c.code = cc) (hr : meth.sig.returnType = some .int) (hlocks : meth.locks = false) (hS : va_S (va_A w0 sz) s.heap H locs) (hv : a = v) (hu : K u) (hPD : va_P D vwCl (w1 u) H ∧ va_D (va_A w0 sz) (w1 u)) (hmc : cells ≤ mc) (hms : slots ≤ ms) (hdg : decode cc pc = .ok (.ireturn, 1)) : W p l e R s m args below meth c H locs cells slots (MQ below (va_Qi (fun (r : Int32) (u : S0) => r = iI v ∧ K u) (fun u t => va_P D vwCl (w1 u) t.heap ∧ va_D (va_A w0 sz) (w1 u)) (va_A w0 sz)) args s mc ms (va_A w0 sz)) (F0 m pc ls [.int (iI a)]) :=
  W.widen hmc hms (W.iret hx hb hr (fun t ht _ => ⟨⟨iI a, u, rfl, ⟨by rw [hv], hu⟩, by subst ht; exact hPD⟩, hS.F ht⟩) hS.2.2 hdg hlocks)
end QGP
theorem MGp_of {l : Launch} {y : MethodName} {ws ws' : List Cond} {fr lo mc ms : Nat} {D : va_G} {tys : List (ClassId × FieldType)} {sz : Nat} {w0 : va_W} {av : List Value} {ed : Nat × Nat × Nat} {v : Int} {S0 : Type} {K : S0 → Prop} {w1 : S0 → va_W} {cc : ByteArray} {maxL : Nat} {ret : Option FieldType} (hy : plainName y.cls = true) (hw : ws = Cond.code y cc maxL ret :: ws') (hlen : (lg_sl av).length ≤ maxL)
    (body : ∀ (p : Program) (e : Env) (s : State) (m : MethodId) (args : Array Value) (below : List Frame) (meth : Method) (c : Code) (ls : Array Slot), p.tables.exec = Jvm.exec → c.code = cc → meth.sig.returnType = ret → meth.locks = false → c.maxLocals = maxL → s.vm.findClass y.cls = some m.cls → (∀ w ∈ ws, w.before args s = true) → s.heap.size = sz → va_P D vwCl w0 s.heap → va_K D vwCl tys s → va_D (va_A w0 sz) w0 → va_S (va_A w0 sz) s.heap s.heap [] → (∀ q : Nat, s.heap.size ≤ q → va_A w0 sz q) → meth.name = y.name → EZ ed (va_A w0 sz) s s.heap → ET s → lv_has ls maxL (lv_args 0 av) →
      W p l e { frames := fr, cells := mc, slots := ms, locals := lo } s m args below meth c s.heap [] 0 0 (MQ below (va_Qi (fun (r : Int32) (u : S0) => r = iI v ∧ K u) (fun u t => va_P D vwCl (w1 u) t.heap ∧ va_D (va_A w0 sz) (w1 u)) (va_A w0 sz)) args s mc ms (va_A w0 sz)) (F0 m 0 ls [])) : MGp l y ws fr lo mc ms D tys sz w0 av ed v K w1 := by
  refine Met.ofW (cc := cc) (maxL := maxL) (ret := ret) hy hw ?_
  intro p e s m args below meth c s₁ B hml hv
  obtain ⟨rfl, hsz, hP, hK, hD, hE, hT⟩ := hv
  rw [lg_entry_eq]
  exact body p e s m _ below meth c _ B.exec B.bytes B.returns B.notSynchronized hml (findClass_of_methodNamed B.named) (atoms_spec (ws := ws) B.pre) hsz hP hK (hD.self) va_S.rf (fun q h => by rw [← hsz]; exact Or.inr h) (name_of_methodNamed B.named B.method).1 hE hT (lv_entry av hlen)
