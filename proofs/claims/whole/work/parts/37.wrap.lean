/-! ===== the law's own calls ===== -/
def oc (out : Nat) (cL : ClassId) (f : Nat → Int64) : Nat × va_E := (out, .inl (cL, 1, .inr (.inl f)))
/-- an exception of one of these classes is none of the other's -/
def EN (U : State) : Prop := va_Nc nIO nIA U ∧ va_Nc nIA nIO U ∧ va_Nc nIS nIA U
abbrev pcZ (D : va_G) (tys : List (ClassId × FieldType)) (sz : Nat) (w0 : va_W) (av : List Value) (ed : Nat × Nat × Nat) : Array Value → State → Prop := va_Pc av (fun U => U.heap.size = sz ∧ va_P D vwCl w0 U.heap ∧ va_K D vwCl tys U ∧ va_D (fun _ => True) w0 ∧ EZ ed (va_A w0 sz) U U.heap ∧ ET U ∧ EN U)
theorem EN.moved {s U : State} (hvm : s.vm.Alike U.vm) (h : EN s) : EN U := ⟨h.1.moved hvm, h.2.1.moved hvm, h.2.2.moved hvm⟩
theorem pcZ_blind {D : va_G} {tys : List (ClassId × FieldType)} {sz : Nat} {w0 : va_W} {av : List Value} {ed : Nat × Nat × Nat} : FrameBlind (pcZ D tys sz w0 av ed) := fun a U g mk q => ⟨q.1, q.2.1, q.2.2.1, va_K.moved (u := U) (U := U.calling g mk a) (Vm.Alike.refl U.vm) q.2.2.2.1, q.2.2.2.2.1, q.2.2.2.2.2.1.moved (U := U.calling g mk a) (Vm.Alike.refl U.vm), ET.same rfl q.2.2.2.2.2.2.1, q.2.2.2.2.2.2.2.moved (U := U.calling g mk a) (Vm.Alike.refl U.vm)⟩
/-- what such a call leaves -/
def WQ (D : va_G) (cI cO cL : ClassId) (A : Nat → Prop) (ed : Nat × Nat × Nat) (out : Nat) (g : Nat → Nat) (σ T P : Nat → Int) (f : Nat → Int64) (er v : Int) (σ' T' P' : Nat → Int) (u : Nat → Nat) (H : Heap) : Prop :=
  (er = 0 ∧ (u 0 = g 0 ∧ (σ' 6 = 0 → u 6 = ed.1) ∧ (σ' 7 = 0 → u 7 = ed.1)) ∧ va_P D vwCl (WC cI cO u σ' T' P' ++ [oc out cL (vp_updL f 0 (iI v).toInt64)]) H ∧ va_D A (WC cI cO u σ' T' P' ++ [oc out cL (vp_updL f 0 (iI v).toInt64)])) ∨ (er ≠ 0 ∧ va_P D vwCl (WC cI cO g σ T P ++ [oc out cL f]) H)
def MW (l : Launch) (y : MethodName) (ws : List Cond) (fr lo mc ms : Nat) (D : va_G) (cI cO cL : ClassId) (sz out : Nat) (g : Nat → Nat) (σ T P : Nat → Int) (f : Nat → Int64) (av : List Value) (ed : Nat × Nat × Nat) (er v : Int) (σ' T' P' : Nat → Int) : Prop := Met l y ws { frames := fr, cells := mc, slots := ms, locals := lo } (pcZ D (ty3 cI cO cL) sz (WC cI cO g σ T P ++ [oc out cL f]) av ed) (va_Qi (fun (r : Int32) (_ : Nat → Nat) => r = iI er) (fun u t => WQ D cI cO cL (va_A (WC cI cO g σ T P ++ [oc out cL f]) sz) ed out g σ T P f er v σ' T' P' u t.heap) (va_A (WC cI cO g σ T P ++ [oc out cL f]) sz)) mc ms (va_A (WC cI cO g σ T P ++ [oc out cL f]) sz)
section QW
variable {p : Program} {l : Launch} {e : Env} {R : Room} {s : State} {m : MethodId} {args : Array Value} {below : List Frame} {meth : Method} {c : Code} {H : Heap} {locs : List Loc} {cells slots : Nat} {Q : State → Prop} {cc : ByteArray} {pc : Nat} {ls : Array Slot} {rest st0 : List Value} {A0 : Nat → Prop} {mc ms : Nat}
variable {D : va_G} {cI cO cL : ClassId} {g : Nat → Nat} {σ T P σ' T' P' : Nat → Int} {ed : Nat × Nat × Nat} {fr lo : Nat} {y : MethodName} {bytes : ByteArray} {maxL nL n index : Nat} {ret : Option FieldType} {ws : List Cond} {Ts : List Cond} {own : String} {As : List Value} {n1 n2 : String} {er v : Int} {wr : va_W}
theorem q_wT (S : CallFix p m c cc nL s args Ts own) (hM : MT l y ws fr lo mc ms D cI cO cL H.size g σ T P (.ref (g 0) :: As) ed n1 n2 er v σ' T' P') (cw : CallW R s args own RX5 index y bytes maxL ret ws { frames := fr, cells := mc, slots := ms, locals := lo } mc ms n) (hP : va_P D vwCl (WC cI cO g σ T P ++ wr) H) (hD : va_D A0 (WC cI cO g σ T P ++ wr)) (hS : va_S A0 s.heap H locs) (hA : ∀ q : Nat, s.heap.size ≤ q → A0 q) (hK : va_K D vwCl (ty3 cI cO cL) s) (hE : EZ ed A0 s s.heap) (hT : ET s)
    (hn : As.length = n) (hsize : ls.size = nL) (hst : st0 = As.reverse ++ .ref (g 0) :: rest) (hroom : (rest.map fun v => v.category).sum ≤ 8) (hdg : decode cc pc = .ok (.invokevirtual index, 3)) (hc : cells + mc ≤ R.cells) (hs : slots + ms ≤ R.slots)
    (kx : ∀ (E : String) (ce : Cell) (q9 : Addr) (H1 : Heap) (locs1 : List Loc), (E = n1 ∧ er = 1) ∨ (E = n2 ∧ er = 2) → va_P D vwCl (WC cI cO g σ T P ++ wr) H1 → va_S A0 s.heap H1 locs1 → H1[q9]? = some ce → ce.vm = .none → s.vm.findClass E = some ce.cls → vx_W p l e R s m args below meth c H1 locs1 (cells + mc) (slots + ms) Q (F0 m pc ls rest) q9)
    (kk : ∀ (u : Nat → Nat) (H1 : Heap) (locs1 : List Loc), er = 0 → (u 0 = g 0 ∧ (σ' 6 = 0 → u 6 = ed.1) ∧ (σ' 7 = 0 → u 7 = ed.1)) → va_P D vwCl (WC cI cO u σ' T' P' ++ wr) H1 → va_D A0 (WC cI cO u σ' T' P' ++ wr) → va_S A0 s.heap H1 locs1 → W p l e R s m args below meth c H1 locs1 (cells + mc) (slots + ms) Q (F0 m (pc + 3) ls (.int (iI v) :: rest))) : W p l e R s m args below meth c H locs cells slots Q (F0 m pc ls st0) :=
  vx_calli (vx_runV S hM cw ⟨pcY_blind, ob_recv (ci := 7) (vaP_mems hP (fun q hq => List.mem_append_left _ hq) 0 _ rfl) hK rfl, pcY_at hP hD hS hA hK hE hT⟩ rfl hn hsize hst (lv_room hroom) hdg ⟨hc, hs⟩) hS (fun q _ h => va_frP hD hS hA q h) (va_frP hD hS hA) (fun _ _ h => h.elim)
    (fun E ce q9 _ t H1 locs1 _ _ _ hBX _ hk1 hS1 h1 h2 h3 => kx E ce q9 H1 locs1 hBX (vaP_keep hP (fun q hq => hk1 q hq (fun h => h))) hS1 h1 h2 h3)
    (fun r u t H1 locs1 ht _ hp hB _ hk1 hS1 => by
      rw [ht] at hB
      obtain ⟨h1, h2⟩ := va_pre hP hD hk1 (va_frP hD hS hA) hB.1 hB.2
      rw [hp.2.1]
      exact kk u H1 locs1 hp.1 hp.2.2 h1 h2 hS1)
theorem q_wX {Pic : Heap → Prop} (S : CallFix p m c cc nL s args Ts own) (hM : MX l y ws fr lo D (ty3 cI cO cL) H.size Pic (.ref (g 0) :: As) n1 n2 er v) (cw : CallW R s args own RX5 index y bytes maxL ret ws { frames := fr, cells := 1, slots := 6, locals := lo } 1 6 n) (hPic : Pic H) (he : (σ 6 = 0 → g 6 = ed.1) ∧ (σ 7 = 0 → g 7 = ed.1)) (hP : va_P D vwCl (WC cI cO g σ T P ++ wr) H) (hD : va_D A0 (WC cI cO g σ T P ++ wr)) (hS : va_S A0 s.heap H locs) (hA : ∀ q : Nat, s.heap.size ≤ q → A0 q) (hK : va_K D vwCl (ty3 cI cO cL) s) (hE : EZ ed A0 s s.heap) (hT : ET s)
    (hn : As.length = n) (hsize : ls.size = nL) (hst : st0 = As.reverse ++ .ref (g 0) :: rest) (hroom : (rest.map fun v => v.category).sum ≤ 8) (hdg : decode cc pc = .ok (.invokevirtual index, 3)) (hc : cells + 1 ≤ R.cells) (hs : slots + 6 ≤ R.slots)
    (kx : ∀ (E : String) (ce : Cell) (q9 : Addr) (H1 : Heap) (locs1 : List Loc), (E = n1 ∧ er = 1) ∨ (E = n2 ∧ er = 2) → va_P D vwCl (WC cI cO g σ T P ++ wr) H1 → va_S A0 s.heap H1 locs1 → H1[q9]? = some ce → ce.vm = .none → s.vm.findClass E = some ce.cls → vx_W p l e R s m args below meth c H1 locs1 (cells + 1) (slots + 6) Q (F0 m pc ls rest) q9)
    (kk : ∀ (u : Nat → Nat) (H1 : Heap) (locs1 : List Loc), er = 0 → (u 0 = g 0 ∧ (σ 6 = 0 → u 6 = ed.1) ∧ (σ 7 = 0 → u 7 = ed.1)) → va_P D vwCl (WC cI cO u σ T P ++ wr) H1 → va_D A0 (WC cI cO u σ T P ++ wr) → va_S A0 s.heap H1 locs1 → W p l e R s m args below meth c H1 locs1 (cells + 1) (slots + 6) Q (F0 m (pc + 3) ls (.int (iI v) :: rest))) : W p l e R s m args below meth c H locs cells slots Q (F0 m pc ls st0) :=
  vx_calli (vx_runV S hM cw ⟨pcX_blind, ob_recv (ci := 7) (vaP_mems hP (fun q hq => List.mem_append_left _ hq) 0 _ rfl) hK rfl, fun U hU hW => ⟨rfl, by rw [hU], by rw [hU]; exact hPic, va_K.moved hW.alike hK, by rw [hU]; exact hE.1.to hS hW.alike (fun q h => hA q (Nat.le_trans hS.1 h)), XT.warm hW hT.1⟩⟩ rfl hn hsize hst (lv_room hroom) hdg ⟨hc, hs⟩) hS (fun _ _ h => h.elim) (fun q h => hA q (Nat.le_trans hS.1 h)) (fun _ _ h => h.elim)
    (fun E ce q9 _ t H1 locs1 _ _ _ hBX _ hk1 hS1 h1 h2 h3 => kx E ce q9 H1 locs1 hBX (vaP_keep hP (fun q hq => hk1 q hq (fun h => h))) hS1 h1 h2 h3)
    (fun r u t H1 locs1 ht _ hp _ _ hk1 hS1 => by
      rw [hp.2]
      exact kk g H1 locs1 hp.1 ⟨rfl, he.1, he.2⟩ (vaP_keep hP (fun q hq => hk1 q hq (fun h => h))) hD hS1)
theorem q_last {f : Nat → Int64} {out : Nat} {x : Int64} (hx : p.tables.exec = Jvm.exec) (hb : c.code = cc) (hK : va_K D vwCl (ty3 cI cO cL) s) (hP : va_P D vwCl (WC cI cO g σ T P ++ [oc out cL f]) H) (hD : va_D A0 (WC cI cO g σ T P ++ [oc out cL f])) {H0 : Heap} (hS : va_S A0 H0 H locs) (hdg : decode cc pc = .ok (.lastore, 1))
    (kk : ∀ (H1 : Heap) (locs1 : List Loc), va_P D vwCl (WC cI cO g σ T P ++ [oc out cL (vp_updL f 0 x)]) H1 → va_D A0 (WC cI cO g σ T P ++ [oc out cL (vp_updL f 0 x)]) → va_S A0 H0 H1 locs1 → W p l e R s m args below meth c H1 locs1 cells slots Q (F0 m (pc + 1) ls rest)) : W p l e R s m args below meth c H locs cells slots Q (F0 m pc ls (.long x :: .int (iI 0) :: .ref out :: rest)) := by
  obtain ⟨h1, h2⟩ := va_lst hP hD
  refine va_last hx hb hK h1 h2 hS 0 2 rfl rfl (iI_in (n := 1) (by omega) (by omega)) hdg (fun H1 locs1 h3 h4 h5 => ?_)
  have e : (iI 0).toNatClampNeg = 0 := rfl
  rw [e] at h3 h4
  have hp : (WC cI cO g σ T P ++ [oc out cL (vp_updL f 0 x)]).Perm (oc out cL (vp_updL f 0 x) :: WC cI cO g σ T P) := List.perm_append_singleton _ _
  obtain ⟨h6, h7⟩ := va_of_perm hp (by exact h3) (by exact h4)
  exact kk H1 locs1 h6 h7 h5
theorem q_wret {f : Nat → Int64} {out sz : Nat} {a : Int} {w0 : va_W} (u : Nat → Nat) (hx : p.tables.exec = Jvm.exec) (hb : c.code = cc) (hr : meth.sig.returnType = some .int) (hlocks : meth.locks = false) (hS : va_S (va_A w0 sz) s.heap H locs) (ha : er = a) (hQ : WQ D cI cO cL (va_A w0 sz) ed out g σ T P f er v σ' T' P' u H) (hmc : cells ≤ mc) (hms : slots ≤ ms) (hdg : decode cc pc = .ok (.ireturn, 1)) : W p l e R s m args below meth c H locs cells slots (MQ below (va_Qi (fun (r : Int32) (_ : Nat → Nat) => r = iI er) (fun u t => WQ D cI cO cL (va_A w0 sz) ed out g σ T P f er v σ' T' P' u t.heap) (va_A w0 sz)) args s mc ms (va_A w0 sz)) (F0 m pc ls [.int (iI a)]) :=
  W.widen hmc hms (W.iret hx hb hr (fun t ht _ => ⟨⟨iI a, u, rfl, by rw [ha], by subst ht; exact hQ⟩, hS.F ht⟩) hS.2.2 hdg hlocks)
end QW
theorem MW_of {l : Launch} {y : MethodName} {ws ws' : List Cond} {fr lo mc ms : Nat} {D : va_G} {cI cO cL : ClassId} {sz out : Nat} {g : Nat → Nat} {σ T P : Nat → Int} {f : Nat → Int64} {av : List Value} {ed : Nat × Nat × Nat} {er v : Int} {σ' T' P' : Nat → Int} {cc : ByteArray} {maxL : Nat} {ret : Option FieldType} {hh : List (Nat × Nat × Nat × Nat)} (hy : plainName y.cls = true) (hw : ws = Cond.codeWith y cc maxL ret hh :: ws') (hlen : (lg_sl av).length ≤ maxL)
    (body : ∀ (p : Program) (e : Env) (s : State) (m : MethodId) (args : Array Value) (below : List Frame) (meth : Method) (c : Code) (ls : Array Slot), p.tables.exec = Jvm.exec → c.code = cc → meth.sig.returnType = ret → meth.locks = false → c.maxLocals = maxL → c.exceptionTable.toList = tableOf hh → s.vm.findClass y.cls = some m.cls → (∀ w ∈ ws, w.before args s = true) → s.heap.size = sz → va_P D vwCl (WC cI cO g σ T P ++ [oc out cL f]) s.heap → va_K D vwCl (ty3 cI cO cL) s → va_D (va_A (WC cI cO g σ T P ++ [oc out cL f]) sz) (WC cI cO g σ T P ++ [oc out cL f]) → va_S (va_A (WC cI cO g σ T P ++ [oc out cL f]) sz) s.heap s.heap [] → (∀ q : Nat, s.heap.size ≤ q → va_A (WC cI cO g σ T P ++ [oc out cL f]) sz q) → EZ ed (va_A (WC cI cO g σ T P ++ [oc out cL f]) sz) s s.heap → ET s → EN s → lv_has ls maxL (lv_args 0 av) →
      W p l e { frames := fr, cells := mc, slots := ms, locals := lo } s m args below meth c s.heap [] 0 0 (MQ below (va_Qi (fun (r : Int32) (_ : Nat → Nat) => r = iI er) (fun u t => WQ D cI cO cL (va_A (WC cI cO g σ T P ++ [oc out cL f]) sz) ed out g σ T P f er v σ' T' P' u t.heap) (va_A (WC cI cO g σ T P ++ [oc out cL f]) sz)) args s mc ms (va_A (WC cI cO g σ T P ++ [oc out cL f]) sz)) (F0 m 0 ls [])) : MW l y ws fr lo mc ms D cI cO cL sz out g σ T P f av ed er v σ' T' P' := by
  refine va_MetW (cc := cc) (maxL := maxL) (ret := ret) (hh := hh) hy hw ?_
  intro p e s m args below meth c s₁ B hml hv
  obtain ⟨rfl, hsz, hP, hK, hD, hE, hT, hN⟩ := hv
  rw [lg_entry_eq]
  have hpre := atoms_spec (ws := ws) B.pre
  exact body p e s m _ below meth c _ B.exec B.bytes B.returns B.notSynchronized hml (vx_table (x := y) B (hpre _ (by rw [hw]; exact List.mem_cons_self))) (findClass_of_methodNamed B.named) hpre hsz hP hK (hD.self) va_S.rf (fun q h => by rw [← hsz]; exact Or.inr h) hE hT hN (lv_entry av hlen)

theorem t_addFeast (l : Launch) (hst0 : l.stackTraces = false) (D : va_G) (sz : Nat) (ed : Nat × Nat × Nat) (cI cO cL : ClassId) (g : Nat → Nat) (σ T P : Nat → Int) (hW : WF σ T) (hS0 : WS σ P) (he6 : σ 6 = 0 → g 6 = ed.1) (he7 : σ 7 = 0 → g 7 = ed.1) (mo da mn wd of : Int) (hmor : -2147483648 ≤ mo ∧ mo < 2147483648) (hdar : -2147483648 ≤ da ∧ da < 2147483648) (hmnr : -2147483648 ≤ mn ∧ mn < 2147483648) (hwdr : -2147483648 ≤ wd ∧ wd < 2147483648) (hofr : -2147483648 ≤ of ∧ of < 2147483648) : MT l yX5_addFeast wsX5_addFeast 6 108 2 15 D cI cO cL sz g σ T P [.ref (g 0), .int (iI (mo)), .int (iI (da)), .int (iI (mn)), .int (iI (wd)), .int (iI (of))] ed nIA nIS (if (0 ≤ mo ∧ mo ≤ 11) ∧ (0 ≤ da ∧ da ≤ 29) ∧ (0 ≤ mn ∧ mn ≤ 3) ∧ (-1 ≤ wd ∧ wd ≤ 6) ∧ (-60 ≤ of ∧ of ≤ 60) then (if σ 6 = 8 then 2 else 0) else 1) (σ 6) (st σ 6 (σ 6 + 1)) (m_tp T (σ 6).toNat mo da mn wd of) (P) := by
  obtain ⟨w0, w1, w2, w3, w4, w5, w6, w7, w8⟩ := id hW
  by_cases h0 : σ 6 = 0
  · exact t_addFeastA l hst0 D sz ed cI cO cL g σ T P hW hS0 he6 he7 h0 mo da mn wd of hmor hdar hmnr hwdr hofr
  · exact t_addFeastB l hst0 D sz ed cI cO cL g σ T P hW hS0 he6 he7 (by omega) mo da mn wd of hmor hdar hmnr hwdr hofr
theorem t_print (l : Launch) (hst0 : l.stackTraces = false) (D : va_G) (sz : Nat) (ed : Nat × Nat × Nat) (cI cO cL : ClassId) (g : Nat → Nat) (σ T P : Nat → Int) (hW : WF σ T) (hS0 : WS σ P) (he6 : σ 6 = 0 → g 6 = ed.1) (he7 : σ 7 = 0 → g 7 = ed.1) (hp0 : ∀ i : Nat, 11 * (σ 7).toNat ≤ i → P i = 0) (y : Int) (hyr : -2147483648 ≤ y ∧ y < 2147483648) : MT l yX5_print wsX5_print 6 108 3 22 D cI cO cL sz g σ T P [.ref (g 0), .int (iI (y))] ed nIA nIS (if 0 ≤ y ∧ y < 1000 then (if σ 7 = 10 then 2 else 0) else 1) (σ 7) (st σ 7 (σ 7 + 1)) (T) (m_fl σ T P (11 * (σ 7).toNat) y (σ 6).toNat) := by
  obtain ⟨w0, w1, w2, w3, w4, w5, w6, w7, w8⟩ := id hW
  by_cases h0 : σ 7 = 0
  · exact t_printA l hst0 D sz ed cI cO cL g σ T P hW hS0 he6 he7 h0 hp0 y hyr
  · exact t_printB l hst0 D sz ed cI cO cL g σ T P hW hS0 he6 he7 (by omega) hp0 y hyr
set_option maxHeartbeats 1000000 in
set_option maxRecDepth 100000 in
theorem w_leap (l : Launch) (hst0 : l.stackTraces = false) (D : va_G) (sz out : Nat) (ed : Nat × Nat × Nat) (cI cO cL : ClassId) (g : Nat → Nat) (σ T P : Nat → Int) (fo : Nat → Int64) (hW : WF σ T) (hS0 : WS σ P) (he6 : σ 6 = 0 → g 6 = ed.1) (he7 : σ 7 = 0 → g 7 = ed.1) (y : Int) (hyr : -2147483648 ≤ y ∧ y < 2147483648) : MW l yL_leap wsL_leap 7 103 1 6 D cI cO cL sz out g σ T P fo [.ref (g 0), .int (iI (y)), .ref out] ed (if 0 ≤ y ∧ y < 1000 then 0 else 1) (m_leap (σ 0) (σ 1) y) (σ) (T) (P) := by
  refine MW_of (cc := cL_leap) (maxL := 4) (ret := (some .int)) (hh := [(0, 16, 19, 13)]) (by decide) rfl (Nat.le_of_ble_eq_true rfl) ?_
  intro p e s m args below meth c ls hx hb hr hlocks hml htab hown hts hsz hP hK hD hS hA hE hT hN hl
  have hl : lv_has ls 4 [(0, .ref (g 0)), (1, .int (iI (y))), (2, .ref out)] := hl
  refine lv_aload_n hx hb dL_leap_0 rfl (lv_at hl 2 rfl) ?_
  refine q_iconst hx hb dL_leap_1 ?_
  refine lv_aload_n hx hb dL_leap_2 rfl (lv_at hl 0 rfl) ?_
  refine lv_iload_n hx hb dL_leap_3 rfl (lv_at hl 1 rfl) ?_
  refine q_wX (fr := 6) (lo := 82) (nL := 4) (As := [.int (iI (y))]) (rest := [.int (iI (0)), .ref out]) ⟨hx, hb, hml, hown, hts⟩ (x_leap l hst0 D _ cI cO cL g σ T hW y hyr) (cwV 1 hts gL_leap_X5_leap rfl rfl rfl (by decide +kernel) ⟨Nat.le_of_ble_eq_true rfl, Nat.le_of_ble_eq_true rfl⟩) ((PicC.base (P := P) (vaP_mems hP (fun q hq => List.mem_append_left _ hq)))) (⟨he6, he7⟩) hP hD hS hA hK hE hT rfl hl.1 rfl (Nat.le_of_ble_eq_true rfl) dL_leap_4 (Nat.le_of_ble_eq_true rfl) (Nat.le_of_ble_eq_true rfl) ?_ ?_
  · intro E ce q9 H locs hEe hP hS hc1 hc2 hc3
    rcases hEe with ⟨rfl, he⟩ | ⟨rfl, he⟩
    · skip
      refine vx_catch (own := RL) (name := nIA) hown [] ⟨0, 16, 19, 13⟩ [] htab (fun z hz => nomatch hz) (by decide) (by decide) (hts (.classLink RL 13 "java/lang/IllegalArgumentException") (List.mem_of_getElem? (i := 1) rfl)) (va_Nw.use rfl hT.1.1.1.1) hc1 hc2 hc3 ?_
      refine lv_astore_n (lv' := [(3, .ref q9), (0, .ref (g 0)), (1, .int (iI (y))), (2, .ref out)]) hx hb dL_leap_19 rfl hl (by decide) rfl (fun ls hl => ?_)
      refine q_iconst hx hb dL_leap_20 ?_
      exact q_wret (cells := 1) (slots := 6) (mc := 1) (ms := 6) g hx hb hr hlocks hS he (Or.inr ⟨by rw [he]; decide, hP⟩) (Nat.le_of_ble_eq_true rfl) (Nat.le_of_ble_eq_true rfl) dL_leap_21
    · exfalso
      revert he
      (repeat' split) <;> omega
  · intro u H locs he hu hP hD hS
    have hlp := m_leap_01 (σ 0) (σ 1) y
    refine q_if_eq (tgt := 14) hx hb dL_leap_7 (by decide) (by omega) (fun c_1 => ?_) (fun c_1 => ?_)
    · skip
      refine lv_lconst (v := (iI (m_leap (σ 0) (σ 1) y)).toInt64) hx hb dL_leap_14 (by rw [show m_leap (σ 0) (σ 1) y = 0 by omega]; rfl) ?_
      refine q_last hx hb hK hP hD hS dL_leap_15 (fun H locs hP hD hS => ?_)
      refine lv_goto (tgt := 22) hx hb dL_leap_16 (by decide) ?_
      refine q_iconst hx hb dL_leap_22 ?_
      exact q_wret (cells := 1) (slots := 6) (mc := 1) (ms := 6) u hx hb hr hlocks hS he (Or.inl ⟨he, hu, hP, hD⟩) (Nat.le_of_ble_eq_true rfl) (Nat.le_of_ble_eq_true rfl) dL_leap_23
    · skip
      refine lv_lconst (v := (iI (m_leap (σ 0) (σ 1) y)).toInt64) hx hb dL_leap_10 (by rw [show m_leap (σ 0) (σ 1) y = 1 by omega]; rfl) ?_
      refine lv_goto (tgt := 15) hx hb dL_leap_11 (by decide) ?_
      refine q_last hx hb hK hP hD hS dL_leap_15 (fun H locs hP hD hS => ?_)
      refine lv_goto (tgt := 22) hx hb dL_leap_16 (by decide) ?_
      refine q_iconst hx hb dL_leap_22 ?_
      exact q_wret (cells := 1) (slots := 6) (mc := 1) (ms := 6) u hx hb hr hlocks hS he (Or.inl ⟨he, hu, hP, hD⟩) (Nat.le_of_ble_eq_true rfl) (Nat.le_of_ble_eq_true rfl) dL_leap_23
set_option maxHeartbeats 1000000 in
set_option maxRecDepth 100000 in
theorem w_day (l : Launch) (hst0 : l.stackTraces = false) (D : va_G) (sz out : Nat) (ed : Nat × Nat × Nat) (cI cO cL : ClassId) (g : Nat → Nat) (σ T P : Nat → Int) (fo : Nat → Int64) (hW : WF σ T) (hS0 : WS σ P) (he6 : σ 6 = 0 → g 6 = ed.1) (he7 : σ 7 = 0 → g 7 = ed.1) (y mo da : Int) (hyr : -2147483648 ≤ y ∧ y < 2147483648) (hmor : -2147483648 ≤ mo ∧ mo < 2147483648) (hdar : -2147483648 ≤ da ∧ da < 2147483648) : MW l yL_day wsL_day 7 105 1 6 D cI cO cL sz out g σ T P fo [.ref (g 0), .int (iI (y)), .int (iI (mo)), .int (iI (da)), .ref out] ed (if (0 ≤ y ∧ y < 1000) ∧ (0 ≤ mo ∧ mo ≤ 11) ∧ (0 ≤ da ∧ da < m_md (σ 0) (σ 1) y mo) then 0 else 1) (m_d0 (σ 0) (σ 1) mo da y) (σ) (T) (P) := by
  refine MW_of (cc := cL_day) (maxL := 6) (ret := (some .int)) (hh := [(0, 12, 15, 13)]) (by decide) rfl (Nat.le_of_ble_eq_true rfl) ?_
  intro p e s m args below meth c ls hx hb hr hlocks hml htab hown hts hsz hP hK hD hS hA hE hT hN hl
  have hl : lv_has ls 6 [(0, .ref (g 0)), (1, .int (iI (y))), (2, .int (iI (mo))), (3, .int (iI (da))), (4, .ref out)] := hl
  refine lv_aload hx hb dL_day_0 (lv_at hl 4 rfl) ?_
  refine q_iconst hx hb dL_day_2 ?_
  refine lv_aload_n hx hb dL_day_3 rfl (lv_at hl 0 rfl) ?_
  refine lv_iload_n hx hb dL_day_4 rfl (lv_at hl 1 rfl) ?_
  refine lv_iload_n hx hb dL_day_5 rfl (lv_at hl 2 rfl) ?_
  refine lv_iload_n hx hb dL_day_6 rfl (lv_at hl 3 rfl) ?_
  refine q_wX (fr := 6) (lo := 82) (nL := 6) (As := [.int (iI (y)), .int (iI (mo)), .int (iI (da))]) (rest := [.int (iI (0)), .ref out]) ⟨hx, hb, hml, hown, hts⟩ (x_day l hst0 D _ cI cO cL g σ T hW y mo da hyr hmor hdar) (cwV 3 hts gL_day_X5_day rfl rfl rfl (by decide +kernel) ⟨Nat.le_of_ble_eq_true rfl, Nat.le_of_ble_eq_true rfl⟩) ((PicC.base (P := P) (vaP_mems hP (fun q hq => List.mem_append_left _ hq)))) (⟨he6, he7⟩) hP hD hS hA hK hE hT rfl hl.1 rfl (Nat.le_of_ble_eq_true rfl) dL_day_7 (Nat.le_of_ble_eq_true rfl) (Nat.le_of_ble_eq_true rfl) ?_ ?_
  · intro E ce q9 H locs hEe hP hS hc1 hc2 hc3
    rcases hEe with ⟨rfl, he⟩ | ⟨rfl, he⟩
    · skip
      refine vx_catch (own := RL) (name := nIA) hown [] ⟨0, 12, 15, 13⟩ [] htab (fun z hz => nomatch hz) (by decide) (by decide) (hts (.classLink RL 13 "java/lang/IllegalArgumentException") (List.mem_of_getElem? (i := 1) rfl)) (va_Nw.use rfl hT.1.1.1.1) hc1 hc2 hc3 ?_
      refine lv_astore (lv' := [(5, .ref q9), (0, .ref (g 0)), (1, .int (iI (y))), (2, .int (iI (mo))), (3, .int (iI (da))), (4, .ref out)]) hx hb dL_day_15 hl (by decide) rfl (fun ls hl => ?_)
      refine q_iconst hx hb dL_day_17 ?_
      exact q_wret (cells := 1) (slots := 6) (mc := 1) (ms := 6) g hx hb hr hlocks hS he (Or.inr ⟨by rw [he]; decide, hP⟩) (Nat.le_of_ble_eq_true rfl) (Nat.le_of_ble_eq_true rfl) dL_day_18
    · exfalso
      revert he
      (repeat' split) <;> omega
  · intro u H locs he hu hP hD hS
    refine lv_i2l hx hb dL_day_10 rfl ?_
    refine q_last hx hb hK hP hD hS dL_day_11 (fun H locs hP hD hS => ?_)
    refine lv_goto (tgt := 19) hx hb dL_day_12 (by decide) ?_
    refine q_iconst hx hb dL_day_19 ?_
    exact q_wret (cells := 1) (slots := 6) (mc := 1) (ms := 6) u hx hb hr hlocks hS he (Or.inl ⟨he, hu, hP, hD⟩) (Nat.le_of_ble_eq_true rfl) (Nat.le_of_ble_eq_true rfl) dL_day_20
set_option maxHeartbeats 1000000 in
set_option maxRecDepth 100000 in
theorem w_date (l : Launch) (hst0 : l.stackTraces = false) (D : va_G) (sz out : Nat) (ed : Nat × Nat × Nat) (cI cO cL : ClassId) (g : Nat → Nat) (σ T P : Nat → Int) (fo : Nat → Int64) (hW : WF σ T) (hS0 : WS σ P) (he6 : σ 6 = 0 → g 6 = ed.1) (he7 : σ 7 = 0 → g 7 = ed.1) (d w : Int) (hdr : -2147483648 ≤ d ∧ d < 2147483648) (hwr : -2147483648 ≤ w ∧ w < 2147483648) : MW l yL_date wsL_date 7 104 1 6 D cI cO cL sz out g σ T P fo [.ref (g 0), .int (iI (d)), .int (iI (w)), .ref out] ed (if 0 ≤ d ∧ d < m_fd (σ 0) (σ 1) 1000 then (if 0 ≤ w ∧ w ≤ 4 then 0 else 2) else 1) (m_dated σ d w) (σ) (T) (P) := by
  refine MW_of (cc := cL_date) (maxL := 5) (ret := (some .int)) (hh := [(0, 10, 13, 13), (0, 10, 17, 32)]) (by decide) rfl (Nat.le_of_ble_eq_true rfl) ?_
  intro p e s m args below meth c ls hx hb hr hlocks hml htab hown hts hsz hP hK hD hS hA hE hT hN hl
  have hl : lv_has ls 5 [(0, .ref (g 0)), (1, .int (iI (d))), (2, .int (iI (w))), (3, .ref out)] := hl
  refine lv_aload_n hx hb dL_date_0 rfl (lv_at hl 3 rfl) ?_
  refine q_iconst hx hb dL_date_1 ?_
  refine lv_aload_n hx hb dL_date_2 rfl (lv_at hl 0 rfl) ?_
  refine lv_iload_n hx hb dL_date_3 rfl (lv_at hl 1 rfl) ?_
  refine lv_iload_n hx hb dL_date_4 rfl (lv_at hl 2 rfl) ?_
  refine q_wX (fr := 6) (lo := 82) (nL := 5) (As := [.int (iI (d)), .int (iI (w))]) (rest := [.int (iI (0)), .ref out]) ⟨hx, hb, hml, hown, hts⟩ (x_date l hst0 D _ cI cO cL g σ T hW d w hdr hwr) (cwV 2 hts gL_date_X5_date rfl rfl rfl (by decide +kernel) ⟨Nat.le_of_ble_eq_true rfl, Nat.le_of_ble_eq_true rfl⟩) ((PicC.base (P := P) (vaP_mems hP (fun q hq => List.mem_append_left _ hq)))) (⟨he6, he7⟩) hP hD hS hA hK hE hT rfl hl.1 rfl (Nat.le_of_ble_eq_true rfl) dL_date_5 (Nat.le_of_ble_eq_true rfl) (Nat.le_of_ble_eq_true rfl) ?_ ?_
  · intro E ce q9 H locs hEe hP hS hc1 hc2 hc3
    rcases hEe with ⟨rfl, he⟩ | ⟨rfl, he⟩
    · skip
      refine vx_catch (own := RL) (name := nIA) hown [] ⟨0, 10, 13, 13⟩ [⟨0, 10, 17, 32⟩] htab (fun z hz => nomatch hz) (by decide) (by decide) (hts (.classLink RL 13 "java/lang/IllegalArgumentException") (List.mem_of_getElem? (i := 1) rfl)) (va_Nw.use rfl hT.1.1.1.1) hc1 hc2 hc3 ?_
      refine lv_astore (lv' := [(4, .ref q9), (0, .ref (g 0)), (1, .int (iI (d))), (2, .int (iI (w))), (3, .ref out)]) hx hb dL_date_13 hl (by decide) rfl (fun ls hl => ?_)
      refine q_iconst hx hb dL_date_15 ?_
      exact q_wret (cells := 1) (slots := 6) (mc := 1) (ms := 6) g hx hb hr hlocks hS he (Or.inr ⟨by rw [he]; decide, hP⟩) (Nat.le_of_ble_eq_true rfl) (Nat.le_of_ble_eq_true rfl) dL_date_16
    · skip
      refine vx_catch (own := RL) (name := nIO) hown [⟨0, 10, 13, 13⟩] ⟨0, 10, 17, 32⟩ [] htab (fun z hz => Or.inr (by rcases List.mem_singleton.mp hz with rfl; exact ⟨by decide, nIA, (hts (.classLink RL 13 "java/lang/IllegalArgumentException") (List.mem_of_getElem? (i := 1) rfl)), hN.1⟩)) (by decide) (by decide) (hts (.classLink RL 32 "java/lang/IndexOutOfBoundsException") (List.mem_of_getElem? (i := 2) rfl)) (va_Nw.use rfl hT.1.1.1.2.1) hc1 hc2 hc3 ?_
      refine lv_astore (lv' := [(4, .ref q9), (0, .ref (g 0)), (1, .int (iI (d))), (2, .int (iI (w))), (3, .ref out)]) hx hb dL_date_17 hl (by decide) rfl (fun ls hl => ?_)
      refine q_iconst hx hb dL_date_19 ?_
      exact q_wret (cells := 1) (slots := 6) (mc := 1) (ms := 6) g hx hb hr hlocks hS he (Or.inr ⟨by rw [he]; decide, hP⟩) (Nat.le_of_ble_eq_true rfl) (Nat.le_of_ble_eq_true rfl) dL_date_20
  · intro u H locs he hu hP hD hS
    refine lv_i2l hx hb dL_date_8 rfl ?_
    refine q_last hx hb hK hP hD hS dL_date_9 (fun H locs hP hD hS => ?_)
    refine lv_goto (tgt := 21) hx hb dL_date_10 (by decide) ?_
    refine q_iconst hx hb dL_date_21 ?_
    exact q_wret (cells := 1) (slots := 6) (mc := 1) (ms := 6) u hx hb hr hlocks hS he (Or.inl ⟨he, hu, hP, hD⟩) (Nat.le_of_ble_eq_true rfl) (Nat.le_of_ble_eq_true rfl) dL_date_22
set_option maxHeartbeats 1000000 in
set_option maxRecDepth 100000 in
theorem w_line (l : Launch) (hst0 : l.stackTraces = false) (D : va_G) (sz out : Nat) (ed : Nat × Nat × Nat) (cI cO cL : ClassId) (g : Nat → Nat) (σ T P : Nat → Int) (fo : Nat → Int64) (hW : WF σ T) (hS0 : WS σ P) (he6 : σ 6 = 0 → g 6 = ed.1) (he7 : σ 7 = 0 → g 7 = ed.1) (d : Int) (hdr : -2147483648 ≤ d ∧ d < 2147483648) : MW l yL_line wsL_line 7 104 1 6 D cI cO cL sz out g σ T P fo [.ref (g 0), .int (iI (d)), .ref out] ed (if 0 ≤ d ∧ d < m_fd (σ 0) (σ 1) 1000 then 0 else 1) (m_line σ d) (σ) (T) (P) := by
  refine MW_of (cc := cL_line) (maxL := 4) (ret := (some .int)) (hh := [(0, 9, 12, 13)]) (by decide) rfl (Nat.le_of_ble_eq_true rfl) ?_
  intro p e s m args below meth c ls hx hb hr hlocks hml htab hown hts hsz hP hK hD hS hA hE hT hN hl
  have hl : lv_has ls 4 [(0, .ref (g 0)), (1, .int (iI (d))), (2, .ref out)] := hl
  refine lv_aload_n hx hb dL_line_0 rfl (lv_at hl 2 rfl) ?_
  refine q_iconst hx hb dL_line_1 ?_
  refine lv_aload_n hx hb dL_line_2 rfl (lv_at hl 0 rfl) ?_
  refine lv_iload_n hx hb dL_line_3 rfl (lv_at hl 1 rfl) ?_
  refine q_wX (fr := 6) (lo := 82) (nL := 4) (As := [.int (iI (d))]) (rest := [.int (iI (0)), .ref out]) ⟨hx, hb, hml, hown, hts⟩ (x_line l hst0 D _ cI cO cL g σ T hW d hdr) (cwV 1 hts gL_line_X5_line rfl rfl rfl (by decide +kernel) ⟨Nat.le_of_ble_eq_true rfl, Nat.le_of_ble_eq_true rfl⟩) ((PicC.base (P := P) (vaP_mems hP (fun q hq => List.mem_append_left _ hq)))) (⟨he6, he7⟩) hP hD hS hA hK hE hT rfl hl.1 rfl (Nat.le_of_ble_eq_true rfl) dL_line_4 (Nat.le_of_ble_eq_true rfl) (Nat.le_of_ble_eq_true rfl) ?_ ?_
  · intro E ce q9 H locs hEe hP hS hc1 hc2 hc3
    rcases hEe with ⟨rfl, he⟩ | ⟨rfl, he⟩
    · skip
      refine vx_catch (own := RL) (name := nIA) hown [] ⟨0, 9, 12, 13⟩ [] htab (fun z hz => nomatch hz) (by decide) (by decide) (hts (.classLink RL 13 "java/lang/IllegalArgumentException") (List.mem_of_getElem? (i := 1) rfl)) (va_Nw.use rfl hT.1.1.1.1) hc1 hc2 hc3 ?_
      refine lv_astore_n (lv' := [(3, .ref q9), (0, .ref (g 0)), (1, .int (iI (d))), (2, .ref out)]) hx hb dL_line_12 rfl hl (by decide) rfl (fun ls hl => ?_)
      refine q_iconst hx hb dL_line_13 ?_
      exact q_wret (cells := 1) (slots := 6) (mc := 1) (ms := 6) g hx hb hr hlocks hS he (Or.inr ⟨by rw [he]; decide, hP⟩) (Nat.le_of_ble_eq_true rfl) (Nat.le_of_ble_eq_true rfl) dL_line_14
    · exfalso
      revert he
      (repeat' split) <;> omega
  · intro u H locs he hu hP hD hS
    refine lv_i2l hx hb dL_line_7 rfl ?_
    refine q_last hx hb hK hP hD hS dL_line_8 (fun H locs hP hD hS => ?_)
    refine lv_goto (tgt := 15) hx hb dL_line_9 (by decide) ?_
    refine q_iconst hx hb dL_line_15 ?_
    exact q_wret (cells := 1) (slots := 6) (mc := 1) (ms := 6) u hx hb hr hlocks hS he (Or.inl ⟨he, hu, hP, hD⟩) (Nat.le_of_ble_eq_true rfl) (Nat.le_of_ble_eq_true rfl) dL_line_16
set_option maxHeartbeats 1000000 in
set_option maxRecDepth 100000 in
theorem w_moon (l : Launch) (hst0 : l.stackTraces = false) (D : va_G) (sz out : Nat) (ed : Nat × Nat × Nat) (cI cO cL : ClassId) (g : Nat → Nat) (σ T P : Nat → Int) (fo : Nat → Int64) (hW : WF σ T) (hS0 : WS σ P) (he6 : σ 6 = 0 → g 6 = ed.1) (he7 : σ 7 = 0 → g 7 = ed.1) (k b : Int) (hkr : -2147483648 ≤ k ∧ k < 2147483648) (hb01 : b = 0 ∨ b = 1) : MW l yL_moon wsL_moon 7 104 1 6 D cI cO cL sz out g σ T P fo [.ref (g 0), .int (iI (k)), .int (iI (b)), .ref out] ed (if 0 ≤ k ∧ k ≤ 10000 then 0 else 1) (m_tm (σ 2) (σ 3) k b / 1000) (σ) (T) (P) := by
  refine MW_of (cc := cL_moon) (maxL := 5) (ret := (some .int)) (hh := [(0, 10, 13, 13)]) (by decide) rfl (Nat.le_of_ble_eq_true rfl) ?_
  intro p e s m args below meth c ls hx hb hr hlocks hml htab hown hts hsz hP hK hD hS hA hE hT hN hl
  have hl : lv_has ls 5 [(0, .ref (g 0)), (1, .int (iI (k))), (2, .int (iI (b))), (3, .ref out)] := hl
  refine lv_aload_n hx hb dL_moon_0 rfl (lv_at hl 3 rfl) ?_
  refine q_iconst hx hb dL_moon_1 ?_
  refine lv_aload_n hx hb dL_moon_2 rfl (lv_at hl 0 rfl) ?_
  refine lv_iload_n hx hb dL_moon_3 rfl (lv_at hl 1 rfl) ?_
  refine lv_iload_n hx hb dL_moon_4 rfl (lv_at hl 2 rfl) ?_
  refine q_wX (fr := 6) (lo := 82) (nL := 5) (As := [.int (iI (k)), .int (iI (b))]) (rest := [.int (iI (0)), .ref out]) ⟨hx, hb, hml, hown, hts⟩ (x_moon l hst0 D _ cI cO cL g σ T hW k b hkr hb01) (cwV 2 hts gL_moon_X5_moon rfl rfl rfl (by decide +kernel) ⟨Nat.le_of_ble_eq_true rfl, Nat.le_of_ble_eq_true rfl⟩) ((PicC.base (P := P) (vaP_mems hP (fun q hq => List.mem_append_left _ hq)))) (⟨he6, he7⟩) hP hD hS hA hK hE hT rfl hl.1 rfl (Nat.le_of_ble_eq_true rfl) dL_moon_5 (Nat.le_of_ble_eq_true rfl) (Nat.le_of_ble_eq_true rfl) ?_ ?_
  · intro E ce q9 H locs hEe hP hS hc1 hc2 hc3
    rcases hEe with ⟨rfl, he⟩ | ⟨rfl, he⟩
    · skip
      refine vx_catch (own := RL) (name := nIA) hown [] ⟨0, 10, 13, 13⟩ [] htab (fun z hz => nomatch hz) (by decide) (by decide) (hts (.classLink RL 13 "java/lang/IllegalArgumentException") (List.mem_of_getElem? (i := 1) rfl)) (va_Nw.use rfl hT.1.1.1.1) hc1 hc2 hc3 ?_
      refine lv_astore (lv' := [(4, .ref q9), (0, .ref (g 0)), (1, .int (iI (k))), (2, .int (iI (b))), (3, .ref out)]) hx hb dL_moon_13 hl (by decide) rfl (fun ls hl => ?_)
      refine q_iconst hx hb dL_moon_15 ?_
      exact q_wret (cells := 1) (slots := 6) (mc := 1) (ms := 6) g hx hb hr hlocks hS he (Or.inr ⟨by rw [he]; decide, hP⟩) (Nat.le_of_ble_eq_true rfl) (Nat.le_of_ble_eq_true rfl) dL_moon_16
    · exfalso
      revert he
      (repeat' split) <;> omega
  · intro u H locs he hu hP hD hS
    refine lv_i2l hx hb dL_moon_8 rfl ?_
    refine q_last hx hb hK hP hD hS dL_moon_9 (fun H locs hP hD hS => ?_)
    refine lv_goto (tgt := 17) hx hb dL_moon_10 (by decide) ?_
    refine q_iconst hx hb dL_moon_17 ?_
    exact q_wret (cells := 1) (slots := 6) (mc := 1) (ms := 6) u hx hb hr hlocks hS he (Or.inl ⟨he, hu, hP, hD⟩) (Nat.le_of_ble_eq_true rfl) (Nat.le_of_ble_eq_true rfl) dL_moon_18
set_option maxHeartbeats 1000000 in
set_option maxRecDepth 100000 in
theorem w_eclipses (l : Launch) (hst0 : l.stackTraces = false) (D : va_G) (sz out : Nat) (ed : Nat × Nat × Nat) (cI cO cL : ClassId) (g : Nat → Nat) (σ T P : Nat → Int) (fo : Nat → Int64) (hW : WF σ T) (hS0 : WS σ P) (he6 : σ 6 = 0 → g 6 = ed.1) (he7 : σ 7 = 0 → g 7 = ed.1) (y b : Int) (hyr : -2147483648 ≤ y ∧ y < 2147483648) (hb01 : b = 0 ∨ b = 1) : MW l yL_eclipses wsL_eclipses 7 104 1 6 D cI cO cL sz out g σ T P fo [.ref (g 0), .int (iI (y)), .int (iI (b)), .ref out] ed (if 0 ≤ y ∧ y < 1000 then 0 else 1) (m_Eb σ y (1 - b)) (σ) (T) (P) := by
  refine MW_of (cc := cL_eclipses) (maxL := 5) (ret := (some .int)) (hh := [(0, 10, 13, 13)]) (by decide) rfl (Nat.le_of_ble_eq_true rfl) ?_
  intro p e s m args below meth c ls hx hb hr hlocks hml htab hown hts hsz hP hK hD hS hA hE hT hN hl
  have hl : lv_has ls 5 [(0, .ref (g 0)), (1, .int (iI (y))), (2, .int (iI (b))), (3, .ref out)] := hl
  refine lv_aload_n hx hb dL_eclipses_0 rfl (lv_at hl 3 rfl) ?_
  refine q_iconst hx hb dL_eclipses_1 ?_
  refine lv_aload_n hx hb dL_eclipses_2 rfl (lv_at hl 0 rfl) ?_
  refine lv_iload_n hx hb dL_eclipses_3 rfl (lv_at hl 1 rfl) ?_
  refine lv_iload_n hx hb dL_eclipses_4 rfl (lv_at hl 2 rfl) ?_
  refine q_wX (fr := 6) (lo := 82) (nL := 5) (As := [.int (iI (y)), .int (iI (b))]) (rest := [.int (iI (0)), .ref out]) ⟨hx, hb, hml, hown, hts⟩ (x_eclipses l hst0 D _ cI cO cL g σ T hW y b hyr hb01) (cwV 2 hts gL_eclipses_X5_eclipses rfl rfl rfl (by decide +kernel) ⟨Nat.le_of_ble_eq_true rfl, Nat.le_of_ble_eq_true rfl⟩) ((PicC.base (P := P) (vaP_mems hP (fun q hq => List.mem_append_left _ hq)))) (⟨he6, he7⟩) hP hD hS hA hK hE hT rfl hl.1 rfl (Nat.le_of_ble_eq_true rfl) dL_eclipses_5 (Nat.le_of_ble_eq_true rfl) (Nat.le_of_ble_eq_true rfl) ?_ ?_
  · intro E ce q9 H locs hEe hP hS hc1 hc2 hc3
    rcases hEe with ⟨rfl, he⟩ | ⟨rfl, he⟩
    · skip
      refine vx_catch (own := RL) (name := nIA) hown [] ⟨0, 10, 13, 13⟩ [] htab (fun z hz => nomatch hz) (by decide) (by decide) (hts (.classLink RL 13 "java/lang/IllegalArgumentException") (List.mem_of_getElem? (i := 1) rfl)) (va_Nw.use rfl hT.1.1.1.1) hc1 hc2 hc3 ?_
      refine lv_astore (lv' := [(4, .ref q9), (0, .ref (g 0)), (1, .int (iI (y))), (2, .int (iI (b))), (3, .ref out)]) hx hb dL_eclipses_13 hl (by decide) rfl (fun ls hl => ?_)
      refine q_iconst hx hb dL_eclipses_15 ?_
      exact q_wret (cells := 1) (slots := 6) (mc := 1) (ms := 6) g hx hb hr hlocks hS he (Or.inr ⟨by rw [he]; decide, hP⟩) (Nat.le_of_ble_eq_true rfl) (Nat.le_of_ble_eq_true rfl) dL_eclipses_16
    · exfalso
      revert he
      (repeat' split) <;> omega
  · intro u H locs he hu hP hD hS
    refine lv_i2l hx hb dL_eclipses_8 rfl ?_
    refine q_last hx hb hK hP hD hS dL_eclipses_9 (fun H locs hP hD hS => ?_)
    refine lv_goto (tgt := 17) hx hb dL_eclipses_10 (by decide) ?_
    refine q_iconst hx hb dL_eclipses_17 ?_
    exact q_wret (cells := 1) (slots := 6) (mc := 1) (ms := 6) u hx hb hr hlocks hS he (Or.inl ⟨he, hu, hP, hD⟩) (Nat.le_of_ble_eq_true rfl) (Nat.le_of_ble_eq_true rfl) dL_eclipses_18
set_option maxHeartbeats 1000000 in
set_option maxRecDepth 100000 in
theorem w_next (l : Launch) (hst0 : l.stackTraces = false) (D : va_G) (sz out : Nat) (ed : Nat × Nat × Nat) (cI cO cL : ClassId) (g : Nat → Nat) (σ T P : Nat → Int) (fo : Nat → Int64) (hW : WF σ T) (hS0 : WS σ P) (he6 : σ 6 = 0 → g 6 = ed.1) (he7 : σ 7 = 0 → g 7 = ed.1) (d : Int) (hdr : -2147483648 ≤ d ∧ d < 2147483648) : MW l yL_next wsL_next 7 105 1 6 D cI cO cL sz out g σ T P fo [.ref (g 0), .int (iI (d)), .ref out] ed (if 0 ≤ d ∧ d < m_fd (σ 0) (σ 1) 1000 then 0 else 1) (m_next σ d) (σ) (T) (P) := by
  refine MW_of (cc := cL_next) (maxL := 4) (ret := (some .int)) (hh := [(0, 9, 12, 13)]) (by decide) rfl (Nat.le_of_ble_eq_true rfl) ?_
  intro p e s m args below meth c ls hx hb hr hlocks hml htab hown hts hsz hP hK hD hS hA hE hT hN hl
  have hl : lv_has ls 4 [(0, .ref (g 0)), (1, .int (iI (d))), (2, .ref out)] := hl
  refine lv_aload_n hx hb dL_next_0 rfl (lv_at hl 2 rfl) ?_
  refine q_iconst hx hb dL_next_1 ?_
  refine lv_aload_n hx hb dL_next_2 rfl (lv_at hl 0 rfl) ?_
  refine lv_iload_n hx hb dL_next_3 rfl (lv_at hl 1 rfl) ?_
  refine q_wX (fr := 6) (lo := 82) (nL := 4) (As := [.int (iI (d))]) (rest := [.int (iI (0)), .ref out]) ⟨hx, hb, hml, hown, hts⟩ (x_next l hst0 D _ cI cO cL g σ T hW d hdr) (cwV 1 hts gL_next_X5_next rfl rfl rfl (by decide +kernel) ⟨Nat.le_of_ble_eq_true rfl, Nat.le_of_ble_eq_true rfl⟩) ((PicC.base (P := P) (vaP_mems hP (fun q hq => List.mem_append_left _ hq)))) (⟨he6, he7⟩) hP hD hS hA hK hE hT rfl hl.1 rfl (Nat.le_of_ble_eq_true rfl) dL_next_4 (Nat.le_of_ble_eq_true rfl) (Nat.le_of_ble_eq_true rfl) ?_ ?_
  · intro E ce q9 H locs hEe hP hS hc1 hc2 hc3
    rcases hEe with ⟨rfl, he⟩ | ⟨rfl, he⟩
    · skip
      refine vx_catch (own := RL) (name := nIA) hown [] ⟨0, 9, 12, 13⟩ [] htab (fun z hz => nomatch hz) (by decide) (by decide) (hts (.classLink RL 13 "java/lang/IllegalArgumentException") (List.mem_of_getElem? (i := 1) rfl)) (va_Nw.use rfl hT.1.1.1.1) hc1 hc2 hc3 ?_
      refine lv_astore_n (lv' := [(3, .ref q9), (0, .ref (g 0)), (1, .int (iI (d))), (2, .ref out)]) hx hb dL_next_12 rfl hl (by decide) rfl (fun ls hl => ?_)
      refine q_iconst hx hb dL_next_13 ?_
      exact q_wret (cells := 1) (slots := 6) (mc := 1) (ms := 6) g hx hb hr hlocks hS he (Or.inr ⟨by rw [he]; decide, hP⟩) (Nat.le_of_ble_eq_true rfl) (Nat.le_of_ble_eq_true rfl) dL_next_14
    · exfalso
      revert he
      (repeat' split) <;> omega
  · intro u H locs he hu hP hD hS
    refine lv_i2l hx hb dL_next_7 rfl ?_
    refine q_last hx hb hK hP hD hS dL_next_8 (fun H locs hP hD hS => ?_)
    refine lv_goto (tgt := 15) hx hb dL_next_9 (by decide) ?_
    refine q_iconst hx hb dL_next_15 ?_
    exact q_wret (cells := 1) (slots := 6) (mc := 1) (ms := 6) u hx hb hr hlocks hS he (Or.inl ⟨he, hu, hP, hD⟩) (Nat.le_of_ble_eq_true rfl) (Nat.le_of_ble_eq_true rfl) dL_next_16
set_option maxHeartbeats 1000000 in
set_option maxRecDepth 100000 in
theorem w_feast (l : Launch) (hst0 : l.stackTraces = false) (D : va_G) (sz out : Nat) (ed : Nat × Nat × Nat) (cI cO cL : ClassId) (g : Nat → Nat) (σ T P : Nat → Int) (fo : Nat → Int64) (hW : WF σ T) (hS0 : WS σ P) (he6 : σ 6 = 0 → g 6 = ed.1) (he7 : σ 7 = 0 → g 7 = ed.1) (j y : Int) (hjr : -2147483648 ≤ j ∧ j < 2147483648) (hyr : -2147483648 ≤ y ∧ y < 2147483648) : MW l yL_feast wsL_feast 7 104 1 6 D cI cO cL sz out g σ T P fo [.ref (g 0), .int (iI (j)), .int (iI (y)), .ref out] ed (if 0 ≤ j ∧ j < σ 6 then (if 0 ≤ y ∧ y < 1000 then 0 else 2) else 1) (m_F σ T j.toNat y) (σ) (T) (P) := by
  refine MW_of (cc := cL_feast) (maxL := 5) (ret := (some .int)) (hh := [(0, 10, 13, 32), (0, 10, 17, 13)]) (by decide) rfl (Nat.le_of_ble_eq_true rfl) ?_
  intro p e s m args below meth c ls hx hb hr hlocks hml htab hown hts hsz hP hK hD hS hA hE hT hN hl
  have hl : lv_has ls 5 [(0, .ref (g 0)), (1, .int (iI (j))), (2, .int (iI (y))), (3, .ref out)] := hl
  refine lv_aload_n hx hb dL_feast_0 rfl (lv_at hl 3 rfl) ?_
  refine q_iconst hx hb dL_feast_1 ?_
  refine lv_aload_n hx hb dL_feast_2 rfl (lv_at hl 0 rfl) ?_
  refine lv_iload_n hx hb dL_feast_3 rfl (lv_at hl 1 rfl) ?_
  refine lv_iload_n hx hb dL_feast_4 rfl (lv_at hl 2 rfl) ?_
  refine q_wX (fr := 6) (lo := 82) (nL := 5) (As := [.int (iI (j)), .int (iI (y))]) (rest := [.int (iI (0)), .ref out]) ⟨hx, hb, hml, hown, hts⟩ (x_feast l hst0 D _ cI cO cL g σ T hW j y hjr hyr) (cwV 2 hts gL_feast_X5_feast rfl rfl rfl (by decide +kernel) ⟨Nat.le_of_ble_eq_true rfl, Nat.le_of_ble_eq_true rfl⟩) ((PicC.base (P := P) (vaP_mems hP (fun q hq => List.mem_append_left _ hq)))) (⟨he6, he7⟩) hP hD hS hA hK hE hT rfl hl.1 rfl (Nat.le_of_ble_eq_true rfl) dL_feast_5 (Nat.le_of_ble_eq_true rfl) (Nat.le_of_ble_eq_true rfl) ?_ ?_
  · intro E ce q9 H locs hEe hP hS hc1 hc2 hc3
    rcases hEe with ⟨rfl, he⟩ | ⟨rfl, he⟩
    · skip
      refine vx_catch (own := RL) (name := nIO) hown [] ⟨0, 10, 13, 32⟩ [⟨0, 10, 17, 13⟩] htab (fun z hz => nomatch hz) (by decide) (by decide) (hts (.classLink RL 32 "java/lang/IndexOutOfBoundsException") (List.mem_of_getElem? (i := 1) rfl)) (va_Nw.use rfl hT.1.1.1.2.1) hc1 hc2 hc3 ?_
      refine lv_astore (lv' := [(4, .ref q9), (0, .ref (g 0)), (1, .int (iI (j))), (2, .int (iI (y))), (3, .ref out)]) hx hb dL_feast_13 hl (by decide) rfl (fun ls hl => ?_)
      refine q_iconst hx hb dL_feast_15 ?_
      exact q_wret (cells := 1) (slots := 6) (mc := 1) (ms := 6) g hx hb hr hlocks hS he (Or.inr ⟨by rw [he]; decide, hP⟩) (Nat.le_of_ble_eq_true rfl) (Nat.le_of_ble_eq_true rfl) dL_feast_16
    · skip
      refine vx_catch (own := RL) (name := nIA) hown [⟨0, 10, 13, 32⟩] ⟨0, 10, 17, 13⟩ [] htab (fun z hz => Or.inr (by rcases List.mem_singleton.mp hz with rfl; exact ⟨by decide, nIO, (hts (.classLink RL 32 "java/lang/IndexOutOfBoundsException") (List.mem_of_getElem? (i := 1) rfl)), hN.2.1⟩)) (by decide) (by decide) (hts (.classLink RL 13 "java/lang/IllegalArgumentException") (List.mem_of_getElem? (i := 2) rfl)) (va_Nw.use rfl hT.1.1.1.1) hc1 hc2 hc3 ?_
      refine lv_astore (lv' := [(4, .ref q9), (0, .ref (g 0)), (1, .int (iI (j))), (2, .int (iI (y))), (3, .ref out)]) hx hb dL_feast_17 hl (by decide) rfl (fun ls hl => ?_)
      refine q_iconst hx hb dL_feast_19 ?_
      exact q_wret (cells := 1) (slots := 6) (mc := 1) (ms := 6) g hx hb hr hlocks hS he (Or.inr ⟨by rw [he]; decide, hP⟩) (Nat.le_of_ble_eq_true rfl) (Nat.le_of_ble_eq_true rfl) dL_feast_20
  · intro u H locs he hu hP hD hS
    refine lv_i2l hx hb dL_feast_8 rfl ?_
    refine q_last hx hb hK hP hD hS dL_feast_9 (fun H locs hP hD hS => ?_)
    refine lv_goto (tgt := 21) hx hb dL_feast_10 (by decide) ?_
    refine q_iconst hx hb dL_feast_21 ?_
    exact q_wret (cells := 1) (slots := 6) (mc := 1) (ms := 6) u hx hb hr hlocks hS he (Or.inl ⟨he, hu, hP, hD⟩) (Nat.le_of_ble_eq_true rfl) (Nat.le_of_ble_eq_true rfl) dL_feast_22
set_option maxHeartbeats 1000000 in
set_option maxRecDepth 100000 in
theorem w_clashes (l : Launch) (hst0 : l.stackTraces = false) (D : va_G) (sz out : Nat) (ed : Nat × Nat × Nat) (cI cO cL : ClassId) (g : Nat → Nat) (σ T P : Nat → Int) (fo : Nat → Int64) (hW : WF σ T) (hS0 : WS σ P) (he6 : σ 6 = 0 → g 6 = ed.1) (he7 : σ 7 = 0 → g 7 = ed.1) (y : Int) (hyr : -2147483648 ≤ y ∧ y < 2147483648) : MW l yL_clashes wsL_clashes 7 112 1 6 D cI cO cL sz out g σ T P fo [.ref (g 0), .int (iI (y)), .ref out] ed (if 0 ≤ y ∧ y < 1000 then 0 else 1) (m_pairs (fun i => m_F σ T i y) (σ 6).toNat) (σ) (T) (P) := by
  refine MW_of (cc := cL_clashes) (maxL := 4) (ret := (some .int)) (hh := [(0, 9, 12, 13)]) (by decide) rfl (Nat.le_of_ble_eq_true rfl) ?_
  intro p e s m args below meth c ls hx hb hr hlocks hml htab hown hts hsz hP hK hD hS hA hE hT hN hl
  have hl : lv_has ls 4 [(0, .ref (g 0)), (1, .int (iI (y))), (2, .ref out)] := hl
  refine lv_aload_n hx hb dL_clashes_0 rfl (lv_at hl 2 rfl) ?_
  refine q_iconst hx hb dL_clashes_1 ?_
  refine lv_aload_n hx hb dL_clashes_2 rfl (lv_at hl 0 rfl) ?_
  refine lv_iload_n hx hb dL_clashes_3 rfl (lv_at hl 1 rfl) ?_
  refine q_wX (fr := 6) (lo := 89) (nL := 4) (As := [.int (iI (y))]) (rest := [.int (iI (0)), .ref out]) ⟨hx, hb, hml, hown, hts⟩ (x_clashes l hst0 D _ cI cO cL g σ T hW y hyr) (cwV 1 hts gL_clashes_X5_clashes rfl rfl rfl (by decide +kernel) ⟨Nat.le_of_ble_eq_true rfl, Nat.le_of_ble_eq_true rfl⟩) ((PicC.base (P := P) (vaP_mems hP (fun q hq => List.mem_append_left _ hq)))) (⟨he6, he7⟩) hP hD hS hA hK hE hT rfl hl.1 rfl (Nat.le_of_ble_eq_true rfl) dL_clashes_4 (Nat.le_of_ble_eq_true rfl) (Nat.le_of_ble_eq_true rfl) ?_ ?_
  · intro E ce q9 H locs hEe hP hS hc1 hc2 hc3
    rcases hEe with ⟨rfl, he⟩ | ⟨rfl, he⟩
    · skip
      refine vx_catch (own := RL) (name := nIA) hown [] ⟨0, 9, 12, 13⟩ [] htab (fun z hz => nomatch hz) (by decide) (by decide) (hts (.classLink RL 13 "java/lang/IllegalArgumentException") (List.mem_of_getElem? (i := 1) rfl)) (va_Nw.use rfl hT.1.1.1.1) hc1 hc2 hc3 ?_
      refine lv_astore_n (lv' := [(3, .ref q9), (0, .ref (g 0)), (1, .int (iI (y))), (2, .ref out)]) hx hb dL_clashes_12 rfl hl (by decide) rfl (fun ls hl => ?_)
      refine q_iconst hx hb dL_clashes_13 ?_
      exact q_wret (cells := 1) (slots := 6) (mc := 1) (ms := 6) g hx hb hr hlocks hS he (Or.inr ⟨by rw [he]; decide, hP⟩) (Nat.le_of_ble_eq_true rfl) (Nat.le_of_ble_eq_true rfl) dL_clashes_14
    · exfalso
      revert he
      (repeat' split) <;> omega
  · intro u H locs he hu hP hD hS
    refine lv_i2l hx hb dL_clashes_7 rfl ?_
    refine q_last hx hb hK hP hD hS dL_clashes_8 (fun H locs hP hD hS => ?_)
    refine lv_goto (tgt := 15) hx hb dL_clashes_9 (by decide) ?_
    refine q_iconst hx hb dL_clashes_15 ?_
    exact q_wret (cells := 1) (slots := 6) (mc := 1) (ms := 6) u hx hb hr hlocks hS he (Or.inl ⟨he, hu, hP, hD⟩) (Nat.le_of_ble_eq_true rfl) (Nat.le_of_ble_eq_true rfl) dL_clashes_16
set_option maxHeartbeats 1000000 in
set_option maxRecDepth 100000 in
theorem w_again (l : Launch) (hst0 : l.stackTraces = false) (D : va_G) (sz out : Nat) (ed : Nat × Nat × Nat) (cI cO cL : ClassId) (g : Nat → Nat) (σ T P : Nat → Int) (fo : Nat → Int64) (hW : WF σ T) (hS0 : WS σ P) (he6 : σ 6 = 0 → g 6 = ed.1) (he7 : σ 7 = 0 → g 7 = ed.1) (j y : Int) (hjr : -2147483648 ≤ j ∧ j < 2147483648) (hyr : -2147483648 ≤ y ∧ y < 2147483648) : MW l yL_again wsL_again 7 107 1 6 D cI cO cL sz out g σ T P fo [.ref (g 0), .int (iI (j)), .int (iI (y)), .ref out] ed (if 0 ≤ j ∧ j < σ 6 then (if 0 ≤ y ∧ y < 1000 then 0 else 2) else 1) (m_again σ T j.toNat y) (σ) (T) (P) := by
  refine MW_of (cc := cL_again) (maxL := 5) (ret := (some .int)) (hh := [(0, 10, 13, 32), (0, 10, 17, 13)]) (by decide) rfl (Nat.le_of_ble_eq_true rfl) ?_
  intro p e s m args below meth c ls hx hb hr hlocks hml htab hown hts hsz hP hK hD hS hA hE hT hN hl
  have hl : lv_has ls 5 [(0, .ref (g 0)), (1, .int (iI (j))), (2, .int (iI (y))), (3, .ref out)] := hl
  refine lv_aload_n hx hb dL_again_0 rfl (lv_at hl 3 rfl) ?_
  refine q_iconst hx hb dL_again_1 ?_
  refine lv_aload_n hx hb dL_again_2 rfl (lv_at hl 0 rfl) ?_
  refine lv_iload_n hx hb dL_again_3 rfl (lv_at hl 1 rfl) ?_
  refine lv_iload_n hx hb dL_again_4 rfl (lv_at hl 2 rfl) ?_
  refine q_wX (fr := 6) (lo := 82) (nL := 5) (As := [.int (iI (j)), .int (iI (y))]) (rest := [.int (iI (0)), .ref out]) ⟨hx, hb, hml, hown, hts⟩ (x_again l hst0 D _ cI cO cL g σ T hW j y hjr hyr) (cwV 2 hts gL_again_X5_again rfl rfl rfl (by decide +kernel) ⟨Nat.le_of_ble_eq_true rfl, Nat.le_of_ble_eq_true rfl⟩) ((PicC.base (P := P) (vaP_mems hP (fun q hq => List.mem_append_left _ hq)))) (⟨he6, he7⟩) hP hD hS hA hK hE hT rfl hl.1 rfl (Nat.le_of_ble_eq_true rfl) dL_again_5 (Nat.le_of_ble_eq_true rfl) (Nat.le_of_ble_eq_true rfl) ?_ ?_
  · intro E ce q9 H locs hEe hP hS hc1 hc2 hc3
    rcases hEe with ⟨rfl, he⟩ | ⟨rfl, he⟩
    · skip
      refine vx_catch (own := RL) (name := nIO) hown [] ⟨0, 10, 13, 32⟩ [⟨0, 10, 17, 13⟩] htab (fun z hz => nomatch hz) (by decide) (by decide) (hts (.classLink RL 32 "java/lang/IndexOutOfBoundsException") (List.mem_of_getElem? (i := 1) rfl)) (va_Nw.use rfl hT.1.1.1.2.1) hc1 hc2 hc3 ?_
      refine lv_astore (lv' := [(4, .ref q9), (0, .ref (g 0)), (1, .int (iI (j))), (2, .int (iI (y))), (3, .ref out)]) hx hb dL_again_13 hl (by decide) rfl (fun ls hl => ?_)
      refine q_iconst hx hb dL_again_15 ?_
      exact q_wret (cells := 1) (slots := 6) (mc := 1) (ms := 6) g hx hb hr hlocks hS he (Or.inr ⟨by rw [he]; decide, hP⟩) (Nat.le_of_ble_eq_true rfl) (Nat.le_of_ble_eq_true rfl) dL_again_16
    · skip
      refine vx_catch (own := RL) (name := nIA) hown [⟨0, 10, 13, 32⟩] ⟨0, 10, 17, 13⟩ [] htab (fun z hz => Or.inr (by rcases List.mem_singleton.mp hz with rfl; exact ⟨by decide, nIO, (hts (.classLink RL 32 "java/lang/IndexOutOfBoundsException") (List.mem_of_getElem? (i := 1) rfl)), hN.2.1⟩)) (by decide) (by decide) (hts (.classLink RL 13 "java/lang/IllegalArgumentException") (List.mem_of_getElem? (i := 2) rfl)) (va_Nw.use rfl hT.1.1.1.1) hc1 hc2 hc3 ?_
      refine lv_astore (lv' := [(4, .ref q9), (0, .ref (g 0)), (1, .int (iI (j))), (2, .int (iI (y))), (3, .ref out)]) hx hb dL_again_17 hl (by decide) rfl (fun ls hl => ?_)
      refine q_iconst hx hb dL_again_19 ?_
      exact q_wret (cells := 1) (slots := 6) (mc := 1) (ms := 6) g hx hb hr hlocks hS he (Or.inr ⟨by rw [he]; decide, hP⟩) (Nat.le_of_ble_eq_true rfl) (Nat.le_of_ble_eq_true rfl) dL_again_20
  · intro u H locs he hu hP hD hS
    refine lv_i2l hx hb dL_again_8 rfl ?_
    refine q_last hx hb hK hP hD hS dL_again_9 (fun H locs hP hD hS => ?_)
    refine lv_goto (tgt := 21) hx hb dL_again_10 (by decide) ?_
    refine q_iconst hx hb dL_again_21 ?_
    exact q_wret (cells := 1) (slots := 6) (mc := 1) (ms := 6) u hx hb hr hlocks hS he (Or.inl ⟨he, hu, hP, hD⟩) (Nat.le_of_ble_eq_true rfl) (Nat.le_of_ble_eq_true rfl) dL_again_22
set_option maxHeartbeats 1000000 in
set_option maxRecDepth 100000 in
theorem w_cycle (l : Launch) (hst0 : l.stackTraces = false) (D : va_G) (sz out : Nat) (ed : Nat × Nat × Nat) (cI cO cL : ClassId) (g : Nat → Nat) (σ T P : Nat → Int) (fo : Nat → Int64) (hW : WF σ T) (hS0 : WS σ P) (he6 : σ 6 = 0 → g 6 = ed.1) (he7 : σ 7 = 0 → g 7 = ed.1) (off : Int) (hoffr : -2147483648 ≤ off ∧ off < 2147483648) : MW l yL_cycle wsL_cycle 7 105 1 6 D cI cO cL sz out g σ T P fo [.ref (g 0), .int (iI (off)), .ref out] ed (if 0 ≤ off ∧ off ≤ 5000 then 0 else 1) (m_cyc σ off 400 1) (σ) (T) (P) := by
  refine MW_of (cc := cL_cycle) (maxL := 4) (ret := (some .int)) (hh := [(0, 9, 12, 13)]) (by decide) rfl (Nat.le_of_ble_eq_true rfl) ?_
  intro p e s m args below meth c ls hx hb hr hlocks hml htab hown hts hsz hP hK hD hS hA hE hT hN hl
  have hl : lv_has ls 4 [(0, .ref (g 0)), (1, .int (iI (off))), (2, .ref out)] := hl
  refine lv_aload_n hx hb dL_cycle_0 rfl (lv_at hl 2 rfl) ?_
  refine q_iconst hx hb dL_cycle_1 ?_
  refine lv_aload_n hx hb dL_cycle_2 rfl (lv_at hl 0 rfl) ?_
  refine lv_iload_n hx hb dL_cycle_3 rfl (lv_at hl 1 rfl) ?_
  refine q_wX (fr := 6) (lo := 82) (nL := 4) (As := [.int (iI (off))]) (rest := [.int (iI (0)), .ref out]) ⟨hx, hb, hml, hown, hts⟩ (x_cycle l hst0 D _ cI cO cL g σ T hW off hoffr) (cwV 1 hts gL_cycle_X5_cycle rfl rfl rfl (by decide +kernel) ⟨Nat.le_of_ble_eq_true rfl, Nat.le_of_ble_eq_true rfl⟩) ((PicC.base (P := P) (vaP_mems hP (fun q hq => List.mem_append_left _ hq)))) (⟨he6, he7⟩) hP hD hS hA hK hE hT rfl hl.1 rfl (Nat.le_of_ble_eq_true rfl) dL_cycle_4 (Nat.le_of_ble_eq_true rfl) (Nat.le_of_ble_eq_true rfl) ?_ ?_
  · intro E ce q9 H locs hEe hP hS hc1 hc2 hc3
    rcases hEe with ⟨rfl, he⟩ | ⟨rfl, he⟩
    · skip
      refine vx_catch (own := RL) (name := nIA) hown [] ⟨0, 9, 12, 13⟩ [] htab (fun z hz => nomatch hz) (by decide) (by decide) (hts (.classLink RL 13 "java/lang/IllegalArgumentException") (List.mem_of_getElem? (i := 1) rfl)) (va_Nw.use rfl hT.1.1.1.1) hc1 hc2 hc3 ?_
      refine lv_astore_n (lv' := [(3, .ref q9), (0, .ref (g 0)), (1, .int (iI (off))), (2, .ref out)]) hx hb dL_cycle_12 rfl hl (by decide) rfl (fun ls hl => ?_)
      refine q_iconst hx hb dL_cycle_13 ?_
      exact q_wret (cells := 1) (slots := 6) (mc := 1) (ms := 6) g hx hb hr hlocks hS he (Or.inr ⟨by rw [he]; decide, hP⟩) (Nat.le_of_ble_eq_true rfl) (Nat.le_of_ble_eq_true rfl) dL_cycle_14
    · exfalso
      revert he
      (repeat' split) <;> omega
  · intro u H locs he hu hP hD hS
    refine lv_i2l hx hb dL_cycle_7 rfl ?_
    refine q_last hx hb hK hP hD hS dL_cycle_8 (fun H locs hP hD hS => ?_)
    refine lv_goto (tgt := 15) hx hb dL_cycle_9 (by decide) ?_
    refine q_iconst hx hb dL_cycle_15 ?_
    exact q_wret (cells := 1) (slots := 6) (mc := 1) (ms := 6) u hx hb hr hlocks hS he (Or.inl ⟨he, hu, hP, hD⟩) (Nat.le_of_ble_eq_true rfl) (Nat.le_of_ble_eq_true rfl) dL_cycle_16
set_option maxHeartbeats 1000000 in
set_option maxRecDepth 100000 in
theorem w_sheet (l : Launch) (hst0 : l.stackTraces = false) (D : va_G) (sz out : Nat) (ed : Nat × Nat × Nat) (cI cO cL : ClassId) (g : Nat → Nat) (σ T P : Nat → Int) (fo : Nat → Int64) (hW : WF σ T) (hS0 : WS σ P) (he6 : σ 6 = 0 → g 6 = ed.1) (he7 : σ 7 = 0 → g 7 = ed.1) (j w : Int) (hjr : -2147483648 ≤ j ∧ j < 2147483648) (hwr : -2147483648 ≤ w ∧ w < 2147483648) : MW l yL_sheet wsL_sheet 7 132 1 6 D cI cO cL sz out g σ T P fo [.ref (g 0), .int (iI (j)), .int (iI (w)), .ref out] ed (if (0 ≤ j ∧ j < σ 7) ∧ (0 ≤ w ∧ w ≤ 4) then 0 else 1) (m_told σ T P j.toNat w) (σ) (T) (P) := by
  refine MW_of (cc := cL_sheet) (maxL := 5) (ret := (some .int)) (hh := [(0, 10, 13, 32)]) (by decide) rfl (Nat.le_of_ble_eq_true rfl) ?_
  intro p e s m args below meth c ls hx hb hr hlocks hml htab hown hts hsz hP hK hD hS hA hE hT hN hl
  have hl : lv_has ls 5 [(0, .ref (g 0)), (1, .int (iI (j))), (2, .int (iI (w))), (3, .ref out)] := hl
  refine lv_aload_n hx hb dL_sheet_0 rfl (lv_at hl 3 rfl) ?_
  refine q_iconst hx hb dL_sheet_1 ?_
  refine lv_aload_n hx hb dL_sheet_2 rfl (lv_at hl 0 rfl) ?_
  refine lv_iload_n hx hb dL_sheet_3 rfl (lv_at hl 1 rfl) ?_
  refine lv_iload_n hx hb dL_sheet_4 rfl (lv_at hl 2 rfl) ?_
  refine q_wX (fr := 6) (lo := 109) (nL := 5) (As := [.int (iI (j)), .int (iI (w))]) (rest := [.int (iI (0)), .ref out]) ⟨hx, hb, hml, hown, hts⟩ (x_sheet l hst0 D _ cI cO cL g σ T P hW hS0 j w hjr hwr) (cwV 2 hts gL_sheet_X5_sheet rfl rfl rfl (by decide +kernel) ⟨Nat.le_of_ble_eq_true rfl, Nat.le_of_ble_eq_true rfl⟩) ((vaP_mems hP (fun q hq => List.mem_append_left _ hq))) (⟨he6, he7⟩) hP hD hS hA hK hE hT rfl hl.1 rfl (Nat.le_of_ble_eq_true rfl) dL_sheet_5 (Nat.le_of_ble_eq_true rfl) (Nat.le_of_ble_eq_true rfl) ?_ ?_
  · intro E ce q9 H locs hEe hP hS hc1 hc2 hc3
    rcases hEe with ⟨rfl, he⟩ | ⟨rfl, he⟩
    · skip
      refine vx_catch (own := RL) (name := nIO) hown [] ⟨0, 10, 13, 32⟩ [] htab (fun z hz => nomatch hz) (by decide) (by decide) (hts (.classLink RL 32 "java/lang/IndexOutOfBoundsException") (List.mem_of_getElem? (i := 1) rfl)) (va_Nw.use rfl hT.1.1.1.2.1) hc1 hc2 hc3 ?_
      refine lv_astore (lv' := [(4, .ref q9), (0, .ref (g 0)), (1, .int (iI (j))), (2, .int (iI (w))), (3, .ref out)]) hx hb dL_sheet_13 hl (by decide) rfl (fun ls hl => ?_)
      refine q_iconst hx hb dL_sheet_15 ?_
      exact q_wret (cells := 1) (slots := 6) (mc := 1) (ms := 6) g hx hb hr hlocks hS he (Or.inr ⟨by rw [he]; decide, hP⟩) (Nat.le_of_ble_eq_true rfl) (Nat.le_of_ble_eq_true rfl) dL_sheet_16
    · exfalso
      revert he
      (repeat' split) <;> omega
  · intro u H locs he hu hP hD hS
    refine lv_i2l hx hb dL_sheet_8 rfl ?_
    refine q_last hx hb hK hP hD hS dL_sheet_9 (fun H locs hP hD hS => ?_)
    refine lv_goto (tgt := 17) hx hb dL_sheet_10 (by decide) ?_
    refine q_iconst hx hb dL_sheet_17 ?_
    exact q_wret (cells := 1) (slots := 6) (mc := 1) (ms := 6) u hx hb hr hlocks hS he (Or.inl ⟨he, hu, hP, hD⟩) (Nat.le_of_ble_eq_true rfl) (Nat.le_of_ble_eq_true rfl) dL_sheet_18
set_option maxHeartbeats 1000000 in
set_option maxRecDepth 100000 in
theorem w_printed (l : Launch) (hst0 : l.stackTraces = false) (D : va_G) (sz out : Nat) (ed : Nat × Nat × Nat) (cI cO cL : ClassId) (g : Nat → Nat) (σ T P : Nat → Int) (fo : Nat → Int64) (hW : WF σ T) (hS0 : WS σ P) (he6 : σ 6 = 0 → g 6 = ed.1) (he7 : σ 7 = 0 → g 7 = ed.1) (j f : Int) (hjr : -2147483648 ≤ j ∧ j < 2147483648) (hfr : -2147483648 ≤ f ∧ f < 2147483648) : MW l yL_printed wsL_printed 7 105 1 6 D cI cO cL sz out g σ T P fo [.ref (g 0), .int (iI (j)), .int (iI (f)), .ref out] ed (if (0 ≤ j ∧ j < σ 7) ∧ (0 ≤ f ∧ f < P (11 * j.toNat + 1)) then 0 else 1) (P (11 * j.toNat + 3 + f.toNat)) (σ) (T) (P) := by
  refine MW_of (cc := cL_printed) (maxL := 5) (ret := (some .int)) (hh := [(0, 10, 13, 32)]) (by decide) rfl (Nat.le_of_ble_eq_true rfl) ?_
  intro p e s m args below meth c ls hx hb hr hlocks hml htab hown hts hsz hP hK hD hS hA hE hT hN hl
  have hl : lv_has ls 5 [(0, .ref (g 0)), (1, .int (iI (j))), (2, .int (iI (f))), (3, .ref out)] := hl
  refine lv_aload_n hx hb dL_printed_0 rfl (lv_at hl 3 rfl) ?_
  refine q_iconst hx hb dL_printed_1 ?_
  refine lv_aload_n hx hb dL_printed_2 rfl (lv_at hl 0 rfl) ?_
  refine lv_iload_n hx hb dL_printed_3 rfl (lv_at hl 1 rfl) ?_
  refine lv_iload_n hx hb dL_printed_4 rfl (lv_at hl 2 rfl) ?_
  refine q_wX (fr := 6) (lo := 82) (nL := 5) (As := [.int (iI (j)), .int (iI (f))]) (rest := [.int (iI (0)), .ref out]) ⟨hx, hb, hml, hown, hts⟩ (x_printed l hst0 D _ cI cO cL g σ T P hW hS0 j f hjr hfr) (cwV 2 hts gL_printed_X5_printed rfl rfl rfl (by decide +kernel) ⟨Nat.le_of_ble_eq_true rfl, Nat.le_of_ble_eq_true rfl⟩) ((vaP_mems hP (fun q hq => List.mem_append_left _ hq))) (⟨he6, he7⟩) hP hD hS hA hK hE hT rfl hl.1 rfl (Nat.le_of_ble_eq_true rfl) dL_printed_5 (Nat.le_of_ble_eq_true rfl) (Nat.le_of_ble_eq_true rfl) ?_ ?_
  · intro E ce q9 H locs hEe hP hS hc1 hc2 hc3
    rcases hEe with ⟨rfl, he⟩ | ⟨rfl, he⟩
    · skip
      refine vx_catch (own := RL) (name := nIO) hown [] ⟨0, 10, 13, 32⟩ [] htab (fun z hz => nomatch hz) (by decide) (by decide) (hts (.classLink RL 32 "java/lang/IndexOutOfBoundsException") (List.mem_of_getElem? (i := 1) rfl)) (va_Nw.use rfl hT.1.1.1.2.1) hc1 hc2 hc3 ?_
      refine lv_astore (lv' := [(4, .ref q9), (0, .ref (g 0)), (1, .int (iI (j))), (2, .int (iI (f))), (3, .ref out)]) hx hb dL_printed_13 hl (by decide) rfl (fun ls hl => ?_)
      refine q_iconst hx hb dL_printed_15 ?_
      exact q_wret (cells := 1) (slots := 6) (mc := 1) (ms := 6) g hx hb hr hlocks hS he (Or.inr ⟨by rw [he]; decide, hP⟩) (Nat.le_of_ble_eq_true rfl) (Nat.le_of_ble_eq_true rfl) dL_printed_16
    · exfalso
      revert he
      (repeat' split) <;> omega
  · intro u H locs he hu hP hD hS
    refine lv_i2l hx hb dL_printed_8 rfl ?_
    refine q_last hx hb hK hP hD hS dL_printed_9 (fun H locs hP hD hS => ?_)
    refine lv_goto (tgt := 17) hx hb dL_printed_10 (by decide) ?_
    refine q_iconst hx hb dL_printed_17 ?_
    exact q_wret (cells := 1) (slots := 6) (mc := 1) (ms := 6) u hx hb hr hlocks hS he (Or.inl ⟨he, hu, hP, hD⟩) (Nat.le_of_ble_eq_true rfl) (Nat.le_of_ble_eq_true rfl) dL_printed_18
set_option maxHeartbeats 1000000 in
set_option maxRecDepth 100000 in
theorem w_count (l : Launch) (hst0 : l.stackTraces = false) (D : va_G) (sz out : Nat) (ed : Nat × Nat × Nat) (cI cO cL : ClassId) (g : Nat → Nat) (σ T P : Nat → Int) (fo : Nat → Int64) (hW : WF σ T) (hS0 : WS σ P) (he6 : σ 6 = 0 → g 6 = ed.1) (he7 : σ 7 = 0 → g 7 = ed.1) (w : Int) (hwr : -2147483648 ≤ w ∧ w < 2147483648) : MW l yL_count wsL_count 7 152 1 6 D cI cO cL sz out g σ T P fo [.ref (g 0), .int (iI (w)), .ref out] ed (if 0 ≤ w ∧ w ≤ 10 then 0 else 1) (m_count σ T P w) (σ) (T) (P) := by
  refine MW_of (cc := cL_count) (maxL := 4) (ret := (some .int)) (hh := [(0, 9, 12, 32)]) (by decide) rfl (Nat.le_of_ble_eq_true rfl) ?_
  intro p e s m args below meth c ls hx hb hr hlocks hml htab hown hts hsz hP hK hD hS hA hE hT hN hl
  have hl : lv_has ls 4 [(0, .ref (g 0)), (1, .int (iI (w))), (2, .ref out)] := hl
  refine lv_aload_n hx hb dL_count_0 rfl (lv_at hl 2 rfl) ?_
  refine q_iconst hx hb dL_count_1 ?_
  refine lv_aload_n hx hb dL_count_2 rfl (lv_at hl 0 rfl) ?_
  refine lv_iload_n hx hb dL_count_3 rfl (lv_at hl 1 rfl) ?_
  refine q_wX (fr := 6) (lo := 131) (nL := 4) (As := [.int (iI (w))]) (rest := [.int (iI (0)), .ref out]) ⟨hx, hb, hml, hown, hts⟩ (x_count l hst0 D _ cI cO cL g σ T P hW hS0 w hwr) (cwV 1 hts gL_count_X5_count rfl rfl rfl (by decide +kernel) ⟨Nat.le_of_ble_eq_true rfl, Nat.le_of_ble_eq_true rfl⟩) ((vaP_mems hP (fun q hq => List.mem_append_left _ hq))) (⟨he6, he7⟩) hP hD hS hA hK hE hT rfl hl.1 rfl (Nat.le_of_ble_eq_true rfl) dL_count_4 (Nat.le_of_ble_eq_true rfl) (Nat.le_of_ble_eq_true rfl) ?_ ?_
  · intro E ce q9 H locs hEe hP hS hc1 hc2 hc3
    rcases hEe with ⟨rfl, he⟩ | ⟨rfl, he⟩
    · skip
      refine vx_catch (own := RL) (name := nIO) hown [] ⟨0, 9, 12, 32⟩ [] htab (fun z hz => nomatch hz) (by decide) (by decide) (hts (.classLink RL 32 "java/lang/IndexOutOfBoundsException") (List.mem_of_getElem? (i := 1) rfl)) (va_Nw.use rfl hT.1.1.1.2.1) hc1 hc2 hc3 ?_
      refine lv_astore_n (lv' := [(3, .ref q9), (0, .ref (g 0)), (1, .int (iI (w))), (2, .ref out)]) hx hb dL_count_12 rfl hl (by decide) rfl (fun ls hl => ?_)
      refine q_iconst hx hb dL_count_13 ?_
      exact q_wret (cells := 1) (slots := 6) (mc := 1) (ms := 6) g hx hb hr hlocks hS he (Or.inr ⟨by rw [he]; decide, hP⟩) (Nat.le_of_ble_eq_true rfl) (Nat.le_of_ble_eq_true rfl) dL_count_14
    · exfalso
      revert he
      (repeat' split) <;> omega
  · intro u H locs he hu hP hD hS
    refine lv_i2l hx hb dL_count_7 rfl ?_
    refine q_last hx hb hK hP hD hS dL_count_8 (fun H locs hP hD hS => ?_)
    refine lv_goto (tgt := 15) hx hb dL_count_9 (by decide) ?_
    refine q_iconst hx hb dL_count_15 ?_
    exact q_wret (cells := 1) (slots := 6) (mc := 1) (ms := 6) u hx hb hr hlocks hS he (Or.inl ⟨he, hu, hP, hD⟩) (Nat.le_of_ble_eq_true rfl) (Nat.le_of_ble_eq_true rfl) dL_count_16
set_option maxHeartbeats 1000000 in
set_option maxRecDepth 100000 in
theorem w_setLeaps (l : Launch) (hst0 : l.stackTraces = false) (D : va_G) (sz out : Nat) (ed : Nat × Nat × Nat) (cI cO cL : ClassId) (g : Nat → Nat) (σ T P : Nat → Int) (fo : Nat → Int64) (hW : WF σ T) (hS0 : WS σ P) (he6 : σ 6 = 0 → g 6 = ed.1) (he7 : σ 7 = 0 → g 7 = ed.1) (x y : Int) (hxr : -2147483648 ≤ x ∧ x < 2147483648) (hyr : -2147483648 ≤ y ∧ y < 2147483648) : MW l yL_setLeaps wsL_setLeaps 7 105 1 6 D cI cO cL sz out g σ T P fo [.ref (g 0), .int (iI (x)), .int (iI (y)), .ref out] ed (if (1 ≤ x ∧ x ≤ 400) ∧ (0 ≤ y ∧ y ≤ x) then 0 else 1) (1000 * σ 0 + σ 1) (st (st σ 0 x) 1 y) (T) (P) := by
  refine MW_of (cc := cL_setLeaps) (maxL := 5) (ret := (some .int)) (hh := [(0, 10, 13, 13)]) (by decide) rfl (Nat.le_of_ble_eq_true rfl) ?_
  intro p e s m args below meth c ls hx hb hr hlocks hml htab hown hts hsz hP hK hD hS hA hE hT hN hl
  have hl : lv_has ls 5 [(0, .ref (g 0)), (1, .int (iI (x))), (2, .int (iI (y))), (3, .ref out)] := hl
  refine lv_aload_n hx hb dL_setLeaps_0 rfl (lv_at hl 3 rfl) ?_
  refine q_iconst hx hb dL_setLeaps_1 ?_
  refine lv_aload_n hx hb dL_setLeaps_2 rfl (lv_at hl 0 rfl) ?_
  refine lv_iload_n hx hb dL_setLeaps_3 rfl (lv_at hl 1 rfl) ?_
  refine lv_iload_n hx hb dL_setLeaps_4 rfl (lv_at hl 2 rfl) ?_
  refine q_wT (fr := 6) (lo := 82) (nL := 5) (As := [.int (iI (x)), .int (iI (y))]) (rest := [.int (iI (0)), .ref out]) ⟨hx, hb, hml, hown, hts⟩ (t_setLeaps l hst0 D _ ed cI cO cL g σ T P hW hS0 he6 he7 x y hxr hyr) (cwV 2 hts gL_setLeaps_X5_setLeaps rfl rfl rfl (by decide +kernel) ⟨Nat.le_of_ble_eq_true rfl, Nat.le_of_ble_eq_true rfl⟩)  hP hD hS hA hK hE hT rfl hl.1 rfl (Nat.le_of_ble_eq_true rfl) dL_setLeaps_5 (Nat.le_of_ble_eq_true rfl) (Nat.le_of_ble_eq_true rfl) ?_ ?_
  · intro E ce q9 H locs hEe hP hS hc1 hc2 hc3
    rcases hEe with ⟨rfl, he⟩ | ⟨rfl, he⟩
    · skip
      refine vx_catch (own := RL) (name := nIA) hown [] ⟨0, 10, 13, 13⟩ [] htab (fun z hz => nomatch hz) (by decide) (by decide) (hts (.classLink RL 13 "java/lang/IllegalArgumentException") (List.mem_of_getElem? (i := 1) rfl)) (va_Nw.use rfl hT.1.1.1.1) hc1 hc2 hc3 ?_
      refine lv_astore (lv' := [(4, .ref q9), (0, .ref (g 0)), (1, .int (iI (x))), (2, .int (iI (y))), (3, .ref out)]) hx hb dL_setLeaps_13 hl (by decide) rfl (fun ls hl => ?_)
      refine q_iconst hx hb dL_setLeaps_15 ?_
      exact q_wret (cells := 1) (slots := 6) (mc := 1) (ms := 6) g hx hb hr hlocks hS he (Or.inr ⟨by rw [he]; decide, hP⟩) (Nat.le_of_ble_eq_true rfl) (Nat.le_of_ble_eq_true rfl) dL_setLeaps_16
    · exfalso
      revert he
      (repeat' split) <;> omega
  · intro u H locs he hu hP hD hS
    refine lv_i2l hx hb dL_setLeaps_8 rfl ?_
    refine q_last hx hb hK hP hD hS dL_setLeaps_9 (fun H locs hP hD hS => ?_)
    refine lv_goto (tgt := 17) hx hb dL_setLeaps_10 (by decide) ?_
    refine q_iconst hx hb dL_setLeaps_17 ?_
    exact q_wret (cells := 1) (slots := 6) (mc := 1) (ms := 6) u hx hb hr hlocks hS he (Or.inl ⟨he, hu, hP, hD⟩) (Nat.le_of_ble_eq_true rfl) (Nat.le_of_ble_eq_true rfl) dL_setLeaps_18
set_option maxHeartbeats 1000000 in
set_option maxRecDepth 100000 in
theorem w_setMoon (l : Launch) (hst0 : l.stackTraces = false) (D : va_G) (sz out : Nat) (ed : Nat × Nat × Nat) (cI cO cL : ClassId) (g : Nat → Nat) (σ T P : Nat → Int) (fo : Nat → Int64) (hW : WF σ T) (hS0 : WS σ P) (he6 : σ 6 = 0 → g 6 = ed.1) (he7 : σ 7 = 0 → g 7 = ed.1) (x y : Int) (hxr : -2147483648 ≤ x ∧ x < 2147483648) (hyr : -2147483648 ≤ y ∧ y < 2147483648) : MW l yL_setMoon wsL_setMoon 7 105 1 6 D cI cO cL sz out g σ T P fo [.ref (g 0), .int (iI (x)), .int (iI (y)), .ref out] ed (if (20000 ≤ x ∧ x ≤ 40000) ∧ (0 ≤ y ∧ y ≤ 39999) then 0 else 1) (σ 2) (st (st σ 2 x) 3 y) (T) (P) := by
  refine MW_of (cc := cL_setMoon) (maxL := 5) (ret := (some .int)) (hh := [(0, 10, 13, 13)]) (by decide) rfl (Nat.le_of_ble_eq_true rfl) ?_
  intro p e s m args below meth c ls hx hb hr hlocks hml htab hown hts hsz hP hK hD hS hA hE hT hN hl
  have hl : lv_has ls 5 [(0, .ref (g 0)), (1, .int (iI (x))), (2, .int (iI (y))), (3, .ref out)] := hl
  refine lv_aload_n hx hb dL_setMoon_0 rfl (lv_at hl 3 rfl) ?_
  refine q_iconst hx hb dL_setMoon_1 ?_
  refine lv_aload_n hx hb dL_setMoon_2 rfl (lv_at hl 0 rfl) ?_
  refine lv_iload_n hx hb dL_setMoon_3 rfl (lv_at hl 1 rfl) ?_
  refine lv_iload_n hx hb dL_setMoon_4 rfl (lv_at hl 2 rfl) ?_
  refine q_wT (fr := 6) (lo := 82) (nL := 5) (As := [.int (iI (x)), .int (iI (y))]) (rest := [.int (iI (0)), .ref out]) ⟨hx, hb, hml, hown, hts⟩ (t_setMoon l hst0 D _ ed cI cO cL g σ T P hW hS0 he6 he7 x y hxr hyr) (cwV 2 hts gL_setMoon_X5_setMoon rfl rfl rfl (by decide +kernel) ⟨Nat.le_of_ble_eq_true rfl, Nat.le_of_ble_eq_true rfl⟩)  hP hD hS hA hK hE hT rfl hl.1 rfl (Nat.le_of_ble_eq_true rfl) dL_setMoon_5 (Nat.le_of_ble_eq_true rfl) (Nat.le_of_ble_eq_true rfl) ?_ ?_
  · intro E ce q9 H locs hEe hP hS hc1 hc2 hc3
    rcases hEe with ⟨rfl, he⟩ | ⟨rfl, he⟩
    · skip
      refine vx_catch (own := RL) (name := nIA) hown [] ⟨0, 10, 13, 13⟩ [] htab (fun z hz => nomatch hz) (by decide) (by decide) (hts (.classLink RL 13 "java/lang/IllegalArgumentException") (List.mem_of_getElem? (i := 1) rfl)) (va_Nw.use rfl hT.1.1.1.1) hc1 hc2 hc3 ?_
      refine lv_astore (lv' := [(4, .ref q9), (0, .ref (g 0)), (1, .int (iI (x))), (2, .int (iI (y))), (3, .ref out)]) hx hb dL_setMoon_13 hl (by decide) rfl (fun ls hl => ?_)
      refine q_iconst hx hb dL_setMoon_15 ?_
      exact q_wret (cells := 1) (slots := 6) (mc := 1) (ms := 6) g hx hb hr hlocks hS he (Or.inr ⟨by rw [he]; decide, hP⟩) (Nat.le_of_ble_eq_true rfl) (Nat.le_of_ble_eq_true rfl) dL_setMoon_16
    · exfalso
      revert he
      (repeat' split) <;> omega
  · intro u H locs he hu hP hD hS
    refine lv_i2l hx hb dL_setMoon_8 rfl ?_
    refine q_last hx hb hK hP hD hS dL_setMoon_9 (fun H locs hP hD hS => ?_)
    refine lv_goto (tgt := 17) hx hb dL_setMoon_10 (by decide) ?_
    refine q_iconst hx hb dL_setMoon_17 ?_
    exact q_wret (cells := 1) (slots := 6) (mc := 1) (ms := 6) u hx hb hr hlocks hS he (Or.inl ⟨he, hu, hP, hD⟩) (Nat.le_of_ble_eq_true rfl) (Nat.le_of_ble_eq_true rfl) dL_setMoon_18
set_option maxHeartbeats 1000000 in
set_option maxRecDepth 100000 in
theorem w_setNodes (l : Launch) (hst0 : l.stackTraces = false) (D : va_G) (sz out : Nat) (ed : Nat × Nat × Nat) (cI cO cL : ClassId) (g : Nat → Nat) (σ T P : Nat → Int) (fo : Nat → Int64) (hW : WF σ T) (hS0 : WS σ P) (he6 : σ 6 = 0 → g 6 = ed.1) (he7 : σ 7 = 0 → g 7 = ed.1) (x y : Int) (hxr : -2147483648 ≤ x ∧ x < 2147483648) (hyr : -2147483648 ≤ y ∧ y < 2147483648) : MW l yL_setNodes wsL_setNodes 7 105 1 6 D cI cO cL sz out g σ T P fo [.ref (g 0), .int (iI (x)), .int (iI (y)), .ref out] ed (if (100000 ≤ x ∧ x ≤ 300000) ∧ (0 ≤ y ∧ y ≤ 299999) then 0 else 1) (σ 4) (st (st σ 4 x) 5 y) (T) (P) := by
  refine MW_of (cc := cL_setNodes) (maxL := 5) (ret := (some .int)) (hh := [(0, 10, 13, 13)]) (by decide) rfl (Nat.le_of_ble_eq_true rfl) ?_
  intro p e s m args below meth c ls hx hb hr hlocks hml htab hown hts hsz hP hK hD hS hA hE hT hN hl
  have hl : lv_has ls 5 [(0, .ref (g 0)), (1, .int (iI (x))), (2, .int (iI (y))), (3, .ref out)] := hl
  refine lv_aload_n hx hb dL_setNodes_0 rfl (lv_at hl 3 rfl) ?_
  refine q_iconst hx hb dL_setNodes_1 ?_
  refine lv_aload_n hx hb dL_setNodes_2 rfl (lv_at hl 0 rfl) ?_
  refine lv_iload_n hx hb dL_setNodes_3 rfl (lv_at hl 1 rfl) ?_
  refine lv_iload_n hx hb dL_setNodes_4 rfl (lv_at hl 2 rfl) ?_
  refine q_wT (fr := 6) (lo := 82) (nL := 5) (As := [.int (iI (x)), .int (iI (y))]) (rest := [.int (iI (0)), .ref out]) ⟨hx, hb, hml, hown, hts⟩ (t_setNodes l hst0 D _ ed cI cO cL g σ T P hW hS0 he6 he7 x y hxr hyr) (cwV 2 hts gL_setNodes_X5_setNodes rfl rfl rfl (by decide +kernel) ⟨Nat.le_of_ble_eq_true rfl, Nat.le_of_ble_eq_true rfl⟩)  hP hD hS hA hK hE hT rfl hl.1 rfl (Nat.le_of_ble_eq_true rfl) dL_setNodes_5 (Nat.le_of_ble_eq_true rfl) (Nat.le_of_ble_eq_true rfl) ?_ ?_
  · intro E ce q9 H locs hEe hP hS hc1 hc2 hc3
    rcases hEe with ⟨rfl, he⟩ | ⟨rfl, he⟩
    · skip
      refine vx_catch (own := RL) (name := nIA) hown [] ⟨0, 10, 13, 13⟩ [] htab (fun z hz => nomatch hz) (by decide) (by decide) (hts (.classLink RL 13 "java/lang/IllegalArgumentException") (List.mem_of_getElem? (i := 1) rfl)) (va_Nw.use rfl hT.1.1.1.1) hc1 hc2 hc3 ?_
      refine lv_astore (lv' := [(4, .ref q9), (0, .ref (g 0)), (1, .int (iI (x))), (2, .int (iI (y))), (3, .ref out)]) hx hb dL_setNodes_13 hl (by decide) rfl (fun ls hl => ?_)
      refine q_iconst hx hb dL_setNodes_15 ?_
      exact q_wret (cells := 1) (slots := 6) (mc := 1) (ms := 6) g hx hb hr hlocks hS he (Or.inr ⟨by rw [he]; decide, hP⟩) (Nat.le_of_ble_eq_true rfl) (Nat.le_of_ble_eq_true rfl) dL_setNodes_16
    · exfalso
      revert he
      (repeat' split) <;> omega
  · intro u H locs he hu hP hD hS
    refine lv_i2l hx hb dL_setNodes_8 rfl ?_
    refine q_last hx hb hK hP hD hS dL_setNodes_9 (fun H locs hP hD hS => ?_)
    refine lv_goto (tgt := 17) hx hb dL_setNodes_10 (by decide) ?_
    refine q_iconst hx hb dL_setNodes_17 ?_
    exact q_wret (cells := 1) (slots := 6) (mc := 1) (ms := 6) u hx hb hr hlocks hS he (Or.inl ⟨he, hu, hP, hD⟩) (Nat.le_of_ble_eq_true rfl) (Nat.le_of_ble_eq_true rfl) dL_setNodes_18
set_option maxHeartbeats 1000000 in
set_option maxRecDepth 100000 in
theorem w_observe (l : Launch) (hst0 : l.stackTraces = false) (D : va_G) (sz out : Nat) (ed : Nat × Nat × Nat) (cI cO cL : ClassId) (g : Nat → Nat) (σ T P : Nat → Int) (fo : Nat → Int64) (hW : WF σ T) (hS0 : WS σ P) (he6 : σ 6 = 0 → g 6 = ed.1) (he7 : σ 7 = 0 → g 7 = ed.1) (d b : Int) (hdr : -2147483648 ≤ d ∧ d < 2147483648) (hb01 : b = 0 ∨ b = 1) : MW l yL_observe wsL_observe 7 106 1 6 D cI cO cL sz out g σ T P fo [.ref (g 0), .int (iI (d)), .int (iI (b)), .ref out] ed (if 0 ≤ d ∧ d ≤ 99999 then 0 else 1) (m_late σ d b) (m_obs σ d b) (T) (P) := by
  refine MW_of (cc := cL_observe) (maxL := 5) (ret := (some .int)) (hh := [(0, 10, 13, 13)]) (by decide) rfl (Nat.le_of_ble_eq_true rfl) ?_
  intro p e s m args below meth c ls hx hb hr hlocks hml htab hown hts hsz hP hK hD hS hA hE hT hN hl
  have hl : lv_has ls 5 [(0, .ref (g 0)), (1, .int (iI (d))), (2, .int (iI (b))), (3, .ref out)] := hl
  refine lv_aload_n hx hb dL_observe_0 rfl (lv_at hl 3 rfl) ?_
  refine q_iconst hx hb dL_observe_1 ?_
  refine lv_aload_n hx hb dL_observe_2 rfl (lv_at hl 0 rfl) ?_
  refine lv_iload_n hx hb dL_observe_3 rfl (lv_at hl 1 rfl) ?_
  refine lv_iload_n hx hb dL_observe_4 rfl (lv_at hl 2 rfl) ?_
  refine q_wT (fr := 6) (lo := 82) (nL := 5) (As := [.int (iI (d)), .int (iI (b))]) (rest := [.int (iI (0)), .ref out]) ⟨hx, hb, hml, hown, hts⟩ (t_observe l hst0 D _ ed cI cO cL g σ T P hW hS0 he6 he7 d b hdr hb01) (cwV 2 hts gL_observe_X5_observe rfl rfl rfl (by decide +kernel) ⟨Nat.le_of_ble_eq_true rfl, Nat.le_of_ble_eq_true rfl⟩)  hP hD hS hA hK hE hT rfl hl.1 rfl (Nat.le_of_ble_eq_true rfl) dL_observe_5 (Nat.le_of_ble_eq_true rfl) (Nat.le_of_ble_eq_true rfl) ?_ ?_
  · intro E ce q9 H locs hEe hP hS hc1 hc2 hc3
    rcases hEe with ⟨rfl, he⟩ | ⟨rfl, he⟩
    · skip
      refine vx_catch (own := RL) (name := nIA) hown [] ⟨0, 10, 13, 13⟩ [] htab (fun z hz => nomatch hz) (by decide) (by decide) (hts (.classLink RL 13 "java/lang/IllegalArgumentException") (List.mem_of_getElem? (i := 1) rfl)) (va_Nw.use rfl hT.1.1.1.1) hc1 hc2 hc3 ?_
      refine lv_astore (lv' := [(4, .ref q9), (0, .ref (g 0)), (1, .int (iI (d))), (2, .int (iI (b))), (3, .ref out)]) hx hb dL_observe_13 hl (by decide) rfl (fun ls hl => ?_)
      refine q_iconst hx hb dL_observe_15 ?_
      exact q_wret (cells := 1) (slots := 6) (mc := 1) (ms := 6) g hx hb hr hlocks hS he (Or.inr ⟨by rw [he]; decide, hP⟩) (Nat.le_of_ble_eq_true rfl) (Nat.le_of_ble_eq_true rfl) dL_observe_16
    · exfalso
      revert he
      (repeat' split) <;> omega
  · intro u H locs he hu hP hD hS
    refine lv_i2l hx hb dL_observe_8 rfl ?_
    refine q_last hx hb hK hP hD hS dL_observe_9 (fun H locs hP hD hS => ?_)
    refine lv_goto (tgt := 17) hx hb dL_observe_10 (by decide) ?_
    refine q_iconst hx hb dL_observe_17 ?_
    exact q_wret (cells := 1) (slots := 6) (mc := 1) (ms := 6) u hx hb hr hlocks hS he (Or.inl ⟨he, hu, hP, hD⟩) (Nat.le_of_ble_eq_true rfl) (Nat.le_of_ble_eq_true rfl) dL_observe_18
set_option maxHeartbeats 1000000 in
set_option maxRecDepth 100000 in
theorem w_reprint (l : Launch) (hst0 : l.stackTraces = false) (D : va_G) (sz out : Nat) (ed : Nat × Nat × Nat) (cI cO cL : ClassId) (g : Nat → Nat) (σ T P : Nat → Int) (fo : Nat → Int64) (hW : WF σ T) (hS0 : WS σ P) (he6 : σ 6 = 0 → g 6 = ed.1) (he7 : σ 7 = 0 → g 7 = ed.1) (j : Int) (hjr : -2147483648 ≤ j ∧ j < 2147483648) : MW l yL_reprint wsL_reprint 7 110 1 6 D cI cO cL sz out g σ T P fo [.ref (g 0), .int (iI (j)), .ref out] ed (if 0 ≤ j ∧ j < σ 7 then 0 else 1) (m_chg (fun i => m_F σ T i (P (11 * j.toNat))) (fun i => P (11 * j.toNat + 3 + i)) (P (11 * j.toNat + 1)).toNat) (σ) (T) (m_fl σ T P (11 * j.toNat) (P (11 * j.toNat)) (σ 6).toNat) := by
  refine MW_of (cc := cL_reprint) (maxL := 4) (ret := (some .int)) (hh := [(0, 9, 12, 32)]) (by decide) rfl (Nat.le_of_ble_eq_true rfl) ?_
  intro p e s m args below meth c ls hx hb hr hlocks hml htab hown hts hsz hP hK hD hS hA hE hT hN hl
  have hl : lv_has ls 4 [(0, .ref (g 0)), (1, .int (iI (j))), (2, .ref out)] := hl
  refine lv_aload_n hx hb dL_reprint_0 rfl (lv_at hl 2 rfl) ?_
  refine q_iconst hx hb dL_reprint_1 ?_
  refine lv_aload_n hx hb dL_reprint_2 rfl (lv_at hl 0 rfl) ?_
  refine lv_iload_n hx hb dL_reprint_3 rfl (lv_at hl 1 rfl) ?_
  refine q_wT (fr := 6) (lo := 87) (nL := 4) (As := [.int (iI (j))]) (rest := [.int (iI (0)), .ref out]) ⟨hx, hb, hml, hown, hts⟩ (t_reprint l hst0 D _ ed cI cO cL g σ T P hW hS0 he6 he7 j hjr) (cwV 1 hts gL_reprint_X5_reprint rfl rfl rfl (by decide +kernel) ⟨Nat.le_of_ble_eq_true rfl, Nat.le_of_ble_eq_true rfl⟩)  hP hD hS hA hK hE hT rfl hl.1 rfl (Nat.le_of_ble_eq_true rfl) dL_reprint_4 (Nat.le_of_ble_eq_true rfl) (Nat.le_of_ble_eq_true rfl) ?_ ?_
  · intro E ce q9 H locs hEe hP hS hc1 hc2 hc3
    rcases hEe with ⟨rfl, he⟩ | ⟨rfl, he⟩
    · skip
      refine vx_catch (own := RL) (name := nIO) hown [] ⟨0, 9, 12, 32⟩ [] htab (fun z hz => nomatch hz) (by decide) (by decide) (hts (.classLink RL 32 "java/lang/IndexOutOfBoundsException") (List.mem_of_getElem? (i := 1) rfl)) (va_Nw.use rfl hT.1.1.1.2.1) hc1 hc2 hc3 ?_
      refine lv_astore_n (lv' := [(3, .ref q9), (0, .ref (g 0)), (1, .int (iI (j))), (2, .ref out)]) hx hb dL_reprint_12 rfl hl (by decide) rfl (fun ls hl => ?_)
      refine q_iconst hx hb dL_reprint_13 ?_
      exact q_wret (cells := 1) (slots := 6) (mc := 1) (ms := 6) g hx hb hr hlocks hS he (Or.inr ⟨by rw [he]; decide, hP⟩) (Nat.le_of_ble_eq_true rfl) (Nat.le_of_ble_eq_true rfl) dL_reprint_14
    · exfalso
      revert he
      (repeat' split) <;> omega
  · intro u H locs he hu hP hD hS
    refine lv_i2l hx hb dL_reprint_7 rfl ?_
    refine q_last hx hb hK hP hD hS dL_reprint_8 (fun H locs hP hD hS => ?_)
    refine lv_goto (tgt := 15) hx hb dL_reprint_9 (by decide) ?_
    refine q_iconst hx hb dL_reprint_15 ?_
    exact q_wret (cells := 1) (slots := 6) (mc := 1) (ms := 6) u hx hb hr hlocks hS he (Or.inl ⟨he, hu, hP, hD⟩) (Nat.le_of_ble_eq_true rfl) (Nat.le_of_ble_eq_true rfl) dL_reprint_16
set_option maxHeartbeats 1000000 in
set_option maxRecDepth 100000 in
theorem w_addFeast (l : Launch) (hst0 : l.stackTraces = false) (D : va_G) (sz out : Nat) (ed : Nat × Nat × Nat) (cI cO cL : ClassId) (g : Nat → Nat) (σ T P : Nat → Int) (fo : Nat → Int64) (hW : WF σ T) (hS0 : WS σ P) (he6 : σ 6 = 0 → g 6 = ed.1) (he7 : σ 7 = 0 → g 7 = ed.1) (mo da mn wd of : Int) (hmor : -2147483648 ≤ mo ∧ mo < 2147483648) (hdar : -2147483648 ≤ da ∧ da < 2147483648) (hmnr : -2147483648 ≤ mn ∧ mn < 2147483648) (hwdr : -2147483648 ≤ wd ∧ wd < 2147483648) (hofr : -2147483648 ≤ of ∧ of < 2147483648) : MW l yL_addFeast wsL_addFeast 7 133 2 15 D cI cO cL sz out g σ T P fo [.ref (g 0), .int (iI (mo)), .int (iI (da)), .int (iI (mn)), .int (iI (wd)), .int (iI (of)), .ref out] ed (if (0 ≤ mo ∧ mo ≤ 11) ∧ (0 ≤ da ∧ da ≤ 29) ∧ (0 ≤ mn ∧ mn ≤ 3) ∧ (-1 ≤ wd ∧ wd ≤ 6) ∧ (-60 ≤ of ∧ of ≤ 60) then (if σ 6 = 8 then 2 else 0) else 1) (σ 6) (st σ 6 (σ 6 + 1)) (m_tp T (σ 6).toNat mo da mn wd of) (P) := by
  refine MW_of (cc := cL_addFeast) (maxL := 8) (ret := (some .int)) (hh := [(0, 16, 19, 13), (0, 16, 23, 55)]) (by decide) rfl (Nat.le_of_ble_eq_true rfl) ?_
  intro p e s m args below meth c ls hx hb hr hlocks hml htab hown hts hsz hP hK hD hS hA hE hT hN hl
  have hl : lv_has ls 8 [(0, .ref (g 0)), (1, .int (iI (mo))), (2, .int (iI (da))), (3, .int (iI (mn))), (4, .int (iI (wd))), (5, .int (iI (of))), (6, .ref out)] := hl
  refine lv_aload hx hb dL_addFeast_0 (lv_at hl 6 rfl) ?_
  refine q_iconst hx hb dL_addFeast_2 ?_
  refine lv_aload_n hx hb dL_addFeast_3 rfl (lv_at hl 0 rfl) ?_
  refine lv_iload_n hx hb dL_addFeast_4 rfl (lv_at hl 1 rfl) ?_
  refine lv_iload_n hx hb dL_addFeast_5 rfl (lv_at hl 2 rfl) ?_
  refine lv_iload_n hx hb dL_addFeast_6 rfl (lv_at hl 3 rfl) ?_
  refine lv_iload hx hb dL_addFeast_7 (lv_at hl 4 rfl) ?_
  refine lv_iload hx hb dL_addFeast_9 (lv_at hl 5 rfl) ?_
  refine q_wT (fr := 6) (lo := 108) (nL := 8) (As := [.int (iI (mo)), .int (iI (da)), .int (iI (mn)), .int (iI (wd)), .int (iI (of))]) (rest := [.int (iI (0)), .ref out]) ⟨hx, hb, hml, hown, hts⟩ (t_addFeast l hst0 D _ ed cI cO cL g σ T P hW hS0 he6 he7 mo da mn wd of hmor hdar hmnr hwdr hofr) (cwV 5 hts gL_addFeast_X5_addFeast rfl rfl rfl (by decide +kernel) ⟨Nat.le_of_ble_eq_true rfl, Nat.le_of_ble_eq_true rfl⟩)  hP hD hS hA hK hE hT rfl hl.1 rfl (Nat.le_of_ble_eq_true rfl) dL_addFeast_11 (Nat.le_of_ble_eq_true rfl) (Nat.le_of_ble_eq_true rfl) ?_ ?_
  · intro E ce q9 H locs hEe hP hS hc1 hc2 hc3
    rcases hEe with ⟨rfl, he⟩ | ⟨rfl, he⟩
    · skip
      refine vx_catch (own := RL) (name := nIA) hown [] ⟨0, 16, 19, 13⟩ [⟨0, 16, 23, 55⟩] htab (fun z hz => nomatch hz) (by decide) (by decide) (hts (.classLink RL 13 "java/lang/IllegalArgumentException") (List.mem_of_getElem? (i := 1) rfl)) (va_Nw.use rfl hT.1.1.1.1) hc1 hc2 hc3 ?_
      refine lv_astore (lv' := [(7, .ref q9), (0, .ref (g 0)), (1, .int (iI (mo))), (2, .int (iI (da))), (3, .int (iI (mn))), (4, .int (iI (wd))), (5, .int (iI (of))), (6, .ref out)]) hx hb dL_addFeast_19 hl (by decide) rfl (fun ls hl => ?_)
      refine q_iconst hx hb dL_addFeast_21 ?_
      exact q_wret (cells := 2) (slots := 15) (mc := 2) (ms := 15) g hx hb hr hlocks hS he (Or.inr ⟨by rw [he]; decide, hP⟩) (Nat.le_of_ble_eq_true rfl) (Nat.le_of_ble_eq_true rfl) dL_addFeast_22
    · skip
      refine vx_catch (own := RL) (name := nIS) hown [⟨0, 16, 19, 13⟩] ⟨0, 16, 23, 55⟩ [] htab (fun z hz => Or.inr (by rcases List.mem_singleton.mp hz with rfl; exact ⟨by decide, nIA, (hts (.classLink RL 13 "java/lang/IllegalArgumentException") (List.mem_of_getElem? (i := 1) rfl)), hN.2.2⟩)) (by decide) (by decide) (hts (.classLink RL 55 "java/lang/IllegalStateException") (List.mem_of_getElem? (i := 2) rfl)) (va_Nw.use rfl hT.1.1.1.2.2) hc1 hc2 hc3 ?_
      refine lv_astore (lv' := [(7, .ref q9), (0, .ref (g 0)), (1, .int (iI (mo))), (2, .int (iI (da))), (3, .int (iI (mn))), (4, .int (iI (wd))), (5, .int (iI (of))), (6, .ref out)]) hx hb dL_addFeast_23 hl (by decide) rfl (fun ls hl => ?_)
      refine q_iconst hx hb dL_addFeast_25 ?_
      exact q_wret (cells := 2) (slots := 15) (mc := 2) (ms := 15) g hx hb hr hlocks hS he (Or.inr ⟨by rw [he]; decide, hP⟩) (Nat.le_of_ble_eq_true rfl) (Nat.le_of_ble_eq_true rfl) dL_addFeast_26
  · intro u H locs he hu hP hD hS
    refine lv_i2l hx hb dL_addFeast_14 rfl ?_
    refine q_last hx hb hK hP hD hS dL_addFeast_15 (fun H locs hP hD hS => ?_)
    refine lv_goto (tgt := 27) hx hb dL_addFeast_16 (by decide) ?_
    refine q_iconst hx hb dL_addFeast_27 ?_
    exact q_wret (cells := 2) (slots := 15) (mc := 2) (ms := 15) u hx hb hr hlocks hS he (Or.inl ⟨he, hu, hP, hD⟩) (Nat.le_of_ble_eq_true rfl) (Nat.le_of_ble_eq_true rfl) dL_addFeast_28
set_option maxHeartbeats 1000000 in
set_option maxRecDepth 100000 in
theorem w_print (l : Launch) (hst0 : l.stackTraces = false) (D : va_G) (sz out : Nat) (ed : Nat × Nat × Nat) (cI cO cL : ClassId) (g : Nat → Nat) (σ T P : Nat → Int) (fo : Nat → Int64) (hW : WF σ T) (hS0 : WS σ P) (he6 : σ 6 = 0 → g 6 = ed.1) (he7 : σ 7 = 0 → g 7 = ed.1) (hp0 : ∀ i : Nat, 11 * (σ 7).toNat ≤ i → P i = 0) (y : Int) (hyr : -2147483648 ≤ y ∧ y < 2147483648) : MW l yL_print wsL_print 7 130 3 22 D cI cO cL sz out g σ T P fo [.ref (g 0), .int (iI (y)), .ref out] ed (if 0 ≤ y ∧ y < 1000 then (if σ 7 = 10 then 2 else 0) else 1) (σ 7) (st σ 7 (σ 7 + 1)) (T) (m_fl σ T P (11 * (σ 7).toNat) y (σ 6).toNat) := by
  refine MW_of (cc := cL_print) (maxL := 4) (ret := (some .int)) (hh := [(0, 9, 12, 13), (0, 9, 15, 55)]) (by decide) rfl (Nat.le_of_ble_eq_true rfl) ?_
  intro p e s m args below meth c ls hx hb hr hlocks hml htab hown hts hsz hP hK hD hS hA hE hT hN hl
  have hl : lv_has ls 4 [(0, .ref (g 0)), (1, .int (iI (y))), (2, .ref out)] := hl
  refine lv_aload_n hx hb dL_print_0 rfl (lv_at hl 2 rfl) ?_
  refine q_iconst hx hb dL_print_1 ?_
  refine lv_aload_n hx hb dL_print_2 rfl (lv_at hl 0 rfl) ?_
  refine lv_iload_n hx hb dL_print_3 rfl (lv_at hl 1 rfl) ?_
  refine q_wT (fr := 6) (lo := 108) (nL := 4) (As := [.int (iI (y))]) (rest := [.int (iI (0)), .ref out]) ⟨hx, hb, hml, hown, hts⟩ (t_print l hst0 D _ ed cI cO cL g σ T P hW hS0 he6 he7 hp0 y hyr) (cwV 1 hts gL_print_X5_print rfl rfl rfl (by decide +kernel) ⟨Nat.le_of_ble_eq_true rfl, Nat.le_of_ble_eq_true rfl⟩)  hP hD hS hA hK hE hT rfl hl.1 rfl (Nat.le_of_ble_eq_true rfl) dL_print_4 (Nat.le_of_ble_eq_true rfl) (Nat.le_of_ble_eq_true rfl) ?_ ?_
  · intro E ce q9 H locs hEe hP hS hc1 hc2 hc3
    rcases hEe with ⟨rfl, he⟩ | ⟨rfl, he⟩
    · skip
      refine vx_catch (own := RL) (name := nIA) hown [] ⟨0, 9, 12, 13⟩ [⟨0, 9, 15, 55⟩] htab (fun z hz => nomatch hz) (by decide) (by decide) (hts (.classLink RL 13 "java/lang/IllegalArgumentException") (List.mem_of_getElem? (i := 1) rfl)) (va_Nw.use rfl hT.1.1.1.1) hc1 hc2 hc3 ?_
      refine lv_astore_n (lv' := [(3, .ref q9), (0, .ref (g 0)), (1, .int (iI (y))), (2, .ref out)]) hx hb dL_print_12 rfl hl (by decide) rfl (fun ls hl => ?_)
      refine q_iconst hx hb dL_print_13 ?_
      exact q_wret (cells := 3) (slots := 22) (mc := 3) (ms := 22) g hx hb hr hlocks hS he (Or.inr ⟨by rw [he]; decide, hP⟩) (Nat.le_of_ble_eq_true rfl) (Nat.le_of_ble_eq_true rfl) dL_print_14
    · skip
      refine vx_catch (own := RL) (name := nIS) hown [⟨0, 9, 12, 13⟩] ⟨0, 9, 15, 55⟩ [] htab (fun z hz => Or.inr (by rcases List.mem_singleton.mp hz with rfl; exact ⟨by decide, nIA, (hts (.classLink RL 13 "java/lang/IllegalArgumentException") (List.mem_of_getElem? (i := 1) rfl)), hN.2.2⟩)) (by decide) (by decide) (hts (.classLink RL 55 "java/lang/IllegalStateException") (List.mem_of_getElem? (i := 2) rfl)) (va_Nw.use rfl hT.1.1.1.2.2) hc1 hc2 hc3 ?_
      refine lv_astore_n (lv' := [(3, .ref q9), (0, .ref (g 0)), (1, .int (iI (y))), (2, .ref out)]) hx hb dL_print_15 rfl hl (by decide) rfl (fun ls hl => ?_)
      refine q_iconst hx hb dL_print_16 ?_
      exact q_wret (cells := 3) (slots := 22) (mc := 3) (ms := 22) g hx hb hr hlocks hS he (Or.inr ⟨by rw [he]; decide, hP⟩) (Nat.le_of_ble_eq_true rfl) (Nat.le_of_ble_eq_true rfl) dL_print_17
  · intro u H locs he hu hP hD hS
    refine lv_i2l hx hb dL_print_7 rfl ?_
    refine q_last hx hb hK hP hD hS dL_print_8 (fun H locs hP hD hS => ?_)
    refine lv_goto (tgt := 18) hx hb dL_print_9 (by decide) ?_
    refine q_iconst hx hb dL_print_18 ?_
    exact q_wret (cells := 3) (slots := 22) (mc := 3) (ms := 22) u hx hb hr hlocks hS he (Or.inl ⟨he, hu, hP, hD⟩) (Nat.le_of_ble_eq_true rfl) (Nat.le_of_ble_eq_true rfl) dL_print_19
