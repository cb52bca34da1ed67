/-! ===== methods that make cells: worlds that grow; the statics that they read ===== -/
theorem nd_inj {α : Type} {f : Nat → α} : ∀ {l : List Nat}, (l.map f).Nodup → ∀ a ∈ l, ∀ b ∈ l, f a = f b → a = b
  | [], _, a, ha, _, _, _ => by cases ha
  | x :: l, h, a, ha, b, hb, e => by
    rw [List.map_cons, List.nodup_cons] at h
    rcases List.mem_cons.mp ha with h1 | h1
    · rcases List.mem_cons.mp hb with h2 | h2
      · rw [h1, h2]
      · exact absurd (by rw [← h1, e]; exact List.mem_map_of_mem h2) h.1
    · rcases List.mem_cons.mp hb with h2 | h2
      · exact absurd (by rw [← h2, ← e]; exact List.mem_map_of_mem h1) h.1
      · exact nd_inj h.2 a h1 b h2 e
theorem nd_map {α : Type} {f : Nat → α} : ∀ {l : List Nat}, l.Nodup → (∀ a ∈ l, ∀ b ∈ l, f a = f b → a = b) → (l.map f).Nodup
  | [], _, _ => List.nodup_nil
  | x :: l, h, hi => by
    rw [List.nodup_cons] at h
    rw [List.map_cons, List.nodup_cons]
    refine ⟨fun hm => ?_, nd_map h.2 (fun a ha b hb => hi a (List.mem_cons_of_mem _ ha) b (List.mem_cons_of_mem _ hb))⟩
    obtain ⟨b, hb, e⟩ := List.mem_map.mp hm
    have := hi b (List.mem_cons_of_mem _ hb) x List.mem_cons_self e
    subst this
    exact h.1 hb
theorem vaD_nd {A : Nat → Prop} {ws : va_W} (h : va_D A ws) : (ws.map (·.1)).Nodup := by
  rw [List.nodup_iff_pairwise_ne, List.pairwise_iff_getElem]
  intro i j hi hj hij e
  rw [List.length_map] at hi hj
  rw [List.getElem_map, List.getElem_map] at e
  exact absurd (h.1 i j _ _ (List.getElem?_eq_getElem hi) (List.getElem?_eq_getElem hj) e) (by omega)
theorem nd_vaD {A : Nat → Prop} {ws : va_W} (h : (ws.map (·.1)).Nodup) (hA : ∀ a ∈ ws.map (·.1), A a) : va_D A ws := by
  refine ⟨fun i j p q hi hj e => ?_, fun k q hk => hA _ (List.mem_map_of_mem (List.mem_of_getElem? hk))⟩
  have hl := (List.getElem?_eq_some_iff.mp hi).1
  refine (List.getElem?_inj (l := ws.map (·.1)) (by rw [List.length_map]; exact hl) h).mp ?_
  rw [List.getElem?_map, List.getElem?_map, hi, hj]
  exact congrArg some e
theorem vaD_A {A : Nat → Prop} {ws : va_W} (h : va_D A ws) : ∀ a ∈ ws.map (·.1), A a := by
  intro a ha
  obtain ⟨q, hq, rfl⟩ := List.mem_map.mp ha
  obtain ⟨k, hk⟩ := List.getElem?_of_mem hq
  exact h.2 k q hk
theorem vaD_perm {A : Nat → Prop} {ws ws' : va_W} (h : va_D A ws) (hp : (ws'.map (·.1)).Perm (ws.map (·.1))) : va_D A ws' := nd_vaD (hp.nodup_iff.mpr (vaD_nd h)) (fun a ha => vaD_A h a (hp.mem_iff.mp ha))
theorem vaP_mems {D : va_G} {ws ws' : va_W} {H : Heap} (h : va_P D vwCl ws H) (hs : ∀ q ∈ ws', q ∈ ws) : va_P D vwCl ws' H := fun k q hq => vaP_mem h (hs q (List.mem_of_getElem? hq))
theorem perm_idx {α : Type} {ex ex' : List α} (is : List Nat) (h : is.map (fun i => ex[i]?) = ex'.map some) (hp : is.Perm (List.range ex.length)) : ex'.Perm ex := by
  have h1 : (List.range ex.length).map (fun i => ex[i]?) = ex.map some := by
    apply List.ext_getElem?
    intro i
    rw [List.getElem?_map, List.getElem?_map]
    by_cases hi : i < ex.length
    · rw [List.getElem?_range hi, Option.map_some, List.getElem?_eq_getElem hi, Option.map_some]
    · rw [List.getElem?_eq_none (by rw [List.length_range]; omega), List.getElem?_eq_none (by omega)]
      rfl
  have h2 := hp.map (fun i => ex[i]?)
  rw [h, h1] at h2
  have h3 := h2.filterMap id
  rw [List.filterMap_map, List.filterMap_map] at h3
  simpa using h3
/-- another order of the first cells -/
theorem va_reo {D : va_G} {A : Nat → Prop} {ex ex' tl : va_W} {H : Heap} (is : List Nat) (h : is.map (fun i => ex[i]?) = ex'.map some) (n : Nat) (hn : ex.length = n) (hp : is.Perm (List.range n)) (hP : va_P D vwCl (ex ++ tl) H) (hD : va_D A (ex ++ tl)) : va_P D vwCl (ex' ++ tl) H ∧ va_D A (ex' ++ tl) := by
  have hpp : (ex' ++ tl).Perm (ex ++ tl) := (perm_idx is h (by rw [hn]; exact hp)).append_right tl
  exact ⟨vaP_mems hP (fun q hq => hpp.mem_iff.mp hq), vaD_perm hD (hpp.map _)⟩
theorem va_lst {D : va_G} {A : Nat → Prop} {ws : va_W} {x : Nat × va_E} {H : Heap} (hP : va_P D vwCl (ws ++ [x]) H) (hD : va_D A (ws ++ [x])) : va_P D vwCl (x :: ws) H ∧ va_D A (x :: ws) := by
  have hpp : (x :: ws).Perm (ws ++ [x]) := (List.perm_append_singleton x ws).symm
  exact ⟨vaP_mems hP (fun q hq => hpp.mem_iff.mp hq), vaD_perm hD (hpp.map _)⟩
/-- behind a call: what the callee left of its part, and the rest as it was -/
theorem va_pre {A0 : Nat → Prop} {D : va_G} {wc wr w1 : va_W} {H H1 : Heap} (hP : va_P D vwCl (wc ++ wr) H) (hD : va_D A0 (wc ++ wr)) (hk : ∀ q : Nat, q < H.size → ¬ va_A wc H.size q → H1[q]? = H[q]?) (hF : ∀ q, va_A wc H.size q → A0 q) (hP1 : va_P D vwCl w1 H1) (hD1 : va_D (va_A wc H.size) w1) : va_P D vwCl (w1 ++ wr) H1 ∧ va_D A0 (w1 ++ wr) := by
  have hnd := vaD_nd hD
  rw [List.map_append, List.nodup_append] at hnd
  have hout : ∀ q ∈ wr, q.1 < H.size ∧ ¬ va_A wc H.size q.1 := by
    intro q hq
    have hlt : q.1 < H.size := (vaP_mem hP (List.mem_append_right _ hq)).lt
    refine ⟨hlt, fun hA => ?_⟩
    rcases hA with ⟨k, e, hk⟩ | hA
    · exact hnd.2.2 _ (List.mem_map_of_mem (f := (·.1)) (List.mem_of_getElem? hk)) _ (List.mem_map_of_mem (f := (·.1)) hq) rfl
    · exact absurd hlt (Nat.not_lt.mpr hA)
  constructor
  · intro k q hq
    rcases List.mem_append.mp (List.mem_of_getElem? hq) with h | h
    · exact vaP_mem hP1 h
    · exact (vaP_mem hP (List.mem_append_right _ h)).kept (hk q.1 (hout q h).1 (hout q h).2)
  · refine nd_vaD ?_ ?_
    · rw [List.map_append, List.nodup_append]
      refine ⟨vaD_nd hD1, hnd.2.1, fun a ha b hb e => ?_⟩
      obtain ⟨q, hq, rfl⟩ := List.mem_map.mp hb
      exact (hout q hq).2 (by rw [← e]; exact vaD_A hD1 a ha)
    · intro a ha
      rw [List.map_append] at ha
      rcases List.mem_append.mp ha with h | h
      · exact hF a (vaD_A hD1 a h)
      · exact vaD_A hD a (by rw [List.map_append]; exact List.mem_append_right _ h)
theorem va_frP {A0 : Nat → Prop} {wc wr : va_W} {H0 H : Heap} {locs : List Loc} (hD : va_D A0 (wc ++ wr)) (hS : va_S A0 H0 H locs) (hA : ∀ q : Nat, H0.size ≤ q → A0 q) : ∀ q, va_A wc H.size q → A0 q := by
  intro q hq
  rcases hq with ⟨k, e, hk⟩ | hq
  · exact vaD_A hD q (by rw [List.map_append]; exact List.mem_append_left _ (List.mem_map_of_mem (f := (·.1)) (List.mem_of_getElem? hk)))
  · exact hA q (Nat.le_trans hS.1 hq)
theorem vaD_left {A : Nat → Prop} {wc wr : va_W} (hD : va_D A (wc ++ wr)) : va_D (fun _ => True) wc := by
  have hnd := vaD_nd hD
  rw [List.map_append, List.nodup_append] at hnd
  exact nd_vaD hnd.1 (fun _ _ => trivial)
/-- the static that is read: the list's empty row; the script, that nobody writes -/
def EZ (ed : Nat × Nat × Nat) (A : Nat → Prop) (U : State) (H : Heap) : Prop := va_Z "java/util/ArrayList" "DEFAULTCAPACITY_EMPTY_ELEMENTDATA" "[Ljava/lang/Object;" (.ref ed.1) A U H ∧ va_T (.object "java/lang/Object") ed.1 0 (fun _ => .null) A U H ∧ ed.2.2 ≤ 260 ∧ ∃ xs : Nat → Int32, va_T .int ed.2.1 ed.2.2 (fun j => .int (xs j)) A U H
theorem EZ.to {ed : Nat × Nat × Nat} {A B : Nat → Prop} {s U : State} {H : Heap} {locs : List Loc} (h : EZ ed A s s.heap) (hS : va_S A s.heap H locs) (hvm : s.vm.Alike U.vm) (hAB : ∀ q, B q → A q) : EZ ed B U H := by
  have hk : ∀ a : Nat, a < s.heap.size → ¬ A a → H[a]? = s.heap[a]? := fun a h1 h2 => hS.2.1 a h1 h2
  obtain ⟨h2, h3, h4, xs, h5⟩ := h
  exact ⟨((h2.kept hk).narrow hAB).moved hvm, ((h3.kept hk).narrow hAB).moved hvm, h4, xs, ((h5.kept hk).narrow hAB).moved hvm⟩
theorem EZ.moved {ed : Nat × Nat × Nat} {A : Nat → Prop} {s U : State} {H : Heap} (h : EZ ed A s H) (hvm : s.vm.Alike U.vm) : EZ ed A U H := by
  obtain ⟨h2, h3, h4, xs, h5⟩ := h
  exact ⟨h2.moved hvm, h3.moved hvm, h4, xs, h5.moved hvm⟩
/-- rows of rows of ints can be made -/
def va_AM (U : State) : Prop := (Cond.arrayOver (.array .int)).before #[] U = true
theorem va_AM.of {A : Array Value} {U : State} (h : (Cond.arrayOver (.array .int)).before A U = true) : va_AM U := h
theorem va_AM.use {A : Array Value} {U : State} (h : va_AM U) : (Cond.arrayOver (.array .int)).before A U = true := h
theorem va_AM.spec {U : State} (h : va_AM U) : ∃ comp c k, U.vm.findClass "[I" = some comp ∧ U.vm.classes[c]? = some k ∧ k.kind = .array comp (.array .int) ∧ U.vm.findClass ("[" ++ (FieldType.array .int).toString) = some c := by
  obtain ⟨comp, c, k, h1, -, h3, h4, h5⟩ := arrayOverA_spec h
  exact ⟨comp, c, k, by rw [show "[I" = (FieldType.array .int).toString by decide +kernel]; exact h1, h3, h4, h5⟩
theorem va_AM.moved {u U : State} (hvm : u.vm.Alike U.vm) (h : va_AM u) : va_AM U := by
  obtain ⟨comp, c, k, h1, h2, h3, h4, h5⟩ := arrayOverA_spec h
  obtain ⟨k', hk', he⟩ := hvm.2.2 _ _ h3
  have hi : (U.vm.classes.findIdx? fun (x : Class) => match x.kind with | .array component _ => component == comp | _ => false) = some c := by
    refine (va_idx_bare U.vm comp).symm.trans ?_
    first | rw [hvm.bare_eq] | rw [← hvm.bare_eq]
    exact (va_idx_bare u.vm comp).trans h2
  have hkind : k'.kind = .array comp (.array .int) := by rw [he]; exact h4
  have f1 : U.vm.findClass (FieldType.array .int).toString = some comp := by rw [hvm.findClass]; exact h1
  have f2 : U.vm.findClass ("[" ++ (FieldType.array .int).toString) = some c := by rw [hvm.findClass]; exact h5
  unfold va_AM Cond.before Cond.holds
  simp only [Cond.value]
  rw [f1, Option.bind_some]
  refine (congrArg (fun o : Option Nat => (o.bind (fun c => (U.vm.classes[c]?).map fun (k : Class) => match k.kind with | .array _ ty => decide (ty = FieldType.array .int) && decide (U.vm.findClass ("[" ++ (FieldType.array .int).toString) = some c) | _ => false) == some true)) hi).trans ?_
  simp [hk', hkind, f2]
/-- what the tables hold -/
def ET (U : State) : Prop := (va_AM U ∧ va_Nw (.methodLinkNest RL 11 yX6_init RL) U) ∧ va_AO "java/lang/Object" U ∧ va_Nw (.castable RX0 "java/lang/Object") U ∧ va_Nw (.castable RX3 "java/lang/Object") U ∧ va_Nw (.methodLinkNest RX5 9 yX4_init RX5) U ∧ va_Nw (.methodLinkNest RX5 18 yX1_init RX5) U ∧ va_Nw (.methodLinkNest RX5 25 yX2_init RX5) U
theorem ET.warm {s U : State} (hW : s.WarmedH U.vm) (h : ET s) : ET U := ⟨⟨va_AM.moved hW.alike h.1.1, va_Nw.warmM hW h.1.2⟩, va_AO.moved hW.alike h.2.1, va_Nw.warmC hW h.2.2.1, va_Nw.warmC hW h.2.2.2.1, va_Nw.warmM hW h.2.2.2.2.1, va_Nw.warmM hW h.2.2.2.2.2.1, va_Nw.warmM hW h.2.2.2.2.2.2⟩
theorem ET.same {s U : State} (hv : U.vm = s.vm) (h : ET s) : ET U := ⟨⟨va_AM.moved (by rw [hv]; exact Vm.Alike.refl _) h.1.1, va_Nw.same rfl hv.symm h.1.2⟩, va_AO.moved (by rw [hv]; exact Vm.Alike.refl _) h.2.1, va_Nw.same rfl hv.symm h.2.2.1, va_Nw.same rfl hv.symm h.2.2.2.1, va_Nw.same rfl hv.symm h.2.2.2.2.1, va_Nw.same rfl hv.symm h.2.2.2.2.2.1, va_Nw.same rfl hv.symm h.2.2.2.2.2.2⟩
abbrev pcY (D : va_G) (tys : List (ClassId × FieldType)) (sz : Nat) (w0 : va_W) (av : List Value) (ed : Nat × Nat × Nat) : Array Value → State → Prop := va_Pc av (fun U => U.heap.size = sz ∧ va_P D vwCl w0 U.heap ∧ va_K D vwCl tys U ∧ va_D (fun _ => True) w0 ∧ EZ ed (va_A w0 sz) U U.heap ∧ ET U)
theorem pcY_blind {D : va_G} {tys : List (ClassId × FieldType)} {sz : Nat} {w0 : va_W} {av : List Value} {ed : Nat × Nat × Nat} : FrameBlind (pcY D tys sz w0 av ed) := fun a U g mk q => ⟨q.1, q.2.1, q.2.2.1, va_K.moved (u := U) (U := U.calling g mk a) (Vm.Alike.refl U.vm) q.2.2.2.1, q.2.2.2.2.1, q.2.2.2.2.2.1.moved (U := U.calling g mk a) (Vm.Alike.refl U.vm), ET.same rfl q.2.2.2.2.2.2⟩
/-- a method that answers nothing and leaves the world w1 u, for a u -/
def MGv (l : Launch) (y : MethodName) (ws : List Cond) (fr lo mc ms : Nat) (D : va_G) (tys : List (ClassId × FieldType)) (sz : Nat) (w0 : va_W) (av : List Value) (ed : Nat × Nat × Nat) {S : Type} (w1 : S → va_W) : Prop := Met l y ws { frames := fr, cells := mc, slots := ms, locals := lo } (pcY D tys sz w0 av ed) (va_Qv (fun (_ : S) => True) (fun u t => va_P D vwCl (w1 u) t.heap ∧ va_D (va_A w0 sz) (w1 u)) (va_A w0 sz)) mc ms (va_A w0 sz)
/-- .. that answers v -/
def MGi (l : Launch) (y : MethodName) (ws : List Cond) (fr lo mc ms : Nat) (D : va_G) (tys : List (ClassId × FieldType)) (sz : Nat) (w0 : va_W) (av : List Value) (ed : Nat × Nat × Nat) (v : Int) {S : Type} (w1 : S → va_W) : Prop := Met l y ws { frames := fr, cells := mc, slots := ms, locals := lo } (pcY D tys sz w0 av ed) (va_Qi (fun (r : Int32) (_ : S) => r = iI v) (fun u t => va_P D vwCl (w1 u) t.heap ∧ va_D (va_A w0 sz) (w1 u)) (va_A w0 sz)) mc ms (va_A w0 sz)
/-- .. that answers the address r u -/
def MGr (l : Launch) (y : MethodName) (ws : List Cond) (fr lo mc ms : Nat) (D : va_G) (tys : List (ClassId × FieldType)) (sz : Nat) (w0 : va_W) (av : List Value) (ed : Nat × Nat × Nat) {S : Type} (r : S → Nat) (w1 : S → va_W) : Prop := Met l y ws { frames := fr, cells := mc, slots := ms, locals := lo } (pcY D tys sz w0 av ed) (va_Qr (fun (_ : S) => True) (fun u a t => a = r u ∧ va_P D vwCl (w1 u) t.heap ∧ va_D (va_A w0 sz) (w1 u)) (va_A w0 sz)) mc ms (va_A w0 sz)
section QG
variable {p : Program} {l : Launch} {e : Env} {R : Room} {s : State} {m : MethodId} {args : Array Value} {below : List Frame} {meth : Method} {c : Code} {H : Heap} {locs : List Loc} {cells slots : Nat} {Q : State → Prop} {cc : ByteArray} {pc : Nat} {ls : Array Slot} {rest : List Value} {A0 : Nat → Prop} {H0 : Heap} {mc ms : Nat}
variable {D : va_G} {tys : List (ClassId × FieldType)} {wc wr : va_W} {ed : Nat × Nat × Nat} {fr lo : Nat} {y : MethodName} {bytes : ByteArray} {maxL nL n index : Nat} {ret : Option FieldType} {ws : List Cond} {Ts : List Cond} {own C : String} {b : Addr} {As st0 : List Value} {S0 : Type} {w1 : S0 → va_W}
theorem pcY_at {av : List Value} (hP : va_P D vwCl (wc ++ wr) H) (hD : va_D A0 (wc ++ wr)) (hS : va_S A0 s.heap H locs) (hA : ∀ q : Nat, s.heap.size ≤ q → A0 q) (hK : va_K D vwCl tys s) (hE : EZ ed A0 s s.heap) (hT : ET s) : ∀ U : State, U.heap = H → s.WarmedH U.vm → pcY D tys H.size wc av ed av.toArray U := fun U hU hW => ⟨rfl, by rw [hU], by rw [hU]; exact vaP_mems hP (fun q hq => List.mem_append_left _ hq), va_K.moved hW.alike hK, vaD_left hD, by rw [hU]; exact hE.to hS hW.alike (va_frP hD hS hA), hT.warm hW⟩
theorem q_callGv (S : CallFix p m c cc nL s args Ts own) (hM : MGv l y ws fr lo mc ms D tys H.size wc (.ref b :: As) ed w1) (cw : CallW R s args own C index y bytes maxL ret ws { frames := fr, cells := mc, slots := ms, locals := lo } mc ms n) (hrec : ∃ cell : Cell, H[b]? = some cell ∧ cell.vm.isStatics = false ∧ s.vm.findClass C = some cell.cls) (hP : va_P D vwCl (wc ++ wr) H) (hD : va_D A0 (wc ++ wr)) (hS : va_S A0 s.heap H locs) (hA : ∀ q : Nat, s.heap.size ≤ q → A0 q) (hK : va_K D vwCl tys s) (hE : EZ ed A0 s s.heap) (hT : ET s)
    (hn : As.length = n) (hsize : ls.size = nL) (hst : st0 = As.reverse ++ .ref b :: rest) (hroom : (rest.map fun v => v.category).sum ≤ 8) (hdg : decode cc pc = .ok (.invokevirtual index, 3)) (hc : cells + mc ≤ R.cells) (hs : slots + ms ≤ R.slots)
    (kk : ∀ (u : S0) (H : Heap) (locs : List Loc), va_P D vwCl (w1 u ++ wr) H → va_D A0 (w1 u ++ wr) → va_S A0 s.heap H locs → W p l e R s m args below meth c H locs (cells + mc) (slots + ms) Q (F0 m (pc + 3) ls rest)) : W p l e R s m args below meth c H locs cells slots Q (F0 m pc ls st0) :=
  va_callv (va_runV S hM cw ⟨pcY_blind, hrec, pcY_at hP hD hS hA hK hE hT⟩ rfl hn hsize hst (lv_room hroom) hdg ⟨hc, hs⟩) hS (fun q _ h => va_frP hD hS hA q h) (va_frP hD hS hA)
    (fun u t H1 locs1 ht _ _ hB _ hk1 hS1 => by
      rw [ht] at hB
      obtain ⟨h1, h2⟩ := va_pre hP hD hk1 (va_frP hD hS hA) hB.1 hB.2
      exact kk u H1 locs1 h1 h2 hS1)
theorem q_callGc (S : CallFix p m c cc nL s args Ts own) (hM : MGv l y ws fr lo mc ms D tys H.size wc (.ref b :: As) ed w1) (cw : CallB R s args own index y bytes maxL none ws { frames := fr, cells := mc, slots := ms, locals := lo } mc ms n ∧ y.name = "<init>" ∧ (Cond.instanceMethod y).before args s = true) (hP : va_P D vwCl (wc ++ wr) H) (hD : va_D A0 (wc ++ wr)) (hS : va_S A0 s.heap H locs) (hA : ∀ q : Nat, s.heap.size ≤ q → A0 q) (hK : va_K D vwCl tys s) (hE : EZ ed A0 s s.heap) (hT : ET s)
    (hn : As.length = n) (hsize : ls.size = nL) (hst : st0 = As.reverse ++ .ref b :: rest) (hroom : (rest.map fun v => v.category).sum ≤ 8) (hdg : decode cc pc = .ok (.invokespecial index, 3)) (hc : cells + mc ≤ R.cells) (hs : slots + ms ≤ R.slots)
    (kk : ∀ (u : S0) (H : Heap) (locs : List Loc), va_P D vwCl (w1 u ++ wr) H → va_D A0 (w1 u ++ wr) → va_S A0 s.heap H locs → W p l e R s m args below meth c H locs (cells + mc) (slots + ms) Q (F0 m (pc + 3) ls rest)) : W p l e R s m args below meth c H locs cells slots Q (F0 m pc ls st0) :=
  va_callv (va_runI S hM cw ⟨pcY_blind, pcY_at hP hD hS hA hK hE hT⟩ rfl hn hsize hst (lv_room hroom) hdg ⟨hc, hs⟩) hS (fun q _ h => va_frP hD hS hA q h) (va_frP hD hS hA)
    (fun u t H1 locs1 ht _ _ hB _ hk1 hS1 => by
      rw [ht] at hB
      obtain ⟨h1, h2⟩ := va_pre hP hD hk1 (va_frP hD hS hA) hB.1 hB.2
      exact kk u H1 locs1 h1 h2 hS1)
theorem q_callGn {host : String} (S : CallFix p m c cc nL s args Ts own) (hM : MGv l y ws fr lo mc ms D tys H.size wc (.ref b :: As) ed w1) (cw : va_CN R s args own index y host bytes maxL none ws { frames := fr, cells := mc, slots := ms, locals := lo } mc ms n ∧ y.name = "<init>" ∧ (Cond.instanceMethod y).before args s = true) (hP : va_P D vwCl (wc ++ wr) H) (hD : va_D A0 (wc ++ wr)) (hS : va_S A0 s.heap H locs) (hA : ∀ q : Nat, s.heap.size ≤ q → A0 q) (hK : va_K D vwCl tys s) (hE : EZ ed A0 s s.heap) (hT : ET s)
    (hn : As.length = n) (hsize : ls.size = nL) (hst : st0 = As.reverse ++ .ref b :: rest) (hroom : (rest.map fun v => v.category).sum ≤ 8) (hdg : decode cc pc = .ok (.invokespecial index, 3)) (hc : cells + mc ≤ R.cells) (hs : slots + ms ≤ R.slots)
    (kk : ∀ (u : S0) (H : Heap) (locs : List Loc), va_P D vwCl (w1 u ++ wr) H → va_D A0 (w1 u ++ wr) → va_S A0 s.heap H locs → W p l e R s m args below meth c H locs (cells + mc) (slots + ms) Q (F0 m (pc + 3) ls rest)) : W p l e R s m args below meth c H locs cells slots Q (F0 m pc ls st0) :=
  va_callv (va_runIN S hM cw ⟨pcY_blind, pcY_at hP hD hS hA hK hE hT⟩ rfl hn hsize hst (lv_room hroom) hdg ⟨hc, hs⟩) hS (fun q _ h => va_frP hD hS hA q h) (va_frP hD hS hA)
    (fun u t H1 locs1 ht _ _ hB _ hk1 hS1 => by
      rw [ht] at hB
      obtain ⟨h1, h2⟩ := va_pre hP hD hk1 (va_frP hD hS hA) hB.1 hB.2
      exact kk u H1 locs1 h1 h2 hS1)
theorem q_callGi {v : Int} (S : CallFix p m c cc nL s args Ts own) (hM : MGi l y ws fr lo mc ms D tys H.size wc (.ref b :: As) ed v w1) (cw : CallW R s args own C index y bytes maxL ret ws { frames := fr, cells := mc, slots := ms, locals := lo } mc ms n) (hrec : ∃ cell : Cell, H[b]? = some cell ∧ cell.vm.isStatics = false ∧ s.vm.findClass C = some cell.cls) (hP : va_P D vwCl (wc ++ wr) H) (hD : va_D A0 (wc ++ wr)) (hS : va_S A0 s.heap H locs) (hA : ∀ q : Nat, s.heap.size ≤ q → A0 q) (hK : va_K D vwCl tys s) (hE : EZ ed A0 s s.heap) (hT : ET s)
    (hn : As.length = n) (hsize : ls.size = nL) (hst : st0 = As.reverse ++ .ref b :: rest) (hroom : (rest.map fun v => v.category).sum ≤ 8) (hdg : decode cc pc = .ok (.invokevirtual index, 3)) (hc : cells + mc ≤ R.cells) (hs : slots + ms ≤ R.slots)
    (kk : ∀ (u : S0) (H : Heap) (locs : List Loc), va_P D vwCl (w1 u ++ wr) H → va_D A0 (w1 u ++ wr) → va_S A0 s.heap H locs → W p l e R s m args below meth c H locs (cells + mc) (slots + ms) Q (F0 m (pc + 3) ls (.int (iI v) :: rest))) : W p l e R s m args below meth c H locs cells slots Q (F0 m pc ls st0) :=
  va_calli (va_runV S hM cw ⟨pcY_blind, hrec, pcY_at hP hD hS hA hK hE hT⟩ rfl hn hsize hst (lv_room hroom) hdg ⟨hc, hs⟩) hS (fun q _ h => va_frP hD hS hA q h) (va_frP hD hS hA)
    (fun r u t H1 locs1 ht _ hp hB _ hk1 hS1 => by
      rw [ht] at hB
      obtain ⟨h1, h2⟩ := va_pre hP hD hk1 (va_frP hD hS hA) hB.1 hB.2
      rw [show r = iI v from hp]
      exact kk u H1 locs1 h1 h2 hS1)
theorem q_callGr {rr : S0 → Nat} (S : CallFix p m c cc nL s args Ts own) (hM : MGr l y ws fr lo mc ms D tys H.size wc (.ref b :: As) ed rr w1) (cw : CallW R s args own C index y bytes maxL ret ws { frames := fr, cells := mc, slots := ms, locals := lo } mc ms n) (hrec : ∃ cell : Cell, H[b]? = some cell ∧ cell.vm.isStatics = false ∧ s.vm.findClass C = some cell.cls) (hP : va_P D vwCl (wc ++ wr) H) (hD : va_D A0 (wc ++ wr)) (hS : va_S A0 s.heap H locs) (hA : ∀ q : Nat, s.heap.size ≤ q → A0 q) (hK : va_K D vwCl tys s) (hE : EZ ed A0 s s.heap) (hT : ET s)
    (hn : As.length = n) (hsize : ls.size = nL) (hst : st0 = As.reverse ++ .ref b :: rest) (hroom : (rest.map fun v => v.category).sum ≤ 8) (hdg : decode cc pc = .ok (.invokevirtual index, 3)) (hc : cells + mc ≤ R.cells) (hs : slots + ms ≤ R.slots)
    (kk : ∀ (u : S0) (H : Heap) (locs : List Loc), va_P D vwCl (w1 u ++ wr) H → va_D A0 (w1 u ++ wr) → va_S A0 s.heap H locs → W p l e R s m args below meth c H locs (cells + mc) (slots + ms) Q (F0 m (pc + 3) ls (.ref (rr u) :: rest))) : W p l e R s m args below meth c H locs cells slots Q (F0 m pc ls st0) :=
  va_callr (va_runV S hM cw ⟨pcY_blind, hrec, pcY_at hP hD hS hA hK hE hT⟩ rfl hn hsize hst (lv_room hroom) hdg ⟨hc, hs⟩) hS (fun q _ h => va_frP hD hS hA q h) (va_frP hD hS hA)
    (fun u ra t H1 locs1 ht _ _ hB _ hk1 hS1 => by
      rw [ht] at hB
      obtain ⟨h1, h2⟩ := va_pre hP hD hk1 (va_frP hD hS hA) hB.2.1 hB.2.2
      rw [hB.1]
      exact kk u H1 locs1 h1 h2 hS1)
theorem q_gvret {w0 : va_W} {sz : Nat} (u : S0) (hx : p.tables.exec = Jvm.exec) (hb : c.code = cc) (hr : meth.sig.returnType = none) (hlocks : meth.locks = false) (hS : va_S (va_A w0 sz) s.heap H locs) (hPD : va_P D vwCl (w1 u) H ∧ va_D (va_A w0 sz) (w1 u)) (hmc : cells ≤ mc) (hms : slots ≤ ms) (hdg : decode cc pc = .ok (.return_, 1)) : W p l e R s m args below meth c H locs cells slots (MQ below (va_Qv (fun (_ : S0) => True) (fun u t => va_P D vwCl (w1 u) t.heap ∧ va_D (va_A w0 sz) (w1 u)) (va_A w0 sz)) args s mc ms (va_A w0 sz)) (F0 m pc ls []) :=
  W.widen hmc hms (W.vret hx hb hr (fun t ht _ => ⟨⟨u, rfl, trivial, by subst ht; exact hPD⟩, hS.F ht⟩) hS.2.2 hdg hlocks)
theorem q_giret {w0 : va_W} {sz : Nat} {v a : Int} (u : S0) (hx : p.tables.exec = Jvm.exec) (hb : c.code = cc) (hr : meth.sig.returnType = some .int) (hlocks : meth.locks = false) (hS : va_S (va_A w0 sz) s.heap H locs) (hv : a = v) (hPD : va_P D vwCl (w1 u) H ∧ va_D (va_A w0 sz) (w1 u)) (hmc : cells ≤ mc) (hms : slots ≤ ms) (hdg : decode cc pc = .ok (.ireturn, 1)) : W p l e R s m args below meth c H locs cells slots (MQ below (va_Qi (fun (r : Int32) (_ : S0) => r = iI v) (fun u t => va_P D vwCl (w1 u) t.heap ∧ va_D (va_A w0 sz) (w1 u)) (va_A w0 sz)) args s mc ms (va_A w0 sz)) (F0 m pc ls [.int (iI a)]) :=
  W.widen hmc hms (W.iret hx hb hr (fun t ht _ => ⟨⟨iI a, u, rfl, by rw [hv], by subst ht; exact hPD⟩, hS.F ht⟩) hS.2.2 hdg hlocks)
theorem q_gzret {w0 : va_W} {sz : Nat} {v a : Int} (u : S0) (hx : p.tables.exec = Jvm.exec) (hb : c.code = cc) (hr : meth.sig.returnType = some .boolean) (hlocks : meth.locks = false) (hz : a = 0 ∨ a = 1) (hS : va_S (va_A w0 sz) s.heap H locs) (hv : a = v) (hPD : va_P D vwCl (w1 u) H ∧ va_D (va_A w0 sz) (w1 u)) (hmc : cells ≤ mc) (hms : slots ≤ ms) (hdg : decode cc pc = .ok (.ireturn, 1)) : W p l e R s m args below meth c H locs cells slots (MQ below (va_Qi (fun (r : Int32) (_ : S0) => r = iI v) (fun u t => va_P D vwCl (w1 u) t.heap ∧ va_D (va_A w0 sz) (w1 u)) (va_A w0 sz)) args s mc ms (va_A w0 sz)) (F0 m pc ls [.int (iI a)]) :=
  W.widen hmc hms (W.zret hx hb hr (iI_z hz) (fun t ht _ => ⟨⟨iI a, u, rfl, by rw [hv], by subst ht; exact hPD⟩, hS.F ht⟩) hS.2.2 hdg hlocks)
theorem q_grret {w0 : va_W} {sz a : Nat} {rr : S0 → Nat} {rt : FieldType} (u : S0) (hx : p.tables.exec = Jvm.exec) (hb : c.code = cc) (hr : meth.sig.returnType = some rt) (hrt : (∃ n, rt = .object n) ∨ ∃ t, rt = .array t) (hlocks : meth.locks = false) (hS : va_S (va_A w0 sz) s.heap H locs) (hv : a = rr u) (hPD : va_P D vwCl (w1 u) H ∧ va_D (va_A w0 sz) (w1 u)) (hmc : cells ≤ mc) (hms : slots ≤ ms) (hdg : decode cc pc = .ok (.areturn, 1)) : W p l e R s m args below meth c H locs cells slots (MQ below (va_Qr (fun (_ : S0) => True) (fun u a t => a = rr u ∧ va_P D vwCl (w1 u) t.heap ∧ va_D (va_A w0 sz) (w1 u)) (va_A w0 sz)) args s mc ms (va_A w0 sz)) (F0 m pc ls [.ref a]) :=
  W.widen hmc hms (W.aret hx hb hr hrt (Or.inr ⟨a, rfl⟩) (fun t ht _ => ⟨⟨u, a, rfl, trivial, hv, by subst ht; exact hPD⟩, hS.F ht⟩) hS.2.2 hdg hlocks)
/-- a new row of ints, its class known already; it comes first -/
theorem q_newi (hx : p.tables.exec = Jvm.exec) (hb : c.code = cc) (harr : (Cond.arrayClass (newarray.typeOf .int)).before args s = true) {cI : ClassId} {ws : va_W} (hK : va_K D vwCl tys s) (t0 : Nat) (ht : tys[t0]? = some (cI, .int)) (hP : va_P D vwCl ws H) (hD : va_D A0 ws) (hS : va_S A0 H0 H locs) (hA : ∀ q, H0.size ≤ q → A0 q) {z : Int} (N : Nat) (hz : z = (N : Int)) (hN : N ≤ 1000) (hcells : cells + 1 ≤ R.cells) (hslots : slots + N ≤ R.slots) (hdg : decode cc pc = .ok (.newarray .int, 2))
    (kk : ∀ (q : Nat) (H : Heap), va_P D vwCl ((q, .inl (cI, N, .inl (fun _ => iI 0))) :: ws) H → va_D A0 ((q, .inl (cI, N, .inl (fun _ => iI 0))) :: ws) → va_S A0 H0 H locs → W p l e R s m args below meth c H locs (cells + 1) (slots + N) Q (F0 m (pc + 2) ls (.ref q :: rest))) : W p l e R s m args below meth c H locs cells slots Q (F0 m pc ls (.int (iI z) :: rest)) := by
  refine va_newa hx hb harr rfl hK hP hD hS hA (N' := N) (a0 := (N, .inl (fun _ => iI 0))) (fun cA => ?_) ?_ ?_ ?_ hcells hslots hdg (fun q cA H1 hK1 hP1 hD1 hS1 => ?_)
  · rw [vp_cell_i]
    rfl
  · rw [iI_zero, iI_lt (by omega) (by omega)]
    omega
  · rw [iI_cl (by omega)]
    omega
  · show N * 4 ≤ _
    omega
  · have e1 := (hK1.2 tys.length (cA, .int) (by rw [List.getElem?_append_right (Nat.le_refl _), Nat.sub_self]; rfl)).2
    have e2 := (hK.2 t0 _ ht).2
    have e3 : some cA = some cI := e1.symm.trans e2
    cases Option.some.inj e3
    obtain ⟨h1, h2⟩ := va_lst hP1 hD1
    exact kk q H1 h1 h2 hS1
/-- a new object; it comes first -/
theorem q_newo (hx : p.tables.exec = Jvm.exec) (hb : c.code = cc) {T : u_T} {N ci : Nat} {ws : va_W} (hts : ∀ w ∈ Ts, w.before args s = true) (hin : ∀ w ∈ u_ws C T N, w ∈ Ts) (ty : Nat → FieldType) (hty : ∀ k, k < N → parseFieldDescriptor (T k).2.2.1 = some (ty k)) (hown : s.vm.findClass own = some m.cls) (hcl : (Cond.classLink own index C).before args s = true) (hinst : (Cond.instantiable C N).before args s = true) (hini : (Cond.initialized C).before args s = true)
    (hK : va_K D vwCl tys s) (hP : va_P D vwCl ws H) (hD : va_D A0 ws) (hS : va_S A0 H0 H locs) (hA : ∀ q, H0.size ≤ q → A0 q) (hc : vwCl[ci]? = some (C, T, N)) {fs : List Value} (hfs : ∀ j, j < N → defaultValue (ty j) = vp_V fs j) (hcells : cells + 1 ≤ R.cells) (hslots : slots + N ≤ R.slots) (hdg : decode cc pc = .ok (.new index, 3))
    (kk : ∀ (q : Nat) (H : Heap), va_P D vwCl ((q, .inr (ci, fs)) :: ws) H → va_D A0 ((q, .inr (ci, fs)) :: ws) → va_S A0 H0 H locs → W p l e R s m args below meth c H locs (cells + 1) (slots + N) Q (F0 m (pc + 3) ls (.ref q :: rest))) : W p l e R s m args below meth c H locs cells slots Q (F0 m pc ls rest) :=
  va_new hx hb hts hin ty hty hown hcl hinst hini hK hP hD hS hA hc hfs hcells hslots hdg (fun q H1 hP1 hD1 hS1 => by
    obtain ⟨h1, h2⟩ := va_lst hP1 hD1
    exact kk q H1 h1 h2 hS1)
end QG
theorem MGv_of {l : Launch} {y : MethodName} {ws ws' : List Cond} {fr lo mc ms : Nat} {D : va_G} {tys : List (ClassId × FieldType)} {sz : Nat} {w0 : va_W} {av : List Value} {ed : Nat × Nat × Nat} {S0 : Type} {w1 : S0 → va_W} {cc : ByteArray} {maxL : Nat} {ret : Option FieldType} (hy : plainName y.cls = true) (hw : ws = Cond.code y cc maxL ret :: ws') (hlen : (lg_sl av).length ≤ maxL)
    (body : ∀ (p : Program) (e : Env) (s : State) (m : MethodId) (args : Array Value) (below : List Frame) (meth : Method) (c : Code) (ls : Array Slot), p.tables.exec = Jvm.exec → c.code = cc → meth.sig.returnType = ret → meth.locks = false → c.maxLocals = maxL → s.vm.findClass y.cls = some m.cls → (∀ w ∈ ws, w.before args s = true) → s.heap.size = sz → va_P D vwCl w0 s.heap → va_K D vwCl tys s → va_D (va_A w0 sz) w0 → va_S (va_A w0 sz) s.heap s.heap [] → (∀ q : Nat, s.heap.size ≤ q → va_A w0 sz q) → meth.name = y.name → EZ ed (va_A w0 sz) s s.heap → ET s → lv_has ls maxL (lv_args 0 av) →
      W p l e { frames := fr, cells := mc, slots := ms, locals := lo } s m args below meth c s.heap [] 0 0 (MQ below (va_Qv (fun (_ : S0) => True) (fun u t => va_P D vwCl (w1 u) t.heap ∧ va_D (va_A w0 sz) (w1 u)) (va_A w0 sz)) args s mc ms (va_A w0 sz)) (F0 m 0 ls [])) : MGv l y ws fr lo mc ms D tys sz w0 av ed w1 := by
  refine Met.ofW (cc := cc) (maxL := maxL) (ret := ret) hy hw ?_
  intro p e s m args below meth c s₁ B hml hv
  obtain ⟨rfl, hsz, hP, hK, hD, hE, hT⟩ := hv
  rw [lg_entry_eq]
  exact body p e s m _ below meth c _ B.exec B.bytes B.returns B.notSynchronized hml (findClass_of_methodNamed B.named) (atoms_spec (ws := ws) B.pre) hsz hP hK (hD.self) va_S.rf (fun q h => by rw [← hsz]; exact Or.inr h) (name_of_methodNamed B.named B.method).1 hE hT (lv_entry av hlen)
theorem MGi_of {l : Launch} {y : MethodName} {ws ws' : List Cond} {fr lo mc ms : Nat} {D : va_G} {tys : List (ClassId × FieldType)} {sz : Nat} {w0 : va_W} {av : List Value} {ed : Nat × Nat × Nat} {v : Int} {S0 : Type} {w1 : S0 → va_W} {cc : ByteArray} {maxL : Nat} {ret : Option FieldType} (hy : plainName y.cls = true) (hw : ws = Cond.code y cc maxL ret :: ws') (hlen : (lg_sl av).length ≤ maxL)
    (body : ∀ (p : Program) (e : Env) (s : State) (m : MethodId) (args : Array Value) (below : List Frame) (meth : Method) (c : Code) (ls : Array Slot), p.tables.exec = Jvm.exec → c.code = cc → meth.sig.returnType = ret → meth.locks = false → c.maxLocals = maxL → s.vm.findClass y.cls = some m.cls → (∀ w ∈ ws, w.before args s = true) → s.heap.size = sz → va_P D vwCl w0 s.heap → va_K D vwCl tys s → va_D (va_A w0 sz) w0 → va_S (va_A w0 sz) s.heap s.heap [] → (∀ q : Nat, s.heap.size ≤ q → va_A w0 sz q) → meth.name = y.name → EZ ed (va_A w0 sz) s s.heap → ET s → lv_has ls maxL (lv_args 0 av) →
      W p l e { frames := fr, cells := mc, slots := ms, locals := lo } s m args below meth c s.heap [] 0 0 (MQ below (va_Qi (fun (r : Int32) (_ : S0) => r = iI v) (fun u t => va_P D vwCl (w1 u) t.heap ∧ va_D (va_A w0 sz) (w1 u)) (va_A w0 sz)) args s mc ms (va_A w0 sz)) (F0 m 0 ls [])) : MGi l y ws fr lo mc ms D tys sz w0 av ed v w1 := by
  refine Met.ofW (cc := cc) (maxL := maxL) (ret := ret) hy hw ?_
  intro p e s m args below meth c s₁ B hml hv
  obtain ⟨rfl, hsz, hP, hK, hD, hE, hT⟩ := hv
  rw [lg_entry_eq]
  exact body p e s m _ below meth c _ B.exec B.bytes B.returns B.notSynchronized hml (findClass_of_methodNamed B.named) (atoms_spec (ws := ws) B.pre) hsz hP hK (hD.self) va_S.rf (fun q h => by rw [← hsz]; exact Or.inr h) (name_of_methodNamed B.named B.method).1 hE hT (lv_entry av hlen)
theorem MGr_of {l : Launch} {y : MethodName} {ws ws' : List Cond} {fr lo mc ms : Nat} {D : va_G} {tys : List (ClassId × FieldType)} {sz : Nat} {w0 : va_W} {av : List Value} {ed : Nat × Nat × Nat} {S0 : Type} {rr : S0 → Nat} {w1 : S0 → va_W} {cc : ByteArray} {maxL : Nat} {ret : Option FieldType} (hy : plainName y.cls = true) (hw : ws = Cond.code y cc maxL ret :: ws') (hlen : (lg_sl av).length ≤ maxL)
    (body : ∀ (p : Program) (e : Env) (s : State) (m : MethodId) (args : Array Value) (below : List Frame) (meth : Method) (c : Code) (ls : Array Slot), p.tables.exec = Jvm.exec → c.code = cc → meth.sig.returnType = ret → meth.locks = false → c.maxLocals = maxL → s.vm.findClass y.cls = some m.cls → (∀ w ∈ ws, w.before args s = true) → s.heap.size = sz → va_P D vwCl w0 s.heap → va_K D vwCl tys s → va_D (va_A w0 sz) w0 → va_S (va_A w0 sz) s.heap s.heap [] → (∀ q : Nat, s.heap.size ≤ q → va_A w0 sz q) → meth.name = y.name → EZ ed (va_A w0 sz) s s.heap → ET s → lv_has ls maxL (lv_args 0 av) →
      W p l e { frames := fr, cells := mc, slots := ms, locals := lo } s m args below meth c s.heap [] 0 0 (MQ below (va_Qr (fun (_ : S0) => True) (fun u a t => a = rr u ∧ va_P D vwCl (w1 u) t.heap ∧ va_D (va_A w0 sz) (w1 u)) (va_A w0 sz)) args s mc ms (va_A w0 sz)) (F0 m 0 ls [])) : MGr l y ws fr lo mc ms D tys sz w0 av ed rr w1 := by
  refine Met.ofW (cc := cc) (maxL := maxL) (ret := ret) hy hw ?_
  intro p e s m args below meth c s₁ B hml hv
  obtain ⟨rfl, hsz, hP, hK, hD, hE, hT⟩ := hv
  rw [lg_entry_eq]
  exact body p e s m _ below meth c _ B.exec B.bytes B.returns B.notSynchronized hml (findClass_of_methodNamed B.named) (atoms_spec (ws := ws) B.pre) hsz hP hK (hD.self) va_S.rf (fun q h => by rw [← hsz]; exact Or.inr h) (name_of_methodNamed B.named B.method).1 hE hT (lv_entry av hlen)
