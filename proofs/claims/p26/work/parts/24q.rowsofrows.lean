/-! ===== rows of rows of ints: made, and laid into ===== -/
theorem va_AM_at {D : va_G} {tys : List (ClassId × FieldType)} {s : State} {cI cL : ClassId} (hM : va_AM s) (hK : va_K D vwCl tys s) {t0 t1 : Nat} (ht : tys[t0]? = some (cL, .array .int)) (ht1 : tys[t1]? = some (cI, .int)) : ∃ kA kI : Class, s.vm.classes[cL]? = some kA ∧ kA.kind = .array cI (.array .int) ∧ s.vm.classes[cI]? = some kI := by
  obtain ⟨comp, cA, kA, h1, h3, h4, h5⟩ := hM.spec
  have g1 : s.vm.findClass ("[" ++ (FieldType.array .int).toString) = some cL := (hK.2 t0 _ ht).2
  have g2 : s.vm.findClass "[I" = some cI := va_nm_int (hK.2 t1 _ ht1).2
  have e1 : cA = cL := Option.some.inj (h5.symm.trans g1)
  have e2 : comp = cI := Option.some.inj (h1.symm.trans g2)
  subst e1
  subst e2
  obtain ⟨kI, hkI, -⟩ := Vm.findClass_spec h1
  exact ⟨kA, kI, h3, h4, hkI⟩
section QM
variable {p : Program} {l : Launch} {e : Env} {R : Room} {s : State} {m : MethodId} {args : Array Value} {below : List Frame} {meth : Method} {c : Code} {H : Heap} {locs : List Loc} {cells slots : Nat} {Q : State → Prop} {cc : ByteArray} {pc : Nat} {ls : Array Slot} {rest : List Value} {A0 : Nat → Prop} {H0 : Heap} {D : va_G} {tys : List (ClassId × FieldType)} {ws : va_W}
theorem q_newM (hx : p.tables.exec = Jvm.exec) (hb : c.code = cc) {own : String} {index : Nat} (hown : s.vm.findClass own = some m.cls) (hclink : (Cond.classLink own index "[I").before args s = true) (hover : va_AM s) {cL : ClassId} (hK : va_K D vwCl tys s) (t0 : Nat) (ht : tys[t0]? = some (cL, .array .int)) (hP : va_P D vwCl ws H) (hD : va_D A0 ws) (hS : va_S A0 H0 H locs) (hA : ∀ q, H0.size ≤ q → A0 q) {z : Int} (N : Nat) (hz : z = (N : Int)) (hN : N ≤ 1000) (hcells : cells + 1 ≤ R.cells) (hslots : slots + N ≤ R.slots) (hdg : decode cc pc = .ok (.anewarray index, 3))
    (kk : ∀ (q : Nat) (H : Heap), va_P D vwCl ((q, .inl (cL, N, .inr (.inr (.inr (.inr (fun _ => none)))))) :: ws) H → va_D A0 ((q, .inl (cL, N, .inr (.inr (.inr (.inr (fun _ => none)))))) :: ws) → va_S A0 H0 H locs → W p l e R s m args below meth c H locs (cells + 1) (slots + N) Q (F0 m (pc + 3) ls (.ref q :: rest))) : W p l e R s m args below meth c H locs cells slots Q (F0 m pc ls (.int (iI z) :: rest)) := by
  have eN : (iI z).toNatClampNeg = N := by rw [iI_cl (by omega)]; omega
  refine W.anewA hx hb (t := .int) hown (by rw [show (FieldType.array .int).toString = "[I" by decide +kernel]; exact hclink) hover.use rfl hdg rfl ?_ ?_ hcells ?_ fun cA kA comp f1 f2 f3 f4 => ?_
  · rw [iI_zero, iI_lt (by omega) (by omega)]
    omega
  · rw [eN]
    omega
  · rw [eN]
    exact hslots
  · rw [eN]
    have e3 : cA = cL := Option.some.inj (f1.symm.trans (hK.2 t0 _ ht).2)
    subst e3
    generalize hH1 : H.push ({ cls := cA, slots := Array.replicate N .null, vm := .none } : Cell) = H1
    have e1 : H1[H.size]? = some (arrV cA N (fun _ => .null)) := by rw [← hH1, Array.getElem?_push_size, ← arrV_new]
    have o1 : ∀ q : Nat, q < H.size → H1[q]? = H[q]? := fun q hq => by rw [← hH1, Array.getElem?_push, if_neg (Nat.ne_of_lt hq)]
    have hk : ∀ (k : Nat) (x : Nat × va_E), ws[k]? = some x → H1[x.1]? = H[x.1]? := fun k x hx => o1 x.1 ((hP k x hx).lt)
    have hn : va_P D vwCl [(H.size, .inl (cA, N, .inr (.inr (.inr (.inr (fun _ => none))))))] H1 := by
      intro k x hx
      have hz : k < 1 := (List.getElem?_eq_some_iff.mp hx).1
      rw [show k = 0 by omega] at hx
      cases hx
      show H1[H.size]? = some (vp_cell _ _)
      rw [vp_cell_q]
      exact e1
    obtain ⟨h1, h2⟩ := va_lst ((hP.kept hk).app hn) (hD.push hP rfl (hA _ hS.1))
    have z1 : H1.size = H.size + 1 := by rw [← hH1, Array.size_push]
    exact kk H.size H1 h1 h2 ⟨Nat.le_trans hS.1 (by omega), fun x h1 h2 => (o1 x (Nat.lt_of_lt_of_le h1 hS.1)).trans (hS.2.1 x h1 h2), hS.2.2⟩
theorem q_aastM (hx : p.tables.exec = Jvm.exec) (hb : c.code = cc) (hM : va_AM s) (hK : va_K D vwCl tys s) (hP : va_P D vwCl ws H) (hD : va_D A0 ws) (hS : va_S A0 H0 H locs) (q0 t0 t1 : Nat) {a : Nat} {cI cL : ClassId} {n v : Nat} {x : vp_A} {f : Nat → Option Nat} (ha : ws[q0]? = some (a, .inl (cL, n, .inr (.inr (.inr (.inr f)))))) (ht : tys[t0]? = some (cL, .array .int)) (ht1 : tys[t1]? = some (cI, .int)) (hv : (v, (.inl (cI, x) : va_E)) ∈ ws) {i : Int} (k : Nat) (hi : i = (k : Int)) (hk : k < n) (hn : n < 2147483648) (hdg : decode cc pc = .ok (.aastore, 1))
    (kk : ∀ (H1 : Heap) (locs1 : List Loc), va_P D vwCl (ws.set q0 (a, .inl (cL, n, .inr (.inr (.inr (.inr (va_up f k (some v)))))))) H1 → va_D A0 (ws.set q0 (a, .inl (cL, n, .inr (.inr (.inr (.inr (va_up f k (some v)))))))) → va_S A0 H0 H1 locs1 → W p l e R s m args below meth c H1 locs1 cells slots Q (F0 m (pc + 1) ls rest)) : W p l e R s m args below meth c H locs cells slots Q (F0 m pc ls (.ref v :: .int (iI i) :: .ref a :: rest)) := by
  obtain ⟨kA, kI, k1, k2, k3⟩ := va_AM_at hM hK ht ht1
  have ek : (iI i).toNatClampNeg = k := by rw [iI_cl (by omega)]; omega
  have h0 : ¬ iI i < 0 := by
    rw [iI_zero, iI_lt (by omega) (by omega)]
    omega
  have hcv : H[v]? = some (vp_cell cI x) := vaP_mem hP hv
  have hvm : ∀ q, (vp_cell cI x).vm ≠ .statics q := by
    intro q
    obtain ⟨N, y⟩ := x
    rcases y with y | y | y | y | y <;> (intro h; cases h)
  have hcls : (vp_cell cI x).cls = cI := by
    obtain ⟨N, y⟩ := x
    rcases y with y | y | y | y | y <;> rfl
  refine W.aast hx hb (hP q0 _ ha) (fun q h => by cases h) (fun h => by cases h) k1 k2 rfl k3 ⟨h0, by show _ < (arrV _ _ _).slots.size; rw [arrV_size, ek]; exact hk⟩ hcv hvm (by rw [hcls]; exact k3) (by rw [hcls]; exact va_asg _ _) rfl rfl hdg fun H1 e z oq => ?_
  rw [ek] at e
  refine kk H1 _ (hP.set hD ha ?_ oq) (hD.set ha) (hS.put z oq (hD.2 q0 _ ha))
  show H1[a]? = some (vp_cell _ _)
  rw [e]
  rw [vp_cell_q, vp_cell_q, arrV_store]
  congr 2
  funext q
  by_cases hq : q = k
  · subst hq
    simp [updV, va_up, va_rf]
  · simp [updV, va_up, hq]
end QM
