/-! ===== the law: rows of its rounds ===== -/
/-- the world of a round -/
def IV (D : va_G) (cI cO cL : ClassId) (A : Nat → Prop) (ed : Nat × Nat × Nat) (out g0 a ta pa : Nat) (H : Heap) : Prop := ∃ (g : Nat → Nat) (σ T P : Nat → Int) (fo : Nat → Int64) (th : Int), LW σ T P ∧ g 0 = g0 ∧ (σ 6 = 0 → g 6 = ed.1) ∧ (σ 7 = 0 → g 7 = ed.1) ∧ va_P D vwCl ((WC cI cO g σ T P ++ [oc out cL fo]) ++ WMo cI a ta pa th σ T P) H ∧ va_D A ((WC cI cO g σ T P ++ [oc out cL fo]) ++ WMo cI a ta pa th σ T P)
theorem vaD_self' {A : Nat → Prop} {sz : Nat} {wc wr : va_W} (hD : va_D A (wc ++ wr)) : va_D (va_A wc sz) wc := (vaD_left hD).self
theorem va_swap {D : va_G} {A : Nat → Prop} {w1 w2 : va_W} {H : Heap} (hP : va_P D vwCl (w1 ++ w2) H) (hD : va_D A (w1 ++ w2)) : va_P D vwCl (w2 ++ w1) H ∧ va_D A (w2 ++ w1) := va_of_perm List.perm_append_comm hP hD
theorem I_and31 (x : Int) : ∃ z : Int, (0 ≤ z ∧ z ≤ 31) ∧ iI x &&& iI 31 = iI z := by
  refine ⟨((iI x &&& iI 31).toBitVec.toNat : Int), ?_, ?_⟩
  · have h : (iI x &&& iI 31).toBitVec.toNat ≤ 31 := by
      rw [Int32.toBitVec_and, BitVec.toNat_and]
      exact Nat.and_le_right
    omega
  · apply Int32.toBitVec_inj.mp
    have h : (iI x &&& iI 31).toBitVec.toNat ≤ 31 := by
      rw [Int32.toBitVec_and, BitVec.toNat_and]
      exact Nat.and_le_right
    apply BitVec.eq_of_toNat_eq
    unfold iI
    rw [Int32.toBitVec_ofInt]
    simp only [BitVec.ofInt_natCast, BitVec.toNat_ofNat]
    exact (Nat.mod_eq_of_lt (by omega)).symm
theorem I_of (v : Int32) : v = iI v.toInt := (Int32.ofInt_toInt v).symm
theorem I_rng (v : Int32) : -2147483648 ≤ v.toInt ∧ v.toInt < 2147483648 := ⟨Int32.le_toInt v, Int32.toInt_lt v⟩
theorem I_nat (n : Nat) : Int32.ofNat n = iI (n : Int) := Int32.ofInt_eq_ofNat.symm
section QL
variable {p : Program} {l : Launch} {e : Env} {R : Room} {s : State} {m : MethodId} {args : Array Value} {below : List Frame} {meth : Method} {c : Code} {H : Heap} {locs : List Loc} {cells slots : Nat} {Q : State → Prop} {cc : ByteArray} {pc : Nat} {ls : Array Slot} {rest st0 : List Value} {A0 : Nat → Prop} {mc ms : Nat}
variable {D : va_G} {cI cO cL : ClassId} {g : Nat → Nat} {σ T P σ' T' P' : Nat → Int} {ed : Nat × Nat × Nat} {fr lo : Nat} {y : MethodName} {bytes : ByteArray} {maxL nL n index : Nat} {ret : Option FieldType} {ws : List Cond} {Ts : List Cond} {own : String} {As : List Value} {er v : Int} {wr wc : va_W} {out : Nat} {fo : Nat → Int64} {tys : List (ClassId × FieldType)}
theorem pcZ_at {av : List Value} (hP : va_P D vwCl (wc ++ wr) H) (hD : va_D A0 (wc ++ wr)) (hS : va_S A0 s.heap H locs) (hA : ∀ q : Nat, s.heap.size ≤ q → A0 q) (hK : va_K D vwCl tys s) (hE : EZ ed A0 s s.heap) (hT : ET s) (hN : EN s) : ∀ U : State, U.heap = H → s.WarmedH U.vm → pcZ D tys H.size wc av ed av.toArray U := fun U hU hW => ⟨rfl, by rw [hU], by rw [hU]; exact vaP_mems hP (fun q hq => List.mem_append_left _ hq), va_K.moved hW.alike hK, vaD_left hD, by rw [hU]; exact hE.to hS hW.alike (va_frP hD hS hA), hT.warm hW, hN.moved hW.alike⟩
/-- one of the law's own calls -/
theorem q_lawW {hh : List (Nat × Nat × Nat × Nat)} (S : CallFix p m c cc nL s args Ts own) (hM : MW l y ws fr lo mc ms D cI cO cL H.size out g σ T P fo As ed er v σ' T' P') (cw : vx_CSW R s args own index y bytes maxL ret hh ws { frames := fr, cells := mc, slots := ms, locals := lo } mc ms n) (hP : va_P D vwCl ((WC cI cO g σ T P ++ [oc out cL fo]) ++ wr) H) (hD : va_D A0 ((WC cI cO g σ T P ++ [oc out cL fo]) ++ wr)) (hS : va_S A0 s.heap H locs) (hA : ∀ q : Nat, s.heap.size ≤ q → A0 q) (hK : va_K D vwCl (ty3 cI cO cL) s) (hE : EZ ed A0 s s.heap) (hT : ET s) (hN : EN s)
    (hn : As.length = n) (hsize : ls.size = nL) (hst : st0 = As.reverse ++ rest) (hroom : (rest.map fun v => v.category).sum ≤ 8) (hdg : decode cc pc = .ok (.invokestatic index, 3)) (hc : cells + mc ≤ R.cells) (hs : slots + ms ≤ R.slots)
    (k0 : ∀ (u : Nat → Nat) (H : Heap) (locs : List Loc), er = 0 → (u 0 = g 0 ∧ (σ' 6 = 0 → u 6 = ed.1) ∧ (σ' 7 = 0 → u 7 = ed.1)) → va_P D vwCl ((WC cI cO u σ' T' P' ++ [oc out cL (vp_updL fo 0 (iI v).toInt64)]) ++ wr) H → va_D A0 ((WC cI cO u σ' T' P' ++ [oc out cL (vp_updL fo 0 (iI v).toInt64)]) ++ wr) → va_S A0 s.heap H locs → W p l e R s m args below meth c H locs (cells + mc) (slots + ms) Q (F0 m (pc + 3) ls (.int (iI er) :: rest)))
    (k1 : ∀ (H : Heap) (locs : List Loc), er ≠ 0 → va_P D vwCl ((WC cI cO g σ T P ++ [oc out cL fo]) ++ wr) H → va_S A0 s.heap H locs → W p l e R s m args below meth c H locs (cells + mc) (slots + ms) Q (F0 m (pc + 3) ls (.int (iI er) :: rest))) : W p l e R s m args below meth c H locs cells slots Q (F0 m pc ls st0) :=
  va_calli (vx_runSW S hM cw ⟨pcZ_blind, pcZ_at hP hD hS hA hK hE hT hN⟩ rfl hn hsize hst (lv_room hroom) hdg ⟨hc, hs⟩) hS (fun q _ h => va_frP hD hS hA q h) (va_frP hD hS hA)
    (fun r u t H1 locs1 ht _ hp hB _ hk1 hS1 => by
      rw [ht] at hB
      rw [show r = iI er from hp]
      rcases hB with ⟨h0, hu, h1, h2⟩ | ⟨h0, h1⟩
      · obtain ⟨h3, h4⟩ := va_pre hP hD hk1 (va_frP hD hS hA) h1 h2
        exact k0 u H1 locs1 h0 hu h3 h4 hS1
      · obtain ⟨h3, h4⟩ := va_pre hP hD hk1 (va_frP hD hS hA) h1 (vaD_self' hD)
        exact k1 H1 locs1 h0 h3 hS1)
/-- one of the reference's calls: its part comes first -/
theorem q_lawU {C : String} {b : Addr} {wok wf : va_W} (S : CallFix p m c cc nL s args Ts own) (hM : MU l y ws fr lo mc ms D tys H.size wc (.ref b :: As) er v wok wf) (cw : CallW R s args own C index y bytes maxL ret ws { frames := fr, cells := mc, slots := ms, locals := lo } mc ms n) (hrec : ∃ cell : Cell, H[b]? = some cell ∧ cell.vm.isStatics = false ∧ s.vm.findClass C = some cell.cls) (hok : wok.map (·.1) = wc.map (·.1)) (hwf : wf.map (·.1) = wc.map (·.1)) (hP : va_P D vwCl (wr ++ wc) H) (hD : va_D A0 (wr ++ wc)) (hS : va_S A0 s.heap H locs) (hA : ∀ q : Nat, s.heap.size ≤ q → A0 q) (hK : va_K D vwCl tys s)
    (hn : As.length = n) (hsize : ls.size = nL) (hst : st0 = As.reverse ++ .ref b :: rest) (hroom : (rest.map fun v => v.category).sum ≤ 8) (hdg : decode cc pc = .ok (.invokevirtual index, 3)) (hc : cells + mc ≤ R.cells) (hs : slots + ms ≤ R.slots)
    (kk : ∀ (r : Int32) (H : Heap) (locs : List Loc), (er = 0 → r = iI v) → ((er = 0 ∧ va_P D vwCl (wr ++ wok) H ∧ va_D A0 (wr ++ wok)) ∨ (er ≠ 0 ∧ va_P D vwCl (wr ++ wf) H ∧ va_D A0 (wr ++ wf))) → va_S A0 s.heap H locs → W p l e R s m args below meth c H locs (cells + mc) (slots + ms) Q (F0 m (pc + 3) ls (.int r :: rest))) : W p l e R s m args below meth c H locs cells slots Q (F0 m pc ls st0) := by
  obtain ⟨hP2, hD2⟩ := va_swap hP hD
  exact va_calli (va_runV S hM cw ⟨pcW_blind, hrec, fun U hU hW => ⟨rfl, by rw [hU], by rw [hU]; exact vaP_mems hP2 (fun q hq => List.mem_append_left _ hq), va_K.moved hW.alike hK, vaD_left hD2⟩⟩ rfl hn hsize hst (lv_room hroom) hdg ⟨hc, hs⟩) hS (fun q _ h => va_frP hD2 hS hA q h) (va_frP hD2 hS hA)
    (fun r u t H1 locs1 ht _ hp hB _ hk1 hS1 => by
      rw [ht] at hB
      refine kk r H1 locs1 hp ?_ hS1
      rcases hB with ⟨h0, h1⟩ | ⟨h0, h1⟩
      · obtain ⟨h3, h4⟩ := va_pre hP2 hD2 hk1 (va_frP hD2 hS hA) h1 (vaD_addr (vaD_self' hD2) hok)
        exact Or.inl ⟨h0, va_swap h3 h4⟩
      · obtain ⟨h3, h4⟩ := va_pre hP2 hD2 hk1 (va_frP hD2 hS hA) h1 (vaD_addr (vaD_self' hD2) hwf)
        exact Or.inr ⟨h0, va_swap h3 h4⟩)
theorem q_lawUy {C : String} {b : Addr} {wok wf : va_W} (S : CallFix p m c cc nL s args Ts own) (hM : MUy l y ws fr lo mc ms D tys H.size wc (.ref b :: As) ed er v wok wf) (cw : CallW R s args own C index y bytes maxL ret ws { frames := fr, cells := mc, slots := ms, locals := lo } mc ms n) (hrec : ∃ cell : Cell, H[b]? = some cell ∧ cell.vm.isStatics = false ∧ s.vm.findClass C = some cell.cls) (hok : wok.map (·.1) = wc.map (·.1)) (hwf : wf.map (·.1) = wc.map (·.1)) (hP : va_P D vwCl (wr ++ wc) H) (hD : va_D A0 (wr ++ wc)) (hS : va_S A0 s.heap H locs) (hA : ∀ q : Nat, s.heap.size ≤ q → A0 q) (hK : va_K D vwCl tys s) (hE : EZ ed A0 s s.heap) (hT : ET s)
    (hn : As.length = n) (hsize : ls.size = nL) (hst : st0 = As.reverse ++ .ref b :: rest) (hroom : (rest.map fun v => v.category).sum ≤ 8) (hdg : decode cc pc = .ok (.invokevirtual index, 3)) (hc : cells + mc ≤ R.cells) (hs : slots + ms ≤ R.slots)
    (kk : ∀ (r : Int32) (H : Heap) (locs : List Loc), (er = 0 → r = iI v) → ((er = 0 ∧ va_P D vwCl (wr ++ wok) H ∧ va_D A0 (wr ++ wok)) ∨ (er ≠ 0 ∧ va_P D vwCl (wr ++ wf) H ∧ va_D A0 (wr ++ wf))) → va_S A0 s.heap H locs → W p l e R s m args below meth c H locs (cells + mc) (slots + ms) Q (F0 m (pc + 3) ls (.int r :: rest))) : W p l e R s m args below meth c H locs cells slots Q (F0 m pc ls st0) := by
  obtain ⟨hP2, hD2⟩ := va_swap hP hD
  exact va_calli (va_runV S hM cw ⟨pcY_blind, hrec, pcY_at hP2 hD2 hS hA hK hE hT⟩ rfl hn hsize hst (lv_room hroom) hdg ⟨hc, hs⟩) hS (fun q _ h => va_frP hD2 hS hA q h) (va_frP hD2 hS hA)
    (fun r u t H1 locs1 ht _ hp hB _ hk1 hS1 => by
      rw [ht] at hB
      refine kk r H1 locs1 hp ?_ hS1
      rcases hB with ⟨h0, h1⟩ | ⟨h0, h1⟩
      · obtain ⟨h3, h4⟩ := va_pre hP2 hD2 hk1 (va_frP hD2 hS hA) h1 (vaD_addr (vaD_self' hD2) hok)
        exact Or.inl ⟨h0, va_swap h3 h4⟩
      · obtain ⟨h3, h4⟩ := va_pre hP2 hD2 hk1 (va_frP hD2 hS hA) h1 (vaD_addr (vaD_self' hD2) hwf)
        exact Or.inr ⟨h0, va_swap h3 h4⟩)
/-- the script: its i-th int -/
theorem q_sld {b L : Nat} {xs : Nat → Int32} (hx : p.tables.exec = Jvm.exec) (hb : c.code = cc) (hX : va_X b L xs s s.heap) (hbl : b < s.heap.size) (hbA : ¬ A0 b) (hS : va_S A0 s.heap H locs) {i : Int} (k : Nat) (hi : i = (k : Int)) (hk : k < L) (hL : L ≤ 3072) (hdg : decode cc pc = .ok (.iaload, 1))
    (kk : W p l e R s m args below meth c H locs cells slots Q (F0 m (pc + 1) ls (.int (iI (xs k).toInt) :: rest))) : W p l e R s m args below meth c H locs cells slots Q (F0 m pc ls (.int (iI i) :: .ref b :: rest)) := by
  refine va_sld hx hb hX hbl hbA hS (iI_in (by omega) (by omega)) hdg ?_
  rw [iI_cl (by omega), show i.toNat = k by omega, I_of (xs k)]
  rw [← I_of (xs k)] at kk
  rw [← I_of (xs k)]
  exact kk
theorem q_slen {b L : Nat} {xs : Nat → Int32} (hx : p.tables.exec = Jvm.exec) (hb : c.code = cc) (hX : va_X b L xs s s.heap) (hbl : b < s.heap.size) (hbA : ¬ A0 b) (hS : va_S A0 s.heap H locs) (hdg : decode cc pc = .ok (.arraylength, 1))
    (kk : W p l e R s m args below meth c H locs cells slots Q (F0 m (pc + 1) ls (.int (iI (L : Int)) :: rest))) : W p l e R s m args below meth c H locs cells slots Q (F0 m pc ls (.ref b :: rest)) := by
  refine va_slen hx hb hX hbl hbA hS hdg ?_
  rw [I_nat]
  exact kk
theorem q_and31 (hx : p.tables.exec = Jvm.exec) (hb : c.code = cc) {x : Int} (hdg : decode cc pc = .ok (.iand, 1)) (k : ∀ z : Int, (0 ≤ z ∧ z ≤ 31) → W p l e R s m args below meth c H locs cells slots Q (F0 m (pc + 1) ls (.int (iI z) :: rest))) : W p l e R s m args below meth c H locs cells slots Q (F0 m pc ls (.int (iI 31) :: .int (iI x) :: rest)) := by
  obtain ⟨z, hz, e⟩ := I_and31 x
  exact lv_iand hx hb hdg (by rw [e]; exact k z hz)
theorem q_lald {f : Nat → Int64} (hx : p.tables.exec = Jvm.exec) (hb : c.code = cc) (hK : va_K D vwCl (ty3 cI cO cL) s) (hP : va_P D vwCl ((WC cI cO g σ T P ++ [oc out cL f]) ++ wr) H) (hdg : decode cc pc = .ok (.laload, 1))
    (kk : W p l e R s m args below meth c H locs cells slots Q (F0 m (pc + 1) ls (.long (f 0) :: rest))) : W p l e R s m args below meth c H locs cells slots Q (F0 m pc ls (.int (iI 0) :: .ref out :: rest)) := by
  have h1 : va_P D vwCl [oc out cL f] H := vaP_mems hP (fun q hq => List.mem_append_left _ (List.mem_append_right _ hq))
  refine va_lald hx hb hK h1 0 2 rfl rfl (iI_in (n := 1) (by omega) (by omega)) hdg ?_
  have e : (iI 0).toNatClampNeg = 0 := rfl
  rw [e]
  exact kk
theorem q_lcmp0 (hx : p.tables.exec = Jvm.exec) (hb : c.code = cc) {x y : Int64} (hxy : x = y) (hdg : decode cc pc = .ok (.lcmp, 1)) (kk : W p l e R s m args below meth c H locs cells slots Q (F0 m (pc + 1) ls (.int (iI 0) :: rest))) : W p l e R s m args below meth c H locs cells slots Q (F0 m pc ls (.long y :: .long x :: rest)) := by
  refine W.lcmp hx hb hdg ?_
  subst hxy
  rw [show lg_cmp x x = iI 0 by simp [lg_cmp]; rfl]
  exact kk
end QL
