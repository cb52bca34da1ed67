/-! ===== the law: what its rounds stand on ===== -/
def LC (p : Program) (l : Launch) (s : State) (m : MethodId) (args : Array Value) (c : Code) (A0 : Nat → Prop) (D : va_G) (cI cO cL cB : ClassId) (ed : Nat × Nat × Nat) (b L : Nat) (xs : Nat → Int32) : Prop := l.stackTraces = false ∧ p.tables.exec = Jvm.exec ∧ c.code = cL_law ∧ c.maxLocals = 9 ∧ s.vm.findClass RL = some m.cls ∧ (∀ w ∈ wsL_law, w.before args s = true) ∧ va_X b L xs s s.heap ∧ b < s.heap.size ∧ ¬ A0 b ∧ L ≤ 3072 ∧ (∀ q : Nat, s.heap.size ≤ q → A0 q) ∧ va_K D vwCl (ty4 cI cO cL cB) s ∧ EZ ed A0 s s.heap ∧ ET s ∧ EN s
theorem ford_self (d : FP.Core.Datum) : FP.Core.order d d = some .eq ∨ FP.Core.order d d = none := by
  have hc : ∀ x : Int, compare x x = Ordering.eq := fun x => by simp [compare, compareOfLessAndEq]
  cases d with
  | nan => exact Or.inr rfl
  | inf s => exact Or.inl (congrArg some (hc _))
  | fin s c q => exact Or.inl (congrArg some (hc _))
theorem fcmp_self (x : UInt64) : FP.dcmp x x = some .eq ∨ FP.dcmp x x = none := ford_self (FP.Core.decode FP.Core.b64 x.toNat)
section QLL
variable {p : Program} {l : Launch} {e : Env} {R : Room} {s : State} {m : MethodId} {args : Array Value} {below : List Frame} {meth : Method} {c : Code} {H : Heap} {locs : List Loc} {cells slots : Nat} {Q : State → Prop} {cc : ByteArray} {pc : Nat} {ls : Array Slot} {rest st0 : List Value} {A0 : Nat → Prop} {mc ms : Nat}
variable {D : va_G} {cI cO cL : ClassId} {g : Nat → Nat} {σ T P : Nat → Int} {fr lo : Nat} {y : MethodName} {bytes : ByteArray} {maxL nL n index : Nat} {ret : Option FieldType} {ws : List Cond} {Ts : List Cond} {own : String} {As : List Value} {wr wc : va_W} {tys : List (ClassId × FieldType)} {a ta pa : Nat} {th : Int}
theorem mo_rec (hP : va_P D vwCl (wr ++ WMo cI a ta pa th σ T P) H) (hK : va_K D vwCl tys s) : ∃ cell : Cell, H[a]? = some cell ∧ cell.vm.isStatics = false ∧ s.vm.findClass RX6 = some cell.cls :=
  ob_recv (ci := 8) ((vaP_mems (ws' := WMo cI a ta pa th σ T P) hP (fun q hq => List.mem_append_right _ hq)) 0 _ rfl) hK rfl
theorem ho_rec (hP : va_P D vwCl (WC cI cO g σ T P ++ wr) H) (hK : va_K D vwCl tys s) : ∃ cell : Cell, H[g 0]? = some cell ∧ cell.vm.isStatics = false ∧ s.vm.findClass RX5 = some cell.cls :=
  ob_recv (ci := 7) ((vaP_mems (ws' := WC cI cO g σ T P) hP (fun q hq => List.mem_append_left _ hq)) 0 _ rfl) hK rfl
theorem q_callVd {Pic : Heap → Prop} {v : UInt64} {C : String} {b : Addr} (S : CallFix p m c cc nL s args Ts own) (hM : MD l y ws fr lo D tys Pic (.ref b :: As) v) (cw : CallW R s args own C index y bytes maxL ret ws { frames := fr, cells := 0, slots := 0, locals := lo } 0 0 n) (hrec : ∃ cell : Cell, H[b]? = some cell ∧ cell.vm.isStatics = false ∧ s.vm.findClass C = some cell.cls) (hPic : Pic H) (hK : va_K D vwCl tys s)
    (hn : As.length = n) (hsize : ls.size = nL) (hst : st0 = As.reverse ++ .ref b :: rest) (hroom : (rest.map fun v => v.category).sum ≤ 8) (hdg : decode cc pc = .ok (.invokevirtual index, 3)) (hc : cells ≤ R.cells) (hs : slots ≤ R.slots)
    (kk : W p l e R s m args below meth c H locs cells slots Q (F0 m (pc + 3) ls (.double v :: rest))) : W p l e R s m args below meth c H locs cells slots Q (F0 m pc ls st0) :=
  vp_callSd (W.runV S hM cw ⟨pcP_blind, hrec, pcP_at hPic hK⟩ rfl hn hsize hst (lv_room hroom) hdg ⟨hc, hs⟩) (fun r hr => by rw [hr]; exact kk)
theorem q_lawUl {v : Int64} {w1 : va_W} {C : String} {b : Addr} (S : CallFix p m c cc nL s args Ts own) (hM : MUl l y ws fr lo mc ms D tys H.size wc (.ref b :: As) v w1) (cw : CallW R s args own C index y bytes maxL ret ws { frames := fr, cells := mc, slots := ms, locals := lo } mc ms n) (hrec : ∃ cell : Cell, H[b]? = some cell ∧ cell.vm.isStatics = false ∧ s.vm.findClass C = some cell.cls) (hw1 : w1.map (·.1) = wc.map (·.1)) (hP : va_P D vwCl (wr ++ wc) H) (hD : va_D A0 (wr ++ wc)) (hS : va_S A0 s.heap H locs) (hA : ∀ q : Nat, s.heap.size ≤ q → A0 q) (hK : va_K D vwCl tys s)
    (hn : As.length = n) (hsize : ls.size = nL) (hst : st0 = As.reverse ++ .ref b :: rest) (hroom : (rest.map fun v => v.category).sum ≤ 8) (hdg : decode cc pc = .ok (.invokevirtual index, 3)) (hc : cells + mc ≤ R.cells) (hs : slots + ms ≤ R.slots)
    (kk : ∀ (H : Heap) (locs : List Loc), va_P D vwCl (wr ++ w1) H → va_D A0 (wr ++ w1) → va_S A0 s.heap H locs → W p l e R s m args below meth c H locs (cells + mc) (slots + ms) Q (F0 m (pc + 3) ls (.long v :: rest))) : W p l e R s m args below meth c H locs cells slots Q (F0 m pc ls st0) := by
  obtain ⟨hP2, hD2⟩ := va_swap hP hD
  exact va_calll (va_runV S hM cw ⟨pcW_blind, hrec, fun U hU hW => ⟨rfl, by rw [hU], by rw [hU]; exact vaP_mems hP2 (fun q hq => List.mem_append_left _ hq), va_K.moved hW.alike hK, vaD_left hD2⟩⟩ rfl hn hsize hst (lv_room hroom) hdg ⟨hc, hs⟩) hS (fun q _ h => va_frP hD2 hS hA q h) (va_frP hD2 hS hA)
    (fun r u t H1 locs1 ht _ hp hB _ hk1 hS1 => by
      rw [ht] at hB
      obtain ⟨h3, h4⟩ := va_pre hP2 hD2 hk1 (va_frP hD2 hS hA) hB (vaD_addr (vaD_self' hD2) hw1)
      obtain ⟨h5, h6⟩ := va_swap h3 h4
      rw [show r = v from hp]
      exact kk H1 locs1 h5 h6 hS1)
theorem q_lawUd {v : UInt64} {w1 : va_W} {C : String} {b : Addr} (S : CallFix p m c cc nL s args Ts own) (hM : MUd l y ws fr lo mc ms D tys H.size wc (.ref b :: As) v w1) (cw : CallW R s args own C index y bytes maxL ret ws { frames := fr, cells := mc, slots := ms, locals := lo } mc ms n) (hrec : ∃ cell : Cell, H[b]? = some cell ∧ cell.vm.isStatics = false ∧ s.vm.findClass C = some cell.cls) (hw1 : w1.map (·.1) = wc.map (·.1)) (hP : va_P D vwCl (wr ++ wc) H) (hD : va_D A0 (wr ++ wc)) (hS : va_S A0 s.heap H locs) (hA : ∀ q : Nat, s.heap.size ≤ q → A0 q) (hK : va_K D vwCl tys s)
    (hn : As.length = n) (hsize : ls.size = nL) (hst : st0 = As.reverse ++ .ref b :: rest) (hroom : (rest.map fun v => v.category).sum ≤ 8) (hdg : decode cc pc = .ok (.invokevirtual index, 3)) (hc : cells + mc ≤ R.cells) (hs : slots + ms ≤ R.slots)
    (kk : ∀ (H : Heap) (locs : List Loc), va_P D vwCl (wr ++ w1) H → va_D A0 (wr ++ w1) → va_S A0 s.heap H locs → W p l e R s m args below meth c H locs (cells + mc) (slots + ms) Q (F0 m (pc + 3) ls (.double v :: rest))) : W p l e R s m args below meth c H locs cells slots Q (F0 m pc ls st0) := by
  obtain ⟨hP2, hD2⟩ := va_swap hP hD
  exact va_calld (va_runV S hM cw ⟨pcW_blind, hrec, fun U hU hW => ⟨rfl, by rw [hU], by rw [hU]; exact vaP_mems hP2 (fun q hq => List.mem_append_left _ hq), va_K.moved hW.alike hK, vaD_left hD2⟩⟩ rfl hn hsize hst (lv_room hroom) hdg ⟨hc, hs⟩) hS (fun q _ h => va_frP hD2 hS hA q h) (va_frP hD2 hS hA)
    (fun r u t H1 locs1 ht _ hp hB _ hk1 hS1 => by
      rw [ht] at hB
      obtain ⟨h3, h4⟩ := va_pre hP2 hD2 hk1 (va_frP hD2 hS hA) hB (vaD_addr (vaD_self' hD2) hw1)
      obtain ⟨h5, h6⟩ := va_swap h3 h4
      rw [show r = v from hp]
      exact kk H1 locs1 h5 h6 hS1)
end QLL
