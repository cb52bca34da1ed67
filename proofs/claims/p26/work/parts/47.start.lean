/-! ===== the law, from its entry ===== -/
theorem WC_nil {cI cO : ClassId} {g : Nat → Nat} : WC cI cO g σN (fun _ => 0) (fun _ => 0) = [(g 0, .inr (7, [.ref (g 1), .ref (g 2), .ref (g 3), .ref (g 4), .ref (g 5), .int (iI (0)), .int (iI (0))])), (g 1, .inr (6, [.int (iI (4)), .int (iI (1))])), (g 2, .inr (3, [.int (iI (29531)), .int (iI (0))])), (g 3, .inr (4, [.int (iI (173310)), .int (iI (0))])), (g 4, .inr (1, [.int (iI (0)), .ref (g 6), .int (iI (0))])), (g 5, .inr (1, [.int (iI (0)), .ref (g 7), .int (iI (0))]))] := rfl
/-! THE CLAIM OUT OF ONE WALK OF THE LAW'S BODY. Your part is whole_start (and what it stands on); all else here is the same for every law, but numbers. -/
def R_law : String := "AlmanacHouseLaw"
def lw_P (b : Addr) (xs : List Int32) (args : Array Value) (s : State) : Prop := args = #[.ref b] ∧ s.IntsAt b xs ∧ xs.length ≤ 260 ∧ (Jvm.Cond.and given_1 narrow_1).before args s = true
/-- what a walk over the start with the record d0 says of its end, said of the start itself -/
theorem lw_closed {s t : State} {o : Outcome} {d0 : Drawn} {L : List Loc} {k n : Nat} (hd0 : s.drawn.sameBut d0 lw_cs) (hv : ∃ v, o = .returned v) (hW : (s.setDrawn d0).WarmedH t.vm) (hs : (s.setDrawn d0).sameButNew ({ t with vm := s.vm } : State) L k n) : State.butDraws s t lw_cs (fun t1 => Framed s o t1 L k n) := by
  have h2 : t.drawn = d0 := congrArg State.drawn hs.1
  refine ⟨⟨hv, hW, State.sameButNew.setDrawn hs s.drawn⟩, ?_, by decide⟩
  rw [h2]
  exact hd0
def lw_Q (_ : Array Value) (s : State) (o : Outcome) (t : State) : Prop := o = .returned (some (.int 1)) ∧ State.butDraws s t lw_cs (fun t1 => Framed s o t1 [] 672368 7084594)
def lw_Z (below : List Frame) (a : Array Value) (s : State) : State → Prop := fun t => ∃ o, t.status = .running ∧ Ended t below o ∧ lw_Q a s o t
/-- the law's own end, with 1 on the stack, nothing written that was there before, its room as the claim has it; d0: the record of draws at this point (at the entry s.drawn: begin with 'refine W.base ?_' and 'have hd0 := Drawn.sameBut.refl s.drawn lw_cs') -/
theorem lw_ret {p : Program} {l : Launch} {e : Env} {s : State} {m : MethodId} {below : List Frame} {meth : Method} {c : Code} {b : Nat} {d0 : Drawn} (hd0 : s.drawn.sameBut d0 lw_cs) (hx : p.tables.exec = Jvm.exec) (hb : c.code = code) (hr : meth.sig.returnType = ret) (hlocks : meth.locks = false) {pc : Nat} {H : Heap} {ls : Array Slot} (hdg : decode code pc = .ok (.ireturn, 1)) : W p l e room_1 (s.setDrawn d0) m #[Value.ref b] below meth c H [] 672368 7084594 (lw_Z below #[Value.ref b] s) (F0 m pc ls [.int 1]) := by
  intro T hT X
  obtain ⟨fs, hret, hrun, hended, hW, hframe⟩ := X.leave (v := some (.int 1)) (hlocks := hlocks) (fun h => by rw [hr] at h; cases h)
  have hmeth' : T.vm.method? m = some meth := X.method'
  refine ⟨T.setFrames fs, ?_, .returned (some (.int 1)), hrun, hended, rfl, lw_closed hd0 ⟨_, rfl⟩ hW hframe⟩
  jvm_step X.here [X.here.top, hx, hb, hdg, hmeth', hr, ret, narrow_b1]
  (try refine ⟨rfl, ?_⟩); (try refine ⟨rfl, ?_⟩)
  first | (intro acts; rw [hret _ acts rfl rfl rfl]) | rw [hret _ _ rfl rfl rfl]
  exact Steps.refl _
/-- what holds at the law's entry: the machine, the code, the tables' words (any of lw_tbl by 'hts w (by decide +kernel)'), the script of L ints xs at the cell b, what the Statement gives of the start (any of its parts by flat_of_before) -/
def lw_At (p : Program) (s : State) (m : MethodId) (meth : Method) (c : Code) (b L : Nat) (xs : Nat → Int32) : Prop :=
  p.tables.exec = Jvm.exec ∧ c.code = code ∧ meth.sig.returnType = ret ∧ c.maxLocals = 18 ∧ s.vm.findClass R_law = some m.cls ∧ (∀ w ∈ lw_tbl, w.before #[Value.ref b] s = true) ∧ va_X b L xs s s.heap ∧ b < s.heap.size ∧ meth.locks = false ∧ (Jvm.Cond.and given_1 narrow_1).before #[Value.ref b] s = true
set_option maxHeartbeats 4000000 in
set_option maxRecDepth 100000 in
theorem whole_start {p : Program} {e : Env} {s : State} {m : MethodId} {below : List Frame} {meth : Method} {c : Code} (l : Launch) (hflags : l.flags = flags0) {b L : Nat} {xs : Nat → Int32} (hL : L ≤ 260) (C0 : lw_At p s m meth c b L xs) : W p l e room_1 s m #[Value.ref b] below meth c s.heap [] 0 0 (lw_Z below #[Value.ref b] s) (entryFrame m ([Value.ref b] : List Value).toArray 18) := by
  obtain ⟨hx, hb, hr, hml, hown, hts, hX, hbl, hlocks, hgv⟩ := C0
  have ht : ∀ w ∈ tables_1, w.before #[Value.ref b] s = true := fun w h => hts w (tb h)
  have hn : ∀ w ∈ flatC narrow_1, w.before #[Value.ref b] s = true := by
    rw [Cond.before_and, Bool.and_eq_true] at hgv
    exact flat_of_before narrow_1 hgv.2
  have hl5 : ∀ w ∈ wsL_law, w.before #[Value.ref b] s = true := fun w h => hts w (wsL_law_in w h)
  obtain ⟨t1, hE⟩ := st_EZ ht hn hX hbl hL
  obtain ⟨ed, hed⟩ : ∃ ed : Nat × Nat × Nat, ed = (t1, b, L) := ⟨_, rfl⟩
  rw [← hed] at hE
  have hb1 : ed.2.1 = b := by rw [hed]
  have hT := st_ET ht
  obtain ⟨D, cI, cO, cL, hK⟩ := st_K hts
  have hown : s.vm.findClass RL = some m.cls := hown
  have hA : ∀ q : Nat, s.heap.size ≤ q → (fun q : Nat => s.heap.size ≤ q) q := fun _ h => h
  have hS : va_S (fun q : Nat => s.heap.size ≤ q) s.heap s.heap [] := va_S.rf
  have hP : va_P D vwCl [] s.heap := fun k q h => by simp at h
  have hD : va_D (fun q : Nat => s.heap.size ≤ q) [] := ⟨fun i j p q h => by simp at h, fun k q h => by simp at h⟩
  have hl := lv_entry ([.ref b]) (n := 18) (Nat.le_of_ble_eq_true rfl)
  rw [lg_entry_eq]
  generalize (lg_sl ([.ref b]) ++ List.replicate (18 - (lg_sl ([.ref b])).length) Slot.unset).toArray = ls at hl ⊢
  have hl : lv_has ls 18 [(0, .ref b)] := hl
  have hl : lv_has ls 18 [(0, .ref ed.2.1)] := by rw [hb1]; exact hl
  refine q_newo (T := TX5) (N := 7) (ci := 7) (fs := [.null, .null, .null, .null, .null, .int (iI (0)), .int (iI (0))]) hx hb hts wi_X5 tyX5 tyX5_ok hown (ht _ tw_k30) (ht _ tw_iX5) (ht _ tw_nX5) hK hP hD hS hA rfl (by decide +kernel) (Nat.le_of_ble_eq_true rfl) (Nat.le_of_ble_eq_true rfl) dL_law_0 ?_
  intro h0 H hP hD hS
  refine lv_dup hx hb dL_law_3 rfl ?_
  refine q_callGc (fr := 4) (lo := 80) (nL := 18) (wc := [(h0, .inr (7, [.null, .null, .null, .null, .null, .int (iI (0)), .int (iI (0))]))]) (wr := []) (As := []) (rest := [.ref h0]) ⟨hx, hb, hml, hown, hl5⟩ (g_houseInit l D _ ed cI cO cL h0) (cwI 0 hl5 gL_law_X5_init rfl rfl rfl (ht _ tw_nX5) (ht _ tw_m104) (ht _ tw_mi5) rfl (by decide +kernel) ⟨Nat.le_of_ble_eq_true rfl, Nat.le_of_ble_eq_true rfl⟩) hP hD hS hA hK hE hT rfl hl.1 rfl (Nat.le_of_ble_eq_true rfl) dL_law_4 (Nat.le_of_ble_eq_true rfl) (Nat.le_of_ble_eq_true rfl) ?_
  intro u H locs hP hD hS
  have hP : va_P D vwCl ([(u.2.2.2.2, .inr (1, [.int (iI (0)), .ref ed.1, .int (iI (0))])), (u.2.2.2.1, .inr (1, [.int (iI (0)), .ref ed.1, .int (iI (0))])), (u.2.2.1, .inr (4, [.int (iI (173310)), .int (iI (0))])), (u.2.1, .inr (3, [.int (iI (29531)), .int (iI (0))])), (u.1, .inr (6, [.int (iI (4)), .int (iI (1))])), (h0, .inr (7, [.ref u.1, .ref u.2.1, .ref u.2.2.1, .ref u.2.2.2.1, .ref u.2.2.2.2, .int (iI (0)), .int (iI (0))]))] ++ []) H := hP
  have hD : va_D (fun q : Nat => s.heap.size ≤ q) ([(u.2.2.2.2, .inr (1, [.int (iI (0)), .ref ed.1, .int (iI (0))])), (u.2.2.2.1, .inr (1, [.int (iI (0)), .ref ed.1, .int (iI (0))])), (u.2.2.1, .inr (4, [.int (iI (173310)), .int (iI (0))])), (u.2.1, .inr (3, [.int (iI (29531)), .int (iI (0))])), (u.1, .inr (6, [.int (iI (4)), .int (iI (1))])), (h0, .inr (7, [.ref u.1, .ref u.2.1, .ref u.2.2.1, .ref u.2.2.2.1, .ref u.2.2.2.2, .int (iI (0)), .int (iI (0))]))] ++ []) := hD
  refine lv_astore_n (lv' := [(1, .ref h0), (0, .ref ed.2.1)]) hx hb dL_law_7 rfl hl (by decide) rfl (fun ls hl => ?_)
  obtain ⟨hP, hD⟩ := va_reo (tl := []) (ex := [(u.2.2.2.2, .inr (1, [.int (iI (0)), .ref ed.1, .int (iI (0))])), (u.2.2.2.1, .inr (1, [.int (iI (0)), .ref ed.1, .int (iI (0))])), (u.2.2.1, .inr (4, [.int (iI (173310)), .int (iI (0))])), (u.2.1, .inr (3, [.int (iI (29531)), .int (iI (0))])), (u.1, .inr (6, [.int (iI (4)), .int (iI (1))])), (h0, .inr (7, [.ref u.1, .ref u.2.1, .ref u.2.2.1, .ref u.2.2.2.1, .ref u.2.2.2.2, .int (iI (0)), .int (iI (0))]))]) (ex' := [(h0, .inr (7, [.ref u.1, .ref u.2.1, .ref u.2.2.1, .ref u.2.2.2.1, .ref u.2.2.2.2, .int (iI (0)), .int (iI (0))])), (u.1, .inr (6, [.int (iI (4)), .int (iI (1))])), (u.2.1, .inr (3, [.int (iI (29531)), .int (iI (0))])), (u.2.2.1, .inr (4, [.int (iI (173310)), .int (iI (0))])), (u.2.2.2.1, .inr (1, [.int (iI (0)), .ref ed.1, .int (iI (0))])), (u.2.2.2.2, .inr (1, [.int (iI (0)), .ref ed.1, .int (iI (0))]))]) [5, 4, 3, 2, 1, 0] rfl 6 rfl (by decide) hP hD
  obtain ⟨g, hg⟩ : ∃ g : Nat → Nat, g = (fun k => if k = 0 then h0 else if k = 1 then u.1 else if k = 2 then u.2.1 else if k = 3 then u.2.2.1 else if k = 4 then u.2.2.2.1 else if k = 5 then u.2.2.2.2 else ed.1) := ⟨_, rfl⟩
  have hg0 : g 0 = h0 := by rw [hg]; rfl
  have hP : va_P D vwCl (WC cI cO g σN (fun _ => 0) (fun _ => 0) ++ []) H := by rw [WC_nil, hg]; exact hP
  have hD : va_D (fun q : Nat => s.heap.size ≤ q) (WC cI cO g σN (fun _ => 0) (fun _ => 0) ++ []) := by rw [WC_nil, hg]; exact hD
  have he6 : σN 6 = 0 → g 6 = ed.1 := fun _ => by rw [hg]; rfl
  have he7 : σN 7 = 0 → g 7 = ed.1 := fun _ => by rw [hg]; rfl
  rw [← hg0] at hl
  refine lv_aload_n hx hb dL_law_8 rfl (lv_at hl 0 rfl) ?_
  refine lv_aload_n hx hb dL_law_9 rfl (lv_at hl 1 rfl) ?_
  refine q_callSk (fr := 2) (lo := 40) (nL := 18) (wc := WC cI cO g σN (fun _ => 0) (fun _ => 0)) (wr := []) (As := [.ref (g 0), .ref ed.2.1]) (rest := []) ⟨hx, hb, hml, hown, hl5⟩ (g_build l D _ ed cI cO cL g he6 he7) (va_cwS 2 hl5 gL_law_L_build rfl rfl rfl (by decide +kernel) ⟨Nat.le_of_ble_eq_true rfl, Nat.le_of_ble_eq_true rfl⟩) hP hD hS hA hK hE hT rfl hl.1 rfl (Nat.le_of_ble_eq_true rfl) dL_law_10 (Nat.le_of_ble_eq_true rfl) (Nat.le_of_ble_eq_true rfl) ?_
  intro v H locs hv hP hD hS
  obtain ⟨g2, z2, σ2, T2, P2⟩ := v
  obtain ⟨hL2, hg2, ⟨h6, h7⟩, q6, q7, q9, q10⟩ := hv
  have hL2 : LW σ2 T2 P2 := hL2
  have hg2 : g2 0 = g 0 := hg2
  have h6 : σ2 6 = 0 → g2 6 = ed.1 := h6
  have h7 : σ2 7 = 0 → g2 7 = ed.1 := h7
  have q9 : σ2 9 = 0 := q9
  have q10 : σ2 10 = 0 := q10
  have hP : va_P D vwCl (WC cI cO g2 σ2 T2 P2 ++ WZ cI cL z2 σ2 T2 P2) H := by
    have h9 : va_P D vwCl ((WC cI cO g2 σ2 T2 P2 ++ WZ cI cL z2 σ2 T2 P2) ++ []) H := hP
    rw [List.append_nil] at h9
    exact h9
  have hD : va_D (fun q : Nat => s.heap.size ≤ q) (WC cI cO g2 σ2 T2 P2 ++ WZ cI cL z2 σ2 T2 P2) := by
    have h9 : va_D (fun q : Nat => s.heap.size ≤ q) ((WC cI cO g2 σ2 T2 P2 ++ WZ cI cL z2 σ2 T2 P2) ++ []) := hD
    rw [List.append_nil] at h9
    exact h9
  rw [← hg2] at hl
  refine lv_astore_n (lv' := [(2, .ref (z2 0)), (1, .ref (g2 0)), (0, .ref ed.2.1)]) hx hb dL_law_13 rfl hl (by decide) rfl (fun ls hl => ?_)
  refine lv_aload_n hx hb dL_law_14 rfl (lv_at hl 0 rfl) ?_
  refine lv_ifnonnull (tgt := 20) hx hb dL_law_15 (by decide) ?_
  refine q_iconst hx hb dL_law_20 ?_
  refine lv_istore_n (lv' := [(3, .int (iI (0))), (2, .ref (z2 0)), (1, .ref (g2 0)), (0, .ref ed.2.1)]) hx hb dL_law_21 rfl hl (by decide) rfl (fun ls hl => ?_)
  have e1 : room_1.cells = 672368 := rfl
  have e2 : room_1.slots = 7084594 := rfl
  refine law_loop (Q := lw_Z below #[Value.ref b] s) (⟨hx, hb, hml, hown, hl5, hA, hK, hE, hT⟩ : LC p l s m #[Value.ref b] c (fun q : Nat => s.heap.size ≤ q) D cI cO cL ed) (fun g z σ T P H locs ls cells slots hLW hco hc hs hP hD hS hl => ?_) 25 0 g2 z2 σ2 T2 P2 H _ ls _ _ (by decide) (by omega) ?_ ?_ hL2 (by omega) h6 h7 hP hD hS (lv_sub hl [3, 2, 1, 0] rfl)
  · refine lv_aload_n hx hb dL_law_1039 rfl (lv_at hl 1 rfl) ?_
    refine lv_aload_n hx hb dL_law_1040 rfl (lv_at hl 0 rfl) ?_
    have hP2 : va_P D vwCl ((WC cI cO g σ T P ++ WZ cI cL z σ T P) ++ []) H := by rw [List.append_nil]; exact hP
    have hD2 : va_D (fun q : Nat => s.heap.size ≤ q) ((WC cI cO g σ T P ++ WZ cI cL z σ T P) ++ []) := by rw [List.append_nil]; exact hD
    refine q_callGi (fr := 7) (lo := 160) (nL := 18) (wc := (WC cI cO g σ T P ++ WZ cI cL z σ T P)) (wr := []) (As := [.ref (g 0)]) (rest := []) ⟨hx, hb, hml, hown, hl5⟩ (g_isSame l D _ ed cI cO cL z g σ T P hLW.1 hLW.2.1 (by omega) (by omega)) (cwV 1 hl5 gL_law_X6_isSame rfl rfl rfl (by decide +kernel) ⟨Nat.le_of_ble_eq_true rfl, Nat.le_of_ble_eq_true rfl⟩) (ob_recv (ci := 8) ((vaP_mems (ws' := WZ cI cL z σ T P) hP (fun q hq => List.mem_append_right _ hq)) 0 _ rfl) hK rfl) hP2 hD2 hS hA hK hE hT rfl hl.1 rfl (Nat.le_of_ble_eq_true rfl) dL_law_1041 (by omega) (by omega) ?_
    intro _ H locs hP hD hS
    rw [show iI (1) = 1 from by decide]
    refine va_forget (fun q hq => hS.2.2 q hq) ?_
    refine W.widen (k := 672368) (n := 7084594) (by omega) (by omega) ?_
    exact W.base (lw_ret (Drawn.sameBut.refl _ _) hx hb hr hlocks dL_law_1044)
  · show _ ≤ _
    have h24 : ((24 : Int) - 0).toNat = 24 := by decide
    rw [h24, e1]
    decide
  · show _ ≤ _
    have h24 : ((24 : Int) - 0).toNat = 24 := by decide
    rw [h24, e2]
    decide
