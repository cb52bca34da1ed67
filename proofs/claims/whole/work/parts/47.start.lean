/-! ===== the law, from its entry ===== -/
theorem q_newl {p : Program} {l : Launch} {e : Env} {R : Room} {s : State} {m : MethodId} {args : Array Value} {below : List Frame} {meth : Method} {c : Code} {H : Heap} {locs : List Loc} {cells slots : Nat} {Q : State → Prop} {cc : ByteArray} {pc : Nat} {ls : Array Slot} {rest : List Value} {A0 : Nat → Prop} {H0 : Heap} {D : va_G} {tys : List (ClassId × FieldType)} (hx : p.tables.exec = Jvm.exec) (hb : c.code = cc) (harr : (Cond.arrayClass (newarray.typeOf .long)).before args s = true) {cL : ClassId} {ws : va_W} (hK : va_K D vwCl tys s) (t0 : Nat) (ht : tys[t0]? = some (cL, .long)) (hP : va_P D vwCl ws H) (hD : va_D A0 ws) (hS : va_S A0 H0 H locs) (hA : ∀ q, H0.size ≤ q → A0 q) {z : Int} (N : Nat) (hz : z = (N : Int)) (hN : N ≤ 1000) (hcells : cells + 1 ≤ R.cells) (hslots : slots + N ≤ R.slots) (hdg : decode cc pc = .ok (.newarray .long, 2))
    (kk : ∀ (q : Nat) (H : Heap), va_P D vwCl ((q, .inl (cL, N, .inr (.inl (fun _ => 0)))) :: ws) H → va_D A0 ((q, .inl (cL, N, .inr (.inl (fun _ => 0)))) :: ws) → va_S A0 H0 H locs → W p l e R s m args below meth c H locs (cells + 1) (slots + N) Q (F0 m (pc + 2) ls (.ref q :: rest))) : W p l e R s m args below meth c H locs cells slots Q (F0 m pc ls (.int (iI z) :: rest)) := by
  refine va_newa hx hb harr rfl hK hP hD hS hA (N' := N) (a0 := (N, .inr (.inl (fun _ => 0)))) (fun cA => ?_) ?_ ?_ ?_ hcells hslots hdg (fun q cA H1 hK1 hP1 hD1 hS1 => ?_)
  · rw [vp_cell_l]
    rfl
  · rw [iI_zero, iI_lt (by omega) (by omega)]
    omega
  · rw [iI_cl (by omega)]
    omega
  · show N * 8 ≤ _
    omega
  · have e1 := (hK1.2 tys.length (cA, .long) (by rw [List.getElem?_append_right (Nat.le_refl _), Nat.sub_self]; rfl)).2
    have e2 := (hK.2 t0 _ ht).2
    have e3 : some cA = some cL := e1.symm.trans e2
    cases Option.some.inj e3
    obtain ⟨h1, h2⟩ := va_lst hP1 hD1
    exact kk q H1 h1 h2 hS1
theorem WC_nil {cI cO : ClassId} {g : Nat → Nat} : WC cI cO g σN (fun _ => 0) (fun _ => 0) = [(g 0, .inr (7, [.ref (g 1), .ref (g 2), .ref (g 3), .ref (g 4), .ref (g 5), .int (iI (0)), .int (iI (0))])), (g 1, .inr (6, [.int (iI (4)), .int (iI (1))])), (g 2, .inr (3, [.int (iI (29531)), .int (iI (0))])), (g 3, .inr (4, [.int (iI (173310)), .int (iI (0))])), (g 4, .inr (1, [.int (iI (0)), .ref (g 6), .int (iI (0))])), (g 5, .inr (1, [.int (iI (0)), .ref (g 7), .int (iI (0))]))] := rfl
theorem WM_nil {cI : ClassId} {a ta pa : Nat} : WMo cI a ta pa 0 σN (fun _ => 0) (fun _ => 0) = [(a, .inr (8, [.int (iI (0)), .int (iI (4)), .int (iI (1)), .int (iI (29531)), .int (iI (0)), .int (iI (173310)), .int (iI (0)), .int (iI (0)), .ref ta, .int (iI (0)), .ref pa, .int (iI (0)), .int (iI (0))])), (ta, .inl (cI, 40, .inl (fun _ => iI 0))), (pa, .inl (cI, 110, .inl (fun _ => iI 0)))] := rfl
/-! THE CLAIM OUT OF ONE WALK OF THE LAW'S BODY. Your part is whole_start (and what it stands on); all else here is the same for every law, but numbers. -/
def R_law : String := "AlmanacHouseLaw"
def lw_P (b : Addr) (xs : List Int32) (args : Array Value) (s : State) : Prop := args = #[.ref b] ∧ s.IntsAt b xs ∧ xs.length ≤ 3072 ∧ (Jvm.Cond.and given_1 narrow_1).before args s = true
/-- what a walk over the start with the record d0 says of its end, said of the start itself -/
theorem lw_closed {s t : State} {o : Outcome} {d0 : Drawn} {L : List Loc} {k n : Nat} (hd0 : s.drawn.sameBut d0 lw_cs) (hv : ∃ v, o = .returned v) (hW : (s.setDrawn d0).WarmedH t.vm) (hs : (s.setDrawn d0).sameButNew ({ t with vm := s.vm } : State) L k n) : State.butDraws s t lw_cs (fun t1 => Framed s o t1 L k n) := by
  have h2 : t.drawn = d0 := congrArg State.drawn hs.1
  refine ⟨⟨hv, hW, State.sameButNew.setDrawn hs s.drawn⟩, ?_, by decide⟩
  rw [h2]
  exact hd0
def lw_Q (_ : Array Value) (s : State) (o : Outcome) (t : State) : Prop := o = .returned (some (.int 1)) ∧ State.butDraws s t lw_cs (fun t1 => Framed s o t1 [] 799787 6696742)
def lw_Z (below : List Frame) (a : Array Value) (s : State) : State → Prop := fun t => ∃ o, t.status = .running ∧ Ended t below o ∧ lw_Q a s o t
/-- the law's own end, with 1 on the stack, nothing written that was there before, its room as the claim has it; d0: the record of draws at this point (at the entry s.drawn: begin with 'refine W.base ?_' and 'have hd0 := Drawn.sameBut.refl s.drawn lw_cs') -/
theorem lw_ret {p : Program} {l : Launch} {e : Env} {s : State} {m : MethodId} {below : List Frame} {meth : Method} {c : Code} {b : Nat} {d0 : Drawn} (hd0 : s.drawn.sameBut d0 lw_cs) (hx : p.tables.exec = Jvm.exec) (hb : c.code = code) (hr : meth.sig.returnType = ret) (hlocks : meth.locks = false) {pc : Nat} {H : Heap} {ls : Array Slot} (hdg : decode code pc = .ok (.ireturn, 1)) : W p l e room_1 (s.setDrawn d0) m #[Value.ref b] below meth c H [] 799787 6696742 (lw_Z below #[Value.ref b] s) (F0 m pc ls [.int 1]) := by
  intro T hT X
  obtain ⟨fs, hret, hrun, hended, hW, hframe⟩ := X.leave (v := some (.int 1)) (hlocks := hlocks) (fun h => by rw [hr] at h; cases h)
  have hmeth' : T.vm.method? m = some meth := X.method'
  refine ⟨T.setFrames fs, ?_, .returned (some (.int 1)), hrun, hended, rfl, lw_closed hd0 ⟨_, rfl⟩ hW hframe⟩
  jvm_step X.here [X.here.top, hx, hb, hdg, hmeth', hr, ret, narrow_b1]
  (try refine ⟨rfl, ?_⟩); (try refine ⟨rfl, ?_⟩)
  first | (intro acts; rw [hret _ acts rfl rfl rfl]) | rw [hret _ _ rfl rfl rfl]
  exact Steps.refl _
/-- what holds at the law's entry: the machine, the code, the tables' words (any of lw_tbl by 'hts w (by decide +kernel)'), the script of L ints xs at the cell b, what the Statement gives of the start (any of its parts by flat_of_before) -/
def lw_At (p : Program) (s : State) (m : MethodId) (meth : Method) (c : Code) (b L : Nat) (xs : Nat → Int32) : Prop :=
  p.tables.exec = Jvm.exec ∧ c.code = code ∧ meth.sig.returnType = ret ∧ c.maxLocals = 9 ∧ s.vm.findClass R_law = some m.cls ∧ (∀ w ∈ lw_tbl, w.before #[Value.ref b] s = true) ∧ va_X b L xs s s.heap ∧ b < s.heap.size ∧ meth.locks = false ∧ (Jvm.Cond.and given_1 narrow_1).before #[Value.ref b] s = true
set_option maxHeartbeats 4000000 in
set_option maxRecDepth 100000 in
theorem whole_start {p : Program} {e : Env} {s : State} {m : MethodId} {below : List Frame} {meth : Method} {c : Code} (l : Launch) (hflags : l.flags = flags0) {b L : Nat} {xs : Nat → Int32} (hL : L ≤ 3072) (C0 : lw_At p s m meth c b L xs) : W p l e room_1 s m #[Value.ref b] below meth c s.heap [] 0 0 (lw_Z below #[Value.ref b] s) (entryFrame m ([Value.ref b] : List Value).toArray 9) := by
  obtain ⟨hx, hb, hr, hml, hown, hts, hX, hbl, hlocks, hgv⟩ := C0
  have hst0 : l.stackTraces = false := by unfold Launch.stackTraces; rw [hflags]; decide
  have ht : ∀ w ∈ tables_1, w.before #[Value.ref b] s = true := fun w h => hts w (tb h)
  have hn : ∀ w ∈ flatC narrow_1, w.before #[Value.ref b] s = true := by
    rw [Cond.before_and, Bool.and_eq_true] at hgv
    exact flat_of_before narrow_1 hgv.2
  have hl5 : ∀ w ∈ wsL_law, w.before #[Value.ref b] s = true := fun w h => hts w (wsL_law_in w h)
  obtain ⟨ed, hE⟩ := st_EZ ht hn
  have hT := st_ET ht hn
  have hN := st_EN hn
  obtain ⟨D, cI, cO, cL, cB, hK⟩ := st_K hts
  have hK3 : va_K D vwCl (ty3 cI cO cL) s := hK.sub [0, 1, 2] rfl
  have hown : s.vm.findClass RL = some m.cls := hown
  have hA : ∀ q : Nat, s.heap.size ≤ q → (fun q : Nat => s.heap.size ≤ q) q := fun _ h => h
  have hbA : ¬ (fun q : Nat => s.heap.size ≤ q) b := Nat.not_le.mpr hbl
  have hS : va_S (fun q : Nat => s.heap.size ≤ q) s.heap s.heap [] := va_S.rf
  have hP : va_P D vwCl [] s.heap := fun k q h => by simp at h
  have hD : va_D (fun q : Nat => s.heap.size ≤ q) [] := ⟨fun i j p q h => by simp at h, fun k q h => by simp at h⟩
  have hl := lv_entry ([.ref b]) (n := 9) (Nat.le_of_ble_eq_true rfl)
  rw [lg_entry_eq]
  generalize (lg_sl ([.ref b]) ++ List.replicate (9 - (lg_sl ([.ref b])).length) Slot.unset).toArray = ls at hl ⊢
  have hl : lv_has ls 9 [(0, .ref b)] := hl
  refine q_newo (T := TX5) (N := 7) (ci := 7) (fs := [.null, .null, .null, .null, .null, .int (iI (0)), .int (iI (0))]) hx hb hts wi_X5 tyX5 tyX5_ok hown (ht _ tw_k8) (ht _ tw_iX5) (ht _ tw_nX5) hK hP hD hS hA rfl (by decide +kernel) (Nat.le_of_ble_eq_true rfl) (Nat.le_of_ble_eq_true rfl) dL_law_0 ?_
  intro h0 H hP hD hS
  refine lv_dup hx hb dL_law_3 rfl ?_
  refine q_callGc (fr := 4) (lo := 80) (nL := 9) (wc := [(h0, .inr (7, [.null, .null, .null, .null, .null, .int (iI (0)), .int (iI (0))]))]) (wr := []) (As := []) (rest := [.ref h0]) ⟨hx, hb, hml, hown, hl5⟩ (g_houseInit l D _ ed cI cO cL h0) (cwI 0 hl5 gL_law_X5_init rfl rfl rfl (ht _ tw_nX5) (ht _ tw_m84) (ht _ tw_mi5) rfl (by decide +kernel) ⟨Nat.le_of_ble_eq_true rfl, Nat.le_of_ble_eq_true rfl⟩) hP hD hS hA hK3 hE hT rfl hl.1 rfl (Nat.le_of_ble_eq_true rfl) dL_law_4 (Nat.le_of_ble_eq_true rfl) (Nat.le_of_ble_eq_true rfl) ?_
  intro u H locs hP hD hS
  have hP : va_P D vwCl ([(u.2.2.2.2, .inr (1, [.int (iI (0)), .ref ed.1, .int (iI (0))])), (u.2.2.2.1, .inr (1, [.int (iI (0)), .ref ed.1, .int (iI (0))])), (u.2.2.1, .inr (4, [.int (iI (173310)), .int (iI (0))])), (u.2.1, .inr (3, [.int (iI (29531)), .int (iI (0))])), (u.1, .inr (6, [.int (iI (4)), .int (iI (1))])), (h0, .inr (7, [.ref u.1, .ref u.2.1, .ref u.2.2.1, .ref u.2.2.2.1, .ref u.2.2.2.2, .int (iI (0)), .int (iI (0))]))]) H := hP
  have hD : va_D (fun q : Nat => s.heap.size ≤ q) ([(u.2.2.2.2, .inr (1, [.int (iI (0)), .ref ed.1, .int (iI (0))])), (u.2.2.2.1, .inr (1, [.int (iI (0)), .ref ed.1, .int (iI (0))])), (u.2.2.1, .inr (4, [.int (iI (173310)), .int (iI (0))])), (u.2.1, .inr (3, [.int (iI (29531)), .int (iI (0))])), (u.1, .inr (6, [.int (iI (4)), .int (iI (1))])), (h0, .inr (7, [.ref u.1, .ref u.2.1, .ref u.2.2.1, .ref u.2.2.2.1, .ref u.2.2.2.2, .int (iI (0)), .int (iI (0))]))]) := hD
  refine lv_astore_n (lv' := [(1, .ref h0), (0, .ref b)]) hx hb dL_law_7 rfl hl (by decide) rfl (fun ls hl => ?_)
  refine q_newo (T := TX6) (N := 13) (ci := 8) (fs := [.int (iI (0)), .int (iI (0)), .int (iI (0)), .int (iI (0)), .int (iI (0)), .int (iI (0)), .int (iI (0)), .int (iI (0)), .null, .int (iI (0)), .null, .int (iI (0)), .int (iI (0))]) hx hb hts wi_X6 tyX6 tyX6_ok hown (ht _ tw_k85) (ht _ tw_iX6) (ht _ tw_nX6) hK hP hD hS hA rfl (by decide +kernel) (Nat.le_of_ble_eq_true rfl) (Nat.le_of_ble_eq_true rfl) dL_law_8 ?_
  intro m0 H hP hD hS
  refine lv_dup hx hb dL_law_11 rfl ?_
  refine q_callGc (fr := 1) (lo := 20) (nL := 9) (wc := [(m0, .inr (8, [.int (iI (0)), .int (iI (0)), .int (iI (0)), .int (iI (0)), .int (iI (0)), .int (iI (0)), .int (iI (0)), .int (iI (0)), .null, .int (iI (0)), .null, .int (iI (0)), .int (iI (0))]))]) (wr := [(u.2.2.2.2, .inr (1, [.int (iI (0)), .ref ed.1, .int (iI (0))])), (u.2.2.2.1, .inr (1, [.int (iI (0)), .ref ed.1, .int (iI (0))])), (u.2.2.1, .inr (4, [.int (iI (173310)), .int (iI (0))])), (u.2.1, .inr (3, [.int (iI (29531)), .int (iI (0))])), (u.1, .inr (6, [.int (iI (4)), .int (iI (1))])), (h0, .inr (7, [.ref u.1, .ref u.2.1, .ref u.2.2.1, .ref u.2.2.2.1, .ref u.2.2.2.2, .int (iI (0)), .int (iI (0))]))]) (As := []) (rest := [.ref m0]) ⟨hx, hb, hml, hown, hl5⟩ (g_modelInit l D _ ed cI cO cL m0) (cwI 0 hl5 gL_law_X6_init rfl rfl rfl (ht _ tw_nX6) (ht _ tw_m87) (ht _ tw_mi6) rfl (by decide +kernel) ⟨Nat.le_of_ble_eq_true rfl, Nat.le_of_ble_eq_true rfl⟩) hP hD hS hA hK3 hE hT rfl hl.1 rfl (Nat.le_of_ble_eq_true rfl) dL_law_12 (Nat.le_of_ble_eq_true rfl) (Nat.le_of_ble_eq_true rfl) ?_
  intro w H locs hP hD hS
  have hP : va_P D vwCl ([(w.2, .inl (cI, 110, .inl (fun _ => iI 0))), (w.1, .inl (cI, 40, .inl (fun _ => iI 0))), (m0, .inr (8, [.int (iI (0)), .int (iI (4)), .int (iI (1)), .int (iI (29531)), .int (iI (0)), .int (iI (173310)), .int (iI (0)), .int (iI (0)), .ref w.1, .int (iI (0)), .ref w.2, .int (iI (0)), .int (iI (0))]))] ++ [(u.2.2.2.2, .inr (1, [.int (iI (0)), .ref ed.1, .int (iI (0))])), (u.2.2.2.1, .inr (1, [.int (iI (0)), .ref ed.1, .int (iI (0))])), (u.2.2.1, .inr (4, [.int (iI (173310)), .int (iI (0))])), (u.2.1, .inr (3, [.int (iI (29531)), .int (iI (0))])), (u.1, .inr (6, [.int (iI (4)), .int (iI (1))])), (h0, .inr (7, [.ref u.1, .ref u.2.1, .ref u.2.2.1, .ref u.2.2.2.1, .ref u.2.2.2.2, .int (iI (0)), .int (iI (0))]))]) H := hP
  have hD : va_D (fun q : Nat => s.heap.size ≤ q) ([(w.2, .inl (cI, 110, .inl (fun _ => iI 0))), (w.1, .inl (cI, 40, .inl (fun _ => iI 0))), (m0, .inr (8, [.int (iI (0)), .int (iI (4)), .int (iI (1)), .int (iI (29531)), .int (iI (0)), .int (iI (173310)), .int (iI (0)), .int (iI (0)), .ref w.1, .int (iI (0)), .ref w.2, .int (iI (0)), .int (iI (0))]))] ++ [(u.2.2.2.2, .inr (1, [.int (iI (0)), .ref ed.1, .int (iI (0))])), (u.2.2.2.1, .inr (1, [.int (iI (0)), .ref ed.1, .int (iI (0))])), (u.2.2.1, .inr (4, [.int (iI (173310)), .int (iI (0))])), (u.2.1, .inr (3, [.int (iI (29531)), .int (iI (0))])), (u.1, .inr (6, [.int (iI (4)), .int (iI (1))])), (h0, .inr (7, [.ref u.1, .ref u.2.1, .ref u.2.2.1, .ref u.2.2.2.1, .ref u.2.2.2.2, .int (iI (0)), .int (iI (0))]))]) := hD
  refine lv_astore_n (lv' := [(2, .ref m0), (1, .ref h0), (0, .ref b)]) hx hb dL_law_15 rfl hl (by decide) rfl (fun ls hl => ?_)
  refine q_iconst hx hb dL_law_16 ?_
  refine q_newl hx hb (ht _ tw_along) hK3 2 rfl hP hD hS hA 1 rfl (by decide) (Nat.le_of_ble_eq_true rfl) (Nat.le_of_ble_eq_true rfl) dL_law_17 ?_
  intro out H hP hD hS
  refine lv_astore_n (lv' := [(3, .ref out), (2, .ref m0), (1, .ref h0), (0, .ref b)]) hx hb dL_law_19 rfl hl (by decide) rfl (fun ls hl => ?_)
  refine q_iconst hx hb dL_law_20 ?_
  refine lv_istore (lv' := [(4, .int (iI 0)), (3, .ref out), (2, .ref m0), (1, .ref h0), (0, .ref b)]) hx hb dL_law_21 hl (by decide) rfl (fun ls hl => ?_)
  obtain ⟨hP, hD⟩ := va_reo (tl := []) (ex := [(out, .inl (cL, 1, .inr (.inl (fun _ => 0)))), (w.2, .inl (cI, 110, .inl (fun _ => iI 0))), (w.1, .inl (cI, 40, .inl (fun _ => iI 0))), (m0, .inr (8, [.int (iI (0)), .int (iI (4)), .int (iI (1)), .int (iI (29531)), .int (iI (0)), .int (iI (173310)), .int (iI (0)), .int (iI (0)), .ref w.1, .int (iI (0)), .ref w.2, .int (iI (0)), .int (iI (0))])), (u.2.2.2.2, .inr (1, [.int (iI (0)), .ref ed.1, .int (iI (0))])), (u.2.2.2.1, .inr (1, [.int (iI (0)), .ref ed.1, .int (iI (0))])), (u.2.2.1, .inr (4, [.int (iI (173310)), .int (iI (0))])), (u.2.1, .inr (3, [.int (iI (29531)), .int (iI (0))])), (u.1, .inr (6, [.int (iI (4)), .int (iI (1))])), (h0, .inr (7, [.ref u.1, .ref u.2.1, .ref u.2.2.1, .ref u.2.2.2.1, .ref u.2.2.2.2, .int (iI (0)), .int (iI (0))]))]) (ex' := [(h0, .inr (7, [.ref u.1, .ref u.2.1, .ref u.2.2.1, .ref u.2.2.2.1, .ref u.2.2.2.2, .int (iI (0)), .int (iI (0))])), (u.1, .inr (6, [.int (iI (4)), .int (iI (1))])), (u.2.1, .inr (3, [.int (iI (29531)), .int (iI (0))])), (u.2.2.1, .inr (4, [.int (iI (173310)), .int (iI (0))])), (u.2.2.2.1, .inr (1, [.int (iI (0)), .ref ed.1, .int (iI (0))])), (u.2.2.2.2, .inr (1, [.int (iI (0)), .ref ed.1, .int (iI (0))])), (out, .inl (cL, 1, .inr (.inl (fun _ => 0)))), (m0, .inr (8, [.int (iI (0)), .int (iI (4)), .int (iI (1)), .int (iI (29531)), .int (iI (0)), .int (iI (173310)), .int (iI (0)), .int (iI (0)), .ref w.1, .int (iI (0)), .ref w.2, .int (iI (0)), .int (iI (0))])), (w.1, .inl (cI, 40, .inl (fun _ => iI 0))), (w.2, .inl (cI, 110, .inl (fun _ => iI 0)))]) [9, 8, 7, 6, 5, 4, 0, 3, 2, 1] rfl 10 rfl (by decide) hP hD
  have hI : IV D cI cO cL (fun q : Nat => s.heap.size ≤ q) ed out h0 m0 w.1 w.2 H := by
    refine ⟨fun k => if k = 0 then h0 else if k = 1 then u.1 else if k = 2 then u.2.1 else if k = 3 then u.2.2.1 else if k = 4 then u.2.2.2.1 else if k = 5 then u.2.2.2.2 else ed.1, σN, fun _ => 0, fun _ => 0, fun _ => 0, 0, LW_new, rfl, fun _ => rfl, fun _ => rfl, ?_, ?_⟩
    · rw [WC_nil, WM_nil]; exact hP
    · rw [WC_nil, WM_nil]; exact hD
  refine law_loop (Q := lw_Z below #[Value.ref b] s) (⟨hst0, hx, hb, hml, hown, hl5, hX, hbl, hbA, hL, hA, hK, hE, hT, hN⟩ : LC p l s m #[Value.ref b] c (fun q : Nat => s.heap.size ≤ q) D cI cO cL cB ed b L xs) (fun H locs ls cells slots hc hs hS => ?_) (L + 7) 0 H _ ls _ _ (by omega) (by omega) ?_ ?_ hI hS (lv_sub hl [0, 4, 3, 2, 1] rfl)
  · refine lv_iconst (v := 1) hx hb dL_law_1644 (by decide) ?_
    refine va_forget (fun q hq => hS.2.2 q hq) ?_
    refine W.widen (k := 799787) (n := 6696742) hc hs ?_
    exact W.base (lw_ret (Drawn.sameBut.refl _ _) hx hb hr hlocks dL_law_1645)
  · have e1 : room_1.cells = 799787 := rfl
    omega
  · have e1 : room_1.slots = 6696742 := rfl
    omega
