/-! ===== AlmanacHouse.mean ===== -/
def MD (l : Launch) (y : MethodName) (ws : List Cond) (fr lo : Nat) (D : va_G) (tys : List (ClassId × FieldType)) (Pic : Heap → Prop) (av : List Value) (v : UInt64) : Prop := Met l y ws { frames := fr, cells := 0, slots := 0, locals := lo } (pcP D tys Pic av) (vp_Sd (fun r => r = v)) 0 0 (fun _ => False)
section QD
variable {p : Program} {l : Launch} {e : Env} {R : Room} {s : State} {m : MethodId} {args : Array Value} {below : List Frame} {meth : Method} {c : Code} {cc : ByteArray} {pc : Nat} {ls : Array Slot}
theorem q_dret {v a : UInt64} (hx : p.tables.exec = Jvm.exec) (hb : c.code = cc) (hr : meth.sig.returnType = some .double) (hlocks : meth.locks = false) (hv : a = v) (hdg : decode cc pc = .ok (.dreturn, 1)) : W p l e R s m args below meth c s.heap [] 0 0 (MQ below (vp_Sd (fun r => r = v)) args s 0 0 (fun _ => False)) (F0 m pc ls [.double a]) :=
  W.dret hx hb hr (fun t ht _ => ⟨a, rfl, hv, ht⟩) (fun q hq => absurd hq List.not_mem_nil) hdg hlocks
end QD
theorem MD_of {l : Launch} {y : MethodName} {ws ws' : List Cond} {fr lo : Nat} {D : va_G} {tys : List (ClassId × FieldType)} {Pic : Heap → Prop} {av : List Value} {v : UInt64} {cc : ByteArray} {maxL : Nat} {ret : Option FieldType} (hy : plainName y.cls = true) (hw : ws = Cond.code y cc maxL ret :: ws') (hlen : (lg_sl av).length ≤ maxL)
    (body : ∀ (p : Program) (e : Env) (s : State) (m : MethodId) (args : Array Value) (below : List Frame) (meth : Method) (c : Code) (ls : Array Slot), p.tables.exec = Jvm.exec → c.code = cc → meth.sig.returnType = ret → meth.locks = false → c.maxLocals = maxL → s.vm.findClass y.cls = some m.cls → (∀ w ∈ ws, w.before args s = true) → Pic s.heap → va_K D vwCl tys s → lv_has ls maxL (lv_args 0 av) →
      W p l e { frames := fr, cells := 0, slots := 0, locals := lo } s m args below meth c s.heap [] 0 0 (MQ below (vp_Sd (fun r => r = v)) args s 0 0 (fun _ => False)) (F0 m 0 ls [])) : MD l y ws fr lo D tys Pic av v := by
  refine Met.ofW (cc := cc) (maxL := maxL) (ret := ret) hy hw ?_
  intro p e s m args below meth c s₁ B hml hv
  obtain ⟨rfl, hPic, hK⟩ := hv
  rw [lg_entry_eq]
  exact body p e s m _ below meth c _ B.exec B.bytes B.returns B.notSynchronized hml (findClass_of_methodNamed B.named) (atoms_spec (ws := ws) B.pre) hPic hK (lv_entry av hlen)
set_option maxHeartbeats 4000000 in
set_option maxRecDepth 100000 in
theorem c_mean (l : Launch) (D : va_G) (cI cO cL : ClassId) (g : Nat → Nat) (σ T : Nat → Int) (hW : WF σ T) : MD l yX5_mean wsX5_mean 0 0 D (ty3 cI cO cL) (PicB D cO g σ T) [.ref (g 0)] (m_mean σ) := by
  refine MD_of (cc := cX5_mean) (maxL := 1) (ret := (some .double)) (by decide) rfl (Nat.le_of_ble_eq_true rfl) ?_
  intro p e s m args below meth c ls hx hb hr hlocks hml hown hts hPic hK hl
  have hl : lv_has ls 1 [(0, .ref (g 0))] := hl
  have hin_X5 : ∀ w ∈ u_ws RX5 TX5 7, w ∈ wsX5_mean := (fun w h => List.mem_cons_of_mem _ (List.mem_append_left _ (List.mem_append_right _ h)))
  have hin_X4 : ∀ w ∈ u_ws RX4 TX4 2, w ∈ wsX5_mean := (fun w h => List.mem_cons_of_mem _ (List.mem_append_right _ h))
  obtain ⟨w0, w1, w2, w3, w4, w5, w6, w7, w8⟩ := id hW
  refine lv_aload_n hx hb dX5_mean_0 rfl (lv_at hl 0 rfl) ?_
  refine q_get (ci := 7) (C := RX5) (T := TX5) (N := 7) hx hb hts hin_X5 hown hK (v := .ref (g 1)) hPic.at0 rfl 0 (by decide) (hts (.fieldLink RX5 10 "AlmanacHouse" "years" "LAlmanacHouse$Years;") (List.mem_of_getElem? (i := 1) rfl)) (fun _ h9 => h9) rfl dX5_mean_1 ?_
  refine q_get (ci := 6) (C := RX4) (T := TX4) (N := 2) hx hb hts hin_X4 hown hK (v := .int (iI (σ 0))) hPic.at1 rfl 0 (by decide) (hts (.fieldLink RX5 47 "AlmanacHouse$Years" "cycle" "I") (List.mem_of_getElem? (i := 2) rfl)) (fun _ h9 => h9) rfl dX5_mean_4 ?_
  refine q_iconst hx hb dX5_mean_7 ?_
  refine q_icmp_ge (tgt := 17) hx hb dX5_mean_8 (by decide) (by omega) (by omega) (fun c_1 => ?_) (fun c_1 => ?_)
  · skip
    refine lv_ldc2d hx hb hown (hts (.constantDouble RX5 250 (4645128764097822720)) (List.mem_of_getElem? (i := 3) rfl)) dX5_mean_17 ?_
    refine lv_aload_n hx hb dX5_mean_20 rfl (lv_at hl 0 rfl) ?_
    refine q_get (ci := 7) (C := RX5) (T := TX5) (N := 7) hx hb hts hin_X5 hown hK (v := .ref (g 1)) hPic.at0 rfl 0 (by decide) (hts (.fieldLink RX5 10 "AlmanacHouse" "years" "LAlmanacHouse$Years;") (List.mem_of_getElem? (i := 1) rfl)) (fun _ h9 => h9) rfl dX5_mean_21 ?_
    refine q_get (ci := 6) (C := RX4) (T := TX4) (N := 2) hx hb hts hin_X4 hown hK (v := .int (iI (σ 1))) hPic.at1 rfl 1 (by decide) (hts (.fieldLink RX5 51 "AlmanacHouse$Years" "leaps" "I") (List.mem_of_getElem? (i := 4) rfl)) (fun _ h9 => h9) rfl dX5_mean_24 ?_
    refine lv_i2d hx hb dX5_mean_27 ?_
    refine lv_aload_n hx hb dX5_mean_28 rfl (lv_at hl 0 rfl) ?_
    refine q_get (ci := 7) (C := RX5) (T := TX5) (N := 7) hx hb hts hin_X5 hown hK (v := .ref (g 1)) hPic.at0 rfl 0 (by decide) (hts (.fieldLink RX5 10 "AlmanacHouse" "years" "LAlmanacHouse$Years;") (List.mem_of_getElem? (i := 1) rfl)) (fun _ h9 => h9) rfl dX5_mean_29 ?_
    refine q_get (ci := 6) (C := RX4) (T := TX4) (N := 2) hx hb hts hin_X4 hown hK (v := .int (iI (σ 0))) hPic.at1 rfl 0 (by decide) (hts (.fieldLink RX5 47 "AlmanacHouse$Years" "cycle" "I") (List.mem_of_getElem? (i := 2) rfl)) (fun _ h9 => h9) rfl dX5_mean_32 ?_
    refine lv_i2d hx hb dX5_mean_35 ?_
    refine lv_ddiv hx hb dX5_mean_36 (f_div (by omega) w0) ?_
    refine lv_dadd hx hb dX5_mean_37 (f_mean (by omega) w0) ?_
    exact q_dret hx hb hr hlocks (rfl) dX5_mean_38
  · exfalso
    omega
theorem ford_self (d : FP.Core.Datum) : FP.Core.order d d = some .eq ∨ FP.Core.order d d = none := by
  have hc : ∀ x : Int, compare x x = Ordering.eq := fun x => by simp [compare, compareOfLessAndEq]
  cases d with
  | nan => exact Or.inr rfl
  | inf s => exact Or.inl (congrArg some (hc _))
  | fin s c q => exact Or.inl (congrArg some (hc _))
theorem fcmp_self (x : UInt64) : FP.dcmp x x = some .eq ∨ FP.dcmp x x = none := ford_self (FP.Core.decode FP.Core.b64 x.toNat)
theorem f_num {x : UInt64} (h : vf_n64 x) : FP.Core.decode FP.Core.b64 x.toNat ≠ .nan := by
  refine f_dec ?_
  unfold vf_n64 at h
  rw [UInt64.le_iff_toNat_le, UInt64.toNat_and] at h
  have h2 : x.toNat &&& (2 ^ 63 - 1) ≤ 9218868437227405312 := h
  rw [Nat.and_two_pow_sub_one_eq_mod] at h2
  exact h2
theorem ford_num {d : FP.Core.Datum} (h : d ≠ .nan) : FP.Core.order d d = some .eq := by
  rcases ford_self d with g | g
  · exact g
  · cases d with
    | nan => exact absurd rfl h
    | inf s => cases g
    | fin s c q => cases g
theorem fcmp_mean {σ T : Nat → Int} (hW : WF σ T) : FP.dcmp (m_mean σ) (m_mean σ) = some .eq := by
  obtain ⟨w0, w1, -⟩ := hW
  exact ford_num (f_num (f_mean (by omega) w0))
section QVD
variable {p : Program} {l : Launch} {e : Env} {R : Room} {s : State} {m : MethodId} {args : Array Value} {below : List Frame} {meth : Method} {c : Code} {H : Heap} {locs : List Loc} {cells slots : Nat} {Q : State → Prop} {cc : ByteArray} {pc : Nat} {ls : Array Slot} {rest st0 : List Value}
variable {D : va_G} {fr lo : Nat} {y : MethodName} {bytes : ByteArray} {maxL nL n index : Nat} {ret : Option FieldType} {ws : List Cond} {Ts : List Cond} {own : String} {As : List Value} {tys : List (ClassId × FieldType)}
theorem q_callVd {Pic : Heap → Prop} {v : UInt64} {C : String} {b : Addr} (S : CallFix p m c cc nL s args Ts own) (hM : MD l y ws fr lo D tys Pic (.ref b :: As) v) (cw : CallW R s args own C index y bytes maxL ret ws { frames := fr, cells := 0, slots := 0, locals := lo } 0 0 n) (hrec : ∃ cell : Cell, H[b]? = some cell ∧ cell.vm.isStatics = false ∧ s.vm.findClass C = some cell.cls) (hPic : Pic H) (hK : va_K D vwCl tys s)
    (hn : As.length = n) (hsize : ls.size = nL) (hst : st0 = As.reverse ++ .ref b :: rest) (hroom : (rest.map fun v => v.category).sum ≤ 8) (hdg : decode cc pc = .ok (.invokevirtual index, 3)) (hc : cells ≤ R.cells) (hs : slots ≤ R.slots)
    (kk : W p l e R s m args below meth c H locs cells slots Q (F0 m (pc + 3) ls (.double v :: rest))) : W p l e R s m args below meth c H locs cells slots Q (F0 m pc ls st0) :=
  vp_callSd (W.runV S hM cw ⟨pcP_blind, hrec, pcP_at hPic hK⟩ rfl hn hsize hst (lv_room hroom) hdg ⟨hc, hs⟩) (fun r hr => by rw [hr]; exact kk)
end QVD
