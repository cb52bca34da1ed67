/-! ===== AlmanacHouse: digest and mean ===== -/
def MD (l : Launch) (y : MethodName) (ws : List Cond) (fr lo : Nat) (D : va_G) (tys : List (ClassId × FieldType)) (Pic : Heap → Prop) (av : List Value) (v : UInt64) : Prop := Met l y ws { frames := fr, cells := 0, slots := 0, locals := lo } (pcP D tys Pic av) (vp_Sd (fun r => r = v)) 0 0 (fun _ => False)
section QD
variable {p : Program} {l : Launch} {e : Env} {R : Room} {s : State} {m : MethodId} {args : Array Value} {below : List Frame} {meth : Method} {c : Code} {cc : ByteArray} {pc : Nat} {ls : Array Slot}
theorem q_dret {v a : UInt64} (hx : p.tables.exec = Jvm.exec) (hb : c.code = cc) (hr : meth.sig.returnType = some .double) (hlocks : meth.locks = false) (hv : a = v) (hdg : decode cc pc = .ok (.dreturn, 1)) : W p l e R s m args below meth c s.heap [] 0 0 (MQ below (vp_Sd (fun r => r = v)) args s 0 0 (fun _ => False)) (F0 m pc ls [.double a]) :=
  W.dret hx hb hr (fun t ht _ => ⟨a, rfl, hv, ht⟩) (fun q hq => absurd hq List.not_mem_nil) hdg hlocks
end QD
theorem MD_of {l : Launch} {y : MethodName} {ws ws' : List Cond} {fr lo : Nat} {D : va_G} {tys : List (ClassId × FieldType)} {Pic : Heap → Prop} {av : List Value} {v : UInt64} {cc : ByteArray} {maxL : Nat} {ret : Option FieldType} (hy : plainName y.cls = true) (hw : ws = Cond.code y cc maxL ret :: ws') (hlen : (lg_sl av).length ≤ maxL)
    (body : ∀ (p : Program) (e : Env) (s : State) (m : MethodId) (args : Array Value) (below : List Frame) (meth : Method) (c : Code) (ls : Array Slot), p.tables.exec = Jvm.exec → c.code = cc → meth.sig.returnType = ret → meth.locks = false → c.maxLocals = maxL → s.vm.findClass y.cls = some m.cls → (∀ w ∈ ws, w.before args s = true) → Pic s.heap → va_K D vwCl tys s → lv_has ls maxL (lv_args 0 av) →
      W p l e { frames := fr, cells := 0, slots := 0, locals := lo } s m args below meth c s.heap [] 0 0 (MQ below (vp_Sd (fun r => r = v)) args s 0 0 (fun _ => False)) (F0 m 0 ls [])) : MD l y ws fr lo D tys Pic av v := by
  refine Met.ofW (cc := cc) (maxL := maxL) (ret := ret) hy hw ?_
  intro p e s m args below meth c s₁ B hml hv
  obtain ⟨rfl, hPic, hK⟩ := hv
  rw [lg_entry_eq]
  exact body p e s m _ below meth c _ B.exec B.bytes B.returns B.notSynchronized hml (findClass_of_methodNamed B.named) (atoms_spec (ws := ws) B.pre) hPic hK (lv_entry av hlen)
set_option maxHeartbeats 4000000 in
set_option maxRecDepth 100000 in
theorem c_countOk (l : Launch) (D : va_G) (cI cO cL : ClassId) (g : Nat → Nat) (σ T P : Nat → Int) (hW : WF σ T) (hS : WS σ P) (w : Int) (hw : 0 ≤ w ∧ w ≤ 10) : MI l yX5_count wsX5_count 6 131 D (ty3 cI cO cL) (PicC D cI cO g σ T P) [.ref (g 0), .int (iI (w))] (m_count σ T P w) := by
  refine MI_of (cc := cX5_count) (maxL := 2) (ret := (some .int)) (by decide) rfl (Nat.le_of_ble_eq_true rfl) ?_
  intro p e s m args below meth c ls hx hb hr hlocks hml hown hts hPic hK hl
  have hl : lv_has ls 2 [(0, .ref (g 0)), (1, .int (iI (w)))] := hl
  have hin_X5 : ∀ w ∈ u_ws RX5 TX5 7, w ∈ wsX5_count := (fun w h => List.mem_cons_of_mem _ (List.mem_append_left _ (List.mem_append_left _ (List.mem_append_left _ (List.mem_append_left _ (List.mem_append_left _ (List.mem_append_left _ (List.mem_append_left _ (List.mem_append_right _ h)))))))))
  have hin_X4 : ∀ w ∈ u_ws RX4 TX4 2, w ∈ wsX5_count := (fun w h => List.mem_cons_of_mem _ (List.mem_append_left _ (List.mem_append_left _ (List.mem_append_left _ (List.mem_append_left _ (List.mem_append_left _ (List.mem_append_left _ (List.mem_append_right _ h))))))))
  have hin_X1 : ∀ w ∈ u_ws RX1 TX1 2, w ∈ wsX5_count := (fun w h => List.mem_cons_of_mem _ (List.mem_append_left _ (List.mem_append_left _ (List.mem_append_left _ (List.mem_append_left _ (List.mem_append_left _ (List.mem_append_right _ h)))))))
  have hin_X2 : ∀ w ∈ u_ws RX2 TX2 2, w ∈ wsX5_count := (fun w h => List.mem_cons_of_mem _ (List.mem_append_left _ (List.mem_append_left _ (List.mem_append_left _ (List.mem_append_left _ (List.mem_append_right _ h))))))
  obtain ⟨w0, w1, w2, w3, w4, w5, w6, w7, w8⟩ := id hW
  refine lv_iload_n hx hb dX5_count_0 rfl (lv_at hl 1 rfl) ?_
  by_cases c_1 : w = 0
  · refine q_tableIn (tgt := 60) hx hb dX5_count_1 (by omega) (by omega) 0 (by omega) rfl (by decide) ?_
    refine lv_aload_n hx hb dX5_count_60 rfl (lv_at hl 0 rfl) ?_
    refine q_get (ci := 7) (C := RX5) (T := TX5) (N := 7) hx hb hts hin_X5 hown hK (v := .ref (g 1)) hPic.base.at0 rfl 0 (by decide) (hts (.fieldLink RX5 10 "AlmanacHouse" "years" "LAlmanacHouse$Years;") (List.mem_of_getElem? (i := 3) rfl)) (fun _ h9 => h9) rfl dX5_count_61 ?_
    refine q_get (ci := 6) (C := RX4) (T := TX4) (N := 2) hx hb hts hin_X4 hown hK (v := .int (iI (σ 0))) hPic.base.at1 rfl 0 (by decide) (hts (.fieldLink RX5 47 "AlmanacHouse$Years" "cycle" "I") (List.mem_of_getElem? (i := 4) rfl)) (fun _ h9 => h9) rfl dX5_count_64 ?_
    exact q_iret hx hb hr hlocks (by unfold m_count; rw [if_neg (by omega), show w = 0 by omega]; rfl) dX5_count_67
  by_cases c_2 : w = 1
  · refine q_tableIn (tgt := 68) hx hb dX5_count_1 (by omega) (by omega) 1 (by omega) rfl (by decide) ?_
    refine lv_aload_n hx hb dX5_count_68 rfl (lv_at hl 0 rfl) ?_
    refine q_get (ci := 7) (C := RX5) (T := TX5) (N := 7) hx hb hts hin_X5 hown hK (v := .ref (g 1)) hPic.base.at0 rfl 0 (by decide) (hts (.fieldLink RX5 10 "AlmanacHouse" "years" "LAlmanacHouse$Years;") (List.mem_of_getElem? (i := 3) rfl)) (fun _ h9 => h9) rfl dX5_count_69 ?_
    refine q_get (ci := 6) (C := RX4) (T := TX4) (N := 2) hx hb hts hin_X4 hown hK (v := .int (iI (σ 1))) hPic.base.at1 rfl 1 (by decide) (hts (.fieldLink RX5 51 "AlmanacHouse$Years" "leaps" "I") (List.mem_of_getElem? (i := 5) rfl)) (fun _ h9 => h9) rfl dX5_count_72 ?_
    exact q_iret hx hb hr hlocks (by unfold m_count; rw [if_neg (by omega), show w = 1 by omega]; rfl) dX5_count_75
  by_cases c_3 : w = 2
  · refine q_tableIn (tgt := 76) hx hb dX5_count_1 (by omega) (by omega) 2 (by omega) rfl (by decide) ?_
    refine lv_aload_n hx hb dX5_count_76 rfl (lv_at hl 0 rfl) ?_
    refine q_get (ci := 7) (C := RX5) (T := TX5) (N := 7) hx hb hts hin_X5 hown hK (v := .ref (g 2)) hPic.base.at0 rfl 1 (by decide) (hts (.fieldLink RX5 19 "AlmanacHouse" "moons" "LAlmanacHouse$Moons;") (List.mem_of_getElem? (i := 6) rfl)) (fun _ h9 => h9) rfl dX5_count_77 ?_
    refine q_get (ci := 3) (C := RX1) (T := TX1) (N := 2) hx hb hts hin_X1 hown hK (v := .int (iI (σ 2))) hPic.base.at2 rfl 0 (by decide) (hts (.fieldLink RX5 58 "AlmanacHouse$Moons" "length" "I") (List.mem_of_getElem? (i := 7) rfl)) (fun _ h9 => h9) rfl dX5_count_80 ?_
    exact q_iret hx hb hr hlocks (by unfold m_count; rw [if_neg (by omega), show w = 2 by omega]; rfl) dX5_count_83
  by_cases c_4 : w = 3
  · refine q_tableIn (tgt := 84) hx hb dX5_count_1 (by omega) (by omega) 3 (by omega) rfl (by decide) ?_
    refine lv_aload_n hx hb dX5_count_84 rfl (lv_at hl 0 rfl) ?_
    refine q_get (ci := 7) (C := RX5) (T := TX5) (N := 7) hx hb hts hin_X5 hown hK (v := .ref (g 2)) hPic.base.at0 rfl 1 (by decide) (hts (.fieldLink RX5 19 "AlmanacHouse" "moons" "LAlmanacHouse$Moons;") (List.mem_of_getElem? (i := 6) rfl)) (fun _ h9 => h9) rfl dX5_count_85 ?_
    refine q_get (ci := 3) (C := RX1) (T := TX1) (N := 2) hx hb hts hin_X1 hown hK (v := .int (iI (σ 3))) hPic.base.at2 rfl 1 (by decide) (hts (.fieldLink RX5 61 "AlmanacHouse$Moons" "first" "I") (List.mem_of_getElem? (i := 8) rfl)) (fun _ h9 => h9) rfl dX5_count_88 ?_
    exact q_iret hx hb hr hlocks (by unfold m_count; rw [if_neg (by omega), show w = 3 by omega]; rfl) dX5_count_91
  by_cases c_5 : w = 4
  · refine q_tableIn (tgt := 92) hx hb dX5_count_1 (by omega) (by omega) 4 (by omega) rfl (by decide) ?_
    refine lv_aload_n hx hb dX5_count_92 rfl (lv_at hl 0 rfl) ?_
    refine q_get (ci := 7) (C := RX5) (T := TX5) (N := 7) hx hb hts hin_X5 hown hK (v := .ref (g 3)) hPic.base.at0 rfl 2 (by decide) (hts (.fieldLink RX5 26 "AlmanacHouse" "nodes" "LAlmanacHouse$Nodes;") (List.mem_of_getElem? (i := 9) rfl)) (fun _ h9 => h9) rfl dX5_count_93 ?_
    refine q_get (ci := 4) (C := RX2) (T := TX2) (N := 2) hx hb hts hin_X2 hown hK (v := .int (iI (σ 4))) hPic.base.at3 rfl 0 (by decide) (hts (.fieldLink RX5 69 "AlmanacHouse$Nodes" "period" "I") (List.mem_of_getElem? (i := 10) rfl)) (fun _ h9 => h9) rfl dX5_count_96 ?_
    exact q_iret hx hb hr hlocks (by unfold m_count; rw [if_neg (by omega), show w = 4 by omega]; rfl) dX5_count_99
  by_cases c_6 : w = 5
  · refine q_tableIn (tgt := 100) hx hb dX5_count_1 (by omega) (by omega) 5 (by omega) rfl (by decide) ?_
    refine lv_aload_n hx hb dX5_count_100 rfl (lv_at hl 0 rfl) ?_
    refine q_get (ci := 7) (C := RX5) (T := TX5) (N := 7) hx hb hts hin_X5 hown hK (v := .ref (g 3)) hPic.base.at0 rfl 2 (by decide) (hts (.fieldLink RX5 26 "AlmanacHouse" "nodes" "LAlmanacHouse$Nodes;") (List.mem_of_getElem? (i := 9) rfl)) (fun _ h9 => h9) rfl dX5_count_101 ?_
    refine q_get (ci := 4) (C := RX2) (T := TX2) (N := 2) hx hb hts hin_X2 hown hK (v := .int (iI (σ 5))) hPic.base.at3 rfl 1 (by decide) (hts (.fieldLink RX5 72 "AlmanacHouse$Nodes" "node" "I") (List.mem_of_getElem? (i := 11) rfl)) (fun _ h9 => h9) rfl dX5_count_104 ?_
    exact q_iret hx hb hr hlocks (by unfold m_count; rw [if_neg (by omega), show w = 5 by omega]; rfl) dX5_count_107
  by_cases c_7 : w = 6
  · refine q_tableIn (tgt := 108) hx hb dX5_count_1 (by omega) (by omega) 6 (by omega) rfl (by decide) ?_
    refine lv_aload_n hx hb dX5_count_108 rfl (lv_at hl 0 rfl) ?_
    refine q_get (ci := 7) (C := RX5) (T := TX5) (N := 7) hx hb hts hin_X5 hown hK (v := .ref (g 4)) hPic.base.at0 rfl 3 (by decide) (hts (.fieldLink RX5 33 "AlmanacHouse" "feasts" "Ljava/util/ArrayList;") (List.mem_of_getElem? (i := 12) rfl)) (fun _ h9 => h9) rfl dX5_count_109 ?_
    refine q_callV (fr := 0) (lo := 0) (nL := 2) (Pic := ob D (g 4) 1 [.int (iI (σ 6)), .ref (g 6), .int (iI (σ 6))]) (As := []) (rest := []) ⟨hx, hb, hml, hown, hts⟩ (c_size l D (ty3 cI cO cL) (g 4) (g 6) (σ 6) (σ 6)) (cwV 0 hts gX5_count_Jx4a65c_size_8abf5 rfl rfl rfl (by decide +kernel) ⟨Nat.le_of_ble_eq_true rfl, Nat.le_of_ble_eq_true rfl⟩) (ob_recv hPic.base.at4 hK rfl) hPic.base.at4 hK rfl hl.1 rfl (Nat.le_of_ble_eq_true rfl) dX5_count_112 (Nat.zero_le _) (Nat.zero_le _) ?_
    exact q_iret hx hb hr hlocks (by unfold m_count; rw [if_neg (by omega), show w = 6 by omega]; rfl) dX5_count_115
  by_cases c_8 : w = 7
  · refine q_tableIn (tgt := 116) hx hb dX5_count_1 (by omega) (by omega) 7 (by omega) rfl (by decide) ?_
    refine lv_aload_n hx hb dX5_count_116 rfl (lv_at hl 0 rfl) ?_
    refine q_get (ci := 7) (C := RX5) (T := TX5) (N := 7) hx hb hts hin_X5 hown hK (v := .ref (g 5)) hPic.base.at0 rfl 4 (by decide) (hts (.fieldLink RX5 37 "AlmanacHouse" "sheets" "Ljava/util/ArrayList;") (List.mem_of_getElem? (i := 13) rfl)) (fun _ h9 => h9) rfl dX5_count_117 ?_
    refine q_callV (fr := 0) (lo := 0) (nL := 2) (Pic := ob D (g 5) 1 [.int (iI (σ 7)), .ref (g 7), .int (iI (σ 7))]) (As := []) (rest := []) ⟨hx, hb, hml, hown, hts⟩ (c_size l D (ty3 cI cO cL) (g 5) (g 7) (σ 7) (σ 7)) (cwV 0 hts gX5_count_Jx4a65c_size_8abf5 rfl rfl rfl (by decide +kernel) ⟨Nat.le_of_ble_eq_true rfl, Nat.le_of_ble_eq_true rfl⟩) (ob_recv hPic.base.at5 hK rfl) hPic.base.at5 hK rfl hl.1 rfl (Nat.le_of_ble_eq_true rfl) dX5_count_120 (Nat.zero_le _) (Nat.zero_le _) ?_
    exact q_iret hx hb hr hlocks (by unfold m_count; rw [if_neg (by omega), show w = 7 by omega]; rfl) dX5_count_123
  by_cases c_9 : w = 8
  · refine q_tableIn (tgt := 124) hx hb dX5_count_1 (by omega) (by omega) 8 (by omega) rfl (by decide) ?_
    refine lv_aload_n hx hb dX5_count_124 rfl (lv_at hl 0 rfl) ?_
    refine q_callV (fr := 5) (lo := 109) (nL := 2) (Pic := PicC D cI cO g σ T P) (As := []) (rest := []) ⟨hx, hb, hml, hown, hts⟩ (c_wrongSheets l D cI cO cL g σ T P hW hS  ) (cwV 0 hts gX5_count_X5_wrongSheets rfl rfl rfl (by decide +kernel) ⟨Nat.le_of_ble_eq_true rfl, Nat.le_of_ble_eq_true rfl⟩) (ob_recv hPic.base.at0 hK rfl) hPic hK rfl hl.1 rfl (Nat.le_of_ble_eq_true rfl) dX5_count_125 (Nat.zero_le _) (Nat.zero_le _) ?_
    have hwc125 := m_wc_in σ T P (σ 7).toNat
    exact q_iret hx hb hr hlocks (by unfold m_count; rw [if_pos (by omega)]) dX5_count_128
  by_cases c_10 : w = 9
  · refine q_tableIn (tgt := 129) hx hb dX5_count_1 (by omega) (by omega) 9 (by omega) rfl (by decide) ?_
    refine lv_aload_n hx hb dX5_count_129 rfl (lv_at hl 0 rfl) ?_
    refine q_get (ci := 7) (C := RX5) (T := TX5) (N := 7) hx hb hts hin_X5 hown hK (v := .int (iI (σ 9))) hPic.base.at0 rfl 5 (by decide) (hts (.fieldLink RX5 150 "AlmanacHouse" "observations" "I") (List.mem_of_getElem? (i := 14) rfl)) (fun _ h9 => h9) rfl dX5_count_130 ?_
    exact q_iret hx hb hr hlocks (by unfold m_count; rw [if_neg (by omega), show w = 9 by omega]; rfl) dX5_count_133
  by_cases c_11 : w = 10
  · refine q_tableIn (tgt := 134) hx hb dX5_count_1 (by omega) (by omega) 10 (by omega) rfl (by decide) ?_
    refine lv_aload_n hx hb dX5_count_134 rfl (lv_at hl 0 rfl) ?_
    refine q_get (ci := 7) (C := RX5) (T := TX5) (N := 7) hx hb hts hin_X5 hown hK (v := .int (iI (σ 10))) hPic.base.at0 rfl 6 (by decide) (hts (.fieldLink RX5 157 "AlmanacHouse" "corrections" "I") (List.mem_of_getElem? (i := 15) rfl)) (fun _ h9 => h9) rfl dX5_count_135 ?_
    exact q_iret hx hb hr hlocks (by unfold m_count; rw [if_neg (by omega), show w = 10 by omega]; rfl) dX5_count_138
  exfalso
  omega
set_option maxHeartbeats 4000000 in
set_option maxRecDepth 100000 in
theorem c_sheetOk (l : Launch) (D : va_G) (cI cO cL : ClassId) (g : Nat → Nat) (σ T P : Nat → Int) (hW : WF σ T) (hS : WS σ P) (j w : Int) (hj : 0 ≤ j ∧ j < σ 7) (hw : 0 ≤ w ∧ w ≤ 4) : MI l yX5_sheet wsX5_sheet 5 109 D (ty3 cI cO cL) (PicC D cI cO g σ T P) [.ref (g 0), .int (iI (j)), .int (iI (w))] (m_told σ T P j.toNat w) := by
  refine MI_of (cc := cX5_sheet) (maxL := 4) (ret := (some .int)) (by decide) rfl (Nat.le_of_ble_eq_true rfl) ?_
  intro p e s m args below meth c ls hx hb hr hlocks hml hown hts hPic hK hl
  have hl : lv_has ls 4 [(0, .ref (g 0)), (1, .int (iI (j))), (2, .int (iI (w)))] := hl
  have hin_X5 : ∀ w ∈ u_ws RX5 TX5 7, w ∈ wsX5_sheet := (fun w h => List.mem_cons_of_mem _ (List.mem_append_left _ (List.mem_append_left _ (List.mem_append_left _ (List.mem_append_left _ (List.mem_append_left _ (List.mem_append_left _ (List.mem_append_left _ (List.mem_append_right _ h)))))))))
  have hin_X3 : ∀ w ∈ u_ws RX3 TX3 4, w ∈ wsX5_sheet := (fun w h => List.mem_cons_of_mem _ (List.mem_append_left _ (List.mem_append_left _ (List.mem_append_left _ (List.mem_append_left _ (List.mem_append_left _ (List.mem_append_left _ (List.mem_append_right _ h))))))))
  obtain ⟨w0, w1, w2, w3, w4, w5, w6, w7, w8⟩ := id hW
  refine lv_aload_n hx hb dX5_sheet_0 rfl (lv_at hl 0 rfl) ?_
  refine lv_iload_n hx hb dX5_sheet_1 rfl (lv_at hl 1 rfl) ?_
  refine q_callV (fr := 1) (lo := 20) (nL := 4) (Pic := PicB D cO g σ T) (As := [.int (iI (j))]) (rest := []) ⟨hx, hb, hml, hown, hts⟩ (c_isSheet l D cI cO cL g σ T hW (j) (by omega)) (cwV 1 hts gX5_sheet_X5_isSheet rfl rfl rfl (by decide +kernel) ⟨Nat.le_of_ble_eq_true rfl, Nat.le_of_ble_eq_true rfl⟩) (ob_recv hPic.base.at0 hK rfl) hPic.base hK rfl hl.1 rfl (Nat.le_of_ble_eq_true rfl) dX5_sheet_2 (Nat.zero_le _) (Nat.zero_le _) ?_
  refine q_pif_ne (tgt := 18) hx hb dX5_sheet_5 (by decide) (fun c_1 => ?_) (fun c_1 => ?_)
  · skip
    obtain ⟨s1, s2, s3, s4⟩ := hS j.toNat (by omega)
    refine lv_aload_n hx hb dX5_sheet_18 rfl (lv_at hl 0 rfl) ?_
    refine q_get (ci := 7) (C := RX5) (T := TX5) (N := 7) hx hb hts hin_X5 hown hK (v := .ref (g 5)) hPic.base.at0 rfl 4 (by decide) (hts (.fieldLink RX5 37 "AlmanacHouse" "sheets" "Ljava/util/ArrayList;") (List.mem_of_getElem? (i := 3) rfl)) (fun _ h9 => h9) rfl dX5_sheet_19 ?_
    refine lv_iload_n hx hb dX5_sheet_22 rfl (lv_at hl 1 rfl) ?_
    refine q_callVq (fr := 2) (lo := 43) (nL := 4) (Pic := fun H => ob D (g 5) 1 [.int (iI (σ 7)), .ref (g 7), .int (iI (σ 7))] H ∧ ar D (g 7) (cO, 10, .inr (.inr (.inr (.inr (fun j => if j < (σ 7).toNat then some (g (20 + j)) else none))))) H) (As := [.int (iI (j))]) (rest := []) ⟨hx, hb, hml, hown, hts⟩ (c_get l D cI cO cL (g 5) (g 7) (g (20 + (j).toNat)) (σ 7) (σ 7) (j) (fun j => if j < (σ 7).toNat then some (g (20 + j)) else none) (by omega) (by omega) (if_pos (by omega))) (cwV 1 hts gX5_sheet_Jx4a65c_get_915e3 rfl rfl rfl (by decide +kernel) ⟨Nat.le_of_ble_eq_true rfl, Nat.le_of_ble_eq_true rfl⟩) (ob_recv hPic.base.at5 hK rfl) ⟨hPic.base.at5, hPic.arr (by omega)⟩ hK rfl hl.1 rfl (Nat.le_of_ble_eq_true rfl) dX5_sheet_23 (Nat.zero_le _) (Nat.zero_le _) ?_
    refine q_cast (ci := 5) (T := TX3) (N := 4) hx hb hown (hts (.classLink RX5 198 "AlmanacHouse$Sheet") (List.mem_of_getElem? (i := 4) rfl)) hK (hPic.so (j := (j).toNat) (by omega)) rfl dX5_sheet_26 ?_
    refine lv_astore_n (lv' := [(3, .ref (g (20 + (j).toNat))), (0, .ref (g 0)), (1, .int (iI (j))), (2, .int (iI (w)))]) hx hb dX5_sheet_29 rfl hl (by decide) rfl (fun ls hl => ?_)
    refine lv_iload_n hx hb dX5_sheet_30 rfl (lv_at hl 3 rfl) ?_
    by_cases c_2 : w = 0
    · refine q_tableIn (tgt := 64) hx hb dX5_sheet_31 (by omega) (by omega) 0 (by omega) rfl (by decide) ?_
      refine lv_aload_n hx hb dX5_sheet_64 rfl (lv_at hl 0 rfl) ?_
      refine q_get (ci := 5) (C := RX3) (T := TX3) (N := 4) hx hb hts hin_X3 hown hK (v := .int (iI (P (11 * (j).toNat)))) (hPic.so (j := (j).toNat) (by omega)) rfl 0 (by decide) (hts (.fieldLink RX5 216 "AlmanacHouse$Sheet" "year" "I") (List.mem_of_getElem? (i := 5) rfl)) (fun _ h9 => h9) rfl dX5_sheet_65 ?_
      exact q_iret hx hb hr hlocks (by unfold m_told; rw [if_pos (by omega)]) dX5_sheet_68
    by_cases c_3 : w = 1
    · refine q_tableIn (tgt := 69) hx hb dX5_sheet_31 (by omega) (by omega) 1 (by omega) rfl (by decide) ?_
      refine lv_aload_n hx hb dX5_sheet_69 rfl (lv_at hl 0 rfl) ?_
      refine q_get (ci := 5) (C := RX3) (T := TX3) (N := 4) hx hb hts hin_X3 hown hK (v := .int (iI (P (11 * (j).toNat + 1)))) (hPic.so (j := (j).toNat) (by omega)) rfl 2 (by decide) (hts (.fieldLink RX5 219 "AlmanacHouse$Sheet" "held" "I") (List.mem_of_getElem? (i := 6) rfl)) (fun _ h9 => h9) rfl dX5_sheet_70 ?_
      exact q_iret hx hb hr hlocks (by unfold m_told; rw [if_neg (by omega), if_pos (by omega)]) dX5_sheet_73
    by_cases c_4 : w = 2
    · refine q_tableIn (tgt := 74) hx hb dX5_sheet_31 (by omega) (by omega) 2 (by omega) rfl (by decide) ?_
      refine lv_aload_n hx hb dX5_sheet_74 rfl (lv_at hl 0 rfl) ?_
      refine q_get (ci := 5) (C := RX3) (T := TX3) (N := 4) hx hb hts hin_X3 hown hK (v := .int (iI (P (11 * (j).toNat + 2)))) (hPic.so (j := (j).toNat) (by omega)) rfl 3 (by decide) (hts (.fieldLink RX5 222 "AlmanacHouse$Sheet" "eclipses" "I") (List.mem_of_getElem? (i := 7) rfl)) (fun _ h9 => h9) rfl dX5_sheet_75 ?_
      exact q_iret hx hb hr hlocks (by unfold m_told; rw [if_neg (by omega), if_neg (by omega), if_pos (by omega)]) dX5_sheet_78
    by_cases c_5 : w = 3
    · refine q_tableIn (tgt := 79) hx hb dX5_sheet_31 (by omega) (by omega) 3 (by omega) rfl (by decide) ?_
      refine lv_aload_n hx hb dX5_sheet_79 rfl (lv_at hl 1 rfl) ?_
      refine lv_aload_n hx hb dX5_sheet_80 rfl (lv_at hl 0 rfl) ?_
      refine q_callV (fr := 4) (lo := 87) (nL := 4) (Pic := fun H => PicB D cO g σ T H ∧ ob D (g (20 + (j).toNat)) 5 [.int (iI (P (11 * (j).toNat))), .ref (g (40 + (j).toNat)), .int (iI (P (11 * (j).toNat + 1))), .int (iI (P (11 * (j).toNat + 2)))] H ∧ ar D (g (40 + (j).toNat)) (cI, 8, .inl (fun i => iI ((fun i => P (11 * (j).toNat + 3 + i)) i))) H) (As := [.ref (g (20 + (j).toNat))]) (rest := []) ⟨hx, hb, hml, hown, hts⟩ (c_isWrong l D cI cO cL g σ T hW (g (20 + (j).toNat)) (g (40 + (j).toNat)) (P (11 * (j).toNat)) (P (11 * (j).toNat + 1)) (P (11 * (j).toNat + 2)) (fun i => P (11 * (j).toNat + 3 + i)) (s1) (s2) (s3) (s4)) (cwV 1 hts gX5_sheet_X5_isWrong rfl rfl rfl (by decide +kernel) ⟨Nat.le_of_ble_eq_true rfl, Nat.le_of_ble_eq_true rfl⟩) (ob_recv hPic.base.at0 hK rfl) ⟨hPic.base, (hPic.so (j := (j).toNat) (by omega)), (hPic.sd (j := (j).toNat) (by omega))⟩ hK rfl hl.1 rfl (Nat.le_of_ble_eq_true rfl) dX5_sheet_81 (Nat.zero_le _) (Nat.zero_le _) ?_
      have hwr81 := m_wr_01 σ T (P (11 * (j).toNat)) (P (11 * (j).toNat + 1)) (P (11 * (j).toNat + 2)) (fun i => P (11 * (j).toNat + 3 + i))
      refine q_if_eq (tgt := 91) hx hb dX5_sheet_84 (by decide) (by omega) (fun c_6 => ?_) (fun c_6 => ?_)
      · skip
        refine q_iconst hx hb dX5_sheet_91 ?_
        exact q_iret hx hb hr hlocks (by unfold m_told; rw [if_neg (by omega), if_neg (by omega), if_neg (by omega), if_pos (by omega)]; omega) dX5_sheet_92
      · skip
        refine q_iconst hx hb dX5_sheet_87 ?_
        refine lv_goto (tgt := 92) hx hb dX5_sheet_88 (by decide) ?_
        exact q_iret hx hb hr hlocks (by unfold m_told; rw [if_neg (by omega), if_neg (by omega), if_neg (by omega), if_pos (by omega)]; omega) dX5_sheet_92
    by_cases c_7 : w = 4
    · refine q_tableIn (tgt := 93) hx hb dX5_sheet_31 (by omega) (by omega) 4 (by omega) rfl (by decide) ?_
      refine lv_aload_n hx hb dX5_sheet_93 rfl (lv_at hl 1 rfl) ?_
      refine lv_aload_n hx hb dX5_sheet_94 rfl (lv_at hl 0 rfl) ?_
      refine q_callV (fr := 3) (lo := 64) (nL := 4) (Pic := fun H => PicB D cO g σ T H ∧ ob D (g (20 + (j).toNat)) 5 [.int (iI (P (11 * (j).toNat))), .ref (g (40 + (j).toNat)), .int (iI (P (11 * (j).toNat + 1))), .int (iI (P (11 * (j).toNat + 2)))] H ∧ ar D (g (40 + (j).toNat)) (cI, 8, .inl (fun i => iI ((fun i => P (11 * (j).toNat + 3 + i)) i))) H) (As := [.ref (g (20 + (j).toNat))]) (rest := []) ⟨hx, hb, hml, hown, hts⟩ (c_greatestShift l D cI cO cL g σ T hW (g (20 + (j).toNat)) (g (40 + (j).toNat)) (P (11 * (j).toNat)) (P (11 * (j).toNat + 1)) (P (11 * (j).toNat + 2)) (fun i => P (11 * (j).toNat + 3 + i)) (s1) (s2) (s3) (s4)) (cwV 1 hts gX5_sheet_X5_greatestShift rfl rfl rfl (by decide +kernel) ⟨Nat.le_of_ble_eq_true rfl, Nat.le_of_ble_eq_true rfl⟩) (ob_recv hPic.base.at0 hK rfl) ⟨hPic.base, (hPic.so (j := (j).toNat) (by omega)), (hPic.sd (j := (j).toNat) (by omega))⟩ hK rfl hl.1 rfl (Nat.le_of_ble_eq_true rfl) dX5_sheet_95 (Nat.zero_le _) (Nat.zero_le _) ?_
      exact q_iret hx hb hr hlocks (by unfold m_told; rw [if_neg (by omega), if_neg (by omega), if_neg (by omega), if_neg (by omega)]) dX5_sheet_98
    exfalso
    omega
  · exfalso
    omega
set_option maxHeartbeats 4000000 in
set_option maxRecDepth 100000 in
theorem c_addTo (l : Launch) (D : va_G) (tys : List (ClassId × FieldType)) (h : Nat) (d : Int64) (f0 f1 f2 f3 f4 : Int) : ML l yX0_addTo wsX0_addTo 0 0 D tys (ob D h 2 [.int (iI f0), .int (iI f1), .int (iI f2), .int (iI f3), .int (iI f4)]) [.ref h, .long (d)] (((((d * 31 + (iI f0).toInt64) * 31 + (iI f1).toInt64) * 31 + (iI f2).toInt64) * 31 + (iI f3).toInt64) * 31 + (iI f4).toInt64) := by
  refine ML_of (cc := cX0_addTo) (maxL := 5) (ret := (some .long)) (by decide) rfl (Nat.le_of_ble_eq_true rfl) ?_
  intro p e s m args below meth c ls hx hb hr hlocks hml hown hts hPic hK hl
  have hl : lv_has ls 5 [(0, .ref h), (1, .long (d))] := hl
  have hin_X0 : ∀ w ∈ u_ws RX0 TX0 5, w ∈ wsX0_addTo := (fun w h => List.mem_cons_of_mem _ (List.mem_append_right _ h))
  refine lv_lload_n hx hb dX0_addTo_0 rfl (lv_at hl 1 rfl) ?_
  refine lv_ldc2 hx hb hown (hts (.constantLong RX0 25 (31)) (List.mem_of_getElem? (i := 1) rfl)) dX0_addTo_1 ?_
  refine lv_lmul hx hb dX0_addTo_4 ?_
  refine lv_aload_n hx hb dX0_addTo_5 rfl (lv_at hl 0 rfl) ?_
  refine q_get (ci := 2) (C := RX0) (T := TX0) (N := 5) hx hb hts hin_X0 hown hK (v := .int (iI (f0))) hPic rfl 0 (by decide) (hts (.fieldLink RX0 7 "AlmanacHouse$Feast" "month" "I") (List.mem_of_getElem? (i := 2) rfl)) (fun _ h9 => h9) rfl dX0_addTo_6 ?_
  refine lv_i2l hx hb dX0_addTo_9 rfl ?_
  refine lv_ladd hx hb dX0_addTo_10 ?_
  refine lv_lstore_n (lv' := [(3, .long (((d) * (31)) + ((iI (f0)).toInt64))), (0, .ref h), (1, .long (d))]) hx hb dX0_addTo_11 rfl hl (by decide) rfl (fun ls hl => ?_)
  refine lv_lload_n hx hb dX0_addTo_12 rfl (lv_at hl 0 rfl) ?_
  refine lv_ldc2 hx hb hown (hts (.constantLong RX0 25 (31)) (List.mem_of_getElem? (i := 1) rfl)) dX0_addTo_13 ?_
  refine lv_lmul hx hb dX0_addTo_16 ?_
  refine lv_aload_n hx hb dX0_addTo_17 rfl (lv_at hl 1 rfl) ?_
  refine q_get (ci := 2) (C := RX0) (T := TX0) (N := 5) hx hb hts hin_X0 hown hK (v := .int (iI (f1))) hPic rfl 1 (by decide) (hts (.fieldLink RX0 13 "AlmanacHouse$Feast" "day" "I") (List.mem_of_getElem? (i := 3) rfl)) (fun _ h9 => h9) rfl dX0_addTo_18 ?_
  refine lv_i2l hx hb dX0_addTo_21 rfl ?_
  refine lv_ladd hx hb dX0_addTo_22 ?_
  refine lv_lstore_n (lv' := [(3, .long (((((d) * (31)) + ((iI (f0)).toInt64)) * (31)) + ((iI (f1)).toInt64))), (0, .ref h), (1, .long (d))]) hx hb dX0_addTo_23 rfl hl (by decide) rfl (fun ls hl => ?_)
  refine lv_lload_n hx hb dX0_addTo_24 rfl (lv_at hl 0 rfl) ?_
  refine lv_ldc2 hx hb hown (hts (.constantLong RX0 25 (31)) (List.mem_of_getElem? (i := 1) rfl)) dX0_addTo_25 ?_
  refine lv_lmul hx hb dX0_addTo_28 ?_
  refine lv_aload_n hx hb dX0_addTo_29 rfl (lv_at hl 1 rfl) ?_
  refine q_get (ci := 2) (C := RX0) (T := TX0) (N := 5) hx hb hts hin_X0 hown hK (v := .int (iI (f2))) hPic rfl 2 (by decide) (hts (.fieldLink RX0 16 "AlmanacHouse$Feast" "moons" "I") (List.mem_of_getElem? (i := 4) rfl)) (fun _ h9 => h9) rfl dX0_addTo_30 ?_
  refine lv_i2l hx hb dX0_addTo_33 rfl ?_
  refine lv_ladd hx hb dX0_addTo_34 ?_
  refine lv_lstore_n (lv' := [(3, .long (((((((d) * (31)) + ((iI (f0)).toInt64)) * (31)) + ((iI (f1)).toInt64)) * (31)) + ((iI (f2)).toInt64))), (0, .ref h), (1, .long (d))]) hx hb dX0_addTo_35 rfl hl (by decide) rfl (fun ls hl => ?_)
  refine lv_lload_n hx hb dX0_addTo_36 rfl (lv_at hl 0 rfl) ?_
  refine lv_ldc2 hx hb hown (hts (.constantLong RX0 25 (31)) (List.mem_of_getElem? (i := 1) rfl)) dX0_addTo_37 ?_
  refine lv_lmul hx hb dX0_addTo_40 ?_
  refine lv_aload_n hx hb dX0_addTo_41 rfl (lv_at hl 1 rfl) ?_
  refine q_get (ci := 2) (C := RX0) (T := TX0) (N := 5) hx hb hts hin_X0 hown hK (v := .int (iI (f3))) hPic rfl 3 (by decide) (hts (.fieldLink RX0 19 "AlmanacHouse$Feast" "weekday" "I") (List.mem_of_getElem? (i := 5) rfl)) (fun _ h9 => h9) rfl dX0_addTo_42 ?_
  refine lv_i2l hx hb dX0_addTo_45 rfl ?_
  refine lv_ladd hx hb dX0_addTo_46 ?_
  refine lv_lstore_n (lv' := [(3, .long (((((((((d) * (31)) + ((iI (f0)).toInt64)) * (31)) + ((iI (f1)).toInt64)) * (31)) + ((iI (f2)).toInt64)) * (31)) + ((iI (f3)).toInt64))), (0, .ref h), (1, .long (d))]) hx hb dX0_addTo_47 rfl hl (by decide) rfl (fun ls hl => ?_)
  refine lv_lload_n hx hb dX0_addTo_48 rfl (lv_at hl 0 rfl) ?_
  refine lv_ldc2 hx hb hown (hts (.constantLong RX0 25 (31)) (List.mem_of_getElem? (i := 1) rfl)) dX0_addTo_49 ?_
  refine lv_lmul hx hb dX0_addTo_52 ?_
  refine lv_aload_n hx hb dX0_addTo_53 rfl (lv_at hl 1 rfl) ?_
  refine q_get (ci := 2) (C := RX0) (T := TX0) (N := 5) hx hb hts hin_X0 hown hK (v := .int (iI (f4))) hPic rfl 4 (by decide) (hts (.fieldLink RX0 22 "AlmanacHouse$Feast" "offset" "I") (List.mem_of_getElem? (i := 6) rfl)) (fun _ h9 => h9) rfl dX0_addTo_54 ?_
  refine lv_i2l hx hb dX0_addTo_57 rfl ?_
  refine lv_ladd hx hb dX0_addTo_58 ?_
  exact q_lret hx hb hr hlocks (rfl) dX0_addTo_59
set_option maxHeartbeats 4000000 in
set_option maxRecDepth 100000 in
theorem c_addDaysTo (l : Launch) (D : va_G) (cI cO cL : ClassId) (sa da : Nat) (yr hd ec : Int) (dy : Nat → Int) (d : Int64) (hhd : 0 ≤ hd ∧ hd ≤ 8) : ML l yX3_addDaysTo wsX3_addDaysTo 0 0 D (ty3 cI cO cL) (fun H => ob D sa 5 [.int (iI yr), .ref da, .int (iI hd), .int (iI ec)] H ∧ ar D da (cI, 8, .inl (fun i => iI (dy i))) H) [.ref sa, .long (d)] (d_t dy d hd.toNat) := by
  refine ML_of (cc := cX3_addDaysTo) (maxL := 6) (ret := (some .long)) (by decide) rfl (Nat.le_of_ble_eq_true rfl) ?_
  intro p e s m args below meth c ls hx hb hr hlocks hml hown hts hPic hK hl
  have hl : lv_has ls 6 [(0, .ref sa), (1, .long (d))] := hl
  have hin_X3 : ∀ w ∈ u_ws RX3 TX3 4, w ∈ wsX3_addDaysTo := (fun w h => List.mem_cons_of_mem _ (List.mem_append_right _ h))
  refine lv_lload_n hx hb dX3_addDaysTo_0 rfl (lv_at hl 1 rfl) ?_
  refine lv_lstore_n (lv' := [(3, .long (d)), (0, .ref sa), (1, .long (d))]) hx hb dX3_addDaysTo_1 rfl hl (by decide) rfl (fun ls hl => ?_)
  refine q_iconst hx hb dX3_addDaysTo_2 ?_
  refine lv_istore (lv' := [(5, .int (iI (0))), (3, .long (d)), (0, .ref sa), (1, .long (d))]) hx hb dX3_addDaysTo_3 hl (by decide) rfl (fun ls hl => ?_)
  have key_5 : ∀ (fu : Nat) (k : Int) (dg : Int64), 0 ≤ k ∧ k ≤ hd → dg = d_t dy d k.toNat → (((hd - k).toNat : Int)) < (fu : Int) → ∀ ls : Array Slot, lv_has ls 6 [(0, .ref sa), (1, .long (d)), (3, .long (dg)), (5, .int (iI (k)))] → W p l e { frames := 0, cells := 0, slots := 0, locals := 0 } s m args below meth c s.heap [] 0 0 (MQ below (vp_Sl (fun r => r = d_t dy d hd.toNat)) args s 0 0 (fun _ => False)) (F0 m 5 ls []) := by
    intro fu
    induction fu with
    | zero => intro k dg hk hdg2 hm_5 ls hl; exact absurd hm_5 (by omega)
    | succ fu ih_5 =>
      intro k dg hk hdg2 hm_5 ls hl
      refine lv_iload hx hb dX3_addDaysTo_5 (lv_at hl 3 rfl) ?_
      refine lv_aload_n hx hb dX3_addDaysTo_7 rfl (lv_at hl 0 rfl) ?_
      refine q_get (ci := 5) (C := RX3) (T := TX3) (N := 4) hx hb hts hin_X3 hown hK (v := .int (iI (hd))) hPic.1 rfl 2 (by decide) (hts (.fieldLink RX3 19 "AlmanacHouse$Sheet" "held" "I") (List.mem_of_getElem? (i := 1) rfl)) (fun _ h9 => h9) rfl dX3_addDaysTo_8 ?_
      refine q_icmp_ge (tgt := 45) hx hb dX3_addDaysTo_11 (by decide) (by omega) (by omega) (fun c_1 => ?_) (fun c_1 => ?_)
      · skip
        refine lv_lload_n hx hb dX3_addDaysTo_45 rfl (lv_at hl 2 rfl) ?_
        exact q_lret hx hb hr hlocks (by rw [hdg2]; congr 1; omega) dX3_addDaysTo_46
      · skip
        refine lv_iload hx hb dX3_addDaysTo_14 (lv_at hl 3 rfl) ?_
        refine lv_aload_n hx hb dX3_addDaysTo_16 rfl (lv_at hl 0 rfl) ?_
        refine q_get (ci := 5) (C := RX3) (T := TX3) (N := 4) hx hb hts hin_X3 hown hK (v := .ref da) hPic.1 rfl 1 (by decide) (hts (.fieldLink RX3 9 "AlmanacHouse$Sheet" "days" "[I") (List.mem_of_getElem? (i := 2) rfl)) (fun _ h9 => h9) rfl dX3_addDaysTo_17 ?_
        refine q_alen (z := 8) hx hb hK hPic.2 0 rfl (by rfl) dX3_addDaysTo_20 ?_
        refine q_icmp_ge (tgt := 45) hx hb dX3_addDaysTo_21 (by decide) (by omega) (by omega) (fun c_2 => ?_) (fun c_2 => ?_)
        · skip
          refine lv_lload_n hx hb dX3_addDaysTo_45 rfl (lv_at hl 2 rfl) ?_
          exact q_lret hx hb hr hlocks (by rw [hdg2]; congr 1; omega) dX3_addDaysTo_46
        · skip
          refine lv_lload_n hx hb dX3_addDaysTo_24 rfl (lv_at hl 2 rfl) ?_
          refine lv_ldc2 hx hb hown (hts (.constantLong RX3 22 (31)) (List.mem_of_getElem? (i := 3) rfl)) dX3_addDaysTo_25 ?_
          refine lv_lmul hx hb dX3_addDaysTo_28 ?_
          refine lv_aload_n hx hb dX3_addDaysTo_29 rfl (lv_at hl 0 rfl) ?_
          refine q_get (ci := 5) (C := RX3) (T := TX3) (N := 4) hx hb hts hin_X3 hown hK (v := .ref da) hPic.1 rfl 1 (by decide) (hts (.fieldLink RX3 9 "AlmanacHouse$Sheet" "days" "[I") (List.mem_of_getElem? (i := 2) rfl)) (fun _ h9 => h9) rfl dX3_addDaysTo_30 ?_
          refine lv_iload hx hb dX3_addDaysTo_33 (lv_at hl 3 rfl) ?_
          refine q_iald (cA := cI) (n := 8) (f := dy) hx hb hK hPic.2 0 rfl (by omega) (by decide) dX3_addDaysTo_35 ?_
          refine lv_i2l hx hb dX3_addDaysTo_36 rfl ?_
          refine lv_ladd hx hb dX3_addDaysTo_37 ?_
          refine lv_lstore_n (lv' := [(3, .long (((dg) * (31)) + ((iI (dy (Int.toNat (k)))).toInt64))), (0, .ref sa), (1, .long (d)), (5, .int (iI (k)))]) hx hb dX3_addDaysTo_38 rfl hl (by decide) rfl (fun ls hl => ?_)
          refine q_iinc (k := 3) (lv' := [(5, .int (iI (k + 1))), (3, .long (((dg) * (31)) + ((iI (dy (Int.toNat (k)))).toInt64))), (0, .ref sa), (1, .long (d))]) hx hb dX3_addDaysTo_39 hl rfl (by decide) rfl (fun ls hl => ?_)
          refine lv_goto (tgt := 5) hx hb dX3_addDaysTo_42 (by decide) ?_
          have hst := d_t_step dy d hk.1
          exact ih_5 _ _ (by omega) (by rw [hst, hdg2]) (by omega) _ (lv_sub hl [2, 3, 1, 0] rfl)
  exact key_5 (hd.toNat + 1) _ _ (by omega) (by rfl) (by omega) _ (lv_sub hl [2, 3, 1, 0] rfl)
set_option maxHeartbeats 4000000 in
set_option maxRecDepth 100000 in
theorem c_digest (l : Launch) (D : va_G) (cI cO cL : ClassId) (g : Nat → Nat) (σ T P : Nat → Int) (hW : WF σ T) (hS : WS σ P) : ML l yX5_digest wsX5_digest 7 152 D (ty3 cI cO cL) (PicC D cI cO g σ T P) [.ref (g 0)] (m_digest σ T P) := by
  refine ML_of (cc := cX5_digest) (maxL := 5) (ret := (some .long)) (by decide) rfl (Nat.le_of_ble_eq_true rfl) ?_
  intro p e s m args below meth c ls hx hb hr hlocks hml hown hts hPic hK hl
  have hl : lv_has ls 5 [(0, .ref (g 0))] := hl
  have hin_X5 : ∀ w ∈ u_ws RX5 TX5 7, w ∈ wsX5_digest := (fun w h => List.mem_cons_of_mem _ (List.mem_append_left _ (List.mem_append_left _ (List.mem_append_left _ (List.mem_append_left _ (List.mem_append_left _ (List.mem_append_left _ (List.mem_append_left _ (List.mem_append_right _ h)))))))))
  obtain ⟨w0, w1, w2, w3, w4, w5, w6, w7, w8⟩ := id hW
  refine lv_ldc2 hx hb hown (hts (.constantLong RX5 252 (827)) (List.mem_of_getElem? (i := 1) rfl)) dX5_digest_0 ?_
  refine lv_lstore_n (lv' := [(1, .long (827)), (0, .ref (g 0))]) hx hb dX5_digest_3 rfl hl (by decide) rfl (fun ls hl => ?_)
  refine q_iconst hx hb dX5_digest_4 ?_
  refine lv_istore_n (lv' := [(3, .int (iI (0))), (1, .long (827)), (0, .ref (g 0))]) hx hb dX5_digest_5 rfl hl (by decide) rfl (fun ls hl => ?_)
  have key_6 : ∀ (fu : Nat) (k : Int) (dg : Int64), 0 ≤ k ∧ k ≤ 11 → dg = d_t (fun w => m_count σ T P (w : Int)) 827 k.toNat → (((11 - k).toNat : Int)) < (fu : Int) → ∀ ls : Array Slot, lv_has ls 5 [(0, .ref (g 0)), (1, .long (dg)), (3, .int (iI (k)))] → W p l e { frames := 7, cells := 0, slots := 0, locals := 152 } s m args below meth c s.heap [] 0 0 (MQ below (vp_Sl (fun r => r = m_digest σ T P)) args s 0 0 (fun _ => False)) (F0 m 6 ls []) := by
    intro fu
    induction fu with
    | zero => intro k dg hk hdg2 hm_6 ls hl; exact absurd hm_6 (by omega)
    | succ fu ih_6 =>
      intro k dg hk hdg2 hm_6 ls hl
      refine lv_iload_n hx hb dX5_digest_6 rfl (lv_at hl 2 rfl) ?_
      refine q_bipush hx hb dX5_digest_7 (by decide) ?_
      refine q_icmp_ge (tgt := 31) hx hb dX5_digest_9 (by decide) (by omega) (by omega) (fun c_1 => ?_) (fun c_1 => ?_)
      · skip
        refine q_iconst hx hb dX5_digest_31 ?_
        refine lv_istore_n (lv' := [(3, .int (iI (0))), (0, .ref (g 0)), (1, .long (dg))]) hx hb dX5_digest_32 rfl hl (by decide) rfl (fun ls hl => ?_)
        have key_33 : ∀ (fu : Nat) (k : Int) (dg : Int64), 0 ≤ k ∧ k ≤ σ 6 → dg = d_t T (d_t (fun w => m_count σ T P (w : Int)) 827 11) (5 * k.toNat) → (((σ 6 - k).toNat : Int)) < (fu : Int) → ∀ ls : Array Slot, lv_has ls 5 [(0, .ref (g 0)), (1, .long (dg)), (3, .int (iI (k)))] → W p l e { frames := 7, cells := 0, slots := 0, locals := 152 } s m args below meth c s.heap [] 0 0 (MQ below (vp_Sl (fun r => r = m_digest σ T P)) args s 0 0 (fun _ => False)) (F0 m 33 ls []) := by
          intro fu
          induction fu with
          | zero => intro k dg hk hdg2 hm_33 ls hl; exact absurd hm_33 (by omega)
          | succ fu ih_33 =>
            intro k dg hk hdg2 hm_33 ls hl
            refine lv_iload_n hx hb dX5_digest_33 rfl (lv_at hl 2 rfl) ?_
            refine lv_aload_n hx hb dX5_digest_34 rfl (lv_at hl 0 rfl) ?_
            refine q_get (ci := 7) (C := RX5) (T := TX5) (N := 7) hx hb hts hin_X5 hown hK (v := .ref (g 4)) hPic.base.at0 rfl 3 (by decide) (hts (.fieldLink RX5 33 "AlmanacHouse" "feasts" "Ljava/util/ArrayList;") (List.mem_of_getElem? (i := 3) rfl)) (fun _ h9 => h9) rfl dX5_digest_35 ?_
            refine q_callV (fr := 0) (lo := 0) (nL := 5) (Pic := ob D (g 4) 1 [.int (iI (σ 6)), .ref (g 6), .int (iI (σ 6))]) (As := []) (rest := [.int (iI (k))]) ⟨hx, hb, hml, hown, hts⟩ (c_size l D (ty3 cI cO cL) (g 4) (g 6) (σ 6) (σ 6)) (cwV 0 hts gX5_digest_Jx4a65c_size_8abf5 rfl rfl rfl (by decide +kernel) ⟨Nat.le_of_ble_eq_true rfl, Nat.le_of_ble_eq_true rfl⟩) (ob_recv hPic.base.at4 hK rfl) hPic.base.at4 hK rfl hl.1 rfl (Nat.le_of_ble_eq_true rfl) dX5_digest_38 (Nat.zero_le _) (Nat.zero_le _) ?_
            refine q_icmp_ge (tgt := 66) hx hb dX5_digest_41 (by decide) (by omega) (by omega) (fun c_2 => ?_) (fun c_2 => ?_)
            · skip
              refine q_iconst hx hb dX5_digest_66 ?_
              refine lv_istore_n (lv' := [(3, .int (iI (0))), (0, .ref (g 0)), (1, .long (dg))]) hx hb dX5_digest_67 rfl hl (by decide) rfl (fun ls hl => ?_)
              have key_68 : ∀ (fu : Nat) (k : Int) (dg : Int64), 0 ≤ k ∧ k ≤ σ 7 → dg = d_s σ T P (d_t T (d_t (fun w => m_count σ T P (w : Int)) 827 11) (5 * (σ 6).toNat)) k.toNat → (((σ 7 - k).toNat : Int)) < (fu : Int) → ∀ ls : Array Slot, lv_has ls 5 [(0, .ref (g 0)), (1, .long (dg)), (3, .int (iI (k)))] → W p l e { frames := 7, cells := 0, slots := 0, locals := 152 } s m args below meth c s.heap [] 0 0 (MQ below (vp_Sl (fun r => r = m_digest σ T P)) args s 0 0 (fun _ => False)) (F0 m 68 ls []) := by
                intro fu
                induction fu with
                | zero => intro k dg hk hdg3 hm_68 ls hl; exact absurd hm_68 (by omega)
                | succ fu ih_68 =>
                  intro k dg hk hdg3 hm_68 ls hl
                  refine lv_iload_n hx hb dX5_digest_68 rfl (lv_at hl 2 rfl) ?_
                  refine lv_aload_n hx hb dX5_digest_69 rfl (lv_at hl 0 rfl) ?_
                  refine q_get (ci := 7) (C := RX5) (T := TX5) (N := 7) hx hb hts hin_X5 hown hK (v := .ref (g 5)) hPic.base.at0 rfl 4 (by decide) (hts (.fieldLink RX5 37 "AlmanacHouse" "sheets" "Ljava/util/ArrayList;") (List.mem_of_getElem? (i := 5) rfl)) (fun _ h9 => h9) rfl dX5_digest_70 ?_
                  refine q_callV (fr := 0) (lo := 0) (nL := 5) (Pic := ob D (g 5) 1 [.int (iI (σ 7)), .ref (g 7), .int (iI (σ 7))]) (As := []) (rest := [.int (iI (k))]) ⟨hx, hb, hml, hown, hts⟩ (c_size l D (ty3 cI cO cL) (g 5) (g 7) (σ 7) (σ 7)) (cwV 0 hts gX5_digest_Jx4a65c_size_8abf5 rfl rfl rfl (by decide +kernel) ⟨Nat.le_of_ble_eq_true rfl, Nat.le_of_ble_eq_true rfl⟩) (ob_recv hPic.base.at5 hK rfl) hPic.base.at5 hK rfl hl.1 rfl (Nat.le_of_ble_eq_true rfl) dX5_digest_73 (Nat.zero_le _) (Nat.zero_le _) ?_
                  refine q_icmp_ge (tgt := 131) hx hb dX5_digest_76 (by decide) (by omega) (by omega) (fun c_3 => ?_) (fun c_3 => ?_)
                  · skip
                    refine lv_lload_n hx hb dX5_digest_131 rfl (lv_at hl 1 rfl) ?_
                    exact q_lret hx hb hr hlocks (by unfold m_digest; rw [hdg3, show k.toNat = (σ 7).toNat by omega]) dX5_digest_132
                  · skip
                    refine q_iconst hx hb dX5_digest_79 ?_
                    refine lv_istore (lv' := [(4, .int (iI (0))), (0, .ref (g 0)), (1, .long (dg)), (3, .int (iI (k)))]) hx hb dX5_digest_80 hl (by decide) rfl (fun ls hl => ?_)
                    have key_82 : ∀ (fu : Nat) (k2 : Int) (dg2 : Int64), 0 ≤ k2 ∧ k2 ≤ 5 → dg2 = d_t (fun w => m_told σ T P k.toNat (w : Int)) (d_s σ T P (d_t T (d_t (fun w => m_count σ T P (w : Int)) 827 11) (5 * (σ 6).toNat)) k.toNat) k2.toNat → (((5 - k2).toNat : Int)) < (fu : Int) → ∀ ls : Array Slot, lv_has ls 5 [(0, .ref (g 0)), (1, .long (dg2)), (3, .int (iI (k))), (4, .int (iI (k2)))] → W p l e { frames := 7, cells := 0, slots := 0, locals := 152 } s m args below meth c s.heap [] 0 0 (MQ below (vp_Sl (fun r => r = m_digest σ T P)) args s 0 0 (fun _ => False)) (F0 m 82 ls []) := by
                      intro fu
                      induction fu with
                      | zero => intro k2 dg2 hk2 hdg4 hm_82 ls hl; exact absurd hm_82 (by omega)
                      | succ fu ih_82 =>
                        intro k2 dg2 hk2 hdg4 hm_82 ls hl
                        refine lv_iload hx hb dX5_digest_82 (lv_at hl 3 rfl) ?_
                        refine q_iconst hx hb dX5_digest_84 ?_
                        refine q_icmp_ge (tgt := 109) hx hb dX5_digest_85 (by decide) (by omega) (by omega) (fun c_4 => ?_) (fun c_4 => ?_)
                        · skip
                          refine lv_aload_n hx hb dX5_digest_109 rfl (lv_at hl 0 rfl) ?_
                          refine q_get (ci := 7) (C := RX5) (T := TX5) (N := 7) hx hb hts hin_X5 hown hK (v := .ref (g 5)) hPic.base.at0 rfl 4 (by decide) (hts (.fieldLink RX5 37 "AlmanacHouse" "sheets" "Ljava/util/ArrayList;") (List.mem_of_getElem? (i := 5) rfl)) (fun _ h9 => h9) rfl dX5_digest_110 ?_
                          refine lv_iload_n hx hb dX5_digest_113 rfl (lv_at hl 2 rfl) ?_
                          refine q_callVq (fr := 2) (lo := 43) (nL := 5) (Pic := fun H => ob D (g 5) 1 [.int (iI (σ 7)), .ref (g 7), .int (iI (σ 7))] H ∧ ar D (g 7) (cO, 10, .inr (.inr (.inr (.inr (fun j => if j < (σ 7).toNat then some (g (20 + j)) else none))))) H) (As := [.int (iI (k))]) (rest := []) ⟨hx, hb, hml, hown, hts⟩ (c_get l D cI cO cL (g 5) (g 7) (g (20 + (k).toNat)) (σ 7) (σ 7) (k) (fun j => if j < (σ 7).toNat then some (g (20 + j)) else none) (by omega) (by omega) (if_pos (by omega))) (cwV 1 hts gX5_digest_Jx4a65c_get_915e3 rfl rfl rfl (by decide +kernel) ⟨Nat.le_of_ble_eq_true rfl, Nat.le_of_ble_eq_true rfl⟩) (ob_recv hPic.base.at5 hK rfl) ⟨hPic.base.at5, hPic.arr (by omega)⟩ hK rfl hl.1 rfl (Nat.le_of_ble_eq_true rfl) dX5_digest_114 (Nat.zero_le _) (Nat.zero_le _) ?_
                          refine q_cast (ci := 5) (T := TX3) (N := 4) hx hb hown (hts (.classLink RX5 198 "AlmanacHouse$Sheet") (List.mem_of_getElem? (i := 6) rfl)) hK (hPic.so (j := (k).toNat) (by omega)) rfl dX5_digest_117 ?_
                          obtain ⟨s1, s2, s3, s4⟩ := hS k.toNat (by omega)
                          refine lv_lload_n hx hb dX5_digest_120 rfl (lv_at hl 1 rfl) ?_
                          refine q_callVl (fr := 0) (lo := 0) (nL := 5) (Pic := fun H => ob D (g (20 + (k).toNat)) 5 [.int (iI (P (11 * (k).toNat))), .ref (g (40 + (k).toNat)), .int (iI (P (11 * (k).toNat + 1))), .int (iI (P (11 * (k).toNat + 2)))] H ∧ ar D (g (40 + (k).toNat)) (cI, 8, .inl (fun i => iI ((fun i => P (11 * (k).toNat + 3 + i)) i))) H) (As := [.long (dg2)]) (rest := []) ⟨hx, hb, hml, hown, hts⟩ (c_addDaysTo l D cI cO cL (g (20 + (k).toNat)) (g (40 + (k).toNat)) (P (11 * (k).toNat)) (P (11 * (k).toNat + 1)) (P (11 * (k).toNat + 2)) (fun i => P (11 * (k).toNat + 3 + i)) (dg2) (by omega)) (cwV 1 hts gX5_digest_X3_addDaysTo rfl rfl rfl (by decide +kernel) ⟨Nat.le_of_ble_eq_true rfl, Nat.le_of_ble_eq_true rfl⟩) (ob_recv (hPic.so (j := (k).toNat) (by omega)) hK rfl) ⟨(hPic.so (j := (k).toNat) (by omega)), (hPic.sd (j := (k).toNat) (by omega))⟩ hK rfl hl.1 rfl (Nat.le_of_ble_eq_true rfl) dX5_digest_121 (Nat.zero_le _) (Nat.zero_le _) ?_
                          refine lv_lstore_n (lv' := [(1, .long (d_t (fun i => P (11 * (k).toNat + 3 + i)) (dg2) (Int.toNat (P (11 * (k).toNat + 1))))), (0, .ref (g 0)), (3, .int (iI (k))), (4, .int (iI (k2)))]) hx hb dX5_digest_124 rfl hl (by decide) rfl (fun ls hl => ?_)
                          refine q_iinc (k := 2) (lv' := [(3, .int (iI (k + 1))), (1, .long (d_t (fun i => P (11 * (k).toNat + 3 + i)) (dg2) (Int.toNat (P (11 * (k).toNat + 1))))), (0, .ref (g 0)), (4, .int (iI (k2)))]) hx hb dX5_digest_125 hl rfl (by decide) rfl (fun ls hl => ?_)
                          refine lv_goto (tgt := 68) hx hb dX5_digest_128 (by decide) ?_
                          have hst := d_s_step σ T P (d_t T (d_t (fun w => m_count σ T P (w : Int)) 827 11) (5 * (σ 6).toNat)) hk.1
                          exact ih_68 _ _ (by omega) (by rw [hst, hdg4, show k2.toNat = 5 by omega]) (by omega) _ (lv_sub hl [2, 1, 0] rfl)
                        · skip
                          refine lv_lload_n hx hb dX5_digest_88 rfl (lv_at hl 1 rfl) ?_
                          refine lv_ldc2 hx hb hown (hts (.constantLong RX5 254 (31)) (List.mem_of_getElem? (i := 2) rfl)) dX5_digest_89 ?_
                          refine lv_lmul hx hb dX5_digest_92 ?_
                          refine lv_aload_n hx hb dX5_digest_93 rfl (lv_at hl 0 rfl) ?_
                          refine lv_iload_n hx hb dX5_digest_94 rfl (lv_at hl 2 rfl) ?_
                          refine lv_iload hx hb dX5_digest_95 (lv_at hl 3 rfl) ?_
                          refine q_callV (fr := 5) (lo := 109) (nL := 5) (Pic := PicC D cI cO g σ T P) (As := [.int (iI (k)), .int (iI (k2))]) (rest := [.long ((dg2) * (31))]) ⟨hx, hb, hml, hown, hts⟩ (c_sheetOk l D cI cO cL g σ T P hW hS (k) (k2) (by omega) (by omega)) (cwV 2 hts gX5_digest_X5_sheet rfl rfl rfl (by decide +kernel) ⟨Nat.le_of_ble_eq_true rfl, Nat.le_of_ble_eq_true rfl⟩) (ob_recv hPic.base.at0 hK rfl) hPic hK rfl hl.1 rfl (Nat.le_of_ble_eq_true rfl) dX5_digest_97 (Nat.zero_le _) (Nat.zero_le _) ?_
                          refine lv_i2l hx hb dX5_digest_100 rfl ?_
                          refine lv_ladd hx hb dX5_digest_101 ?_
                          refine lv_lstore_n (lv' := [(1, .long (((dg2) * (31)) + ((iI (m_told σ T P (Int.toNat (k)) (k2))).toInt64))), (0, .ref (g 0)), (3, .int (iI (k))), (4, .int (iI (k2)))]) hx hb dX5_digest_102 rfl hl (by decide) rfl (fun ls hl => ?_)
                          refine q_iinc (k := 3) (lv' := [(4, .int (iI (k2 + 1))), (1, .long (((dg2) * (31)) + ((iI (m_told σ T P (Int.toNat (k)) (k2))).toInt64))), (0, .ref (g 0)), (3, .int (iI (k)))]) hx hb dX5_digest_103 hl rfl (by decide) rfl (fun ls hl => ?_)
                          refine lv_goto (tgt := 82) hx hb dX5_digest_106 (by decide) ?_
                          have hst2 := d_t_step (fun w => m_told σ T P k.toNat (w : Int)) (d_s σ T P (d_t T (d_t (fun w => m_count σ T P (w : Int)) 827 11) (5 * (σ 6).toNat)) k.toNat) hk2.1
                          exact ih_82 _ _ (by omega) (by rw [hst2, hdg4]; rw [show ((k2.toNat : Nat) : Int) = k2 by omega]) (by omega) _ (lv_sub hl [2, 1, 3, 0] rfl)
                    exact key_82 (6) _ _ (by omega) (by rw [hdg3]; rfl) (by omega) _ (lv_sub hl [1, 2, 3, 0] rfl)
              exact key_68 ((σ 7).toNat + 1) _ _ (by omega) (by rw [hdg2, show k.toNat = (σ 6).toNat by omega]; rfl) (by omega) _ (lv_sub hl [1, 2, 0] rfl)
            · skip
              refine lv_aload_n hx hb dX5_digest_44 rfl (lv_at hl 0 rfl) ?_
              refine q_get (ci := 7) (C := RX5) (T := TX5) (N := 7) hx hb hts hin_X5 hown hK (v := .ref (g 4)) hPic.base.at0 rfl 3 (by decide) (hts (.fieldLink RX5 33 "AlmanacHouse" "feasts" "Ljava/util/ArrayList;") (List.mem_of_getElem? (i := 3) rfl)) (fun _ h9 => h9) rfl dX5_digest_45 ?_
              refine lv_iload_n hx hb dX5_digest_48 rfl (lv_at hl 2 rfl) ?_
              refine q_callVq (fr := 2) (lo := 43) (nL := 5) (Pic := fun H => ob D (g 4) 1 [.int (iI (σ 6)), .ref (g 6), .int (iI (σ 6))] H ∧ ar D (g 6) (cO, 10, .inr (.inr (.inr (.inr (fun j => if j < (σ 6).toNat then some (g (10 + j)) else none))))) H) (As := [.int (iI (k))]) (rest := []) ⟨hx, hb, hml, hown, hts⟩ (c_get l D cI cO cL (g 4) (g 6) (g (10 + (k).toNat)) (σ 6) (σ 6) (k) (fun j => if j < (σ 6).toNat then some (g (10 + j)) else none) (by omega) (by omega) (if_pos (by omega))) (cwV 1 hts gX5_digest_Jx4a65c_get_915e3 rfl rfl rfl (by decide +kernel) ⟨Nat.le_of_ble_eq_true rfl, Nat.le_of_ble_eq_true rfl⟩) (ob_recv hPic.base.at4 hK rfl) ⟨hPic.base.at4, hPic.base.arr (by omega)⟩ hK rfl hl.1 rfl (Nat.le_of_ble_eq_true rfl) dX5_digest_49 (Nat.zero_le _) (Nat.zero_le _) ?_
              refine q_cast (ci := 2) (T := TX0) (N := 5) hx hb hown (hts (.classLink RX5 173 "AlmanacHouse$Feast") (List.mem_of_getElem? (i := 4) rfl)) hK (hPic.base.fe (i := (k).toNat) (by omega)) rfl dX5_digest_52 ?_
              refine lv_lload_n hx hb dX5_digest_55 rfl (lv_at hl 1 rfl) ?_
              refine q_callVl (fr := 0) (lo := 0) (nL := 5) (Pic := ob D (g (10 + (k).toNat)) 2 [.int (iI (T (5 * ((k).toNat)))), .int (iI (T (5 * ((k).toNat) + 1))), .int (iI (T (5 * ((k).toNat) + 2))), .int (iI (T (5 * ((k).toNat) + 3))), .int (iI (T (5 * ((k).toNat) + 4)))]) (As := [.long (dg)]) (rest := []) ⟨hx, hb, hml, hown, hts⟩ (c_addTo l D (ty3 cI cO cL) (g (10 + (k).toNat)) (dg) (T (5 * ((k).toNat))) (T (5 * ((k).toNat) + 1)) (T (5 * ((k).toNat) + 2)) (T (5 * ((k).toNat) + 3)) (T (5 * ((k).toNat) + 4))) (cwV 1 hts gX5_digest_X0_addTo rfl rfl rfl (by decide +kernel) ⟨Nat.le_of_ble_eq_true rfl, Nat.le_of_ble_eq_true rfl⟩) (ob_recv (hPic.base.fe (i := (k).toNat) (by omega)) hK rfl) (hPic.base.fe (i := (k).toNat) (by omega)) hK rfl hl.1 rfl (Nat.le_of_ble_eq_true rfl) dX5_digest_56 (Nat.zero_le _) (Nat.zero_le _) ?_
              refine lv_lstore_n (lv' := [(1, .long ((((((dg) * 31 + (iI (T (5 * ((k).toNat)))).toInt64) * 31 + (iI (T (5 * ((k).toNat) + 1))).toInt64) * 31 + (iI (T (5 * ((k).toNat) + 2))).toInt64) * 31 + (iI (T (5 * ((k).toNat) + 3))).toInt64) * 31 + (iI (T (5 * ((k).toNat) + 4))).toInt64)), (0, .ref (g 0)), (3, .int (iI (k)))]) hx hb dX5_digest_59 rfl hl (by decide) rfl (fun ls hl => ?_)
              refine q_iinc (k := 2) (lv' := [(3, .int (iI (k + 1))), (1, .long ((((((dg) * 31 + (iI (T (5 * ((k).toNat)))).toInt64) * 31 + (iI (T (5 * ((k).toNat) + 1))).toInt64) * 31 + (iI (T (5 * ((k).toNat) + 2))).toInt64) * 31 + (iI (T (5 * ((k).toNat) + 3))).toInt64) * 31 + (iI (T (5 * ((k).toNat) + 4))).toInt64)), (0, .ref (g 0))]) hx hb dX5_digest_60 hl rfl (by decide) rfl (fun ls hl => ?_)
              refine lv_goto (tgt := 33) hx hb dX5_digest_63 (by decide) ?_
              have hst := d_t_five T (d_t (fun w => m_count σ T P (w : Int)) 827 11) hk.1
              exact ih_33 _ _ (by omega) (by rw [hst, hdg2]) (by omega) _ (lv_sub hl [2, 1, 0] rfl)
        have hk11 : k.toNat = 11 := by omega
        rw [hk11] at hdg2
        exact key_33 ((σ 6).toNat + 1) _ _ (by omega) (by rw [hdg2]; rfl) (by omega) _ (lv_sub hl [1, 2, 0] rfl)
      · skip
        refine lv_lload_n hx hb dX5_digest_12 rfl (lv_at hl 1 rfl) ?_
        refine lv_ldc2 hx hb hown (hts (.constantLong RX5 254 (31)) (List.mem_of_getElem? (i := 2) rfl)) dX5_digest_13 ?_
        refine lv_lmul hx hb dX5_digest_16 ?_
        refine lv_aload_n hx hb dX5_digest_17 rfl (lv_at hl 0 rfl) ?_
        refine lv_iload_n hx hb dX5_digest_18 rfl (lv_at hl 2 rfl) ?_
        refine q_callV (fr := 6) (lo := 131) (nL := 5) (Pic := PicC D cI cO g σ T P) (As := [.int (iI (k))]) (rest := [.long ((dg) * (31))]) ⟨hx, hb, hml, hown, hts⟩ (c_countOk l D cI cO cL g σ T P hW hS (k) (by omega)) (cwV 1 hts gX5_digest_X5_count rfl rfl rfl (by decide +kernel) ⟨Nat.le_of_ble_eq_true rfl, Nat.le_of_ble_eq_true rfl⟩) (ob_recv hPic.base.at0 hK rfl) hPic hK rfl hl.1 rfl (Nat.le_of_ble_eq_true rfl) dX5_digest_19 (Nat.zero_le _) (Nat.zero_le _) ?_
        refine lv_i2l hx hb dX5_digest_22 rfl ?_
        refine lv_ladd hx hb dX5_digest_23 ?_
        refine lv_lstore_n (lv' := [(1, .long (((dg) * (31)) + ((iI (m_count σ T P (k))).toInt64))), (0, .ref (g 0)), (3, .int (iI (k)))]) hx hb dX5_digest_24 rfl hl (by decide) rfl (fun ls hl => ?_)
        refine q_iinc (k := 2) (lv' := [(3, .int (iI (k + 1))), (1, .long (((dg) * (31)) + ((iI (m_count σ T P (k))).toInt64))), (0, .ref (g 0))]) hx hb dX5_digest_25 hl rfl (by decide) rfl (fun ls hl => ?_)
        refine lv_goto (tgt := 6) hx hb dX5_digest_28 (by decide) ?_
        have hst := d_t_step (fun w => m_count σ T P (w : Int)) 827 hk.1
        exact ih_6 _ _ (by omega) (by rw [hst, hdg2]; rw [show ((k.toNat : Nat) : Int) = k by omega]) (by omega) _ (lv_sub hl [2, 1, 0] rfl)
  exact key_6 (12) _ _ (by omega) (by rfl) (by omega) _ (lv_sub hl [2, 1, 0] rfl)
set_option maxHeartbeats 4000000 in
set_option maxRecDepth 100000 in
theorem c_mean (l : Launch) (D : va_G) (cI cO cL : ClassId) (g : Nat → Nat) (σ T : Nat → Int) (hW : WF σ T) : MD l yX5_mean wsX5_mean 0 0 D (ty3 cI cO cL) (PicB D cO g σ T) [.ref (g 0)] (m_mean σ) := by
  refine MD_of (cc := cX5_mean) (maxL := 1) (ret := (some .double)) (by decide) rfl (Nat.le_of_ble_eq_true rfl) ?_
  intro p e s m args below meth c ls hx hb hr hlocks hml hown hts hPic hK hl
  have hl : lv_has ls 1 [(0, .ref (g 0))] := hl
  have hin_X5 : ∀ w ∈ u_ws RX5 TX5 7, w ∈ wsX5_mean := (fun w h => List.mem_cons_of_mem _ (List.mem_append_left _ (List.mem_append_right _ h)))
  have hin_X4 : ∀ w ∈ u_ws RX4 TX4 2, w ∈ wsX5_mean := (fun w h => List.mem_cons_of_mem _ (List.mem_append_right _ h))
  obtain ⟨w0, w1, w2, w3, w4, w5, w6, w7, w8⟩ := id hW
  refine lv_aload_n hx hb dX5_mean_0 rfl (lv_at hl 0 rfl) ?_
  refine q_get (ci := 7) (C := RX5) (T := TX5) (N := 7) hx hb hts hin_X5 hown hK (v := .ref (g 1)) hPic.at0 rfl 0 (by decide) (hts (.fieldLink RX5 10 "AlmanacHouse" "years" "LAlmanacHouse$Years;") (List.mem_of_getElem? (i := 1) rfl)) (fun _ h9 => h9) rfl dX5_mean_1 ?_
  refine q_get (ci := 6) (C := RX4) (T := TX4) (N := 2) hx hb hts hin_X4 hown hK (v := .int (iI (σ 0))) hPic.at1 rfl 0 (by decide) (hts (.fieldLink RX5 47 "AlmanacHouse$Years" "cycle" "I") (List.mem_of_getElem? (i := 2) rfl)) (fun _ h9 => h9) rfl dX5_mean_4 ?_
  refine q_iconst hx hb dX5_mean_7 ?_
  refine q_icmp_ge (tgt := 17) hx hb dX5_mean_8 (by decide) (by omega) (by omega) (fun c_1 => ?_) (fun c_1 => ?_)
  · skip
    refine lv_ldc2d hx hb hown (hts (.constantDouble RX5 250 (4645128764097822720)) (List.mem_of_getElem? (i := 3) rfl)) dX5_mean_17 ?_
    refine lv_aload_n hx hb dX5_mean_20 rfl (lv_at hl 0 rfl) ?_
    refine q_get (ci := 7) (C := RX5) (T := TX5) (N := 7) hx hb hts hin_X5 hown hK (v := .ref (g 1)) hPic.at0 rfl 0 (by decide) (hts (.fieldLink RX5 10 "AlmanacHouse" "years" "LAlmanacHouse$Years;") (List.mem_of_getElem? (i := 1) rfl)) (fun _ h9 => h9) rfl dX5_mean_21 ?_
    refine q_get (ci := 6) (C := RX4) (T := TX4) (N := 2) hx hb hts hin_X4 hown hK (v := .int (iI (σ 1))) hPic.at1 rfl 1 (by decide) (hts (.fieldLink RX5 51 "AlmanacHouse$Years" "leaps" "I") (List.mem_of_getElem? (i := 4) rfl)) (fun _ h9 => h9) rfl dX5_mean_24 ?_
    refine lv_i2d hx hb dX5_mean_27 ?_
    refine lv_aload_n hx hb dX5_mean_28 rfl (lv_at hl 0 rfl) ?_
    refine q_get (ci := 7) (C := RX5) (T := TX5) (N := 7) hx hb hts hin_X5 hown hK (v := .ref (g 1)) hPic.at0 rfl 0 (by decide) (hts (.fieldLink RX5 10 "AlmanacHouse" "years" "LAlmanacHouse$Years;") (List.mem_of_getElem? (i := 1) rfl)) (fun _ h9 => h9) rfl dX5_mean_29 ?_
    refine q_get (ci := 6) (C := RX4) (T := TX4) (N := 2) hx hb hts hin_X4 hown hK (v := .int (iI (σ 0))) hPic.at1 rfl 0 (by decide) (hts (.fieldLink RX5 47 "AlmanacHouse$Years" "cycle" "I") (List.mem_of_getElem? (i := 2) rfl)) (fun _ h9 => h9) rfl dX5_mean_32 ?_
    refine lv_i2d hx hb dX5_mean_35 ?_
    refine lv_ddiv hx hb dX5_mean_36 (f_div (by omega) w0) ?_
    refine lv_dadd hx hb dX5_mean_37 (f_mean (by omega) w0) ?_
    exact q_dret hx hb hr hlocks (rfl) dX5_mean_38
  · exfalso
    omega
