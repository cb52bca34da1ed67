/-! ===== what the start gives: statics, tables, classes ===== -/
set_option maxRecDepth 100000 in
theorem tw_ls_list : Cond.laysStatic "java/util/ArrayList" "DEFAULTCAPACITY_EMPTY_ELEMENTDATA" "[Ljava/lang/Object;" ∈ tables_1 := List.mem_of_getElem? (i := 97) (by decide +kernel)
set_option maxRecDepth 100000 in
theorem tw_in_ArrayList : Cond.initialized "java/util/ArrayList" ∈ tables_1 := List.mem_of_getElem? (i := 7) (by decide +kernel)
set_option maxRecDepth 100000 in
theorem tw_ls_unas : Cond.laysStatic "java/lang/Throwable" "UNASSIGNED_STACK" "[Ljava/lang/StackTraceElement;" ∈ tables_1 := List.mem_of_getElem? (i := 240) (by decide +kernel)
set_option maxRecDepth 100000 in
theorem tw_in_Throwable : Cond.initialized "java/lang/Throwable" ∈ tables_1 := List.mem_of_getElem? (i := 9) (by decide +kernel)
set_option maxRecDepth 100000 in
theorem tw_ls_supp : Cond.laysStatic "java/lang/Throwable" "SUPPRESSED_SENTINEL" "Ljava/util/List;" ∈ tables_1 := List.mem_of_getElem? (i := 242) (by decide +kernel)
set_option maxRecDepth 100000 in
theorem tw_ls_comp : Cond.laysStatic "java/lang/String" "COMPACT_STRINGS" "Z" ∈ tables_1 := List.mem_of_getElem? (i := 834) (by decide +kernel)
set_option maxRecDepth 100000 in
theorem tw_in_String : Cond.initialized "java/lang/String" ∈ tables_1 := List.mem_of_getElem? (i := 17) (by decide +kernel)
set_option maxRecDepth 100000 in
theorem tw_ls_ones : Cond.laysStatic "java/lang/Integer" "DigitOnes" "[B" ∈ tables_1 := List.mem_of_getElem? (i := 893) (by decide +kernel)
set_option maxRecDepth 100000 in
theorem tw_in_Integer : Cond.initialized "java/lang/Integer" ∈ tables_1 := List.mem_of_getElem? (i := 20) (by decide +kernel)
set_option maxRecDepth 100000 in
theorem tw_ls_tens : Cond.laysStatic "java/lang/Integer" "DigitTens" "[B" ∈ tables_1 := List.mem_of_getElem? (i := 895) (by decide +kernel)
set_option maxRecDepth 100000 in
theorem tw_ls_sio : Cond.laysStatic "jdk/internal/util/Preconditions" "SIOOBE_FORMATTER" "Ljava/util/function/BiFunction;" ∈ tables_1 := List.mem_of_getElem? (i := 909) (by decide +kernel)
set_option maxRecDepth 100000 in
theorem tw_in_Preconditions : Cond.initialized "jdk/internal/util/Preconditions" ∈ tables_1 := List.mem_of_getElem? (i := 24) (by decide +kernel)
set_option maxRecDepth 100000 in
theorem nw_unas : Cond.isRef (.static "java/lang/Throwable" "UNASSIGNED_STACK" "[Ljava/lang/StackTraceElement;") ∈ flatC narrow_1 := List.mem_of_getElem? (i := 6) (by decide +kernel)
set_option maxRecDepth 100000 in
theorem nw_supp : Cond.isRef (.static "java/lang/Throwable" "SUPPRESSED_SENTINEL" "Ljava/util/List;") ∈ flatC narrow_1 := List.mem_of_getElem? (i := 7) (by decide +kernel)
set_option maxRecDepth 100000 in
theorem nw_sio : Cond.isRef (.static "jdk/internal/util/Preconditions" "SIOOBE_FORMATTER" "Ljava/util/function/BiFunction;") ∈ flatC narrow_1 := List.mem_of_getElem? (i := 215) (by decide +kernel)
set_option maxRecDepth 100000 in
theorem nw_listA : Cond.arrayOf (.static "java/util/ArrayList" "DEFAULTCAPACITY_EMPTY_ELEMENTDATA" "[Ljava/lang/Object;") (.object "java/lang/Object") ∈ flatC narrow_1 := List.mem_of_getElem? (i := 3) (by decide +kernel)
set_option maxRecDepth 100000 in
theorem nw_listL : Cond.eq (.length (.static "java/util/ArrayList" "DEFAULTCAPACITY_EMPTY_ELEMENTDATA" "[Ljava/lang/Object;")) (.int 0) ∈ flatC narrow_1 := List.mem_of_getElem? (i := 5) (by decide +kernel)
set_option maxRecDepth 100000 in
theorem nw_comp : Cond.eq (.static "java/lang/String" "COMPACT_STRINGS" "Z") (.int 1) ∈ flatC narrow_1 := List.mem_of_getElem? (i := 8) (by decide +kernel)
set_option maxRecDepth 100000 in
theorem nw_onesA : Cond.arrayOf (.static "java/lang/Integer" "DigitOnes" "[B") .byte ∈ flatC narrow_1 := List.mem_of_getElem? (i := 10) (by decide +kernel)
set_option maxRecDepth 100000 in
theorem nw_onesL : Cond.eq (.length (.static "java/lang/Integer" "DigitOnes" "[B")) (.int 100) ∈ flatC narrow_1 := List.mem_of_getElem? (i := 11) (by decide +kernel)
def nl_ones : List Cond := (List.range 100).map (fun j => Cond.eq (.elem (.static "java/lang/Integer" "DigitOnes" "[B") (.int (Int32.ofNat j))) (.int (iI (48 + ((j % 10 : Nat) : Int)))))
set_option maxRecDepth 100000 in
theorem nl_ones_in : ∀ w ∈ nl_ones, w ∈ flatC narrow_1 := mem_r nl_ones [12, 13, 14, 15, 16, 17, 18, 19, 20, 21, 22, 23, 24, 25, 26, 27, 28, 29, 30, 31, 32, 33, 34, 35, 36, 37, 38, 39, 40, 41, 42, 43, 44, 45, 46, 47, 48, 49, 50, 51, 52, 53, 54, 55, 56, 57, 58, 59, 60, 61, 62, 63, 64, 65, 66, 67, 68, 69, 70, 71, 72, 73, 74, 75, 76, 77, 78, 79, 80, 81, 82, 83, 84, 85, 86, 87, 88, 89, 90, 91, 92, 93, 94, 95, 96, 97, 98, 99, 100, 101, 102, 103, 104, 105, 106, 107, 108, 109, 110, 111] (by decide +kernel)
set_option maxRecDepth 100000 in
theorem nw_tensA : Cond.arrayOf (.static "java/lang/Integer" "DigitTens" "[B") .byte ∈ flatC narrow_1 := List.mem_of_getElem? (i := 113) (by decide +kernel)
set_option maxRecDepth 100000 in
theorem nw_tensL : Cond.eq (.length (.static "java/lang/Integer" "DigitTens" "[B")) (.int 100) ∈ flatC narrow_1 := List.mem_of_getElem? (i := 114) (by decide +kernel)
def nl_tens : List Cond := (List.range 100).map (fun j => Cond.eq (.elem (.static "java/lang/Integer" "DigitTens" "[B") (.int (Int32.ofNat j))) (.int (iI (48 + ((j / 10 : Nat) : Int)))))
set_option maxRecDepth 100000 in
theorem nl_tens_in : ∀ w ∈ nl_tens, w ∈ flatC narrow_1 := mem_r nl_tens [115, 116, 117, 118, 119, 120, 121, 122, 123, 124, 125, 126, 127, 128, 129, 130, 131, 132, 133, 134, 135, 136, 137, 138, 139, 140, 141, 142, 143, 144, 145, 146, 147, 148, 149, 150, 151, 152, 153, 154, 155, 156, 157, 158, 159, 160, 161, 162, 163, 164, 165, 166, 167, 168, 169, 170, 171, 172, 173, 174, 175, 176, 177, 178, 179, 180, 181, 182, 183, 184, 185, 186, 187, 188, 189, 190, 191, 192, 193, 194, 195, 196, 197, 198, 199, 200, 201, 202, 203, 204, 205, 206, 207, 208, 209, 210, 211, 212, 213, 214] (by decide +kernel)
set_option maxRecDepth 100000 in
theorem nw_ncIOIA : Cond.not (.castable nIO nIA) ∈ flatC narrow_1 := List.mem_of_getElem? (i := 225) (by decide +kernel)
set_option maxRecDepth 100000 in
theorem nw_ncIAIO : Cond.not (.castable nIA nIO) ∈ flatC narrow_1 := List.mem_of_getElem? (i := 236) (by decide +kernel)
set_option maxRecDepth 100000 in
theorem nw_ncISIA : Cond.not (.castable nIS nIA) ∈ flatC narrow_1 := List.mem_of_getElem? (i := 227) (by decide +kernel)
set_option maxRecDepth 100000 in
theorem tw_strs : ∀ w ∈ xstrs.map (fun q => Cond.stringRef RX5 q.1 q.2), w ∈ tables_1 := mem_r _ [254, 294, 305, 328, 344, 355, 366, 378, 384, 415, 436, 487, 488, 498, 593, 619, 667, 679] (by decide +kernel)
set_option maxRecDepth 100000 in
theorem nw_strs : ∀ w ∈ xstrs.map (fun q => Cond.exactly (.string RX5 q.1) "java/lang/String"), w ∈ flatC narrow_1 := mem_r _ [253, 276, 294, 318, 352, 373, 395, 417, 441, 464, 494, 520, 572, 613, 648, 679, 717, 763] (by decide +kernel)
set_option maxRecDepth 100000 in
theorem tw_cIA : Cond.castable nIA nIA ∈ tables_1 := List.mem_of_getElem? (i := 321) (by decide +kernel)
set_option maxRecDepth 100000 in
theorem tw_cIO : Cond.castable nIO nIO ∈ tables_1 := List.mem_of_getElem? (i := 215) (by decide +kernel)
set_option maxRecDepth 100000 in
theorem tw_cIS : Cond.castable nIS nIS ∈ tables_1 := List.mem_of_getElem? (i := 491) (by decide +kernel)
set_option maxRecDepth 100000 in
theorem tw_dRT : Cond.declares (Bundle.initS nRT) ∈ tables_1 := List.mem_of_getElem? (i := 217) (by decide +kernel)
set_option maxRecDepth 100000 in
theorem tw_dEx : Cond.declares (Bundle.initS nEx) ∈ tables_1 := List.mem_of_getElem? (i := 219) (by decide +kernel)
set_option maxRecDepth 100000 in
theorem tw_dTh : Cond.declares (Bundle.initS Bundle.tN) ∈ tables_1 := List.mem_of_getElem? (i := 221) (by decide +kernel)
set_option maxRecDepth 100000 in
theorem tw_ao : Cond.arrayOver (.object "java/lang/Object") ∈ tables_1 := List.mem_of_getElem? (i := 578) (by decide +kernel)
set_option maxRecDepth 100000 in
theorem tw_cX0 : Cond.castable RX0 "java/lang/Object" ∈ tables_1 := List.mem_of_getElem? (i := 1131) (by decide +kernel)
set_option maxRecDepth 100000 in
theorem tw_cX3 : Cond.castable RX3 "java/lang/Object" ∈ tables_1 := List.mem_of_getElem? (i := 1132) (by decide +kernel)
set_option maxRecDepth 100000 in
theorem tw_nX4 : Cond.methodLinkNest RX5 9 yX4_init RX5 ∈ tables_1 := List.mem_of_getElem? (i := 40) (by decide +kernel)
set_option maxRecDepth 100000 in
theorem tw_nX1 : Cond.methodLinkNest RX5 18 yX1_init RX5 ∈ tables_1 := List.mem_of_getElem? (i := 55) (by decide +kernel)
set_option maxRecDepth 100000 in
theorem tw_nX2 : Cond.methodLinkNest RX5 25 yX2_init RX5 ∈ tables_1 := List.mem_of_getElem? (i := 70) (by decide +kernel)
set_option maxRecDepth 100000 in
theorem tw_aint : Cond.arrayClass .int ∈ tables_1 := List.mem_of_getElem? (i := 640) (by decide +kernel)
set_option maxRecDepth 100000 in
theorem tw_along : Cond.arrayClass .long ∈ tables_1 := List.mem_of_getElem? (i := 1112) (by decide +kernel)
set_option maxRecDepth 100000 in
theorem tw_abyte : Cond.arrayClass .byte ∈ tables_1 := List.mem_of_getElem? (i := 280) (by decide +kernel)
set_option maxRecDepth 100000 in
theorem tw_iJ4 : Cond.instantiable RJ4 4 ∈ tables_1 := List.mem_of_getElem? (i := 825) (by decide +kernel)
set_option maxRecDepth 100000 in
theorem tw_iJx4a65c : Cond.instantiable RJx4a65c 3 ∈ tables_1 := List.mem_of_getElem? (i := 85) (by decide +kernel)
set_option maxRecDepth 100000 in
theorem tw_iX0 : Cond.instantiable RX0 5 ∈ tables_1 := List.mem_of_getElem? (i := 505) (by decide +kernel)
set_option maxRecDepth 100000 in
theorem tw_iX1 : Cond.instantiable RX1 2 ∈ tables_1 := List.mem_of_getElem? (i := 54) (by decide +kernel)
set_option maxRecDepth 100000 in
theorem tw_iX2 : Cond.instantiable RX2 2 ∈ tables_1 := List.mem_of_getElem? (i := 69) (by decide +kernel)
set_option maxRecDepth 100000 in
theorem tw_iX3 : Cond.instantiable RX3 4 ∈ tables_1 := List.mem_of_getElem? (i := 620) (by decide +kernel)
set_option maxRecDepth 100000 in
theorem tw_iX4 : Cond.instantiable RX4 2 ∈ tables_1 := List.mem_of_getElem? (i := 39) (by decide +kernel)
set_option maxRecDepth 100000 in
theorem tw_iX5 : Cond.instantiable RX5 7 ∈ tables_1 := List.mem_of_getElem? (i := 31) (by decide +kernel)
set_option maxRecDepth 100000 in
theorem tw_iX6 : Cond.instantiable RX6 13 ∈ tables_1 := List.mem_of_getElem? (i := 685) (by decide +kernel)
set_option maxRecDepth 100000 in
theorem tw_k8 : Cond.classLink RL 8 RX5 ∈ tables_1 := List.mem_of_getElem? (i := 30) (by decide +kernel)
set_option maxRecDepth 100000 in
theorem tw_k85 : Cond.classLink RL 85 RX6 ∈ tables_1 := List.mem_of_getElem? (i := 684) (by decide +kernel)
set_option maxRecDepth 100000 in
theorem tw_nX5 : Cond.initialized RX5 ∈ tables_1 := List.mem_of_getElem? (i := 1) (by decide +kernel)
set_option maxRecDepth 100000 in
theorem tw_nX6 : Cond.initialized RX6 ∈ tables_1 := List.mem_of_getElem? (i := 8) (by decide +kernel)
set_option maxRecDepth 100000 in
theorem tw_m84 : Cond.methodLink RL 84 yX5_init ∈ tables_1 := List.mem_of_getElem? (i := 32) (by decide +kernel)
set_option maxRecDepth 100000 in
theorem tw_m87 : Cond.methodLink RL 87 yX6_init ∈ tables_1 := List.mem_of_getElem? (i := 686) (by decide +kernel)
set_option maxRecDepth 100000 in
theorem tw_mi5 : Cond.instanceMethod yX5_init ∈ tables_1 := List.mem_of_getElem? (i := 33) (by decide +kernel)
set_option maxRecDepth 100000 in
theorem tw_mi6 : Cond.instanceMethod yX6_init ∈ tables_1 := List.mem_of_getElem? (i := 687) (by decide +kernel)
theorem tb {w : Cond} (h : w ∈ tables_1) : w ∈ lw_tbl := List.mem_append_right _ (List.mem_append_right _ h)
theorem st_EZ {args : Array Value} {s : State} (ht : ∀ w ∈ tables_1, w.before args s = true) (hn : ∀ w ∈ flatC narrow_1, w.before args s = true) : ∃ ed : Nat × Nat × Nat, EZ ed (fun q : Nat => s.heap.size ≤ q) s s.heap := by
  have hA : ∀ a : Nat, a < s.heap.size → ¬ (fun q : Nat => s.heap.size ≤ q) a := fun a h => Nat.not_le.mpr h
  obtain ⟨t1, e1, T1⟩ := va_Tof (f := fun _ => .null) (A := fun q : Nat => s.heap.size ≤ q) (N := 0) (by decide) (hn _ nw_listA) (va_eqt (hn _ nw_listL)) (fun j hj => absurd hj (Nat.not_lt_zero j)) hA
  obtain ⟨t2, e2, T2⟩ := va_Tof (f := fun j => .int (iI (48 + ((j % 10 : Nat) : Int)))) (A := fun q : Nat => s.heap.size ≤ q) (N := 100) (by decide) (hn _ nw_onesA) (va_eqt (hn _ nw_onesL)) (fun j hj => va_eqt (hn _ (nl_ones_in _ (List.mem_map.mpr ⟨j, List.mem_range.mpr hj, rfl⟩)))) hA
  obtain ⟨t3, e3, T3⟩ := va_Tof (f := fun j => .int (iI (48 + ((j / 10 : Nat) : Int)))) (A := fun q : Nat => s.heap.size ≤ q) (N := 100) (by decide) (hn _ nw_tensA) (va_eqt (hn _ nw_tensL)) (fun j hj => va_eqt (hn _ (nl_tens_in _ (List.mem_map.mpr ⟨j, List.mem_range.mpr hj, rfl⟩)))) hA
  exact ⟨(t1, t2, t3), ⟨vx_Zqof (ht _ tw_ls_unas) (ht _ tw_in_Throwable) (hn _ nw_unas) hA, vx_Zqof (ht _ tw_ls_supp) (ht _ tw_in_Throwable) (hn _ nw_supp) hA⟩, ⟨va_Zof (ht _ tw_ls_list) (ht _ tw_in_ArrayList) e1 hA, T1⟩, va_Zof (ht _ tw_ls_comp) (ht _ tw_in_String) (va_eqi (hn _ nw_comp)) hA, ⟨va_Zof (ht _ tw_ls_ones) (ht _ tw_in_Integer) e2 hA, T2⟩, ⟨va_Zof (ht _ tw_ls_tens) (ht _ tw_in_Integer) e3 hA, T3⟩, va_Zqof (ht _ tw_ls_sio) (ht _ tw_in_Preconditions) (hn _ nw_sio) hA⟩
theorem st_str {args : Array Value} {s : State} {own tx : String} {k : Nat} (h1 : (Cond.stringRef own k tx).before args s = true) (h2 : (Cond.exactly (.string own k) "java/lang/String").before args s = true) : ∃ a : Nat, vk_R own k tx a s := by
  obtain ⟨a, c, cA, kA, q1, -⟩ := Cond.exactly_spec (args := args) (first := s) (o := none) (s := s) (idx := []) h2
  exact ⟨a, vk_R.of h1 q1⟩
theorem st_ET {args : Array Value} {s : State} (ht : ∀ w ∈ tables_1, w.before args s = true) (hn : ∀ w ∈ flatC narrow_1, w.before args s = true) : ET s :=
  ⟨⟨⟨⟨va_Nw.of rfl (ht _ tw_cIA), va_Nw.of rfl (ht _ tw_cIO), va_Nw.of rfl (ht _ tw_cIS)⟩, va_Nw.of rfl (ht _ tw_dRT), va_Nw.of rfl (ht _ tw_dEx), va_Nw.of rfl (ht _ tw_dTh)⟩, fun q hq => st_str (ht _ (tw_strs _ (List.mem_map.mpr ⟨q, hq, rfl⟩))) (hn _ (nw_strs _ (List.mem_map.mpr ⟨q, hq, rfl⟩)))⟩, va_AO.of (ht _ tw_ao), va_Nw.of rfl (ht _ tw_cX0), va_Nw.of rfl (ht _ tw_cX3), va_Nw.of rfl (ht _ tw_nX4), va_Nw.of rfl (ht _ tw_nX1), va_Nw.of rfl (ht _ tw_nX2)⟩
theorem st_EN {args : Array Value} {s : State} (hn : ∀ w ∈ flatC narrow_1, w.before args s = true) : EN s := ⟨va_Nc.of (hn _ nw_ncIOIA), va_Nc.of (hn _ nw_ncIAIO), va_Nc.of (hn _ nw_ncISIA)⟩
theorem st_aI {args : Array Value} {s : State} (h : (Cond.arrayClass .int).before args s = true) : ∃ cA : ClassId, ArrOfT s cA .int ∧ va_RA s cA .int := by
  obtain ⟨c, k, comp, h1, h2, h3⟩ := Cond.arrayClass_spec h
  exact ⟨c, fun n z => ⟨(fun k h => by cases h), k, h2, comp, h3⟩, h1⟩
theorem st_aL {args : Array Value} {s : State} (h : (Cond.arrayClass .long).before args s = true) : ∃ cA : ClassId, ArrOfT s cA .long ∧ va_RA s cA .long := by
  obtain ⟨c, k, comp, h1, h2, h3⟩ := Cond.arrayClass_spec h
  exact ⟨c, fun n z => ⟨(fun k h => by cases h), k, h2, comp, h3⟩, h1⟩
theorem st_aB {args : Array Value} {s : State} (h : (Cond.arrayClass .byte).before args s = true) : ∃ cA : ClassId, ArrOfT s cA .byte ∧ va_RA s cA .byte := by
  obtain ⟨c, k, comp, h1, h2, h3⟩ := Cond.arrayClass_spec h
  exact ⟨c, fun n z => ⟨(fun k h => by cases h), k, h2, comp, h3⟩, h1⟩
theorem st_aO {args : Array Value} {s : State} (h : (Cond.arrayOver (.object "java/lang/Object")).before args s = true) : ∃ cA : ClassId, ArrOfT s cA (.object "java/lang/Object") ∧ va_RA s cA (.object "java/lang/Object") := by
  obtain ⟨comp, c, k, h1, h2, h3, h4, h5⟩ := Cond.arrayOver_spec h
  exact ⟨c, fun n z => ⟨(fun k h => by cases h), k, h3, comp, h4⟩, k, comp, h3, h4, h1, h5⟩
theorem st_K {args : Array Value} {s : State} (hts : ∀ w ∈ lw_tbl, w.before args s = true) : ∃ (D : va_G) (cI cO cL cB : ClassId), va_K D vwCl (ty4 cI cO cL cB) s := by
  obtain ⟨c0, i0, k0⟩ := u_known (C := RJ4) (T := TJ4) (N := 4) (n := 4) hts wi_J4 (hts _ (tb tw_iJ4))
  obtain ⟨c1, i1, k1⟩ := u_known (C := RJx4a65c) (T := TJx4a65c) (N := 3) (n := 3) hts wi_Jx4a65c (hts _ (tb tw_iJx4a65c))
  obtain ⟨c2, i2, k2⟩ := u_known (C := RX0) (T := TX0) (N := 5) (n := 5) hts wi_X0 (hts _ (tb tw_iX0))
  obtain ⟨c3, i3, k3⟩ := u_known (C := RX1) (T := TX1) (N := 2) (n := 2) hts wi_X1 (hts _ (tb tw_iX1))
  obtain ⟨c4, i4, k4⟩ := u_known (C := RX2) (T := TX2) (N := 2) (n := 2) hts wi_X2 (hts _ (tb tw_iX2))
  obtain ⟨c5, i5, k5⟩ := u_known (C := RX3) (T := TX3) (N := 4) (n := 4) hts wi_X3 (hts _ (tb tw_iX3))
  obtain ⟨c6, i6, k6⟩ := u_known (C := RX4) (T := TX4) (N := 2) (n := 2) hts wi_X4 (hts _ (tb tw_iX4))
  obtain ⟨c7, i7, k7⟩ := u_known (C := RX5) (T := TX5) (N := 7) (n := 7) hts wi_X5 (hts _ (tb tw_iX5))
  obtain ⟨c8, i8, k8⟩ := u_known (C := RX6) (T := TX6) (N := 13) (n := 13) hts wi_X6 (hts _ (tb tw_iX6))
  have h : ∀ k : Nat, ∃ z : ClassId × (Nat → Nat), ∀ q : vw_C, vwCl[k]? = some q → u_Kn s q.1 q.2.1 q.2.2 z.1 z.2 := by
    intro k
    match k with
    | 0 => exact ⟨(c0, i0), fun q hq => by cases hq; exact k0⟩
    | 1 => exact ⟨(c1, i1), fun q hq => by cases hq; exact k1⟩
    | 2 => exact ⟨(c2, i2), fun q hq => by cases hq; exact k2⟩
    | 3 => exact ⟨(c3, i3), fun q hq => by cases hq; exact k3⟩
    | 4 => exact ⟨(c4, i4), fun q hq => by cases hq; exact k4⟩
    | 5 => exact ⟨(c5, i5), fun q hq => by cases hq; exact k5⟩
    | 6 => exact ⟨(c6, i6), fun q hq => by cases hq; exact k6⟩
    | 7 => exact ⟨(c7, i7), fun q hq => by cases hq; exact k7⟩
    | 8 => exact ⟨(c8, i8), fun q hq => by cases hq; exact k8⟩
    | k + 9 => exact ⟨(c0, i0), fun q hq => by simp [vwCl] at hq⟩
  obtain ⟨f, hf⟩ := Classical.axiomOfChoice h
  obtain ⟨cI, hI⟩ := st_aI (hts _ (tb tw_aint))
  obtain ⟨cO, hO⟩ := st_aO (hts _ (tb tw_ao))
  obtain ⟨cL, hL⟩ := st_aL (hts _ (tb tw_along))
  obtain ⟨cB, hB⟩ := st_aB (hts _ (tb tw_abyte))
  refine ⟨(fun k => (f k).1, fun k => (f k).2), cI, cO, cL, cB, fun k q hq => hf k q hq, fun k q hk => ?_⟩
  match k, hk with
  | 0, hk => cases hk; exact hI
  | 1, hk => cases hk; exact hO
  | 2, hk => cases hk; exact hL
  | 3, hk => cases hk; exact hB
  | k + 4, hk => simp at hk
