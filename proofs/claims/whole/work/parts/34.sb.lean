/-! ===== StringBuilder, while its row of 16 bytes is enough ===== -/
abbrev ty4 (cI cO cL cB : ClassId) : List (ClassId × FieldType) := [(cI, .int), (cO, .object "java/lang/Object"), (cL, .long), (cB, .byte)]
/-- how many digits a number under 1000 has -/
def m_sz (v : Int) : Int := if v < 10 then 1 else if v < 100 then 2 else 3
theorem m_sz_in (v : Int) : 1 ≤ m_sz v ∧ m_sz v ≤ 3 := by
  unfold m_sz
  (repeat' split) <;> omega
/-- the text tx with v's digits written from n on -/
def m_ap (tx : Nat → Int) (n v : Int) : Nat → Int := fun j => if j = (n + m_sz v - 1).toNat then 48 + v % 10 else if 10 ≤ v ∧ j = (n + m_sz v - 2).toNat then 48 + v / 10 % 10 else if 100 ≤ v ∧ j = (n + m_sz v - 3).toNat then 48 + v / 100 else tx j
/-- the sum over the first n signs -/
def m_fold (tx : Nat → Int) : Nat → Int
  | 0 => 0
  | n + 1 => m_fold tx n * 31 + tx n
theorem m_fold_cg {tx ty : Nat → Int} : ∀ {n : Nat}, (∀ j, j < n → tx j = ty j) → m_fold tx n = m_fold ty n
  | 0, _ => rfl
  | n + 1, h => by
    rw [m_fold, m_fold, m_fold_cg (fun j hj => h j (by omega)), h n (by omega)]
theorem m_fold_st (tx : Nat → Int) {n : Int} (hn : 0 ≤ n) (x : Int) : m_fold (st tx n.toNat x) (n + 1).toNat = m_fold tx n.toNat * 31 + x := by
  rw [show (n + 1).toNat = n.toNat + 1 by omega, m_fold, st_eq, m_fold_cg (ty := tx) (fun j hj => st_ne (by omega))]
theorem m_fold_ap (tx : Nat → Int) {n v : Int} (hn : 0 ≤ n) (hv : 0 ≤ v ∧ v ≤ 999) : m_fold (m_ap tx n v) (n + m_sz v).toNat = m_wn (m_fold tx n.toNat) v := by
  have hp : m_fold (m_ap tx n v) n.toNat = m_fold tx n.toNat := m_fold_cg (fun j hj => by
    have h1 := m_sz_in v
    have h2 : m_sz v = if v < 10 then 1 else if v < 100 then 2 else 3 := rfl
    unfold m_ap
    rw [if_neg (by omega), if_neg (by (repeat' split at h2) <;> omega), if_neg (by (repeat' split at h2) <;> omega)])
  unfold m_wn
  by_cases h1 : v < 10
  · have e : m_sz v = 1 := by unfold m_sz; rw [if_pos h1]
    rw [if_neg (by omega), if_neg (by omega), e, show (n + 1).toNat = n.toNat + 1 by omega, m_fold, hp]
    congr 1
    unfold m_ap
    rw [e, if_pos (by omega)]
  · by_cases h2 : v < 100
    · have e : m_sz v = 2 := by unfold m_sz; rw [if_neg h1, if_pos h2]
      rw [if_neg (by omega), if_pos (by omega), e, show (n + 2).toNat = n.toNat + 1 + 1 by omega, m_fold, m_fold, hp]
      have a0 : m_ap tx n v n.toNat = 48 + v / 10 % 10 := by
        unfold m_ap
        rw [e, if_neg (by omega), if_pos (by omega)]
      have a1 : m_ap tx n v (n.toNat + 1) = 48 + v % 10 := by
        unfold m_ap
        rw [e, if_pos (by omega)]
      rw [a0, a1]
    · have e : m_sz v = 3 := by unfold m_sz; rw [if_neg h1, if_neg h2]
      rw [if_pos (by omega), e, show (n + 3).toNat = n.toNat + 1 + 1 + 1 by omega, m_fold, m_fold, m_fold, hp]
      have a0 : m_ap tx n v n.toNat = 48 + v / 100 := by
        unfold m_ap
        rw [e, if_neg (by omega), if_neg (by omega), if_pos (by omega)]
      have a1 : m_ap tx n v (n.toNat + 1) = 48 + v / 10 % 10 := by
        unfold m_ap
        rw [e, if_neg (by omega), if_pos (by omega)]
      have a2 : m_ap tx n v (n.toNat + 1 + 1) = 48 + v % 10 := by
        unfold m_ap
        rw [e, if_pos (by omega)]
      rw [a0, a1, a2]
theorem iI_and255 {x : Int} (h : 0 ≤ x ∧ x < 256) : iI x &&& iI 255 = iI x := by
  have key : ∀ n : Nat, n < 256 → iI (n : Int) &&& iI 255 = iI (n : Int) := by decide +kernel
  have := key x.toNat (by omega)
  rw [show ((x.toNat : Nat) : Int) = x by omega] at this
  exact this
theorem iI_byte {x : Int} (h : 0 ≤ x ∧ x < 128) : vp_nar .byte (iI x) = iI x := by
  have key : ∀ n : Nat, n < 128 → vp_nar .byte (iI (n : Int)) = iI (n : Int) := by decide +kernel
  have := key x.toNat (by omega)
  rw [show ((x.toNat : Nat) : Int) = x by omega] at this
  exact this
theorem iI_char {x : Int} (h : 0 ≤ x ∧ x < 256) : narrow .char (.int (iI x)) = .int (iI x) := by
  have key : ∀ n : Nat, n < 256 → (iI (n : Int)).toUInt32.toUInt16.toUInt32.toInt32 = iI (n : Int) := by decide +kernel
  have := key x.toNat (by omega)
  rw [show ((x.toNat : Nat) : Int) = x by omega] at this
  show Value.int _ = _
  rw [this]
section QB
variable {p : Program} {l : Launch} {e : Env} {R : Room} {s : State} {m : MethodId} {args : Array Value} {below : List Frame} {meth : Method} {c : Code} {H : Heap} {locs : List Loc} {cells slots : Nat} {Q : State → Prop} {cc : ByteArray} {pc : Nat} {ls : Array Slot} {rest st0 : List Value} {A0 : Nat → Prop} {H0 : Heap} {mc ms : Nat} {D : va_G} {tys : List (ClassId × FieldType)} {ws wc wr : va_W} {S0 : Type} {w1 : S0 → va_W} {a9 : Array Value}
theorem q_runGv (hr : va_Run p l e R s m args below meth c H locs cells slots mc ms (F0 m pc ls st0) rest (va_Qv (fun (_ : S0) => True) (fun u t => va_P D vwCl (w1 u) t.heap ∧ va_D (va_A wc H.size) (w1 u)) (va_A wc H.size) a9) (va_A wc H.size)) (hP : va_P D vwCl (wc ++ wr) H) (hD : va_D A0 (wc ++ wr)) (hS : va_S A0 H0 H locs) (hA : ∀ q : Nat, H0.size ≤ q → A0 q)
    (kk : ∀ (u : S0) (H : Heap) (locs : List Loc), va_P D vwCl (w1 u ++ wr) H → va_D A0 (w1 u ++ wr) → va_S A0 H0 H locs → W p l e R s m args below meth c H locs (cells + mc) (slots + ms) Q (F0 m (pc + 3) ls rest)) : W p l e R s m args below meth c H locs cells slots Q (F0 m pc ls st0) :=
  va_callv hr hS (fun q _ h => va_frP hD hS hA q h) (va_frP hD hS hA) (fun u t H1 locs1 ht _ _ hB _ hk1 hS1 => by
    rw [ht] at hB
    obtain ⟨h1, h2⟩ := va_pre hP hD hk1 (va_frP hD hS hA) hB.1 hB.2
    exact kk u H1 locs1 h1 h2 hS1)
theorem q_runGi {v : Int} (hr : va_Run p l e R s m args below meth c H locs cells slots mc ms (F0 m pc ls st0) rest (va_Qi (fun (r : Int32) (_ : S0) => r = iI v) (fun u t => va_P D vwCl (w1 u) t.heap ∧ va_D (va_A wc H.size) (w1 u)) (va_A wc H.size) a9) (va_A wc H.size)) (hP : va_P D vwCl (wc ++ wr) H) (hD : va_D A0 (wc ++ wr)) (hS : va_S A0 H0 H locs) (hA : ∀ q : Nat, H0.size ≤ q → A0 q)
    (kk : ∀ (u : S0) (H : Heap) (locs : List Loc), va_P D vwCl (w1 u ++ wr) H → va_D A0 (w1 u ++ wr) → va_S A0 H0 H locs → W p l e R s m args below meth c H locs (cells + mc) (slots + ms) Q (F0 m (pc + 3) ls (.int (iI v) :: rest))) : W p l e R s m args below meth c H locs cells slots Q (F0 m pc ls st0) :=
  va_calli hr hS (fun q _ h => va_frP hD hS hA q h) (va_frP hD hS hA) (fun r u t H1 locs1 ht _ hp hB _ hk1 hS1 => by
    rw [ht] at hB
    obtain ⟨h1, h2⟩ := va_pre hP hD hk1 (va_frP hD hS hA) hB.1 hB.2
    rw [show r = iI v from hp]
    exact kk u H1 locs1 h1 h2 hS1)
theorem q_runGr {rr : S0 → Nat} (hr : va_Run p l e R s m args below meth c H locs cells slots mc ms (F0 m pc ls st0) rest (va_Qr (fun (_ : S0) => True) (fun u a t => a = rr u ∧ va_P D vwCl (w1 u) t.heap ∧ va_D (va_A wc H.size) (w1 u)) (va_A wc H.size) a9) (va_A wc H.size)) (hP : va_P D vwCl (wc ++ wr) H) (hD : va_D A0 (wc ++ wr)) (hS : va_S A0 H0 H locs) (hA : ∀ q : Nat, H0.size ≤ q → A0 q)
    (kk : ∀ (u : S0) (H : Heap) (locs : List Loc), va_P D vwCl (w1 u ++ wr) H → va_D A0 (w1 u ++ wr) → va_S A0 H0 H locs → W p l e R s m args below meth c H locs (cells + mc) (slots + ms) Q (F0 m (pc + 3) ls (.ref (rr u) :: rest))) : W p l e R s m args below meth c H locs cells slots Q (F0 m pc ls st0) :=
  va_callr hr hS (fun q _ h => va_frP hD hS hA q h) (va_frP hD hS hA) (fun u ra t H1 locs1 ht _ _ hB _ hk1 hS1 => by
    rw [ht] at hB
    obtain ⟨h1, h2⟩ := va_pre hP hD hk1 (va_frP hD hS hA) hB.2.1 hB.2.2
    rw [hB.1]
    exact kk u H1 locs1 h1 h2 hS1)
theorem q_newb (hx : p.tables.exec = Jvm.exec) (hb : c.code = cc) (harr : (Cond.arrayClass (newarray.typeOf .byte)).before args s = true) {cB : ClassId} (hK : va_K D vwCl tys s) (t0 : Nat) (ht : tys[t0]? = some (cB, .byte)) (hP : va_P D vwCl ws H) (hD : va_D A0 ws) (hS : va_S A0 H0 H locs) (hA : ∀ q, H0.size ≤ q → A0 q) {z : Int} (N : Nat) (hz : z = (N : Int)) (hN : N ≤ 1000) (hcells : cells + 1 ≤ R.cells) (hslots : slots + N ≤ R.slots) (hdg : decode cc pc = .ok (.newarray .byte, 2))
    (kk : ∀ (q : Nat) (H : Heap), va_P D vwCl ((q, .inl (cB, N, .inl (fun _ => iI 0))) :: ws) H → va_D A0 ((q, .inl (cB, N, .inl (fun _ => iI 0))) :: ws) → va_S A0 H0 H locs → W p l e R s m args below meth c H locs (cells + 1) (slots + N) Q (F0 m (pc + 2) ls (.ref q :: rest))) : W p l e R s m args below meth c H locs cells slots Q (F0 m pc ls (.int (iI z) :: rest)) := by
  refine va_newa hx hb harr rfl hK hP hD hS hA (N' := N) (a0 := (N, .inl (fun _ => iI 0))) (fun cA => ?_) ?_ ?_ ?_ hcells hslots hdg (fun q cA H1 hK1 hP1 hD1 hS1 => ?_)
  · rw [vp_cell_i]
    rfl
  · rw [iI_zero, iI_lt (by omega) (by omega)]
    omega
  · rw [iI_cl (by omega)]
    omega
  · show N * 1 ≤ _
    omega
  · have e1 := (hK1.2 tys.length (cA, .byte) (by rw [List.getElem?_append_right (Nat.le_refl _), Nat.sub_self]; rfl)).2
    have e2 := (hK.2 t0 _ ht).2
    have e3 : some cA = some cB := e1.symm.trans e2
    cases Option.some.inj e3
    obtain ⟨h1, h2⟩ := va_lst hP1 hD1
    exact kk q H1 h1 h2 hS1
theorem q_tb1 {t : Nat} (hx : p.tables.exec = Jvm.exec) (hb : c.code = cc) (hT : va_T .byte t 100 (fun j => .int (iI (48 + ((j % 10 : Nat) : Int)))) A0 s s.heap) (hS : va_S A0 s.heap H locs) {i : Int} (hi : 0 ≤ i ∧ i < 100) (hdg : decode cc pc = .ok (.baload, 1))
    (kk : W p l e R s m args below meth c H locs cells slots Q (F0 m (pc + 1) ls (.int (iI (48 + i % 10)) :: rest))) : W p l e R s m args below meth c H locs cells slots Q (F0 m pc ls (.int (iI i) :: .ref t :: rest)) :=
  va_tb hx hb hT hS (iI_in (by omega) (by omega)) (v := .int (iI (48 + i % 10))) (by rw [iI_cl (by omega)]; congr 2; omega) hdg kk
theorem q_tb2 {t : Nat} (hx : p.tables.exec = Jvm.exec) (hb : c.code = cc) (hT : va_T .byte t 100 (fun j => .int (iI (48 + ((j / 10 : Nat) : Int)))) A0 s s.heap) (hS : va_S A0 s.heap H locs) {i : Int} (hi : 0 ≤ i ∧ i < 100) (hdg : decode cc pc = .ok (.baload, 1))
    (kk : W p l e R s m args below meth c H locs cells slots Q (F0 m (pc + 1) ls (.int (iI (48 + i / 10)) :: rest))) : W p l e R s m args below meth c H locs cells slots Q (F0 m pc ls (.int (iI i) :: .ref t :: rest)) :=
  va_tb hx hb hT hS (iI_in (by omega) (by omega)) (v := .int (iI (48 + i / 10))) (by rw [iI_cl (by omega)]; congr 2; omega) hdg kk
theorem q_bald (hx : p.tables.exec = Jvm.exec) (hb : c.code = cc) {a : Nat} (hK : va_K D vwCl tys s) {cA : ClassId} {n : Nat} {f : Nat → Int} (hP : ar D a (cA, n, .inl (fun j => iI (f j))) H) (t0 : Nat) (ht : tys[t0]? = some (cA, .byte)) {i : Int} (hi : 0 ≤ i ∧ i < n) (hn : n < 2147483648) (hdg : decode cc pc = .ok (.baload, 1))
    (kk : W p l e R s m args below meth c H locs cells slots Q (F0 m (pc + 1) ls (.int (iI (f i.toNat)) :: rest))) : W p l e R s m args below meth c H locs cells slots Q (F0 m pc ls (.int (iI i) :: .ref a :: rest)) := by
  refine va_bald hx hb hK (ar_P hP) 0 t0 rfl ht (iI_in hi hn) hdg ?_
  rw [iI_cl (by omega)]
  exact kk
theorem q_bast (hx : p.tables.exec = Jvm.exec) (hb : c.code = cc) {a : Nat} (hK : va_K D vwCl tys s) (hP : va_P D vwCl ws H) (hD : va_D A0 ws) (hS : va_S A0 H0 H locs) (q0 t0 : Nat) {cA : ClassId} {n : Nat} {f : Nat → Int} (ha : ws[q0]? = some (a, .inl (cA, n, .inl (fun j => iI (f j))))) (ht : tys[t0]? = some (cA, .byte)) {i x : Int} (k : Nat) (hi : i = (k : Int)) (hk : k < n) (hn : n < 2147483648) (hxx : 0 ≤ x ∧ x < 128) (hdg : decode cc pc = .ok (.bastore, 1))
    (kk : ∀ (H1 : Heap) (locs1 : List Loc), va_P D vwCl (ws.set q0 (a, .inl (cA, n, .inl (fun j => iI (st f k x j))))) H1 → va_D A0 (ws.set q0 (a, .inl (cA, n, .inl (fun j => iI (st f k x j))))) → va_S A0 H0 H1 locs1 → W p l e R s m args below meth c H1 locs1 cells slots Q (F0 m (pc + 1) ls rest)) : W p l e R s m args below meth c H locs cells slots Q (F0 m pc ls (.int (iI x) :: .int (iI i) :: .ref a :: rest)) := by
  refine va_bast hx hb hK hP hD hS q0 t0 ha ht (iI_in (by omega) hn) hdg ?_
  rw [iI_byte hxx, iI_cl (by omega), show i.toNat = k by omega, st_upd]
  exact kk
theorem q_sh0 (hx : p.tables.exec = Jvm.exec) (hb : c.code = cc) {x y : Int} (hdg : decode cc pc = .ok (.ishr, 1)) (h : iI x >>> (iI y &&& 31) = iI x) (k : W p l e R s m args below meth c H locs cells slots Q (F0 m (pc + 1) ls (.int (iI x) :: rest))) : W p l e R s m args below meth c H locs cells slots Q (F0 m pc ls (.int (iI y) :: .int (iI x) :: rest)) := lv_ishr hx hb hdg (by rw [h]; exact k)
theorem q_and255 (hx : p.tables.exec = Jvm.exec) (hb : c.code = cc) {x : Int} (hdg : decode cc pc = .ok (.iand, 1)) (h : 0 ≤ x ∧ x < 256) (k : W p l e R s m args below meth c H locs cells slots Q (F0 m (pc + 1) ls (.int (iI x) :: rest))) : W p l e R s m args below meth c H locs cells slots Q (F0 m pc ls (.int (iI 255) :: .int (iI x) :: rest)) := lv_iand hx hb hdg (by rw [iI_and255 h]; exact k)
theorem q_gcret {w0 : va_W} {sz : Nat} {v a : Int} (u : S0) (hx : p.tables.exec = Jvm.exec) (hb : c.code = cc) (hr : meth.sig.returnType = some .char) (hlocks : meth.locks = false) (hz : 0 ≤ a ∧ a < 256) (hS : va_S (va_A w0 sz) s.heap H locs) (hv : a = v) (hPD : va_P D vwCl (w1 u) H ∧ va_D (va_A w0 sz) (w1 u)) (hmc : cells ≤ mc) (hms : slots ≤ ms) (hdg : decode cc pc = .ok (.ireturn, 1)) : W p l e R s m args below meth c H locs cells slots (MQ below (va_Qi (fun (r : Int32) (_ : S0) => r = iI v) (fun u t => va_P D vwCl (w1 u) t.heap ∧ va_D (va_A w0 sz) (w1 u)) (va_A w0 sz)) args s mc ms (va_A w0 sz)) (F0 m pc ls [.int (iI a)]) :=
  W.widen hmc hms (W.zret hx hb hr (iI_char hz) (fun t ht _ => ⟨⟨iI a, u, rfl, by rw [hv], by subst ht; exact hPD⟩, hS.F ht⟩) hS.2.2 hdg hlocks)
end QB

set_option maxHeartbeats 4000000 in
set_option maxRecDepth 100000 in
theorem c_stringSize (l : Launch) (D : va_G) (tys : List (ClassId × FieldType)) (v : Int) (hv : 0 ≤ v ∧ v ≤ 999) : MI l yJ6_stringSize_0f7a4 wsJ6_stringSize_0f7a4 0 0 D tys (fun _ => True) [.int (iI (v))] (m_sz v) := by
  refine MI_of (cc := cJ6_stringSize_0f7a4) (maxL := 4) (ret := (some .int)) (by decide) rfl (Nat.le_of_ble_eq_true rfl) ?_
  intro p e s m args below meth c ls hx hb hr hlocks hml hown hts hPic hK hl
  have hl : lv_has ls 4 [(0, .int (iI (v)))] := hl
  refine q_iconst hx hb dJ6_stringSize_0f7a4_0 ?_
  refine lv_istore_n (lv' := [(1, .int (iI (1))), (0, .int (iI (v)))]) hx hb dJ6_stringSize_0f7a4_1 rfl hl (by decide) rfl (fun ls hl => ?_)
  refine lv_iload_n hx hb dJ6_stringSize_0f7a4_2 rfl (lv_at hl 1 rfl) ?_
  refine q_if_lt (tgt := 11) hx hb dJ6_stringSize_0f7a4_3 (by decide) (by omega) (fun c_1 => ?_) (fun c_1 => ?_)
  · exfalso
    omega
  · skip
    refine q_iconst hx hb dJ6_stringSize_0f7a4_6 ?_
    refine lv_istore_n (lv' := [(1, .int (iI (0))), (0, .int (iI (v)))]) hx hb dJ6_stringSize_0f7a4_7 rfl hl (by decide) rfl (fun ls hl => ?_)
    refine lv_iload_n hx hb dJ6_stringSize_0f7a4_8 rfl (lv_at hl 1 rfl) ?_
    refine q_ineg hx hb dJ6_stringSize_0f7a4_9 ?_
    refine q_top (fun nv env => ?_)
    have hvv : 0 ≤ v ∧ v ≤ 999 := hv
    refine lv_istore_n (lv' := [(0, .int (iI (nv))), (1, .int (iI (0)))]) hx hb dJ6_stringSize_0f7a4_10 rfl hl (by decide) rfl (fun ls hl => ?_)
    refine q_bipush hx hb dJ6_stringSize_0f7a4_11 (by decide) ?_
    refine lv_istore_n (lv' := [(2, .int (iI ((-10)))), (0, .int (iI (nv))), (1, .int (iI (0)))]) hx hb dJ6_stringSize_0f7a4_13 rfl hl (by decide) rfl (fun ls hl => ?_)
    refine q_iconst hx hb dJ6_stringSize_0f7a4_14 ?_
    refine lv_istore_n (lv' := [(3, .int (iI (1))), (2, .int (iI ((-10)))), (0, .int (iI (nv))), (1, .int (iI (0)))]) hx hb dJ6_stringSize_0f7a4_15 rfl hl (by decide) rfl (fun ls hl => ?_)
    have key_16 : ∀ (fu : Nat) (k : Int) (pw : Int), (k = 1 ∧ pw = -10) ∨ (k = 2 ∧ pw = -100 ∧ 10 ≤ v) ∨ (k = 3 ∧ pw = -1000 ∧ 100 ≤ v) → (4 - k) < (fu : Int) → ∀ ls : Array Slot, lv_has ls 4 [(0, .int (iI (nv))), (1, .int (iI (0))), (2, .int (iI (pw))), (3, .int (iI (k)))] → W p l e { frames := 0, cells := 0, slots := 0, locals := 0 } s m args below meth c s.heap [] 0 0 (MQ below (vp_Si (fun r => r = iI (m_sz v))) args s 0 0 (fun _ => False)) (F0 m 16 ls []) := by
      intro fu
      induction fu with
      | zero => intro k pw hk hm_16 ls hl; exact absurd hm_16 (by omega)
      | succ fu ih_16 =>
        intro k pw hk hm_16 ls hl
        refine lv_iload_n hx hb dJ6_stringSize_0f7a4_16 rfl (lv_at hl 3 rfl) ?_
        refine q_bipush hx hb dJ6_stringSize_0f7a4_17 (by decide) ?_
        refine q_icmp_ge (tgt := 42) hx hb dJ6_stringSize_0f7a4_19 (by decide) (by omega) (by omega) (fun c_2 => ?_) (fun c_2 => ?_)
        · exfalso
          omega
        · skip
          refine lv_iload_n hx hb dJ6_stringSize_0f7a4_22 rfl (lv_at hl 0 rfl) ?_
          refine lv_iload_n hx hb dJ6_stringSize_0f7a4_23 rfl (lv_at hl 2 rfl) ?_
          refine q_icmp_le (tgt := 31) hx hb dJ6_stringSize_0f7a4_24 (by decide) (by omega) (by omega) (fun c_3 => ?_) (fun c_3 => ?_)
          · skip
            refine q_bipush hx hb dJ6_stringSize_0f7a4_31 (by decide) ?_
            refine lv_iload_n hx hb dJ6_stringSize_0f7a4_33 rfl (lv_at hl 2 rfl) ?_
            refine q_imul hx hb dJ6_stringSize_0f7a4_34 ?_
            refine lv_istore_n (lv' := [(2, .int (iI (10 * pw))), (0, .int (iI (nv))), (1, .int (iI (0))), (3, .int (iI (k)))]) hx hb dJ6_stringSize_0f7a4_35 rfl hl (by decide) rfl (fun ls hl => ?_)
            refine q_iinc (k := 3) (lv' := [(3, .int (iI (k + 1))), (2, .int (iI (10 * pw))), (0, .int (iI (nv))), (1, .int (iI (0)))]) hx hb dJ6_stringSize_0f7a4_36 hl rfl (by decide) rfl (fun ls hl => ?_)
            refine lv_goto (tgt := 16) hx hb dJ6_stringSize_0f7a4_39 (by decide) ?_
            exact ih_16 _ _ (by omega) (by omega) _ (lv_sub hl [2, 3, 1, 0] rfl)
          · skip
            refine lv_iload_n hx hb dJ6_stringSize_0f7a4_27 rfl (lv_at hl 3 rfl) ?_
            refine lv_iload_n hx hb dJ6_stringSize_0f7a4_28 rfl (lv_at hl 1 rfl) ?_
            refine q_iadd hx hb dJ6_stringSize_0f7a4_29 ?_
            exact q_iret hx hb hr hlocks (by unfold m_sz; (repeat' split) <;> omega) dJ6_stringSize_0f7a4_30
    exact key_16 (5) _ _ (by omega) (by omega) _ (lv_sub hl [2, 3, 1, 0] rfl)
set_option maxHeartbeats 4000000 in
set_option maxRecDepth 100000 in
theorem c_checkIndex3r (l : Launch) (D : va_G) (tys : List (ClassId × FieldType)) (i n : Int) (t9 : Nat) (hi : 0 ≤ i ∧ i < n) (hn : n < 2147483648) : MI l yJ3_checkIndex_8e157 wsJ3_checkIndex_8e157 0 0 D tys (fun _ => True) [.int (iI (i)), .int (iI (n)), .ref t9] (i) := by
  refine MI_of (cc := cJ3_checkIndex_8e157) (maxL := 3) (ret := (some .int)) (by decide) rfl (Nat.le_of_ble_eq_true rfl) ?_
  intro p e s m args below meth c ls hx hb hr hlocks hml hown hts hPic hK hl
  have hl : lv_has ls 3 [(0, .int (iI (i))), (1, .int (iI (n))), (2, .ref t9)] := hl
  refine lv_iload_n hx hb dJ3_checkIndex_8e157_0 rfl (lv_at hl 0 rfl) ?_
  refine q_if_lt (tgt := 9) hx hb dJ3_checkIndex_8e157_1 (by decide) (by omega) (fun c_1 => ?_) (fun c_1 => ?_)
  · exfalso
    omega
  · skip
    refine lv_iload_n hx hb dJ3_checkIndex_8e157_4 rfl (lv_at hl 0 rfl) ?_
    refine lv_iload_n hx hb dJ3_checkIndex_8e157_5 rfl (lv_at hl 1 rfl) ?_
    refine q_icmp_lt (tgt := 16) hx hb dJ3_checkIndex_8e157_6 (by decide) (by omega) (by omega) (fun c_2 => ?_) (fun c_2 => ?_)
    · skip
      refine lv_iload_n hx hb dJ3_checkIndex_8e157_16 rfl (lv_at hl 0 rfl) ?_
      exact q_iret hx hb hr hlocks (rfl) dJ3_checkIndex_8e157_17
    · exfalso
      omega
set_option maxHeartbeats 4000000 in
set_option maxRecDepth 100000 in
theorem c_canEncode (l : Launch) (D : va_G) (tys : List (ClassId × FieldType)) (v : Int) (hv : 0 ≤ v ∧ v ≤ 127) : MI l yJ1_canEncode_fc78d wsJ1_canEncode_fc78d 0 0 D tys (fun _ => True) [.int (iI (v))] (1) := by
  refine MI_of (cc := cJ1_canEncode_fc78d) (maxL := 1) (ret := (some .boolean)) (by decide) rfl (Nat.le_of_ble_eq_true rfl) ?_
  intro p e s m args below meth c ls hx hb hr hlocks hml hown hts hPic hK hl
  have hl : lv_has ls 1 [(0, .int (iI (v)))] := hl
  refine lv_iload_n hx hb dJ1_canEncode_fc78d_0 rfl (lv_at hl 0 rfl) ?_
  refine q_sipush hx hb dJ1_canEncode_fc78d_1 (by decide) ?_
  refine q_icmp_gt (tgt := 11) hx hb dJ1_canEncode_fc78d_4 (by decide) (by omega) (by omega) (fun c_1 => ?_) (fun c_1 => ?_)
  · exfalso
    omega
  · skip
    refine q_iconst hx hb dJ1_canEncode_fc78d_7 ?_
    refine lv_goto (tgt := 12) hx hb dJ1_canEncode_fc78d_8 (by decide) ?_
    exact q_zret hx hb hr hlocks (by omega) (rfl) dJ1_canEncode_fc78d_12
set_option maxHeartbeats 4000000 in
set_option maxRecDepth 100000 in
theorem g_asbInit (l : Launch) (D : va_G) (sz : Nat) (ed : Nat × Nat × Nat) (cI cO cL cB : ClassId) (h : Nat) : MGv l yJ5_init_d00df wsJ5_init_d00df 1 20 1 16 D (ty4 cI cO cL cB) sz ([(h, .inr (0, [.null, .int (iI (0)), .int (iI (0)), .int (iI (0))]))]) [.ref h, .int (iI (16))] ed (fun (u : Nat) => [(u, .inl (cB, 16, .inl (fun i => iI ((fun _ => 0) i)))), (h, .inr (0, [.ref u, .int (iI (0)), .int (iI (0)), .int (iI (0))]))]) := by
  refine MGv_of (cc := cJ5_init_d00df) (maxL := 2) (ret := none) (by decide) rfl (Nat.le_of_ble_eq_true rfl) ?_
  intro p e s m args below meth c ls hx hb hr hlocks hml hown hts hsz hP hK hD hS hA hin hE hT hl
  have hl : lv_has ls 2 [(0, .ref h), (1, .int (iI (16)))] := hl
  have hP : va_P D vwCl ([(h, .inr (0, [.null, .int (iI (0)), .int (iI (0)), .int (iI (0))]))]) s.heap := hP
  have hD : va_D (va_A ([(h, .inr (0, [.null, .int (iI (0)), .int (iI (0)), .int (iI (0))]))]) sz) ([(h, .inr (0, [.null, .int (iI (0)), .int (iI (0)), .int (iI (0))]))]) := hD
  refine lv_aload_n hx hb dJ5_init_d00df_0 rfl (lv_at hl 0 rfl) ?_
  refine W.objInit hx hb hown (hts (.methodLink RJ5 3 objectInit) (List.mem_of_getElem? (i := 1) rfl)) (hts (.instanceMethod objectInit) (List.mem_of_getElem? (i := 2) rfl)) (hts (.code objectInit ⟨#[0xb1]⟩ 1 none) (List.mem_of_getElem? (i := 3) rfl)) rfl (hl.1.trans hml.symm) rfl dJ5_init_d00df_1 (Nat.le_of_ble_eq_true rfl) (Nat.le_of_ble_eq_true rfl) ?_
  refine W.eq (g2 := F0 m 4 ls []) rfl ?_
  refine va_gets (v := .int (iI (1))) hx hb hE.2.2.1 hS hown (hts (.fieldLink RJ5 18 "java/lang/String" "COMPACT_STRINGS" "Z") (List.mem_of_getElem? (i := 4) rfl)) (fun _ h9 => h9) dJ5_init_d00df_4 ?_
  refine q_if_eq (tgt := 25) hx hb dJ5_init_d00df_7 (by decide) (by omega) (fun c_1 => ?_) (fun c_1 => ?_)
  · exfalso
    omega
  · skip
    refine lv_aload_n hx hb dJ5_init_d00df_10 rfl (lv_at hl 0 rfl) ?_
    refine lv_iload_n hx hb dJ5_init_d00df_11 rfl (lv_at hl 1 rfl) ?_
    refine q_newb hx hb (hts (.arrayClass .byte) (List.mem_of_getElem? (i := 5) rfl)) hK 3 rfl hP hD hS hA 16 rfl (by decide) (Nat.le_of_ble_eq_true rfl) (Nat.le_of_ble_eq_true rfl) dJ5_init_d00df_12 ?_
    intro q12 H hP hD hS
    have hP : va_P D vwCl ([(q12, .inl (cB, 16, .inl (fun q9 => iI ((fun _ => 0) q9)))), (h, .inr (0, [.null, .int (iI (0)), .int (iI (0)), .int (iI (0))]))]) H := hP
    have hD : va_D (va_A ([(h, .inr (0, [.null, .int (iI (0)), .int (iI (0)), .int (iI (0))]))]) sz) ([(q12, .inl (cB, 16, .inl (fun q9 => iI ((fun _ => 0) q9)))), (h, .inr (0, [.null, .int (iI (0)), .int (iI (0)), .int (iI (0))]))]) := hD
    refine va_put (D := D) (ci := 0) (v := .ref q12) (ty := tyJ4 0) (C := RJ4) (T := TJ4) (N := 4) hx hb hts (fun w h => List.mem_cons_of_mem _ (List.mem_append_right _ h)) tyJ4 tyJ4_ok nmJ4 hown hK hP hD hS 1 rfl rfl 0 (by decide) (hts (.fieldLink RJ5 15 "java/lang/AbstractStringBuilder" "value" "[B") (List.mem_of_getElem? (i := 6) rfl)) (fun _ h9 => h9) rfl (by decide +kernel) rfl rfl (Nat.le_of_ble_eq_true rfl) dJ5_init_d00df_14 (fun H locs hP hD hS => ?_)
    have hP : va_P D vwCl ([(q12, .inl (cB, 16, .inl (fun q9 => iI ((fun _ => 0) q9)))), (h, .inr (0, [.ref q12, .int (iI (0)), .int (iI (0)), .int (iI (0))]))]) H := hP
    have hD : va_D (va_A ([(h, .inr (0, [.null, .int (iI (0)), .int (iI (0)), .int (iI (0))]))]) sz) ([(q12, .inl (cB, 16, .inl (fun q9 => iI ((fun _ => 0) q9)))), (h, .inr (0, [.ref q12, .int (iI (0)), .int (iI (0)), .int (iI (0))]))]) := hD
    refine lv_aload_n hx hb dJ5_init_d00df_17 rfl (lv_at hl 0 rfl) ?_
    refine q_iconst hx hb dJ5_init_d00df_18 ?_
    refine va_put (D := D) (ci := 0) (v := .int (iI (0))) (ty := .byte) (C := RJ4) (T := TJ4) (N := 4) hx hb hts (fun w h => List.mem_cons_of_mem _ (List.mem_append_right _ h)) tyJ4 tyJ4_ok nmJ4 hown hK hP hD hS 1 rfl rfl 1 (by decide) (hts (.fieldLink RJ5 22 "java/lang/AbstractStringBuilder" "coder" "B") (List.mem_of_getElem? (i := 7) rfl)) (fun _ h9 => h9) rfl (by decide +kernel) rfl rfl (Nat.le_of_ble_eq_true rfl) dJ5_init_d00df_19 (fun H locs hP hD hS => ?_)
    have hP : va_P D vwCl ([(q12, .inl (cB, 16, .inl (fun q9 => iI ((fun _ => 0) q9)))), (h, .inr (0, [.ref q12, .int (iI (0)), .int (iI (0)), .int (iI (0))]))]) H := hP
    have hD : va_D (va_A ([(h, .inr (0, [.null, .int (iI (0)), .int (iI (0)), .int (iI (0))]))]) sz) ([(q12, .inl (cB, 16, .inl (fun q9 => iI ((fun _ => 0) q9)))), (h, .inr (0, [.ref q12, .int (iI (0)), .int (iI (0)), .int (iI (0))]))]) := hD
    refine lv_goto (tgt := 38) hx hb dJ5_init_d00df_22 (by decide) ?_
    exact q_gvret (cells := 1) (slots := 16) (mc := 1) (ms := 16) (w1 := fun (u : Nat) => [(u, .inl (cB, 16, .inl (fun i => iI ((fun _ => 0) i)))), (h, .inr (0, [.ref u, .int (iI (0)), .int (iI (0)), .int (iI (0))]))]) (q12) hx hb hr hlocks hS (⟨hP, hD⟩) (Nat.le_of_ble_eq_true rfl) (Nat.le_of_ble_eq_true rfl) dJ5_init_d00df_38
set_option maxHeartbeats 4000000 in
set_option maxRecDepth 100000 in
theorem g_sbInit (l : Launch) (D : va_G) (sz : Nat) (ed : Nat × Nat × Nat) (cI cO cL cB : ClassId) (h : Nat) : MGv l yJ4_init_da8c8 wsJ4_init_da8c8 2 41 1 16 D (ty4 cI cO cL cB) sz ([(h, .inr (0, [.null, .int (iI (0)), .int (iI (0)), .int (iI (0))]))]) [.ref h] ed (fun (u : Nat) => [(u, .inl (cB, 16, .inl (fun i => iI ((fun _ => 0) i)))), (h, .inr (0, [.ref u, .int (iI (0)), .int (iI (0)), .int (iI (0))]))]) := by
  refine MGv_of (cc := cJ4_init_da8c8) (maxL := 1) (ret := none) (by decide) rfl (Nat.le_of_ble_eq_true rfl) ?_
  intro p e s m args below meth c ls hx hb hr hlocks hml hown hts hsz hP hK hD hS hA hin hE hT hl
  have hl : lv_has ls 1 [(0, .ref h)] := hl
  have hP : va_P D vwCl ([(h, .inr (0, [.null, .int (iI (0)), .int (iI (0)), .int (iI (0))]))]) s.heap := hP
  have hD : va_D (va_A ([(h, .inr (0, [.null, .int (iI (0)), .int (iI (0)), .int (iI (0))]))]) sz) ([(h, .inr (0, [.null, .int (iI (0)), .int (iI (0)), .int (iI (0))]))]) := hD
  refine lv_aload_n hx hb dJ4_init_da8c8_0 rfl (lv_at hl 0 rfl) ?_
  refine q_bipush hx hb dJ4_init_da8c8_1 (by decide) ?_
  refine q_callGc (fr := 1) (lo := 20) (nL := 1) (wc := [(h, .inr (0, [.null, .int (iI (0)), .int (iI (0)), .int (iI (0))]))]) (wr := []) (As := [.int (iI (16))]) (rest := []) ⟨hx, hb, hml, hown, hts⟩ (g_asbInit l D _ ed cI cO cL cB h) (cwI 1 hts gJ4_init_da8c8_J5_init_d00df rfl rfl rfl (hts (.initialized RJ5) (List.mem_of_getElem? (i := 3) rfl)) (hts (.methodLink RJ4 1 yJ5_init_d00df) (List.mem_of_getElem? (i := 1) rfl)) (hts (.instanceMethod yJ5_init_d00df) (List.mem_of_getElem? (i := 2) rfl)) rfl (by decide +kernel) ⟨Nat.le_of_ble_eq_true rfl, Nat.le_of_ble_eq_true rfl⟩) hP hD hS hA hK hE hT rfl hl.1 rfl (Nat.le_of_ble_eq_true rfl) dJ4_init_da8c8_3 (Nat.le_of_ble_eq_true rfl) (Nat.le_of_ble_eq_true rfl) ?_
  intro u3 H locs hP hD hS
  have hP : va_P D vwCl ([(u3, .inl (cB, 16, .inl (fun q9 => iI ((fun _ => 0) q9)))), (h, .inr (0, [.ref u3, .int (iI (0)), .int (iI (0)), .int (iI (0))]))]) H := hP
  have hD : va_D (va_A ([(h, .inr (0, [.null, .int (iI (0)), .int (iI (0)), .int (iI (0))]))]) sz) ([(u3, .inl (cB, 16, .inl (fun q9 => iI ((fun _ => 0) q9)))), (h, .inr (0, [.ref u3, .int (iI (0)), .int (iI (0)), .int (iI (0))]))]) := hD
  exact q_gvret (cells := 1) (slots := 16) (mc := 1) (ms := 16) (w1 := fun (u : Nat) => [(u, .inl (cB, 16, .inl (fun i => iI ((fun _ => 0) i)))), (h, .inr (0, [.ref u, .int (iI (0)), .int (iI (0)), .int (iI (0))]))]) (u3) hx hb hr hlocks hS (⟨hP, hD⟩) (Nat.le_of_ble_eq_true rfl) (Nat.le_of_ble_eq_true rfl) dJ4_init_da8c8_6
set_option maxHeartbeats 4000000 in
set_option maxRecDepth 100000 in
theorem g_isLatin1 (l : Launch) (D : va_G) (sz : Nat) (ed : Nat × Nat × Nat) (cI cO cL cB : ClassId) (h bd : Nat) (n : Int) (tx : Nat → Int)  : MGi l yJ5_isLatin1_aae02 wsJ5_isLatin1_aae02 0 0 0 0 D (ty4 cI cO cL cB) sz ([(h, .inr (0, [.ref bd, .int (iI (0)), .int (iI (0)), .int (iI (n))])), (bd, .inl (cB, 16, .inl (fun i => iI (tx i))))]) [.ref h] ed (1) (fun (_ : Unit) => [(h, .inr (0, [.ref bd, .int (iI (0)), .int (iI (0)), .int (iI (n))])), (bd, .inl (cB, 16, .inl (fun i => iI (tx i))))]) := by
  refine MGi_of (cc := cJ5_isLatin1_aae02) (maxL := 1) (ret := (some .boolean)) (by decide) rfl (Nat.le_of_ble_eq_true rfl) ?_
  intro p e s m args below meth c ls hx hb hr hlocks hml hown hts hsz hP hK hD hS hA hin hE hT hl
  have hl : lv_has ls 1 [(0, .ref h)] := hl
  have hin_J4 : ∀ w ∈ u_ws RJ4 TJ4 4, w ∈ wsJ5_isLatin1_aae02 := (fun w h => List.mem_cons_of_mem _ (List.mem_append_right _ h))
  have hP : va_P D vwCl ([(h, .inr (0, [.ref bd, .int (iI (0)), .int (iI (0)), .int (iI (n))])), (bd, .inl (cB, 16, .inl (fun q9 => iI (tx q9))))]) s.heap := hP
  have hD : va_D (va_A ([(h, .inr (0, [.ref bd, .int (iI (0)), .int (iI (0)), .int (iI (n))])), (bd, .inl (cB, 16, .inl (fun i => iI (tx i))))]) sz) ([(h, .inr (0, [.ref bd, .int (iI (0)), .int (iI (0)), .int (iI (n))])), (bd, .inl (cB, 16, .inl (fun q9 => iI (tx q9))))]) := hD
  refine va_gets (v := .int (iI (1))) hx hb hE.2.2.1 hS hown (hts (.fieldLink RJ5 18 "java/lang/String" "COMPACT_STRINGS" "Z") (List.mem_of_getElem? (i := 1) rfl)) (fun _ h9 => h9) dJ5_isLatin1_aae02_0 ?_
  refine q_if_eq (tgt := 17) hx hb dJ5_isLatin1_aae02_3 (by decide) (by omega) (fun c_1 => ?_) (fun c_1 => ?_)
  · exfalso
    omega
  · skip
    refine lv_aload_n hx hb dJ5_isLatin1_aae02_6 rfl (lv_at hl 0 rfl) ?_
    refine q_get (ci := 0) (C := RJ4) (T := TJ4) (N := 4) hx hb hts hin_J4 hown hK (v := .int (iI (0))) (hP 0 _ rfl) rfl 1 (by decide) (hts (.fieldLink RJ5 22 "java/lang/AbstractStringBuilder" "coder" "B") (List.mem_of_getElem? (i := 2) rfl)) (fun _ h9 => h9) rfl dJ5_isLatin1_aae02_7 ?_
    refine q_if_ne (tgt := 17) hx hb dJ5_isLatin1_aae02_10 (by decide) (by omega) (fun c_2 => ?_) (fun c_2 => ?_)
    · exfalso
      omega
    · skip
      refine q_iconst hx hb dJ5_isLatin1_aae02_13 ?_
      refine lv_goto (tgt := 18) hx hb dJ5_isLatin1_aae02_14 (by decide) ?_
      exact q_gzret (cells := 0) (slots := 0) (mc := 0) (ms := 0) (w1 := fun (_ : Unit) => [(h, .inr (0, [.ref bd, .int (iI (0)), .int (iI (0)), .int (iI (n))])), (bd, .inl (cB, 16, .inl (fun i => iI (tx i))))]) (()) hx hb hr hlocks (by omega) hS (rfl) (⟨hP, hD⟩) (Nat.le_of_ble_eq_true rfl) (Nat.le_of_ble_eq_true rfl) dJ5_isLatin1_aae02_18
set_option maxHeartbeats 4000000 in
set_option maxRecDepth 100000 in
theorem g_ensure (l : Launch) (D : va_G) (sz : Nat) (ed : Nat × Nat × Nat) (cI cO cL cB : ClassId) (h bd : Nat) (n : Int) (tx : Nat → Int) (z : Int) (hz : 0 ≤ z ∧ z ≤ 16) : MGv l yJ5_ensureCapacityInternal_d00df wsJ5_ensureCapacityInternal_d00df 0 0 0 0 D (ty4 cI cO cL cB) sz ([(h, .inr (0, [.ref bd, .int (iI (0)), .int (iI (0)), .int (iI (n))])), (bd, .inl (cB, 16, .inl (fun i => iI (tx i))))]) [.ref h, .int (iI (z))] ed (fun (_ : Unit) => [(h, .inr (0, [.ref bd, .int (iI (0)), .int (iI (0)), .int (iI (n))])), (bd, .inl (cB, 16, .inl (fun i => iI (tx i))))]) := by
  refine MGv_of (cc := cJ5_ensureCapacityInternal_d00df) (maxL := 3) (ret := none) (by decide) rfl (Nat.le_of_ble_eq_true rfl) ?_
  intro p e s m args below meth c ls hx hb hr hlocks hml hown hts hsz hP hK hD hS hA hin hE hT hl
  have hl : lv_has ls 3 [(0, .ref h), (1, .int (iI (z)))] := hl
  have hin_J4 : ∀ w ∈ u_ws RJ4 TJ4 4, w ∈ wsJ5_ensureCapacityInternal_d00df := (fun w h => List.mem_cons_of_mem _ (List.mem_append_right _ h))
  have hP : va_P D vwCl ([(h, .inr (0, [.ref bd, .int (iI (0)), .int (iI (0)), .int (iI (n))])), (bd, .inl (cB, 16, .inl (fun q9 => iI (tx q9))))]) s.heap := hP
  have hD : va_D (va_A ([(h, .inr (0, [.ref bd, .int (iI (0)), .int (iI (0)), .int (iI (n))])), (bd, .inl (cB, 16, .inl (fun i => iI (tx i))))]) sz) ([(h, .inr (0, [.ref bd, .int (iI (0)), .int (iI (0)), .int (iI (n))])), (bd, .inl (cB, 16, .inl (fun q9 => iI (tx q9))))]) := hD
  refine lv_aload_n hx hb dJ5_ensureCapacityInternal_d00df_0 rfl (lv_at hl 0 rfl) ?_
  refine q_get (ci := 0) (C := RJ4) (T := TJ4) (N := 4) hx hb hts hin_J4 hown hK (v := .ref bd) (hP 0 _ rfl) rfl 0 (by decide) (hts (.fieldLink RJ5 15 "java/lang/AbstractStringBuilder" "value" "[B") (List.mem_of_getElem? (i := 1) rfl)) (fun _ h9 => h9) rfl dJ5_ensureCapacityInternal_d00df_1 ?_
  refine q_alen (z := 16) hx hb hK (hP 1 _ rfl) 3 rfl (by rfl) dJ5_ensureCapacityInternal_d00df_4 ?_
  refine lv_aload_n hx hb dJ5_ensureCapacityInternal_d00df_5 rfl (lv_at hl 0 rfl) ?_
  refine q_get (ci := 0) (C := RJ4) (T := TJ4) (N := 4) hx hb hts hin_J4 hown hK (v := .int (iI (0))) (hP 0 _ rfl) rfl 1 (by decide) (hts (.fieldLink RJ5 22 "java/lang/AbstractStringBuilder" "coder" "B") (List.mem_of_getElem? (i := 2) rfl)) (fun _ h9 => h9) rfl dJ5_ensureCapacityInternal_d00df_6 ?_
  refine q_sh0 hx hb dJ5_ensureCapacityInternal_d00df_9 (by decide) ?_
  refine lv_istore_n (lv' := [(2, .int (iI (16))), (0, .ref h), (1, .int (iI (z)))]) hx hb dJ5_ensureCapacityInternal_d00df_10 rfl hl (by decide) rfl (fun ls hl => ?_)
  refine lv_iload_n hx hb dJ5_ensureCapacityInternal_d00df_11 rfl (lv_at hl 2 rfl) ?_
  refine lv_iload_n hx hb dJ5_ensureCapacityInternal_d00df_12 rfl (lv_at hl 0 rfl) ?_
  refine q_isub hx hb dJ5_ensureCapacityInternal_d00df_13 ?_
  refine q_if_le (tgt := 38) hx hb dJ5_ensureCapacityInternal_d00df_14 (by decide) (by omega) (fun c_1 => ?_) (fun c_1 => ?_)
  · skip
    exact q_gvret (cells := 0) (slots := 0) (mc := 0) (ms := 0) (w1 := fun (_ : Unit) => [(h, .inr (0, [.ref bd, .int (iI (0)), .int (iI (0)), .int (iI (n))])), (bd, .inl (cB, 16, .inl (fun i => iI (tx i))))]) (()) hx hb hr hlocks hS (⟨hP, hD⟩) (Nat.le_of_ble_eq_true rfl) (Nat.le_of_ble_eq_true rfl) dJ5_ensureCapacityInternal_d00df_38
  · exfalso
    omega
set_option maxHeartbeats 4000000 in
set_option maxRecDepth 100000 in
theorem g_asbLen (l : Launch) (D : va_G) (sz : Nat) (ed : Nat × Nat × Nat) (cI cO cL cB : ClassId) (h bd : Nat) (n : Int) (tx : Nat → Int)  : MGi l yJ5_length_8abf5 wsJ5_length_8abf5 0 0 0 0 D (ty4 cI cO cL cB) sz ([(h, .inr (0, [.ref bd, .int (iI (0)), .int (iI (0)), .int (iI (n))])), (bd, .inl (cB, 16, .inl (fun i => iI (tx i))))]) [.ref h] ed (n) (fun (_ : Unit) => [(h, .inr (0, [.ref bd, .int (iI (0)), .int (iI (0)), .int (iI (n))])), (bd, .inl (cB, 16, .inl (fun i => iI (tx i))))]) := by
  refine MGi_of (cc := cJ5_length_8abf5) (maxL := 1) (ret := (some .int)) (by decide) rfl (Nat.le_of_ble_eq_true rfl) ?_
  intro p e s m args below meth c ls hx hb hr hlocks hml hown hts hsz hP hK hD hS hA hin hE hT hl
  have hl : lv_has ls 1 [(0, .ref h)] := hl
  have hin_J4 : ∀ w ∈ u_ws RJ4 TJ4 4, w ∈ wsJ5_length_8abf5 := (fun w h => List.mem_cons_of_mem _ (List.mem_append_right _ h))
  have hP : va_P D vwCl ([(h, .inr (0, [.ref bd, .int (iI (0)), .int (iI (0)), .int (iI (n))])), (bd, .inl (cB, 16, .inl (fun q9 => iI (tx q9))))]) s.heap := hP
  have hD : va_D (va_A ([(h, .inr (0, [.ref bd, .int (iI (0)), .int (iI (0)), .int (iI (n))])), (bd, .inl (cB, 16, .inl (fun i => iI (tx i))))]) sz) ([(h, .inr (0, [.ref bd, .int (iI (0)), .int (iI (0)), .int (iI (n))])), (bd, .inl (cB, 16, .inl (fun q9 => iI (tx q9))))]) := hD
  refine lv_aload_n hx hb dJ5_length_8abf5_0 rfl (lv_at hl 0 rfl) ?_
  refine q_get (ci := 0) (C := RJ4) (T := TJ4) (N := 4) hx hb hts hin_J4 hown hK (v := .int (iI (n))) (hP 0 _ rfl) rfl 3 (by decide) (hts (.fieldLink RJ5 79 "java/lang/AbstractStringBuilder" "count" "I") (List.mem_of_getElem? (i := 1) rfl)) (fun _ h9 => h9) rfl dJ5_length_8abf5_1 ?_
  exact q_giret (cells := 0) (slots := 0) (mc := 0) (ms := 0) (w1 := fun (_ : Unit) => [(h, .inr (0, [.ref bd, .int (iI (0)), .int (iI (0)), .int (iI (n))])), (bd, .inl (cB, 16, .inl (fun i => iI (tx i))))]) (()) hx hb hr hlocks hS (rfl) (⟨hP, hD⟩) (Nat.le_of_ble_eq_true rfl) (Nat.le_of_ble_eq_true rfl) dJ5_length_8abf5_4
set_option maxHeartbeats 4000000 in
set_option maxRecDepth 100000 in
theorem g_len (l : Launch) (D : va_G) (sz : Nat) (ed : Nat × Nat × Nat) (cI cO cL cB : ClassId) (h bd : Nat) (n : Int) (tx : Nat → Int)  : MGi l yJ4_length_8abf5 wsJ4_length_8abf5 1 20 0 0 D (ty4 cI cO cL cB) sz ([(h, .inr (0, [.ref bd, .int (iI (0)), .int (iI (0)), .int (iI (n))])), (bd, .inl (cB, 16, .inl (fun i => iI (tx i))))]) [.ref h] ed (n) (fun (_ : Unit) => [(h, .inr (0, [.ref bd, .int (iI (0)), .int (iI (0)), .int (iI (n))])), (bd, .inl (cB, 16, .inl (fun i => iI (tx i))))]) := by
  refine MGi_of (cc := cJ4_length_8abf5) (maxL := 1) (ret := (some .int)) (by decide) rfl (Nat.le_of_ble_eq_true rfl) ?_
  intro p e s m args below meth c ls hx hb hr hlocks hml hown hts hsz hP hK hD hS hA hin hE hT hl
  have hl : lv_has ls 1 [(0, .ref h)] := hl
  have hP : va_P D vwCl ([(h, .inr (0, [.ref bd, .int (iI (0)), .int (iI (0)), .int (iI (n))])), (bd, .inl (cB, 16, .inl (fun q9 => iI (tx q9))))]) s.heap := hP
  have hD : va_D (va_A ([(h, .inr (0, [.ref bd, .int (iI (0)), .int (iI (0)), .int (iI (n))])), (bd, .inl (cB, 16, .inl (fun i => iI (tx i))))]) sz) ([(h, .inr (0, [.ref bd, .int (iI (0)), .int (iI (0)), .int (iI (n))])), (bd, .inl (cB, 16, .inl (fun q9 => iI (tx q9))))]) := hD
  refine lv_aload_n hx hb dJ4_length_8abf5_0 rfl (lv_at hl 0 rfl) ?_
  refine q_runGi (wc := [(h, .inr (0, [.ref bd, .int (iI (0)), .int (iI (0)), .int (iI (n))])), (bd, .inl (cB, 16, .inl (fun q9 => iI (tx q9))))]) (wr := []) (rest := []) (va_runSU (hK.1 0 _ rfl).2 (nL := 1) (As := []) (rm := { frames := 0, cells := 0, slots := 0, locals := 0 }) ⟨hx, hb, hml, hown, hts⟩ (g_asbLen l D _ ed cI cO cL cB h bd (n) tx  ) (va_cwSU 0 hts gJ4_length_8abf5_J5_length_8abf5_s343 rfl rfl rfl (by decide +kernel) ⟨Nat.le_of_ble_eq_true rfl, Nat.le_of_ble_eq_true rfl⟩) ⟨pcY_blind, (ob_recv (hP 0 _ rfl) hK rfl), pcY_at (wr := []) hP hD hS hA hK hE hT⟩ rfl rfl hl.1 rfl (lv_room (Nat.le_of_ble_eq_true rfl)) dJ4_length_8abf5_1 ⟨Nat.le_of_ble_eq_true rfl, Nat.le_of_ble_eq_true rfl⟩) hP hD hS hA ?_
  intro _u H locs hP hD hS
  have hP : va_P D vwCl ([(h, .inr (0, [.ref bd, .int (iI (0)), .int (iI (0)), .int (iI (n))])), (bd, .inl (cB, 16, .inl (fun q9 => iI (tx q9))))]) H := hP
  have hD : va_D (va_A ([(h, .inr (0, [.ref bd, .int (iI (0)), .int (iI (0)), .int (iI (n))])), (bd, .inl (cB, 16, .inl (fun i => iI (tx i))))]) sz) ([(h, .inr (0, [.ref bd, .int (iI (0)), .int (iI (0)), .int (iI (n))])), (bd, .inl (cB, 16, .inl (fun q9 => iI (tx q9))))]) := hD
  exact q_giret (cells := 0) (slots := 0) (mc := 0) (ms := 0) (w1 := fun (_ : Unit) => [(h, .inr (0, [.ref bd, .int (iI (0)), .int (iI (0)), .int (iI (n))])), (bd, .inl (cB, 16, .inl (fun i => iI (tx i))))]) (()) hx hb hr hlocks hS (rfl) (⟨hP, hD⟩) (Nat.le_of_ble_eq_true rfl) (Nat.le_of_ble_eq_true rfl) dJ4_length_8abf5_4
set_option maxHeartbeats 4000000 in
set_option maxRecDepth 100000 in
theorem g_checkIndex (l : Launch) (D : va_G) (sz : Nat) (ed : Nat × Nat × Nat) (cI cO cL cB : ClassId) (i n : Int) (hi : 0 ≤ i ∧ i < n) (hn : n ≤ 1000) : MGv l yJ0_checkIndex_df160 wsJ0_checkIndex_df160 1 22 0 0 D (ty4 cI cO cL cB) sz ([]) [.int (iI (i)), .int (iI (n))] ed (fun (_ : Unit) => []) := by
  refine MGv_of (cc := cJ0_checkIndex_df160) (maxL := 2) (ret := none) (by decide) rfl (Nat.le_of_ble_eq_true rfl) ?_
  intro p e s m args below meth c ls hx hb hr hlocks hml hown hts hsz hP hK hD hS hA hin hE hT hl
  have hl : lv_has ls 2 [(0, .int (iI (i))), (1, .int (iI (n)))] := hl
  have hP : va_P D vwCl ([]) s.heap := hP
  have hD : va_D (va_A ([]) sz) ([]) := hD
  refine lv_iload_n hx hb dJ0_checkIndex_df160_0 rfl (lv_at hl 0 rfl) ?_
  refine lv_iload_n hx hb dJ0_checkIndex_df160_1 rfl (lv_at hl 1 rfl) ?_
  rcases hE.2.2.2.2.2 with hz | ⟨tz, hz⟩
  · skip
    refine va_gets (v := .null) hx hb hz hS hown (hts (.fieldLink RJ0 1053 "jdk/internal/util/Preconditions" "SIOOBE_FORMATTER" "Ljava/util/function/BiFunction;") (List.mem_of_getElem? (i := 1) rfl)) (fun _ h9 => h9) dJ0_checkIndex_df160_2 ?_
    refine q_callS (fr := 0) (lo := 0) (nL := 2) (Pic := fun _ => True) (As := [.int (iI (i)), .int (iI (n)), .null]) (rest := []) ⟨hx, hb, hml, hown, hts⟩ (c_checkIndex3 l D (ty4 cI cO cL cB) (i) (n) (by omega) (by omega)) (va_cwS 3 hts gJ0_checkIndex_df160_J3_checkIndex_8e157 rfl rfl rfl (by decide +kernel) ⟨Nat.le_of_ble_eq_true rfl, Nat.le_of_ble_eq_true rfl⟩) trivial hK rfl hl.1 rfl (Nat.le_of_ble_eq_true rfl) dJ0_checkIndex_df160_5 (Nat.zero_le _) (Nat.zero_le _) ?_
    refine lv_pop hx hb dJ0_checkIndex_df160_8 rfl ?_
    exact q_gvret (cells := 0) (slots := 0) (mc := 0) (ms := 0) (w1 := fun (_ : Unit) => []) (()) hx hb hr hlocks hS (⟨hP, hD⟩) (Nat.le_of_ble_eq_true rfl) (Nat.le_of_ble_eq_true rfl) dJ0_checkIndex_df160_9
  · skip
    refine va_gets (v := .ref tz) hx hb hz hS hown (hts (.fieldLink RJ0 1053 "jdk/internal/util/Preconditions" "SIOOBE_FORMATTER" "Ljava/util/function/BiFunction;") (List.mem_of_getElem? (i := 1) rfl)) (fun _ h9 => h9) dJ0_checkIndex_df160_2 ?_
    refine q_callS (fr := 0) (lo := 0) (nL := 2) (Pic := fun _ => True) (As := [.int (iI (i)), .int (iI (n)), .ref tz]) (rest := []) ⟨hx, hb, hml, hown, hts⟩ (c_checkIndex3r l D (ty4 cI cO cL cB) (i) (n) tz (by omega) (by omega)) (va_cwS 3 hts gJ0_checkIndex_df160_J3_checkIndex_8e157 rfl rfl rfl (by decide +kernel) ⟨Nat.le_of_ble_eq_true rfl, Nat.le_of_ble_eq_true rfl⟩) trivial hK rfl hl.1 rfl (Nat.le_of_ble_eq_true rfl) dJ0_checkIndex_df160_5 (Nat.zero_le _) (Nat.zero_le _) ?_
    refine lv_pop hx hb dJ0_checkIndex_df160_8 rfl ?_
    exact q_gvret (cells := 0) (slots := 0) (mc := 0) (ms := 0) (w1 := fun (_ : Unit) => []) (()) hx hb hr hlocks hS (⟨hP, hD⟩) (Nat.le_of_ble_eq_true rfl) (Nat.le_of_ble_eq_true rfl) dJ0_checkIndex_df160_9
set_option maxHeartbeats 4000000 in
set_option maxRecDepth 100000 in
theorem g_asbChr (l : Launch) (D : va_G) (sz : Nat) (ed : Nat × Nat × Nat) (cI cO cL cB : ClassId) (h bd : Nat) (n : Int) (tx : Nat → Int) (i : Int) (hi : 0 ≤ i ∧ i < n) (hn : n ≤ 16) (htx : ∀ j : Nat, (j : Int) < n → 0 ≤ tx j ∧ tx j < 128) : MGi l yJ5_charAt_5068e wsJ5_charAt_5068e 2 43 0 0 D (ty4 cI cO cL cB) sz ([(h, .inr (0, [.ref bd, .int (iI (0)), .int (iI (0)), .int (iI (n))])), (bd, .inl (cB, 16, .inl (fun i => iI (tx i))))]) [.ref h, .int (iI (i))] ed (tx i.toNat) (fun (_ : Unit) => [(h, .inr (0, [.ref bd, .int (iI (0)), .int (iI (0)), .int (iI (n))])), (bd, .inl (cB, 16, .inl (fun i => iI (tx i))))]) := by
  refine MGi_of (cc := cJ5_charAt_5068e) (maxL := 5) (ret := (some .char)) (by decide) rfl (Nat.le_of_ble_eq_true rfl) ?_
  intro p e s m args below meth c ls hx hb hr hlocks hml hown hts hsz hP hK hD hS hA hin hE hT hl
  have hl : lv_has ls 5 [(0, .ref h), (1, .int (iI (i)))] := hl
  have hin_J4 : ∀ w ∈ u_ws RJ4 TJ4 4, w ∈ wsJ5_charAt_5068e := (fun w h => List.mem_cons_of_mem _ (List.mem_append_right _ h))
  have hP : va_P D vwCl ([(h, .inr (0, [.ref bd, .int (iI (0)), .int (iI (0)), .int (iI (n))])), (bd, .inl (cB, 16, .inl (fun q9 => iI (tx q9))))]) s.heap := hP
  have hD : va_D (va_A ([(h, .inr (0, [.ref bd, .int (iI (0)), .int (iI (0)), .int (iI (n))])), (bd, .inl (cB, 16, .inl (fun i => iI (tx i))))]) sz) ([(h, .inr (0, [.ref bd, .int (iI (0)), .int (iI (0)), .int (iI (n))])), (bd, .inl (cB, 16, .inl (fun q9 => iI (tx q9))))]) := hD
  have htj := htx i.toNat (by omega)
  refine lv_aload_n hx hb dJ5_charAt_5068e_0 rfl (lv_at hl 0 rfl) ?_
  refine q_get (ci := 0) (C := RJ4) (T := TJ4) (N := 4) hx hb hts hin_J4 hown hK (v := .int (iI (0))) (hP 0 _ rfl) rfl 1 (by decide) (hts (.fieldLink RJ5 22 "java/lang/AbstractStringBuilder" "coder" "B") (List.mem_of_getElem? (i := 1) rfl)) (fun _ h9 => h9) rfl dJ5_charAt_5068e_1 ?_
  refine lv_istore_n (lv' := [(2, .int (iI (0))), (0, .ref h), (1, .int (iI (i)))]) hx hb dJ5_charAt_5068e_4 rfl hl (by decide) rfl (fun ls hl => ?_)
  refine lv_aload_n hx hb dJ5_charAt_5068e_5 rfl (lv_at hl 1 rfl) ?_
  refine q_get (ci := 0) (C := RJ4) (T := TJ4) (N := 4) hx hb hts hin_J4 hown hK (v := .ref bd) (hP 0 _ rfl) rfl 0 (by decide) (hts (.fieldLink RJ5 15 "java/lang/AbstractStringBuilder" "value" "[B") (List.mem_of_getElem? (i := 2) rfl)) (fun _ h9 => h9) rfl dJ5_charAt_5068e_6 ?_
  refine lv_astore_n (lv' := [(3, .ref bd), (2, .int (iI (0))), (0, .ref h), (1, .int (iI (i)))]) hx hb dJ5_charAt_5068e_9 rfl hl (by decide) rfl (fun ls hl => ?_)
  refine lv_aload_n hx hb dJ5_charAt_5068e_10 rfl (lv_at hl 2 rfl) ?_
  refine q_get (ci := 0) (C := RJ4) (T := TJ4) (N := 4) hx hb hts hin_J4 hown hK (v := .int (iI (n))) (hP 0 _ rfl) rfl 3 (by decide) (hts (.fieldLink RJ5 79 "java/lang/AbstractStringBuilder" "count" "I") (List.mem_of_getElem? (i := 3) rfl)) (fun _ h9 => h9) rfl dJ5_charAt_5068e_11 ?_
  refine lv_aload_n hx hb dJ5_charAt_5068e_14 rfl (lv_at hl 0 rfl) ?_
  refine q_alen (z := 16) hx hb hK (hP 1 _ rfl) 3 rfl (by rfl) dJ5_charAt_5068e_15 ?_
  refine lv_iload_n hx hb dJ5_charAt_5068e_16 rfl (lv_at hl 1 rfl) ?_
  refine q_sh0 hx hb dJ5_charAt_5068e_17 (by decide) ?_
  refine q_mmin hx hb (hml.trans hl.1.symm) hown (hts (.methodLink RJ5 138 Lib.Math.min.name) (List.mem_of_getElem? (i := 4) rfl)) (hts (.static Lib.Math.min.name) (List.mem_of_getElem? (i := 5) rfl)) (hts (.initialized "java/lang/Math") (List.mem_of_getElem? (i := 6) rfl)) (hts (.code Lib.Math.min.name Lib.Math.min.code 2 (some .int)) (List.mem_of_getElem? (i := 7) rfl)) (by omega) (by omega) (Nat.le_of_ble_eq_true rfl) (Nat.le_of_ble_eq_true rfl) (Nat.zero_le _) (Nat.zero_le _) dJ5_charAt_5068e_18 ?_
  refine q_top (fun mn emn => ?_)
  refine lv_istore (lv' := [(4, .int (iI (mn))), (3, .ref bd), (2, .int (iI (0))), (0, .ref h), (1, .int (iI (i)))]) hx hb dJ5_charAt_5068e_21 hl (by decide) rfl (fun ls hl => ?_)
  refine lv_iload_n hx hb dJ5_charAt_5068e_23 rfl (lv_at hl 4 rfl) ?_
  refine lv_iload hx hb dJ5_charAt_5068e_24 (lv_at hl 0 rfl) ?_
  refine q_runGv (wc := []) (wr := [(h, .inr (0, [.ref bd, .int (iI (0)), .int (iI (0)), .int (iI (n))])), (bd, .inl (cB, 16, .inl (fun q9 => iI (tx q9))))]) (rest := []) (va_runS (nL := 5) (As := [.int (iI (i)), .int (iI (mn))]) (rm := { frames := 1, cells := 0, slots := 0, locals := 22 }) ⟨hx, hb, hml, hown, hts⟩ (g_checkIndex l D _ ed cI cO cL cB (i) (mn) (by omega) (by omega)) (va_cwS 2 hts gJ5_charAt_5068e_J0_checkIndex_df160 rfl rfl rfl (by decide +kernel) ⟨Nat.le_of_ble_eq_true rfl, Nat.le_of_ble_eq_true rfl⟩) ⟨pcY_blind, pcY_at (wr := [(h, .inr (0, [.ref bd, .int (iI (0)), .int (iI (0)), .int (iI (n))])), (bd, .inl (cB, 16, .inl (fun q9 => iI (tx q9))))]) hP hD hS hA hK hE hT⟩ rfl rfl hl.1 rfl (lv_room (Nat.le_of_ble_eq_true rfl)) dJ5_charAt_5068e_26 ⟨Nat.le_of_ble_eq_true rfl, Nat.le_of_ble_eq_true rfl⟩) hP hD hS hA ?_
  intro _u H locs hP hD hS
  have hP : va_P D vwCl ([(h, .inr (0, [.ref bd, .int (iI (0)), .int (iI (0)), .int (iI (n))])), (bd, .inl (cB, 16, .inl (fun q9 => iI (tx q9))))]) H := hP
  have hD : va_D (va_A ([(h, .inr (0, [.ref bd, .int (iI (0)), .int (iI (0)), .int (iI (n))])), (bd, .inl (cB, 16, .inl (fun i => iI (tx i))))]) sz) ([(h, .inr (0, [.ref bd, .int (iI (0)), .int (iI (0)), .int (iI (n))])), (bd, .inl (cB, 16, .inl (fun q9 => iI (tx q9))))]) := hD
  refine lv_iload_n hx hb dJ5_charAt_5068e_29 rfl (lv_at hl 2 rfl) ?_
  refine q_if_ne (tgt := 42) hx hb dJ5_charAt_5068e_30 (by decide) (by omega) (fun c_1 => ?_) (fun c_1 => ?_)
  · exfalso
    omega
  · skip
    refine lv_aload_n hx hb dJ5_charAt_5068e_33 rfl (lv_at hl 1 rfl) ?_
    refine lv_iload_n hx hb dJ5_charAt_5068e_34 rfl (lv_at hl 4 rfl) ?_
    refine q_bald (f := tx) hx hb hK (hP 1 _ rfl) 3 rfl (by omega) (by decide) dJ5_charAt_5068e_35 ?_
    refine q_sipush hx hb dJ5_charAt_5068e_36 (by decide) ?_
    refine q_and255 hx hb dJ5_charAt_5068e_39 (by omega) ?_
    refine q_i2c hx hb dJ5_charAt_5068e_40 (by omega) ?_
    exact q_gcret (cells := 0) (slots := 0) (mc := 0) (ms := 0) (w1 := fun (_ : Unit) => [(h, .inr (0, [.ref bd, .int (iI (0)), .int (iI (0)), .int (iI (n))])), (bd, .inl (cB, 16, .inl (fun i => iI (tx i))))]) (()) hx hb hr hlocks (by omega) hS (rfl) (⟨hP, hD⟩) (Nat.le_of_ble_eq_true rfl) (Nat.le_of_ble_eq_true rfl) dJ5_charAt_5068e_41
set_option maxHeartbeats 4000000 in
set_option maxRecDepth 100000 in
theorem g_chr (l : Launch) (D : va_G) (sz : Nat) (ed : Nat × Nat × Nat) (cI cO cL cB : ClassId) (h bd : Nat) (n : Int) (tx : Nat → Int) (i : Int) (hi : 0 ≤ i ∧ i < n) (hn : n ≤ 16) (htx : ∀ j : Nat, (j : Int) < n → 0 ≤ tx j ∧ tx j < 128) : MGi l yJ4_charAt_5068e wsJ4_charAt_5068e 3 67 0 0 D (ty4 cI cO cL cB) sz ([(h, .inr (0, [.ref bd, .int (iI (0)), .int (iI (0)), .int (iI (n))])), (bd, .inl (cB, 16, .inl (fun i => iI (tx i))))]) [.ref h, .int (iI (i))] ed (tx i.toNat) (fun (_ : Unit) => [(h, .inr (0, [.ref bd, .int (iI (0)), .int (iI (0)), .int (iI (n))])), (bd, .inl (cB, 16, .inl (fun i => iI (tx i))))]) := by
  refine MGi_of (cc := cJ4_charAt_5068e) (maxL := 2) (ret := (some .char)) (by decide) rfl (Nat.le_of_ble_eq_true rfl) ?_
  intro p e s m args below meth c ls hx hb hr hlocks hml hown hts hsz hP hK hD hS hA hin hE hT hl
  have hl : lv_has ls 2 [(0, .ref h), (1, .int (iI (i)))] := hl
  have hP : va_P D vwCl ([(h, .inr (0, [.ref bd, .int (iI (0)), .int (iI (0)), .int (iI (n))])), (bd, .inl (cB, 16, .inl (fun q9 => iI (tx q9))))]) s.heap := hP
  have hD : va_D (va_A ([(h, .inr (0, [.ref bd, .int (iI (0)), .int (iI (0)), .int (iI (n))])), (bd, .inl (cB, 16, .inl (fun i => iI (tx i))))]) sz) ([(h, .inr (0, [.ref bd, .int (iI (0)), .int (iI (0)), .int (iI (n))])), (bd, .inl (cB, 16, .inl (fun q9 => iI (tx q9))))]) := hD
  have htj := htx i.toNat (by omega)
  refine lv_aload_n hx hb dJ4_charAt_5068e_0 rfl (lv_at hl 0 rfl) ?_
  refine lv_iload_n hx hb dJ4_charAt_5068e_1 rfl (lv_at hl 1 rfl) ?_
  refine q_runGi (wc := [(h, .inr (0, [.ref bd, .int (iI (0)), .int (iI (0)), .int (iI (n))])), (bd, .inl (cB, 16, .inl (fun q9 => iI (tx q9))))]) (wr := []) (rest := []) (va_runSU (hK.1 0 _ rfl).2 (nL := 2) (As := [.int (iI (i))]) (rm := { frames := 2, cells := 0, slots := 0, locals := 43 }) ⟨hx, hb, hml, hown, hts⟩ (g_asbChr l D _ ed cI cO cL cB h bd (n) tx (i) (by omega) (by omega) (htx)) (va_cwSU 1 hts gJ4_charAt_5068e_J5_charAt_5068e_s329 rfl rfl rfl (by decide +kernel) ⟨Nat.le_of_ble_eq_true rfl, Nat.le_of_ble_eq_true rfl⟩) ⟨pcY_blind, (ob_recv (hP 0 _ rfl) hK rfl), pcY_at (wr := []) hP hD hS hA hK hE hT⟩ rfl rfl hl.1 rfl (lv_room (Nat.le_of_ble_eq_true rfl)) dJ4_charAt_5068e_2 ⟨Nat.le_of_ble_eq_true rfl, Nat.le_of_ble_eq_true rfl⟩) hP hD hS hA ?_
  intro _u H locs hP hD hS
  have hP : va_P D vwCl ([(h, .inr (0, [.ref bd, .int (iI (0)), .int (iI (0)), .int (iI (n))])), (bd, .inl (cB, 16, .inl (fun q9 => iI (tx q9))))]) H := hP
  have hD : va_D (va_A ([(h, .inr (0, [.ref bd, .int (iI (0)), .int (iI (0)), .int (iI (n))])), (bd, .inl (cB, 16, .inl (fun i => iI (tx i))))]) sz) ([(h, .inr (0, [.ref bd, .int (iI (0)), .int (iI (0)), .int (iI (n))])), (bd, .inl (cB, 16, .inl (fun q9 => iI (tx q9))))]) := hD
  exact q_gcret (cells := 0) (slots := 0) (mc := 0) (ms := 0) (w1 := fun (_ : Unit) => [(h, .inr (0, [.ref bd, .int (iI (0)), .int (iI (0)), .int (iI (n))])), (bd, .inl (cB, 16, .inl (fun i => iI (tx i))))]) (()) hx hb hr hlocks (by omega) hS (rfl) (⟨hP, hD⟩) (Nat.le_of_ble_eq_true rfl) (Nat.le_of_ble_eq_true rfl) dJ4_charAt_5068e_5
set_option maxHeartbeats 4000000 in
set_option maxRecDepth 100000 in
theorem g_asbApc (l : Launch) (D : va_G) (sz : Nat) (ed : Nat × Nat × Nat) (cI cO cL cB : ClassId) (h bd : Nat) (n : Int) (tx : Nat → Int) (hn : 0 ≤ n ∧ n < 16) : MGr l yJ5_append_3fe6f wsJ5_append_3fe6f 2 60 0 0 D (ty4 cI cO cL cB) sz ([(h, .inr (0, [.ref bd, .int (iI (0)), .int (iI (0)), .int (iI (n))])), (bd, .inl (cB, 16, .inl (fun i => iI (tx i))))]) [.ref h, .int (iI (45))] ed (fun (_ : Unit) => h) (fun (_ : Unit) => [(h, .inr (0, [.ref bd, .int (iI (0)), .int (iI (0)), .int (iI (n + 1))])), (bd, .inl (cB, 16, .inl (fun i => iI ((st tx (Int.toNat (n)) 45) i))))]) := by
  refine MGr_of (cc := cJ5_append_3fe6f) (maxL := 2) (ret := (some (.object "java/lang/AbstractStringBuilder"))) (by decide) rfl (Nat.le_of_ble_eq_true rfl) ?_
  intro p e s m args below meth c ls hx hb hr hlocks hml hown hts hsz hP hK hD hS hA hin hE hT hl
  have hl : lv_has ls 2 [(0, .ref h), (1, .int (iI (45)))] := hl
  have hin_J4 : ∀ w ∈ u_ws RJ4 TJ4 4, w ∈ wsJ5_append_3fe6f := (fun w h => List.mem_cons_of_mem _ (List.mem_append_right _ h))
  have hP : va_P D vwCl ([(h, .inr (0, [.ref bd, .int (iI (0)), .int (iI (0)), .int (iI (n))])), (bd, .inl (cB, 16, .inl (fun q9 => iI (tx q9))))]) s.heap := hP
  have hD : va_D (va_A ([(h, .inr (0, [.ref bd, .int (iI (0)), .int (iI (0)), .int (iI (n))])), (bd, .inl (cB, 16, .inl (fun i => iI (tx i))))]) sz) ([(h, .inr (0, [.ref bd, .int (iI (0)), .int (iI (0)), .int (iI (n))])), (bd, .inl (cB, 16, .inl (fun q9 => iI (tx q9))))]) := hD
  refine lv_aload_n hx hb dJ5_append_3fe6f_0 rfl (lv_at hl 0 rfl) ?_
  refine lv_aload_n hx hb dJ5_append_3fe6f_1 rfl (lv_at hl 0 rfl) ?_
  refine q_get (ci := 0) (C := RJ4) (T := TJ4) (N := 4) hx hb hts hin_J4 hown hK (v := .int (iI (n))) (hP 0 _ rfl) rfl 3 (by decide) (hts (.fieldLink RJ5 79 "java/lang/AbstractStringBuilder" "count" "I") (List.mem_of_getElem? (i := 1) rfl)) (fun _ h9 => h9) rfl dJ5_append_3fe6f_2 ?_
  refine q_iconst hx hb dJ5_append_3fe6f_5 ?_
  refine q_iadd hx hb dJ5_append_3fe6f_6 ?_
  refine q_runGv (wc := [(h, .inr (0, [.ref bd, .int (iI (0)), .int (iI (0)), .int (iI (n))])), (bd, .inl (cB, 16, .inl (fun q9 => iI (tx q9))))]) (wr := []) (rest := []) (va_runU (nL := 2) (As := [.int (iI (n + 1))]) (rm := { frames := 0, cells := 0, slots := 0, locals := 0 }) ⟨hx, hb, hml, hown, hts⟩ (g_ensure l D _ ed cI cO cL cB h bd (n) tx (n + 1) (by omega)) (va_cwU 1 hts gJ5_append_3fe6f_J5_ensureCapacityInternal_d00df_u100J4 rfl rfl rfl rfl (by decide +kernel) ⟨Nat.le_of_ble_eq_true rfl, Nat.le_of_ble_eq_true rfl⟩) ⟨pcY_blind, (ob_recv (hP 0 _ rfl) hK rfl), pcY_at (wr := []) hP hD hS hA hK hE hT⟩ rfl rfl hl.1 rfl (lv_room (Nat.le_of_ble_eq_true rfl)) dJ5_append_3fe6f_7 ⟨Nat.le_of_ble_eq_true rfl, Nat.le_of_ble_eq_true rfl⟩) hP hD hS hA ?_
  intro _u H locs hP hD hS
  have hP : va_P D vwCl ([(h, .inr (0, [.ref bd, .int (iI (0)), .int (iI (0)), .int (iI (n))])), (bd, .inl (cB, 16, .inl (fun q9 => iI (tx q9))))]) H := hP
  have hD : va_D (va_A ([(h, .inr (0, [.ref bd, .int (iI (0)), .int (iI (0)), .int (iI (n))])), (bd, .inl (cB, 16, .inl (fun i => iI (tx i))))]) sz) ([(h, .inr (0, [.ref bd, .int (iI (0)), .int (iI (0)), .int (iI (n))])), (bd, .inl (cB, 16, .inl (fun q9 => iI (tx q9))))]) := hD
  refine lv_aload_n hx hb dJ5_append_3fe6f_10 rfl (lv_at hl 0 rfl) ?_
  refine q_runGi (wc := [(h, .inr (0, [.ref bd, .int (iI (0)), .int (iI (0)), .int (iI (n))])), (bd, .inl (cB, 16, .inl (fun q9 => iI (tx q9))))]) (wr := []) (rest := []) (va_runU (nL := 2) (As := []) (rm := { frames := 0, cells := 0, slots := 0, locals := 0 }) ⟨hx, hb, hml, hown, hts⟩ (g_isLatin1 l D _ ed cI cO cL cB h bd (n) tx  ) (va_cwU 0 hts gJ5_append_3fe6f_J5_isLatin1_aae02_u83J4 rfl rfl rfl rfl (by decide +kernel) ⟨Nat.le_of_ble_eq_true rfl, Nat.le_of_ble_eq_true rfl⟩) ⟨pcY_blind, (ob_recv (hP 0 _ rfl) hK rfl), pcY_at (wr := []) hP hD hS hA hK hE hT⟩ rfl rfl hl.1 rfl (lv_room (Nat.le_of_ble_eq_true rfl)) dJ5_append_3fe6f_11 ⟨Nat.le_of_ble_eq_true rfl, Nat.le_of_ble_eq_true rfl⟩) hP hD hS hA ?_
  intro _u H locs hP hD hS
  have hP : va_P D vwCl ([(h, .inr (0, [.ref bd, .int (iI (0)), .int (iI (0)), .int (iI (n))])), (bd, .inl (cB, 16, .inl (fun q9 => iI (tx q9))))]) H := hP
  have hD : va_D (va_A ([(h, .inr (0, [.ref bd, .int (iI (0)), .int (iI (0)), .int (iI (n))])), (bd, .inl (cB, 16, .inl (fun i => iI (tx i))))]) sz) ([(h, .inr (0, [.ref bd, .int (iI (0)), .int (iI (0)), .int (iI (n))])), (bd, .inl (cB, 16, .inl (fun q9 => iI (tx q9))))]) := hD
  refine q_if_eq (tgt := 45) hx hb dJ5_append_3fe6f_14 (by decide) (by omega) (fun c_1 => ?_) (fun c_1 => ?_)
  · exfalso
    omega
  · skip
    refine lv_iload_n hx hb dJ5_append_3fe6f_17 rfl (lv_at hl 1 rfl) ?_
    refine q_callS (fr := 0) (lo := 0) (nL := 2) (Pic := fun _ => True) (As := [.int (iI (45))]) (rest := []) ⟨hx, hb, hml, hown, hts⟩ (c_canEncode l D (ty4 cI cO cL cB) (45) (by omega)) (va_cwS 1 hts gJ5_append_3fe6f_J1_canEncode_fc78d rfl rfl rfl (by decide +kernel) ⟨Nat.le_of_ble_eq_true rfl, Nat.le_of_ble_eq_true rfl⟩) trivial hK rfl hl.1 rfl (Nat.le_of_ble_eq_true rfl) dJ5_append_3fe6f_18 (Nat.zero_le _) (Nat.zero_le _) ?_
    refine q_if_eq (tgt := 45) hx hb dJ5_append_3fe6f_21 (by decide) (by omega) (fun c_2 => ?_) (fun c_2 => ?_)
    · exfalso
      omega
    · skip
      refine lv_aload_n hx hb dJ5_append_3fe6f_24 rfl (lv_at hl 0 rfl) ?_
      refine q_get (ci := 0) (C := RJ4) (T := TJ4) (N := 4) hx hb hts hin_J4 hown hK (v := .ref bd) (hP 0 _ rfl) rfl 0 (by decide) (hts (.fieldLink RJ5 15 "java/lang/AbstractStringBuilder" "value" "[B") (List.mem_of_getElem? (i := 2) rfl)) (fun _ h9 => h9) rfl dJ5_append_3fe6f_25 ?_
      refine lv_aload_n hx hb dJ5_append_3fe6f_28 rfl (lv_at hl 0 rfl) ?_
      refine lv_dup hx hb dJ5_append_3fe6f_29 rfl ?_
      refine q_get (ci := 0) (C := RJ4) (T := TJ4) (N := 4) hx hb hts hin_J4 hown hK (v := .int (iI (n))) (hP 0 _ rfl) rfl 3 (by decide) (hts (.fieldLink RJ5 79 "java/lang/AbstractStringBuilder" "count" "I") (List.mem_of_getElem? (i := 1) rfl)) (fun _ h9 => h9) rfl dJ5_append_3fe6f_30 ?_
      refine lv_dup_x1 hx hb dJ5_append_3fe6f_33 rfl rfl ?_
      refine q_iconst hx hb dJ5_append_3fe6f_34 ?_
      refine q_iadd hx hb dJ5_append_3fe6f_35 ?_
      refine va_put (D := D) (ci := 0) (v := .int (iI (n + 1))) (ty := .int) (C := RJ4) (T := TJ4) (N := 4) hx hb hts (fun w h => List.mem_cons_of_mem _ (List.mem_append_right _ h)) tyJ4 tyJ4_ok nmJ4 hown hK hP hD hS 0 rfl rfl 3 (by decide) (hts (.fieldLink RJ5 79 "java/lang/AbstractStringBuilder" "count" "I") (List.mem_of_getElem? (i := 1) rfl)) (fun _ h9 => h9) rfl (by decide +kernel) rfl rfl (Nat.le_of_ble_eq_true rfl) dJ5_append_3fe6f_36 (fun H locs hP hD hS => ?_)
      have hP : va_P D vwCl ([(h, .inr (0, [.ref bd, .int (iI (0)), .int (iI (0)), .int (iI (n + 1))])), (bd, .inl (cB, 16, .inl (fun q9 => iI (tx q9))))]) H := hP
      have hD : va_D (va_A ([(h, .inr (0, [.ref bd, .int (iI (0)), .int (iI (0)), .int (iI (n))])), (bd, .inl (cB, 16, .inl (fun i => iI (tx i))))]) sz) ([(h, .inr (0, [.ref bd, .int (iI (0)), .int (iI (0)), .int (iI (n + 1))])), (bd, .inl (cB, 16, .inl (fun q9 => iI (tx q9))))]) := hD
      refine lv_iload_n hx hb dJ5_append_3fe6f_39 rfl (lv_at hl 1 rfl) ?_
      refine lv_i2b hx hb (v := iI (45)) dJ5_append_3fe6f_40 (by decide) ?_
      refine q_bast (f := tx) hx hb hK hP hD hS 1 3 rfl rfl (Int.toNat (n)) (by omega) (by omega) (by decide) (by omega) dJ5_append_3fe6f_41 (fun H locs hP hD hS => ?_)
      have hP : va_P D vwCl ([(h, .inr (0, [.ref bd, .int (iI (0)), .int (iI (0)), .int (iI (n + 1))])), (bd, .inl (cB, 16, .inl (fun q9 => iI ((st tx (Int.toNat (n)) (45)) q9))))]) H := hP
      have hD : va_D (va_A ([(h, .inr (0, [.ref bd, .int (iI (0)), .int (iI (0)), .int (iI (n))])), (bd, .inl (cB, 16, .inl (fun i => iI (tx i))))]) sz) ([(h, .inr (0, [.ref bd, .int (iI (0)), .int (iI (0)), .int (iI (n + 1))])), (bd, .inl (cB, 16, .inl (fun q9 => iI ((st tx (Int.toNat (n)) (45)) q9))))]) := hD
      refine lv_goto (tgt := 75) hx hb dJ5_append_3fe6f_42 (by decide) ?_
      refine lv_aload_n hx hb dJ5_append_3fe6f_75 rfl (lv_at hl 0 rfl) ?_
      exact q_grret (cells := 0) (slots := 0) (mc := 0) (ms := 0) (w1 := fun (_ : Unit) => [(h, .inr (0, [.ref bd, .int (iI (0)), .int (iI (0)), .int (iI (n + 1))])), (bd, .inl (cB, 16, .inl (fun i => iI ((st tx (Int.toNat (n)) 45) i))))]) (rr := fun (_ : Unit) => h) (()) hx hb hr (Or.inl ⟨_, rfl⟩) hlocks hS (rfl) (⟨hP, hD⟩) (Nat.le_of_ble_eq_true rfl) (Nat.le_of_ble_eq_true rfl) dJ5_append_3fe6f_76
set_option maxHeartbeats 4000000 in
set_option maxRecDepth 100000 in
theorem g_apc (l : Launch) (D : va_G) (sz : Nat) (ed : Nat × Nat × Nat) (cI cO cL cB : ClassId) (h bd : Nat) (n : Int) (tx : Nat → Int) (hn : 0 ≤ n ∧ n < 16) : MGr l yJ4_append_cf468 wsJ4_append_cf468 3 90 0 0 D (ty4 cI cO cL cB) sz ([(h, .inr (0, [.ref bd, .int (iI (0)), .int (iI (0)), .int (iI (n))])), (bd, .inl (cB, 16, .inl (fun i => iI (tx i))))]) [.ref h, .int (iI (45))] ed (fun (_ : Unit) => h) (fun (_ : Unit) => [(h, .inr (0, [.ref bd, .int (iI (0)), .int (iI (0)), .int (iI (n + 1))])), (bd, .inl (cB, 16, .inl (fun i => iI ((st tx (Int.toNat (n)) 45) i))))]) := by
  refine MGr_of (cc := cJ4_append_cf468) (maxL := 2) (ret := (some (.object "java/lang/StringBuilder"))) (by decide) rfl (Nat.le_of_ble_eq_true rfl) ?_
  intro p e s m args below meth c ls hx hb hr hlocks hml hown hts hsz hP hK hD hS hA hin hE hT hl
  have hl : lv_has ls 2 [(0, .ref h), (1, .int (iI (45)))] := hl
  have hP : va_P D vwCl ([(h, .inr (0, [.ref bd, .int (iI (0)), .int (iI (0)), .int (iI (n))])), (bd, .inl (cB, 16, .inl (fun q9 => iI (tx q9))))]) s.heap := hP
  have hD : va_D (va_A ([(h, .inr (0, [.ref bd, .int (iI (0)), .int (iI (0)), .int (iI (n))])), (bd, .inl (cB, 16, .inl (fun i => iI (tx i))))]) sz) ([(h, .inr (0, [.ref bd, .int (iI (0)), .int (iI (0)), .int (iI (n))])), (bd, .inl (cB, 16, .inl (fun q9 => iI (tx q9))))]) := hD
  refine lv_aload_n hx hb dJ4_append_cf468_0 rfl (lv_at hl 0 rfl) ?_
  refine lv_iload_n hx hb dJ4_append_cf468_1 rfl (lv_at hl 1 rfl) ?_
  refine q_runGr (wc := [(h, .inr (0, [.ref bd, .int (iI (0)), .int (iI (0)), .int (iI (n))])), (bd, .inl (cB, 16, .inl (fun q9 => iI (tx q9))))]) (wr := []) (rest := []) (va_runSU (hK.1 0 _ rfl).2 (nL := 2) (As := [.int (iI (45))]) (rm := { frames := 2, cells := 0, slots := 0, locals := 60 }) ⟨hx, hb, hml, hown, hts⟩ (g_asbApc l D _ ed cI cO cL cB h bd (n) tx (by omega)) (va_cwSU 1 hts gJ4_append_cf468_J5_append_3fe6f_s50 rfl rfl rfl (by decide +kernel) ⟨Nat.le_of_ble_eq_true rfl, Nat.le_of_ble_eq_true rfl⟩) ⟨pcY_blind, (ob_recv (hP 0 _ rfl) hK rfl), pcY_at (wr := []) hP hD hS hA hK hE hT⟩ rfl rfl hl.1 rfl (lv_room (Nat.le_of_ble_eq_true rfl)) dJ4_append_cf468_2 ⟨Nat.le_of_ble_eq_true rfl, Nat.le_of_ble_eq_true rfl⟩) hP hD hS hA ?_
  intro _u H locs hP hD hS
  have hP : va_P D vwCl ([(h, .inr (0, [.ref bd, .int (iI (0)), .int (iI (0)), .int (iI (n + 1))])), (bd, .inl (cB, 16, .inl (fun q9 => iI ((st tx (Int.toNat (n)) 45) q9))))]) H := hP
  have hD : va_D (va_A ([(h, .inr (0, [.ref bd, .int (iI (0)), .int (iI (0)), .int (iI (n))])), (bd, .inl (cB, 16, .inl (fun i => iI (tx i))))]) sz) ([(h, .inr (0, [.ref bd, .int (iI (0)), .int (iI (0)), .int (iI (n + 1))])), (bd, .inl (cB, 16, .inl (fun q9 => iI ((st tx (Int.toNat (n)) 45) q9))))]) := hD
  refine lv_pop hx hb dJ4_append_cf468_5 rfl ?_
  refine lv_aload_n hx hb dJ4_append_cf468_6 rfl (lv_at hl 0 rfl) ?_
  exact q_grret (cells := 0) (slots := 0) (mc := 0) (ms := 0) (w1 := fun (_ : Unit) => [(h, .inr (0, [.ref bd, .int (iI (0)), .int (iI (0)), .int (iI (n + 1))])), (bd, .inl (cB, 16, .inl (fun i => iI ((st tx (Int.toNat (n)) 45) i))))]) (rr := fun (_ : Unit) => h) (()) hx hb hr (Or.inl ⟨_, rfl⟩) hlocks hS (rfl) (⟨hP, hD⟩) (Nat.le_of_ble_eq_true rfl) (Nat.le_of_ble_eq_true rfl) dJ4_append_cf468_7
set_option maxHeartbeats 4000000 in
set_option maxRecDepth 100000 in
theorem g_getCharsA (l : Launch) (D : va_G) (sz : Nat) (ed : Nat × Nat × Nat) (cI cO cL cB : ClassId) (bd : Nat) (n v ix : Int) (tx : Nat → Int) (hn : 0 ≤ n ∧ n ≤ 13) (hix : ix = n + m_sz v) (hv : 0 ≤ v ∧ v < 100) : MGi l yJ6_getChars_ba4f3 wsJ6_getChars_ba4f3 0 0 0 0 D (ty4 cI cO cL cB) sz ([(bd, .inl (cB, 16, .inl (fun i => iI (tx i))))]) [.int (iI (v)), .int (iI (ix)), .ref bd] ed (n) (fun (_ : Unit) => [(bd, .inl (cB, 16, .inl (fun i => iI ((m_ap tx (n) (v)) i))))]) := by
  refine MGi_of (cc := cJ6_getChars_ba4f3) (maxL := 7) (ret := (some .int)) (by decide) rfl (Nat.le_of_ble_eq_true rfl) ?_
  intro p e s m args below meth c ls hx hb hr hlocks hml hown hts hsz hP hK hD hS hA hin hE hT hl
  have hl : lv_has ls 7 [(0, .int (iI (v))), (1, .int (iI (ix))), (2, .ref bd)] := hl
  have hP : va_P D vwCl ([(bd, .inl (cB, 16, .inl (fun q9 => iI (tx q9))))]) s.heap := hP
  have hD : va_D (va_A ([(bd, .inl (cB, 16, .inl (fun i => iI (tx i))))]) sz) ([(bd, .inl (cB, 16, .inl (fun q9 => iI (tx q9))))]) := hD
  have hsz : m_sz v = if v < 10 then 1 else if v < 100 then 2 else 3 := rfl
  refine lv_iload_n hx hb dJ6_getChars_ba4f3_0 rfl (lv_at hl 1 rfl) ?_
  refine lv_istore (lv' := [(5, .int (iI (ix))), (0, .int (iI (v))), (1, .int (iI (ix))), (2, .ref bd)]) hx hb dJ6_getChars_ba4f3_1 hl (by decide) rfl (fun ls hl => ?_)
  refine lv_iload_n hx hb dJ6_getChars_ba4f3_3 rfl (lv_at hl 1 rfl) ?_
  refine q_if_ge (tgt := 11) hx hb dJ6_getChars_ba4f3_4 (by decide) (by omega) (fun c_1 => ?_) (fun c_1 => ?_)
  · skip
    refine q_iconst hx hb dJ6_getChars_ba4f3_11 ?_
    refine lv_istore (lv' := [(6, .int (iI (0))), (5, .int (iI (ix))), (0, .int (iI (v))), (1, .int (iI (ix))), (2, .ref bd)]) hx hb dJ6_getChars_ba4f3_12 hl (by decide) rfl (fun ls hl => ?_)
    refine lv_iload hx hb dJ6_getChars_ba4f3_14 (lv_at hl 0 rfl) ?_
    refine q_if_ne (tgt := 22) hx hb dJ6_getChars_ba4f3_16 (by decide) (by omega) (fun c_2 => ?_) (fun c_2 => ?_)
    · exfalso
      omega
    · skip
      refine lv_iload_n hx hb dJ6_getChars_ba4f3_19 rfl (lv_at hl 2 rfl) ?_
      refine q_ineg hx hb dJ6_getChars_ba4f3_20 ?_
      refine q_top (fun ni eni => ?_)
      refine lv_istore_n (lv' := [(0, .int (iI (ni))), (6, .int (iI (0))), (5, .int (iI (ix))), (1, .int (iI (ix))), (2, .ref bd)]) hx hb dJ6_getChars_ba4f3_21 rfl hl (by decide) rfl (fun ls hl => ?_)
      refine lv_iload_n hx hb dJ6_getChars_ba4f3_22 rfl (lv_at hl 0 rfl) ?_
      refine q_bipush hx hb dJ6_getChars_ba4f3_23 (by decide) ?_
      refine q_icmp_gt (tgt := 72) hx hb dJ6_getChars_ba4f3_25 (by decide) (by omega) (by omega) (fun c_3 => ?_) (fun c_3 => ?_)
      · skip
        refine lv_aload_n hx hb dJ6_getChars_ba4f3_72 rfl (lv_at hl 4 rfl) ?_
        refine q_iinc (k := 2) (lv' := [(5, .int (iI (ix + (-1)))), (0, .int (iI (ni))), (6, .int (iI (0))), (1, .int (iI (ix))), (2, .ref bd)]) hx hb dJ6_getChars_ba4f3_73 hl rfl (by decide) rfl (fun ls hl => ?_)
        refine lv_iload hx hb dJ6_getChars_ba4f3_76 (lv_at hl 0 rfl) ?_
        refine va_gets (v := .ref ed.2.1) hx hb hE.2.2.2.1.1 hS hown (hts (.fieldLink RJ6 83 "java/lang/Integer" "DigitOnes" "[B") (List.mem_of_getElem? (i := 1) rfl)) (fun _ h9 => h9) dJ6_getChars_ba4f3_78 ?_
        refine lv_iload_n hx hb dJ6_getChars_ba4f3_81 rfl (lv_at hl 1 rfl) ?_
        refine q_ineg hx hb dJ6_getChars_ba4f3_82 ?_
        refine q_tb1 hx hb hE.2.2.2.1.2 hS (by omega) dJ6_getChars_ba4f3_83 ?_
        refine q_bast (f := tx) hx hb hK hP hD hS 0 3 rfl rfl (Int.toNat (ix + (-1))) (by omega) (by omega) (by decide) (by omega) dJ6_getChars_ba4f3_84 (fun H locs hP hD hS => ?_)
        have hP : va_P D vwCl ([(bd, .inl (cB, 16, .inl (fun q9 => iI ((st tx (Int.toNat (ix + (-1))) (48 + (-(ni)) % 10)) q9))))]) H := hP
        have hD : va_D (va_A ([(bd, .inl (cB, 16, .inl (fun i => iI (tx i))))]) sz) ([(bd, .inl (cB, 16, .inl (fun q9 => iI ((st tx (Int.toNat (ix + (-1))) (48 + (-(ni)) % 10)) q9))))]) := hD
        refine lv_iload_n hx hb dJ6_getChars_ba4f3_85 rfl (lv_at hl 1 rfl) ?_
        refine q_bipush hx hb dJ6_getChars_ba4f3_86 (by decide) ?_
        refine q_icmp_ge (tgt := 104) hx hb dJ6_getChars_ba4f3_88 (by decide) (by omega) (by omega) (fun c_4 => ?_) (fun c_4 => ?_)
        · skip
          refine lv_iload hx hb dJ6_getChars_ba4f3_104 (lv_at hl 2 rfl) ?_
          refine q_if_eq (tgt := 118) hx hb dJ6_getChars_ba4f3_106 (by decide) (by omega) (fun c_5 => ?_) (fun c_5 => ?_)
          · skip
            refine lv_iload hx hb dJ6_getChars_ba4f3_118 (lv_at hl 0 rfl) ?_
            exact q_giret (cells := 0) (slots := 0) (mc := 0) (ms := 0) (w1 := fun (_ : Unit) => [(bd, .inl (cB, 16, .inl (fun i => iI ((m_ap tx (n) (v)) i))))]) (()) hx hb hr hlocks hS (by (repeat' split at hsz) <;> omega) (by have e : (fun q9 => iI ((st tx (Int.toNat (ix + (-1))) (48 + (-(ni)) % 10)) q9)) = fun i => iI (m_ap tx n v i) := (by funext j; congr 1; unfold st m_ap; (repeat' split at hsz) <;> (repeat' split) <;> omega); rw [e] at hP hD; exact ⟨hP, hD⟩) (Nat.le_of_ble_eq_true rfl) (Nat.le_of_ble_eq_true rfl) dJ6_getChars_ba4f3_120
          · exfalso
            omega
        · skip
          refine lv_aload_n hx hb dJ6_getChars_ba4f3_91 rfl (lv_at hl 4 rfl) ?_
          refine q_iinc (k := 0) (lv' := [(5, .int (iI (ix + (-1) + (-1)))), (0, .int (iI (ni))), (6, .int (iI (0))), (1, .int (iI (ix))), (2, .ref bd)]) hx hb dJ6_getChars_ba4f3_92 hl rfl (by decide) rfl (fun ls hl => ?_)
          refine lv_iload hx hb dJ6_getChars_ba4f3_95 (lv_at hl 0 rfl) ?_
          refine va_gets (v := .ref ed.2.2) hx hb hE.2.2.2.2.1.1 hS hown (hts (.fieldLink RJ6 87 "java/lang/Integer" "DigitTens" "[B") (List.mem_of_getElem? (i := 2) rfl)) (fun _ h9 => h9) dJ6_getChars_ba4f3_97 ?_
          refine lv_iload_n hx hb dJ6_getChars_ba4f3_100 rfl (lv_at hl 1 rfl) ?_
          refine q_ineg hx hb dJ6_getChars_ba4f3_101 ?_
          refine q_tb2 hx hb hE.2.2.2.2.1.2 hS (by omega) dJ6_getChars_ba4f3_102 ?_
          refine q_bast (f := (st tx (Int.toNat (ix + (-1))) (48 + (-(ni)) % 10))) hx hb hK hP hD hS 0 3 rfl rfl (Int.toNat (ix + (-1) + (-1))) (by omega) (by omega) (by decide) (by omega) dJ6_getChars_ba4f3_103 (fun H locs hP hD hS => ?_)
          have hP : va_P D vwCl ([(bd, .inl (cB, 16, .inl (fun q9 => iI ((st (st tx (Int.toNat (ix + (-1))) (48 + (-(ni)) % 10)) (Int.toNat (ix + (-1) + (-1))) (48 + (-(ni)) / 10)) q9))))]) H := hP
          have hD : va_D (va_A ([(bd, .inl (cB, 16, .inl (fun i => iI (tx i))))]) sz) ([(bd, .inl (cB, 16, .inl (fun q9 => iI ((st (st tx (Int.toNat (ix + (-1))) (48 + (-(ni)) % 10)) (Int.toNat (ix + (-1) + (-1))) (48 + (-(ni)) / 10)) q9))))]) := hD
          refine lv_iload hx hb dJ6_getChars_ba4f3_104 (lv_at hl 2 rfl) ?_
          refine q_if_eq (tgt := 118) hx hb dJ6_getChars_ba4f3_106 (by decide) (by omega) (fun c_6 => ?_) (fun c_6 => ?_)
          · skip
            refine lv_iload hx hb dJ6_getChars_ba4f3_118 (lv_at hl 0 rfl) ?_
            exact q_giret (cells := 0) (slots := 0) (mc := 0) (ms := 0) (w1 := fun (_ : Unit) => [(bd, .inl (cB, 16, .inl (fun i => iI ((m_ap tx (n) (v)) i))))]) (()) hx hb hr hlocks hS (by (repeat' split at hsz) <;> omega) (by have e : (fun q9 => iI ((st (st tx (Int.toNat (ix + (-1))) (48 + (-(ni)) % 10)) (Int.toNat (ix + (-1) + (-1))) (48 + (-(ni)) / 10)) q9)) = fun i => iI (m_ap tx n v i) := (by funext j; congr 1; unfold st m_ap; (repeat' split at hsz) <;> (repeat' split) <;> omega); rw [e] at hP hD; exact ⟨hP, hD⟩) (Nat.le_of_ble_eq_true rfl) (Nat.le_of_ble_eq_true rfl) dJ6_getChars_ba4f3_120
          · exfalso
            omega
      · exfalso
        omega
  · exfalso
    omega
set_option maxHeartbeats 4000000 in
set_option maxRecDepth 100000 in
theorem g_getCharsB (l : Launch) (D : va_G) (sz : Nat) (ed : Nat × Nat × Nat) (cI cO cL cB : ClassId) (bd : Nat) (n v ix : Int) (tx : Nat → Int) (hn : 0 ≤ n ∧ n ≤ 13) (hix : ix = n + m_sz v) (hv : 100 ≤ v ∧ v ≤ 999) : MGi l yJ6_getChars_ba4f3 wsJ6_getChars_ba4f3 0 0 0 0 D (ty4 cI cO cL cB) sz ([(bd, .inl (cB, 16, .inl (fun i => iI (tx i))))]) [.int (iI (v)), .int (iI (ix)), .ref bd] ed (n) (fun (_ : Unit) => [(bd, .inl (cB, 16, .inl (fun i => iI ((m_ap tx (n) (v)) i))))]) := by
  refine MGi_of (cc := cJ6_getChars_ba4f3) (maxL := 7) (ret := (some .int)) (by decide) rfl (Nat.le_of_ble_eq_true rfl) ?_
  intro p e s m args below meth c ls hx hb hr hlocks hml hown hts hsz hP hK hD hS hA hin hE hT hl
  have hl : lv_has ls 7 [(0, .int (iI (v))), (1, .int (iI (ix))), (2, .ref bd)] := hl
  have hP : va_P D vwCl ([(bd, .inl (cB, 16, .inl (fun q9 => iI (tx q9))))]) s.heap := hP
  have hD : va_D (va_A ([(bd, .inl (cB, 16, .inl (fun i => iI (tx i))))]) sz) ([(bd, .inl (cB, 16, .inl (fun q9 => iI (tx q9))))]) := hD
  have hsz : m_sz v = if v < 10 then 1 else if v < 100 then 2 else 3 := rfl
  have hsz2 : m_sz v = 3 := by rw [hsz, if_neg (by omega), if_neg (by omega)]
  refine lv_iload_n hx hb dJ6_getChars_ba4f3_0 rfl (lv_at hl 1 rfl) ?_
  refine lv_istore (lv' := [(5, .int (iI (ix))), (0, .int (iI (v))), (1, .int (iI (ix))), (2, .ref bd)]) hx hb dJ6_getChars_ba4f3_1 hl (by decide) rfl (fun ls hl => ?_)
  refine lv_iload_n hx hb dJ6_getChars_ba4f3_3 rfl (lv_at hl 1 rfl) ?_
  refine q_if_ge (tgt := 11) hx hb dJ6_getChars_ba4f3_4 (by decide) (by omega) (fun c_1 => ?_) (fun c_1 => ?_)
  · skip
    refine q_iconst hx hb dJ6_getChars_ba4f3_11 ?_
    refine lv_istore (lv' := [(6, .int (iI (0))), (5, .int (iI (ix))), (0, .int (iI (v))), (1, .int (iI (ix))), (2, .ref bd)]) hx hb dJ6_getChars_ba4f3_12 hl (by decide) rfl (fun ls hl => ?_)
    refine lv_iload hx hb dJ6_getChars_ba4f3_14 (lv_at hl 0 rfl) ?_
    refine q_if_ne (tgt := 22) hx hb dJ6_getChars_ba4f3_16 (by decide) (by omega) (fun c_2 => ?_) (fun c_2 => ?_)
    · exfalso
      omega
    · skip
      refine lv_iload_n hx hb dJ6_getChars_ba4f3_19 rfl (lv_at hl 2 rfl) ?_
      refine q_ineg hx hb dJ6_getChars_ba4f3_20 ?_
      refine q_top (fun ni eni => ?_)
      refine lv_istore_n (lv' := [(0, .int (iI (ni))), (6, .int (iI (0))), (5, .int (iI (ix))), (1, .int (iI (ix))), (2, .ref bd)]) hx hb dJ6_getChars_ba4f3_21 rfl hl (by decide) rfl (fun ls hl => ?_)
      refine lv_iload_n hx hb dJ6_getChars_ba4f3_22 rfl (lv_at hl 0 rfl) ?_
      refine q_bipush hx hb dJ6_getChars_ba4f3_23 (by decide) ?_
      refine q_icmp_gt (tgt := 72) hx hb dJ6_getChars_ba4f3_25 (by decide) (by omega) (by omega) (fun c_3 => ?_) (fun c_3 => ?_)
      · exfalso
        omega
      · skip
        refine lv_iload_n hx hb dJ6_getChars_ba4f3_28 rfl (lv_at hl 0 rfl) ?_
        refine q_bipush hx hb dJ6_getChars_ba4f3_29 (by decide) ?_
        refine q_idivt hx hb dJ6_getChars_ba4f3_31 (by omega) (by omega) ?_
        refine q_top (fun qd eqd => ?_)
        have hqd : qd = -(v / 100) := by rw [eqd, eni, Int.neg_tdiv, Int.tdiv_eq_ediv_of_nonneg (by omega)]
        refine lv_istore_n (lv' := [(3, .int (iI (qd))), (0, .int (iI (ni))), (6, .int (iI (0))), (5, .int (iI (ix))), (1, .int (iI (ix))), (2, .ref bd)]) hx hb dJ6_getChars_ba4f3_32 rfl hl (by decide) rfl (fun ls hl => ?_)
        refine lv_iload_n hx hb dJ6_getChars_ba4f3_33 rfl (lv_at hl 0 rfl) ?_
        refine q_bipush hx hb dJ6_getChars_ba4f3_34 (by decide) ?_
        refine q_imul hx hb dJ6_getChars_ba4f3_36 ?_
        refine lv_iload_n hx hb dJ6_getChars_ba4f3_37 rfl (lv_at hl 1 rfl) ?_
        refine q_isub hx hb dJ6_getChars_ba4f3_38 ?_
        refine q_top (fun rd erd => ?_)
        refine lv_istore (lv' := [(4, .int (iI (rd))), (3, .int (iI (qd))), (0, .int (iI (ni))), (6, .int (iI (0))), (5, .int (iI (ix))), (1, .int (iI (ix))), (2, .ref bd)]) hx hb dJ6_getChars_ba4f3_39 hl (by decide) rfl (fun ls hl => ?_)
        refine lv_iload_n hx hb dJ6_getChars_ba4f3_41 rfl (lv_at hl 1 rfl) ?_
        refine lv_istore_n (lv' := [(0, .int (iI (qd))), (4, .int (iI (rd))), (3, .int (iI (qd))), (6, .int (iI (0))), (5, .int (iI (ix))), (1, .int (iI (ix))), (2, .ref bd)]) hx hb dJ6_getChars_ba4f3_42 rfl hl (by decide) rfl (fun ls hl => ?_)
        refine lv_aload_n hx hb dJ6_getChars_ba4f3_43 rfl (lv_at hl 6 rfl) ?_
        refine q_iinc (k := 4) (lv' := [(5, .int (iI (ix + (-1)))), (0, .int (iI (qd))), (4, .int (iI (rd))), (3, .int (iI (qd))), (6, .int (iI (0))), (1, .int (iI (ix))), (2, .ref bd)]) hx hb dJ6_getChars_ba4f3_44 hl rfl (by decide) rfl (fun ls hl => ?_)
        refine lv_iload hx hb dJ6_getChars_ba4f3_47 (lv_at hl 0 rfl) ?_
        refine va_gets (v := .ref ed.2.1) hx hb hE.2.2.2.1.1 hS hown (hts (.fieldLink RJ6 83 "java/lang/Integer" "DigitOnes" "[B") (List.mem_of_getElem? (i := 1) rfl)) (fun _ h9 => h9) dJ6_getChars_ba4f3_49 ?_
        refine lv_iload hx hb dJ6_getChars_ba4f3_52 (lv_at hl 2 rfl) ?_
        refine q_tb1 hx hb hE.2.2.2.1.2 hS (by omega) dJ6_getChars_ba4f3_54 ?_
        refine q_bast (f := tx) hx hb hK hP hD hS 0 3 rfl rfl (Int.toNat (ix + (-1))) (by omega) (by omega) (by decide) (by omega) dJ6_getChars_ba4f3_55 (fun H locs hP hD hS => ?_)
        have hP : va_P D vwCl ([(bd, .inl (cB, 16, .inl (fun q9 => iI ((st tx (Int.toNat (ix + (-1))) (48 + (rd) % 10)) q9))))]) H := hP
        have hD : va_D (va_A ([(bd, .inl (cB, 16, .inl (fun i => iI (tx i))))]) sz) ([(bd, .inl (cB, 16, .inl (fun q9 => iI ((st tx (Int.toNat (ix + (-1))) (48 + (rd) % 10)) q9))))]) := hD
        refine lv_aload_n hx hb dJ6_getChars_ba4f3_56 rfl (lv_at hl 6 rfl) ?_
        refine q_iinc (k := 0) (lv' := [(5, .int (iI (ix + (-1) + (-1)))), (0, .int (iI (qd))), (4, .int (iI (rd))), (3, .int (iI (qd))), (6, .int (iI (0))), (1, .int (iI (ix))), (2, .ref bd)]) hx hb dJ6_getChars_ba4f3_57 hl rfl (by decide) rfl (fun ls hl => ?_)
        refine lv_iload hx hb dJ6_getChars_ba4f3_60 (lv_at hl 0 rfl) ?_
        refine va_gets (v := .ref ed.2.2) hx hb hE.2.2.2.2.1.1 hS hown (hts (.fieldLink RJ6 87 "java/lang/Integer" "DigitTens" "[B") (List.mem_of_getElem? (i := 2) rfl)) (fun _ h9 => h9) dJ6_getChars_ba4f3_62 ?_
        refine lv_iload hx hb dJ6_getChars_ba4f3_65 (lv_at hl 2 rfl) ?_
        refine q_tb2 hx hb hE.2.2.2.2.1.2 hS (by omega) dJ6_getChars_ba4f3_67 ?_
        refine q_bast (f := (st tx (Int.toNat (ix + (-1))) (48 + (rd) % 10))) hx hb hK hP hD hS 0 3 rfl rfl (Int.toNat (ix + (-1) + (-1))) (by omega) (by omega) (by decide) (by omega) dJ6_getChars_ba4f3_68 (fun H locs hP hD hS => ?_)
        have hP : va_P D vwCl ([(bd, .inl (cB, 16, .inl (fun q9 => iI ((st (st tx (Int.toNat (ix + (-1))) (48 + (rd) % 10)) (Int.toNat (ix + (-1) + (-1))) (48 + (rd) / 10)) q9))))]) H := hP
        have hD : va_D (va_A ([(bd, .inl (cB, 16, .inl (fun i => iI (tx i))))]) sz) ([(bd, .inl (cB, 16, .inl (fun q9 => iI ((st (st tx (Int.toNat (ix + (-1))) (48 + (rd) % 10)) (Int.toNat (ix + (-1) + (-1))) (48 + (rd) / 10)) q9))))]) := hD
        refine lv_goto (tgt := 22) hx hb dJ6_getChars_ba4f3_69 (by decide) ?_
        refine lv_iload_n hx hb dJ6_getChars_ba4f3_22 rfl (lv_at hl 1 rfl) ?_
        refine q_bipush hx hb dJ6_getChars_ba4f3_23 (by decide) ?_
        refine q_icmp_gt (tgt := 72) hx hb dJ6_getChars_ba4f3_25 (by decide) (by omega) (by omega) (fun c_4 => ?_) (fun c_4 => ?_)
        · skip
          refine lv_aload_n hx hb dJ6_getChars_ba4f3_72 rfl (lv_at hl 6 rfl) ?_
          refine q_iinc (k := 0) (lv' := [(5, .int (iI (ix + (-1) + (-1) + (-1)))), (0, .int (iI (qd))), (4, .int (iI (rd))), (3, .int (iI (qd))), (6, .int (iI (0))), (1, .int (iI (ix))), (2, .ref bd)]) hx hb dJ6_getChars_ba4f3_73 hl rfl (by decide) rfl (fun ls hl => ?_)
          refine lv_iload hx hb dJ6_getChars_ba4f3_76 (lv_at hl 0 rfl) ?_
          refine va_gets (v := .ref ed.2.1) hx hb hE.2.2.2.1.1 hS hown (hts (.fieldLink RJ6 83 "java/lang/Integer" "DigitOnes" "[B") (List.mem_of_getElem? (i := 1) rfl)) (fun _ h9 => h9) dJ6_getChars_ba4f3_78 ?_
          refine lv_iload_n hx hb dJ6_getChars_ba4f3_81 rfl (lv_at hl 1 rfl) ?_
          refine q_ineg hx hb dJ6_getChars_ba4f3_82 ?_
          refine q_tb1 hx hb hE.2.2.2.1.2 hS (by omega) dJ6_getChars_ba4f3_83 ?_
          refine q_bast (f := (st (st tx (Int.toNat (ix + (-1))) (48 + (rd) % 10)) (Int.toNat (ix + (-1) + (-1))) (48 + (rd) / 10))) hx hb hK hP hD hS 0 3 rfl rfl (Int.toNat (ix + (-1) + (-1) + (-1))) (by omega) (by omega) (by decide) (by omega) dJ6_getChars_ba4f3_84 (fun H locs hP hD hS => ?_)
          have hP : va_P D vwCl ([(bd, .inl (cB, 16, .inl (fun q9 => iI ((st (st (st tx (Int.toNat (ix + (-1))) (48 + (rd) % 10)) (Int.toNat (ix + (-1) + (-1))) (48 + (rd) / 10)) (Int.toNat (ix + (-1) + (-1) + (-1))) (48 + (-(qd)) % 10)) q9))))]) H := hP
          have hD : va_D (va_A ([(bd, .inl (cB, 16, .inl (fun i => iI (tx i))))]) sz) ([(bd, .inl (cB, 16, .inl (fun q9 => iI ((st (st (st tx (Int.toNat (ix + (-1))) (48 + (rd) % 10)) (Int.toNat (ix + (-1) + (-1))) (48 + (rd) / 10)) (Int.toNat (ix + (-1) + (-1) + (-1))) (48 + (-(qd)) % 10)) q9))))]) := hD
          refine lv_iload_n hx hb dJ6_getChars_ba4f3_85 rfl (lv_at hl 1 rfl) ?_
          refine q_bipush hx hb dJ6_getChars_ba4f3_86 (by decide) ?_
          refine q_icmp_ge (tgt := 104) hx hb dJ6_getChars_ba4f3_88 (by decide) (by omega) (by omega) (fun c_5 => ?_) (fun c_5 => ?_)
          · skip
            refine lv_iload hx hb dJ6_getChars_ba4f3_104 (lv_at hl 4 rfl) ?_
            refine q_if_eq (tgt := 118) hx hb dJ6_getChars_ba4f3_106 (by decide) (by omega) (fun c_6 => ?_) (fun c_6 => ?_)
            · skip
              refine lv_iload hx hb dJ6_getChars_ba4f3_118 (lv_at hl 0 rfl) ?_
              exact q_giret (cells := 0) (slots := 0) (mc := 0) (ms := 0) (w1 := fun (_ : Unit) => [(bd, .inl (cB, 16, .inl (fun i => iI ((m_ap tx (n) (v)) i))))]) (()) hx hb hr hlocks hS (by (repeat' split at hsz) <;> omega) (by have e : (fun q9 => iI ((st (st (st tx (Int.toNat (ix + (-1))) (48 + (rd) % 10)) (Int.toNat (ix + (-1) + (-1))) (48 + (rd) / 10)) (Int.toNat (ix + (-1) + (-1) + (-1))) (48 + (-(qd)) % 10)) q9)) = fun i => iI (m_ap tx n v i) := (by funext j; congr 1; unfold st m_ap; (repeat' split at hsz) <;> (repeat' split) <;> omega); rw [e] at hP hD; exact ⟨hP, hD⟩) (Nat.le_of_ble_eq_true rfl) (Nat.le_of_ble_eq_true rfl) dJ6_getChars_ba4f3_120
            · exfalso
              omega
          · skip
            refine lv_aload_n hx hb dJ6_getChars_ba4f3_91 rfl (lv_at hl 6 rfl) ?_
            refine q_iinc (k := 0) (lv' := [(5, .int (iI (ix + (-1) + (-1) + (-1) + (-1)))), (0, .int (iI (qd))), (4, .int (iI (rd))), (3, .int (iI (qd))), (6, .int (iI (0))), (1, .int (iI (ix))), (2, .ref bd)]) hx hb dJ6_getChars_ba4f3_92 hl rfl (by decide) rfl (fun ls hl => ?_)
            refine lv_iload hx hb dJ6_getChars_ba4f3_95 (lv_at hl 0 rfl) ?_
            refine va_gets (v := .ref ed.2.2) hx hb hE.2.2.2.2.1.1 hS hown (hts (.fieldLink RJ6 87 "java/lang/Integer" "DigitTens" "[B") (List.mem_of_getElem? (i := 2) rfl)) (fun _ h9 => h9) dJ6_getChars_ba4f3_97 ?_
            refine lv_iload_n hx hb dJ6_getChars_ba4f3_100 rfl (lv_at hl 1 rfl) ?_
            refine q_ineg hx hb dJ6_getChars_ba4f3_101 ?_
            refine q_tb2 hx hb hE.2.2.2.2.1.2 hS (by omega) dJ6_getChars_ba4f3_102 ?_
            refine q_bast (f := (st (st (st tx (Int.toNat (ix + (-1))) (48 + (rd) % 10)) (Int.toNat (ix + (-1) + (-1))) (48 + (rd) / 10)) (Int.toNat (ix + (-1) + (-1) + (-1))) (48 + (-(qd)) % 10))) hx hb hK hP hD hS 0 3 rfl rfl (Int.toNat (ix + (-1) + (-1) + (-1) + (-1))) (by omega) (by omega) (by decide) (by omega) dJ6_getChars_ba4f3_103 (fun H locs hP hD hS => ?_)
            have hP : va_P D vwCl ([(bd, .inl (cB, 16, .inl (fun q9 => iI ((st (st (st (st tx (Int.toNat (ix + (-1))) (48 + (rd) % 10)) (Int.toNat (ix + (-1) + (-1))) (48 + (rd) / 10)) (Int.toNat (ix + (-1) + (-1) + (-1))) (48 + (-(qd)) % 10)) (Int.toNat (ix + (-1) + (-1) + (-1) + (-1))) (48 + (-(qd)) / 10)) q9))))]) H := hP
            have hD : va_D (va_A ([(bd, .inl (cB, 16, .inl (fun i => iI (tx i))))]) sz) ([(bd, .inl (cB, 16, .inl (fun q9 => iI ((st (st (st (st tx (Int.toNat (ix + (-1))) (48 + (rd) % 10)) (Int.toNat (ix + (-1) + (-1))) (48 + (rd) / 10)) (Int.toNat (ix + (-1) + (-1) + (-1))) (48 + (-(qd)) % 10)) (Int.toNat (ix + (-1) + (-1) + (-1) + (-1))) (48 + (-(qd)) / 10)) q9))))]) := hD
            refine lv_iload hx hb dJ6_getChars_ba4f3_104 (lv_at hl 4 rfl) ?_
            refine q_if_eq (tgt := 118) hx hb dJ6_getChars_ba4f3_106 (by decide) (by omega) (fun c_7 => ?_) (fun c_7 => ?_)
            · skip
              refine lv_iload hx hb dJ6_getChars_ba4f3_118 (lv_at hl 0 rfl) ?_
              exact q_giret (cells := 0) (slots := 0) (mc := 0) (ms := 0) (w1 := fun (_ : Unit) => [(bd, .inl (cB, 16, .inl (fun i => iI ((m_ap tx (n) (v)) i))))]) (()) hx hb hr hlocks hS (by (repeat' split at hsz) <;> omega) (by have e : (fun q9 => iI ((st (st (st (st tx (Int.toNat (ix + (-1))) (48 + (rd) % 10)) (Int.toNat (ix + (-1) + (-1))) (48 + (rd) / 10)) (Int.toNat (ix + (-1) + (-1) + (-1))) (48 + (-(qd)) % 10)) (Int.toNat (ix + (-1) + (-1) + (-1) + (-1))) (48 + (-(qd)) / 10)) q9)) = fun i => iI (m_ap tx n v i) := (by funext j; congr 1; unfold st m_ap; (repeat' split at hsz) <;> (repeat' split) <;> omega); rw [e] at hP hD; exact ⟨hP, hD⟩) (Nat.le_of_ble_eq_true rfl) (Nat.le_of_ble_eq_true rfl) dJ6_getChars_ba4f3_120
            · exfalso
              omega
        · exfalso
          omega
  · exfalso
    omega
theorem g_getChars (l : Launch) (D : va_G) (sz : Nat) (ed : Nat × Nat × Nat) (cI cO cL cB : ClassId) (bd : Nat) (n v ix : Int) (tx : Nat → Int) (hn : 0 ≤ n ∧ n ≤ 13) (hix : ix = n + m_sz v) (hv : 0 ≤ v ∧ v ≤ 999) : MGi l yJ6_getChars_ba4f3 wsJ6_getChars_ba4f3 0 0 0 0 D (ty4 cI cO cL cB) sz ([(bd, .inl (cB, 16, .inl (fun i => iI (tx i))))]) [.int (iI (v)), .int (iI (ix)), .ref bd] ed (n) (fun (_ : Unit) => [(bd, .inl (cB, 16, .inl (fun i => iI ((m_ap tx (n) (v)) i))))]) := by
  by_cases h : v < 100
  · exact g_getCharsA l D sz ed cI cO cL cB bd n v ix tx hn hix (by omega)
  · exact g_getCharsB l D sz ed cI cO cL cB bd n v ix tx hn hix (by omega)
set_option maxHeartbeats 4000000 in
set_option maxRecDepth 100000 in
theorem g_asbApi (l : Launch) (D : va_G) (sz : Nat) (ed : Nat × Nat × Nat) (cI cO cL cB : ClassId) (h bd : Nat) (n : Int) (tx : Nat → Int) (v : Int) (hn : 0 ≤ n ∧ n ≤ 13) (hv : 0 ≤ v ∧ v ≤ 999) : MGr l yJ5_append_c97b9 wsJ5_append_c97b9 2 60 0 0 D (ty4 cI cO cL cB) sz ([(h, .inr (0, [.ref bd, .int (iI (0)), .int (iI (0)), .int (iI (n))])), (bd, .inl (cB, 16, .inl (fun i => iI (tx i))))]) [.ref h, .int (iI (v))] ed (fun (_ : Unit) => h) (fun (_ : Unit) => [(h, .inr (0, [.ref bd, .int (iI (0)), .int (iI (0)), .int (iI (n + m_sz (v)))])), (bd, .inl (cB, 16, .inl (fun i => iI ((m_ap tx (n) (v)) i))))]) := by
  refine MGr_of (cc := cJ5_append_c97b9) (maxL := 4) (ret := (some (.object "java/lang/AbstractStringBuilder"))) (by decide) rfl (Nat.le_of_ble_eq_true rfl) ?_
  intro p e s m args below meth c ls hx hb hr hlocks hml hown hts hsz hP hK hD hS hA hin hE hT hl
  have hl : lv_has ls 4 [(0, .ref h), (1, .int (iI (v)))] := hl
  have hin_J4 : ∀ w ∈ u_ws RJ4 TJ4 4, w ∈ wsJ5_append_c97b9 := (fun w h => List.mem_cons_of_mem _ (List.mem_append_right _ h))
  have hP : va_P D vwCl ([(h, .inr (0, [.ref bd, .int (iI (0)), .int (iI (0)), .int (iI (n))])), (bd, .inl (cB, 16, .inl (fun q9 => iI (tx q9))))]) s.heap := hP
  have hD : va_D (va_A ([(h, .inr (0, [.ref bd, .int (iI (0)), .int (iI (0)), .int (iI (n))])), (bd, .inl (cB, 16, .inl (fun i => iI (tx i))))]) sz) ([(h, .inr (0, [.ref bd, .int (iI (0)), .int (iI (0)), .int (iI (n))])), (bd, .inl (cB, 16, .inl (fun q9 => iI (tx q9))))]) := hD
  have hsz := m_sz_in v
  refine lv_aload_n hx hb dJ5_append_c97b9_0 rfl (lv_at hl 0 rfl) ?_
  refine q_get (ci := 0) (C := RJ4) (T := TJ4) (N := 4) hx hb hts hin_J4 hown hK (v := .int (iI (n))) (hP 0 _ rfl) rfl 3 (by decide) (hts (.fieldLink RJ5 79 "java/lang/AbstractStringBuilder" "count" "I") (List.mem_of_getElem? (i := 1) rfl)) (fun _ h9 => h9) rfl dJ5_append_c97b9_1 ?_
  refine lv_istore_n (lv' := [(2, .int (iI (n))), (0, .ref h), (1, .int (iI (v)))]) hx hb dJ5_append_c97b9_4 rfl hl (by decide) rfl (fun ls hl => ?_)
  refine lv_iload_n hx hb dJ5_append_c97b9_5 rfl (lv_at hl 0 rfl) ?_
  refine lv_iload_n hx hb dJ5_append_c97b9_6 rfl (lv_at hl 2 rfl) ?_
  refine q_callS (fr := 0) (lo := 0) (nL := 4) (Pic := fun _ => True) (As := [.int (iI (v))]) (rest := [.int (iI (n))]) ⟨hx, hb, hml, hown, hts⟩ (c_stringSize l D (ty4 cI cO cL cB) (v) (by omega)) (va_cwS 1 hts gJ5_append_c97b9_J6_stringSize_0f7a4 rfl rfl rfl (by decide +kernel) ⟨Nat.le_of_ble_eq_true rfl, Nat.le_of_ble_eq_true rfl⟩) trivial hK rfl hl.1 rfl (Nat.le_of_ble_eq_true rfl) dJ5_append_c97b9_7 (Nat.zero_le _) (Nat.zero_le _) ?_
  refine q_iadd hx hb dJ5_append_c97b9_10 ?_
  refine lv_istore_n (lv' := [(3, .int (iI ((n) + (m_sz (v))))), (2, .int (iI (n))), (0, .ref h), (1, .int (iI (v)))]) hx hb dJ5_append_c97b9_11 rfl hl (by decide) rfl (fun ls hl => ?_)
  refine lv_aload_n hx hb dJ5_append_c97b9_12 rfl (lv_at hl 2 rfl) ?_
  refine lv_iload_n hx hb dJ5_append_c97b9_13 rfl (lv_at hl 0 rfl) ?_
  refine q_runGv (wc := [(h, .inr (0, [.ref bd, .int (iI (0)), .int (iI (0)), .int (iI (n))])), (bd, .inl (cB, 16, .inl (fun q9 => iI (tx q9))))]) (wr := []) (rest := []) (va_runU (nL := 4) (As := [.int (iI ((n) + (m_sz (v))))]) (rm := { frames := 0, cells := 0, slots := 0, locals := 0 }) ⟨hx, hb, hml, hown, hts⟩ (g_ensure l D _ ed cI cO cL cB h bd (n) tx ((n) + (m_sz (v))) (by omega)) (va_cwU 1 hts gJ5_append_c97b9_J5_ensureCapacityInternal_d00df_u100J4 rfl rfl rfl rfl (by decide +kernel) ⟨Nat.le_of_ble_eq_true rfl, Nat.le_of_ble_eq_true rfl⟩) ⟨pcY_blind, (ob_recv (hP 0 _ rfl) hK rfl), pcY_at (wr := []) hP hD hS hA hK hE hT⟩ rfl rfl hl.1 rfl (lv_room (Nat.le_of_ble_eq_true rfl)) dJ5_append_c97b9_14 ⟨Nat.le_of_ble_eq_true rfl, Nat.le_of_ble_eq_true rfl⟩) hP hD hS hA ?_
  intro _u H locs hP hD hS
  have hP : va_P D vwCl ([(h, .inr (0, [.ref bd, .int (iI (0)), .int (iI (0)), .int (iI (n))])), (bd, .inl (cB, 16, .inl (fun q9 => iI (tx q9))))]) H := hP
  have hD : va_D (va_A ([(h, .inr (0, [.ref bd, .int (iI (0)), .int (iI (0)), .int (iI (n))])), (bd, .inl (cB, 16, .inl (fun i => iI (tx i))))]) sz) ([(h, .inr (0, [.ref bd, .int (iI (0)), .int (iI (0)), .int (iI (n))])), (bd, .inl (cB, 16, .inl (fun q9 => iI (tx q9))))]) := hD
  refine lv_aload_n hx hb dJ5_append_c97b9_17 rfl (lv_at hl 2 rfl) ?_
  refine q_runGi (wc := [(h, .inr (0, [.ref bd, .int (iI (0)), .int (iI (0)), .int (iI (n))])), (bd, .inl (cB, 16, .inl (fun q9 => iI (tx q9))))]) (wr := []) (rest := []) (va_runU (nL := 4) (As := []) (rm := { frames := 0, cells := 0, slots := 0, locals := 0 }) ⟨hx, hb, hml, hown, hts⟩ (g_isLatin1 l D _ ed cI cO cL cB h bd (n) tx  ) (va_cwU 0 hts gJ5_append_c97b9_J5_isLatin1_aae02_u83J4 rfl rfl rfl rfl (by decide +kernel) ⟨Nat.le_of_ble_eq_true rfl, Nat.le_of_ble_eq_true rfl⟩) ⟨pcY_blind, (ob_recv (hP 0 _ rfl) hK rfl), pcY_at (wr := []) hP hD hS hA hK hE hT⟩ rfl rfl hl.1 rfl (lv_room (Nat.le_of_ble_eq_true rfl)) dJ5_append_c97b9_18 ⟨Nat.le_of_ble_eq_true rfl, Nat.le_of_ble_eq_true rfl⟩) hP hD hS hA ?_
  intro _u H locs hP hD hS
  have hP : va_P D vwCl ([(h, .inr (0, [.ref bd, .int (iI (0)), .int (iI (0)), .int (iI (n))])), (bd, .inl (cB, 16, .inl (fun q9 => iI (tx q9))))]) H := hP
  have hD : va_D (va_A ([(h, .inr (0, [.ref bd, .int (iI (0)), .int (iI (0)), .int (iI (n))])), (bd, .inl (cB, 16, .inl (fun i => iI (tx i))))]) sz) ([(h, .inr (0, [.ref bd, .int (iI (0)), .int (iI (0)), .int (iI (n))])), (bd, .inl (cB, 16, .inl (fun q9 => iI (tx q9))))]) := hD
  refine q_if_eq (tgt := 37) hx hb dJ5_append_c97b9_21 (by decide) (by omega) (fun c_1 => ?_) (fun c_1 => ?_)
  · exfalso
    omega
  · skip
    refine lv_iload_n hx hb dJ5_append_c97b9_24 rfl (lv_at hl 3 rfl) ?_
    refine lv_iload_n hx hb dJ5_append_c97b9_25 rfl (lv_at hl 0 rfl) ?_
    refine lv_aload_n hx hb dJ5_append_c97b9_26 rfl (lv_at hl 2 rfl) ?_
    refine q_get (ci := 0) (C := RJ4) (T := TJ4) (N := 4) hx hb hts hin_J4 hown hK (v := .ref bd) (hP 0 _ rfl) rfl 0 (by decide) (hts (.fieldLink RJ5 15 "java/lang/AbstractStringBuilder" "value" "[B") (List.mem_of_getElem? (i := 2) rfl)) (fun _ h9 => h9) rfl dJ5_append_c97b9_27 ?_
    obtain ⟨hP, hD⟩ := va_reo (ex := [(h, .inr (0, [.ref bd, .int (iI (0)), .int (iI (0)), .int (iI (n))])), (bd, .inl (cB, 16, .inl (fun q9 => iI (tx q9))))]) (ex' := [(bd, .inl (cB, 16, .inl (fun q9 => iI (tx q9)))), (h, .inr (0, [.ref bd, .int (iI (0)), .int (iI (0)), .int (iI (n))]))]) (tl := []) [1, 0] rfl 2 rfl (by decide) (by exact hP) (by exact hD)
    have hP : va_P D vwCl ([(bd, .inl (cB, 16, .inl (fun q9 => iI (tx q9)))), (h, .inr (0, [.ref bd, .int (iI (0)), .int (iI (0)), .int (iI (n))]))]) H := hP
    have hD : va_D (va_A ([(h, .inr (0, [.ref bd, .int (iI (0)), .int (iI (0)), .int (iI (n))])), (bd, .inl (cB, 16, .inl (fun i => iI (tx i))))]) sz) ([(bd, .inl (cB, 16, .inl (fun q9 => iI (tx q9)))), (h, .inr (0, [.ref bd, .int (iI (0)), .int (iI (0)), .int (iI (n))]))]) := hD
    refine q_runGi (wc := [(bd, .inl (cB, 16, .inl (fun q9 => iI (tx q9))))]) (wr := [(h, .inr (0, [.ref bd, .int (iI (0)), .int (iI (0)), .int (iI (n))]))]) (rest := []) (va_runS (nL := 4) (As := [.int (iI (v)), .int (iI ((n) + (m_sz (v)))), .ref bd]) (rm := { frames := 0, cells := 0, slots := 0, locals := 0 }) ⟨hx, hb, hml, hown, hts⟩ (g_getChars l D _ ed cI cO cL cB bd (n) (v) ((n) + (m_sz (v))) tx (by omega) (by omega) (by omega)) (va_cwS 3 hts gJ5_append_c97b9_J6_getChars_ba4f3 rfl rfl rfl (by decide +kernel) ⟨Nat.le_of_ble_eq_true rfl, Nat.le_of_ble_eq_true rfl⟩) ⟨pcY_blind, pcY_at (wr := [(h, .inr (0, [.ref bd, .int (iI (0)), .int (iI (0)), .int (iI (n))]))]) hP hD hS hA hK hE hT⟩ rfl rfl hl.1 rfl (lv_room (Nat.le_of_ble_eq_true rfl)) dJ5_append_c97b9_30 ⟨Nat.le_of_ble_eq_true rfl, Nat.le_of_ble_eq_true rfl⟩) hP hD hS hA ?_
    intro _u H locs hP hD hS
    have hP : va_P D vwCl ([(bd, .inl (cB, 16, .inl (fun q9 => iI ((m_ap tx (n) (v)) q9)))), (h, .inr (0, [.ref bd, .int (iI (0)), .int (iI (0)), .int (iI (n))]))]) H := hP
    have hD : va_D (va_A ([(h, .inr (0, [.ref bd, .int (iI (0)), .int (iI (0)), .int (iI (n))])), (bd, .inl (cB, 16, .inl (fun i => iI (tx i))))]) sz) ([(bd, .inl (cB, 16, .inl (fun q9 => iI ((m_ap tx (n) (v)) q9)))), (h, .inr (0, [.ref bd, .int (iI (0)), .int (iI (0)), .int (iI (n))]))]) := hD
    refine lv_pop hx hb dJ5_append_c97b9_33 rfl ?_
    refine lv_goto (tgt := 48) hx hb dJ5_append_c97b9_34 (by decide) ?_
    refine lv_aload_n hx hb dJ5_append_c97b9_48 rfl (lv_at hl 2 rfl) ?_
    refine lv_iload_n hx hb dJ5_append_c97b9_49 rfl (lv_at hl 0 rfl) ?_
    refine va_put (D := D) (ci := 0) (v := .int (iI ((n) + (m_sz (v))))) (ty := .int) (C := RJ4) (T := TJ4) (N := 4) hx hb hts (fun w h => List.mem_cons_of_mem _ (List.mem_append_right _ h)) tyJ4 tyJ4_ok nmJ4 hown hK hP hD hS 1 rfl rfl 3 (by decide) (hts (.fieldLink RJ5 79 "java/lang/AbstractStringBuilder" "count" "I") (List.mem_of_getElem? (i := 1) rfl)) (fun _ h9 => h9) rfl (by decide +kernel) rfl rfl (Nat.le_of_ble_eq_true rfl) dJ5_append_c97b9_50 (fun H locs hP hD hS => ?_)
    have hP : va_P D vwCl ([(bd, .inl (cB, 16, .inl (fun q9 => iI ((m_ap tx (n) (v)) q9)))), (h, .inr (0, [.ref bd, .int (iI (0)), .int (iI (0)), .int (iI ((n) + (m_sz (v))))]))]) H := hP
    have hD : va_D (va_A ([(h, .inr (0, [.ref bd, .int (iI (0)), .int (iI (0)), .int (iI (n))])), (bd, .inl (cB, 16, .inl (fun i => iI (tx i))))]) sz) ([(bd, .inl (cB, 16, .inl (fun q9 => iI ((m_ap tx (n) (v)) q9)))), (h, .inr (0, [.ref bd, .int (iI (0)), .int (iI (0)), .int (iI ((n) + (m_sz (v))))]))]) := hD
    refine lv_aload_n hx hb dJ5_append_c97b9_53 rfl (lv_at hl 2 rfl) ?_
    obtain ⟨hP, hD⟩ := va_reo (ex := [(bd, .inl (cB, 16, .inl (fun q9 => iI ((m_ap tx (n) (v)) q9)))), (h, .inr (0, [.ref bd, .int (iI (0)), .int (iI (0)), .int (iI ((n) + (m_sz (v))))]))]) (ex' := [(h, .inr (0, [.ref bd, .int (iI (0)), .int (iI (0)), .int (iI ((n) + (m_sz (v))))])), (bd, .inl (cB, 16, .inl (fun q9 => iI ((m_ap tx (n) (v)) q9))))]) (tl := []) [1, 0] rfl 2 rfl (by decide) (by exact hP) (by exact hD)
    have hP : va_P D vwCl ([(h, .inr (0, [.ref bd, .int (iI (0)), .int (iI (0)), .int (iI ((n) + (m_sz (v))))])), (bd, .inl (cB, 16, .inl (fun q9 => iI ((m_ap tx (n) (v)) q9))))]) H := hP
    have hD : va_D (va_A ([(h, .inr (0, [.ref bd, .int (iI (0)), .int (iI (0)), .int (iI (n))])), (bd, .inl (cB, 16, .inl (fun i => iI (tx i))))]) sz) ([(h, .inr (0, [.ref bd, .int (iI (0)), .int (iI (0)), .int (iI ((n) + (m_sz (v))))])), (bd, .inl (cB, 16, .inl (fun q9 => iI ((m_ap tx (n) (v)) q9))))]) := hD
    exact q_grret (cells := 0) (slots := 0) (mc := 0) (ms := 0) (w1 := fun (_ : Unit) => [(h, .inr (0, [.ref bd, .int (iI (0)), .int (iI (0)), .int (iI (n + m_sz (v)))])), (bd, .inl (cB, 16, .inl (fun i => iI ((m_ap tx (n) (v)) i))))]) (rr := fun (_ : Unit) => h) (()) hx hb hr (Or.inl ⟨_, rfl⟩) hlocks hS (rfl) (⟨hP, hD⟩) (Nat.le_of_ble_eq_true rfl) (Nat.le_of_ble_eq_true rfl) dJ5_append_c97b9_54
set_option maxHeartbeats 4000000 in
set_option maxRecDepth 100000 in
theorem g_api (l : Launch) (D : va_G) (sz : Nat) (ed : Nat × Nat × Nat) (cI cO cL cB : ClassId) (h bd : Nat) (n : Int) (tx : Nat → Int) (v : Int) (hn : 0 ≤ n ∧ n ≤ 13) (hv : 0 ≤ v ∧ v ≤ 999) : MGr l yJ4_append_bf812 wsJ4_append_bf812 3 90 0 0 D (ty4 cI cO cL cB) sz ([(h, .inr (0, [.ref bd, .int (iI (0)), .int (iI (0)), .int (iI (n))])), (bd, .inl (cB, 16, .inl (fun i => iI (tx i))))]) [.ref h, .int (iI (v))] ed (fun (_ : Unit) => h) (fun (_ : Unit) => [(h, .inr (0, [.ref bd, .int (iI (0)), .int (iI (0)), .int (iI (n + m_sz (v)))])), (bd, .inl (cB, 16, .inl (fun i => iI ((m_ap tx (n) (v)) i))))]) := by
  refine MGr_of (cc := cJ4_append_bf812) (maxL := 2) (ret := (some (.object "java/lang/StringBuilder"))) (by decide) rfl (Nat.le_of_ble_eq_true rfl) ?_
  intro p e s m args below meth c ls hx hb hr hlocks hml hown hts hsz hP hK hD hS hA hin hE hT hl
  have hl : lv_has ls 2 [(0, .ref h), (1, .int (iI (v)))] := hl
  have hP : va_P D vwCl ([(h, .inr (0, [.ref bd, .int (iI (0)), .int (iI (0)), .int (iI (n))])), (bd, .inl (cB, 16, .inl (fun q9 => iI (tx q9))))]) s.heap := hP
  have hD : va_D (va_A ([(h, .inr (0, [.ref bd, .int (iI (0)), .int (iI (0)), .int (iI (n))])), (bd, .inl (cB, 16, .inl (fun i => iI (tx i))))]) sz) ([(h, .inr (0, [.ref bd, .int (iI (0)), .int (iI (0)), .int (iI (n))])), (bd, .inl (cB, 16, .inl (fun q9 => iI (tx q9))))]) := hD
  have hsz := m_sz_in v
  refine lv_aload_n hx hb dJ4_append_bf812_0 rfl (lv_at hl 0 rfl) ?_
  refine lv_iload_n hx hb dJ4_append_bf812_1 rfl (lv_at hl 1 rfl) ?_
  refine q_runGr (wc := [(h, .inr (0, [.ref bd, .int (iI (0)), .int (iI (0)), .int (iI (n))])), (bd, .inl (cB, 16, .inl (fun q9 => iI (tx q9))))]) (wr := []) (rest := []) (va_runSU (hK.1 0 _ rfl).2 (nL := 2) (As := [.int (iI (v))]) (rm := { frames := 2, cells := 0, slots := 0, locals := 60 }) ⟨hx, hb, hml, hown, hts⟩ (g_asbApi l D _ ed cI cO cL cB h bd (n) tx (v) (by omega) (by omega)) (va_cwSU 1 hts gJ4_append_bf812_J5_append_c97b9_s53 rfl rfl rfl (by decide +kernel) ⟨Nat.le_of_ble_eq_true rfl, Nat.le_of_ble_eq_true rfl⟩) ⟨pcY_blind, (ob_recv (hP 0 _ rfl) hK rfl), pcY_at (wr := []) hP hD hS hA hK hE hT⟩ rfl rfl hl.1 rfl (lv_room (Nat.le_of_ble_eq_true rfl)) dJ4_append_bf812_2 ⟨Nat.le_of_ble_eq_true rfl, Nat.le_of_ble_eq_true rfl⟩) hP hD hS hA ?_
  intro _u H locs hP hD hS
  have hP : va_P D vwCl ([(h, .inr (0, [.ref bd, .int (iI (0)), .int (iI (0)), .int (iI (n + m_sz (v)))])), (bd, .inl (cB, 16, .inl (fun q9 => iI ((m_ap tx (n) (v)) q9))))]) H := hP
  have hD : va_D (va_A ([(h, .inr (0, [.ref bd, .int (iI (0)), .int (iI (0)), .int (iI (n))])), (bd, .inl (cB, 16, .inl (fun i => iI (tx i))))]) sz) ([(h, .inr (0, [.ref bd, .int (iI (0)), .int (iI (0)), .int (iI (n + m_sz (v)))])), (bd, .inl (cB, 16, .inl (fun q9 => iI ((m_ap tx (n) (v)) q9))))]) := hD
  have hsz2 := m_sz_in (v)
  refine lv_pop hx hb dJ4_append_bf812_5 rfl ?_
  refine lv_aload_n hx hb dJ4_append_bf812_6 rfl (lv_at hl 0 rfl) ?_
  exact q_grret (cells := 0) (slots := 0) (mc := 0) (ms := 0) (w1 := fun (_ : Unit) => [(h, .inr (0, [.ref bd, .int (iI (0)), .int (iI (0)), .int (iI (n + m_sz (v)))])), (bd, .inl (cB, 16, .inl (fun i => iI ((m_ap tx (n) (v)) i))))]) (rr := fun (_ : Unit) => h) (()) hx hb hr (Or.inl ⟨_, rfl⟩) hlocks hS (rfl) (⟨hP, hD⟩) (Nat.le_of_ble_eq_true rfl) (Nat.le_of_ble_eq_true rfl) dJ4_append_bf812_7
