/-! ===== more rows: longs; rows of rows of ints ===== -/
section QR3
variable {p : Program} {l : Launch} {e : Env} {R : Room} {s : State} {m : MethodId} {args : Array Value} {below : List Frame} {meth : Method} {c : Code} {H : Heap} {locs : List Loc} {cells slots : Nat} {Q : State → Prop} {cc : ByteArray} {pc : Nat} {ls : Array Slot} {rest : List Value}
theorem q_topL {a : Int} (k : ∀ z : Int, z = a → W p l e R s m args below meth c H locs cells slots Q (F0 m pc ls (.long (iL z) :: rest))) : W p l e R s m args below meth c H locs cells slots Q (F0 m pc ls (.long (iL a) :: rest)) := k a rfl
theorem q_lconst (hx : p.tables.exec = Jvm.exec) (hb : c.code = cc) {n : Fin 2} {z : Int} (hdg : decode cc pc = .ok (.lconst n, 1)) (hz : ((n : Nat) : Int) = z) (k : W p l e R s m args below meth c H locs cells slots Q (F0 m (pc + 1) ls (.long (iL z) :: rest))) : W p l e R s m args below meth c H locs cells slots Q (F0 m pc ls rest) :=
  lv_lconst hx hb hdg (v := iL z) (by subst hz; exact Int64.ofInt_eq_ofNat.symm) k
theorem q_ladd (hx : p.tables.exec = Jvm.exec) (hb : c.code = cc) {a b : Int} (hdg : decode cc pc = .ok (.ladd, 1)) (k : W p l e R s m args below meth c H locs cells slots Q (F0 m (pc + 1) ls (.long (iL (a + b)) :: rest))) : W p l e R s m args below meth c H locs cells slots Q (F0 m pc ls (.long (iL b) :: .long (iL a) :: rest)) := lv_ladd hx hb hdg (by rw [iL_add]; exact k)
theorem iL_neg (a : Int) : -iL a = iL (-a) := (Int64.ofInt_neg a).symm
theorem q_lneg (hx : p.tables.exec = Jvm.exec) (hb : c.code = cc) {a : Int} (hdg : decode cc pc = .ok (.lneg, 1)) (k : W p l e R s m args below meth c H locs cells slots Q (F0 m (pc + 1) ls (.long (iL (-a)) :: rest))) : W p l e R s m args below meth c H locs cells slots Q (F0 m pc ls (.long (iL a) :: rest)) := lv_lneg hx hb hdg (by rw [iL_neg]; exact k)
theorem iL_cmp {a b : Int} (ha : -9223372036854775808 ≤ a ∧ a < 9223372036854775808) (hb : -9223372036854775808 ≤ b ∧ b < 9223372036854775808) : ∃ z : Int, lg_cmp (iL a) (iL b) = iI z ∧ ((z = -1 ∧ a < b) ∨ (z = 0 ∧ a = b) ∨ (z = 1 ∧ b < a)) := by
  unfold lg_cmp
  by_cases h1 : b < a
  · have g : iL a > iL b := by
      show iL b < iL a
      rw [Int64.lt_iff_toInt_lt, iL_T ha, iL_T hb]
      exact h1
    rw [if_pos g]
    exact ⟨1, rfl, Or.inr (Or.inr ⟨rfl, h1⟩)⟩
  · have g : ¬ iL a > iL b := by
      show ¬ iL b < iL a
      rw [Int64.lt_iff_toInt_lt, iL_T ha, iL_T hb]
      exact h1
    rw [if_neg g]
    by_cases h2 : a = b
    · rw [if_pos ((iL_eq ha hb).mpr h2)]
      exact ⟨0, rfl, Or.inr (Or.inl ⟨rfl, h2⟩)⟩
    · rw [if_neg (fun q => h2 ((iL_eq ha hb).mp q))]
      exact ⟨-1, rfl, Or.inl ⟨rfl, by omega⟩⟩
theorem q_lcmp (hx : p.tables.exec = Jvm.exec) (hb : c.code = cc) {a b : Int} (hdg : decode cc pc = .ok (.lcmp, 1)) (ha : -9223372036854775808 ≤ a ∧ a < 9223372036854775808) (hb2 : -9223372036854775808 ≤ b ∧ b < 9223372036854775808)
    (k : ∀ z : Int, ((z = -1 ∧ a < b) ∨ (z = 0 ∧ a = b) ∨ (z = 1 ∧ b < a)) → W p l e R s m args below meth c H locs cells slots Q (F0 m (pc + 1) ls (.int (iI z) :: rest))) : W p l e R s m args below meth c H locs cells slots Q (F0 m pc ls (.long (iL b) :: .long (iL a) :: rest)) := by
  obtain ⟨z, h1, h2⟩ := iL_cmp ha hb2
  refine W.lcmp hx hb hdg ?_
  rw [h1]
  exact k z h2
theorem q_aldA (hx : p.tables.exec = Jvm.exec) (hb : c.code = cc) {D : va_G} {tys : List (ClassId × FieldType)} {a : Nat} (hK : va_K D vwCl tys s) {cA : ClassId} {t : FieldType} {n v : Nat} {f : Nat → Option Nat} (hP : ar D a (cA, n, .inr (.inr (.inr (.inr f)))) H) (t0 : Nat) (ht : tys[t0]? = some (cA, .array t)) {i : Int} (hi : 0 ≤ i ∧ i < n) (hn : n < 2147483648) (hv : f i.toNat = some v) (hdg : decode cc pc = .ok (.aaload, 1))
    (kk : W p l e R s m args below meth c H locs cells slots Q (F0 m (pc + 1) ls (.ref v :: rest))) : W p l e R s m args below meth c H locs cells slots Q (F0 m pc ls (.int (iI i) :: .ref a :: rest)) := by
  have hin := iI_in hi hn
  have hlt : (iI i).toNatClampNeg < n := Nat.not_le.mp fun q => hin (Or.inr q)
  have h0 : H[a]? = some (vp_cell cA (n, .inr (.inr (.inr (.inr f))))) := hP
  refine W.aald (v := va_rf (f (iI i).toNatClampNeg)) (ty := .array t) hx hb h0 ((hK.2 t0 _ ht).1 n (fun j => va_rf (f j))) rfl (fun q => by cases q) (by show ¬ (iI i < 0 ∨ (arrV _ _ _).slots.size ≤ _); rw [arrV_size]; exact hin) (by show (arrV _ _ _).slots[_]? = _; rw [arrV_read _ _ hlt]) rfl rfl hdg ?_
  rw [iI_cl (by omega), hv]
  exact kk
end QR3
