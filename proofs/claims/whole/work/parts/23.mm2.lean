/-! ===== AlmanacHouseModel: observe, clashes, again, print, reprint, cycle ===== -/
def m_late (σ : Nat → Int) (d b : Int) : Int := d - m_tm (σ 2) (σ 3) (m_nt (σ 2) (σ 3) b d) b / 1000
def m_clamp (x : Int) : Int := if 20000 < (if x < 40000 then x else 40000) then (if x < 40000 then x else 40000) else 20000
/-- the settings behind an observation -/
def m_obs (σ : Nat → Int) (d b : Int) : Nat → Int := if m_late σ d b = 0 ∨ (m_nt (σ 2) (σ 3) b d = 0 ∧ b = 0) then st σ 9 (σ 9 + 1) else st (st (st σ 9 (σ 9 + 1)) 10 (σ 10 + 1)) 2 (m_clamp (Int.tdiv (2 * (1000 * d + 500 - σ 3)) (2 * m_nt (σ 2) (σ 3) b d + b)))
theorem m_td2 (x k : Int) : (2 * x).tdiv (2 * k) = x.tdiv k := Int.mul_tdiv_mul_of_pos _ _ (by omega)
theorem m_tdr {x n : Int} (hx : -2000000000 < x ∧ x < 2000000000) (hn : 0 < n) : -2000000000 < x.tdiv n ∧ x.tdiv n < 2000000000 := by
  by_cases h : 0 ≤ x
  · rw [Int.tdiv_eq_ediv_of_nonneg h]
    have h1 := Int.ediv_nonneg h (show 0 ≤ n by omega)
    have h2 := Int.ediv_le_self n h
    omega
  · have h4 : x.tdiv n = -((-x).tdiv n) := by
      rw [Int.neg_tdiv, Int.neg_neg]
    have h5 : (-x).tdiv n = (-x) / n := Int.tdiv_eq_ediv_of_nonneg (by omega)
    have h1 := Int.ediv_nonneg (show 0 ≤ -x by omega) (show 0 ≤ n by omega)
    have h2 := Int.ediv_le_self n (show 0 ≤ -x by omega)
    rw [h4, h5]
    omega
theorem m_abs_pos (x : Int) : 0 < m_abs x ↔ x ≠ 0 := by
  unfold m_abs
  split <;> omega
/-- the paper when the first k days of the sheet at b are written -/
def m_fl (σ T P : Nat → Int) (b : Nat) (y : Int) (k : Nat) : Nat → Int := fun i => if i = b then y else if i = b + 1 then σ 6 else if i = b + 2 then m_E σ y else if b + 3 ≤ i ∧ i < b + 3 + k then m_F σ T (i - (b + 3)) y else P i
theorem m_fl_0 (σ T P : Nat → Int) (b : Nat) (y : Int) : st (st (st P b y) (b + 1) (σ 6)) (b + 2) (m_E σ y) = m_fl σ T P b y 0 := by
  funext i
  unfold st m_fl
  (repeat' split) <;> first | rfl | (exfalso; omega)
theorem m_fl_st (σ T P : Nat → Int) (b : Nat) (y : Int) (k : Nat) : st (m_fl σ T P b y k) (b + 3 + k) (m_F σ T k y) = m_fl σ T P b y (k + 1) := by
  funext i
  by_cases h : i = b + 3 + k
  · subst h
    rw [st_eq]
    unfold m_fl
    rw [if_neg (by omega), if_neg (by omega), if_neg (by omega), if_pos (by omega), show b + 3 + k - (b + 3) = k by omega]
  · rw [st_ne h]
    unfold m_fl
    (repeat' split) <;> first | rfl | (exfalso; omega)
theorem m_fl_step (σ T P : Nat → Int) (b : Nat) (y : Int) {k : Int} (h : 0 ≤ k) : st (m_fl σ T P b y k.toNat) (b + 3 + k.toNat) (m_F σ T k.toNat y) = m_fl σ T P b y (k + 1).toNat := by
  rw [show (k + 1).toNat = k.toNat + 1 by omega]
  exact m_fl_st σ T P b y k.toNat
theorem WS_put {σ P : Nat → Int} (h : WS σ P) {j u : Nat} {v : Int} (hu : u ≤ 10) (h0 : u = 0 → 0 ≤ v ∧ v ≤ 999) (h1 : u = 1 → 0 ≤ v ∧ v ≤ σ 6) (h2 : u = 2 → 0 ≤ v ∧ v ≤ 100000) (h3 : 3 ≤ u → -1000000 ≤ v ∧ v ≤ 1000000) : WS σ (st P (11 * j + u) v) := by
  intro jj hjj
  obtain ⟨a1, a2, a3, a4⟩ := h jj hjj
  have key : ∀ x, x ≤ 10 → st P (11 * j + u) v (11 * jj + x) = if jj = j ∧ x = u then v else P (11 * jj + x) := by
    intro x hx
    unfold st
    (repeat' split) <;> first | rfl | (exfalso; omega)
  have k0 := key 0 (by omega)
  rw [Nat.add_zero] at k0
  refine ⟨?_, ?_, ?_, fun i hi => ?_⟩
  · rw [k0]
    split
    · exact h0 (by omega)
    · exact a1
  · rw [key 1 (by omega)]
    split
    · exact h1 (by omega)
    · exact a2
  · rw [key 2 (by omega)]
    split
    · exact h2 (by omega)
    · exact a3
  · have k3 := key (3 + i) (by omega)
    rw [← Nat.add_assoc] at k3
    rw [k3]
    split
    · exact h3 (by omega)
    · exact a4 i hi
theorem m_fl_WS {σ T P : Nat → Int} (hW : WF σ T) (hS : WS σ P) {j k : Nat} {y : Int} (hy : 0 ≤ y ∧ y ≤ 999) (hk : (k : Int) ≤ σ 6) : WS σ (m_fl σ T P (11 * j) y k) := by
  have hE0 := m_Eb_in hW (y := y) (b := 0) hy
  have hE1 := m_Eb_in hW (y := y) (b := 1) hy
  have hE : m_E σ y = m_Eb σ y 0 + m_Eb σ y 1 := rfl
  obtain ⟨w0, w1, w2, w3, w4, w5, w6, w7, w8⟩ := id hW
  intro jj hjj
  obtain ⟨a1, a2, a3, a4⟩ := hS jj hjj
  by_cases h : jj = j
  · subst h
    refine ⟨?_, ?_, ?_, fun i hi => ?_⟩
    · unfold m_fl
      rw [if_pos rfl]
      exact hy
    · unfold m_fl
      rw [if_neg (by omega), if_pos rfl]
      omega
    · unfold m_fl
      rw [if_neg (by omega), if_neg (by omega), if_pos rfl]
      omega
    · unfold m_fl
      rw [if_neg (by omega), if_neg (by omega), if_neg (by omega)]
      split
      · exact m_F_in hW (by omega) hy
      · exact a4 i hi
  · have key : ∀ u, u ≤ 10 → m_fl σ T P (11 * j) y k (11 * jj + u) = P (11 * jj + u) := by
      intro u hu
      unfold m_fl
      rw [if_neg (by omega), if_neg (by omega), if_neg (by omega), if_neg (by omega)]
    have k0 := key 0 (by omega)
    rw [Nat.add_zero] at k0
    refine ⟨?_, ?_, ?_, fun i hi => ?_⟩
    · rw [k0]
      exact a1
    · rw [key 1 (by omega)]
      exact a2
    · rw [key 2 (by omega)]
      exact a3
    · have k3 := key (3 + i) (by omega)
      rw [← Nat.add_assoc] at k3
      rw [k3]
      exact a4 i hi
set_option maxHeartbeats 4000000 in
set_option maxRecDepth 100000 in
theorem u_clashes (l : Launch) (D : va_G) (sz : Nat) (cI cO cL : ClassId) (a ta pa : Nat) (th : Int) (σ T P : Nat → Int) (hW : WF σ T) (hS0 : WS σ P) (y : Int) (hyr : -2147483648 ≤ y ∧ y < 2147483648) : MU l yX6_clashes wsX6_clashes 4 92 0 0 D (ty3 cI cO cL) sz (WMo cI a ta pa th σ T P) [.ref a, .int (iI (y))] (if 0 ≤ y ∧ y < 1000 then 0 else 1) (m_pairs (fun i => m_F σ T i y) (σ 6).toNat) (WMo cI a ta pa 0 (σ) (T) (P)) (WMo cI a ta pa (if 0 ≤ y ∧ y < 1000 then 0 else 1) σ T P) := by
  refine MU_of (cc := cX6_clashes) (maxL := 5) (ret := (some .int)) (by decide) rfl (Nat.le_of_ble_eq_true rfl) ?_
  intro p e s m args below meth c ls hx hb hr hlocks hml hown hts hsz hP hK hD hS hA hl
  have hl : lv_has ls 5 [(0, .ref a), (1, .int (iI (y)))] := hl
  have hin_X6 : ∀ w ∈ u_ws RX6 TX6 13, w ∈ wsX6_clashes := (fun w h => List.mem_cons_of_mem _ (List.mem_append_right _ h))
  have hP : va_P D vwCl ([(a, .inr (8, [.int (iI (th)), .int (iI (σ 0)), .int (iI (σ 1)), .int (iI (σ 2)), .int (iI (σ 3)), .int (iI (σ 4)), .int (iI (σ 5)), .int (iI (σ 6)), .ref ta, .int (iI (σ 7)), .ref pa, .int (iI (σ 9)), .int (iI (σ 10))])), (ta, .inl (cI, 40, .inl (fun q9 => iI (T q9)))), (pa, .inl (cI, 110, .inl (fun q9 => iI (P q9))))]) s.heap := hP
  have hD : va_D (va_A (WMo cI a ta pa th σ T P) sz) ([(a, .inr (8, [.int (iI (th)), .int (iI (σ 0)), .int (iI (σ 1)), .int (iI (σ 2)), .int (iI (σ 3)), .int (iI (σ 4)), .int (iI (σ 5)), .int (iI (σ 6)), .ref ta, .int (iI (σ 7)), .ref pa, .int (iI (σ 9)), .int (iI (σ 10))])), (ta, .inl (cI, 40, .inl (fun q9 => iI (T q9)))), (pa, .inl (cI, 110, .inl (fun q9 => iI (P q9))))]) := hD
  obtain ⟨w0, w1, w2, w3, w4, w5, w6, w7, w8⟩ := id hW
  refine lv_aload_n hx hb dX6_clashes_0 rfl (lv_at hl 0 rfl) ?_
  refine q_iconst hx hb dX6_clashes_1 ?_
  refine va_put (D := D) (ci := 8) (v := .int (iI (0))) (ty := .int) (C := RX6) (T := TX6) (N := 13) hx hb hts hin_X6 tyX6 tyX6_ok nmX6 hown hK hP hD hS 0 rfl rfl 0 (by decide) (hts (.fieldLink RX6 30 "AlmanacHouseModel" "thrown" "I") (List.mem_of_getElem? (i := 1) rfl)) (fun _ h9 => h9) rfl (by decide +kernel) rfl rfl (Nat.le_of_ble_eq_true rfl) dX6_clashes_2 (fun H locs hP hD hS => ?_)
  have hP : va_P D vwCl ([(a, .inr (8, [.int (iI (0)), .int (iI (σ 0)), .int (iI (σ 1)), .int (iI (σ 2)), .int (iI (σ 3)), .int (iI (σ 4)), .int (iI (σ 5)), .int (iI (σ 6)), .ref ta, .int (iI (σ 7)), .ref pa, .int (iI (σ 9)), .int (iI (σ 10))])), (ta, .inl (cI, 40, .inl (fun q9 => iI (T q9)))), (pa, .inl (cI, 110, .inl (fun q9 => iI (P q9))))]) H := hP
  have hD : va_D (va_A (WMo cI a ta pa th σ T P) sz) ([(a, .inr (8, [.int (iI (0)), .int (iI (σ 0)), .int (iI (σ 1)), .int (iI (σ 2)), .int (iI (σ 3)), .int (iI (σ 4)), .int (iI (σ 5)), .int (iI (σ 6)), .ref ta, .int (iI (σ 7)), .ref pa, .int (iI (σ 9)), .int (iI (σ 10))])), (ta, .inl (cI, 40, .inl (fun q9 => iI (T q9)))), (pa, .inl (cI, 110, .inl (fun q9 => iI (P q9))))]) := hD
  refine lv_iload_n hx hb dX6_clashes_5 rfl (lv_at hl 1 rfl) ?_
  refine q_callS (fr := 1) (lo := 22) (nL := 5) (Pic := fun _ => True) (As := [.int (iI (y))]) (rest := []) ⟨hx, hb, hml, hown, hts⟩ (c_isYearM l D (ty3 cI cO cL) (y) (by omega)) (va_cwS 1 hts gX6_clashes_X6_isYear rfl rfl rfl (by decide +kernel) ⟨Nat.le_of_ble_eq_true rfl, Nat.le_of_ble_eq_true rfl⟩) trivial hK rfl hl.1 rfl (Nat.le_of_ble_eq_true rfl) dX6_clashes_6 (Nat.zero_le _) (Nat.zero_le _) ?_
  refine q_pif_ne (tgt := 18) hx hb dX6_clashes_9 (by decide) (fun c_1 => ?_) (fun c_1 => ?_)
  · skip
    refine q_iconst hx hb dX6_clashes_18 ?_
    refine lv_istore_n (lv' := [(2, .int (iI (0))), (0, .ref a), (1, .int (iI (y)))]) hx hb dX6_clashes_19 rfl hl (by decide) rfl (fun ls hl => ?_)
    refine q_iconst hx hb dX6_clashes_20 ?_
    refine lv_istore_n (lv' := [(3, .int (iI (0))), (2, .int (iI (0))), (0, .ref a), (1, .int (iI (y)))]) hx hb dX6_clashes_21 rfl hl (by decide) rfl (fun ls hl => ?_)
    have key_22 : ∀ (fu : Nat) (k : Int) (su : Int), 0 ≤ k ∧ k ≤ σ 6 → su = m_pairs (fun i => m_F σ T i y) k.toNat → (((σ 6 - k).toNat : Int)) < (fu : Int) → ∀ (H : Heap) (locs : List Loc), va_P D vwCl ([(a, .inr (8, [.int (iI (0)), .int (iI (σ 0)), .int (iI (σ 1)), .int (iI (σ 2)), .int (iI (σ 3)), .int (iI (σ 4)), .int (iI (σ 5)), .int (iI (σ 6)), .ref ta, .int (iI (σ 7)), .ref pa, .int (iI (σ 9)), .int (iI (σ 10))])), (ta, .inl (cI, 40, .inl (fun q9 => iI (T q9)))), (pa, .inl (cI, 110, .inl (fun q9 => iI (P q9))))]) H → va_D (va_A (WMo cI a ta pa th σ T P) sz) ([(a, .inr (8, [.int (iI (0)), .int (iI (σ 0)), .int (iI (σ 1)), .int (iI (σ 2)), .int (iI (σ 3)), .int (iI (σ 4)), .int (iI (σ 5)), .int (iI (σ 6)), .ref ta, .int (iI (σ 7)), .ref pa, .int (iI (σ 9)), .int (iI (σ 10))])), (ta, .inl (cI, 40, .inl (fun q9 => iI (T q9)))), (pa, .inl (cI, 110, .inl (fun q9 => iI (P q9))))]) → va_S (va_A (WMo cI a ta pa th σ T P) sz) s.heap H locs → ∀ ls : Array Slot, lv_has ls 5 [(0, .ref a), (1, .int (iI (y))), (2, .int (iI (su))), (3, .int (iI (k)))] → W p l e { frames := 4, cells := 0, slots := 0, locals := 92 } s m args below meth c H locs 0 0 (MQ below (va_Qi (fun (r : Int32) (_ : Unit) => (if 0 ≤ y ∧ y < 1000 then 0 else 1 : Int) = 0 → r = iI (m_pairs (fun i => m_F σ T i y) (σ 6).toNat)) (fun _ t => ((if 0 ≤ y ∧ y < 1000 then 0 else 1 : Int) = 0 ∧ va_P D vwCl (WMo cI a ta pa 0 (σ) (T) (P)) t.heap) ∨ ((if 0 ≤ y ∧ y < 1000 then 0 else 1 : Int) ≠ 0 ∧ va_P D vwCl (WMo cI a ta pa (if 0 ≤ y ∧ y < 1000 then 0 else 1) σ T P) t.heap)) (va_A (WMo cI a ta pa th σ T P) sz)) args s 0 0 (va_A (WMo cI a ta pa th σ T P) sz)) (F0 m 22 ls []) := by
      intro fu
      induction fu with
      | zero => intro k su hk hsu hm_22 H locs hP hD hS ls hl; exact absurd hm_22 (by omega)
      | succ fu ih_22 =>
        intro k su hk hsu hm_22 H locs hP hD hS ls hl
        refine lv_iload_n hx hb dX6_clashes_22 rfl (lv_at hl 3 rfl) ?_
        refine lv_aload_n hx hb dX6_clashes_23 rfl (lv_at hl 0 rfl) ?_
        refine q_get (ci := 8) (C := RX6) (T := TX6) (N := 13) hx hb hts hin_X6 hown hK (v := .int (iI (σ 6))) (hP 0 _ rfl) rfl 7 (by decide) (hts (.fieldLink RX6 140 "AlmanacHouseModel" "feasts" "I") (List.mem_of_getElem? (i := 2) rfl)) (fun _ h9 => h9) rfl dX6_clashes_24 ?_
        refine q_icmp_ge (tgt := 75) hx hb dX6_clashes_27 (by decide) (by omega) (by omega) (fun c_2 => ?_) (fun c_2 => ?_)
        · skip
          refine lv_iload_n hx hb dX6_clashes_75 rfl (lv_at hl 2 rfl) ?_
          have hER : (if 0 ≤ y ∧ y < 1000 then 0 else 1 : Int) = 0 := by (repeat' split) <;> omega
          exact q_uret (ws := []) hx hb hr hlocks hS (Or.inl ⟨hER, hP⟩) (fun _ => by rw [hsu]; congr 1; omega) (Nat.le_of_ble_eq_true rfl) (Nat.le_of_ble_eq_true rfl) dX6_clashes_76
        · skip
          refine q_iconst hx hb dX6_clashes_30 ?_
          refine lv_istore (lv' := [(4, .int (iI (0))), (0, .ref a), (1, .int (iI (y))), (2, .int (iI (su))), (3, .int (iI (k)))]) hx hb dX6_clashes_31 hl (by decide) rfl (fun ls hl => ?_)
          have key_33 : ∀ (fu : Nat) (k2 : Int) (su1 : Int), 0 ≤ k2 ∧ k2 ≤ k → su1 = m_pairs (fun i => m_F σ T i y) k.toNat + m_same (fun i => m_F σ T i y) (m_F σ T k.toNat y) k2.toNat → (((k - k2).toNat : Int)) < (fu : Int) → ∀ (H : Heap) (locs : List Loc), va_P D vwCl ([(a, .inr (8, [.int (iI (0)), .int (iI (σ 0)), .int (iI (σ 1)), .int (iI (σ 2)), .int (iI (σ 3)), .int (iI (σ 4)), .int (iI (σ 5)), .int (iI (σ 6)), .ref ta, .int (iI (σ 7)), .ref pa, .int (iI (σ 9)), .int (iI (σ 10))])), (ta, .inl (cI, 40, .inl (fun q9 => iI (T q9)))), (pa, .inl (cI, 110, .inl (fun q9 => iI (P q9))))]) H → va_D (va_A (WMo cI a ta pa th σ T P) sz) ([(a, .inr (8, [.int (iI (0)), .int (iI (σ 0)), .int (iI (σ 1)), .int (iI (σ 2)), .int (iI (σ 3)), .int (iI (σ 4)), .int (iI (σ 5)), .int (iI (σ 6)), .ref ta, .int (iI (σ 7)), .ref pa, .int (iI (σ 9)), .int (iI (σ 10))])), (ta, .inl (cI, 40, .inl (fun q9 => iI (T q9)))), (pa, .inl (cI, 110, .inl (fun q9 => iI (P q9))))]) → va_S (va_A (WMo cI a ta pa th σ T P) sz) s.heap H locs → ∀ ls : Array Slot, lv_has ls 5 [(0, .ref a), (1, .int (iI (y))), (2, .int (iI (su1))), (3, .int (iI (k))), (4, .int (iI (k2)))] → W p l e { frames := 4, cells := 0, slots := 0, locals := 92 } s m args below meth c H locs 0 0 (MQ below (va_Qi (fun (r : Int32) (_ : Unit) => (if 0 ≤ y ∧ y < 1000 then 0 else 1 : Int) = 0 → r = iI (m_pairs (fun i => m_F σ T i y) (σ 6).toNat)) (fun _ t => ((if 0 ≤ y ∧ y < 1000 then 0 else 1 : Int) = 0 ∧ va_P D vwCl (WMo cI a ta pa 0 (σ) (T) (P)) t.heap) ∨ ((if 0 ≤ y ∧ y < 1000 then 0 else 1 : Int) ≠ 0 ∧ va_P D vwCl (WMo cI a ta pa (if 0 ≤ y ∧ y < 1000 then 0 else 1) σ T P) t.heap)) (va_A (WMo cI a ta pa th σ T P) sz)) args s 0 0 (va_A (WMo cI a ta pa th σ T P) sz)) (F0 m 33 ls []) := by
            intro fu
            induction fu with
            | zero => intro k2 su1 hk2 hsu2 hm_33 H locs hP hD hS ls hl; exact absurd hm_33 (by omega)
            | succ fu ih_33 =>
              intro k2 su1 hk2 hsu2 hm_33 H locs hP hD hS ls hl
              refine lv_iload hx hb dX6_clashes_33 (lv_at hl 4 rfl) ?_
              refine lv_iload_n hx hb dX6_clashes_35 rfl (lv_at hl 3 rfl) ?_
              refine q_icmp_ge (tgt := 69) hx hb dX6_clashes_36 (by decide) (by omega) (by omega) (fun c_3 => ?_) (fun c_3 => ?_)
              · skip
                refine q_iinc (k := 3) (lv' := [(3, .int (iI (k + 1))), (0, .ref a), (1, .int (iI (y))), (2, .int (iI (su1))), (4, .int (iI (k2)))]) hx hb dX6_clashes_69 hl rfl (by decide) rfl (fun ls hl => ?_)
                refine lv_goto (tgt := 22) hx hb dX6_clashes_72 (by decide) ?_
                have hst := m_pairs_step (fun i => m_F σ T i y) hk.1
                rw [show k2.toNat = k.toNat by omega] at hsu2
                exact ih_22 _ _ (by omega) (by rw [hst, hsu2]) (by omega) _ _ (hP) (hD) hS _ (lv_sub hl [1, 2, 3, 0] rfl)
              · skip
                refine lv_iload_n hx hb dX6_clashes_39 rfl (lv_at hl 2 rfl) ?_
                refine lv_aload_n hx hb dX6_clashes_40 rfl (lv_at hl 0 rfl) ?_
                refine lv_iload_n hx hb dX6_clashes_41 rfl (lv_at hl 3 rfl) ?_
                refine lv_iload_n hx hb dX6_clashes_42 rfl (lv_at hl 1 rfl) ?_
                refine q_callV (fr := 3) (lo := 69) (nL := 5) (Pic := PicM D cI a ta pa (0) σ T (P)) (As := [.int (iI (k)), .int (iI (y))]) (rest := [.int (iI (su1))]) ⟨hx, hb, hml, hown, hts⟩ (c_feastDayM l D cI cO cL a ta pa (0) σ T (P) hW hS0 (k) (y) (by omega) (by omega)) (cwV 2 hts gX6_clashes_X6_feastDay rfl rfl rfl (by decide +kernel) ⟨Nat.le_of_ble_eq_true rfl, Nat.le_of_ble_eq_true rfl⟩) (ob_recv (hP 0 _ rfl) hK rfl) hP hK rfl hl.1 rfl (Nat.le_of_ble_eq_true rfl) dX6_clashes_43 (Nat.zero_le _) (Nat.zero_le _) ?_
                have hF43 := m_F_in hW (i := Int.toNat (k)) (by omega) (y := y) (by omega)
                refine lv_aload_n hx hb dX6_clashes_46 rfl (lv_at hl 0 rfl) ?_
                refine lv_iload hx hb dX6_clashes_47 (lv_at hl 4 rfl) ?_
                refine lv_iload_n hx hb dX6_clashes_49 rfl (lv_at hl 1 rfl) ?_
                refine q_callV (fr := 3) (lo := 69) (nL := 5) (Pic := PicM D cI a ta pa (0) σ T (P)) (As := [.int (iI (k2)), .int (iI (y))]) (rest := [.int (iI (m_F σ T (Int.toNat (k)) (y))), .int (iI (su1))]) ⟨hx, hb, hml, hown, hts⟩ (c_feastDayM l D cI cO cL a ta pa (0) σ T (P) hW hS0 (k2) (y) (by omega) (by omega)) (cwV 2 hts gX6_clashes_X6_feastDay rfl rfl rfl (by decide +kernel) ⟨Nat.le_of_ble_eq_true rfl, Nat.le_of_ble_eq_true rfl⟩) (ob_recv (hP 0 _ rfl) hK rfl) hP hK rfl hl.1 rfl (Nat.le_of_ble_eq_true rfl) dX6_clashes_50 (Nat.zero_le _) (Nat.zero_le _) ?_
                have hF50 := m_F_in hW (i := Int.toNat (k2)) (by omega) (y := y) (by omega)
                refine q_icmp_ne (tgt := 60) hx hb dX6_clashes_53 (by decide) (by omega) (by omega) (fun c_4 => ?_) (fun c_4 => ?_)
                · skip
                  refine q_iconst hx hb dX6_clashes_60 ?_
                  refine q_iadd hx hb dX6_clashes_61 ?_
                  refine q_top (fun su2 esu2 => ?_)
                  refine lv_istore_n (lv' := [(2, .int (iI (su2))), (0, .ref a), (1, .int (iI (y))), (3, .int (iI (k))), (4, .int (iI (k2)))]) hx hb dX6_clashes_62 rfl hl (by decide) rfl (fun ls hl => ?_)
                  refine q_iinc (k := 4) (lv' := [(4, .int (iI (k2 + 1))), (2, .int (iI (su2))), (0, .ref a), (1, .int (iI (y))), (3, .int (iI (k)))]) hx hb dX6_clashes_63 hl rfl (by decide) rfl (fun ls hl => ?_)
                  refine lv_goto (tgt := 33) hx hb dX6_clashes_66 (by decide) ?_
                  have hst2 := m_same_step (fun i => m_F σ T i y) (m_F σ T k.toNat y) hk2.1
                  exact ih_33 _ _ (by omega) (by rw [hst2]; (repeat' split) <;> omega) (by omega) _ _ (hP) (hD) hS _ (lv_sub hl [2, 3, 1, 4, 0] rfl)
                · skip
                  refine q_iconst hx hb dX6_clashes_56 ?_
                  refine lv_goto (tgt := 61) hx hb dX6_clashes_57 (by decide) ?_
                  refine q_iadd hx hb dX6_clashes_61 ?_
                  refine q_top (fun su2 esu2 => ?_)
                  refine lv_istore_n (lv' := [(2, .int (iI (su2))), (0, .ref a), (1, .int (iI (y))), (3, .int (iI (k))), (4, .int (iI (k2)))]) hx hb dX6_clashes_62 rfl hl (by decide) rfl (fun ls hl => ?_)
                  refine q_iinc (k := 4) (lv' := [(4, .int (iI (k2 + 1))), (2, .int (iI (su2))), (0, .ref a), (1, .int (iI (y))), (3, .int (iI (k)))]) hx hb dX6_clashes_63 hl rfl (by decide) rfl (fun ls hl => ?_)
                  refine lv_goto (tgt := 33) hx hb dX6_clashes_66 (by decide) ?_
                  have hst2 := m_same_step (fun i => m_F σ T i y) (m_F σ T k.toNat y) hk2.1
                  exact ih_33 _ _ (by omega) (by rw [hst2]; (repeat' split) <;> omega) (by omega) _ _ (hP) (hD) hS _ (lv_sub hl [2, 3, 1, 4, 0] rfl)
          exact key_33 (k.toNat + 1) _ _ (by omega) (by rw [hsu]; show _ = _ + (0 : Int); omega) (by omega) _ _ (hP) (hD) hS _ (lv_sub hl [1, 2, 3, 4, 0] rfl)
    exact key_22 ((σ 6).toNat + 1) _ _ (by omega) (by rfl) (by omega) _ _ (hP) (hD) hS _ (lv_sub hl [2, 3, 1, 0] rfl)
  · skip
    refine lv_aload_n hx hb dX6_clashes_12 rfl (lv_at hl 0 rfl) ?_
    refine q_iconst hx hb dX6_clashes_13 ?_
    have hPc := hP.sub (ws' := [(a, .inr (8, [.int (iI (0)), .int (iI (σ 0)), .int (iI (σ 1)), .int (iI (σ 2)), .int (iI (σ 3)), .int (iI (σ 4)), .int (iI (σ 5)), .int (iI (σ 6)), .ref ta, .int (iI (σ 7)), .ref pa, .int (iI (σ 9)), .int (iI (σ 10))]))]) [0] rfl
    have hDc := hD.sub (ws' := [(a, .inr (8, [.int (iI (0)), .int (iI (σ 0)), .int (iI (σ 1)), .int (iI (σ 2)), .int (iI (σ 3)), .int (iI (σ 4)), .int (iI (σ 5)), .int (iI (σ 6)), .ref ta, .int (iI (σ 7)), .ref pa, .int (iI (σ 9)), .int (iI (σ 10))]))]) [0] (by decide) rfl
    have hFc := va_free (wc := [(a, .inr (8, [.int (iI (0)), .int (iI (σ 0)), .int (iI (σ 1)), .int (iI (σ 2)), .int (iI (σ 3)), .int (iI (σ 4)), .int (iI (σ 5)), .int (iI (σ 6)), .ref ta, .int (iI (σ 7)), .ref pa, .int (iI (σ 9)), .int (iI (σ 10))]))]) hD hS hA [0] rfl
    refine q_callU (fr := 0) (lo := 0) (nL := 5) (As := [.int (iI (1))]) (rest := []) ⟨hx, hb, hml, hown, hts⟩ (u_fail l D _ _ a (0) (1) _ _ _ _ _ _ _ _ _ _ _ _) (cwV 1 hts gX6_clashes_X6_fail rfl rfl rfl (by decide +kernel) ⟨Nat.le_of_ble_eq_true rfl, Nat.le_of_ble_eq_true rfl⟩) (ob_recv (hP 0 _ rfl) hK rfl) hPc (hDc.weaken (fun _ _ _ _ => trivial)) hFc hS hK rfl hl.1 rfl (Nat.le_of_ble_eq_true rfl) dX6_clashes_14 (Nat.le_of_ble_eq_true rfl) (Nat.le_of_ble_eq_true rfl) ?_
    intro r H1 locs1 hr1 hP1 hk1 hS1
    have hr2 := hr1 rfl
    subst hr2
    have hP1 := (hP1.resolve_right (fun z => z.1 rfl)).2
    have hP2 : va_P D vwCl ([(a, .inr (8, [.int (iI (1)), .int (iI (σ 0)), .int (iI (σ 1)), .int (iI (σ 2)), .int (iI (σ 3)), .int (iI (σ 4)), .int (iI (σ 5)), .int (iI (σ 6)), .ref ta, .int (iI (σ 7)), .ref pa, .int (iI (σ 9)), .int (iI (σ 10))])), (ta, .inl (cI, 40, .inl (fun q9 => iI (T q9)))), (pa, .inl (cI, 110, .inl (fun q9 => iI (P q9))))]) H1 := va_upd (A0 := fun _ => True) hP hk1 hP1 (by
      intro q hq
      simp only [List.mem_cons, List.not_mem_nil, or_false] at hq
      rcases hq with rfl | rfl | rfl
      · exact Or.inl (List.mem_of_getElem? (i := 0) rfl)
      · refine Or.inr ⟨List.mem_of_getElem? (i := 1) rfl, fun z hz => ?_⟩
        simp only [List.mem_cons, List.not_mem_nil, or_false] at hz
        rcases hz with rfl
        · exact vaD_ne hD (i := 0) (j := 1) rfl rfl (by decide)
      · refine Or.inr ⟨List.mem_of_getElem? (i := 2) rfl, fun z hz => ?_⟩
        simp only [List.mem_cons, List.not_mem_nil, or_false] at hz
        rcases hz with rfl
        · exact vaD_ne hD (i := 0) (j := 2) rfl rfl (by decide))
    have hD2 : va_D (va_A (WMo cI a ta pa th σ T P) sz) ([(a, .inr (8, [.int (iI (1)), .int (iI (σ 0)), .int (iI (σ 1)), .int (iI (σ 2)), .int (iI (σ 3)), .int (iI (σ 4)), .int (iI (σ 5)), .int (iI (σ 6)), .ref ta, .int (iI (σ 7)), .ref pa, .int (iI (σ 9)), .int (iI (σ 10))])), (ta, .inl (cI, 40, .inl (fun q9 => iI (T q9)))), (pa, .inl (cI, 110, .inl (fun q9 => iI (P q9))))]) := vaD_addr hD rfl
    clear hP hD hS hPc hDc hFc hP1 hk1
    have hP := hP2; have hD := hD2; have hS := hS1
    clear hP2 hD2 hS1
    generalize H1 = H at hP hS ⊢
    generalize locs1 = locs at hS ⊢
    have hER : (if 0 ≤ y ∧ y < 1000 then 0 else 1 : Int) = 1 := by (repeat' split) <;> omega
    exact q_uret (ws := []) hx hb hr hlocks hS (Or.inr ⟨by rw [hER]; decide, by rw [hER]; exact hP⟩) (fun h => absurd (hER.symm.trans h) (by decide)) (Nat.le_of_ble_eq_true rfl) (Nat.le_of_ble_eq_true rfl) dX6_clashes_17
set_option maxHeartbeats 4000000 in
set_option maxRecDepth 100000 in
theorem u_again (l : Launch) (D : va_G) (sz : Nat) (cI cO cL : ClassId) (a ta pa : Nat) (th : Int) (σ T P : Nat → Int) (hW : WF σ T) (hS0 : WS σ P) (j y : Int) (hjr : -2147483648 ≤ j ∧ j < 2147483648) (hyr : -2147483648 ≤ y ∧ y < 2147483648) : MU l yX6_again wsX6_again 4 92 0 0 D (ty3 cI cO cL) sz (WMo cI a ta pa th σ T P) [.ref a, .int (iI (j)), .int (iI (y))] (if 0 ≤ j ∧ j < σ 6 then (if 0 ≤ y ∧ y < 1000 then 0 else 2) else 1) (m_again σ T j.toNat y) (WMo cI a ta pa 0 (σ) (T) (P)) (WMo cI a ta pa (if 0 ≤ j ∧ j < σ 6 then (if 0 ≤ y ∧ y < 1000 then 0 else 2) else 1) σ T P) := by
  refine MU_of (cc := cX6_again) (maxL := 5) (ret := (some .int)) (by decide) rfl (Nat.le_of_ble_eq_true rfl) ?_
  intro p e s m args below meth c ls hx hb hr hlocks hml hown hts hsz hP hK hD hS hA hl
  have hl : lv_has ls 5 [(0, .ref a), (1, .int (iI (j))), (2, .int (iI (y)))] := hl
  have hin_X6 : ∀ w ∈ u_ws RX6 TX6 13, w ∈ wsX6_again := (fun w h => List.mem_cons_of_mem _ (List.mem_append_right _ h))
  have hP : va_P D vwCl ([(a, .inr (8, [.int (iI (th)), .int (iI (σ 0)), .int (iI (σ 1)), .int (iI (σ 2)), .int (iI (σ 3)), .int (iI (σ 4)), .int (iI (σ 5)), .int (iI (σ 6)), .ref ta, .int (iI (σ 7)), .ref pa, .int (iI (σ 9)), .int (iI (σ 10))])), (ta, .inl (cI, 40, .inl (fun q9 => iI (T q9)))), (pa, .inl (cI, 110, .inl (fun q9 => iI (P q9))))]) s.heap := hP
  have hD : va_D (va_A (WMo cI a ta pa th σ T P) sz) ([(a, .inr (8, [.int (iI (th)), .int (iI (σ 0)), .int (iI (σ 1)), .int (iI (σ 2)), .int (iI (σ 3)), .int (iI (σ 4)), .int (iI (σ 5)), .int (iI (σ 6)), .ref ta, .int (iI (σ 7)), .ref pa, .int (iI (σ 9)), .int (iI (σ 10))])), (ta, .inl (cI, 40, .inl (fun q9 => iI (T q9)))), (pa, .inl (cI, 110, .inl (fun q9 => iI (P q9))))]) := hD
  obtain ⟨w0, w1, w2, w3, w4, w5, w6, w7, w8⟩ := id hW
  refine lv_aload_n hx hb dX6_again_0 rfl (lv_at hl 0 rfl) ?_
  refine q_iconst hx hb dX6_again_1 ?_
  refine va_put (D := D) (ci := 8) (v := .int (iI (0))) (ty := .int) (C := RX6) (T := TX6) (N := 13) hx hb hts hin_X6 tyX6 tyX6_ok nmX6 hown hK hP hD hS 0 rfl rfl 0 (by decide) (hts (.fieldLink RX6 30 "AlmanacHouseModel" "thrown" "I") (List.mem_of_getElem? (i := 1) rfl)) (fun _ h9 => h9) rfl (by decide +kernel) rfl rfl (Nat.le_of_ble_eq_true rfl) dX6_again_2 (fun H locs hP hD hS => ?_)
  have hP : va_P D vwCl ([(a, .inr (8, [.int (iI (0)), .int (iI (σ 0)), .int (iI (σ 1)), .int (iI (σ 2)), .int (iI (σ 3)), .int (iI (σ 4)), .int (iI (σ 5)), .int (iI (σ 6)), .ref ta, .int (iI (σ 7)), .ref pa, .int (iI (σ 9)), .int (iI (σ 10))])), (ta, .inl (cI, 40, .inl (fun q9 => iI (T q9)))), (pa, .inl (cI, 110, .inl (fun q9 => iI (P q9))))]) H := hP
  have hD : va_D (va_A (WMo cI a ta pa th σ T P) sz) ([(a, .inr (8, [.int (iI (0)), .int (iI (σ 0)), .int (iI (σ 1)), .int (iI (σ 2)), .int (iI (σ 3)), .int (iI (σ 4)), .int (iI (σ 5)), .int (iI (σ 6)), .ref ta, .int (iI (σ 7)), .ref pa, .int (iI (σ 9)), .int (iI (σ 10))])), (ta, .inl (cI, 40, .inl (fun q9 => iI (T q9)))), (pa, .inl (cI, 110, .inl (fun q9 => iI (P q9))))]) := hD
  refine lv_aload_n hx hb dX6_again_5 rfl (lv_at hl 0 rfl) ?_
  refine lv_iload_n hx hb dX6_again_6 rfl (lv_at hl 1 rfl) ?_
  refine q_callV (fr := 1) (lo := 22) (nL := 5) (Pic := PicM D cI a ta pa (0) σ T (P)) (As := [.int (iI (j))]) (rest := []) ⟨hx, hb, hml, hown, hts⟩ (c_isFeast l D cI cO cL a ta pa (0) σ T (P) hW hS0 (j) (by omega)) (cwV 1 hts gX6_again_X6_isFeast rfl rfl rfl (by decide +kernel) ⟨Nat.le_of_ble_eq_true rfl, Nat.le_of_ble_eq_true rfl⟩) (ob_recv (hP 0 _ rfl) hK rfl) hP hK rfl hl.1 rfl (Nat.le_of_ble_eq_true rfl) dX6_again_7 (Nat.zero_le _) (Nat.zero_le _) ?_
  refine q_pif_ne (tgt := 19) hx hb dX6_again_10 (by decide) (fun c_1 => ?_) (fun c_1 => ?_)
  · skip
    refine lv_iload_n hx hb dX6_again_19 rfl (lv_at hl 2 rfl) ?_
    refine q_callS (fr := 1) (lo := 22) (nL := 5) (Pic := fun _ => True) (As := [.int (iI (y))]) (rest := []) ⟨hx, hb, hml, hown, hts⟩ (c_isYearM l D (ty3 cI cO cL) (y) (by omega)) (va_cwS 1 hts gX6_again_X6_isYear rfl rfl rfl (by decide +kernel) ⟨Nat.le_of_ble_eq_true rfl, Nat.le_of_ble_eq_true rfl⟩) trivial hK rfl hl.1 rfl (Nat.le_of_ble_eq_true rfl) dX6_again_20 (Nat.zero_le _) (Nat.zero_le _) ?_
    refine q_pif_ne (tgt := 32) hx hb dX6_again_23 (by decide) (fun c_2 => ?_) (fun c_2 => ?_)
    · skip
      refine lv_aload_n hx hb dX6_again_32 rfl (lv_at hl 0 rfl) ?_
      refine lv_iload_n hx hb dX6_again_33 rfl (lv_at hl 1 rfl) ?_
      refine lv_iload_n hx hb dX6_again_34 rfl (lv_at hl 2 rfl) ?_
      refine q_callV (fr := 3) (lo := 69) (nL := 5) (Pic := PicM D cI a ta pa (0) σ T (P)) (As := [.int (iI (j)), .int (iI (y))]) (rest := []) ⟨hx, hb, hml, hown, hts⟩ (c_feastDayM l D cI cO cL a ta pa (0) σ T (P) hW hS0 (j) (y) (by omega) (by omega)) (cwV 2 hts gX6_again_X6_feastDay rfl rfl rfl (by decide +kernel) ⟨Nat.le_of_ble_eq_true rfl, Nat.le_of_ble_eq_true rfl⟩) (ob_recv (hP 0 _ rfl) hK rfl) hP hK rfl hl.1 rfl (Nat.le_of_ble_eq_true rfl) dX6_again_35 (Nat.zero_le _) (Nat.zero_le _) ?_
      have hF35 := m_F_in hW (i := Int.toNat (j)) (by omega) (y := y) (by omega)
      refine lv_aload_n hx hb dX6_again_38 rfl (lv_at hl 0 rfl) ?_
      refine lv_iload_n hx hb dX6_again_39 rfl (lv_at hl 2 rfl) ?_
      refine q_callV (fr := 1) (lo := 21) (nL := 5) (Pic := PicM D cI a ta pa (0) σ T (P)) (As := [.int (iI (y))]) (rest := [.int (iI (m_F σ T (Int.toNat (j)) (y)))]) ⟨hx, hb, hml, hown, hts⟩ (c_begins l D cI cO cL a ta pa (0) σ T (P) hW hS0 (y) (by omega)) (cwV 1 hts gX6_again_X6_begins rfl rfl rfl (by decide +kernel) ⟨Nat.le_of_ble_eq_true rfl, Nat.le_of_ble_eq_true rfl⟩) (ob_recv (hP 0 _ rfl) hK rfl) hP hK rfl hl.1 rfl (Nat.le_of_ble_eq_true rfl) dX6_again_40 (Nat.zero_le _) (Nat.zero_le _) ?_
      have hfd40 := m_fd_le (cy := σ 0) (lq := σ 1) (y := (y)) w0.1 w1 (by omega)
      refine q_isub hx hb dX6_again_43 ?_
      refine q_top (fun bh ebh => ?_)
      refine lv_istore_n (lv' := [(3, .int (iI (bh))), (0, .ref a), (1, .int (iI (j))), (2, .int (iI (y)))]) hx hb dX6_again_44 rfl hl (by decide) rfl (fun ls hl => ?_)
      refine lv_iload_n hx hb dX6_again_45 rfl (lv_at hl 3 rfl) ?_
      refine q_iconst hx hb dX6_again_46 ?_
      refine q_iadd hx hb dX6_again_47 ?_
      refine q_top (fun k0 ek0 => ?_)
      obtain ⟨en, een⟩ : ∃ en : Int, en = if y + 101 < 1000 then y + 101 else 1000 := ⟨_, rfl⟩
      refine lv_istore (lv' := [(4, .int (iI (k0))), (3, .int (iI (bh))), (0, .ref a), (1, .int (iI (j))), (2, .int (iI (y)))]) hx hb dX6_again_48 hl (by decide) rfl (fun ls hl => ?_)
      have key_50 : ∀ (fu : Nat) (k : Int), y < k ∧ (k ≤ en ∨ k = k0) → m_ag σ T j.toNat bh (en - k).toNat k = m_again σ T j.toNat y → (((en - k).toNat : Int)) < (fu : Int) → ∀ (H : Heap) (locs : List Loc), va_P D vwCl ([(a, .inr (8, [.int (iI (0)), .int (iI (σ 0)), .int (iI (σ 1)), .int (iI (σ 2)), .int (iI (σ 3)), .int (iI (σ 4)), .int (iI (σ 5)), .int (iI (σ 6)), .ref ta, .int (iI (σ 7)), .ref pa, .int (iI (σ 9)), .int (iI (σ 10))])), (ta, .inl (cI, 40, .inl (fun q9 => iI (T q9)))), (pa, .inl (cI, 110, .inl (fun q9 => iI (P q9))))]) H → va_D (va_A (WMo cI a ta pa th σ T P) sz) ([(a, .inr (8, [.int (iI (0)), .int (iI (σ 0)), .int (iI (σ 1)), .int (iI (σ 2)), .int (iI (σ 3)), .int (iI (σ 4)), .int (iI (σ 5)), .int (iI (σ 6)), .ref ta, .int (iI (σ 7)), .ref pa, .int (iI (σ 9)), .int (iI (σ 10))])), (ta, .inl (cI, 40, .inl (fun q9 => iI (T q9)))), (pa, .inl (cI, 110, .inl (fun q9 => iI (P q9))))]) → va_S (va_A (WMo cI a ta pa th σ T P) sz) s.heap H locs → ∀ ls : Array Slot, lv_has ls 5 [(0, .ref a), (1, .int (iI (j))), (2, .int (iI (y))), (3, .int (iI (bh))), (4, .int (iI (k)))] → W p l e { frames := 4, cells := 0, slots := 0, locals := 92 } s m args below meth c H locs 0 0 (MQ below (va_Qi (fun (r : Int32) (_ : Unit) => (if 0 ≤ j ∧ j < σ 6 then (if 0 ≤ y ∧ y < 1000 then 0 else 2) else 1 : Int) = 0 → r = iI (m_again σ T j.toNat y)) (fun _ t => ((if 0 ≤ j ∧ j < σ 6 then (if 0 ≤ y ∧ y < 1000 then 0 else 2) else 1 : Int) = 0 ∧ va_P D vwCl (WMo cI a ta pa 0 (σ) (T) (P)) t.heap) ∨ ((if 0 ≤ j ∧ j < σ 6 then (if 0 ≤ y ∧ y < 1000 then 0 else 2) else 1 : Int) ≠ 0 ∧ va_P D vwCl (WMo cI a ta pa (if 0 ≤ j ∧ j < σ 6 then (if 0 ≤ y ∧ y < 1000 then 0 else 2) else 1) σ T P) t.heap)) (va_A (WMo cI a ta pa th σ T P) sz)) args s 0 0 (va_A (WMo cI a ta pa th σ T P) sz)) (F0 m 50 ls []) := by
        intro fu
        induction fu with
        | zero => intro k hk hag hm_50 H locs hP hD hS ls hl; exact absurd hm_50 (by omega)
        | succ fu ih_50 =>
          intro k hk hag hm_50 H locs hP hD hS ls hl
          have hen : k ≤ (if 999 < y + 100 then (999 : Int) else y + 100) ↔ k < en := by rw [een]; (repeat' split) <;> omega
          refine lv_iload hx hb dX6_again_50 (lv_at hl 4 rfl) ?_
          refine lv_iload_n hx hb dX6_again_52 rfl (lv_at hl 2 rfl) ?_
          refine q_bipush hx hb dX6_again_53 (by decide) ?_
          refine q_iadd hx hb dX6_again_55 ?_
          refine q_sipush hx hb dX6_again_56 (by decide) ?_
          refine q_mmin hx hb (hml.trans hl.1.symm) hown (hts (.methodLink RX6 116 Lib.Math.min.name) (List.mem_of_getElem? (i := 2) rfl)) (hts (.static Lib.Math.min.name) (List.mem_of_getElem? (i := 3) rfl)) (hts (.initialized "java/lang/Math") (List.mem_of_getElem? (i := 4) rfl)) (hts (.code Lib.Math.min.name Lib.Math.min.code 2 (some .int)) (List.mem_of_getElem? (i := 5) rfl)) (by omega) (by omega) (Nat.le_of_ble_eq_true rfl) (Nat.le_of_ble_eq_true rfl) (Nat.zero_le _) (Nat.zero_le _) dX6_again_59 ?_
          refine q_icmp_gt (tgt := 92) hx hb dX6_again_62 (by decide) (by omega) (by split <;> omega) (fun c_3 => ?_) (fun c_3 => ?_)
          · skip
            refine q_iconst hx hb dX6_again_92 ?_
            have hER : (if 0 ≤ j ∧ j < σ 6 then (if 0 ≤ y ∧ y < 1000 then 0 else 2) else 1 : Int) = 0 := by (repeat' split) <;> omega
            exact q_uret (ws := []) hx hb hr hlocks hS (Or.inl ⟨hER, hP⟩) (fun _ => by rw [← hag, m_ag_end (by omega)]) (Nat.le_of_ble_eq_true rfl) (Nat.le_of_ble_eq_true rfl) dX6_again_93
          · skip
            refine lv_aload_n hx hb dX6_again_65 rfl (lv_at hl 0 rfl) ?_
            refine lv_iload_n hx hb dX6_again_66 rfl (lv_at hl 1 rfl) ?_
            refine lv_iload hx hb dX6_again_67 (lv_at hl 4 rfl) ?_
            refine q_callV (fr := 3) (lo := 69) (nL := 5) (Pic := PicM D cI a ta pa (0) σ T (P)) (As := [.int (iI (j)), .int (iI (k))]) (rest := []) ⟨hx, hb, hml, hown, hts⟩ (c_feastDayM l D cI cO cL a ta pa (0) σ T (P) hW hS0 (j) (k) (by omega) (by omega)) (cwV 2 hts gX6_again_X6_feastDay rfl rfl rfl (by decide +kernel) ⟨Nat.le_of_ble_eq_true rfl, Nat.le_of_ble_eq_true rfl⟩) (ob_recv (hP 0 _ rfl) hK rfl) hP hK rfl hl.1 rfl (Nat.le_of_ble_eq_true rfl) dX6_again_69 (Nat.zero_le _) (Nat.zero_le _) ?_
            have hF69 := m_F_in hW (i := Int.toNat (j)) (by omega) (y := k) (by omega)
            refine lv_aload_n hx hb dX6_again_72 rfl (lv_at hl 0 rfl) ?_
            refine lv_iload hx hb dX6_again_73 (lv_at hl 4 rfl) ?_
            refine q_callV (fr := 1) (lo := 21) (nL := 5) (Pic := PicM D cI a ta pa (0) σ T (P)) (As := [.int (iI (k))]) (rest := [.int (iI (m_F σ T (Int.toNat (j)) (k)))]) ⟨hx, hb, hml, hown, hts⟩ (c_begins l D cI cO cL a ta pa (0) σ T (P) hW hS0 (k) (by omega)) (cwV 1 hts gX6_again_X6_begins rfl rfl rfl (by decide +kernel) ⟨Nat.le_of_ble_eq_true rfl, Nat.le_of_ble_eq_true rfl⟩) (ob_recv (hP 0 _ rfl) hK rfl) hP hK rfl hl.1 rfl (Nat.le_of_ble_eq_true rfl) dX6_again_75 (Nat.zero_le _) (Nat.zero_le _) ?_
            have hfd75 := m_fd_le (cy := σ 0) (lq := σ 1) (y := (k)) w0.1 w1 (by omega)
            refine q_isub hx hb dX6_again_78 ?_
            refine lv_iload_n hx hb dX6_again_79 rfl (lv_at hl 3 rfl) ?_
            refine q_icmp_ne (tgt := 86) hx hb dX6_again_80 (by decide) (by omega) (by omega) (fun c_4 => ?_) (fun c_4 => ?_)
            · skip
              refine q_iinc (k := 4) (lv' := [(4, .int (iI (k + 1))), (0, .ref a), (1, .int (iI (j))), (2, .int (iI (y))), (3, .int (iI (bh)))]) hx hb dX6_again_86 hl rfl (by decide) rfl (fun ls hl => ?_)
              refine lv_goto (tgt := 50) hx hb dX6_again_89 (by decide) ?_
              exact ih_50 _ (by omega) (by rw [← hag, m_ag_step (k := k) (en := en) (by omega), if_neg (by omega)]) (by omega) _ _ (hP) (hD) hS _ (lv_sub hl [1, 2, 3, 4, 0] rfl)
            · skip
              refine lv_iload hx hb dX6_again_83 (lv_at hl 4 rfl) ?_
              have hER : (if 0 ≤ j ∧ j < σ 6 then (if 0 ≤ y ∧ y < 1000 then 0 else 2) else 1 : Int) = 0 := by (repeat' split) <;> omega
              exact q_uret (ws := []) hx hb hr hlocks hS (Or.inl ⟨hER, hP⟩) (fun _ => by rw [← hag, m_ag_step (k := k) (en := en) (by omega), if_pos (by omega)]) (Nat.le_of_ble_eq_true rfl) (Nat.le_of_ble_eq_true rfl) dX6_again_85
      exact key_50 ((en - k0).toNat + 1) _ (by omega) (by unfold m_again; rw [ebh, een, ek0]) (by omega) _ _ (hP) (hD) hS _ (lv_sub hl [2, 3, 4, 1, 0] rfl)
    · skip
      refine lv_aload_n hx hb dX6_again_26 rfl (lv_at hl 0 rfl) ?_
      refine q_iconst hx hb dX6_again_27 ?_
      have hPc := hP.sub (ws' := [(a, .inr (8, [.int (iI (0)), .int (iI (σ 0)), .int (iI (σ 1)), .int (iI (σ 2)), .int (iI (σ 3)), .int (iI (σ 4)), .int (iI (σ 5)), .int (iI (σ 6)), .ref ta, .int (iI (σ 7)), .ref pa, .int (iI (σ 9)), .int (iI (σ 10))]))]) [0] rfl
      have hDc := hD.sub (ws' := [(a, .inr (8, [.int (iI (0)), .int (iI (σ 0)), .int (iI (σ 1)), .int (iI (σ 2)), .int (iI (σ 3)), .int (iI (σ 4)), .int (iI (σ 5)), .int (iI (σ 6)), .ref ta, .int (iI (σ 7)), .ref pa, .int (iI (σ 9)), .int (iI (σ 10))]))]) [0] (by decide) rfl
      have hFc := va_free (wc := [(a, .inr (8, [.int (iI (0)), .int (iI (σ 0)), .int (iI (σ 1)), .int (iI (σ 2)), .int (iI (σ 3)), .int (iI (σ 4)), .int (iI (σ 5)), .int (iI (σ 6)), .ref ta, .int (iI (σ 7)), .ref pa, .int (iI (σ 9)), .int (iI (σ 10))]))]) hD hS hA [0] rfl
      refine q_callU (fr := 0) (lo := 0) (nL := 5) (As := [.int (iI (2))]) (rest := []) ⟨hx, hb, hml, hown, hts⟩ (u_fail l D _ _ a (0) (2) _ _ _ _ _ _ _ _ _ _ _ _) (cwV 1 hts gX6_again_X6_fail rfl rfl rfl (by decide +kernel) ⟨Nat.le_of_ble_eq_true rfl, Nat.le_of_ble_eq_true rfl⟩) (ob_recv (hP 0 _ rfl) hK rfl) hPc (hDc.weaken (fun _ _ _ _ => trivial)) hFc hS hK rfl hl.1 rfl (Nat.le_of_ble_eq_true rfl) dX6_again_28 (Nat.le_of_ble_eq_true rfl) (Nat.le_of_ble_eq_true rfl) ?_
      intro r H1 locs1 hr1 hP1 hk1 hS1
      have hr2 := hr1 rfl
      subst hr2
      have hP1 := (hP1.resolve_right (fun z => z.1 rfl)).2
      have hP2 : va_P D vwCl ([(a, .inr (8, [.int (iI (2)), .int (iI (σ 0)), .int (iI (σ 1)), .int (iI (σ 2)), .int (iI (σ 3)), .int (iI (σ 4)), .int (iI (σ 5)), .int (iI (σ 6)), .ref ta, .int (iI (σ 7)), .ref pa, .int (iI (σ 9)), .int (iI (σ 10))])), (ta, .inl (cI, 40, .inl (fun q9 => iI (T q9)))), (pa, .inl (cI, 110, .inl (fun q9 => iI (P q9))))]) H1 := va_upd (A0 := fun _ => True) hP hk1 hP1 (by
        intro q hq
        simp only [List.mem_cons, List.not_mem_nil, or_false] at hq
        rcases hq with rfl | rfl | rfl
        · exact Or.inl (List.mem_of_getElem? (i := 0) rfl)
        · refine Or.inr ⟨List.mem_of_getElem? (i := 1) rfl, fun z hz => ?_⟩
          simp only [List.mem_cons, List.not_mem_nil, or_false] at hz
          rcases hz with rfl
          · exact vaD_ne hD (i := 0) (j := 1) rfl rfl (by decide)
        · refine Or.inr ⟨List.mem_of_getElem? (i := 2) rfl, fun z hz => ?_⟩
          simp only [List.mem_cons, List.not_mem_nil, or_false] at hz
          rcases hz with rfl
          · exact vaD_ne hD (i := 0) (j := 2) rfl rfl (by decide))
      have hD2 : va_D (va_A (WMo cI a ta pa th σ T P) sz) ([(a, .inr (8, [.int (iI (2)), .int (iI (σ 0)), .int (iI (σ 1)), .int (iI (σ 2)), .int (iI (σ 3)), .int (iI (σ 4)), .int (iI (σ 5)), .int (iI (σ 6)), .ref ta, .int (iI (σ 7)), .ref pa, .int (iI (σ 9)), .int (iI (σ 10))])), (ta, .inl (cI, 40, .inl (fun q9 => iI (T q9)))), (pa, .inl (cI, 110, .inl (fun q9 => iI (P q9))))]) := vaD_addr hD rfl
      clear hP hD hS hPc hDc hFc hP1 hk1
      have hP := hP2; have hD := hD2; have hS := hS1
      clear hP2 hD2 hS1
      generalize H1 = H at hP hS ⊢
      generalize locs1 = locs at hS ⊢
      have hER : (if 0 ≤ j ∧ j < σ 6 then (if 0 ≤ y ∧ y < 1000 then 0 else 2) else 1 : Int) = 2 := by (repeat' split) <;> omega
      exact q_uret (ws := []) hx hb hr hlocks hS (Or.inr ⟨by rw [hER]; decide, by rw [hER]; exact hP⟩) (fun h => absurd (hER.symm.trans h) (by decide)) (Nat.le_of_ble_eq_true rfl) (Nat.le_of_ble_eq_true rfl) dX6_again_31
  · skip
    refine lv_aload_n hx hb dX6_again_13 rfl (lv_at hl 0 rfl) ?_
    refine q_iconst hx hb dX6_again_14 ?_
    have hPc := hP.sub (ws' := [(a, .inr (8, [.int (iI (0)), .int (iI (σ 0)), .int (iI (σ 1)), .int (iI (σ 2)), .int (iI (σ 3)), .int (iI (σ 4)), .int (iI (σ 5)), .int (iI (σ 6)), .ref ta, .int (iI (σ 7)), .ref pa, .int (iI (σ 9)), .int (iI (σ 10))]))]) [0] rfl
    have hDc := hD.sub (ws' := [(a, .inr (8, [.int (iI (0)), .int (iI (σ 0)), .int (iI (σ 1)), .int (iI (σ 2)), .int (iI (σ 3)), .int (iI (σ 4)), .int (iI (σ 5)), .int (iI (σ 6)), .ref ta, .int (iI (σ 7)), .ref pa, .int (iI (σ 9)), .int (iI (σ 10))]))]) [0] (by decide) rfl
    have hFc := va_free (wc := [(a, .inr (8, [.int (iI (0)), .int (iI (σ 0)), .int (iI (σ 1)), .int (iI (σ 2)), .int (iI (σ 3)), .int (iI (σ 4)), .int (iI (σ 5)), .int (iI (σ 6)), .ref ta, .int (iI (σ 7)), .ref pa, .int (iI (σ 9)), .int (iI (σ 10))]))]) hD hS hA [0] rfl
    refine q_callU (fr := 0) (lo := 0) (nL := 5) (As := [.int (iI (1))]) (rest := []) ⟨hx, hb, hml, hown, hts⟩ (u_fail l D _ _ a (0) (1) _ _ _ _ _ _ _ _ _ _ _ _) (cwV 1 hts gX6_again_X6_fail rfl rfl rfl (by decide +kernel) ⟨Nat.le_of_ble_eq_true rfl, Nat.le_of_ble_eq_true rfl⟩) (ob_recv (hP 0 _ rfl) hK rfl) hPc (hDc.weaken (fun _ _ _ _ => trivial)) hFc hS hK rfl hl.1 rfl (Nat.le_of_ble_eq_true rfl) dX6_again_15 (Nat.le_of_ble_eq_true rfl) (Nat.le_of_ble_eq_true rfl) ?_
    intro r H1 locs1 hr1 hP1 hk1 hS1
    have hr2 := hr1 rfl
    subst hr2
    have hP1 := (hP1.resolve_right (fun z => z.1 rfl)).2
    have hP2 : va_P D vwCl ([(a, .inr (8, [.int (iI (1)), .int (iI (σ 0)), .int (iI (σ 1)), .int (iI (σ 2)), .int (iI (σ 3)), .int (iI (σ 4)), .int (iI (σ 5)), .int (iI (σ 6)), .ref ta, .int (iI (σ 7)), .ref pa, .int (iI (σ 9)), .int (iI (σ 10))])), (ta, .inl (cI, 40, .inl (fun q9 => iI (T q9)))), (pa, .inl (cI, 110, .inl (fun q9 => iI (P q9))))]) H1 := va_upd (A0 := fun _ => True) hP hk1 hP1 (by
      intro q hq
      simp only [List.mem_cons, List.not_mem_nil, or_false] at hq
      rcases hq with rfl | rfl | rfl
      · exact Or.inl (List.mem_of_getElem? (i := 0) rfl)
      · refine Or.inr ⟨List.mem_of_getElem? (i := 1) rfl, fun z hz => ?_⟩
        simp only [List.mem_cons, List.not_mem_nil, or_false] at hz
        rcases hz with rfl
        · exact vaD_ne hD (i := 0) (j := 1) rfl rfl (by decide)
      · refine Or.inr ⟨List.mem_of_getElem? (i := 2) rfl, fun z hz => ?_⟩
        simp only [List.mem_cons, List.not_mem_nil, or_false] at hz
        rcases hz with rfl
        · exact vaD_ne hD (i := 0) (j := 2) rfl rfl (by decide))
    have hD2 : va_D (va_A (WMo cI a ta pa th σ T P) sz) ([(a, .inr (8, [.int (iI (1)), .int (iI (σ 0)), .int (iI (σ 1)), .int (iI (σ 2)), .int (iI (σ 3)), .int (iI (σ 4)), .int (iI (σ 5)), .int (iI (σ 6)), .ref ta, .int (iI (σ 7)), .ref pa, .int (iI (σ 9)), .int (iI (σ 10))])), (ta, .inl (cI, 40, .inl (fun q9 => iI (T q9)))), (pa, .inl (cI, 110, .inl (fun q9 => iI (P q9))))]) := vaD_addr hD rfl
    clear hP hD hS hPc hDc hFc hP1 hk1
    have hP := hP2; have hD := hD2; have hS := hS1
    clear hP2 hD2 hS1
    generalize H1 = H at hP hS ⊢
    generalize locs1 = locs at hS ⊢
    have hER : (if 0 ≤ j ∧ j < σ 6 then (if 0 ≤ y ∧ y < 1000 then 0 else 2) else 1 : Int) = 1 := by (repeat' split) <;> omega
    exact q_uret (ws := []) hx hb hr hlocks hS (Or.inr ⟨by rw [hER]; decide, by rw [hER]; exact hP⟩) (fun h => absurd (hER.symm.trans h) (by decide)) (Nat.le_of_ble_eq_true rfl) (Nat.le_of_ble_eq_true rfl) dX6_again_18
set_option maxHeartbeats 4000000 in
set_option maxRecDepth 100000 in
theorem u_cycle (l : Launch) (D : va_G) (sz : Nat) (cI cO cL : ClassId) (a ta pa : Nat) (th : Int) (σ T P : Nat → Int) (hW : WF σ T) (hS0 : WS σ P) (off : Int) (hoffr : -2147483648 ≤ off ∧ off < 2147483648) : MU l yX6_cycle wsX6_cycle 1 22 0 0 D (ty3 cI cO cL) sz (WMo cI a ta pa th σ T P) [.ref a, .int (iI (off))] (if 0 ≤ off ∧ off ≤ 5000 then 0 else 1) (m_cyc σ off 400 1) (WMo cI a ta pa 0 (σ) (T) (P)) (WMo cI a ta pa (if 0 ≤ off ∧ off ≤ 5000 then 0 else 1) σ T P) := by
  refine MU_of (cc := cX6_cycle) (maxL := 5) (ret := (some .int)) (by decide) rfl (Nat.le_of_ble_eq_true rfl) ?_
  intro p e s m args below meth c ls hx hb hr hlocks hml hown hts hsz hP hK hD hS hA hl
  have hl : lv_has ls 5 [(0, .ref a), (1, .int (iI (off)))] := hl
  have hin_X6 : ∀ w ∈ u_ws RX6 TX6 13, w ∈ wsX6_cycle := (fun w h => List.mem_cons_of_mem _ (List.mem_append_right _ h))
  have hP : va_P D vwCl ([(a, .inr (8, [.int (iI (th)), .int (iI (σ 0)), .int (iI (σ 1)), .int (iI (σ 2)), .int (iI (σ 3)), .int (iI (σ 4)), .int (iI (σ 5)), .int (iI (σ 6)), .ref ta, .int (iI (σ 7)), .ref pa, .int (iI (σ 9)), .int (iI (σ 10))])), (ta, .inl (cI, 40, .inl (fun q9 => iI (T q9)))), (pa, .inl (cI, 110, .inl (fun q9 => iI (P q9))))]) s.heap := hP
  have hD : va_D (va_A (WMo cI a ta pa th σ T P) sz) ([(a, .inr (8, [.int (iI (th)), .int (iI (σ 0)), .int (iI (σ 1)), .int (iI (σ 2)), .int (iI (σ 3)), .int (iI (σ 4)), .int (iI (σ 5)), .int (iI (σ 6)), .ref ta, .int (iI (σ 7)), .ref pa, .int (iI (σ 9)), .int (iI (σ 10))])), (ta, .inl (cI, 40, .inl (fun q9 => iI (T q9)))), (pa, .inl (cI, 110, .inl (fun q9 => iI (P q9))))]) := hD
  obtain ⟨w0, w1, w2, w3, w4, w5, w6, w7, w8⟩ := id hW
  refine lv_aload_n hx hb dX6_cycle_0 rfl (lv_at hl 0 rfl) ?_
  refine q_iconst hx hb dX6_cycle_1 ?_
  refine va_put (D := D) (ci := 8) (v := .int (iI (0))) (ty := .int) (C := RX6) (T := TX6) (N := 13) hx hb hts hin_X6 tyX6 tyX6_ok nmX6 hown hK hP hD hS 0 rfl rfl 0 (by decide) (hts (.fieldLink RX6 30 "AlmanacHouseModel" "thrown" "I") (List.mem_of_getElem? (i := 1) rfl)) (fun _ h9 => h9) rfl (by decide +kernel) rfl rfl (Nat.le_of_ble_eq_true rfl) dX6_cycle_2 (fun H locs hP hD hS => ?_)
  have hP : va_P D vwCl ([(a, .inr (8, [.int (iI (0)), .int (iI (σ 0)), .int (iI (σ 1)), .int (iI (σ 2)), .int (iI (σ 3)), .int (iI (σ 4)), .int (iI (σ 5)), .int (iI (σ 6)), .ref ta, .int (iI (σ 7)), .ref pa, .int (iI (σ 9)), .int (iI (σ 10))])), (ta, .inl (cI, 40, .inl (fun q9 => iI (T q9)))), (pa, .inl (cI, 110, .inl (fun q9 => iI (P q9))))]) H := hP
  have hD : va_D (va_A (WMo cI a ta pa th σ T P) sz) ([(a, .inr (8, [.int (iI (0)), .int (iI (σ 0)), .int (iI (σ 1)), .int (iI (σ 2)), .int (iI (σ 3)), .int (iI (σ 4)), .int (iI (σ 5)), .int (iI (σ 6)), .ref ta, .int (iI (σ 7)), .ref pa, .int (iI (σ 9)), .int (iI (σ 10))])), (ta, .inl (cI, 40, .inl (fun q9 => iI (T q9)))), (pa, .inl (cI, 110, .inl (fun q9 => iI (P q9))))]) := hD
  refine lv_iload_n hx hb dX6_cycle_5 rfl (lv_at hl 1 rfl) ?_
  refine q_iconst hx hb dX6_cycle_6 ?_
  refine q_sipush hx hb dX6_cycle_7 (by decide) ?_
  refine q_callS (fr := 0) (lo := 0) (nL := 5) (Pic := fun _ => True) (As := [.int (iI (off)), .int (iI (0)), .int (iI (5000))]) (rest := []) ⟨hx, hb, hml, hown, hts⟩ (c_isIn l D (ty3 cI cO cL) (off) (0) (5000) (by omega) (by omega) (by omega)) (va_cwS 3 hts gX6_cycle_X6_isIn rfl rfl rfl (by decide +kernel) ⟨Nat.le_of_ble_eq_true rfl, Nat.le_of_ble_eq_true rfl⟩) trivial hK rfl hl.1 rfl (Nat.le_of_ble_eq_true rfl) dX6_cycle_10 (Nat.zero_le _) (Nat.zero_le _) ?_
  refine q_pif_ne (tgt := 22) hx hb dX6_cycle_13 (by decide) (fun c_1 => ?_) (fun c_1 => ?_)
  · skip
    refine q_iconst hx hb dX6_cycle_22 ?_
    refine lv_istore_n (lv' := [(2, .int (iI (0))), (0, .ref a), (1, .int (iI (off)))]) hx hb dX6_cycle_23 rfl hl (by decide) rfl (fun ls hl => ?_)
    refine q_iconst hx hb dX6_cycle_24 ?_
    refine lv_istore_n (lv' := [(3, .int (iI (1))), (2, .int (iI (0))), (0, .ref a), (1, .int (iI (off)))]) hx hb dX6_cycle_25 rfl hl (by decide) rfl (fun ls hl => ?_)
    have key_26 : ∀ (fu : Nat) (k : Int) (ds : Int), 1 ≤ k ∧ k ≤ 401 → ds = m_fd (σ 0) (σ 1) (k - 1) → m_cyc σ off (401 - k).toNat k = m_cyc σ off 400 1 → (((401 - k).toNat : Int)) < (fu : Int) → ∀ (H : Heap) (locs : List Loc), va_P D vwCl ([(a, .inr (8, [.int (iI (0)), .int (iI (σ 0)), .int (iI (σ 1)), .int (iI (σ 2)), .int (iI (σ 3)), .int (iI (σ 4)), .int (iI (σ 5)), .int (iI (σ 6)), .ref ta, .int (iI (σ 7)), .ref pa, .int (iI (σ 9)), .int (iI (σ 10))])), (ta, .inl (cI, 40, .inl (fun q9 => iI (T q9)))), (pa, .inl (cI, 110, .inl (fun q9 => iI (P q9))))]) H → va_D (va_A (WMo cI a ta pa th σ T P) sz) ([(a, .inr (8, [.int (iI (0)), .int (iI (σ 0)), .int (iI (σ 1)), .int (iI (σ 2)), .int (iI (σ 3)), .int (iI (σ 4)), .int (iI (σ 5)), .int (iI (σ 6)), .ref ta, .int (iI (σ 7)), .ref pa, .int (iI (σ 9)), .int (iI (σ 10))])), (ta, .inl (cI, 40, .inl (fun q9 => iI (T q9)))), (pa, .inl (cI, 110, .inl (fun q9 => iI (P q9))))]) → va_S (va_A (WMo cI a ta pa th σ T P) sz) s.heap H locs → ∀ ls : Array Slot, lv_has ls 5 [(0, .ref a), (1, .int (iI (off))), (2, .int (iI (ds))), (3, .int (iI (k)))] → W p l e { frames := 1, cells := 0, slots := 0, locals := 22 } s m args below meth c H locs 0 0 (MQ below (va_Qi (fun (r : Int32) (_ : Unit) => (if 0 ≤ off ∧ off ≤ 5000 then 0 else 1 : Int) = 0 → r = iI (m_cyc σ off 400 1)) (fun _ t => ((if 0 ≤ off ∧ off ≤ 5000 then 0 else 1 : Int) = 0 ∧ va_P D vwCl (WMo cI a ta pa 0 (σ) (T) (P)) t.heap) ∨ ((if 0 ≤ off ∧ off ≤ 5000 then 0 else 1 : Int) ≠ 0 ∧ va_P D vwCl (WMo cI a ta pa (if 0 ≤ off ∧ off ≤ 5000 then 0 else 1) σ T P) t.heap)) (va_A (WMo cI a ta pa th σ T P) sz)) args s 0 0 (va_A (WMo cI a ta pa th σ T P) sz)) (F0 m 26 ls []) := by
      intro fu
      induction fu with
      | zero => intro k ds hk hds hcy hm_26 H locs hP hD hS ls hl; exact absurd hm_26 (by omega)
      | succ fu ih_26 =>
        intro k ds hk hds hcy hm_26 H locs hP hD hS ls hl
        have hst := m_fd_succ (cy := σ 0) (lq := σ 1) (y := k - 1) w0.1 w1 (by omega)
        rw [show k - 1 + 1 = k by omega] at hst
        have hfk := m_fd_le (cy := σ 0) (lq := σ 1) (y := k - 1) w0.1 w1 (by omega)
        refine lv_iload_n hx hb dX6_cycle_26 rfl (lv_at hl 3 rfl) ?_
        refine q_sipush hx hb dX6_cycle_27 (by decide) ?_
        refine q_icmp_gt (tgt := 98) hx hb dX6_cycle_30 (by decide) (by omega) (by omega) (fun c_2 => ?_) (fun c_2 => ?_)
        · skip
          refine q_iconst hx hb dX6_cycle_98 ?_
          have hER : (if 0 ≤ off ∧ off ≤ 5000 then 0 else 1 : Int) = 0 := by (repeat' split) <;> omega
          exact q_uret (ws := []) hx hb hr hlocks hS (Or.inl ⟨hER, hP⟩) (fun _ => by rw [← hcy, show (401 - k).toNat = 0 by omega]; rfl) (Nat.le_of_ble_eq_true rfl) (Nat.le_of_ble_eq_true rfl) dX6_cycle_99
        · skip
          refine lv_iload_n hx hb dX6_cycle_33 rfl (lv_at hl 2 rfl) ?_
          refine q_sipush hx hb dX6_cycle_34 (by decide) ?_
          refine lv_aload_n hx hb dX6_cycle_37 rfl (lv_at hl 0 rfl) ?_
          refine lv_iload_n hx hb dX6_cycle_38 rfl (lv_at hl 3 rfl) ?_
          refine q_iconst hx hb dX6_cycle_39 ?_
          refine q_isub hx hb dX6_cycle_40 ?_
          refine q_callV (fr := 0) (lo := 0) (nL := 5) (Pic := PicM D cI a ta pa (0) σ T (P)) (As := [.int (iI (k - 1))]) (rest := [.int (iI (365)), .int (iI (ds))]) ⟨hx, hb, hml, hown, hts⟩ (c_isLeap l D cI cO cL a ta pa (0) σ T (P) hW hS0 (k - 1) (by omega)) (cwV 1 hts gX6_cycle_X6_isLeap rfl rfl rfl (by decide +kernel) ⟨Nat.le_of_ble_eq_true rfl, Nat.le_of_ble_eq_true rfl⟩) (ob_recv (hP 0 _ rfl) hK rfl) hP hK rfl hl.1 rfl (Nat.le_of_ble_eq_true rfl) dX6_cycle_41 (Nat.zero_le _) (Nat.zero_le _) ?_
          have hlp41 := m_leap_01 (σ 0) (σ 1) (k - 1)
          refine q_if_eq (tgt := 51) hx hb dX6_cycle_44 (by decide) (by omega) (fun c_3 => ?_) (fun c_3 => ?_)
          · skip
            refine q_iconst hx hb dX6_cycle_51 ?_
            refine q_iadd hx hb dX6_cycle_52 ?_
            refine q_iadd hx hb dX6_cycle_53 ?_
            refine q_top (fun dd edd => ?_)
            refine lv_istore_n (lv' := [(2, .int (iI (dd))), (0, .ref a), (1, .int (iI (off))), (3, .int (iI (k)))]) hx hb dX6_cycle_54 rfl hl (by decide) rfl (fun ls hl => ?_)
            refine q_sipush hx hb dX6_cycle_55 (by decide) ?_
            refine lv_iload_n hx hb dX6_cycle_58 rfl (lv_at hl 0 rfl) ?_
            refine q_imul hx hb dX6_cycle_59 ?_
            refine lv_aload_n hx hb dX6_cycle_60 rfl (lv_at hl 1 rfl) ?_
            refine q_get (ci := 8) (C := RX6) (T := TX6) (N := 13) hx hb hts hin_X6 hown hK (v := .int (iI (σ 2))) (hP 0 _ rfl) rfl 3 (by decide) (hts (.fieldLink RX6 16 "AlmanacHouseModel" "length" "I") (List.mem_of_getElem? (i := 2) rfl)) (fun _ h9 => h9) rfl dX6_cycle_61 ?_
            refine q_irem hx hb dX6_cycle_64 (by omega) (by omega) ?_
            refine q_top (fun be ebe => ?_)
            have hr1 := Int.emod_nonneg (dd * 1000) (show σ 2 ≠ 0 by omega)
            have hr2 := Int.emod_lt_of_pos (dd * 1000) (show 0 < σ 2 by omega)
            have hbe : be = dd * 1000 % σ 2 := by rw [ebe]; congr 1; omega
            have hdf : dd = m_fd (σ 0) (σ 1) k := by omega
            refine lv_istore (lv' := [(4, .int (iI (be))), (2, .int (iI (dd))), (0, .ref a), (1, .int (iI (off))), (3, .int (iI (k)))]) hx hb dX6_cycle_65 hl (by decide) rfl (fun ls hl => ?_)
            refine lv_iload_n hx hb dX6_cycle_67 rfl (lv_at hl 1 rfl) ?_
            refine q_bipush hx hb dX6_cycle_68 (by decide) ?_
            refine q_irem hx hb dX6_cycle_70 (by omega) (by omega) ?_
            refine q_if_ne (tgt := 92) hx hb dX6_cycle_71 (by decide) (by omega) (fun c_4 => ?_) (fun c_4 => ?_)
            · skip
              refine q_iinc (k := 4) (lv' := [(3, .int (iI (k + 1))), (4, .int (iI (be))), (2, .int (iI (dd))), (0, .ref a), (1, .int (iI (off)))]) hx hb dX6_cycle_92 hl rfl (by decide) rfl (fun ls hl => ?_)
              refine lv_goto (tgt := 26) hx hb dX6_cycle_95 (by decide) ?_
              exact ih_26 _ _ (by omega) (by rw [show k + 1 - 1 = k by omega]; omega) (by rw [← hcy, m_cyc_step (k := k) (by omega), ← hdf, if_neg (by (repeat' split at *) <;> omega)]) (by omega) _ _ (hP) (hD) hS _ (lv_sub hl [3, 4, 2, 0] rfl)
            · skip
              refine lv_iload hx hb dX6_cycle_74 (lv_at hl 0 rfl) ?_
              refine lv_aload_n hx hb dX6_cycle_76 rfl (lv_at hl 2 rfl) ?_
              refine q_get (ci := 8) (C := RX6) (T := TX6) (N := 13) hx hb hts hin_X6 hown hK (v := .int (iI (σ 2))) (hP 0 _ rfl) rfl 3 (by decide) (hts (.fieldLink RX6 16 "AlmanacHouseModel" "length" "I") (List.mem_of_getElem? (i := 2) rfl)) (fun _ h9 => h9) rfl dX6_cycle_77 ?_
              refine lv_iload hx hb dX6_cycle_80 (lv_at hl 0 rfl) ?_
              refine q_isub hx hb dX6_cycle_82 ?_
              refine q_mmin hx hb (hml.trans hl.1.symm) hown (hts (.methodLink RX6 116 Lib.Math.min.name) (List.mem_of_getElem? (i := 3) rfl)) (hts (.static Lib.Math.min.name) (List.mem_of_getElem? (i := 4) rfl)) (hts (.initialized "java/lang/Math") (List.mem_of_getElem? (i := 5) rfl)) (hts (.code Lib.Math.min.name Lib.Math.min.code 2 (some .int)) (List.mem_of_getElem? (i := 6) rfl)) (by omega) (by omega) (Nat.le_of_ble_eq_true rfl) (Nat.le_of_ble_eq_true rfl) (Nat.zero_le _) (Nat.zero_le _) dX6_cycle_83 ?_
              refine lv_iload_n hx hb dX6_cycle_86 rfl (lv_at hl 3 rfl) ?_
              refine q_icmp_gt (tgt := 92) hx hb dX6_cycle_87 (by decide) (by split <;> omega) (by omega) (fun c_5 => ?_) (fun c_5 => ?_)
              · skip
                refine q_iinc (k := 4) (lv' := [(3, .int (iI (k + 1))), (4, .int (iI (be))), (2, .int (iI (dd))), (0, .ref a), (1, .int (iI (off)))]) hx hb dX6_cycle_92 hl rfl (by decide) rfl (fun ls hl => ?_)
                refine lv_goto (tgt := 26) hx hb dX6_cycle_95 (by decide) ?_
                exact ih_26 _ _ (by omega) (by rw [show k + 1 - 1 = k by omega]; omega) (by rw [← hcy, m_cyc_step (k := k) (by omega), ← hdf, if_neg (by (repeat' split at *) <;> omega)]) (by omega) _ _ (hP) (hD) hS _ (lv_sub hl [3, 4, 2, 0] rfl)
              · skip
                refine lv_iload_n hx hb dX6_cycle_90 rfl (lv_at hl 4 rfl) ?_
                have hER : (if 0 ≤ off ∧ off ≤ 5000 then 0 else 1 : Int) = 0 := by (repeat' split) <;> omega
                exact q_uret (ws := []) hx hb hr hlocks hS (Or.inl ⟨hER, hP⟩) (fun _ => by rw [← hcy, m_cyc_step (k := k) (by omega), ← hdf, if_pos (by (repeat' split at *) <;> omega)]) (Nat.le_of_ble_eq_true rfl) (Nat.le_of_ble_eq_true rfl) dX6_cycle_91
          · skip
            refine q_iconst hx hb dX6_cycle_47 ?_
            refine lv_goto (tgt := 52) hx hb dX6_cycle_48 (by decide) ?_
            refine q_iadd hx hb dX6_cycle_52 ?_
            refine q_iadd hx hb dX6_cycle_53 ?_
            refine q_top (fun dd edd => ?_)
            refine lv_istore_n (lv' := [(2, .int (iI (dd))), (0, .ref a), (1, .int (iI (off))), (3, .int (iI (k)))]) hx hb dX6_cycle_54 rfl hl (by decide) rfl (fun ls hl => ?_)
            refine q_sipush hx hb dX6_cycle_55 (by decide) ?_
            refine lv_iload_n hx hb dX6_cycle_58 rfl (lv_at hl 0 rfl) ?_
            refine q_imul hx hb dX6_cycle_59 ?_
            refine lv_aload_n hx hb dX6_cycle_60 rfl (lv_at hl 1 rfl) ?_
            refine q_get (ci := 8) (C := RX6) (T := TX6) (N := 13) hx hb hts hin_X6 hown hK (v := .int (iI (σ 2))) (hP 0 _ rfl) rfl 3 (by decide) (hts (.fieldLink RX6 16 "AlmanacHouseModel" "length" "I") (List.mem_of_getElem? (i := 2) rfl)) (fun _ h9 => h9) rfl dX6_cycle_61 ?_
            refine q_irem hx hb dX6_cycle_64 (by omega) (by omega) ?_
            refine q_top (fun be ebe => ?_)
            have hr1 := Int.emod_nonneg (dd * 1000) (show σ 2 ≠ 0 by omega)
            have hr2 := Int.emod_lt_of_pos (dd * 1000) (show 0 < σ 2 by omega)
            have hbe : be = dd * 1000 % σ 2 := by rw [ebe]; congr 1; omega
            have hdf : dd = m_fd (σ 0) (σ 1) k := by omega
            refine lv_istore (lv' := [(4, .int (iI (be))), (2, .int (iI (dd))), (0, .ref a), (1, .int (iI (off))), (3, .int (iI (k)))]) hx hb dX6_cycle_65 hl (by decide) rfl (fun ls hl => ?_)
            refine lv_iload_n hx hb dX6_cycle_67 rfl (lv_at hl 1 rfl) ?_
            refine q_bipush hx hb dX6_cycle_68 (by decide) ?_
            refine q_irem hx hb dX6_cycle_70 (by omega) (by omega) ?_
            refine q_if_ne (tgt := 92) hx hb dX6_cycle_71 (by decide) (by omega) (fun c_6 => ?_) (fun c_6 => ?_)
            · skip
              refine q_iinc (k := 4) (lv' := [(3, .int (iI (k + 1))), (4, .int (iI (be))), (2, .int (iI (dd))), (0, .ref a), (1, .int (iI (off)))]) hx hb dX6_cycle_92 hl rfl (by decide) rfl (fun ls hl => ?_)
              refine lv_goto (tgt := 26) hx hb dX6_cycle_95 (by decide) ?_
              exact ih_26 _ _ (by omega) (by rw [show k + 1 - 1 = k by omega]; omega) (by rw [← hcy, m_cyc_step (k := k) (by omega), ← hdf, if_neg (by (repeat' split at *) <;> omega)]) (by omega) _ _ (hP) (hD) hS _ (lv_sub hl [3, 4, 2, 0] rfl)
            · skip
              refine lv_iload hx hb dX6_cycle_74 (lv_at hl 0 rfl) ?_
              refine lv_aload_n hx hb dX6_cycle_76 rfl (lv_at hl 2 rfl) ?_
              refine q_get (ci := 8) (C := RX6) (T := TX6) (N := 13) hx hb hts hin_X6 hown hK (v := .int (iI (σ 2))) (hP 0 _ rfl) rfl 3 (by decide) (hts (.fieldLink RX6 16 "AlmanacHouseModel" "length" "I") (List.mem_of_getElem? (i := 2) rfl)) (fun _ h9 => h9) rfl dX6_cycle_77 ?_
              refine lv_iload hx hb dX6_cycle_80 (lv_at hl 0 rfl) ?_
              refine q_isub hx hb dX6_cycle_82 ?_
              refine q_mmin hx hb (hml.trans hl.1.symm) hown (hts (.methodLink RX6 116 Lib.Math.min.name) (List.mem_of_getElem? (i := 3) rfl)) (hts (.static Lib.Math.min.name) (List.mem_of_getElem? (i := 4) rfl)) (hts (.initialized "java/lang/Math") (List.mem_of_getElem? (i := 5) rfl)) (hts (.code Lib.Math.min.name Lib.Math.min.code 2 (some .int)) (List.mem_of_getElem? (i := 6) rfl)) (by omega) (by omega) (Nat.le_of_ble_eq_true rfl) (Nat.le_of_ble_eq_true rfl) (Nat.zero_le _) (Nat.zero_le _) dX6_cycle_83 ?_
              refine lv_iload_n hx hb dX6_cycle_86 rfl (lv_at hl 3 rfl) ?_
              refine q_icmp_gt (tgt := 92) hx hb dX6_cycle_87 (by decide) (by split <;> omega) (by omega) (fun c_7 => ?_) (fun c_7 => ?_)
              · skip
                refine q_iinc (k := 4) (lv' := [(3, .int (iI (k + 1))), (4, .int (iI (be))), (2, .int (iI (dd))), (0, .ref a), (1, .int (iI (off)))]) hx hb dX6_cycle_92 hl rfl (by decide) rfl (fun ls hl => ?_)
                refine lv_goto (tgt := 26) hx hb dX6_cycle_95 (by decide) ?_
                exact ih_26 _ _ (by omega) (by rw [show k + 1 - 1 = k by omega]; omega) (by rw [← hcy, m_cyc_step (k := k) (by omega), ← hdf, if_neg (by (repeat' split at *) <;> omega)]) (by omega) _ _ (hP) (hD) hS _ (lv_sub hl [3, 4, 2, 0] rfl)
              · skip
                refine lv_iload_n hx hb dX6_cycle_90 rfl (lv_at hl 4 rfl) ?_
                have hER : (if 0 ≤ off ∧ off ≤ 5000 then 0 else 1 : Int) = 0 := by (repeat' split) <;> omega
                exact q_uret (ws := []) hx hb hr hlocks hS (Or.inl ⟨hER, hP⟩) (fun _ => by rw [← hcy, m_cyc_step (k := k) (by omega), ← hdf, if_pos (by (repeat' split at *) <;> omega)]) (Nat.le_of_ble_eq_true rfl) (Nat.le_of_ble_eq_true rfl) dX6_cycle_91
    exact key_26 (402) _ _ (by omega) (by rw [show (1 : Int) - 1 = 0 from rfl, m_fd_0]) (by rfl) (by omega) _ _ (hP) (hD) hS _ (lv_sub hl [2, 3, 1, 0] rfl)
  · skip
    refine lv_aload_n hx hb dX6_cycle_16 rfl (lv_at hl 0 rfl) ?_
    refine q_iconst hx hb dX6_cycle_17 ?_
    have hPc := hP.sub (ws' := [(a, .inr (8, [.int (iI (0)), .int (iI (σ 0)), .int (iI (σ 1)), .int (iI (σ 2)), .int (iI (σ 3)), .int (iI (σ 4)), .int (iI (σ 5)), .int (iI (σ 6)), .ref ta, .int (iI (σ 7)), .ref pa, .int (iI (σ 9)), .int (iI (σ 10))]))]) [0] rfl
    have hDc := hD.sub (ws' := [(a, .inr (8, [.int (iI (0)), .int (iI (σ 0)), .int (iI (σ 1)), .int (iI (σ 2)), .int (iI (σ 3)), .int (iI (σ 4)), .int (iI (σ 5)), .int (iI (σ 6)), .ref ta, .int (iI (σ 7)), .ref pa, .int (iI (σ 9)), .int (iI (σ 10))]))]) [0] (by decide) rfl
    have hFc := va_free (wc := [(a, .inr (8, [.int (iI (0)), .int (iI (σ 0)), .int (iI (σ 1)), .int (iI (σ 2)), .int (iI (σ 3)), .int (iI (σ 4)), .int (iI (σ 5)), .int (iI (σ 6)), .ref ta, .int (iI (σ 7)), .ref pa, .int (iI (σ 9)), .int (iI (σ 10))]))]) hD hS hA [0] rfl
    refine q_callU (fr := 0) (lo := 0) (nL := 5) (As := [.int (iI (1))]) (rest := []) ⟨hx, hb, hml, hown, hts⟩ (u_fail l D _ _ a (0) (1) _ _ _ _ _ _ _ _ _ _ _ _) (cwV 1 hts gX6_cycle_X6_fail rfl rfl rfl (by decide +kernel) ⟨Nat.le_of_ble_eq_true rfl, Nat.le_of_ble_eq_true rfl⟩) (ob_recv (hP 0 _ rfl) hK rfl) hPc (hDc.weaken (fun _ _ _ _ => trivial)) hFc hS hK rfl hl.1 rfl (Nat.le_of_ble_eq_true rfl) dX6_cycle_18 (Nat.le_of_ble_eq_true rfl) (Nat.le_of_ble_eq_true rfl) ?_
    intro r H1 locs1 hr1 hP1 hk1 hS1
    have hr2 := hr1 rfl
    subst hr2
    have hP1 := (hP1.resolve_right (fun z => z.1 rfl)).2
    have hP2 : va_P D vwCl ([(a, .inr (8, [.int (iI (1)), .int (iI (σ 0)), .int (iI (σ 1)), .int (iI (σ 2)), .int (iI (σ 3)), .int (iI (σ 4)), .int (iI (σ 5)), .int (iI (σ 6)), .ref ta, .int (iI (σ 7)), .ref pa, .int (iI (σ 9)), .int (iI (σ 10))])), (ta, .inl (cI, 40, .inl (fun q9 => iI (T q9)))), (pa, .inl (cI, 110, .inl (fun q9 => iI (P q9))))]) H1 := va_upd (A0 := fun _ => True) hP hk1 hP1 (by
      intro q hq
      simp only [List.mem_cons, List.not_mem_nil, or_false] at hq
      rcases hq with rfl | rfl | rfl
      · exact Or.inl (List.mem_of_getElem? (i := 0) rfl)
      · refine Or.inr ⟨List.mem_of_getElem? (i := 1) rfl, fun z hz => ?_⟩
        simp only [List.mem_cons, List.not_mem_nil, or_false] at hz
        rcases hz with rfl
        · exact vaD_ne hD (i := 0) (j := 1) rfl rfl (by decide)
      · refine Or.inr ⟨List.mem_of_getElem? (i := 2) rfl, fun z hz => ?_⟩
        simp only [List.mem_cons, List.not_mem_nil, or_false] at hz
        rcases hz with rfl
        · exact vaD_ne hD (i := 0) (j := 2) rfl rfl (by decide))
    have hD2 : va_D (va_A (WMo cI a ta pa th σ T P) sz) ([(a, .inr (8, [.int (iI (1)), .int (iI (σ 0)), .int (iI (σ 1)), .int (iI (σ 2)), .int (iI (σ 3)), .int (iI (σ 4)), .int (iI (σ 5)), .int (iI (σ 6)), .ref ta, .int (iI (σ 7)), .ref pa, .int (iI (σ 9)), .int (iI (σ 10))])), (ta, .inl (cI, 40, .inl (fun q9 => iI (T q9)))), (pa, .inl (cI, 110, .inl (fun q9 => iI (P q9))))]) := vaD_addr hD rfl
    clear hP hD hS hPc hDc hFc hP1 hk1
    have hP := hP2; have hD := hD2; have hS := hS1
    clear hP2 hD2 hS1
    generalize H1 = H at hP hS ⊢
    generalize locs1 = locs at hS ⊢
    have hER : (if 0 ≤ off ∧ off ≤ 5000 then 0 else 1 : Int) = 1 := by (repeat' split) <;> omega
    exact q_uret (ws := []) hx hb hr hlocks hS (Or.inr ⟨by rw [hER]; decide, by rw [hER]; exact hP⟩) (fun h => absurd (hER.symm.trans h) (by decide)) (Nat.le_of_ble_eq_true rfl) (Nat.le_of_ble_eq_true rfl) dX6_cycle_21
set_option maxHeartbeats 4000000 in
set_option maxRecDepth 100000 in
theorem u_observe (l : Launch) (D : va_G) (sz : Nat) (cI cO cL : ClassId) (a ta pa : Nat) (th : Int) (σ T P : Nat → Int) (hW : WF σ T) (hS0 : WS σ P) (d b : Int) (hdr : -2147483648 ≤ d ∧ d < 2147483648) (hb01 : b = 0 ∨ b = 1) : MU l yX6_observe wsX6_observe 3 67 0 0 D (ty3 cI cO cL) sz (WMo cI a ta pa th σ T P) [.ref a, .int (iI (d)), .int (iI (b))] (if 0 ≤ d ∧ d ≤ 99999 then 0 else 1) (m_late σ d b) (WMo cI a ta pa 0 (m_obs σ d b) (T) (P)) (WMo cI a ta pa (if 0 ≤ d ∧ d ≤ 99999 then 0 else 1) σ T P) := by
  refine MU_of (cc := cX6_observe) (maxL := 6) (ret := (some .int)) (by decide) rfl (Nat.le_of_ble_eq_true rfl) ?_
  intro p e s m args below meth c ls hx hb hr hlocks hml hown hts hsz hP hK hD hS hA hl
  have hl : lv_has ls 6 [(0, .ref a), (1, .int (iI (d))), (2, .int (iI (b)))] := hl
  have hin_X6 : ∀ w ∈ u_ws RX6 TX6 13, w ∈ wsX6_observe := (fun w h => List.mem_cons_of_mem _ (List.mem_append_right _ h))
  have hP : va_P D vwCl ([(a, .inr (8, [.int (iI (th)), .int (iI (σ 0)), .int (iI (σ 1)), .int (iI (σ 2)), .int (iI (σ 3)), .int (iI (σ 4)), .int (iI (σ 5)), .int (iI (σ 6)), .ref ta, .int (iI (σ 7)), .ref pa, .int (iI (σ 9)), .int (iI (σ 10))])), (ta, .inl (cI, 40, .inl (fun q9 => iI (T q9)))), (pa, .inl (cI, 110, .inl (fun q9 => iI (P q9))))]) s.heap := hP
  have hD : va_D (va_A (WMo cI a ta pa th σ T P) sz) ([(a, .inr (8, [.int (iI (th)), .int (iI (σ 0)), .int (iI (σ 1)), .int (iI (σ 2)), .int (iI (σ 3)), .int (iI (σ 4)), .int (iI (σ 5)), .int (iI (σ 6)), .ref ta, .int (iI (σ 7)), .ref pa, .int (iI (σ 9)), .int (iI (σ 10))])), (ta, .inl (cI, 40, .inl (fun q9 => iI (T q9)))), (pa, .inl (cI, 110, .inl (fun q9 => iI (P q9))))]) := hD
  obtain ⟨w0, w1, w2, w3, w4, w5, w6, w7, w8⟩ := id hW
  refine lv_aload_n hx hb dX6_observe_0 rfl (lv_at hl 0 rfl) ?_
  refine q_iconst hx hb dX6_observe_1 ?_
  refine va_put (D := D) (ci := 8) (v := .int (iI (0))) (ty := .int) (C := RX6) (T := TX6) (N := 13) hx hb hts hin_X6 tyX6 tyX6_ok nmX6 hown hK hP hD hS 0 rfl rfl 0 (by decide) (hts (.fieldLink RX6 30 "AlmanacHouseModel" "thrown" "I") (List.mem_of_getElem? (i := 1) rfl)) (fun _ h9 => h9) rfl (by decide +kernel) rfl rfl (Nat.le_of_ble_eq_true rfl) dX6_observe_2 (fun H locs hP hD hS => ?_)
  have hP : va_P D vwCl ([(a, .inr (8, [.int (iI (0)), .int (iI (σ 0)), .int (iI (σ 1)), .int (iI (σ 2)), .int (iI (σ 3)), .int (iI (σ 4)), .int (iI (σ 5)), .int (iI (σ 6)), .ref ta, .int (iI (σ 7)), .ref pa, .int (iI (σ 9)), .int (iI (σ 10))])), (ta, .inl (cI, 40, .inl (fun q9 => iI (T q9)))), (pa, .inl (cI, 110, .inl (fun q9 => iI (P q9))))]) H := hP
  have hD : va_D (va_A (WMo cI a ta pa th σ T P) sz) ([(a, .inr (8, [.int (iI (0)), .int (iI (σ 0)), .int (iI (σ 1)), .int (iI (σ 2)), .int (iI (σ 3)), .int (iI (σ 4)), .int (iI (σ 5)), .int (iI (σ 6)), .ref ta, .int (iI (σ 7)), .ref pa, .int (iI (σ 9)), .int (iI (σ 10))])), (ta, .inl (cI, 40, .inl (fun q9 => iI (T q9)))), (pa, .inl (cI, 110, .inl (fun q9 => iI (P q9))))]) := hD
  refine lv_iload_n hx hb dX6_observe_5 rfl (lv_at hl 1 rfl) ?_
  refine q_iconst hx hb dX6_observe_6 ?_
  refine q_ldc (z := 99999) hx hb hown (hts (.constant RX6 133 (99999)) (List.mem_of_getElem? (i := 2) rfl)) (by decide) dX6_observe_7 ?_
  refine q_callS (fr := 0) (lo := 0) (nL := 6) (Pic := fun _ => True) (As := [.int (iI (d)), .int (iI (0)), .int (iI (99999))]) (rest := []) ⟨hx, hb, hml, hown, hts⟩ (c_isIn l D (ty3 cI cO cL) (d) (0) (99999) (by omega) (by omega) (by omega)) (va_cwS 3 hts gX6_observe_X6_isIn rfl rfl rfl (by decide +kernel) ⟨Nat.le_of_ble_eq_true rfl, Nat.le_of_ble_eq_true rfl⟩) trivial hK rfl hl.1 rfl (Nat.le_of_ble_eq_true rfl) dX6_observe_9 (Nat.zero_le _) (Nat.zero_le _) ?_
  refine q_pif_ne (tgt := 21) hx hb dX6_observe_12 (by decide) (fun c_1 => ?_) (fun c_1 => ?_)
  · skip
    refine lv_aload_n hx hb dX6_observe_21 rfl (lv_at hl 0 rfl) ?_
    refine lv_iload_n hx hb dX6_observe_22 rfl (lv_at hl 1 rfl) ?_
    refine lv_iload_n hx hb dX6_observe_23 rfl (lv_at hl 2 rfl) ?_
    refine q_callV (fr := 2) (lo := 44) (nL := 6) (Pic := PicM D cI a ta pa (0) σ T (P)) (As := [.int (iI (d)), .int (iI (b))]) (rest := []) ⟨hx, hb, hml, hown, hts⟩ (c_moonFrom l D cI cO cL a ta pa (0) σ T (P) hW hS0 (d) (b) (by omega) (by omega)) (cwV 2 hts gX6_observe_X6_moonFrom rfl rfl rfl (by decide +kernel) ⟨Nat.le_of_ble_eq_true rfl, Nat.le_of_ble_eq_true rfl⟩) (ob_recv (hP 0 _ rfl) hK rfl) hP hK rfl hl.1 rfl (Nat.le_of_ble_eq_true rfl) dX6_observe_24 (Nat.zero_le _) (Nat.zero_le _) ?_
    have hff24 := m_ff_in (ln := σ 2) (fi := σ 3) (b := (b)) (t := 1000 * (d)) w2
    have hfu24 := m_ff_up (ln := σ 2) (fi := σ 3) (b := (b)) (t := 1000 * (d)) w2 w3 (by omega)
    refine q_top (fun k0 ek0 => ?_)
    refine lv_istore_n (lv' := [(3, .int (iI (k0))), (0, .ref a), (1, .int (iI (d))), (2, .int (iI (b)))]) hx hb dX6_observe_27 rfl hl (by decide) rfl (fun ls hl => ?_)
    have key_56 : ∀ (k : Int), k = m_nt (σ 2) (σ 3) b d → ∀ ls : Array Slot, lv_has ls 6 [(0, .ref a), (1, .int (iI (d))), (2, .int (iI (b))), (3, .int (iI (k)))] → W p l e { frames := 3, cells := 0, slots := 0, locals := 67 } s m args below meth c H locs 0 0 (MQ below (va_Qi (fun (r : Int32) (_ : Unit) => (if 0 ≤ d ∧ d ≤ 99999 then 0 else 1 : Int) = 0 → r = iI (m_late σ d b)) (fun _ t => ((if 0 ≤ d ∧ d ≤ 99999 then 0 else 1 : Int) = 0 ∧ va_P D vwCl (WMo cI a ta pa 0 (m_obs σ d b) (T) (P)) t.heap) ∨ ((if 0 ≤ d ∧ d ≤ 99999 then 0 else 1 : Int) ≠ 0 ∧ va_P D vwCl (WMo cI a ta pa (if 0 ≤ d ∧ d ≤ 99999 then 0 else 1) σ T P) t.heap)) (va_A (WMo cI a ta pa th σ T P) sz)) args s 0 0 (va_A (WMo cI a ta pa th σ T P) sz)) (F0 m 56 ls []) := by
      intro k hk ls hl
      have hnt := m_nt_in (ln := σ 2) (fi := σ 3) (b := b) (d := d) w2 w3 (by omega)
      rw [← hk] at hnt
      refine lv_iload_n hx hb dX6_observe_56 rfl (lv_at hl 1 rfl) ?_
      refine lv_aload_n hx hb dX6_observe_57 rfl (lv_at hl 0 rfl) ?_
      refine lv_iload_n hx hb dX6_observe_58 rfl (lv_at hl 3 rfl) ?_
      refine lv_iload_n hx hb dX6_observe_59 rfl (lv_at hl 2 rfl) ?_
      refine q_callV (fr := 1) (lo := 22) (nL := 6) (Pic := PicM D cI a ta pa (0) σ T (P)) (As := [.int (iI (k)), .int (iI (b))]) (rest := [.int (iI (d))]) ⟨hx, hb, hml, hown, hts⟩ (c_falls l D cI cO cL a ta pa (0) σ T (P) hW hS0 (k) (b) (by omega) (by omega)) (cwV 2 hts gX6_observe_X6_falls rfl rfl rfl (by decide +kernel) ⟨Nat.le_of_ble_eq_true rfl, Nat.le_of_ble_eq_true rfl⟩) (ob_recv (hP 0 _ rfl) hK rfl) hP hK rfl hl.1 rfl (Nat.le_of_ble_eq_true rfl) dX6_observe_60 (Nat.zero_le _) (Nat.zero_le _) ?_
      have htm60 := m_tm_in (ln := σ 2) (fi := σ 3) (b := (b)) (k := (k)) w2 w3 (by omega)
      refine q_isub hx hb dX6_observe_63 ?_
      refine q_top (fun la ela => ?_)
      have hla : la = m_late σ d b := by rw [ela, hk]; rfl
      refine lv_istore (lv' := [(4, .int (iI (la))), (0, .ref a), (1, .int (iI (d))), (2, .int (iI (b))), (3, .int (iI (k)))]) hx hb dX6_observe_64 hl (by decide) rfl (fun ls hl => ?_)
      refine lv_aload_n hx hb dX6_observe_66 rfl (lv_at hl 1 rfl) ?_
      refine lv_dup hx hb dX6_observe_67 rfl ?_
      refine q_get (ci := 8) (C := RX6) (T := TX6) (N := 13) hx hb hts hin_X6 hown hK (v := .int (iI (σ 9))) (hP 0 _ rfl) rfl 11 (by decide) (hts (.fieldLink RX6 134 "AlmanacHouseModel" "seen" "I") (List.mem_of_getElem? (i := 3) rfl)) (fun _ h9 => h9) rfl dX6_observe_68 ?_
      refine q_iconst hx hb dX6_observe_71 ?_
      refine q_iadd hx hb dX6_observe_72 ?_
      refine va_put (D := D) (ci := 8) (v := .int (iI ((σ 9) + (1)))) (ty := .int) (C := RX6) (T := TX6) (N := 13) hx hb hts hin_X6 tyX6 tyX6_ok nmX6 hown hK hP hD hS 0 rfl rfl 11 (by decide) (hts (.fieldLink RX6 134 "AlmanacHouseModel" "seen" "I") (List.mem_of_getElem? (i := 3) rfl)) (fun _ h9 => h9) rfl (by decide +kernel) rfl rfl (Nat.le_of_ble_eq_true rfl) dX6_observe_73 (fun H locs hP hD hS => ?_)
      have hP : va_P D vwCl ([(a, .inr (8, [.int (iI (0)), .int (iI (σ 0)), .int (iI (σ 1)), .int (iI (σ 2)), .int (iI (σ 3)), .int (iI (σ 4)), .int (iI (σ 5)), .int (iI (σ 6)), .ref ta, .int (iI (σ 7)), .ref pa, .int (iI ((σ 9) + (1))), .int (iI (σ 10))])), (ta, .inl (cI, 40, .inl (fun q9 => iI (T q9)))), (pa, .inl (cI, 110, .inl (fun q9 => iI (P q9))))]) H := hP
      have hD : va_D (va_A (WMo cI a ta pa th σ T P) sz) ([(a, .inr (8, [.int (iI (0)), .int (iI (σ 0)), .int (iI (σ 1)), .int (iI (σ 2)), .int (iI (σ 3)), .int (iI (σ 4)), .int (iI (σ 5)), .int (iI (σ 6)), .ref ta, .int (iI (σ 7)), .ref pa, .int (iI ((σ 9) + (1))), .int (iI (σ 10))])), (ta, .inl (cI, 40, .inl (fun q9 => iI (T q9)))), (pa, .inl (cI, 110, .inl (fun q9 => iI (P q9))))]) := hD
      refine lv_iload hx hb dX6_observe_76 (lv_at hl 0 rfl) ?_
      refine q_if_eq (tgt := 89) hx hb dX6_observe_78 (by decide) (by omega) (fun c_2 => ?_) (fun c_2 => ?_)
      · skip
        refine lv_iload hx hb dX6_observe_89 (lv_at hl 0 rfl) ?_
        have hER : (if 0 ≤ d ∧ d ≤ 99999 then 0 else 1 : Int) = 0 := by (repeat' split) <;> omega
        exact q_uret (ws := []) hx hb hr hlocks hS (Or.inl ⟨hER, by unfold m_obs; rw [if_pos (by omega)]; exact hP⟩) (fun _ => hla) (Nat.le_of_ble_eq_true rfl) (Nat.le_of_ble_eq_true rfl) dX6_observe_91
      · skip
        have key_92 : b = 1 ∨ 0 < k → ∀ ls : Array Slot, lv_has ls 6 [(0, .ref a), (1, .int (iI (d))), (2, .int (iI (b))), (3, .int (iI (k))), (4, .int (iI (la)))] → W p l e { frames := 3, cells := 0, slots := 0, locals := 67 } s m args below meth c H locs 0 0 (MQ below (va_Qi (fun (r : Int32) (_ : Unit) => (if 0 ≤ d ∧ d ≤ 99999 then 0 else 1 : Int) = 0 → r = iI (m_late σ d b)) (fun _ t => ((if 0 ≤ d ∧ d ≤ 99999 then 0 else 1 : Int) = 0 ∧ va_P D vwCl (WMo cI a ta pa 0 (m_obs σ d b) (T) (P)) t.heap) ∨ ((if 0 ≤ d ∧ d ≤ 99999 then 0 else 1 : Int) ≠ 0 ∧ va_P D vwCl (WMo cI a ta pa (if 0 ≤ d ∧ d ≤ 99999 then 0 else 1) σ T P) t.heap)) (va_A (WMo cI a ta pa th σ T P) sz)) args s 0 0 (va_A (WMo cI a ta pa th σ T P) sz)) (F0 m 92 ls []) := by
          intro  hne ls hl
          refine lv_aload_n hx hb dX6_observe_92 rfl (lv_at hl 0 rfl) ?_
          refine lv_dup hx hb dX6_observe_93 rfl ?_
          refine q_get (ci := 8) (C := RX6) (T := TX6) (N := 13) hx hb hts hin_X6 hown hK (v := .int (iI (σ 10))) (hP 0 _ rfl) rfl 12 (by decide) (hts (.fieldLink RX6 137 "AlmanacHouseModel" "corrected" "I") (List.mem_of_getElem? (i := 4) rfl)) (fun _ h9 => h9) rfl dX6_observe_94 ?_
          refine q_iconst hx hb dX6_observe_97 ?_
          refine q_iadd hx hb dX6_observe_98 ?_
          refine va_put (D := D) (ci := 8) (v := .int (iI ((σ 10) + (1)))) (ty := .int) (C := RX6) (T := TX6) (N := 13) hx hb hts hin_X6 tyX6 tyX6_ok nmX6 hown hK hP hD hS 0 rfl rfl 12 (by decide) (hts (.fieldLink RX6 137 "AlmanacHouseModel" "corrected" "I") (List.mem_of_getElem? (i := 4) rfl)) (fun _ h9 => h9) rfl (by decide +kernel) rfl rfl (Nat.le_of_ble_eq_true rfl) dX6_observe_99 (fun H locs hP hD hS => ?_)
          have hP : va_P D vwCl ([(a, .inr (8, [.int (iI (0)), .int (iI (σ 0)), .int (iI (σ 1)), .int (iI (σ 2)), .int (iI (σ 3)), .int (iI (σ 4)), .int (iI (σ 5)), .int (iI (σ 6)), .ref ta, .int (iI (σ 7)), .ref pa, .int (iI ((σ 9) + (1))), .int (iI ((σ 10) + (1)))])), (ta, .inl (cI, 40, .inl (fun q9 => iI (T q9)))), (pa, .inl (cI, 110, .inl (fun q9 => iI (P q9))))]) H := hP
          have hD : va_D (va_A (WMo cI a ta pa th σ T P) sz) ([(a, .inr (8, [.int (iI (0)), .int (iI (σ 0)), .int (iI (σ 1)), .int (iI (σ 2)), .int (iI (σ 3)), .int (iI (σ 4)), .int (iI (σ 5)), .int (iI (σ 6)), .ref ta, .int (iI (σ 7)), .ref pa, .int (iI ((σ 9) + (1))), .int (iI ((σ 10) + (1)))])), (ta, .inl (cI, 40, .inl (fun q9 => iI (T q9)))), (pa, .inl (cI, 110, .inl (fun q9 => iI (P q9))))]) := hD
          refine lv_iload_n hx hb dX6_observe_102 rfl (lv_at hl 2 rfl) ?_
          refine q_if_eq (tgt := 131) hx hb dX6_observe_103 (by decide) (by omega) (fun c_3 => ?_) (fun c_3 => ?_)
          · skip
            refine q_sipush hx hb dX6_observe_131 (by decide) ?_
            refine lv_iload_n hx hb dX6_observe_134 rfl (lv_at hl 1 rfl) ?_
            refine q_imul hx hb dX6_observe_135 ?_
            refine q_sipush hx hb dX6_observe_136 (by decide) ?_
            refine q_iadd hx hb dX6_observe_139 ?_
            refine lv_aload_n hx hb dX6_observe_140 rfl (lv_at hl 0 rfl) ?_
            refine q_get (ci := 8) (C := RX6) (T := TX6) (N := 13) hx hb hts hin_X6 hown hK (v := .int (iI (σ 3))) (hP 0 _ rfl) rfl 4 (by decide) (hts (.fieldLink RX6 43 "AlmanacHouseModel" "first" "I") (List.mem_of_getElem? (i := 5) rfl)) (fun _ h9 => h9) rfl dX6_observe_141 ?_
            refine q_isub hx hb dX6_observe_144 ?_
            refine lv_iload_n hx hb dX6_observe_145 rfl (lv_at hl 3 rfl) ?_
            refine q_idivt hx hb dX6_observe_146 (by omega) (by omega) ?_
            refine q_top (fun ha eha => ?_)
            have hha : -2000000000 < ha ∧ ha < 2000000000 := by rw [eha]; exact m_tdr (by omega) (by omega)
            refine lv_istore (lv' := [(5, .int (iI (ha))), (0, .ref a), (1, .int (iI (d))), (2, .int (iI (b))), (3, .int (iI (k))), (4, .int (iI (la)))]) hx hb dX6_observe_147 hl (by decide) rfl (fun ls hl => ?_)
            refine lv_aload_n hx hb dX6_observe_149 rfl (lv_at hl 1 rfl) ?_
            refine q_sipush hx hb dX6_observe_150 (by decide) ?_
            refine q_ldc (z := 40000) hx hb hown (hts (.constant RX6 41 (40000)) (List.mem_of_getElem? (i := 6) rfl)) (by decide) dX6_observe_153 ?_
            refine lv_iload hx hb dX6_observe_155 (lv_at hl 0 rfl) ?_
            refine q_mmin hx hb (hml.trans hl.1.symm) hown (hts (.methodLink RX6 116 Lib.Math.min.name) (List.mem_of_getElem? (i := 7) rfl)) (hts (.static Lib.Math.min.name) (List.mem_of_getElem? (i := 8) rfl)) (hts (.initialized "java/lang/Math") (List.mem_of_getElem? (i := 9) rfl)) (hts (.code Lib.Math.min.name Lib.Math.min.code 2 (some .int)) (List.mem_of_getElem? (i := 10) rfl)) (by omega) (by omega) (Nat.le_of_ble_eq_true rfl) (Nat.le_of_ble_eq_true rfl) (Nat.zero_le _) (Nat.zero_le _) dX6_observe_157 ?_
            refine q_mmax hx hb (hml.trans hl.1.symm) hown (hts (.methodLink RX6 79 Lib.Math.max.name) (List.mem_of_getElem? (i := 11) rfl)) (hts (.static Lib.Math.max.name) (List.mem_of_getElem? (i := 12) rfl)) (hts (.initialized "java/lang/Math") (List.mem_of_getElem? (i := 9) rfl)) (hts (.code Lib.Math.max.name Lib.Math.max.code 2 (some .int)) (List.mem_of_getElem? (i := 13) rfl)) (by omega) (by split <;> omega) (Nat.le_of_ble_eq_true rfl) (Nat.le_of_ble_eq_true rfl) (Nat.zero_le _) (Nat.zero_le _) dX6_observe_160 ?_
            refine va_put (D := D) (ci := 8) (v := .int (iI (if 20000 < if ha < 40000 then ha else 40000 then if ha < 40000 then ha else 40000 else 20000))) (ty := .int) (C := RX6) (T := TX6) (N := 13) hx hb hts hin_X6 tyX6 tyX6_ok nmX6 hown hK hP hD hS 0 rfl rfl 3 (by decide) (hts (.fieldLink RX6 16 "AlmanacHouseModel" "length" "I") (List.mem_of_getElem? (i := 14) rfl)) (fun _ h9 => h9) rfl (by decide +kernel) rfl rfl (Nat.le_of_ble_eq_true rfl) dX6_observe_163 (fun H locs hP hD hS => ?_)
            have hP : va_P D vwCl ([(a, .inr (8, [.int (iI (0)), .int (iI (σ 0)), .int (iI (σ 1)), .int (iI (if 20000 < if ha < 40000 then ha else 40000 then if ha < 40000 then ha else 40000 else 20000)), .int (iI (σ 3)), .int (iI (σ 4)), .int (iI (σ 5)), .int (iI (σ 6)), .ref ta, .int (iI (σ 7)), .ref pa, .int (iI ((σ 9) + (1))), .int (iI ((σ 10) + (1)))])), (ta, .inl (cI, 40, .inl (fun q9 => iI (T q9)))), (pa, .inl (cI, 110, .inl (fun q9 => iI (P q9))))]) H := hP
            have hD : va_D (va_A (WMo cI a ta pa th σ T P) sz) ([(a, .inr (8, [.int (iI (0)), .int (iI (σ 0)), .int (iI (σ 1)), .int (iI (if 20000 < if ha < 40000 then ha else 40000 then if ha < 40000 then ha else 40000 else 20000)), .int (iI (σ 3)), .int (iI (σ 4)), .int (iI (σ 5)), .int (iI (σ 6)), .ref ta, .int (iI (σ 7)), .ref pa, .int (iI ((σ 9) + (1))), .int (iI ((σ 10) + (1)))])), (ta, .inl (cI, 40, .inl (fun q9 => iI (T q9)))), (pa, .inl (cI, 110, .inl (fun q9 => iI (P q9))))]) := hD
            refine lv_iload hx hb dX6_observe_166 (lv_at hl 5 rfl) ?_
            have hER : (if 0 ≤ d ∧ d ≤ 99999 then 0 else 1 : Int) = 0 := by (repeat' split) <;> omega
            exact q_uret (ws := []) hx hb hr hlocks hS (Or.inl ⟨hER, by unfold m_obs; rw [if_neg (by omega), show Int.tdiv (2 * (1000 * d + 500 - σ 3)) (2 * m_nt (σ 2) (σ 3) b d + b) = ha from by rw [eha]; first | (congr 1 <;> omega) | (rw [show 2 * m_nt (σ 2) (σ 3) b d + b = 2 * k by omega]; exact m_td2 _ _)]; exact hP⟩) (fun _ => hla) (Nat.le_of_ble_eq_true rfl) (Nat.le_of_ble_eq_true rfl) dX6_observe_168
          · skip
            refine q_iconst hx hb dX6_observe_106 ?_
            refine q_sipush hx hb dX6_observe_107 (by decide) ?_
            refine lv_iload_n hx hb dX6_observe_110 rfl (lv_at hl 1 rfl) ?_
            refine q_imul hx hb dX6_observe_111 ?_
            refine q_sipush hx hb dX6_observe_112 (by decide) ?_
            refine q_iadd hx hb dX6_observe_115 ?_
            refine lv_aload_n hx hb dX6_observe_116 rfl (lv_at hl 0 rfl) ?_
            refine q_get (ci := 8) (C := RX6) (T := TX6) (N := 13) hx hb hts hin_X6 hown hK (v := .int (iI (σ 3))) (hP 0 _ rfl) rfl 4 (by decide) (hts (.fieldLink RX6 43 "AlmanacHouseModel" "first" "I") (List.mem_of_getElem? (i := 5) rfl)) (fun _ h9 => h9) rfl dX6_observe_117 ?_
            refine q_isub hx hb dX6_observe_120 ?_
            refine q_imul hx hb dX6_observe_121 ?_
            refine q_iconst hx hb dX6_observe_122 ?_
            refine lv_iload_n hx hb dX6_observe_123 rfl (lv_at hl 3 rfl) ?_
            refine q_imul hx hb dX6_observe_124 ?_
            refine q_iconst hx hb dX6_observe_125 ?_
            refine q_iadd hx hb dX6_observe_126 ?_
            refine q_idivt hx hb dX6_observe_127 (by omega) (by omega) ?_
            refine lv_goto (tgt := 147) hx hb dX6_observe_128 (by decide) ?_
            refine q_top (fun ha eha => ?_)
            have hha : -2000000000 < ha ∧ ha < 2000000000 := by rw [eha]; exact m_tdr (by omega) (by omega)
            refine lv_istore (lv' := [(5, .int (iI (ha))), (0, .ref a), (1, .int (iI (d))), (2, .int (iI (b))), (3, .int (iI (k))), (4, .int (iI (la)))]) hx hb dX6_observe_147 hl (by decide) rfl (fun ls hl => ?_)
            refine lv_aload_n hx hb dX6_observe_149 rfl (lv_at hl 1 rfl) ?_
            refine q_sipush hx hb dX6_observe_150 (by decide) ?_
            refine q_ldc (z := 40000) hx hb hown (hts (.constant RX6 41 (40000)) (List.mem_of_getElem? (i := 6) rfl)) (by decide) dX6_observe_153 ?_
            refine lv_iload hx hb dX6_observe_155 (lv_at hl 0 rfl) ?_
            refine q_mmin hx hb (hml.trans hl.1.symm) hown (hts (.methodLink RX6 116 Lib.Math.min.name) (List.mem_of_getElem? (i := 7) rfl)) (hts (.static Lib.Math.min.name) (List.mem_of_getElem? (i := 8) rfl)) (hts (.initialized "java/lang/Math") (List.mem_of_getElem? (i := 9) rfl)) (hts (.code Lib.Math.min.name Lib.Math.min.code 2 (some .int)) (List.mem_of_getElem? (i := 10) rfl)) (by omega) (by omega) (Nat.le_of_ble_eq_true rfl) (Nat.le_of_ble_eq_true rfl) (Nat.zero_le _) (Nat.zero_le _) dX6_observe_157 ?_
            refine q_mmax hx hb (hml.trans hl.1.symm) hown (hts (.methodLink RX6 79 Lib.Math.max.name) (List.mem_of_getElem? (i := 11) rfl)) (hts (.static Lib.Math.max.name) (List.mem_of_getElem? (i := 12) rfl)) (hts (.initialized "java/lang/Math") (List.mem_of_getElem? (i := 9) rfl)) (hts (.code Lib.Math.max.name Lib.Math.max.code 2 (some .int)) (List.mem_of_getElem? (i := 13) rfl)) (by omega) (by split <;> omega) (Nat.le_of_ble_eq_true rfl) (Nat.le_of_ble_eq_true rfl) (Nat.zero_le _) (Nat.zero_le _) dX6_observe_160 ?_
            refine va_put (D := D) (ci := 8) (v := .int (iI (if 20000 < if ha < 40000 then ha else 40000 then if ha < 40000 then ha else 40000 else 20000))) (ty := .int) (C := RX6) (T := TX6) (N := 13) hx hb hts hin_X6 tyX6 tyX6_ok nmX6 hown hK hP hD hS 0 rfl rfl 3 (by decide) (hts (.fieldLink RX6 16 "AlmanacHouseModel" "length" "I") (List.mem_of_getElem? (i := 14) rfl)) (fun _ h9 => h9) rfl (by decide +kernel) rfl rfl (Nat.le_of_ble_eq_true rfl) dX6_observe_163 (fun H locs hP hD hS => ?_)
            have hP : va_P D vwCl ([(a, .inr (8, [.int (iI (0)), .int (iI (σ 0)), .int (iI (σ 1)), .int (iI (if 20000 < if ha < 40000 then ha else 40000 then if ha < 40000 then ha else 40000 else 20000)), .int (iI (σ 3)), .int (iI (σ 4)), .int (iI (σ 5)), .int (iI (σ 6)), .ref ta, .int (iI (σ 7)), .ref pa, .int (iI ((σ 9) + (1))), .int (iI ((σ 10) + (1)))])), (ta, .inl (cI, 40, .inl (fun q9 => iI (T q9)))), (pa, .inl (cI, 110, .inl (fun q9 => iI (P q9))))]) H := hP
            have hD : va_D (va_A (WMo cI a ta pa th σ T P) sz) ([(a, .inr (8, [.int (iI (0)), .int (iI (σ 0)), .int (iI (σ 1)), .int (iI (if 20000 < if ha < 40000 then ha else 40000 then if ha < 40000 then ha else 40000 else 20000)), .int (iI (σ 3)), .int (iI (σ 4)), .int (iI (σ 5)), .int (iI (σ 6)), .ref ta, .int (iI (σ 7)), .ref pa, .int (iI ((σ 9) + (1))), .int (iI ((σ 10) + (1)))])), (ta, .inl (cI, 40, .inl (fun q9 => iI (T q9)))), (pa, .inl (cI, 110, .inl (fun q9 => iI (P q9))))]) := hD
            refine lv_iload hx hb dX6_observe_166 (lv_at hl 5 rfl) ?_
            have hER : (if 0 ≤ d ∧ d ≤ 99999 then 0 else 1 : Int) = 0 := by (repeat' split) <;> omega
            exact q_uret (ws := []) hx hb hr hlocks hS (Or.inl ⟨hER, by unfold m_obs; rw [if_neg (by omega), show Int.tdiv (2 * (1000 * d + 500 - σ 3)) (2 * m_nt (σ 2) (σ 3) b d + b) = ha from by rw [eha]; first | (congr 1 <;> omega) | (rw [show 2 * m_nt (σ 2) (σ 3) b d + b = 2 * k by omega]; exact m_td2 _ _)]; exact hP⟩) (fun _ => hla) (Nat.le_of_ble_eq_true rfl) (Nat.le_of_ble_eq_true rfl) dX6_observe_168
        refine lv_iload_n hx hb dX6_observe_81 rfl (lv_at hl 3 rfl) ?_
        refine q_if_ne (tgt := 92) hx hb dX6_observe_82 (by decide) (by omega) (fun c_4 => ?_) (fun c_4 => ?_)
        · skip
          exact key_92  (by omega) _ (lv_sub hl [1, 2, 3, 4, 0] rfl)
        · skip
          refine lv_iload_n hx hb dX6_observe_85 rfl (lv_at hl 4 rfl) ?_
          refine q_if_ne (tgt := 92) hx hb dX6_observe_86 (by decide) (by omega) (fun c_5 => ?_) (fun c_5 => ?_)
          · skip
            exact key_92  (by omega) _ (lv_sub hl [1, 2, 3, 4, 0] rfl)
          · skip
            refine lv_iload hx hb dX6_observe_89 (lv_at hl 0 rfl) ?_
            have hER : (if 0 ≤ d ∧ d ≤ 99999 then 0 else 1 : Int) = 0 := by (repeat' split) <;> omega
            exact q_uret (ws := []) hx hb hr hlocks hS (Or.inl ⟨hER, by unfold m_obs; rw [if_pos (by omega)]; exact hP⟩) (fun _ => hla) (Nat.le_of_ble_eq_true rfl) (Nat.le_of_ble_eq_true rfl) dX6_observe_91
    refine lv_iload_n hx hb dX6_observe_28 rfl (lv_at hl 0 rfl) ?_
    refine q_if_le (tgt := 56) hx hb dX6_observe_29 (by decide) (by omega) (fun c_6 => ?_) (fun c_6 => ?_)
    · skip
      exact key_56 _ (by unfold m_nt; rw [← ek0]; (repeat' split) <;> omega) _ (lv_sub hl [1, 2, 3, 0] rfl)
    · skip
      refine lv_iload_n hx hb dX6_observe_32 rfl (lv_at hl 2 rfl) ?_
      refine lv_aload_n hx hb dX6_observe_33 rfl (lv_at hl 1 rfl) ?_
      refine lv_iload_n hx hb dX6_observe_34 rfl (lv_at hl 0 rfl) ?_
      refine q_iconst hx hb dX6_observe_35 ?_
      refine q_isub hx hb dX6_observe_36 ?_
      refine lv_iload_n hx hb dX6_observe_37 rfl (lv_at hl 3 rfl) ?_
      refine q_callV (fr := 1) (lo := 22) (nL := 6) (Pic := PicM D cI a ta pa (0) σ T (P)) (As := [.int (iI (k0 - 1)), .int (iI (b))]) (rest := [.int (iI (d))]) ⟨hx, hb, hml, hown, hts⟩ (c_falls l D cI cO cL a ta pa (0) σ T (P) hW hS0 (k0 - 1) (b) (by omega) (by omega)) (cwV 2 hts gX6_observe_X6_falls rfl rfl rfl (by decide +kernel) ⟨Nat.le_of_ble_eq_true rfl, Nat.le_of_ble_eq_true rfl⟩) (ob_recv (hP 0 _ rfl) hK rfl) hP hK rfl hl.1 rfl (Nat.le_of_ble_eq_true rfl) dX6_observe_38 (Nat.zero_le _) (Nat.zero_le _) ?_
      have htm38 := m_tm_in (ln := σ 2) (fi := σ 3) (b := (b)) (k := (k0 - 1)) w2 w3 (by omega)
      refine q_isub hx hb dX6_observe_41 ?_
      refine lv_aload_n hx hb dX6_observe_42 rfl (lv_at hl 1 rfl) ?_
      refine lv_iload_n hx hb dX6_observe_43 rfl (lv_at hl 0 rfl) ?_
      refine lv_iload_n hx hb dX6_observe_44 rfl (lv_at hl 3 rfl) ?_
      refine q_callV (fr := 1) (lo := 22) (nL := 6) (Pic := PicM D cI a ta pa (0) σ T (P)) (As := [.int (iI (k0)), .int (iI (b))]) (rest := [.int (iI ((d) - (m_tm (σ 2) (σ 3) (k0 - 1) (b) / 1000)))]) ⟨hx, hb, hml, hown, hts⟩ (c_falls l D cI cO cL a ta pa (0) σ T (P) hW hS0 (k0) (b) (by omega) (by omega)) (cwV 2 hts gX6_observe_X6_falls rfl rfl rfl (by decide +kernel) ⟨Nat.le_of_ble_eq_true rfl, Nat.le_of_ble_eq_true rfl⟩) (ob_recv (hP 0 _ rfl) hK rfl) hP hK rfl hl.1 rfl (Nat.le_of_ble_eq_true rfl) dX6_observe_45 (Nat.zero_le _) (Nat.zero_le _) ?_
      have htm45 := m_tm_in (ln := σ 2) (fi := σ 3) (b := (b)) (k := (k0)) w2 w3 (by omega)
      refine lv_iload_n hx hb dX6_observe_48 rfl (lv_at hl 2 rfl) ?_
      refine q_isub hx hb dX6_observe_49 ?_
      refine q_icmp_gt (tgt := 56) hx hb dX6_observe_50 (by decide) (by omega) (by omega) (fun c_7 => ?_) (fun c_7 => ?_)
      · skip
        exact key_56 _ (by unfold m_nt; rw [← ek0]; (repeat' split) <;> omega) _ (lv_sub hl [1, 2, 3, 0] rfl)
      · skip
        refine q_iinc (k := 0) (lv' := [(3, .int (iI (k0 + (-1)))), (0, .ref a), (1, .int (iI (d))), (2, .int (iI (b)))]) hx hb dX6_observe_53 hl rfl (by decide) rfl (fun ls hl => ?_)
        exact key_56 _ (by unfold m_nt; rw [← ek0]; (repeat' split) <;> omega) _ (lv_sub hl [1, 2, 3, 0] rfl)
  · skip
    refine lv_aload_n hx hb dX6_observe_15 rfl (lv_at hl 0 rfl) ?_
    refine q_iconst hx hb dX6_observe_16 ?_
    have hPc := hP.sub (ws' := [(a, .inr (8, [.int (iI (0)), .int (iI (σ 0)), .int (iI (σ 1)), .int (iI (σ 2)), .int (iI (σ 3)), .int (iI (σ 4)), .int (iI (σ 5)), .int (iI (σ 6)), .ref ta, .int (iI (σ 7)), .ref pa, .int (iI (σ 9)), .int (iI (σ 10))]))]) [0] rfl
    have hDc := hD.sub (ws' := [(a, .inr (8, [.int (iI (0)), .int (iI (σ 0)), .int (iI (σ 1)), .int (iI (σ 2)), .int (iI (σ 3)), .int (iI (σ 4)), .int (iI (σ 5)), .int (iI (σ 6)), .ref ta, .int (iI (σ 7)), .ref pa, .int (iI (σ 9)), .int (iI (σ 10))]))]) [0] (by decide) rfl
    have hFc := va_free (wc := [(a, .inr (8, [.int (iI (0)), .int (iI (σ 0)), .int (iI (σ 1)), .int (iI (σ 2)), .int (iI (σ 3)), .int (iI (σ 4)), .int (iI (σ 5)), .int (iI (σ 6)), .ref ta, .int (iI (σ 7)), .ref pa, .int (iI (σ 9)), .int (iI (σ 10))]))]) hD hS hA [0] rfl
    refine q_callU (fr := 0) (lo := 0) (nL := 6) (As := [.int (iI (1))]) (rest := []) ⟨hx, hb, hml, hown, hts⟩ (u_fail l D _ _ a (0) (1) _ _ _ _ _ _ _ _ _ _ _ _) (cwV 1 hts gX6_observe_X6_fail rfl rfl rfl (by decide +kernel) ⟨Nat.le_of_ble_eq_true rfl, Nat.le_of_ble_eq_true rfl⟩) (ob_recv (hP 0 _ rfl) hK rfl) hPc (hDc.weaken (fun _ _ _ _ => trivial)) hFc hS hK rfl hl.1 rfl (Nat.le_of_ble_eq_true rfl) dX6_observe_17 (Nat.le_of_ble_eq_true rfl) (Nat.le_of_ble_eq_true rfl) ?_
    intro r H1 locs1 hr1 hP1 hk1 hS1
    have hr2 := hr1 rfl
    subst hr2
    have hP1 := (hP1.resolve_right (fun z => z.1 rfl)).2
    have hP2 : va_P D vwCl ([(a, .inr (8, [.int (iI (1)), .int (iI (σ 0)), .int (iI (σ 1)), .int (iI (σ 2)), .int (iI (σ 3)), .int (iI (σ 4)), .int (iI (σ 5)), .int (iI (σ 6)), .ref ta, .int (iI (σ 7)), .ref pa, .int (iI (σ 9)), .int (iI (σ 10))])), (ta, .inl (cI, 40, .inl (fun q9 => iI (T q9)))), (pa, .inl (cI, 110, .inl (fun q9 => iI (P q9))))]) H1 := va_upd (A0 := fun _ => True) hP hk1 hP1 (by
      intro q hq
      simp only [List.mem_cons, List.not_mem_nil, or_false] at hq
      rcases hq with rfl | rfl | rfl
      · exact Or.inl (List.mem_of_getElem? (i := 0) rfl)
      · refine Or.inr ⟨List.mem_of_getElem? (i := 1) rfl, fun z hz => ?_⟩
        simp only [List.mem_cons, List.not_mem_nil, or_false] at hz
        rcases hz with rfl
        · exact vaD_ne hD (i := 0) (j := 1) rfl rfl (by decide)
      · refine Or.inr ⟨List.mem_of_getElem? (i := 2) rfl, fun z hz => ?_⟩
        simp only [List.mem_cons, List.not_mem_nil, or_false] at hz
        rcases hz with rfl
        · exact vaD_ne hD (i := 0) (j := 2) rfl rfl (by decide))
    have hD2 : va_D (va_A (WMo cI a ta pa th σ T P) sz) ([(a, .inr (8, [.int (iI (1)), .int (iI (σ 0)), .int (iI (σ 1)), .int (iI (σ 2)), .int (iI (σ 3)), .int (iI (σ 4)), .int (iI (σ 5)), .int (iI (σ 6)), .ref ta, .int (iI (σ 7)), .ref pa, .int (iI (σ 9)), .int (iI (σ 10))])), (ta, .inl (cI, 40, .inl (fun q9 => iI (T q9)))), (pa, .inl (cI, 110, .inl (fun q9 => iI (P q9))))]) := vaD_addr hD rfl
    clear hP hD hS hPc hDc hFc hP1 hk1
    have hP := hP2; have hD := hD2; have hS := hS1
    clear hP2 hD2 hS1
    generalize H1 = H at hP hS ⊢
    generalize locs1 = locs at hS ⊢
    have hER : (if 0 ≤ d ∧ d ≤ 99999 then 0 else 1 : Int) = 1 := by (repeat' split) <;> omega
    exact q_uret (ws := []) hx hb hr hlocks hS (Or.inr ⟨by rw [hER]; decide, by rw [hER]; exact hP⟩) (fun h => absurd (hER.symm.trans h) (by decide)) (Nat.le_of_ble_eq_true rfl) (Nat.le_of_ble_eq_true rfl) dX6_observe_20
set_option maxHeartbeats 4000000 in
set_option maxRecDepth 100000 in
theorem u_fill (l : Launch) (D : va_G) (sz : Nat) (cI cO cL : ClassId) (a ta pa : Nat) (th : Int) (σ T P : Nat → Int) (hW : WF σ T) (hS0 : WS σ P) (j y : Int) (hj : 0 ≤ j ∧ j ≤ 9) (hy : 0 ≤ y ∧ y ≤ 999) : MV l yX6_fill wsX6_fill 6 135 0 0 D (ty3 cI cO cL) sz (WMo cI a ta pa th σ T P) [.ref a, .int (iI (j)), .int (iI (y))] (WMo cI a ta pa th σ T (m_fl σ T P (11 * Int.toNat (j)) y (σ 6).toNat)) := by
  refine MV_of (cc := cX6_fill) (maxL := 4) (ret := none) (by decide) rfl (Nat.le_of_ble_eq_true rfl) ?_
  intro p e s m args below meth c ls hx hb hr hlocks hml hown hts hsz hP hK hD hS hA hin hl
  have hl : lv_has ls 4 [(0, .ref a), (1, .int (iI (j))), (2, .int (iI (y)))] := hl
  have hin_X6 : ∀ w ∈ u_ws RX6 TX6 13, w ∈ wsX6_fill := (fun w h => List.mem_cons_of_mem _ (List.mem_append_right _ h))
  have hP : va_P D vwCl ([(a, .inr (8, [.int (iI (th)), .int (iI (σ 0)), .int (iI (σ 1)), .int (iI (σ 2)), .int (iI (σ 3)), .int (iI (σ 4)), .int (iI (σ 5)), .int (iI (σ 6)), .ref ta, .int (iI (σ 7)), .ref pa, .int (iI (σ 9)), .int (iI (σ 10))])), (ta, .inl (cI, 40, .inl (fun q9 => iI (T q9)))), (pa, .inl (cI, 110, .inl (fun q9 => iI (P q9))))]) s.heap := hP
  have hD : va_D (va_A (WMo cI a ta pa th σ T P) sz) ([(a, .inr (8, [.int (iI (th)), .int (iI (σ 0)), .int (iI (σ 1)), .int (iI (σ 2)), .int (iI (σ 3)), .int (iI (σ 4)), .int (iI (σ 5)), .int (iI (σ 6)), .ref ta, .int (iI (σ 7)), .ref pa, .int (iI (σ 9)), .int (iI (σ 10))])), (ta, .inl (cI, 40, .inl (fun q9 => iI (T q9)))), (pa, .inl (cI, 110, .inl (fun q9 => iI (P q9))))]) := hD
  obtain ⟨w0, w1, w2, w3, w4, w5, w6, w7, w8⟩ := id hW
  refine lv_aload_n hx hb dX6_fill_0 rfl (lv_at hl 0 rfl) ?_
  refine q_get (ci := 8) (C := RX6) (T := TX6) (N := 13) hx hb hts hin_X6 hown hK (v := .ref pa) (hP 0 _ rfl) rfl 10 (by decide) (hts (.fieldLink RX6 27 "AlmanacHouseModel" "paper" "[I") (List.mem_of_getElem? (i := 1) rfl)) (fun _ h9 => h9) rfl dX6_fill_1 ?_
  refine q_bipush hx hb dX6_fill_4 (by decide) ?_
  refine lv_iload_n hx hb dX6_fill_6 rfl (lv_at hl 1 rfl) ?_
  refine q_imul hx hb dX6_fill_7 ?_
  refine q_iconst hx hb dX6_fill_8 ?_
  refine q_iadd hx hb dX6_fill_9 ?_
  refine lv_iload_n hx hb dX6_fill_10 rfl (lv_at hl 2 rfl) ?_
  refine q_iast (f := P) hx hb hK hP hD hS 2 0 rfl rfl (11 * Int.toNat (j)) (by omega) (by omega) (by decide) dX6_fill_11 (fun H locs hP hD hS => ?_)
  have hP : va_P D vwCl ([(a, .inr (8, [.int (iI (th)), .int (iI (σ 0)), .int (iI (σ 1)), .int (iI (σ 2)), .int (iI (σ 3)), .int (iI (σ 4)), .int (iI (σ 5)), .int (iI (σ 6)), .ref ta, .int (iI (σ 7)), .ref pa, .int (iI (σ 9)), .int (iI (σ 10))])), (ta, .inl (cI, 40, .inl (fun q9 => iI (T q9)))), (pa, .inl (cI, 110, .inl (fun q9 => iI (((st P (11 * Int.toNat (j)) (y))) q9))))]) H := hP
  have hD : va_D (va_A (WMo cI a ta pa th σ T P) sz) ([(a, .inr (8, [.int (iI (th)), .int (iI (σ 0)), .int (iI (σ 1)), .int (iI (σ 2)), .int (iI (σ 3)), .int (iI (σ 4)), .int (iI (σ 5)), .int (iI (σ 6)), .ref ta, .int (iI (σ 7)), .ref pa, .int (iI (σ 9)), .int (iI (σ 10))])), (ta, .inl (cI, 40, .inl (fun q9 => iI (T q9)))), (pa, .inl (cI, 110, .inl (fun q9 => iI (((st P (11 * Int.toNat (j)) (y))) q9))))]) := hD
  refine lv_aload_n hx hb dX6_fill_12 rfl (lv_at hl 0 rfl) ?_
  refine q_get (ci := 8) (C := RX6) (T := TX6) (N := 13) hx hb hts hin_X6 hown hK (v := .ref pa) (hP 0 _ rfl) rfl 10 (by decide) (hts (.fieldLink RX6 27 "AlmanacHouseModel" "paper" "[I") (List.mem_of_getElem? (i := 1) rfl)) (fun _ h9 => h9) rfl dX6_fill_13 ?_
  refine q_bipush hx hb dX6_fill_16 (by decide) ?_
  refine lv_iload_n hx hb dX6_fill_18 rfl (lv_at hl 1 rfl) ?_
  refine q_imul hx hb dX6_fill_19 ?_
  refine q_iconst hx hb dX6_fill_20 ?_
  refine q_iadd hx hb dX6_fill_21 ?_
  refine lv_aload_n hx hb dX6_fill_22 rfl (lv_at hl 0 rfl) ?_
  refine q_get (ci := 8) (C := RX6) (T := TX6) (N := 13) hx hb hts hin_X6 hown hK (v := .int (iI (σ 6))) (hP 0 _ rfl) rfl 7 (by decide) (hts (.fieldLink RX6 140 "AlmanacHouseModel" "feasts" "I") (List.mem_of_getElem? (i := 2) rfl)) (fun _ h9 => h9) rfl dX6_fill_23 ?_
  refine q_iast (f := ((st P (11 * Int.toNat (j)) (y)))) hx hb hK hP hD hS 2 0 rfl rfl (11 * Int.toNat (j) + 1) (by omega) (by omega) (by decide) dX6_fill_26 (fun H locs hP hD hS => ?_)
  have hP : va_P D vwCl ([(a, .inr (8, [.int (iI (th)), .int (iI (σ 0)), .int (iI (σ 1)), .int (iI (σ 2)), .int (iI (σ 3)), .int (iI (σ 4)), .int (iI (σ 5)), .int (iI (σ 6)), .ref ta, .int (iI (σ 7)), .ref pa, .int (iI (σ 9)), .int (iI (σ 10))])), (ta, .inl (cI, 40, .inl (fun q9 => iI (T q9)))), (pa, .inl (cI, 110, .inl (fun q9 => iI (((st ((st P (11 * Int.toNat (j)) (y))) (11 * Int.toNat (j) + 1) (σ 6))) q9))))]) H := hP
  have hD : va_D (va_A (WMo cI a ta pa th σ T P) sz) ([(a, .inr (8, [.int (iI (th)), .int (iI (σ 0)), .int (iI (σ 1)), .int (iI (σ 2)), .int (iI (σ 3)), .int (iI (σ 4)), .int (iI (σ 5)), .int (iI (σ 6)), .ref ta, .int (iI (σ 7)), .ref pa, .int (iI (σ 9)), .int (iI (σ 10))])), (ta, .inl (cI, 40, .inl (fun q9 => iI (T q9)))), (pa, .inl (cI, 110, .inl (fun q9 => iI (((st ((st P (11 * Int.toNat (j)) (y))) (11 * Int.toNat (j) + 1) (σ 6))) q9))))]) := hD
  have hS1 : WS σ (st P (11 * Int.toNat (j)) y) := WS_put (u := 0) hS0 (by omega) (fun _ => hy) (fun h => by omega) (fun h => by omega) (fun h => by omega)
  have hS2 : WS σ (st (st P (11 * Int.toNat (j)) y) (11 * Int.toNat (j) + 1) (σ 6)) := WS_put (u := 1) hS1 (by omega) (fun h => by omega) (fun _ => by omega) (fun h => by omega) (fun h => by omega)
  refine lv_aload_n hx hb dX6_fill_27 rfl (lv_at hl 0 rfl) ?_
  refine q_get (ci := 8) (C := RX6) (T := TX6) (N := 13) hx hb hts hin_X6 hown hK (v := .ref pa) (hP 0 _ rfl) rfl 10 (by decide) (hts (.fieldLink RX6 27 "AlmanacHouseModel" "paper" "[I") (List.mem_of_getElem? (i := 1) rfl)) (fun _ h9 => h9) rfl dX6_fill_28 ?_
  refine q_bipush hx hb dX6_fill_31 (by decide) ?_
  refine lv_iload_n hx hb dX6_fill_33 rfl (lv_at hl 1 rfl) ?_
  refine q_imul hx hb dX6_fill_34 ?_
  refine q_iconst hx hb dX6_fill_35 ?_
  refine q_iadd hx hb dX6_fill_36 ?_
  refine lv_aload_n hx hb dX6_fill_37 rfl (lv_at hl 0 rfl) ?_
  refine lv_iload_n hx hb dX6_fill_38 rfl (lv_at hl 2 rfl) ?_
  refine q_callV (fr := 5) (lo := 114) (nL := 4) (Pic := PicM D cI a ta pa (th) σ T ((st ((st P (11 * Int.toNat (j)) (y))) (11 * Int.toNat (j) + 1) (σ 6)))) (As := [.int (iI (y))]) (rest := [.int (iI ((11 * j) + (2))), .ref pa]) ⟨hx, hb, hml, hown, hts⟩ (c_allEclipses l D cI cO cL a ta pa (th) σ T ((st ((st P (11 * Int.toNat (j)) (y))) (11 * Int.toNat (j) + 1) (σ 6))) hW hS2 (y) (by omega)) (cwV 1 hts gX6_fill_X6_allEclipses rfl rfl rfl (by decide +kernel) ⟨Nat.le_of_ble_eq_true rfl, Nat.le_of_ble_eq_true rfl⟩) (ob_recv (hP 0 _ rfl) hK rfl) hP hK rfl hl.1 rfl (Nat.le_of_ble_eq_true rfl) dX6_fill_39 (Nat.zero_le _) (Nat.zero_le _) ?_
  have hE39a := m_Eb_in hW (y := (y)) (b := 0) (by omega)
  have hE39b := m_Eb_in hW (y := (y)) (b := 1) (by omega)
  have hE39c : m_E σ (y) = m_Eb σ (y) 0 + m_Eb σ (y) 1 := rfl
  refine q_iast (f := ((st ((st P (11 * Int.toNat (j)) (y))) (11 * Int.toNat (j) + 1) (σ 6)))) hx hb hK hP hD hS 2 0 rfl rfl (11 * Int.toNat (j) + 2) (by omega) (by omega) (by decide) dX6_fill_42 (fun H locs hP hD hS => ?_)
  have hP : va_P D vwCl ([(a, .inr (8, [.int (iI (th)), .int (iI (σ 0)), .int (iI (σ 1)), .int (iI (σ 2)), .int (iI (σ 3)), .int (iI (σ 4)), .int (iI (σ 5)), .int (iI (σ 6)), .ref ta, .int (iI (σ 7)), .ref pa, .int (iI (σ 9)), .int (iI (σ 10))])), (ta, .inl (cI, 40, .inl (fun q9 => iI (T q9)))), (pa, .inl (cI, 110, .inl (fun q9 => iI (((st ((st ((st P (11 * Int.toNat (j)) (y))) (11 * Int.toNat (j) + 1) (σ 6))) (11 * Int.toNat (j) + 2) (m_E σ (y)))) q9))))]) H := hP
  have hD : va_D (va_A (WMo cI a ta pa th σ T P) sz) ([(a, .inr (8, [.int (iI (th)), .int (iI (σ 0)), .int (iI (σ 1)), .int (iI (σ 2)), .int (iI (σ 3)), .int (iI (σ 4)), .int (iI (σ 5)), .int (iI (σ 6)), .ref ta, .int (iI (σ 7)), .ref pa, .int (iI (σ 9)), .int (iI (σ 10))])), (ta, .inl (cI, 40, .inl (fun q9 => iI (T q9)))), (pa, .inl (cI, 110, .inl (fun q9 => iI (((st ((st ((st P (11 * Int.toNat (j)) (y))) (11 * Int.toNat (j) + 1) (σ 6))) (11 * Int.toNat (j) + 2) (m_E σ (y)))) q9))))]) := hD
  refine q_iconst hx hb dX6_fill_43 ?_
  refine lv_istore_n (lv' := [(3, .int (iI (0))), (0, .ref a), (1, .int (iI (j))), (2, .int (iI (y)))]) hx hb dX6_fill_44 rfl hl (by decide) rfl (fun ls hl => ?_)
  have key_45 : ∀ (fu : Nat) (k : Int), 0 ≤ k ∧ k ≤ σ 6 → (((σ 6 - k).toNat : Int)) < (fu : Int) → ∀ (H : Heap) (locs : List Loc), va_P D vwCl ([(a, .inr (8, [.int (iI (th)), .int (iI (σ 0)), .int (iI (σ 1)), .int (iI (σ 2)), .int (iI (σ 3)), .int (iI (σ 4)), .int (iI (σ 5)), .int (iI (σ 6)), .ref ta, .int (iI (σ 7)), .ref pa, .int (iI (σ 9)), .int (iI (σ 10))])), (ta, .inl (cI, 40, .inl (fun q9 => iI (T q9)))), (pa, .inl (cI, 110, .inl (fun q9 => iI ((m_fl σ T P (11 * Int.toNat (j)) y k.toNat) q9))))]) H → va_D (va_A (WMo cI a ta pa th σ T P) sz) ([(a, .inr (8, [.int (iI (th)), .int (iI (σ 0)), .int (iI (σ 1)), .int (iI (σ 2)), .int (iI (σ 3)), .int (iI (σ 4)), .int (iI (σ 5)), .int (iI (σ 6)), .ref ta, .int (iI (σ 7)), .ref pa, .int (iI (σ 9)), .int (iI (σ 10))])), (ta, .inl (cI, 40, .inl (fun q9 => iI (T q9)))), (pa, .inl (cI, 110, .inl (fun q9 => iI ((m_fl σ T P (11 * Int.toNat (j)) y k.toNat) q9))))]) → va_S (va_A (WMo cI a ta pa th σ T P) sz) s.heap H locs → ∀ ls : Array Slot, lv_has ls 4 [(0, .ref a), (1, .int (iI (j))), (2, .int (iI (y))), (3, .int (iI (k)))] → W p l e { frames := 6, cells := 0, slots := 0, locals := 135 } s m args below meth c H locs 0 0 (MQ below (va_Qv (fun (_ : Unit) => True) (fun _ t => va_P D vwCl (WMo cI a ta pa th σ T (m_fl σ T P (11 * Int.toNat (j)) y (σ 6).toNat)) t.heap) (va_A (WMo cI a ta pa th σ T P) sz)) args s 0 0 (va_A (WMo cI a ta pa th σ T P) sz)) (F0 m 45 ls []) := by
    intro fu
    induction fu with
    | zero => intro k hk hm_45 H locs hP hD hS ls hl; exact absurd hm_45 (by omega)
    | succ fu ih_45 =>
      intro k hk hm_45 H locs hP hD hS ls hl
      have hSk : WS σ (m_fl σ T P (11 * Int.toNat (j)) y k.toNat) := m_fl_WS hW hS0 hy (by omega)
      refine lv_iload_n hx hb dX6_fill_45 rfl (lv_at hl 3 rfl) ?_
      refine lv_aload_n hx hb dX6_fill_46 rfl (lv_at hl 0 rfl) ?_
      refine q_get (ci := 8) (C := RX6) (T := TX6) (N := 13) hx hb hts hin_X6 hown hK (v := .int (iI (σ 6))) (hP 0 _ rfl) rfl 7 (by decide) (hts (.fieldLink RX6 140 "AlmanacHouseModel" "feasts" "I") (List.mem_of_getElem? (i := 2) rfl)) (fun _ h9 => h9) rfl dX6_fill_47 ?_
      refine q_icmp_ge (tgt := 78) hx hb dX6_fill_50 (by decide) (by omega) (by omega) (fun c_1 => ?_) (fun c_1 => ?_)
      · skip
        exact q_vret hx hb hr hlocks hS (by rw [show k.toNat = (σ 6).toNat by omega] at hP; exact hP) (Nat.le_of_ble_eq_true rfl) (Nat.le_of_ble_eq_true rfl) dX6_fill_78
      · skip
        refine lv_aload_n hx hb dX6_fill_53 rfl (lv_at hl 0 rfl) ?_
        refine q_get (ci := 8) (C := RX6) (T := TX6) (N := 13) hx hb hts hin_X6 hown hK (v := .ref pa) (hP 0 _ rfl) rfl 10 (by decide) (hts (.fieldLink RX6 27 "AlmanacHouseModel" "paper" "[I") (List.mem_of_getElem? (i := 1) rfl)) (fun _ h9 => h9) rfl dX6_fill_54 ?_
        refine q_bipush hx hb dX6_fill_57 (by decide) ?_
        refine lv_iload_n hx hb dX6_fill_59 rfl (lv_at hl 1 rfl) ?_
        refine q_imul hx hb dX6_fill_60 ?_
        refine q_iconst hx hb dX6_fill_61 ?_
        refine q_iadd hx hb dX6_fill_62 ?_
        refine lv_iload_n hx hb dX6_fill_63 rfl (lv_at hl 3 rfl) ?_
        refine q_iadd hx hb dX6_fill_64 ?_
        refine lv_aload_n hx hb dX6_fill_65 rfl (lv_at hl 0 rfl) ?_
        refine lv_iload_n hx hb dX6_fill_66 rfl (lv_at hl 3 rfl) ?_
        refine lv_iload_n hx hb dX6_fill_67 rfl (lv_at hl 2 rfl) ?_
        refine q_callV (fr := 3) (lo := 69) (nL := 4) (Pic := PicM D cI a ta pa (th) σ T (m_fl σ T P (11 * Int.toNat (j)) y k.toNat)) (As := [.int (iI (k)), .int (iI (y))]) (rest := [.int (iI (((11 * j) + (3)) + (k))), .ref pa]) ⟨hx, hb, hml, hown, hts⟩ (c_feastDayM l D cI cO cL a ta pa (th) σ T (m_fl σ T P (11 * Int.toNat (j)) y k.toNat) hW hSk (k) (y) (by omega) (by omega)) (cwV 2 hts gX6_fill_X6_feastDay rfl rfl rfl (by decide +kernel) ⟨Nat.le_of_ble_eq_true rfl, Nat.le_of_ble_eq_true rfl⟩) (ob_recv (hP 0 _ rfl) hK rfl) hP hK rfl hl.1 rfl (Nat.le_of_ble_eq_true rfl) dX6_fill_68 (Nat.zero_le _) (Nat.zero_le _) ?_
        have hF68 := m_F_in hW (i := Int.toNat (k)) (by omega) (y := y) (by omega)
        refine q_iast (f := (m_fl σ T P (11 * Int.toNat (j)) y k.toNat)) hx hb hK hP hD hS 2 0 rfl rfl (11 * Int.toNat (j) + 3 + k.toNat) (by omega) (by omega) (by decide) dX6_fill_71 (fun H locs hP hD hS => ?_)
        have hP : va_P D vwCl ([(a, .inr (8, [.int (iI (th)), .int (iI (σ 0)), .int (iI (σ 1)), .int (iI (σ 2)), .int (iI (σ 3)), .int (iI (σ 4)), .int (iI (σ 5)), .int (iI (σ 6)), .ref ta, .int (iI (σ 7)), .ref pa, .int (iI (σ 9)), .int (iI (σ 10))])), (ta, .inl (cI, 40, .inl (fun q9 => iI (T q9)))), (pa, .inl (cI, 110, .inl (fun q9 => iI (((st (m_fl σ T P (11 * Int.toNat (j)) y k.toNat) (11 * Int.toNat (j) + 3 + k.toNat) (m_F σ T (Int.toNat (k)) (y)))) q9))))]) H := hP
        have hD : va_D (va_A (WMo cI a ta pa th σ T P) sz) ([(a, .inr (8, [.int (iI (th)), .int (iI (σ 0)), .int (iI (σ 1)), .int (iI (σ 2)), .int (iI (σ 3)), .int (iI (σ 4)), .int (iI (σ 5)), .int (iI (σ 6)), .ref ta, .int (iI (σ 7)), .ref pa, .int (iI (σ 9)), .int (iI (σ 10))])), (ta, .inl (cI, 40, .inl (fun q9 => iI (T q9)))), (pa, .inl (cI, 110, .inl (fun q9 => iI (((st (m_fl σ T P (11 * Int.toNat (j)) y k.toNat) (11 * Int.toNat (j) + 3 + k.toNat) (m_F σ T (Int.toNat (k)) (y)))) q9))))]) := hD
        refine q_iinc (k := 3) (lv' := [(3, .int (iI (k + 1))), (0, .ref a), (1, .int (iI (j))), (2, .int (iI (y)))]) hx hb dX6_fill_72 hl rfl (by decide) rfl (fun ls hl => ?_)
        refine lv_goto (tgt := 45) hx hb dX6_fill_75 (by decide) ?_
        have hm1 := m_fl_step σ T P (11 * Int.toNat (j)) y hk.1
        rw [hm1] at hP hD
        exact ih_45 (k + 1) (by omega) (by omega) _ _ (hP) (hD) hS _ (lv_sub hl [1, 2, 3, 0] rfl)
  have hm0 := m_fl_0 σ T P (11 * Int.toNat (j)) y
  rw [hm0] at hP hD
  exact key_45 ((σ 6).toNat + 1) 0 (by omega) (by omega) _ _ (hP) (hD) hS _ (lv_sub hl [1, 2, 3, 0] rfl)
set_option maxHeartbeats 4000000 in
set_option maxRecDepth 100000 in
theorem u_print (l : Launch) (D : va_G) (sz : Nat) (cI cO cL : ClassId) (a ta pa : Nat) (th : Int) (σ T P : Nat → Int) (hW : WF σ T) (hS0 : WS σ P) (y : Int) (hyr : -2147483648 ≤ y ∧ y < 2147483648) : MU l yX6_print wsX6_print 7 158 0 0 D (ty3 cI cO cL) sz (WMo cI a ta pa th σ T P) [.ref a, .int (iI (y))] (if 0 ≤ y ∧ y < 1000 then (if σ 7 = 10 then 2 else 0) else 1) (σ 7) (WMo cI a ta pa 0 (st σ 7 (σ 7 + 1)) (T) (m_fl σ T P (11 * (σ 7).toNat) y (σ 6).toNat)) (WMo cI a ta pa (if 0 ≤ y ∧ y < 1000 then (if σ 7 = 10 then 2 else 0) else 1) σ T P) := by
  refine MU_of (cc := cX6_print) (maxL := 2) (ret := (some .int)) (by decide) rfl (Nat.le_of_ble_eq_true rfl) ?_
  intro p e s m args below meth c ls hx hb hr hlocks hml hown hts hsz hP hK hD hS hA hl
  have hl : lv_has ls 2 [(0, .ref a), (1, .int (iI (y)))] := hl
  have hin_X6 : ∀ w ∈ u_ws RX6 TX6 13, w ∈ wsX6_print := (fun w h => List.mem_cons_of_mem _ (List.mem_append_right _ h))
  have hP : va_P D vwCl ([(a, .inr (8, [.int (iI (th)), .int (iI (σ 0)), .int (iI (σ 1)), .int (iI (σ 2)), .int (iI (σ 3)), .int (iI (σ 4)), .int (iI (σ 5)), .int (iI (σ 6)), .ref ta, .int (iI (σ 7)), .ref pa, .int (iI (σ 9)), .int (iI (σ 10))])), (ta, .inl (cI, 40, .inl (fun q9 => iI (T q9)))), (pa, .inl (cI, 110, .inl (fun q9 => iI (P q9))))]) s.heap := hP
  have hD : va_D (va_A (WMo cI a ta pa th σ T P) sz) ([(a, .inr (8, [.int (iI (th)), .int (iI (σ 0)), .int (iI (σ 1)), .int (iI (σ 2)), .int (iI (σ 3)), .int (iI (σ 4)), .int (iI (σ 5)), .int (iI (σ 6)), .ref ta, .int (iI (σ 7)), .ref pa, .int (iI (σ 9)), .int (iI (σ 10))])), (ta, .inl (cI, 40, .inl (fun q9 => iI (T q9)))), (pa, .inl (cI, 110, .inl (fun q9 => iI (P q9))))]) := hD
  obtain ⟨w0, w1, w2, w3, w4, w5, w6, w7, w8⟩ := id hW
  refine lv_aload_n hx hb dX6_print_0 rfl (lv_at hl 0 rfl) ?_
  refine q_iconst hx hb dX6_print_1 ?_
  refine va_put (D := D) (ci := 8) (v := .int (iI (0))) (ty := .int) (C := RX6) (T := TX6) (N := 13) hx hb hts hin_X6 tyX6 tyX6_ok nmX6 hown hK hP hD hS 0 rfl rfl 0 (by decide) (hts (.fieldLink RX6 30 "AlmanacHouseModel" "thrown" "I") (List.mem_of_getElem? (i := 1) rfl)) (fun _ h9 => h9) rfl (by decide +kernel) rfl rfl (Nat.le_of_ble_eq_true rfl) dX6_print_2 (fun H locs hP hD hS => ?_)
  have hP : va_P D vwCl ([(a, .inr (8, [.int (iI (0)), .int (iI (σ 0)), .int (iI (σ 1)), .int (iI (σ 2)), .int (iI (σ 3)), .int (iI (σ 4)), .int (iI (σ 5)), .int (iI (σ 6)), .ref ta, .int (iI (σ 7)), .ref pa, .int (iI (σ 9)), .int (iI (σ 10))])), (ta, .inl (cI, 40, .inl (fun q9 => iI (T q9)))), (pa, .inl (cI, 110, .inl (fun q9 => iI (P q9))))]) H := hP
  have hD : va_D (va_A (WMo cI a ta pa th σ T P) sz) ([(a, .inr (8, [.int (iI (0)), .int (iI (σ 0)), .int (iI (σ 1)), .int (iI (σ 2)), .int (iI (σ 3)), .int (iI (σ 4)), .int (iI (σ 5)), .int (iI (σ 6)), .ref ta, .int (iI (σ 7)), .ref pa, .int (iI (σ 9)), .int (iI (σ 10))])), (ta, .inl (cI, 40, .inl (fun q9 => iI (T q9)))), (pa, .inl (cI, 110, .inl (fun q9 => iI (P q9))))]) := hD
  refine lv_iload_n hx hb dX6_print_5 rfl (lv_at hl 1 rfl) ?_
  refine q_callS (fr := 1) (lo := 22) (nL := 2) (Pic := fun _ => True) (As := [.int (iI (y))]) (rest := []) ⟨hx, hb, hml, hown, hts⟩ (c_isYearM l D (ty3 cI cO cL) (y) (by omega)) (va_cwS 1 hts gX6_print_X6_isYear rfl rfl rfl (by decide +kernel) ⟨Nat.le_of_ble_eq_true rfl, Nat.le_of_ble_eq_true rfl⟩) trivial hK rfl hl.1 rfl (Nat.le_of_ble_eq_true rfl) dX6_print_6 (Nat.zero_le _) (Nat.zero_le _) ?_
  refine q_pif_ne (tgt := 18) hx hb dX6_print_9 (by decide) (fun c_1 => ?_) (fun c_1 => ?_)
  · skip
    refine lv_aload_n hx hb dX6_print_18 rfl (lv_at hl 0 rfl) ?_
    refine q_get (ci := 8) (C := RX6) (T := TX6) (N := 13) hx hb hts hin_X6 hown hK (v := .int (iI (σ 7))) (hP 0 _ rfl) rfl 9 (by decide) (hts (.fieldLink RX6 161 "AlmanacHouseModel" "sheets" "I") (List.mem_of_getElem? (i := 2) rfl)) (fun _ h9 => h9) rfl dX6_print_19 ?_
    refine q_bipush hx hb dX6_print_22 (by decide) ?_
    refine q_icmp_ne (tgt := 33) hx hb dX6_print_24 (by decide) (by omega) (by omega) (fun c_2 => ?_) (fun c_2 => ?_)
    · skip
      refine lv_aload_n hx hb dX6_print_33 rfl (lv_at hl 0 rfl) ?_
      refine lv_aload_n hx hb dX6_print_34 rfl (lv_at hl 0 rfl) ?_
      refine q_get (ci := 8) (C := RX6) (T := TX6) (N := 13) hx hb hts hin_X6 hown hK (v := .int (iI (σ 7))) (hP 0 _ rfl) rfl 9 (by decide) (hts (.fieldLink RX6 161 "AlmanacHouseModel" "sheets" "I") (List.mem_of_getElem? (i := 2) rfl)) (fun _ h9 => h9) rfl dX6_print_35 ?_
      refine lv_iload_n hx hb dX6_print_38 rfl (lv_at hl 1 rfl) ?_
      have hPc := hP.sub (ws' := [(a, .inr (8, [.int (iI (0)), .int (iI (σ 0)), .int (iI (σ 1)), .int (iI (σ 2)), .int (iI (σ 3)), .int (iI (σ 4)), .int (iI (σ 5)), .int (iI (σ 6)), .ref ta, .int (iI (σ 7)), .ref pa, .int (iI (σ 9)), .int (iI (σ 10))])), (ta, .inl (cI, 40, .inl (fun q9 => iI (T q9)))), (pa, .inl (cI, 110, .inl (fun q9 => iI (P q9))))]) [0, 1, 2] rfl
      have hDc := hD.sub (ws' := [(a, .inr (8, [.int (iI (0)), .int (iI (σ 0)), .int (iI (σ 1)), .int (iI (σ 2)), .int (iI (σ 3)), .int (iI (σ 4)), .int (iI (σ 5)), .int (iI (σ 6)), .ref ta, .int (iI (σ 7)), .ref pa, .int (iI (σ 9)), .int (iI (σ 10))])), (ta, .inl (cI, 40, .inl (fun q9 => iI (T q9)))), (pa, .inl (cI, 110, .inl (fun q9 => iI (P q9))))]) [0, 1, 2] (by decide) rfl
      have hFc := va_free (wc := [(a, .inr (8, [.int (iI (0)), .int (iI (σ 0)), .int (iI (σ 1)), .int (iI (σ 2)), .int (iI (σ 3)), .int (iI (σ 4)), .int (iI (σ 5)), .int (iI (σ 6)), .ref ta, .int (iI (σ 7)), .ref pa, .int (iI (σ 9)), .int (iI (σ 10))])), (ta, .inl (cI, 40, .inl (fun q9 => iI (T q9)))), (pa, .inl (cI, 110, .inl (fun q9 => iI (P q9))))]) hD hS hA [0, 1, 2] rfl
      refine q_callUv (fr := 6) (lo := 135) (nL := 2) (As := [.int (iI (σ 7)), .int (iI (y))]) (rest := []) ⟨hx, hb, hml, hown, hts⟩ (u_fill l D _ cI cO cL a ta pa (0) σ T P hW hS0 (σ 7) (y) (by omega) (by omega)) (cwV 2 hts gX6_print_X6_fill rfl rfl rfl (by decide +kernel) ⟨Nat.le_of_ble_eq_true rfl, Nat.le_of_ble_eq_true rfl⟩) (ob_recv (hP 0 _ rfl) hK rfl) hPc (hDc.weaken (fun _ _ _ _ => trivial)) hFc hS hK rfl hl.1 rfl (Nat.le_of_ble_eq_true rfl) dX6_print_39 (Nat.le_of_ble_eq_true rfl) (Nat.le_of_ble_eq_true rfl) ?_
      intro H1 locs1 hP1 hk1 hS1
      have hP2 : va_P D vwCl ([(a, .inr (8, [.int (iI (0)), .int (iI (σ 0)), .int (iI (σ 1)), .int (iI (σ 2)), .int (iI (σ 3)), .int (iI (σ 4)), .int (iI (σ 5)), .int (iI (σ 6)), .ref ta, .int (iI (σ 7)), .ref pa, .int (iI (σ 9)), .int (iI (σ 10))])), (ta, .inl (cI, 40, .inl (fun q9 => iI (T q9)))), (pa, .inl (cI, 110, .inl (fun q9 => iI ((m_fl σ T P (11 * Int.toNat (σ 7)) (y) (σ 6).toNat) q9))))]) H1 := va_upd (A0 := fun _ => True) hP hk1 hP1 (by
        intro q hq
        simp only [List.mem_cons, List.not_mem_nil, or_false] at hq
        rcases hq with rfl | rfl | rfl
        · exact Or.inl (List.mem_of_getElem? (i := 0) rfl)
        · exact Or.inl (List.mem_of_getElem? (i := 1) rfl)
        · exact Or.inl (List.mem_of_getElem? (i := 2) rfl))
      have hD2 : va_D (va_A (WMo cI a ta pa th σ T P) sz) ([(a, .inr (8, [.int (iI (0)), .int (iI (σ 0)), .int (iI (σ 1)), .int (iI (σ 2)), .int (iI (σ 3)), .int (iI (σ 4)), .int (iI (σ 5)), .int (iI (σ 6)), .ref ta, .int (iI (σ 7)), .ref pa, .int (iI (σ 9)), .int (iI (σ 10))])), (ta, .inl (cI, 40, .inl (fun q9 => iI (T q9)))), (pa, .inl (cI, 110, .inl (fun q9 => iI ((m_fl σ T P (11 * Int.toNat (σ 7)) (y) (σ 6).toNat) q9))))]) := vaD_addr hD rfl
      clear hP hD hS hPc hDc hFc hP1 hk1
      have hP := hP2; have hD := hD2; have hS := hS1
      clear hP2 hD2 hS1
      generalize H1 = H at hP hS ⊢
      generalize locs1 = locs at hS ⊢
      refine lv_aload_n hx hb dX6_print_42 rfl (lv_at hl 0 rfl) ?_
      refine lv_dup hx hb dX6_print_43 rfl ?_
      refine q_get (ci := 8) (C := RX6) (T := TX6) (N := 13) hx hb hts hin_X6 hown hK (v := .int (iI (σ 7))) (hP 0 _ rfl) rfl 9 (by decide) (hts (.fieldLink RX6 161 "AlmanacHouseModel" "sheets" "I") (List.mem_of_getElem? (i := 2) rfl)) (fun _ h9 => h9) rfl dX6_print_44 ?_
      refine q_iconst hx hb dX6_print_47 ?_
      refine q_iadd hx hb dX6_print_48 ?_
      refine va_put (D := D) (ci := 8) (v := .int (iI ((σ 7) + (1)))) (ty := .int) (C := RX6) (T := TX6) (N := 13) hx hb hts hin_X6 tyX6 tyX6_ok nmX6 hown hK hP hD hS 0 rfl rfl 9 (by decide) (hts (.fieldLink RX6 161 "AlmanacHouseModel" "sheets" "I") (List.mem_of_getElem? (i := 2) rfl)) (fun _ h9 => h9) rfl (by decide +kernel) rfl rfl (Nat.le_of_ble_eq_true rfl) dX6_print_49 (fun H locs hP hD hS => ?_)
      have hP : va_P D vwCl ([(a, .inr (8, [.int (iI (0)), .int (iI (σ 0)), .int (iI (σ 1)), .int (iI (σ 2)), .int (iI (σ 3)), .int (iI (σ 4)), .int (iI (σ 5)), .int (iI (σ 6)), .ref ta, .int (iI ((σ 7) + (1))), .ref pa, .int (iI (σ 9)), .int (iI (σ 10))])), (ta, .inl (cI, 40, .inl (fun q9 => iI (T q9)))), (pa, .inl (cI, 110, .inl (fun q9 => iI ((m_fl σ T P (11 * Int.toNat (σ 7)) (y) (σ 6).toNat) q9))))]) H := hP
      have hD : va_D (va_A (WMo cI a ta pa th σ T P) sz) ([(a, .inr (8, [.int (iI (0)), .int (iI (σ 0)), .int (iI (σ 1)), .int (iI (σ 2)), .int (iI (σ 3)), .int (iI (σ 4)), .int (iI (σ 5)), .int (iI (σ 6)), .ref ta, .int (iI ((σ 7) + (1))), .ref pa, .int (iI (σ 9)), .int (iI (σ 10))])), (ta, .inl (cI, 40, .inl (fun q9 => iI (T q9)))), (pa, .inl (cI, 110, .inl (fun q9 => iI ((m_fl σ T P (11 * Int.toNat (σ 7)) (y) (σ 6).toNat) q9))))]) := hD
      refine lv_aload_n hx hb dX6_print_52 rfl (lv_at hl 0 rfl) ?_
      refine q_get (ci := 8) (C := RX6) (T := TX6) (N := 13) hx hb hts hin_X6 hown hK (v := .int (iI ((σ 7) + (1)))) (hP 0 _ rfl) rfl 9 (by decide) (hts (.fieldLink RX6 161 "AlmanacHouseModel" "sheets" "I") (List.mem_of_getElem? (i := 2) rfl)) (fun _ h9 => h9) rfl dX6_print_53 ?_
      refine q_iconst hx hb dX6_print_56 ?_
      refine q_isub hx hb dX6_print_57 ?_
      have hER : (if 0 ≤ y ∧ y < 1000 then (if σ 7 = 10 then 2 else 0) else 1 : Int) = 0 := by (repeat' split) <;> omega
      exact q_uret (ws := []) hx hb hr hlocks hS (Or.inl ⟨hER, hP⟩) (fun _ => by omega) (Nat.le_of_ble_eq_true rfl) (Nat.le_of_ble_eq_true rfl) dX6_print_58
    · skip
      refine lv_aload_n hx hb dX6_print_27 rfl (lv_at hl 0 rfl) ?_
      refine q_iconst hx hb dX6_print_28 ?_
      have hPc := hP.sub (ws' := [(a, .inr (8, [.int (iI (0)), .int (iI (σ 0)), .int (iI (σ 1)), .int (iI (σ 2)), .int (iI (σ 3)), .int (iI (σ 4)), .int (iI (σ 5)), .int (iI (σ 6)), .ref ta, .int (iI (σ 7)), .ref pa, .int (iI (σ 9)), .int (iI (σ 10))]))]) [0] rfl
      have hDc := hD.sub (ws' := [(a, .inr (8, [.int (iI (0)), .int (iI (σ 0)), .int (iI (σ 1)), .int (iI (σ 2)), .int (iI (σ 3)), .int (iI (σ 4)), .int (iI (σ 5)), .int (iI (σ 6)), .ref ta, .int (iI (σ 7)), .ref pa, .int (iI (σ 9)), .int (iI (σ 10))]))]) [0] (by decide) rfl
      have hFc := va_free (wc := [(a, .inr (8, [.int (iI (0)), .int (iI (σ 0)), .int (iI (σ 1)), .int (iI (σ 2)), .int (iI (σ 3)), .int (iI (σ 4)), .int (iI (σ 5)), .int (iI (σ 6)), .ref ta, .int (iI (σ 7)), .ref pa, .int (iI (σ 9)), .int (iI (σ 10))]))]) hD hS hA [0] rfl
      refine q_callU (fr := 0) (lo := 0) (nL := 2) (As := [.int (iI (2))]) (rest := []) ⟨hx, hb, hml, hown, hts⟩ (u_fail l D _ _ a (0) (2) _ _ _ _ _ _ _ _ _ _ _ _) (cwV 1 hts gX6_print_X6_fail rfl rfl rfl (by decide +kernel) ⟨Nat.le_of_ble_eq_true rfl, Nat.le_of_ble_eq_true rfl⟩) (ob_recv (hP 0 _ rfl) hK rfl) hPc (hDc.weaken (fun _ _ _ _ => trivial)) hFc hS hK rfl hl.1 rfl (Nat.le_of_ble_eq_true rfl) dX6_print_29 (Nat.le_of_ble_eq_true rfl) (Nat.le_of_ble_eq_true rfl) ?_
      intro r H1 locs1 hr1 hP1 hk1 hS1
      have hr2 := hr1 rfl
      subst hr2
      have hP1 := (hP1.resolve_right (fun z => z.1 rfl)).2
      have hP2 : va_P D vwCl ([(a, .inr (8, [.int (iI (2)), .int (iI (σ 0)), .int (iI (σ 1)), .int (iI (σ 2)), .int (iI (σ 3)), .int (iI (σ 4)), .int (iI (σ 5)), .int (iI (σ 6)), .ref ta, .int (iI (σ 7)), .ref pa, .int (iI (σ 9)), .int (iI (σ 10))])), (ta, .inl (cI, 40, .inl (fun q9 => iI (T q9)))), (pa, .inl (cI, 110, .inl (fun q9 => iI (P q9))))]) H1 := va_upd (A0 := fun _ => True) hP hk1 hP1 (by
        intro q hq
        simp only [List.mem_cons, List.not_mem_nil, or_false] at hq
        rcases hq with rfl | rfl | rfl
        · exact Or.inl (List.mem_of_getElem? (i := 0) rfl)
        · refine Or.inr ⟨List.mem_of_getElem? (i := 1) rfl, fun z hz => ?_⟩
          simp only [List.mem_cons, List.not_mem_nil, or_false] at hz
          rcases hz with rfl
          · exact vaD_ne hD (i := 0) (j := 1) rfl rfl (by decide)
        · refine Or.inr ⟨List.mem_of_getElem? (i := 2) rfl, fun z hz => ?_⟩
          simp only [List.mem_cons, List.not_mem_nil, or_false] at hz
          rcases hz with rfl
          · exact vaD_ne hD (i := 0) (j := 2) rfl rfl (by decide))
      have hD2 : va_D (va_A (WMo cI a ta pa th σ T P) sz) ([(a, .inr (8, [.int (iI (2)), .int (iI (σ 0)), .int (iI (σ 1)), .int (iI (σ 2)), .int (iI (σ 3)), .int (iI (σ 4)), .int (iI (σ 5)), .int (iI (σ 6)), .ref ta, .int (iI (σ 7)), .ref pa, .int (iI (σ 9)), .int (iI (σ 10))])), (ta, .inl (cI, 40, .inl (fun q9 => iI (T q9)))), (pa, .inl (cI, 110, .inl (fun q9 => iI (P q9))))]) := vaD_addr hD rfl
      clear hP hD hS hPc hDc hFc hP1 hk1
      have hP := hP2; have hD := hD2; have hS := hS1
      clear hP2 hD2 hS1
      generalize H1 = H at hP hS ⊢
      generalize locs1 = locs at hS ⊢
      have hER : (if 0 ≤ y ∧ y < 1000 then (if σ 7 = 10 then 2 else 0) else 1 : Int) = 2 := by (repeat' split) <;> omega
      exact q_uret (ws := []) hx hb hr hlocks hS (Or.inr ⟨by rw [hER]; decide, by rw [hER]; exact hP⟩) (fun h => absurd (hER.symm.trans h) (by decide)) (Nat.le_of_ble_eq_true rfl) (Nat.le_of_ble_eq_true rfl) dX6_print_32
  · skip
    refine lv_aload_n hx hb dX6_print_12 rfl (lv_at hl 0 rfl) ?_
    refine q_iconst hx hb dX6_print_13 ?_
    have hPc := hP.sub (ws' := [(a, .inr (8, [.int (iI (0)), .int (iI (σ 0)), .int (iI (σ 1)), .int (iI (σ 2)), .int (iI (σ 3)), .int (iI (σ 4)), .int (iI (σ 5)), .int (iI (σ 6)), .ref ta, .int (iI (σ 7)), .ref pa, .int (iI (σ 9)), .int (iI (σ 10))]))]) [0] rfl
    have hDc := hD.sub (ws' := [(a, .inr (8, [.int (iI (0)), .int (iI (σ 0)), .int (iI (σ 1)), .int (iI (σ 2)), .int (iI (σ 3)), .int (iI (σ 4)), .int (iI (σ 5)), .int (iI (σ 6)), .ref ta, .int (iI (σ 7)), .ref pa, .int (iI (σ 9)), .int (iI (σ 10))]))]) [0] (by decide) rfl
    have hFc := va_free (wc := [(a, .inr (8, [.int (iI (0)), .int (iI (σ 0)), .int (iI (σ 1)), .int (iI (σ 2)), .int (iI (σ 3)), .int (iI (σ 4)), .int (iI (σ 5)), .int (iI (σ 6)), .ref ta, .int (iI (σ 7)), .ref pa, .int (iI (σ 9)), .int (iI (σ 10))]))]) hD hS hA [0] rfl
    refine q_callU (fr := 0) (lo := 0) (nL := 2) (As := [.int (iI (1))]) (rest := []) ⟨hx, hb, hml, hown, hts⟩ (u_fail l D _ _ a (0) (1) _ _ _ _ _ _ _ _ _ _ _ _) (cwV 1 hts gX6_print_X6_fail rfl rfl rfl (by decide +kernel) ⟨Nat.le_of_ble_eq_true rfl, Nat.le_of_ble_eq_true rfl⟩) (ob_recv (hP 0 _ rfl) hK rfl) hPc (hDc.weaken (fun _ _ _ _ => trivial)) hFc hS hK rfl hl.1 rfl (Nat.le_of_ble_eq_true rfl) dX6_print_14 (Nat.le_of_ble_eq_true rfl) (Nat.le_of_ble_eq_true rfl) ?_
    intro r H1 locs1 hr1 hP1 hk1 hS1
    have hr2 := hr1 rfl
    subst hr2
    have hP1 := (hP1.resolve_right (fun z => z.1 rfl)).2
    have hP2 : va_P D vwCl ([(a, .inr (8, [.int (iI (1)), .int (iI (σ 0)), .int (iI (σ 1)), .int (iI (σ 2)), .int (iI (σ 3)), .int (iI (σ 4)), .int (iI (σ 5)), .int (iI (σ 6)), .ref ta, .int (iI (σ 7)), .ref pa, .int (iI (σ 9)), .int (iI (σ 10))])), (ta, .inl (cI, 40, .inl (fun q9 => iI (T q9)))), (pa, .inl (cI, 110, .inl (fun q9 => iI (P q9))))]) H1 := va_upd (A0 := fun _ => True) hP hk1 hP1 (by
      intro q hq
      simp only [List.mem_cons, List.not_mem_nil, or_false] at hq
      rcases hq with rfl | rfl | rfl
      · exact Or.inl (List.mem_of_getElem? (i := 0) rfl)
      · refine Or.inr ⟨List.mem_of_getElem? (i := 1) rfl, fun z hz => ?_⟩
        simp only [List.mem_cons, List.not_mem_nil, or_false] at hz
        rcases hz with rfl
        · exact vaD_ne hD (i := 0) (j := 1) rfl rfl (by decide)
      · refine Or.inr ⟨List.mem_of_getElem? (i := 2) rfl, fun z hz => ?_⟩
        simp only [List.mem_cons, List.not_mem_nil, or_false] at hz
        rcases hz with rfl
        · exact vaD_ne hD (i := 0) (j := 2) rfl rfl (by decide))
    have hD2 : va_D (va_A (WMo cI a ta pa th σ T P) sz) ([(a, .inr (8, [.int (iI (1)), .int (iI (σ 0)), .int (iI (σ 1)), .int (iI (σ 2)), .int (iI (σ 3)), .int (iI (σ 4)), .int (iI (σ 5)), .int (iI (σ 6)), .ref ta, .int (iI (σ 7)), .ref pa, .int (iI (σ 9)), .int (iI (σ 10))])), (ta, .inl (cI, 40, .inl (fun q9 => iI (T q9)))), (pa, .inl (cI, 110, .inl (fun q9 => iI (P q9))))]) := vaD_addr hD rfl
    clear hP hD hS hPc hDc hFc hP1 hk1
    have hP := hP2; have hD := hD2; have hS := hS1
    clear hP2 hD2 hS1
    generalize H1 = H at hP hS ⊢
    generalize locs1 = locs at hS ⊢
    have hER : (if 0 ≤ y ∧ y < 1000 then (if σ 7 = 10 then 2 else 0) else 1 : Int) = 1 := by (repeat' split) <;> omega
    exact q_uret (ws := []) hx hb hr hlocks hS (Or.inr ⟨by rw [hER]; decide, by rw [hER]; exact hP⟩) (fun h => absurd (hER.symm.trans h) (by decide)) (Nat.le_of_ble_eq_true rfl) (Nat.le_of_ble_eq_true rfl) dX6_print_17
set_option maxHeartbeats 4000000 in
set_option maxRecDepth 100000 in
theorem u_reprint (l : Launch) (D : va_G) (sz : Nat) (cI cO cL : ClassId) (a ta pa : Nat) (th : Int) (σ T P : Nat → Int) (hW : WF σ T) (hS0 : WS σ P) (j : Int) (hjr : -2147483648 ≤ j ∧ j < 2147483648) : MU l yX6_reprint wsX6_reprint 7 158 0 0 D (ty3 cI cO cL) sz (WMo cI a ta pa th σ T P) [.ref a, .int (iI (j))] (if 0 ≤ j ∧ j < σ 7 then 0 else 1) (m_chg (fun i => m_F σ T i (P (11 * j.toNat))) (fun i => P (11 * j.toNat + 3 + i)) (P (11 * j.toNat + 1)).toNat) (WMo cI a ta pa 0 (σ) (T) (m_fl σ T P (11 * j.toNat) (P (11 * j.toNat)) (σ 6).toNat)) (WMo cI a ta pa (if 0 ≤ j ∧ j < σ 7 then 0 else 1) σ T P) := by
  refine MU_of (cc := cX6_reprint) (maxL := 4) (ret := (some .int)) (by decide) rfl (Nat.le_of_ble_eq_true rfl) ?_
  intro p e s m args below meth c ls hx hb hr hlocks hml hown hts hsz hP hK hD hS hA hl
  have hl : lv_has ls 4 [(0, .ref a), (1, .int (iI (j)))] := hl
  have hin_X6 : ∀ w ∈ u_ws RX6 TX6 13, w ∈ wsX6_reprint := (fun w h => List.mem_cons_of_mem _ (List.mem_append_right _ h))
  have hP : va_P D vwCl ([(a, .inr (8, [.int (iI (th)), .int (iI (σ 0)), .int (iI (σ 1)), .int (iI (σ 2)), .int (iI (σ 3)), .int (iI (σ 4)), .int (iI (σ 5)), .int (iI (σ 6)), .ref ta, .int (iI (σ 7)), .ref pa, .int (iI (σ 9)), .int (iI (σ 10))])), (ta, .inl (cI, 40, .inl (fun q9 => iI (T q9)))), (pa, .inl (cI, 110, .inl (fun q9 => iI (P q9))))]) s.heap := hP
  have hD : va_D (va_A (WMo cI a ta pa th σ T P) sz) ([(a, .inr (8, [.int (iI (th)), .int (iI (σ 0)), .int (iI (σ 1)), .int (iI (σ 2)), .int (iI (σ 3)), .int (iI (σ 4)), .int (iI (σ 5)), .int (iI (σ 6)), .ref ta, .int (iI (σ 7)), .ref pa, .int (iI (σ 9)), .int (iI (σ 10))])), (ta, .inl (cI, 40, .inl (fun q9 => iI (T q9)))), (pa, .inl (cI, 110, .inl (fun q9 => iI (P q9))))]) := hD
  obtain ⟨w0, w1, w2, w3, w4, w5, w6, w7, w8⟩ := id hW
  refine lv_aload_n hx hb dX6_reprint_0 rfl (lv_at hl 0 rfl) ?_
  refine q_iconst hx hb dX6_reprint_1 ?_
  refine va_put (D := D) (ci := 8) (v := .int (iI (0))) (ty := .int) (C := RX6) (T := TX6) (N := 13) hx hb hts hin_X6 tyX6 tyX6_ok nmX6 hown hK hP hD hS 0 rfl rfl 0 (by decide) (hts (.fieldLink RX6 30 "AlmanacHouseModel" "thrown" "I") (List.mem_of_getElem? (i := 1) rfl)) (fun _ h9 => h9) rfl (by decide +kernel) rfl rfl (Nat.le_of_ble_eq_true rfl) dX6_reprint_2 (fun H locs hP hD hS => ?_)
  have hP : va_P D vwCl ([(a, .inr (8, [.int (iI (0)), .int (iI (σ 0)), .int (iI (σ 1)), .int (iI (σ 2)), .int (iI (σ 3)), .int (iI (σ 4)), .int (iI (σ 5)), .int (iI (σ 6)), .ref ta, .int (iI (σ 7)), .ref pa, .int (iI (σ 9)), .int (iI (σ 10))])), (ta, .inl (cI, 40, .inl (fun q9 => iI (T q9)))), (pa, .inl (cI, 110, .inl (fun q9 => iI (P q9))))]) H := hP
  have hD : va_D (va_A (WMo cI a ta pa th σ T P) sz) ([(a, .inr (8, [.int (iI (0)), .int (iI (σ 0)), .int (iI (σ 1)), .int (iI (σ 2)), .int (iI (σ 3)), .int (iI (σ 4)), .int (iI (σ 5)), .int (iI (σ 6)), .ref ta, .int (iI (σ 7)), .ref pa, .int (iI (σ 9)), .int (iI (σ 10))])), (ta, .inl (cI, 40, .inl (fun q9 => iI (T q9)))), (pa, .inl (cI, 110, .inl (fun q9 => iI (P q9))))]) := hD
  refine lv_aload_n hx hb dX6_reprint_5 rfl (lv_at hl 0 rfl) ?_
  refine lv_iload_n hx hb dX6_reprint_6 rfl (lv_at hl 1 rfl) ?_
  refine q_callV (fr := 1) (lo := 22) (nL := 4) (Pic := PicM D cI a ta pa (0) σ T (P)) (As := [.int (iI (j))]) (rest := []) ⟨hx, hb, hml, hown, hts⟩ (c_isSheetM l D cI cO cL a ta pa (0) σ T (P) hW hS0 (j) (by omega)) (cwV 1 hts gX6_reprint_X6_isSheet rfl rfl rfl (by decide +kernel) ⟨Nat.le_of_ble_eq_true rfl, Nat.le_of_ble_eq_true rfl⟩) (ob_recv (hP 0 _ rfl) hK rfl) hP hK rfl hl.1 rfl (Nat.le_of_ble_eq_true rfl) dX6_reprint_7 (Nat.zero_le _) (Nat.zero_le _) ?_
  refine q_pif_ne (tgt := 19) hx hb dX6_reprint_10 (by decide) (fun c_1 => ?_) (fun c_1 => ?_)
  · skip
    obtain ⟨s1, s2, s3, s4⟩ := hS0 j.toNat (by omega)
    refine q_iconst hx hb dX6_reprint_19 ?_
    refine lv_istore_n (lv' := [(2, .int (iI (0))), (0, .ref a), (1, .int (iI (j)))]) hx hb dX6_reprint_20 rfl hl (by decide) rfl (fun ls hl => ?_)
    refine q_iconst hx hb dX6_reprint_21 ?_
    refine lv_istore_n (lv' := [(3, .int (iI (0))), (2, .int (iI (0))), (0, .ref a), (1, .int (iI (j)))]) hx hb dX6_reprint_22 rfl hl (by decide) rfl (fun ls hl => ?_)
    have key_23 : ∀ (fu : Nat) (k : Int) (ch : Int), 0 ≤ k ∧ k ≤ P (11 * j.toNat + 1) → ch = m_chg (fun i => m_F σ T i (P (11 * j.toNat))) (fun i => P (11 * j.toNat + 3 + i)) k.toNat → (((P (11 * j.toNat + 1) - k).toNat : Int)) < (fu : Int) → ∀ (H : Heap) (locs : List Loc), va_P D vwCl ([(a, .inr (8, [.int (iI (0)), .int (iI (σ 0)), .int (iI (σ 1)), .int (iI (σ 2)), .int (iI (σ 3)), .int (iI (σ 4)), .int (iI (σ 5)), .int (iI (σ 6)), .ref ta, .int (iI (σ 7)), .ref pa, .int (iI (σ 9)), .int (iI (σ 10))])), (ta, .inl (cI, 40, .inl (fun q9 => iI (T q9)))), (pa, .inl (cI, 110, .inl (fun q9 => iI (P q9))))]) H → va_D (va_A (WMo cI a ta pa th σ T P) sz) ([(a, .inr (8, [.int (iI (0)), .int (iI (σ 0)), .int (iI (σ 1)), .int (iI (σ 2)), .int (iI (σ 3)), .int (iI (σ 4)), .int (iI (σ 5)), .int (iI (σ 6)), .ref ta, .int (iI (σ 7)), .ref pa, .int (iI (σ 9)), .int (iI (σ 10))])), (ta, .inl (cI, 40, .inl (fun q9 => iI (T q9)))), (pa, .inl (cI, 110, .inl (fun q9 => iI (P q9))))]) → va_S (va_A (WMo cI a ta pa th σ T P) sz) s.heap H locs → ∀ ls : Array Slot, lv_has ls 4 [(0, .ref a), (1, .int (iI (j))), (2, .int (iI (ch))), (3, .int (iI (k)))] → W p l e { frames := 7, cells := 0, slots := 0, locals := 158 } s m args below meth c H locs 0 0 (MQ below (va_Qi (fun (r : Int32) (_ : Unit) => (if 0 ≤ j ∧ j < σ 7 then 0 else 1 : Int) = 0 → r = iI (m_chg (fun i => m_F σ T i (P (11 * j.toNat))) (fun i => P (11 * j.toNat + 3 + i)) (P (11 * j.toNat + 1)).toNat)) (fun _ t => ((if 0 ≤ j ∧ j < σ 7 then 0 else 1 : Int) = 0 ∧ va_P D vwCl (WMo cI a ta pa 0 (σ) (T) (m_fl σ T P (11 * j.toNat) (P (11 * j.toNat)) (σ 6).toNat)) t.heap) ∨ ((if 0 ≤ j ∧ j < σ 7 then 0 else 1 : Int) ≠ 0 ∧ va_P D vwCl (WMo cI a ta pa (if 0 ≤ j ∧ j < σ 7 then 0 else 1) σ T P) t.heap)) (va_A (WMo cI a ta pa th σ T P) sz)) args s 0 0 (va_A (WMo cI a ta pa th σ T P) sz)) (F0 m 23 ls []) := by
      intro fu
      induction fu with
      | zero => intro k ch hk hch hm_23 H locs hP hD hS ls hl; exact absurd hm_23 (by omega)
      | succ fu ih_23 =>
        intro k ch hk hch hm_23 H locs hP hD hS ls hl
        refine lv_iload_n hx hb dX6_reprint_23 rfl (lv_at hl 3 rfl) ?_
        refine lv_aload_n hx hb dX6_reprint_24 rfl (lv_at hl 0 rfl) ?_
        refine lv_iload_n hx hb dX6_reprint_25 rfl (lv_at hl 1 rfl) ?_
        refine q_iconst hx hb dX6_reprint_26 ?_
        refine q_callV (fr := 0) (lo := 0) (nL := 4) (Pic := PicM D cI a ta pa (0) σ T (P)) (As := [.int (iI (j)), .int (iI (1))]) (rest := [.int (iI (k))]) ⟨hx, hb, hml, hown, hts⟩ (c_pa l D cI cO cL a ta pa (0) σ T (P) hW hS0 (j) (1) (11 * Int.toNat (j) + 1) (by omega) (by omega)) (cwV 2 hts gX6_reprint_X6_pa rfl rfl rfl (by decide +kernel) ⟨Nat.le_of_ble_eq_true rfl, Nat.le_of_ble_eq_true rfl⟩) (ob_recv (hP 0 _ rfl) hK rfl) hP hK rfl hl.1 rfl (Nat.le_of_ble_eq_true rfl) dX6_reprint_27 (Nat.zero_le _) (Nat.zero_le _) ?_
        refine q_icmp_ge (tgt := 56) hx hb dX6_reprint_30 (by decide) (by omega) (by omega) (fun c_2 => ?_) (fun c_2 => ?_)
        · skip
          refine lv_aload_n hx hb dX6_reprint_56 rfl (lv_at hl 0 rfl) ?_
          refine lv_iload_n hx hb dX6_reprint_57 rfl (lv_at hl 1 rfl) ?_
          refine lv_aload_n hx hb dX6_reprint_58 rfl (lv_at hl 0 rfl) ?_
          refine lv_iload_n hx hb dX6_reprint_59 rfl (lv_at hl 1 rfl) ?_
          refine q_iconst hx hb dX6_reprint_60 ?_
          refine q_callV (fr := 0) (lo := 0) (nL := 4) (Pic := PicM D cI a ta pa (0) σ T (P)) (As := [.int (iI (j)), .int (iI (0))]) (rest := [.int (iI (j)), .ref a]) ⟨hx, hb, hml, hown, hts⟩ (c_pa l D cI cO cL a ta pa (0) σ T (P) hW hS0 (j) (0) (11 * Int.toNat (j)) (by omega) (by omega)) (cwV 2 hts gX6_reprint_X6_pa rfl rfl rfl (by decide +kernel) ⟨Nat.le_of_ble_eq_true rfl, Nat.le_of_ble_eq_true rfl⟩) (ob_recv (hP 0 _ rfl) hK rfl) hP hK rfl hl.1 rfl (Nat.le_of_ble_eq_true rfl) dX6_reprint_61 (Nat.zero_le _) (Nat.zero_le _) ?_
          have hPc := hP.sub (ws' := [(a, .inr (8, [.int (iI (0)), .int (iI (σ 0)), .int (iI (σ 1)), .int (iI (σ 2)), .int (iI (σ 3)), .int (iI (σ 4)), .int (iI (σ 5)), .int (iI (σ 6)), .ref ta, .int (iI (σ 7)), .ref pa, .int (iI (σ 9)), .int (iI (σ 10))])), (ta, .inl (cI, 40, .inl (fun q9 => iI (T q9)))), (pa, .inl (cI, 110, .inl (fun q9 => iI (P q9))))]) [0, 1, 2] rfl
          have hDc := hD.sub (ws' := [(a, .inr (8, [.int (iI (0)), .int (iI (σ 0)), .int (iI (σ 1)), .int (iI (σ 2)), .int (iI (σ 3)), .int (iI (σ 4)), .int (iI (σ 5)), .int (iI (σ 6)), .ref ta, .int (iI (σ 7)), .ref pa, .int (iI (σ 9)), .int (iI (σ 10))])), (ta, .inl (cI, 40, .inl (fun q9 => iI (T q9)))), (pa, .inl (cI, 110, .inl (fun q9 => iI (P q9))))]) [0, 1, 2] (by decide) rfl
          have hFc := va_free (wc := [(a, .inr (8, [.int (iI (0)), .int (iI (σ 0)), .int (iI (σ 1)), .int (iI (σ 2)), .int (iI (σ 3)), .int (iI (σ 4)), .int (iI (σ 5)), .int (iI (σ 6)), .ref ta, .int (iI (σ 7)), .ref pa, .int (iI (σ 9)), .int (iI (σ 10))])), (ta, .inl (cI, 40, .inl (fun q9 => iI (T q9)))), (pa, .inl (cI, 110, .inl (fun q9 => iI (P q9))))]) hD hS hA [0, 1, 2] rfl
          refine q_callUv (fr := 6) (lo := 135) (nL := 4) (As := [.int (iI (j)), .int (iI (P (11 * Int.toNat (j))))]) (rest := []) ⟨hx, hb, hml, hown, hts⟩ (u_fill l D _ cI cO cL a ta pa (0) σ T P hW hS0 (j) (P (11 * Int.toNat (j))) (by omega) (by omega)) (cwV 2 hts gX6_reprint_X6_fill rfl rfl rfl (by decide +kernel) ⟨Nat.le_of_ble_eq_true rfl, Nat.le_of_ble_eq_true rfl⟩) (ob_recv (hP 0 _ rfl) hK rfl) hPc (hDc.weaken (fun _ _ _ _ => trivial)) hFc hS hK rfl hl.1 rfl (Nat.le_of_ble_eq_true rfl) dX6_reprint_64 (Nat.le_of_ble_eq_true rfl) (Nat.le_of_ble_eq_true rfl) ?_
          intro H1 locs1 hP1 hk1 hS1
          have hP2 : va_P D vwCl ([(a, .inr (8, [.int (iI (0)), .int (iI (σ 0)), .int (iI (σ 1)), .int (iI (σ 2)), .int (iI (σ 3)), .int (iI (σ 4)), .int (iI (σ 5)), .int (iI (σ 6)), .ref ta, .int (iI (σ 7)), .ref pa, .int (iI (σ 9)), .int (iI (σ 10))])), (ta, .inl (cI, 40, .inl (fun q9 => iI (T q9)))), (pa, .inl (cI, 110, .inl (fun q9 => iI ((m_fl σ T P (11 * Int.toNat (j)) (P (11 * Int.toNat (j))) (σ 6).toNat) q9))))]) H1 := va_upd (A0 := fun _ => True) hP hk1 hP1 (by
            intro q hq
            simp only [List.mem_cons, List.not_mem_nil, or_false] at hq
            rcases hq with rfl | rfl | rfl
            · exact Or.inl (List.mem_of_getElem? (i := 0) rfl)
            · exact Or.inl (List.mem_of_getElem? (i := 1) rfl)
            · exact Or.inl (List.mem_of_getElem? (i := 2) rfl))
          have hD2 : va_D (va_A (WMo cI a ta pa th σ T P) sz) ([(a, .inr (8, [.int (iI (0)), .int (iI (σ 0)), .int (iI (σ 1)), .int (iI (σ 2)), .int (iI (σ 3)), .int (iI (σ 4)), .int (iI (σ 5)), .int (iI (σ 6)), .ref ta, .int (iI (σ 7)), .ref pa, .int (iI (σ 9)), .int (iI (σ 10))])), (ta, .inl (cI, 40, .inl (fun q9 => iI (T q9)))), (pa, .inl (cI, 110, .inl (fun q9 => iI ((m_fl σ T P (11 * Int.toNat (j)) (P (11 * Int.toNat (j))) (σ 6).toNat) q9))))]) := vaD_addr hD rfl
          clear hP hD hS hPc hDc hFc hP1 hk1
          have hP := hP2; have hD := hD2; have hS := hS1
          clear hP2 hD2 hS1
          generalize H1 = H at hP hS ⊢
          generalize locs1 = locs at hS ⊢
          refine lv_iload_n hx hb dX6_reprint_67 rfl (lv_at hl 2 rfl) ?_
          have hER : (if 0 ≤ j ∧ j < σ 7 then 0 else 1 : Int) = 0 := by (repeat' split) <;> omega
          exact q_uret (ws := []) hx hb hr hlocks hS (Or.inl ⟨hER, hP⟩) (fun _ => by rw [hch]; congr 1; omega) (Nat.le_of_ble_eq_true rfl) (Nat.le_of_ble_eq_true rfl) dX6_reprint_68
        · skip
          refine lv_iload_n hx hb dX6_reprint_33 rfl (lv_at hl 2 rfl) ?_
          refine lv_aload_n hx hb dX6_reprint_34 rfl (lv_at hl 0 rfl) ?_
          refine lv_iload_n hx hb dX6_reprint_35 rfl (lv_at hl 1 rfl) ?_
          refine lv_iload_n hx hb dX6_reprint_36 rfl (lv_at hl 3 rfl) ?_
          refine q_callV (fr := 4) (lo := 92) (nL := 4) (Pic := PicM D cI a ta pa (0) σ T (P)) (As := [.int (iI (j)), .int (iI (k))]) (rest := [.int (iI (ch))]) ⟨hx, hb, hml, hown, hts⟩ (c_off l D cI cO cL a ta pa (0) σ T (P) hW hS0 (j) (k) (by omega) (by omega)) (cwV 2 hts gX6_reprint_X6_off rfl rfl rfl (by decide +kernel) ⟨Nat.le_of_ble_eq_true rfl, Nat.le_of_ble_eq_true rfl⟩) (ob_recv (hP 0 _ rfl) hK rfl) hP hK rfl hl.1 rfl (Nat.le_of_ble_eq_true rfl) dX6_reprint_37 (Nat.zero_le _) (Nat.zero_le _) ?_
          have hof37 := m_abs_in (x := m_F σ T (Int.toNat (k)) (P (11 * Int.toNat (j))) - P (11 * Int.toNat (j) + 3 + Int.toNat (k))) (by have q1 := m_F_in hW (i := Int.toNat (k)) (by omega) (y := P (11 * Int.toNat (j))) (by omega); have q2 := s4 (Int.toNat (k)) (by omega); omega)
          have hab := m_abs_pos (m_F σ T (Int.toNat (k)) (P (11 * Int.toNat (j))) - P (11 * Int.toNat (j) + 3 + Int.toNat (k)))
          refine q_if_le (tgt := 47) hx hb dX6_reprint_40 (by decide) (by omega) (fun c_3 => ?_) (fun c_3 => ?_)
          · skip
            refine q_iconst hx hb dX6_reprint_47 ?_
            refine q_iadd hx hb dX6_reprint_48 ?_
            refine q_top (fun ch2 ech2 => ?_)
            refine lv_istore_n (lv' := [(2, .int (iI (ch2))), (0, .ref a), (1, .int (iI (j))), (3, .int (iI (k)))]) hx hb dX6_reprint_49 rfl hl (by decide) rfl (fun ls hl => ?_)
            refine q_iinc (k := 3) (lv' := [(3, .int (iI (k + 1))), (2, .int (iI (ch2))), (0, .ref a), (1, .int (iI (j)))]) hx hb dX6_reprint_50 hl rfl (by decide) rfl (fun ls hl => ?_)
            refine lv_goto (tgt := 23) hx hb dX6_reprint_53 (by decide) ?_
            have hst := m_chg_step (fun i => m_F σ T i (P (11 * j.toNat))) (fun i => P (11 * j.toNat + 3 + i)) hk.1
            exact ih_23 _ _ (by omega) (by rw [hst]; (repeat' split) <;> omega) (by omega) _ _ (hP) (hD) hS _ (lv_sub hl [2, 3, 1, 0] rfl)
          · skip
            refine q_iconst hx hb dX6_reprint_43 ?_
            refine lv_goto (tgt := 48) hx hb dX6_reprint_44 (by decide) ?_
            refine q_iadd hx hb dX6_reprint_48 ?_
            refine q_top (fun ch2 ech2 => ?_)
            refine lv_istore_n (lv' := [(2, .int (iI (ch2))), (0, .ref a), (1, .int (iI (j))), (3, .int (iI (k)))]) hx hb dX6_reprint_49 rfl hl (by decide) rfl (fun ls hl => ?_)
            refine q_iinc (k := 3) (lv' := [(3, .int (iI (k + 1))), (2, .int (iI (ch2))), (0, .ref a), (1, .int (iI (j)))]) hx hb dX6_reprint_50 hl rfl (by decide) rfl (fun ls hl => ?_)
            refine lv_goto (tgt := 23) hx hb dX6_reprint_53 (by decide) ?_
            have hst := m_chg_step (fun i => m_F σ T i (P (11 * j.toNat))) (fun i => P (11 * j.toNat + 3 + i)) hk.1
            exact ih_23 _ _ (by omega) (by rw [hst]; (repeat' split) <;> omega) (by omega) _ _ (hP) (hD) hS _ (lv_sub hl [2, 3, 1, 0] rfl)
    exact key_23 ((P (11 * j.toNat + 1)).toNat + 1) _ _ (by omega) (by rfl) (by omega) _ _ (hP) (hD) hS _ (lv_sub hl [2, 3, 1, 0] rfl)
  · skip
    refine lv_aload_n hx hb dX6_reprint_13 rfl (lv_at hl 0 rfl) ?_
    refine q_iconst hx hb dX6_reprint_14 ?_
    have hPc := hP.sub (ws' := [(a, .inr (8, [.int (iI (0)), .int (iI (σ 0)), .int (iI (σ 1)), .int (iI (σ 2)), .int (iI (σ 3)), .int (iI (σ 4)), .int (iI (σ 5)), .int (iI (σ 6)), .ref ta, .int (iI (σ 7)), .ref pa, .int (iI (σ 9)), .int (iI (σ 10))]))]) [0] rfl
    have hDc := hD.sub (ws' := [(a, .inr (8, [.int (iI (0)), .int (iI (σ 0)), .int (iI (σ 1)), .int (iI (σ 2)), .int (iI (σ 3)), .int (iI (σ 4)), .int (iI (σ 5)), .int (iI (σ 6)), .ref ta, .int (iI (σ 7)), .ref pa, .int (iI (σ 9)), .int (iI (σ 10))]))]) [0] (by decide) rfl
    have hFc := va_free (wc := [(a, .inr (8, [.int (iI (0)), .int (iI (σ 0)), .int (iI (σ 1)), .int (iI (σ 2)), .int (iI (σ 3)), .int (iI (σ 4)), .int (iI (σ 5)), .int (iI (σ 6)), .ref ta, .int (iI (σ 7)), .ref pa, .int (iI (σ 9)), .int (iI (σ 10))]))]) hD hS hA [0] rfl
    refine q_callU (fr := 0) (lo := 0) (nL := 4) (As := [.int (iI (1))]) (rest := []) ⟨hx, hb, hml, hown, hts⟩ (u_fail l D _ _ a (0) (1) _ _ _ _ _ _ _ _ _ _ _ _) (cwV 1 hts gX6_reprint_X6_fail rfl rfl rfl (by decide +kernel) ⟨Nat.le_of_ble_eq_true rfl, Nat.le_of_ble_eq_true rfl⟩) (ob_recv (hP 0 _ rfl) hK rfl) hPc (hDc.weaken (fun _ _ _ _ => trivial)) hFc hS hK rfl hl.1 rfl (Nat.le_of_ble_eq_true rfl) dX6_reprint_15 (Nat.le_of_ble_eq_true rfl) (Nat.le_of_ble_eq_true rfl) ?_
    intro r H1 locs1 hr1 hP1 hk1 hS1
    have hr2 := hr1 rfl
    subst hr2
    have hP1 := (hP1.resolve_right (fun z => z.1 rfl)).2
    have hP2 : va_P D vwCl ([(a, .inr (8, [.int (iI (1)), .int (iI (σ 0)), .int (iI (σ 1)), .int (iI (σ 2)), .int (iI (σ 3)), .int (iI (σ 4)), .int (iI (σ 5)), .int (iI (σ 6)), .ref ta, .int (iI (σ 7)), .ref pa, .int (iI (σ 9)), .int (iI (σ 10))])), (ta, .inl (cI, 40, .inl (fun q9 => iI (T q9)))), (pa, .inl (cI, 110, .inl (fun q9 => iI (P q9))))]) H1 := va_upd (A0 := fun _ => True) hP hk1 hP1 (by
      intro q hq
      simp only [List.mem_cons, List.not_mem_nil, or_false] at hq
      rcases hq with rfl | rfl | rfl
      · exact Or.inl (List.mem_of_getElem? (i := 0) rfl)
      · refine Or.inr ⟨List.mem_of_getElem? (i := 1) rfl, fun z hz => ?_⟩
        simp only [List.mem_cons, List.not_mem_nil, or_false] at hz
        rcases hz with rfl
        · exact vaD_ne hD (i := 0) (j := 1) rfl rfl (by decide)
      · refine Or.inr ⟨List.mem_of_getElem? (i := 2) rfl, fun z hz => ?_⟩
        simp only [List.mem_cons, List.not_mem_nil, or_false] at hz
        rcases hz with rfl
        · exact vaD_ne hD (i := 0) (j := 2) rfl rfl (by decide))
    have hD2 : va_D (va_A (WMo cI a ta pa th σ T P) sz) ([(a, .inr (8, [.int (iI (1)), .int (iI (σ 0)), .int (iI (σ 1)), .int (iI (σ 2)), .int (iI (σ 3)), .int (iI (σ 4)), .int (iI (σ 5)), .int (iI (σ 6)), .ref ta, .int (iI (σ 7)), .ref pa, .int (iI (σ 9)), .int (iI (σ 10))])), (ta, .inl (cI, 40, .inl (fun q9 => iI (T q9)))), (pa, .inl (cI, 110, .inl (fun q9 => iI (P q9))))]) := vaD_addr hD rfl
    clear hP hD hS hPc hDc hFc hP1 hk1
    have hP := hP2; have hD := hD2; have hS := hS1
    clear hP2 hD2 hS1
    generalize H1 = H at hP hS ⊢
    generalize locs1 = locs at hS ⊢
    have hER : (if 0 ≤ j ∧ j < σ 7 then 0 else 1 : Int) = 1 := by (repeat' split) <;> omega
    exact q_uret (ws := []) hx hb hr hlocks hS (Or.inr ⟨by rw [hER]; decide, by rw [hER]; exact hP⟩) (fun h => absurd (hER.symm.trans h) (by decide)) (Nat.le_of_ble_eq_true rfl) (Nat.le_of_ble_eq_true rfl) dX6_reprint_18
