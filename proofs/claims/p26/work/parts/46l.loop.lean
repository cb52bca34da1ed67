/-! ===== the law: its rounds ===== -/
theorem vaD_subL {A : Nat → Prop} {ws wr : va_W} (h : va_D A (ws ++ wr)) : va_D A ws := vaD_sub h (by rw [List.map_append]; exact List.sublist_append_left _ _)
set_option maxHeartbeats 1000000 in
set_option maxRecDepth 100000 in
theorem law_loop {p : Program} {l : Launch} {e : Env} {s : State} {m : MethodId} {args : Array Value} {below : List Frame} {meth : Method} {c : Code} {Q : State → Prop} {A0 : Nat → Prop} {D : va_G} {cI cO cL : ClassId} {ed : Nat × Nat × Nat} (C0 : LC p l s m args c A0 D cI cO cL ed)
    (kend : ∀ (g z : Nat → Nat) (σ T P : Nat → Int) (H : Heap) (locs : List Loc) (ls : Array Slot) (cells slots : Nat), LW σ T P → (0 ≤ σ 10 ∧ σ 10 ≤ σ 9 ∧ σ 9 ≤ 1000) → cells + 30 ≤ room_1.cells → slots + 300 ≤ room_1.slots → va_P D vwCl (WC cI cO g σ T P ++ WZ cI cL z σ T P) H → va_D A0 (WC cI cO g σ T P ++ WZ cI cL z σ T P) → va_S A0 s.heap H locs → lv_has ls 18 [(1, .ref (g 0)), (2, .ref (z 0))] → W p l e room_1 s m args below meth c H locs cells slots Q (F0 m 1039 ls [])) :
    ∀ (fu : Nat) (t : Int) (g z : Nat → Nat) (σ T P : Nat → Int) (H : Heap) (locs : List Loc) (ls : Array Slot) (cells slots : Nat), (24 - t).toNat < fu → (0 ≤ t ∧ t ≤ 24) → cells + 16 * (24 - t).toNat + 30 ≤ room_1.cells → slots + 170 * (24 - t).toNat + 300 ≤ room_1.slots → LW σ T P → (0 ≤ σ 10 ∧ σ 10 ≤ σ 9 ∧ σ 9 ≤ t) → (σ 6 = 0 → g 6 = ed.1) → (σ 7 = 0 → g 7 = ed.1) → va_P D vwCl (WC cI cO g σ T P ++ WZ cI cL z σ T P) H → va_D A0 (WC cI cO g σ T P ++ WZ cI cL z σ T P) → va_S A0 s.heap H locs → lv_has ls 18 [(0, .ref ed.2.1), (1, .ref (g 0)), (2, .ref (z 0)), (3, .int (iI (t)))] → W p l e room_1 s m args below meth c H locs cells slots Q (F0 m 22 ls []) := by
  obtain ⟨hx, hb, hml, hown, hts, hA, hK, hE, hT⟩ := id C0
  intro fu
  induction fu with
  | zero => intro t g z σ T P H locs ls cells slots hf; exact absurd hf (Nat.not_lt_zero _)
  | succ fu ih =>
    intro t g z σ T P H locs ls cells slots hf ht hc hs hLW hco he6 he7 hP hD hS hl
    refine lv_iload_n hx hb dL_law_22 rfl (lv_at hl 3 rfl) ?_
    refine q_bipush hx hb dL_law_23 (by decide) ?_
    refine q_icmp_ge (tgt := 1039) hx hb dL_law_25 (by decide) (by omega) (by omega) (fun c_1 => ?_) (fun c_1 => ?_)
    · exact kend g z σ T P H locs ls cells slots hLW (by omega) (by omega) (by omega) hP hD hS (lv_sub hl [1, 2] rfl)
    have e24 : (24 - t).toNat = (24 - (t + 1)).toNat + 1 := by omega
    have k1 : cells + 11 + 5 + 16 * (24 - (t + 1)).toNat + 30 ≤ room_1.cells := by
      rw [e24] at hc
      generalize (24 - (t + 1)).toNat = X at hc ⊢
      generalize room_1.cells = RC at hc ⊢
      omega
    have k2 : slots + 110 + 60 + 170 * (24 - (t + 1)).toNat + 300 ≤ room_1.slots := by
      rw [e24] at hs
      generalize (24 - (t + 1)).toNat = X at hs ⊢
      generalize room_1.slots = RC at hs ⊢
      omega
    refine sg_A C0 hLW (by omega) (by omega) (by omega) hP hD hS (t := t) (by omega) hl (fun x wq w H locs ls hx9 hP hD hS hl => ?_)
    refine sg_B C0 hLW (by omega) (by omega) (by omega) hx9 hP hD hS he6 he7 (t := t) hl (fun wh u H locs ls hwh hu hP hD hS hl => ?_)
    obtain ⟨w0, w1, w2, w3, w4, w5, w6, w7, w8⟩ := id hLW.1
    obtain ⟨g2, z2, σ2, T2, P2⟩ := u
    obtain ⟨hL2, ⟨hg0, hz0⟩, ⟨h6, h7⟩, hco2, hge, hsh, hnew⟩ := hu
    have hL2 : LW σ2 T2 P2 := hL2
    have hg0 : g2 0 = g 0 := hg0
    have hz0 : z2 0 = z 0 := hz0
    have h6 : σ2 6 = 0 → g2 6 = ed.1 := h6
    have h7 : σ2 7 = 0 → g2 7 = ed.1 := h7
    have hco2 : 0 ≤ σ2 10 ∧ σ2 10 ≤ σ2 9 ∧ σ2 9 ≤ σ 9 + 1 := hco2
    have hge : σ 7 ≤ σ2 7 := hge
    have hsh : ∀ j : Nat, (j : Int) < σ 7 → (act_is x σ j ∧ m_told σ2 T2 P2 j 3 = 0 ∧ m_told σ2 T2 P2 j 1 = σ2 6 ∧ m_told σ2 T2 P2 j 4 = 0) ∨ (¬ act_is x σ j ∧ ∀ i : Nat, i < 11 → P2 (11 * j + i) = P (11 * j + i)) := hsh
    have hnew : σ 7 < σ2 7 → m_told σ2 T2 P2 (σ 7).toNat 3 = 0 := hnew
    have hP : va_P D vwCl ((WC cI cO g2 σ2 T2 P2 ++ WZ cI cL z2 σ2 T2 P2) ++ WAS cI cL wq w P (σ 7).toNat) H := hP
    have hD : va_D A0 ((WC cI cO g2 σ2 T2 P2 ++ WZ cI cL z2 σ2 T2 P2) ++ WAS cI cL wq w P (σ 7).toNat) := hD
    have hl : lv_has ls 18 [(0, .ref ed.2.1), (1, .ref (g2 0)), (2, .ref (z2 0)), (3, .int (iI (t))), (4, .int (iI (x))), (5, .int (iI (σ 7))), (6, .ref wq), (8, .int (iI (wh)))] := by
      rw [hg0, hz0]
      exact hl
    have hPc : PicC D cI cO g2 σ2 T2 P2 H := vaP_mems hP (fun q hq => List.mem_append_left _ (List.mem_append_left _ hq))
    have hPic : PicS D cI cL z2 σ2 T2 P2 H := vaP_mems hP (fun q hq => List.mem_append_left _ (List.mem_append_right _ hq))
    have hWa : va_P D vwCl (WAS cI cL wq w P (σ 7).toNat) H := vaP_mems hP (fun q hq => List.mem_append_right _ hq)
    have hc3 : 0 ≤ σ2 10 ∧ σ2 10 ≤ σ2 9 ∧ σ2 9 ≤ 1000 := by omega
    have hwi : -1 ≤ wh ∧ wh ≤ 10 := by
      rcases hwh with h | h
      · have := m_bl_in (m_sr x 2) (n := σ 7) h.1.2
        omega
      · omega
    have hAct : ∀ j : Nat, (j : Int) < σ 7 → (wh = (j : Int) ∧ m_told σ2 T2 P2 j 3 = 0 ∧ m_told σ2 T2 P2 j 1 = σ2 6 ∧ m_told σ2 T2 P2 j 4 = 0) ∨ (wh ≠ (j : Int) ∧ ∀ i : Nat, i < 11 → P2 (11 * j + i) = P (11 * j + i)) := by
      intro j hj
      rcases hsh j hj with ⟨h1, h2⟩ | ⟨h1, h2⟩
      · left
        obtain ⟨a1, a2, a3⟩ := h1
        exact ⟨by omega, h2⟩
      · right
        refine ⟨fun e => h1 ?_, h2⟩
        rcases hwh with h | h
        · exact ⟨h.1.1, h.1.2, by omega⟩
        · exact absurd h.2 (by omega)
    refine sg_C C0 hL2 hc3 (by omega) (by omega) hPc hPic (t := t) (x := x) (n0 := σ 7) (wh := wh) (by omega) hge hwi hWa hAct hl (fun ls hl => ?_)
    refine sg_D C0 hL2 hc3 (by omega) (by omega) hPc hPic (t := t) (x := x) (n0 := σ 7) (by omega) hnew hl (fun ls hl => ?_)
    refine sg_E C0 hL2 hc3 (by omega) (by omega) hPc hPic (t := t) (x := x) hx9 hl (fun y be af dd hyy hbe hdd ls hl => ?_)
    refine sg_F C0 hL2 hc3 (by omega) (by omega) hPc hPic (t := t) (x := x) hyy hbe hdd hl (fun ls hl => ?_)
    refine sg_G C0 hL2 hc3 (by omega) (by omega) hPc hPic (t := t) (x := x) hyy hbe hdd hl (fun ls hl => ?_)
    refine sg_H C0 hL2 hc3 (by omega) (by omega) hPc hPic (t := t) (x := x) hyy hbe hdd hl (fun nx hnx ls hl => ?_)
    refine sg_I C0 hL2 hc3 (by omega) (by omega) hPc hPic (t := t) (x := x) hyy hbe hdd hnx hl (fun ls hl => ?_)
    refine q_iinc (k := 3) (lv' := [(3, .int (iI (t + 1))), (0, .ref ed.2.1), (1, .ref (g2 0)), (2, .ref (z2 0))]) hx hb dL_law_1033 hl rfl (by decide) rfl (fun ls hl => ?_)
    refine lv_goto (tgt := 22) hx hb dL_law_1036 (by decide) ?_
    exact ih (t + 1) g2 z2 σ2 T2 P2 H locs ls _ _ (by omega) (by omega) k1 k2 hL2 (by omega) h6 h7 (vaP_mems hP (fun q hq => List.mem_append_left _ hq)) (vaD_subL hD) hS (lv_sub hl [1, 2, 3, 0] rfl)
