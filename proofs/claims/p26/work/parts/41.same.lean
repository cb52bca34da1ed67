/-! ===== Sim.isSame ===== -/
theorem vaD_sub {A : Nat → Prop} {ws ws' : va_W} (h : va_D A ws) (hs : (ws'.map (·.1)).Sublist (ws.map (·.1))) : va_D A ws' := nd_vaD ((vaD_nd h).sublist hs) (fun a ha => vaD_A h a (hs.subset ha))
theorem m_told_3 (σ T P : Nat → Int) (j : Nat) : m_told σ T P j 3 = m_wr σ T (P (11 * j)) (P (11 * j + 1)) (P (11 * j + 2)) (fun i => P (11 * j + 3 + i)) := rfl
theorem m_told_01 (σ T P : Nat → Int) (j : Nat) : m_told σ T P j 3 = 0 ∨ m_told σ T P j 3 = 1 := by
  rw [m_told_3]
  exact m_wr_01 _ _ _ _ _ _
theorem m_told_4 (σ T P : Nat → Int) (j : Nat) : m_told σ T P j 4 = m_sh (fun i => m_F σ T i (P (11 * j))) (fun i => P (11 * j + 3 + i)) (P (11 * j + 1)).toNat := rfl
theorem m_told_in {σ T P : Nat → Int} (hW : WF σ T) (hS : WS σ P) {j : Nat} (hj : (j : Int) < σ 7) {w : Int} : -3000000 ≤ m_told σ T P j w ∧ m_told σ T P j w ≤ 3000000 := by
  obtain ⟨w0, w1, w2, w3, w4, w5, w6, w7, w8⟩ := id hW
  obtain ⟨s1, s2, s3, s4⟩ := hS j hj
  have h3 := m_wr_01 σ T (P (11 * j)) (P (11 * j + 1)) (P (11 * j + 2)) (fun i => P (11 * j + 3 + i))
  have h4 := m_sh_in2 (f := fun i => m_F σ T i (P (11 * j))) (dy := fun i => P (11 * j + 3 + i)) (n := (P (11 * j + 1)).toNat) (fun i hi => m_F_in hW (by omega) s1) (fun i hi => s4 i (by omega))
  unfold m_told
  (repeat' split) <;> omega
theorem m_count_in {σ T P : Nat → Int} (hW : WF σ T) (hob : 0 ≤ σ 9 ∧ σ 9 ≤ 1000) (hco : 0 ≤ σ 10 ∧ σ 10 ≤ 1000) {w : Int} (hw : 0 ≤ w ∧ w ≤ 10) : 0 ≤ m_count σ T P w ∧ m_count σ T P w ≤ 1000000 := by
  obtain ⟨w0, w1, w2, w3, w4, w5, w6, w7, w8⟩ := id hW
  have h8 := m_wc_in σ T P (σ 7).toNat
  have h : w = 0 ∨ w = 1 ∨ w = 2 ∨ w = 3 ∨ w = 4 ∨ w = 5 ∨ w = 6 ∨ w = 7 ∨ w = 8 ∨ w = 9 ∨ w = 10 := by omega
  rcases h with h | h | h | h | h | h | h | h | h | h | h <;> subst h
  · show 0 ≤ σ 0 ∧ σ 0 ≤ 1000000; omega
  · show 0 ≤ σ 1 ∧ σ 1 ≤ 1000000; omega
  · show 0 ≤ σ 2 ∧ σ 2 ≤ 1000000; omega
  · show 0 ≤ σ 3 ∧ σ 3 ≤ 1000000; omega
  · show 0 ≤ σ 4 ∧ σ 4 ≤ 1000000; omega
  · show 0 ≤ σ 5 ∧ σ 5 ≤ 1000000; omega
  · show 0 ≤ σ 6 ∧ σ 6 ≤ 1000000; omega
  · show 0 ≤ σ 7 ∧ σ 7 ≤ 1000000; omega
  · show 0 ≤ m_wc σ T P (σ 7).toNat ∧ m_wc σ T P (σ 7).toNat ≤ 1000000; omega
  · show 0 ≤ σ 9 ∧ σ 9 ≤ 1000000; omega
  · show 0 ≤ σ 10 ∧ σ 10 ≤ 1000000; omega
set_option maxHeartbeats 4000000 in
set_option maxRecDepth 100000 in
theorem g_isSame (l : Launch) (D : va_G) (sz : Nat) (ed : Nat × Nat × Nat) (cI cO cL : ClassId) (z g : Nat → Nat) (σ T P : Nat → Int) (hW : WF σ T) (hSS : WS σ P) (hob : 0 ≤ σ 9 ∧ σ 9 ≤ 1000) (hco : 0 ≤ σ 10 ∧ σ 10 ≤ 1000) : MGi l yX6_isSame wsX6_isSame 7 160 12 70 D (ty3 cI cO cL) sz ((WC cI cO g σ T P ++ WZ cI cL z σ T P)) [.ref (z 0), .ref (g 0)] ed (1) (fun (_ : Unit) => (WC cI cO g σ T P ++ WZ cI cL z σ T P)) := by
  refine MGi_of (cc := cX6_isSame) (maxL := 7) (ret := (some .boolean)) (by decide) rfl (Nat.le_of_ble_eq_true rfl) ?_
  intro p e s m args below meth c ls hx hb hr hlocks hml hown hts hsz hP hK hD hS hA hin hE hT hl
  have hl : lv_has ls 7 [(0, .ref (z 0)), (1, .ref (g 0))] := hl
  have hin_X6 : ∀ w ∈ u_ws RX6 TX6 10, w ∈ wsX6_isSame := (fun w h => List.mem_cons_of_mem _ (List.mem_append_left _ (List.mem_append_left _ (List.mem_append_left _ (List.mem_append_left _ (List.mem_append_left _ (List.mem_append_left _ (List.mem_append_left _ (List.mem_append_left _ (List.mem_append_right _ h))))))))))
  have hP : va_P D vwCl ([] ++ (WC cI cO g σ T P ++ WZ cI cL z σ T P)) s.heap := hP
  have hD : va_D (va_A ((WC cI cO g σ T P ++ WZ cI cL z σ T P)) sz) ([] ++ (WC cI cO g σ T P ++ WZ cI cL z σ T P)) := hD
  have hPc : PicC D cI cO g σ T P s.heap := vaP_mems hP (fun q hq => List.mem_append_right _ (List.mem_append_left _ hq))
  have hPic : PicS D cI cL z σ T P s.heap := vaP_mems hP (fun q hq => List.mem_append_right _ (List.mem_append_right _ hq))
  obtain ⟨w0, w1, w2, w3, w4, w5, w6, w7, w8⟩ := id hW
  refine q_iconst hx hb dX6_isSame_0 ?_
  refine lv_istore_n (lv' := [(2, .int (iI (0))), (0, .ref (z 0)), (1, .ref (g 0))]) hx hb dX6_isSame_1 rfl hl (by decide) rfl (fun ls hl => ?_)
  refine q_iconst hx hb dX6_isSame_2 ?_
  refine lv_istore_n (lv' := [(3, .int (iI (0))), (2, .int (iI (0))), (0, .ref (z 0)), (1, .ref (g 0))]) hx hb dX6_isSame_3 rfl hl (by decide) rfl (fun ls hl => ?_)
  have key_4 : ∀ (fu : Nat) (wr : Int) (k : Int), 0 ≤ k ∧ k ≤ σ 7 → wr = m_wc σ T P k.toNat → (((σ 7 - k).toNat : Int)) < (fu : Int) → ∀ (H : Heap) (locs : List Loc), va_P D vwCl ([] ++ (WC cI cO g σ T P ++ WZ cI cL z σ T P)) H → va_D (va_A ((WC cI cO g σ T P ++ WZ cI cL z σ T P)) sz) ([] ++ (WC cI cO g σ T P ++ WZ cI cL z σ T P)) → va_S (va_A ((WC cI cO g σ T P ++ WZ cI cL z σ T P)) sz) s.heap H locs → ∀ ls : Array Slot, lv_has ls 7 [(0, .ref (z 0)), (1, .ref (g 0)), (2, .int (iI (wr))), (3, .int (iI (k)))] → W p l e { frames := 7, cells := 12, slots := 70, locals := 160 } s m args below meth c H locs (k.toNat) (5 * k.toNat) (MQ below (va_Qi (fun (r : Int32) (_ : Unit) => r = iI (1)) (fun u t => va_P D vwCl ((fun (_ : Unit) => (WC cI cO g σ T P ++ WZ cI cL z σ T P)) u) t.heap ∧ va_D (va_A ((WC cI cO g σ T P ++ WZ cI cL z σ T P)) sz) ((fun (_ : Unit) => (WC cI cO g σ T P ++ WZ cI cL z σ T P)) u)) (va_A ((WC cI cO g σ T P ++ WZ cI cL z σ T P)) sz)) args s 12 70 (va_A ((WC cI cO g σ T P ++ WZ cI cL z σ T P)) sz)) (F0 m 4 ls []) := by
    intro fu
    induction fu with
    | zero => intro wr k hk hwr hm_4 H locs hP hD hS ls hl; exact absurd hm_4 (by omega)
    | succ fu ih_4 =>
      intro wr k hk hwr hm_4 H locs hP hD hS ls hl
      have hPc : PicC D cI cO g σ T P H := vaP_mems hP (fun q hq => List.mem_append_right _ (List.mem_append_left _ hq))
      have hPic : PicS D cI cL z σ T P H := vaP_mems hP (fun q hq => List.mem_append_right _ (List.mem_append_right _ hq))
      refine lv_iload_n hx hb dX6_isSame_4 rfl (lv_at hl 3 rfl) ?_
      refine lv_aload_n hx hb dX6_isSame_5 rfl (lv_at hl 0 rfl) ?_
      refine q_get (ci := 8) (C := RX6) (T := TX6) (N := 10) hx hb hts hin_X6 hown hK (v := .ref (z 2)) hPic.at0 rfl 7 (by decide) (hts (.fieldLink RX6 29 "AlmanacHouseLaw$Sim" "sheets" "[[I") (List.mem_of_getElem? (i := 1) rfl)) (fun _ h9 => h9) rfl dX6_isSame_6 ?_
      refine q_alen (z := σ 7) hx hb hK hPic.ss 2 rfl (by omega) dX6_isSame_9 ?_
      refine q_icmp_ge (tgt := 159) hx hb dX6_isSame_10 (by decide) (by omega) (by omega) (fun c_1 => ?_) (fun c_1 => ?_)
      · skip
        refine q_bipush hx hb dX6_isSame_159 (by decide) ?_
        refine q_newi hx hb (hts (.arrayClass .int) (List.mem_of_getElem? (i := 2) rfl)) hK 0 rfl hP hD hS hA 11 rfl (by decide) (by show (k.toNat) + 1 ≤ 12; omega) (by show (5 * k.toNat) + (11) ≤ 70; omega) dX6_isSame_161 ?_
        intro q161 H hP hD hS
        have hP : va_P D vwCl ([(q161, .inl (cI, 11, .inl (fun q9 => iI ((fun _ => 0) q9))))] ++ (WC cI cO g σ T P ++ WZ cI cL z σ T P)) H := hP
        have hD : va_D (va_A ((WC cI cO g σ T P ++ WZ cI cL z σ T P)) sz) ([(q161, .inl (cI, 11, .inl (fun q9 => iI ((fun _ => 0) q9))))] ++ (WC cI cO g σ T P ++ WZ cI cL z σ T P)) := hD
        have hPc : PicC D cI cO g σ T P H := vaP_mems hP (fun q hq => List.mem_append_right _ (List.mem_append_left _ hq))
        have hPic : PicS D cI cL z σ T P H := vaP_mems hP (fun q hq => List.mem_append_right _ (List.mem_append_right _ hq))
        refine lv_dup hx hb dX6_isSame_163 rfl ?_
        refine q_iconst hx hb dX6_isSame_164 ?_
        refine lv_aload_n hx hb dX6_isSame_165 rfl (lv_at hl 0 rfl) ?_
        refine q_get (ci := 8) (C := RX6) (T := TX6) (N := 10) hx hb hts hin_X6 hown hK (v := .int (iI (σ 0))) hPic.at0 rfl 0 (by decide) (hts (.fieldLink RX6 7 "AlmanacHouseLaw$Sim" "cycle" "I") (List.mem_of_getElem? (i := 3) rfl)) (fun _ h9 => h9) rfl dX6_isSame_166 ?_
        refine q_iast (f := (fun _ => 0)) (x := σ 0) hx hb hK hP hD hS 0 0 rfl rfl (0) (by omega) (by omega) (by decide) dX6_isSame_169 (fun H locs hP hD hS => ?_)
        have hP : va_P D vwCl ([(q161, .inl (cI, 11, .inl (fun q9 => iI (((st (fun _ => 0) (0) (σ 0))) q9))))] ++ (WC cI cO g σ T P ++ WZ cI cL z σ T P)) H := hP
        have hD : va_D (va_A ((WC cI cO g σ T P ++ WZ cI cL z σ T P)) sz) ([(q161, .inl (cI, 11, .inl (fun q9 => iI (((st (fun _ => 0) (0) (σ 0))) q9))))] ++ (WC cI cO g σ T P ++ WZ cI cL z σ T P)) := hD
        have hPc : PicC D cI cO g σ T P H := vaP_mems hP (fun q hq => List.mem_append_right _ (List.mem_append_left _ hq))
        have hPic : PicS D cI cL z σ T P H := vaP_mems hP (fun q hq => List.mem_append_right _ (List.mem_append_right _ hq))
        refine lv_dup hx hb dX6_isSame_170 rfl ?_
        refine q_iconst hx hb dX6_isSame_171 ?_
        refine lv_aload_n hx hb dX6_isSame_172 rfl (lv_at hl 0 rfl) ?_
        refine q_get (ci := 8) (C := RX6) (T := TX6) (N := 10) hx hb hts hin_X6 hown hK (v := .int (iI (σ 1))) hPic.at0 rfl 1 (by decide) (hts (.fieldLink RX6 13 "AlmanacHouseLaw$Sim" "leaps" "I") (List.mem_of_getElem? (i := 4) rfl)) (fun _ h9 => h9) rfl dX6_isSame_173 ?_
        refine q_iast (f := ((st (fun _ => 0) (0) (σ 0)))) (x := σ 1) hx hb hK hP hD hS 0 0 rfl rfl (1) (by omega) (by omega) (by decide) dX6_isSame_176 (fun H locs hP hD hS => ?_)
        have hP : va_P D vwCl ([(q161, .inl (cI, 11, .inl (fun q9 => iI (((st ((st (fun _ => 0) (0) (σ 0))) (1) (σ 1))) q9))))] ++ (WC cI cO g σ T P ++ WZ cI cL z σ T P)) H := hP
        have hD : va_D (va_A ((WC cI cO g σ T P ++ WZ cI cL z σ T P)) sz) ([(q161, .inl (cI, 11, .inl (fun q9 => iI (((st ((st (fun _ => 0) (0) (σ 0))) (1) (σ 1))) q9))))] ++ (WC cI cO g σ T P ++ WZ cI cL z σ T P)) := hD
        have hPc : PicC D cI cO g σ T P H := vaP_mems hP (fun q hq => List.mem_append_right _ (List.mem_append_left _ hq))
        have hPic : PicS D cI cL z σ T P H := vaP_mems hP (fun q hq => List.mem_append_right _ (List.mem_append_right _ hq))
        refine lv_dup hx hb dX6_isSame_177 rfl ?_
        refine q_iconst hx hb dX6_isSame_178 ?_
        refine lv_aload_n hx hb dX6_isSame_179 rfl (lv_at hl 0 rfl) ?_
        refine q_get (ci := 8) (C := RX6) (T := TX6) (N := 10) hx hb hts hin_X6 hown hK (v := .int (iI (σ 2))) hPic.at0 rfl 2 (by decide) (hts (.fieldLink RX6 16 "AlmanacHouseLaw$Sim" "length" "I") (List.mem_of_getElem? (i := 5) rfl)) (fun _ h9 => h9) rfl dX6_isSame_180 ?_
        refine q_iast (f := ((st ((st (fun _ => 0) (0) (σ 0))) (1) (σ 1)))) (x := σ 2) hx hb hK hP hD hS 0 0 rfl rfl (2) (by omega) (by omega) (by decide) dX6_isSame_183 (fun H locs hP hD hS => ?_)
        have hP : va_P D vwCl ([(q161, .inl (cI, 11, .inl (fun q9 => iI (((st ((st ((st (fun _ => 0) (0) (σ 0))) (1) (σ 1))) (2) (σ 2))) q9))))] ++ (WC cI cO g σ T P ++ WZ cI cL z σ T P)) H := hP
        have hD : va_D (va_A ((WC cI cO g σ T P ++ WZ cI cL z σ T P)) sz) ([(q161, .inl (cI, 11, .inl (fun q9 => iI (((st ((st ((st (fun _ => 0) (0) (σ 0))) (1) (σ 1))) (2) (σ 2))) q9))))] ++ (WC cI cO g σ T P ++ WZ cI cL z σ T P)) := hD
        have hPc : PicC D cI cO g σ T P H := vaP_mems hP (fun q hq => List.mem_append_right _ (List.mem_append_left _ hq))
        have hPic : PicS D cI cL z σ T P H := vaP_mems hP (fun q hq => List.mem_append_right _ (List.mem_append_right _ hq))
        refine lv_dup hx hb dX6_isSame_184 rfl ?_
        refine q_iconst hx hb dX6_isSame_185 ?_
        refine lv_aload_n hx hb dX6_isSame_186 rfl (lv_at hl 0 rfl) ?_
        refine q_get (ci := 8) (C := RX6) (T := TX6) (N := 10) hx hb hts hin_X6 hown hK (v := .int (iI (σ 3))) hPic.at0 rfl 3 (by decide) (hts (.fieldLink RX6 43 "AlmanacHouseLaw$Sim" "first" "I") (List.mem_of_getElem? (i := 6) rfl)) (fun _ h9 => h9) rfl dX6_isSame_187 ?_
        refine q_iast (f := ((st ((st ((st (fun _ => 0) (0) (σ 0))) (1) (σ 1))) (2) (σ 2)))) (x := σ 3) hx hb hK hP hD hS 0 0 rfl rfl (3) (by omega) (by omega) (by decide) dX6_isSame_190 (fun H locs hP hD hS => ?_)
        have hP : va_P D vwCl ([(q161, .inl (cI, 11, .inl (fun q9 => iI (((st ((st ((st ((st (fun _ => 0) (0) (σ 0))) (1) (σ 1))) (2) (σ 2))) (3) (σ 3))) q9))))] ++ (WC cI cO g σ T P ++ WZ cI cL z σ T P)) H := hP
        have hD : va_D (va_A ((WC cI cO g σ T P ++ WZ cI cL z σ T P)) sz) ([(q161, .inl (cI, 11, .inl (fun q9 => iI (((st ((st ((st ((st (fun _ => 0) (0) (σ 0))) (1) (σ 1))) (2) (σ 2))) (3) (σ 3))) q9))))] ++ (WC cI cO g σ T P ++ WZ cI cL z σ T P)) := hD
        have hPc : PicC D cI cO g σ T P H := vaP_mems hP (fun q hq => List.mem_append_right _ (List.mem_append_left _ hq))
        have hPic : PicS D cI cL z σ T P H := vaP_mems hP (fun q hq => List.mem_append_right _ (List.mem_append_right _ hq))
        refine lv_dup hx hb dX6_isSame_191 rfl ?_
        refine q_iconst hx hb dX6_isSame_192 ?_
        refine lv_aload_n hx hb dX6_isSame_193 rfl (lv_at hl 0 rfl) ?_
        refine q_get (ci := 8) (C := RX6) (T := TX6) (N := 10) hx hb hts hin_X6 hown hK (v := .int (iI (σ 4))) hPic.at0 rfl 4 (by decide) (hts (.fieldLink RX6 20 "AlmanacHouseLaw$Sim" "period" "I") (List.mem_of_getElem? (i := 7) rfl)) (fun _ h9 => h9) rfl dX6_isSame_194 ?_
        refine q_iast (f := ((st ((st ((st ((st (fun _ => 0) (0) (σ 0))) (1) (σ 1))) (2) (σ 2))) (3) (σ 3)))) (x := σ 4) hx hb hK hP hD hS 0 0 rfl rfl (4) (by omega) (by omega) (by decide) dX6_isSame_197 (fun H locs hP hD hS => ?_)
        have hP : va_P D vwCl ([(q161, .inl (cI, 11, .inl (fun q9 => iI (((st ((st ((st ((st ((st (fun _ => 0) (0) (σ 0))) (1) (σ 1))) (2) (σ 2))) (3) (σ 3))) (4) (σ 4))) q9))))] ++ (WC cI cO g σ T P ++ WZ cI cL z σ T P)) H := hP
        have hD : va_D (va_A ((WC cI cO g σ T P ++ WZ cI cL z σ T P)) sz) ([(q161, .inl (cI, 11, .inl (fun q9 => iI (((st ((st ((st ((st ((st (fun _ => 0) (0) (σ 0))) (1) (σ 1))) (2) (σ 2))) (3) (σ 3))) (4) (σ 4))) q9))))] ++ (WC cI cO g σ T P ++ WZ cI cL z σ T P)) := hD
        have hPc : PicC D cI cO g σ T P H := vaP_mems hP (fun q hq => List.mem_append_right _ (List.mem_append_left _ hq))
        have hPic : PicS D cI cL z σ T P H := vaP_mems hP (fun q hq => List.mem_append_right _ (List.mem_append_right _ hq))
        refine lv_dup hx hb dX6_isSame_198 rfl ?_
        refine q_iconst hx hb dX6_isSame_199 ?_
        refine lv_aload_n hx hb dX6_isSame_200 rfl (lv_at hl 0 rfl) ?_
        refine q_get (ci := 8) (C := RX6) (T := TX6) (N := 10) hx hb hts hin_X6 hown hK (v := .int (iI (σ 5))) hPic.at0 rfl 5 (by decide) (hts (.fieldLink RX6 56 "AlmanacHouseLaw$Sim" "node" "I") (List.mem_of_getElem? (i := 8) rfl)) (fun _ h9 => h9) rfl dX6_isSame_201 ?_
        refine q_iast (f := ((st ((st ((st ((st ((st (fun _ => 0) (0) (σ 0))) (1) (σ 1))) (2) (σ 2))) (3) (σ 3))) (4) (σ 4)))) (x := σ 5) hx hb hK hP hD hS 0 0 rfl rfl (5) (by omega) (by omega) (by decide) dX6_isSame_204 (fun H locs hP hD hS => ?_)
        have hP : va_P D vwCl ([(q161, .inl (cI, 11, .inl (fun q9 => iI (((st ((st ((st ((st ((st ((st (fun _ => 0) (0) (σ 0))) (1) (σ 1))) (2) (σ 2))) (3) (σ 3))) (4) (σ 4))) (5) (σ 5))) q9))))] ++ (WC cI cO g σ T P ++ WZ cI cL z σ T P)) H := hP
        have hD : va_D (va_A ((WC cI cO g σ T P ++ WZ cI cL z σ T P)) sz) ([(q161, .inl (cI, 11, .inl (fun q9 => iI (((st ((st ((st ((st ((st ((st (fun _ => 0) (0) (σ 0))) (1) (σ 1))) (2) (σ 2))) (3) (σ 3))) (4) (σ 4))) (5) (σ 5))) q9))))] ++ (WC cI cO g σ T P ++ WZ cI cL z σ T P)) := hD
        have hPc : PicC D cI cO g σ T P H := vaP_mems hP (fun q hq => List.mem_append_right _ (List.mem_append_left _ hq))
        have hPic : PicS D cI cL z σ T P H := vaP_mems hP (fun q hq => List.mem_append_right _ (List.mem_append_right _ hq))
        refine lv_dup hx hb dX6_isSame_205 rfl ?_
        refine q_bipush hx hb dX6_isSame_206 (by decide) ?_
        refine lv_aload_n hx hb dX6_isSame_208 rfl (lv_at hl 0 rfl) ?_
        refine q_get (ci := 8) (C := RX6) (T := TX6) (N := 10) hx hb hts hin_X6 hown hK (v := .ref (z 1)) hPic.at0 rfl 6 (by decide) (hts (.fieldLink RX6 25 "AlmanacHouseLaw$Sim" "feasts" "[[I") (List.mem_of_getElem? (i := 9) rfl)) (fun _ h9 => h9) rfl dX6_isSame_209 ?_
        refine q_alen (z := σ 6) hx hb hK hPic.fs 2 rfl (by omega) dX6_isSame_212 ?_
        refine q_iast (f := ((st ((st ((st ((st ((st ((st (fun _ => 0) (0) (σ 0))) (1) (σ 1))) (2) (σ 2))) (3) (σ 3))) (4) (σ 4))) (5) (σ 5)))) (x := σ 6) hx hb hK hP hD hS 0 0 rfl rfl (6) (by omega) (by omega) (by decide) dX6_isSame_213 (fun H locs hP hD hS => ?_)
        have hP : va_P D vwCl ([(q161, .inl (cI, 11, .inl (fun q9 => iI (((st ((st ((st ((st ((st ((st ((st (fun _ => 0) (0) (σ 0))) (1) (σ 1))) (2) (σ 2))) (3) (σ 3))) (4) (σ 4))) (5) (σ 5))) (6) (σ 6))) q9))))] ++ (WC cI cO g σ T P ++ WZ cI cL z σ T P)) H := hP
        have hD : va_D (va_A ((WC cI cO g σ T P ++ WZ cI cL z σ T P)) sz) ([(q161, .inl (cI, 11, .inl (fun q9 => iI (((st ((st ((st ((st ((st ((st ((st (fun _ => 0) (0) (σ 0))) (1) (σ 1))) (2) (σ 2))) (3) (σ 3))) (4) (σ 4))) (5) (σ 5))) (6) (σ 6))) q9))))] ++ (WC cI cO g σ T P ++ WZ cI cL z σ T P)) := hD
        have hPc : PicC D cI cO g σ T P H := vaP_mems hP (fun q hq => List.mem_append_right _ (List.mem_append_left _ hq))
        have hPic : PicS D cI cL z σ T P H := vaP_mems hP (fun q hq => List.mem_append_right _ (List.mem_append_right _ hq))
        refine lv_dup hx hb dX6_isSame_214 rfl ?_
        refine q_bipush hx hb dX6_isSame_215 (by decide) ?_
        refine lv_aload_n hx hb dX6_isSame_217 rfl (lv_at hl 0 rfl) ?_
        refine q_get (ci := 8) (C := RX6) (T := TX6) (N := 10) hx hb hts hin_X6 hown hK (v := .ref (z 2)) hPic.at0 rfl 7 (by decide) (hts (.fieldLink RX6 29 "AlmanacHouseLaw$Sim" "sheets" "[[I") (List.mem_of_getElem? (i := 1) rfl)) (fun _ h9 => h9) rfl dX6_isSame_218 ?_
        refine q_alen (z := σ 7) hx hb hK hPic.ss 2 rfl (by omega) dX6_isSame_221 ?_
        refine q_iast (f := ((st ((st ((st ((st ((st ((st ((st (fun _ => 0) (0) (σ 0))) (1) (σ 1))) (2) (σ 2))) (3) (σ 3))) (4) (σ 4))) (5) (σ 5))) (6) (σ 6)))) (x := σ 7) hx hb hK hP hD hS 0 0 rfl rfl (7) (by omega) (by omega) (by decide) dX6_isSame_222 (fun H locs hP hD hS => ?_)
        have hP : va_P D vwCl ([(q161, .inl (cI, 11, .inl (fun q9 => iI (((st ((st ((st ((st ((st ((st ((st ((st (fun _ => 0) (0) (σ 0))) (1) (σ 1))) (2) (σ 2))) (3) (σ 3))) (4) (σ 4))) (5) (σ 5))) (6) (σ 6))) (7) (σ 7))) q9))))] ++ (WC cI cO g σ T P ++ WZ cI cL z σ T P)) H := hP
        have hD : va_D (va_A ((WC cI cO g σ T P ++ WZ cI cL z σ T P)) sz) ([(q161, .inl (cI, 11, .inl (fun q9 => iI (((st ((st ((st ((st ((st ((st ((st ((st (fun _ => 0) (0) (σ 0))) (1) (σ 1))) (2) (σ 2))) (3) (σ 3))) (4) (σ 4))) (5) (σ 5))) (6) (σ 6))) (7) (σ 7))) q9))))] ++ (WC cI cO g σ T P ++ WZ cI cL z σ T P)) := hD
        have hPc : PicC D cI cO g σ T P H := vaP_mems hP (fun q hq => List.mem_append_right _ (List.mem_append_left _ hq))
        have hPic : PicS D cI cL z σ T P H := vaP_mems hP (fun q hq => List.mem_append_right _ (List.mem_append_right _ hq))
        refine lv_dup hx hb dX6_isSame_223 rfl ?_
        refine q_bipush hx hb dX6_isSame_224 (by decide) ?_
        refine lv_iload_n hx hb dX6_isSame_226 rfl (lv_at hl 2 rfl) ?_
        refine q_iast (f := ((st ((st ((st ((st ((st ((st ((st ((st (fun _ => 0) (0) (σ 0))) (1) (σ 1))) (2) (σ 2))) (3) (σ 3))) (4) (σ 4))) (5) (σ 5))) (6) (σ 6))) (7) (σ 7)))) (x := wr) hx hb hK hP hD hS 0 0 rfl rfl (8) (by omega) (by omega) (by decide) dX6_isSame_227 (fun H locs hP hD hS => ?_)
        have hP : va_P D vwCl ([(q161, .inl (cI, 11, .inl (fun q9 => iI (((st ((st ((st ((st ((st ((st ((st ((st ((st (fun _ => 0) (0) (σ 0))) (1) (σ 1))) (2) (σ 2))) (3) (σ 3))) (4) (σ 4))) (5) (σ 5))) (6) (σ 6))) (7) (σ 7))) (8) (wr))) q9))))] ++ (WC cI cO g σ T P ++ WZ cI cL z σ T P)) H := hP
        have hD : va_D (va_A ((WC cI cO g σ T P ++ WZ cI cL z σ T P)) sz) ([(q161, .inl (cI, 11, .inl (fun q9 => iI (((st ((st ((st ((st ((st ((st ((st ((st ((st (fun _ => 0) (0) (σ 0))) (1) (σ 1))) (2) (σ 2))) (3) (σ 3))) (4) (σ 4))) (5) (σ 5))) (6) (σ 6))) (7) (σ 7))) (8) (wr))) q9))))] ++ (WC cI cO g σ T P ++ WZ cI cL z σ T P)) := hD
        have hPc : PicC D cI cO g σ T P H := vaP_mems hP (fun q hq => List.mem_append_right _ (List.mem_append_left _ hq))
        have hPic : PicS D cI cL z σ T P H := vaP_mems hP (fun q hq => List.mem_append_right _ (List.mem_append_right _ hq))
        refine lv_dup hx hb dX6_isSame_228 rfl ?_
        refine q_bipush hx hb dX6_isSame_229 (by decide) ?_
        refine lv_aload_n hx hb dX6_isSame_231 rfl (lv_at hl 0 rfl) ?_
        refine q_get (ci := 8) (C := RX6) (T := TX6) (N := 10) hx hb hts hin_X6 hown hK (v := .int (iI (σ 9))) hPic.at0 rfl 8 (by decide) (hts (.fieldLink RX6 75 "AlmanacHouseLaw$Sim" "seen" "I") (List.mem_of_getElem? (i := 10) rfl)) (fun _ h9 => h9) rfl dX6_isSame_232 ?_
        refine q_iast (f := ((st ((st ((st ((st ((st ((st ((st ((st ((st (fun _ => 0) (0) (σ 0))) (1) (σ 1))) (2) (σ 2))) (3) (σ 3))) (4) (σ 4))) (5) (σ 5))) (6) (σ 6))) (7) (σ 7))) (8) (wr)))) (x := σ 9) hx hb hK hP hD hS 0 0 rfl rfl (9) (by omega) (by omega) (by decide) dX6_isSame_235 (fun H locs hP hD hS => ?_)
        have hP : va_P D vwCl ([(q161, .inl (cI, 11, .inl (fun q9 => iI (((st ((st ((st ((st ((st ((st ((st ((st ((st ((st (fun _ => 0) (0) (σ 0))) (1) (σ 1))) (2) (σ 2))) (3) (σ 3))) (4) (σ 4))) (5) (σ 5))) (6) (σ 6))) (7) (σ 7))) (8) (wr))) (9) (σ 9))) q9))))] ++ (WC cI cO g σ T P ++ WZ cI cL z σ T P)) H := hP
        have hD : va_D (va_A ((WC cI cO g σ T P ++ WZ cI cL z σ T P)) sz) ([(q161, .inl (cI, 11, .inl (fun q9 => iI (((st ((st ((st ((st ((st ((st ((st ((st ((st ((st (fun _ => 0) (0) (σ 0))) (1) (σ 1))) (2) (σ 2))) (3) (σ 3))) (4) (σ 4))) (5) (σ 5))) (6) (σ 6))) (7) (σ 7))) (8) (wr))) (9) (σ 9))) q9))))] ++ (WC cI cO g σ T P ++ WZ cI cL z σ T P)) := hD
        have hPc : PicC D cI cO g σ T P H := vaP_mems hP (fun q hq => List.mem_append_right _ (List.mem_append_left _ hq))
        have hPic : PicS D cI cL z σ T P H := vaP_mems hP (fun q hq => List.mem_append_right _ (List.mem_append_right _ hq))
        refine lv_dup hx hb dX6_isSame_236 rfl ?_
        refine q_bipush hx hb dX6_isSame_237 (by decide) ?_
        refine lv_aload_n hx hb dX6_isSame_239 rfl (lv_at hl 0 rfl) ?_
        refine q_get (ci := 8) (C := RX6) (T := TX6) (N := 10) hx hb hts hin_X6 hown hK (v := .int (iI (σ 10))) hPic.at0 rfl 9 (by decide) (hts (.fieldLink RX6 78 "AlmanacHouseLaw$Sim" "corrected" "I") (List.mem_of_getElem? (i := 11) rfl)) (fun _ h9 => h9) rfl dX6_isSame_240 ?_
        refine q_iast (f := ((st ((st ((st ((st ((st ((st ((st ((st ((st ((st (fun _ => 0) (0) (σ 0))) (1) (σ 1))) (2) (σ 2))) (3) (σ 3))) (4) (σ 4))) (5) (σ 5))) (6) (σ 6))) (7) (σ 7))) (8) (wr))) (9) (σ 9)))) (x := σ 10) hx hb hK hP hD hS 0 0 rfl rfl (10) (by omega) (by omega) (by decide) dX6_isSame_243 (fun H locs hP hD hS => ?_)
        have hP : va_P D vwCl ([(q161, .inl (cI, 11, .inl (fun q9 => iI (((st ((st ((st ((st ((st ((st ((st ((st ((st ((st ((st (fun _ => 0) (0) (σ 0))) (1) (σ 1))) (2) (σ 2))) (3) (σ 3))) (4) (σ 4))) (5) (σ 5))) (6) (σ 6))) (7) (σ 7))) (8) (wr))) (9) (σ 9))) (10) (σ 10))) q9))))] ++ (WC cI cO g σ T P ++ WZ cI cL z σ T P)) H := hP
        have hD : va_D (va_A ((WC cI cO g σ T P ++ WZ cI cL z σ T P)) sz) ([(q161, .inl (cI, 11, .inl (fun q9 => iI (((st ((st ((st ((st ((st ((st ((st ((st ((st ((st ((st (fun _ => 0) (0) (σ 0))) (1) (σ 1))) (2) (σ 2))) (3) (σ 3))) (4) (σ 4))) (5) (σ 5))) (6) (σ 6))) (7) (σ 7))) (8) (wr))) (9) (σ 9))) (10) (σ 10))) q9))))] ++ (WC cI cO g σ T P ++ WZ cI cL z σ T P)) := hD
        have hPc : PicC D cI cO g σ T P H := vaP_mems hP (fun q hq => List.mem_append_right _ (List.mem_append_left _ hq))
        have hPic : PicS D cI cL z σ T P H := vaP_mems hP (fun q hq => List.mem_append_right _ (List.mem_append_right _ hq))
        obtain ⟨cf, hcf, hcv⟩ : ∃ cf : Nat → Int, cf = (st ((st ((st ((st ((st ((st ((st ((st ((st ((st ((st (fun _ => 0) (0) (σ 0))) (1) (σ 1))) (2) (σ 2))) (3) (σ 3))) (4) (σ 4))) (5) (σ 5))) (6) (σ 6))) (7) (σ 7))) (8) (wr))) (9) (σ 9))) (10) (σ 10)) ∧ ∀ w : Int, 0 ≤ w → w ≤ 10 → cf (Int.toNat (w)) = m_count σ T P w := by
          refine ⟨_, rfl, fun w h0 h4 => ?_⟩
          have h : w = 0 ∨ w = 1 ∨ w = 2 ∨ w = 3 ∨ w = 4 ∨ w = 5 ∨ w = 6 ∨ w = 7 ∨ w = 8 ∨ w = 9 ∨ w = 10 := by omega
          rcases h with h | h | h | h | h | h | h | h | h | h | h <;> subst h
          · rfl
          · rfl
          · rfl
          · rfl
          · rfl
          · rfl
          · rfl
          · rfl
          · show wr = m_wc σ T P (σ 7).toNat; rw [hwr, show k = σ 7 by omega]
          · rfl
          · rfl
        rw [← hcf] at hP hD
        have hP : va_P D vwCl ([(q161, .inl (cI, 11, .inl (fun q9 => iI (cf q9))))] ++ (WC cI cO g σ T P ++ WZ cI cL z σ T P)) H := hP
        have hD : va_D (va_A ((WC cI cO g σ T P ++ WZ cI cL z σ T P)) sz) ([(q161, .inl (cI, 11, .inl (fun q9 => iI (cf q9))))] ++ (WC cI cO g σ T P ++ WZ cI cL z σ T P)) := hD
        have hPc : PicC D cI cO g σ T P H := vaP_mems hP (fun q hq => List.mem_append_right _ (List.mem_append_left _ hq))
        have hPic : PicS D cI cL z σ T P H := vaP_mems hP (fun q hq => List.mem_append_right _ (List.mem_append_right _ hq))
        refine lv_astore_n (lv' := [(3, .ref q161), (0, .ref (z 0)), (1, .ref (g 0)), (2, .int (iI (wr)))]) hx hb dX6_isSame_244 rfl hl (by decide) rfl (fun ls hl => ?_)
        refine q_iconst hx hb dX6_isSame_245 ?_
        refine lv_istore (lv' := [(4, .int (iI (0))), (3, .ref q161), (0, .ref (z 0)), (1, .ref (g 0)), (2, .int (iI (wr)))]) hx hb dX6_isSame_246 hl (by decide) rfl (fun ls hl => ?_)
        have key_248 : ∀ (fu : Nat) (w : Int), 0 ≤ w ∧ w ≤ 11 → (11 - w) < (fu : Int) → ∀ (H : Heap) (locs : List Loc), va_P D vwCl ([(q161, .inl (cI, 11, .inl (fun q9 => iI (cf q9))))] ++ (WC cI cO g σ T P ++ WZ cI cL z σ T P)) H → va_D (va_A ((WC cI cO g σ T P ++ WZ cI cL z σ T P)) sz) ([(q161, .inl (cI, 11, .inl (fun q9 => iI (cf q9))))] ++ (WC cI cO g σ T P ++ WZ cI cL z σ T P)) → va_S (va_A ((WC cI cO g σ T P ++ WZ cI cL z σ T P)) sz) s.heap H locs → ∀ ls : Array Slot, lv_has ls 7 [(0, .ref (z 0)), (1, .ref (g 0)), (2, .int (iI (wr))), (3, .ref q161), (4, .int (iI (w)))] → W p l e { frames := 7, cells := 12, slots := 70, locals := 160 } s m args below meth c H locs (k.toNat + 1) (5 * k.toNat + 11) (MQ below (va_Qi (fun (r : Int32) (_ : Unit) => r = iI (1)) (fun u t => va_P D vwCl ((fun (_ : Unit) => (WC cI cO g σ T P ++ WZ cI cL z σ T P)) u) t.heap ∧ va_D (va_A ((WC cI cO g σ T P ++ WZ cI cL z σ T P)) sz) ((fun (_ : Unit) => (WC cI cO g σ T P ++ WZ cI cL z σ T P)) u)) (va_A ((WC cI cO g σ T P ++ WZ cI cL z σ T P)) sz)) args s 12 70 (va_A ((WC cI cO g σ T P ++ WZ cI cL z σ T P)) sz)) (F0 m 248 ls []) := by
          intro fu
          induction fu with
          | zero => intro w hw hm_248 H locs hP hD hS ls hl; exact absurd hm_248 (by omega)
          | succ fu ih_248 =>
            intro w hw hm_248 H locs hP hD hS ls hl
            have hPc : PicC D cI cO g σ T P H := vaP_mems hP (fun q hq => List.mem_append_right _ (List.mem_append_left _ hq))
            have hPic : PicS D cI cL z σ T P H := vaP_mems hP (fun q hq => List.mem_append_right _ (List.mem_append_right _ hq))
            refine lv_iload hx hb dX6_isSame_248 (lv_at hl 4 rfl) ?_
            refine q_bipush hx hb dX6_isSame_250 (by decide) ?_
            refine q_icmp_ge (tgt := 276) hx hb dX6_isSame_252 (by decide) (by omega) (by omega) (fun c_2 => ?_) (fun c_2 => ?_)
            · skip
              refine lv_aload_n hx hb dX6_isSame_276 rfl (lv_at hl 1 rfl) ?_
              refine q_callVd (fr := 0) (lo := 0) (nL := 7) (Pic := PicB D cO g σ T) (As := []) (rest := []) ⟨hx, hb, hml, hown, hts⟩ (c_mean l D cI cO cL g σ T hW) (cwV 0 hts gX6_isSame_X5_mean rfl rfl rfl (by decide +kernel) ⟨Nat.le_of_ble_eq_true rfl, Nat.le_of_ble_eq_true rfl⟩) (ob_recv hPc.base.at0 hK rfl) hPc.base hK rfl hl.1 rfl (Nat.le_of_ble_eq_true rfl) dX6_isSame_277 (by show (k.toNat + 1) ≤ 12; omega) (by show (5 * k.toNat + 11) ≤ 70; omega) ?_
              refine lv_ldc2d hx hb hown (hts (.constantDouble RX6 115 (4645128764097822720)) (List.mem_of_getElem? (i := 12) rfl)) dX6_isSame_280 ?_
              refine lv_aload_n hx hb dX6_isSame_283 rfl (lv_at hl 0 rfl) ?_
              refine q_get (ci := 8) (C := RX6) (T := TX6) (N := 10) hx hb hts hin_X6 hown hK (v := .int (iI (σ 1))) hPic.at0 rfl 1 (by decide) (hts (.fieldLink RX6 13 "AlmanacHouseLaw$Sim" "leaps" "I") (List.mem_of_getElem? (i := 4) rfl)) (fun _ h9 => h9) rfl dX6_isSame_284 ?_
              refine lv_i2d hx hb dX6_isSame_287 ?_
              refine lv_aload_n hx hb dX6_isSame_288 rfl (lv_at hl 0 rfl) ?_
              refine q_get (ci := 8) (C := RX6) (T := TX6) (N := 10) hx hb hts hin_X6 hown hK (v := .int (iI (σ 0))) hPic.at0 rfl 0 (by decide) (hts (.fieldLink RX6 7 "AlmanacHouseLaw$Sim" "cycle" "I") (List.mem_of_getElem? (i := 3) rfl)) (fun _ h9 => h9) rfl dX6_isSame_289 ?_
              refine lv_i2d hx hb dX6_isSame_292 ?_
              refine lv_ddiv hx hb dX6_isSame_293 (f_div (by omega) w0) ?_
              refine lv_dadd hx hb dX6_isSame_294 (f_mean (by omega) w0) ?_
              refine lv_dcmp hx hb dX6_isSame_295 ?_
              rw [show (FP.dadd (4645128764097822720) (FP.ddiv (FP.i2d (iI (σ 1))) (FP.i2d (iI (σ 0))))) = m_mean σ from rfl, fcmp_mean hW]
              refine W.eq (g2 := F0 m 296 ls [.int (iI (0))]) rfl ?_
              refine q_if_ne (tgt := 303) hx hb dX6_isSame_296 (by decide) (by omega) (fun c_3 => ?_) (fun c_3 => ?_)
              · exfalso
                omega
              · skip
                refine q_iconst hx hb dX6_isSame_299 ?_
                refine lv_goto (tgt := 304) hx hb dX6_isSame_300 (by decide) ?_
                exact q_gzret (cells := (k.toNat + 1)) (slots := (5 * k.toNat + 11)) (mc := 12) (ms := 70) (w1 := fun (_ : Unit) => (WC cI cO g σ T P ++ WZ cI cL z σ T P)) (()) hx hb hr hlocks (by omega) hS (by omega) (⟨vaP_mems hP (fun q hq => List.mem_cons_of_mem _ hq), vaD_sub hD (List.sublist_cons_self _ _)⟩) (by omega) (by omega) dX6_isSame_304
            · skip
              refine lv_aload_n hx hb dX6_isSame_255 rfl (lv_at hl 1 rfl) ?_
              refine lv_iload hx hb dX6_isSame_256 (lv_at hl 4 rfl) ?_
              refine q_callV (fr := 6) (lo := 131) (nL := 7) (Pic := PicC D cI cO g σ T P) (As := [.int (iI (w))]) (rest := []) ⟨hx, hb, hml, hown, hts⟩ (p_count l D cI cO cL g σ T P hW hSS (w) (by omega)) (cwV 1 hts gX6_isSame_X5_count rfl rfl rfl (by decide +kernel) ⟨Nat.le_of_ble_eq_true rfl, Nat.le_of_ble_eq_true rfl⟩) (ob_recv hPc.base.at0 hK rfl) hPc hK rfl hl.1 rfl (Nat.le_of_ble_eq_true rfl) dX6_isSame_258 (by show (k.toNat + 1) ≤ 12; omega) (by show (5 * k.toNat + 11) ≤ 70; omega) ?_
              have hci := m_count_in hW hob hco (P := P) (w := w) (by omega)
              refine lv_aload_n hx hb dX6_isSame_261 rfl (lv_at hl 3 rfl) ?_
              refine lv_iload hx hb dX6_isSame_262 (lv_at hl 4 rfl) ?_
              refine q_iald (cA := cI) (n := 11) (f := cf) hx hb hK (hP 0 _ rfl) 0 rfl (by omega) (by decide) dX6_isSame_264 ?_
              refine q_is (z := m_count σ T P (w)) (hcv (w) (by omega) (by omega)) ?_
              refine q_icmp_eq (tgt := 270) hx hb dX6_isSame_265 (by decide) (by omega) (by omega) (fun c_4 => ?_) (fun c_4 => ?_)
              · skip
                refine q_iinc (k := 4) (lv' := [(4, .int (iI (w + 1))), (0, .ref (z 0)), (1, .ref (g 0)), (2, .int (iI (wr))), (3, .ref q161)]) hx hb dX6_isSame_270 hl rfl (by decide) rfl (fun ls hl => ?_)
                refine lv_goto (tgt := 248) hx hb dX6_isSame_273 (by decide) ?_
                exact ih_248 _ (by omega) (by omega) _ _ (hP) (hD) hS _ (lv_sub hl [1, 2, 3, 4, 0] rfl)
              · exfalso
                omega
        exact key_248 (12) 0 (by omega) (by omega) _ _ (hP) (hD) hS _ (lv_sub hl [2, 3, 4, 1, 0] rfl)
      · skip
        refine lv_aload_n hx hb dX6_isSame_13 rfl (lv_at hl 0 rfl) ?_
        refine q_get (ci := 8) (C := RX6) (T := TX6) (N := 10) hx hb hts hin_X6 hown hK (v := .ref (z 2)) hPic.at0 rfl 7 (by decide) (hts (.fieldLink RX6 29 "AlmanacHouseLaw$Sim" "sheets" "[[I") (List.mem_of_getElem? (i := 1) rfl)) (fun _ h9 => h9) rfl dX6_isSame_14 ?_
        refine lv_iload_n hx hb dX6_isSame_17 rfl (lv_at hl 3 rfl) ?_
        refine q_aldA (cA := cL) (n := (σ 7).toNat) (f := (fun j => if j < (σ 7).toNat then some (z (20 + j)) else none)) (v := z (20 + (k).toNat)) hx hb hK hPic.ss 2 rfl (by omega) (by omega) (if_pos (by omega)) dX6_isSame_18 ?_
        refine lv_astore (lv' := [(4, .ref (z (20 + (k).toNat))), (0, .ref (z 0)), (1, .ref (g 0)), (2, .int (iI (wr))), (3, .int (iI (k)))]) hx hb dX6_isSame_19 hl (by decide) rfl (fun ls hl => ?_)
        refine q_iconst hx hb dX6_isSame_21 ?_
        refine q_newi hx hb (hts (.arrayClass .int) (List.mem_of_getElem? (i := 2) rfl)) hK 0 rfl hP hD hS hA 5 rfl (by decide) (by show (k.toNat) + 1 ≤ 12; omega) (by show (5 * k.toNat) + (5) ≤ 70; omega) dX6_isSame_22 ?_
        intro q22 H hP hD hS
        have hP : va_P D vwCl ([(q22, .inl (cI, 5, .inl (fun q9 => iI ((fun _ => 0) q9))))] ++ (WC cI cO g σ T P ++ WZ cI cL z σ T P)) H := hP
        have hD : va_D (va_A ((WC cI cO g σ T P ++ WZ cI cL z σ T P)) sz) ([(q22, .inl (cI, 5, .inl (fun q9 => iI ((fun _ => 0) q9))))] ++ (WC cI cO g σ T P ++ WZ cI cL z σ T P)) := hD
        have hPc : PicC D cI cO g σ T P H := vaP_mems hP (fun q hq => List.mem_append_right _ (List.mem_append_left _ hq))
        have hPic : PicS D cI cL z σ T P H := vaP_mems hP (fun q hq => List.mem_append_right _ (List.mem_append_right _ hq))
        refine lv_dup hx hb dX6_isSame_24 rfl ?_
        refine q_iconst hx hb dX6_isSame_25 ?_
        obtain ⟨s1, s2, s3, s4⟩ := hSS (k).toNat (by omega)
        have h01 := m_told_01 σ T P (k).toNat
        have hti := fun w => m_told_in hW hSS (j := (k).toNat) (w := w) (by omega)
        have hsh := m_told_4 σ T P (k).toNat
        have hs2 := m_sh_in2 (f := fun i => m_F σ T i (P (11 * (k).toNat))) (dy := fun i => P (11 * (k).toNat + 3 + i)) (n := (P (11 * (k).toNat + 1)).toNat) (fun i hi => m_F_in hW (by omega) s1) (fun i hi => s4 i (by omega))
        refine lv_aload hx hb dX6_isSame_26 (lv_at hl 0 rfl) ?_
        refine q_iconst hx hb dX6_isSame_28 ?_
        refine q_iald (cA := cI) (n := (2 + (P (11 * (k).toNat + 1)).toNat)) (f := (fun q8 => P (11 * (k).toNat + sx q8))) hx hb hK (hPic.sr (j := (k).toNat) (by omega)) 0 rfl (by omega) (by omega) dX6_isSame_29 ?_
        refine q_is (z := P (11 * (k).toNat)) (by rfl) ?_
        refine q_iast (f := (fun _ => 0)) (x := P (11 * (k).toNat)) hx hb hK hP hD hS 0 0 rfl rfl (0) (rfl) (by decide) (by decide) dX6_isSame_30 (fun H locs hP hD hS => ?_)
        have hP : va_P D vwCl ([(q22, .inl (cI, 5, .inl (fun q9 => iI (((st (fun _ => 0) (0) (P (11 * (k).toNat)))) q9))))] ++ (WC cI cO g σ T P ++ WZ cI cL z σ T P)) H := hP
        have hD : va_D (va_A ((WC cI cO g σ T P ++ WZ cI cL z σ T P)) sz) ([(q22, .inl (cI, 5, .inl (fun q9 => iI (((st (fun _ => 0) (0) (P (11 * (k).toNat)))) q9))))] ++ (WC cI cO g σ T P ++ WZ cI cL z σ T P)) := hD
        have hPc : PicC D cI cO g σ T P H := vaP_mems hP (fun q hq => List.mem_append_right _ (List.mem_append_left _ hq))
        have hPic : PicS D cI cL z σ T P H := vaP_mems hP (fun q hq => List.mem_append_right _ (List.mem_append_right _ hq))
        refine lv_dup hx hb dX6_isSame_31 rfl ?_
        refine q_iconst hx hb dX6_isSame_32 ?_
        refine lv_aload hx hb dX6_isSame_33 (lv_at hl 0 rfl) ?_
        refine q_alen (z := 2 + P (11 * (k).toNat + 1)) hx hb hK (hPic.sr (j := (k).toNat) (by omega)) 0 rfl (by omega) dX6_isSame_35 ?_
        refine q_iconst hx hb dX6_isSame_36 ?_
        refine q_isub hx hb dX6_isSame_37 ?_
        refine q_iast (f := ((st (fun _ => 0) (0) (P (11 * (k).toNat))))) (x := (2 + P (11 * (k).toNat + 1)) - (2)) hx hb hK hP hD hS 0 0 rfl rfl (1) (rfl) (by decide) (by decide) dX6_isSame_38 (fun H locs hP hD hS => ?_)
        have hP : va_P D vwCl ([(q22, .inl (cI, 5, .inl (fun q9 => iI (((st ((st (fun _ => 0) (0) (P (11 * (k).toNat)))) (1) ((2 + P (11 * (k).toNat + 1)) - (2)))) q9))))] ++ (WC cI cO g σ T P ++ WZ cI cL z σ T P)) H := hP
        have hD : va_D (va_A ((WC cI cO g σ T P ++ WZ cI cL z σ T P)) sz) ([(q22, .inl (cI, 5, .inl (fun q9 => iI (((st ((st (fun _ => 0) (0) (P (11 * (k).toNat)))) (1) ((2 + P (11 * (k).toNat + 1)) - (2)))) q9))))] ++ (WC cI cO g σ T P ++ WZ cI cL z σ T P)) := hD
        have hPc : PicC D cI cO g σ T P H := vaP_mems hP (fun q hq => List.mem_append_right _ (List.mem_append_left _ hq))
        have hPic : PicS D cI cL z σ T P H := vaP_mems hP (fun q hq => List.mem_append_right _ (List.mem_append_right _ hq))
        refine lv_dup hx hb dX6_isSame_39 rfl ?_
        refine q_iconst hx hb dX6_isSame_40 ?_
        refine lv_aload hx hb dX6_isSame_41 (lv_at hl 0 rfl) ?_
        refine q_iconst hx hb dX6_isSame_43 ?_
        refine q_iald (cA := cI) (n := (2 + (P (11 * (k).toNat + 1)).toNat)) (f := (fun q8 => P (11 * (k).toNat + sx q8))) hx hb hK (hPic.sr (j := (k).toNat) (by omega)) 0 rfl (by omega) (by omega) dX6_isSame_44 ?_
        refine q_is (z := P (11 * (k).toNat + 2)) (by rfl) ?_
        refine q_iast (f := ((st ((st (fun _ => 0) (0) (P (11 * (k).toNat)))) (1) ((2 + P (11 * (k).toNat + 1)) - (2))))) (x := P (11 * (k).toNat + 2)) hx hb hK hP hD hS 0 0 rfl rfl (2) (rfl) (by decide) (by decide) dX6_isSame_45 (fun H locs hP hD hS => ?_)
        have hP : va_P D vwCl ([(q22, .inl (cI, 5, .inl (fun q9 => iI (((st ((st ((st (fun _ => 0) (0) (P (11 * (k).toNat)))) (1) ((2 + P (11 * (k).toNat + 1)) - (2)))) (2) (P (11 * (k).toNat + 2)))) q9))))] ++ (WC cI cO g σ T P ++ WZ cI cL z σ T P)) H := hP
        have hD : va_D (va_A ((WC cI cO g σ T P ++ WZ cI cL z σ T P)) sz) ([(q22, .inl (cI, 5, .inl (fun q9 => iI (((st ((st ((st (fun _ => 0) (0) (P (11 * (k).toNat)))) (1) ((2 + P (11 * (k).toNat + 1)) - (2)))) (2) (P (11 * (k).toNat + 2)))) q9))))] ++ (WC cI cO g σ T P ++ WZ cI cL z σ T P)) := hD
        have hPc : PicC D cI cO g σ T P H := vaP_mems hP (fun q hq => List.mem_append_right _ (List.mem_append_left _ hq))
        have hPic : PicS D cI cL z σ T P H := vaP_mems hP (fun q hq => List.mem_append_right _ (List.mem_append_right _ hq))
        refine lv_dup hx hb dX6_isSame_46 rfl ?_
        refine q_iconst hx hb dX6_isSame_47 ?_
        refine lv_aload_n hx hb dX6_isSame_48 rfl (lv_at hl 1 rfl) ?_
        refine lv_aload hx hb dX6_isSame_49 (lv_at hl 0 rfl) ?_
        refine q_callV (fr := 6) (lo := 139) (nL := 7) (Pic := PicS D cI cL z σ T P) (As := [.ref (z (20 + (k).toNat))]) (rest := [.int (iI (3)), .ref q22, .ref q22]) ⟨hx, hb, hml, hown, hts⟩ (z_isWrong l D cI cO cL z σ T P hW hSS (k) (by omega)) (cwV 1 hts gX6_isSame_X6_isWrong rfl rfl rfl (by decide +kernel) ⟨Nat.le_of_ble_eq_true rfl, Nat.le_of_ble_eq_true rfl⟩) (ob_recv hPic.at0 hK rfl) hPic hK rfl hl.1 rfl (Nat.le_of_ble_eq_true rfl) dX6_isSame_51 (by show (k.toNat + 1) ≤ 12; omega) (by show (5 * k.toNat + 5) ≤ 70; omega) ?_
        have key_62 : ∀ (wq : Int), wq = m_told σ T P (k).toNat 3 → ∀ ls : Array Slot, lv_has ls 7 [(4, .ref (z (20 + (k).toNat))), (0, .ref (z 0)), (1, .ref (g 0)), (2, .int (iI (wr))), (3, .int (iI (k)))] → W p l e { frames := 7, cells := 12, slots := 70, locals := 160 } s m args below meth c H locs (k.toNat + 1) (5 * k.toNat + 5) (MQ below (va_Qi (fun (r : Int32) (_ : Unit) => r = iI (1)) (fun u t => va_P D vwCl ((fun (_ : Unit) => (WC cI cO g σ T P ++ WZ cI cL z σ T P)) u) t.heap ∧ va_D (va_A ((WC cI cO g σ T P ++ WZ cI cL z σ T P)) sz) ((fun (_ : Unit) => (WC cI cO g σ T P ++ WZ cI cL z σ T P)) u)) (va_A ((WC cI cO g σ T P ++ WZ cI cL z σ T P)) sz)) args s 12 70 (va_A ((WC cI cO g σ T P ++ WZ cI cL z σ T P)) sz)) (F0 m 62 ls [.int (iI (wq)), .int (iI (3)), .ref q22, .ref q22]) := by
          intro wq hwq ls hl
          refine q_iast (f := ((st ((st ((st (fun _ => 0) (0) (P (11 * (k).toNat)))) (1) ((2 + P (11 * (k).toNat + 1)) - (2)))) (2) (P (11 * (k).toNat + 2))))) (x := wq) hx hb hK hP hD hS 0 0 rfl rfl (3) (rfl) (by decide) (by decide) dX6_isSame_62 (fun H locs hP hD hS => ?_)
          have hP : va_P D vwCl ([(q22, .inl (cI, 5, .inl (fun q9 => iI (((st ((st ((st ((st (fun _ => 0) (0) (P (11 * (k).toNat)))) (1) ((2 + P (11 * (k).toNat + 1)) - (2)))) (2) (P (11 * (k).toNat + 2)))) (3) (wq))) q9))))] ++ (WC cI cO g σ T P ++ WZ cI cL z σ T P)) H := hP
          have hD : va_D (va_A ((WC cI cO g σ T P ++ WZ cI cL z σ T P)) sz) ([(q22, .inl (cI, 5, .inl (fun q9 => iI (((st ((st ((st ((st (fun _ => 0) (0) (P (11 * (k).toNat)))) (1) ((2 + P (11 * (k).toNat + 1)) - (2)))) (2) (P (11 * (k).toNat + 2)))) (3) (wq))) q9))))] ++ (WC cI cO g σ T P ++ WZ cI cL z σ T P)) := hD
          have hPc : PicC D cI cO g σ T P H := vaP_mems hP (fun q hq => List.mem_append_right _ (List.mem_append_left _ hq))
          have hPic : PicS D cI cL z σ T P H := vaP_mems hP (fun q hq => List.mem_append_right _ (List.mem_append_right _ hq))
          refine lv_dup hx hb dX6_isSame_63 rfl ?_
          refine q_iconst hx hb dX6_isSame_64 ?_
          refine lv_aload_n hx hb dX6_isSame_65 rfl (lv_at hl 1 rfl) ?_
          refine lv_aload hx hb dX6_isSame_66 (lv_at hl 0 rfl) ?_
          refine q_callV (fr := 5) (lo := 114) (nL := 7) (Pic := PicS D cI cL z σ T P) (As := [.ref (z (20 + (k).toNat))]) (rest := [.int (iI (4)), .ref q22, .ref q22]) ⟨hx, hb, hml, hown, hts⟩ (z_off l D cI cO cL z σ T P hW hSS (k) (by omega)) (cwV 1 hts gX6_isSame_X6_off rfl rfl rfl (by decide +kernel) ⟨Nat.le_of_ble_eq_true rfl, Nat.le_of_ble_eq_true rfl⟩) (ob_recv hPic.at0 hK rfl) hPic hK rfl hl.1 rfl (Nat.le_of_ble_eq_true rfl) dX6_isSame_68 (by show (k.toNat + 1) ≤ 12; omega) (by show (5 * k.toNat + 5) ≤ 70; omega) ?_
          have hof68 := m_chg_in (fun i => m_F σ T i (P (11 * (Int.toNat (k))))) (fun i => P (11 * (Int.toNat (k)) + 3 + i)) (P (11 * (Int.toNat (k)) + 1)).toNat
          refine q_sipush hx hb dX6_isSame_71 (by decide) ?_
          refine q_idiv hx hb dX6_isSame_74 (by omega) (by omega) ?_
          refine q_is (z := m_told σ T P (k).toNat 4) (by omega) ?_
          refine q_iast (f := ((st ((st ((st ((st (fun _ => 0) (0) (P (11 * (k).toNat)))) (1) ((2 + P (11 * (k).toNat + 1)) - (2)))) (2) (P (11 * (k).toNat + 2)))) (3) (wq)))) (x := m_told σ T P (k).toNat 4) hx hb hK hP hD hS 0 0 rfl rfl (4) (rfl) (by decide) (by decide) dX6_isSame_75 (fun H locs hP hD hS => ?_)
          have hP : va_P D vwCl ([(q22, .inl (cI, 5, .inl (fun q9 => iI (((st ((st ((st ((st ((st (fun _ => 0) (0) (P (11 * (k).toNat)))) (1) ((2 + P (11 * (k).toNat + 1)) - (2)))) (2) (P (11 * (k).toNat + 2)))) (3) (wq))) (4) (m_told σ T P (k).toNat 4))) q9))))] ++ (WC cI cO g σ T P ++ WZ cI cL z σ T P)) H := hP
          have hD : va_D (va_A ((WC cI cO g σ T P ++ WZ cI cL z σ T P)) sz) ([(q22, .inl (cI, 5, .inl (fun q9 => iI (((st ((st ((st ((st ((st (fun _ => 0) (0) (P (11 * (k).toNat)))) (1) ((2 + P (11 * (k).toNat + 1)) - (2)))) (2) (P (11 * (k).toNat + 2)))) (3) (wq))) (4) (m_told σ T P (k).toNat 4))) q9))))] ++ (WC cI cO g σ T P ++ WZ cI cL z σ T P)) := hD
          have hPc : PicC D cI cO g σ T P H := vaP_mems hP (fun q hq => List.mem_append_right _ (List.mem_append_left _ hq))
          have hPic : PicS D cI cL z σ T P H := vaP_mems hP (fun q hq => List.mem_append_right _ (List.mem_append_right _ hq))
          obtain ⟨tf, htf, htv⟩ : ∃ tf : Nat → Int, tf = (st ((st ((st ((st ((st (fun _ => 0) (0) (P (11 * (k).toNat)))) (1) ((2 + P (11 * (k).toNat + 1)) - (2)))) (2) (P (11 * (k).toNat + 2)))) (3) (wq))) (4) (m_told σ T P (k).toNat 4)) ∧ ∀ w : Int, 0 ≤ w → w ≤ 4 → tf (Int.toNat (w)) = m_told σ T P (k).toNat w := by
            refine ⟨_, rfl, fun w h0 h4 => ?_⟩
            have h : w = 0 ∨ w = 1 ∨ w = 2 ∨ w = 3 ∨ w = 4 := by omega
            rcases h with h | h | h | h | h <;> subst h
            · rfl
            · show 2 + P (11 * (k).toNat + 1) - 2 = P (11 * (k).toNat + 1); omega
            · rfl
            · exact hwq
            · rfl
          rw [← htf] at hP hD
          have hP : va_P D vwCl ([(q22, .inl (cI, 5, .inl (fun q9 => iI (tf q9))))] ++ (WC cI cO g σ T P ++ WZ cI cL z σ T P)) H := hP
          have hD : va_D (va_A ((WC cI cO g σ T P ++ WZ cI cL z σ T P)) sz) ([(q22, .inl (cI, 5, .inl (fun q9 => iI (tf q9))))] ++ (WC cI cO g σ T P ++ WZ cI cL z σ T P)) := hD
          have hPc : PicC D cI cO g σ T P H := vaP_mems hP (fun q hq => List.mem_append_right _ (List.mem_append_left _ hq))
          have hPic : PicS D cI cL z σ T P H := vaP_mems hP (fun q hq => List.mem_append_right _ (List.mem_append_right _ hq))
          refine lv_astore (lv' := [(5, .ref q22), (4, .ref (z (20 + (k).toNat))), (0, .ref (z 0)), (1, .ref (g 0)), (2, .int (iI (wr))), (3, .int (iI (k)))]) hx hb dX6_isSame_76 hl (by decide) rfl (fun ls hl => ?_)
          refine q_iconst hx hb dX6_isSame_78 ?_
          refine lv_istore (lv' := [(6, .int (iI (0))), (5, .ref q22), (4, .ref (z (20 + (k).toNat))), (0, .ref (z 0)), (1, .ref (g 0)), (2, .int (iI (wr))), (3, .int (iI (k)))]) hx hb dX6_isSame_79 hl (by decide) rfl (fun ls hl => ?_)
          have key_81 : ∀ (fu : Nat) (w : Int), 0 ≤ w ∧ w ≤ 5 → (5 - w) < (fu : Int) → ∀ (H : Heap) (locs : List Loc), va_P D vwCl ([(q22, .inl (cI, 5, .inl (fun q9 => iI (tf q9))))] ++ (WC cI cO g σ T P ++ WZ cI cL z σ T P)) H → va_D (va_A ((WC cI cO g σ T P ++ WZ cI cL z σ T P)) sz) ([(q22, .inl (cI, 5, .inl (fun q9 => iI (tf q9))))] ++ (WC cI cO g σ T P ++ WZ cI cL z σ T P)) → va_S (va_A ((WC cI cO g σ T P ++ WZ cI cL z σ T P)) sz) s.heap H locs → ∀ ls : Array Slot, lv_has ls 7 [(0, .ref (z 0)), (1, .ref (g 0)), (2, .int (iI (wr))), (3, .int (iI (k))), (4, .ref (z (20 + (k).toNat))), (5, .ref q22), (6, .int (iI (w)))] → W p l e { frames := 7, cells := 12, slots := 70, locals := 160 } s m args below meth c H locs (k.toNat + 1) (5 * k.toNat + 5) (MQ below (va_Qi (fun (r : Int32) (_ : Unit) => r = iI (1)) (fun u t => va_P D vwCl ((fun (_ : Unit) => (WC cI cO g σ T P ++ WZ cI cL z σ T P)) u) t.heap ∧ va_D (va_A ((WC cI cO g σ T P ++ WZ cI cL z σ T P)) sz) ((fun (_ : Unit) => (WC cI cO g σ T P ++ WZ cI cL z σ T P)) u)) (va_A ((WC cI cO g σ T P ++ WZ cI cL z σ T P)) sz)) args s 12 70 (va_A ((WC cI cO g σ T P ++ WZ cI cL z σ T P)) sz)) (F0 m 81 ls []) := by
            intro fu
            induction fu with
            | zero => intro w hw hm_81 H locs hP hD hS ls hl; exact absurd hm_81 (by omega)
            | succ fu ih_81 =>
              intro w hw hm_81 H locs hP hD hS ls hl
              have hPc : PicC D cI cO g σ T P H := vaP_mems hP (fun q hq => List.mem_append_right _ (List.mem_append_left _ hq))
              have hPic : PicS D cI cL z σ T P H := vaP_mems hP (fun q hq => List.mem_append_right _ (List.mem_append_right _ hq))
              refine lv_iload hx hb dX6_isSame_81 (lv_at hl 6 rfl) ?_
              refine q_iconst hx hb dX6_isSame_83 ?_
              refine q_icmp_ge (tgt := 110) hx hb dX6_isSame_84 (by decide) (by omega) (by omega) (fun c_5 => ?_) (fun c_5 => ?_)
              · skip
                refine q_iconst hx hb dX6_isSame_110 ?_
                refine lv_istore (lv' := [(6, .int (iI (2))), (0, .ref (z 0)), (1, .ref (g 0)), (2, .int (iI (wr))), (3, .int (iI (k))), (4, .ref (z (20 + (k).toNat))), (5, .ref q22)]) hx hb dX6_isSame_111 hl (by decide) rfl (fun ls hl => ?_)
                have key_113 : ∀ (fu : Nat) (f : Int), 2 ≤ f ∧ f ≤ 2 + P (11 * (k).toNat + 1) → (((2 + P (11 * (k).toNat + 1) - f).toNat : Int)) < (fu : Int) → ∀ (H : Heap) (locs : List Loc), va_P D vwCl ([(q22, .inl (cI, 5, .inl (fun q9 => iI (tf q9))))] ++ (WC cI cO g σ T P ++ WZ cI cL z σ T P)) H → va_D (va_A ((WC cI cO g σ T P ++ WZ cI cL z σ T P)) sz) ([(q22, .inl (cI, 5, .inl (fun q9 => iI (tf q9))))] ++ (WC cI cO g σ T P ++ WZ cI cL z σ T P)) → va_S (va_A ((WC cI cO g σ T P ++ WZ cI cL z σ T P)) sz) s.heap H locs → ∀ ls : Array Slot, lv_has ls 7 [(0, .ref (z 0)), (1, .ref (g 0)), (2, .int (iI (wr))), (3, .int (iI (k))), (4, .ref (z (20 + (k).toNat))), (5, .ref q22), (6, .int (iI (f)))] → W p l e { frames := 7, cells := 12, slots := 70, locals := 160 } s m args below meth c H locs (k.toNat + 1) (5 * k.toNat + 5) (MQ below (va_Qi (fun (r : Int32) (_ : Unit) => r = iI (1)) (fun u t => va_P D vwCl ((fun (_ : Unit) => (WC cI cO g σ T P ++ WZ cI cL z σ T P)) u) t.heap ∧ va_D (va_A ((WC cI cO g σ T P ++ WZ cI cL z σ T P)) sz) ((fun (_ : Unit) => (WC cI cO g σ T P ++ WZ cI cL z σ T P)) u)) (va_A ((WC cI cO g σ T P ++ WZ cI cL z σ T P)) sz)) args s 12 70 (va_A ((WC cI cO g σ T P ++ WZ cI cL z σ T P)) sz)) (F0 m 113 ls []) := by
                  intro fu
                  induction fu with
                  | zero => intro f hf hm_113 H locs hP hD hS ls hl; exact absurd hm_113 (by omega)
                  | succ fu ih_113 =>
                    intro f hf hm_113 H locs hP hD hS ls hl
                    have hPc : PicC D cI cO g σ T P H := vaP_mems hP (fun q hq => List.mem_append_right _ (List.mem_append_left _ hq))
                    have hPic : PicS D cI cL z σ T P H := vaP_mems hP (fun q hq => List.mem_append_right _ (List.mem_append_right _ hq))
                    refine lv_iload hx hb dX6_isSame_113 (lv_at hl 6 rfl) ?_
                    refine lv_aload hx hb dX6_isSame_115 (lv_at hl 4 rfl) ?_
                    refine q_alen (z := 2 + P (11 * (k).toNat + 1)) hx hb hK (hPic.sr (j := (k).toNat) (by omega)) 0 rfl (by omega) dX6_isSame_117 ?_
                    refine q_icmp_ge (tgt := 146) hx hb dX6_isSame_118 (by decide) (by omega) (by omega) (fun c_6 => ?_) (fun c_6 => ?_)
                    · skip
                      refine lv_iload_n hx hb dX6_isSame_146 rfl (lv_at hl 2 rfl) ?_
                      refine lv_aload hx hb dX6_isSame_147 (lv_at hl 5 rfl) ?_
                      refine q_iconst hx hb dX6_isSame_149 ?_
                      refine q_iald (cA := cI) (n := 5) (f := tf) hx hb hK (hP 0 _ rfl) 0 rfl (by omega) (by decide) dX6_isSame_150 ?_
                      refine q_is (z := m_told σ T P (k).toNat (3)) (htv (3) (by omega) (by omega)) ?_
                      refine q_iadd hx hb dX6_isSame_151 ?_
                      refine q_top (fun wr2 ewr2 => ?_)
                      refine lv_istore_n (lv' := [(2, .int (iI (wr2))), (0, .ref (z 0)), (1, .ref (g 0)), (3, .int (iI (k))), (4, .ref (z (20 + (k).toNat))), (5, .ref q22), (6, .int (iI (f)))]) hx hb dX6_isSame_152 rfl hl (by decide) rfl (fun ls hl => ?_)
                      refine q_iinc (k := 3) (lv' := [(3, .int (iI (k + 1))), (2, .int (iI (wr2))), (0, .ref (z 0)), (1, .ref (g 0)), (4, .ref (z (20 + (k).toNat))), (5, .ref q22), (6, .int (iI (f)))]) hx hb dX6_isSame_153 hl rfl (by decide) rfl (fun ls hl => ?_)
                      refine lv_goto (tgt := 4) hx hb dX6_isSame_156 (by decide) ?_
                      have hst := m_wc_step σ T P hk.1
                      refine W.widen (k := (k + 1).toNat) (n := 5 * (k + 1).toNat) (by omega) (by omega) ?_
                      exact ih_4 wr2 (k + 1) (by omega) (by rw [ewr2, hst, hwr]; rfl) (by omega) _ _ (vaP_mems hP (fun q hq => List.mem_cons_of_mem _ hq)) (vaD_sub hD (List.sublist_cons_self _ _)) hS _ (lv_sub hl [2, 3, 1, 0] rfl)
                    · skip
                      refine lv_aload_n hx hb dX6_isSame_121 rfl (lv_at hl 1 rfl) ?_
                      refine lv_iload_n hx hb dX6_isSame_122 rfl (lv_at hl 3 rfl) ?_
                      refine lv_iload hx hb dX6_isSame_123 (lv_at hl 6 rfl) ?_
                      refine q_iconst hx hb dX6_isSame_125 ?_
                      refine q_isub hx hb dX6_isSame_126 ?_
                      refine q_callV (fr := 3) (lo := 64) (nL := 7) (Pic := PicC D cI cO g σ T P) (As := [.int (iI (k)), .int (iI (f - 2))]) (rest := []) ⟨hx, hb, hml, hown, hts⟩ (p_printed l D cI cO cL g σ T P hW hSS (k) (f - 2) (by omega) (by omega)) (cwV 2 hts gX6_isSame_X5_printed rfl rfl rfl (by decide +kernel) ⟨Nat.le_of_ble_eq_true rfl, Nat.le_of_ble_eq_true rfl⟩) (ob_recv hPc.base.at0 hK rfl) hPc hK rfl hl.1 rfl (Nat.le_of_ble_eq_true rfl) dX6_isSame_127 (by show (k.toNat + 1) ≤ 12; omega) (by show (5 * k.toNat + 5) ≤ 70; omega) ?_
                      have hday := s4 (f - 2).toNat (by omega)
                      refine lv_aload hx hb dX6_isSame_130 (lv_at hl 4 rfl) ?_
                      refine lv_iload hx hb dX6_isSame_132 (lv_at hl 6 rfl) ?_
                      refine q_iald (cA := cI) (n := (2 + (P (11 * (k).toNat + 1)).toNat)) (f := (fun q8 => P (11 * (k).toNat + sx q8))) hx hb hK (hPic.sr (j := (k).toNat) (by omega)) 0 rfl (by omega) (by omega) dX6_isSame_134 ?_
                      refine q_is (z := P (11 * (k).toNat + 3 + Int.toNat (f - 2))) (congrArg P (by unfold sx; rw [if_neg (by omega), if_neg (by omega)]; omega)) ?_
                      refine q_icmp_eq (tgt := 140) hx hb dX6_isSame_135 (by decide) (by omega) (by omega) (fun c_7 => ?_) (fun c_7 => ?_)
                      · skip
                        refine q_iinc (k := 6) (lv' := [(6, .int (iI (f + 1))), (0, .ref (z 0)), (1, .ref (g 0)), (2, .int (iI (wr))), (3, .int (iI (k))), (4, .ref (z (20 + (k).toNat))), (5, .ref q22)]) hx hb dX6_isSame_140 hl rfl (by decide) rfl (fun ls hl => ?_)
                        refine lv_goto (tgt := 113) hx hb dX6_isSame_143 (by decide) ?_
                        exact ih_113 _ (by omega) (by omega) _ _ (hP) (hD) hS _ (lv_sub hl [1, 2, 3, 4, 5, 6, 0] rfl)
                      · exfalso
                        omega
                exact key_113 (20) 2 (by omega) (by omega) _ _ (hP) (hD) hS _ (lv_sub hl [1, 2, 3, 4, 5, 6, 0] rfl)
              · skip
                refine lv_aload_n hx hb dX6_isSame_87 rfl (lv_at hl 1 rfl) ?_
                refine lv_iload_n hx hb dX6_isSame_88 rfl (lv_at hl 3 rfl) ?_
                refine lv_iload hx hb dX6_isSame_89 (lv_at hl 6 rfl) ?_
                refine q_callV (fr := 5) (lo := 109) (nL := 7) (Pic := PicC D cI cO g σ T P) (As := [.int (iI (k)), .int (iI (w))]) (rest := []) ⟨hx, hb, hml, hown, hts⟩ (p_sheet l D cI cO cL g σ T P hW hSS (k) (w) (by omega) (by omega)) (cwV 2 hts gX6_isSame_X5_sheet rfl rfl rfl (by decide +kernel) ⟨Nat.le_of_ble_eq_true rfl, Nat.le_of_ble_eq_true rfl⟩) (ob_recv hPc.base.at0 hK rfl) hPc hK rfl hl.1 rfl (Nat.le_of_ble_eq_true rfl) dX6_isSame_91 (by show (k.toNat + 1) ≤ 12; omega) (by show (5 * k.toNat + 5) ≤ 70; omega) ?_
                have ht1 := hti w
                refine lv_aload hx hb dX6_isSame_94 (lv_at hl 5 rfl) ?_
                refine lv_iload hx hb dX6_isSame_96 (lv_at hl 6 rfl) ?_
                refine q_iald (cA := cI) (n := 5) (f := tf) hx hb hK (hP 0 _ rfl) 0 rfl (by omega) (by decide) dX6_isSame_98 ?_
                refine q_is (z := m_told σ T P (k).toNat (w)) (htv (w) (by omega) (by omega)) ?_
                refine q_icmp_eq (tgt := 104) hx hb dX6_isSame_99 (by decide) (by omega) (by omega) (fun c_8 => ?_) (fun c_8 => ?_)
                · skip
                  refine q_iinc (k := 6) (lv' := [(6, .int (iI (w + 1))), (0, .ref (z 0)), (1, .ref (g 0)), (2, .int (iI (wr))), (3, .int (iI (k))), (4, .ref (z (20 + (k).toNat))), (5, .ref q22)]) hx hb dX6_isSame_104 hl rfl (by decide) rfl (fun ls hl => ?_)
                  refine lv_goto (tgt := 81) hx hb dX6_isSame_107 (by decide) ?_
                  exact ih_81 _ (by omega) (by omega) _ _ (hP) (hD) hS _ (lv_sub hl [1, 2, 3, 4, 5, 6, 0] rfl)
                · exfalso
                  omega
          exact key_81 (6) 0 (by omega) (by omega) _ _ (hP) (hD) hS _ (lv_sub hl [3, 4, 5, 6, 2, 1, 0] rfl)
        refine q_if_eq (tgt := 61) hx hb dX6_isSame_54 (by decide) (by omega) (fun c_9 => ?_) (fun c_9 => ?_)
        · skip
          refine q_iconst hx hb dX6_isSame_61 ?_
          exact key_62 _ (by omega) _ (lv_sub hl [0, 1, 2, 3, 4] rfl)
        · skip
          refine q_iconst hx hb dX6_isSame_57 ?_
          refine lv_goto (tgt := 62) hx hb dX6_isSame_58 (by decide) ?_
          exact key_62 _ (by omega) _ (lv_sub hl [0, 1, 2, 3, 4] rfl)
  refine W.widen (k := Int.toNat 0) (n := 5 * Int.toNat 0) (by omega) (by omega) ?_
  exact key_4 ((σ 7).toNat + 1) 0 0 (by omega) (by rfl) (by omega) _ _ (hP) (hD) hS _ (lv_sub hl [2, 3, 1, 0] rfl)
