/-! ===== the rounds of the law ===== -/
set_option maxHeartbeats 4000000 in
set_option maxRecDepth 100000 in
theorem r_setLeaps {p : Program} {l : Launch} {e : Env} {s : State} {m : MethodId} {args : Array Value} {below : List Frame} {meth : Method} {c : Code} {Q : State → Prop} {A0 : Nat → Prop} {D : va_G} {cI cO cL cB : ClassId} {ed : Nat × Nat × Nat} {out g0 a ta pa b L : Nat} {xs : Nat → Int32} (C0 : LC p l s m args c A0 D cI cO cL cB ed b L xs) {cells slots : Nat} (hc : cells + 3 ≤ room_1.cells) (hs : slots + 26 ≤ room_1.slots) {i : Nat} (hi : i + 6 ≤ L) {H : Heap} {locs : List Loc} {ls : Array Slot} (hI : IV D cI cO cL A0 ed out g0 a ta pa H) (hS : va_S A0 s.heap H locs) (hl : lv_has ls 9 [(4, .int (iI (i : Int))), (0, .ref b), (1, .ref g0), (2, .ref a), (3, .ref out)]) (kk : ∀ (H : Heap) (locs : List Loc) (ls : Array Slot), IV D cI cO cL A0 ed out g0 a ta pa H → va_S A0 s.heap H locs → lv_has ls 9 [(4, .int (iI (i : Int))), (0, .ref b), (1, .ref g0), (2, .ref a), (3, .ref out)] → W p l e room_1 s m args below meth c H locs (cells + 3) (slots + 26) Q (F0 m 1638 ls [])) : W p l e room_1 s m args below meth c H locs cells slots Q (F0 m 148 ls []) := by
  obtain ⟨hst0, hx, hb, hml, hown, hts, hX, hbl, hbA, hL, hA, hK, hE, hT, hN⟩ := C0
  obtain ⟨g, σ, T, P, fo, th, hLW, hg0, he6, he7, hP, hD⟩ := hI
  subst hg0
  obtain ⟨hW, hS0, hp0⟩ := id hLW
  obtain ⟨w0, w1, w2, w3, w4, w5, w6, w7, w8⟩ := id hW
  have hK3 : va_K D vwCl (ty3 cI cO cL) s := hK.sub [0, 1, 2] rfl
  obtain ⟨x, hxr, hX1⟩ : ∃ z : Int, (-2147483648 ≤ z ∧ z < 2147483648) ∧ (xs (i + 1)).toInt = z := ⟨_, I_rng _, rfl⟩
  obtain ⟨y, hyr, hX2⟩ : ∃ z : Int, (-2147483648 ≤ z ∧ z < 2147483648) ∧ (xs (i + 2)).toInt = z := ⟨_, I_rng _, rfl⟩
  obtain ⟨er, hev⟩ : ∃ er : Int, (if (1 ≤ x ∧ x ≤ 400) ∧ (0 ≤ y ∧ y ≤ x) then 0 else 1) = er := ⟨_, rfl⟩
  have her : 0 ≤ er ∧ er ≤ 2 := by rw [← hev]; (repeat' split) <;> omega
  have hMw := fun sz => w_setLeaps l hst0 D sz out ed cI cO cL g σ T P fo hW hS0 he6 he7 x y hxr hyr
  have hMu := fun sz => u_setLeaps l D sz cI cO cL a ta pa th σ T P hW hS0 x y hxr hyr
  rw [hev] at hMw hMu
  refine lv_aload_n hx hb dL_law_148 rfl (lv_at hl 2 rfl) ?_
  refine lv_aload_n hx hb dL_law_149 rfl (lv_at hl 1 rfl) ?_
  refine lv_iload hx hb dL_law_150 (lv_at hl 0 rfl) ?_
  refine q_iconst hx hb dL_law_152 ?_
  refine q_iadd hx hb dL_law_153 ?_
  refine q_sld hx hb hX hbl hbA hS (i + 1) (by omega) (by omega) hL dL_law_154 ?_
  refine q_is hX1 ?_
  refine lv_aload_n hx hb dL_law_155 rfl (lv_at hl 1 rfl) ?_
  refine lv_iload hx hb dL_law_156 (lv_at hl 0 rfl) ?_
  refine q_iconst hx hb dL_law_158 ?_
  refine q_iadd hx hb dL_law_159 ?_
  refine q_sld hx hb hX hbl hbA hS (i + 2) (by omega) (by omega) hL dL_law_160 ?_
  refine q_is hX2 ?_
  refine lv_aload_n hx hb dL_law_161 rfl (lv_at hl 4 rfl) ?_
  refine q_lawW (nL := 9) (As := [.ref (g 0), .int (iI (x)), .int (iI (y)), .ref out]) (rest := []) (fo := fo) (wr := WMo cI a ta pa th σ T P) ⟨hx, hb, hml, hown, hts⟩ (hMw _) (vx_cwSW 4 hts gL_law_L_setLeaps rfl rfl rfl (by decide +kernel) ⟨Nat.le_of_ble_eq_true rfl, Nat.le_of_ble_eq_true rfl⟩) hP hD hS hA hK3 hE hT hN rfl hl.1 rfl (Nat.le_of_ble_eq_true rfl) dL_law_162 (by omega) (by omega) (fun u H locs he hu hP hD hS => ?_) (fun H locs he hP hS => ?_)
  · subst he
    have hq : (1 ≤ x ∧ x ≤ 400) ∧ (0 ≤ y ∧ y ≤ x) := by (repeat' split at hev) <;> omega
    have hLW2 : LW (st (st σ 0 x) 1 y) (T) (P) := LW_leaps hLW (by omega) (by omega)
    refine lv_istore (lv' := [(5, .int (iI (0))), (4, .int (iI ((i : Int)))), (0, .ref b), (1, .ref (g 0)), (2, .ref a), (3, .ref out)]) hx hb dL_law_165 hl (by decide) rfl (fun ls hl => ?_)
    refine lv_aload_n hx hb dL_law_167 rfl (lv_at hl 4 rfl) ?_
    refine lv_aload_n hx hb dL_law_168 rfl (lv_at hl 2 rfl) ?_
    refine lv_iload hx hb dL_law_169 (lv_at hl 1 rfl) ?_
    refine q_iconst hx hb dL_law_171 ?_
    refine q_iadd hx hb dL_law_172 ?_
    refine q_sld hx hb hX hbl hbA hS (i + 1) (by omega) (by omega) hL dL_law_173 ?_
    refine q_is hX1 ?_
    refine lv_aload_n hx hb dL_law_174 rfl (lv_at hl 2 rfl) ?_
    refine lv_iload hx hb dL_law_175 (lv_at hl 1 rfl) ?_
    refine q_iconst hx hb dL_law_177 ?_
    refine q_iadd hx hb dL_law_178 ?_
    refine q_sld hx hb hX hbl hbA hS (i + 2) (by omega) (by omega) hL dL_law_179 ?_
    refine q_is hX2 ?_
    refine q_lawU (nL := 9) (As := [.int (iI (x)), .int (iI (y))]) (rest := []) (wr := WC cI cO u (st (st σ 0 x) 1 y) (T) (P) ++ [oc out cL (vp_updL fo 0 (iI (1000 * σ 0 + σ 1)).toInt64)]) ⟨hx, hb, hml, hown, hts⟩ (hMu _) (cwV 2 hts gL_law_X6_setLeaps rfl rfl rfl (by decide +kernel) ⟨Nat.le_of_ble_eq_true rfl, Nat.le_of_ble_eq_true rfl⟩) (mo_rec hP hK) rfl rfl hP hD hS hA hK3 rfl hl.1 rfl (Nat.le_of_ble_eq_true rfl) dL_law_180 (by omega) (by omega) (fun r H locs hr hB hS => ?_)
    rcases hB with ⟨h0, hP, hD⟩ | ⟨h0, hP, hD⟩
    case inr => exact absurd rfl h0
    have hr := hr rfl
    subst hr
    refine lv_istore (lv' := [(6, .int (iI (1000 * σ 0 + σ 1))), (5, .int (iI (0))), (4, .int (iI ((i : Int)))), (0, .ref b), (1, .ref (g 0)), (2, .ref a), (3, .ref out)]) hx hb dL_law_183 hl (by decide) rfl (fun ls hl => ?_)
    refine lv_aload_n hx hb dL_law_185 rfl (lv_at hl 5 rfl) ?_
    refine q_callV (fr := 0) (lo := 0) (nL := 9) (Pic := PicM D cI a ta pa (0) (st (st σ 0 x) 1 y) (T) (P)) (As := []) (rest := []) ⟨hx, hb, hml, hown, hts⟩ (c_thrown l D cI cO cL a ta pa (0) (st (st σ 0 x) 1 y) (T) (P) hLW2.1 hLW2.2.1) (cwV 0 hts gL_law_X6_thrown rfl rfl rfl (by decide +kernel) ⟨Nat.le_of_ble_eq_true rfl, Nat.le_of_ble_eq_true rfl⟩) (mo_rec hP hK) (vaP_mems hP (fun q hq => List.mem_append_right _ hq)) hK3 rfl hl.1 rfl (Nat.le_of_ble_eq_true rfl) dL_law_186 (by omega) (by omega) ?_
    refine lv_iload hx hb dL_law_189 (lv_at hl 1 rfl) ?_
    refine q_icmp_eq (tgt := 196) hx hb dL_law_191 (by decide) (by omega) (by omega) (fun c_1 => ?_) (fun c_1 => ?_)
    · skip
      refine lv_iload hx hb dL_law_196 (lv_at hl 1 rfl) ?_
      refine q_if_ne (tgt := 213) hx hb dL_law_198 (by decide) (by omega) (fun c_2 => ?_) (fun c_2 => ?_)
      · exfalso; omega
      · skip
        refine lv_aload_n hx hb dL_law_201 rfl (lv_at hl 6 rfl) ?_
        refine q_iconst hx hb dL_law_202 ?_
        refine q_lald hx hb hK3 hP dL_law_203 ?_
        refine lv_iload hx hb dL_law_204 (lv_at hl 0 rfl) ?_
        refine lv_i2l hx hb dL_law_206 rfl ?_
        refine q_lcmp0 hx hb (by rfl) dL_law_207 ?_
        refine q_if_eq (tgt := 213) hx hb dL_law_208 (by decide) (by omega) (fun c_3 => ?_) (fun c_3 => ?_)
        · skip
          refine lv_goto (tgt := 1638) hx hb dL_law_213 (by decide) ?_
          refine W.widen (k := cells + 3) (n := slots + 26) (by omega) (by omega) ?_
          exact kk _ _ _ ⟨u, _, _, _, _, _, hLW2, hu.1, hu.2.1, hu.2.2, hP, hD⟩ hS (lv_sub hl [2, 3, 4, 5, 6] rfl)
        · exfalso; omega
    · exact absurd rfl c_1
  · skip
    refine lv_istore (lv' := [(5, .int (iI (er))), (4, .int (iI ((i : Int)))), (0, .ref b), (1, .ref (g 0)), (2, .ref a), (3, .ref out)]) hx hb dL_law_165 hl (by decide) rfl (fun ls hl => ?_)
    refine lv_aload_n hx hb dL_law_167 rfl (lv_at hl 4 rfl) ?_
    refine lv_aload_n hx hb dL_law_168 rfl (lv_at hl 2 rfl) ?_
    refine lv_iload hx hb dL_law_169 (lv_at hl 1 rfl) ?_
    refine q_iconst hx hb dL_law_171 ?_
    refine q_iadd hx hb dL_law_172 ?_
    refine q_sld hx hb hX hbl hbA hS (i + 1) (by omega) (by omega) hL dL_law_173 ?_
    refine q_is hX1 ?_
    refine lv_aload_n hx hb dL_law_174 rfl (lv_at hl 2 rfl) ?_
    refine lv_iload hx hb dL_law_175 (lv_at hl 1 rfl) ?_
    refine q_iconst hx hb dL_law_177 ?_
    refine q_iadd hx hb dL_law_178 ?_
    refine q_sld hx hb hX hbl hbA hS (i + 2) (by omega) (by omega) hL dL_law_179 ?_
    refine q_is hX2 ?_
    refine q_lawU (nL := 9) (As := [.int (iI (x)), .int (iI (y))]) (rest := []) (wr := WC cI cO g σ T P ++ [oc out cL fo]) ⟨hx, hb, hml, hown, hts⟩ (hMu _) (cwV 2 hts gL_law_X6_setLeaps rfl rfl rfl (by decide +kernel) ⟨Nat.le_of_ble_eq_true rfl, Nat.le_of_ble_eq_true rfl⟩) (mo_rec hP hK) rfl rfl hP hD hS hA hK3 rfl hl.1 rfl (Nat.le_of_ble_eq_true rfl) dL_law_180 (by omega) (by omega) (fun r H locs hr hB hS => ?_)
    rcases hB with ⟨h0, hP, hD⟩ | ⟨h0, hP, hD⟩
    case inl => exact absurd h0 he
    refine lv_istore (lv' := [(6, .int r), (5, .int (iI (er))), (4, .int (iI ((i : Int)))), (0, .ref b), (1, .ref (g 0)), (2, .ref a), (3, .ref out)]) hx hb dL_law_183 hl (by decide) rfl (fun ls hl => ?_)
    refine lv_aload_n hx hb dL_law_185 rfl (lv_at hl 5 rfl) ?_
    refine q_callV (fr := 0) (lo := 0) (nL := 9) (Pic := PicM D cI a ta pa (er) (σ) (T) (P)) (As := []) (rest := []) ⟨hx, hb, hml, hown, hts⟩ (c_thrown l D cI cO cL a ta pa (er) (σ) (T) (P) hLW.1 hLW.2.1) (cwV 0 hts gL_law_X6_thrown rfl rfl rfl (by decide +kernel) ⟨Nat.le_of_ble_eq_true rfl, Nat.le_of_ble_eq_true rfl⟩) (mo_rec hP hK) (vaP_mems hP (fun q hq => List.mem_append_right _ hq)) hK3 rfl hl.1 rfl (Nat.le_of_ble_eq_true rfl) dL_law_186 (by omega) (by omega) ?_
    refine lv_iload hx hb dL_law_189 (lv_at hl 1 rfl) ?_
    refine q_icmp_eq (tgt := 196) hx hb dL_law_191 (by decide) (by omega) (by omega) (fun c_4 => ?_) (fun c_4 => ?_)
    · skip
      refine lv_iload hx hb dL_law_196 (lv_at hl 1 rfl) ?_
      refine q_if_ne (tgt := 213) hx hb dL_law_198 (by decide) (by omega) (fun c_5 => ?_) (fun c_5 => ?_)
      · skip
        refine lv_goto (tgt := 1638) hx hb dL_law_213 (by decide) ?_
        refine W.widen (k := cells + 3) (n := slots + 26) (by omega) (by omega) ?_
        exact kk _ _ _ ⟨g, σ, T, P, _, _, hLW, rfl, he6, he7, hP, hD⟩ hS (lv_sub hl [2, 3, 4, 5, 6] rfl)
      · exfalso; omega
    · exact absurd rfl c_4
set_option maxHeartbeats 4000000 in
set_option maxRecDepth 100000 in
theorem r_setMoon {p : Program} {l : Launch} {e : Env} {s : State} {m : MethodId} {args : Array Value} {below : List Frame} {meth : Method} {c : Code} {Q : State → Prop} {A0 : Nat → Prop} {D : va_G} {cI cO cL cB : ClassId} {ed : Nat × Nat × Nat} {out g0 a ta pa b L : Nat} {xs : Nat → Int32} (C0 : LC p l s m args c A0 D cI cO cL cB ed b L xs) {cells slots : Nat} (hc : cells + 3 ≤ room_1.cells) (hs : slots + 26 ≤ room_1.slots) {i : Nat} (hi : i + 6 ≤ L) {H : Heap} {locs : List Loc} {ls : Array Slot} (hI : IV D cI cO cL A0 ed out g0 a ta pa H) (hS : va_S A0 s.heap H locs) (hl : lv_has ls 9 [(4, .int (iI (i : Int))), (0, .ref b), (1, .ref g0), (2, .ref a), (3, .ref out)]) (kk : ∀ (H : Heap) (locs : List Loc) (ls : Array Slot), IV D cI cO cL A0 ed out g0 a ta pa H → va_S A0 s.heap H locs → lv_has ls 9 [(4, .int (iI (i : Int))), (0, .ref b), (1, .ref g0), (2, .ref a), (3, .ref out)] → W p l e room_1 s m args below meth c H locs (cells + 3) (slots + 26) Q (F0 m 1638 ls [])) : W p l e room_1 s m args below meth c H locs cells slots Q (F0 m 216 ls []) := by
  obtain ⟨hst0, hx, hb, hml, hown, hts, hX, hbl, hbA, hL, hA, hK, hE, hT, hN⟩ := C0
  obtain ⟨g, σ, T, P, fo, th, hLW, hg0, he6, he7, hP, hD⟩ := hI
  subst hg0
  obtain ⟨hW, hS0, hp0⟩ := id hLW
  obtain ⟨w0, w1, w2, w3, w4, w5, w6, w7, w8⟩ := id hW
  have hK3 : va_K D vwCl (ty3 cI cO cL) s := hK.sub [0, 1, 2] rfl
  obtain ⟨x, hxr, hX1⟩ : ∃ z : Int, (-2147483648 ≤ z ∧ z < 2147483648) ∧ (xs (i + 1)).toInt = z := ⟨_, I_rng _, rfl⟩
  obtain ⟨y, hyr, hX2⟩ : ∃ z : Int, (-2147483648 ≤ z ∧ z < 2147483648) ∧ (xs (i + 2)).toInt = z := ⟨_, I_rng _, rfl⟩
  obtain ⟨er, hev⟩ : ∃ er : Int, (if (20000 ≤ x ∧ x ≤ 40000) ∧ (0 ≤ y ∧ y ≤ 39999) then 0 else 1) = er := ⟨_, rfl⟩
  have her : 0 ≤ er ∧ er ≤ 2 := by rw [← hev]; (repeat' split) <;> omega
  have hMw := fun sz => w_setMoon l hst0 D sz out ed cI cO cL g σ T P fo hW hS0 he6 he7 x y hxr hyr
  have hMu := fun sz => u_setMoon l D sz cI cO cL a ta pa th σ T P hW hS0 x y hxr hyr
  rw [hev] at hMw hMu
  refine lv_aload_n hx hb dL_law_216 rfl (lv_at hl 2 rfl) ?_
  refine lv_aload_n hx hb dL_law_217 rfl (lv_at hl 1 rfl) ?_
  refine lv_iload hx hb dL_law_218 (lv_at hl 0 rfl) ?_
  refine q_iconst hx hb dL_law_220 ?_
  refine q_iadd hx hb dL_law_221 ?_
  refine q_sld hx hb hX hbl hbA hS (i + 1) (by omega) (by omega) hL dL_law_222 ?_
  refine q_is hX1 ?_
  refine lv_aload_n hx hb dL_law_223 rfl (lv_at hl 1 rfl) ?_
  refine lv_iload hx hb dL_law_224 (lv_at hl 0 rfl) ?_
  refine q_iconst hx hb dL_law_226 ?_
  refine q_iadd hx hb dL_law_227 ?_
  refine q_sld hx hb hX hbl hbA hS (i + 2) (by omega) (by omega) hL dL_law_228 ?_
  refine q_is hX2 ?_
  refine lv_aload_n hx hb dL_law_229 rfl (lv_at hl 4 rfl) ?_
  refine q_lawW (nL := 9) (As := [.ref (g 0), .int (iI (x)), .int (iI (y)), .ref out]) (rest := []) (fo := fo) (wr := WMo cI a ta pa th σ T P) ⟨hx, hb, hml, hown, hts⟩ (hMw _) (vx_cwSW 4 hts gL_law_L_setMoon rfl rfl rfl (by decide +kernel) ⟨Nat.le_of_ble_eq_true rfl, Nat.le_of_ble_eq_true rfl⟩) hP hD hS hA hK3 hE hT hN rfl hl.1 rfl (Nat.le_of_ble_eq_true rfl) dL_law_230 (by omega) (by omega) (fun u H locs he hu hP hD hS => ?_) (fun H locs he hP hS => ?_)
  · subst he
    have hq : (20000 ≤ x ∧ x ≤ 40000) ∧ (0 ≤ y ∧ y ≤ 39999) := by (repeat' split at hev) <;> omega
    have hLW2 : LW (st (st σ 2 x) 3 y) (T) (P) := LW_moon hLW (by omega) (by omega)
    refine lv_istore (lv' := [(5, .int (iI (0))), (4, .int (iI ((i : Int)))), (0, .ref b), (1, .ref (g 0)), (2, .ref a), (3, .ref out)]) hx hb dL_law_233 hl (by decide) rfl (fun ls hl => ?_)
    refine lv_aload_n hx hb dL_law_235 rfl (lv_at hl 4 rfl) ?_
    refine lv_aload_n hx hb dL_law_236 rfl (lv_at hl 2 rfl) ?_
    refine lv_iload hx hb dL_law_237 (lv_at hl 1 rfl) ?_
    refine q_iconst hx hb dL_law_239 ?_
    refine q_iadd hx hb dL_law_240 ?_
    refine q_sld hx hb hX hbl hbA hS (i + 1) (by omega) (by omega) hL dL_law_241 ?_
    refine q_is hX1 ?_
    refine lv_aload_n hx hb dL_law_242 rfl (lv_at hl 2 rfl) ?_
    refine lv_iload hx hb dL_law_243 (lv_at hl 1 rfl) ?_
    refine q_iconst hx hb dL_law_245 ?_
    refine q_iadd hx hb dL_law_246 ?_
    refine q_sld hx hb hX hbl hbA hS (i + 2) (by omega) (by omega) hL dL_law_247 ?_
    refine q_is hX2 ?_
    refine q_lawU (nL := 9) (As := [.int (iI (x)), .int (iI (y))]) (rest := []) (wr := WC cI cO u (st (st σ 2 x) 3 y) (T) (P) ++ [oc out cL (vp_updL fo 0 (iI (σ 2)).toInt64)]) ⟨hx, hb, hml, hown, hts⟩ (hMu _) (cwV 2 hts gL_law_X6_setMoon rfl rfl rfl (by decide +kernel) ⟨Nat.le_of_ble_eq_true rfl, Nat.le_of_ble_eq_true rfl⟩) (mo_rec hP hK) rfl rfl hP hD hS hA hK3 rfl hl.1 rfl (Nat.le_of_ble_eq_true rfl) dL_law_248 (by omega) (by omega) (fun r H locs hr hB hS => ?_)
    rcases hB with ⟨h0, hP, hD⟩ | ⟨h0, hP, hD⟩
    case inr => exact absurd rfl h0
    have hr := hr rfl
    subst hr
    refine lv_istore (lv' := [(6, .int (iI (σ 2))), (5, .int (iI (0))), (4, .int (iI ((i : Int)))), (0, .ref b), (1, .ref (g 0)), (2, .ref a), (3, .ref out)]) hx hb dL_law_251 hl (by decide) rfl (fun ls hl => ?_)
    refine lv_aload_n hx hb dL_law_253 rfl (lv_at hl 5 rfl) ?_
    refine q_callV (fr := 0) (lo := 0) (nL := 9) (Pic := PicM D cI a ta pa (0) (st (st σ 2 x) 3 y) (T) (P)) (As := []) (rest := []) ⟨hx, hb, hml, hown, hts⟩ (c_thrown l D cI cO cL a ta pa (0) (st (st σ 2 x) 3 y) (T) (P) hLW2.1 hLW2.2.1) (cwV 0 hts gL_law_X6_thrown rfl rfl rfl (by decide +kernel) ⟨Nat.le_of_ble_eq_true rfl, Nat.le_of_ble_eq_true rfl⟩) (mo_rec hP hK) (vaP_mems hP (fun q hq => List.mem_append_right _ hq)) hK3 rfl hl.1 rfl (Nat.le_of_ble_eq_true rfl) dL_law_254 (by omega) (by omega) ?_
    refine lv_iload hx hb dL_law_257 (lv_at hl 1 rfl) ?_
    refine q_icmp_eq (tgt := 264) hx hb dL_law_259 (by decide) (by omega) (by omega) (fun c_1 => ?_) (fun c_1 => ?_)
    · skip
      refine lv_iload hx hb dL_law_264 (lv_at hl 1 rfl) ?_
      refine q_if_ne (tgt := 281) hx hb dL_law_266 (by decide) (by omega) (fun c_2 => ?_) (fun c_2 => ?_)
      · exfalso; omega
      · skip
        refine lv_aload_n hx hb dL_law_269 rfl (lv_at hl 6 rfl) ?_
        refine q_iconst hx hb dL_law_270 ?_
        refine q_lald hx hb hK3 hP dL_law_271 ?_
        refine lv_iload hx hb dL_law_272 (lv_at hl 0 rfl) ?_
        refine lv_i2l hx hb dL_law_274 rfl ?_
        refine q_lcmp0 hx hb (by rfl) dL_law_275 ?_
        refine q_if_eq (tgt := 281) hx hb dL_law_276 (by decide) (by omega) (fun c_3 => ?_) (fun c_3 => ?_)
        · skip
          refine lv_goto (tgt := 1638) hx hb dL_law_281 (by decide) ?_
          refine W.widen (k := cells + 3) (n := slots + 26) (by omega) (by omega) ?_
          exact kk _ _ _ ⟨u, _, _, _, _, _, hLW2, hu.1, hu.2.1, hu.2.2, hP, hD⟩ hS (lv_sub hl [2, 3, 4, 5, 6] rfl)
        · exfalso; omega
    · exact absurd rfl c_1
  · skip
    refine lv_istore (lv' := [(5, .int (iI (er))), (4, .int (iI ((i : Int)))), (0, .ref b), (1, .ref (g 0)), (2, .ref a), (3, .ref out)]) hx hb dL_law_233 hl (by decide) rfl (fun ls hl => ?_)
    refine lv_aload_n hx hb dL_law_235 rfl (lv_at hl 4 rfl) ?_
    refine lv_aload_n hx hb dL_law_236 rfl (lv_at hl 2 rfl) ?_
    refine lv_iload hx hb dL_law_237 (lv_at hl 1 rfl) ?_
    refine q_iconst hx hb dL_law_239 ?_
    refine q_iadd hx hb dL_law_240 ?_
    refine q_sld hx hb hX hbl hbA hS (i + 1) (by omega) (by omega) hL dL_law_241 ?_
    refine q_is hX1 ?_
    refine lv_aload_n hx hb dL_law_242 rfl (lv_at hl 2 rfl) ?_
    refine lv_iload hx hb dL_law_243 (lv_at hl 1 rfl) ?_
    refine q_iconst hx hb dL_law_245 ?_
    refine q_iadd hx hb dL_law_246 ?_
    refine q_sld hx hb hX hbl hbA hS (i + 2) (by omega) (by omega) hL dL_law_247 ?_
    refine q_is hX2 ?_
    refine q_lawU (nL := 9) (As := [.int (iI (x)), .int (iI (y))]) (rest := []) (wr := WC cI cO g σ T P ++ [oc out cL fo]) ⟨hx, hb, hml, hown, hts⟩ (hMu _) (cwV 2 hts gL_law_X6_setMoon rfl rfl rfl (by decide +kernel) ⟨Nat.le_of_ble_eq_true rfl, Nat.le_of_ble_eq_true rfl⟩) (mo_rec hP hK) rfl rfl hP hD hS hA hK3 rfl hl.1 rfl (Nat.le_of_ble_eq_true rfl) dL_law_248 (by omega) (by omega) (fun r H locs hr hB hS => ?_)
    rcases hB with ⟨h0, hP, hD⟩ | ⟨h0, hP, hD⟩
    case inl => exact absurd h0 he
    refine lv_istore (lv' := [(6, .int r), (5, .int (iI (er))), (4, .int (iI ((i : Int)))), (0, .ref b), (1, .ref (g 0)), (2, .ref a), (3, .ref out)]) hx hb dL_law_251 hl (by decide) rfl (fun ls hl => ?_)
    refine lv_aload_n hx hb dL_law_253 rfl (lv_at hl 5 rfl) ?_
    refine q_callV (fr := 0) (lo := 0) (nL := 9) (Pic := PicM D cI a ta pa (er) (σ) (T) (P)) (As := []) (rest := []) ⟨hx, hb, hml, hown, hts⟩ (c_thrown l D cI cO cL a ta pa (er) (σ) (T) (P) hLW.1 hLW.2.1) (cwV 0 hts gL_law_X6_thrown rfl rfl rfl (by decide +kernel) ⟨Nat.le_of_ble_eq_true rfl, Nat.le_of_ble_eq_true rfl⟩) (mo_rec hP hK) (vaP_mems hP (fun q hq => List.mem_append_right _ hq)) hK3 rfl hl.1 rfl (Nat.le_of_ble_eq_true rfl) dL_law_254 (by omega) (by omega) ?_
    refine lv_iload hx hb dL_law_257 (lv_at hl 1 rfl) ?_
    refine q_icmp_eq (tgt := 264) hx hb dL_law_259 (by decide) (by omega) (by omega) (fun c_4 => ?_) (fun c_4 => ?_)
    · skip
      refine lv_iload hx hb dL_law_264 (lv_at hl 1 rfl) ?_
      refine q_if_ne (tgt := 281) hx hb dL_law_266 (by decide) (by omega) (fun c_5 => ?_) (fun c_5 => ?_)
      · skip
        refine lv_goto (tgt := 1638) hx hb dL_law_281 (by decide) ?_
        refine W.widen (k := cells + 3) (n := slots + 26) (by omega) (by omega) ?_
        exact kk _ _ _ ⟨g, σ, T, P, _, _, hLW, rfl, he6, he7, hP, hD⟩ hS (lv_sub hl [2, 3, 4, 5, 6] rfl)
      · exfalso; omega
    · exact absurd rfl c_4
set_option maxHeartbeats 4000000 in
set_option maxRecDepth 100000 in
theorem r_setNodes {p : Program} {l : Launch} {e : Env} {s : State} {m : MethodId} {args : Array Value} {below : List Frame} {meth : Method} {c : Code} {Q : State → Prop} {A0 : Nat → Prop} {D : va_G} {cI cO cL cB : ClassId} {ed : Nat × Nat × Nat} {out g0 a ta pa b L : Nat} {xs : Nat → Int32} (C0 : LC p l s m args c A0 D cI cO cL cB ed b L xs) {cells slots : Nat} (hc : cells + 3 ≤ room_1.cells) (hs : slots + 26 ≤ room_1.slots) {i : Nat} (hi : i + 6 ≤ L) {H : Heap} {locs : List Loc} {ls : Array Slot} (hI : IV D cI cO cL A0 ed out g0 a ta pa H) (hS : va_S A0 s.heap H locs) (hl : lv_has ls 9 [(4, .int (iI (i : Int))), (0, .ref b), (1, .ref g0), (2, .ref a), (3, .ref out)]) (kk : ∀ (H : Heap) (locs : List Loc) (ls : Array Slot), IV D cI cO cL A0 ed out g0 a ta pa H → va_S A0 s.heap H locs → lv_has ls 9 [(4, .int (iI (i : Int))), (0, .ref b), (1, .ref g0), (2, .ref a), (3, .ref out)] → W p l e room_1 s m args below meth c H locs (cells + 3) (slots + 26) Q (F0 m 1638 ls [])) : W p l e room_1 s m args below meth c H locs cells slots Q (F0 m 284 ls []) := by
  obtain ⟨hst0, hx, hb, hml, hown, hts, hX, hbl, hbA, hL, hA, hK, hE, hT, hN⟩ := C0
  obtain ⟨g, σ, T, P, fo, th, hLW, hg0, he6, he7, hP, hD⟩ := hI
  subst hg0
  obtain ⟨hW, hS0, hp0⟩ := id hLW
  obtain ⟨w0, w1, w2, w3, w4, w5, w6, w7, w8⟩ := id hW
  have hK3 : va_K D vwCl (ty3 cI cO cL) s := hK.sub [0, 1, 2] rfl
  obtain ⟨x, hxr, hX1⟩ : ∃ z : Int, (-2147483648 ≤ z ∧ z < 2147483648) ∧ (xs (i + 1)).toInt = z := ⟨_, I_rng _, rfl⟩
  obtain ⟨y, hyr, hX2⟩ : ∃ z : Int, (-2147483648 ≤ z ∧ z < 2147483648) ∧ (xs (i + 2)).toInt = z := ⟨_, I_rng _, rfl⟩
  obtain ⟨er, hev⟩ : ∃ er : Int, (if (100000 ≤ x ∧ x ≤ 300000) ∧ (0 ≤ y ∧ y ≤ 299999) then 0 else 1) = er := ⟨_, rfl⟩
  have her : 0 ≤ er ∧ er ≤ 2 := by rw [← hev]; (repeat' split) <;> omega
  have hMw := fun sz => w_setNodes l hst0 D sz out ed cI cO cL g σ T P fo hW hS0 he6 he7 x y hxr hyr
  have hMu := fun sz => u_setNodes l D sz cI cO cL a ta pa th σ T P hW hS0 x y hxr hyr
  rw [hev] at hMw hMu
  refine lv_aload_n hx hb dL_law_284 rfl (lv_at hl 2 rfl) ?_
  refine lv_aload_n hx hb dL_law_285 rfl (lv_at hl 1 rfl) ?_
  refine lv_iload hx hb dL_law_286 (lv_at hl 0 rfl) ?_
  refine q_iconst hx hb dL_law_288 ?_
  refine q_iadd hx hb dL_law_289 ?_
  refine q_sld hx hb hX hbl hbA hS (i + 1) (by omega) (by omega) hL dL_law_290 ?_
  refine q_is hX1 ?_
  refine lv_aload_n hx hb dL_law_291 rfl (lv_at hl 1 rfl) ?_
  refine lv_iload hx hb dL_law_292 (lv_at hl 0 rfl) ?_
  refine q_iconst hx hb dL_law_294 ?_
  refine q_iadd hx hb dL_law_295 ?_
  refine q_sld hx hb hX hbl hbA hS (i + 2) (by omega) (by omega) hL dL_law_296 ?_
  refine q_is hX2 ?_
  refine lv_aload_n hx hb dL_law_297 rfl (lv_at hl 4 rfl) ?_
  refine q_lawW (nL := 9) (As := [.ref (g 0), .int (iI (x)), .int (iI (y)), .ref out]) (rest := []) (fo := fo) (wr := WMo cI a ta pa th σ T P) ⟨hx, hb, hml, hown, hts⟩ (hMw _) (vx_cwSW 4 hts gL_law_L_setNodes rfl rfl rfl (by decide +kernel) ⟨Nat.le_of_ble_eq_true rfl, Nat.le_of_ble_eq_true rfl⟩) hP hD hS hA hK3 hE hT hN rfl hl.1 rfl (Nat.le_of_ble_eq_true rfl) dL_law_298 (by omega) (by omega) (fun u H locs he hu hP hD hS => ?_) (fun H locs he hP hS => ?_)
  · subst he
    have hq : (100000 ≤ x ∧ x ≤ 300000) ∧ (0 ≤ y ∧ y ≤ 299999) := by (repeat' split at hev) <;> omega
    have hLW2 : LW (st (st σ 4 x) 5 y) (T) (P) := LW_nodes hLW (by omega) (by omega)
    refine lv_istore (lv' := [(5, .int (iI (0))), (4, .int (iI ((i : Int)))), (0, .ref b), (1, .ref (g 0)), (2, .ref a), (3, .ref out)]) hx hb dL_law_301 hl (by decide) rfl (fun ls hl => ?_)
    refine lv_aload_n hx hb dL_law_303 rfl (lv_at hl 4 rfl) ?_
    refine lv_aload_n hx hb dL_law_304 rfl (lv_at hl 2 rfl) ?_
    refine lv_iload hx hb dL_law_305 (lv_at hl 1 rfl) ?_
    refine q_iconst hx hb dL_law_307 ?_
    refine q_iadd hx hb dL_law_308 ?_
    refine q_sld hx hb hX hbl hbA hS (i + 1) (by omega) (by omega) hL dL_law_309 ?_
    refine q_is hX1 ?_
    refine lv_aload_n hx hb dL_law_310 rfl (lv_at hl 2 rfl) ?_
    refine lv_iload hx hb dL_law_311 (lv_at hl 1 rfl) ?_
    refine q_iconst hx hb dL_law_313 ?_
    refine q_iadd hx hb dL_law_314 ?_
    refine q_sld hx hb hX hbl hbA hS (i + 2) (by omega) (by omega) hL dL_law_315 ?_
    refine q_is hX2 ?_
    refine q_lawU (nL := 9) (As := [.int (iI (x)), .int (iI (y))]) (rest := []) (wr := WC cI cO u (st (st σ 4 x) 5 y) (T) (P) ++ [oc out cL (vp_updL fo 0 (iI (σ 4)).toInt64)]) ⟨hx, hb, hml, hown, hts⟩ (hMu _) (cwV 2 hts gL_law_X6_setNodes rfl rfl rfl (by decide +kernel) ⟨Nat.le_of_ble_eq_true rfl, Nat.le_of_ble_eq_true rfl⟩) (mo_rec hP hK) rfl rfl hP hD hS hA hK3 rfl hl.1 rfl (Nat.le_of_ble_eq_true rfl) dL_law_316 (by omega) (by omega) (fun r H locs hr hB hS => ?_)
    rcases hB with ⟨h0, hP, hD⟩ | ⟨h0, hP, hD⟩
    case inr => exact absurd rfl h0
    have hr := hr rfl
    subst hr
    refine lv_istore (lv' := [(6, .int (iI (σ 4))), (5, .int (iI (0))), (4, .int (iI ((i : Int)))), (0, .ref b), (1, .ref (g 0)), (2, .ref a), (3, .ref out)]) hx hb dL_law_319 hl (by decide) rfl (fun ls hl => ?_)
    refine lv_aload_n hx hb dL_law_321 rfl (lv_at hl 5 rfl) ?_
    refine q_callV (fr := 0) (lo := 0) (nL := 9) (Pic := PicM D cI a ta pa (0) (st (st σ 4 x) 5 y) (T) (P)) (As := []) (rest := []) ⟨hx, hb, hml, hown, hts⟩ (c_thrown l D cI cO cL a ta pa (0) (st (st σ 4 x) 5 y) (T) (P) hLW2.1 hLW2.2.1) (cwV 0 hts gL_law_X6_thrown rfl rfl rfl (by decide +kernel) ⟨Nat.le_of_ble_eq_true rfl, Nat.le_of_ble_eq_true rfl⟩) (mo_rec hP hK) (vaP_mems hP (fun q hq => List.mem_append_right _ hq)) hK3 rfl hl.1 rfl (Nat.le_of_ble_eq_true rfl) dL_law_322 (by omega) (by omega) ?_
    refine lv_iload hx hb dL_law_325 (lv_at hl 1 rfl) ?_
    refine q_icmp_eq (tgt := 332) hx hb dL_law_327 (by decide) (by omega) (by omega) (fun c_1 => ?_) (fun c_1 => ?_)
    · skip
      refine lv_iload hx hb dL_law_332 (lv_at hl 1 rfl) ?_
      refine q_if_ne (tgt := 349) hx hb dL_law_334 (by decide) (by omega) (fun c_2 => ?_) (fun c_2 => ?_)
      · exfalso; omega
      · skip
        refine lv_aload_n hx hb dL_law_337 rfl (lv_at hl 6 rfl) ?_
        refine q_iconst hx hb dL_law_338 ?_
        refine q_lald hx hb hK3 hP dL_law_339 ?_
        refine lv_iload hx hb dL_law_340 (lv_at hl 0 rfl) ?_
        refine lv_i2l hx hb dL_law_342 rfl ?_
        refine q_lcmp0 hx hb (by rfl) dL_law_343 ?_
        refine q_if_eq (tgt := 349) hx hb dL_law_344 (by decide) (by omega) (fun c_3 => ?_) (fun c_3 => ?_)
        · skip
          refine lv_goto (tgt := 1638) hx hb dL_law_349 (by decide) ?_
          refine W.widen (k := cells + 3) (n := slots + 26) (by omega) (by omega) ?_
          exact kk _ _ _ ⟨u, _, _, _, _, _, hLW2, hu.1, hu.2.1, hu.2.2, hP, hD⟩ hS (lv_sub hl [2, 3, 4, 5, 6] rfl)
        · exfalso; omega
    · exact absurd rfl c_1
  · skip
    refine lv_istore (lv' := [(5, .int (iI (er))), (4, .int (iI ((i : Int)))), (0, .ref b), (1, .ref (g 0)), (2, .ref a), (3, .ref out)]) hx hb dL_law_301 hl (by decide) rfl (fun ls hl => ?_)
    refine lv_aload_n hx hb dL_law_303 rfl (lv_at hl 4 rfl) ?_
    refine lv_aload_n hx hb dL_law_304 rfl (lv_at hl 2 rfl) ?_
    refine lv_iload hx hb dL_law_305 (lv_at hl 1 rfl) ?_
    refine q_iconst hx hb dL_law_307 ?_
    refine q_iadd hx hb dL_law_308 ?_
    refine q_sld hx hb hX hbl hbA hS (i + 1) (by omega) (by omega) hL dL_law_309 ?_
    refine q_is hX1 ?_
    refine lv_aload_n hx hb dL_law_310 rfl (lv_at hl 2 rfl) ?_
    refine lv_iload hx hb dL_law_311 (lv_at hl 1 rfl) ?_
    refine q_iconst hx hb dL_law_313 ?_
    refine q_iadd hx hb dL_law_314 ?_
    refine q_sld hx hb hX hbl hbA hS (i + 2) (by omega) (by omega) hL dL_law_315 ?_
    refine q_is hX2 ?_
    refine q_lawU (nL := 9) (As := [.int (iI (x)), .int (iI (y))]) (rest := []) (wr := WC cI cO g σ T P ++ [oc out cL fo]) ⟨hx, hb, hml, hown, hts⟩ (hMu _) (cwV 2 hts gL_law_X6_setNodes rfl rfl rfl (by decide +kernel) ⟨Nat.le_of_ble_eq_true rfl, Nat.le_of_ble_eq_true rfl⟩) (mo_rec hP hK) rfl rfl hP hD hS hA hK3 rfl hl.1 rfl (Nat.le_of_ble_eq_true rfl) dL_law_316 (by omega) (by omega) (fun r H locs hr hB hS => ?_)
    rcases hB with ⟨h0, hP, hD⟩ | ⟨h0, hP, hD⟩
    case inl => exact absurd h0 he
    refine lv_istore (lv' := [(6, .int r), (5, .int (iI (er))), (4, .int (iI ((i : Int)))), (0, .ref b), (1, .ref (g 0)), (2, .ref a), (3, .ref out)]) hx hb dL_law_319 hl (by decide) rfl (fun ls hl => ?_)
    refine lv_aload_n hx hb dL_law_321 rfl (lv_at hl 5 rfl) ?_
    refine q_callV (fr := 0) (lo := 0) (nL := 9) (Pic := PicM D cI a ta pa (er) (σ) (T) (P)) (As := []) (rest := []) ⟨hx, hb, hml, hown, hts⟩ (c_thrown l D cI cO cL a ta pa (er) (σ) (T) (P) hLW.1 hLW.2.1) (cwV 0 hts gL_law_X6_thrown rfl rfl rfl (by decide +kernel) ⟨Nat.le_of_ble_eq_true rfl, Nat.le_of_ble_eq_true rfl⟩) (mo_rec hP hK) (vaP_mems hP (fun q hq => List.mem_append_right _ hq)) hK3 rfl hl.1 rfl (Nat.le_of_ble_eq_true rfl) dL_law_322 (by omega) (by omega) ?_
    refine lv_iload hx hb dL_law_325 (lv_at hl 1 rfl) ?_
    refine q_icmp_eq (tgt := 332) hx hb dL_law_327 (by decide) (by omega) (by omega) (fun c_4 => ?_) (fun c_4 => ?_)
    · skip
      refine lv_iload hx hb dL_law_332 (lv_at hl 1 rfl) ?_
      refine q_if_ne (tgt := 349) hx hb dL_law_334 (by decide) (by omega) (fun c_5 => ?_) (fun c_5 => ?_)
      · skip
        refine lv_goto (tgt := 1638) hx hb dL_law_349 (by decide) ?_
        refine W.widen (k := cells + 3) (n := slots + 26) (by omega) (by omega) ?_
        exact kk _ _ _ ⟨g, σ, T, P, _, _, hLW, rfl, he6, he7, hP, hD⟩ hS (lv_sub hl [2, 3, 4, 5, 6] rfl)
      · exfalso; omega
    · exact absurd rfl c_4
set_option maxHeartbeats 4000000 in
set_option maxRecDepth 100000 in
theorem r_leap {p : Program} {l : Launch} {e : Env} {s : State} {m : MethodId} {args : Array Value} {below : List Frame} {meth : Method} {c : Code} {Q : State → Prop} {A0 : Nat → Prop} {D : va_G} {cI cO cL cB : ClassId} {ed : Nat × Nat × Nat} {out g0 a ta pa b L : Nat} {xs : Nat → Int32} (C0 : LC p l s m args c A0 D cI cO cL cB ed b L xs) {cells slots : Nat} (hc : cells + 3 ≤ room_1.cells) (hs : slots + 26 ≤ room_1.slots) {i : Nat} (hi : i + 6 ≤ L) {H : Heap} {locs : List Loc} {ls : Array Slot} (hI : IV D cI cO cL A0 ed out g0 a ta pa H) (hS : va_S A0 s.heap H locs) (hl : lv_has ls 9 [(4, .int (iI (i : Int))), (0, .ref b), (1, .ref g0), (2, .ref a), (3, .ref out)]) (kk : ∀ (H : Heap) (locs : List Loc) (ls : Array Slot), IV D cI cO cL A0 ed out g0 a ta pa H → va_S A0 s.heap H locs → lv_has ls 9 [(4, .int (iI (i : Int))), (0, .ref b), (1, .ref g0), (2, .ref a), (3, .ref out)] → W p l e room_1 s m args below meth c H locs (cells + 3) (slots + 26) Q (F0 m 1638 ls [])) : W p l e room_1 s m args below meth c H locs cells slots Q (F0 m 352 ls []) := by
  obtain ⟨hst0, hx, hb, hml, hown, hts, hX, hbl, hbA, hL, hA, hK, hE, hT, hN⟩ := C0
  obtain ⟨g, σ, T, P, fo, th, hLW, hg0, he6, he7, hP, hD⟩ := hI
  subst hg0
  obtain ⟨hW, hS0, hp0⟩ := id hLW
  obtain ⟨w0, w1, w2, w3, w4, w5, w6, w7, w8⟩ := id hW
  have hK3 : va_K D vwCl (ty3 cI cO cL) s := hK.sub [0, 1, 2] rfl
  obtain ⟨y, hyr, hX1⟩ : ∃ z : Int, (-2147483648 ≤ z ∧ z < 2147483648) ∧ (xs (i + 1)).toInt = z := ⟨_, I_rng _, rfl⟩
  obtain ⟨er, hev⟩ : ∃ er : Int, (if 0 ≤ y ∧ y < 1000 then 0 else 1) = er := ⟨_, rfl⟩
  have her : 0 ≤ er ∧ er ≤ 2 := by rw [← hev]; (repeat' split) <;> omega
  have hMw := fun sz => w_leap l hst0 D sz out ed cI cO cL g σ T P fo hW hS0 he6 he7 y hyr
  have hMu := fun sz => u_leap l D sz cI cO cL a ta pa th σ T P hW hS0 y hyr
  rw [hev] at hMw hMu
  refine lv_aload_n hx hb dL_law_352 rfl (lv_at hl 2 rfl) ?_
  refine lv_aload_n hx hb dL_law_353 rfl (lv_at hl 1 rfl) ?_
  refine lv_iload hx hb dL_law_354 (lv_at hl 0 rfl) ?_
  refine q_iconst hx hb dL_law_356 ?_
  refine q_iadd hx hb dL_law_357 ?_
  refine q_sld hx hb hX hbl hbA hS (i + 1) (by omega) (by omega) hL dL_law_358 ?_
  refine q_is hX1 ?_
  refine lv_aload_n hx hb dL_law_359 rfl (lv_at hl 4 rfl) ?_
  refine q_lawW (nL := 9) (As := [.ref (g 0), .int (iI (y)), .ref out]) (rest := []) (fo := fo) (wr := WMo cI a ta pa th σ T P) ⟨hx, hb, hml, hown, hts⟩ (hMw _) (vx_cwSW 3 hts gL_law_L_leap rfl rfl rfl (by decide +kernel) ⟨Nat.le_of_ble_eq_true rfl, Nat.le_of_ble_eq_true rfl⟩) hP hD hS hA hK3 hE hT hN rfl hl.1 rfl (Nat.le_of_ble_eq_true rfl) dL_law_360 (by omega) (by omega) (fun u H locs he hu hP hD hS => ?_) (fun H locs he hP hS => ?_)
  · subst he
    have hLW2 : LW (σ) (T) (P) := hLW
    refine lv_istore (lv' := [(5, .int (iI (0))), (4, .int (iI ((i : Int)))), (0, .ref b), (1, .ref (g 0)), (2, .ref a), (3, .ref out)]) hx hb dL_law_363 hl (by decide) rfl (fun ls hl => ?_)
    refine lv_aload_n hx hb dL_law_365 rfl (lv_at hl 4 rfl) ?_
    refine lv_aload_n hx hb dL_law_366 rfl (lv_at hl 2 rfl) ?_
    refine lv_iload hx hb dL_law_367 (lv_at hl 1 rfl) ?_
    refine q_iconst hx hb dL_law_369 ?_
    refine q_iadd hx hb dL_law_370 ?_
    refine q_sld hx hb hX hbl hbA hS (i + 1) (by omega) (by omega) hL dL_law_371 ?_
    refine q_is hX1 ?_
    refine q_lawU (nL := 9) (As := [.int (iI (y))]) (rest := []) (wr := WC cI cO u (σ) (T) (P) ++ [oc out cL (vp_updL fo 0 (iI (m_leap (σ 0) (σ 1) y)).toInt64)]) ⟨hx, hb, hml, hown, hts⟩ (hMu _) (cwV 1 hts gL_law_X6_leap rfl rfl rfl (by decide +kernel) ⟨Nat.le_of_ble_eq_true rfl, Nat.le_of_ble_eq_true rfl⟩) (mo_rec hP hK) rfl rfl hP hD hS hA hK3 rfl hl.1 rfl (Nat.le_of_ble_eq_true rfl) dL_law_372 (by omega) (by omega) (fun r H locs hr hB hS => ?_)
    rcases hB with ⟨h0, hP, hD⟩ | ⟨h0, hP, hD⟩
    case inr => exact absurd rfl h0
    have hr := hr rfl
    subst hr
    refine lv_istore (lv' := [(6, .int (iI (m_leap (σ 0) (σ 1) y))), (5, .int (iI (0))), (4, .int (iI ((i : Int)))), (0, .ref b), (1, .ref (g 0)), (2, .ref a), (3, .ref out)]) hx hb dL_law_375 hl (by decide) rfl (fun ls hl => ?_)
    refine lv_aload_n hx hb dL_law_377 rfl (lv_at hl 5 rfl) ?_
    refine q_callV (fr := 0) (lo := 0) (nL := 9) (Pic := PicM D cI a ta pa (0) (σ) (T) (P)) (As := []) (rest := []) ⟨hx, hb, hml, hown, hts⟩ (c_thrown l D cI cO cL a ta pa (0) (σ) (T) (P) hLW2.1 hLW2.2.1) (cwV 0 hts gL_law_X6_thrown rfl rfl rfl (by decide +kernel) ⟨Nat.le_of_ble_eq_true rfl, Nat.le_of_ble_eq_true rfl⟩) (mo_rec hP hK) (vaP_mems hP (fun q hq => List.mem_append_right _ hq)) hK3 rfl hl.1 rfl (Nat.le_of_ble_eq_true rfl) dL_law_378 (by omega) (by omega) ?_
    refine lv_iload hx hb dL_law_381 (lv_at hl 1 rfl) ?_
    refine q_icmp_eq (tgt := 388) hx hb dL_law_383 (by decide) (by omega) (by omega) (fun c_1 => ?_) (fun c_1 => ?_)
    · skip
      refine lv_iload hx hb dL_law_388 (lv_at hl 1 rfl) ?_
      refine q_if_ne (tgt := 412) hx hb dL_law_390 (by decide) (by omega) (fun c_2 => ?_) (fun c_2 => ?_)
      · exfalso; omega
      · skip
        refine lv_aload_n hx hb dL_law_393 rfl (lv_at hl 6 rfl) ?_
        refine q_iconst hx hb dL_law_394 ?_
        refine q_lald hx hb hK3 hP dL_law_395 ?_
        refine lv_iload hx hb dL_law_396 (lv_at hl 0 rfl) ?_
        rcases m_leap_01 (σ 0) (σ 1) y with hv | hv
        · skip
          refine q_if_eq (tgt := 405) hx hb dL_law_398 (by decide) (by omega) (fun c_3 => ?_) (fun c_3 => ?_)
          · skip
            refine lv_lconst (v := (iI (m_leap (σ 0) (σ 1) y)).toInt64) hx hb dL_law_405 (by rw [hv]; rfl) ?_
            refine q_lcmp0 hx hb (by rfl) dL_law_406 ?_
            refine q_if_eq (tgt := 412) hx hb dL_law_407 (by decide) (by omega) (fun c_4 => ?_) (fun c_4 => ?_)
            · skip
              refine lv_goto (tgt := 1638) hx hb dL_law_412 (by decide) ?_
              refine W.widen (k := cells + 3) (n := slots + 26) (by omega) (by omega) ?_
              exact kk _ _ _ ⟨u, _, _, _, _, _, hLW2, hu.1, hu.2.1, hu.2.2, hP, hD⟩ hS (lv_sub hl [2, 3, 4, 5, 6] rfl)
            · exfalso; omega
          · exfalso; omega
        · skip
          refine q_if_eq (tgt := 405) hx hb dL_law_398 (by decide) (by omega) (fun c_5 => ?_) (fun c_5 => ?_)
          · exfalso; omega
          · skip
            refine lv_lconst (v := (iI (m_leap (σ 0) (σ 1) y)).toInt64) hx hb dL_law_401 (by rw [hv]; rfl) ?_
            refine lv_goto (tgt := 406) hx hb dL_law_402 (by decide) ?_
            refine q_lcmp0 hx hb (by rfl) dL_law_406 ?_
            refine q_if_eq (tgt := 412) hx hb dL_law_407 (by decide) (by omega) (fun c_6 => ?_) (fun c_6 => ?_)
            · skip
              refine lv_goto (tgt := 1638) hx hb dL_law_412 (by decide) ?_
              refine W.widen (k := cells + 3) (n := slots + 26) (by omega) (by omega) ?_
              exact kk _ _ _ ⟨u, _, _, _, _, _, hLW2, hu.1, hu.2.1, hu.2.2, hP, hD⟩ hS (lv_sub hl [2, 3, 4, 5, 6] rfl)
            · exfalso; omega
    · exact absurd rfl c_1
  · skip
    refine lv_istore (lv' := [(5, .int (iI (er))), (4, .int (iI ((i : Int)))), (0, .ref b), (1, .ref (g 0)), (2, .ref a), (3, .ref out)]) hx hb dL_law_363 hl (by decide) rfl (fun ls hl => ?_)
    refine lv_aload_n hx hb dL_law_365 rfl (lv_at hl 4 rfl) ?_
    refine lv_aload_n hx hb dL_law_366 rfl (lv_at hl 2 rfl) ?_
    refine lv_iload hx hb dL_law_367 (lv_at hl 1 rfl) ?_
    refine q_iconst hx hb dL_law_369 ?_
    refine q_iadd hx hb dL_law_370 ?_
    refine q_sld hx hb hX hbl hbA hS (i + 1) (by omega) (by omega) hL dL_law_371 ?_
    refine q_is hX1 ?_
    refine q_lawU (nL := 9) (As := [.int (iI (y))]) (rest := []) (wr := WC cI cO g σ T P ++ [oc out cL fo]) ⟨hx, hb, hml, hown, hts⟩ (hMu _) (cwV 1 hts gL_law_X6_leap rfl rfl rfl (by decide +kernel) ⟨Nat.le_of_ble_eq_true rfl, Nat.le_of_ble_eq_true rfl⟩) (mo_rec hP hK) rfl rfl hP hD hS hA hK3 rfl hl.1 rfl (Nat.le_of_ble_eq_true rfl) dL_law_372 (by omega) (by omega) (fun r H locs hr hB hS => ?_)
    rcases hB with ⟨h0, hP, hD⟩ | ⟨h0, hP, hD⟩
    case inl => exact absurd h0 he
    refine lv_istore (lv' := [(6, .int r), (5, .int (iI (er))), (4, .int (iI ((i : Int)))), (0, .ref b), (1, .ref (g 0)), (2, .ref a), (3, .ref out)]) hx hb dL_law_375 hl (by decide) rfl (fun ls hl => ?_)
    refine lv_aload_n hx hb dL_law_377 rfl (lv_at hl 5 rfl) ?_
    refine q_callV (fr := 0) (lo := 0) (nL := 9) (Pic := PicM D cI a ta pa (er) (σ) (T) (P)) (As := []) (rest := []) ⟨hx, hb, hml, hown, hts⟩ (c_thrown l D cI cO cL a ta pa (er) (σ) (T) (P) hLW.1 hLW.2.1) (cwV 0 hts gL_law_X6_thrown rfl rfl rfl (by decide +kernel) ⟨Nat.le_of_ble_eq_true rfl, Nat.le_of_ble_eq_true rfl⟩) (mo_rec hP hK) (vaP_mems hP (fun q hq => List.mem_append_right _ hq)) hK3 rfl hl.1 rfl (Nat.le_of_ble_eq_true rfl) dL_law_378 (by omega) (by omega) ?_
    refine lv_iload hx hb dL_law_381 (lv_at hl 1 rfl) ?_
    refine q_icmp_eq (tgt := 388) hx hb dL_law_383 (by decide) (by omega) (by omega) (fun c_7 => ?_) (fun c_7 => ?_)
    · skip
      refine lv_iload hx hb dL_law_388 (lv_at hl 1 rfl) ?_
      refine q_if_ne (tgt := 412) hx hb dL_law_390 (by decide) (by omega) (fun c_8 => ?_) (fun c_8 => ?_)
      · skip
        refine lv_goto (tgt := 1638) hx hb dL_law_412 (by decide) ?_
        refine W.widen (k := cells + 3) (n := slots + 26) (by omega) (by omega) ?_
        exact kk _ _ _ ⟨g, σ, T, P, _, _, hLW, rfl, he6, he7, hP, hD⟩ hS (lv_sub hl [2, 3, 4, 5, 6] rfl)
      · exfalso; omega
    · exact absurd rfl c_7
set_option maxHeartbeats 4000000 in
set_option maxRecDepth 100000 in
theorem r_day {p : Program} {l : Launch} {e : Env} {s : State} {m : MethodId} {args : Array Value} {below : List Frame} {meth : Method} {c : Code} {Q : State → Prop} {A0 : Nat → Prop} {D : va_G} {cI cO cL cB : ClassId} {ed : Nat × Nat × Nat} {out g0 a ta pa b L : Nat} {xs : Nat → Int32} (C0 : LC p l s m args c A0 D cI cO cL cB ed b L xs) {cells slots : Nat} (hc : cells + 3 ≤ room_1.cells) (hs : slots + 26 ≤ room_1.slots) {i : Nat} (hi : i + 6 ≤ L) {H : Heap} {locs : List Loc} {ls : Array Slot} (hI : IV D cI cO cL A0 ed out g0 a ta pa H) (hS : va_S A0 s.heap H locs) (hl : lv_has ls 9 [(4, .int (iI (i : Int))), (0, .ref b), (1, .ref g0), (2, .ref a), (3, .ref out)]) (kk : ∀ (H : Heap) (locs : List Loc) (ls : Array Slot), IV D cI cO cL A0 ed out g0 a ta pa H → va_S A0 s.heap H locs → lv_has ls 9 [(4, .int (iI (i : Int))), (0, .ref b), (1, .ref g0), (2, .ref a), (3, .ref out)] → W p l e room_1 s m args below meth c H locs (cells + 3) (slots + 26) Q (F0 m 1638 ls [])) : W p l e room_1 s m args below meth c H locs cells slots Q (F0 m 415 ls []) := by
  obtain ⟨hst0, hx, hb, hml, hown, hts, hX, hbl, hbA, hL, hA, hK, hE, hT, hN⟩ := C0
  obtain ⟨g, σ, T, P, fo, th, hLW, hg0, he6, he7, hP, hD⟩ := hI
  subst hg0
  obtain ⟨hW, hS0, hp0⟩ := id hLW
  obtain ⟨w0, w1, w2, w3, w4, w5, w6, w7, w8⟩ := id hW
  have hK3 : va_K D vwCl (ty3 cI cO cL) s := hK.sub [0, 1, 2] rfl
  obtain ⟨y, hyr, hX1⟩ : ∃ z : Int, (-2147483648 ≤ z ∧ z < 2147483648) ∧ (xs (i + 1)).toInt = z := ⟨_, I_rng _, rfl⟩
  obtain ⟨mo, hmor, hX2⟩ : ∃ z : Int, (-2147483648 ≤ z ∧ z < 2147483648) ∧ (xs (i + 2)).toInt = z := ⟨_, I_rng _, rfl⟩
  obtain ⟨da, hdar, hX3⟩ : ∃ z : Int, (-2147483648 ≤ z ∧ z < 2147483648) ∧ (xs (i + 3)).toInt = z := ⟨_, I_rng _, rfl⟩
  obtain ⟨er, hev⟩ : ∃ er : Int, (if (0 ≤ y ∧ y < 1000) ∧ (0 ≤ mo ∧ mo ≤ 11) ∧ (0 ≤ da ∧ da < m_md (σ 0) (σ 1) y mo) then 0 else 1) = er := ⟨_, rfl⟩
  have her : 0 ≤ er ∧ er ≤ 2 := by rw [← hev]; (repeat' split) <;> omega
  have hMw := fun sz => w_day l hst0 D sz out ed cI cO cL g σ T P fo hW hS0 he6 he7 y mo da hyr hmor hdar
  have hMu := fun sz => u_day l D sz cI cO cL a ta pa th σ T P hW hS0 y mo da hyr hmor hdar
  rw [hev] at hMw hMu
  refine lv_aload_n hx hb dL_law_415 rfl (lv_at hl 2 rfl) ?_
  refine lv_aload_n hx hb dL_law_416 rfl (lv_at hl 1 rfl) ?_
  refine lv_iload hx hb dL_law_417 (lv_at hl 0 rfl) ?_
  refine q_iconst hx hb dL_law_419 ?_
  refine q_iadd hx hb dL_law_420 ?_
  refine q_sld hx hb hX hbl hbA hS (i + 1) (by omega) (by omega) hL dL_law_421 ?_
  refine q_is hX1 ?_
  refine lv_aload_n hx hb dL_law_422 rfl (lv_at hl 1 rfl) ?_
  refine lv_iload hx hb dL_law_423 (lv_at hl 0 rfl) ?_
  refine q_iconst hx hb dL_law_425 ?_
  refine q_iadd hx hb dL_law_426 ?_
  refine q_sld hx hb hX hbl hbA hS (i + 2) (by omega) (by omega) hL dL_law_427 ?_
  refine q_is hX2 ?_
  refine lv_aload_n hx hb dL_law_428 rfl (lv_at hl 1 rfl) ?_
  refine lv_iload hx hb dL_law_429 (lv_at hl 0 rfl) ?_
  refine q_iconst hx hb dL_law_431 ?_
  refine q_iadd hx hb dL_law_432 ?_
  refine q_sld hx hb hX hbl hbA hS (i + 3) (by omega) (by omega) hL dL_law_433 ?_
  refine q_is hX3 ?_
  refine lv_aload_n hx hb dL_law_434 rfl (lv_at hl 4 rfl) ?_
  refine q_lawW (nL := 9) (As := [.ref (g 0), .int (iI (y)), .int (iI (mo)), .int (iI (da)), .ref out]) (rest := []) (fo := fo) (wr := WMo cI a ta pa th σ T P) ⟨hx, hb, hml, hown, hts⟩ (hMw _) (vx_cwSW 5 hts gL_law_L_day rfl rfl rfl (by decide +kernel) ⟨Nat.le_of_ble_eq_true rfl, Nat.le_of_ble_eq_true rfl⟩) hP hD hS hA hK3 hE hT hN rfl hl.1 rfl (Nat.le_of_ble_eq_true rfl) dL_law_435 (by omega) (by omega) (fun u H locs he hu hP hD hS => ?_) (fun H locs he hP hS => ?_)
  · subst he
    have hLW2 : LW (σ) (T) (P) := hLW
    refine lv_istore (lv' := [(5, .int (iI (0))), (4, .int (iI ((i : Int)))), (0, .ref b), (1, .ref (g 0)), (2, .ref a), (3, .ref out)]) hx hb dL_law_438 hl (by decide) rfl (fun ls hl => ?_)
    refine lv_aload_n hx hb dL_law_440 rfl (lv_at hl 4 rfl) ?_
    refine lv_aload_n hx hb dL_law_441 rfl (lv_at hl 2 rfl) ?_
    refine lv_iload hx hb dL_law_442 (lv_at hl 1 rfl) ?_
    refine q_iconst hx hb dL_law_444 ?_
    refine q_iadd hx hb dL_law_445 ?_
    refine q_sld hx hb hX hbl hbA hS (i + 1) (by omega) (by omega) hL dL_law_446 ?_
    refine q_is hX1 ?_
    refine lv_aload_n hx hb dL_law_447 rfl (lv_at hl 2 rfl) ?_
    refine lv_iload hx hb dL_law_448 (lv_at hl 1 rfl) ?_
    refine q_iconst hx hb dL_law_450 ?_
    refine q_iadd hx hb dL_law_451 ?_
    refine q_sld hx hb hX hbl hbA hS (i + 2) (by omega) (by omega) hL dL_law_452 ?_
    refine q_is hX2 ?_
    refine lv_aload_n hx hb dL_law_453 rfl (lv_at hl 2 rfl) ?_
    refine lv_iload hx hb dL_law_454 (lv_at hl 1 rfl) ?_
    refine q_iconst hx hb dL_law_456 ?_
    refine q_iadd hx hb dL_law_457 ?_
    refine q_sld hx hb hX hbl hbA hS (i + 3) (by omega) (by omega) hL dL_law_458 ?_
    refine q_is hX3 ?_
    refine q_lawU (nL := 9) (As := [.int (iI (y)), .int (iI (mo)), .int (iI (da))]) (rest := []) (wr := WC cI cO u (σ) (T) (P) ++ [oc out cL (vp_updL fo 0 (iI (m_d0 (σ 0) (σ 1) mo da y)).toInt64)]) ⟨hx, hb, hml, hown, hts⟩ (hMu _) (cwV 3 hts gL_law_X6_day rfl rfl rfl (by decide +kernel) ⟨Nat.le_of_ble_eq_true rfl, Nat.le_of_ble_eq_true rfl⟩) (mo_rec hP hK) rfl rfl hP hD hS hA hK3 rfl hl.1 rfl (Nat.le_of_ble_eq_true rfl) dL_law_459 (by omega) (by omega) (fun r H locs hr hB hS => ?_)
    rcases hB with ⟨h0, hP, hD⟩ | ⟨h0, hP, hD⟩
    case inr => exact absurd rfl h0
    have hr := hr rfl
    subst hr
    refine lv_istore (lv' := [(6, .int (iI (m_d0 (σ 0) (σ 1) mo da y))), (5, .int (iI (0))), (4, .int (iI ((i : Int)))), (0, .ref b), (1, .ref (g 0)), (2, .ref a), (3, .ref out)]) hx hb dL_law_462 hl (by decide) rfl (fun ls hl => ?_)
    refine lv_aload_n hx hb dL_law_464 rfl (lv_at hl 5 rfl) ?_
    refine q_callV (fr := 0) (lo := 0) (nL := 9) (Pic := PicM D cI a ta pa (0) (σ) (T) (P)) (As := []) (rest := []) ⟨hx, hb, hml, hown, hts⟩ (c_thrown l D cI cO cL a ta pa (0) (σ) (T) (P) hLW2.1 hLW2.2.1) (cwV 0 hts gL_law_X6_thrown rfl rfl rfl (by decide +kernel) ⟨Nat.le_of_ble_eq_true rfl, Nat.le_of_ble_eq_true rfl⟩) (mo_rec hP hK) (vaP_mems hP (fun q hq => List.mem_append_right _ hq)) hK3 rfl hl.1 rfl (Nat.le_of_ble_eq_true rfl) dL_law_465 (by omega) (by omega) ?_
    refine lv_iload hx hb dL_law_468 (lv_at hl 1 rfl) ?_
    refine q_icmp_eq (tgt := 475) hx hb dL_law_470 (by decide) (by omega) (by omega) (fun c_1 => ?_) (fun c_1 => ?_)
    · skip
      refine lv_iload hx hb dL_law_475 (lv_at hl 1 rfl) ?_
      refine q_if_ne (tgt := 492) hx hb dL_law_477 (by decide) (by omega) (fun c_2 => ?_) (fun c_2 => ?_)
      · exfalso; omega
      · skip
        refine lv_aload_n hx hb dL_law_480 rfl (lv_at hl 6 rfl) ?_
        refine q_iconst hx hb dL_law_481 ?_
        refine q_lald hx hb hK3 hP dL_law_482 ?_
        refine lv_iload hx hb dL_law_483 (lv_at hl 0 rfl) ?_
        refine lv_i2l hx hb dL_law_485 rfl ?_
        refine q_lcmp0 hx hb (by rfl) dL_law_486 ?_
        refine q_if_eq (tgt := 492) hx hb dL_law_487 (by decide) (by omega) (fun c_3 => ?_) (fun c_3 => ?_)
        · skip
          refine lv_goto (tgt := 1638) hx hb dL_law_492 (by decide) ?_
          refine W.widen (k := cells + 3) (n := slots + 26) (by omega) (by omega) ?_
          exact kk _ _ _ ⟨u, _, _, _, _, _, hLW2, hu.1, hu.2.1, hu.2.2, hP, hD⟩ hS (lv_sub hl [2, 3, 4, 5, 6] rfl)
        · exfalso; omega
    · exact absurd rfl c_1
  · skip
    refine lv_istore (lv' := [(5, .int (iI (er))), (4, .int (iI ((i : Int)))), (0, .ref b), (1, .ref (g 0)), (2, .ref a), (3, .ref out)]) hx hb dL_law_438 hl (by decide) rfl (fun ls hl => ?_)
    refine lv_aload_n hx hb dL_law_440 rfl (lv_at hl 4 rfl) ?_
    refine lv_aload_n hx hb dL_law_441 rfl (lv_at hl 2 rfl) ?_
    refine lv_iload hx hb dL_law_442 (lv_at hl 1 rfl) ?_
    refine q_iconst hx hb dL_law_444 ?_
    refine q_iadd hx hb dL_law_445 ?_
    refine q_sld hx hb hX hbl hbA hS (i + 1) (by omega) (by omega) hL dL_law_446 ?_
    refine q_is hX1 ?_
    refine lv_aload_n hx hb dL_law_447 rfl (lv_at hl 2 rfl) ?_
    refine lv_iload hx hb dL_law_448 (lv_at hl 1 rfl) ?_
    refine q_iconst hx hb dL_law_450 ?_
    refine q_iadd hx hb dL_law_451 ?_
    refine q_sld hx hb hX hbl hbA hS (i + 2) (by omega) (by omega) hL dL_law_452 ?_
    refine q_is hX2 ?_
    refine lv_aload_n hx hb dL_law_453 rfl (lv_at hl 2 rfl) ?_
    refine lv_iload hx hb dL_law_454 (lv_at hl 1 rfl) ?_
    refine q_iconst hx hb dL_law_456 ?_
    refine q_iadd hx hb dL_law_457 ?_
    refine q_sld hx hb hX hbl hbA hS (i + 3) (by omega) (by omega) hL dL_law_458 ?_
    refine q_is hX3 ?_
    refine q_lawU (nL := 9) (As := [.int (iI (y)), .int (iI (mo)), .int (iI (da))]) (rest := []) (wr := WC cI cO g σ T P ++ [oc out cL fo]) ⟨hx, hb, hml, hown, hts⟩ (hMu _) (cwV 3 hts gL_law_X6_day rfl rfl rfl (by decide +kernel) ⟨Nat.le_of_ble_eq_true rfl, Nat.le_of_ble_eq_true rfl⟩) (mo_rec hP hK) rfl rfl hP hD hS hA hK3 rfl hl.1 rfl (Nat.le_of_ble_eq_true rfl) dL_law_459 (by omega) (by omega) (fun r H locs hr hB hS => ?_)
    rcases hB with ⟨h0, hP, hD⟩ | ⟨h0, hP, hD⟩
    case inl => exact absurd h0 he
    refine lv_istore (lv' := [(6, .int r), (5, .int (iI (er))), (4, .int (iI ((i : Int)))), (0, .ref b), (1, .ref (g 0)), (2, .ref a), (3, .ref out)]) hx hb dL_law_462 hl (by decide) rfl (fun ls hl => ?_)
    refine lv_aload_n hx hb dL_law_464 rfl (lv_at hl 5 rfl) ?_
    refine q_callV (fr := 0) (lo := 0) (nL := 9) (Pic := PicM D cI a ta pa (er) (σ) (T) (P)) (As := []) (rest := []) ⟨hx, hb, hml, hown, hts⟩ (c_thrown l D cI cO cL a ta pa (er) (σ) (T) (P) hLW.1 hLW.2.1) (cwV 0 hts gL_law_X6_thrown rfl rfl rfl (by decide +kernel) ⟨Nat.le_of_ble_eq_true rfl, Nat.le_of_ble_eq_true rfl⟩) (mo_rec hP hK) (vaP_mems hP (fun q hq => List.mem_append_right _ hq)) hK3 rfl hl.1 rfl (Nat.le_of_ble_eq_true rfl) dL_law_465 (by omega) (by omega) ?_
    refine lv_iload hx hb dL_law_468 (lv_at hl 1 rfl) ?_
    refine q_icmp_eq (tgt := 475) hx hb dL_law_470 (by decide) (by omega) (by omega) (fun c_4 => ?_) (fun c_4 => ?_)
    · skip
      refine lv_iload hx hb dL_law_475 (lv_at hl 1 rfl) ?_
      refine q_if_ne (tgt := 492) hx hb dL_law_477 (by decide) (by omega) (fun c_5 => ?_) (fun c_5 => ?_)
      · skip
        refine lv_goto (tgt := 1638) hx hb dL_law_492 (by decide) ?_
        refine W.widen (k := cells + 3) (n := slots + 26) (by omega) (by omega) ?_
        exact kk _ _ _ ⟨g, σ, T, P, _, _, hLW, rfl, he6, he7, hP, hD⟩ hS (lv_sub hl [2, 3, 4, 5, 6] rfl)
      · exfalso; omega
    · exact absurd rfl c_4
set_option maxHeartbeats 4000000 in
set_option maxRecDepth 100000 in
theorem r_date {p : Program} {l : Launch} {e : Env} {s : State} {m : MethodId} {args : Array Value} {below : List Frame} {meth : Method} {c : Code} {Q : State → Prop} {A0 : Nat → Prop} {D : va_G} {cI cO cL cB : ClassId} {ed : Nat × Nat × Nat} {out g0 a ta pa b L : Nat} {xs : Nat → Int32} (C0 : LC p l s m args c A0 D cI cO cL cB ed b L xs) {cells slots : Nat} (hc : cells + 3 ≤ room_1.cells) (hs : slots + 26 ≤ room_1.slots) {i : Nat} (hi : i + 6 ≤ L) {H : Heap} {locs : List Loc} {ls : Array Slot} (hI : IV D cI cO cL A0 ed out g0 a ta pa H) (hS : va_S A0 s.heap H locs) (hl : lv_has ls 9 [(4, .int (iI (i : Int))), (0, .ref b), (1, .ref g0), (2, .ref a), (3, .ref out)]) (kk : ∀ (H : Heap) (locs : List Loc) (ls : Array Slot), IV D cI cO cL A0 ed out g0 a ta pa H → va_S A0 s.heap H locs → lv_has ls 9 [(4, .int (iI (i : Int))), (0, .ref b), (1, .ref g0), (2, .ref a), (3, .ref out)] → W p l e room_1 s m args below meth c H locs (cells + 3) (slots + 26) Q (F0 m 1638 ls [])) : W p l e room_1 s m args below meth c H locs cells slots Q (F0 m 495 ls []) := by
  obtain ⟨hst0, hx, hb, hml, hown, hts, hX, hbl, hbA, hL, hA, hK, hE, hT, hN⟩ := C0
  obtain ⟨g, σ, T, P, fo, th, hLW, hg0, he6, he7, hP, hD⟩ := hI
  subst hg0
  obtain ⟨hW, hS0, hp0⟩ := id hLW
  obtain ⟨w0, w1, w2, w3, w4, w5, w6, w7, w8⟩ := id hW
  have hK3 : va_K D vwCl (ty3 cI cO cL) s := hK.sub [0, 1, 2] rfl
  obtain ⟨d, hdr, hX1⟩ : ∃ z : Int, (-2147483648 ≤ z ∧ z < 2147483648) ∧ (xs (i + 1)).toInt = z := ⟨_, I_rng _, rfl⟩
  obtain ⟨w, hwr, hX2⟩ : ∃ z : Int, (-2147483648 ≤ z ∧ z < 2147483648) ∧ (xs (i + 2)).toInt = z := ⟨_, I_rng _, rfl⟩
  obtain ⟨er, hev⟩ : ∃ er : Int, (if 0 ≤ d ∧ d < m_fd (σ 0) (σ 1) 1000 then (if 0 ≤ w ∧ w ≤ 4 then 0 else 2) else 1) = er := ⟨_, rfl⟩
  have her : 0 ≤ er ∧ er ≤ 2 := by rw [← hev]; (repeat' split) <;> omega
  have hMw := fun sz => w_date l hst0 D sz out ed cI cO cL g σ T P fo hW hS0 he6 he7 d w hdr hwr
  have hMu := fun sz => u_date l D sz cI cO cL a ta pa th σ T P hW hS0 d w hdr hwr
  rw [hev] at hMw hMu
  refine lv_aload_n hx hb dL_law_495 rfl (lv_at hl 2 rfl) ?_
  refine lv_aload_n hx hb dL_law_496 rfl (lv_at hl 1 rfl) ?_
  refine lv_iload hx hb dL_law_497 (lv_at hl 0 rfl) ?_
  refine q_iconst hx hb dL_law_499 ?_
  refine q_iadd hx hb dL_law_500 ?_
  refine q_sld hx hb hX hbl hbA hS (i + 1) (by omega) (by omega) hL dL_law_501 ?_
  refine q_is hX1 ?_
  refine lv_aload_n hx hb dL_law_502 rfl (lv_at hl 1 rfl) ?_
  refine lv_iload hx hb dL_law_503 (lv_at hl 0 rfl) ?_
  refine q_iconst hx hb dL_law_505 ?_
  refine q_iadd hx hb dL_law_506 ?_
  refine q_sld hx hb hX hbl hbA hS (i + 2) (by omega) (by omega) hL dL_law_507 ?_
  refine q_is hX2 ?_
  refine lv_aload_n hx hb dL_law_508 rfl (lv_at hl 4 rfl) ?_
  refine q_lawW (nL := 9) (As := [.ref (g 0), .int (iI (d)), .int (iI (w)), .ref out]) (rest := []) (fo := fo) (wr := WMo cI a ta pa th σ T P) ⟨hx, hb, hml, hown, hts⟩ (hMw _) (vx_cwSW 4 hts gL_law_L_date rfl rfl rfl (by decide +kernel) ⟨Nat.le_of_ble_eq_true rfl, Nat.le_of_ble_eq_true rfl⟩) hP hD hS hA hK3 hE hT hN rfl hl.1 rfl (Nat.le_of_ble_eq_true rfl) dL_law_509 (by omega) (by omega) (fun u H locs he hu hP hD hS => ?_) (fun H locs he hP hS => ?_)
  · subst he
    have hLW2 : LW (σ) (T) (P) := hLW
    refine lv_istore (lv' := [(5, .int (iI (0))), (4, .int (iI ((i : Int)))), (0, .ref b), (1, .ref (g 0)), (2, .ref a), (3, .ref out)]) hx hb dL_law_512 hl (by decide) rfl (fun ls hl => ?_)
    refine lv_aload_n hx hb dL_law_514 rfl (lv_at hl 4 rfl) ?_
    refine lv_aload_n hx hb dL_law_515 rfl (lv_at hl 2 rfl) ?_
    refine lv_iload hx hb dL_law_516 (lv_at hl 1 rfl) ?_
    refine q_iconst hx hb dL_law_518 ?_
    refine q_iadd hx hb dL_law_519 ?_
    refine q_sld hx hb hX hbl hbA hS (i + 1) (by omega) (by omega) hL dL_law_520 ?_
    refine q_is hX1 ?_
    refine lv_aload_n hx hb dL_law_521 rfl (lv_at hl 2 rfl) ?_
    refine lv_iload hx hb dL_law_522 (lv_at hl 1 rfl) ?_
    refine q_iconst hx hb dL_law_524 ?_
    refine q_iadd hx hb dL_law_525 ?_
    refine q_sld hx hb hX hbl hbA hS (i + 2) (by omega) (by omega) hL dL_law_526 ?_
    refine q_is hX2 ?_
    refine q_lawU (nL := 9) (As := [.int (iI (d)), .int (iI (w))]) (rest := []) (wr := WC cI cO u (σ) (T) (P) ++ [oc out cL (vp_updL fo 0 (iI (m_dated σ d w)).toInt64)]) ⟨hx, hb, hml, hown, hts⟩ (hMu _) (cwV 2 hts gL_law_X6_date rfl rfl rfl (by decide +kernel) ⟨Nat.le_of_ble_eq_true rfl, Nat.le_of_ble_eq_true rfl⟩) (mo_rec hP hK) rfl rfl hP hD hS hA hK3 rfl hl.1 rfl (Nat.le_of_ble_eq_true rfl) dL_law_527 (by omega) (by omega) (fun r H locs hr hB hS => ?_)
    rcases hB with ⟨h0, hP, hD⟩ | ⟨h0, hP, hD⟩
    case inr => exact absurd rfl h0
    have hr := hr rfl
    subst hr
    refine lv_istore (lv' := [(6, .int (iI (m_dated σ d w))), (5, .int (iI (0))), (4, .int (iI ((i : Int)))), (0, .ref b), (1, .ref (g 0)), (2, .ref a), (3, .ref out)]) hx hb dL_law_530 hl (by decide) rfl (fun ls hl => ?_)
    refine lv_aload_n hx hb dL_law_532 rfl (lv_at hl 5 rfl) ?_
    refine q_callV (fr := 0) (lo := 0) (nL := 9) (Pic := PicM D cI a ta pa (0) (σ) (T) (P)) (As := []) (rest := []) ⟨hx, hb, hml, hown, hts⟩ (c_thrown l D cI cO cL a ta pa (0) (σ) (T) (P) hLW2.1 hLW2.2.1) (cwV 0 hts gL_law_X6_thrown rfl rfl rfl (by decide +kernel) ⟨Nat.le_of_ble_eq_true rfl, Nat.le_of_ble_eq_true rfl⟩) (mo_rec hP hK) (vaP_mems hP (fun q hq => List.mem_append_right _ hq)) hK3 rfl hl.1 rfl (Nat.le_of_ble_eq_true rfl) dL_law_533 (by omega) (by omega) ?_
    refine lv_iload hx hb dL_law_536 (lv_at hl 1 rfl) ?_
    refine q_icmp_eq (tgt := 543) hx hb dL_law_538 (by decide) (by omega) (by omega) (fun c_1 => ?_) (fun c_1 => ?_)
    · skip
      refine lv_iload hx hb dL_law_543 (lv_at hl 1 rfl) ?_
      refine q_if_ne (tgt := 560) hx hb dL_law_545 (by decide) (by omega) (fun c_2 => ?_) (fun c_2 => ?_)
      · exfalso; omega
      · skip
        refine lv_aload_n hx hb dL_law_548 rfl (lv_at hl 6 rfl) ?_
        refine q_iconst hx hb dL_law_549 ?_
        refine q_lald hx hb hK3 hP dL_law_550 ?_
        refine lv_iload hx hb dL_law_551 (lv_at hl 0 rfl) ?_
        refine lv_i2l hx hb dL_law_553 rfl ?_
        refine q_lcmp0 hx hb (by rfl) dL_law_554 ?_
        refine q_if_eq (tgt := 560) hx hb dL_law_555 (by decide) (by omega) (fun c_3 => ?_) (fun c_3 => ?_)
        · skip
          refine lv_goto (tgt := 1638) hx hb dL_law_560 (by decide) ?_
          refine W.widen (k := cells + 3) (n := slots + 26) (by omega) (by omega) ?_
          exact kk _ _ _ ⟨u, _, _, _, _, _, hLW2, hu.1, hu.2.1, hu.2.2, hP, hD⟩ hS (lv_sub hl [2, 3, 4, 5, 6] rfl)
        · exfalso; omega
    · exact absurd rfl c_1
  · skip
    refine lv_istore (lv' := [(5, .int (iI (er))), (4, .int (iI ((i : Int)))), (0, .ref b), (1, .ref (g 0)), (2, .ref a), (3, .ref out)]) hx hb dL_law_512 hl (by decide) rfl (fun ls hl => ?_)
    refine lv_aload_n hx hb dL_law_514 rfl (lv_at hl 4 rfl) ?_
    refine lv_aload_n hx hb dL_law_515 rfl (lv_at hl 2 rfl) ?_
    refine lv_iload hx hb dL_law_516 (lv_at hl 1 rfl) ?_
    refine q_iconst hx hb dL_law_518 ?_
    refine q_iadd hx hb dL_law_519 ?_
    refine q_sld hx hb hX hbl hbA hS (i + 1) (by omega) (by omega) hL dL_law_520 ?_
    refine q_is hX1 ?_
    refine lv_aload_n hx hb dL_law_521 rfl (lv_at hl 2 rfl) ?_
    refine lv_iload hx hb dL_law_522 (lv_at hl 1 rfl) ?_
    refine q_iconst hx hb dL_law_524 ?_
    refine q_iadd hx hb dL_law_525 ?_
    refine q_sld hx hb hX hbl hbA hS (i + 2) (by omega) (by omega) hL dL_law_526 ?_
    refine q_is hX2 ?_
    refine q_lawU (nL := 9) (As := [.int (iI (d)), .int (iI (w))]) (rest := []) (wr := WC cI cO g σ T P ++ [oc out cL fo]) ⟨hx, hb, hml, hown, hts⟩ (hMu _) (cwV 2 hts gL_law_X6_date rfl rfl rfl (by decide +kernel) ⟨Nat.le_of_ble_eq_true rfl, Nat.le_of_ble_eq_true rfl⟩) (mo_rec hP hK) rfl rfl hP hD hS hA hK3 rfl hl.1 rfl (Nat.le_of_ble_eq_true rfl) dL_law_527 (by omega) (by omega) (fun r H locs hr hB hS => ?_)
    rcases hB with ⟨h0, hP, hD⟩ | ⟨h0, hP, hD⟩
    case inl => exact absurd h0 he
    refine lv_istore (lv' := [(6, .int r), (5, .int (iI (er))), (4, .int (iI ((i : Int)))), (0, .ref b), (1, .ref (g 0)), (2, .ref a), (3, .ref out)]) hx hb dL_law_530 hl (by decide) rfl (fun ls hl => ?_)
    refine lv_aload_n hx hb dL_law_532 rfl (lv_at hl 5 rfl) ?_
    refine q_callV (fr := 0) (lo := 0) (nL := 9) (Pic := PicM D cI a ta pa (er) (σ) (T) (P)) (As := []) (rest := []) ⟨hx, hb, hml, hown, hts⟩ (c_thrown l D cI cO cL a ta pa (er) (σ) (T) (P) hLW.1 hLW.2.1) (cwV 0 hts gL_law_X6_thrown rfl rfl rfl (by decide +kernel) ⟨Nat.le_of_ble_eq_true rfl, Nat.le_of_ble_eq_true rfl⟩) (mo_rec hP hK) (vaP_mems hP (fun q hq => List.mem_append_right _ hq)) hK3 rfl hl.1 rfl (Nat.le_of_ble_eq_true rfl) dL_law_533 (by omega) (by omega) ?_
    refine lv_iload hx hb dL_law_536 (lv_at hl 1 rfl) ?_
    refine q_icmp_eq (tgt := 543) hx hb dL_law_538 (by decide) (by omega) (by omega) (fun c_4 => ?_) (fun c_4 => ?_)
    · skip
      refine lv_iload hx hb dL_law_543 (lv_at hl 1 rfl) ?_
      refine q_if_ne (tgt := 560) hx hb dL_law_545 (by decide) (by omega) (fun c_5 => ?_) (fun c_5 => ?_)
      · skip
        refine lv_goto (tgt := 1638) hx hb dL_law_560 (by decide) ?_
        refine W.widen (k := cells + 3) (n := slots + 26) (by omega) (by omega) ?_
        exact kk _ _ _ ⟨g, σ, T, P, _, _, hLW, rfl, he6, he7, hP, hD⟩ hS (lv_sub hl [2, 3, 4, 5, 6] rfl)
      · exfalso; omega
    · exact absurd rfl c_4
