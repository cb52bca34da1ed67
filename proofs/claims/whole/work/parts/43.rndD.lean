/-! ===== the rounds of the law ===== -/
set_option maxHeartbeats 4000000 in
set_option maxRecDepth 100000 in
theorem r_reprint {p : Program} {l : Launch} {e : Env} {s : State} {m : MethodId} {args : Array Value} {below : List Frame} {meth : Method} {c : Code} {Q : State → Prop} {A0 : Nat → Prop} {D : va_G} {cI cO cL cB : ClassId} {ed : Nat × Nat × Nat} {out g0 a ta pa b L : Nat} {xs : Nat → Int32} (C0 : LC p l s m args c A0 D cI cO cL cB ed b L xs) {cells slots : Nat} (hc : cells + 3 ≤ room_1.cells) (hs : slots + 26 ≤ room_1.slots) {i : Nat} (hi : i + 6 ≤ L) {H : Heap} {locs : List Loc} {ls : Array Slot} (hI : IV D cI cO cL A0 ed out g0 a ta pa H) (hS : va_S A0 s.heap H locs) (hl : lv_has ls 9 [(4, .int (iI (i : Int))), (0, .ref b), (1, .ref g0), (2, .ref a), (3, .ref out)]) (kk : ∀ (H : Heap) (locs : List Loc) (ls : Array Slot), IV D cI cO cL A0 ed out g0 a ta pa H → va_S A0 s.heap H locs → lv_has ls 9 [(4, .int (iI (i : Int))), (0, .ref b), (1, .ref g0), (2, .ref a), (3, .ref out)] → W p l e room_1 s m args below meth c H locs (cells + 3) (slots + 26) Q (F0 m 1638 ls [])) : W p l e room_1 s m args below meth c H locs cells slots Q (F0 m 1279 ls []) := by
  obtain ⟨hst0, hx, hb, hml, hown, hts, hX, hbl, hbA, hL, hA, hK, hE, hT, hN⟩ := C0
  obtain ⟨g, σ, T, P, fo, th, hLW, hg0, he6, he7, hP, hD⟩ := hI
  subst hg0
  obtain ⟨hW, hS0, hp0⟩ := id hLW
  obtain ⟨w0, w1, w2, w3, w4, w5, w6, w7, w8⟩ := id hW
  have hK3 : va_K D vwCl (ty3 cI cO cL) s := hK.sub [0, 1, 2] rfl
  obtain ⟨j, hjr, hX1⟩ : ∃ z : Int, (-2147483648 ≤ z ∧ z < 2147483648) ∧ (xs (i + 1)).toInt = z := ⟨_, I_rng _, rfl⟩
  obtain ⟨er, hev⟩ : ∃ er : Int, (if 0 ≤ j ∧ j < σ 7 then 0 else 1) = er := ⟨_, rfl⟩
  have her : 0 ≤ er ∧ er ≤ 2 := by rw [← hev]; (repeat' split) <;> omega
  have hMw := fun sz => w_reprint l hst0 D sz out ed cI cO cL g σ T P fo hW hS0 he6 he7 j hjr
  have hMu := fun sz => u_reprint l D sz cI cO cL a ta pa th σ T P hW hS0 j hjr
  rw [hev] at hMw hMu
  refine lv_aload_n hx hb dL_law_1279 rfl (lv_at hl 2 rfl) ?_
  refine lv_aload_n hx hb dL_law_1280 rfl (lv_at hl 1 rfl) ?_
  refine lv_iload hx hb dL_law_1281 (lv_at hl 0 rfl) ?_
  refine q_iconst hx hb dL_law_1283 ?_
  refine q_iadd hx hb dL_law_1284 ?_
  refine q_sld hx hb hX hbl hbA hS (i + 1) (by omega) (by omega) hL dL_law_1285 ?_
  refine q_is hX1 ?_
  refine lv_aload_n hx hb dL_law_1286 rfl (lv_at hl 4 rfl) ?_
  refine q_lawW (nL := 9) (As := [.ref (g 0), .int (iI (j)), .ref out]) (rest := []) (fo := fo) (wr := WMo cI a ta pa th σ T P) ⟨hx, hb, hml, hown, hts⟩ (hMw _) (vx_cwSW 3 hts gL_law_L_reprint rfl rfl rfl (by decide +kernel) ⟨Nat.le_of_ble_eq_true rfl, Nat.le_of_ble_eq_true rfl⟩) hP hD hS hA hK3 hE hT hN rfl hl.1 rfl (Nat.le_of_ble_eq_true rfl) dL_law_1287 (by omega) (by omega) (fun u H locs he hu hP hD hS => ?_) (fun H locs he hP hS => ?_)
  · subst he
    have hq : 0 ≤ j ∧ j < σ 7 := by (repeat' split at hev) <;> omega
    have hLW2 : LW (σ) (T) (m_fl σ T P (11 * j.toNat) (P (11 * j.toNat)) (σ 6).toNat) := LW_reprint hLW (by omega)
    refine lv_istore (lv' := [(5, .int (iI (0))), (4, .int (iI ((i : Int)))), (0, .ref b), (1, .ref (g 0)), (2, .ref a), (3, .ref out)]) hx hb dL_law_1290 hl (by decide) rfl (fun ls hl => ?_)
    refine lv_aload_n hx hb dL_law_1292 rfl (lv_at hl 4 rfl) ?_
    refine lv_aload_n hx hb dL_law_1293 rfl (lv_at hl 2 rfl) ?_
    refine lv_iload hx hb dL_law_1294 (lv_at hl 1 rfl) ?_
    refine q_iconst hx hb dL_law_1296 ?_
    refine q_iadd hx hb dL_law_1297 ?_
    refine q_sld hx hb hX hbl hbA hS (i + 1) (by omega) (by omega) hL dL_law_1298 ?_
    refine q_is hX1 ?_
    refine q_lawU (nL := 9) (As := [.int (iI (j))]) (rest := []) (wr := WC cI cO u (σ) (T) (m_fl σ T P (11 * j.toNat) (P (11 * j.toNat)) (σ 6).toNat) ++ [oc out cL (vp_updL fo 0 (iI (m_chg (fun i => m_F σ T i (P (11 * j.toNat))) (fun i => P (11 * j.toNat + 3 + i)) (P (11 * j.toNat + 1)).toNat)).toInt64)]) ⟨hx, hb, hml, hown, hts⟩ (hMu _) (cwV 1 hts gL_law_X6_reprint rfl rfl rfl (by decide +kernel) ⟨Nat.le_of_ble_eq_true rfl, Nat.le_of_ble_eq_true rfl⟩) (mo_rec hP hK) rfl rfl hP hD hS hA hK3 rfl hl.1 rfl (Nat.le_of_ble_eq_true rfl) dL_law_1299 (by omega) (by omega) (fun r H locs hr hB hS => ?_)
    rcases hB with ⟨h0, hP, hD⟩ | ⟨h0, hP, hD⟩
    case inr => exact absurd rfl h0
    have hr := hr rfl
    subst hr
    refine lv_istore (lv' := [(6, .int (iI (m_chg (fun i => m_F σ T i (P (11 * j.toNat))) (fun i => P (11 * j.toNat + 3 + i)) (P (11 * j.toNat + 1)).toNat))), (5, .int (iI (0))), (4, .int (iI ((i : Int)))), (0, .ref b), (1, .ref (g 0)), (2, .ref a), (3, .ref out)]) hx hb dL_law_1302 hl (by decide) rfl (fun ls hl => ?_)
    refine lv_aload_n hx hb dL_law_1304 rfl (lv_at hl 5 rfl) ?_
    refine q_callV (fr := 0) (lo := 0) (nL := 9) (Pic := PicM D cI a ta pa (0) (σ) (T) (m_fl σ T P (11 * j.toNat) (P (11 * j.toNat)) (σ 6).toNat)) (As := []) (rest := []) ⟨hx, hb, hml, hown, hts⟩ (c_thrown l D cI cO cL a ta pa (0) (σ) (T) (m_fl σ T P (11 * j.toNat) (P (11 * j.toNat)) (σ 6).toNat) hLW2.1 hLW2.2.1) (cwV 0 hts gL_law_X6_thrown rfl rfl rfl (by decide +kernel) ⟨Nat.le_of_ble_eq_true rfl, Nat.le_of_ble_eq_true rfl⟩) (mo_rec hP hK) (vaP_mems hP (fun q hq => List.mem_append_right _ hq)) hK3 rfl hl.1 rfl (Nat.le_of_ble_eq_true rfl) dL_law_1305 (by omega) (by omega) ?_
    refine lv_iload hx hb dL_law_1308 (lv_at hl 1 rfl) ?_
    refine q_icmp_eq (tgt := 1315) hx hb dL_law_1310 (by decide) (by omega) (by omega) (fun c_1 => ?_) (fun c_1 => ?_)
    · skip
      refine lv_iload hx hb dL_law_1315 (lv_at hl 1 rfl) ?_
      refine q_if_ne (tgt := 1332) hx hb dL_law_1317 (by decide) (by omega) (fun c_2 => ?_) (fun c_2 => ?_)
      · exfalso; omega
      · skip
        refine lv_aload_n hx hb dL_law_1320 rfl (lv_at hl 6 rfl) ?_
        refine q_iconst hx hb dL_law_1321 ?_
        refine q_lald hx hb hK3 hP dL_law_1322 ?_
        refine lv_iload hx hb dL_law_1323 (lv_at hl 0 rfl) ?_
        refine lv_i2l hx hb dL_law_1325 rfl ?_
        refine q_lcmp0 hx hb (by rfl) dL_law_1326 ?_
        refine q_if_eq (tgt := 1332) hx hb dL_law_1327 (by decide) (by omega) (fun c_3 => ?_) (fun c_3 => ?_)
        · skip
          refine lv_goto (tgt := 1638) hx hb dL_law_1332 (by decide) ?_
          refine W.widen (k := cells + 3) (n := slots + 26) (by omega) (by omega) ?_
          exact kk _ _ _ ⟨u, _, _, _, _, _, hLW2, hu.1, hu.2.1, hu.2.2, hP, hD⟩ hS (lv_sub hl [2, 3, 4, 5, 6] rfl)
        · exfalso; omega
    · exact absurd rfl c_1
  · skip
    refine lv_istore (lv' := [(5, .int (iI (er))), (4, .int (iI ((i : Int)))), (0, .ref b), (1, .ref (g 0)), (2, .ref a), (3, .ref out)]) hx hb dL_law_1290 hl (by decide) rfl (fun ls hl => ?_)
    refine lv_aload_n hx hb dL_law_1292 rfl (lv_at hl 4 rfl) ?_
    refine lv_aload_n hx hb dL_law_1293 rfl (lv_at hl 2 rfl) ?_
    refine lv_iload hx hb dL_law_1294 (lv_at hl 1 rfl) ?_
    refine q_iconst hx hb dL_law_1296 ?_
    refine q_iadd hx hb dL_law_1297 ?_
    refine q_sld hx hb hX hbl hbA hS (i + 1) (by omega) (by omega) hL dL_law_1298 ?_
    refine q_is hX1 ?_
    refine q_lawU (nL := 9) (As := [.int (iI (j))]) (rest := []) (wr := WC cI cO g σ T P ++ [oc out cL fo]) ⟨hx, hb, hml, hown, hts⟩ (hMu _) (cwV 1 hts gL_law_X6_reprint rfl rfl rfl (by decide +kernel) ⟨Nat.le_of_ble_eq_true rfl, Nat.le_of_ble_eq_true rfl⟩) (mo_rec hP hK) rfl rfl hP hD hS hA hK3 rfl hl.1 rfl (Nat.le_of_ble_eq_true rfl) dL_law_1299 (by omega) (by omega) (fun r H locs hr hB hS => ?_)
    rcases hB with ⟨h0, hP, hD⟩ | ⟨h0, hP, hD⟩
    case inl => exact absurd h0 he
    refine lv_istore (lv' := [(6, .int r), (5, .int (iI (er))), (4, .int (iI ((i : Int)))), (0, .ref b), (1, .ref (g 0)), (2, .ref a), (3, .ref out)]) hx hb dL_law_1302 hl (by decide) rfl (fun ls hl => ?_)
    refine lv_aload_n hx hb dL_law_1304 rfl (lv_at hl 5 rfl) ?_
    refine q_callV (fr := 0) (lo := 0) (nL := 9) (Pic := PicM D cI a ta pa (er) (σ) (T) (P)) (As := []) (rest := []) ⟨hx, hb, hml, hown, hts⟩ (c_thrown l D cI cO cL a ta pa (er) (σ) (T) (P) hLW.1 hLW.2.1) (cwV 0 hts gL_law_X6_thrown rfl rfl rfl (by decide +kernel) ⟨Nat.le_of_ble_eq_true rfl, Nat.le_of_ble_eq_true rfl⟩) (mo_rec hP hK) (vaP_mems hP (fun q hq => List.mem_append_right _ hq)) hK3 rfl hl.1 rfl (Nat.le_of_ble_eq_true rfl) dL_law_1305 (by omega) (by omega) ?_
    refine lv_iload hx hb dL_law_1308 (lv_at hl 1 rfl) ?_
    refine q_icmp_eq (tgt := 1315) hx hb dL_law_1310 (by decide) (by omega) (by omega) (fun c_4 => ?_) (fun c_4 => ?_)
    · skip
      refine lv_iload hx hb dL_law_1315 (lv_at hl 1 rfl) ?_
      refine q_if_ne (tgt := 1332) hx hb dL_law_1317 (by decide) (by omega) (fun c_5 => ?_) (fun c_5 => ?_)
      · skip
        refine lv_goto (tgt := 1638) hx hb dL_law_1332 (by decide) ?_
        refine W.widen (k := cells + 3) (n := slots + 26) (by omega) (by omega) ?_
        exact kk _ _ _ ⟨g, σ, T, P, _, _, hLW, rfl, he6, he7, hP, hD⟩ hS (lv_sub hl [2, 3, 4, 5, 6] rfl)
      · exfalso; omega
    · exact absurd rfl c_4
set_option maxHeartbeats 4000000 in
set_option maxRecDepth 100000 in
theorem r_sheet {p : Program} {l : Launch} {e : Env} {s : State} {m : MethodId} {args : Array Value} {below : List Frame} {meth : Method} {c : Code} {Q : State → Prop} {A0 : Nat → Prop} {D : va_G} {cI cO cL cB : ClassId} {ed : Nat × Nat × Nat} {out g0 a ta pa b L : Nat} {xs : Nat → Int32} (C0 : LC p l s m args c A0 D cI cO cL cB ed b L xs) {cells slots : Nat} (hc : cells + 3 ≤ room_1.cells) (hs : slots + 26 ≤ room_1.slots) {i : Nat} (hi : i + 6 ≤ L) {H : Heap} {locs : List Loc} {ls : Array Slot} (hI : IV D cI cO cL A0 ed out g0 a ta pa H) (hS : va_S A0 s.heap H locs) (hl : lv_has ls 9 [(4, .int (iI (i : Int))), (0, .ref b), (1, .ref g0), (2, .ref a), (3, .ref out)]) (kk : ∀ (H : Heap) (locs : List Loc) (ls : Array Slot), IV D cI cO cL A0 ed out g0 a ta pa H → va_S A0 s.heap H locs → lv_has ls 9 [(4, .int (iI (i : Int))), (0, .ref b), (1, .ref g0), (2, .ref a), (3, .ref out)] → W p l e room_1 s m args below meth c H locs (cells + 3) (slots + 26) Q (F0 m 1638 ls [])) : W p l e room_1 s m args below meth c H locs cells slots Q (F0 m 1335 ls []) := by
  obtain ⟨hst0, hx, hb, hml, hown, hts, hX, hbl, hbA, hL, hA, hK, hE, hT, hN⟩ := C0
  obtain ⟨g, σ, T, P, fo, th, hLW, hg0, he6, he7, hP, hD⟩ := hI
  subst hg0
  obtain ⟨hW, hS0, hp0⟩ := id hLW
  obtain ⟨w0, w1, w2, w3, w4, w5, w6, w7, w8⟩ := id hW
  have hK3 : va_K D vwCl (ty3 cI cO cL) s := hK.sub [0, 1, 2] rfl
  obtain ⟨j, hjr, hX1⟩ : ∃ z : Int, (-2147483648 ≤ z ∧ z < 2147483648) ∧ (xs (i + 1)).toInt = z := ⟨_, I_rng _, rfl⟩
  obtain ⟨w, hwr, hX2⟩ : ∃ z : Int, (-2147483648 ≤ z ∧ z < 2147483648) ∧ (xs (i + 2)).toInt = z := ⟨_, I_rng _, rfl⟩
  obtain ⟨er, hev⟩ : ∃ er : Int, (if (0 ≤ j ∧ j < σ 7) ∧ (0 ≤ w ∧ w ≤ 4) then 0 else 1) = er := ⟨_, rfl⟩
  have her : 0 ≤ er ∧ er ≤ 2 := by rw [← hev]; (repeat' split) <;> omega
  have hMw := fun sz => w_sheet l hst0 D sz out ed cI cO cL g σ T P fo hW hS0 he6 he7 j w hjr hwr
  have hMu := fun sz => u_sheet l D sz cI cO cL a ta pa th σ T P hW hS0 j w hjr hwr
  rw [hev] at hMw hMu
  refine lv_aload_n hx hb dL_law_1335 rfl (lv_at hl 2 rfl) ?_
  refine lv_aload_n hx hb dL_law_1336 rfl (lv_at hl 1 rfl) ?_
  refine lv_iload hx hb dL_law_1337 (lv_at hl 0 rfl) ?_
  refine q_iconst hx hb dL_law_1339 ?_
  refine q_iadd hx hb dL_law_1340 ?_
  refine q_sld hx hb hX hbl hbA hS (i + 1) (by omega) (by omega) hL dL_law_1341 ?_
  refine q_is hX1 ?_
  refine lv_aload_n hx hb dL_law_1342 rfl (lv_at hl 1 rfl) ?_
  refine lv_iload hx hb dL_law_1343 (lv_at hl 0 rfl) ?_
  refine q_iconst hx hb dL_law_1345 ?_
  refine q_iadd hx hb dL_law_1346 ?_
  refine q_sld hx hb hX hbl hbA hS (i + 2) (by omega) (by omega) hL dL_law_1347 ?_
  refine q_is hX2 ?_
  refine lv_aload_n hx hb dL_law_1348 rfl (lv_at hl 4 rfl) ?_
  refine q_lawW (nL := 9) (As := [.ref (g 0), .int (iI (j)), .int (iI (w)), .ref out]) (rest := []) (fo := fo) (wr := WMo cI a ta pa th σ T P) ⟨hx, hb, hml, hown, hts⟩ (hMw _) (vx_cwSW 4 hts gL_law_L_sheet rfl rfl rfl (by decide +kernel) ⟨Nat.le_of_ble_eq_true rfl, Nat.le_of_ble_eq_true rfl⟩) hP hD hS hA hK3 hE hT hN rfl hl.1 rfl (Nat.le_of_ble_eq_true rfl) dL_law_1349 (by omega) (by omega) (fun u H locs he hu hP hD hS => ?_) (fun H locs he hP hS => ?_)
  · subst he
    have hLW2 : LW (σ) (T) (P) := hLW
    refine lv_istore (lv' := [(5, .int (iI (0))), (4, .int (iI ((i : Int)))), (0, .ref b), (1, .ref (g 0)), (2, .ref a), (3, .ref out)]) hx hb dL_law_1352 hl (by decide) rfl (fun ls hl => ?_)
    refine lv_aload_n hx hb dL_law_1354 rfl (lv_at hl 4 rfl) ?_
    refine lv_aload_n hx hb dL_law_1355 rfl (lv_at hl 2 rfl) ?_
    refine lv_iload hx hb dL_law_1356 (lv_at hl 1 rfl) ?_
    refine q_iconst hx hb dL_law_1358 ?_
    refine q_iadd hx hb dL_law_1359 ?_
    refine q_sld hx hb hX hbl hbA hS (i + 1) (by omega) (by omega) hL dL_law_1360 ?_
    refine q_is hX1 ?_
    refine lv_aload_n hx hb dL_law_1361 rfl (lv_at hl 2 rfl) ?_
    refine lv_iload hx hb dL_law_1362 (lv_at hl 1 rfl) ?_
    refine q_iconst hx hb dL_law_1364 ?_
    refine q_iadd hx hb dL_law_1365 ?_
    refine q_sld hx hb hX hbl hbA hS (i + 2) (by omega) (by omega) hL dL_law_1366 ?_
    refine q_is hX2 ?_
    refine q_lawU (nL := 9) (As := [.int (iI (j)), .int (iI (w))]) (rest := []) (wr := WC cI cO u (σ) (T) (P) ++ [oc out cL (vp_updL fo 0 (iI (m_told σ T P j.toNat w)).toInt64)]) ⟨hx, hb, hml, hown, hts⟩ (hMu _) (cwV 2 hts gL_law_X6_sheet rfl rfl rfl (by decide +kernel) ⟨Nat.le_of_ble_eq_true rfl, Nat.le_of_ble_eq_true rfl⟩) (mo_rec hP hK) rfl rfl hP hD hS hA hK3 rfl hl.1 rfl (Nat.le_of_ble_eq_true rfl) dL_law_1367 (by omega) (by omega) (fun r H locs hr hB hS => ?_)
    rcases hB with ⟨h0, hP, hD⟩ | ⟨h0, hP, hD⟩
    case inr => exact absurd rfl h0
    have hr := hr rfl
    subst hr
    refine lv_istore (lv' := [(6, .int (iI (m_told σ T P j.toNat w))), (5, .int (iI (0))), (4, .int (iI ((i : Int)))), (0, .ref b), (1, .ref (g 0)), (2, .ref a), (3, .ref out)]) hx hb dL_law_1370 hl (by decide) rfl (fun ls hl => ?_)
    refine lv_aload_n hx hb dL_law_1372 rfl (lv_at hl 5 rfl) ?_
    refine q_callV (fr := 0) (lo := 0) (nL := 9) (Pic := PicM D cI a ta pa (0) (σ) (T) (P)) (As := []) (rest := []) ⟨hx, hb, hml, hown, hts⟩ (c_thrown l D cI cO cL a ta pa (0) (σ) (T) (P) hLW2.1 hLW2.2.1) (cwV 0 hts gL_law_X6_thrown rfl rfl rfl (by decide +kernel) ⟨Nat.le_of_ble_eq_true rfl, Nat.le_of_ble_eq_true rfl⟩) (mo_rec hP hK) (vaP_mems hP (fun q hq => List.mem_append_right _ hq)) hK3 rfl hl.1 rfl (Nat.le_of_ble_eq_true rfl) dL_law_1373 (by omega) (by omega) ?_
    refine lv_iload hx hb dL_law_1376 (lv_at hl 1 rfl) ?_
    refine q_icmp_eq (tgt := 1383) hx hb dL_law_1378 (by decide) (by omega) (by omega) (fun c_1 => ?_) (fun c_1 => ?_)
    · skip
      refine lv_iload hx hb dL_law_1383 (lv_at hl 1 rfl) ?_
      refine q_if_ne (tgt := 1400) hx hb dL_law_1385 (by decide) (by omega) (fun c_2 => ?_) (fun c_2 => ?_)
      · exfalso; omega
      · skip
        refine lv_aload_n hx hb dL_law_1388 rfl (lv_at hl 6 rfl) ?_
        refine q_iconst hx hb dL_law_1389 ?_
        refine q_lald hx hb hK3 hP dL_law_1390 ?_
        refine lv_iload hx hb dL_law_1391 (lv_at hl 0 rfl) ?_
        refine lv_i2l hx hb dL_law_1393 rfl ?_
        refine q_lcmp0 hx hb (by rfl) dL_law_1394 ?_
        refine q_if_eq (tgt := 1400) hx hb dL_law_1395 (by decide) (by omega) (fun c_3 => ?_) (fun c_3 => ?_)
        · skip
          refine lv_goto (tgt := 1638) hx hb dL_law_1400 (by decide) ?_
          refine W.widen (k := cells + 3) (n := slots + 26) (by omega) (by omega) ?_
          exact kk _ _ _ ⟨u, _, _, _, _, _, hLW2, hu.1, hu.2.1, hu.2.2, hP, hD⟩ hS (lv_sub hl [2, 3, 4, 5, 6] rfl)
        · exfalso; omega
    · exact absurd rfl c_1
  · skip
    refine lv_istore (lv' := [(5, .int (iI (er))), (4, .int (iI ((i : Int)))), (0, .ref b), (1, .ref (g 0)), (2, .ref a), (3, .ref out)]) hx hb dL_law_1352 hl (by decide) rfl (fun ls hl => ?_)
    refine lv_aload_n hx hb dL_law_1354 rfl (lv_at hl 4 rfl) ?_
    refine lv_aload_n hx hb dL_law_1355 rfl (lv_at hl 2 rfl) ?_
    refine lv_iload hx hb dL_law_1356 (lv_at hl 1 rfl) ?_
    refine q_iconst hx hb dL_law_1358 ?_
    refine q_iadd hx hb dL_law_1359 ?_
    refine q_sld hx hb hX hbl hbA hS (i + 1) (by omega) (by omega) hL dL_law_1360 ?_
    refine q_is hX1 ?_
    refine lv_aload_n hx hb dL_law_1361 rfl (lv_at hl 2 rfl) ?_
    refine lv_iload hx hb dL_law_1362 (lv_at hl 1 rfl) ?_
    refine q_iconst hx hb dL_law_1364 ?_
    refine q_iadd hx hb dL_law_1365 ?_
    refine q_sld hx hb hX hbl hbA hS (i + 2) (by omega) (by omega) hL dL_law_1366 ?_
    refine q_is hX2 ?_
    refine q_lawU (nL := 9) (As := [.int (iI (j)), .int (iI (w))]) (rest := []) (wr := WC cI cO g σ T P ++ [oc out cL fo]) ⟨hx, hb, hml, hown, hts⟩ (hMu _) (cwV 2 hts gL_law_X6_sheet rfl rfl rfl (by decide +kernel) ⟨Nat.le_of_ble_eq_true rfl, Nat.le_of_ble_eq_true rfl⟩) (mo_rec hP hK) rfl rfl hP hD hS hA hK3 rfl hl.1 rfl (Nat.le_of_ble_eq_true rfl) dL_law_1367 (by omega) (by omega) (fun r H locs hr hB hS => ?_)
    rcases hB with ⟨h0, hP, hD⟩ | ⟨h0, hP, hD⟩
    case inl => exact absurd h0 he
    refine lv_istore (lv' := [(6, .int r), (5, .int (iI (er))), (4, .int (iI ((i : Int)))), (0, .ref b), (1, .ref (g 0)), (2, .ref a), (3, .ref out)]) hx hb dL_law_1370 hl (by decide) rfl (fun ls hl => ?_)
    refine lv_aload_n hx hb dL_law_1372 rfl (lv_at hl 5 rfl) ?_
    refine q_callV (fr := 0) (lo := 0) (nL := 9) (Pic := PicM D cI a ta pa (er) (σ) (T) (P)) (As := []) (rest := []) ⟨hx, hb, hml, hown, hts⟩ (c_thrown l D cI cO cL a ta pa (er) (σ) (T) (P) hLW.1 hLW.2.1) (cwV 0 hts gL_law_X6_thrown rfl rfl rfl (by decide +kernel) ⟨Nat.le_of_ble_eq_true rfl, Nat.le_of_ble_eq_true rfl⟩) (mo_rec hP hK) (vaP_mems hP (fun q hq => List.mem_append_right _ hq)) hK3 rfl hl.1 rfl (Nat.le_of_ble_eq_true rfl) dL_law_1373 (by omega) (by omega) ?_
    refine lv_iload hx hb dL_law_1376 (lv_at hl 1 rfl) ?_
    refine q_icmp_eq (tgt := 1383) hx hb dL_law_1378 (by decide) (by omega) (by omega) (fun c_4 => ?_) (fun c_4 => ?_)
    · skip
      refine lv_iload hx hb dL_law_1383 (lv_at hl 1 rfl) ?_
      refine q_if_ne (tgt := 1400) hx hb dL_law_1385 (by decide) (by omega) (fun c_5 => ?_) (fun c_5 => ?_)
      · skip
        refine lv_goto (tgt := 1638) hx hb dL_law_1400 (by decide) ?_
        refine W.widen (k := cells + 3) (n := slots + 26) (by omega) (by omega) ?_
        exact kk _ _ _ ⟨g, σ, T, P, _, _, hLW, rfl, he6, he7, hP, hD⟩ hS (lv_sub hl [2, 3, 4, 5, 6] rfl)
      · exfalso; omega
    · exact absurd rfl c_4
set_option maxHeartbeats 4000000 in
set_option maxRecDepth 100000 in
theorem r_printed {p : Program} {l : Launch} {e : Env} {s : State} {m : MethodId} {args : Array Value} {below : List Frame} {meth : Method} {c : Code} {Q : State → Prop} {A0 : Nat → Prop} {D : va_G} {cI cO cL cB : ClassId} {ed : Nat × Nat × Nat} {out g0 a ta pa b L : Nat} {xs : Nat → Int32} (C0 : LC p l s m args c A0 D cI cO cL cB ed b L xs) {cells slots : Nat} (hc : cells + 3 ≤ room_1.cells) (hs : slots + 26 ≤ room_1.slots) {i : Nat} (hi : i + 6 ≤ L) {H : Heap} {locs : List Loc} {ls : Array Slot} (hI : IV D cI cO cL A0 ed out g0 a ta pa H) (hS : va_S A0 s.heap H locs) (hl : lv_has ls 9 [(4, .int (iI (i : Int))), (0, .ref b), (1, .ref g0), (2, .ref a), (3, .ref out)]) (kk : ∀ (H : Heap) (locs : List Loc) (ls : Array Slot), IV D cI cO cL A0 ed out g0 a ta pa H → va_S A0 s.heap H locs → lv_has ls 9 [(4, .int (iI (i : Int))), (0, .ref b), (1, .ref g0), (2, .ref a), (3, .ref out)] → W p l e room_1 s m args below meth c H locs (cells + 3) (slots + 26) Q (F0 m 1638 ls [])) : W p l e room_1 s m args below meth c H locs cells slots Q (F0 m 1403 ls []) := by
  obtain ⟨hst0, hx, hb, hml, hown, hts, hX, hbl, hbA, hL, hA, hK, hE, hT, hN⟩ := C0
  obtain ⟨g, σ, T, P, fo, th, hLW, hg0, he6, he7, hP, hD⟩ := hI
  subst hg0
  obtain ⟨hW, hS0, hp0⟩ := id hLW
  obtain ⟨w0, w1, w2, w3, w4, w5, w6, w7, w8⟩ := id hW
  have hK3 : va_K D vwCl (ty3 cI cO cL) s := hK.sub [0, 1, 2] rfl
  obtain ⟨j, hjr, hX1⟩ : ∃ z : Int, (-2147483648 ≤ z ∧ z < 2147483648) ∧ (xs (i + 1)).toInt = z := ⟨_, I_rng _, rfl⟩
  obtain ⟨f, hfr, hX2⟩ : ∃ z : Int, (-2147483648 ≤ z ∧ z < 2147483648) ∧ (xs (i + 2)).toInt = z := ⟨_, I_rng _, rfl⟩
  obtain ⟨er, hev⟩ : ∃ er : Int, (if (0 ≤ j ∧ j < σ 7) ∧ (0 ≤ f ∧ f < P (11 * j.toNat + 1)) then 0 else 1) = er := ⟨_, rfl⟩
  have her : 0 ≤ er ∧ er ≤ 2 := by rw [← hev]; (repeat' split) <;> omega
  have hMw := fun sz => w_printed l hst0 D sz out ed cI cO cL g σ T P fo hW hS0 he6 he7 j f hjr hfr
  have hMu := fun sz => u_printed l D sz cI cO cL a ta pa th σ T P hW hS0 j f hjr hfr
  rw [hev] at hMw hMu
  refine lv_aload_n hx hb dL_law_1403 rfl (lv_at hl 2 rfl) ?_
  refine lv_aload_n hx hb dL_law_1404 rfl (lv_at hl 1 rfl) ?_
  refine lv_iload hx hb dL_law_1405 (lv_at hl 0 rfl) ?_
  refine q_iconst hx hb dL_law_1407 ?_
  refine q_iadd hx hb dL_law_1408 ?_
  refine q_sld hx hb hX hbl hbA hS (i + 1) (by omega) (by omega) hL dL_law_1409 ?_
  refine q_is hX1 ?_
  refine lv_aload_n hx hb dL_law_1410 rfl (lv_at hl 1 rfl) ?_
  refine lv_iload hx hb dL_law_1411 (lv_at hl 0 rfl) ?_
  refine q_iconst hx hb dL_law_1413 ?_
  refine q_iadd hx hb dL_law_1414 ?_
  refine q_sld hx hb hX hbl hbA hS (i + 2) (by omega) (by omega) hL dL_law_1415 ?_
  refine q_is hX2 ?_
  refine lv_aload_n hx hb dL_law_1416 rfl (lv_at hl 4 rfl) ?_
  refine q_lawW (nL := 9) (As := [.ref (g 0), .int (iI (j)), .int (iI (f)), .ref out]) (rest := []) (fo := fo) (wr := WMo cI a ta pa th σ T P) ⟨hx, hb, hml, hown, hts⟩ (hMw _) (vx_cwSW 4 hts gL_law_L_printed rfl rfl rfl (by decide +kernel) ⟨Nat.le_of_ble_eq_true rfl, Nat.le_of_ble_eq_true rfl⟩) hP hD hS hA hK3 hE hT hN rfl hl.1 rfl (Nat.le_of_ble_eq_true rfl) dL_law_1417 (by omega) (by omega) (fun u H locs he hu hP hD hS => ?_) (fun H locs he hP hS => ?_)
  · subst he
    have hLW2 : LW (σ) (T) (P) := hLW
    refine lv_istore (lv' := [(5, .int (iI (0))), (4, .int (iI ((i : Int)))), (0, .ref b), (1, .ref (g 0)), (2, .ref a), (3, .ref out)]) hx hb dL_law_1420 hl (by decide) rfl (fun ls hl => ?_)
    refine lv_aload_n hx hb dL_law_1422 rfl (lv_at hl 4 rfl) ?_
    refine lv_aload_n hx hb dL_law_1423 rfl (lv_at hl 2 rfl) ?_
    refine lv_iload hx hb dL_law_1424 (lv_at hl 1 rfl) ?_
    refine q_iconst hx hb dL_law_1426 ?_
    refine q_iadd hx hb dL_law_1427 ?_
    refine q_sld hx hb hX hbl hbA hS (i + 1) (by omega) (by omega) hL dL_law_1428 ?_
    refine q_is hX1 ?_
    refine lv_aload_n hx hb dL_law_1429 rfl (lv_at hl 2 rfl) ?_
    refine lv_iload hx hb dL_law_1430 (lv_at hl 1 rfl) ?_
    refine q_iconst hx hb dL_law_1432 ?_
    refine q_iadd hx hb dL_law_1433 ?_
    refine q_sld hx hb hX hbl hbA hS (i + 2) (by omega) (by omega) hL dL_law_1434 ?_
    refine q_is hX2 ?_
    refine q_lawU (nL := 9) (As := [.int (iI (j)), .int (iI (f))]) (rest := []) (wr := WC cI cO u (σ) (T) (P) ++ [oc out cL (vp_updL fo 0 (iI (P (11 * j.toNat + 3 + f.toNat))).toInt64)]) ⟨hx, hb, hml, hown, hts⟩ (hMu _) (cwV 2 hts gL_law_X6_printed rfl rfl rfl (by decide +kernel) ⟨Nat.le_of_ble_eq_true rfl, Nat.le_of_ble_eq_true rfl⟩) (mo_rec hP hK) rfl rfl hP hD hS hA hK3 rfl hl.1 rfl (Nat.le_of_ble_eq_true rfl) dL_law_1435 (by omega) (by omega) (fun r H locs hr hB hS => ?_)
    rcases hB with ⟨h0, hP, hD⟩ | ⟨h0, hP, hD⟩
    case inr => exact absurd rfl h0
    have hr := hr rfl
    subst hr
    refine lv_istore (lv' := [(6, .int (iI (P (11 * j.toNat + 3 + f.toNat)))), (5, .int (iI (0))), (4, .int (iI ((i : Int)))), (0, .ref b), (1, .ref (g 0)), (2, .ref a), (3, .ref out)]) hx hb dL_law_1438 hl (by decide) rfl (fun ls hl => ?_)
    refine lv_aload_n hx hb dL_law_1440 rfl (lv_at hl 5 rfl) ?_
    refine q_callV (fr := 0) (lo := 0) (nL := 9) (Pic := PicM D cI a ta pa (0) (σ) (T) (P)) (As := []) (rest := []) ⟨hx, hb, hml, hown, hts⟩ (c_thrown l D cI cO cL a ta pa (0) (σ) (T) (P) hLW2.1 hLW2.2.1) (cwV 0 hts gL_law_X6_thrown rfl rfl rfl (by decide +kernel) ⟨Nat.le_of_ble_eq_true rfl, Nat.le_of_ble_eq_true rfl⟩) (mo_rec hP hK) (vaP_mems hP (fun q hq => List.mem_append_right _ hq)) hK3 rfl hl.1 rfl (Nat.le_of_ble_eq_true rfl) dL_law_1441 (by omega) (by omega) ?_
    refine lv_iload hx hb dL_law_1444 (lv_at hl 1 rfl) ?_
    refine q_icmp_eq (tgt := 1451) hx hb dL_law_1446 (by decide) (by omega) (by omega) (fun c_1 => ?_) (fun c_1 => ?_)
    · skip
      refine lv_iload hx hb dL_law_1451 (lv_at hl 1 rfl) ?_
      refine q_if_ne (tgt := 1468) hx hb dL_law_1453 (by decide) (by omega) (fun c_2 => ?_) (fun c_2 => ?_)
      · exfalso; omega
      · skip
        refine lv_aload_n hx hb dL_law_1456 rfl (lv_at hl 6 rfl) ?_
        refine q_iconst hx hb dL_law_1457 ?_
        refine q_lald hx hb hK3 hP dL_law_1458 ?_
        refine lv_iload hx hb dL_law_1459 (lv_at hl 0 rfl) ?_
        refine lv_i2l hx hb dL_law_1461 rfl ?_
        refine q_lcmp0 hx hb (by rfl) dL_law_1462 ?_
        refine q_if_eq (tgt := 1468) hx hb dL_law_1463 (by decide) (by omega) (fun c_3 => ?_) (fun c_3 => ?_)
        · skip
          refine lv_goto (tgt := 1638) hx hb dL_law_1468 (by decide) ?_
          refine W.widen (k := cells + 3) (n := slots + 26) (by omega) (by omega) ?_
          exact kk _ _ _ ⟨u, _, _, _, _, _, hLW2, hu.1, hu.2.1, hu.2.2, hP, hD⟩ hS (lv_sub hl [2, 3, 4, 5, 6] rfl)
        · exfalso; omega
    · exact absurd rfl c_1
  · skip
    refine lv_istore (lv' := [(5, .int (iI (er))), (4, .int (iI ((i : Int)))), (0, .ref b), (1, .ref (g 0)), (2, .ref a), (3, .ref out)]) hx hb dL_law_1420 hl (by decide) rfl (fun ls hl => ?_)
    refine lv_aload_n hx hb dL_law_1422 rfl (lv_at hl 4 rfl) ?_
    refine lv_aload_n hx hb dL_law_1423 rfl (lv_at hl 2 rfl) ?_
    refine lv_iload hx hb dL_law_1424 (lv_at hl 1 rfl) ?_
    refine q_iconst hx hb dL_law_1426 ?_
    refine q_iadd hx hb dL_law_1427 ?_
    refine q_sld hx hb hX hbl hbA hS (i + 1) (by omega) (by omega) hL dL_law_1428 ?_
    refine q_is hX1 ?_
    refine lv_aload_n hx hb dL_law_1429 rfl (lv_at hl 2 rfl) ?_
    refine lv_iload hx hb dL_law_1430 (lv_at hl 1 rfl) ?_
    refine q_iconst hx hb dL_law_1432 ?_
    refine q_iadd hx hb dL_law_1433 ?_
    refine q_sld hx hb hX hbl hbA hS (i + 2) (by omega) (by omega) hL dL_law_1434 ?_
    refine q_is hX2 ?_
    refine q_lawU (nL := 9) (As := [.int (iI (j)), .int (iI (f))]) (rest := []) (wr := WC cI cO g σ T P ++ [oc out cL fo]) ⟨hx, hb, hml, hown, hts⟩ (hMu _) (cwV 2 hts gL_law_X6_printed rfl rfl rfl (by decide +kernel) ⟨Nat.le_of_ble_eq_true rfl, Nat.le_of_ble_eq_true rfl⟩) (mo_rec hP hK) rfl rfl hP hD hS hA hK3 rfl hl.1 rfl (Nat.le_of_ble_eq_true rfl) dL_law_1435 (by omega) (by omega) (fun r H locs hr hB hS => ?_)
    rcases hB with ⟨h0, hP, hD⟩ | ⟨h0, hP, hD⟩
    case inl => exact absurd h0 he
    refine lv_istore (lv' := [(6, .int r), (5, .int (iI (er))), (4, .int (iI ((i : Int)))), (0, .ref b), (1, .ref (g 0)), (2, .ref a), (3, .ref out)]) hx hb dL_law_1438 hl (by decide) rfl (fun ls hl => ?_)
    refine lv_aload_n hx hb dL_law_1440 rfl (lv_at hl 5 rfl) ?_
    refine q_callV (fr := 0) (lo := 0) (nL := 9) (Pic := PicM D cI a ta pa (er) (σ) (T) (P)) (As := []) (rest := []) ⟨hx, hb, hml, hown, hts⟩ (c_thrown l D cI cO cL a ta pa (er) (σ) (T) (P) hLW.1 hLW.2.1) (cwV 0 hts gL_law_X6_thrown rfl rfl rfl (by decide +kernel) ⟨Nat.le_of_ble_eq_true rfl, Nat.le_of_ble_eq_true rfl⟩) (mo_rec hP hK) (vaP_mems hP (fun q hq => List.mem_append_right _ hq)) hK3 rfl hl.1 rfl (Nat.le_of_ble_eq_true rfl) dL_law_1441 (by omega) (by omega) ?_
    refine lv_iload hx hb dL_law_1444 (lv_at hl 1 rfl) ?_
    refine q_icmp_eq (tgt := 1451) hx hb dL_law_1446 (by decide) (by omega) (by omega) (fun c_4 => ?_) (fun c_4 => ?_)
    · skip
      refine lv_iload hx hb dL_law_1451 (lv_at hl 1 rfl) ?_
      refine q_if_ne (tgt := 1468) hx hb dL_law_1453 (by decide) (by omega) (fun c_5 => ?_) (fun c_5 => ?_)
      · skip
        refine lv_goto (tgt := 1638) hx hb dL_law_1468 (by decide) ?_
        refine W.widen (k := cells + 3) (n := slots + 26) (by omega) (by omega) ?_
        exact kk _ _ _ ⟨g, σ, T, P, _, _, hLW, rfl, he6, he7, hP, hD⟩ hS (lv_sub hl [2, 3, 4, 5, 6] rfl)
      · exfalso; omega
    · exact absurd rfl c_4
set_option maxHeartbeats 4000000 in
set_option maxRecDepth 100000 in
theorem r_count {p : Program} {l : Launch} {e : Env} {s : State} {m : MethodId} {args : Array Value} {below : List Frame} {meth : Method} {c : Code} {Q : State → Prop} {A0 : Nat → Prop} {D : va_G} {cI cO cL cB : ClassId} {ed : Nat × Nat × Nat} {out g0 a ta pa b L : Nat} {xs : Nat → Int32} (C0 : LC p l s m args c A0 D cI cO cL cB ed b L xs) {cells slots : Nat} (hc : cells + 3 ≤ room_1.cells) (hs : slots + 26 ≤ room_1.slots) {i : Nat} (hi : i + 6 ≤ L) {H : Heap} {locs : List Loc} {ls : Array Slot} (hI : IV D cI cO cL A0 ed out g0 a ta pa H) (hS : va_S A0 s.heap H locs) (hl : lv_has ls 9 [(4, .int (iI (i : Int))), (0, .ref b), (1, .ref g0), (2, .ref a), (3, .ref out)]) (kk : ∀ (H : Heap) (locs : List Loc) (ls : Array Slot), IV D cI cO cL A0 ed out g0 a ta pa H → va_S A0 s.heap H locs → lv_has ls 9 [(4, .int (iI (i : Int))), (0, .ref b), (1, .ref g0), (2, .ref a), (3, .ref out)] → W p l e room_1 s m args below meth c H locs (cells + 3) (slots + 26) Q (F0 m 1638 ls [])) : W p l e room_1 s m args below meth c H locs cells slots Q (F0 m 1471 ls []) := by
  obtain ⟨hst0, hx, hb, hml, hown, hts, hX, hbl, hbA, hL, hA, hK, hE, hT, hN⟩ := C0
  obtain ⟨g, σ, T, P, fo, th, hLW, hg0, he6, he7, hP, hD⟩ := hI
  subst hg0
  obtain ⟨hW, hS0, hp0⟩ := id hLW
  obtain ⟨w0, w1, w2, w3, w4, w5, w6, w7, w8⟩ := id hW
  have hK3 : va_K D vwCl (ty3 cI cO cL) s := hK.sub [0, 1, 2] rfl
  obtain ⟨w, hwr, hX1⟩ : ∃ z : Int, (-2147483648 ≤ z ∧ z < 2147483648) ∧ (xs (i + 1)).toInt = z := ⟨_, I_rng _, rfl⟩
  obtain ⟨er, hev⟩ : ∃ er : Int, (if 0 ≤ w ∧ w ≤ 10 then 0 else 1) = er := ⟨_, rfl⟩
  have her : 0 ≤ er ∧ er ≤ 2 := by rw [← hev]; (repeat' split) <;> omega
  have hMw := fun sz => w_count l hst0 D sz out ed cI cO cL g σ T P fo hW hS0 he6 he7 w hwr
  have hMu := fun sz => u_count l D sz cI cO cL a ta pa th σ T P hW hS0 w hwr
  rw [hev] at hMw hMu
  refine lv_aload_n hx hb dL_law_1471 rfl (lv_at hl 2 rfl) ?_
  refine lv_aload_n hx hb dL_law_1472 rfl (lv_at hl 1 rfl) ?_
  refine lv_iload hx hb dL_law_1473 (lv_at hl 0 rfl) ?_
  refine q_iconst hx hb dL_law_1475 ?_
  refine q_iadd hx hb dL_law_1476 ?_
  refine q_sld hx hb hX hbl hbA hS (i + 1) (by omega) (by omega) hL dL_law_1477 ?_
  refine q_is hX1 ?_
  refine lv_aload_n hx hb dL_law_1478 rfl (lv_at hl 4 rfl) ?_
  refine q_lawW (nL := 9) (As := [.ref (g 0), .int (iI (w)), .ref out]) (rest := []) (fo := fo) (wr := WMo cI a ta pa th σ T P) ⟨hx, hb, hml, hown, hts⟩ (hMw _) (vx_cwSW 3 hts gL_law_L_count rfl rfl rfl (by decide +kernel) ⟨Nat.le_of_ble_eq_true rfl, Nat.le_of_ble_eq_true rfl⟩) hP hD hS hA hK3 hE hT hN rfl hl.1 rfl (Nat.le_of_ble_eq_true rfl) dL_law_1479 (by omega) (by omega) (fun u H locs he hu hP hD hS => ?_) (fun H locs he hP hS => ?_)
  · subst he
    have hLW2 : LW (σ) (T) (P) := hLW
    refine lv_istore (lv' := [(5, .int (iI (0))), (4, .int (iI ((i : Int)))), (0, .ref b), (1, .ref (g 0)), (2, .ref a), (3, .ref out)]) hx hb dL_law_1482 hl (by decide) rfl (fun ls hl => ?_)
    refine lv_aload_n hx hb dL_law_1484 rfl (lv_at hl 4 rfl) ?_
    refine lv_aload_n hx hb dL_law_1485 rfl (lv_at hl 2 rfl) ?_
    refine lv_iload hx hb dL_law_1486 (lv_at hl 1 rfl) ?_
    refine q_iconst hx hb dL_law_1488 ?_
    refine q_iadd hx hb dL_law_1489 ?_
    refine q_sld hx hb hX hbl hbA hS (i + 1) (by omega) (by omega) hL dL_law_1490 ?_
    refine q_is hX1 ?_
    refine q_lawU (nL := 9) (As := [.int (iI (w))]) (rest := []) (wr := WC cI cO u (σ) (T) (P) ++ [oc out cL (vp_updL fo 0 (iI (m_count σ T P w)).toInt64)]) ⟨hx, hb, hml, hown, hts⟩ (hMu _) (cwV 1 hts gL_law_X6_count rfl rfl rfl (by decide +kernel) ⟨Nat.le_of_ble_eq_true rfl, Nat.le_of_ble_eq_true rfl⟩) (mo_rec hP hK) rfl rfl hP hD hS hA hK3 rfl hl.1 rfl (Nat.le_of_ble_eq_true rfl) dL_law_1491 (by omega) (by omega) (fun r H locs hr hB hS => ?_)
    rcases hB with ⟨h0, hP, hD⟩ | ⟨h0, hP, hD⟩
    case inr => exact absurd rfl h0
    have hr := hr rfl
    subst hr
    refine lv_istore (lv' := [(6, .int (iI (m_count σ T P w))), (5, .int (iI (0))), (4, .int (iI ((i : Int)))), (0, .ref b), (1, .ref (g 0)), (2, .ref a), (3, .ref out)]) hx hb dL_law_1494 hl (by decide) rfl (fun ls hl => ?_)
    refine lv_aload_n hx hb dL_law_1496 rfl (lv_at hl 5 rfl) ?_
    refine q_callV (fr := 0) (lo := 0) (nL := 9) (Pic := PicM D cI a ta pa (0) (σ) (T) (P)) (As := []) (rest := []) ⟨hx, hb, hml, hown, hts⟩ (c_thrown l D cI cO cL a ta pa (0) (σ) (T) (P) hLW2.1 hLW2.2.1) (cwV 0 hts gL_law_X6_thrown rfl rfl rfl (by decide +kernel) ⟨Nat.le_of_ble_eq_true rfl, Nat.le_of_ble_eq_true rfl⟩) (mo_rec hP hK) (vaP_mems hP (fun q hq => List.mem_append_right _ hq)) hK3 rfl hl.1 rfl (Nat.le_of_ble_eq_true rfl) dL_law_1497 (by omega) (by omega) ?_
    refine lv_iload hx hb dL_law_1500 (lv_at hl 1 rfl) ?_
    refine q_icmp_eq (tgt := 1507) hx hb dL_law_1502 (by decide) (by omega) (by omega) (fun c_1 => ?_) (fun c_1 => ?_)
    · skip
      refine lv_iload hx hb dL_law_1507 (lv_at hl 1 rfl) ?_
      refine q_if_ne (tgt := 1524) hx hb dL_law_1509 (by decide) (by omega) (fun c_2 => ?_) (fun c_2 => ?_)
      · exfalso; omega
      · skip
        refine lv_aload_n hx hb dL_law_1512 rfl (lv_at hl 6 rfl) ?_
        refine q_iconst hx hb dL_law_1513 ?_
        refine q_lald hx hb hK3 hP dL_law_1514 ?_
        refine lv_iload hx hb dL_law_1515 (lv_at hl 0 rfl) ?_
        refine lv_i2l hx hb dL_law_1517 rfl ?_
        refine q_lcmp0 hx hb (by rfl) dL_law_1518 ?_
        refine q_if_eq (tgt := 1524) hx hb dL_law_1519 (by decide) (by omega) (fun c_3 => ?_) (fun c_3 => ?_)
        · skip
          refine lv_goto (tgt := 1638) hx hb dL_law_1524 (by decide) ?_
          refine W.widen (k := cells + 3) (n := slots + 26) (by omega) (by omega) ?_
          exact kk _ _ _ ⟨u, _, _, _, _, _, hLW2, hu.1, hu.2.1, hu.2.2, hP, hD⟩ hS (lv_sub hl [2, 3, 4, 5, 6] rfl)
        · exfalso; omega
    · exact absurd rfl c_1
  · skip
    refine lv_istore (lv' := [(5, .int (iI (er))), (4, .int (iI ((i : Int)))), (0, .ref b), (1, .ref (g 0)), (2, .ref a), (3, .ref out)]) hx hb dL_law_1482 hl (by decide) rfl (fun ls hl => ?_)
    refine lv_aload_n hx hb dL_law_1484 rfl (lv_at hl 4 rfl) ?_
    refine lv_aload_n hx hb dL_law_1485 rfl (lv_at hl 2 rfl) ?_
    refine lv_iload hx hb dL_law_1486 (lv_at hl 1 rfl) ?_
    refine q_iconst hx hb dL_law_1488 ?_
    refine q_iadd hx hb dL_law_1489 ?_
    refine q_sld hx hb hX hbl hbA hS (i + 1) (by omega) (by omega) hL dL_law_1490 ?_
    refine q_is hX1 ?_
    refine q_lawU (nL := 9) (As := [.int (iI (w))]) (rest := []) (wr := WC cI cO g σ T P ++ [oc out cL fo]) ⟨hx, hb, hml, hown, hts⟩ (hMu _) (cwV 1 hts gL_law_X6_count rfl rfl rfl (by decide +kernel) ⟨Nat.le_of_ble_eq_true rfl, Nat.le_of_ble_eq_true rfl⟩) (mo_rec hP hK) rfl rfl hP hD hS hA hK3 rfl hl.1 rfl (Nat.le_of_ble_eq_true rfl) dL_law_1491 (by omega) (by omega) (fun r H locs hr hB hS => ?_)
    rcases hB with ⟨h0, hP, hD⟩ | ⟨h0, hP, hD⟩
    case inl => exact absurd h0 he
    refine lv_istore (lv' := [(6, .int r), (5, .int (iI (er))), (4, .int (iI ((i : Int)))), (0, .ref b), (1, .ref (g 0)), (2, .ref a), (3, .ref out)]) hx hb dL_law_1494 hl (by decide) rfl (fun ls hl => ?_)
    refine lv_aload_n hx hb dL_law_1496 rfl (lv_at hl 5 rfl) ?_
    refine q_callV (fr := 0) (lo := 0) (nL := 9) (Pic := PicM D cI a ta pa (er) (σ) (T) (P)) (As := []) (rest := []) ⟨hx, hb, hml, hown, hts⟩ (c_thrown l D cI cO cL a ta pa (er) (σ) (T) (P) hLW.1 hLW.2.1) (cwV 0 hts gL_law_X6_thrown rfl rfl rfl (by decide +kernel) ⟨Nat.le_of_ble_eq_true rfl, Nat.le_of_ble_eq_true rfl⟩) (mo_rec hP hK) (vaP_mems hP (fun q hq => List.mem_append_right _ hq)) hK3 rfl hl.1 rfl (Nat.le_of_ble_eq_true rfl) dL_law_1497 (by omega) (by omega) ?_
    refine lv_iload hx hb dL_law_1500 (lv_at hl 1 rfl) ?_
    refine q_icmp_eq (tgt := 1507) hx hb dL_law_1502 (by decide) (by omega) (by omega) (fun c_4 => ?_) (fun c_4 => ?_)
    · skip
      refine lv_iload hx hb dL_law_1507 (lv_at hl 1 rfl) ?_
      refine q_if_ne (tgt := 1524) hx hb dL_law_1509 (by decide) (by omega) (fun c_5 => ?_) (fun c_5 => ?_)
      · skip
        refine lv_goto (tgt := 1638) hx hb dL_law_1524 (by decide) ?_
        refine W.widen (k := cells + 3) (n := slots + 26) (by omega) (by omega) ?_
        exact kk _ _ _ ⟨g, σ, T, P, _, _, hLW, rfl, he6, he7, hP, hD⟩ hS (lv_sub hl [2, 3, 4, 5, 6] rfl)
      · exfalso; omega
    · exact absurd rfl c_4
set_option maxHeartbeats 4000000 in
set_option maxRecDepth 100000 in
theorem r_cycle {p : Program} {l : Launch} {e : Env} {s : State} {m : MethodId} {args : Array Value} {below : List Frame} {meth : Method} {c : Code} {Q : State → Prop} {A0 : Nat → Prop} {D : va_G} {cI cO cL cB : ClassId} {ed : Nat × Nat × Nat} {out g0 a ta pa b L : Nat} {xs : Nat → Int32} (C0 : LC p l s m args c A0 D cI cO cL cB ed b L xs) {cells slots : Nat} (hc : cells + 3 ≤ room_1.cells) (hs : slots + 26 ≤ room_1.slots) {i : Nat} (hi : i + 6 ≤ L) {H : Heap} {locs : List Loc} {ls : Array Slot} (hI : IV D cI cO cL A0 ed out g0 a ta pa H) (hS : va_S A0 s.heap H locs) (hl : lv_has ls 9 [(4, .int (iI (i : Int))), (0, .ref b), (1, .ref g0), (2, .ref a), (3, .ref out)]) (kk : ∀ (H : Heap) (locs : List Loc) (ls : Array Slot), IV D cI cO cL A0 ed out g0 a ta pa H → va_S A0 s.heap H locs → lv_has ls 9 [(4, .int (iI (i : Int))), (0, .ref b), (1, .ref g0), (2, .ref a), (3, .ref out)] → W p l e room_1 s m args below meth c H locs (cells + 3) (slots + 26) Q (F0 m 1638 ls [])) : W p l e room_1 s m args below meth c H locs cells slots Q (F0 m 1527 ls []) := by
  obtain ⟨hst0, hx, hb, hml, hown, hts, hX, hbl, hbA, hL, hA, hK, hE, hT, hN⟩ := C0
  obtain ⟨g, σ, T, P, fo, th, hLW, hg0, he6, he7, hP, hD⟩ := hI
  subst hg0
  obtain ⟨hW, hS0, hp0⟩ := id hLW
  obtain ⟨w0, w1, w2, w3, w4, w5, w6, w7, w8⟩ := id hW
  have hK3 : va_K D vwCl (ty3 cI cO cL) s := hK.sub [0, 1, 2] rfl
  obtain ⟨off, hoffr, hX1⟩ : ∃ z : Int, (-2147483648 ≤ z ∧ z < 2147483648) ∧ (xs (i + 1)).toInt = z := ⟨_, I_rng _, rfl⟩
  obtain ⟨er, hev⟩ : ∃ er : Int, (if 0 ≤ off ∧ off ≤ 5000 then 0 else 1) = er := ⟨_, rfl⟩
  have her : 0 ≤ er ∧ er ≤ 2 := by rw [← hev]; (repeat' split) <;> omega
  have hMw := fun sz => w_cycle l hst0 D sz out ed cI cO cL g σ T P fo hW hS0 he6 he7 off hoffr
  have hMu := fun sz => u_cycle l D sz cI cO cL a ta pa th σ T P hW hS0 off hoffr
  rw [hev] at hMw hMu
  refine lv_aload_n hx hb dL_law_1527 rfl (lv_at hl 2 rfl) ?_
  refine lv_aload_n hx hb dL_law_1528 rfl (lv_at hl 1 rfl) ?_
  refine lv_iload hx hb dL_law_1529 (lv_at hl 0 rfl) ?_
  refine q_iconst hx hb dL_law_1531 ?_
  refine q_iadd hx hb dL_law_1532 ?_
  refine q_sld hx hb hX hbl hbA hS (i + 1) (by omega) (by omega) hL dL_law_1533 ?_
  refine q_is hX1 ?_
  refine lv_aload_n hx hb dL_law_1534 rfl (lv_at hl 4 rfl) ?_
  refine q_lawW (nL := 9) (As := [.ref (g 0), .int (iI (off)), .ref out]) (rest := []) (fo := fo) (wr := WMo cI a ta pa th σ T P) ⟨hx, hb, hml, hown, hts⟩ (hMw _) (vx_cwSW 3 hts gL_law_L_cycle rfl rfl rfl (by decide +kernel) ⟨Nat.le_of_ble_eq_true rfl, Nat.le_of_ble_eq_true rfl⟩) hP hD hS hA hK3 hE hT hN rfl hl.1 rfl (Nat.le_of_ble_eq_true rfl) dL_law_1535 (by omega) (by omega) (fun u H locs he hu hP hD hS => ?_) (fun H locs he hP hS => ?_)
  · subst he
    have hLW2 : LW (σ) (T) (P) := hLW
    refine lv_istore (lv' := [(5, .int (iI (0))), (4, .int (iI ((i : Int)))), (0, .ref b), (1, .ref (g 0)), (2, .ref a), (3, .ref out)]) hx hb dL_law_1538 hl (by decide) rfl (fun ls hl => ?_)
    refine lv_aload_n hx hb dL_law_1540 rfl (lv_at hl 4 rfl) ?_
    refine lv_aload_n hx hb dL_law_1541 rfl (lv_at hl 2 rfl) ?_
    refine lv_iload hx hb dL_law_1542 (lv_at hl 1 rfl) ?_
    refine q_iconst hx hb dL_law_1544 ?_
    refine q_iadd hx hb dL_law_1545 ?_
    refine q_sld hx hb hX hbl hbA hS (i + 1) (by omega) (by omega) hL dL_law_1546 ?_
    refine q_is hX1 ?_
    refine q_lawU (nL := 9) (As := [.int (iI (off))]) (rest := []) (wr := WC cI cO u (σ) (T) (P) ++ [oc out cL (vp_updL fo 0 (iI (m_cyc σ off 400 1)).toInt64)]) ⟨hx, hb, hml, hown, hts⟩ (hMu _) (cwV 1 hts gL_law_X6_cycle rfl rfl rfl (by decide +kernel) ⟨Nat.le_of_ble_eq_true rfl, Nat.le_of_ble_eq_true rfl⟩) (mo_rec hP hK) rfl rfl hP hD hS hA hK3 rfl hl.1 rfl (Nat.le_of_ble_eq_true rfl) dL_law_1547 (by omega) (by omega) (fun r H locs hr hB hS => ?_)
    rcases hB with ⟨h0, hP, hD⟩ | ⟨h0, hP, hD⟩
    case inr => exact absurd rfl h0
    have hr := hr rfl
    subst hr
    refine lv_istore (lv' := [(6, .int (iI (m_cyc σ off 400 1))), (5, .int (iI (0))), (4, .int (iI ((i : Int)))), (0, .ref b), (1, .ref (g 0)), (2, .ref a), (3, .ref out)]) hx hb dL_law_1550 hl (by decide) rfl (fun ls hl => ?_)
    refine lv_aload_n hx hb dL_law_1552 rfl (lv_at hl 5 rfl) ?_
    refine q_callV (fr := 0) (lo := 0) (nL := 9) (Pic := PicM D cI a ta pa (0) (σ) (T) (P)) (As := []) (rest := []) ⟨hx, hb, hml, hown, hts⟩ (c_thrown l D cI cO cL a ta pa (0) (σ) (T) (P) hLW2.1 hLW2.2.1) (cwV 0 hts gL_law_X6_thrown rfl rfl rfl (by decide +kernel) ⟨Nat.le_of_ble_eq_true rfl, Nat.le_of_ble_eq_true rfl⟩) (mo_rec hP hK) (vaP_mems hP (fun q hq => List.mem_append_right _ hq)) hK3 rfl hl.1 rfl (Nat.le_of_ble_eq_true rfl) dL_law_1553 (by omega) (by omega) ?_
    refine lv_iload hx hb dL_law_1556 (lv_at hl 1 rfl) ?_
    refine q_icmp_eq (tgt := 1563) hx hb dL_law_1558 (by decide) (by omega) (by omega) (fun c_1 => ?_) (fun c_1 => ?_)
    · skip
      refine lv_iload hx hb dL_law_1563 (lv_at hl 1 rfl) ?_
      refine q_if_ne (tgt := 1580) hx hb dL_law_1565 (by decide) (by omega) (fun c_2 => ?_) (fun c_2 => ?_)
      · exfalso; omega
      · skip
        refine lv_aload_n hx hb dL_law_1568 rfl (lv_at hl 6 rfl) ?_
        refine q_iconst hx hb dL_law_1569 ?_
        refine q_lald hx hb hK3 hP dL_law_1570 ?_
        refine lv_iload hx hb dL_law_1571 (lv_at hl 0 rfl) ?_
        refine lv_i2l hx hb dL_law_1573 rfl ?_
        refine q_lcmp0 hx hb (by rfl) dL_law_1574 ?_
        refine q_if_eq (tgt := 1580) hx hb dL_law_1575 (by decide) (by omega) (fun c_3 => ?_) (fun c_3 => ?_)
        · skip
          refine lv_goto (tgt := 1638) hx hb dL_law_1580 (by decide) ?_
          refine W.widen (k := cells + 3) (n := slots + 26) (by omega) (by omega) ?_
          exact kk _ _ _ ⟨u, _, _, _, _, _, hLW2, hu.1, hu.2.1, hu.2.2, hP, hD⟩ hS (lv_sub hl [2, 3, 4, 5, 6] rfl)
        · exfalso; omega
    · exact absurd rfl c_1
  · skip
    refine lv_istore (lv' := [(5, .int (iI (er))), (4, .int (iI ((i : Int)))), (0, .ref b), (1, .ref (g 0)), (2, .ref a), (3, .ref out)]) hx hb dL_law_1538 hl (by decide) rfl (fun ls hl => ?_)
    refine lv_aload_n hx hb dL_law_1540 rfl (lv_at hl 4 rfl) ?_
    refine lv_aload_n hx hb dL_law_1541 rfl (lv_at hl 2 rfl) ?_
    refine lv_iload hx hb dL_law_1542 (lv_at hl 1 rfl) ?_
    refine q_iconst hx hb dL_law_1544 ?_
    refine q_iadd hx hb dL_law_1545 ?_
    refine q_sld hx hb hX hbl hbA hS (i + 1) (by omega) (by omega) hL dL_law_1546 ?_
    refine q_is hX1 ?_
    refine q_lawU (nL := 9) (As := [.int (iI (off))]) (rest := []) (wr := WC cI cO g σ T P ++ [oc out cL fo]) ⟨hx, hb, hml, hown, hts⟩ (hMu _) (cwV 1 hts gL_law_X6_cycle rfl rfl rfl (by decide +kernel) ⟨Nat.le_of_ble_eq_true rfl, Nat.le_of_ble_eq_true rfl⟩) (mo_rec hP hK) rfl rfl hP hD hS hA hK3 rfl hl.1 rfl (Nat.le_of_ble_eq_true rfl) dL_law_1547 (by omega) (by omega) (fun r H locs hr hB hS => ?_)
    rcases hB with ⟨h0, hP, hD⟩ | ⟨h0, hP, hD⟩
    case inl => exact absurd h0 he
    refine lv_istore (lv' := [(6, .int r), (5, .int (iI (er))), (4, .int (iI ((i : Int)))), (0, .ref b), (1, .ref (g 0)), (2, .ref a), (3, .ref out)]) hx hb dL_law_1550 hl (by decide) rfl (fun ls hl => ?_)
    refine lv_aload_n hx hb dL_law_1552 rfl (lv_at hl 5 rfl) ?_
    refine q_callV (fr := 0) (lo := 0) (nL := 9) (Pic := PicM D cI a ta pa (er) (σ) (T) (P)) (As := []) (rest := []) ⟨hx, hb, hml, hown, hts⟩ (c_thrown l D cI cO cL a ta pa (er) (σ) (T) (P) hLW.1 hLW.2.1) (cwV 0 hts gL_law_X6_thrown rfl rfl rfl (by decide +kernel) ⟨Nat.le_of_ble_eq_true rfl, Nat.le_of_ble_eq_true rfl⟩) (mo_rec hP hK) (vaP_mems hP (fun q hq => List.mem_append_right _ hq)) hK3 rfl hl.1 rfl (Nat.le_of_ble_eq_true rfl) dL_law_1553 (by omega) (by omega) ?_
    refine lv_iload hx hb dL_law_1556 (lv_at hl 1 rfl) ?_
    refine q_icmp_eq (tgt := 1563) hx hb dL_law_1558 (by decide) (by omega) (by omega) (fun c_4 => ?_) (fun c_4 => ?_)
    · skip
      refine lv_iload hx hb dL_law_1563 (lv_at hl 1 rfl) ?_
      refine q_if_ne (tgt := 1580) hx hb dL_law_1565 (by decide) (by omega) (fun c_5 => ?_) (fun c_5 => ?_)
      · skip
        refine lv_goto (tgt := 1638) hx hb dL_law_1580 (by decide) ?_
        refine W.widen (k := cells + 3) (n := slots + 26) (by omega) (by omega) ?_
        exact kk _ _ _ ⟨g, σ, T, P, _, _, hLW, rfl, he6, he7, hP, hD⟩ hS (lv_sub hl [2, 3, 4, 5, 6] rfl)
      · exfalso; omega
    · exact absurd rfl c_4
