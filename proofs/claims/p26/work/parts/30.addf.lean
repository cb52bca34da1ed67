/-! ===== t_addFeastA t_addFeastB ===== -/
set_option maxHeartbeats 4000000 in
set_option maxRecDepth 100000 in
theorem t_addFeastA (l : Launch) (D : va_G) (sz : Nat) (ed : Nat × Nat × Nat) (cI cO cL : ClassId) (g : Nat → Nat) (σ T P : Nat → Int) (hW : WF σ T) (hS0 : WS σ P) (he6 : σ 6 = 0 → g 6 = ed.1) (he7 : σ 7 = 0 → g 7 = ed.1)  (hc6 : σ 6 = 0) (mo da mn wd of : Int) (h0 : 0 ≤ mo ∧ mo ≤ 11) (h1 : 0 ≤ da ∧ da ≤ 29) (h2 : 0 ≤ mn ∧ mn ≤ 3) (h3 : -1 ≤ wd ∧ wd ≤ 6) (h4 : -60 ≤ of ∧ of ≤ 60) (h8 : σ 6 ≠ 8) : MT l yX5_addFeast wsX5_addFeast 5 108 2 15 D cI cO cL sz g σ T P [.ref (g 0), .int (iI (mo)), .int (iI (da)), .int (iI (mn)), .int (iI (wd)), .int (iI (of))] ed (σ 6) (st σ 6 (σ 6 + 1)) (m_tp T (σ 6).toNat mo da mn wd of) (P) := by
  refine MGp_of (cc := cX5_addFeast) (maxL := 6) (ret := (some .int)) (by decide) rfl (Nat.le_of_ble_eq_true rfl) ?_
  intro p e s m args below meth c ls hx hb hr hlocks hml hown hts hsz hP hK hD hS hA hin hE hT hl
  have hl : lv_has ls 6 [(0, .ref (g 0)), (1, .int (iI (mo))), (2, .int (iI (da))), (3, .int (iI (mn))), (4, .int (iI (wd))), (5, .int (iI (of)))] := hl
  have hin_X5 : ∀ w ∈ u_ws RX5 TX5 7, w ∈ wsX5_addFeast := (fun w h => List.mem_cons_of_mem _ (List.mem_append_left _ (List.mem_append_left _ (List.mem_append_left _ (List.mem_append_left _ (List.mem_append_right _ h))))))
  have hP : va_P D vwCl ([(g 0, .inr (7, [.ref (g 1), .ref (g 2), .ref (g 3), .ref (g 4), .ref (g 5), .int (iI (σ 9)), .int (iI (σ 10))])), (g 1, .inr (6, [.int (iI (σ 0)), .int (iI (σ 1))])), (g 2, .inr (3, [.int (iI (σ 2)), .int (iI (σ 3))])), (g 3, .inr (4, [.int (iI (σ 4)), .int (iI (σ 5))])), (g 4, .inr (1, [.int (iI (σ 6)), .ref (g 6), .int (iI (σ 6))])), (g 5, .inr (1, [.int (iI (σ 7)), .ref (g 7), .int (iI (σ 7))]))] ++ ((wAr cO g 6 (σ 6).toNat 10 ++ wFe g T (σ 6).toNat) ++ WH cI cO g σ P)) s.heap := hP
  have hD : va_D (va_A (WC cI cO g σ T P) sz) ([(g 0, .inr (7, [.ref (g 1), .ref (g 2), .ref (g 3), .ref (g 4), .ref (g 5), .int (iI (σ 9)), .int (iI (σ 10))])), (g 1, .inr (6, [.int (iI (σ 0)), .int (iI (σ 1))])), (g 2, .inr (3, [.int (iI (σ 2)), .int (iI (σ 3))])), (g 3, .inr (4, [.int (iI (σ 4)), .int (iI (σ 5))])), (g 4, .inr (1, [.int (iI (σ 6)), .ref (g 6), .int (iI (σ 6))])), (g 5, .inr (1, [.int (iI (σ 7)), .ref (g 7), .int (iI (σ 7))]))] ++ ((wAr cO g 6 (σ 6).toNat 10 ++ wFe g T (σ 6).toNat) ++ WH cI cO g σ P)) := hD
  obtain ⟨w0, w1, w2, w3, w4, w5, w6, w7, w8⟩ := id hW
  refine lv_iload_n hx hb dX5_addFeast_0 rfl (lv_at hl 1 rfl) ?_
  refine q_if_lt (tgt := 29) hx hb dX5_addFeast_1 (by decide) (by omega) (fun c_1 => ?_) (fun c_1 => ?_)
  · skip
    exfalso
    omega
  · skip
    refine lv_iload_n hx hb dX5_addFeast_4 rfl (lv_at hl 1 rfl) ?_
    refine q_bipush hx hb dX5_addFeast_5 (by decide) ?_
    refine q_icmp_ge (tgt := 29) hx hb dX5_addFeast_7 (by decide) (by omega) (by omega) (fun c_2 => ?_) (fun c_2 => ?_)
    · skip
      exfalso
      omega
    · skip
      refine lv_iload_n hx hb dX5_addFeast_10 rfl (lv_at hl 2 rfl) ?_
      refine q_if_lt (tgt := 29) hx hb dX5_addFeast_11 (by decide) (by omega) (fun c_3 => ?_) (fun c_3 => ?_)
      · skip
        exfalso
        omega
      · skip
        refine lv_iload_n hx hb dX5_addFeast_14 rfl (lv_at hl 2 rfl) ?_
        refine q_bipush hx hb dX5_addFeast_15 (by decide) ?_
        refine q_icmp_gt (tgt := 29) hx hb dX5_addFeast_17 (by decide) (by omega) (by omega) (fun c_4 => ?_) (fun c_4 => ?_)
        · skip
          exfalso
          omega
        · skip
          refine lv_iload_n hx hb dX5_addFeast_20 rfl (lv_at hl 3 rfl) ?_
          refine q_if_lt (tgt := 29) hx hb dX5_addFeast_21 (by decide) (by omega) (fun c_5 => ?_) (fun c_5 => ?_)
          · skip
            exfalso
            omega
          · skip
            refine lv_iload_n hx hb dX5_addFeast_24 rfl (lv_at hl 3 rfl) ?_
            refine q_iconst hx hb dX5_addFeast_25 ?_
            refine q_icmp_le (tgt := 39) hx hb dX5_addFeast_26 (by decide) (by omega) (by omega) (fun c_6 => ?_) (fun c_6 => ?_)
            · skip
              refine lv_iload hx hb dX5_addFeast_39 (lv_at hl 4 rfl) ?_
              refine q_iconst hx hb dX5_addFeast_41 ?_
              refine q_icmp_lt (tgt := 66) hx hb dX5_addFeast_42 (by decide) (by omega) (by omega) (fun c_7 => ?_) (fun c_7 => ?_)
              · skip
                exfalso
                omega
              · skip
                refine lv_iload hx hb dX5_addFeast_45 (lv_at hl 4 rfl) ?_
                refine q_bipush hx hb dX5_addFeast_47 (by decide) ?_
                refine q_icmp_ge (tgt := 66) hx hb dX5_addFeast_49 (by decide) (by omega) (by omega) (fun c_8 => ?_) (fun c_8 => ?_)
                · skip
                  exfalso
                  omega
                · skip
                  refine lv_iload hx hb dX5_addFeast_52 (lv_at hl 5 rfl) ?_
                  refine q_bipush hx hb dX5_addFeast_54 (by decide) ?_
                  refine q_icmp_lt (tgt := 66) hx hb dX5_addFeast_56 (by decide) (by omega) (by omega) (fun c_9 => ?_) (fun c_9 => ?_)
                  · skip
                    exfalso
                    omega
                  · skip
                    refine lv_iload hx hb dX5_addFeast_59 (lv_at hl 5 rfl) ?_
                    refine q_bipush hx hb dX5_addFeast_61 (by decide) ?_
                    refine q_icmp_le (tgt := 76) hx hb dX5_addFeast_63 (by decide) (by omega) (by omega) (fun c_10 => ?_) (fun c_10 => ?_)
                    · skip
                      refine lv_aload_n hx hb dX5_addFeast_76 rfl (lv_at hl 0 rfl) ?_
                      refine q_get (ci := 7) (C := RX5) (T := TX5) (N := 7) hx hb hts hin_X5 hown hK (v := .ref (g 4)) (hP 0 _ rfl) rfl 3 (by decide) (hts (.fieldLink RX5 33 "AlmanacHouse" "feasts" "Ljava/util/ArrayList;") (List.mem_of_getElem? (i := 5) rfl)) (fun _ h9 => h9) rfl dX5_addFeast_77 ?_
                      refine q_callV (fr := 0) (lo := 0) (nL := 6) (Pic := ob D (g 4) 1 [.int (iI (σ 6)), .ref (g 6), .int (iI (σ 6))]) (As := []) (rest := []) ⟨hx, hb, hml, hown, hts⟩ (c_size l D (ty3 cI cO cL) (g 4) (g 6) (σ 6) (σ 6)) (cwV 0 hts gX5_addFeast_Jx4a65c_size_8abf5 rfl rfl rfl (by decide +kernel) ⟨Nat.le_of_ble_eq_true rfl, Nat.le_of_ble_eq_true rfl⟩) (ob_recv (hP 4 _ rfl) hK rfl) (hP 4 _ rfl) hK rfl hl.1 rfl (Nat.le_of_ble_eq_true rfl) dX5_addFeast_80 (Nat.zero_le _) (Nat.zero_le _) ?_
                      refine q_bipush hx hb dX5_addFeast_83 (by decide) ?_
                      refine q_icmp_lt (tgt := 98) hx hb dX5_addFeast_85 (by decide) (by omega) (by omega) (fun c_11 => ?_) (fun c_11 => ?_)
                      · skip
                        rw [WFnil hc6, hc6, he6 hc6, List.nil_append] at hP hD
                        have hP : va_P D vwCl ([(g 0, .inr (7, [.ref (g 1), .ref (g 2), .ref (g 3), .ref (g 4), .ref (g 5), .int (iI (σ 9)), .int (iI (σ 10))])), (g 1, .inr (6, [.int (iI (σ 0)), .int (iI (σ 1))])), (g 2, .inr (3, [.int (iI (σ 2)), .int (iI (σ 3))])), (g 3, .inr (4, [.int (iI (σ 4)), .int (iI (σ 5))])), (g 4, .inr (1, [.int (iI (0)), .ref ed.1, .int (iI (0))])), (g 5, .inr (1, [.int (iI (σ 7)), .ref (g 7), .int (iI (σ 7))]))] ++ WH cI cO g σ P) s.heap := hP
                        have hD : va_D (va_A (WC cI cO g σ T P) sz) ([(g 0, .inr (7, [.ref (g 1), .ref (g 2), .ref (g 3), .ref (g 4), .ref (g 5), .int (iI (σ 9)), .int (iI (σ 10))])), (g 1, .inr (6, [.int (iI (σ 0)), .int (iI (σ 1))])), (g 2, .inr (3, [.int (iI (σ 2)), .int (iI (σ 3))])), (g 3, .inr (4, [.int (iI (σ 4)), .int (iI (σ 5))])), (g 4, .inr (1, [.int (iI (0)), .ref ed.1, .int (iI (0))])), (g 5, .inr (1, [.int (iI (σ 7)), .ref (g 7), .int (iI (σ 7))]))] ++ WH cI cO g σ P) := hD
                        refine lv_aload_n hx hb dX5_addFeast_98 rfl (lv_at hl 0 rfl) ?_
                        refine q_get (ci := 7) (C := RX5) (T := TX5) (N := 7) hx hb hts hin_X5 hown hK (v := .ref (g 4)) (hP 0 _ rfl) rfl 3 (by decide) (hts (.fieldLink RX5 33 "AlmanacHouse" "feasts" "Ljava/util/ArrayList;") (List.mem_of_getElem? (i := 5) rfl)) (fun _ h9 => h9) rfl dX5_addFeast_99 ?_
                        refine q_newo (T := TX0) (N := 5) (ci := 2) (fs := [.int (iI (0)), .int (iI (0)), .int (iI (0)), .int (iI (0)), .int (iI (0))]) hx hb hts (fun w h => List.mem_cons_of_mem _ (List.mem_append_left _ (List.mem_append_left _ (List.mem_append_left _ (List.mem_append_right _ h))))) tyX0 tyX0_ok hown (hts (.classLink RX5 173 RX0) (List.mem_of_getElem? (i := 6) rfl)) (hts (.instantiable RX0 5) (List.mem_of_getElem? (i := 7) rfl)) (hts (.initialized RX0) (List.mem_of_getElem? (i := 8) rfl)) hK hP hD hS hA rfl (by decide +kernel) (Nat.le_of_ble_eq_true rfl) (Nat.le_of_ble_eq_true rfl) dX5_addFeast_102 ?_
                        intro q102 H hP hD hS
                        have hP : va_P D vwCl ([(q102, .inr (2, [.int (iI (0)), .int (iI (0)), .int (iI (0)), .int (iI (0)), .int (iI (0))])), (g 0, .inr (7, [.ref (g 1), .ref (g 2), .ref (g 3), .ref (g 4), .ref (g 5), .int (iI (σ 9)), .int (iI (σ 10))])), (g 1, .inr (6, [.int (iI (σ 0)), .int (iI (σ 1))])), (g 2, .inr (3, [.int (iI (σ 2)), .int (iI (σ 3))])), (g 3, .inr (4, [.int (iI (σ 4)), .int (iI (σ 5))])), (g 4, .inr (1, [.int (iI (0)), .ref ed.1, .int (iI (0))])), (g 5, .inr (1, [.int (iI (σ 7)), .ref (g 7), .int (iI (σ 7))]))] ++ WH cI cO g σ P) H := hP
                        have hD : va_D (va_A (WC cI cO g σ T P) sz) ([(q102, .inr (2, [.int (iI (0)), .int (iI (0)), .int (iI (0)), .int (iI (0)), .int (iI (0))])), (g 0, .inr (7, [.ref (g 1), .ref (g 2), .ref (g 3), .ref (g 4), .ref (g 5), .int (iI (σ 9)), .int (iI (σ 10))])), (g 1, .inr (6, [.int (iI (σ 0)), .int (iI (σ 1))])), (g 2, .inr (3, [.int (iI (σ 2)), .int (iI (σ 3))])), (g 3, .inr (4, [.int (iI (σ 4)), .int (iI (σ 5))])), (g 4, .inr (1, [.int (iI (0)), .ref ed.1, .int (iI (0))])), (g 5, .inr (1, [.int (iI (σ 7)), .ref (g 7), .int (iI (σ 7))]))] ++ WH cI cO g σ P) := hD
                        refine lv_dup hx hb dX5_addFeast_105 rfl ?_
                        refine lv_iload_n hx hb dX5_addFeast_106 rfl (lv_at hl 1 rfl) ?_
                        refine lv_iload_n hx hb dX5_addFeast_107 rfl (lv_at hl 2 rfl) ?_
                        refine lv_iload_n hx hb dX5_addFeast_108 rfl (lv_at hl 3 rfl) ?_
                        refine lv_iload hx hb dX5_addFeast_109 (lv_at hl 4 rfl) ?_
                        refine lv_iload hx hb dX5_addFeast_111 (lv_at hl 5 rfl) ?_
                        refine q_callGc (fr := 1) (lo := 20) (nL := 6) (wc := [(q102, .inr (2, [.int (iI (0)), .int (iI (0)), .int (iI (0)), .int (iI (0)), .int (iI (0))]))]) (wr := [(g 0, .inr (7, [.ref (g 1), .ref (g 2), .ref (g 3), .ref (g 4), .ref (g 5), .int (iI (σ 9)), .int (iI (σ 10))])), (g 1, .inr (6, [.int (iI (σ 0)), .int (iI (σ 1))])), (g 2, .inr (3, [.int (iI (σ 2)), .int (iI (σ 3))])), (g 3, .inr (4, [.int (iI (σ 4)), .int (iI (σ 5))])), (g 4, .inr (1, [.int (iI (0)), .ref ed.1, .int (iI (0))])), (g 5, .inr (1, [.int (iI (σ 7)), .ref (g 7), .int (iI (σ 7))]))] ++ WH cI cO g σ P) (As := [.int (iI (mo)), .int (iI (da)), .int (iI (mn)), .int (iI (wd)), .int (iI (of))]) (rest := [.ref q102, .ref (g 4)]) ⟨hx, hb, hml, hown, hts⟩ (g_feastInit l D _ ed cI cO cL q102 (mo) (da) (mn) (wd) (of)) (cwI 5 hts gX5_addFeast_X0_init rfl rfl rfl (hts (.initialized RX0) (List.mem_of_getElem? (i := 8) rfl)) (hts (.methodLink RX5 175 yX0_init) (List.mem_of_getElem? (i := 15) rfl)) (hts (.instanceMethod yX0_init) (List.mem_of_getElem? (i := 16) rfl)) rfl (by decide +kernel) ⟨Nat.le_of_ble_eq_true rfl, Nat.le_of_ble_eq_true rfl⟩) hP hD hS hA hK hE hT rfl hl.1 rfl (Nat.le_of_ble_eq_true rfl) dX5_addFeast_113 (Nat.le_of_ble_eq_true rfl) (Nat.le_of_ble_eq_true rfl) ?_
                        intro _u H locs hP hD hS
                        have hP : va_P D vwCl ([(q102, .inr (2, [.int (iI (mo)), .int (iI (da)), .int (iI (mn)), .int (iI (wd)), .int (iI (of))])), (g 0, .inr (7, [.ref (g 1), .ref (g 2), .ref (g 3), .ref (g 4), .ref (g 5), .int (iI (σ 9)), .int (iI (σ 10))])), (g 1, .inr (6, [.int (iI (σ 0)), .int (iI (σ 1))])), (g 2, .inr (3, [.int (iI (σ 2)), .int (iI (σ 3))])), (g 3, .inr (4, [.int (iI (σ 4)), .int (iI (σ 5))])), (g 4, .inr (1, [.int (iI (0)), .ref ed.1, .int (iI (0))])), (g 5, .inr (1, [.int (iI (σ 7)), .ref (g 7), .int (iI (σ 7))]))] ++ WH cI cO g σ P) H := hP
                        have hD : va_D (va_A (WC cI cO g σ T P) sz) ([(q102, .inr (2, [.int (iI (mo)), .int (iI (da)), .int (iI (mn)), .int (iI (wd)), .int (iI (of))])), (g 0, .inr (7, [.ref (g 1), .ref (g 2), .ref (g 3), .ref (g 4), .ref (g 5), .int (iI (σ 9)), .int (iI (σ 10))])), (g 1, .inr (6, [.int (iI (σ 0)), .int (iI (σ 1))])), (g 2, .inr (3, [.int (iI (σ 2)), .int (iI (σ 3))])), (g 3, .inr (4, [.int (iI (σ 4)), .int (iI (σ 5))])), (g 4, .inr (1, [.int (iI (0)), .ref ed.1, .int (iI (0))])), (g 5, .inr (1, [.int (iI (σ 7)), .ref (g 7), .int (iI (σ 7))]))] ++ WH cI cO g σ P) := hD
                        obtain ⟨hP, hD⟩ := va_reo (ex := [(q102, .inr (2, [.int (iI (mo)), .int (iI (da)), .int (iI (mn)), .int (iI (wd)), .int (iI (of))])), (g 0, .inr (7, [.ref (g 1), .ref (g 2), .ref (g 3), .ref (g 4), .ref (g 5), .int (iI (σ 9)), .int (iI (σ 10))])), (g 1, .inr (6, [.int (iI (σ 0)), .int (iI (σ 1))])), (g 2, .inr (3, [.int (iI (σ 2)), .int (iI (σ 3))])), (g 3, .inr (4, [.int (iI (σ 4)), .int (iI (σ 5))])), (g 4, .inr (1, [.int (iI (0)), .ref ed.1, .int (iI (0))])), (g 5, .inr (1, [.int (iI (σ 7)), .ref (g 7), .int (iI (σ 7))]))]) (ex' := [(g 4, .inr (1, [.int (iI (0)), .ref ed.1, .int (iI (0))])), (q102, .inr (2, [.int (iI (mo)), .int (iI (da)), .int (iI (mn)), .int (iI (wd)), .int (iI (of))])), (g 0, .inr (7, [.ref (g 1), .ref (g 2), .ref (g 3), .ref (g 4), .ref (g 5), .int (iI (σ 9)), .int (iI (σ 10))])), (g 1, .inr (6, [.int (iI (σ 0)), .int (iI (σ 1))])), (g 2, .inr (3, [.int (iI (σ 2)), .int (iI (σ 3))])), (g 3, .inr (4, [.int (iI (σ 4)), .int (iI (σ 5))])), (g 5, .inr (1, [.int (iI (σ 7)), .ref (g 7), .int (iI (σ 7))]))]) (tl := WH cI cO g σ P) [5, 0, 1, 2, 3, 4, 6] rfl 7 rfl (by decide) (by exact hP) (by exact hD)
                        have hP : va_P D vwCl ([(g 4, .inr (1, [.int (iI (0)), .ref ed.1, .int (iI (0))])), (q102, .inr (2, [.int (iI (mo)), .int (iI (da)), .int (iI (mn)), .int (iI (wd)), .int (iI (of))])), (g 0, .inr (7, [.ref (g 1), .ref (g 2), .ref (g 3), .ref (g 4), .ref (g 5), .int (iI (σ 9)), .int (iI (σ 10))])), (g 1, .inr (6, [.int (iI (σ 0)), .int (iI (σ 1))])), (g 2, .inr (3, [.int (iI (σ 2)), .int (iI (σ 3))])), (g 3, .inr (4, [.int (iI (σ 4)), .int (iI (σ 5))])), (g 5, .inr (1, [.int (iI (σ 7)), .ref (g 7), .int (iI (σ 7))]))] ++ WH cI cO g σ P) H := hP
                        have hD : va_D (va_A (WC cI cO g σ T P) sz) ([(g 4, .inr (1, [.int (iI (0)), .ref ed.1, .int (iI (0))])), (q102, .inr (2, [.int (iI (mo)), .int (iI (da)), .int (iI (mn)), .int (iI (wd)), .int (iI (of))])), (g 0, .inr (7, [.ref (g 1), .ref (g 2), .ref (g 3), .ref (g 4), .ref (g 5), .int (iI (σ 9)), .int (iI (σ 10))])), (g 1, .inr (6, [.int (iI (σ 0)), .int (iI (σ 1))])), (g 2, .inr (3, [.int (iI (σ 2)), .int (iI (σ 3))])), (g 3, .inr (4, [.int (iI (σ 4)), .int (iI (σ 5))])), (g 5, .inr (1, [.int (iI (σ 7)), .ref (g 7), .int (iI (σ 7))]))] ++ WH cI cO g σ P) := hD
                        refine q_callGi (fr := 4) (lo := 87) (nL := 6) (wc := [(g 4, .inr (1, [.int (iI (0)), .ref ed.1, .int (iI (0))])), (q102, .inr (2, [.int (iI (mo)), .int (iI (da)), .int (iI (mn)), .int (iI (wd)), .int (iI (of))]))]) (wr := [(g 0, .inr (7, [.ref (g 1), .ref (g 2), .ref (g 3), .ref (g 4), .ref (g 5), .int (iI (σ 9)), .int (iI (σ 10))])), (g 1, .inr (6, [.int (iI (σ 0)), .int (iI (σ 1))])), (g 2, .inr (3, [.int (iI (σ 2)), .int (iI (σ 3))])), (g 3, .inr (4, [.int (iI (σ 4)), .int (iI (σ 5))])), (g 5, .inr (1, [.int (iI (σ 7)), .ref (g 7), .int (iI (σ 7))]))] ++ WH cI cO g σ P) (As := [.ref q102]) (rest := []) ⟨hx, hb, hml, hown, hts⟩ (g_adda l D _ ed cI cO cL (g 4) (0) q102 2 [.int (iI (mo)), .int (iI (da)), .int (iI (mn)), .int (iI (wd)), .int (iI (of))] (RX0, TX0, 5) rfl (Or.inl rfl)) (cwV 1 hts gX5_addFeast_Jx4a65c_add_9ea2d rfl rfl rfl (by decide +kernel) ⟨Nat.le_of_ble_eq_true rfl, Nat.le_of_ble_eq_true rfl⟩) (ob_recv (hP 0 _ rfl) hK rfl) hP hD hS hA hK hE hT rfl hl.1 rfl (Nat.le_of_ble_eq_true rfl) dX5_addFeast_116 (Nat.le_of_ble_eq_true rfl) (Nat.le_of_ble_eq_true rfl) ?_
                        intro u116 H locs hP hD hS
                        have hP : va_P D vwCl ([(u116, .inl (cO, 10, .inr (.inr (.inr (.inr (va_up (fun _ => none) 0 (some (q102)))))))), (g 4, .inr (1, [.int (iI (0 + 1)), .ref u116, .int (iI (0 + 1))])), (q102, .inr (2, [.int (iI (mo)), .int (iI (da)), .int (iI (mn)), .int (iI (wd)), .int (iI (of))])), (g 0, .inr (7, [.ref (g 1), .ref (g 2), .ref (g 3), .ref (g 4), .ref (g 5), .int (iI (σ 9)), .int (iI (σ 10))])), (g 1, .inr (6, [.int (iI (σ 0)), .int (iI (σ 1))])), (g 2, .inr (3, [.int (iI (σ 2)), .int (iI (σ 3))])), (g 3, .inr (4, [.int (iI (σ 4)), .int (iI (σ 5))])), (g 5, .inr (1, [.int (iI (σ 7)), .ref (g 7), .int (iI (σ 7))]))] ++ WH cI cO g σ P) H := hP
                        have hD : va_D (va_A (WC cI cO g σ T P) sz) ([(u116, .inl (cO, 10, .inr (.inr (.inr (.inr (va_up (fun _ => none) 0 (some (q102)))))))), (g 4, .inr (1, [.int (iI (0 + 1)), .ref u116, .int (iI (0 + 1))])), (q102, .inr (2, [.int (iI (mo)), .int (iI (da)), .int (iI (mn)), .int (iI (wd)), .int (iI (of))])), (g 0, .inr (7, [.ref (g 1), .ref (g 2), .ref (g 3), .ref (g 4), .ref (g 5), .int (iI (σ 9)), .int (iI (σ 10))])), (g 1, .inr (6, [.int (iI (σ 0)), .int (iI (σ 1))])), (g 2, .inr (3, [.int (iI (σ 2)), .int (iI (σ 3))])), (g 3, .inr (4, [.int (iI (σ 4)), .int (iI (σ 5))])), (g 5, .inr (1, [.int (iI (σ 7)), .ref (g 7), .int (iI (σ 7))]))] ++ WH cI cO g σ P) := hD
                        refine lv_pop hx hb dX5_addFeast_119 rfl ?_
                        refine lv_aload_n hx hb dX5_addFeast_120 rfl (lv_at hl 0 rfl) ?_
                        refine q_get (ci := 7) (C := RX5) (T := TX5) (N := 7) hx hb hts hin_X5 hown hK (v := .ref (g 4)) (hP 3 _ rfl) rfl 3 (by decide) (hts (.fieldLink RX5 33 "AlmanacHouse" "feasts" "Ljava/util/ArrayList;") (List.mem_of_getElem? (i := 5) rfl)) (fun _ h9 => h9) rfl dX5_addFeast_121 ?_
                        refine q_callV (fr := 0) (lo := 0) (nL := 6) (Pic := ob D (g 4) 1 [.int (iI (0 + 1)), .ref (u116), .int (iI (0 + 1))]) (As := []) (rest := []) ⟨hx, hb, hml, hown, hts⟩ (c_size l D (ty3 cI cO cL) (g 4) (u116) (0 + 1) (0 + 1)) (cwV 0 hts gX5_addFeast_Jx4a65c_size_8abf5 rfl rfl rfl (by decide +kernel) ⟨Nat.le_of_ble_eq_true rfl, Nat.le_of_ble_eq_true rfl⟩) (ob_recv (hP 1 _ rfl) hK rfl) (hP 1 _ rfl) hK rfl hl.1 rfl (Nat.le_of_ble_eq_true rfl) dX5_addFeast_124 (Nat.le_of_ble_eq_true rfl) (Nat.le_of_ble_eq_true rfl) ?_
                        refine q_iconst hx hb dX5_addFeast_127 ?_
                        refine q_isub hx hb dX5_addFeast_128 ?_
                        obtain ⟨hP, hD⟩ := va_reo (ex := [(u116, .inl (cO, 10, .inr (.inr (.inr (.inr (va_up (fun _ => none) 0 (some (q102)))))))), (g 4, .inr (1, [.int (iI (0 + 1)), .ref u116, .int (iI (0 + 1))])), (q102, .inr (2, [.int (iI (mo)), .int (iI (da)), .int (iI (mn)), .int (iI (wd)), .int (iI (of))])), (g 0, .inr (7, [.ref (g 1), .ref (g 2), .ref (g 3), .ref (g 4), .ref (g 5), .int (iI (σ 9)), .int (iI (σ 10))])), (g 1, .inr (6, [.int (iI (σ 0)), .int (iI (σ 1))])), (g 2, .inr (3, [.int (iI (σ 2)), .int (iI (σ 3))])), (g 3, .inr (4, [.int (iI (σ 4)), .int (iI (σ 5))])), (g 5, .inr (1, [.int (iI (σ 7)), .ref (g 7), .int (iI (σ 7))]))]) (ex' := [(g 0, .inr (7, [.ref (g 1), .ref (g 2), .ref (g 3), .ref (g 4), .ref (g 5), .int (iI (σ 9)), .int (iI (σ 10))])), (g 1, .inr (6, [.int (iI (σ 0)), .int (iI (σ 1))])), (g 2, .inr (3, [.int (iI (σ 2)), .int (iI (σ 3))])), (g 3, .inr (4, [.int (iI (σ 4)), .int (iI (σ 5))])), (g 4, .inr (1, [.int (iI (0 + 1)), .ref u116, .int (iI (0 + 1))])), (g 5, .inr (1, [.int (iI (σ 7)), .ref (g 7), .int (iI (σ 7))])), (u116, .inl (cO, 10, .inr (.inr (.inr (.inr (va_up (fun _ => none) 0 (some (q102)))))))), (q102, .inr (2, [.int (iI (mo)), .int (iI (da)), .int (iI (mn)), .int (iI (wd)), .int (iI (of))]))]) (tl := WH cI cO g σ P) [3, 4, 5, 6, 1, 7, 0, 2] rfl 8 rfl (by decide) (by exact hP) (by exact hD)
                        have hP : va_P D vwCl ([(g 0, .inr (7, [.ref (g 1), .ref (g 2), .ref (g 3), .ref (g 4), .ref (g 5), .int (iI (σ 9)), .int (iI (σ 10))])), (g 1, .inr (6, [.int (iI (σ 0)), .int (iI (σ 1))])), (g 2, .inr (3, [.int (iI (σ 2)), .int (iI (σ 3))])), (g 3, .inr (4, [.int (iI (σ 4)), .int (iI (σ 5))])), (g 4, .inr (1, [.int (iI (0 + 1)), .ref u116, .int (iI (0 + 1))])), (g 5, .inr (1, [.int (iI (σ 7)), .ref (g 7), .int (iI (σ 7))])), (u116, .inl (cO, 10, .inr (.inr (.inr (.inr (va_up (fun _ => none) 0 (some (q102)))))))), (q102, .inr (2, [.int (iI (mo)), .int (iI (da)), .int (iI (mn)), .int (iI (wd)), .int (iI (of))]))] ++ WH cI cO g σ P) H := hP
                        have hD : va_D (va_A (WC cI cO g σ T P) sz) ([(g 0, .inr (7, [.ref (g 1), .ref (g 2), .ref (g 3), .ref (g 4), .ref (g 5), .int (iI (σ 9)), .int (iI (σ 10))])), (g 1, .inr (6, [.int (iI (σ 0)), .int (iI (σ 1))])), (g 2, .inr (3, [.int (iI (σ 2)), .int (iI (σ 3))])), (g 3, .inr (4, [.int (iI (σ 4)), .int (iI (σ 5))])), (g 4, .inr (1, [.int (iI (0 + 1)), .ref u116, .int (iI (0 + 1))])), (g 5, .inr (1, [.int (iI (σ 7)), .ref (g 7), .int (iI (σ 7))])), (u116, .inl (cO, 10, .inr (.inr (.inr (.inr (va_up (fun _ => none) 0 (some (q102)))))))), (q102, .inr (2, [.int (iI (mo)), .int (iI (da)), .int (iI (mn)), .int (iI (wd)), .int (iI (of))]))] ++ WH cI cO g σ P) := hD
                        exact q_gpret (cells := 2) (slots := 15) (mc := 2) (ms := 15) (gF g (σ 6).toNat u116 q102) hx hb hr hlocks hS (by omega) (⟨gF_ne (by omega) (by omega), fun h => absurd (show σ 6 + 1 = 0 from h) (by omega), fun h => (gF_ne (by omega) (by omega)).trans (he7 h)⟩) (WC_feastP (fA := fun _ => none) rfl (by omega) (by omega) (fun j => by rw [if_neg (by omega)]) (by rw [hc6]; exact hP) (by rw [hc6]; exact hD)) (Nat.le_of_ble_eq_true rfl) (Nat.le_of_ble_eq_true rfl) dX5_addFeast_129
                      · skip
                        exfalso
                        omega
                    · skip
                      exfalso
                      omega
            · skip
              exfalso
              omega
set_option maxHeartbeats 4000000 in
set_option maxRecDepth 100000 in
theorem t_addFeastB (l : Launch) (D : va_G) (sz : Nat) (ed : Nat × Nat × Nat) (cI cO cL : ClassId) (g : Nat → Nat) (σ T P : Nat → Int) (hW : WF σ T) (hS0 : WS σ P) (he6 : σ 6 = 0 → g 6 = ed.1) (he7 : σ 7 = 0 → g 7 = ed.1)  (hc6 : 0 < σ 6) (mo da mn wd of : Int) (h0 : 0 ≤ mo ∧ mo ≤ 11) (h1 : 0 ≤ da ∧ da ≤ 29) (h2 : 0 ≤ mn ∧ mn ≤ 3) (h3 : -1 ≤ wd ∧ wd ≤ 6) (h4 : -60 ≤ of ∧ of ≤ 60) (h8 : σ 6 ≠ 8) : MT l yX5_addFeast wsX5_addFeast 5 108 2 15 D cI cO cL sz g σ T P [.ref (g 0), .int (iI (mo)), .int (iI (da)), .int (iI (mn)), .int (iI (wd)), .int (iI (of))] ed (σ 6) (st σ 6 (σ 6 + 1)) (m_tp T (σ 6).toNat mo da mn wd of) (P) := by
  refine MGp_of (cc := cX5_addFeast) (maxL := 6) (ret := (some .int)) (by decide) rfl (Nat.le_of_ble_eq_true rfl) ?_
  intro p e s m args below meth c ls hx hb hr hlocks hml hown hts hsz hP hK hD hS hA hin hE hT hl
  have hl : lv_has ls 6 [(0, .ref (g 0)), (1, .int (iI (mo))), (2, .int (iI (da))), (3, .int (iI (mn))), (4, .int (iI (wd))), (5, .int (iI (of)))] := hl
  have hin_X5 : ∀ w ∈ u_ws RX5 TX5 7, w ∈ wsX5_addFeast := (fun w h => List.mem_cons_of_mem _ (List.mem_append_left _ (List.mem_append_left _ (List.mem_append_left _ (List.mem_append_left _ (List.mem_append_right _ h))))))
  have hP : va_P D vwCl ([(g 0, .inr (7, [.ref (g 1), .ref (g 2), .ref (g 3), .ref (g 4), .ref (g 5), .int (iI (σ 9)), .int (iI (σ 10))])), (g 1, .inr (6, [.int (iI (σ 0)), .int (iI (σ 1))])), (g 2, .inr (3, [.int (iI (σ 2)), .int (iI (σ 3))])), (g 3, .inr (4, [.int (iI (σ 4)), .int (iI (σ 5))])), (g 4, .inr (1, [.int (iI (σ 6)), .ref (g 6), .int (iI (σ 6))])), (g 5, .inr (1, [.int (iI (σ 7)), .ref (g 7), .int (iI (σ 7))]))] ++ ((wAr cO g 6 (σ 6).toNat 10 ++ wFe g T (σ 6).toNat) ++ WH cI cO g σ P)) s.heap := hP
  have hD : va_D (va_A (WC cI cO g σ T P) sz) ([(g 0, .inr (7, [.ref (g 1), .ref (g 2), .ref (g 3), .ref (g 4), .ref (g 5), .int (iI (σ 9)), .int (iI (σ 10))])), (g 1, .inr (6, [.int (iI (σ 0)), .int (iI (σ 1))])), (g 2, .inr (3, [.int (iI (σ 2)), .int (iI (σ 3))])), (g 3, .inr (4, [.int (iI (σ 4)), .int (iI (σ 5))])), (g 4, .inr (1, [.int (iI (σ 6)), .ref (g 6), .int (iI (σ 6))])), (g 5, .inr (1, [.int (iI (σ 7)), .ref (g 7), .int (iI (σ 7))]))] ++ ((wAr cO g 6 (σ 6).toNat 10 ++ wFe g T (σ 6).toNat) ++ WH cI cO g σ P)) := hD
  obtain ⟨w0, w1, w2, w3, w4, w5, w6, w7, w8⟩ := id hW
  refine lv_iload_n hx hb dX5_addFeast_0 rfl (lv_at hl 1 rfl) ?_
  refine q_if_lt (tgt := 29) hx hb dX5_addFeast_1 (by decide) (by omega) (fun c_1 => ?_) (fun c_1 => ?_)
  · skip
    exfalso
    omega
  · skip
    refine lv_iload_n hx hb dX5_addFeast_4 rfl (lv_at hl 1 rfl) ?_
    refine q_bipush hx hb dX5_addFeast_5 (by decide) ?_
    refine q_icmp_ge (tgt := 29) hx hb dX5_addFeast_7 (by decide) (by omega) (by omega) (fun c_2 => ?_) (fun c_2 => ?_)
    · skip
      exfalso
      omega
    · skip
      refine lv_iload_n hx hb dX5_addFeast_10 rfl (lv_at hl 2 rfl) ?_
      refine q_if_lt (tgt := 29) hx hb dX5_addFeast_11 (by decide) (by omega) (fun c_3 => ?_) (fun c_3 => ?_)
      · skip
        exfalso
        omega
      · skip
        refine lv_iload_n hx hb dX5_addFeast_14 rfl (lv_at hl 2 rfl) ?_
        refine q_bipush hx hb dX5_addFeast_15 (by decide) ?_
        refine q_icmp_gt (tgt := 29) hx hb dX5_addFeast_17 (by decide) (by omega) (by omega) (fun c_4 => ?_) (fun c_4 => ?_)
        · skip
          exfalso
          omega
        · skip
          refine lv_iload_n hx hb dX5_addFeast_20 rfl (lv_at hl 3 rfl) ?_
          refine q_if_lt (tgt := 29) hx hb dX5_addFeast_21 (by decide) (by omega) (fun c_5 => ?_) (fun c_5 => ?_)
          · skip
            exfalso
            omega
          · skip
            refine lv_iload_n hx hb dX5_addFeast_24 rfl (lv_at hl 3 rfl) ?_
            refine q_iconst hx hb dX5_addFeast_25 ?_
            refine q_icmp_le (tgt := 39) hx hb dX5_addFeast_26 (by decide) (by omega) (by omega) (fun c_6 => ?_) (fun c_6 => ?_)
            · skip
              refine lv_iload hx hb dX5_addFeast_39 (lv_at hl 4 rfl) ?_
              refine q_iconst hx hb dX5_addFeast_41 ?_
              refine q_icmp_lt (tgt := 66) hx hb dX5_addFeast_42 (by decide) (by omega) (by omega) (fun c_7 => ?_) (fun c_7 => ?_)
              · skip
                exfalso
                omega
              · skip
                refine lv_iload hx hb dX5_addFeast_45 (lv_at hl 4 rfl) ?_
                refine q_bipush hx hb dX5_addFeast_47 (by decide) ?_
                refine q_icmp_ge (tgt := 66) hx hb dX5_addFeast_49 (by decide) (by omega) (by omega) (fun c_8 => ?_) (fun c_8 => ?_)
                · skip
                  exfalso
                  omega
                · skip
                  refine lv_iload hx hb dX5_addFeast_52 (lv_at hl 5 rfl) ?_
                  refine q_bipush hx hb dX5_addFeast_54 (by decide) ?_
                  refine q_icmp_lt (tgt := 66) hx hb dX5_addFeast_56 (by decide) (by omega) (by omega) (fun c_9 => ?_) (fun c_9 => ?_)
                  · skip
                    exfalso
                    omega
                  · skip
                    refine lv_iload hx hb dX5_addFeast_59 (lv_at hl 5 rfl) ?_
                    refine q_bipush hx hb dX5_addFeast_61 (by decide) ?_
                    refine q_icmp_le (tgt := 76) hx hb dX5_addFeast_63 (by decide) (by omega) (by omega) (fun c_10 => ?_) (fun c_10 => ?_)
                    · skip
                      refine lv_aload_n hx hb dX5_addFeast_76 rfl (lv_at hl 0 rfl) ?_
                      refine q_get (ci := 7) (C := RX5) (T := TX5) (N := 7) hx hb hts hin_X5 hown hK (v := .ref (g 4)) (hP 0 _ rfl) rfl 3 (by decide) (hts (.fieldLink RX5 33 "AlmanacHouse" "feasts" "Ljava/util/ArrayList;") (List.mem_of_getElem? (i := 5) rfl)) (fun _ h9 => h9) rfl dX5_addFeast_77 ?_
                      refine q_callV (fr := 0) (lo := 0) (nL := 6) (Pic := ob D (g 4) 1 [.int (iI (σ 6)), .ref (g 6), .int (iI (σ 6))]) (As := []) (rest := []) ⟨hx, hb, hml, hown, hts⟩ (c_size l D (ty3 cI cO cL) (g 4) (g 6) (σ 6) (σ 6)) (cwV 0 hts gX5_addFeast_Jx4a65c_size_8abf5 rfl rfl rfl (by decide +kernel) ⟨Nat.le_of_ble_eq_true rfl, Nat.le_of_ble_eq_true rfl⟩) (ob_recv (hP 4 _ rfl) hK rfl) (hP 4 _ rfl) hK rfl hl.1 rfl (Nat.le_of_ble_eq_true rfl) dX5_addFeast_80 (Nat.zero_le _) (Nat.zero_le _) ?_
                      refine q_bipush hx hb dX5_addFeast_83 (by decide) ?_
                      refine q_icmp_lt (tgt := 98) hx hb dX5_addFeast_85 (by decide) (by omega) (by omega) (fun c_11 => ?_) (fun c_11 => ?_)
                      · skip
                        rw [WFone hc6] at hP hD
                        obtain ⟨hP, hD⟩ := va_mid (ex := [(g 0, .inr (7, [.ref (g 1), .ref (g 2), .ref (g 3), .ref (g 4), .ref (g 5), .int (iI (σ 9)), .int (iI (σ 10))])), (g 1, .inr (6, [.int (iI (σ 0)), .int (iI (σ 1))])), (g 2, .inr (3, [.int (iI (σ 2)), .int (iI (σ 3))])), (g 3, .inr (4, [.int (iI (σ 4)), .int (iI (σ 5))])), (g 4, .inr (1, [.int (iI (σ 6)), .ref (g 6), .int (iI (σ 6))])), (g 5, .inr (1, [.int (iI (σ 7)), .ref (g 7), .int (iI (σ 7))]))]) (t1 := []) (t2 := (wFe g T (σ 6).toNat ++ WH cI cO g σ P)) (by exact hP) (by exact hD)
                        have hP : va_P D vwCl ([(g 6, .inl (cO, 10, .inr (.inr (.inr (.inr (fun j => if j < (σ 6).toNat then some (g (10 + j)) else none)))))), (g 0, .inr (7, [.ref (g 1), .ref (g 2), .ref (g 3), .ref (g 4), .ref (g 5), .int (iI (σ 9)), .int (iI (σ 10))])), (g 1, .inr (6, [.int (iI (σ 0)), .int (iI (σ 1))])), (g 2, .inr (3, [.int (iI (σ 2)), .int (iI (σ 3))])), (g 3, .inr (4, [.int (iI (σ 4)), .int (iI (σ 5))])), (g 4, .inr (1, [.int (iI (σ 6)), .ref (g 6), .int (iI (σ 6))])), (g 5, .inr (1, [.int (iI (σ 7)), .ref (g 7), .int (iI (σ 7))]))] ++ (wFe g T (σ 6).toNat ++ WH cI cO g σ P)) s.heap := hP
                        have hD : va_D (va_A (WC cI cO g σ T P) sz) ([(g 6, .inl (cO, 10, .inr (.inr (.inr (.inr (fun j => if j < (σ 6).toNat then some (g (10 + j)) else none)))))), (g 0, .inr (7, [.ref (g 1), .ref (g 2), .ref (g 3), .ref (g 4), .ref (g 5), .int (iI (σ 9)), .int (iI (σ 10))])), (g 1, .inr (6, [.int (iI (σ 0)), .int (iI (σ 1))])), (g 2, .inr (3, [.int (iI (σ 2)), .int (iI (σ 3))])), (g 3, .inr (4, [.int (iI (σ 4)), .int (iI (σ 5))])), (g 4, .inr (1, [.int (iI (σ 6)), .ref (g 6), .int (iI (σ 6))])), (g 5, .inr (1, [.int (iI (σ 7)), .ref (g 7), .int (iI (σ 7))]))] ++ (wFe g T (σ 6).toNat ++ WH cI cO g σ P)) := hD
                        refine lv_aload_n hx hb dX5_addFeast_98 rfl (lv_at hl 0 rfl) ?_
                        refine q_get (ci := 7) (C := RX5) (T := TX5) (N := 7) hx hb hts hin_X5 hown hK (v := .ref (g 4)) (hP 1 _ rfl) rfl 3 (by decide) (hts (.fieldLink RX5 33 "AlmanacHouse" "feasts" "Ljava/util/ArrayList;") (List.mem_of_getElem? (i := 5) rfl)) (fun _ h9 => h9) rfl dX5_addFeast_99 ?_
                        refine q_newo (T := TX0) (N := 5) (ci := 2) (fs := [.int (iI (0)), .int (iI (0)), .int (iI (0)), .int (iI (0)), .int (iI (0))]) hx hb hts (fun w h => List.mem_cons_of_mem _ (List.mem_append_left _ (List.mem_append_left _ (List.mem_append_left _ (List.mem_append_right _ h))))) tyX0 tyX0_ok hown (hts (.classLink RX5 173 RX0) (List.mem_of_getElem? (i := 6) rfl)) (hts (.instantiable RX0 5) (List.mem_of_getElem? (i := 7) rfl)) (hts (.initialized RX0) (List.mem_of_getElem? (i := 8) rfl)) hK hP hD hS hA rfl (by decide +kernel) (Nat.le_of_ble_eq_true rfl) (Nat.le_of_ble_eq_true rfl) dX5_addFeast_102 ?_
                        intro q102 H hP hD hS
                        have hP : va_P D vwCl ([(q102, .inr (2, [.int (iI (0)), .int (iI (0)), .int (iI (0)), .int (iI (0)), .int (iI (0))])), (g 6, .inl (cO, 10, .inr (.inr (.inr (.inr (fun j => if j < (σ 6).toNat then some (g (10 + j)) else none)))))), (g 0, .inr (7, [.ref (g 1), .ref (g 2), .ref (g 3), .ref (g 4), .ref (g 5), .int (iI (σ 9)), .int (iI (σ 10))])), (g 1, .inr (6, [.int (iI (σ 0)), .int (iI (σ 1))])), (g 2, .inr (3, [.int (iI (σ 2)), .int (iI (σ 3))])), (g 3, .inr (4, [.int (iI (σ 4)), .int (iI (σ 5))])), (g 4, .inr (1, [.int (iI (σ 6)), .ref (g 6), .int (iI (σ 6))])), (g 5, .inr (1, [.int (iI (σ 7)), .ref (g 7), .int (iI (σ 7))]))] ++ (wFe g T (σ 6).toNat ++ WH cI cO g σ P)) H := hP
                        have hD : va_D (va_A (WC cI cO g σ T P) sz) ([(q102, .inr (2, [.int (iI (0)), .int (iI (0)), .int (iI (0)), .int (iI (0)), .int (iI (0))])), (g 6, .inl (cO, 10, .inr (.inr (.inr (.inr (fun j => if j < (σ 6).toNat then some (g (10 + j)) else none)))))), (g 0, .inr (7, [.ref (g 1), .ref (g 2), .ref (g 3), .ref (g 4), .ref (g 5), .int (iI (σ 9)), .int (iI (σ 10))])), (g 1, .inr (6, [.int (iI (σ 0)), .int (iI (σ 1))])), (g 2, .inr (3, [.int (iI (σ 2)), .int (iI (σ 3))])), (g 3, .inr (4, [.int (iI (σ 4)), .int (iI (σ 5))])), (g 4, .inr (1, [.int (iI (σ 6)), .ref (g 6), .int (iI (σ 6))])), (g 5, .inr (1, [.int (iI (σ 7)), .ref (g 7), .int (iI (σ 7))]))] ++ (wFe g T (σ 6).toNat ++ WH cI cO g σ P)) := hD
                        refine lv_dup hx hb dX5_addFeast_105 rfl ?_
                        refine lv_iload_n hx hb dX5_addFeast_106 rfl (lv_at hl 1 rfl) ?_
                        refine lv_iload_n hx hb dX5_addFeast_107 rfl (lv_at hl 2 rfl) ?_
                        refine lv_iload_n hx hb dX5_addFeast_108 rfl (lv_at hl 3 rfl) ?_
                        refine lv_iload hx hb dX5_addFeast_109 (lv_at hl 4 rfl) ?_
                        refine lv_iload hx hb dX5_addFeast_111 (lv_at hl 5 rfl) ?_
                        refine q_callGc (fr := 1) (lo := 20) (nL := 6) (wc := [(q102, .inr (2, [.int (iI (0)), .int (iI (0)), .int (iI (0)), .int (iI (0)), .int (iI (0))]))]) (wr := [(g 6, .inl (cO, 10, .inr (.inr (.inr (.inr (fun j => if j < (σ 6).toNat then some (g (10 + j)) else none)))))), (g 0, .inr (7, [.ref (g 1), .ref (g 2), .ref (g 3), .ref (g 4), .ref (g 5), .int (iI (σ 9)), .int (iI (σ 10))])), (g 1, .inr (6, [.int (iI (σ 0)), .int (iI (σ 1))])), (g 2, .inr (3, [.int (iI (σ 2)), .int (iI (σ 3))])), (g 3, .inr (4, [.int (iI (σ 4)), .int (iI (σ 5))])), (g 4, .inr (1, [.int (iI (σ 6)), .ref (g 6), .int (iI (σ 6))])), (g 5, .inr (1, [.int (iI (σ 7)), .ref (g 7), .int (iI (σ 7))]))] ++ (wFe g T (σ 6).toNat ++ WH cI cO g σ P)) (As := [.int (iI (mo)), .int (iI (da)), .int (iI (mn)), .int (iI (wd)), .int (iI (of))]) (rest := [.ref q102, .ref (g 4)]) ⟨hx, hb, hml, hown, hts⟩ (g_feastInit l D _ ed cI cO cL q102 (mo) (da) (mn) (wd) (of)) (cwI 5 hts gX5_addFeast_X0_init rfl rfl rfl (hts (.initialized RX0) (List.mem_of_getElem? (i := 8) rfl)) (hts (.methodLink RX5 175 yX0_init) (List.mem_of_getElem? (i := 15) rfl)) (hts (.instanceMethod yX0_init) (List.mem_of_getElem? (i := 16) rfl)) rfl (by decide +kernel) ⟨Nat.le_of_ble_eq_true rfl, Nat.le_of_ble_eq_true rfl⟩) hP hD hS hA hK hE hT rfl hl.1 rfl (Nat.le_of_ble_eq_true rfl) dX5_addFeast_113 (Nat.le_of_ble_eq_true rfl) (Nat.le_of_ble_eq_true rfl) ?_
                        intro _u H locs hP hD hS
                        have hP : va_P D vwCl ([(q102, .inr (2, [.int (iI (mo)), .int (iI (da)), .int (iI (mn)), .int (iI (wd)), .int (iI (of))])), (g 6, .inl (cO, 10, .inr (.inr (.inr (.inr (fun j => if j < (σ 6).toNat then some (g (10 + j)) else none)))))), (g 0, .inr (7, [.ref (g 1), .ref (g 2), .ref (g 3), .ref (g 4), .ref (g 5), .int (iI (σ 9)), .int (iI (σ 10))])), (g 1, .inr (6, [.int (iI (σ 0)), .int (iI (σ 1))])), (g 2, .inr (3, [.int (iI (σ 2)), .int (iI (σ 3))])), (g 3, .inr (4, [.int (iI (σ 4)), .int (iI (σ 5))])), (g 4, .inr (1, [.int (iI (σ 6)), .ref (g 6), .int (iI (σ 6))])), (g 5, .inr (1, [.int (iI (σ 7)), .ref (g 7), .int (iI (σ 7))]))] ++ (wFe g T (σ 6).toNat ++ WH cI cO g σ P)) H := hP
                        have hD : va_D (va_A (WC cI cO g σ T P) sz) ([(q102, .inr (2, [.int (iI (mo)), .int (iI (da)), .int (iI (mn)), .int (iI (wd)), .int (iI (of))])), (g 6, .inl (cO, 10, .inr (.inr (.inr (.inr (fun j => if j < (σ 6).toNat then some (g (10 + j)) else none)))))), (g 0, .inr (7, [.ref (g 1), .ref (g 2), .ref (g 3), .ref (g 4), .ref (g 5), .int (iI (σ 9)), .int (iI (σ 10))])), (g 1, .inr (6, [.int (iI (σ 0)), .int (iI (σ 1))])), (g 2, .inr (3, [.int (iI (σ 2)), .int (iI (σ 3))])), (g 3, .inr (4, [.int (iI (σ 4)), .int (iI (σ 5))])), (g 4, .inr (1, [.int (iI (σ 6)), .ref (g 6), .int (iI (σ 6))])), (g 5, .inr (1, [.int (iI (σ 7)), .ref (g 7), .int (iI (σ 7))]))] ++ (wFe g T (σ 6).toNat ++ WH cI cO g σ P)) := hD
                        obtain ⟨hP, hD⟩ := va_reo (ex := [(q102, .inr (2, [.int (iI (mo)), .int (iI (da)), .int (iI (mn)), .int (iI (wd)), .int (iI (of))])), (g 6, .inl (cO, 10, .inr (.inr (.inr (.inr (fun j => if j < (σ 6).toNat then some (g (10 + j)) else none)))))), (g 0, .inr (7, [.ref (g 1), .ref (g 2), .ref (g 3), .ref (g 4), .ref (g 5), .int (iI (σ 9)), .int (iI (σ 10))])), (g 1, .inr (6, [.int (iI (σ 0)), .int (iI (σ 1))])), (g 2, .inr (3, [.int (iI (σ 2)), .int (iI (σ 3))])), (g 3, .inr (4, [.int (iI (σ 4)), .int (iI (σ 5))])), (g 4, .inr (1, [.int (iI (σ 6)), .ref (g 6), .int (iI (σ 6))])), (g 5, .inr (1, [.int (iI (σ 7)), .ref (g 7), .int (iI (σ 7))]))]) (ex' := [(g 4, .inr (1, [.int (iI (σ 6)), .ref (g 6), .int (iI (σ 6))])), (g 6, .inl (cO, 10, .inr (.inr (.inr (.inr (fun j => if j < (σ 6).toNat then some (g (10 + j)) else none)))))), (q102, .inr (2, [.int (iI (mo)), .int (iI (da)), .int (iI (mn)), .int (iI (wd)), .int (iI (of))])), (g 0, .inr (7, [.ref (g 1), .ref (g 2), .ref (g 3), .ref (g 4), .ref (g 5), .int (iI (σ 9)), .int (iI (σ 10))])), (g 1, .inr (6, [.int (iI (σ 0)), .int (iI (σ 1))])), (g 2, .inr (3, [.int (iI (σ 2)), .int (iI (σ 3))])), (g 3, .inr (4, [.int (iI (σ 4)), .int (iI (σ 5))])), (g 5, .inr (1, [.int (iI (σ 7)), .ref (g 7), .int (iI (σ 7))]))]) (tl := (wFe g T (σ 6).toNat ++ WH cI cO g σ P)) [6, 1, 0, 2, 3, 4, 5, 7] rfl 8 rfl (by decide) (by exact hP) (by exact hD)
                        have hP : va_P D vwCl ([(g 4, .inr (1, [.int (iI (σ 6)), .ref (g 6), .int (iI (σ 6))])), (g 6, .inl (cO, 10, .inr (.inr (.inr (.inr (fun j => if j < (σ 6).toNat then some (g (10 + j)) else none)))))), (q102, .inr (2, [.int (iI (mo)), .int (iI (da)), .int (iI (mn)), .int (iI (wd)), .int (iI (of))])), (g 0, .inr (7, [.ref (g 1), .ref (g 2), .ref (g 3), .ref (g 4), .ref (g 5), .int (iI (σ 9)), .int (iI (σ 10))])), (g 1, .inr (6, [.int (iI (σ 0)), .int (iI (σ 1))])), (g 2, .inr (3, [.int (iI (σ 2)), .int (iI (σ 3))])), (g 3, .inr (4, [.int (iI (σ 4)), .int (iI (σ 5))])), (g 5, .inr (1, [.int (iI (σ 7)), .ref (g 7), .int (iI (σ 7))]))] ++ (wFe g T (σ 6).toNat ++ WH cI cO g σ P)) H := hP
                        have hD : va_D (va_A (WC cI cO g σ T P) sz) ([(g 4, .inr (1, [.int (iI (σ 6)), .ref (g 6), .int (iI (σ 6))])), (g 6, .inl (cO, 10, .inr (.inr (.inr (.inr (fun j => if j < (σ 6).toNat then some (g (10 + j)) else none)))))), (q102, .inr (2, [.int (iI (mo)), .int (iI (da)), .int (iI (mn)), .int (iI (wd)), .int (iI (of))])), (g 0, .inr (7, [.ref (g 1), .ref (g 2), .ref (g 3), .ref (g 4), .ref (g 5), .int (iI (σ 9)), .int (iI (σ 10))])), (g 1, .inr (6, [.int (iI (σ 0)), .int (iI (σ 1))])), (g 2, .inr (3, [.int (iI (σ 2)), .int (iI (σ 3))])), (g 3, .inr (4, [.int (iI (σ 4)), .int (iI (σ 5))])), (g 5, .inr (1, [.int (iI (σ 7)), .ref (g 7), .int (iI (σ 7))]))] ++ (wFe g T (σ 6).toNat ++ WH cI cO g σ P)) := hD
                        refine q_callGi (fr := 4) (lo := 87) (nL := 6) (wc := [(g 4, .inr (1, [.int (iI (σ 6)), .ref (g 6), .int (iI (σ 6))])), (g 6, .inl (cO, 10, .inr (.inr (.inr (.inr (fun j => if j < (σ 6).toNat then some (g (10 + j)) else none)))))), (q102, .inr (2, [.int (iI (mo)), .int (iI (da)), .int (iI (mn)), .int (iI (wd)), .int (iI (of))]))]) (wr := [(g 0, .inr (7, [.ref (g 1), .ref (g 2), .ref (g 3), .ref (g 4), .ref (g 5), .int (iI (σ 9)), .int (iI (σ 10))])), (g 1, .inr (6, [.int (iI (σ 0)), .int (iI (σ 1))])), (g 2, .inr (3, [.int (iI (σ 2)), .int (iI (σ 3))])), (g 3, .inr (4, [.int (iI (σ 4)), .int (iI (σ 5))])), (g 5, .inr (1, [.int (iI (σ 7)), .ref (g 7), .int (iI (σ 7))]))] ++ (wFe g T (σ 6).toNat ++ WH cI cO g σ P)) (As := [.ref q102]) (rest := []) ⟨hx, hb, hml, hown, hts⟩ (g_addb l D _ ed cI cO cL (g 4) (σ 6) q102 2 [.int (iI (mo)), .int (iI (da)), .int (iI (mn)), .int (iI (wd)), .int (iI (of))] (RX0, TX0, 5) rfl (Or.inl rfl) (g 6) (σ 6) (fun j => if j < (σ 6).toNat then some (g (10 + j)) else none) (by omega)) (cwV 1 hts gX5_addFeast_Jx4a65c_add_9ea2d rfl rfl rfl (by decide +kernel) ⟨Nat.le_of_ble_eq_true rfl, Nat.le_of_ble_eq_true rfl⟩) (ob_recv (hP 0 _ rfl) hK rfl) hP hD hS hA hK hE hT rfl hl.1 rfl (Nat.le_of_ble_eq_true rfl) dX5_addFeast_116 (Nat.le_of_ble_eq_true rfl) (Nat.le_of_ble_eq_true rfl) ?_
                        intro _u116 H locs hP hD hS
                        have hP : va_P D vwCl ([(g 4, .inr (1, [.int (iI (σ 6 + 1)), .ref (g 6), .int (iI (σ 6 + 1))])), (g 6, .inl (cO, 10, .inr (.inr (.inr (.inr (va_up (fun j => if j < (σ 6).toNat then some (g (10 + j)) else none) (Int.toNat (σ 6)) (some (q102)))))))), (q102, .inr (2, [.int (iI (mo)), .int (iI (da)), .int (iI (mn)), .int (iI (wd)), .int (iI (of))])), (g 0, .inr (7, [.ref (g 1), .ref (g 2), .ref (g 3), .ref (g 4), .ref (g 5), .int (iI (σ 9)), .int (iI (σ 10))])), (g 1, .inr (6, [.int (iI (σ 0)), .int (iI (σ 1))])), (g 2, .inr (3, [.int (iI (σ 2)), .int (iI (σ 3))])), (g 3, .inr (4, [.int (iI (σ 4)), .int (iI (σ 5))])), (g 5, .inr (1, [.int (iI (σ 7)), .ref (g 7), .int (iI (σ 7))]))] ++ (wFe g T (σ 6).toNat ++ WH cI cO g σ P)) H := hP
                        have hD : va_D (va_A (WC cI cO g σ T P) sz) ([(g 4, .inr (1, [.int (iI (σ 6 + 1)), .ref (g 6), .int (iI (σ 6 + 1))])), (g 6, .inl (cO, 10, .inr (.inr (.inr (.inr (va_up (fun j => if j < (σ 6).toNat then some (g (10 + j)) else none) (Int.toNat (σ 6)) (some (q102)))))))), (q102, .inr (2, [.int (iI (mo)), .int (iI (da)), .int (iI (mn)), .int (iI (wd)), .int (iI (of))])), (g 0, .inr (7, [.ref (g 1), .ref (g 2), .ref (g 3), .ref (g 4), .ref (g 5), .int (iI (σ 9)), .int (iI (σ 10))])), (g 1, .inr (6, [.int (iI (σ 0)), .int (iI (σ 1))])), (g 2, .inr (3, [.int (iI (σ 2)), .int (iI (σ 3))])), (g 3, .inr (4, [.int (iI (σ 4)), .int (iI (σ 5))])), (g 5, .inr (1, [.int (iI (σ 7)), .ref (g 7), .int (iI (σ 7))]))] ++ (wFe g T (σ 6).toNat ++ WH cI cO g σ P)) := hD
                        refine lv_pop hx hb dX5_addFeast_119 rfl ?_
                        refine lv_aload_n hx hb dX5_addFeast_120 rfl (lv_at hl 0 rfl) ?_
                        refine q_get (ci := 7) (C := RX5) (T := TX5) (N := 7) hx hb hts hin_X5 hown hK (v := .ref (g 4)) (hP 3 _ rfl) rfl 3 (by decide) (hts (.fieldLink RX5 33 "AlmanacHouse" "feasts" "Ljava/util/ArrayList;") (List.mem_of_getElem? (i := 5) rfl)) (fun _ h9 => h9) rfl dX5_addFeast_121 ?_
                        refine q_callV (fr := 0) (lo := 0) (nL := 6) (Pic := ob D (g 4) 1 [.int (iI (σ 6 + 1)), .ref (g 6), .int (iI (σ 6 + 1))]) (As := []) (rest := []) ⟨hx, hb, hml, hown, hts⟩ (c_size l D (ty3 cI cO cL) (g 4) (g 6) (σ 6 + 1) (σ 6 + 1)) (cwV 0 hts gX5_addFeast_Jx4a65c_size_8abf5 rfl rfl rfl (by decide +kernel) ⟨Nat.le_of_ble_eq_true rfl, Nat.le_of_ble_eq_true rfl⟩) (ob_recv (hP 0 _ rfl) hK rfl) (hP 0 _ rfl) hK rfl hl.1 rfl (Nat.le_of_ble_eq_true rfl) dX5_addFeast_124 (Nat.le_of_ble_eq_true rfl) (Nat.le_of_ble_eq_true rfl) ?_
                        refine q_iconst hx hb dX5_addFeast_127 ?_
                        refine q_isub hx hb dX5_addFeast_128 ?_
                        obtain ⟨hP, hD⟩ := va_reo (ex := [(g 4, .inr (1, [.int (iI (σ 6 + 1)), .ref (g 6), .int (iI (σ 6 + 1))])), (g 6, .inl (cO, 10, .inr (.inr (.inr (.inr (va_up (fun j => if j < (σ 6).toNat then some (g (10 + j)) else none) (Int.toNat (σ 6)) (some (q102)))))))), (q102, .inr (2, [.int (iI (mo)), .int (iI (da)), .int (iI (mn)), .int (iI (wd)), .int (iI (of))])), (g 0, .inr (7, [.ref (g 1), .ref (g 2), .ref (g 3), .ref (g 4), .ref (g 5), .int (iI (σ 9)), .int (iI (σ 10))])), (g 1, .inr (6, [.int (iI (σ 0)), .int (iI (σ 1))])), (g 2, .inr (3, [.int (iI (σ 2)), .int (iI (σ 3))])), (g 3, .inr (4, [.int (iI (σ 4)), .int (iI (σ 5))])), (g 5, .inr (1, [.int (iI (σ 7)), .ref (g 7), .int (iI (σ 7))]))]) (ex' := [(g 0, .inr (7, [.ref (g 1), .ref (g 2), .ref (g 3), .ref (g 4), .ref (g 5), .int (iI (σ 9)), .int (iI (σ 10))])), (g 1, .inr (6, [.int (iI (σ 0)), .int (iI (σ 1))])), (g 2, .inr (3, [.int (iI (σ 2)), .int (iI (σ 3))])), (g 3, .inr (4, [.int (iI (σ 4)), .int (iI (σ 5))])), (g 4, .inr (1, [.int (iI (σ 6 + 1)), .ref (g 6), .int (iI (σ 6 + 1))])), (g 5, .inr (1, [.int (iI (σ 7)), .ref (g 7), .int (iI (σ 7))])), (g 6, .inl (cO, 10, .inr (.inr (.inr (.inr (va_up (fun j => if j < (σ 6).toNat then some (g (10 + j)) else none) (Int.toNat (σ 6)) (some (q102)))))))), (q102, .inr (2, [.int (iI (mo)), .int (iI (da)), .int (iI (mn)), .int (iI (wd)), .int (iI (of))]))]) (tl := (wFe g T (σ 6).toNat ++ WH cI cO g σ P)) [3, 4, 5, 6, 0, 7, 1, 2] rfl 8 rfl (by decide) (by exact hP) (by exact hD)
                        have hP : va_P D vwCl ([(g 0, .inr (7, [.ref (g 1), .ref (g 2), .ref (g 3), .ref (g 4), .ref (g 5), .int (iI (σ 9)), .int (iI (σ 10))])), (g 1, .inr (6, [.int (iI (σ 0)), .int (iI (σ 1))])), (g 2, .inr (3, [.int (iI (σ 2)), .int (iI (σ 3))])), (g 3, .inr (4, [.int (iI (σ 4)), .int (iI (σ 5))])), (g 4, .inr (1, [.int (iI (σ 6 + 1)), .ref (g 6), .int (iI (σ 6 + 1))])), (g 5, .inr (1, [.int (iI (σ 7)), .ref (g 7), .int (iI (σ 7))])), (g 6, .inl (cO, 10, .inr (.inr (.inr (.inr (va_up (fun j => if j < (σ 6).toNat then some (g (10 + j)) else none) (Int.toNat (σ 6)) (some (q102)))))))), (q102, .inr (2, [.int (iI (mo)), .int (iI (da)), .int (iI (mn)), .int (iI (wd)), .int (iI (of))]))] ++ (wFe g T (σ 6).toNat ++ WH cI cO g σ P)) H := hP
                        have hD : va_D (va_A (WC cI cO g σ T P) sz) ([(g 0, .inr (7, [.ref (g 1), .ref (g 2), .ref (g 3), .ref (g 4), .ref (g 5), .int (iI (σ 9)), .int (iI (σ 10))])), (g 1, .inr (6, [.int (iI (σ 0)), .int (iI (σ 1))])), (g 2, .inr (3, [.int (iI (σ 2)), .int (iI (σ 3))])), (g 3, .inr (4, [.int (iI (σ 4)), .int (iI (σ 5))])), (g 4, .inr (1, [.int (iI (σ 6 + 1)), .ref (g 6), .int (iI (σ 6 + 1))])), (g 5, .inr (1, [.int (iI (σ 7)), .ref (g 7), .int (iI (σ 7))])), (g 6, .inl (cO, 10, .inr (.inr (.inr (.inr (va_up (fun j => if j < (σ 6).toNat then some (g (10 + j)) else none) (Int.toNat (σ 6)) (some (q102)))))))), (q102, .inr (2, [.int (iI (mo)), .int (iI (da)), .int (iI (mn)), .int (iI (wd)), .int (iI (of))]))] ++ (wFe g T (σ 6).toNat ++ WH cI cO g σ P)) := hD
                        exact q_gpret (cells := 2) (slots := 15) (mc := 2) (ms := 15) (gF g (σ 6).toNat (g 6) q102) hx hb hr hlocks hS (by omega) (⟨gF_ne (by omega) (by omega), fun h => absurd (show σ 6 + 1 = 0 from h) (by omega), fun h => (gF_ne (by omega) (by omega)).trans (he7 h)⟩) (WC_feastP (fA := fun j => if j < (σ 6).toNat then some (g (10 + j)) else none) rfl (by omega) (by omega) (fun j => rfl) (by exact hP) (by exact hD)) (Nat.le_of_ble_eq_true rfl) (Nat.le_of_ble_eq_true rfl) dX5_addFeast_129
                      · skip
                        exfalso
                        omega
                    · skip
                      exfalso
                      omega
            · skip
              exfalso
              omega
