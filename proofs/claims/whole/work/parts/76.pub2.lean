theorem fl_Rips_233 : Cond.fieldLink R_Rips 233 "FaultRips$Plan" "facts" "[[I" ∈ TB := mem_TB 177 (by decide +kernel) (by decide +kernel)
theorem fl_Rips_243 : Cond.fieldLink R_Rips 243 "FaultRips$Sort" "price" "J" ∈ TB := mem_TB 458 (by decide +kernel) (by decide +kernel)
theorem fl_Rips_246 : Cond.fieldLink R_Rips 246 "FaultRips$Plan" "counts" "[I" ∈ TB := mem_TB 180 (by decide +kernel) (by decide +kernel)
theorem kc_Rips_231 : Cond.constantLong R_Rips 231 (iL 5) ∈ TB := mem_TB 761 (by decide +kernel) (by decide +kernel)
theorem kc_Rips_257 : Cond.constantLong R_Rips 257 (iL 100) ∈ TB := mem_TB 817 (by decide +kernel) (by decide +kernel)
theorem kc_Rips_261 : Cond.constantLong R_Rips 261 (iL 2147483647) ∈ TB := mem_TB 818 (by decide +kernel) (by decide +kernel)
theorem lk_Rips_228 : Cond.methodLink R_Rips 228 y_Rips_checkIndexOrNone ∈ TB := mem_TB 758 (by decide +kernel) (by decide +kernel)
theorem lk_Rips_237 : Cond.methodLink R_Rips 237 y_Rips_spanOf ∈ TB := mem_TB 769 (by decide +kernel) (by decide +kernel)
theorem lk_Rips_240 : Cond.methodLink R_Rips 240 y_Board_faultsIn ∈ TB := mem_TB 770 (by decide +kernel) (by decide +kernel)
theorem lk_Rips_263 : Cond.methodLink R_Rips 263 y_PanelMaker_pick ∈ TB := mem_TB 819 (by decide +kernel) (by decide +kernel)

abbrev q_cat0 (G : va_G) (ty : Nat → ClassId) (hF : Nat) (hB : Nat) (hT : Nat) (hG : Nat) (hC : Nat) (hQ : Nat) (hO : Nat) (hV : Nat) (hN : Nat) (wy : Nat) (sg_ : Nat) (md : Nat) (bd : Int) (aQ : Nat) (aC : Nat) (np : Nat) (rm : Nat) (tot : Int) (fQ : Nat → Option Nat) (aR : Nat → Nat) (fj : Nat → Nat) (kz : Int) (wh : Int) : Array Value → State → Outcome → State → Prop := vp_Si (fun r : Int32 => r = (nI (fj kz.toNat)))
set_option maxRecDepth 100000 in
set_option maxHeartbeats 4000000 in
theorem c_cat0 (l : Launch) (G : va_G) (ty : Nat → ClassId) (hF : Nat) (hB : Nat) (hT : Nat) (hG : Nat) (hC : Nat) (hQ : Nat) (hO : Nat) (hV : Nat) (hN : Nat) (wy : Nat) (sg_ : Nat) (md : Nat) (bd : Int) (aQ : Nat) (aC : Nat) (np : Nat) (rm : Nat) (tot : Int) (fQ : Nat → Option Nat) (aR : Nat → Nat) (fj : Nat → Nat) (kz : Int) (wh : Int) (g1 : md = 1) (gq : ∀ i, i < 6 → fQ i = some (aR i)) (gk : 0 ≤ kz ∧ kz < (np : Int)) (gnp : np ≤ rm ∧ rm ≤ 240) (ew : wh = 0) : Met l y_Rips_at ws_Rips_at { frames := 2, cells := 0, slots := 0, locals := 42 } (va_Pc [.ref hF, .int (iI kz), .int (iI wh)] (fun U => va_P G vwCl [(hF, .inr (9, [.ref hB, .ref hT, .ref hG, .ref hC, .ref hQ, .ref hO, .ref hV, .ref hN, .int (nI wy), .int (nI sg_), .int (nI md), .long (iL bd)])), (hQ, .inr (6, [.ref aQ, .ref aC, .int (nI np), .long (iL tot), .int (nI rm)])), (aQ, .inl (ty 5, 6, .inr (.inr (.inr (.inr fQ))))), (aR 0, .inl (ty 0, rm, .inl (nF fj)))] U.heap ∧ KX G ty U)) (q_cat0 G ty hF hB hT hG hC hQ hO hV hN wy sg_ md bd aQ aC np rm tot fQ aR fj kz wh) 0 0 (fun _ => False) := by
  refine met_ro R_Rips (by decide) rfl rfl (Nat.le_of_ble_eq_true rfl) ?_
  intro p e s m below meth c ls hx hb hr hml hown hts hlocks hP hX hl
  have hK := hX.1
  have hl : lv_has ls 3 [(0, .ref hF), (1, .int (iI kz)), (2, .int (iI wh))] := hl
  refine lv_aload_n hx hb d_Rips_at_0 rfl (lv_at hl 0 rfl) ?_
  refine va_csv (W.runV (As := []) (rest := []) ⟨hx, hb, hml, hown, hts⟩ (c_Rips_checkPlanned l G ty hF hB hT hG hC hQ hO hV hN wy sg_ md bd (by omega)) ⟨callB_of 0 hts (gd_TB cd_Rips_checkPlanned) rfl rfl rfl (hts _ ini_Rips) (hts _ lk_Rips_225) hd_Rips_checkPlanned ⟨Nat.le_of_ble_eq_true rfl, Nat.le_of_ble_eq_true rfl⟩, hts _ im_Rips_checkPlanned, hts _ sl_Rips_checkPlanned⟩ (preV_ro (hP.sub (ws' := [(hF, .inr (9, [.ref hB, .ref hT, .ref hG, .ref hC, .ref hQ, .ref hO, .ref hV, .ref hN, .int (nI wy), .int (nI sg_), .int (nI md), .long (iL bd)]))]) [0] rfl) hX 0 rfl rfl) rfl rfl hl.1 rfl (lv_room (Nat.le_of_ble_eq_true rfl)) d_Rips_at_1 ⟨Nat.le_of_ble_eq_true rfl, Nat.le_of_ble_eq_true rfl⟩) (fun _ => ?_)
  refine lv_iload_n hx hb d_Rips_at_4 rfl (lv_at hl 1 rfl) ?_
  refine lv_aload_n hx hb d_Rips_at_5 rfl (lv_at hl 0 rfl) ?_
  refine va_get (D := G) (ci := 9) (v := .ref hQ) (C := R_Rips) (T := F_Rips) (N := 12) hx hb hts in_Rips hown hK hP 0 rfl rfl 4 (by decide) (hts _ fl_Rips_71) (fun _ h9 => h9) rfl d_Rips_at_6 ?_
  refine va_get (D := G) (ci := 6) (v := .int (nI np)) (C := R_Plan) (T := F_Plan) (N := 5) hx hb hts in_Plan hown hK hP 1 rfl rfl 2 (by decide) (hts _ fl_Rips_187) (fun _ h9 => h9) rfl d_Rips_at_9 ?_
  refine va_csv (W.runS (As := [.int (iI kz), .int (nI np)]) (rest := []) ⟨hx, hb, hml, hown, hts⟩ (c_Rips_checkIndexOrNone l G ty kz np (by omega) (by omega)) ⟨callB_of 2 hts (gd_TB cd_Rips_checkIndexOrNone) rfl rfl rfl (hts _ ini_Rips) (hts _ lk_Rips_228) hd_Rips_checkIndexOrNone ⟨Nat.le_of_ble_eq_true rfl, Nat.le_of_ble_eq_true rfl⟩, hts _ st_Rips_checkIndexOrNone⟩ (preS_ro (hP.sub (ws' := []) [] rfl) hX) rfl rfl hl.1 rfl (lv_room (Nat.le_of_ble_eq_true rfl)) d_Rips_at_12 ⟨Nat.le_of_ble_eq_true rfl, Nat.le_of_ble_eq_true rfl⟩) (fun _ => ?_)
  refine lv_iload_n hx hb d_Rips_at_15 rfl (lv_at hl 2 rfl) ?_
  refine z_i2l hx hb (by omega) d_Rips_at_16 ?_
  refine lv_lconst (v := iL 0) hx hb d_Rips_at_17 (by decide) ?_
  refine lv_ldc2 (v := (iL 5)) hx hb hown (hts _ kc_Rips_231) d_Rips_at_18 ?_
  refine va_csv (W.runS (As := [.long (iL wh), .long (iL 0), .long (iL 5)]) (rest := []) ⟨hx, hb, hml, hown, hts⟩ (c_Rips_checkRange l G ty wh 0 5 (by omega) (by omega) (by omega)) ⟨callB_of 3 hts (gd_TB cd_Rips_checkRange) rfl rfl rfl (hts _ ini_Rips) (hts _ lk_Rips_108) hd_Rips_checkRange ⟨Nat.le_of_ble_eq_true rfl, Nat.le_of_ble_eq_true rfl⟩, hts _ st_Rips_checkRange⟩ (preS_ro (hP.sub (ws' := []) [] rfl) hX) rfl rfl hl.1 rfl (lv_room (Nat.le_of_ble_eq_true rfl)) d_Rips_at_21 ⟨Nat.le_of_ble_eq_true rfl, Nat.le_of_ble_eq_true rfl⟩) (fun _ => ?_)
  refine lv_iload_n hx hb d_Rips_at_24 rfl (lv_at hl 1 rfl) ?_
  refine lv_iconst (v := (iI (-1))) hx hb d_Rips_at_25 (by decide) ?_
  refine z_icmp_ne (tgt := 39) hx hb (by omega) (by omega) d_Rips_at_26 (by decide) (fun c26 => ?_) (fun c26 => absurd c26 (by omega))
  refine lv_aload_n hx hb d_Rips_at_39 rfl (lv_at hl 0 rfl) ?_
  refine va_get (D := G) (ci := 9) (v := .ref hQ) (C := R_Rips) (T := F_Rips) (N := 12) hx hb hts in_Rips hown hK hP 0 rfl rfl 4 (by decide) (hts _ fl_Rips_71) (fun _ h9 => h9) rfl d_Rips_at_40 ?_
  refine va_get (D := G) (ci := 6) (v := .ref aQ) (C := R_Plan) (T := F_Plan) (N := 5) hx hb hts in_Plan hown hK hP 1 rfl rfl 0 (by decide) (hts _ fl_Rips_233) (fun _ h9 => h9) rfl d_Rips_at_43 ?_
  refine lv_iload_n hx hb d_Rips_at_46 rfl (lv_at hl 2 rfl) ?_
  refine top_i (show (iI wh) = (nI 0) from by rw [ew]; rfl) ?_
  refine n_aaldA hx hb hK hP 2 5 rfl rfl (by omega) (by omega) (gq 0 (by omega)) d_Rips_at_47 ?_
  refine lv_iload_n hx hb d_Rips_at_48 rfl (lv_at hl 1 rfl) ?_
  refine top_i (show (iI kz) = (nI kz.toNat) from iI_nI (by omega)) ?_
  refine n_iald hx hb hK hP 3 0 rfl rfl (by omega) (by omega) d_Rips_at_49 ?_
  exact W.iret (v := (nI (fj kz.toNat))) hx hb hr (fun t9 ht _ => ⟨_, rfl, rfl, ht⟩) (fun q h => by cases h) d_Rips_at_50

abbrev q_cat1 (G : va_G) (ty : Nat → ClassId) (hF : Nat) (hB : Nat) (hT : Nat) (hG : Nat) (hC : Nat) (hQ : Nat) (hO : Nat) (hV : Nat) (hN : Nat) (wy : Nat) (sg_ : Nat) (md : Nat) (bd : Int) (aQ : Nat) (aC : Nat) (np : Nat) (rm : Nat) (tot : Int) (fQ : Nat → Option Nat) (aR : Nat → Nat) (fj : Nat → Nat) (kz : Int) (wh : Int) : Array Value → State → Outcome → State → Prop := vp_Si (fun r : Int32 => r = (nI (fj kz.toNat)))
set_option maxRecDepth 100000 in
set_option maxHeartbeats 4000000 in
theorem c_cat1 (l : Launch) (G : va_G) (ty : Nat → ClassId) (hF : Nat) (hB : Nat) (hT : Nat) (hG : Nat) (hC : Nat) (hQ : Nat) (hO : Nat) (hV : Nat) (hN : Nat) (wy : Nat) (sg_ : Nat) (md : Nat) (bd : Int) (aQ : Nat) (aC : Nat) (np : Nat) (rm : Nat) (tot : Int) (fQ : Nat → Option Nat) (aR : Nat → Nat) (fj : Nat → Nat) (kz : Int) (wh : Int) (g1 : md = 1) (gq : ∀ i, i < 6 → fQ i = some (aR i)) (gk : 0 ≤ kz ∧ kz < (np : Int)) (gnp : np ≤ rm ∧ rm ≤ 240) (ew : wh = 1) : Met l y_Rips_at ws_Rips_at { frames := 2, cells := 0, slots := 0, locals := 42 } (va_Pc [.ref hF, .int (iI kz), .int (iI wh)] (fun U => va_P G vwCl [(hF, .inr (9, [.ref hB, .ref hT, .ref hG, .ref hC, .ref hQ, .ref hO, .ref hV, .ref hN, .int (nI wy), .int (nI sg_), .int (nI md), .long (iL bd)])), (hQ, .inr (6, [.ref aQ, .ref aC, .int (nI np), .long (iL tot), .int (nI rm)])), (aQ, .inl (ty 5, 6, .inr (.inr (.inr (.inr fQ))))), (aR 1, .inl (ty 0, rm, .inl (nF fj)))] U.heap ∧ KX G ty U)) (q_cat1 G ty hF hB hT hG hC hQ hO hV hN wy sg_ md bd aQ aC np rm tot fQ aR fj kz wh) 0 0 (fun _ => False) := by
  refine met_ro R_Rips (by decide) rfl rfl (Nat.le_of_ble_eq_true rfl) ?_
  intro p e s m below meth c ls hx hb hr hml hown hts hlocks hP hX hl
  have hK := hX.1
  have hl : lv_has ls 3 [(0, .ref hF), (1, .int (iI kz)), (2, .int (iI wh))] := hl
  refine lv_aload_n hx hb d_Rips_at_0 rfl (lv_at hl 0 rfl) ?_
  refine va_csv (W.runV (As := []) (rest := []) ⟨hx, hb, hml, hown, hts⟩ (c_Rips_checkPlanned l G ty hF hB hT hG hC hQ hO hV hN wy sg_ md bd (by omega)) ⟨callB_of 0 hts (gd_TB cd_Rips_checkPlanned) rfl rfl rfl (hts _ ini_Rips) (hts _ lk_Rips_225) hd_Rips_checkPlanned ⟨Nat.le_of_ble_eq_true rfl, Nat.le_of_ble_eq_true rfl⟩, hts _ im_Rips_checkPlanned, hts _ sl_Rips_checkPlanned⟩ (preV_ro (hP.sub (ws' := [(hF, .inr (9, [.ref hB, .ref hT, .ref hG, .ref hC, .ref hQ, .ref hO, .ref hV, .ref hN, .int (nI wy), .int (nI sg_), .int (nI md), .long (iL bd)]))]) [0] rfl) hX 0 rfl rfl) rfl rfl hl.1 rfl (lv_room (Nat.le_of_ble_eq_true rfl)) d_Rips_at_1 ⟨Nat.le_of_ble_eq_true rfl, Nat.le_of_ble_eq_true rfl⟩) (fun _ => ?_)
  refine lv_iload_n hx hb d_Rips_at_4 rfl (lv_at hl 1 rfl) ?_
  refine lv_aload_n hx hb d_Rips_at_5 rfl (lv_at hl 0 rfl) ?_
  refine va_get (D := G) (ci := 9) (v := .ref hQ) (C := R_Rips) (T := F_Rips) (N := 12) hx hb hts in_Rips hown hK hP 0 rfl rfl 4 (by decide) (hts _ fl_Rips_71) (fun _ h9 => h9) rfl d_Rips_at_6 ?_
  refine va_get (D := G) (ci := 6) (v := .int (nI np)) (C := R_Plan) (T := F_Plan) (N := 5) hx hb hts in_Plan hown hK hP 1 rfl rfl 2 (by decide) (hts _ fl_Rips_187) (fun _ h9 => h9) rfl d_Rips_at_9 ?_
  refine va_csv (W.runS (As := [.int (iI kz), .int (nI np)]) (rest := []) ⟨hx, hb, hml, hown, hts⟩ (c_Rips_checkIndexOrNone l G ty kz np (by omega) (by omega)) ⟨callB_of 2 hts (gd_TB cd_Rips_checkIndexOrNone) rfl rfl rfl (hts _ ini_Rips) (hts _ lk_Rips_228) hd_Rips_checkIndexOrNone ⟨Nat.le_of_ble_eq_true rfl, Nat.le_of_ble_eq_true rfl⟩, hts _ st_Rips_checkIndexOrNone⟩ (preS_ro (hP.sub (ws' := []) [] rfl) hX) rfl rfl hl.1 rfl (lv_room (Nat.le_of_ble_eq_true rfl)) d_Rips_at_12 ⟨Nat.le_of_ble_eq_true rfl, Nat.le_of_ble_eq_true rfl⟩) (fun _ => ?_)
  refine lv_iload_n hx hb d_Rips_at_15 rfl (lv_at hl 2 rfl) ?_
  refine z_i2l hx hb (by omega) d_Rips_at_16 ?_
  refine lv_lconst (v := iL 0) hx hb d_Rips_at_17 (by decide) ?_
  refine lv_ldc2 (v := (iL 5)) hx hb hown (hts _ kc_Rips_231) d_Rips_at_18 ?_
  refine va_csv (W.runS (As := [.long (iL wh), .long (iL 0), .long (iL 5)]) (rest := []) ⟨hx, hb, hml, hown, hts⟩ (c_Rips_checkRange l G ty wh 0 5 (by omega) (by omega) (by omega)) ⟨callB_of 3 hts (gd_TB cd_Rips_checkRange) rfl rfl rfl (hts _ ini_Rips) (hts _ lk_Rips_108) hd_Rips_checkRange ⟨Nat.le_of_ble_eq_true rfl, Nat.le_of_ble_eq_true rfl⟩, hts _ st_Rips_checkRange⟩ (preS_ro (hP.sub (ws' := []) [] rfl) hX) rfl rfl hl.1 rfl (lv_room (Nat.le_of_ble_eq_true rfl)) d_Rips_at_21 ⟨Nat.le_of_ble_eq_true rfl, Nat.le_of_ble_eq_true rfl⟩) (fun _ => ?_)
  refine lv_iload_n hx hb d_Rips_at_24 rfl (lv_at hl 1 rfl) ?_
  refine lv_iconst (v := (iI (-1))) hx hb d_Rips_at_25 (by decide) ?_
  refine z_icmp_ne (tgt := 39) hx hb (by omega) (by omega) d_Rips_at_26 (by decide) (fun c26 => ?_) (fun c26 => absurd c26 (by omega))
  refine lv_aload_n hx hb d_Rips_at_39 rfl (lv_at hl 0 rfl) ?_
  refine va_get (D := G) (ci := 9) (v := .ref hQ) (C := R_Rips) (T := F_Rips) (N := 12) hx hb hts in_Rips hown hK hP 0 rfl rfl 4 (by decide) (hts _ fl_Rips_71) (fun _ h9 => h9) rfl d_Rips_at_40 ?_
  refine va_get (D := G) (ci := 6) (v := .ref aQ) (C := R_Plan) (T := F_Plan) (N := 5) hx hb hts in_Plan hown hK hP 1 rfl rfl 0 (by decide) (hts _ fl_Rips_233) (fun _ h9 => h9) rfl d_Rips_at_43 ?_
  refine lv_iload_n hx hb d_Rips_at_46 rfl (lv_at hl 2 rfl) ?_
  refine top_i (show (iI wh) = (nI 1) from by rw [ew]; rfl) ?_
  refine n_aaldA hx hb hK hP 2 5 rfl rfl (by omega) (by omega) (gq 1 (by omega)) d_Rips_at_47 ?_
  refine lv_iload_n hx hb d_Rips_at_48 rfl (lv_at hl 1 rfl) ?_
  refine top_i (show (iI kz) = (nI kz.toNat) from iI_nI (by omega)) ?_
  refine n_iald hx hb hK hP 3 0 rfl rfl (by omega) (by omega) d_Rips_at_49 ?_
  exact W.iret (v := (nI (fj kz.toNat))) hx hb hr (fun t9 ht _ => ⟨_, rfl, rfl, ht⟩) (fun q h => by cases h) d_Rips_at_50

abbrev q_cat2 (G : va_G) (ty : Nat → ClassId) (hF : Nat) (hB : Nat) (hT : Nat) (hG : Nat) (hC : Nat) (hQ : Nat) (hO : Nat) (hV : Nat) (hN : Nat) (wy : Nat) (sg_ : Nat) (md : Nat) (bd : Int) (aQ : Nat) (aC : Nat) (np : Nat) (rm : Nat) (tot : Int) (fQ : Nat → Option Nat) (aR : Nat → Nat) (fj : Nat → Nat) (kz : Int) (wh : Int) : Array Value → State → Outcome → State → Prop := vp_Si (fun r : Int32 => r = (nI (fj kz.toNat)))
set_option maxRecDepth 100000 in
set_option maxHeartbeats 4000000 in
theorem c_cat2 (l : Launch) (G : va_G) (ty : Nat → ClassId) (hF : Nat) (hB : Nat) (hT : Nat) (hG : Nat) (hC : Nat) (hQ : Nat) (hO : Nat) (hV : Nat) (hN : Nat) (wy : Nat) (sg_ : Nat) (md : Nat) (bd : Int) (aQ : Nat) (aC : Nat) (np : Nat) (rm : Nat) (tot : Int) (fQ : Nat → Option Nat) (aR : Nat → Nat) (fj : Nat → Nat) (kz : Int) (wh : Int) (g1 : md = 1) (gq : ∀ i, i < 6 → fQ i = some (aR i)) (gk : 0 ≤ kz ∧ kz < (np : Int)) (gnp : np ≤ rm ∧ rm ≤ 240) (ew : wh = 2) : Met l y_Rips_at ws_Rips_at { frames := 2, cells := 0, slots := 0, locals := 42 } (va_Pc [.ref hF, .int (iI kz), .int (iI wh)] (fun U => va_P G vwCl [(hF, .inr (9, [.ref hB, .ref hT, .ref hG, .ref hC, .ref hQ, .ref hO, .ref hV, .ref hN, .int (nI wy), .int (nI sg_), .int (nI md), .long (iL bd)])), (hQ, .inr (6, [.ref aQ, .ref aC, .int (nI np), .long (iL tot), .int (nI rm)])), (aQ, .inl (ty 5, 6, .inr (.inr (.inr (.inr fQ))))), (aR 2, .inl (ty 0, rm, .inl (nF fj)))] U.heap ∧ KX G ty U)) (q_cat2 G ty hF hB hT hG hC hQ hO hV hN wy sg_ md bd aQ aC np rm tot fQ aR fj kz wh) 0 0 (fun _ => False) := by
  refine met_ro R_Rips (by decide) rfl rfl (Nat.le_of_ble_eq_true rfl) ?_
  intro p e s m below meth c ls hx hb hr hml hown hts hlocks hP hX hl
  have hK := hX.1
  have hl : lv_has ls 3 [(0, .ref hF), (1, .int (iI kz)), (2, .int (iI wh))] := hl
  refine lv_aload_n hx hb d_Rips_at_0 rfl (lv_at hl 0 rfl) ?_
  refine va_csv (W.runV (As := []) (rest := []) ⟨hx, hb, hml, hown, hts⟩ (c_Rips_checkPlanned l G ty hF hB hT hG hC hQ hO hV hN wy sg_ md bd (by omega)) ⟨callB_of 0 hts (gd_TB cd_Rips_checkPlanned) rfl rfl rfl (hts _ ini_Rips) (hts _ lk_Rips_225) hd_Rips_checkPlanned ⟨Nat.le_of_ble_eq_true rfl, Nat.le_of_ble_eq_true rfl⟩, hts _ im_Rips_checkPlanned, hts _ sl_Rips_checkPlanned⟩ (preV_ro (hP.sub (ws' := [(hF, .inr (9, [.ref hB, .ref hT, .ref hG, .ref hC, .ref hQ, .ref hO, .ref hV, .ref hN, .int (nI wy), .int (nI sg_), .int (nI md), .long (iL bd)]))]) [0] rfl) hX 0 rfl rfl) rfl rfl hl.1 rfl (lv_room (Nat.le_of_ble_eq_true rfl)) d_Rips_at_1 ⟨Nat.le_of_ble_eq_true rfl, Nat.le_of_ble_eq_true rfl⟩) (fun _ => ?_)
  refine lv_iload_n hx hb d_Rips_at_4 rfl (lv_at hl 1 rfl) ?_
  refine lv_aload_n hx hb d_Rips_at_5 rfl (lv_at hl 0 rfl) ?_
  refine va_get (D := G) (ci := 9) (v := .ref hQ) (C := R_Rips) (T := F_Rips) (N := 12) hx hb hts in_Rips hown hK hP 0 rfl rfl 4 (by decide) (hts _ fl_Rips_71) (fun _ h9 => h9) rfl d_Rips_at_6 ?_
  refine va_get (D := G) (ci := 6) (v := .int (nI np)) (C := R_Plan) (T := F_Plan) (N := 5) hx hb hts in_Plan hown hK hP 1 rfl rfl 2 (by decide) (hts _ fl_Rips_187) (fun _ h9 => h9) rfl d_Rips_at_9 ?_
  refine va_csv (W.runS (As := [.int (iI kz), .int (nI np)]) (rest := []) ⟨hx, hb, hml, hown, hts⟩ (c_Rips_checkIndexOrNone l G ty kz np (by omega) (by omega)) ⟨callB_of 2 hts (gd_TB cd_Rips_checkIndexOrNone) rfl rfl rfl (hts _ ini_Rips) (hts _ lk_Rips_228) hd_Rips_checkIndexOrNone ⟨Nat.le_of_ble_eq_true rfl, Nat.le_of_ble_eq_true rfl⟩, hts _ st_Rips_checkIndexOrNone⟩ (preS_ro (hP.sub (ws' := []) [] rfl) hX) rfl rfl hl.1 rfl (lv_room (Nat.le_of_ble_eq_true rfl)) d_Rips_at_12 ⟨Nat.le_of_ble_eq_true rfl, Nat.le_of_ble_eq_true rfl⟩) (fun _ => ?_)
  refine lv_iload_n hx hb d_Rips_at_15 rfl (lv_at hl 2 rfl) ?_
  refine z_i2l hx hb (by omega) d_Rips_at_16 ?_
  refine lv_lconst (v := iL 0) hx hb d_Rips_at_17 (by decide) ?_
  refine lv_ldc2 (v := (iL 5)) hx hb hown (hts _ kc_Rips_231) d_Rips_at_18 ?_
  refine va_csv (W.runS (As := [.long (iL wh), .long (iL 0), .long (iL 5)]) (rest := []) ⟨hx, hb, hml, hown, hts⟩ (c_Rips_checkRange l G ty wh 0 5 (by omega) (by omega) (by omega)) ⟨callB_of 3 hts (gd_TB cd_Rips_checkRange) rfl rfl rfl (hts _ ini_Rips) (hts _ lk_Rips_108) hd_Rips_checkRange ⟨Nat.le_of_ble_eq_true rfl, Nat.le_of_ble_eq_true rfl⟩, hts _ st_Rips_checkRange⟩ (preS_ro (hP.sub (ws' := []) [] rfl) hX) rfl rfl hl.1 rfl (lv_room (Nat.le_of_ble_eq_true rfl)) d_Rips_at_21 ⟨Nat.le_of_ble_eq_true rfl, Nat.le_of_ble_eq_true rfl⟩) (fun _ => ?_)
  refine lv_iload_n hx hb d_Rips_at_24 rfl (lv_at hl 1 rfl) ?_
  refine lv_iconst (v := (iI (-1))) hx hb d_Rips_at_25 (by decide) ?_
  refine z_icmp_ne (tgt := 39) hx hb (by omega) (by omega) d_Rips_at_26 (by decide) (fun c26 => ?_) (fun c26 => absurd c26 (by omega))
  refine lv_aload_n hx hb d_Rips_at_39 rfl (lv_at hl 0 rfl) ?_
  refine va_get (D := G) (ci := 9) (v := .ref hQ) (C := R_Rips) (T := F_Rips) (N := 12) hx hb hts in_Rips hown hK hP 0 rfl rfl 4 (by decide) (hts _ fl_Rips_71) (fun _ h9 => h9) rfl d_Rips_at_40 ?_
  refine va_get (D := G) (ci := 6) (v := .ref aQ) (C := R_Plan) (T := F_Plan) (N := 5) hx hb hts in_Plan hown hK hP 1 rfl rfl 0 (by decide) (hts _ fl_Rips_233) (fun _ h9 => h9) rfl d_Rips_at_43 ?_
  refine lv_iload_n hx hb d_Rips_at_46 rfl (lv_at hl 2 rfl) ?_
  refine top_i (show (iI wh) = (nI 2) from by rw [ew]; rfl) ?_
  refine n_aaldA hx hb hK hP 2 5 rfl rfl (by omega) (by omega) (gq 2 (by omega)) d_Rips_at_47 ?_
  refine lv_iload_n hx hb d_Rips_at_48 rfl (lv_at hl 1 rfl) ?_
  refine top_i (show (iI kz) = (nI kz.toNat) from iI_nI (by omega)) ?_
  refine n_iald hx hb hK hP 3 0 rfl rfl (by omega) (by omega) d_Rips_at_49 ?_
  exact W.iret (v := (nI (fj kz.toNat))) hx hb hr (fun t9 ht _ => ⟨_, rfl, rfl, ht⟩) (fun q h => by cases h) d_Rips_at_50

abbrev q_cat3 (G : va_G) (ty : Nat → ClassId) (hF : Nat) (hB : Nat) (hT : Nat) (hG : Nat) (hC : Nat) (hQ : Nat) (hO : Nat) (hV : Nat) (hN : Nat) (wy : Nat) (sg_ : Nat) (md : Nat) (bd : Int) (aQ : Nat) (aC : Nat) (np : Nat) (rm : Nat) (tot : Int) (fQ : Nat → Option Nat) (aR : Nat → Nat) (fj : Nat → Nat) (kz : Int) (wh : Int) : Array Value → State → Outcome → State → Prop := vp_Si (fun r : Int32 => r = (nI (fj kz.toNat)))
set_option maxRecDepth 100000 in
set_option maxHeartbeats 4000000 in
theorem c_cat3 (l : Launch) (G : va_G) (ty : Nat → ClassId) (hF : Nat) (hB : Nat) (hT : Nat) (hG : Nat) (hC : Nat) (hQ : Nat) (hO : Nat) (hV : Nat) (hN : Nat) (wy : Nat) (sg_ : Nat) (md : Nat) (bd : Int) (aQ : Nat) (aC : Nat) (np : Nat) (rm : Nat) (tot : Int) (fQ : Nat → Option Nat) (aR : Nat → Nat) (fj : Nat → Nat) (kz : Int) (wh : Int) (g1 : md = 1) (gq : ∀ i, i < 6 → fQ i = some (aR i)) (gk : 0 ≤ kz ∧ kz < (np : Int)) (gnp : np ≤ rm ∧ rm ≤ 240) (ew : wh = 3) : Met l y_Rips_at ws_Rips_at { frames := 2, cells := 0, slots := 0, locals := 42 } (va_Pc [.ref hF, .int (iI kz), .int (iI wh)] (fun U => va_P G vwCl [(hF, .inr (9, [.ref hB, .ref hT, .ref hG, .ref hC, .ref hQ, .ref hO, .ref hV, .ref hN, .int (nI wy), .int (nI sg_), .int (nI md), .long (iL bd)])), (hQ, .inr (6, [.ref aQ, .ref aC, .int (nI np), .long (iL tot), .int (nI rm)])), (aQ, .inl (ty 5, 6, .inr (.inr (.inr (.inr fQ))))), (aR 3, .inl (ty 0, rm, .inl (nF fj)))] U.heap ∧ KX G ty U)) (q_cat3 G ty hF hB hT hG hC hQ hO hV hN wy sg_ md bd aQ aC np rm tot fQ aR fj kz wh) 0 0 (fun _ => False) := by
  refine met_ro R_Rips (by decide) rfl rfl (Nat.le_of_ble_eq_true rfl) ?_
  intro p e s m below meth c ls hx hb hr hml hown hts hlocks hP hX hl
  have hK := hX.1
  have hl : lv_has ls 3 [(0, .ref hF), (1, .int (iI kz)), (2, .int (iI wh))] := hl
  refine lv_aload_n hx hb d_Rips_at_0 rfl (lv_at hl 0 rfl) ?_
  refine va_csv (W.runV (As := []) (rest := []) ⟨hx, hb, hml, hown, hts⟩ (c_Rips_checkPlanned l G ty hF hB hT hG hC hQ hO hV hN wy sg_ md bd (by omega)) ⟨callB_of 0 hts (gd_TB cd_Rips_checkPlanned) rfl rfl rfl (hts _ ini_Rips) (hts _ lk_Rips_225) hd_Rips_checkPlanned ⟨Nat.le_of_ble_eq_true rfl, Nat.le_of_ble_eq_true rfl⟩, hts _ im_Rips_checkPlanned, hts _ sl_Rips_checkPlanned⟩ (preV_ro (hP.sub (ws' := [(hF, .inr (9, [.ref hB, .ref hT, .ref hG, .ref hC, .ref hQ, .ref hO, .ref hV, .ref hN, .int (nI wy), .int (nI sg_), .int (nI md), .long (iL bd)]))]) [0] rfl) hX 0 rfl rfl) rfl rfl hl.1 rfl (lv_room (Nat.le_of_ble_eq_true rfl)) d_Rips_at_1 ⟨Nat.le_of_ble_eq_true rfl, Nat.le_of_ble_eq_true rfl⟩) (fun _ => ?_)
  refine lv_iload_n hx hb d_Rips_at_4 rfl (lv_at hl 1 rfl) ?_
  refine lv_aload_n hx hb d_Rips_at_5 rfl (lv_at hl 0 rfl) ?_
  refine va_get (D := G) (ci := 9) (v := .ref hQ) (C := R_Rips) (T := F_Rips) (N := 12) hx hb hts in_Rips hown hK hP 0 rfl rfl 4 (by decide) (hts _ fl_Rips_71) (fun _ h9 => h9) rfl d_Rips_at_6 ?_
  refine va_get (D := G) (ci := 6) (v := .int (nI np)) (C := R_Plan) (T := F_Plan) (N := 5) hx hb hts in_Plan hown hK hP 1 rfl rfl 2 (by decide) (hts _ fl_Rips_187) (fun _ h9 => h9) rfl d_Rips_at_9 ?_
  refine va_csv (W.runS (As := [.int (iI kz), .int (nI np)]) (rest := []) ⟨hx, hb, hml, hown, hts⟩ (c_Rips_checkIndexOrNone l G ty kz np (by omega) (by omega)) ⟨callB_of 2 hts (gd_TB cd_Rips_checkIndexOrNone) rfl rfl rfl (hts _ ini_Rips) (hts _ lk_Rips_228) hd_Rips_checkIndexOrNone ⟨Nat.le_of_ble_eq_true rfl, Nat.le_of_ble_eq_true rfl⟩, hts _ st_Rips_checkIndexOrNone⟩ (preS_ro (hP.sub (ws' := []) [] rfl) hX) rfl rfl hl.1 rfl (lv_room (Nat.le_of_ble_eq_true rfl)) d_Rips_at_12 ⟨Nat.le_of_ble_eq_true rfl, Nat.le_of_ble_eq_true rfl⟩) (fun _ => ?_)
  refine lv_iload_n hx hb d_Rips_at_15 rfl (lv_at hl 2 rfl) ?_
  refine z_i2l hx hb (by omega) d_Rips_at_16 ?_
  refine lv_lconst (v := iL 0) hx hb d_Rips_at_17 (by decide) ?_
  refine lv_ldc2 (v := (iL 5)) hx hb hown (hts _ kc_Rips_231) d_Rips_at_18 ?_
  refine va_csv (W.runS (As := [.long (iL wh), .long (iL 0), .long (iL 5)]) (rest := []) ⟨hx, hb, hml, hown, hts⟩ (c_Rips_checkRange l G ty wh 0 5 (by omega) (by omega) (by omega)) ⟨callB_of 3 hts (gd_TB cd_Rips_checkRange) rfl rfl rfl (hts _ ini_Rips) (hts _ lk_Rips_108) hd_Rips_checkRange ⟨Nat.le_of_ble_eq_true rfl, Nat.le_of_ble_eq_true rfl⟩, hts _ st_Rips_checkRange⟩ (preS_ro (hP.sub (ws' := []) [] rfl) hX) rfl rfl hl.1 rfl (lv_room (Nat.le_of_ble_eq_true rfl)) d_Rips_at_21 ⟨Nat.le_of_ble_eq_true rfl, Nat.le_of_ble_eq_true rfl⟩) (fun _ => ?_)
  refine lv_iload_n hx hb d_Rips_at_24 rfl (lv_at hl 1 rfl) ?_
  refine lv_iconst (v := (iI (-1))) hx hb d_Rips_at_25 (by decide) ?_
  refine z_icmp_ne (tgt := 39) hx hb (by omega) (by omega) d_Rips_at_26 (by decide) (fun c26 => ?_) (fun c26 => absurd c26 (by omega))
  refine lv_aload_n hx hb d_Rips_at_39 rfl (lv_at hl 0 rfl) ?_
  refine va_get (D := G) (ci := 9) (v := .ref hQ) (C := R_Rips) (T := F_Rips) (N := 12) hx hb hts in_Rips hown hK hP 0 rfl rfl 4 (by decide) (hts _ fl_Rips_71) (fun _ h9 => h9) rfl d_Rips_at_40 ?_
  refine va_get (D := G) (ci := 6) (v := .ref aQ) (C := R_Plan) (T := F_Plan) (N := 5) hx hb hts in_Plan hown hK hP 1 rfl rfl 0 (by decide) (hts _ fl_Rips_233) (fun _ h9 => h9) rfl d_Rips_at_43 ?_
  refine lv_iload_n hx hb d_Rips_at_46 rfl (lv_at hl 2 rfl) ?_
  refine top_i (show (iI wh) = (nI 3) from by rw [ew]; rfl) ?_
  refine n_aaldA hx hb hK hP 2 5 rfl rfl (by omega) (by omega) (gq 3 (by omega)) d_Rips_at_47 ?_
  refine lv_iload_n hx hb d_Rips_at_48 rfl (lv_at hl 1 rfl) ?_
  refine top_i (show (iI kz) = (nI kz.toNat) from iI_nI (by omega)) ?_
  refine n_iald hx hb hK hP 3 0 rfl rfl (by omega) (by omega) d_Rips_at_49 ?_
  exact W.iret (v := (nI (fj kz.toNat))) hx hb hr (fun t9 ht _ => ⟨_, rfl, rfl, ht⟩) (fun q h => by cases h) d_Rips_at_50

abbrev q_cat4 (G : va_G) (ty : Nat → ClassId) (hF : Nat) (hB : Nat) (hT : Nat) (hG : Nat) (hC : Nat) (hQ : Nat) (hO : Nat) (hV : Nat) (hN : Nat) (wy : Nat) (sg_ : Nat) (md : Nat) (bd : Int) (aQ : Nat) (aC : Nat) (np : Nat) (rm : Nat) (tot : Int) (fQ : Nat → Option Nat) (aR : Nat → Nat) (fj : Nat → Nat) (kz : Int) (wh : Int) : Array Value → State → Outcome → State → Prop := vp_Si (fun r : Int32 => r = (nI (fj kz.toNat)))
set_option maxRecDepth 100000 in
set_option maxHeartbeats 4000000 in
theorem c_cat4 (l : Launch) (G : va_G) (ty : Nat → ClassId) (hF : Nat) (hB : Nat) (hT : Nat) (hG : Nat) (hC : Nat) (hQ : Nat) (hO : Nat) (hV : Nat) (hN : Nat) (wy : Nat) (sg_ : Nat) (md : Nat) (bd : Int) (aQ : Nat) (aC : Nat) (np : Nat) (rm : Nat) (tot : Int) (fQ : Nat → Option Nat) (aR : Nat → Nat) (fj : Nat → Nat) (kz : Int) (wh : Int) (g1 : md = 1) (gq : ∀ i, i < 6 → fQ i = some (aR i)) (gk : 0 ≤ kz ∧ kz < (np : Int)) (gnp : np ≤ rm ∧ rm ≤ 240) (ew : wh = 4) : Met l y_Rips_at ws_Rips_at { frames := 2, cells := 0, slots := 0, locals := 42 } (va_Pc [.ref hF, .int (iI kz), .int (iI wh)] (fun U => va_P G vwCl [(hF, .inr (9, [.ref hB, .ref hT, .ref hG, .ref hC, .ref hQ, .ref hO, .ref hV, .ref hN, .int (nI wy), .int (nI sg_), .int (nI md), .long (iL bd)])), (hQ, .inr (6, [.ref aQ, .ref aC, .int (nI np), .long (iL tot), .int (nI rm)])), (aQ, .inl (ty 5, 6, .inr (.inr (.inr (.inr fQ))))), (aR 4, .inl (ty 0, rm, .inl (nF fj)))] U.heap ∧ KX G ty U)) (q_cat4 G ty hF hB hT hG hC hQ hO hV hN wy sg_ md bd aQ aC np rm tot fQ aR fj kz wh) 0 0 (fun _ => False) := by
  refine met_ro R_Rips (by decide) rfl rfl (Nat.le_of_ble_eq_true rfl) ?_
  intro p e s m below meth c ls hx hb hr hml hown hts hlocks hP hX hl
  have hK := hX.1
  have hl : lv_has ls 3 [(0, .ref hF), (1, .int (iI kz)), (2, .int (iI wh))] := hl
  refine lv_aload_n hx hb d_Rips_at_0 rfl (lv_at hl 0 rfl) ?_
  refine va_csv (W.runV (As := []) (rest := []) ⟨hx, hb, hml, hown, hts⟩ (c_Rips_checkPlanned l G ty hF hB hT hG hC hQ hO hV hN wy sg_ md bd (by omega)) ⟨callB_of 0 hts (gd_TB cd_Rips_checkPlanned) rfl rfl rfl (hts _ ini_Rips) (hts _ lk_Rips_225) hd_Rips_checkPlanned ⟨Nat.le_of_ble_eq_true rfl, Nat.le_of_ble_eq_true rfl⟩, hts _ im_Rips_checkPlanned, hts _ sl_Rips_checkPlanned⟩ (preV_ro (hP.sub (ws' := [(hF, .inr (9, [.ref hB, .ref hT, .ref hG, .ref hC, .ref hQ, .ref hO, .ref hV, .ref hN, .int (nI wy), .int (nI sg_), .int (nI md), .long (iL bd)]))]) [0] rfl) hX 0 rfl rfl) rfl rfl hl.1 rfl (lv_room (Nat.le_of_ble_eq_true rfl)) d_Rips_at_1 ⟨Nat.le_of_ble_eq_true rfl, Nat.le_of_ble_eq_true rfl⟩) (fun _ => ?_)
  refine lv_iload_n hx hb d_Rips_at_4 rfl (lv_at hl 1 rfl) ?_
  refine lv_aload_n hx hb d_Rips_at_5 rfl (lv_at hl 0 rfl) ?_
  refine va_get (D := G) (ci := 9) (v := .ref hQ) (C := R_Rips) (T := F_Rips) (N := 12) hx hb hts in_Rips hown hK hP 0 rfl rfl 4 (by decide) (hts _ fl_Rips_71) (fun _ h9 => h9) rfl d_Rips_at_6 ?_
  refine va_get (D := G) (ci := 6) (v := .int (nI np)) (C := R_Plan) (T := F_Plan) (N := 5) hx hb hts in_Plan hown hK hP 1 rfl rfl 2 (by decide) (hts _ fl_Rips_187) (fun _ h9 => h9) rfl d_Rips_at_9 ?_
  refine va_csv (W.runS (As := [.int (iI kz), .int (nI np)]) (rest := []) ⟨hx, hb, hml, hown, hts⟩ (c_Rips_checkIndexOrNone l G ty kz np (by omega) (by omega)) ⟨callB_of 2 hts (gd_TB cd_Rips_checkIndexOrNone) rfl rfl rfl (hts _ ini_Rips) (hts _ lk_Rips_228) hd_Rips_checkIndexOrNone ⟨Nat.le_of_ble_eq_true rfl, Nat.le_of_ble_eq_true rfl⟩, hts _ st_Rips_checkIndexOrNone⟩ (preS_ro (hP.sub (ws' := []) [] rfl) hX) rfl rfl hl.1 rfl (lv_room (Nat.le_of_ble_eq_true rfl)) d_Rips_at_12 ⟨Nat.le_of_ble_eq_true rfl, Nat.le_of_ble_eq_true rfl⟩) (fun _ => ?_)
  refine lv_iload_n hx hb d_Rips_at_15 rfl (lv_at hl 2 rfl) ?_
  refine z_i2l hx hb (by omega) d_Rips_at_16 ?_
  refine lv_lconst (v := iL 0) hx hb d_Rips_at_17 (by decide) ?_
  refine lv_ldc2 (v := (iL 5)) hx hb hown (hts _ kc_Rips_231) d_Rips_at_18 ?_
  refine va_csv (W.runS (As := [.long (iL wh), .long (iL 0), .long (iL 5)]) (rest := []) ⟨hx, hb, hml, hown, hts⟩ (c_Rips_checkRange l G ty wh 0 5 (by omega) (by omega) (by omega)) ⟨callB_of 3 hts (gd_TB cd_Rips_checkRange) rfl rfl rfl (hts _ ini_Rips) (hts _ lk_Rips_108) hd_Rips_checkRange ⟨Nat.le_of_ble_eq_true rfl, Nat.le_of_ble_eq_true rfl⟩, hts _ st_Rips_checkRange⟩ (preS_ro (hP.sub (ws' := []) [] rfl) hX) rfl rfl hl.1 rfl (lv_room (Nat.le_of_ble_eq_true rfl)) d_Rips_at_21 ⟨Nat.le_of_ble_eq_true rfl, Nat.le_of_ble_eq_true rfl⟩) (fun _ => ?_)
  refine lv_iload_n hx hb d_Rips_at_24 rfl (lv_at hl 1 rfl) ?_
  refine lv_iconst (v := (iI (-1))) hx hb d_Rips_at_25 (by decide) ?_
  refine z_icmp_ne (tgt := 39) hx hb (by omega) (by omega) d_Rips_at_26 (by decide) (fun c26 => ?_) (fun c26 => absurd c26 (by omega))
  refine lv_aload_n hx hb d_Rips_at_39 rfl (lv_at hl 0 rfl) ?_
  refine va_get (D := G) (ci := 9) (v := .ref hQ) (C := R_Rips) (T := F_Rips) (N := 12) hx hb hts in_Rips hown hK hP 0 rfl rfl 4 (by decide) (hts _ fl_Rips_71) (fun _ h9 => h9) rfl d_Rips_at_40 ?_
  refine va_get (D := G) (ci := 6) (v := .ref aQ) (C := R_Plan) (T := F_Plan) (N := 5) hx hb hts in_Plan hown hK hP 1 rfl rfl 0 (by decide) (hts _ fl_Rips_233) (fun _ h9 => h9) rfl d_Rips_at_43 ?_
  refine lv_iload_n hx hb d_Rips_at_46 rfl (lv_at hl 2 rfl) ?_
  refine top_i (show (iI wh) = (nI 4) from by rw [ew]; rfl) ?_
  refine n_aaldA hx hb hK hP 2 5 rfl rfl (by omega) (by omega) (gq 4 (by omega)) d_Rips_at_47 ?_
  refine lv_iload_n hx hb d_Rips_at_48 rfl (lv_at hl 1 rfl) ?_
  refine top_i (show (iI kz) = (nI kz.toNat) from iI_nI (by omega)) ?_
  refine n_iald hx hb hK hP 3 0 rfl rfl (by omega) (by omega) d_Rips_at_49 ?_
  exact W.iret (v := (nI (fj kz.toNat))) hx hb hr (fun t9 ht _ => ⟨_, rfl, rfl, ht⟩) (fun q h => by cases h) d_Rips_at_50

abbrev q_cat5 (G : va_G) (ty : Nat → ClassId) (hF : Nat) (hB : Nat) (hT : Nat) (hG : Nat) (hC : Nat) (hQ : Nat) (hO : Nat) (hV : Nat) (hN : Nat) (wy : Nat) (sg_ : Nat) (md : Nat) (bd : Int) (aQ : Nat) (aC : Nat) (np : Nat) (rm : Nat) (tot : Int) (fQ : Nat → Option Nat) (aR : Nat → Nat) (fj : Nat → Nat) (kz : Int) (wh : Int) : Array Value → State → Outcome → State → Prop := vp_Si (fun r : Int32 => r = (nI (fj kz.toNat)))
set_option maxRecDepth 100000 in
set_option maxHeartbeats 4000000 in
theorem c_cat5 (l : Launch) (G : va_G) (ty : Nat → ClassId) (hF : Nat) (hB : Nat) (hT : Nat) (hG : Nat) (hC : Nat) (hQ : Nat) (hO : Nat) (hV : Nat) (hN : Nat) (wy : Nat) (sg_ : Nat) (md : Nat) (bd : Int) (aQ : Nat) (aC : Nat) (np : Nat) (rm : Nat) (tot : Int) (fQ : Nat → Option Nat) (aR : Nat → Nat) (fj : Nat → Nat) (kz : Int) (wh : Int) (g1 : md = 1) (gq : ∀ i, i < 6 → fQ i = some (aR i)) (gk : 0 ≤ kz ∧ kz < (np : Int)) (gnp : np ≤ rm ∧ rm ≤ 240) (ew : wh = 5) : Met l y_Rips_at ws_Rips_at { frames := 2, cells := 0, slots := 0, locals := 42 } (va_Pc [.ref hF, .int (iI kz), .int (iI wh)] (fun U => va_P G vwCl [(hF, .inr (9, [.ref hB, .ref hT, .ref hG, .ref hC, .ref hQ, .ref hO, .ref hV, .ref hN, .int (nI wy), .int (nI sg_), .int (nI md), .long (iL bd)])), (hQ, .inr (6, [.ref aQ, .ref aC, .int (nI np), .long (iL tot), .int (nI rm)])), (aQ, .inl (ty 5, 6, .inr (.inr (.inr (.inr fQ))))), (aR 5, .inl (ty 0, rm, .inl (nF fj)))] U.heap ∧ KX G ty U)) (q_cat5 G ty hF hB hT hG hC hQ hO hV hN wy sg_ md bd aQ aC np rm tot fQ aR fj kz wh) 0 0 (fun _ => False) := by
  refine met_ro R_Rips (by decide) rfl rfl (Nat.le_of_ble_eq_true rfl) ?_
  intro p e s m below meth c ls hx hb hr hml hown hts hlocks hP hX hl
  have hK := hX.1
  have hl : lv_has ls 3 [(0, .ref hF), (1, .int (iI kz)), (2, .int (iI wh))] := hl
  refine lv_aload_n hx hb d_Rips_at_0 rfl (lv_at hl 0 rfl) ?_
  refine va_csv (W.runV (As := []) (rest := []) ⟨hx, hb, hml, hown, hts⟩ (c_Rips_checkPlanned l G ty hF hB hT hG hC hQ hO hV hN wy sg_ md bd (by omega)) ⟨callB_of 0 hts (gd_TB cd_Rips_checkPlanned) rfl rfl rfl (hts _ ini_Rips) (hts _ lk_Rips_225) hd_Rips_checkPlanned ⟨Nat.le_of_ble_eq_true rfl, Nat.le_of_ble_eq_true rfl⟩, hts _ im_Rips_checkPlanned, hts _ sl_Rips_checkPlanned⟩ (preV_ro (hP.sub (ws' := [(hF, .inr (9, [.ref hB, .ref hT, .ref hG, .ref hC, .ref hQ, .ref hO, .ref hV, .ref hN, .int (nI wy), .int (nI sg_), .int (nI md), .long (iL bd)]))]) [0] rfl) hX 0 rfl rfl) rfl rfl hl.1 rfl (lv_room (Nat.le_of_ble_eq_true rfl)) d_Rips_at_1 ⟨Nat.le_of_ble_eq_true rfl, Nat.le_of_ble_eq_true rfl⟩) (fun _ => ?_)
  refine lv_iload_n hx hb d_Rips_at_4 rfl (lv_at hl 1 rfl) ?_
  refine lv_aload_n hx hb d_Rips_at_5 rfl (lv_at hl 0 rfl) ?_
  refine va_get (D := G) (ci := 9) (v := .ref hQ) (C := R_Rips) (T := F_Rips) (N := 12) hx hb hts in_Rips hown hK hP 0 rfl rfl 4 (by decide) (hts _ fl_Rips_71) (fun _ h9 => h9) rfl d_Rips_at_6 ?_
  refine va_get (D := G) (ci := 6) (v := .int (nI np)) (C := R_Plan) (T := F_Plan) (N := 5) hx hb hts in_Plan hown hK hP 1 rfl rfl 2 (by decide) (hts _ fl_Rips_187) (fun _ h9 => h9) rfl d_Rips_at_9 ?_
  refine va_csv (W.runS (As := [.int (iI kz), .int (nI np)]) (rest := []) ⟨hx, hb, hml, hown, hts⟩ (c_Rips_checkIndexOrNone l G ty kz np (by omega) (by omega)) ⟨callB_of 2 hts (gd_TB cd_Rips_checkIndexOrNone) rfl rfl rfl (hts _ ini_Rips) (hts _ lk_Rips_228) hd_Rips_checkIndexOrNone ⟨Nat.le_of_ble_eq_true rfl, Nat.le_of_ble_eq_true rfl⟩, hts _ st_Rips_checkIndexOrNone⟩ (preS_ro (hP.sub (ws' := []) [] rfl) hX) rfl rfl hl.1 rfl (lv_room (Nat.le_of_ble_eq_true rfl)) d_Rips_at_12 ⟨Nat.le_of_ble_eq_true rfl, Nat.le_of_ble_eq_true rfl⟩) (fun _ => ?_)
  refine lv_iload_n hx hb d_Rips_at_15 rfl (lv_at hl 2 rfl) ?_
  refine z_i2l hx hb (by omega) d_Rips_at_16 ?_
  refine lv_lconst (v := iL 0) hx hb d_Rips_at_17 (by decide) ?_
  refine lv_ldc2 (v := (iL 5)) hx hb hown (hts _ kc_Rips_231) d_Rips_at_18 ?_
  refine va_csv (W.runS (As := [.long (iL wh), .long (iL 0), .long (iL 5)]) (rest := []) ⟨hx, hb, hml, hown, hts⟩ (c_Rips_checkRange l G ty wh 0 5 (by omega) (by omega) (by omega)) ⟨callB_of 3 hts (gd_TB cd_Rips_checkRange) rfl rfl rfl (hts _ ini_Rips) (hts _ lk_Rips_108) hd_Rips_checkRange ⟨Nat.le_of_ble_eq_true rfl, Nat.le_of_ble_eq_true rfl⟩, hts _ st_Rips_checkRange⟩ (preS_ro (hP.sub (ws' := []) [] rfl) hX) rfl rfl hl.1 rfl (lv_room (Nat.le_of_ble_eq_true rfl)) d_Rips_at_21 ⟨Nat.le_of_ble_eq_true rfl, Nat.le_of_ble_eq_true rfl⟩) (fun _ => ?_)
  refine lv_iload_n hx hb d_Rips_at_24 rfl (lv_at hl 1 rfl) ?_
  refine lv_iconst (v := (iI (-1))) hx hb d_Rips_at_25 (by decide) ?_
  refine z_icmp_ne (tgt := 39) hx hb (by omega) (by omega) d_Rips_at_26 (by decide) (fun c26 => ?_) (fun c26 => absurd c26 (by omega))
  refine lv_aload_n hx hb d_Rips_at_39 rfl (lv_at hl 0 rfl) ?_
  refine va_get (D := G) (ci := 9) (v := .ref hQ) (C := R_Rips) (T := F_Rips) (N := 12) hx hb hts in_Rips hown hK hP 0 rfl rfl 4 (by decide) (hts _ fl_Rips_71) (fun _ h9 => h9) rfl d_Rips_at_40 ?_
  refine va_get (D := G) (ci := 6) (v := .ref aQ) (C := R_Plan) (T := F_Plan) (N := 5) hx hb hts in_Plan hown hK hP 1 rfl rfl 0 (by decide) (hts _ fl_Rips_233) (fun _ h9 => h9) rfl d_Rips_at_43 ?_
  refine lv_iload_n hx hb d_Rips_at_46 rfl (lv_at hl 2 rfl) ?_
  refine top_i (show (iI wh) = (nI 5) from by rw [ew]; rfl) ?_
  refine n_aaldA hx hb hK hP 2 5 rfl rfl (by omega) (by omega) (gq 5 (by omega)) d_Rips_at_47 ?_
  refine lv_iload_n hx hb d_Rips_at_48 rfl (lv_at hl 1 rfl) ?_
  refine top_i (show (iI kz) = (nI kz.toNat) from iI_nI (by omega)) ?_
  refine n_iald hx hb hK hP 3 0 rfl rfl (by omega) (by omega) d_Rips_at_49 ?_
  exact W.iret (v := (nI (fj kz.toNat))) hx hb hr (fun t9 ht _ => ⟨_, rfl, rfl, ht⟩) (fun q h => by cases h) d_Rips_at_50

abbrev q_catN (G : va_G) (ty : Nat → ClassId) (hF : Nat) (hB : Nat) (hT : Nat) (hG : Nat) (hC : Nat) (hQ : Nat) (hO : Nat) (hV : Nat) (hN : Nat) (wy : Nat) (sg_ : Nat) (md : Nat) (bd : Int) (aQ : Nat) (aC : Nat) (np : Nat) (rm : Nat) (tot : Int) (kz : Int) (wh : Int) : Array Value → State → Outcome → State → Prop := vp_Si (fun r : Int32 => r = (nI np))
set_option maxRecDepth 100000 in
set_option maxHeartbeats 4000000 in
theorem c_catN (l : Launch) (G : va_G) (ty : Nat → ClassId) (hF : Nat) (hB : Nat) (hT : Nat) (hG : Nat) (hC : Nat) (hQ : Nat) (hO : Nat) (hV : Nat) (hN : Nat) (wy : Nat) (sg_ : Nat) (md : Nat) (bd : Int) (aQ : Nat) (aC : Nat) (np : Nat) (rm : Nat) (tot : Int) (kz : Int) (wh : Int) (g1 : md = 1) (gk : kz = -1) (gnp : np ≤ 240) (gw : 0 ≤ wh ∧ wh ≤ 5) : Met l y_Rips_at ws_Rips_at { frames := 2, cells := 0, slots := 0, locals := 42 } (va_Pc [.ref hF, .int (iI kz), .int (iI wh)] (fun U => va_P G vwCl [(hF, .inr (9, [.ref hB, .ref hT, .ref hG, .ref hC, .ref hQ, .ref hO, .ref hV, .ref hN, .int (nI wy), .int (nI sg_), .int (nI md), .long (iL bd)])), (hQ, .inr (6, [.ref aQ, .ref aC, .int (nI np), .long (iL tot), .int (nI rm)]))] U.heap ∧ KX G ty U)) (q_catN G ty hF hB hT hG hC hQ hO hV hN wy sg_ md bd aQ aC np rm tot kz wh) 0 0 (fun _ => False) := by
  refine met_ro R_Rips (by decide) rfl rfl (Nat.le_of_ble_eq_true rfl) ?_
  intro p e s m below meth c ls hx hb hr hml hown hts hlocks hP hX hl
  have hK := hX.1
  have hl : lv_has ls 3 [(0, .ref hF), (1, .int (iI kz)), (2, .int (iI wh))] := hl
  refine lv_aload_n hx hb d_Rips_at_0 rfl (lv_at hl 0 rfl) ?_
  refine va_csv (W.runV (As := []) (rest := []) ⟨hx, hb, hml, hown, hts⟩ (c_Rips_checkPlanned l G ty hF hB hT hG hC hQ hO hV hN wy sg_ md bd (by omega)) ⟨callB_of 0 hts (gd_TB cd_Rips_checkPlanned) rfl rfl rfl (hts _ ini_Rips) (hts _ lk_Rips_225) hd_Rips_checkPlanned ⟨Nat.le_of_ble_eq_true rfl, Nat.le_of_ble_eq_true rfl⟩, hts _ im_Rips_checkPlanned, hts _ sl_Rips_checkPlanned⟩ (preV_ro (hP.sub (ws' := [(hF, .inr (9, [.ref hB, .ref hT, .ref hG, .ref hC, .ref hQ, .ref hO, .ref hV, .ref hN, .int (nI wy), .int (nI sg_), .int (nI md), .long (iL bd)]))]) [0] rfl) hX 0 rfl rfl) rfl rfl hl.1 rfl (lv_room (Nat.le_of_ble_eq_true rfl)) d_Rips_at_1 ⟨Nat.le_of_ble_eq_true rfl, Nat.le_of_ble_eq_true rfl⟩) (fun _ => ?_)
  refine lv_iload_n hx hb d_Rips_at_4 rfl (lv_at hl 1 rfl) ?_
  refine lv_aload_n hx hb d_Rips_at_5 rfl (lv_at hl 0 rfl) ?_
  refine va_get (D := G) (ci := 9) (v := .ref hQ) (C := R_Rips) (T := F_Rips) (N := 12) hx hb hts in_Rips hown hK hP 0 rfl rfl 4 (by decide) (hts _ fl_Rips_71) (fun _ h9 => h9) rfl d_Rips_at_6 ?_
  refine va_get (D := G) (ci := 6) (v := .int (nI np)) (C := R_Plan) (T := F_Plan) (N := 5) hx hb hts in_Plan hown hK hP 1 rfl rfl 2 (by decide) (hts _ fl_Rips_187) (fun _ h9 => h9) rfl d_Rips_at_9 ?_
  refine va_csv (W.runS (As := [.int (iI kz), .int (nI np)]) (rest := []) ⟨hx, hb, hml, hown, hts⟩ (c_Rips_checkIndexOrNone l G ty kz np (by omega) (by omega)) ⟨callB_of 2 hts (gd_TB cd_Rips_checkIndexOrNone) rfl rfl rfl (hts _ ini_Rips) (hts _ lk_Rips_228) hd_Rips_checkIndexOrNone ⟨Nat.le_of_ble_eq_true rfl, Nat.le_of_ble_eq_true rfl⟩, hts _ st_Rips_checkIndexOrNone⟩ (preS_ro (hP.sub (ws' := []) [] rfl) hX) rfl rfl hl.1 rfl (lv_room (Nat.le_of_ble_eq_true rfl)) d_Rips_at_12 ⟨Nat.le_of_ble_eq_true rfl, Nat.le_of_ble_eq_true rfl⟩) (fun _ => ?_)
  refine lv_iload_n hx hb d_Rips_at_15 rfl (lv_at hl 2 rfl) ?_
  refine z_i2l hx hb (by omega) d_Rips_at_16 ?_
  refine lv_lconst (v := iL 0) hx hb d_Rips_at_17 (by decide) ?_
  refine lv_ldc2 (v := (iL 5)) hx hb hown (hts _ kc_Rips_231) d_Rips_at_18 ?_
  refine va_csv (W.runS (As := [.long (iL wh), .long (iL 0), .long (iL 5)]) (rest := []) ⟨hx, hb, hml, hown, hts⟩ (c_Rips_checkRange l G ty wh 0 5 (by omega) (by omega) (by omega)) ⟨callB_of 3 hts (gd_TB cd_Rips_checkRange) rfl rfl rfl (hts _ ini_Rips) (hts _ lk_Rips_108) hd_Rips_checkRange ⟨Nat.le_of_ble_eq_true rfl, Nat.le_of_ble_eq_true rfl⟩, hts _ st_Rips_checkRange⟩ (preS_ro (hP.sub (ws' := []) [] rfl) hX) rfl rfl hl.1 rfl (lv_room (Nat.le_of_ble_eq_true rfl)) d_Rips_at_21 ⟨Nat.le_of_ble_eq_true rfl, Nat.le_of_ble_eq_true rfl⟩) (fun _ => ?_)
  refine lv_iload_n hx hb d_Rips_at_24 rfl (lv_at hl 1 rfl) ?_
  refine lv_iconst (v := (iI (-1))) hx hb d_Rips_at_25 (by decide) ?_
  refine z_icmp_ne (tgt := 39) hx hb (by omega) (by omega) d_Rips_at_26 (by decide) (fun c26 => absurd c26 (by omega)) (fun c26 => ?_)
  refine lv_aload_n hx hb d_Rips_at_29 rfl (lv_at hl 0 rfl) ?_
  refine va_get (D := G) (ci := 9) (v := .ref hQ) (C := R_Rips) (T := F_Rips) (N := 12) hx hb hts in_Rips hown hK hP 0 rfl rfl 4 (by decide) (hts _ fl_Rips_71) (fun _ h9 => h9) rfl d_Rips_at_30 ?_
  refine va_get (D := G) (ci := 6) (v := .int (nI np)) (C := R_Plan) (T := F_Plan) (N := 5) hx hb hts in_Plan hown hK hP 1 rfl rfl 2 (by decide) (hts _ fl_Rips_187) (fun _ h9 => h9) rfl d_Rips_at_33 ?_
  refine lv_goto (tgt := 50) hx hb d_Rips_at_36 (by decide) ?_
  exact W.iret (v := (nI np)) hx hb hr (fun t9 ht _ => ⟨_, rfl, rfl, ht⟩) (fun q h => by cases h) d_Rips_at_50

abbrev q_Rips_clear2 (G : va_G) (ty : Nat → ClassId) (hF : Nat) (hB : Nat) (hT : Nat) (hG : Nat) (hC : Nat) (hQ : Nat) (hO : Nat) (hV : Nat) (hN : Nat) (wy : Nat) (sg_ : Nat) (md : Nat) (bd : Int) (aF : Nat) (aX : Nat) (aY : Nat) (st : Nat) (wd : Nat) (al : Nat) (nf : Nat) (mg : Nat) (sA : Nat) (nY : Nat) (fX : Nat → Int32) (fY : Nat → Int32) (kz : Int) (aQ : Nat) (aC : Nat) (np : Nat) (rm : Nat) (tot : Int) (fQ : Nat → Option Nat) (aR : Nat → Nat) (f0 : Nat → Nat) (f1 : Nat → Nat) (f2 : Nat → Nat) (f3 : Nat → Nat) : Array Value → State → Outcome → State → Prop := vp_Si (fun r : Int32 => r = (nI ((decide ((fX ((f0 kz.toNat + f2 kz.toNat) * (f0 kz.toNat + f2 kz.toNat - 1) / 2 + f0 kz.toNat) &&& fY ((f1 kz.toNat + f3 kz.toNat) * (f1 kz.toNat + f3 kz.toNat - 1) / 2 + f1 kz.toNat)) = 0)).toNat)))
set_option maxRecDepth 100000 in
set_option maxHeartbeats 4000000 in
theorem c_Rips_clear2 (l : Launch) (G : va_G) (ty : Nat → ClassId) (hF : Nat) (hB : Nat) (hT : Nat) (hG : Nat) (hC : Nat) (hQ : Nat) (hO : Nat) (hV : Nat) (hN : Nat) (wy : Nat) (sg_ : Nat) (md : Nat) (bd : Int) (aF : Nat) (aX : Nat) (aY : Nat) (st : Nat) (wd : Nat) (al : Nat) (nf : Nat) (mg : Nat) (sA : Nat) (nY : Nat) (fX : Nat → Int32) (fY : Nat → Int32) (kz : Int) (aQ : Nat) (aC : Nat) (np : Nat) (rm : Nat) (tot : Int) (fQ : Nat → Option Nat) (aR : Nat → Nat) (f0 : Nat → Nat) (f1 : Nat → Nat) (f2 : Nat → Nat) (f3 : Nat → Nat) (g1 : md = 1) (gq : ∀ i, i < 6 → fQ i = some (aR i)) (gk : 0 ≤ kz ∧ kz < (np : Int)) (gnp : np ≤ rm ∧ rm ≤ 240) (gal : al ≤ 24) (gwd : wd ≤ 10) (gA : sA = al * (al + 1) / 2) (gY : nY = wd * (wd + 1) / 2) (gb : ∀ k, k < np → (1 ≤ f2 k ∧ f0 k + f2 k ≤ al) ∧ 1 ≤ f3 k ∧ f1 k + f3 k ≤ wd) : Met l y_Rips_clear2 ws_Rips_clear2 { frames := 1, cells := 0, slots := 0, locals := 22 } (va_Pc [.ref hF, .int (iI kz)] (fun U => va_P G vwCl [(hF, .inr (9, [.ref hB, .ref hT, .ref hG, .ref hC, .ref hQ, .ref hO, .ref hV, .ref hN, .int (nI wy), .int (nI sg_), .int (nI md), .long (iL bd)])), (hB, .inr (0, [.int (nI st), .int (nI wd), .int (nI al), .ref aF, .int (nI nf), .int (nI mg), .ref aX, .ref aY])), (aX, .inl (ty 0, sA, .inl fX)), (aY, .inl (ty 0, nY, .inl fY)), (hQ, .inr (6, [.ref aQ, .ref aC, .int (nI np), .long (iL tot), .int (nI rm)])), (aQ, .inl (ty 5, 6, .inr (.inr (.inr (.inr fQ))))), (aR 0, .inl (ty 0, rm, .inl (nF f0))), (aR 1, .inl (ty 0, rm, .inl (nF f1))), (aR 2, .inl (ty 0, rm, .inl (nF f2))), (aR 3, .inl (ty 0, rm, .inl (nF f3)))] U.heap ∧ KX G ty U)) (q_Rips_clear2 G ty hF hB hT hG hC hQ hO hV hN wy sg_ md bd aF aX aY st wd al nf mg sA nY fX fY kz aQ aC np rm tot fQ aR f0 f1 f2 f3) 0 0 (fun _ => False) := by
  refine met_ro R_Rips (by decide) rfl rfl (Nat.le_of_ble_eq_true rfl) ?_
  intro p e s m below meth c ls hx hb hr hml hown hts hlocks hP hX hl
  have hK := hX.1
  have hl : lv_has ls 6 [(0, .ref hF), (1, .int (iI kz))] := hl
  refine lv_aload_n hx hb d_Rips_clear2_0 rfl (lv_at hl 0 rfl) ?_
  refine va_csv (W.runV (As := []) (rest := []) ⟨hx, hb, hml, hown, hts⟩ (c_Rips_checkPlanned l G ty hF hB hT hG hC hQ hO hV hN wy sg_ md bd (by omega)) ⟨callB_of 0 hts (gd_TB cd_Rips_checkPlanned) rfl rfl rfl (hts _ ini_Rips) (hts _ lk_Rips_225) hd_Rips_checkPlanned ⟨Nat.le_of_ble_eq_true rfl, Nat.le_of_ble_eq_true rfl⟩, hts _ im_Rips_checkPlanned, hts _ sl_Rips_checkPlanned⟩ (preV_ro (hP.sub (ws' := [(hF, .inr (9, [.ref hB, .ref hT, .ref hG, .ref hC, .ref hQ, .ref hO, .ref hV, .ref hN, .int (nI wy), .int (nI sg_), .int (nI md), .long (iL bd)]))]) [0] rfl) hX 0 rfl rfl) rfl rfl hl.1 rfl (lv_room (Nat.le_of_ble_eq_true rfl)) d_Rips_clear2_1 ⟨Nat.le_of_ble_eq_true rfl, Nat.le_of_ble_eq_true rfl⟩) (fun _ => ?_)
  refine lv_iload_n hx hb d_Rips_clear2_4 rfl (lv_at hl 1 rfl) ?_
  refine lv_aload_n hx hb d_Rips_clear2_5 rfl (lv_at hl 0 rfl) ?_
  refine va_get (D := G) (ci := 9) (v := .ref hQ) (C := R_Rips) (T := F_Rips) (N := 12) hx hb hts in_Rips hown hK hP 0 rfl rfl 4 (by decide) (hts _ fl_Rips_71) (fun _ h9 => h9) rfl d_Rips_clear2_6 ?_
  refine va_get (D := G) (ci := 6) (v := .int (nI np)) (C := R_Plan) (T := F_Plan) (N := 5) hx hb hts in_Plan hown hK hP 4 rfl rfl 2 (by decide) (hts _ fl_Rips_187) (fun _ h9 => h9) rfl d_Rips_clear2_9 ?_
  refine va_csv (W.runS (As := [.int (iI kz), .int (nI np)]) (rest := []) ⟨hx, hb, hml, hown, hts⟩ (c_Rips_checkIndex l G ty kz np (by omega) (by omega)) ⟨callB_of 2 hts (gd_TB cd_Rips_checkIndex) rfl rfl rfl (hts _ ini_Rips) (hts _ lk_Rips_92) hd_Rips_checkIndex ⟨Nat.le_of_ble_eq_true rfl, Nat.le_of_ble_eq_true rfl⟩, hts _ st_Rips_checkIndex⟩ (preS_ro (hP.sub (ws' := []) [] rfl) hX) rfl rfl hl.1 rfl (lv_room (Nat.le_of_ble_eq_true rfl)) d_Rips_clear2_12 ⟨Nat.le_of_ble_eq_true rfl, Nat.le_of_ble_eq_true rfl⟩) (fun _ => ?_)
  have hbk := gb kz.toNat (by omega)
  have hs1 := sp_lt (b := f0 kz.toNat) (n := f0 kz.toNat + f2 kz.toNat) (N := al) (by omega) (by omega) (by omega)
  rw [← gA] at hs1
  have hs2 := sp_lt (b := f1 kz.toNat) (n := f1 kz.toNat + f3 kz.toNat) (N := wd) (by omega) (by omega) (by omega)
  rw [← gY] at hs2
  have hA1 : sA ≤ 1000 := by rw [gA]; exact sp_le gal
  have hY1 : nY ≤ 1000 := by rw [gY]; exact sp_le (by omega)
  refine lv_aload_n hx hb d_Rips_clear2_15 rfl (lv_at hl 0 rfl) ?_
  refine va_get (D := G) (ci := 9) (v := .ref hQ) (C := R_Rips) (T := F_Rips) (N := 12) hx hb hts in_Rips hown hK hP 0 rfl rfl 4 (by decide) (hts _ fl_Rips_71) (fun _ h9 => h9) rfl d_Rips_clear2_16 ?_
  refine va_get (D := G) (ci := 6) (v := .ref aQ) (C := R_Plan) (T := F_Plan) (N := 5) hx hb hts in_Plan hown hK hP 4 rfl rfl 0 (by decide) (hts _ fl_Rips_233) (fun _ h9 => h9) rfl d_Rips_clear2_19 ?_
  refine lv_iconst (v := (nI 0)) hx hb d_Rips_clear2_22 (by decide) ?_
  refine n_aaldA hx hb hK hP 5 5 rfl rfl (by omega) (by omega) (gq 0 (by omega)) d_Rips_clear2_23 ?_
  refine lv_iload_n hx hb d_Rips_clear2_24 rfl (lv_at hl 1 rfl) ?_
  refine top_i (show (iI kz) = (nI kz.toNat) from iI_nI (by omega)) ?_
  refine n_iald hx hb hK hP 6 0 rfl rfl (by omega) (by omega) d_Rips_clear2_25 ?_
  refine lv_istore_n (lv' := [(2, .int (nI (f0 kz.toNat))), (0, .ref hF), (1, .int (iI kz))]) hx hb d_Rips_clear2_26 rfl hl (by decide) rfl (fun ls hl => ?_)
  refine lv_aload_n hx hb d_Rips_clear2_27 rfl (lv_at hl 1 rfl) ?_
  refine va_get (D := G) (ci := 9) (v := .ref hQ) (C := R_Rips) (T := F_Rips) (N := 12) hx hb hts in_Rips hown hK hP 0 rfl rfl 4 (by decide) (hts _ fl_Rips_71) (fun _ h9 => h9) rfl d_Rips_clear2_28 ?_
  refine va_get (D := G) (ci := 6) (v := .ref aQ) (C := R_Plan) (T := F_Plan) (N := 5) hx hb hts in_Plan hown hK hP 4 rfl rfl 0 (by decide) (hts _ fl_Rips_233) (fun _ h9 => h9) rfl d_Rips_clear2_31 ?_
  refine lv_iconst (v := (nI 1)) hx hb d_Rips_clear2_34 (by decide) ?_
  refine n_aaldA hx hb hK hP 5 5 rfl rfl (by omega) (by omega) (gq 1 (by omega)) d_Rips_clear2_35 ?_
  refine lv_iload_n hx hb d_Rips_clear2_36 rfl (lv_at hl 2 rfl) ?_
  refine top_i (show (iI kz) = (nI kz.toNat) from iI_nI (by omega)) ?_
  refine n_iald hx hb hK hP 7 0 rfl rfl (by omega) (by omega) d_Rips_clear2_37 ?_
  refine lv_istore_n (lv' := [(3, .int (nI (f1 kz.toNat))), (2, .int (nI (f0 kz.toNat))), (0, .ref hF), (1, .int (iI kz))]) hx hb d_Rips_clear2_38 rfl hl (by decide) rfl (fun ls hl => ?_)
  refine lv_iload_n hx hb d_Rips_clear2_39 rfl (lv_at hl 1 rfl) ?_
  refine lv_iload_n hx hb d_Rips_clear2_40 rfl (lv_at hl 1 rfl) ?_
  refine lv_aload_n hx hb d_Rips_clear2_41 rfl (lv_at hl 2 rfl) ?_
  refine va_get (D := G) (ci := 9) (v := .ref hQ) (C := R_Rips) (T := F_Rips) (N := 12) hx hb hts in_Rips hown hK hP 0 rfl rfl 4 (by decide) (hts _ fl_Rips_71) (fun _ h9 => h9) rfl d_Rips_clear2_42 ?_
  refine va_get (D := G) (ci := 6) (v := .ref aQ) (C := R_Plan) (T := F_Plan) (N := 5) hx hb hts in_Plan hown hK hP 4 rfl rfl 0 (by decide) (hts _ fl_Rips_233) (fun _ h9 => h9) rfl d_Rips_clear2_45 ?_
  refine lv_iconst (v := (nI 2)) hx hb d_Rips_clear2_48 (by decide) ?_
  refine n_aaldA hx hb hK hP 5 5 rfl rfl (by omega) (by omega) (gq 2 (by omega)) d_Rips_clear2_49 ?_
  refine lv_iload_n hx hb d_Rips_clear2_50 rfl (lv_at hl 3 rfl) ?_
  refine top_i (show (iI kz) = (nI kz.toNat) from iI_nI (by omega)) ?_
  refine n_iald hx hb hK hP 8 0 rfl rfl (by omega) (by omega) d_Rips_clear2_51 ?_
  refine n_iadd hx hb d_Rips_clear2_52 ?_
  refine vp_callSi (W.runS (As := [.int (nI (f0 kz.toNat)), .int (nI ((f0 kz.toNat) + (f2 kz.toNat)))]) (rest := []) ⟨hx, hb, hml, hown, hts⟩ (c_Rips_spanOf l G ty (f0 kz.toNat) ((f0 kz.toNat) + (f2 kz.toNat)) (by omega) (by omega) (by omega)) ⟨callB_of 2 hts (gd_TB cd_Rips_spanOf) rfl rfl rfl (hts _ ini_Rips) (hts _ lk_Rips_237) hd_Rips_spanOf ⟨Nat.le_of_ble_eq_true rfl, Nat.le_of_ble_eq_true rfl⟩, hts _ st_Rips_spanOf⟩ (preS_ro (hP.sub (ws' := []) [] rfl) hX) rfl rfl hl.1 rfl (lv_room (Nat.le_of_ble_eq_true rfl)) d_Rips_clear2_53 ⟨Nat.le_of_ble_eq_true rfl, Nat.le_of_ble_eq_true rfl⟩) (fun r9 er9 => ?_)
  subst er9
  refine lv_istore (lv' := [(4, .int (nI (((f0 kz.toNat) + (f2 kz.toNat)) * (((f0 kz.toNat) + (f2 kz.toNat)) - 1) / 2 + (f0 kz.toNat)))), (3, .int (nI (f1 kz.toNat))), (2, .int (nI (f0 kz.toNat))), (0, .ref hF), (1, .int (iI kz))]) hx hb d_Rips_clear2_56 hl (by decide) rfl (fun ls hl => ?_)
  refine lv_iload_n hx hb d_Rips_clear2_58 rfl (lv_at hl 1 rfl) ?_
  refine lv_iload_n hx hb d_Rips_clear2_59 rfl (lv_at hl 1 rfl) ?_
  refine lv_aload_n hx hb d_Rips_clear2_60 rfl (lv_at hl 3 rfl) ?_
  refine va_get (D := G) (ci := 9) (v := .ref hQ) (C := R_Rips) (T := F_Rips) (N := 12) hx hb hts in_Rips hown hK hP 0 rfl rfl 4 (by decide) (hts _ fl_Rips_71) (fun _ h9 => h9) rfl d_Rips_clear2_61 ?_
  refine va_get (D := G) (ci := 6) (v := .ref aQ) (C := R_Plan) (T := F_Plan) (N := 5) hx hb hts in_Plan hown hK hP 4 rfl rfl 0 (by decide) (hts _ fl_Rips_233) (fun _ h9 => h9) rfl d_Rips_clear2_64 ?_
  refine lv_iconst (v := (nI 3)) hx hb d_Rips_clear2_67 (by decide) ?_
  refine n_aaldA hx hb hK hP 5 5 rfl rfl (by omega) (by omega) (gq 3 (by omega)) d_Rips_clear2_68 ?_
  refine lv_iload_n hx hb d_Rips_clear2_69 rfl (lv_at hl 4 rfl) ?_
  refine top_i (show (iI kz) = (nI kz.toNat) from iI_nI (by omega)) ?_
  refine n_iald hx hb hK hP 9 0 rfl rfl (by omega) (by omega) d_Rips_clear2_70 ?_
  refine n_iadd hx hb d_Rips_clear2_71 ?_
  refine vp_callSi (W.runS (As := [.int (nI (f1 kz.toNat)), .int (nI ((f1 kz.toNat) + (f3 kz.toNat)))]) (rest := []) ⟨hx, hb, hml, hown, hts⟩ (c_Rips_spanOf l G ty (f1 kz.toNat) ((f1 kz.toNat) + (f3 kz.toNat)) (by omega) (by omega) (by omega)) ⟨callB_of 2 hts (gd_TB cd_Rips_spanOf) rfl rfl rfl (hts _ ini_Rips) (hts _ lk_Rips_237) hd_Rips_spanOf ⟨Nat.le_of_ble_eq_true rfl, Nat.le_of_ble_eq_true rfl⟩, hts _ st_Rips_spanOf⟩ (preS_ro (hP.sub (ws' := []) [] rfl) hX) rfl rfl hl.1 rfl (lv_room (Nat.le_of_ble_eq_true rfl)) d_Rips_clear2_72 ⟨Nat.le_of_ble_eq_true rfl, Nat.le_of_ble_eq_true rfl⟩) (fun r9 er9 => ?_)
  subst er9
  refine lv_istore (lv' := [(5, .int (nI (((f1 kz.toNat) + (f3 kz.toNat)) * (((f1 kz.toNat) + (f3 kz.toNat)) - 1) / 2 + (f1 kz.toNat)))), (4, .int (nI (((f0 kz.toNat) + (f2 kz.toNat)) * (((f0 kz.toNat) + (f2 kz.toNat)) - 1) / 2 + (f0 kz.toNat)))), (3, .int (nI (f1 kz.toNat))), (2, .int (nI (f0 kz.toNat))), (0, .ref hF), (1, .int (iI kz))]) hx hb d_Rips_clear2_75 hl (by decide) rfl (fun ls hl => ?_)
  refine lv_aload_n hx hb d_Rips_clear2_77 rfl (lv_at hl 4 rfl) ?_
  refine va_get (D := G) (ci := 9) (v := .ref hB) (C := R_Rips) (T := F_Rips) (N := 12) hx hb hts in_Rips hown hK hP 0 rfl rfl 0 (by decide) (hts _ fl_Rips_33) (fun _ h9 => h9) rfl d_Rips_clear2_78 ?_
  refine lv_iload hx hb d_Rips_clear2_81 (lv_at hl 1 rfl) ?_
  refine lv_iload hx hb d_Rips_clear2_83 (lv_at hl 0 rfl) ?_
  refine vp_callSi (W.runV (As := [.int (nI (((f0 kz.toNat) + (f2 kz.toNat)) * (((f0 kz.toNat) + (f2 kz.toNat)) - 1) / 2 + (f0 kz.toNat))), .int (nI (((f1 kz.toNat) + (f3 kz.toNat)) * (((f1 kz.toNat) + (f3 kz.toNat)) - 1) / 2 + (f1 kz.toNat)))]) (rest := []) ⟨hx, hb, hml, hown, hts⟩ (c_Board_faultsIn l G ty hB aF aX aY st wd al nf mg sA nY (((f0 kz.toNat) + (f2 kz.toNat)) * (((f0 kz.toNat) + (f2 kz.toNat)) - 1) / 2 + (f0 kz.toNat)) (((f1 kz.toNat) + (f3 kz.toNat)) * (((f1 kz.toNat) + (f3 kz.toNat)) - 1) / 2 + (f1 kz.toNat)) fX fY (by omega) (by omega) (by omega) (by omega)) ⟨callB_of 2 hts (gd_TB cd_Board_faultsIn) rfl rfl rfl (hts _ ini_Board) (hts _ lk_Rips_240) hd_Board_faultsIn ⟨Nat.le_of_ble_eq_true rfl, Nat.le_of_ble_eq_true rfl⟩, hts _ im_Board_faultsIn, hts _ sl_Board_faultsIn⟩ (preV_ro (hP.sub (ws' := [(hB, .inr (0, [.int (nI st), .int (nI wd), .int (nI al), .ref aF, .int (nI nf), .int (nI mg), .ref aX, .ref aY])), (aX, .inl (ty 0, sA, .inl fX)), (aY, .inl (ty 0, nY, .inl fY))]) [1, 2, 3] rfl) hX 0 rfl rfl) rfl rfl hl.1 rfl (lv_room (Nat.le_of_ble_eq_true rfl)) d_Rips_clear2_85 ⟨Nat.le_of_ble_eq_true rfl, Nat.le_of_ble_eq_true rfl⟩) (fun r9 er9 => ?_)
  subst er9
  refine lv_if_ne (tgt := 95) hx hb d_Rips_clear2_88 (by decide) (fun c88 => ?_) (fun c88 => ?_)
  · refine lv_iconst (v := (nI 0)) hx hb d_Rips_clear2_95 (by decide) ?_
    exact W.zret (v := (nI 0)) hx hb hr nar_b0 (fun t9 ht _ => ⟨_, rfl, congrArg nI (show 0 = _ by rw [decide_eq_false c88]; rfl), ht⟩) (fun q h => by cases h) d_Rips_clear2_96
  · refine lv_iconst (v := (nI 1)) hx hb d_Rips_clear2_91 (by decide) ?_
    refine lv_goto (tgt := 96) hx hb d_Rips_clear2_92 (by decide) ?_
    exact W.zret (v := (nI 1)) hx hb hr nar_b1 (fun t9 ht _ => ⟨_, rfl, congrArg nI (show 1 = _ by rw [decide_eq_true c88]; rfl), ht⟩) (fun q h => by cases h) d_Rips_clear2_96

abbrev q_Rips_price (G : va_G) (ty : Nat → ClassId) (hF : Nat) (hB : Nat) (hT : Nat) (hG : Nat) (hC : Nat) (hQ : Nat) (hO : Nat) (hV : Nat) (hN : Nat) (wy : Nat) (sg_ : Nat) (md : Nat) (bd : Int) (aT : Nat) (bw : Nat) (fT : Nat → Option Nat) (pi : Int) (pt : Int) (aQ : Nat) (aC : Nat) (np : Nat) (rm : Nat) (tot : Int) (cn : Nat → Nat) (nf : Nat) (adF : Nat → Nat) (fd : Nat → Nat → Int) (ns : Nat) (adS : Nat → Nat) (sw : Nat → Nat) (sp : Nat → Nat) (sn : Nat → Int) (pr : Nat → Int) (sl : Nat → Nat) (sm : Nat → Nat) (sb : Nat → Int32) (lo : Nat → Nat) (hi : Nat → Nat) (sa : Nat → Int32) : Array Value → State → Outcome → State → Prop := vp_Sl (fun r : Int64 => (pt = 0 → r = iL (pr pi.toNat)) ∧ (pt = 1 → r = iL ((cn pi.toNat : Nat) : Int)) ∧ (pt = 2 → r = iL (sn pi.toNat)))
set_option maxRecDepth 100000 in
set_option maxHeartbeats 4000000 in
theorem c_Rips_price (l : Launch) (G : va_G) (ty : Nat → ClassId) (hF : Nat) (hB : Nat) (hT : Nat) (hG : Nat) (hC : Nat) (hQ : Nat) (hO : Nat) (hV : Nat) (hN : Nat) (wy : Nat) (sg_ : Nat) (md : Nat) (bd : Int) (aT : Nat) (bw : Nat) (fT : Nat → Option Nat) (pi : Int) (pt : Int) (aQ : Nat) (aC : Nat) (np : Nat) (rm : Nat) (tot : Int) (cn : Nat → Nat) (nf : Nat) (adF : Nat → Nat) (fd : Nat → Nat → Int) (ns : Nat) (adS : Nat → Nat) (sw : Nat → Nat) (sp : Nat → Nat) (sn : Nat → Int) (pr : Nat → Int) (sl : Nat → Nat) (sm : Nat → Nat) (sb : Nat → Int32) (lo : Nat → Nat) (hi : Nat → Nat) (sa : Nat → Int32) (g8 : ns ≤ 8) (gt : ∀ i, i < ns → fT i = some (adS i)) (g1 : md = 1) (gi : 0 ≤ pi ∧ pi < (ns : Int)) (gp : 0 ≤ pt ∧ pt ≤ 2) (gn : ∀ i, i < ns → -1 ≤ sn i ∧ sn i ≤ 1000) (gc : ∀ i, i < 8 → cn i ≤ 1000) : Met l y_Rips_price ws_Rips_price { frames := 1, cells := 0, slots := 0, locals := 21 } (va_Pc [.ref hF, .int (iI pi), .int (iI pt)] (fun U => va_P G vwCl (WP [(hF, .inr (9, [.ref hB, .ref hT, .ref hG, .ref hC, .ref hQ, .ref hO, .ref hV, .ref hN, .int (nI wy), .int (nI sg_), .int (nI md), .long (iL bd)])), (hT, .inr (8, [.ref aT, .int (nI ns), .int (nI bw), .ref hB])), (aT, .inl (ty 4, 8, .inr (.inr (.inr (.inr fT))))), (hQ, .inr (6, [.ref aQ, .ref aC, .int (nI np), .long (iL tot), .int (nI rm)])), (aC, .inl (ty 0, 8, .inl (nF cn)))] (PLd nf adF fd ns adS sw sp sn pr sl sm sb lo hi sa)) U.heap ∧ KX G ty U)) (q_Rips_price G ty hF hB hT hG hC hQ hO hV hN wy sg_ md bd aT bw fT pi pt aQ aC np rm tot cn nf adF fd ns adS sw sp sn pr sl sm sb lo hi sa) 0 0 (fun _ => False) := by
  refine met_ro R_Rips (by decide) rfl rfl (Nat.le_of_ble_eq_true rfl) ?_
  intro p e s m below meth c ls hx hb hr hml hown hts hlocks hP hX hl
  have hK := hX.1
  have hl : lv_has ls 3 [(0, .ref hF), (1, .int (iI pi)), (2, .int (iI pt))] := hl
  refine lv_aload_n hx hb d_Rips_price_0 rfl (lv_at hl 0 rfl) ?_
  refine va_csv (W.runV (As := []) (rest := []) ⟨hx, hb, hml, hown, hts⟩ (c_Rips_checkPlanned l G ty hF hB hT hG hC hQ hO hV hN wy sg_ md bd (by omega)) ⟨callB_of 0 hts (gd_TB cd_Rips_checkPlanned) rfl rfl rfl (hts _ ini_Rips) (hts _ lk_Rips_225) hd_Rips_checkPlanned ⟨Nat.le_of_ble_eq_true rfl, Nat.le_of_ble_eq_true rfl⟩, hts _ im_Rips_checkPlanned, hts _ sl_Rips_checkPlanned⟩ (preV_ro (pre_of (hP.part (cx := [(hF, .inr (9, [.ref hB, .ref hT, .ref hG, .ref hC, .ref hQ, .ref hO, .ref hV, .ref hN, .int (nI wy), .int (nI sg_), .int (nI md), .long (iL bd)]))]) [0] rfl)) hX 0 rfl rfl) rfl rfl hl.1 rfl (lv_room (Nat.le_of_ble_eq_true rfl)) d_Rips_price_1 ⟨Nat.le_of_ble_eq_true rfl, Nat.le_of_ble_eq_true rfl⟩) (fun _ => ?_)
  refine lv_iload_n hx hb d_Rips_price_4 rfl (lv_at hl 1 rfl) ?_
  refine lv_aload_n hx hb d_Rips_price_5 rfl (lv_at hl 0 rfl) ?_
  refine va_get (D := G) (ci := 9) (v := .ref hT) (C := R_Rips) (T := F_Rips) (N := 12) hx hb hts in_Rips hown hK hP 0 rfl rfl 1 (by decide) (hts _ fl_Rips_42) (fun _ h9 => h9) rfl d_Rips_price_6 ?_
  refine va_get (D := G) (ci := 8) (v := .int (nI ns)) (C := R_Sorts) (T := F_Sorts) (N := 4) hx hb hts in_Sorts hown hK hP 1 rfl rfl 1 (by decide) (hts _ fl_Rips_125) (fun _ h9 => h9) rfl d_Rips_price_9 ?_
  refine va_csv (W.runS (As := [.int (iI pi), .int (nI ns)]) (rest := []) ⟨hx, hb, hml, hown, hts⟩ (c_Rips_checkIndex l G ty pi ns (by omega) (by omega)) ⟨callB_of 2 hts (gd_TB cd_Rips_checkIndex) rfl rfl rfl (hts _ ini_Rips) (hts _ lk_Rips_92) hd_Rips_checkIndex ⟨Nat.le_of_ble_eq_true rfl, Nat.le_of_ble_eq_true rfl⟩, hts _ st_Rips_checkIndex⟩ (preS_ro (pre_of (hP.part (cx := []) [] rfl)) hX) rfl rfl hl.1 rfl (lv_room (Nat.le_of_ble_eq_true rfl)) d_Rips_price_12 ⟨Nat.le_of_ble_eq_true rfl, Nat.le_of_ble_eq_true rfl⟩) (fun _ => ?_)
  refine lv_iload_n hx hb d_Rips_price_15 rfl (lv_at hl 2 rfl) ?_
  refine lv_iconst (v := (nI 3)) hx hb d_Rips_price_16 (by decide) ?_
  refine va_csv (W.runS (As := [.int (iI pt), .int (nI 3)]) (rest := []) ⟨hx, hb, hml, hown, hts⟩ (c_Rips_checkIndex l G ty pt 3 (by omega) (by omega)) ⟨callB_of 2 hts (gd_TB cd_Rips_checkIndex) rfl rfl rfl (hts _ ini_Rips) (hts _ lk_Rips_92) hd_Rips_checkIndex ⟨Nat.le_of_ble_eq_true rfl, Nat.le_of_ble_eq_true rfl⟩, hts _ st_Rips_checkIndex⟩ (preS_ro (pre_of (hP.part (cx := []) [] rfl)) hX) rfl rfl hl.1 rfl (lv_room (Nat.le_of_ble_eq_true rfl)) d_Rips_price_17 ⟨Nat.le_of_ble_eq_true rfl, Nat.le_of_ble_eq_true rfl⟩) (fun _ => ?_)
  refine lv_iload_n hx hb d_Rips_price_20 rfl (lv_at hl 2 rfl) ?_
  refine z_if_ne (tgt := 37) hx hb (by omega) d_Rips_price_21 (by decide) (fun c21 => ?_) (fun c21 => ?_)
  · refine lv_iload_n hx hb d_Rips_price_37 rfl (lv_at hl 2 rfl) ?_
    refine lv_iconst (v := (nI 1)) hx hb d_Rips_price_38 (by decide) ?_
    refine zn_icmp_ne (tgt := 55) hx hb (by omega) (by omega) d_Rips_price_39 (by decide) (fun c39 => ?_) (fun c39 => ?_)
    · refine lv_aload_n hx hb d_Rips_price_55 rfl (lv_at hl 0 rfl) ?_
      refine va_get (D := G) (ci := 9) (v := .ref hT) (C := R_Rips) (T := F_Rips) (N := 12) hx hb hts in_Rips hown hK hP 0 rfl rfl 1 (by decide) (hts _ fl_Rips_42) (fun _ h9 => h9) rfl d_Rips_price_56 ?_
      refine va_get (D := G) (ci := 8) (v := .ref aT) (C := R_Sorts) (T := F_Sorts) (N := 4) hx hb hts in_Sorts hown hK hP 1 rfl rfl 0 (by decide) (hts _ fl_Rips_144) (fun _ h9 => h9) rfl d_Rips_price_59 ?_
      refine lv_iload_n hx hb d_Rips_price_62 rfl (lv_at hl 1 rfl) ?_
      refine top_i (show (iI pi) = (nI pi.toNat) from iI_nI (by omega)) ?_
      refine n_aald hx hb hK hP 2 4 rfl rfl (by omega) (by omega) (gt pi.toNat (by omega)) d_Rips_price_63 ?_
      refine va_get (D := G) (ci := 7) (v := .int (iI (sn pi.toNat))) (C := R_Sort) (T := F_Sort) (N := 10) hx hb hts in_Sort hown hK hP (5 + (nf + pi.toNat)) (pool_2 5 rfl (by omega)) rfl 2 (by decide) (hts _ fl_Rips_164) (fun _ h9 => h9) rfl d_Rips_price_64 ?_
      refine z_i2l hx hb (by first | (have := gc pi.toNat (by omega); omega) | (have := gn pi.toNat (by omega); omega)) d_Rips_price_67 ?_
      exact W.lret (v := (iL (sn pi.toNat))) hx hb hr (fun t9 ht _ => ⟨_, rfl, by first | exact ⟨fun _ => rfl, fun h => absurd h (by omega), fun h => absurd h (by omega)⟩ | exact ⟨fun h => absurd h (by omega), fun _ => rfl, fun h => absurd h (by omega)⟩ | exact ⟨fun h => absurd h (by omega), fun h => absurd h (by omega), fun _ => rfl⟩, ht⟩) (fun q h => by cases h) d_Rips_price_68
    · refine lv_aload_n hx hb d_Rips_price_42 rfl (lv_at hl 0 rfl) ?_
      refine va_get (D := G) (ci := 9) (v := .ref hQ) (C := R_Rips) (T := F_Rips) (N := 12) hx hb hts in_Rips hown hK hP 0 rfl rfl 4 (by decide) (hts _ fl_Rips_71) (fun _ h9 => h9) rfl d_Rips_price_43 ?_
      refine va_get (D := G) (ci := 6) (v := .ref aC) (C := R_Plan) (T := F_Plan) (N := 5) hx hb hts in_Plan hown hK hP 3 rfl rfl 1 (by decide) (hts _ fl_Rips_246) (fun _ h9 => h9) rfl d_Rips_price_46 ?_
      refine lv_iload_n hx hb d_Rips_price_49 rfl (lv_at hl 1 rfl) ?_
      refine top_i (show (iI pi) = (nI pi.toNat) from iI_nI (by omega)) ?_
      refine n_iald hx hb hK hP 4 0 rfl rfl (by omega) (by omega) d_Rips_price_50 ?_
      refine n_i2l hx hb (by first | (have := gc pi.toNat (by omega); omega) | (have := gn pi.toNat (by omega); omega)) d_Rips_price_51 ?_
      refine lv_goto (tgt := 68) hx hb d_Rips_price_52 (by decide) ?_
      exact W.lret (v := (iL ((cn pi.toNat : Nat) : Int))) hx hb hr (fun t9 ht _ => ⟨_, rfl, by first | exact ⟨fun _ => rfl, fun h => absurd h (by omega), fun h => absurd h (by omega)⟩ | exact ⟨fun h => absurd h (by omega), fun _ => rfl, fun h => absurd h (by omega)⟩ | exact ⟨fun h => absurd h (by omega), fun h => absurd h (by omega), fun _ => rfl⟩, ht⟩) (fun q h => by cases h) d_Rips_price_68
  · refine lv_aload_n hx hb d_Rips_price_24 rfl (lv_at hl 0 rfl) ?_
    refine va_get (D := G) (ci := 9) (v := .ref hT) (C := R_Rips) (T := F_Rips) (N := 12) hx hb hts in_Rips hown hK hP 0 rfl rfl 1 (by decide) (hts _ fl_Rips_42) (fun _ h9 => h9) rfl d_Rips_price_25 ?_
    refine va_get (D := G) (ci := 8) (v := .ref aT) (C := R_Sorts) (T := F_Sorts) (N := 4) hx hb hts in_Sorts hown hK hP 1 rfl rfl 0 (by decide) (hts _ fl_Rips_144) (fun _ h9 => h9) rfl d_Rips_price_28 ?_
    refine lv_iload_n hx hb d_Rips_price_31 rfl (lv_at hl 1 rfl) ?_
    refine top_i (show (iI pi) = (nI pi.toNat) from iI_nI (by omega)) ?_
    refine n_aald hx hb hK hP 2 4 rfl rfl (by omega) (by omega) (gt pi.toNat (by omega)) d_Rips_price_32 ?_
    refine va_get (D := G) (ci := 7) (v := .long (iL (pr pi.toNat))) (C := R_Sort) (T := F_Sort) (N := 10) hx hb hts in_Sort hown hK hP (5 + (nf + pi.toNat)) (pool_2 5 rfl (by omega)) rfl 3 (by decide) (hts _ fl_Rips_243) (fun _ h9 => h9) rfl d_Rips_price_33 ?_
    exact W.lret (v := (iL (pr pi.toNat))) hx hb hr (fun t9 ht _ => ⟨_, rfl, by first | exact ⟨fun _ => rfl, fun h => absurd h (by omega), fun h => absurd h (by omega)⟩ | exact ⟨fun h => absurd h (by omega), fun _ => rfl, fun h => absurd h (by omega)⟩ | exact ⟨fun h => absurd h (by omega), fun h => absurd h (by omega), fun _ => rfl⟩, ht⟩) (fun q h => by cases h) d_Rips_price_36

abbrev q_Rips_panel (G : va_G) (ty : Nat → ClassId) (hF : Nat) (hB : Nat) (hT : Nat) (hG : Nat) (hC : Nat) (hQ : Nat) (hO : Nat) (hV : Nat) (hN : Nat) (wy : Nat) (sg_ : Nat) (md : Nat) (bd : Int) (rN : Nat) (aW : Nat) (lN : Nat) (bN : Nat) (sN : Nat) (wz : Int) (kz : Int) (fe : Nat → Nat) (aQ : Nat) (aC : Nat) (np : Nat) (rm : Nat) (tot : Int) (fQ : Nat → Option Nat) (aR : Nat → Nat) (f3 : Nat → Nat) (A : Nat → Prop) : Array Value → State → Outcome → State → Prop := va_Qi (fun (r : Int32) => fun (uu : Nat × (Nat → Nat)) => r = (iI (pnl f3 np wz.toNat kz.toNat))) (at_W G (fun (uu : Nat × (Nat → Nat)) => [(hF, .inr (9, [.ref hB, .ref hT, .ref hG, .ref hC, .ref hQ, .ref hO, .ref hV, .ref hN, .int (nI wy), .int (nI sg_), .int (nI md), .long (iL bd)])), (hN, .inr (5, [.int (nI rN), .ref uu.1])), (uu.1, .inl (ty 0, (rN + 1) * 101, .inl (nF uu.2))), (hQ, .inr (6, [.ref aQ, .ref aC, .int (nI np), .long (iL tot), .int (nI rm)])), (aQ, .inl (ty 5, 6, .inr (.inr (.inr (.inr fQ))))), (aR 3, .inl (ty 0, rm, .inl (nF f3)))]) A) A
set_option maxRecDepth 100000 in
set_option maxHeartbeats 4000000 in
theorem c_Rips_panel (l : Launch) (G : va_G) (ty : Nat → ClassId) (sz : Nat) (hF : Nat) (hB : Nat) (hT : Nat) (hG : Nat) (hC : Nat) (hQ : Nat) (hO : Nat) (hV : Nat) (hN : Nat) (wy : Nat) (sg_ : Nat) (md : Nat) (bd : Int) (rN : Nat) (aW : Nat) (lN : Nat) (bN : Nat) (sN : Nat) (wz : Int) (kz : Int) (fe : Nat → Nat) (aQ : Nat) (aC : Nat) (np : Nat) (rm : Nat) (tot : Int) (fQ : Nat → Option Nat) (aR : Nat → Nat) (f3 : Nat → Nat) (gmd : md = 1) (gw : 1 ≤ wz ∧ wz ≤ 100) (gk : 0 ≤ kz ∧ kz ≤ 2147483647) (gq : ∀ i, i < 6 → fQ i = some (aR i)) (gnp : np ≤ rN) (grN : rN ≤ 240) (grm : rm = rN) (gd : ∀ k, k < np → 1 ≤ f3 k ∧ f3 k ≤ 10) (hlN : (lN = (rN + 1) * 101 ∧ bN = 0 ∧ sN = 0) ∨ (lN = 0 ∧ bN = 1 ∧ sN = (rN + 1) * 101)) : Met l y_Rips_panel ws_Rips_panel { frames := 4, cells := bN, slots := sN, locals := 100 } (va_Pc [.ref hF, .int (iI wz), .int (iI kz)] (fun U => U.heap.size = sz ∧ va_P G vwCl [(hF, .inr (9, [.ref hB, .ref hT, .ref hG, .ref hC, .ref hQ, .ref hO, .ref hV, .ref hN, .int (nI wy), .int (nI sg_), .int (nI md), .long (iL bd)])), (hN, .inr (5, [.int (nI rN), .ref aW])), (aW, .inl (ty 0, lN, .inl (nF fe))), (hQ, .inr (6, [.ref aQ, .ref aC, .int (nI np), .long (iL tot), .int (nI rm)])), (aQ, .inl (ty 5, 6, .inr (.inr (.inr (.inr fQ))))), (aR 3, .inl (ty 0, rm, .inl (nF f3)))] U.heap ∧ KX G ty U ∧ va_D (fun _ => True) [(hF, .inr (9, [.ref hB, .ref hT, .ref hG, .ref hC, .ref hQ, .ref hO, .ref hV, .ref hN, .int (nI wy), .int (nI sg_), .int (nI md), .long (iL bd)])), (hN, .inr (5, [.int (nI rN), .ref aW])), (aW, .inl (ty 0, lN, .inl (nF fe))), (hQ, .inr (6, [.ref aQ, .ref aC, .int (nI np), .long (iL tot), .int (nI rm)])), (aQ, .inl (ty 5, 6, .inr (.inr (.inr (.inr fQ))))), (aR 3, .inl (ty 0, rm, .inl (nF f3)))])) (q_Rips_panel G ty hF hB hT hG hC hQ hO hV hN wy sg_ md bd rN aW lN bN sN wz kz fe aQ aC np rm tot fQ aR f3 (va_A [(hF, .inr (9, [.ref hB, .ref hT, .ref hG, .ref hC, .ref hQ, .ref hO, .ref hV, .ref hN, .int (nI wy), .int (nI sg_), .int (nI md), .long (iL bd)])), (hN, .inr (5, [.int (nI rN), .ref aW])), (aW, .inl (ty 0, lN, .inl (nF fe))), (hQ, .inr (6, [.ref aQ, .ref aC, .int (nI np), .long (iL tot), .int (nI rm)])), (aQ, .inl (ty 5, 6, .inr (.inr (.inr (.inr fQ))))), (aR 3, .inl (ty 0, rm, .inl (nF f3)))] sz)) bN sN (va_A [(hF, .inr (9, [.ref hB, .ref hT, .ref hG, .ref hC, .ref hQ, .ref hO, .ref hV, .ref hN, .int (nI wy), .int (nI sg_), .int (nI md), .long (iL bd)])), (hN, .inr (5, [.int (nI rN), .ref aW])), (aW, .inl (ty 0, lN, .inl (nF fe))), (hQ, .inr (6, [.ref aQ, .ref aC, .int (nI np), .long (iL tot), .int (nI rm)])), (aQ, .inl (ty 5, 6, .inr (.inr (.inr (.inr fQ))))), (aR 3, .inl (ty 0, rm, .inl (nF f3)))] sz) := by
  refine met_wr (y := y_Rips_panel) (maxL := 3) (sz := sz) (G := G) (ty := ty) (mc := bN) (ms := sN) (av := [.ref hF, .int (iI wz), .int (iI kz)]) (W0 := [(hF, .inr (9, [.ref hB, .ref hT, .ref hG, .ref hC, .ref hQ, .ref hO, .ref hV, .ref hN, .int (nI wy), .int (nI sg_), .int (nI md), .long (iL bd)])), (hN, .inr (5, [.int (nI rN), .ref aW])), (aW, .inl (ty 0, lN, .inl (nF fe))), (hQ, .inr (6, [.ref aQ, .ref aC, .int (nI np), .long (iL tot), .int (nI rm)])), (aQ, .inl (ty 5, 6, .inr (.inr (.inr (.inr fQ))))), (aR 3, .inl (ty 0, rm, .inl (nF f3)))]) (fun A => q_Rips_panel G ty hF hB hT hG hC hQ hO hV hN wy sg_ md bd rN aW lN bN sN wz kz fe aQ aC np rm tot fQ aR f3 A) R_Rips (by decide) rfl rfl (Nat.le_of_ble_eq_true rfl) ?_
  intro p e s m below meth c ls A hx hb hr hml hown hts hlocks hin hA hP hX hD hS hl
  have hK := hX.1
  have hl : lv_has ls 3 [(0, .ref hF), (1, .int (iI wz)), (2, .int (iI kz))] := hl
  refine lv_aload_n hx hb d_Rips_panel_0 rfl (lv_at hl 0 rfl) ?_
  refine va_csv (W.runV (As := []) (rest := []) ⟨hx, hb, hml, hown, hts⟩ (c_Rips_checkPlanned l G ty hF hB hT hG hC hQ hO hV hN wy sg_ md bd (by omega)) ⟨callB_of 0 hts (gd_TB cd_Rips_checkPlanned) rfl rfl rfl (hts _ ini_Rips) (hts _ lk_Rips_225) hd_Rips_checkPlanned ⟨Nat.le_of_ble_eq_true rfl, Nat.le_of_ble_eq_true rfl⟩, hts _ im_Rips_checkPlanned, hts _ sl_Rips_checkPlanned⟩ (preV_ro (hP.sub (ws' := [(hF, .inr (9, [.ref hB, .ref hT, .ref hG, .ref hC, .ref hQ, .ref hO, .ref hV, .ref hN, .int (nI wy), .int (nI sg_), .int (nI md), .long (iL bd)]))]) [0] rfl) hX 0 rfl rfl) rfl rfl hl.1 rfl (lv_room (Nat.le_of_ble_eq_true rfl)) d_Rips_panel_1 ⟨show 0 + 0 ≤ bN by omega, show 0 + 0 ≤ sN by omega⟩) (fun _ => ?_)
  refine lv_iload_n hx hb d_Rips_panel_4 rfl (lv_at hl 1 rfl) ?_
  refine z_i2l hx hb (by omega) d_Rips_panel_5 ?_
  refine lv_lconst (v := iL 1) hx hb d_Rips_panel_6 (by decide) ?_
  refine lv_ldc2 (v := (iL 100)) hx hb hown (hts _ kc_Rips_257) d_Rips_panel_7 ?_
  refine va_csv (W.runS (As := [.long (iL wz), .long (iL 1), .long (iL 100)]) (rest := []) ⟨hx, hb, hml, hown, hts⟩ (c_Rips_checkRange l G ty wz 1 100 (by omega) (by omega) (by omega)) ⟨callB_of 3 hts (gd_TB cd_Rips_checkRange) rfl rfl rfl (hts _ ini_Rips) (hts _ lk_Rips_108) hd_Rips_checkRange ⟨Nat.le_of_ble_eq_true rfl, Nat.le_of_ble_eq_true rfl⟩, hts _ st_Rips_checkRange⟩ (preS_ro (hP.sub (ws' := []) [] rfl) hX) rfl rfl hl.1 rfl (lv_room (Nat.le_of_ble_eq_true rfl)) d_Rips_panel_10 ⟨show 0 + 0 ≤ bN by omega, show 0 + 0 ≤ sN by omega⟩) (fun _ => ?_)
  refine lv_iload_n hx hb d_Rips_panel_13 rfl (lv_at hl 2 rfl) ?_
  refine z_i2l hx hb (by omega) d_Rips_panel_14 ?_
  refine lv_lconst (v := iL 0) hx hb d_Rips_panel_15 (by decide) ?_
  refine lv_ldc2 (v := (iL 2147483647)) hx hb hown (hts _ kc_Rips_261) d_Rips_panel_16 ?_
  refine va_csv (W.runS (As := [.long (iL kz), .long (iL 0), .long (iL 2147483647)]) (rest := []) ⟨hx, hb, hml, hown, hts⟩ (c_Rips_checkRange l G ty kz 0 2147483647 (by omega) (by omega) (by omega)) ⟨callB_of 3 hts (gd_TB cd_Rips_checkRange) rfl rfl rfl (hts _ ini_Rips) (hts _ lk_Rips_108) hd_Rips_checkRange ⟨Nat.le_of_ble_eq_true rfl, Nat.le_of_ble_eq_true rfl⟩, hts _ st_Rips_checkRange⟩ (preS_ro (hP.sub (ws' := []) [] rfl) hX) rfl rfl hl.1 rfl (lv_room (Nat.le_of_ble_eq_true rfl)) d_Rips_panel_19 ⟨show 0 + 0 ≤ bN by omega, show 0 + 0 ≤ sN by omega⟩) (fun _ => ?_)
  refine lv_aload_n hx hb d_Rips_panel_22 rfl (lv_at hl 0 rfl) ?_
  refine va_get (D := G) (ci := 9) (v := .ref hN) (C := R_Rips) (T := F_Rips) (N := 12) hx hb hts in_Rips hown hK hP 0 rfl rfl 7 (by decide) (hts _ fl_Rips_88) (fun _ h9 => h9) rfl d_Rips_panel_23 ?_
  refine lv_aload_n hx hb d_Rips_panel_26 rfl (lv_at hl 0 rfl) ?_
  refine va_get (D := G) (ci := 9) (v := .ref hQ) (C := R_Rips) (T := F_Rips) (N := 12) hx hb hts in_Rips hown hK hP 0 rfl rfl 4 (by decide) (hts _ fl_Rips_71) (fun _ h9 => h9) rfl d_Rips_panel_27 ?_
  refine lv_iload_n hx hb d_Rips_panel_30 rfl (lv_at hl 1 rfl) ?_
  refine top_i (show (iI wz) = (nI wz.toNat) from iI_nI (by omega)) ?_
  refine lv_iload_n hx hb d_Rips_panel_31 rfl (lv_at hl 2 rfl) ?_
  refine call_wr_i (Wc := [(hN, .inr (5, [.int (nI rN), .ref aW])), (aW, .inl (ty 0, lN, .inl (nF fe))), (hQ, .inr (6, [.ref aQ, .ref aC, .int (nI np), .long (iL tot), .int (nI rm)])), (aQ, .inl (ty 5, 6, .inr (.inr (.inr (.inr fQ))))), (aR 3, .inl (ty 0, rm, .inl (nF f3)))]) (Wr := [(hF, .inr (9, [.ref hB, .ref hT, .ref hG, .ref hC, .ref hQ, .ref hO, .ref hV, .ref hN, .int (nI wy), .int (nI sg_), .int (nI md), .long (iL bd)]))]) (va_runV (As := [.ref hQ, .int (nI wz.toNat), .int (iI kz)]) (rest := []) ⟨hx, hb, hml, hown, hts⟩ (c_PanelMaker_pick l G ty _ hN rN aW lN bN sN wz.toNat kz fe hQ aQ aC np rm tot fQ aR f3 gq (by omega) (by omega) (by omega) grm gd hlN (by omega)) ⟨callB_of 3 hts (gd_TB cd_PanelMaker_pick) rfl rfl rfl (hts _ ini_PanelMaker) (hts _ lk_Rips_263) hd_PanelMaker_pick ⟨Nat.le_of_ble_eq_true rfl, Nat.le_of_ble_eq_true rfl⟩, hts _ im_PanelMaker_pick, hts _ sl_PanelMaker_pick⟩ (preV_wr (hP.sub (ws' := [(hN, .inr (5, [.int (nI rN), .ref aW])), (aW, .inl (ty 0, lN, .inl (nF fe))), (hQ, .inr (6, [.ref aQ, .ref aC, .int (nI np), .long (iL tot), .int (nI rm)])), (aQ, .inl (ty 5, 6, .inr (.inr (.inr (.inr fQ))))), (aR 3, .inl (ty 0, rm, .inl (nF f3)))]) [1, 2, 3, 4, 5] rfl) hX (hD.sub (ws' := [(hN, .inr (5, [.int (nI rN), .ref aW])), (aW, .inl (ty 0, lN, .inl (nF fe))), (hQ, .inr (6, [.ref aQ, .ref aC, .int (nI np), .long (iL tot), .int (nI rm)])), (aQ, .inl (ty 5, 6, .inr (.inr (.inr (.inr fQ))))), (aR 3, .inl (ty 0, rm, .inl (nF f3)))]) [1, 2, 3, 4, 5] (by decide) rfl) 0 rfl rfl) rfl rfl hl.1 rfl (lv_room (Nat.le_of_ble_eq_true rfl)) d_Rips_panel_32 ⟨show 0 + bN ≤ bN by omega, show 0 + sN ≤ sN by omega⟩) hP hD hS hA [1, 2, 3, 4, 5] [0] rfl rfl (by decide) (by decide) (fun r4 u9 H locs hw3 hP hD hS => ?_)
  obtain ⟨aW1, fe1⟩ := u9
  have hw3 : r4 = (iI (pnl f3 np wz.toNat kz.toNat)) ∧ True := hw3
  have hP : va_P G vwCl [(hF, .inr (9, [.ref hB, .ref hT, .ref hG, .ref hC, .ref hQ, .ref hO, .ref hV, .ref hN, .int (nI wy), .int (nI sg_), .int (nI md), .long (iL bd)])), (hN, .inr (5, [.int (nI rN), .ref aW1])), (aW1, .inl (ty 0, (rN + 1) * 101, .inl (nF fe1))), (hQ, .inr (6, [.ref aQ, .ref aC, .int (nI np), .long (iL tot), .int (nI rm)])), (aQ, .inl (ty 5, 6, .inr (.inr (.inr (.inr fQ))))), (aR 3, .inl (ty 0, rm, .inl (nF f3)))] _ := hP
  have hD : va_D A [(hF, .inr (9, [.ref hB, .ref hT, .ref hG, .ref hC, .ref hQ, .ref hO, .ref hV, .ref hN, .int (nI wy), .int (nI sg_), .int (nI md), .long (iL bd)])), (hN, .inr (5, [.int (nI rN), .ref aW1])), (aW1, .inl (ty 0, (rN + 1) * 101, .inl (nF fe1))), (hQ, .inr (6, [.ref aQ, .ref aC, .int (nI np), .long (iL tot), .int (nI rm)])), (aQ, .inl (ty 5, 6, .inr (.inr (.inr (.inr fQ))))), (aR 3, .inl (ty 0, rm, .inl (nF f3)))] := hD
  obtain ⟨rfl, hw3⟩ := hw3
  refine W.widen (k := bN) (n := sN) (by omega) (by omega) ?_
  exact W.iret (v := (iI (pnl f3 np wz.toNat kz.toNat))) hx hb hr (fun t9 ht hW => ⟨⟨_, (aW1, fe1), rfl, rfl, by rw [ht]; exact hP, hD⟩, hS.F ht⟩) hS.2.2 d_Rips_panel_35
