theorem fl_Cutter_129 : Cond.fieldLink R_Cutter 129 "FaultRips$Sort" "price" "J" ∈ TB := mem_TB 457 (by decide +kernel) (by decide +kernel)
theorem fl_Cutter_138 : Cond.fieldLink R_Cutter 138 "FaultRips$Sort" "barred" "I" ∈ TB := mem_TB 464 (by decide +kernel) (by decide +kernel)
theorem fl_Cutter_20 : Cond.fieldLink R_Cutter 20 "FaultRips$Cutter" "topAxis" "I" ∈ TB := mem_TB 142 (by decide +kernel) (by decide +kernel)
theorem fl_Cutter_24 : Cond.fieldLink R_Cutter 24 "FaultRips$Cutter" "top" "I" ∈ TB := mem_TB 143 (by decide +kernel) (by decide +kernel)
theorem fl_Cutter_27 : Cond.fieldLink R_Cutter 27 "FaultRips$Cutter" "topSteps" "I" ∈ TB := mem_TB 144 (by decide +kernel) (by decide +kernel)
theorem fl_Cutter_30 : Cond.fieldLink R_Cutter 30 "FaultRips$Cutter" "board" "LFaultRips$Board;" ∈ TB := mem_TB 137 (by decide +kernel) (by decide +kernel)
theorem fl_Cutter_47 : Cond.fieldLink R_Cutter 47 "FaultRips$Cutter" "spansAlong" "I" ∈ TB := mem_TB 139 (by decide +kernel) (by decide +kernel)
theorem kc_Cutter_133 : Cond.constantLong R_Cutter 133 (iL 1024) ∈ TB := mem_TB 635 (by decide +kernel) (by decide +kernel)
theorem lk_Cutter_126 : Cond.methodLink R_Cutter 126 y_Sort_worthOf ∈ TB := mem_TB 631 (by decide +kernel) (by decide +kernel)
theorem lk_Cutter_135 : Cond.methodLink R_Cutter 135 y_Board_faultsIn ∈ TB := mem_TB 640 (by decide +kernel) (by decide +kernel)
theorem lk_Cutter_141 : Cond.methodLink R_Cutter 141 y_Cutter_strideOf ∈ TB := mem_TB 657 (by decide +kernel) (by decide +kernel)
theorem lk_Cutter_80 : Cond.methodLink R_Cutter 80 y_Gang_mayRip ∈ TB := mem_TB 607 (by decide +kernel) (by decide +kernel)

/-- a table's place: a span along an axis, and one along the other -/
def plc (sA ax sp ot : Nat) : Nat := sp * (if ax = 0 then sA else 1) + ot * (if 1 - ax = 0 then sA else 1)

abbrev q_Cutter_entryOf (G : va_G) (ty : Nat → ClassId) (hR : Nat) (w0 : Nat) (p0 : Nat) (n0 : Int) (r0 : Int) (l0 : Nat) (m0 : Nat) (b0 : Int32) (u0 : Nat) (v0 : Nat) (a0 : Int32) (n : Nat) : Array Value → State → Outcome → State → Prop := vp_Sl (fun r : Int64 => r = (iL ((((p0 * n : Nat) : Int) - r0) * 1024 - 1)))
set_option maxRecDepth 100000 in
set_option maxHeartbeats 4000000 in
theorem c_Cutter_entryOf (l : Launch) (G : va_G) (ty : Nat → ClassId) (hR : Nat) (w0 : Nat) (p0 : Nat) (n0 : Int) (r0 : Int) (l0 : Nat) (m0 : Nat) (b0 : Int32) (u0 : Nat) (v0 : Nat) (a0 : Int32) (n : Nat) (g1 : p0 ≤ 100000) (g2 : n ≤ 1000) : Met l y_Cutter_entryOf ws_Cutter_entryOf { frames := 1, cells := 0, slots := 0, locals := 21 } (va_Pc [.ref hR, .int (nI n)] (fun U => va_P G vwCl [(hR, .inr (7, [.int (nI w0), .int (nI p0), .int (iI n0), .long (iL r0), .int (nI l0), .int (nI m0), .int b0, .int (nI u0), .int (nI v0), .int a0]))] U.heap ∧ KX G ty U)) (q_Cutter_entryOf G ty hR w0 p0 n0 r0 l0 m0 b0 u0 v0 a0 n) 0 0 (fun _ => False) := by
  refine met_ro R_Cutter (by decide) rfl rfl (Nat.le_of_ble_eq_true rfl) ?_
  intro p e s m below meth c ls hx hb hr hml hown hts hlocks hP hX hl
  have hK := hX.1
  have hl : lv_has ls 2 [(0, .ref hR), (1, .int (nI n))] := hl
  have hm := Nat.mul_le_mul g1 g2
  refine lv_aload_n hx hb d_Cutter_entryOf_0 rfl (lv_at hl 0 rfl) ?_
  refine lv_iload_n hx hb d_Cutter_entryOf_1 rfl (lv_at hl 1 rfl) ?_
  refine vp_callSi (W.runV (As := [.int (nI n)]) (rest := []) ⟨hx, hb, hml, hown, hts⟩ (c_Sort_worthOf l G ty hR w0 p0 n0 r0 l0 m0 b0 u0 v0 a0 n ) ⟨callB_of 1 hts (gd_TB cd_Sort_worthOf) rfl rfl rfl (hts _ ini_Sort) (hts _ lk_Cutter_126) hd_Sort_worthOf ⟨Nat.le_of_ble_eq_true rfl, Nat.le_of_ble_eq_true rfl⟩, hts _ im_Sort_worthOf, hts _ sl_Sort_worthOf⟩ (preV_ro (hP.sub (ws' := [(hR, .inr (7, [.int (nI w0), .int (nI p0), .int (iI n0), .long (iL r0), .int (nI l0), .int (nI m0), .int b0, .int (nI u0), .int (nI v0), .int a0]))]) [0] rfl) hX 0 rfl rfl) rfl rfl hl.1 rfl (lv_room (Nat.le_of_ble_eq_true rfl)) d_Cutter_entryOf_2 ⟨Nat.le_of_ble_eq_true rfl, Nat.le_of_ble_eq_true rfl⟩) (fun r9 er9 => ?_)
  subst er9
  refine n_i2l hx hb (by omega) d_Cutter_entryOf_5 ?_
  refine lv_aload_n hx hb d_Cutter_entryOf_6 rfl (lv_at hl 0 rfl) ?_
  refine va_get (D := G) (ci := 7) (v := .long (iL r0)) (C := R_Sort) (T := F_Sort) (N := 10) hx hb hts in_Sort hown hK hP 0 rfl rfl 3 (by decide) (hts _ fl_Cutter_129) (fun _ h9 => h9) rfl d_Cutter_entryOf_7 ?_
  refine z_lsub hx hb d_Cutter_entryOf_10 ?_
  refine lv_ldc2 (v := (iL 1024)) hx hb hown (hts _ kc_Cutter_133) d_Cutter_entryOf_11 ?_
  refine z_lmul hx hb d_Cutter_entryOf_14 ?_
  refine lv_lconst (v := iL 1) hx hb d_Cutter_entryOf_15 (by decide) ?_
  refine z_lsub hx hb d_Cutter_entryOf_16 ?_
  exact W.lret (v := (iL (((((p0 * n : Nat) : Int) - r0) * 1024) - 1))) hx hb hr (fun t9 ht _ => ⟨_, rfl, rfl, ht⟩) (fun q h => by cases h) d_Cutter_entryOf_17

abbrev q_Cutter_isClearFor (G : va_G) (ty : Nat → ClassId) (hC : Nat) (hB : Nat) (hT : Nat) (sA : Nat) (aZ : Nat) (aE : Nat) (tx : Nat) (tp : Nat) (tb : Int32) (aF : Nat) (aX : Nat) (aY : Nat) (st : Nat) (wd : Nat) (al : Nat) (nf : Nat) (mg : Nat) (nX : Nat) (nY : Nat) (x : Nat) (y : Nat) (fX : Nat → Int32) (fY : Nat → Int32) (hR : Nat) (w0 : Nat) (p0 : Nat) (n0 : Int) (r0 : Int) (l0 : Nat) (m0 : Nat) (b0 : Int32) (u0 : Nat) (v0 : Nat) (a0 : Int32) : Array Value → State → Outcome → State → Prop := vp_Si (fun r : Int32 => r = (nI ((decide ((fX x &&& fY y) &&& b0 = 0)).toNat)))
set_option maxRecDepth 100000 in
set_option maxHeartbeats 4000000 in
theorem c_Cutter_isClearFor (l : Launch) (G : va_G) (ty : Nat → ClassId) (hC : Nat) (hB : Nat) (hT : Nat) (sA : Nat) (aZ : Nat) (aE : Nat) (tx : Nat) (tp : Nat) (tb : Int32) (aF : Nat) (aX : Nat) (aY : Nat) (st : Nat) (wd : Nat) (al : Nat) (nf : Nat) (mg : Nat) (nX : Nat) (nY : Nat) (x : Nat) (y : Nat) (fX : Nat → Int32) (fY : Nat → Int32) (hR : Nat) (w0 : Nat) (p0 : Nat) (n0 : Int) (r0 : Int) (l0 : Nat) (m0 : Nat) (b0 : Int32) (u0 : Nat) (v0 : Nat) (a0 : Int32) (g1 : x < nX) (g2 : y < nY) (g3 : nX ≤ 1000) (g4 : nY ≤ 1000) : Met l y_Cutter_isClearFor ws_Cutter_isClearFor { frames := 1, cells := 0, slots := 0, locals := 22 } (va_Pc [.ref hC, .ref hR, .int (nI x), .int (nI y)] (fun U => va_P G vwCl [(hC, .inr (1, [.ref hB, .ref hT, .int (nI sA), .ref aZ, .ref aE, .int (nI tx), .int (nI tp), .int tb])), (hB, .inr (0, [.int (nI st), .int (nI wd), .int (nI al), .ref aF, .int (nI nf), .int (nI mg), .ref aX, .ref aY])), (aX, .inl (ty 0, nX, .inl fX)), (aY, .inl (ty 0, nY, .inl fY)), (hR, .inr (7, [.int (nI w0), .int (nI p0), .int (iI n0), .long (iL r0), .int (nI l0), .int (nI m0), .int b0, .int (nI u0), .int (nI v0), .int a0]))] U.heap ∧ KX G ty U)) (q_Cutter_isClearFor G ty hC hB hT sA aZ aE tx tp tb aF aX aY st wd al nf mg nX nY x y fX fY hR w0 p0 n0 r0 l0 m0 b0 u0 v0 a0) 0 0 (fun _ => False) := by
  refine met_ro R_Cutter (by decide) rfl rfl (Nat.le_of_ble_eq_true rfl) ?_
  intro p e s m below meth c ls hx hb hr hml hown hts hlocks hP hX hl
  have hK := hX.1
  have hl : lv_has ls 4 [(0, .ref hC), (1, .ref hR), (2, .int (nI x)), (3, .int (nI y))] := hl
  refine lv_aload_n hx hb d_Cutter_isClearFor_0 rfl (lv_at hl 0 rfl) ?_
  refine va_get (D := G) (ci := 1) (v := .ref hB) (C := R_Cutter) (T := F_Cutter) (N := 8) hx hb hts in_Cutter hown hK hP 0 rfl rfl 0 (by decide) (hts _ fl_Cutter_30) (fun _ h9 => h9) rfl d_Cutter_isClearFor_1 ?_
  refine lv_iload_n hx hb d_Cutter_isClearFor_4 rfl (lv_at hl 2 rfl) ?_
  refine lv_iload_n hx hb d_Cutter_isClearFor_5 rfl (lv_at hl 3 rfl) ?_
  refine vp_callSi (W.runV (As := [.int (nI x), .int (nI y)]) (rest := []) ⟨hx, hb, hml, hown, hts⟩ (c_Board_faultsIn l G ty hB aF aX aY st wd al nf mg nX nY x y fX fY (by omega) (by omega) (by omega) (by omega)) ⟨callB_of 2 hts (gd_TB cd_Board_faultsIn) rfl rfl rfl (hts _ ini_Board) (hts _ lk_Cutter_135) hd_Board_faultsIn ⟨Nat.le_of_ble_eq_true rfl, Nat.le_of_ble_eq_true rfl⟩, hts _ im_Board_faultsIn, hts _ sl_Board_faultsIn⟩ (preV_ro (hP.sub (ws' := [(hB, .inr (0, [.int (nI st), .int (nI wd), .int (nI al), .ref aF, .int (nI nf), .int (nI mg), .ref aX, .ref aY])), (aX, .inl (ty 0, nX, .inl fX)), (aY, .inl (ty 0, nY, .inl fY))]) [1, 2, 3] rfl) hX 0 rfl rfl) rfl rfl hl.1 rfl (lv_room (Nat.le_of_ble_eq_true rfl)) d_Cutter_isClearFor_6 ⟨Nat.le_of_ble_eq_true rfl, Nat.le_of_ble_eq_true rfl⟩) (fun r9 er9 => ?_)
  subst er9
  refine lv_aload_n hx hb d_Cutter_isClearFor_9 rfl (lv_at hl 1 rfl) ?_
  refine va_get (D := G) (ci := 7) (v := .int b0) (C := R_Sort) (T := F_Sort) (N := 10) hx hb hts in_Sort hown hK hP 4 rfl rfl 6 (by decide) (hts _ fl_Cutter_138) (fun _ h9 => h9) rfl d_Cutter_isClearFor_10 ?_
  refine lv_iand hx hb d_Cutter_isClearFor_13 ?_
  refine lv_if_ne (tgt := 21) hx hb d_Cutter_isClearFor_14 (by decide) (fun c14 => ?_) (fun c14 => ?_)
  · refine lv_iconst (v := (nI 0)) hx hb d_Cutter_isClearFor_21 (by decide) ?_
    exact W.zret (v := (nI 0)) hx hb hr nar_b0 (fun t9 ht _ => ⟨_, rfl, congrArg nI (show 0 = (decide ((fX x &&& fY y) &&& b0 = 0)).toNat by rw [decide_eq_false c14]; rfl), ht⟩) (fun q h => by cases h) d_Cutter_isClearFor_22
  · refine lv_iconst (v := (nI 1)) hx hb d_Cutter_isClearFor_17 (by decide) ?_
    refine lv_goto (tgt := 22) hx hb d_Cutter_isClearFor_18 (by decide) ?_
    exact W.zret (v := (nI 1)) hx hb hr nar_b1 (fun t9 ht _ => ⟨_, rfl, congrArg nI (show 1 = (decide ((fX x &&& fY y) &&& b0 = 0)).toNat by rw [decide_eq_true c14]; rfl), ht⟩) (fun q h => by cases h) d_Cutter_isClearFor_22

abbrev q_Cutter_axisOf (G : va_G) (ty : Nat → ClassId) (hC : Nat) (hB : Nat) (hT : Nat) (sA : Nat) (aZ : Nat) (aE : Nat) (tx : Nat) (tp : Nat) (tb : Int32) (lv : Nat) : Array Value → State → Outcome → State → Prop := vp_Si (fun r : Int32 => r = (nI (if (tp - lv) % 2 = 0 then tx else 1 - tx)))
set_option maxRecDepth 100000 in
set_option maxHeartbeats 4000000 in
theorem c_Cutter_axisOf (l : Launch) (G : va_G) (ty : Nat → ClassId) (hC : Nat) (hB : Nat) (hT : Nat) (sA : Nat) (aZ : Nat) (aE : Nat) (tx : Nat) (tp : Nat) (tb : Int32) (lv : Nat) (g1 : lv ≤ tp) (g2 : tp ≤ 3) (g3 : tx ≤ 1) : Met l y_Cutter_axisOf ws_Cutter_axisOf { frames := 0, cells := 0, slots := 0, locals := 0 } (va_Pc [.ref hC, .int (nI lv)] (fun U => va_P G vwCl [(hC, .inr (1, [.ref hB, .ref hT, .int (nI sA), .ref aZ, .ref aE, .int (nI tx), .int (nI tp), .int tb]))] U.heap ∧ KX G ty U)) (q_Cutter_axisOf G ty hC hB hT sA aZ aE tx tp tb lv) 0 0 (fun _ => False) := by
  refine met_ro R_Cutter (by decide) rfl rfl (Nat.le_of_ble_eq_true rfl) ?_
  intro p e s m below meth c ls hx hb hr hml hown hts hlocks hP hX hl
  have hK := hX.1
  have hl : lv_has ls 2 [(0, .ref hC), (1, .int (nI lv))] := hl
  refine lv_aload_n hx hb d_Cutter_axisOf_0 rfl (lv_at hl 0 rfl) ?_
  refine va_get (D := G) (ci := 1) (v := .int (nI tp)) (C := R_Cutter) (T := F_Cutter) (N := 8) hx hb hts in_Cutter hown hK hP 0 rfl rfl 6 (by decide) (hts _ fl_Cutter_24) (fun _ h9 => h9) rfl d_Cutter_axisOf_1 ?_
  refine lv_iload_n hx hb d_Cutter_axisOf_4 rfl (lv_at hl 1 rfl) ?_
  refine n_isub hx hb (by omega) d_Cutter_axisOf_5 ?_
  refine lv_iconst (v := (nI 2)) hx hb d_Cutter_axisOf_6 (by decide) ?_
  refine n_irem hx hb (by omega) (by omega) (by omega) d_Cutter_axisOf_7 ?_
  refine n_if_ne (tgt := 18) hx hb (by omega) d_Cutter_axisOf_8 (by decide) (fun c8 => ?_) (fun c8 => ?_)
  · refine lv_iconst (v := (nI 1)) hx hb d_Cutter_axisOf_18 (by decide) ?_
    refine lv_aload_n hx hb d_Cutter_axisOf_19 rfl (lv_at hl 0 rfl) ?_
    refine va_get (D := G) (ci := 1) (v := .int (nI tx)) (C := R_Cutter) (T := F_Cutter) (N := 8) hx hb hts in_Cutter hown hK hP 0 rfl rfl 5 (by decide) (hts _ fl_Cutter_20) (fun _ h9 => h9) rfl d_Cutter_axisOf_20 ?_
    refine n_isub hx hb (by omega) d_Cutter_axisOf_23 ?_
    exact W.iret (v := (nI (1 - tx))) hx hb hr (fun t9 ht _ => ⟨_, rfl, congrArg nI (by split <;> omega), ht⟩) (fun q h => by cases h) d_Cutter_axisOf_24
  · refine lv_aload_n hx hb d_Cutter_axisOf_11 rfl (lv_at hl 0 rfl) ?_
    refine va_get (D := G) (ci := 1) (v := .int (nI tx)) (C := R_Cutter) (T := F_Cutter) (N := 8) hx hb hts in_Cutter hown hK hP 0 rfl rfl 5 (by decide) (hts _ fl_Cutter_20) (fun _ h9 => h9) rfl d_Cutter_axisOf_12 ?_
    refine lv_goto (tgt := 24) hx hb d_Cutter_axisOf_15 (by decide) ?_
    exact W.iret (v := (nI tx)) hx hb hr (fun t9 ht _ => ⟨_, rfl, congrArg nI (by split <;> omega), ht⟩) (fun q h => by cases h) d_Cutter_axisOf_24

abbrev q_Cutter_strideOf (G : va_G) (ty : Nat → ClassId) (hC : Nat) (hB : Nat) (hT : Nat) (sA : Nat) (aZ : Nat) (aE : Nat) (tx : Nat) (tp : Nat) (tb : Int32) (ax : Nat) : Array Value → State → Outcome → State → Prop := vp_Si (fun r : Int32 => r = (nI (if ax = 0 then sA else 1)))
set_option maxRecDepth 100000 in
set_option maxHeartbeats 4000000 in
theorem c_Cutter_strideOf (l : Launch) (G : va_G) (ty : Nat → ClassId) (hC : Nat) (hB : Nat) (hT : Nat) (sA : Nat) (aZ : Nat) (aE : Nat) (tx : Nat) (tp : Nat) (tb : Int32) (ax : Nat) (g1 : ax ≤ 1) : Met l y_Cutter_strideOf ws_Cutter_strideOf { frames := 0, cells := 0, slots := 0, locals := 0 } (va_Pc [.ref hC, .int (nI ax)] (fun U => va_P G vwCl [(hC, .inr (1, [.ref hB, .ref hT, .int (nI sA), .ref aZ, .ref aE, .int (nI tx), .int (nI tp), .int tb]))] U.heap ∧ KX G ty U)) (q_Cutter_strideOf G ty hC hB hT sA aZ aE tx tp tb ax) 0 0 (fun _ => False) := by
  refine met_ro R_Cutter (by decide) rfl rfl (Nat.le_of_ble_eq_true rfl) ?_
  intro p e s m below meth c ls hx hb hr hml hown hts hlocks hP hX hl
  have hK := hX.1
  have hl : lv_has ls 2 [(0, .ref hC), (1, .int (nI ax))] := hl
  refine lv_iload_n hx hb d_Cutter_strideOf_0 rfl (lv_at hl 1 rfl) ?_
  refine n_if_ne (tgt := 11) hx hb (by omega) d_Cutter_strideOf_1 (by decide) (fun c1 => ?_) (fun c1 => ?_)
  · refine lv_iconst (v := (nI 1)) hx hb d_Cutter_strideOf_11 (by decide) ?_
    exact W.iret (v := (nI 1)) hx hb hr (fun t9 ht _ => ⟨_, rfl, congrArg nI (by split <;> omega), ht⟩) (fun q h => by cases h) d_Cutter_strideOf_12
  · refine lv_aload_n hx hb d_Cutter_strideOf_4 rfl (lv_at hl 0 rfl) ?_
    refine va_get (D := G) (ci := 1) (v := .int (nI sA)) (C := R_Cutter) (T := F_Cutter) (N := 8) hx hb hts in_Cutter hown hK hP 0 rfl rfl 2 (by decide) (hts _ fl_Cutter_47) (fun _ h9 => h9) rfl d_Cutter_strideOf_5 ?_
    refine lv_goto (tgt := 12) hx hb d_Cutter_strideOf_8 (by decide) ?_
    exact W.iret (v := (nI sA)) hx hb hr (fun t9 ht _ => ⟨_, rfl, congrArg nI (by split <;> omega), ht⟩) (fun q h => by cases h) d_Cutter_strideOf_12

abbrev q_Cutter_placeOf (G : va_G) (ty : Nat → ClassId) (hC : Nat) (hB : Nat) (hT : Nat) (sA : Nat) (aZ : Nat) (aE : Nat) (tx : Nat) (tp : Nat) (tb : Int32) (ax : Nat) (sq : Nat) (ot : Nat) : Array Value → State → Outcome → State → Prop := vp_Si (fun r : Int32 => r = (nI (plc sA ax sq ot)))
set_option maxRecDepth 100000 in
set_option maxHeartbeats 4000000 in
theorem c_Cutter_placeOf (l : Launch) (G : va_G) (ty : Nat → ClassId) (hC : Nat) (hB : Nat) (hT : Nat) (sA : Nat) (aZ : Nat) (aE : Nat) (tx : Nat) (tp : Nat) (tb : Int32) (ax : Nat) (sq : Nat) (ot : Nat) (g1 : ax ≤ 1) : Met l y_Cutter_placeOf ws_Cutter_placeOf { frames := 1, cells := 0, slots := 0, locals := 21 } (va_Pc [.ref hC, .int (nI ax), .int (nI sq), .int (nI ot)] (fun U => va_P G vwCl [(hC, .inr (1, [.ref hB, .ref hT, .int (nI sA), .ref aZ, .ref aE, .int (nI tx), .int (nI tp), .int tb]))] U.heap ∧ KX G ty U)) (q_Cutter_placeOf G ty hC hB hT sA aZ aE tx tp tb ax sq ot) 0 0 (fun _ => False) := by
  refine met_ro R_Cutter (by decide) rfl rfl (Nat.le_of_ble_eq_true rfl) ?_
  intro p e s m below meth c ls hx hb hr hml hown hts hlocks hP hX hl
  have hK := hX.1
  have hl : lv_has ls 4 [(0, .ref hC), (1, .int (nI ax)), (2, .int (nI sq)), (3, .int (nI ot))] := hl
  refine lv_iload_n hx hb d_Cutter_placeOf_0 rfl (lv_at hl 2 rfl) ?_
  refine lv_aload_n hx hb d_Cutter_placeOf_1 rfl (lv_at hl 0 rfl) ?_
  refine lv_iload_n hx hb d_Cutter_placeOf_2 rfl (lv_at hl 1 rfl) ?_
  refine vp_callSi (W.runV (As := [.int (nI ax)]) (rest := [.int (nI sq)]) ⟨hx, hb, hml, hown, hts⟩ (c_Cutter_strideOf l G ty hC hB hT sA aZ aE tx tp tb ax (by omega)) ⟨callB_of 1 hts (gd_TB cd_Cutter_strideOf) rfl rfl rfl (hts _ ini_Cutter) (hts _ lk_Cutter_141) hd_Cutter_strideOf ⟨Nat.le_of_ble_eq_true rfl, Nat.le_of_ble_eq_true rfl⟩, hts _ im_Cutter_strideOf, hts _ sl_Cutter_strideOf⟩ (preV_ro (hP.sub (ws' := [(hC, .inr (1, [.ref hB, .ref hT, .int (nI sA), .ref aZ, .ref aE, .int (nI tx), .int (nI tp), .int tb]))]) [0] rfl) hX 0 rfl rfl) rfl rfl hl.1 rfl (lv_room (Nat.le_of_ble_eq_true rfl)) d_Cutter_placeOf_3 ⟨Nat.le_of_ble_eq_true rfl, Nat.le_of_ble_eq_true rfl⟩) (fun r9 er9 => ?_)
  subst er9
  refine n_imul hx hb d_Cutter_placeOf_6 ?_
  refine lv_iload_n hx hb d_Cutter_placeOf_7 rfl (lv_at hl 3 rfl) ?_
  refine lv_aload_n hx hb d_Cutter_placeOf_8 rfl (lv_at hl 0 rfl) ?_
  refine lv_iconst (v := (nI 1)) hx hb d_Cutter_placeOf_9 (by decide) ?_
  refine lv_iload_n hx hb d_Cutter_placeOf_10 rfl (lv_at hl 1 rfl) ?_
  refine n_isub hx hb (by omega) d_Cutter_placeOf_11 ?_
  refine vp_callSi (W.runV (As := [.int (nI (1 - ax))]) (rest := [.int (nI ot), .int (nI (sq * (if ax = 0 then sA else 1)))]) ⟨hx, hb, hml, hown, hts⟩ (c_Cutter_strideOf l G ty hC hB hT sA aZ aE tx tp tb (1 - ax) (by omega)) ⟨callB_of 1 hts (gd_TB cd_Cutter_strideOf) rfl rfl rfl (hts _ ini_Cutter) (hts _ lk_Cutter_141) hd_Cutter_strideOf ⟨Nat.le_of_ble_eq_true rfl, Nat.le_of_ble_eq_true rfl⟩, hts _ im_Cutter_strideOf, hts _ sl_Cutter_strideOf⟩ (preV_ro (hP.sub (ws' := [(hC, .inr (1, [.ref hB, .ref hT, .int (nI sA), .ref aZ, .ref aE, .int (nI tx), .int (nI tp), .int tb]))]) [0] rfl) hX 0 rfl rfl) rfl rfl hl.1 rfl (lv_room (Nat.le_of_ble_eq_true rfl)) d_Cutter_placeOf_12 ⟨Nat.le_of_ble_eq_true rfl, Nat.le_of_ble_eq_true rfl⟩) (fun r9 er9 => ?_)
  subst er9
  refine n_imul hx hb d_Cutter_placeOf_15 ?_
  refine n_iadd hx hb d_Cutter_placeOf_16 ?_
  exact W.iret (v := (nI ((sq * (if ax = 0 then sA else 1)) + (ot * (if (1 - ax) = 0 then sA else 1))))) hx hb hr (fun t9 ht _ => ⟨_, rfl, rfl, ht⟩) (fun q h => by cases h) d_Cutter_placeOf_17

abbrev q_Cutter_mayCut (G : va_G) (ty : Nat → ClassId) (hC : Nat) (hB : Nat) (hT : Nat) (sA : Nat) (aZ : Nat) (aE : Nat) (tx : Nat) (tp : Nat) (tb : Int32) (lv : Nat) (n : Nat) (nb : Nat) (ob : Nat → Bool) : Array Value → State → Outcome → State → Prop := vp_Si (fun r : Int32 => r = (nI ((decide (lv < tp) || ob n).toNat)))
set_option maxRecDepth 100000 in
set_option maxHeartbeats 4000000 in
theorem c_Cutter_mayCut (l : Launch) (G : va_G) (ty : Nat → ClassId) (hC : Nat) (hB : Nat) (hT : Nat) (sA : Nat) (aZ : Nat) (aE : Nat) (tx : Nat) (tp : Nat) (tb : Int32) (lv : Nat) (n : Nat) (nb : Nat) (ob : Nat → Bool) (g1 : lv ≤ 3) (g2 : tp ≤ 3) (g3 : nb ≤ 25) (g4 : lv < tp ∨ n < nb) (gb : tb = Mk ob nb) : Met l y_Cutter_mayCut ws_Cutter_mayCut { frames := 0, cells := 0, slots := 0, locals := 0 } (va_Pc [.ref hC, .int (nI lv), .int (nI n)] (fun U => va_P G vwCl [(hC, .inr (1, [.ref hB, .ref hT, .int (nI sA), .ref aZ, .ref aE, .int (nI tx), .int (nI tp), .int tb]))] U.heap ∧ KX G ty U)) (q_Cutter_mayCut G ty hC hB hT sA aZ aE tx tp tb lv n nb ob) 0 0 (fun _ => False) := by
  refine met_ro R_Cutter (by decide) rfl rfl (Nat.le_of_ble_eq_true rfl) ?_
  intro p e s m below meth c ls hx hb hr hml hown hts hlocks hP hX hl
  have hK := hX.1
  have hl : lv_has ls 3 [(0, .ref hC), (1, .int (nI lv)), (2, .int (nI n))] := hl
  refine lv_iload_n hx hb d_Cutter_mayCut_0 rfl (lv_at hl 1 rfl) ?_
  refine lv_aload_n hx hb d_Cutter_mayCut_1 rfl (lv_at hl 0 rfl) ?_
  refine va_get (D := G) (ci := 1) (v := .int (nI tp)) (C := R_Cutter) (T := F_Cutter) (N := 8) hx hb hts in_Cutter hown hK hP 0 rfl rfl 6 (by decide) (hts _ fl_Cutter_24) (fun _ h9 => h9) rfl d_Cutter_mayCut_2 ?_
  refine n_icmp_lt (tgt := 20) hx hb (by omega) (by omega) d_Cutter_mayCut_5 (by decide) (fun c5 => ?_) (fun c5 => ?_)
  · refine lv_iconst (v := (nI 1)) hx hb d_Cutter_mayCut_20 (by decide) ?_
    refine lv_goto (tgt := 25) hx hb d_Cutter_mayCut_21 (by decide) ?_
    exact W.zret (v := (nI 1)) hx hb hr nar_b1 (fun t9 ht _ => ⟨_, rfl, congrArg nI (by first | (rw [decide_eq_true c5]; rfl) | (rw [decide_eq_false (by omega), tN_1 (b := ob n) (by omega)]; rfl) | (rw [decide_eq_false (by omega), tN_0 (b := ob n) (by have := Bool.toNat_le (ob n); omega)]; rfl)), ht⟩) (fun q h => by cases h) d_Cutter_mayCut_25
  · refine lv_aload_n hx hb d_Cutter_mayCut_8 rfl (lv_at hl 0 rfl) ?_
    refine va_get (D := G) (ci := 1) (v := .int tb) (C := R_Cutter) (T := F_Cutter) (N := 8) hx hb hts in_Cutter hown hK hP 0 rfl rfl 7 (by decide) (hts _ fl_Cutter_27) (fun _ h9 => h9) rfl d_Cutter_mayCut_9 ?_
    refine top_i (show tb = (Mk ob nb) from gb) ?_
    refine lv_iload_n hx hb d_Cutter_mayCut_12 rfl (lv_at hl 2 rfl) ?_
    refine lv_ishr hx hb d_Cutter_mayCut_13 ?_
    refine lv_iconst (v := (nI 1)) hx hb d_Cutter_mayCut_14 (by decide) ?_
    refine lv_iand hx hb d_Cutter_mayCut_15 ?_
    refine top_i (show (((Mk ob nb) >>> ((nI n) &&& 31)) &&& (nI 1)) = (nI ((ob n).toNat)) from Mk_testN (by omega) (by omega)) ?_
    refine lv_iconst (v := (nI 1)) hx hb d_Cutter_mayCut_16 (by decide) ?_
    refine n_icmp_ne (tgt := 24) hx hb (tN_lt _) (by omega) d_Cutter_mayCut_17 (by decide) (fun c17 => ?_) (fun c17 => ?_)
    · refine lv_iconst (v := (nI 0)) hx hb d_Cutter_mayCut_24 (by decide) ?_
      exact W.zret (v := (nI 0)) hx hb hr nar_b0 (fun t9 ht _ => ⟨_, rfl, congrArg nI (by first | (rw [decide_eq_true c5]; rfl) | (rw [decide_eq_false (by omega), tN_1 (b := ob n) (by omega)]; rfl) | (rw [decide_eq_false (by omega), tN_0 (b := ob n) (by have := Bool.toNat_le (ob n); omega)]; rfl)), ht⟩) (fun q h => by cases h) d_Cutter_mayCut_25
    · refine lv_iconst (v := (nI 1)) hx hb d_Cutter_mayCut_20 (by decide) ?_
      refine lv_goto (tgt := 25) hx hb d_Cutter_mayCut_21 (by decide) ?_
      exact W.zret (v := (nI 1)) hx hb hr nar_b1 (fun t9 ht _ => ⟨_, rfl, congrArg nI (by first | (rw [decide_eq_true c5]; rfl) | (rw [decide_eq_false (by omega), tN_1 (b := ob n) (by omega)]; rfl) | (rw [decide_eq_false (by omega), tN_0 (b := ob n) (by have := Bool.toNat_le (ob n); omega)]; rfl)), ht⟩) (fun q h => by cases h) d_Cutter_mayCut_25

abbrev q_Cutter_stepsFor (G : va_G) (ty : Nat → ClassId) (hG : Nat) (aG : Nat) (tl : Bool) (wf : Nat → Int64) (gs : Nat → Bool) (wy : Nat) : Array Value → State → Outcome → State → Prop := vp_Si (fun r : Int32 => r = (Mk (fun z9 => decide (1 ≤ z9) && (decide (wy ≠ 0) || (!tl || gs z9))) (if wy = 0 then 11 else 25)))
set_option maxRecDepth 100000 in
set_option maxHeartbeats 4000000 in
theorem c_Cutter_stepsFor (l : Launch) (G : va_G) (ty : Nat → ClassId) (hG : Nat) (aG : Nat) (tl : Bool) (wf : Nat → Int64) (gs : Nat → Bool) (wy : Nat) (g1 : wy ≤ 1) (gG : GB wf gs) : Met l y_Cutter_stepsFor ws_Cutter_stepsFor { frames := 2, cells := 0, slots := 0, locals := 43 } (va_Pc [.int (nI wy), .ref hG] (fun U => va_P G vwCl [(hG, .inr (3, [.ref aG, .int (nI tl.toNat)])), (aG, .inl (ty 1, 1025, .inr (.inl wf)))] U.heap ∧ KX G ty U)) (q_Cutter_stepsFor G ty hG aG tl wf gs wy) 0 0 (fun _ => False) := by
  refine met_ro R_Cutter (by decide) rfl rfl (Nat.le_of_ble_eq_true rfl) ?_
  intro p e s m below meth c ls hx hb hr hml hown hts hlocks hP hX hl
  have hK := hX.1
  have hl : lv_has ls 5 [(0, .int (nI wy)), (1, .ref hG)] := hl
  obtain ⟨mo, emo⟩ : ∃ mo, mo = (if wy = 0 then 10 else 24) := ⟨_, rfl⟩
  have hmo : mo ≤ 24 := by rw [emo]; split <;> omega
  refine lv_iconst (v := (nI 0)) hx hb d_Cutter_stepsFor_0 (by decide) ?_
  refine lv_istore_n (lv' := [(2, .int (nI 0)), (0, .int (nI wy)), (1, .ref hG)]) hx hb d_Cutter_stepsFor_1 rfl hl (by decide) rfl (fun ls hl => ?_)
  refine lv_iload_n hx hb d_Cutter_stepsFor_2 rfl (lv_at hl 1 rfl) ?_
  refine n_if_ne (tgt := 11) hx hb (by omega) d_Cutter_stepsFor_3 (by decide) (fun c3 => ?_) (fun c3 => ?_)
  · refine lv_bipush (v := (nI 24)) hx hb d_Cutter_stepsFor_11 (by decide) ?_
    refine top_i (show (nI 24) = nI mo from congrArg nI (by rw [emo]; split <;> omega)) ?_
    refine lv_istore_n (lv' := [(3, .int (nI mo)), (2, .int (nI 0)), (0, .int (nI wy)), (1, .ref hG)]) hx hb d_Cutter_stepsFor_13 rfl hl (by decide) rfl (fun ls hl => ?_)
    refine lv_iconst (v := (nI 1)) hx hb d_Cutter_stepsFor_14 (by decide) ?_
    refine lv_istore (lv' := [(4, .int (nI 1)), (3, .int (nI mo)), (2, .int (nI 0)), (0, .int (nI wy)), (1, .ref hG)]) hx hb d_Cutter_stepsFor_15 hl (by decide) rfl (fun ls hl => ?_)
    have L17 : ∀ (k9 : Nat) (i : Nat) (ls : Array Slot), (1 ≤ i) → (i ≤ mo + 1) → mo + 1 - i < k9 → lv_has ls 5 [(0, .int (nI wy)), (1, .ref hG), (2, .int (Mk (fun z9 => decide (1 ≤ z9) && (decide (wy ≠ 0) || (!tl || gs z9))) i)), (3, .int (nI mo)), (4, .int (nI i))] → W p l e { frames := 2, cells := 0, slots := 0, locals := 43 } s m [.int (nI wy), .ref hG].toArray below meth c s.heap [] 0 0 (MQ below (q_Cutter_stepsFor G ty hG aG tl wf gs wy) [.int (nI wy), .ref hG].toArray s 0 0 (fun _ => False)) (F0 m 17 ls []) := by
      intro k9
      induction k9 with
      | zero => intro i ls hi0 hi1 hk9; exact absurd hk9 (Nat.not_lt_zero _)
      | succ k9 ih17 =>
        intro i ls hi0 hi1 hk9 hl
        refine lv_iload hx hb d_Cutter_stepsFor_17 (lv_at hl 4 rfl) ?_
        refine lv_iload_n hx hb d_Cutter_stepsFor_19 rfl (lv_at hl 3 rfl) ?_
        refine n_icmp_gt (tgt := 49) hx hb (by omega) (by omega) d_Cutter_stepsFor_20 (by decide) (fun c20 => ?_) (fun c20 => ?_)
        · refine lv_iload_n hx hb d_Cutter_stepsFor_49 rfl (lv_at hl 2 rfl) ?_
          exact W.iret (v := (Mk (fun z9 => decide (1 ≤ z9) && (decide (wy ≠ 0) || (!tl || gs z9))) i)) hx hb hr (fun t9 ht _ => ⟨_, rfl, by rw [show i = (if wy = 0 then 11 else 25) from by rw [show i = mo + 1 from by omega, emo]; split <;> rfl], ht⟩) (fun q h => by cases h) d_Cutter_stepsFor_50
        · refine lv_iload_n hx hb d_Cutter_stepsFor_23 rfl (lv_at hl 0 rfl) ?_
          refine n_if_ne (tgt := 36) hx hb (by omega) d_Cutter_stepsFor_24 (by decide) (fun c24 => ?_) (fun c24 => ?_)
          · refine lv_iload_n hx hb d_Cutter_stepsFor_36 rfl (lv_at hl 2 rfl) ?_
            refine lv_iconst (v := (nI 1)) hx hb d_Cutter_stepsFor_37 (by decide) ?_
            refine lv_iload hx hb d_Cutter_stepsFor_38 (lv_at hl 4 rfl) ?_
            refine lv_ishl hx hb d_Cutter_stepsFor_40 ?_
            refine lv_ior hx hb d_Cutter_stepsFor_41 ?_
            refine top_i (show ((Mk (fun z9 => decide (1 ≤ z9) && (decide (wy ≠ 0) || (!tl || gs z9))) i) ||| ((nI 1) <<< ((nI i) &&& 31))) = (Mk (fun z9 => decide (1 ≤ z9) && (decide (wy ≠ 0) || (!tl || gs z9))) (i + 1)) from by rw [Mk_s, if_pos (by first | (rw [decide_eq_true hi0, decide_eq_true c24]; rfl) | (rw [decide_eq_true hi0, tN_1 c33]; simp))]; rfl) ?_
            refine lv_istore_n (lv' := [(2, .int (Mk (fun z9 => decide (1 ≤ z9) && (decide (wy ≠ 0) || (!tl || gs z9))) (i + 1))), (0, .int (nI wy)), (1, .ref hG), (3, .int (nI mo)), (4, .int (nI i))]) hx hb d_Cutter_stepsFor_42 rfl hl (by decide) rfl (fun ls hl => ?_)
            refine lv_iinc (v := (nI (i + 1))) (lv' := [(4, .int (nI (i + 1))), (2, .int (Mk (fun z9 => decide (1 ≤ z9) && (decide (wy ≠ 0) || (!tl || gs z9))) (i + 1))), (0, .int (nI wy)), (1, .ref hG), (3, .int (nI mo))]) hx hb d_Cutter_stepsFor_43 hl (k := 4) rfl (nI_inc _ _ _ (by omega)) (by decide) rfl (fun ls hl => ?_)
            refine lv_goto (tgt := 17) hx hb d_Cutter_stepsFor_46 (by decide) ?_
            exact ih17 (i + 1) _ (by omega) (by omega) (by omega) (lv_sub hl [2, 3, 1, 4, 0] rfl)
          · refine lv_aload_n hx hb d_Cutter_stepsFor_27 rfl (lv_at hl 1 rfl) ?_
            refine lv_iload hx hb d_Cutter_stepsFor_28 (lv_at hl 4 rfl) ?_
            refine vp_callSi (W.runV (As := [.int (nI i)]) (rest := []) ⟨hx, hb, hml, hown, hts⟩ (c_Gang_mayRip l G ty hG aG tl wf gs i (by omega) gG) ⟨callB_of 1 hts (gd_TB cd_Gang_mayRip) rfl rfl rfl (hts _ ini_Gang) (hts _ lk_Cutter_80) hd_Gang_mayRip ⟨Nat.le_of_ble_eq_true rfl, Nat.le_of_ble_eq_true rfl⟩, hts _ im_Gang_mayRip, hts _ sl_Gang_mayRip⟩ (preV_ro (hP.sub (ws' := [(hG, .inr (3, [.ref aG, .int (nI tl.toNat)])), (aG, .inl (ty 1, 1025, .inr (.inl wf)))]) [0, 1] rfl) hX 0 rfl rfl) rfl rfl hl.1 rfl (lv_room (Nat.le_of_ble_eq_true rfl)) d_Cutter_stepsFor_30 ⟨Nat.le_of_ble_eq_true rfl, Nat.le_of_ble_eq_true rfl⟩) (fun r9 er9 => ?_)
            subst er9
            refine n_if_eq (tgt := 43) hx hb (tN_lt _) d_Cutter_stepsFor_33 (by decide) (fun c33 => ?_) (fun c33 => ?_)
            · have hl : lv_has ls 5 [(0, .int (nI wy)), (1, .ref hG), (2, .int (Mk (fun z9 => decide (1 ≤ z9) && (decide (wy ≠ 0) || (!tl || gs z9))) (i + 1))), (3, .int (nI mo)), (4, .int (nI i))] := by rw [show (Mk (fun z9 => decide (1 ≤ z9) && (decide (wy ≠ 0) || (!tl || gs z9))) (i + 1)) = (Mk (fun z9 => decide (1 ≤ z9) && (decide (wy ≠ 0) || (!tl || gs z9))) i) from by rw [Mk_s, if_neg (by rw [tN_0 c33]; simp [c24])]]; exact hl
              refine lv_iinc (v := (nI (i + 1))) (lv' := [(4, .int (nI (i + 1))), (0, .int (nI wy)), (1, .ref hG), (2, .int (Mk (fun z9 => decide (1 ≤ z9) && (decide (wy ≠ 0) || (!tl || gs z9))) (i + 1))), (3, .int (nI mo))]) hx hb d_Cutter_stepsFor_43 hl (k := 4) rfl (nI_inc _ _ _ (by omega)) (by decide) rfl (fun ls hl => ?_)
              refine lv_goto (tgt := 17) hx hb d_Cutter_stepsFor_46 (by decide) ?_
              exact ih17 (i + 1) _ (by omega) (by omega) (by omega) (lv_sub hl [1, 2, 3, 4, 0] rfl)
            · refine lv_iload_n hx hb d_Cutter_stepsFor_36 rfl (lv_at hl 2 rfl) ?_
              refine lv_iconst (v := (nI 1)) hx hb d_Cutter_stepsFor_37 (by decide) ?_
              refine lv_iload hx hb d_Cutter_stepsFor_38 (lv_at hl 4 rfl) ?_
              refine lv_ishl hx hb d_Cutter_stepsFor_40 ?_
              refine lv_ior hx hb d_Cutter_stepsFor_41 ?_
              refine top_i (show ((Mk (fun z9 => decide (1 ≤ z9) && (decide (wy ≠ 0) || (!tl || gs z9))) i) ||| ((nI 1) <<< ((nI i) &&& 31))) = (Mk (fun z9 => decide (1 ≤ z9) && (decide (wy ≠ 0) || (!tl || gs z9))) (i + 1)) from by rw [Mk_s, if_pos (by first | (rw [decide_eq_true hi0, decide_eq_true c24]; rfl) | (rw [decide_eq_true hi0, tN_1 c33]; simp))]; rfl) ?_
              refine lv_istore_n (lv' := [(2, .int (Mk (fun z9 => decide (1 ≤ z9) && (decide (wy ≠ 0) || (!tl || gs z9))) (i + 1))), (0, .int (nI wy)), (1, .ref hG), (3, .int (nI mo)), (4, .int (nI i))]) hx hb d_Cutter_stepsFor_42 rfl hl (by decide) rfl (fun ls hl => ?_)
              refine lv_iinc (v := (nI (i + 1))) (lv' := [(4, .int (nI (i + 1))), (2, .int (Mk (fun z9 => decide (1 ≤ z9) && (decide (wy ≠ 0) || (!tl || gs z9))) (i + 1))), (0, .int (nI wy)), (1, .ref hG), (3, .int (nI mo))]) hx hb d_Cutter_stepsFor_43 hl (k := 4) rfl (nI_inc _ _ _ (by omega)) (by decide) rfl (fun ls hl => ?_)
              refine lv_goto (tgt := 17) hx hb d_Cutter_stepsFor_46 (by decide) ?_
              exact ih17 (i + 1) _ (by omega) (by omega) (by omega) (lv_sub hl [2, 3, 1, 4, 0] rfl)
    exact L17 (mo + 1 - 1 + 1) 1 _ (Nat.le_refl 1) (by omega) (Nat.lt_succ_self _) (lv_sub hl [3, 4, 2, 1, 0] rfl)
  · refine lv_bipush (v := (nI 10)) hx hb d_Cutter_stepsFor_6 (by decide) ?_
    refine lv_goto (tgt := 13) hx hb d_Cutter_stepsFor_8 (by decide) ?_
    refine top_i (show (nI 10) = nI mo from congrArg nI (by rw [emo]; split <;> omega)) ?_
    refine lv_istore_n (lv' := [(3, .int (nI mo)), (2, .int (nI 0)), (0, .int (nI wy)), (1, .ref hG)]) hx hb d_Cutter_stepsFor_13 rfl hl (by decide) rfl (fun ls hl => ?_)
    refine lv_iconst (v := (nI 1)) hx hb d_Cutter_stepsFor_14 (by decide) ?_
    refine lv_istore (lv' := [(4, .int (nI 1)), (3, .int (nI mo)), (2, .int (nI 0)), (0, .int (nI wy)), (1, .ref hG)]) hx hb d_Cutter_stepsFor_15 hl (by decide) rfl (fun ls hl => ?_)
    have L17 : ∀ (k9 : Nat) (i : Nat) (ls : Array Slot), (1 ≤ i) → (i ≤ mo + 1) → mo + 1 - i < k9 → lv_has ls 5 [(0, .int (nI wy)), (1, .ref hG), (2, .int (Mk (fun z9 => decide (1 ≤ z9) && (decide (wy ≠ 0) || (!tl || gs z9))) i)), (3, .int (nI mo)), (4, .int (nI i))] → W p l e { frames := 2, cells := 0, slots := 0, locals := 43 } s m [.int (nI wy), .ref hG].toArray below meth c s.heap [] 0 0 (MQ below (q_Cutter_stepsFor G ty hG aG tl wf gs wy) [.int (nI wy), .ref hG].toArray s 0 0 (fun _ => False)) (F0 m 17 ls []) := by
      intro k9
      induction k9 with
      | zero => intro i ls hi0 hi1 hk9; exact absurd hk9 (Nat.not_lt_zero _)
      | succ k9 ih17 =>
        intro i ls hi0 hi1 hk9 hl
        refine lv_iload hx hb d_Cutter_stepsFor_17 (lv_at hl 4 rfl) ?_
        refine lv_iload_n hx hb d_Cutter_stepsFor_19 rfl (lv_at hl 3 rfl) ?_
        refine n_icmp_gt (tgt := 49) hx hb (by omega) (by omega) d_Cutter_stepsFor_20 (by decide) (fun c20 => ?_) (fun c20 => ?_)
        · refine lv_iload_n hx hb d_Cutter_stepsFor_49 rfl (lv_at hl 2 rfl) ?_
          exact W.iret (v := (Mk (fun z9 => decide (1 ≤ z9) && (decide (wy ≠ 0) || (!tl || gs z9))) i)) hx hb hr (fun t9 ht _ => ⟨_, rfl, by rw [show i = (if wy = 0 then 11 else 25) from by rw [show i = mo + 1 from by omega, emo]; split <;> rfl], ht⟩) (fun q h => by cases h) d_Cutter_stepsFor_50
        · refine lv_iload_n hx hb d_Cutter_stepsFor_23 rfl (lv_at hl 0 rfl) ?_
          refine n_if_ne (tgt := 36) hx hb (by omega) d_Cutter_stepsFor_24 (by decide) (fun c24 => ?_) (fun c24 => ?_)
          · refine lv_iload_n hx hb d_Cutter_stepsFor_36 rfl (lv_at hl 2 rfl) ?_
            refine lv_iconst (v := (nI 1)) hx hb d_Cutter_stepsFor_37 (by decide) ?_
            refine lv_iload hx hb d_Cutter_stepsFor_38 (lv_at hl 4 rfl) ?_
            refine lv_ishl hx hb d_Cutter_stepsFor_40 ?_
            refine lv_ior hx hb d_Cutter_stepsFor_41 ?_
            refine top_i (show ((Mk (fun z9 => decide (1 ≤ z9) && (decide (wy ≠ 0) || (!tl || gs z9))) i) ||| ((nI 1) <<< ((nI i) &&& 31))) = (Mk (fun z9 => decide (1 ≤ z9) && (decide (wy ≠ 0) || (!tl || gs z9))) (i + 1)) from by rw [Mk_s, if_pos (by first | (rw [decide_eq_true hi0, decide_eq_true c24]; rfl) | (rw [decide_eq_true hi0, tN_1 c33]; simp))]; rfl) ?_
            refine lv_istore_n (lv' := [(2, .int (Mk (fun z9 => decide (1 ≤ z9) && (decide (wy ≠ 0) || (!tl || gs z9))) (i + 1))), (0, .int (nI wy)), (1, .ref hG), (3, .int (nI mo)), (4, .int (nI i))]) hx hb d_Cutter_stepsFor_42 rfl hl (by decide) rfl (fun ls hl => ?_)
            refine lv_iinc (v := (nI (i + 1))) (lv' := [(4, .int (nI (i + 1))), (2, .int (Mk (fun z9 => decide (1 ≤ z9) && (decide (wy ≠ 0) || (!tl || gs z9))) (i + 1))), (0, .int (nI wy)), (1, .ref hG), (3, .int (nI mo))]) hx hb d_Cutter_stepsFor_43 hl (k := 4) rfl (nI_inc _ _ _ (by omega)) (by decide) rfl (fun ls hl => ?_)
            refine lv_goto (tgt := 17) hx hb d_Cutter_stepsFor_46 (by decide) ?_
            exact ih17 (i + 1) _ (by omega) (by omega) (by omega) (lv_sub hl [2, 3, 1, 4, 0] rfl)
          · refine lv_aload_n hx hb d_Cutter_stepsFor_27 rfl (lv_at hl 1 rfl) ?_
            refine lv_iload hx hb d_Cutter_stepsFor_28 (lv_at hl 4 rfl) ?_
            refine vp_callSi (W.runV (As := [.int (nI i)]) (rest := []) ⟨hx, hb, hml, hown, hts⟩ (c_Gang_mayRip l G ty hG aG tl wf gs i (by omega) gG) ⟨callB_of 1 hts (gd_TB cd_Gang_mayRip) rfl rfl rfl (hts _ ini_Gang) (hts _ lk_Cutter_80) hd_Gang_mayRip ⟨Nat.le_of_ble_eq_true rfl, Nat.le_of_ble_eq_true rfl⟩, hts _ im_Gang_mayRip, hts _ sl_Gang_mayRip⟩ (preV_ro (hP.sub (ws' := [(hG, .inr (3, [.ref aG, .int (nI tl.toNat)])), (aG, .inl (ty 1, 1025, .inr (.inl wf)))]) [0, 1] rfl) hX 0 rfl rfl) rfl rfl hl.1 rfl (lv_room (Nat.le_of_ble_eq_true rfl)) d_Cutter_stepsFor_30 ⟨Nat.le_of_ble_eq_true rfl, Nat.le_of_ble_eq_true rfl⟩) (fun r9 er9 => ?_)
            subst er9
            refine n_if_eq (tgt := 43) hx hb (tN_lt _) d_Cutter_stepsFor_33 (by decide) (fun c33 => ?_) (fun c33 => ?_)
            · have hl : lv_has ls 5 [(0, .int (nI wy)), (1, .ref hG), (2, .int (Mk (fun z9 => decide (1 ≤ z9) && (decide (wy ≠ 0) || (!tl || gs z9))) (i + 1))), (3, .int (nI mo)), (4, .int (nI i))] := by rw [show (Mk (fun z9 => decide (1 ≤ z9) && (decide (wy ≠ 0) || (!tl || gs z9))) (i + 1)) = (Mk (fun z9 => decide (1 ≤ z9) && (decide (wy ≠ 0) || (!tl || gs z9))) i) from by rw [Mk_s, if_neg (by rw [tN_0 c33]; simp [c24])]]; exact hl
              refine lv_iinc (v := (nI (i + 1))) (lv' := [(4, .int (nI (i + 1))), (0, .int (nI wy)), (1, .ref hG), (2, .int (Mk (fun z9 => decide (1 ≤ z9) && (decide (wy ≠ 0) || (!tl || gs z9))) (i + 1))), (3, .int (nI mo))]) hx hb d_Cutter_stepsFor_43 hl (k := 4) rfl (nI_inc _ _ _ (by omega)) (by decide) rfl (fun ls hl => ?_)
              refine lv_goto (tgt := 17) hx hb d_Cutter_stepsFor_46 (by decide) ?_
              exact ih17 (i + 1) _ (by omega) (by omega) (by omega) (lv_sub hl [1, 2, 3, 4, 0] rfl)
            · refine lv_iload_n hx hb d_Cutter_stepsFor_36 rfl (lv_at hl 2 rfl) ?_
              refine lv_iconst (v := (nI 1)) hx hb d_Cutter_stepsFor_37 (by decide) ?_
              refine lv_iload hx hb d_Cutter_stepsFor_38 (lv_at hl 4 rfl) ?_
              refine lv_ishl hx hb d_Cutter_stepsFor_40 ?_
              refine lv_ior hx hb d_Cutter_stepsFor_41 ?_
              refine top_i (show ((Mk (fun z9 => decide (1 ≤ z9) && (decide (wy ≠ 0) || (!tl || gs z9))) i) ||| ((nI 1) <<< ((nI i) &&& 31))) = (Mk (fun z9 => decide (1 ≤ z9) && (decide (wy ≠ 0) || (!tl || gs z9))) (i + 1)) from by rw [Mk_s, if_pos (by first | (rw [decide_eq_true hi0, decide_eq_true c24]; rfl) | (rw [decide_eq_true hi0, tN_1 c33]; simp))]; rfl) ?_
              refine lv_istore_n (lv' := [(2, .int (Mk (fun z9 => decide (1 ≤ z9) && (decide (wy ≠ 0) || (!tl || gs z9))) (i + 1))), (0, .int (nI wy)), (1, .ref hG), (3, .int (nI mo)), (4, .int (nI i))]) hx hb d_Cutter_stepsFor_42 rfl hl (by decide) rfl (fun ls hl => ?_)
              refine lv_iinc (v := (nI (i + 1))) (lv' := [(4, .int (nI (i + 1))), (2, .int (Mk (fun z9 => decide (1 ≤ z9) && (decide (wy ≠ 0) || (!tl || gs z9))) (i + 1))), (0, .int (nI wy)), (1, .ref hG), (3, .int (nI mo))]) hx hb d_Cutter_stepsFor_43 hl (k := 4) rfl (nI_inc _ _ _ (by omega)) (by decide) rfl (fun ls hl => ?_)
              refine lv_goto (tgt := 17) hx hb d_Cutter_stepsFor_46 (by decide) ?_
              exact ih17 (i + 1) _ (by omega) (by omega) (by omega) (lv_sub hl [2, 3, 1, 4, 0] rfl)
    exact L17 (mo + 1 - 1 + 1) 1 _ (Nat.le_refl 1) (by omega) (Nat.lt_succ_self _) (lv_sub hl [3, 4, 2, 1, 0] rfl)
