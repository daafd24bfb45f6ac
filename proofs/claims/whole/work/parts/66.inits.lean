theorem cl_Board_9 : Cond.classLink R_Board 9 R_Fault ∈ TB := mem_TB 44 (by decide +kernel) (by decide +kernel)
theorem cl_Cutter_9 : Cond.classLink R_Cutter 9 "[[J" ∈ TB := mem_TB 134 (by decide +kernel) (by decide +kernel)
theorem cl_Leftover_33 : Cond.classLink R_Leftover 33 "[[I" ∈ TB := mem_TB 207 (by decide +kernel) (by decide +kernel)
theorem cl_Plan_26 : Cond.classLink R_Plan 26 "[[I" ∈ TB := mem_TB 172 (by decide +kernel) (by decide +kernel)
theorem cl_Sorts_9 : Cond.classLink R_Sorts 9 R_Sort ∈ TB := mem_TB 93 (by decide +kernel) (by decide +kernel)
theorem fl_Fault_15 : Cond.fieldLink R_Fault 15 "FaultRips$Fault" "kind" "I" ∈ TB := mem_TB 407 (by decide +kernel) (by decide +kernel)
theorem fl_Fault_9 : Cond.fieldLink R_Fault 9 "FaultRips$Fault" "face" "I" ∈ TB := mem_TB 405 (by decide +kernel) (by decide +kernel)
theorem fl_Leftover_15 : Cond.fieldLink R_Leftover 15 "FaultRips$Board" "wide" "I" ∈ TB := mem_TB 53 (by decide +kernel) (by decide +kernel)
theorem fl_Leftover_21 : Cond.fieldLink R_Leftover 21 "FaultRips$Board" "along" "I" ∈ TB := mem_TB 56 (by decide +kernel) (by decide +kernel)
theorem fl_Sort_31 : Cond.fieldLink R_Sort 31 "FaultRips$Sort" "wide" "I" ∈ TB := mem_TB 449 (by decide +kernel) (by decide +kernel)
theorem fl_Sort_9 : Cond.fieldLink R_Sort 9 "FaultRips$Sort" "need" "I" ∈ TB := mem_TB 452 (by decide +kernel) (by decide +kernel)
theorem kc_Sorts_21 : Cond.constant R_Sorts 21 (nI 16777216) ∈ TB := mem_TB 95 (by decide +kernel) (by decide +kernel)
theorem kc_Rips_283 : Cond.constant R_Rips 283 (nI 65536) ∈ TB := mem_TB 33 (by decide +kernel) (by decide +kernel)
theorem lk_Leftover_25 : Cond.methodLink R_Leftover 25 y_Board_cells ∈ TB := mem_TB 206 (by decide +kernel) (by decide +kernel)
theorem lm_Board_24 : Cond.methodLink R_Board 24 Lib.Math.max.name ∈ TB := mem_TB 46 (by decide +kernel) (by decide +kernel)
theorem lm_Board_33 : Cond.methodLink R_Board 33 Lib.Math.min.name ∈ TB := mem_TB 47 (by decide +kernel) (by decide +kernel)
theorem lm_Rips_192 : Cond.methodLink R_Rips 192 Lib.Math.max.name ∈ TB := mem_TB 37 (by decide +kernel) (by decide +kernel)
theorem lm_Rips_284 : Cond.methodLink R_Rips 284 Lib.Math.min.name ∈ TB := mem_TB 34 (by decide +kernel) (by decide +kernel)
theorem nst_Board_42 : (R_Board, 42, y_Rips_spansOf) ∈ nests := by decide +kernel
theorem lo_Board_3 : Cond.methodLink R_Board 3 objectInit ∈ TB := mem_TB 43 (by decide +kernel) (by decide +kernel)
theorem lo_Cutter_3 : Cond.methodLink R_Cutter 3 objectInit ∈ TB := mem_TB 133 (by decide +kernel) (by decide +kernel)
theorem lo_Fault_3 : Cond.methodLink R_Fault 3 objectInit ∈ TB := mem_TB 404 (by decide +kernel) (by decide +kernel)
theorem lo_Gang_3 : Cond.methodLink R_Gang 3 objectInit ∈ TB := mem_TB 119 (by decide +kernel) (by decide +kernel)
theorem lo_Leftover_3 : Cond.methodLink R_Leftover 3 objectInit ∈ TB := mem_TB 205 (by decide +kernel) (by decide +kernel)
theorem lo_PanelMaker_3 : Cond.methodLink R_PanelMaker 3 objectInit ∈ TB := mem_TB 232 (by decide +kernel) (by decide +kernel)
theorem lo_Plan_3 : Cond.methodLink R_Plan 3 objectInit ∈ TB := mem_TB 171 (by decide +kernel) (by decide +kernel)
theorem lo_Sort_3 : Cond.methodLink R_Sort 3 objectInit ∈ TB := mem_TB 448 (by decide +kernel) (by decide +kernel)
theorem lo_Sorts_3 : Cond.methodLink R_Sorts 3 objectInit ∈ TB := mem_TB 92 (by decide +kernel) (by decide +kernel)

/-- the nearest number from 1 to 65536 -/
def nP (v : Int) : Nat := (max 1 (min 65536 v)).toNat
theorem nP_b (v : Int) : 1 ≤ nP v ∧ nP v ≤ 65536 := by unfold nP; omega

abbrev q_Rips_nearestPart (G : va_G) (ty : Nat → ClassId) (v : Int) : Array Value → State → Outcome → State → Prop := vp_Si (fun r : Int32 => r = (nI (nP v)))
set_option maxRecDepth 100000 in
set_option maxHeartbeats 4000000 in
theorem c_Rips_nearestPart (l : Launch) (G : va_G) (ty : Nat → ClassId) (v : Int) (g1 : -2147483648 ≤ v ∧ v ≤ 2147483647) : Met l y_Rips_nearestPart ws_Rips_nearestPart { frames := 1, cells := 0, slots := 0, locals := 21 } (va_Pc [.int (iI v)] (fun U => va_P G vwCl [] U.heap ∧ KX G ty U)) (q_Rips_nearestPart G ty v) 0 0 (fun _ => False) := by
  refine met_ro R_Rips (by decide) rfl rfl (Nat.le_of_ble_eq_true rfl) ?_
  intro p e s m below meth c ls hx hb hr hml hown hts hlocks hP hX hl
  have hK := hX.1
  have hl : lv_has ls 1 [(0, .int (iI v))] := hl
  refine lv_iconst (v := (nI 1)) hx hb d_Rips_nearestPart_0 (by decide) ?_
  refine top_i (show (nI 1) = (iI 1) from rfl) ?_
  refine lv_ldcw (v := (nI 65536)) hx hb hown (hts _ kc_Rips_283) d_Rips_nearestPart_1 ?_
  refine top_i (show (nI 65536) = (iI 65536) from rfl) ?_
  refine lv_iload_n hx hb d_Rips_nearestPart_4 rfl (lv_at hl 0 rfl) ?_
  refine z_mmin hx hb hml hl.1 hown hts lm_Rips_284 ⟨Nat.le_of_ble_eq_true rfl, Nat.le_of_ble_eq_true rfl⟩ (Nat.le_of_ble_eq_true rfl) ⟨Nat.le_of_ble_eq_true rfl, Nat.le_of_ble_eq_true rfl⟩ (by omega) (by omega) d_Rips_nearestPart_5 ?_
  refine z_mmax hx hb hml hl.1 hown hts lm_Rips_192 ⟨Nat.le_of_ble_eq_true rfl, Nat.le_of_ble_eq_true rfl⟩ (Nat.le_of_ble_eq_true rfl) ⟨Nat.le_of_ble_eq_true rfl, Nat.le_of_ble_eq_true rfl⟩ (by omega) (by omega) d_Rips_nearestPart_8 ?_
  exact W.iret (v := (iI (max 1 (min 65536 v)))) hx hb hr (fun t9 ht _ => ⟨_, rfl, by unfold nP; exact iI_nI (by omega), ht⟩) (fun q h => by cases h) d_Rips_nearestPart_11

abbrev q_Fault_init (G : va_G) (ty : Nat → ClassId) (h0 : Nat) (fc : Int) (kd : Int) (x : Int) (y : Int) (w : Int) (h : Int) (A : Nat → Prop) : Array Value → State → Outcome → State → Prop := va_Qv (fun (uu : Unit) => True) (at_W G (fun (uu : Unit) => [(h0, .inr (2, [.int (iI fc), .int (iI kd), .int (iI x), .int (iI y), .int (iI w), .int (iI h)]))]) A) A
set_option maxRecDepth 100000 in
set_option maxHeartbeats 4000000 in
theorem c_Fault_init (l : Launch) (G : va_G) (ty : Nat → ClassId) (sz : Nat) (h0 : Nat) (fc : Int) (kd : Int) (x : Int) (y : Int) (w : Int) (h : Int) : Met l y_Fault_init ws_Fault_init { frames := 1, cells := 0, slots := 0, locals := 40 } (va_Pc [.ref h0, .int (iI fc), .int (iI kd), .int (iI x), .int (iI y), .int (iI w), .int (iI h)] (fun U => U.heap.size = sz ∧ va_P G vwCl [(h0, .inr (2, [.int (nI 0), .int (nI 0), .int (nI 0), .int (nI 0), .int (nI 0), .int (nI 0)]))] U.heap ∧ KX G ty U ∧ va_D (fun _ => True) [(h0, .inr (2, [.int (nI 0), .int (nI 0), .int (nI 0), .int (nI 0), .int (nI 0), .int (nI 0)]))])) (q_Fault_init G ty h0 fc kd x y w h (va_A [(h0, .inr (2, [.int (nI 0), .int (nI 0), .int (nI 0), .int (nI 0), .int (nI 0), .int (nI 0)]))] sz)) 0 0 (va_A [(h0, .inr (2, [.int (nI 0), .int (nI 0), .int (nI 0), .int (nI 0), .int (nI 0), .int (nI 0)]))] sz) := by
  refine met_wr (y := y_Fault_init) (maxL := 7) (sz := sz) (G := G) (ty := ty) (mc := 0) (ms := 0) (av := [.ref h0, .int (iI fc), .int (iI kd), .int (iI x), .int (iI y), .int (iI w), .int (iI h)]) (W0 := [(h0, .inr (2, [.int (nI 0), .int (nI 0), .int (nI 0), .int (nI 0), .int (nI 0), .int (nI 0)]))]) (fun A => q_Fault_init G ty h0 fc kd x y w h A) R_Fault (by decide) rfl rfl (Nat.le_of_ble_eq_true rfl) ?_
  intro p e s m below meth c ls A hx hb hr hml hown hts hlocks hin hA hP hX hD hS hl
  have hK := hX.1
  have hl : lv_has ls 7 [(0, .ref h0), (1, .int (iI fc)), (2, .int (iI kd)), (3, .int (iI x)), (4, .int (iI y)), (5, .int (iI w)), (6, .int (iI h))] := hl
  refine lv_aload_n hx hb d_Fault_init_0 rfl (lv_at hl 0 rfl) ?_
  refine W.objInit hx hb hown (hts _ lo_Fault_3) (hts _ im_obj) (hts _ cd_obj) rfl (by rw [hml]; exact hl.1) rfl d_Fault_init_1 (Nat.le_of_ble_eq_true rfl) (Nat.le_of_ble_eq_true rfl) ?_
  refine lv_aload_n hx hb d_Fault_init_4 rfl (lv_at hl 0 rfl) ?_
  refine lv_iload_n hx hb d_Fault_init_5 rfl (lv_at hl 1 rfl) ?_
  refine va_putF (D := G) (ci := 2) (v := .int (iI fc)) (ty := .int) (C := R_Fault) (T := F_Fault) (N := 6) hx hb hts in_Fault t_Fault t_Fault_ok n_Fault hown hK hP hD hS 0 rfl rfl 0 (by decide) (hts _ fl_Fault_9) (fun _ h9 => h9) rfl hin rfl (by decide +kernel) rfl rfl (Nat.le_of_ble_eq_true rfl) d_Fault_init_6 (fun H locs hP hD hS => ?_)
  have hP : va_P G vwCl [(h0, .inr (2, [.int (iI fc), .int (nI 0), .int (nI 0), .int (nI 0), .int (nI 0), .int (nI 0)]))] _ := hP
  have hD : va_D A [(h0, .inr (2, [.int (iI fc), .int (nI 0), .int (nI 0), .int (nI 0), .int (nI 0), .int (nI 0)]))] := hD
  refine lv_aload_n hx hb d_Fault_init_9 rfl (lv_at hl 0 rfl) ?_
  refine lv_iload_n hx hb d_Fault_init_10 rfl (lv_at hl 2 rfl) ?_
  refine va_putF (D := G) (ci := 2) (v := .int (iI kd)) (ty := .int) (C := R_Fault) (T := F_Fault) (N := 6) hx hb hts in_Fault t_Fault t_Fault_ok n_Fault hown hK hP hD hS 0 rfl rfl 1 (by decide) (hts _ fl_Fault_15) (fun _ h9 => h9) rfl hin rfl (by decide +kernel) rfl rfl (Nat.le_of_ble_eq_true rfl) d_Fault_init_11 (fun H locs hP hD hS => ?_)
  have hP : va_P G vwCl [(h0, .inr (2, [.int (iI fc), .int (iI kd), .int (nI 0), .int (nI 0), .int (nI 0), .int (nI 0)]))] _ := hP
  have hD : va_D A [(h0, .inr (2, [.int (iI fc), .int (iI kd), .int (nI 0), .int (nI 0), .int (nI 0), .int (nI 0)]))] := hD
  refine lv_aload_n hx hb d_Fault_init_14 rfl (lv_at hl 0 rfl) ?_
  refine lv_iload_n hx hb d_Fault_init_15 rfl (lv_at hl 3 rfl) ?_
  refine va_putF (D := G) (ci := 2) (v := .int (iI x)) (ty := .int) (C := R_Fault) (T := F_Fault) (N := 6) hx hb hts in_Fault t_Fault t_Fault_ok n_Fault hown hK hP hD hS 0 rfl rfl 2 (by decide) (hts _ fl_Fault_18) (fun _ h9 => h9) rfl hin rfl (by decide +kernel) rfl rfl (Nat.le_of_ble_eq_true rfl) d_Fault_init_16 (fun H locs hP hD hS => ?_)
  have hP : va_P G vwCl [(h0, .inr (2, [.int (iI fc), .int (iI kd), .int (iI x), .int (nI 0), .int (nI 0), .int (nI 0)]))] _ := hP
  have hD : va_D A [(h0, .inr (2, [.int (iI fc), .int (iI kd), .int (iI x), .int (nI 0), .int (nI 0), .int (nI 0)]))] := hD
  refine lv_aload_n hx hb d_Fault_init_19 rfl (lv_at hl 0 rfl) ?_
  refine lv_iload hx hb d_Fault_init_20 (lv_at hl 4 rfl) ?_
  refine va_putF (D := G) (ci := 2) (v := .int (iI y)) (ty := .int) (C := R_Fault) (T := F_Fault) (N := 6) hx hb hts in_Fault t_Fault t_Fault_ok n_Fault hown hK hP hD hS 0 rfl rfl 3 (by decide) (hts _ fl_Fault_21) (fun _ h9 => h9) rfl hin rfl (by decide +kernel) rfl rfl (Nat.le_of_ble_eq_true rfl) d_Fault_init_22 (fun H locs hP hD hS => ?_)
  have hP : va_P G vwCl [(h0, .inr (2, [.int (iI fc), .int (iI kd), .int (iI x), .int (iI y), .int (nI 0), .int (nI 0)]))] _ := hP
  have hD : va_D A [(h0, .inr (2, [.int (iI fc), .int (iI kd), .int (iI x), .int (iI y), .int (nI 0), .int (nI 0)]))] := hD
  refine lv_aload_n hx hb d_Fault_init_25 rfl (lv_at hl 0 rfl) ?_
  refine lv_iload hx hb d_Fault_init_26 (lv_at hl 5 rfl) ?_
  refine va_putF (D := G) (ci := 2) (v := .int (iI w)) (ty := .int) (C := R_Fault) (T := F_Fault) (N := 6) hx hb hts in_Fault t_Fault t_Fault_ok n_Fault hown hK hP hD hS 0 rfl rfl 4 (by decide) (hts _ fl_Fault_24) (fun _ h9 => h9) rfl hin rfl (by decide +kernel) rfl rfl (Nat.le_of_ble_eq_true rfl) d_Fault_init_28 (fun H locs hP hD hS => ?_)
  have hP : va_P G vwCl [(h0, .inr (2, [.int (iI fc), .int (iI kd), .int (iI x), .int (iI y), .int (iI w), .int (nI 0)]))] _ := hP
  have hD : va_D A [(h0, .inr (2, [.int (iI fc), .int (iI kd), .int (iI x), .int (iI y), .int (iI w), .int (nI 0)]))] := hD
  refine lv_aload_n hx hb d_Fault_init_31 rfl (lv_at hl 0 rfl) ?_
  refine lv_iload hx hb d_Fault_init_32 (lv_at hl 6 rfl) ?_
  refine va_putF (D := G) (ci := 2) (v := .int (iI h)) (ty := .int) (C := R_Fault) (T := F_Fault) (N := 6) hx hb hts in_Fault t_Fault t_Fault_ok n_Fault hown hK hP hD hS 0 rfl rfl 5 (by decide) (hts _ fl_Fault_27) (fun _ h9 => h9) rfl hin rfl (by decide +kernel) rfl rfl (Nat.le_of_ble_eq_true rfl) d_Fault_init_34 (fun H locs hP hD hS => ?_)
  have hP : va_P G vwCl [(h0, .inr (2, [.int (iI fc), .int (iI kd), .int (iI x), .int (iI y), .int (iI w), .int (iI h)]))] _ := hP
  have hD : va_D A [(h0, .inr (2, [.int (iI fc), .int (iI kd), .int (iI x), .int (iI y), .int (iI w), .int (iI h)]))] := hD
  exact W.vret hx hb hr (fun t9 ht hW => ⟨⟨(), rfl, trivial, by rw [ht]; exact hP, hD⟩, hS.F ht⟩) hS.2.2 d_Fault_init_37

abbrev q_Sort_init (G : va_G) (ty : Nat → ClassId) (h0 : Nat) (w : Nat) (lo_ : Nat) (hi_ : Nat) (ps : Nat) (A : Nat → Prop) : Array Value → State → Outcome → State → Prop := va_Qv (fun (uu : Unit) => True) (at_W G (fun (uu : Unit) => [(h0, .inr (7, [.int (nI w), .int (nI ps), .int (iI (-1)), .long (iL 0), .int (nI 1), .int (nI 0), .int (nI 0), .int (nI lo_), .int (nI hi_), .int (nI 0)]))]) A) A
set_option maxRecDepth 100000 in
set_option maxHeartbeats 4000000 in
theorem c_Sort_init (l : Launch) (G : va_G) (ty : Nat → ClassId) (sz : Nat) (h0 : Nat) (w : Nat) (lo_ : Nat) (hi_ : Nat) (ps : Nat) : Met l y_Sort_init ws_Sort_init { frames := 1, cells := 0, slots := 0, locals := 40 } (va_Pc [.ref h0, .int (nI w), .int (nI lo_), .int (nI hi_), .int (nI ps)] (fun U => U.heap.size = sz ∧ va_P G vwCl [(h0, .inr (7, [.int (nI 0), .int (nI 0), .int (nI 0), .long (iL 0), .int (nI 0), .int (nI 0), .int (nI 0), .int (nI 0), .int (nI 0), .int (nI 0)]))] U.heap ∧ KX G ty U ∧ va_D (fun _ => True) [(h0, .inr (7, [.int (nI 0), .int (nI 0), .int (nI 0), .long (iL 0), .int (nI 0), .int (nI 0), .int (nI 0), .int (nI 0), .int (nI 0), .int (nI 0)]))])) (q_Sort_init G ty h0 w lo_ hi_ ps (va_A [(h0, .inr (7, [.int (nI 0), .int (nI 0), .int (nI 0), .long (iL 0), .int (nI 0), .int (nI 0), .int (nI 0), .int (nI 0), .int (nI 0), .int (nI 0)]))] sz)) 0 0 (va_A [(h0, .inr (7, [.int (nI 0), .int (nI 0), .int (nI 0), .long (iL 0), .int (nI 0), .int (nI 0), .int (nI 0), .int (nI 0), .int (nI 0), .int (nI 0)]))] sz) := by
  refine met_wr (y := y_Sort_init) (maxL := 5) (sz := sz) (G := G) (ty := ty) (mc := 0) (ms := 0) (av := [.ref h0, .int (nI w), .int (nI lo_), .int (nI hi_), .int (nI ps)]) (W0 := [(h0, .inr (7, [.int (nI 0), .int (nI 0), .int (nI 0), .long (iL 0), .int (nI 0), .int (nI 0), .int (nI 0), .int (nI 0), .int (nI 0), .int (nI 0)]))]) (fun A => q_Sort_init G ty h0 w lo_ hi_ ps A) R_Sort (by decide) rfl rfl (Nat.le_of_ble_eq_true rfl) ?_
  intro p e s m below meth c ls A hx hb hr hml hown hts hlocks hin hA hP hX hD hS hl
  have hK := hX.1
  have hl : lv_has ls 5 [(0, .ref h0), (1, .int (nI w)), (2, .int (nI lo_)), (3, .int (nI hi_)), (4, .int (nI ps))] := hl
  refine lv_aload_n hx hb d_Sort_init_0 rfl (lv_at hl 0 rfl) ?_
  refine W.objInit hx hb hown (hts _ lo_Sort_3) (hts _ im_obj) (hts _ cd_obj) rfl (by rw [hml]; exact hl.1) rfl d_Sort_init_1 (Nat.le_of_ble_eq_true rfl) (Nat.le_of_ble_eq_true rfl) ?_
  refine lv_aload_n hx hb d_Sort_init_4 rfl (lv_at hl 0 rfl) ?_
  refine lv_iconst (v := (iI (-1))) hx hb d_Sort_init_5 (by decide) ?_
  refine va_put (D := G) (ci := 7) (v := .int (iI (-1))) (ty := .int) (C := R_Sort) (T := F_Sort) (N := 10) hx hb hts in_Sort t_Sort t_Sort_ok n_Sort hown hK hP hD hS 0 rfl rfl 2 (by decide) (hts _ fl_Sort_9) (fun _ h9 => h9) rfl (by decide +kernel) rfl rfl (Nat.le_of_ble_eq_true rfl) d_Sort_init_6 (fun H locs hP hD hS => ?_)
  have hP : va_P G vwCl [(h0, .inr (7, [.int (nI 0), .int (nI 0), .int (iI (-1)), .long (iL 0), .int (nI 0), .int (nI 0), .int (nI 0), .int (nI 0), .int (nI 0), .int (nI 0)]))] _ := hP
  have hD : va_D A [(h0, .inr (7, [.int (nI 0), .int (nI 0), .int (iI (-1)), .long (iL 0), .int (nI 0), .int (nI 0), .int (nI 0), .int (nI 0), .int (nI 0), .int (nI 0)]))] := hD
  refine lv_aload_n hx hb d_Sort_init_9 rfl (lv_at hl 0 rfl) ?_
  refine lv_lconst (v := iL 0) hx hb d_Sort_init_10 (by decide) ?_
  refine va_put (D := G) (ci := 7) (v := .long (iL 0)) (ty := .long) (C := R_Sort) (T := F_Sort) (N := 10) hx hb hts in_Sort t_Sort t_Sort_ok n_Sort hown hK hP hD hS 0 rfl rfl 3 (by decide) (hts _ fl_Sort_15) (fun _ h9 => h9) rfl (by decide +kernel) rfl rfl (Nat.le_of_ble_eq_true rfl) d_Sort_init_11 (fun H locs hP hD hS => ?_)
  have hP : va_P G vwCl [(h0, .inr (7, [.int (nI 0), .int (nI 0), .int (iI (-1)), .long (iL 0), .int (nI 0), .int (nI 0), .int (nI 0), .int (nI 0), .int (nI 0), .int (nI 0)]))] _ := hP
  have hD : va_D A [(h0, .inr (7, [.int (nI 0), .int (nI 0), .int (iI (-1)), .long (iL 0), .int (nI 0), .int (nI 0), .int (nI 0), .int (nI 0), .int (nI 0), .int (nI 0)]))] := hD
  refine lv_aload_n hx hb d_Sort_init_14 rfl (lv_at hl 0 rfl) ?_
  refine lv_iconst (v := (nI 1)) hx hb d_Sort_init_15 (by decide) ?_
  refine va_put (D := G) (ci := 7) (v := .int (nI 1)) (ty := .int) (C := R_Sort) (T := F_Sort) (N := 10) hx hb hts in_Sort t_Sort t_Sort_ok n_Sort hown hK hP hD hS 0 rfl rfl 4 (by decide) (hts _ fl_Sort_19) (fun _ h9 => h9) rfl (by decide +kernel) rfl rfl (Nat.le_of_ble_eq_true rfl) d_Sort_init_16 (fun H locs hP hD hS => ?_)
  have hP : va_P G vwCl [(h0, .inr (7, [.int (nI 0), .int (nI 0), .int (iI (-1)), .long (iL 0), .int (nI 1), .int (nI 0), .int (nI 0), .int (nI 0), .int (nI 0), .int (nI 0)]))] _ := hP
  have hD : va_D A [(h0, .inr (7, [.int (nI 0), .int (nI 0), .int (iI (-1)), .long (iL 0), .int (nI 1), .int (nI 0), .int (nI 0), .int (nI 0), .int (nI 0), .int (nI 0)]))] := hD
  refine lv_aload_n hx hb d_Sort_init_19 rfl (lv_at hl 0 rfl) ?_
  refine lv_iconst (v := (nI 0)) hx hb d_Sort_init_20 (by decide) ?_
  refine va_put (D := G) (ci := 7) (v := .int (nI 0)) (ty := .int) (C := R_Sort) (T := F_Sort) (N := 10) hx hb hts in_Sort t_Sort t_Sort_ok n_Sort hown hK hP hD hS 0 rfl rfl 5 (by decide) (hts _ fl_Sort_22) (fun _ h9 => h9) rfl (by decide +kernel) rfl rfl (Nat.le_of_ble_eq_true rfl) d_Sort_init_21 (fun H locs hP hD hS => ?_)
  have hP : va_P G vwCl [(h0, .inr (7, [.int (nI 0), .int (nI 0), .int (iI (-1)), .long (iL 0), .int (nI 1), .int (nI 0), .int (nI 0), .int (nI 0), .int (nI 0), .int (nI 0)]))] _ := hP
  have hD : va_D A [(h0, .inr (7, [.int (nI 0), .int (nI 0), .int (iI (-1)), .long (iL 0), .int (nI 1), .int (nI 0), .int (nI 0), .int (nI 0), .int (nI 0), .int (nI 0)]))] := hD
  refine lv_aload_n hx hb d_Sort_init_24 rfl (lv_at hl 0 rfl) ?_
  refine lv_iconst (v := (nI 0)) hx hb d_Sort_init_25 (by decide) ?_
  refine va_put (D := G) (ci := 7) (v := .int (nI 0)) (ty := .int) (C := R_Sort) (T := F_Sort) (N := 10) hx hb hts in_Sort t_Sort t_Sort_ok n_Sort hown hK hP hD hS 0 rfl rfl 6 (by decide) (hts _ fl_Sort_25) (fun _ h9 => h9) rfl (by decide +kernel) rfl rfl (Nat.le_of_ble_eq_true rfl) d_Sort_init_26 (fun H locs hP hD hS => ?_)
  have hP : va_P G vwCl [(h0, .inr (7, [.int (nI 0), .int (nI 0), .int (iI (-1)), .long (iL 0), .int (nI 1), .int (nI 0), .int (nI 0), .int (nI 0), .int (nI 0), .int (nI 0)]))] _ := hP
  have hD : va_D A [(h0, .inr (7, [.int (nI 0), .int (nI 0), .int (iI (-1)), .long (iL 0), .int (nI 1), .int (nI 0), .int (nI 0), .int (nI 0), .int (nI 0), .int (nI 0)]))] := hD
  refine lv_aload_n hx hb d_Sort_init_29 rfl (lv_at hl 0 rfl) ?_
  refine lv_iconst (v := (nI 0)) hx hb d_Sort_init_30 (by decide) ?_
  refine va_put (D := G) (ci := 7) (v := .int (nI 0)) (ty := .int) (C := R_Sort) (T := F_Sort) (N := 10) hx hb hts in_Sort t_Sort t_Sort_ok n_Sort hown hK hP hD hS 0 rfl rfl 9 (by decide) (hts _ fl_Sort_28) (fun _ h9 => h9) rfl (by decide +kernel) rfl rfl (Nat.le_of_ble_eq_true rfl) d_Sort_init_31 (fun H locs hP hD hS => ?_)
  have hP : va_P G vwCl [(h0, .inr (7, [.int (nI 0), .int (nI 0), .int (iI (-1)), .long (iL 0), .int (nI 1), .int (nI 0), .int (nI 0), .int (nI 0), .int (nI 0), .int (nI 0)]))] _ := hP
  have hD : va_D A [(h0, .inr (7, [.int (nI 0), .int (nI 0), .int (iI (-1)), .long (iL 0), .int (nI 1), .int (nI 0), .int (nI 0), .int (nI 0), .int (nI 0), .int (nI 0)]))] := hD
  refine lv_aload_n hx hb d_Sort_init_34 rfl (lv_at hl 0 rfl) ?_
  refine lv_iload_n hx hb d_Sort_init_35 rfl (lv_at hl 1 rfl) ?_
  refine va_putF (D := G) (ci := 7) (v := .int (nI w)) (ty := .int) (C := R_Sort) (T := F_Sort) (N := 10) hx hb hts in_Sort t_Sort t_Sort_ok n_Sort hown hK hP hD hS 0 rfl rfl 0 (by decide) (hts _ fl_Sort_31) (fun _ h9 => h9) rfl hin rfl (by decide +kernel) rfl rfl (Nat.le_of_ble_eq_true rfl) d_Sort_init_36 (fun H locs hP hD hS => ?_)
  have hP : va_P G vwCl [(h0, .inr (7, [.int (nI w), .int (nI 0), .int (iI (-1)), .long (iL 0), .int (nI 1), .int (nI 0), .int (nI 0), .int (nI 0), .int (nI 0), .int (nI 0)]))] _ := hP
  have hD : va_D A [(h0, .inr (7, [.int (nI w), .int (nI 0), .int (iI (-1)), .long (iL 0), .int (nI 1), .int (nI 0), .int (nI 0), .int (nI 0), .int (nI 0), .int (nI 0)]))] := hD
  refine lv_aload_n hx hb d_Sort_init_39 rfl (lv_at hl 0 rfl) ?_
  refine lv_iload_n hx hb d_Sort_init_40 rfl (lv_at hl 2 rfl) ?_
  refine va_putF (D := G) (ci := 7) (v := .int (nI lo_)) (ty := .int) (C := R_Sort) (T := F_Sort) (N := 10) hx hb hts in_Sort t_Sort t_Sort_ok n_Sort hown hK hP hD hS 0 rfl rfl 7 (by decide) (hts _ fl_Sort_34) (fun _ h9 => h9) rfl hin rfl (by decide +kernel) rfl rfl (Nat.le_of_ble_eq_true rfl) d_Sort_init_41 (fun H locs hP hD hS => ?_)
  have hP : va_P G vwCl [(h0, .inr (7, [.int (nI w), .int (nI 0), .int (iI (-1)), .long (iL 0), .int (nI 1), .int (nI 0), .int (nI 0), .int (nI lo_), .int (nI 0), .int (nI 0)]))] _ := hP
  have hD : va_D A [(h0, .inr (7, [.int (nI w), .int (nI 0), .int (iI (-1)), .long (iL 0), .int (nI 1), .int (nI 0), .int (nI 0), .int (nI lo_), .int (nI 0), .int (nI 0)]))] := hD
  refine lv_aload_n hx hb d_Sort_init_44 rfl (lv_at hl 0 rfl) ?_
  refine lv_iload_n hx hb d_Sort_init_45 rfl (lv_at hl 3 rfl) ?_
  refine va_putF (D := G) (ci := 7) (v := .int (nI hi_)) (ty := .int) (C := R_Sort) (T := F_Sort) (N := 10) hx hb hts in_Sort t_Sort t_Sort_ok n_Sort hown hK hP hD hS 0 rfl rfl 8 (by decide) (hts _ fl_Sort_37) (fun _ h9 => h9) rfl hin rfl (by decide +kernel) rfl rfl (Nat.le_of_ble_eq_true rfl) d_Sort_init_46 (fun H locs hP hD hS => ?_)
  have hP : va_P G vwCl [(h0, .inr (7, [.int (nI w), .int (nI 0), .int (iI (-1)), .long (iL 0), .int (nI 1), .int (nI 0), .int (nI 0), .int (nI lo_), .int (nI hi_), .int (nI 0)]))] _ := hP
  have hD : va_D A [(h0, .inr (7, [.int (nI w), .int (nI 0), .int (iI (-1)), .long (iL 0), .int (nI 1), .int (nI 0), .int (nI 0), .int (nI lo_), .int (nI hi_), .int (nI 0)]))] := hD
  refine lv_aload_n hx hb d_Sort_init_49 rfl (lv_at hl 0 rfl) ?_
  refine lv_iload hx hb d_Sort_init_50 (lv_at hl 4 rfl) ?_
  refine va_putF (D := G) (ci := 7) (v := .int (nI ps)) (ty := .int) (C := R_Sort) (T := F_Sort) (N := 10) hx hb hts in_Sort t_Sort t_Sort_ok n_Sort hown hK hP hD hS 0 rfl rfl 1 (by decide) (hts _ fl_Sort_40) (fun _ h9 => h9) rfl hin rfl (by decide +kernel) rfl rfl (Nat.le_of_ble_eq_true rfl) d_Sort_init_52 (fun H locs hP hD hS => ?_)
  have hP : va_P G vwCl [(h0, .inr (7, [.int (nI w), .int (nI ps), .int (iI (-1)), .long (iL 0), .int (nI 1), .int (nI 0), .int (nI 0), .int (nI lo_), .int (nI hi_), .int (nI 0)]))] _ := hP
  have hD : va_D A [(h0, .inr (7, [.int (nI w), .int (nI ps), .int (iI (-1)), .long (iL 0), .int (nI 1), .int (nI 0), .int (nI 0), .int (nI lo_), .int (nI hi_), .int (nI 0)]))] := hD
  exact W.vret hx hb hr (fun t9 ht hW => ⟨⟨(), rfl, trivial, by rw [ht]; exact hP, hD⟩, hS.F ht⟩) hS.2.2 d_Sort_init_55

abbrev q_Board_init (G : va_G) (ty : Nat → ClassId) (hB : Nat) (wi : Nat) (le : Nat) (sp : Nat) (al : Nat) (wd : Nat) (sA : Nat) (nY : Nat) (A : Nat → Prop) : Array Value → State → Outcome → State → Prop := va_Qv (fun (uu : Nat × Nat × Nat) => True) (at_W G (fun (uu : Nat × Nat × Nat) => [(hB, .inr (0, [.int (nI sp), .int (nI wd), .int (nI al), .ref uu.1, .int (nI 0), .int (nI 0), .ref uu.2.1, .ref uu.2.2])), (uu.1, .inl (ty 3, 20, .inr (.inr (.inr (.inr (fun _ => none)))))), (uu.2.1, .inl (ty 0, sA, .inl (nF (fun _ => 0)))), (uu.2.2, .inl (ty 0, nY, .inl (nF (fun _ => 0))))]) A) A
set_option maxRecDepth 100000 in
set_option maxHeartbeats 4000000 in
theorem c_Board_init (l : Launch) (G : va_G) (ty : Nat → ClassId) (sz : Nat) (hB : Nat) (wi : Nat) (le : Nat) (sp : Nat) (al : Nat) (wd : Nat) (sA : Nat) (nY : Nat) (g1 : wi ≤ 65536) (g2 : le ≤ 65536) (g3 : 1 ≤ sp ∧ sp ≤ 65536) (gw : wd = min 10 (wi / sp)) (ga : al = min 24 (le / sp)) (gA : sA = al * (al + 1) / 2) (gY : nY = wd * (wd + 1) / 2) : Met l y_Board_init ws_Board_init { frames := 1, cells := 3, slots := 20 + sA + nY, locals := 40 } (va_Pc [.ref hB, .int (nI wi), .int (nI le), .int (nI sp)] (fun U => U.heap.size = sz ∧ va_P G vwCl [(hB, .inr (0, [.int (nI 0), .int (nI 0), .int (nI 0), .null, .int (nI 0), .int (nI 0), .null, .null]))] U.heap ∧ KX G ty U ∧ va_D (fun _ => True) [(hB, .inr (0, [.int (nI 0), .int (nI 0), .int (nI 0), .null, .int (nI 0), .int (nI 0), .null, .null]))])) (q_Board_init G ty hB wi le sp al wd sA nY (va_A [(hB, .inr (0, [.int (nI 0), .int (nI 0), .int (nI 0), .null, .int (nI 0), .int (nI 0), .null, .null]))] sz)) 3 (20 + sA + nY) (va_A [(hB, .inr (0, [.int (nI 0), .int (nI 0), .int (nI 0), .null, .int (nI 0), .int (nI 0), .null, .null]))] sz) := by
  refine met_wr (y := y_Board_init) (maxL := 4) (sz := sz) (G := G) (ty := ty) (mc := 3) (ms := 20 + sA + nY) (av := [.ref hB, .int (nI wi), .int (nI le), .int (nI sp)]) (W0 := [(hB, .inr (0, [.int (nI 0), .int (nI 0), .int (nI 0), .null, .int (nI 0), .int (nI 0), .null, .null]))]) (fun A => q_Board_init G ty hB wi le sp al wd sA nY A) R_Board (by decide) rfl rfl (Nat.le_of_ble_eq_true rfl) ?_
  intro p e s m below meth c ls A hx hb hr hml hown hts hlocks hin hA hP hX hD hS hl
  have hK := hX.1
  have hl : lv_has ls 4 [(0, .ref hB), (1, .int (nI wi)), (2, .int (nI le)), (3, .int (nI sp))] := hl
  have hd1 := Nat.div_le_self wi sp
  have hd2 := Nat.div_le_self le sp
  have hsA : sA ≤ 1000 := by rw [gA]; exact sp_le (by omega)
  have hnY : nY ≤ 1000 := by rw [gY]; exact sp_le (by omega)
  refine lv_aload_n hx hb d_Board_init_0 rfl (lv_at hl 0 rfl) ?_
  refine W.objInit hx hb hown (hts _ lo_Board_3) (hts _ im_obj) (hts _ cd_obj) rfl (by rw [hml]; exact hl.1) rfl d_Board_init_1 (Nat.le_of_ble_eq_true rfl) (Nat.le_of_ble_eq_true rfl) ?_
  refine lv_aload_n hx hb d_Board_init_4 rfl (lv_at hl 0 rfl) ?_
  refine lv_bipush (v := (nI 20)) hx hb d_Board_init_5 (by decide) ?_
  refine n_newq (C := R_Fault) hx hb hown (hts _ cl_Board_9) hX.2.2.1.1 hX 3 rfl hP hD hS hA (by omega) (show 0 + 1 ≤ 3 by omega) (show 0 + 20 ≤ 20 + sA + nY by omega) d_Board_init_7 (fun aF H hP hD hS => ?_)
  have hP : va_P G vwCl [(hB, .inr (0, [.int (nI 0), .int (nI 0), .int (nI 0), .null, .int (nI 0), .int (nI 0), .null, .null])), (aF, .inl (ty 3, 20, .inr (.inr (.inr (.inr (fun _ => none))))))] _ := hP
  have hD : va_D A [(hB, .inr (0, [.int (nI 0), .int (nI 0), .int (nI 0), .null, .int (nI 0), .int (nI 0), .null, .null])), (aF, .inl (ty 3, 20, .inr (.inr (.inr (.inr (fun _ => none))))))] := hD
  refine va_putF (D := G) (ci := 0) (v := .ref aF) (ty := .array (.object "FaultRips$Fault")) (C := R_Board) (T := F_Board) (N := 8) hx hb hts in_Board t_Board t_Board_ok n_Board hown hK hP hD hS 0 rfl rfl 3 (by decide) (hts _ fl_Board_11) (fun _ h9 => h9) rfl hin rfl (by decide +kernel) rfl rfl (Nat.le_of_ble_eq_true rfl) d_Board_init_10 (fun H locs hP hD hS => ?_)
  have hP : va_P G vwCl [(hB, .inr (0, [.int (nI 0), .int (nI 0), .int (nI 0), .ref aF, .int (nI 0), .int (nI 0), .null, .null])), (aF, .inl (ty 3, 20, .inr (.inr (.inr (.inr (fun _ => none))))))] _ := hP
  have hD : va_D A [(hB, .inr (0, [.int (nI 0), .int (nI 0), .int (nI 0), .ref aF, .int (nI 0), .int (nI 0), .null, .null])), (aF, .inl (ty 3, 20, .inr (.inr (.inr (.inr (fun _ => none))))))] := hD
  refine lv_aload_n hx hb d_Board_init_13 rfl (lv_at hl 0 rfl) ?_
  refine lv_iconst (v := (nI 0)) hx hb d_Board_init_14 (by decide) ?_
  refine va_put (D := G) (ci := 0) (v := .int (nI 0)) (ty := .int) (C := R_Board) (T := F_Board) (N := 8) hx hb hts in_Board t_Board t_Board_ok n_Board hown hK hP hD hS 0 rfl rfl 4 (by decide) (hts _ fl_Board_17) (fun _ h9 => h9) rfl (by decide +kernel) rfl rfl (Nat.le_of_ble_eq_true rfl) d_Board_init_15 (fun H locs hP hD hS => ?_)
  have hP : va_P G vwCl [(hB, .inr (0, [.int (nI 0), .int (nI 0), .int (nI 0), .ref aF, .int (nI 0), .int (nI 0), .null, .null])), (aF, .inl (ty 3, 20, .inr (.inr (.inr (.inr (fun _ => none))))))] _ := hP
  have hD : va_D A [(hB, .inr (0, [.int (nI 0), .int (nI 0), .int (nI 0), .ref aF, .int (nI 0), .int (nI 0), .null, .null])), (aF, .inl (ty 3, 20, .inr (.inr (.inr (.inr (fun _ => none))))))] := hD
  refine lv_aload_n hx hb d_Board_init_18 rfl (lv_at hl 0 rfl) ?_
  refine lv_iconst (v := (nI 0)) hx hb d_Board_init_19 (by decide) ?_
  refine va_put (D := G) (ci := 0) (v := .int (nI 0)) (ty := .int) (C := R_Board) (T := F_Board) (N := 8) hx hb hts in_Board t_Board t_Board_ok n_Board hown hK hP hD hS 0 rfl rfl 5 (by decide) (hts _ fl_Board_21) (fun _ h9 => h9) rfl (by decide +kernel) rfl rfl (Nat.le_of_ble_eq_true rfl) d_Board_init_20 (fun H locs hP hD hS => ?_)
  have hP : va_P G vwCl [(hB, .inr (0, [.int (nI 0), .int (nI 0), .int (nI 0), .ref aF, .int (nI 0), .int (nI 0), .null, .null])), (aF, .inl (ty 3, 20, .inr (.inr (.inr (.inr (fun _ => none))))))] _ := hP
  have hD : va_D A [(hB, .inr (0, [.int (nI 0), .int (nI 0), .int (nI 0), .ref aF, .int (nI 0), .int (nI 0), .null, .null])), (aF, .inl (ty 3, 20, .inr (.inr (.inr (.inr (fun _ => none))))))] := hD
  refine lv_aload_n hx hb d_Board_init_23 rfl (lv_at hl 0 rfl) ?_
  refine lv_iconst (v := (nI 1)) hx hb d_Board_init_24 (by decide) ?_
  refine top_i (show (nI 1) = (iI 1) from rfl) ?_
  refine lv_iload_n hx hb d_Board_init_25 rfl (lv_at hl 3 rfl) ?_
  refine top_i (show (nI sp) = (iI ((sp : Nat) : Int)) from nI_iI _) ?_
  refine z_mmax hx hb hml hl.1 hown hts lm_Board_24 ⟨Nat.le_of_ble_eq_true rfl, Nat.le_of_ble_eq_true rfl⟩ (Nat.le_of_ble_eq_true rfl) ⟨show (0 + 1) ≤ 3 by omega, show (0 + 20) ≤ 20 + sA + nY by omega⟩ (by omega) (by omega) d_Board_init_26 ?_
  refine top_i (show (iI (max 1 ((sp : Nat) : Int))) = (nI sp) from by rw [nI_iI]; exact congrArg iI (by omega)) ?_
  refine va_putF (D := G) (ci := 0) (v := .int (nI sp)) (ty := .int) (C := R_Board) (T := F_Board) (N := 8) hx hb hts in_Board t_Board t_Board_ok n_Board hown hK hP hD hS 0 rfl rfl 0 (by decide) (hts _ fl_Board_30) (fun _ h9 => h9) rfl hin rfl (by decide +kernel) rfl rfl (Nat.le_of_ble_eq_true rfl) d_Board_init_29 (fun H locs hP hD hS => ?_)
  have hP : va_P G vwCl [(hB, .inr (0, [.int (nI sp), .int (nI 0), .int (nI 0), .ref aF, .int (nI 0), .int (nI 0), .null, .null])), (aF, .inl (ty 3, 20, .inr (.inr (.inr (.inr (fun _ => none))))))] _ := hP
  have hD : va_D A [(hB, .inr (0, [.int (nI sp), .int (nI 0), .int (nI 0), .ref aF, .int (nI 0), .int (nI 0), .null, .null])), (aF, .inl (ty 3, 20, .inr (.inr (.inr (.inr (fun _ => none))))))] := hD
  refine lv_aload_n hx hb d_Board_init_32 rfl (lv_at hl 0 rfl) ?_
  refine lv_bipush (v := (nI 10)) hx hb d_Board_init_33 (by decide) ?_
  refine lv_iload_n hx hb d_Board_init_35 rfl (lv_at hl 1 rfl) ?_
  refine lv_aload_n hx hb d_Board_init_36 rfl (lv_at hl 0 rfl) ?_
  refine va_get (D := G) (ci := 0) (v := .int (nI sp)) (C := R_Board) (T := F_Board) (N := 8) hx hb hts in_Board hown hK hP 0 rfl rfl 0 (by decide) (hts _ fl_Board_30) (fun _ h9 => h9) rfl d_Board_init_37 ?_
  refine n_idiv hx hb (by omega) (by omega) (by omega) d_Board_init_40 ?_
  refine n_mmin hx hb hml hl.1 hown hts lm_Board_33 ⟨Nat.le_of_ble_eq_true rfl, Nat.le_of_ble_eq_true rfl⟩ (Nat.le_of_ble_eq_true rfl) ⟨show (0 + 1) ≤ 3 by omega, show (0 + 20) ≤ 20 + sA + nY by omega⟩ (by omega) (by omega) d_Board_init_41 ?_
  refine top_i (show (nI (min 10 (wi / sp))) = (nI wd) from congrArg nI gw.symm) ?_
  refine va_putF (D := G) (ci := 0) (v := .int (nI wd)) (ty := .int) (C := R_Board) (T := F_Board) (N := 8) hx hb hts in_Board t_Board t_Board_ok n_Board hown hK hP hD hS 0 rfl rfl 1 (by decide) (hts _ fl_Board_36) (fun _ h9 => h9) rfl hin rfl (by decide +kernel) rfl rfl (Nat.le_of_ble_eq_true rfl) d_Board_init_44 (fun H locs hP hD hS => ?_)
  have hP : va_P G vwCl [(hB, .inr (0, [.int (nI sp), .int (nI wd), .int (nI 0), .ref aF, .int (nI 0), .int (nI 0), .null, .null])), (aF, .inl (ty 3, 20, .inr (.inr (.inr (.inr (fun _ => none))))))] _ := hP
  have hD : va_D A [(hB, .inr (0, [.int (nI sp), .int (nI wd), .int (nI 0), .ref aF, .int (nI 0), .int (nI 0), .null, .null])), (aF, .inl (ty 3, 20, .inr (.inr (.inr (.inr (fun _ => none))))))] := hD
  refine lv_aload_n hx hb d_Board_init_47 rfl (lv_at hl 0 rfl) ?_
  refine lv_bipush (v := (nI 24)) hx hb d_Board_init_48 (by decide) ?_
  refine lv_iload_n hx hb d_Board_init_50 rfl (lv_at hl 2 rfl) ?_
  refine lv_aload_n hx hb d_Board_init_51 rfl (lv_at hl 0 rfl) ?_
  refine va_get (D := G) (ci := 0) (v := .int (nI sp)) (C := R_Board) (T := F_Board) (N := 8) hx hb hts in_Board hown hK hP 0 rfl rfl 0 (by decide) (hts _ fl_Board_30) (fun _ h9 => h9) rfl d_Board_init_52 ?_
  refine n_idiv hx hb (by omega) (by omega) (by omega) d_Board_init_55 ?_
  refine n_mmin hx hb hml hl.1 hown hts lm_Board_33 ⟨Nat.le_of_ble_eq_true rfl, Nat.le_of_ble_eq_true rfl⟩ (Nat.le_of_ble_eq_true rfl) ⟨show (0 + 1) ≤ 3 by omega, show (0 + 20) ≤ 20 + sA + nY by omega⟩ (by omega) (by omega) d_Board_init_56 ?_
  refine top_i (show (nI (min 24 (le / sp))) = (nI al) from congrArg nI ga.symm) ?_
  refine va_putF (D := G) (ci := 0) (v := .int (nI al)) (ty := .int) (C := R_Board) (T := F_Board) (N := 8) hx hb hts in_Board t_Board t_Board_ok n_Board hown hK hP hD hS 0 rfl rfl 2 (by decide) (hts _ fl_Board_39) (fun _ h9 => h9) rfl hin rfl (by decide +kernel) rfl rfl (Nat.le_of_ble_eq_true rfl) d_Board_init_59 (fun H locs hP hD hS => ?_)
  have hP : va_P G vwCl [(hB, .inr (0, [.int (nI sp), .int (nI wd), .int (nI al), .ref aF, .int (nI 0), .int (nI 0), .null, .null])), (aF, .inl (ty 3, 20, .inr (.inr (.inr (.inr (fun _ => none))))))] _ := hP
  have hD : va_D A [(hB, .inr (0, [.int (nI sp), .int (nI wd), .int (nI al), .ref aF, .int (nI 0), .int (nI 0), .null, .null])), (aF, .inl (ty 3, 20, .inr (.inr (.inr (.inr (fun _ => none))))))] := hD
  refine lv_aload_n hx hb d_Board_init_62 rfl (lv_at hl 0 rfl) ?_
  refine lv_aload_n hx hb d_Board_init_63 rfl (lv_at hl 0 rfl) ?_
  refine va_get (D := G) (ci := 0) (v := .int (nI al)) (C := R_Board) (T := F_Board) (N := 8) hx hb hts in_Board hown hK hP 0 rfl rfl 2 (by decide) (hts _ fl_Board_39) (fun _ h9 => h9) rfl d_Board_init_64 ?_
  refine nest_Rips_spansOf (G := G) (ty := ty) hx hb hml hown hts hX nst_Board_42 hl.1 (by omega) (lv_room (Nat.le_of_ble_eq_true rfl)) ⟨Nat.le_of_ble_eq_true rfl, Nat.le_of_ble_eq_true rfl⟩ ⟨show (0 + 1) + 0 ≤ 3 by omega, show (0 + 20) + 0 ≤ 20 + sA + nY by omega⟩ d_Board_init_67 ?_
  refine top_i (show (nI (al * (al + 1) / 2)) = (nI sA) from congrArg nI gA.symm) ?_
  refine n_newI hx hb hts hX hP hD hS hA (by omega) (show (0 + 1) + 1 ≤ 3 by omega) (show (0 + 20) + sA ≤ 20 + sA + nY by omega) d_Board_init_70 (fun aX H hP hD hS => ?_)
  have hP : va_P G vwCl [(hB, .inr (0, [.int (nI sp), .int (nI wd), .int (nI al), .ref aF, .int (nI 0), .int (nI 0), .null, .null])), (aF, .inl (ty 3, 20, .inr (.inr (.inr (.inr (fun _ => none)))))), (aX, .inl (ty 0, sA, .inl (nF (fun _ => 0))))] _ := hP
  have hD : va_D A [(hB, .inr (0, [.int (nI sp), .int (nI wd), .int (nI al), .ref aF, .int (nI 0), .int (nI 0), .null, .null])), (aF, .inl (ty 3, 20, .inr (.inr (.inr (.inr (fun _ => none)))))), (aX, .inl (ty 0, sA, .inl (nF (fun _ => 0))))] := hD
  refine va_putF (D := G) (ci := 0) (v := .ref aX) (ty := .array .int) (C := R_Board) (T := F_Board) (N := 8) hx hb hts in_Board t_Board t_Board_ok n_Board hown hK hP hD hS 0 rfl rfl 6 (by decide) (hts _ fl_Board_46) (fun _ h9 => h9) rfl hin rfl (by decide +kernel) rfl rfl (Nat.le_of_ble_eq_true rfl) d_Board_init_72 (fun H locs hP hD hS => ?_)
  have hP : va_P G vwCl [(hB, .inr (0, [.int (nI sp), .int (nI wd), .int (nI al), .ref aF, .int (nI 0), .int (nI 0), .ref aX, .null])), (aF, .inl (ty 3, 20, .inr (.inr (.inr (.inr (fun _ => none)))))), (aX, .inl (ty 0, sA, .inl (nF (fun _ => 0))))] _ := hP
  have hD : va_D A [(hB, .inr (0, [.int (nI sp), .int (nI wd), .int (nI al), .ref aF, .int (nI 0), .int (nI 0), .ref aX, .null])), (aF, .inl (ty 3, 20, .inr (.inr (.inr (.inr (fun _ => none)))))), (aX, .inl (ty 0, sA, .inl (nF (fun _ => 0))))] := hD
  refine lv_aload_n hx hb d_Board_init_75 rfl (lv_at hl 0 rfl) ?_
  refine lv_aload_n hx hb d_Board_init_76 rfl (lv_at hl 0 rfl) ?_
  refine va_get (D := G) (ci := 0) (v := .int (nI wd)) (C := R_Board) (T := F_Board) (N := 8) hx hb hts in_Board hown hK hP 0 rfl rfl 1 (by decide) (hts _ fl_Board_36) (fun _ h9 => h9) rfl d_Board_init_77 ?_
  refine nest_Rips_spansOf (G := G) (ty := ty) hx hb hml hown hts hX nst_Board_42 hl.1 (by omega) (lv_room (Nat.le_of_ble_eq_true rfl)) ⟨Nat.le_of_ble_eq_true rfl, Nat.le_of_ble_eq_true rfl⟩ ⟨show (0 + 1 + 1) + 0 ≤ 3 by omega, show (0 + 20 + sA) + 0 ≤ 20 + sA + nY by omega⟩ d_Board_init_80 ?_
  refine top_i (show (nI (wd * (wd + 1) / 2)) = (nI nY) from congrArg nI gY.symm) ?_
  refine n_newI hx hb hts hX hP hD hS hA (by omega) (show (0 + 1 + 1) + 1 ≤ 3 by omega) (show (0 + 20 + sA) + nY ≤ 20 + sA + nY by omega) d_Board_init_83 (fun aY H hP hD hS => ?_)
  have hP : va_P G vwCl [(hB, .inr (0, [.int (nI sp), .int (nI wd), .int (nI al), .ref aF, .int (nI 0), .int (nI 0), .ref aX, .null])), (aF, .inl (ty 3, 20, .inr (.inr (.inr (.inr (fun _ => none)))))), (aX, .inl (ty 0, sA, .inl (nF (fun _ => 0)))), (aY, .inl (ty 0, nY, .inl (nF (fun _ => 0))))] _ := hP
  have hD : va_D A [(hB, .inr (0, [.int (nI sp), .int (nI wd), .int (nI al), .ref aF, .int (nI 0), .int (nI 0), .ref aX, .null])), (aF, .inl (ty 3, 20, .inr (.inr (.inr (.inr (fun _ => none)))))), (aX, .inl (ty 0, sA, .inl (nF (fun _ => 0)))), (aY, .inl (ty 0, nY, .inl (nF (fun _ => 0))))] := hD
  refine va_putF (D := G) (ci := 0) (v := .ref aY) (ty := .array .int) (C := R_Board) (T := F_Board) (N := 8) hx hb hts in_Board t_Board t_Board_ok n_Board hown hK hP hD hS 0 rfl rfl 7 (by decide) (hts _ fl_Board_50) (fun _ h9 => h9) rfl hin rfl (by decide +kernel) rfl rfl (Nat.le_of_ble_eq_true rfl) d_Board_init_85 (fun H locs hP hD hS => ?_)
  have hP : va_P G vwCl [(hB, .inr (0, [.int (nI sp), .int (nI wd), .int (nI al), .ref aF, .int (nI 0), .int (nI 0), .ref aX, .ref aY])), (aF, .inl (ty 3, 20, .inr (.inr (.inr (.inr (fun _ => none)))))), (aX, .inl (ty 0, sA, .inl (nF (fun _ => 0)))), (aY, .inl (ty 0, nY, .inl (nF (fun _ => 0))))] _ := hP
  have hD : va_D A [(hB, .inr (0, [.int (nI sp), .int (nI wd), .int (nI al), .ref aF, .int (nI 0), .int (nI 0), .ref aX, .ref aY])), (aF, .inl (ty 3, 20, .inr (.inr (.inr (.inr (fun _ => none)))))), (aX, .inl (ty 0, sA, .inl (nF (fun _ => 0)))), (aY, .inl (ty 0, nY, .inl (nF (fun _ => 0))))] := hD
  refine W.widen (k := 3) (n := 20 + sA + nY) (by omega) (by omega) ?_
  exact W.vret hx hb hr (fun t9 ht hW => ⟨⟨(aF, aX, aY), rfl, trivial, by rw [ht]; exact hP, hD⟩, hS.F ht⟩) hS.2.2 d_Board_init_88

abbrev q_Sorts_init (G : va_G) (ty : Nat → ClassId) (hT : Nat) (hB : Nat) (A : Nat → Prop) : Array Value → State → Outcome → State → Prop := va_Qv (fun (uu : Nat) => True) (at_W G (fun (uu : Nat) => [(hT, .inr (8, [.ref uu, .int (nI 0), .int (nI 16777216), .ref hB])), (uu, .inl (ty 4, 8, .inr (.inr (.inr (.inr (fun _ => none))))))]) A) A
set_option maxRecDepth 100000 in
set_option maxHeartbeats 4000000 in
theorem c_Sorts_init (l : Launch) (G : va_G) (ty : Nat → ClassId) (sz : Nat) (hT : Nat) (hB : Nat) : Met l y_Sorts_init ws_Sorts_init { frames := 1, cells := 1, slots := 8, locals := 40 } (va_Pc [.ref hT, .ref hB] (fun U => U.heap.size = sz ∧ va_P G vwCl [(hT, .inr (8, [.null, .int (nI 0), .int (nI 0), .null]))] U.heap ∧ KX G ty U ∧ va_D (fun _ => True) [(hT, .inr (8, [.null, .int (nI 0), .int (nI 0), .null]))])) (q_Sorts_init G ty hT hB (va_A [(hT, .inr (8, [.null, .int (nI 0), .int (nI 0), .null]))] sz)) 1 8 (va_A [(hT, .inr (8, [.null, .int (nI 0), .int (nI 0), .null]))] sz) := by
  refine met_wr (y := y_Sorts_init) (maxL := 2) (sz := sz) (G := G) (ty := ty) (mc := 1) (ms := 8) (av := [.ref hT, .ref hB]) (W0 := [(hT, .inr (8, [.null, .int (nI 0), .int (nI 0), .null]))]) (fun A => q_Sorts_init G ty hT hB A) R_Sorts (by decide) rfl rfl (Nat.le_of_ble_eq_true rfl) ?_
  intro p e s m below meth c ls A hx hb hr hml hown hts hlocks hin hA hP hX hD hS hl
  have hK := hX.1
  have hl : lv_has ls 2 [(0, .ref hT), (1, .ref hB)] := hl
  refine lv_aload_n hx hb d_Sorts_init_0 rfl (lv_at hl 0 rfl) ?_
  refine W.objInit hx hb hown (hts _ lo_Sorts_3) (hts _ im_obj) (hts _ cd_obj) rfl (by rw [hml]; exact hl.1) rfl d_Sorts_init_1 (Nat.le_of_ble_eq_true rfl) (Nat.le_of_ble_eq_true rfl) ?_
  refine lv_aload_n hx hb d_Sorts_init_4 rfl (lv_at hl 0 rfl) ?_
  refine lv_bipush (v := (nI 8)) hx hb d_Sorts_init_5 (by decide) ?_
  refine n_newq (C := R_Sort) hx hb hown (hts _ cl_Sorts_9) hX.2.2.1.2.1 hX 4 rfl hP hD hS hA (by omega) (show 0 + 1 ≤ 1 by omega) (show 0 + 8 ≤ 8 by omega) d_Sorts_init_7 (fun aT H hP hD hS => ?_)
  have hP : va_P G vwCl [(hT, .inr (8, [.null, .int (nI 0), .int (nI 0), .null])), (aT, .inl (ty 4, 8, .inr (.inr (.inr (.inr (fun _ => none))))))] _ := hP
  have hD : va_D A [(hT, .inr (8, [.null, .int (nI 0), .int (nI 0), .null])), (aT, .inl (ty 4, 8, .inr (.inr (.inr (.inr (fun _ => none))))))] := hD
  refine va_putF (D := G) (ci := 8) (v := .ref aT) (ty := .array (.object "FaultRips$Sort")) (C := R_Sorts) (T := F_Sorts) (N := 4) hx hb hts in_Sorts t_Sorts t_Sorts_ok n_Sorts hown hK hP hD hS 0 rfl rfl 0 (by decide) (hts _ fl_Sorts_11) (fun _ h9 => h9) rfl hin rfl (by decide +kernel) rfl rfl (Nat.le_of_ble_eq_true rfl) d_Sorts_init_10 (fun H locs hP hD hS => ?_)
  have hP : va_P G vwCl [(hT, .inr (8, [.ref aT, .int (nI 0), .int (nI 0), .null])), (aT, .inl (ty 4, 8, .inr (.inr (.inr (.inr (fun _ => none))))))] _ := hP
  have hD : va_D A [(hT, .inr (8, [.ref aT, .int (nI 0), .int (nI 0), .null])), (aT, .inl (ty 4, 8, .inr (.inr (.inr (.inr (fun _ => none))))))] := hD
  refine lv_aload_n hx hb d_Sorts_init_13 rfl (lv_at hl 0 rfl) ?_
  refine lv_iconst (v := (nI 0)) hx hb d_Sorts_init_14 (by decide) ?_
  refine va_put (D := G) (ci := 8) (v := .int (nI 0)) (ty := .int) (C := R_Sorts) (T := F_Sorts) (N := 4) hx hb hts in_Sorts t_Sorts t_Sorts_ok n_Sorts hown hK hP hD hS 0 rfl rfl 1 (by decide) (hts _ fl_Sorts_17) (fun _ h9 => h9) rfl (by decide +kernel) rfl rfl (Nat.le_of_ble_eq_true rfl) d_Sorts_init_15 (fun H locs hP hD hS => ?_)
  have hP : va_P G vwCl [(hT, .inr (8, [.ref aT, .int (nI 0), .int (nI 0), .null])), (aT, .inl (ty 4, 8, .inr (.inr (.inr (.inr (fun _ => none))))))] _ := hP
  have hD : va_D A [(hT, .inr (8, [.ref aT, .int (nI 0), .int (nI 0), .null])), (aT, .inl (ty 4, 8, .inr (.inr (.inr (.inr (fun _ => none))))))] := hD
  refine lv_aload_n hx hb d_Sorts_init_18 rfl (lv_at hl 0 rfl) ?_
  refine lv_ldc (v := (nI 16777216)) hx hb hown (hts _ kc_Sorts_21) d_Sorts_init_19 ?_
  refine va_put (D := G) (ci := 8) (v := .int (nI 16777216)) (ty := .int) (C := R_Sorts) (T := F_Sorts) (N := 4) hx hb hts in_Sorts t_Sorts t_Sorts_ok n_Sorts hown hK hP hD hS 0 rfl rfl 2 (by decide) (hts _ fl_Sorts_22) (fun _ h9 => h9) rfl (by decide +kernel) rfl rfl (Nat.le_of_ble_eq_true rfl) d_Sorts_init_21 (fun H locs hP hD hS => ?_)
  have hP : va_P G vwCl [(hT, .inr (8, [.ref aT, .int (nI 0), .int (nI 16777216), .null])), (aT, .inl (ty 4, 8, .inr (.inr (.inr (.inr (fun _ => none))))))] _ := hP
  have hD : va_D A [(hT, .inr (8, [.ref aT, .int (nI 0), .int (nI 16777216), .null])), (aT, .inl (ty 4, 8, .inr (.inr (.inr (.inr (fun _ => none))))))] := hD
  refine lv_aload_n hx hb d_Sorts_init_24 rfl (lv_at hl 0 rfl) ?_
  refine lv_aload_n hx hb d_Sorts_init_25 rfl (lv_at hl 1 rfl) ?_
  refine va_putF (D := G) (ci := 8) (v := .ref hB) (ty := .object "FaultRips$Board") (C := R_Sorts) (T := F_Sorts) (N := 4) hx hb hts in_Sorts t_Sorts t_Sorts_ok n_Sorts hown hK hP hD hS 0 rfl rfl 3 (by decide) (hts _ fl_Sorts_25) (fun _ h9 => h9) rfl hin rfl (by decide +kernel) rfl rfl (Nat.le_of_ble_eq_true rfl) d_Sorts_init_26 (fun H locs hP hD hS => ?_)
  have hP : va_P G vwCl [(hT, .inr (8, [.ref aT, .int (nI 0), .int (nI 16777216), .ref hB])), (aT, .inl (ty 4, 8, .inr (.inr (.inr (.inr (fun _ => none))))))] _ := hP
  have hD : va_D A [(hT, .inr (8, [.ref aT, .int (nI 0), .int (nI 16777216), .ref hB])), (aT, .inl (ty 4, 8, .inr (.inr (.inr (.inr (fun _ => none))))))] := hD
  refine W.widen (k := 1) (n := 8) (by omega) (by omega) ?_
  exact W.vret hx hb hr (fun t9 ht hW => ⟨⟨aT, rfl, trivial, by rw [ht]; exact hP, hD⟩, hS.F ht⟩) hS.2.2 d_Sorts_init_29

abbrev q_Gang_init (G : va_G) (ty : Nat → ClassId) (hG : Nat) (A : Nat → Prop) : Array Value → State → Outcome → State → Prop := va_Qv (fun (uu : Nat) => True) (at_W G (fun (uu : Nat) => [(hG, .inr (3, [.ref uu, .int (nI 0)])), (uu, .inl (ty 1, 1025, .inr (.inl (lF (fun _ => 0)))))]) A) A
set_option maxRecDepth 100000 in
set_option maxHeartbeats 4000000 in
theorem c_Gang_init (l : Launch) (G : va_G) (ty : Nat → ClassId) (sz : Nat) (hG : Nat) : Met l y_Gang_init ws_Gang_init { frames := 1, cells := 1, slots := 1025, locals := 40 } (va_Pc [.ref hG] (fun U => U.heap.size = sz ∧ va_P G vwCl [(hG, .inr (3, [.null, .int (nI 0)]))] U.heap ∧ KX G ty U ∧ va_D (fun _ => True) [(hG, .inr (3, [.null, .int (nI 0)]))])) (q_Gang_init G ty hG (va_A [(hG, .inr (3, [.null, .int (nI 0)]))] sz)) 1 1025 (va_A [(hG, .inr (3, [.null, .int (nI 0)]))] sz) := by
  refine met_wr (y := y_Gang_init) (maxL := 1) (sz := sz) (G := G) (ty := ty) (mc := 1) (ms := 1025) (av := [.ref hG]) (W0 := [(hG, .inr (3, [.null, .int (nI 0)]))]) (fun A => q_Gang_init G ty hG A) R_Gang (by decide) rfl rfl (Nat.le_of_ble_eq_true rfl) ?_
  intro p e s m below meth c ls A hx hb hr hml hown hts hlocks hin hA hP hX hD hS hl
  have hK := hX.1
  have hl : lv_has ls 1 [(0, .ref hG)] := hl
  refine lv_aload_n hx hb d_Gang_init_0 rfl (lv_at hl 0 rfl) ?_
  refine W.objInit hx hb hown (hts _ lo_Gang_3) (hts _ im_obj) (hts _ cd_obj) rfl (by rw [hml]; exact hl.1) rfl d_Gang_init_1 (Nat.le_of_ble_eq_true rfl) (Nat.le_of_ble_eq_true rfl) ?_
  refine lv_aload_n hx hb d_Gang_init_4 rfl (lv_at hl 0 rfl) ?_
  refine lv_sipush (v := (nI 1025)) hx hb d_Gang_init_5 (by decide) ?_
  refine n_newJ hx hb hts hX hP hD hS hA (by omega) (show 0 + 1 ≤ 1 by omega) (show 0 + 1025 ≤ 1025 by omega) d_Gang_init_8 (fun aG H hP hD hS => ?_)
  have hP : va_P G vwCl [(hG, .inr (3, [.null, .int (nI 0)])), (aG, .inl (ty 1, 1025, .inr (.inl (lF (fun _ => 0)))))] _ := hP
  have hD : va_D A [(hG, .inr (3, [.null, .int (nI 0)])), (aG, .inl (ty 1, 1025, .inr (.inl (lF (fun _ => 0)))))] := hD
  refine va_putF (D := G) (ci := 3) (v := .ref aG) (ty := .array .long) (C := R_Gang) (T := F_Gang) (N := 2) hx hb hts in_Gang t_Gang t_Gang_ok n_Gang hown hK hP hD hS 0 rfl rfl 0 (by decide) (hts _ fl_Gang_11) (fun _ h9 => h9) rfl hin rfl (by decide +kernel) rfl rfl (Nat.le_of_ble_eq_true rfl) d_Gang_init_10 (fun H locs hP hD hS => ?_)
  have hP : va_P G vwCl [(hG, .inr (3, [.ref aG, .int (nI 0)])), (aG, .inl (ty 1, 1025, .inr (.inl (lF (fun _ => 0)))))] _ := hP
  have hD : va_D A [(hG, .inr (3, [.ref aG, .int (nI 0)])), (aG, .inl (ty 1, 1025, .inr (.inl (lF (fun _ => 0)))))] := hD
  refine lv_aload_n hx hb d_Gang_init_13 rfl (lv_at hl 0 rfl) ?_
  refine lv_iconst (v := (nI 0)) hx hb d_Gang_init_14 (by decide) ?_
  refine va_put (D := G) (ci := 3) (v := .int (nI 0)) (ty := .boolean) (C := R_Gang) (T := F_Gang) (N := 2) hx hb hts in_Gang t_Gang t_Gang_ok n_Gang hown hK hP hD hS 0 rfl rfl 1 (by decide) (hts _ fl_Gang_15) (fun _ h9 => h9) rfl (by decide +kernel) nar_b0 fit_b0 (Nat.le_of_ble_eq_true rfl) d_Gang_init_15 (fun H locs hP hD hS => ?_)
  have hP : va_P G vwCl [(hG, .inr (3, [.ref aG, .int (nI 0)])), (aG, .inl (ty 1, 1025, .inr (.inl (lF (fun _ => 0)))))] _ := hP
  have hD : va_D A [(hG, .inr (3, [.ref aG, .int (nI 0)])), (aG, .inl (ty 1, 1025, .inr (.inl (lF (fun _ => 0)))))] := hD
  refine W.widen (k := 1) (n := 1025) (by omega) (by omega) ?_
  exact W.vret hx hb hr (fun t9 ht hW => ⟨⟨aG, rfl, trivial, by rw [ht]; exact hP, hD⟩, hS.F ht⟩) hS.2.2 d_Gang_init_18

abbrev q_Plan_init (G : va_G) (ty : Nat → ClassId) (hQ : Nat) (rm : Nat) (A : Nat → Prop) : Array Value → State → Outcome → State → Prop := va_Qv (fun (uu : Nat × Nat × (Nat → Nat)) => True) (at_W G (fun (uu : Nat × Nat × (Nat → Nat)) => [(hQ, .inr (6, [.ref uu.1, .ref uu.2.1, .int (nI 0), .long (iL 0), .int (nI rm)])), (uu.2.1, .inl (ty 0, 8, .inl (nF (fun _ => 0)))), (uu.1, .inl (ty 5, 6, .inr (.inr (.inr (.inr (rf 6 uu.2.2)))))), (uu.2.2 0, .inl (ty 0, rm, .inl (nF (fun _ => 0)))), (uu.2.2 1, .inl (ty 0, rm, .inl (nF (fun _ => 0)))), (uu.2.2 2, .inl (ty 0, rm, .inl (nF (fun _ => 0)))), (uu.2.2 3, .inl (ty 0, rm, .inl (nF (fun _ => 0)))), (uu.2.2 4, .inl (ty 0, rm, .inl (nF (fun _ => 0)))), (uu.2.2 5, .inl (ty 0, rm, .inl (nF (fun _ => 0))))]) A) A
set_option maxRecDepth 100000 in
set_option maxHeartbeats 4000000 in
theorem c_Plan_init (l : Launch) (G : va_G) (ty : Nat → ClassId) (sz : Nat) (hQ : Nat) (rm : Nat) (g1 : rm ≤ 240) : Met l y_Plan_init ws_Plan_init { frames := 1, cells := 1 + (1 + 6), slots := 8 + (6 + 6 * rm), locals := 40 } (va_Pc [.ref hQ, .int (nI rm)] (fun U => U.heap.size = sz ∧ va_P G vwCl [(hQ, .inr (6, [.null, .null, .int (nI 0), .long (iL 0), .int (nI 0)]))] U.heap ∧ KX G ty U ∧ va_D (fun _ => True) [(hQ, .inr (6, [.null, .null, .int (nI 0), .long (iL 0), .int (nI 0)]))])) (q_Plan_init G ty hQ rm (va_A [(hQ, .inr (6, [.null, .null, .int (nI 0), .long (iL 0), .int (nI 0)]))] sz)) (1 + (1 + 6)) (8 + (6 + 6 * rm)) (va_A [(hQ, .inr (6, [.null, .null, .int (nI 0), .long (iL 0), .int (nI 0)]))] sz) := by
  refine met_wr (y := y_Plan_init) (maxL := 2) (sz := sz) (G := G) (ty := ty) (mc := 1 + (1 + 6)) (ms := 8 + (6 + 6 * rm)) (av := [.ref hQ, .int (nI rm)]) (W0 := [(hQ, .inr (6, [.null, .null, .int (nI 0), .long (iL 0), .int (nI 0)]))]) (fun A => q_Plan_init G ty hQ rm A) R_Plan (by decide) rfl rfl (Nat.le_of_ble_eq_true rfl) ?_
  intro p e s m below meth c ls A hx hb hr hml hown hts hlocks hin hA hP hX hD hS hl
  have hK := hX.1
  have hl : lv_has ls 2 [(0, .ref hQ), (1, .int (nI rm))] := hl
  refine lv_aload_n hx hb d_Plan_init_0 rfl (lv_at hl 0 rfl) ?_
  refine W.objInit hx hb hown (hts _ lo_Plan_3) (hts _ im_obj) (hts _ cd_obj) rfl (by rw [hml]; exact hl.1) rfl d_Plan_init_1 (Nat.le_of_ble_eq_true rfl) (Nat.le_of_ble_eq_true rfl) ?_
  refine lv_aload_n hx hb d_Plan_init_4 rfl (lv_at hl 0 rfl) ?_
  refine lv_bipush (v := (nI 8)) hx hb d_Plan_init_5 (by decide) ?_
  refine n_newI hx hb hts hX hP hD hS hA (by omega) (show 0 + 1 ≤ 1 + (1 + 6) by omega) (show 0 + 8 ≤ 8 + (6 + 6 * rm) by omega) d_Plan_init_7 (fun aC H hP hD hS => ?_)
  have hP : va_P G vwCl [(hQ, .inr (6, [.null, .null, .int (nI 0), .long (iL 0), .int (nI 0)])), (aC, .inl (ty 0, 8, .inl (nF (fun _ => 0))))] _ := hP
  have hD : va_D A [(hQ, .inr (6, [.null, .null, .int (nI 0), .long (iL 0), .int (nI 0)])), (aC, .inl (ty 0, 8, .inl (nF (fun _ => 0))))] := hD
  refine va_putF (D := G) (ci := 6) (v := .ref aC) (ty := .array .int) (C := R_Plan) (T := F_Plan) (N := 5) hx hb hts in_Plan t_Plan t_Plan_ok n_Plan hown hK hP hD hS 0 rfl rfl 1 (by decide) (hts _ fl_Plan_9) (fun _ h9 => h9) rfl hin rfl (by decide +kernel) rfl rfl (Nat.le_of_ble_eq_true rfl) d_Plan_init_9 (fun H locs hP hD hS => ?_)
  have hP : va_P G vwCl [(hQ, .inr (6, [.null, .ref aC, .int (nI 0), .long (iL 0), .int (nI 0)])), (aC, .inl (ty 0, 8, .inl (nF (fun _ => 0))))] _ := hP
  have hD : va_D A [(hQ, .inr (6, [.null, .ref aC, .int (nI 0), .long (iL 0), .int (nI 0)])), (aC, .inl (ty 0, 8, .inl (nF (fun _ => 0))))] := hD
  refine lv_aload_n hx hb d_Plan_init_12 rfl (lv_at hl 0 rfl) ?_
  refine lv_iconst (v := (nI 0)) hx hb d_Plan_init_13 (by decide) ?_
  refine va_put (D := G) (ci := 6) (v := .int (nI 0)) (ty := .int) (C := R_Plan) (T := F_Plan) (N := 5) hx hb hts in_Plan t_Plan t_Plan_ok n_Plan hown hK hP hD hS 0 rfl rfl 2 (by decide) (hts _ fl_Plan_15) (fun _ h9 => h9) rfl (by decide +kernel) rfl rfl (Nat.le_of_ble_eq_true rfl) d_Plan_init_14 (fun H locs hP hD hS => ?_)
  have hP : va_P G vwCl [(hQ, .inr (6, [.null, .ref aC, .int (nI 0), .long (iL 0), .int (nI 0)])), (aC, .inl (ty 0, 8, .inl (nF (fun _ => 0))))] _ := hP
  have hD : va_D A [(hQ, .inr (6, [.null, .ref aC, .int (nI 0), .long (iL 0), .int (nI 0)])), (aC, .inl (ty 0, 8, .inl (nF (fun _ => 0))))] := hD
  refine lv_aload_n hx hb d_Plan_init_17 rfl (lv_at hl 0 rfl) ?_
  refine lv_lconst (v := iL 0) hx hb d_Plan_init_18 (by decide) ?_
  refine va_put (D := G) (ci := 6) (v := .long (iL 0)) (ty := .long) (C := R_Plan) (T := F_Plan) (N := 5) hx hb hts in_Plan t_Plan t_Plan_ok n_Plan hown hK hP hD hS 0 rfl rfl 3 (by decide) (hts _ fl_Plan_19) (fun _ h9 => h9) rfl (by decide +kernel) rfl rfl (Nat.le_of_ble_eq_true rfl) d_Plan_init_19 (fun H locs hP hD hS => ?_)
  have hP : va_P G vwCl [(hQ, .inr (6, [.null, .ref aC, .int (nI 0), .long (iL 0), .int (nI 0)])), (aC, .inl (ty 0, 8, .inl (nF (fun _ => 0))))] _ := hP
  have hD : va_D A [(hQ, .inr (6, [.null, .ref aC, .int (nI 0), .long (iL 0), .int (nI 0)])), (aC, .inl (ty 0, 8, .inl (nF (fun _ => 0))))] := hD
  refine lv_aload_n hx hb d_Plan_init_22 rfl (lv_at hl 0 rfl) ?_
  refine lv_iload_n hx hb d_Plan_init_23 rfl (lv_at hl 1 rfl) ?_
  refine va_putF (D := G) (ci := 6) (v := .int (nI rm)) (ty := .int) (C := R_Plan) (T := F_Plan) (N := 5) hx hb hts in_Plan t_Plan t_Plan_ok n_Plan hown hK hP hD hS 0 rfl rfl 4 (by decide) (hts _ fl_Plan_23) (fun _ h9 => h9) rfl hin rfl (by decide +kernel) rfl rfl (Nat.le_of_ble_eq_true rfl) d_Plan_init_24 (fun H locs hP hD hS => ?_)
  have hP : va_P G vwCl [(hQ, .inr (6, [.null, .ref aC, .int (nI 0), .long (iL 0), .int (nI rm)])), (aC, .inl (ty 0, 8, .inl (nF (fun _ => 0))))] _ := hP
  have hD : va_D A [(hQ, .inr (6, [.null, .ref aC, .int (nI 0), .long (iL 0), .int (nI rm)])), (aC, .inl (ty 0, 8, .inl (nF (fun _ => 0))))] := hD
  refine lv_aload_n hx hb d_Plan_init_27 rfl (lv_at hl 0 rfl) ?_
  refine lv_bipush (v := (nI 6)) hx hb d_Plan_init_28 (by decide) ?_
  refine lv_iload_n hx hb d_Plan_init_30 rfl (lv_at hl 1 rfl) ?_
  refine n_mna (T := .int) (cO := ty 5) (cy := ty 0) (z := (rm, .inl (nF (fun _ => 0)))) hx hb hown (hts _ cl_Plan_26) hX.2.2.1.2.2.1 (hts _ ac_int) (hX.1.2 0 _ rfl).2 (hX.1.2 5 _ rfl).2 hP hD hS hA (by omega) (by omega) (by show rm * 4 ≤ _; omega) (by decide +kernel) (by decide +kernel) (show (0 + 1) + (1 + 6) ≤ 1 + (1 + 6) by omega) (show (0 + 8) + (6 + 6 * rm) ≤ 8 + (6 + 6 * rm) by omega) (fun c9 => mk_rowI c9 _) d_Plan_init_31 (fun aQ aR H hP hD hS => ?_)
  have hP : va_P G vwCl [(hQ, .inr (6, [.null, .ref aC, .int (nI 0), .long (iL 0), .int (nI rm)])), (aC, .inl (ty 0, 8, .inl (nF (fun _ => 0)))), (aQ, .inl (ty 5, 6, .inr (.inr (.inr (.inr (rf 6 aR)))))), (aR 0, .inl (ty 0, rm, .inl (nF (fun _ => 0)))), (aR 1, .inl (ty 0, rm, .inl (nF (fun _ => 0)))), (aR 2, .inl (ty 0, rm, .inl (nF (fun _ => 0)))), (aR 3, .inl (ty 0, rm, .inl (nF (fun _ => 0)))), (aR 4, .inl (ty 0, rm, .inl (nF (fun _ => 0)))), (aR 5, .inl (ty 0, rm, .inl (nF (fun _ => 0))))] _ := hP
  have hD : va_D A [(hQ, .inr (6, [.null, .ref aC, .int (nI 0), .long (iL 0), .int (nI rm)])), (aC, .inl (ty 0, 8, .inl (nF (fun _ => 0)))), (aQ, .inl (ty 5, 6, .inr (.inr (.inr (.inr (rf 6 aR)))))), (aR 0, .inl (ty 0, rm, .inl (nF (fun _ => 0)))), (aR 1, .inl (ty 0, rm, .inl (nF (fun _ => 0)))), (aR 2, .inl (ty 0, rm, .inl (nF (fun _ => 0)))), (aR 3, .inl (ty 0, rm, .inl (nF (fun _ => 0)))), (aR 4, .inl (ty 0, rm, .inl (nF (fun _ => 0)))), (aR 5, .inl (ty 0, rm, .inl (nF (fun _ => 0))))] := hD
  refine va_putF (D := G) (ci := 6) (v := .ref aQ) (ty := .array (.array .int)) (C := R_Plan) (T := F_Plan) (N := 5) hx hb hts in_Plan t_Plan t_Plan_ok n_Plan hown hK hP hD hS 0 rfl rfl 0 (by decide) (hts _ fl_Plan_28) (fun _ h9 => h9) rfl hin rfl (by decide +kernel) rfl rfl (Nat.le_of_ble_eq_true rfl) d_Plan_init_35 (fun H locs hP hD hS => ?_)
  have hP : va_P G vwCl [(hQ, .inr (6, [.ref aQ, .ref aC, .int (nI 0), .long (iL 0), .int (nI rm)])), (aC, .inl (ty 0, 8, .inl (nF (fun _ => 0)))), (aQ, .inl (ty 5, 6, .inr (.inr (.inr (.inr (rf 6 aR)))))), (aR 0, .inl (ty 0, rm, .inl (nF (fun _ => 0)))), (aR 1, .inl (ty 0, rm, .inl (nF (fun _ => 0)))), (aR 2, .inl (ty 0, rm, .inl (nF (fun _ => 0)))), (aR 3, .inl (ty 0, rm, .inl (nF (fun _ => 0)))), (aR 4, .inl (ty 0, rm, .inl (nF (fun _ => 0)))), (aR 5, .inl (ty 0, rm, .inl (nF (fun _ => 0))))] _ := hP
  have hD : va_D A [(hQ, .inr (6, [.ref aQ, .ref aC, .int (nI 0), .long (iL 0), .int (nI rm)])), (aC, .inl (ty 0, 8, .inl (nF (fun _ => 0)))), (aQ, .inl (ty 5, 6, .inr (.inr (.inr (.inr (rf 6 aR)))))), (aR 0, .inl (ty 0, rm, .inl (nF (fun _ => 0)))), (aR 1, .inl (ty 0, rm, .inl (nF (fun _ => 0)))), (aR 2, .inl (ty 0, rm, .inl (nF (fun _ => 0)))), (aR 3, .inl (ty 0, rm, .inl (nF (fun _ => 0)))), (aR 4, .inl (ty 0, rm, .inl (nF (fun _ => 0)))), (aR 5, .inl (ty 0, rm, .inl (nF (fun _ => 0))))] := hD
  refine W.widen (k := 1 + (1 + 6)) (n := 8 + (6 + 6 * rm)) (by omega) (by omega) ?_
  exact W.vret hx hb hr (fun t9 ht hW => ⟨⟨(aQ, aC, aR), rfl, trivial, by rw [ht]; exact hP, hD⟩, hS.F ht⟩) hS.2.2 d_Plan_init_38

abbrev q_Cutter_init (G : va_G) (ty : Nat → ClassId) (hC : Nat) (hB : Nat) (hT : Nat) (st : Nat) (wd : Nat) (al : Nat) (aF : Nat) (nf : Nat) (mg : Nat) (aX : Nat) (aY : Nat) (sA : Nat) (A : Nat → Prop) : Array Value → State → Outcome → State → Prop := va_Qv (fun (uu : Nat × (Nat → Nat) × Nat) => True) (at_W G (fun (uu : Nat × (Nat → Nat) × Nat) => [(hC, .inr (1, [.ref hB, .ref hT, .int (nI sA), .ref uu.1, .ref uu.2.2, .int (nI 0), .int (nI 0), .int (nI 0)])), (hB, .inr (0, [.int (nI st), .int (nI wd), .int (nI al), .ref aF, .int (nI nf), .int (nI mg), .ref aX, .ref aY])), (uu.1, .inl (ty 6, 4, .inr (.inr (.inr (.inr (rf 4 uu.2.1)))))), (uu.2.1 0, .inl (ty 1, 0, .inr (.inl (lF (fun _ => 0))))), (uu.2.1 1, .inl (ty 1, 0, .inr (.inl (lF (fun _ => 0))))), (uu.2.1 2, .inl (ty 1, 0, .inr (.inl (lF (fun _ => 0))))), (uu.2.1 3, .inl (ty 1, 0, .inr (.inl (lF (fun _ => 0))))), (uu.2.2, .inl (ty 1, 25, .inr (.inl (lF (fun _ => 0)))))]) A) A
set_option maxRecDepth 100000 in
set_option maxHeartbeats 4000000 in
theorem c_Cutter_init (l : Launch) (G : va_G) (ty : Nat → ClassId) (sz : Nat) (hC : Nat) (hB : Nat) (hT : Nat) (st : Nat) (wd : Nat) (al : Nat) (aF : Nat) (nf : Nat) (mg : Nat) (aX : Nat) (aY : Nat) (sA : Nat) (g1 : al ≤ 24) (gA : sA = al * (al + 1) / 2) : Met l y_Cutter_init ws_Cutter_init { frames := 1, cells := (1 + 4) + 1, slots := (4 + 4 * 0) + 25, locals := 40 } (va_Pc [.ref hC, .ref hB, .ref hT] (fun U => U.heap.size = sz ∧ va_P G vwCl [(hC, .inr (1, [.null, .null, .int (nI 0), .null, .null, .int (nI 0), .int (nI 0), .int (nI 0)])), (hB, .inr (0, [.int (nI st), .int (nI wd), .int (nI al), .ref aF, .int (nI nf), .int (nI mg), .ref aX, .ref aY]))] U.heap ∧ KX G ty U ∧ va_D (fun _ => True) [(hC, .inr (1, [.null, .null, .int (nI 0), .null, .null, .int (nI 0), .int (nI 0), .int (nI 0)])), (hB, .inr (0, [.int (nI st), .int (nI wd), .int (nI al), .ref aF, .int (nI nf), .int (nI mg), .ref aX, .ref aY]))])) (q_Cutter_init G ty hC hB hT st wd al aF nf mg aX aY sA (va_A [(hC, .inr (1, [.null, .null, .int (nI 0), .null, .null, .int (nI 0), .int (nI 0), .int (nI 0)])), (hB, .inr (0, [.int (nI st), .int (nI wd), .int (nI al), .ref aF, .int (nI nf), .int (nI mg), .ref aX, .ref aY]))] sz)) ((1 + 4) + 1) ((4 + 4 * 0) + 25) (va_A [(hC, .inr (1, [.null, .null, .int (nI 0), .null, .null, .int (nI 0), .int (nI 0), .int (nI 0)])), (hB, .inr (0, [.int (nI st), .int (nI wd), .int (nI al), .ref aF, .int (nI nf), .int (nI mg), .ref aX, .ref aY]))] sz) := by
  refine met_wr (y := y_Cutter_init) (maxL := 3) (sz := sz) (G := G) (ty := ty) (mc := (1 + 4) + 1) (ms := (4 + 4 * 0) + 25) (av := [.ref hC, .ref hB, .ref hT]) (W0 := [(hC, .inr (1, [.null, .null, .int (nI 0), .null, .null, .int (nI 0), .int (nI 0), .int (nI 0)])), (hB, .inr (0, [.int (nI st), .int (nI wd), .int (nI al), .ref aF, .int (nI nf), .int (nI mg), .ref aX, .ref aY]))]) (fun A => q_Cutter_init G ty hC hB hT st wd al aF nf mg aX aY sA A) R_Cutter (by decide) rfl rfl (Nat.le_of_ble_eq_true rfl) ?_
  intro p e s m below meth c ls A hx hb hr hml hown hts hlocks hin hA hP hX hD hS hl
  have hK := hX.1
  have hl : lv_has ls 3 [(0, .ref hC), (1, .ref hB), (2, .ref hT)] := hl
  refine lv_aload_n hx hb d_Cutter_init_0 rfl (lv_at hl 0 rfl) ?_
  refine W.objInit hx hb hown (hts _ lo_Cutter_3) (hts _ im_obj) (hts _ cd_obj) rfl (by rw [hml]; exact hl.1) rfl d_Cutter_init_1 (Nat.le_of_ble_eq_true rfl) (Nat.le_of_ble_eq_true rfl) ?_
  refine lv_aload_n hx hb d_Cutter_init_4 rfl (lv_at hl 0 rfl) ?_
  refine lv_iconst (v := (nI 4)) hx hb d_Cutter_init_5 (by decide) ?_
  refine lv_iconst (v := (nI 0)) hx hb d_Cutter_init_6 (by decide) ?_
  refine n_mna (T := .long) (cO := ty 6) (cy := ty 1) (z := (0, .inr (.inl (lF (fun _ => 0))))) hx hb hown (hts _ cl_Cutter_9) hX.2.2.1.2.2.2 (hts _ ac_long) (hX.1.2 1 _ rfl).2 (hX.1.2 6 _ rfl).2 hP hD hS hA (by omega) (by omega) (by show 0 * 8 ≤ _; omega) (by decide +kernel) (by decide +kernel) (show 0 + (1 + 4) ≤ (1 + 4) + 1 by omega) (show 0 + (4 + 4 * 0) ≤ (4 + 4 * 0) + 25 by omega) (fun c9 => mk_rowJ c9 _) d_Cutter_init_7 (fun aZ aL H hP hD hS => ?_)
  have hP : va_P G vwCl [(hC, .inr (1, [.null, .null, .int (nI 0), .null, .null, .int (nI 0), .int (nI 0), .int (nI 0)])), (hB, .inr (0, [.int (nI st), .int (nI wd), .int (nI al), .ref aF, .int (nI nf), .int (nI mg), .ref aX, .ref aY])), (aZ, .inl (ty 6, 4, .inr (.inr (.inr (.inr (rf 4 aL)))))), (aL 0, .inl (ty 1, 0, .inr (.inl (lF (fun _ => 0))))), (aL 1, .inl (ty 1, 0, .inr (.inl (lF (fun _ => 0))))), (aL 2, .inl (ty 1, 0, .inr (.inl (lF (fun _ => 0))))), (aL 3, .inl (ty 1, 0, .inr (.inl (lF (fun _ => 0)))))] _ := hP
  have hD : va_D A [(hC, .inr (1, [.null, .null, .int (nI 0), .null, .null, .int (nI 0), .int (nI 0), .int (nI 0)])), (hB, .inr (0, [.int (nI st), .int (nI wd), .int (nI al), .ref aF, .int (nI nf), .int (nI mg), .ref aX, .ref aY])), (aZ, .inl (ty 6, 4, .inr (.inr (.inr (.inr (rf 4 aL)))))), (aL 0, .inl (ty 1, 0, .inr (.inl (lF (fun _ => 0))))), (aL 1, .inl (ty 1, 0, .inr (.inl (lF (fun _ => 0))))), (aL 2, .inl (ty 1, 0, .inr (.inl (lF (fun _ => 0))))), (aL 3, .inl (ty 1, 0, .inr (.inl (lF (fun _ => 0)))))] := hD
  refine va_putF (D := G) (ci := 1) (v := .ref aZ) (ty := .array (.array .long)) (C := R_Cutter) (T := F_Cutter) (N := 8) hx hb hts in_Cutter t_Cutter t_Cutter_ok n_Cutter hown hK hP hD hS 0 rfl rfl 3 (by decide) (hts _ fl_Cutter_11) (fun _ h9 => h9) rfl hin rfl (by decide +kernel) rfl rfl (Nat.le_of_ble_eq_true rfl) d_Cutter_init_11 (fun H locs hP hD hS => ?_)
  have hP : va_P G vwCl [(hC, .inr (1, [.null, .null, .int (nI 0), .ref aZ, .null, .int (nI 0), .int (nI 0), .int (nI 0)])), (hB, .inr (0, [.int (nI st), .int (nI wd), .int (nI al), .ref aF, .int (nI nf), .int (nI mg), .ref aX, .ref aY])), (aZ, .inl (ty 6, 4, .inr (.inr (.inr (.inr (rf 4 aL)))))), (aL 0, .inl (ty 1, 0, .inr (.inl (lF (fun _ => 0))))), (aL 1, .inl (ty 1, 0, .inr (.inl (lF (fun _ => 0))))), (aL 2, .inl (ty 1, 0, .inr (.inl (lF (fun _ => 0))))), (aL 3, .inl (ty 1, 0, .inr (.inl (lF (fun _ => 0)))))] _ := hP
  have hD : va_D A [(hC, .inr (1, [.null, .null, .int (nI 0), .ref aZ, .null, .int (nI 0), .int (nI 0), .int (nI 0)])), (hB, .inr (0, [.int (nI st), .int (nI wd), .int (nI al), .ref aF, .int (nI nf), .int (nI mg), .ref aX, .ref aY])), (aZ, .inl (ty 6, 4, .inr (.inr (.inr (.inr (rf 4 aL)))))), (aL 0, .inl (ty 1, 0, .inr (.inl (lF (fun _ => 0))))), (aL 1, .inl (ty 1, 0, .inr (.inl (lF (fun _ => 0))))), (aL 2, .inl (ty 1, 0, .inr (.inl (lF (fun _ => 0))))), (aL 3, .inl (ty 1, 0, .inr (.inl (lF (fun _ => 0)))))] := hD
  refine lv_aload_n hx hb d_Cutter_init_14 rfl (lv_at hl 0 rfl) ?_
  refine lv_bipush (v := (nI 25)) hx hb d_Cutter_init_15 (by decide) ?_
  refine n_newJ hx hb hts hX hP hD hS hA (by omega) (show (0 + 1 + 4) + 1 ≤ (1 + 4) + 1 by omega) (show (0 + 4 + 4 * 0) + 25 ≤ (4 + 4 * 0) + 25 by omega) d_Cutter_init_17 (fun aE H hP hD hS => ?_)
  have hP : va_P G vwCl [(hC, .inr (1, [.null, .null, .int (nI 0), .ref aZ, .null, .int (nI 0), .int (nI 0), .int (nI 0)])), (hB, .inr (0, [.int (nI st), .int (nI wd), .int (nI al), .ref aF, .int (nI nf), .int (nI mg), .ref aX, .ref aY])), (aZ, .inl (ty 6, 4, .inr (.inr (.inr (.inr (rf 4 aL)))))), (aL 0, .inl (ty 1, 0, .inr (.inl (lF (fun _ => 0))))), (aL 1, .inl (ty 1, 0, .inr (.inl (lF (fun _ => 0))))), (aL 2, .inl (ty 1, 0, .inr (.inl (lF (fun _ => 0))))), (aL 3, .inl (ty 1, 0, .inr (.inl (lF (fun _ => 0))))), (aE, .inl (ty 1, 25, .inr (.inl (lF (fun _ => 0)))))] _ := hP
  have hD : va_D A [(hC, .inr (1, [.null, .null, .int (nI 0), .ref aZ, .null, .int (nI 0), .int (nI 0), .int (nI 0)])), (hB, .inr (0, [.int (nI st), .int (nI wd), .int (nI al), .ref aF, .int (nI nf), .int (nI mg), .ref aX, .ref aY])), (aZ, .inl (ty 6, 4, .inr (.inr (.inr (.inr (rf 4 aL)))))), (aL 0, .inl (ty 1, 0, .inr (.inl (lF (fun _ => 0))))), (aL 1, .inl (ty 1, 0, .inr (.inl (lF (fun _ => 0))))), (aL 2, .inl (ty 1, 0, .inr (.inl (lF (fun _ => 0))))), (aL 3, .inl (ty 1, 0, .inr (.inl (lF (fun _ => 0))))), (aE, .inl (ty 1, 25, .inr (.inl (lF (fun _ => 0)))))] := hD
  refine va_putF (D := G) (ci := 1) (v := .ref aE) (ty := .array .long) (C := R_Cutter) (T := F_Cutter) (N := 8) hx hb hts in_Cutter t_Cutter t_Cutter_ok n_Cutter hown hK hP hD hS 0 rfl rfl 4 (by decide) (hts _ fl_Cutter_16) (fun _ h9 => h9) rfl hin rfl (by decide +kernel) rfl rfl (Nat.le_of_ble_eq_true rfl) d_Cutter_init_19 (fun H locs hP hD hS => ?_)
  have hP : va_P G vwCl [(hC, .inr (1, [.null, .null, .int (nI 0), .ref aZ, .ref aE, .int (nI 0), .int (nI 0), .int (nI 0)])), (hB, .inr (0, [.int (nI st), .int (nI wd), .int (nI al), .ref aF, .int (nI nf), .int (nI mg), .ref aX, .ref aY])), (aZ, .inl (ty 6, 4, .inr (.inr (.inr (.inr (rf 4 aL)))))), (aL 0, .inl (ty 1, 0, .inr (.inl (lF (fun _ => 0))))), (aL 1, .inl (ty 1, 0, .inr (.inl (lF (fun _ => 0))))), (aL 2, .inl (ty 1, 0, .inr (.inl (lF (fun _ => 0))))), (aL 3, .inl (ty 1, 0, .inr (.inl (lF (fun _ => 0))))), (aE, .inl (ty 1, 25, .inr (.inl (lF (fun _ => 0)))))] _ := hP
  have hD : va_D A [(hC, .inr (1, [.null, .null, .int (nI 0), .ref aZ, .ref aE, .int (nI 0), .int (nI 0), .int (nI 0)])), (hB, .inr (0, [.int (nI st), .int (nI wd), .int (nI al), .ref aF, .int (nI nf), .int (nI mg), .ref aX, .ref aY])), (aZ, .inl (ty 6, 4, .inr (.inr (.inr (.inr (rf 4 aL)))))), (aL 0, .inl (ty 1, 0, .inr (.inl (lF (fun _ => 0))))), (aL 1, .inl (ty 1, 0, .inr (.inl (lF (fun _ => 0))))), (aL 2, .inl (ty 1, 0, .inr (.inl (lF (fun _ => 0))))), (aL 3, .inl (ty 1, 0, .inr (.inl (lF (fun _ => 0))))), (aE, .inl (ty 1, 25, .inr (.inl (lF (fun _ => 0)))))] := hD
  refine lv_aload_n hx hb d_Cutter_init_22 rfl (lv_at hl 0 rfl) ?_
  refine lv_iconst (v := (nI 0)) hx hb d_Cutter_init_23 (by decide) ?_
  refine va_put (D := G) (ci := 1) (v := .int (nI 0)) (ty := .int) (C := R_Cutter) (T := F_Cutter) (N := 8) hx hb hts in_Cutter t_Cutter t_Cutter_ok n_Cutter hown hK hP hD hS 0 rfl rfl 5 (by decide) (hts _ fl_Cutter_20) (fun _ h9 => h9) rfl (by decide +kernel) rfl rfl (Nat.le_of_ble_eq_true rfl) d_Cutter_init_24 (fun H locs hP hD hS => ?_)
  have hP : va_P G vwCl [(hC, .inr (1, [.null, .null, .int (nI 0), .ref aZ, .ref aE, .int (nI 0), .int (nI 0), .int (nI 0)])), (hB, .inr (0, [.int (nI st), .int (nI wd), .int (nI al), .ref aF, .int (nI nf), .int (nI mg), .ref aX, .ref aY])), (aZ, .inl (ty 6, 4, .inr (.inr (.inr (.inr (rf 4 aL)))))), (aL 0, .inl (ty 1, 0, .inr (.inl (lF (fun _ => 0))))), (aL 1, .inl (ty 1, 0, .inr (.inl (lF (fun _ => 0))))), (aL 2, .inl (ty 1, 0, .inr (.inl (lF (fun _ => 0))))), (aL 3, .inl (ty 1, 0, .inr (.inl (lF (fun _ => 0))))), (aE, .inl (ty 1, 25, .inr (.inl (lF (fun _ => 0)))))] _ := hP
  have hD : va_D A [(hC, .inr (1, [.null, .null, .int (nI 0), .ref aZ, .ref aE, .int (nI 0), .int (nI 0), .int (nI 0)])), (hB, .inr (0, [.int (nI st), .int (nI wd), .int (nI al), .ref aF, .int (nI nf), .int (nI mg), .ref aX, .ref aY])), (aZ, .inl (ty 6, 4, .inr (.inr (.inr (.inr (rf 4 aL)))))), (aL 0, .inl (ty 1, 0, .inr (.inl (lF (fun _ => 0))))), (aL 1, .inl (ty 1, 0, .inr (.inl (lF (fun _ => 0))))), (aL 2, .inl (ty 1, 0, .inr (.inl (lF (fun _ => 0))))), (aL 3, .inl (ty 1, 0, .inr (.inl (lF (fun _ => 0))))), (aE, .inl (ty 1, 25, .inr (.inl (lF (fun _ => 0)))))] := hD
  refine lv_aload_n hx hb d_Cutter_init_27 rfl (lv_at hl 0 rfl) ?_
  refine lv_iconst (v := (nI 0)) hx hb d_Cutter_init_28 (by decide) ?_
  refine va_put (D := G) (ci := 1) (v := .int (nI 0)) (ty := .int) (C := R_Cutter) (T := F_Cutter) (N := 8) hx hb hts in_Cutter t_Cutter t_Cutter_ok n_Cutter hown hK hP hD hS 0 rfl rfl 6 (by decide) (hts _ fl_Cutter_24) (fun _ h9 => h9) rfl (by decide +kernel) rfl rfl (Nat.le_of_ble_eq_true rfl) d_Cutter_init_29 (fun H locs hP hD hS => ?_)
  have hP : va_P G vwCl [(hC, .inr (1, [.null, .null, .int (nI 0), .ref aZ, .ref aE, .int (nI 0), .int (nI 0), .int (nI 0)])), (hB, .inr (0, [.int (nI st), .int (nI wd), .int (nI al), .ref aF, .int (nI nf), .int (nI mg), .ref aX, .ref aY])), (aZ, .inl (ty 6, 4, .inr (.inr (.inr (.inr (rf 4 aL)))))), (aL 0, .inl (ty 1, 0, .inr (.inl (lF (fun _ => 0))))), (aL 1, .inl (ty 1, 0, .inr (.inl (lF (fun _ => 0))))), (aL 2, .inl (ty 1, 0, .inr (.inl (lF (fun _ => 0))))), (aL 3, .inl (ty 1, 0, .inr (.inl (lF (fun _ => 0))))), (aE, .inl (ty 1, 25, .inr (.inl (lF (fun _ => 0)))))] _ := hP
  have hD : va_D A [(hC, .inr (1, [.null, .null, .int (nI 0), .ref aZ, .ref aE, .int (nI 0), .int (nI 0), .int (nI 0)])), (hB, .inr (0, [.int (nI st), .int (nI wd), .int (nI al), .ref aF, .int (nI nf), .int (nI mg), .ref aX, .ref aY])), (aZ, .inl (ty 6, 4, .inr (.inr (.inr (.inr (rf 4 aL)))))), (aL 0, .inl (ty 1, 0, .inr (.inl (lF (fun _ => 0))))), (aL 1, .inl (ty 1, 0, .inr (.inl (lF (fun _ => 0))))), (aL 2, .inl (ty 1, 0, .inr (.inl (lF (fun _ => 0))))), (aL 3, .inl (ty 1, 0, .inr (.inl (lF (fun _ => 0))))), (aE, .inl (ty 1, 25, .inr (.inl (lF (fun _ => 0)))))] := hD
  refine lv_aload_n hx hb d_Cutter_init_32 rfl (lv_at hl 0 rfl) ?_
  refine lv_iconst (v := (nI 0)) hx hb d_Cutter_init_33 (by decide) ?_
  refine va_put (D := G) (ci := 1) (v := .int (nI 0)) (ty := .int) (C := R_Cutter) (T := F_Cutter) (N := 8) hx hb hts in_Cutter t_Cutter t_Cutter_ok n_Cutter hown hK hP hD hS 0 rfl rfl 7 (by decide) (hts _ fl_Cutter_27) (fun _ h9 => h9) rfl (by decide +kernel) rfl rfl (Nat.le_of_ble_eq_true rfl) d_Cutter_init_34 (fun H locs hP hD hS => ?_)
  have hP : va_P G vwCl [(hC, .inr (1, [.null, .null, .int (nI 0), .ref aZ, .ref aE, .int (nI 0), .int (nI 0), .int (nI 0)])), (hB, .inr (0, [.int (nI st), .int (nI wd), .int (nI al), .ref aF, .int (nI nf), .int (nI mg), .ref aX, .ref aY])), (aZ, .inl (ty 6, 4, .inr (.inr (.inr (.inr (rf 4 aL)))))), (aL 0, .inl (ty 1, 0, .inr (.inl (lF (fun _ => 0))))), (aL 1, .inl (ty 1, 0, .inr (.inl (lF (fun _ => 0))))), (aL 2, .inl (ty 1, 0, .inr (.inl (lF (fun _ => 0))))), (aL 3, .inl (ty 1, 0, .inr (.inl (lF (fun _ => 0))))), (aE, .inl (ty 1, 25, .inr (.inl (lF (fun _ => 0)))))] _ := hP
  have hD : va_D A [(hC, .inr (1, [.null, .null, .int (nI 0), .ref aZ, .ref aE, .int (nI 0), .int (nI 0), .int (nI 0)])), (hB, .inr (0, [.int (nI st), .int (nI wd), .int (nI al), .ref aF, .int (nI nf), .int (nI mg), .ref aX, .ref aY])), (aZ, .inl (ty 6, 4, .inr (.inr (.inr (.inr (rf 4 aL)))))), (aL 0, .inl (ty 1, 0, .inr (.inl (lF (fun _ => 0))))), (aL 1, .inl (ty 1, 0, .inr (.inl (lF (fun _ => 0))))), (aL 2, .inl (ty 1, 0, .inr (.inl (lF (fun _ => 0))))), (aL 3, .inl (ty 1, 0, .inr (.inl (lF (fun _ => 0))))), (aE, .inl (ty 1, 25, .inr (.inl (lF (fun _ => 0)))))] := hD
  refine lv_aload_n hx hb d_Cutter_init_37 rfl (lv_at hl 0 rfl) ?_
  refine lv_aload_n hx hb d_Cutter_init_38 rfl (lv_at hl 1 rfl) ?_
  refine va_putF (D := G) (ci := 1) (v := .ref hB) (ty := .object "FaultRips$Board") (C := R_Cutter) (T := F_Cutter) (N := 8) hx hb hts in_Cutter t_Cutter t_Cutter_ok n_Cutter hown hK hP hD hS 0 rfl rfl 0 (by decide) (hts _ fl_Cutter_30) (fun _ h9 => h9) rfl hin rfl (by decide +kernel) rfl rfl (Nat.le_of_ble_eq_true rfl) d_Cutter_init_39 (fun H locs hP hD hS => ?_)
  have hP : va_P G vwCl [(hC, .inr (1, [.ref hB, .null, .int (nI 0), .ref aZ, .ref aE, .int (nI 0), .int (nI 0), .int (nI 0)])), (hB, .inr (0, [.int (nI st), .int (nI wd), .int (nI al), .ref aF, .int (nI nf), .int (nI mg), .ref aX, .ref aY])), (aZ, .inl (ty 6, 4, .inr (.inr (.inr (.inr (rf 4 aL)))))), (aL 0, .inl (ty 1, 0, .inr (.inl (lF (fun _ => 0))))), (aL 1, .inl (ty 1, 0, .inr (.inl (lF (fun _ => 0))))), (aL 2, .inl (ty 1, 0, .inr (.inl (lF (fun _ => 0))))), (aL 3, .inl (ty 1, 0, .inr (.inl (lF (fun _ => 0))))), (aE, .inl (ty 1, 25, .inr (.inl (lF (fun _ => 0)))))] _ := hP
  have hD : va_D A [(hC, .inr (1, [.ref hB, .null, .int (nI 0), .ref aZ, .ref aE, .int (nI 0), .int (nI 0), .int (nI 0)])), (hB, .inr (0, [.int (nI st), .int (nI wd), .int (nI al), .ref aF, .int (nI nf), .int (nI mg), .ref aX, .ref aY])), (aZ, .inl (ty 6, 4, .inr (.inr (.inr (.inr (rf 4 aL)))))), (aL 0, .inl (ty 1, 0, .inr (.inl (lF (fun _ => 0))))), (aL 1, .inl (ty 1, 0, .inr (.inl (lF (fun _ => 0))))), (aL 2, .inl (ty 1, 0, .inr (.inl (lF (fun _ => 0))))), (aL 3, .inl (ty 1, 0, .inr (.inl (lF (fun _ => 0))))), (aE, .inl (ty 1, 25, .inr (.inl (lF (fun _ => 0)))))] := hD
  refine lv_aload_n hx hb d_Cutter_init_42 rfl (lv_at hl 0 rfl) ?_
  refine lv_aload_n hx hb d_Cutter_init_43 rfl (lv_at hl 2 rfl) ?_
  refine va_putF (D := G) (ci := 1) (v := .ref hT) (ty := .object "FaultRips$Sorts") (C := R_Cutter) (T := F_Cutter) (N := 8) hx hb hts in_Cutter t_Cutter t_Cutter_ok n_Cutter hown hK hP hD hS 0 rfl rfl 1 (by decide) (hts _ fl_Cutter_34) (fun _ h9 => h9) rfl hin rfl (by decide +kernel) rfl rfl (Nat.le_of_ble_eq_true rfl) d_Cutter_init_44 (fun H locs hP hD hS => ?_)
  have hP : va_P G vwCl [(hC, .inr (1, [.ref hB, .ref hT, .int (nI 0), .ref aZ, .ref aE, .int (nI 0), .int (nI 0), .int (nI 0)])), (hB, .inr (0, [.int (nI st), .int (nI wd), .int (nI al), .ref aF, .int (nI nf), .int (nI mg), .ref aX, .ref aY])), (aZ, .inl (ty 6, 4, .inr (.inr (.inr (.inr (rf 4 aL)))))), (aL 0, .inl (ty 1, 0, .inr (.inl (lF (fun _ => 0))))), (aL 1, .inl (ty 1, 0, .inr (.inl (lF (fun _ => 0))))), (aL 2, .inl (ty 1, 0, .inr (.inl (lF (fun _ => 0))))), (aL 3, .inl (ty 1, 0, .inr (.inl (lF (fun _ => 0))))), (aE, .inl (ty 1, 25, .inr (.inl (lF (fun _ => 0)))))] _ := hP
  have hD : va_D A [(hC, .inr (1, [.ref hB, .ref hT, .int (nI 0), .ref aZ, .ref aE, .int (nI 0), .int (nI 0), .int (nI 0)])), (hB, .inr (0, [.int (nI st), .int (nI wd), .int (nI al), .ref aF, .int (nI nf), .int (nI mg), .ref aX, .ref aY])), (aZ, .inl (ty 6, 4, .inr (.inr (.inr (.inr (rf 4 aL)))))), (aL 0, .inl (ty 1, 0, .inr (.inl (lF (fun _ => 0))))), (aL 1, .inl (ty 1, 0, .inr (.inl (lF (fun _ => 0))))), (aL 2, .inl (ty 1, 0, .inr (.inl (lF (fun _ => 0))))), (aL 3, .inl (ty 1, 0, .inr (.inl (lF (fun _ => 0))))), (aE, .inl (ty 1, 25, .inr (.inl (lF (fun _ => 0)))))] := hD
  refine lv_aload_n hx hb d_Cutter_init_47 rfl (lv_at hl 0 rfl) ?_
  refine lv_aload_n hx hb d_Cutter_init_48 rfl (lv_at hl 1 rfl) ?_
  refine va_get (D := G) (ci := 0) (v := .int (nI al)) (C := R_Board) (T := F_Board) (N := 8) hx hb hts in_Board hown hK hP 1 rfl rfl 2 (by decide) (hts _ fl_Cutter_38) (fun _ h9 => h9) rfl d_Cutter_init_49 ?_
  refine nest_Rips_spansOf (G := G) (ty := ty) hx hb hml hown hts hX nst_Cutter_43 hl.1 (by omega) (lv_room (Nat.le_of_ble_eq_true rfl)) ⟨Nat.le_of_ble_eq_true rfl, Nat.le_of_ble_eq_true rfl⟩ ⟨show (0 + 1 + 4 + 1) + 0 ≤ (1 + 4) + 1 by omega, show (0 + 4 + 4 * 0 + 25) + 0 ≤ (4 + 4 * 0) + 25 by omega⟩ d_Cutter_init_52 ?_
  refine top_i (show (nI (al * (al + 1) / 2)) = (nI sA) from congrArg nI gA.symm) ?_
  refine va_putF (D := G) (ci := 1) (v := .int (nI sA)) (ty := .int) (C := R_Cutter) (T := F_Cutter) (N := 8) hx hb hts in_Cutter t_Cutter t_Cutter_ok n_Cutter hown hK hP hD hS 0 rfl rfl 2 (by decide) (hts _ fl_Cutter_47) (fun _ h9 => h9) rfl hin rfl (by decide +kernel) rfl rfl (Nat.le_of_ble_eq_true rfl) d_Cutter_init_55 (fun H locs hP hD hS => ?_)
  have hP : va_P G vwCl [(hC, .inr (1, [.ref hB, .ref hT, .int (nI sA), .ref aZ, .ref aE, .int (nI 0), .int (nI 0), .int (nI 0)])), (hB, .inr (0, [.int (nI st), .int (nI wd), .int (nI al), .ref aF, .int (nI nf), .int (nI mg), .ref aX, .ref aY])), (aZ, .inl (ty 6, 4, .inr (.inr (.inr (.inr (rf 4 aL)))))), (aL 0, .inl (ty 1, 0, .inr (.inl (lF (fun _ => 0))))), (aL 1, .inl (ty 1, 0, .inr (.inl (lF (fun _ => 0))))), (aL 2, .inl (ty 1, 0, .inr (.inl (lF (fun _ => 0))))), (aL 3, .inl (ty 1, 0, .inr (.inl (lF (fun _ => 0))))), (aE, .inl (ty 1, 25, .inr (.inl (lF (fun _ => 0)))))] _ := hP
  have hD : va_D A [(hC, .inr (1, [.ref hB, .ref hT, .int (nI sA), .ref aZ, .ref aE, .int (nI 0), .int (nI 0), .int (nI 0)])), (hB, .inr (0, [.int (nI st), .int (nI wd), .int (nI al), .ref aF, .int (nI nf), .int (nI mg), .ref aX, .ref aY])), (aZ, .inl (ty 6, 4, .inr (.inr (.inr (.inr (rf 4 aL)))))), (aL 0, .inl (ty 1, 0, .inr (.inl (lF (fun _ => 0))))), (aL 1, .inl (ty 1, 0, .inr (.inl (lF (fun _ => 0))))), (aL 2, .inl (ty 1, 0, .inr (.inl (lF (fun _ => 0))))), (aL 3, .inl (ty 1, 0, .inr (.inl (lF (fun _ => 0))))), (aE, .inl (ty 1, 25, .inr (.inl (lF (fun _ => 0)))))] := hD
  refine W.widen (k := (1 + 4) + 1) (n := (4 + 4 * 0) + 25) (by omega) (by omega) ?_
  exact W.vret hx hb hr (fun t9 ht hW => ⟨⟨(aZ, aL, aE), rfl, trivial, by rw [ht]; exact hP, hD⟩, hS.F ht⟩) hS.2.2 d_Cutter_init_58

abbrev q_Leftover_init (G : va_G) (ty : Nat → ClassId) (hV : Nat) (hB : Nat) (st : Nat) (wd : Nat) (al : Nat) (aF : Nat) (nf : Nat) (mg : Nat) (aX : Nat) (aY : Nat) (A : Nat → Prop) : Array Value → State → Outcome → State → Prop := va_Qv (fun (uu : Nat × Nat × (Nat → Nat)) => True) (at_W G (fun (uu : Nat × Nat × (Nat → Nat)) => [(hV, .inr (4, [.ref uu.1, .int (nI 0), .int (nI wd), .int (nI al), .ref uu.2.1])), (hB, .inr (0, [.int (nI st), .int (nI wd), .int (nI al), .ref aF, .int (nI nf), .int (nI mg), .ref aX, .ref aY])), (uu.2.1, .inl (ty 2, wd * al, .inl (bF (fun _ => false)))), (uu.1, .inl (ty 5, 3, .inr (.inr (.inr (.inr (rf 3 uu.2.2)))))), (uu.2.2 0, .inl (ty 0, wd * ((al + 1) / 2), .inl (nF (fun _ => 0)))), (uu.2.2 1, .inl (ty 0, wd * ((al + 1) / 2), .inl (nF (fun _ => 0)))), (uu.2.2 2, .inl (ty 0, wd * ((al + 1) / 2), .inl (nF (fun _ => 0))))]) A) A
set_option maxRecDepth 100000 in
set_option maxHeartbeats 4000000 in
theorem c_Leftover_init (l : Launch) (G : va_G) (ty : Nat → ClassId) (sz : Nat) (hV : Nat) (hB : Nat) (st : Nat) (wd : Nat) (al : Nat) (aF : Nat) (nf : Nat) (mg : Nat) (aX : Nat) (aY : Nat) (g1 : al ≤ 24) (g2 : wd ≤ 10) : Met l y_Leftover_init ws_Leftover_init { frames := 1, cells := 1 + (1 + 3), slots := wd * al + (3 + 3 * (wd * ((al + 1) / 2))), locals := 40 } (va_Pc [.ref hV, .ref hB] (fun U => U.heap.size = sz ∧ va_P G vwCl [(hV, .inr (4, [.null, .int (nI 0), .int (nI 0), .int (nI 0), .null])), (hB, .inr (0, [.int (nI st), .int (nI wd), .int (nI al), .ref aF, .int (nI nf), .int (nI mg), .ref aX, .ref aY]))] U.heap ∧ KX G ty U ∧ va_D (fun _ => True) [(hV, .inr (4, [.null, .int (nI 0), .int (nI 0), .int (nI 0), .null])), (hB, .inr (0, [.int (nI st), .int (nI wd), .int (nI al), .ref aF, .int (nI nf), .int (nI mg), .ref aX, .ref aY]))])) (q_Leftover_init G ty hV hB st wd al aF nf mg aX aY (va_A [(hV, .inr (4, [.null, .int (nI 0), .int (nI 0), .int (nI 0), .null])), (hB, .inr (0, [.int (nI st), .int (nI wd), .int (nI al), .ref aF, .int (nI nf), .int (nI mg), .ref aX, .ref aY]))] sz)) (1 + (1 + 3)) (wd * al + (3 + 3 * (wd * ((al + 1) / 2)))) (va_A [(hV, .inr (4, [.null, .int (nI 0), .int (nI 0), .int (nI 0), .null])), (hB, .inr (0, [.int (nI st), .int (nI wd), .int (nI al), .ref aF, .int (nI nf), .int (nI mg), .ref aX, .ref aY]))] sz) := by
  refine met_wr (y := y_Leftover_init) (maxL := 2) (sz := sz) (G := G) (ty := ty) (mc := 1 + (1 + 3)) (ms := wd * al + (3 + 3 * (wd * ((al + 1) / 2)))) (av := [.ref hV, .ref hB]) (W0 := [(hV, .inr (4, [.null, .int (nI 0), .int (nI 0), .int (nI 0), .null])), (hB, .inr (0, [.int (nI st), .int (nI wd), .int (nI al), .ref aF, .int (nI nf), .int (nI mg), .ref aX, .ref aY]))]) (fun A => q_Leftover_init G ty hV hB st wd al aF nf mg aX aY A) R_Leftover (by decide) rfl rfl (Nat.le_of_ble_eq_true rfl) ?_
  intro p e s m below meth c ls A hx hb hr hml hown hts hlocks hin hA hP hX hD hS hl
  have hK := hX.1
  have hl : lv_has ls 2 [(0, .ref hV), (1, .ref hB)] := hl
  have hwa := Nat.mul_le_mul g2 g1
  have hwh := Nat.mul_le_mul g2 (show (al + 1) / 2 ≤ 12 by omega)
  refine lv_aload_n hx hb d_Leftover_init_0 rfl (lv_at hl 0 rfl) ?_
  refine W.objInit hx hb hown (hts _ lo_Leftover_3) (hts _ im_obj) (hts _ cd_obj) rfl (by rw [hml]; exact hl.1) rfl d_Leftover_init_1 (Nat.le_of_ble_eq_true rfl) (Nat.le_of_ble_eq_true rfl) ?_
  refine lv_aload_n hx hb d_Leftover_init_4 rfl (lv_at hl 0 rfl) ?_
  refine lv_iconst (v := (nI 0)) hx hb d_Leftover_init_5 (by decide) ?_
  refine va_put (D := G) (ci := 4) (v := .int (nI 0)) (ty := .int) (C := R_Leftover) (T := F_Leftover) (N := 5) hx hb hts in_Leftover t_Leftover t_Leftover_ok n_Leftover hown hK hP hD hS 0 rfl rfl 1 (by decide) (hts _ fl_Leftover_9) (fun _ h9 => h9) rfl (by decide +kernel) rfl rfl (Nat.le_of_ble_eq_true rfl) d_Leftover_init_6 (fun H locs hP hD hS => ?_)
  have hP : va_P G vwCl [(hV, .inr (4, [.null, .int (nI 0), .int (nI 0), .int (nI 0), .null])), (hB, .inr (0, [.int (nI st), .int (nI wd), .int (nI al), .ref aF, .int (nI nf), .int (nI mg), .ref aX, .ref aY]))] _ := hP
  have hD : va_D A [(hV, .inr (4, [.null, .int (nI 0), .int (nI 0), .int (nI 0), .null])), (hB, .inr (0, [.int (nI st), .int (nI wd), .int (nI al), .ref aF, .int (nI nf), .int (nI mg), .ref aX, .ref aY]))] := hD
  refine lv_aload_n hx hb d_Leftover_init_9 rfl (lv_at hl 0 rfl) ?_
  refine lv_aload_n hx hb d_Leftover_init_10 rfl (lv_at hl 1 rfl) ?_
  refine va_get (D := G) (ci := 0) (v := .int (nI wd)) (C := R_Board) (T := F_Board) (N := 8) hx hb hts in_Board hown hK hP 1 rfl rfl 1 (by decide) (hts _ fl_Leftover_15) (fun _ h9 => h9) rfl d_Leftover_init_11 ?_
  refine va_putF (D := G) (ci := 4) (v := .int (nI wd)) (ty := .int) (C := R_Leftover) (T := F_Leftover) (N := 5) hx hb hts in_Leftover t_Leftover t_Leftover_ok n_Leftover hown hK hP hD hS 0 rfl rfl 2 (by decide) (hts _ fl_Leftover_20) (fun _ h9 => h9) rfl hin rfl (by decide +kernel) rfl rfl (Nat.le_of_ble_eq_true rfl) d_Leftover_init_14 (fun H locs hP hD hS => ?_)
  have hP : va_P G vwCl [(hV, .inr (4, [.null, .int (nI 0), .int (nI wd), .int (nI 0), .null])), (hB, .inr (0, [.int (nI st), .int (nI wd), .int (nI al), .ref aF, .int (nI nf), .int (nI mg), .ref aX, .ref aY]))] _ := hP
  have hD : va_D A [(hV, .inr (4, [.null, .int (nI 0), .int (nI wd), .int (nI 0), .null])), (hB, .inr (0, [.int (nI st), .int (nI wd), .int (nI al), .ref aF, .int (nI nf), .int (nI mg), .ref aX, .ref aY]))] := hD
  refine lv_aload_n hx hb d_Leftover_init_17 rfl (lv_at hl 0 rfl) ?_
  refine lv_aload_n hx hb d_Leftover_init_18 rfl (lv_at hl 1 rfl) ?_
  refine va_get (D := G) (ci := 0) (v := .int (nI al)) (C := R_Board) (T := F_Board) (N := 8) hx hb hts in_Board hown hK hP 1 rfl rfl 2 (by decide) (hts _ fl_Leftover_21) (fun _ h9 => h9) rfl d_Leftover_init_19 ?_
  refine va_putF (D := G) (ci := 4) (v := .int (nI al)) (ty := .int) (C := R_Leftover) (T := F_Leftover) (N := 5) hx hb hts in_Leftover t_Leftover t_Leftover_ok n_Leftover hown hK hP hD hS 0 rfl rfl 3 (by decide) (hts _ fl_Leftover_24) (fun _ h9 => h9) rfl hin rfl (by decide +kernel) rfl rfl (Nat.le_of_ble_eq_true rfl) d_Leftover_init_22 (fun H locs hP hD hS => ?_)
  have hP : va_P G vwCl [(hV, .inr (4, [.null, .int (nI 0), .int (nI wd), .int (nI al), .null])), (hB, .inr (0, [.int (nI st), .int (nI wd), .int (nI al), .ref aF, .int (nI nf), .int (nI mg), .ref aX, .ref aY]))] _ := hP
  have hD : va_D A [(hV, .inr (4, [.null, .int (nI 0), .int (nI wd), .int (nI al), .null])), (hB, .inr (0, [.int (nI st), .int (nI wd), .int (nI al), .ref aF, .int (nI nf), .int (nI mg), .ref aX, .ref aY]))] := hD
  refine lv_aload_n hx hb d_Leftover_init_25 rfl (lv_at hl 0 rfl) ?_
  refine lv_aload_n hx hb d_Leftover_init_26 rfl (lv_at hl 1 rfl) ?_
  refine vp_callSi (W.runV (As := []) (rest := [.ref hV]) ⟨hx, hb, hml, hown, hts⟩ (c_Board_cells l G ty hB aF aX aY st wd al nf mg ) ⟨callB_of 0 hts (gd_TB cd_Board_cells) rfl rfl rfl (hts _ ini_Board) (hts _ lk_Leftover_25) hd_Board_cells ⟨Nat.le_of_ble_eq_true rfl, Nat.le_of_ble_eq_true rfl⟩, hts _ im_Board_cells, hts _ sl_Board_cells⟩ (preV_ro (hP.sub (ws' := [(hB, .inr (0, [.int (nI st), .int (nI wd), .int (nI al), .ref aF, .int (nI nf), .int (nI mg), .ref aX, .ref aY]))]) [1] rfl) hX 0 rfl rfl) rfl rfl hl.1 rfl (lv_room (Nat.le_of_ble_eq_true rfl)) d_Leftover_init_27 ⟨show 0 + 0 ≤ 1 + (1 + 3) by omega, show 0 + 0 ≤ wd * al + (3 + 3 * (wd * ((al + 1) / 2))) by omega⟩) (fun r9 er9 => ?_)
  subst er9
  refine n_newZ hx hb hts hX hP hD hS hA (by omega) (show 0 + 1 ≤ 1 + (1 + 3) by omega) (show 0 + (wd * al) ≤ wd * al + (3 + 3 * (wd * ((al + 1) / 2))) by omega) d_Leftover_init_30 (fun aK H hP hD hS => ?_)
  have hP : va_P G vwCl [(hV, .inr (4, [.null, .int (nI 0), .int (nI wd), .int (nI al), .null])), (hB, .inr (0, [.int (nI st), .int (nI wd), .int (nI al), .ref aF, .int (nI nf), .int (nI mg), .ref aX, .ref aY])), (aK, .inl (ty 2, wd * al, .inl (bF (fun _ => false))))] _ := hP
  have hD : va_D A [(hV, .inr (4, [.null, .int (nI 0), .int (nI wd), .int (nI al), .null])), (hB, .inr (0, [.int (nI st), .int (nI wd), .int (nI al), .ref aF, .int (nI nf), .int (nI mg), .ref aX, .ref aY])), (aK, .inl (ty 2, wd * al, .inl (bF (fun _ => false))))] := hD
  refine va_putF (D := G) (ci := 4) (v := .ref aK) (ty := .array .boolean) (C := R_Leftover) (T := F_Leftover) (N := 5) hx hb hts in_Leftover t_Leftover t_Leftover_ok n_Leftover hown hK hP hD hS 0 rfl rfl 4 (by decide) (hts _ fl_Leftover_29) (fun _ h9 => h9) rfl hin rfl (by decide +kernel) rfl rfl (Nat.le_of_ble_eq_true rfl) d_Leftover_init_32 (fun H locs hP hD hS => ?_)
  have hP : va_P G vwCl [(hV, .inr (4, [.null, .int (nI 0), .int (nI wd), .int (nI al), .ref aK])), (hB, .inr (0, [.int (nI st), .int (nI wd), .int (nI al), .ref aF, .int (nI nf), .int (nI mg), .ref aX, .ref aY])), (aK, .inl (ty 2, wd * al, .inl (bF (fun _ => false))))] _ := hP
  have hD : va_D A [(hV, .inr (4, [.null, .int (nI 0), .int (nI wd), .int (nI al), .ref aK])), (hB, .inr (0, [.int (nI st), .int (nI wd), .int (nI al), .ref aF, .int (nI nf), .int (nI mg), .ref aX, .ref aY])), (aK, .inl (ty 2, wd * al, .inl (bF (fun _ => false))))] := hD
  refine lv_aload_n hx hb d_Leftover_init_35 rfl (lv_at hl 0 rfl) ?_
  refine lv_iconst (v := (nI 3)) hx hb d_Leftover_init_36 (by decide) ?_
  refine lv_aload_n hx hb d_Leftover_init_37 rfl (lv_at hl 0 rfl) ?_
  refine va_get (D := G) (ci := 4) (v := .int (nI wd)) (C := R_Leftover) (T := F_Leftover) (N := 5) hx hb hts in_Leftover hown hK hP 0 rfl rfl 2 (by decide) (hts _ fl_Leftover_20) (fun _ h9 => h9) rfl d_Leftover_init_38 ?_
  refine lv_aload_n hx hb d_Leftover_init_41 rfl (lv_at hl 0 rfl) ?_
  refine va_get (D := G) (ci := 4) (v := .int (nI al)) (C := R_Leftover) (T := F_Leftover) (N := 5) hx hb hts in_Leftover hown hK hP 0 rfl rfl 3 (by decide) (hts _ fl_Leftover_24) (fun _ h9 => h9) rfl d_Leftover_init_42 ?_
  refine lv_iconst (v := (nI 1)) hx hb d_Leftover_init_45 (by decide) ?_
  refine n_iadd hx hb d_Leftover_init_46 ?_
  refine lv_iconst (v := (nI 2)) hx hb d_Leftover_init_47 (by decide) ?_
  refine n_idiv hx hb (by omega) (by omega) (by omega) d_Leftover_init_48 ?_
  refine n_imul hx hb d_Leftover_init_49 ?_
  refine n_mna (T := .int) (cO := ty 5) (cy := ty 0) (z := (wd * ((al + 1) / 2), .inl (nF (fun _ => 0)))) hx hb hown (hts _ cl_Leftover_33) hX.2.2.1.2.2.1 (hts _ ac_int) (hX.1.2 0 _ rfl).2 (hX.1.2 5 _ rfl).2 hP hD hS hA (by omega) (by omega) (by show wd * ((al + 1) / 2) * 4 ≤ _; omega) (by decide +kernel) (by decide +kernel) (show (0 + 1) + (1 + 3) ≤ 1 + (1 + 3) by omega) (show (0 + (wd * al)) + (3 + 3 * (wd * ((al + 1) / 2))) ≤ wd * al + (3 + 3 * (wd * ((al + 1) / 2))) by omega) (fun c9 => mk_rowI c9 _) d_Leftover_init_50 (fun aU aI H hP hD hS => ?_)
  have hP : va_P G vwCl [(hV, .inr (4, [.null, .int (nI 0), .int (nI wd), .int (nI al), .ref aK])), (hB, .inr (0, [.int (nI st), .int (nI wd), .int (nI al), .ref aF, .int (nI nf), .int (nI mg), .ref aX, .ref aY])), (aK, .inl (ty 2, wd * al, .inl (bF (fun _ => false)))), (aU, .inl (ty 5, 3, .inr (.inr (.inr (.inr (rf 3 aI)))))), (aI 0, .inl (ty 0, wd * ((al + 1) / 2), .inl (nF (fun _ => 0)))), (aI 1, .inl (ty 0, wd * ((al + 1) / 2), .inl (nF (fun _ => 0)))), (aI 2, .inl (ty 0, wd * ((al + 1) / 2), .inl (nF (fun _ => 0))))] _ := hP
  have hD : va_D A [(hV, .inr (4, [.null, .int (nI 0), .int (nI wd), .int (nI al), .ref aK])), (hB, .inr (0, [.int (nI st), .int (nI wd), .int (nI al), .ref aF, .int (nI nf), .int (nI mg), .ref aX, .ref aY])), (aK, .inl (ty 2, wd * al, .inl (bF (fun _ => false)))), (aU, .inl (ty 5, 3, .inr (.inr (.inr (.inr (rf 3 aI)))))), (aI 0, .inl (ty 0, wd * ((al + 1) / 2), .inl (nF (fun _ => 0)))), (aI 1, .inl (ty 0, wd * ((al + 1) / 2), .inl (nF (fun _ => 0)))), (aI 2, .inl (ty 0, wd * ((al + 1) / 2), .inl (nF (fun _ => 0))))] := hD
  refine va_putF (D := G) (ci := 4) (v := .ref aU) (ty := .array (.array .int)) (C := R_Leftover) (T := F_Leftover) (N := 5) hx hb hts in_Leftover t_Leftover t_Leftover_ok n_Leftover hown hK hP hD hS 0 rfl rfl 0 (by decide) (hts _ fl_Leftover_35) (fun _ h9 => h9) rfl hin rfl (by decide +kernel) rfl rfl (Nat.le_of_ble_eq_true rfl) d_Leftover_init_54 (fun H locs hP hD hS => ?_)
  have hP : va_P G vwCl [(hV, .inr (4, [.ref aU, .int (nI 0), .int (nI wd), .int (nI al), .ref aK])), (hB, .inr (0, [.int (nI st), .int (nI wd), .int (nI al), .ref aF, .int (nI nf), .int (nI mg), .ref aX, .ref aY])), (aK, .inl (ty 2, wd * al, .inl (bF (fun _ => false)))), (aU, .inl (ty 5, 3, .inr (.inr (.inr (.inr (rf 3 aI)))))), (aI 0, .inl (ty 0, wd * ((al + 1) / 2), .inl (nF (fun _ => 0)))), (aI 1, .inl (ty 0, wd * ((al + 1) / 2), .inl (nF (fun _ => 0)))), (aI 2, .inl (ty 0, wd * ((al + 1) / 2), .inl (nF (fun _ => 0))))] _ := hP
  have hD : va_D A [(hV, .inr (4, [.ref aU, .int (nI 0), .int (nI wd), .int (nI al), .ref aK])), (hB, .inr (0, [.int (nI st), .int (nI wd), .int (nI al), .ref aF, .int (nI nf), .int (nI mg), .ref aX, .ref aY])), (aK, .inl (ty 2, wd * al, .inl (bF (fun _ => false)))), (aU, .inl (ty 5, 3, .inr (.inr (.inr (.inr (rf 3 aI)))))), (aI 0, .inl (ty 0, wd * ((al + 1) / 2), .inl (nF (fun _ => 0)))), (aI 1, .inl (ty 0, wd * ((al + 1) / 2), .inl (nF (fun _ => 0)))), (aI 2, .inl (ty 0, wd * ((al + 1) / 2), .inl (nF (fun _ => 0))))] := hD
  refine W.widen (k := 1 + (1 + 3)) (n := wd * al + (3 + 3 * (wd * ((al + 1) / 2)))) (by omega) (by omega) ?_
  exact W.vret hx hb hr (fun t9 ht hW => ⟨⟨(aU, aK, aI), rfl, trivial, by rw [ht]; exact hP, hD⟩, hS.F ht⟩) hS.2.2 d_Leftover_init_57

abbrev q_PanelMaker_init (G : va_G) (ty : Nat → ClassId) (hN : Nat) (rN : Nat) (A : Nat → Prop) : Array Value → State → Outcome → State → Prop := va_Qv (fun (uu : Nat) => True) (at_W G (fun (uu : Nat) => [(hN, .inr (5, [.int (nI rN), .ref uu])), (uu, .inl (ty 0, 0, .inl (nF (fun _ => 0))))]) A) A
set_option maxRecDepth 100000 in
set_option maxHeartbeats 4000000 in
theorem c_PanelMaker_init (l : Launch) (G : va_G) (ty : Nat → ClassId) (sz : Nat) (hN : Nat) (rN : Nat) : Met l y_PanelMaker_init ws_PanelMaker_init { frames := 1, cells := 1, slots := 0, locals := 40 } (va_Pc [.ref hN, .int (nI rN)] (fun U => U.heap.size = sz ∧ va_P G vwCl [(hN, .inr (5, [.int (nI 0), .null]))] U.heap ∧ KX G ty U ∧ va_D (fun _ => True) [(hN, .inr (5, [.int (nI 0), .null]))])) (q_PanelMaker_init G ty hN rN (va_A [(hN, .inr (5, [.int (nI 0), .null]))] sz)) 1 0 (va_A [(hN, .inr (5, [.int (nI 0), .null]))] sz) := by
  refine met_wr (y := y_PanelMaker_init) (maxL := 2) (sz := sz) (G := G) (ty := ty) (mc := 1) (ms := 0) (av := [.ref hN, .int (nI rN)]) (W0 := [(hN, .inr (5, [.int (nI 0), .null]))]) (fun A => q_PanelMaker_init G ty hN rN A) R_PanelMaker (by decide) rfl rfl (Nat.le_of_ble_eq_true rfl) ?_
  intro p e s m below meth c ls A hx hb hr hml hown hts hlocks hin hA hP hX hD hS hl
  have hK := hX.1
  have hl : lv_has ls 2 [(0, .ref hN), (1, .int (nI rN))] := hl
  refine lv_aload_n hx hb d_PanelMaker_init_0 rfl (lv_at hl 0 rfl) ?_
  refine W.objInit hx hb hown (hts _ lo_PanelMaker_3) (hts _ im_obj) (hts _ cd_obj) rfl (by rw [hml]; exact hl.1) rfl d_PanelMaker_init_1 (Nat.le_of_ble_eq_true rfl) (Nat.le_of_ble_eq_true rfl) ?_
  refine lv_aload_n hx hb d_PanelMaker_init_4 rfl (lv_at hl 0 rfl) ?_
  refine lv_iconst (v := (nI 0)) hx hb d_PanelMaker_init_5 (by decide) ?_
  refine n_newI hx hb hts hX hP hD hS hA (by omega) (show 0 + 1 ≤ 1 by omega) (show 0 + 0 ≤ 0 by omega) d_PanelMaker_init_6 (fun aW H hP hD hS => ?_)
  have hP : va_P G vwCl [(hN, .inr (5, [.int (nI 0), .null])), (aW, .inl (ty 0, 0, .inl (nF (fun _ => 0))))] _ := hP
  have hD : va_D A [(hN, .inr (5, [.int (nI 0), .null])), (aW, .inl (ty 0, 0, .inl (nF (fun _ => 0))))] := hD
  refine va_put (D := G) (ci := 5) (v := .ref aW) (ty := .array .int) (C := R_PanelMaker) (T := F_PanelMaker) (N := 2) hx hb hts in_PanelMaker t_PanelMaker t_PanelMaker_ok n_PanelMaker hown hK hP hD hS 0 rfl rfl 1 (by decide) (hts _ fl_PanelMaker_9) (fun _ h9 => h9) rfl (by decide +kernel) rfl rfl (Nat.le_of_ble_eq_true rfl) d_PanelMaker_init_8 (fun H locs hP hD hS => ?_)
  have hP : va_P G vwCl [(hN, .inr (5, [.int (nI 0), .ref aW])), (aW, .inl (ty 0, 0, .inl (nF (fun _ => 0))))] _ := hP
  have hD : va_D A [(hN, .inr (5, [.int (nI 0), .ref aW])), (aW, .inl (ty 0, 0, .inl (nF (fun _ => 0))))] := hD
  refine lv_aload_n hx hb d_PanelMaker_init_11 rfl (lv_at hl 0 rfl) ?_
  refine lv_iload_n hx hb d_PanelMaker_init_12 rfl (lv_at hl 1 rfl) ?_
  refine va_putF (D := G) (ci := 5) (v := .int (nI rN)) (ty := .int) (C := R_PanelMaker) (T := F_PanelMaker) (N := 2) hx hb hts in_PanelMaker t_PanelMaker t_PanelMaker_ok n_PanelMaker hown hK hP hD hS 0 rfl rfl 0 (by decide) (hts _ fl_PanelMaker_15) (fun _ h9 => h9) rfl hin rfl (by decide +kernel) rfl rfl (Nat.le_of_ble_eq_true rfl) d_PanelMaker_init_13 (fun H locs hP hD hS => ?_)
  have hP : va_P G vwCl [(hN, .inr (5, [.int (nI rN), .ref aW])), (aW, .inl (ty 0, 0, .inl (nF (fun _ => 0))))] _ := hP
  have hD : va_D A [(hN, .inr (5, [.int (nI rN), .ref aW])), (aW, .inl (ty 0, 0, .inl (nF (fun _ => 0))))] := hD
  refine W.widen (k := 1) (n := 0) (by omega) (by omega) ?_
  exact W.vret hx hb hr (fun t9 ht hW => ⟨⟨aW, rfl, trivial, by rw [ht]; exact hP, hD⟩, hS.F ht⟩) hS.2.2 d_PanelMaker_init_16
