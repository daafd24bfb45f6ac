theorem fl_Model_100 : Cond.fieldLink R_Model 100 "FaultRipsModel" "pdx" "[I" ∈ TB := mem_TB 891 (by decide +kernel) (by decide +kernel)
theorem fl_Model_103 : Cond.fieldLink R_Model 103 "FaultRipsModel" "pdy" "[I" ∈ TB := mem_TB 892 (by decide +kernel) (by decide +kernel)
theorem fl_Model_106 : Cond.fieldLink R_Model 106 "FaultRipsModel" "pwhich" "[I" ∈ TB := mem_TB 893 (by decide +kernel) (by decide +kernel)
theorem fl_Model_219 : Cond.fieldLink R_Model 219 "FaultRipsModel" "size" "I" ∈ TB := mem_TB 888 (by decide +kernel) (by decide +kernel)
theorem fl_Model_94 : Cond.fieldLink R_Model 94 "FaultRipsModel" "px" "[I" ∈ TB := mem_TB 889 (by decide +kernel) (by decide +kernel)
theorem fl_Model_97 : Cond.fieldLink R_Model 97 "FaultRipsModel" "py" "[I" ∈ TB := mem_TB 890 (by decide +kernel) (by decide +kernel)

abbrev q_Model_put (G : va_G) (ty : Nat → ClassId) (hM : Nat) (cd : Nat) (st : Nat) (al : Nat) (ac : Nat) (nf : Nat) (ns : Nat) (gg : Nat) (mg : Nat) (bw : Nat) (md : Nat) (wy : Nat) (sg_ : Nat) (sz_ : Nat) (ks : Nat) (bd : Int) (aM : Nat → Nat) (x0 : Nat) (x1 : Nat) (y0 : Nat) (y1 : Nat) (w0 : Nat → Nat) (p0 : Nat → Nat) (p1 : Nat → Nat) (p2 : Nat → Nat) (p3 : Nat → Nat) (p4 : Nat → Nat) (A : Nat → Prop) : Array Value → State → Outcome → State → Prop := va_Qv (fun (uu : Unit) => True) (at_W G (fun (uu : Unit) => [(hM, .inr (10, mO cd st al ac nf ns gg mg bw md wy sg_ (sz_ + 1) ks bd aM)), (aM 26, .inl (ty 0, 75625, .inl (nF w0))), (aM 37, .inl (ty 0, 240, .inl (nF (va_up p0 sz_ x0)))), (aM 38, .inl (ty 0, 240, .inl (nF (va_up p1 sz_ y0)))), (aM 39, .inl (ty 0, 240, .inl (nF (va_up p2 sz_ (x1 - x0))))), (aM 40, .inl (ty 0, 240, .inl (nF (va_up p3 sz_ (y1 - y0))))), (aM 41, .inl (ty 0, 240, .inl (nF (va_up p4 sz_ (wN w0 x0 x1 y0 y1)))))]) A) A
set_option maxRecDepth 100000 in
set_option maxHeartbeats 4000000 in
theorem c_Model_put (l : Launch) (G : va_G) (ty : Nat → ClassId) (sz : Nat) (hM : Nat) (cd : Nat) (st : Nat) (al : Nat) (ac : Nat) (nf : Nat) (ns : Nat) (gg : Nat) (mg : Nat) (bw : Nat) (md : Nat) (wy : Nat) (sg_ : Nat) (sz_ : Nat) (ks : Nat) (bd : Int) (aM : Nat → Nat) (x0 : Nat) (x1 : Nat) (y0 : Nat) (y1 : Nat) (w0 : Nat → Nat) (p0 : Nat → Nat) (p1 : Nat → Nat) (p2 : Nat → Nat) (p3 : Nat → Nat) (p4 : Nat → Nat) (k1 : x0 < x1) (k2 : x1 ≤ 24) (k3 : y0 < y1) (k4 : y1 ≤ 10) (g9 : sz_ < 240) : Met l y_Model_put ws_Model_put { frames := 1, cells := 0, slots := 0, locals := 23 } (va_Pc [.ref hM, .int (nI x0), .int (nI x1), .int (nI y0), .int (nI y1)] (fun U => U.heap.size = sz ∧ va_P G vwCl [(hM, .inr (10, mO cd st al ac nf ns gg mg bw md wy sg_ sz_ ks bd aM)), (aM 26, .inl (ty 0, 75625, .inl (nF w0))), (aM 37, .inl (ty 0, 240, .inl (nF p0))), (aM 38, .inl (ty 0, 240, .inl (nF p1))), (aM 39, .inl (ty 0, 240, .inl (nF p2))), (aM 40, .inl (ty 0, 240, .inl (nF p3))), (aM 41, .inl (ty 0, 240, .inl (nF p4)))] U.heap ∧ KX G ty U ∧ va_D (fun _ => True) [(hM, .inr (10, mO cd st al ac nf ns gg mg bw md wy sg_ sz_ ks bd aM)), (aM 26, .inl (ty 0, 75625, .inl (nF w0))), (aM 37, .inl (ty 0, 240, .inl (nF p0))), (aM 38, .inl (ty 0, 240, .inl (nF p1))), (aM 39, .inl (ty 0, 240, .inl (nF p2))), (aM 40, .inl (ty 0, 240, .inl (nF p3))), (aM 41, .inl (ty 0, 240, .inl (nF p4)))])) (q_Model_put G ty hM cd st al ac nf ns gg mg bw md wy sg_ sz_ ks bd aM x0 x1 y0 y1 w0 p0 p1 p2 p3 p4 (va_A [(hM, .inr (10, mO cd st al ac nf ns gg mg bw md wy sg_ sz_ ks bd aM)), (aM 26, .inl (ty 0, 75625, .inl (nF w0))), (aM 37, .inl (ty 0, 240, .inl (nF p0))), (aM 38, .inl (ty 0, 240, .inl (nF p1))), (aM 39, .inl (ty 0, 240, .inl (nF p2))), (aM 40, .inl (ty 0, 240, .inl (nF p3))), (aM 41, .inl (ty 0, 240, .inl (nF p4)))] sz)) 0 0 (va_A [(hM, .inr (10, mO cd st al ac nf ns gg mg bw md wy sg_ sz_ ks bd aM)), (aM 26, .inl (ty 0, 75625, .inl (nF w0))), (aM 37, .inl (ty 0, 240, .inl (nF p0))), (aM 38, .inl (ty 0, 240, .inl (nF p1))), (aM 39, .inl (ty 0, 240, .inl (nF p2))), (aM 40, .inl (ty 0, 240, .inl (nF p3))), (aM 41, .inl (ty 0, 240, .inl (nF p4)))] sz) := by
  refine met_wr (y := y_Model_put) (maxL := 5) (sz := sz) (G := G) (ty := ty) (mc := 0) (ms := 0) (av := [.ref hM, .int (nI x0), .int (nI x1), .int (nI y0), .int (nI y1)]) (W0 := [(hM, .inr (10, mO cd st al ac nf ns gg mg bw md wy sg_ sz_ ks bd aM)), (aM 26, .inl (ty 0, 75625, .inl (nF w0))), (aM 37, .inl (ty 0, 240, .inl (nF p0))), (aM 38, .inl (ty 0, 240, .inl (nF p1))), (aM 39, .inl (ty 0, 240, .inl (nF p2))), (aM 40, .inl (ty 0, 240, .inl (nF p3))), (aM 41, .inl (ty 0, 240, .inl (nF p4)))]) (fun A => q_Model_put G ty hM cd st al ac nf ns gg mg bw md wy sg_ sz_ ks bd aM x0 x1 y0 y1 w0 p0 p1 p2 p3 p4 A) R_Model (by decide) rfl rfl (Nat.le_of_ble_eq_true rfl) ?_
  intro p e s m below meth c ls A hx hb hr hml hown hts hlocks hin hA hP hX hD hS hl
  have hK := hX.1
  have hl : lv_has ls 5 [(0, .ref hM), (1, .int (nI x0)), (2, .int (nI x1)), (3, .int (nI y0)), (4, .int (nI y1))] := hl
  refine lv_aload_n hx hb d_Model_put_0 rfl (lv_at hl 0 rfl) ?_
  refine va_get (D := G) (ci := 10) (v := .ref (aM 37)) (C := R_Model) (T := F_Model) (N := 47) hx hb hts in_Model hown hK hP 0 rfl rfl 37 (by decide) (hts _ fl_Model_94) (fun _ h9 => h9) rfl d_Model_put_1 ?_
  refine lv_aload_n hx hb d_Model_put_4 rfl (lv_at hl 0 rfl) ?_
  refine va_get (D := G) (ci := 10) (v := .int (nI sz_)) (C := R_Model) (T := F_Model) (N := 47) hx hb hts in_Model hown hK hP 0 rfl rfl 36 (by decide) (hts _ fl_Model_219) (fun _ h9 => h9) rfl d_Model_put_5 ?_
  refine lv_iload_n hx hb d_Model_put_8 rfl (lv_at hl 1 rfl) ?_
  refine n_iast hx hb hK hP hD hS 2 0 rfl rfl (by omega) (by omega) d_Model_put_9 (fun H locs hP hD hS => ?_)
  rw [upd_nF] at hP hD
  have hP : va_P G vwCl [(hM, .inr (10, mO cd st al ac nf ns gg mg bw md wy sg_ sz_ ks bd aM)), (aM 26, .inl (ty 0, 75625, .inl (nF w0))), (aM 37, .inl (ty 0, 240, .inl (nF (va_up p0 sz_ x0)))), (aM 38, .inl (ty 0, 240, .inl (nF p1))), (aM 39, .inl (ty 0, 240, .inl (nF p2))), (aM 40, .inl (ty 0, 240, .inl (nF p3))), (aM 41, .inl (ty 0, 240, .inl (nF p4)))] _ := hP
  have hD : va_D A [(hM, .inr (10, mO cd st al ac nf ns gg mg bw md wy sg_ sz_ ks bd aM)), (aM 26, .inl (ty 0, 75625, .inl (nF w0))), (aM 37, .inl (ty 0, 240, .inl (nF (va_up p0 sz_ x0)))), (aM 38, .inl (ty 0, 240, .inl (nF p1))), (aM 39, .inl (ty 0, 240, .inl (nF p2))), (aM 40, .inl (ty 0, 240, .inl (nF p3))), (aM 41, .inl (ty 0, 240, .inl (nF p4)))] := hD
  refine lv_aload_n hx hb d_Model_put_10 rfl (lv_at hl 0 rfl) ?_
  refine va_get (D := G) (ci := 10) (v := .ref (aM 38)) (C := R_Model) (T := F_Model) (N := 47) hx hb hts in_Model hown hK hP 0 rfl rfl 38 (by decide) (hts _ fl_Model_97) (fun _ h9 => h9) rfl d_Model_put_11 ?_
  refine lv_aload_n hx hb d_Model_put_14 rfl (lv_at hl 0 rfl) ?_
  refine va_get (D := G) (ci := 10) (v := .int (nI sz_)) (C := R_Model) (T := F_Model) (N := 47) hx hb hts in_Model hown hK hP 0 rfl rfl 36 (by decide) (hts _ fl_Model_219) (fun _ h9 => h9) rfl d_Model_put_15 ?_
  refine lv_iload_n hx hb d_Model_put_18 rfl (lv_at hl 3 rfl) ?_
  refine n_iast hx hb hK hP hD hS 3 0 rfl rfl (by omega) (by omega) d_Model_put_19 (fun H locs hP hD hS => ?_)
  rw [upd_nF] at hP hD
  have hP : va_P G vwCl [(hM, .inr (10, mO cd st al ac nf ns gg mg bw md wy sg_ sz_ ks bd aM)), (aM 26, .inl (ty 0, 75625, .inl (nF w0))), (aM 37, .inl (ty 0, 240, .inl (nF (va_up p0 sz_ x0)))), (aM 38, .inl (ty 0, 240, .inl (nF (va_up p1 sz_ y0)))), (aM 39, .inl (ty 0, 240, .inl (nF p2))), (aM 40, .inl (ty 0, 240, .inl (nF p3))), (aM 41, .inl (ty 0, 240, .inl (nF p4)))] _ := hP
  have hD : va_D A [(hM, .inr (10, mO cd st al ac nf ns gg mg bw md wy sg_ sz_ ks bd aM)), (aM 26, .inl (ty 0, 75625, .inl (nF w0))), (aM 37, .inl (ty 0, 240, .inl (nF (va_up p0 sz_ x0)))), (aM 38, .inl (ty 0, 240, .inl (nF (va_up p1 sz_ y0)))), (aM 39, .inl (ty 0, 240, .inl (nF p2))), (aM 40, .inl (ty 0, 240, .inl (nF p3))), (aM 41, .inl (ty 0, 240, .inl (nF p4)))] := hD
  refine lv_aload_n hx hb d_Model_put_20 rfl (lv_at hl 0 rfl) ?_
  refine va_get (D := G) (ci := 10) (v := .ref (aM 39)) (C := R_Model) (T := F_Model) (N := 47) hx hb hts in_Model hown hK hP 0 rfl rfl 39 (by decide) (hts _ fl_Model_100) (fun _ h9 => h9) rfl d_Model_put_21 ?_
  refine lv_aload_n hx hb d_Model_put_24 rfl (lv_at hl 0 rfl) ?_
  refine va_get (D := G) (ci := 10) (v := .int (nI sz_)) (C := R_Model) (T := F_Model) (N := 47) hx hb hts in_Model hown hK hP 0 rfl rfl 36 (by decide) (hts _ fl_Model_219) (fun _ h9 => h9) rfl d_Model_put_25 ?_
  refine lv_iload_n hx hb d_Model_put_28 rfl (lv_at hl 2 rfl) ?_
  refine lv_iload_n hx hb d_Model_put_29 rfl (lv_at hl 1 rfl) ?_
  refine n_isub hx hb (by omega) d_Model_put_30 ?_
  refine n_iast hx hb hK hP hD hS 4 0 rfl rfl (by omega) (by omega) d_Model_put_31 (fun H locs hP hD hS => ?_)
  rw [upd_nF] at hP hD
  have hP : va_P G vwCl [(hM, .inr (10, mO cd st al ac nf ns gg mg bw md wy sg_ sz_ ks bd aM)), (aM 26, .inl (ty 0, 75625, .inl (nF w0))), (aM 37, .inl (ty 0, 240, .inl (nF (va_up p0 sz_ x0)))), (aM 38, .inl (ty 0, 240, .inl (nF (va_up p1 sz_ y0)))), (aM 39, .inl (ty 0, 240, .inl (nF (va_up p2 sz_ (x1 - x0))))), (aM 40, .inl (ty 0, 240, .inl (nF p3))), (aM 41, .inl (ty 0, 240, .inl (nF p4)))] _ := hP
  have hD : va_D A [(hM, .inr (10, mO cd st al ac nf ns gg mg bw md wy sg_ sz_ ks bd aM)), (aM 26, .inl (ty 0, 75625, .inl (nF w0))), (aM 37, .inl (ty 0, 240, .inl (nF (va_up p0 sz_ x0)))), (aM 38, .inl (ty 0, 240, .inl (nF (va_up p1 sz_ y0)))), (aM 39, .inl (ty 0, 240, .inl (nF (va_up p2 sz_ (x1 - x0))))), (aM 40, .inl (ty 0, 240, .inl (nF p3))), (aM 41, .inl (ty 0, 240, .inl (nF p4)))] := hD
  refine lv_aload_n hx hb d_Model_put_32 rfl (lv_at hl 0 rfl) ?_
  refine va_get (D := G) (ci := 10) (v := .ref (aM 40)) (C := R_Model) (T := F_Model) (N := 47) hx hb hts in_Model hown hK hP 0 rfl rfl 40 (by decide) (hts _ fl_Model_103) (fun _ h9 => h9) rfl d_Model_put_33 ?_
  refine lv_aload_n hx hb d_Model_put_36 rfl (lv_at hl 0 rfl) ?_
  refine va_get (D := G) (ci := 10) (v := .int (nI sz_)) (C := R_Model) (T := F_Model) (N := 47) hx hb hts in_Model hown hK hP 0 rfl rfl 36 (by decide) (hts _ fl_Model_219) (fun _ h9 => h9) rfl d_Model_put_37 ?_
  refine lv_iload hx hb d_Model_put_40 (lv_at hl 4 rfl) ?_
  refine lv_iload_n hx hb d_Model_put_42 rfl (lv_at hl 3 rfl) ?_
  refine n_isub hx hb (by omega) d_Model_put_43 ?_
  refine n_iast hx hb hK hP hD hS 5 0 rfl rfl (by omega) (by omega) d_Model_put_44 (fun H locs hP hD hS => ?_)
  rw [upd_nF] at hP hD
  have hP : va_P G vwCl [(hM, .inr (10, mO cd st al ac nf ns gg mg bw md wy sg_ sz_ ks bd aM)), (aM 26, .inl (ty 0, 75625, .inl (nF w0))), (aM 37, .inl (ty 0, 240, .inl (nF (va_up p0 sz_ x0)))), (aM 38, .inl (ty 0, 240, .inl (nF (va_up p1 sz_ y0)))), (aM 39, .inl (ty 0, 240, .inl (nF (va_up p2 sz_ (x1 - x0))))), (aM 40, .inl (ty 0, 240, .inl (nF (va_up p3 sz_ (y1 - y0))))), (aM 41, .inl (ty 0, 240, .inl (nF p4)))] _ := hP
  have hD : va_D A [(hM, .inr (10, mO cd st al ac nf ns gg mg bw md wy sg_ sz_ ks bd aM)), (aM 26, .inl (ty 0, 75625, .inl (nF w0))), (aM 37, .inl (ty 0, 240, .inl (nF (va_up p0 sz_ x0)))), (aM 38, .inl (ty 0, 240, .inl (nF (va_up p1 sz_ y0)))), (aM 39, .inl (ty 0, 240, .inl (nF (va_up p2 sz_ (x1 - x0))))), (aM 40, .inl (ty 0, 240, .inl (nF (va_up p3 sz_ (y1 - y0))))), (aM 41, .inl (ty 0, 240, .inl (nF p4)))] := hD
  refine lv_aload_n hx hb d_Model_put_45 rfl (lv_at hl 0 rfl) ?_
  refine va_get (D := G) (ci := 10) (v := .ref (aM 41)) (C := R_Model) (T := F_Model) (N := 47) hx hb hts in_Model hown hK hP 0 rfl rfl 41 (by decide) (hts _ fl_Model_106) (fun _ h9 => h9) rfl d_Model_put_46 ?_
  refine lv_aload_n hx hb d_Model_put_49 rfl (lv_at hl 0 rfl) ?_
  refine va_get (D := G) (ci := 10) (v := .int (nI sz_)) (C := R_Model) (T := F_Model) (N := 47) hx hb hts in_Model hown hK hP 0 rfl rfl 36 (by decide) (hts _ fl_Model_219) (fun _ h9 => h9) rfl d_Model_put_50 ?_
  refine lv_aload_n hx hb d_Model_put_53 rfl (lv_at hl 0 rfl) ?_
  refine va_get (D := G) (ci := 10) (v := .ref (aM 26)) (C := R_Model) (T := F_Model) (N := 47) hx hb hts in_Model hown hK hP 0 rfl rfl 26 (by decide) (hts _ fl_Model_70) (fun _ h9 => h9) rfl d_Model_put_54 ?_
  refine lv_iload_n hx hb d_Model_put_57 rfl (lv_at hl 1 rfl) ?_
  refine lv_iload_n hx hb d_Model_put_58 rfl (lv_at hl 2 rfl) ?_
  refine lv_iload_n hx hb d_Model_put_59 rfl (lv_at hl 3 rfl) ?_
  refine lv_iload hx hb d_Model_put_60 (lv_at hl 4 rfl) ?_
  refine vp_callSi (W.runS (As := [.int (nI x0), .int (nI x1), .int (nI y0), .int (nI y1)]) (rest := [.ref (aM 26), .int (nI sz_), .ref (aM 41)]) ⟨hx, hb, hml, hown, hts⟩ (c_Model_number l G ty x0 x1 y0 y1 ) ⟨callB_of 4 hts (gd_TB cd_Model_number) rfl rfl rfl (hts _ ini_Model) (hts _ lk_Model_186) hd_Model_number ⟨Nat.le_of_ble_eq_true rfl, Nat.le_of_ble_eq_true rfl⟩, hts _ st_Model_number⟩ (preS_ro (hP.sub (ws' := []) [] rfl) hX) rfl rfl hl.1 rfl (lv_room (Nat.le_of_ble_eq_true rfl)) d_Model_put_62 ⟨Nat.le_of_ble_eq_true rfl, Nat.le_of_ble_eq_true rfl⟩) (fun r9 er9 => ?_)
  subst er9
  refine n_iald hx hb hK hP 1 0 rfl rfl (by omega) (by omega) d_Model_put_65 ?_
  refine top_i (show (nI (w0 (((25 * x0 + x1) * 11 + y0) * 11 + y1))) = (nI (wN w0 x0 x1 y0 y1)) from rfl) ?_
  refine n_iast hx hb hK hP hD hS 6 0 rfl rfl (by omega) (by omega) d_Model_put_66 (fun H locs hP hD hS => ?_)
  rw [upd_nF] at hP hD
  have hP : va_P G vwCl [(hM, .inr (10, mO cd st al ac nf ns gg mg bw md wy sg_ sz_ ks bd aM)), (aM 26, .inl (ty 0, 75625, .inl (nF w0))), (aM 37, .inl (ty 0, 240, .inl (nF (va_up p0 sz_ x0)))), (aM 38, .inl (ty 0, 240, .inl (nF (va_up p1 sz_ y0)))), (aM 39, .inl (ty 0, 240, .inl (nF (va_up p2 sz_ (x1 - x0))))), (aM 40, .inl (ty 0, 240, .inl (nF (va_up p3 sz_ (y1 - y0))))), (aM 41, .inl (ty 0, 240, .inl (nF (va_up p4 sz_ (wN w0 x0 x1 y0 y1)))))] _ := hP
  have hD : va_D A [(hM, .inr (10, mO cd st al ac nf ns gg mg bw md wy sg_ sz_ ks bd aM)), (aM 26, .inl (ty 0, 75625, .inl (nF w0))), (aM 37, .inl (ty 0, 240, .inl (nF (va_up p0 sz_ x0)))), (aM 38, .inl (ty 0, 240, .inl (nF (va_up p1 sz_ y0)))), (aM 39, .inl (ty 0, 240, .inl (nF (va_up p2 sz_ (x1 - x0))))), (aM 40, .inl (ty 0, 240, .inl (nF (va_up p3 sz_ (y1 - y0))))), (aM 41, .inl (ty 0, 240, .inl (nF (va_up p4 sz_ (wN w0 x0 x1 y0 y1)))))] := hD
  refine lv_aload_n hx hb d_Model_put_67 rfl (lv_at hl 0 rfl) ?_
  refine lv_dup hx hb d_Model_put_68 rfl ?_
  refine va_get (D := G) (ci := 10) (v := .int (nI sz_)) (C := R_Model) (T := F_Model) (N := 47) hx hb hts in_Model hown hK hP 0 rfl rfl 36 (by decide) (hts _ fl_Model_219) (fun _ h9 => h9) rfl d_Model_put_69 ?_
  refine lv_iconst (v := (nI 1)) hx hb d_Model_put_72 (by decide) ?_
  refine n_iadd hx hb d_Model_put_73 ?_
  refine va_put (D := G) (ci := 10) (v := .int (nI (sz_ + 1))) (ty := .int) (C := R_Model) (T := F_Model) (N := 47) hx hb hts in_Model t_Model t_Model_ok n_Model hown hK hP hD hS 0 rfl rfl 36 (by decide) (hts _ fl_Model_219) (fun _ h9 => h9) rfl (by decide +kernel) rfl rfl (Nat.le_of_ble_eq_true rfl) d_Model_put_74 (fun H locs hP hD hS => ?_)
  have hP : va_P G vwCl [(hM, .inr (10, mO cd st al ac nf ns gg mg bw md wy sg_ (sz_ + 1) ks bd aM)), (aM 26, .inl (ty 0, 75625, .inl (nF w0))), (aM 37, .inl (ty 0, 240, .inl (nF (va_up p0 sz_ x0)))), (aM 38, .inl (ty 0, 240, .inl (nF (va_up p1 sz_ y0)))), (aM 39, .inl (ty 0, 240, .inl (nF (va_up p2 sz_ (x1 - x0))))), (aM 40, .inl (ty 0, 240, .inl (nF (va_up p3 sz_ (y1 - y0))))), (aM 41, .inl (ty 0, 240, .inl (nF (va_up p4 sz_ (wN w0 x0 x1 y0 y1)))))] _ := hP
  have hD : va_D A [(hM, .inr (10, mO cd st al ac nf ns gg mg bw md wy sg_ (sz_ + 1) ks bd aM)), (aM 26, .inl (ty 0, 75625, .inl (nF w0))), (aM 37, .inl (ty 0, 240, .inl (nF (va_up p0 sz_ x0)))), (aM 38, .inl (ty 0, 240, .inl (nF (va_up p1 sz_ y0)))), (aM 39, .inl (ty 0, 240, .inl (nF (va_up p2 sz_ (x1 - x0))))), (aM 40, .inl (ty 0, 240, .inl (nF (va_up p3 sz_ (y1 - y0))))), (aM 41, .inl (ty 0, 240, .inl (nF (va_up p4 sz_ (wN w0 x0 x1 y0 y1)))))] := hD
  exact W.vret hx hb hr (fun t9 ht hW => ⟨⟨(), rfl, trivial, by rw [ht]; exact hP, hD⟩, hS.F ht⟩) hS.2.2 d_Model_put_77
