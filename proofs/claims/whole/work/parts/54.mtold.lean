theorem fl_Model_135 : Cond.fieldLink R_Model 135 "FaultRipsModel" "made" "Z" ∈ TB := mem_TB 885 (by decide +kernel) (by decide +kernel)
theorem kc_Model_131 : Cond.constant R_Model 131 (nI 65536) ∈ TB := mem_TB 851 (by decide +kernel) (by decide +kernel)
theorem kc_Model_147 : Cond.constantLong R_Model 147 (iL 65536) ∈ TB := mem_TB 1007 (by decide +kernel) (by decide +kernel)
theorem kc_Model_171 : Cond.constantLong R_Model 171 (iL 1000) ∈ TB := mem_TB 1037 (by decide +kernel) (by decide +kernel)
theorem kc_Model_176 : Cond.constantLong R_Model 176 (iL 16777216) ∈ TB := mem_TB 1046 (by decide +kernel) (by decide +kernel)
theorem lk_Model_141 : Cond.methodLink R_Model 141 y_Model_isIn ∈ TB := mem_TB 1003 (by decide +kernel) (by decide +kernel)
theorem lk_Model_152 : Cond.methodLink R_Model 152 y_Model_told ∈ TB := mem_TB 1008 (by decide +kernel) (by decide +kernel)
theorem lk_Model_161 : Cond.methodLink R_Model 161 y_Model_stepsOf ∈ TB := mem_TB 1017 (by decide +kernel) (by decide +kernel)
theorem lk_Model_164 : Cond.methodLink R_Model 164 y_Model_noPiece ∈ TB := mem_TB 1025 (by decide +kernel) (by decide +kernel)

theorem col_0 (fd : Nat → Nat → Int) (n : Nat) (a b c d e f : Int) : va_up (col fd 0) n a = col (va_up fd n (fun j => [a, b, c, d, e, f].getD j 0)) 0 := by funext i; unfold col va_up; split <;> rfl
theorem col_1 (fd : Nat → Nat → Int) (n : Nat) (a b c d e f : Int) : va_up (col fd 1) n b = col (va_up fd n (fun j => [a, b, c, d, e, f].getD j 0)) 1 := by funext i; unfold col va_up; split <;> rfl
theorem col_2 (fd : Nat → Nat → Int) (n : Nat) (a b c d e f : Int) : va_up (col fd 2) n c = col (va_up fd n (fun j => [a, b, c, d, e, f].getD j 0)) 2 := by funext i; unfold col va_up; split <;> rfl
theorem col_3 (fd : Nat → Nat → Int) (n : Nat) (a b c d e f : Int) : va_up (col fd 3) n d = col (va_up fd n (fun j => [a, b, c, d, e, f].getD j 0)) 3 := by funext i; unfold col va_up; split <;> rfl
theorem col_4 (fd : Nat → Nat → Int) (n : Nat) (a b c d e f : Int) : va_up (col fd 4) n e = col (va_up fd n (fun j => [a, b, c, d, e, f].getD j 0)) 4 := by funext i; unfold col va_up; split <;> rfl
theorem col_5 (fd : Nat → Nat → Int) (n : Nat) (a b c d e f : Int) : va_up (col fd 5) n f = col (va_up fd n (fun j => [a, b, c, d, e, f].getD j 0)) 5 := by funext i; unfold col va_up; split <;> rfl

abbrev q_Model_nearest (G : va_G) (ty : Nat → ClassId) (v : Int) : Array Value → State → Outcome → State → Prop := vp_Si (fun r : Int32 => r = (iI (max 1 (min 65536 v))))
set_option maxRecDepth 100000 in
set_option maxHeartbeats 4000000 in
theorem c_Model_nearest (l : Launch) (G : va_G) (ty : Nat → ClassId) (v : Int) (g1 : -2147483648 ≤ v ∧ v ≤ 2147483647) : Met l y_Model_nearest ws_Model_nearest { frames := 0, cells := 0, slots := 0, locals := 0 } (va_Pc [.int (iI v)] (fun U => va_P G vwCl [] U.heap ∧ KX G ty U)) (q_Model_nearest G ty v) 0 0 (fun _ => False) := by
  refine met_ro R_Model (by decide) rfl rfl (Nat.le_of_ble_eq_true rfl) ?_
  intro p e s m below meth c ls hx hb hr hml hown hts hlocks hP hX hl
  have hK := hX.1
  have hl : lv_has ls 1 [(0, .int (iI v))] := hl
  refine lv_iload_n hx hb d_Model_nearest_0 rfl (lv_at hl 0 rfl) ?_
  refine lv_iconst (v := (nI 1)) hx hb d_Model_nearest_1 (by decide) ?_
  refine zn_icmp_ge (tgt := 9) hx hb (by omega) (by omega) d_Model_nearest_2 (by decide) (fun c2 => ?_) (fun c2 => ?_)
  · refine lv_iload_n hx hb d_Model_nearest_9 rfl (lv_at hl 0 rfl) ?_
    refine lv_ldc (v := (nI 65536)) hx hb hown (hts _ kc_Model_131) d_Model_nearest_10 ?_
    refine zn_icmp_le (tgt := 20) hx hb (by omega) (by omega) d_Model_nearest_12 (by decide) (fun c12 => ?_) (fun c12 => ?_)
    · refine lv_iload_n hx hb d_Model_nearest_20 rfl (lv_at hl 0 rfl) ?_
      exact W.iret (v := (iI v)) hx hb hr (fun t9 ht _ => ⟨_, rfl, congrArg iI (by omega), ht⟩) (fun q h => by cases h) d_Model_nearest_21
    · refine lv_ldc (v := (nI 65536)) hx hb hown (hts _ kc_Model_131) d_Model_nearest_15 ?_
      refine lv_goto (tgt := 21) hx hb d_Model_nearest_17 (by decide) ?_
      exact W.iret (v := (nI 65536)) hx hb hr (fun t9 ht _ => ⟨_, rfl, by rw [nI_iI]; exact congrArg iI (by omega), ht⟩) (fun q h => by cases h) d_Model_nearest_21
  · refine lv_iconst (v := (nI 1)) hx hb d_Model_nearest_5 (by decide) ?_
    refine lv_goto (tgt := 21) hx hb d_Model_nearest_6 (by decide) ?_
    exact W.iret (v := (nI 1)) hx hb hr (fun t9 ht _ => ⟨_, rfl, by rw [nI_iI]; exact congrArg iI (by omega), ht⟩) (fun q h => by cases h) d_Model_nearest_21

abbrev q_told1 (G : va_G) (ty : Nat → ClassId) (hM : Nat) (cd : Nat) (st : Nat) (al : Nat) (ac : Nat) (nf : Nat) (ns : Nat) (gg : Nat) (mg : Nat) (bw : Nat) (md : Nat) (wy : Nat) (sg_ : Nat) (sz_ : Nat) (ks : Nat) (bd : Int) (aM : Nat → Nat) (A : Nat → Prop) : Array Value → State → Outcome → State → Prop := va_Qi (fun (r : Int32) => fun (uu : Unit) => r = (nI 1)) (at_W G (fun (uu : Unit) => [(hM, .inr (10, mO cd st al ac nf ns gg mg bw 0 wy sg_ sz_ ks bd aM))]) A) A
set_option maxRecDepth 100000 in
set_option maxHeartbeats 4000000 in
theorem c_told1 (l : Launch) (G : va_G) (ty : Nat → ClassId) (sz : Nat) (hM : Nat) (cd : Nat) (st : Nat) (al : Nat) (ac : Nat) (nf : Nat) (ns : Nat) (gg : Nat) (mg : Nat) (bw : Nat) (md : Nat) (wy : Nat) (sg_ : Nat) (sz_ : Nat) (ks : Nat) (bd : Int) (aM : Nat → Nat) (g1 : md ≤ 1) : Met l y_Model_told ws_Model_told { frames := 0, cells := 0, slots := 0, locals := 0 } (va_Pc [.ref hM, .int (nI 1)] (fun U => U.heap.size = sz ∧ va_P G vwCl [(hM, .inr (10, mO cd st al ac nf ns gg mg bw md wy sg_ sz_ ks bd aM))] U.heap ∧ KX G ty U ∧ va_D (fun _ => True) [(hM, .inr (10, mO cd st al ac nf ns gg mg bw md wy sg_ sz_ ks bd aM))])) (q_told1 G ty hM cd st al ac nf ns gg mg bw md wy sg_ sz_ ks bd aM (va_A [(hM, .inr (10, mO cd st al ac nf ns gg mg bw md wy sg_ sz_ ks bd aM))] sz)) 0 0 (va_A [(hM, .inr (10, mO cd st al ac nf ns gg mg bw md wy sg_ sz_ ks bd aM))] sz) := by
  refine met_wr (y := y_Model_told) (maxL := 2) (sz := sz) (G := G) (ty := ty) (mc := 0) (ms := 0) (av := [.ref hM, .int (nI 1)]) (W0 := [(hM, .inr (10, mO cd st al ac nf ns gg mg bw md wy sg_ sz_ ks bd aM))]) (fun A => q_told1 G ty hM cd st al ac nf ns gg mg bw md wy sg_ sz_ ks bd aM A) R_Model (by decide) rfl rfl (Nat.le_of_ble_eq_true rfl) ?_
  intro p e s m below meth c ls A hx hb hr hml hown hts hlocks hin hA hP hX hD hS hl
  have hK := hX.1
  have hl : lv_has ls 2 [(0, .ref hM), (1, .int (nI 1))] := hl
  refine lv_aload_n hx hb d_Model_told_0 rfl (lv_at hl 0 rfl) ?_
  refine lv_aload_n hx hb d_Model_told_1 rfl (lv_at hl 0 rfl) ?_
  refine va_get (D := G) (ci := 10) (v := .int (nI md)) (C := R_Model) (T := F_Model) (N := 47) hx hb hts in_Model hown hK hP 0 rfl rfl 33 (by decide) (hts _ fl_Model_135) (fun _ h9 => h9) rfl d_Model_told_2 ?_
  refine n_if_eq (tgt := 16) hx hb (by omega) d_Model_told_5 (by decide) (fun c5 => ?_) (fun c5 => ?_)
  · refine lv_iconst (v := (nI 0)) hx hb d_Model_told_16 (by decide) ?_
    refine va_put (D := G) (ci := 10) (v := .int (nI 0)) (ty := .boolean) (C := R_Model) (T := F_Model) (N := 47) hx hb hts in_Model t_Model t_Model_ok n_Model hown hK hP hD hS 0 rfl rfl 33 (by decide) (hts _ fl_Model_135) (fun _ h9 => h9) rfl (by decide +kernel) nar_b0 fit_b0 (Nat.le_of_ble_eq_true rfl) d_Model_told_17 (fun H locs hP hD hS => ?_)
    have hP : va_P G vwCl [(hM, .inr (10, mO cd st al ac nf ns gg mg bw 0 wy sg_ sz_ ks bd aM))] _ := hP
    have hD : va_D A [(hM, .inr (10, mO cd st al ac nf ns gg mg bw 0 wy sg_ sz_ ks bd aM))] := hD
    refine lv_iload_n hx hb d_Model_told_20 rfl (lv_at hl 1 rfl) ?_
    exact W.zret (v := (nI 1)) hx hb hr nar_b1 (fun t9 ht hW => ⟨⟨_, (), rfl, rfl, by rw [ht]; exact hP, hD⟩, hS.F ht⟩) hS.2.2 d_Model_told_21
  · refine lv_iload_n hx hb d_Model_told_8 rfl (lv_at hl 1 rfl) ?_
    refine n_if_ne (tgt := 16) hx hb (by omega) d_Model_told_9 (by decide) (fun c9 => ?_) (fun c9 => absurd c9 (by omega))
    refine lv_iconst (v := (nI 0)) hx hb d_Model_told_16 (by decide) ?_
    refine va_put (D := G) (ci := 10) (v := .int (nI 0)) (ty := .boolean) (C := R_Model) (T := F_Model) (N := 47) hx hb hts in_Model t_Model t_Model_ok n_Model hown hK hP hD hS 0 rfl rfl 33 (by decide) (hts _ fl_Model_135) (fun _ h9 => h9) rfl (by decide +kernel) nar_b0 fit_b0 (Nat.le_of_ble_eq_true rfl) d_Model_told_17 (fun H locs hP hD hS => ?_)
    have hP : va_P G vwCl [(hM, .inr (10, mO cd st al ac nf ns gg mg bw 0 wy sg_ sz_ ks bd aM))] _ := hP
    have hD : va_D A [(hM, .inr (10, mO cd st al ac nf ns gg mg bw 0 wy sg_ sz_ ks bd aM))] := hD
    refine lv_iload_n hx hb d_Model_told_20 rfl (lv_at hl 1 rfl) ?_
    exact W.zret (v := (nI 1)) hx hb hr nar_b1 (fun t9 ht hW => ⟨⟨_, (), rfl, rfl, by rw [ht]; exact hP, hD⟩, hS.F ht⟩) hS.2.2 d_Model_told_21

abbrev q_Model_noPiece (G : va_G) (ty : Nat → ClassId) (hM : Nat) (cd : Nat) (st : Nat) (al : Nat) (ac : Nat) (nf : Nat) (ns : Nat) (gg : Nat) (mg : Nat) (bw : Nat) (md : Nat) (wy : Nat) (sg_ : Nat) (sz_ : Nat) (ks : Nat) (bd : Int) (aM : Nat → Nat) (pi : Int) (A : Nat → Prop) : Array Value → State → Outcome → State → Prop := va_Qi (fun (r : Int32) => fun (uu : Unit) => r = (nI ((decide (pi < 0 ∨ (ns : Int) ≤ pi)).toNat))) (at_W G (fun (uu : Unit) => [(hM, .inr (10, mO ((decide (pi < 0 ∨ (ns : Int) ≤ pi)).toNat) st al ac nf ns gg mg bw md wy sg_ sz_ ks bd aM))]) A) A
set_option maxRecDepth 100000 in
set_option maxHeartbeats 4000000 in
theorem c_Model_noPiece (l : Launch) (G : va_G) (ty : Nat → ClassId) (sz : Nat) (hM : Nat) (cd : Nat) (st : Nat) (al : Nat) (ac : Nat) (nf : Nat) (ns : Nat) (gg : Nat) (mg : Nat) (bw : Nat) (md : Nat) (wy : Nat) (sg_ : Nat) (sz_ : Nat) (ks : Nat) (bd : Int) (aM : Nat → Nat) (pi : Int) (g1 : -2147483648 ≤ pi ∧ pi ≤ 2147483647) (g2 : ns ≤ 8) : Met l y_Model_noPiece ws_Model_noPiece { frames := 0, cells := 0, slots := 0, locals := 0 } (va_Pc [.ref hM, .int (iI pi)] (fun U => U.heap.size = sz ∧ va_P G vwCl [(hM, .inr (10, mO cd st al ac nf ns gg mg bw md wy sg_ sz_ ks bd aM))] U.heap ∧ KX G ty U ∧ va_D (fun _ => True) [(hM, .inr (10, mO cd st al ac nf ns gg mg bw md wy sg_ sz_ ks bd aM))])) (q_Model_noPiece G ty hM cd st al ac nf ns gg mg bw md wy sg_ sz_ ks bd aM pi (va_A [(hM, .inr (10, mO cd st al ac nf ns gg mg bw md wy sg_ sz_ ks bd aM))] sz)) 0 0 (va_A [(hM, .inr (10, mO cd st al ac nf ns gg mg bw md wy sg_ sz_ ks bd aM))] sz) := by
  refine met_wr (y := y_Model_noPiece) (maxL := 2) (sz := sz) (G := G) (ty := ty) (mc := 0) (ms := 0) (av := [.ref hM, .int (iI pi)]) (W0 := [(hM, .inr (10, mO cd st al ac nf ns gg mg bw md wy sg_ sz_ ks bd aM))]) (fun A => q_Model_noPiece G ty hM cd st al ac nf ns gg mg bw md wy sg_ sz_ ks bd aM pi A) R_Model (by decide) rfl rfl (Nat.le_of_ble_eq_true rfl) ?_
  intro p e s m below meth c ls A hx hb hr hml hown hts hlocks hin hA hP hX hD hS hl
  have hK := hX.1
  have hl : lv_has ls 2 [(0, .ref hM), (1, .int (iI pi))] := hl
  refine lv_aload_n hx hb d_Model_noPiece_0 rfl (lv_at hl 0 rfl) ?_
  refine lv_iload_n hx hb d_Model_noPiece_1 rfl (lv_at hl 1 rfl) ?_
  refine z_if_lt (tgt := 13) hx hb (by omega) d_Model_noPiece_2 (by decide) (fun c2 => ?_) (fun c2 => ?_)
  · refine lv_iconst (v := (nI 1)) hx hb d_Model_noPiece_13 (by decide) ?_
    refine lv_goto (tgt := 18) hx hb d_Model_noPiece_14 (by decide) ?_
    refine va_put (D := G) (ci := 10) (v := .int (nI 1)) (ty := .int) (C := R_Model) (T := F_Model) (N := 47) hx hb hts in_Model t_Model t_Model_ok n_Model hown hK hP hD hS 0 rfl rfl 0 (by decide) (hts _ fl_Model_132) (fun _ h9 => h9) rfl (by decide +kernel) rfl rfl (Nat.le_of_ble_eq_true rfl) d_Model_noPiece_18 (fun H locs hP hD hS => ?_)
    have hP : va_P G vwCl [(hM, .inr (10, mO 1 st al ac nf ns gg mg bw md wy sg_ sz_ ks bd aM))] _ := hP
    have hD : va_D A [(hM, .inr (10, mO 1 st al ac nf ns gg mg bw md wy sg_ sz_ ks bd aM))] := hD
    refine lv_aload_n hx hb d_Model_noPiece_21 rfl (lv_at hl 0 rfl) ?_
    refine va_get (D := G) (ci := 10) (v := .int (nI 1)) (C := R_Model) (T := F_Model) (N := 47) hx hb hts in_Model hown hK hP 0 rfl rfl 0 (by decide) (hts _ fl_Model_132) (fun _ h9 => h9) rfl d_Model_noPiece_22 ?_
    refine n_if_le (tgt := 32) hx hb (by omega) d_Model_noPiece_25 (by decide) (fun c25 => absurd c25 (by omega)) (fun c25 => ?_)
    refine lv_iconst (v := (nI 1)) hx hb d_Model_noPiece_28 (by decide) ?_
    refine lv_goto (tgt := 33) hx hb d_Model_noPiece_29 (by decide) ?_
    have eB : (decide (pi < 0 ∨ (ns : Int) ≤ pi)).toNat = 1 := by rw [decide_eq_true (by omega)]; rfl
    have hP : va_P G vwCl [(hM, .inr (10, mO ((decide (pi < 0 ∨ (ns : Int) ≤ pi)).toNat) st al ac nf ns gg mg bw md wy sg_ sz_ ks bd aM))] H := by rw [eB]; exact hP
    have hD : va_D A [(hM, .inr (10, mO ((decide (pi < 0 ∨ (ns : Int) ≤ pi)).toNat) st al ac nf ns gg mg bw md wy sg_ sz_ ks bd aM))] := by rw [eB]; exact hD
    exact W.zret (v := (nI 1)) hx hb hr nar_b1 (fun t9 ht hW => ⟨⟨_, (), rfl, congrArg nI eB.symm, by rw [ht]; exact hP, hD⟩, hS.F ht⟩) hS.2.2 d_Model_noPiece_33
  · refine lv_iload_n hx hb d_Model_noPiece_5 rfl (lv_at hl 1 rfl) ?_
    refine lv_aload_n hx hb d_Model_noPiece_6 rfl (lv_at hl 0 rfl) ?_
    refine va_get (D := G) (ci := 10) (v := .int (nI ns)) (C := R_Model) (T := F_Model) (N := 47) hx hb hts in_Model hown hK hP 0 rfl rfl 11 (by decide) (hts _ fl_Model_158) (fun _ h9 => h9) rfl d_Model_noPiece_7 ?_
    refine zn_icmp_lt (tgt := 17) hx hb (by omega) (by omega) d_Model_noPiece_10 (by decide) (fun c10 => ?_) (fun c10 => ?_)
    · refine lv_iconst (v := (nI 0)) hx hb d_Model_noPiece_17 (by decide) ?_
      refine va_put (D := G) (ci := 10) (v := .int (nI 0)) (ty := .int) (C := R_Model) (T := F_Model) (N := 47) hx hb hts in_Model t_Model t_Model_ok n_Model hown hK hP hD hS 0 rfl rfl 0 (by decide) (hts _ fl_Model_132) (fun _ h9 => h9) rfl (by decide +kernel) rfl rfl (Nat.le_of_ble_eq_true rfl) d_Model_noPiece_18 (fun H locs hP hD hS => ?_)
      have hP : va_P G vwCl [(hM, .inr (10, mO 0 st al ac nf ns gg mg bw md wy sg_ sz_ ks bd aM))] _ := hP
      have hD : va_D A [(hM, .inr (10, mO 0 st al ac nf ns gg mg bw md wy sg_ sz_ ks bd aM))] := hD
      refine lv_aload_n hx hb d_Model_noPiece_21 rfl (lv_at hl 0 rfl) ?_
      refine va_get (D := G) (ci := 10) (v := .int (nI 0)) (C := R_Model) (T := F_Model) (N := 47) hx hb hts in_Model hown hK hP 0 rfl rfl 0 (by decide) (hts _ fl_Model_132) (fun _ h9 => h9) rfl d_Model_noPiece_22 ?_
      refine n_if_le (tgt := 32) hx hb (by omega) d_Model_noPiece_25 (by decide) (fun c25 => ?_) (fun c25 => absurd c25 (by omega))
      refine lv_iconst (v := (nI 0)) hx hb d_Model_noPiece_32 (by decide) ?_
      have eB : (decide (pi < 0 ∨ (ns : Int) ≤ pi)).toNat = 0 := by rw [decide_eq_false (by omega)]; rfl
      have hP : va_P G vwCl [(hM, .inr (10, mO ((decide (pi < 0 ∨ (ns : Int) ≤ pi)).toNat) st al ac nf ns gg mg bw md wy sg_ sz_ ks bd aM))] H := by rw [eB]; exact hP
      have hD : va_D A [(hM, .inr (10, mO ((decide (pi < 0 ∨ (ns : Int) ≤ pi)).toNat) st al ac nf ns gg mg bw md wy sg_ sz_ ks bd aM))] := by rw [eB]; exact hD
      exact W.zret (v := (nI 0)) hx hb hr nar_b0 (fun t9 ht hW => ⟨⟨_, (), rfl, congrArg nI eB.symm, by rw [ht]; exact hP, hD⟩, hS.F ht⟩) hS.2.2 d_Model_noPiece_33
    · refine lv_iconst (v := (nI 1)) hx hb d_Model_noPiece_13 (by decide) ?_
      refine lv_goto (tgt := 18) hx hb d_Model_noPiece_14 (by decide) ?_
      refine va_put (D := G) (ci := 10) (v := .int (nI 1)) (ty := .int) (C := R_Model) (T := F_Model) (N := 47) hx hb hts in_Model t_Model t_Model_ok n_Model hown hK hP hD hS 0 rfl rfl 0 (by decide) (hts _ fl_Model_132) (fun _ h9 => h9) rfl (by decide +kernel) rfl rfl (Nat.le_of_ble_eq_true rfl) d_Model_noPiece_18 (fun H locs hP hD hS => ?_)
      have hP : va_P G vwCl [(hM, .inr (10, mO 1 st al ac nf ns gg mg bw md wy sg_ sz_ ks bd aM))] _ := hP
      have hD : va_D A [(hM, .inr (10, mO 1 st al ac nf ns gg mg bw md wy sg_ sz_ ks bd aM))] := hD
      refine lv_aload_n hx hb d_Model_noPiece_21 rfl (lv_at hl 0 rfl) ?_
      refine va_get (D := G) (ci := 10) (v := .int (nI 1)) (C := R_Model) (T := F_Model) (N := 47) hx hb hts in_Model hown hK hP 0 rfl rfl 0 (by decide) (hts _ fl_Model_132) (fun _ h9 => h9) rfl d_Model_noPiece_22 ?_
      refine n_if_le (tgt := 32) hx hb (by omega) d_Model_noPiece_25 (by decide) (fun c25 => absurd c25 (by omega)) (fun c25 => ?_)
      refine lv_iconst (v := (nI 1)) hx hb d_Model_noPiece_28 (by decide) ?_
      refine lv_goto (tgt := 33) hx hb d_Model_noPiece_29 (by decide) ?_
      have eB : (decide (pi < 0 ∨ (ns : Int) ≤ pi)).toNat = 1 := by rw [decide_eq_true (by omega)]; rfl
      have hP : va_P G vwCl [(hM, .inr (10, mO ((decide (pi < 0 ∨ (ns : Int) ≤ pi)).toNat) st al ac nf ns gg mg bw md wy sg_ sz_ ks bd aM))] H := by rw [eB]; exact hP
      have hD : va_D A [(hM, .inr (10, mO ((decide (pi < 0 ∨ (ns : Int) ≤ pi)).toNat) st al ac nf ns gg mg bw md wy sg_ sz_ ks bd aM))] := by rw [eB]; exact hD
      exact W.zret (v := (nI 1)) hx hb hr nar_b1 (fun t9 ht hW => ⟨⟨_, (), rfl, congrArg nI eB.symm, by rw [ht]; exact hP, hD⟩, hS.F ht⟩) hS.2.2 d_Model_noPiece_33

abbrev q_Model_none (G : va_G) (ty : Nat → ClassId) (hM : Nat) (cd : Nat) (st : Nat) (al : Nat) (ac : Nat) (nf : Nat) (ns : Nat) (gg : Nat) (mg : Nat) (bw : Nat) (md : Nat) (wy : Nat) (sg_ : Nat) (sz_ : Nat) (ks : Nat) (bd : Int) (aM : Nat → Nat) (A : Nat → Prop) : Array Value → State → Outcome → State → Prop := va_Qi (fun (r : Int32) => fun (uu : Unit) => r = (nI (1 - md))) (at_W G (fun (uu : Unit) => [(hM, .inr (10, mO (1 - md) st al ac nf ns gg mg bw md wy sg_ sz_ ks bd aM))]) A) A
set_option maxRecDepth 100000 in
set_option maxHeartbeats 4000000 in
theorem c_Model_none (l : Launch) (G : va_G) (ty : Nat → ClassId) (sz : Nat) (hM : Nat) (cd : Nat) (st : Nat) (al : Nat) (ac : Nat) (nf : Nat) (ns : Nat) (gg : Nat) (mg : Nat) (bw : Nat) (md : Nat) (wy : Nat) (sg_ : Nat) (sz_ : Nat) (ks : Nat) (bd : Int) (aM : Nat → Nat) (g1 : md ≤ 1) : Met l y_Model_none ws_Model_none { frames := 0, cells := 0, slots := 0, locals := 0 } (va_Pc [.ref hM] (fun U => U.heap.size = sz ∧ va_P G vwCl [(hM, .inr (10, mO cd st al ac nf ns gg mg bw md wy sg_ sz_ ks bd aM))] U.heap ∧ KX G ty U ∧ va_D (fun _ => True) [(hM, .inr (10, mO cd st al ac nf ns gg mg bw md wy sg_ sz_ ks bd aM))])) (q_Model_none G ty hM cd st al ac nf ns gg mg bw md wy sg_ sz_ ks bd aM (va_A [(hM, .inr (10, mO cd st al ac nf ns gg mg bw md wy sg_ sz_ ks bd aM))] sz)) 0 0 (va_A [(hM, .inr (10, mO cd st al ac nf ns gg mg bw md wy sg_ sz_ ks bd aM))] sz) := by
  refine met_wr (y := y_Model_none) (maxL := 1) (sz := sz) (G := G) (ty := ty) (mc := 0) (ms := 0) (av := [.ref hM]) (W0 := [(hM, .inr (10, mO cd st al ac nf ns gg mg bw md wy sg_ sz_ ks bd aM))]) (fun A => q_Model_none G ty hM cd st al ac nf ns gg mg bw md wy sg_ sz_ ks bd aM A) R_Model (by decide) rfl rfl (Nat.le_of_ble_eq_true rfl) ?_
  intro p e s m below meth c ls A hx hb hr hml hown hts hlocks hin hA hP hX hD hS hl
  have hK := hX.1
  have hl : lv_has ls 1 [(0, .ref hM)] := hl
  refine lv_aload_n hx hb d_Model_none_0 rfl (lv_at hl 0 rfl) ?_
  refine lv_aload_n hx hb d_Model_none_1 rfl (lv_at hl 0 rfl) ?_
  refine va_get (D := G) (ci := 10) (v := .int (nI md)) (C := R_Model) (T := F_Model) (N := 47) hx hb hts in_Model hown hK hP 0 rfl rfl 33 (by decide) (hts _ fl_Model_135) (fun _ h9 => h9) rfl d_Model_none_2 ?_
  refine n_if_eq (tgt := 12) hx hb (by omega) d_Model_none_5 (by decide) (fun c5 => ?_) (fun c5 => ?_)
  · refine lv_iconst (v := (nI 1)) hx hb d_Model_none_12 (by decide) ?_
    refine va_put (D := G) (ci := 10) (v := .int (nI 1)) (ty := .int) (C := R_Model) (T := F_Model) (N := 47) hx hb hts in_Model t_Model t_Model_ok n_Model hown hK hP hD hS 0 rfl rfl 0 (by decide) (hts _ fl_Model_132) (fun _ h9 => h9) rfl (by decide +kernel) rfl rfl (Nat.le_of_ble_eq_true rfl) d_Model_none_13 (fun H locs hP hD hS => ?_)
    have hP : va_P G vwCl [(hM, .inr (10, mO 1 st al ac nf ns gg mg bw md wy sg_ sz_ ks bd aM))] _ := hP
    have hD : va_D A [(hM, .inr (10, mO 1 st al ac nf ns gg mg bw md wy sg_ sz_ ks bd aM))] := hD
    refine lv_aload_n hx hb d_Model_none_16 rfl (lv_at hl 0 rfl) ?_
    refine va_get (D := G) (ci := 10) (v := .int (nI 1)) (C := R_Model) (T := F_Model) (N := 47) hx hb hts in_Model hown hK hP 0 rfl rfl 0 (by decide) (hts _ fl_Model_132) (fun _ h9 => h9) rfl d_Model_none_17 ?_
    refine n_if_le (tgt := 27) hx hb (by omega) d_Model_none_20 (by decide) (fun c20 => absurd c20 (by omega)) (fun c20 => ?_)
    refine lv_iconst (v := (nI 1)) hx hb d_Model_none_23 (by decide) ?_
    refine lv_goto (tgt := 28) hx hb d_Model_none_24 (by decide) ?_
    have eB : 1 - md = 1 := by omega
    have hP : va_P G vwCl [(hM, .inr (10, mO (1 - md) st al ac nf ns gg mg bw md wy sg_ sz_ ks bd aM))] H := by rw [eB]; exact hP
    have hD : va_D A [(hM, .inr (10, mO (1 - md) st al ac nf ns gg mg bw md wy sg_ sz_ ks bd aM))] := by rw [eB]; exact hD
    exact W.zret (v := (nI 1)) hx hb hr nar_b1 (fun t9 ht hW => ⟨⟨_, (), rfl, congrArg nI eB.symm, by rw [ht]; exact hP, hD⟩, hS.F ht⟩) hS.2.2 d_Model_none_28
  · refine lv_iconst (v := (nI 0)) hx hb d_Model_none_8 (by decide) ?_
    refine lv_goto (tgt := 13) hx hb d_Model_none_9 (by decide) ?_
    refine va_put (D := G) (ci := 10) (v := .int (nI 0)) (ty := .int) (C := R_Model) (T := F_Model) (N := 47) hx hb hts in_Model t_Model t_Model_ok n_Model hown hK hP hD hS 0 rfl rfl 0 (by decide) (hts _ fl_Model_132) (fun _ h9 => h9) rfl (by decide +kernel) rfl rfl (Nat.le_of_ble_eq_true rfl) d_Model_none_13 (fun H locs hP hD hS => ?_)
    have hP : va_P G vwCl [(hM, .inr (10, mO 0 st al ac nf ns gg mg bw md wy sg_ sz_ ks bd aM))] _ := hP
    have hD : va_D A [(hM, .inr (10, mO 0 st al ac nf ns gg mg bw md wy sg_ sz_ ks bd aM))] := hD
    refine lv_aload_n hx hb d_Model_none_16 rfl (lv_at hl 0 rfl) ?_
    refine va_get (D := G) (ci := 10) (v := .int (nI 0)) (C := R_Model) (T := F_Model) (N := 47) hx hb hts in_Model hown hK hP 0 rfl rfl 0 (by decide) (hts _ fl_Model_132) (fun _ h9 => h9) rfl d_Model_none_17 ?_
    refine n_if_le (tgt := 27) hx hb (by omega) d_Model_none_20 (by decide) (fun c20 => ?_) (fun c20 => absurd c20 (by omega))
    refine lv_iconst (v := (nI 0)) hx hb d_Model_none_27 (by decide) ?_
    have eB : 1 - md = 0 := by omega
    have hP : va_P G vwCl [(hM, .inr (10, mO (1 - md) st al ac nf ns gg mg bw md wy sg_ sz_ ks bd aM))] H := by rw [eB]; exact hP
    have hD : va_D A [(hM, .inr (10, mO (1 - md) st al ac nf ns gg mg bw md wy sg_ sz_ ks bd aM))] := by rw [eB]; exact hD
    exact W.zret (v := (nI 0)) hx hb hr nar_b0 (fun t9 ht hW => ⟨⟨_, (), rfl, congrArg nI eB.symm, by rw [ht]; exact hP, hD⟩, hS.F ht⟩) hS.2.2 d_Model_none_28

abbrev q_Model_margin (G : va_G) (ty : Nat → ClassId) (hM : Nat) (cd : Nat) (st : Nat) (al : Nat) (ac : Nat) (nf : Nat) (ns : Nat) (gg : Nat) (mg : Nat) (bw : Nat) (md : Nat) (wy : Nat) (sg_ : Nat) (sz_ : Nat) (ks : Nat) (bd : Int) (aM : Nat → Nat) (v : Int) (A : Nat → Prop) : Array Value → State → Outcome → State → Prop := va_Qi (fun (r : Int32) => fun (uu : Nat × Nat × Nat × Nat) => r = (nI uu.1) ∧ ((v < 0 ∨ 65536 < v) → uu.2.1 = 1 ∧ uu.1 = 0 ∧ uu.2.2.1 = mg ∧ uu.2.2.2 = md) ∧ (¬ (v < 0 ∨ 65536 < v) → uu.2.1 = 0 ∧ (v = (mg : Int) → uu.1 = 0 ∧ uu.2.2.1 = mg ∧ uu.2.2.2 = md) ∧ (v ≠ (mg : Int) → uu.1 = 1 ∧ (uu.2.2.1 : Int) = v ∧ uu.2.2.2 = 0))) (at_W G (fun (uu : Nat × Nat × Nat × Nat) => [(hM, .inr (10, mO uu.2.1 st al ac nf ns gg uu.2.2.1 bw uu.2.2.2 wy sg_ sz_ ks bd aM))]) A) A
set_option maxRecDepth 100000 in
set_option maxHeartbeats 4000000 in
theorem c_Model_margin (l : Launch) (G : va_G) (ty : Nat → ClassId) (sz : Nat) (hM : Nat) (cd : Nat) (st : Nat) (al : Nat) (ac : Nat) (nf : Nat) (ns : Nat) (gg : Nat) (mg : Nat) (bw : Nat) (md : Nat) (wy : Nat) (sg_ : Nat) (sz_ : Nat) (ks : Nat) (bd : Int) (aM : Nat → Nat) (v : Int) (gmd : md ≤ 1) (gv : -2147483648 ≤ v ∧ v ≤ 2147483647) (gf : mg ≤ 16777216) : Met l y_Model_margin ws_Model_margin { frames := 1, cells := 0, slots := 0, locals := 25 } (va_Pc [.ref hM, .int (iI v)] (fun U => U.heap.size = sz ∧ va_P G vwCl [(hM, .inr (10, mO cd st al ac nf ns gg mg bw md wy sg_ sz_ ks bd aM))] U.heap ∧ KX G ty U ∧ va_D (fun _ => True) [(hM, .inr (10, mO cd st al ac nf ns gg mg bw md wy sg_ sz_ ks bd aM))])) (q_Model_margin G ty hM cd st al ac nf ns gg mg bw md wy sg_ sz_ ks bd aM v (va_A [(hM, .inr (10, mO cd st al ac nf ns gg mg bw md wy sg_ sz_ ks bd aM))] sz)) 0 0 (va_A [(hM, .inr (10, mO cd st al ac nf ns gg mg bw md wy sg_ sz_ ks bd aM))] sz) := by
  refine met_wr (y := y_Model_margin) (maxL := 2) (sz := sz) (G := G) (ty := ty) (mc := 0) (ms := 0) (av := [.ref hM, .int (iI v)]) (W0 := [(hM, .inr (10, mO cd st al ac nf ns gg mg bw md wy sg_ sz_ ks bd aM))]) (fun A => q_Model_margin G ty hM cd st al ac nf ns gg mg bw md wy sg_ sz_ ks bd aM v A) R_Model (by decide) rfl rfl (Nat.le_of_ble_eq_true rfl) ?_
  intro p e s m below meth c ls A hx hb hr hml hown hts hlocks hin hA hP hX hD hS hl
  have hK := hX.1
  have hl : lv_has ls 2 [(0, .ref hM), (1, .int (iI v))] := hl
  refine lv_aload_n hx hb d_Model_margin_0 rfl (lv_at hl 0 rfl) ?_
  refine lv_iload_n hx hb d_Model_margin_1 rfl (lv_at hl 1 rfl) ?_
  refine z_i2l hx hb (by omega) d_Model_margin_2 ?_
  refine lv_lconst (v := iL 0) hx hb d_Model_margin_3 (by decide) ?_
  refine lv_ldc2 (v := (iL 65536)) hx hb hown (hts _ kc_Model_147) d_Model_margin_4 ?_
  refine vp_callSi (W.runS (As := [.long (iL v), .long (iL 0), .long (iL 65536)]) (rest := [.ref hM]) ⟨hx, hb, hml, hown, hts⟩ (c_Model_isIn l G ty v 0 65536 (by omega) (by omega) (by omega)) ⟨callB_of 3 hts (gd_TB cd_Model_isIn) rfl rfl rfl (hts _ ini_Model) (hts _ lk_Model_141) hd_Model_isIn ⟨Nat.le_of_ble_eq_true rfl, Nat.le_of_ble_eq_true rfl⟩, hts _ st_Model_isIn⟩ (preS_ro (hP.sub (ws' := []) [] rfl) hX) rfl rfl hl.1 rfl (lv_room (Nat.le_of_ble_eq_true rfl)) d_Model_margin_7 ⟨Nat.le_of_ble_eq_true rfl, Nat.le_of_ble_eq_true rfl⟩) (fun r9 er9 => ?_)
  subst er9
  refine n_if_eq (tgt := 17) hx hb (tN_lt _) d_Model_margin_10 (by decide) (fun c10 => ?_) (fun c10 => ?_)
  · have d10 := of_decide_eq_false (tN_0 c10)
    refine lv_iconst (v := (nI 1)) hx hb d_Model_margin_17 (by decide) ?_
    refine va_put (D := G) (ci := 10) (v := .int (nI 1)) (ty := .int) (C := R_Model) (T := F_Model) (N := 47) hx hb hts in_Model t_Model t_Model_ok n_Model hown hK hP hD hS 0 rfl rfl 0 (by decide) (hts _ fl_Model_132) (fun _ h9 => h9) rfl (by decide +kernel) rfl rfl (Nat.le_of_ble_eq_true rfl) d_Model_margin_18 (fun H locs hP hD hS => ?_)
    have hP : va_P G vwCl [(hM, .inr (10, mO 1 st al ac nf ns gg mg bw md wy sg_ sz_ ks bd aM))] _ := hP
    have hD : va_D A [(hM, .inr (10, mO 1 st al ac nf ns gg mg bw md wy sg_ sz_ ks bd aM))] := hD
    refine lv_aload_n hx hb d_Model_margin_21 rfl (lv_at hl 0 rfl) ?_
    refine va_get (D := G) (ci := 10) (v := .int (nI 1)) (C := R_Model) (T := F_Model) (N := 47) hx hb hts in_Model hown hK hP 0 rfl rfl 0 (by decide) (hts _ fl_Model_132) (fun _ h9 => h9) rfl d_Model_margin_22 ?_
    refine n_if_gt (tgt := 36) hx hb (by omega) d_Model_margin_25 (by decide) (fun c25 => ?_) (fun c25 => absurd c25 (by omega))
    refine lv_iconst (v := (nI 0)) hx hb d_Model_margin_36 (by decide) ?_
    exact W.zret (v := (nI 0)) hx hb hr nar_b0 (fun t9 ht hW => ⟨⟨_, (0, 1, mg, md), rfl, ⟨rfl, by (try dsimp only); omega⟩, by rw [ht]; exact hP, hD⟩, hS.F ht⟩) hS.2.2 d_Model_margin_37
  · have d10 := of_decide_eq_true (tN_1 c10)
    refine lv_iconst (v := (nI 0)) hx hb d_Model_margin_13 (by decide) ?_
    refine lv_goto (tgt := 18) hx hb d_Model_margin_14 (by decide) ?_
    refine va_put (D := G) (ci := 10) (v := .int (nI 0)) (ty := .int) (C := R_Model) (T := F_Model) (N := 47) hx hb hts in_Model t_Model t_Model_ok n_Model hown hK hP hD hS 0 rfl rfl 0 (by decide) (hts _ fl_Model_132) (fun _ h9 => h9) rfl (by decide +kernel) rfl rfl (Nat.le_of_ble_eq_true rfl) d_Model_margin_18 (fun H locs hP hD hS => ?_)
    have hP : va_P G vwCl [(hM, .inr (10, mO 0 st al ac nf ns gg mg bw md wy sg_ sz_ ks bd aM))] _ := hP
    have hD : va_D A [(hM, .inr (10, mO 0 st al ac nf ns gg mg bw md wy sg_ sz_ ks bd aM))] := hD
    refine lv_aload_n hx hb d_Model_margin_21 rfl (lv_at hl 0 rfl) ?_
    refine va_get (D := G) (ci := 10) (v := .int (nI 0)) (C := R_Model) (T := F_Model) (N := 47) hx hb hts in_Model hown hK hP 0 rfl rfl 0 (by decide) (hts _ fl_Model_132) (fun _ h9 => h9) rfl d_Model_margin_22 ?_
    refine n_if_gt (tgt := 36) hx hb (by omega) d_Model_margin_25 (by decide) (fun c25 => absurd c25 (by omega)) (fun c25 => ?_)
    refine lv_iload_n hx hb d_Model_margin_28 rfl (lv_at hl 1 rfl) ?_
    refine lv_aload_n hx hb d_Model_margin_29 rfl (lv_at hl 0 rfl) ?_
    refine va_get (D := G) (ci := 10) (v := .int (nI mg)) (C := R_Model) (T := F_Model) (N := 47) hx hb hts in_Model hown hK hP 0 rfl rfl 22 (by decide) (hts _ fl_Model_173) (fun _ h9 => h9) rfl d_Model_margin_30 ?_
    refine zn_icmp_ne (tgt := 38) hx hb (by omega) (by omega) d_Model_margin_33 (by decide) (fun c33 => ?_) (fun c33 => ?_)
    · refine lv_aload_n hx hb d_Model_margin_38 rfl (lv_at hl 0 rfl) ?_
      refine lv_iload_n hx hb d_Model_margin_39 rfl (lv_at hl 1 rfl) ?_
      refine top_i (show (iI v) = (nI v.toNat) from iI_nI (by omega)) ?_
      refine va_put (D := G) (ci := 10) (v := .int (nI v.toNat)) (ty := .int) (C := R_Model) (T := F_Model) (N := 47) hx hb hts in_Model t_Model t_Model_ok n_Model hown hK hP hD hS 0 rfl rfl 22 (by decide) (hts _ fl_Model_173) (fun _ h9 => h9) rfl (by decide +kernel) rfl rfl (Nat.le_of_ble_eq_true rfl) d_Model_margin_40 (fun H locs hP hD hS => ?_)
      have hP : va_P G vwCl [(hM, .inr (10, mO 0 st al ac nf ns gg v.toNat bw md wy sg_ sz_ ks bd aM))] _ := hP
      have hD : va_D A [(hM, .inr (10, mO 0 st al ac nf ns gg v.toNat bw md wy sg_ sz_ ks bd aM))] := hD
      refine lv_aload_n hx hb d_Model_margin_43 rfl (lv_at hl 0 rfl) ?_
      refine lv_iconst (v := (nI 1)) hx hb d_Model_margin_44 (by decide) ?_
      refine call_wr_i (Wc := [(hM, .inr (10, mO 0 st al ac nf ns gg v.toNat bw md wy sg_ sz_ ks bd aM))]) (Wr := []) (va_runV (As := [.int (nI 1)]) (rest := []) ⟨hx, hb, hml, hown, hts⟩ (c_told1 l G ty _ hM 0 st al ac nf ns gg v.toNat bw md wy sg_ sz_ ks bd aM (by omega)) ⟨callB_of 1 hts (gd_TB cd_Model_told) rfl rfl rfl (hts _ ini_Model) (hts _ lk_Model_152) hd_Model_told ⟨Nat.le_of_ble_eq_true rfl, Nat.le_of_ble_eq_true rfl⟩, hts _ im_Model_told, hts _ sl_Model_told⟩ (preV_wr (hP.sub (ws' := [(hM, .inr (10, mO 0 st al ac nf ns gg v.toNat bw md wy sg_ sz_ ks bd aM))]) [0] rfl) hX (hD.sub (ws' := [(hM, .inr (10, mO 0 st al ac nf ns gg v.toNat bw md wy sg_ sz_ ks bd aM))]) [0] (by decide) rfl) 0 rfl rfl) rfl rfl hl.1 rfl (lv_room (Nat.le_of_ble_eq_true rfl)) d_Model_margin_45 ⟨Nat.le_of_ble_eq_true rfl, Nat.le_of_ble_eq_true rfl⟩) hP hD hS hA [0] [] rfl rfl (by decide) (by decide) (fun r2 u9 H locs hw1 hP hD hS => ?_)
      have hw1 : r2 = (nI 1) := hw1
      have hP : va_P G vwCl [(hM, .inr (10, mO 0 st al ac nf ns gg v.toNat bw 0 wy sg_ sz_ ks bd aM))] _ := hP
      have hD : va_D A [(hM, .inr (10, mO 0 st al ac nf ns gg v.toNat bw 0 wy sg_ sz_ ks bd aM))] := hD
      subst hw1
      exact W.zret (v := (nI 1)) hx hb hr nar_b1 (fun t9 ht hW => ⟨⟨_, (1, 0, v.toNat, 0), rfl, ⟨rfl, by (try dsimp only); omega⟩, by rw [ht]; exact hP, hD⟩, hS.F ht⟩) hS.2.2 d_Model_margin_48
    · refine lv_iconst (v := (nI 0)) hx hb d_Model_margin_36 (by decide) ?_
      exact W.zret (v := (nI 0)) hx hb hr nar_b0 (fun t9 ht hW => ⟨⟨_, (0, 0, mg, md), rfl, ⟨rfl, by (try dsimp only); omega⟩, by rw [ht]; exact hP, hD⟩, hS.F ht⟩) hS.2.2 d_Model_margin_37

abbrev q_Model_bow (G : va_G) (ty : Nat → ClassId) (hM : Nat) (cd : Nat) (st : Nat) (al : Nat) (ac : Nat) (nf : Nat) (ns : Nat) (gg : Nat) (mg : Nat) (bw : Nat) (md : Nat) (wy : Nat) (sg_ : Nat) (sz_ : Nat) (ks : Nat) (bd : Int) (aM : Nat → Nat) (v : Int) (A : Nat → Prop) : Array Value → State → Outcome → State → Prop := va_Qi (fun (r : Int32) => fun (uu : Nat × Nat × Nat × Nat) => r = (nI uu.1) ∧ ((v < 1 ∨ 16777216 < v) → uu.2.1 = 1 ∧ uu.1 = 0 ∧ uu.2.2.1 = bw ∧ uu.2.2.2 = md) ∧ (¬ (v < 1 ∨ 16777216 < v) → uu.2.1 = 0 ∧ (v = (bw : Int) → uu.1 = 0 ∧ uu.2.2.1 = bw ∧ uu.2.2.2 = md) ∧ (v ≠ (bw : Int) → uu.1 = 1 ∧ (uu.2.2.1 : Int) = v ∧ uu.2.2.2 = 0))) (at_W G (fun (uu : Nat × Nat × Nat × Nat) => [(hM, .inr (10, mO uu.2.1 st al ac nf ns gg mg uu.2.2.1 uu.2.2.2 wy sg_ sz_ ks bd aM))]) A) A
set_option maxRecDepth 100000 in
set_option maxHeartbeats 4000000 in
theorem c_Model_bow (l : Launch) (G : va_G) (ty : Nat → ClassId) (sz : Nat) (hM : Nat) (cd : Nat) (st : Nat) (al : Nat) (ac : Nat) (nf : Nat) (ns : Nat) (gg : Nat) (mg : Nat) (bw : Nat) (md : Nat) (wy : Nat) (sg_ : Nat) (sz_ : Nat) (ks : Nat) (bd : Int) (aM : Nat → Nat) (v : Int) (gmd : md ≤ 1) (gv : -2147483648 ≤ v ∧ v ≤ 2147483647) (gf : bw ≤ 16777216) : Met l y_Model_bow ws_Model_bow { frames := 1, cells := 0, slots := 0, locals := 25 } (va_Pc [.ref hM, .int (iI v)] (fun U => U.heap.size = sz ∧ va_P G vwCl [(hM, .inr (10, mO cd st al ac nf ns gg mg bw md wy sg_ sz_ ks bd aM))] U.heap ∧ KX G ty U ∧ va_D (fun _ => True) [(hM, .inr (10, mO cd st al ac nf ns gg mg bw md wy sg_ sz_ ks bd aM))])) (q_Model_bow G ty hM cd st al ac nf ns gg mg bw md wy sg_ sz_ ks bd aM v (va_A [(hM, .inr (10, mO cd st al ac nf ns gg mg bw md wy sg_ sz_ ks bd aM))] sz)) 0 0 (va_A [(hM, .inr (10, mO cd st al ac nf ns gg mg bw md wy sg_ sz_ ks bd aM))] sz) := by
  refine met_wr (y := y_Model_bow) (maxL := 2) (sz := sz) (G := G) (ty := ty) (mc := 0) (ms := 0) (av := [.ref hM, .int (iI v)]) (W0 := [(hM, .inr (10, mO cd st al ac nf ns gg mg bw md wy sg_ sz_ ks bd aM))]) (fun A => q_Model_bow G ty hM cd st al ac nf ns gg mg bw md wy sg_ sz_ ks bd aM v A) R_Model (by decide) rfl rfl (Nat.le_of_ble_eq_true rfl) ?_
  intro p e s m below meth c ls A hx hb hr hml hown hts hlocks hin hA hP hX hD hS hl
  have hK := hX.1
  have hl : lv_has ls 2 [(0, .ref hM), (1, .int (iI v))] := hl
  refine lv_aload_n hx hb d_Model_bow_0 rfl (lv_at hl 0 rfl) ?_
  refine lv_iload_n hx hb d_Model_bow_1 rfl (lv_at hl 1 rfl) ?_
  refine z_i2l hx hb (by omega) d_Model_bow_2 ?_
  refine lv_lconst (v := iL 1) hx hb d_Model_bow_3 (by decide) ?_
  refine lv_ldc2 (v := (iL 16777216)) hx hb hown (hts _ kc_Model_176) d_Model_bow_4 ?_
  refine vp_callSi (W.runS (As := [.long (iL v), .long (iL 1), .long (iL 16777216)]) (rest := [.ref hM]) ⟨hx, hb, hml, hown, hts⟩ (c_Model_isIn l G ty v 1 16777216 (by omega) (by omega) (by omega)) ⟨callB_of 3 hts (gd_TB cd_Model_isIn) rfl rfl rfl (hts _ ini_Model) (hts _ lk_Model_141) hd_Model_isIn ⟨Nat.le_of_ble_eq_true rfl, Nat.le_of_ble_eq_true rfl⟩, hts _ st_Model_isIn⟩ (preS_ro (hP.sub (ws' := []) [] rfl) hX) rfl rfl hl.1 rfl (lv_room (Nat.le_of_ble_eq_true rfl)) d_Model_bow_7 ⟨Nat.le_of_ble_eq_true rfl, Nat.le_of_ble_eq_true rfl⟩) (fun r9 er9 => ?_)
  subst er9
  refine n_if_eq (tgt := 17) hx hb (tN_lt _) d_Model_bow_10 (by decide) (fun c10 => ?_) (fun c10 => ?_)
  · have d10 := of_decide_eq_false (tN_0 c10)
    refine lv_iconst (v := (nI 1)) hx hb d_Model_bow_17 (by decide) ?_
    refine va_put (D := G) (ci := 10) (v := .int (nI 1)) (ty := .int) (C := R_Model) (T := F_Model) (N := 47) hx hb hts in_Model t_Model t_Model_ok n_Model hown hK hP hD hS 0 rfl rfl 0 (by decide) (hts _ fl_Model_132) (fun _ h9 => h9) rfl (by decide +kernel) rfl rfl (Nat.le_of_ble_eq_true rfl) d_Model_bow_18 (fun H locs hP hD hS => ?_)
    have hP : va_P G vwCl [(hM, .inr (10, mO 1 st al ac nf ns gg mg bw md wy sg_ sz_ ks bd aM))] _ := hP
    have hD : va_D A [(hM, .inr (10, mO 1 st al ac nf ns gg mg bw md wy sg_ sz_ ks bd aM))] := hD
    refine lv_aload_n hx hb d_Model_bow_21 rfl (lv_at hl 0 rfl) ?_
    refine va_get (D := G) (ci := 10) (v := .int (nI 1)) (C := R_Model) (T := F_Model) (N := 47) hx hb hts in_Model hown hK hP 0 rfl rfl 0 (by decide) (hts _ fl_Model_132) (fun _ h9 => h9) rfl d_Model_bow_22 ?_
    refine n_if_gt (tgt := 36) hx hb (by omega) d_Model_bow_25 (by decide) (fun c25 => ?_) (fun c25 => absurd c25 (by omega))
    refine lv_iconst (v := (nI 0)) hx hb d_Model_bow_36 (by decide) ?_
    exact W.zret (v := (nI 0)) hx hb hr nar_b0 (fun t9 ht hW => ⟨⟨_, (0, 1, bw, md), rfl, ⟨rfl, by (try dsimp only); omega⟩, by rw [ht]; exact hP, hD⟩, hS.F ht⟩) hS.2.2 d_Model_bow_37
  · have d10 := of_decide_eq_true (tN_1 c10)
    refine lv_iconst (v := (nI 0)) hx hb d_Model_bow_13 (by decide) ?_
    refine lv_goto (tgt := 18) hx hb d_Model_bow_14 (by decide) ?_
    refine va_put (D := G) (ci := 10) (v := .int (nI 0)) (ty := .int) (C := R_Model) (T := F_Model) (N := 47) hx hb hts in_Model t_Model t_Model_ok n_Model hown hK hP hD hS 0 rfl rfl 0 (by decide) (hts _ fl_Model_132) (fun _ h9 => h9) rfl (by decide +kernel) rfl rfl (Nat.le_of_ble_eq_true rfl) d_Model_bow_18 (fun H locs hP hD hS => ?_)
    have hP : va_P G vwCl [(hM, .inr (10, mO 0 st al ac nf ns gg mg bw md wy sg_ sz_ ks bd aM))] _ := hP
    have hD : va_D A [(hM, .inr (10, mO 0 st al ac nf ns gg mg bw md wy sg_ sz_ ks bd aM))] := hD
    refine lv_aload_n hx hb d_Model_bow_21 rfl (lv_at hl 0 rfl) ?_
    refine va_get (D := G) (ci := 10) (v := .int (nI 0)) (C := R_Model) (T := F_Model) (N := 47) hx hb hts in_Model hown hK hP 0 rfl rfl 0 (by decide) (hts _ fl_Model_132) (fun _ h9 => h9) rfl d_Model_bow_22 ?_
    refine n_if_gt (tgt := 36) hx hb (by omega) d_Model_bow_25 (by decide) (fun c25 => absurd c25 (by omega)) (fun c25 => ?_)
    refine lv_iload_n hx hb d_Model_bow_28 rfl (lv_at hl 1 rfl) ?_
    refine lv_aload_n hx hb d_Model_bow_29 rfl (lv_at hl 0 rfl) ?_
    refine va_get (D := G) (ci := 10) (v := .int (nI bw)) (C := R_Model) (T := F_Model) (N := 47) hx hb hts in_Model hown hK hP 0 rfl rfl 23 (by decide) (hts _ fl_Model_59) (fun _ h9 => h9) rfl d_Model_bow_30 ?_
    refine zn_icmp_ne (tgt := 38) hx hb (by omega) (by omega) d_Model_bow_33 (by decide) (fun c33 => ?_) (fun c33 => ?_)
    · refine lv_aload_n hx hb d_Model_bow_38 rfl (lv_at hl 0 rfl) ?_
      refine lv_iload_n hx hb d_Model_bow_39 rfl (lv_at hl 1 rfl) ?_
      refine top_i (show (iI v) = (nI v.toNat) from iI_nI (by omega)) ?_
      refine va_put (D := G) (ci := 10) (v := .int (nI v.toNat)) (ty := .int) (C := R_Model) (T := F_Model) (N := 47) hx hb hts in_Model t_Model t_Model_ok n_Model hown hK hP hD hS 0 rfl rfl 23 (by decide) (hts _ fl_Model_59) (fun _ h9 => h9) rfl (by decide +kernel) rfl rfl (Nat.le_of_ble_eq_true rfl) d_Model_bow_40 (fun H locs hP hD hS => ?_)
      have hP : va_P G vwCl [(hM, .inr (10, mO 0 st al ac nf ns gg mg v.toNat md wy sg_ sz_ ks bd aM))] _ := hP
      have hD : va_D A [(hM, .inr (10, mO 0 st al ac nf ns gg mg v.toNat md wy sg_ sz_ ks bd aM))] := hD
      refine lv_aload_n hx hb d_Model_bow_43 rfl (lv_at hl 0 rfl) ?_
      refine lv_iconst (v := (nI 1)) hx hb d_Model_bow_44 (by decide) ?_
      refine call_wr_i (Wc := [(hM, .inr (10, mO 0 st al ac nf ns gg mg v.toNat md wy sg_ sz_ ks bd aM))]) (Wr := []) (va_runV (As := [.int (nI 1)]) (rest := []) ⟨hx, hb, hml, hown, hts⟩ (c_told1 l G ty _ hM 0 st al ac nf ns gg mg v.toNat md wy sg_ sz_ ks bd aM (by omega)) ⟨callB_of 1 hts (gd_TB cd_Model_told) rfl rfl rfl (hts _ ini_Model) (hts _ lk_Model_152) hd_Model_told ⟨Nat.le_of_ble_eq_true rfl, Nat.le_of_ble_eq_true rfl⟩, hts _ im_Model_told, hts _ sl_Model_told⟩ (preV_wr (hP.sub (ws' := [(hM, .inr (10, mO 0 st al ac nf ns gg mg v.toNat md wy sg_ sz_ ks bd aM))]) [0] rfl) hX (hD.sub (ws' := [(hM, .inr (10, mO 0 st al ac nf ns gg mg v.toNat md wy sg_ sz_ ks bd aM))]) [0] (by decide) rfl) 0 rfl rfl) rfl rfl hl.1 rfl (lv_room (Nat.le_of_ble_eq_true rfl)) d_Model_bow_45 ⟨Nat.le_of_ble_eq_true rfl, Nat.le_of_ble_eq_true rfl⟩) hP hD hS hA [0] [] rfl rfl (by decide) (by decide) (fun r2 u9 H locs hw1 hP hD hS => ?_)
      have hw1 : r2 = (nI 1) := hw1
      have hP : va_P G vwCl [(hM, .inr (10, mO 0 st al ac nf ns gg mg v.toNat 0 wy sg_ sz_ ks bd aM))] _ := hP
      have hD : va_D A [(hM, .inr (10, mO 0 st al ac nf ns gg mg v.toNat 0 wy sg_ sz_ ks bd aM))] := hD
      subst hw1
      exact W.zret (v := (nI 1)) hx hb hr nar_b1 (fun t9 ht hW => ⟨⟨_, (1, 0, v.toNat, 0), rfl, ⟨rfl, by (try dsimp only); omega⟩, by rw [ht]; exact hP, hD⟩, hS.F ht⟩) hS.2.2 d_Model_bow_48
    · refine lv_iconst (v := (nI 0)) hx hb d_Model_bow_36 (by decide) ?_
      exact W.zret (v := (nI 0)) hx hb hr nar_b0 (fun t9 ht hW => ⟨⟨_, (0, 0, bw, md), rfl, ⟨rfl, by (try dsimp only); omega⟩, by rw [ht]; exact hP, hD⟩, hS.F ht⟩) hS.2.2 d_Model_bow_37

abbrev q_Model_gang (G : va_G) (ty : Nat → ClassId) (hM : Nat) (cd : Nat) (st : Nat) (al : Nat) (ac : Nat) (nf : Nat) (ns : Nat) (gg : Nat) (mg : Nat) (bw : Nat) (md : Nat) (wy : Nat) (sg_ : Nat) (sz_ : Nat) (ks : Nat) (bd : Int) (aM : Nat → Nat) (v : Int) (gs : Nat → Bool) (A : Nat → Prop) : Array Value → State → Outcome → State → Prop := va_Qi (fun (r : Int32) => fun (uu : Nat × Nat × (Nat → Bool) × Nat × Nat) => r = (nI uu.1) ∧ ((v < 1 ∨ 65536 < v) → uu.2.1 = 1 ∧ uu.1 = 0 ∧ (∀ q, uu.2.2.1 q = gs q) ∧ uu.2.2.2.1 = gg ∧ uu.2.2.2.2 = md) ∧ (¬ (v < 1 ∨ 65536 < v) → uu.2.1 = 0 ∧ (gs ((v.toNat + st - 1) / st) = true → uu.1 = 0 ∧ (∀ q, uu.2.2.1 q = gs q) ∧ uu.2.2.2.1 = gg ∧ uu.2.2.2.2 = md) ∧ (gs ((v.toNat + st - 1) / st) = false → uu.1 = 1 ∧ (∀ q, uu.2.2.1 q = va_up gs ((v.toNat + st - 1) / st) true q) ∧ uu.2.2.2.1 = 1 ∧ uu.2.2.2.2 = 0))) (at_W G (fun (uu : Nat × Nat × (Nat → Bool) × Nat × Nat) => [(hM, .inr (10, mO uu.2.1 st al ac nf ns uu.2.2.2.1 mg bw uu.2.2.2.2 wy sg_ sz_ ks bd aM)), (aM 20, .inl (ty 2, 65537, .inl (bF uu.2.2.1)))]) A) A
set_option maxRecDepth 100000 in
set_option maxHeartbeats 4000000 in
theorem c_Model_gang (l : Launch) (G : va_G) (ty : Nat → ClassId) (sz : Nat) (hM : Nat) (cd : Nat) (st : Nat) (al : Nat) (ac : Nat) (nf : Nat) (ns : Nat) (gg : Nat) (mg : Nat) (bw : Nat) (md : Nat) (wy : Nat) (sg_ : Nat) (sz_ : Nat) (ks : Nat) (bd : Int) (aM : Nat → Nat) (v : Int) (gs : Nat → Bool) (gmd : md ≤ 1) (gv : -2147483648 ≤ v ∧ v ≤ 2147483647) (g1 : 1 ≤ st) (g2 : st ≤ 65536) (ggg : gg ≤ 1) : Met l y_Model_gang ws_Model_gang { frames := 1, cells := 0, slots := 0, locals := 25 } (va_Pc [.ref hM, .int (iI v)] (fun U => U.heap.size = sz ∧ va_P G vwCl [(hM, .inr (10, mO cd st al ac nf ns gg mg bw md wy sg_ sz_ ks bd aM)), (aM 20, .inl (ty 2, 65537, .inl (bF gs)))] U.heap ∧ KX G ty U ∧ va_D (fun _ => True) [(hM, .inr (10, mO cd st al ac nf ns gg mg bw md wy sg_ sz_ ks bd aM)), (aM 20, .inl (ty 2, 65537, .inl (bF gs)))])) (q_Model_gang G ty hM cd st al ac nf ns gg mg bw md wy sg_ sz_ ks bd aM v gs (va_A [(hM, .inr (10, mO cd st al ac nf ns gg mg bw md wy sg_ sz_ ks bd aM)), (aM 20, .inl (ty 2, 65537, .inl (bF gs)))] sz)) 0 0 (va_A [(hM, .inr (10, mO cd st al ac nf ns gg mg bw md wy sg_ sz_ ks bd aM)), (aM 20, .inl (ty 2, 65537, .inl (bF gs)))] sz) := by
  refine met_wr (y := y_Model_gang) (maxL := 2) (sz := sz) (G := G) (ty := ty) (mc := 0) (ms := 0) (av := [.ref hM, .int (iI v)]) (W0 := [(hM, .inr (10, mO cd st al ac nf ns gg mg bw md wy sg_ sz_ ks bd aM)), (aM 20, .inl (ty 2, 65537, .inl (bF gs)))]) (fun A => q_Model_gang G ty hM cd st al ac nf ns gg mg bw md wy sg_ sz_ ks bd aM v gs A) R_Model (by decide) rfl rfl (Nat.le_of_ble_eq_true rfl) ?_
  intro p e s m below meth c ls A hx hb hr hml hown hts hlocks hin hA hP hX hD hS hl
  have hK := hX.1
  have hl : lv_has ls 2 [(0, .ref hM), (1, .int (iI v))] := hl
  refine lv_aload_n hx hb d_Model_gang_0 rfl (lv_at hl 0 rfl) ?_
  refine lv_iload_n hx hb d_Model_gang_1 rfl (lv_at hl 1 rfl) ?_
  refine z_i2l hx hb (by omega) d_Model_gang_2 ?_
  refine lv_lconst (v := iL 1) hx hb d_Model_gang_3 (by decide) ?_
  refine lv_ldc2 (v := (iL 65536)) hx hb hown (hts _ kc_Model_147) d_Model_gang_4 ?_
  refine vp_callSi (W.runS (As := [.long (iL v), .long (iL 1), .long (iL 65536)]) (rest := [.ref hM]) ⟨hx, hb, hml, hown, hts⟩ (c_Model_isIn l G ty v 1 65536 (by omega) (by omega) (by omega)) ⟨callB_of 3 hts (gd_TB cd_Model_isIn) rfl rfl rfl (hts _ ini_Model) (hts _ lk_Model_141) hd_Model_isIn ⟨Nat.le_of_ble_eq_true rfl, Nat.le_of_ble_eq_true rfl⟩, hts _ st_Model_isIn⟩ (preS_ro (hP.sub (ws' := []) [] rfl) hX) rfl rfl hl.1 rfl (lv_room (Nat.le_of_ble_eq_true rfl)) d_Model_gang_7 ⟨Nat.le_of_ble_eq_true rfl, Nat.le_of_ble_eq_true rfl⟩) (fun r9 er9 => ?_)
  subst er9
  refine n_if_eq (tgt := 17) hx hb (tN_lt _) d_Model_gang_10 (by decide) (fun c10 => ?_) (fun c10 => ?_)
  · have d10 := of_decide_eq_false (tN_0 c10)
    refine lv_iconst (v := (nI 1)) hx hb d_Model_gang_17 (by decide) ?_
    refine va_put (D := G) (ci := 10) (v := .int (nI 1)) (ty := .int) (C := R_Model) (T := F_Model) (N := 47) hx hb hts in_Model t_Model t_Model_ok n_Model hown hK hP hD hS 0 rfl rfl 0 (by decide) (hts _ fl_Model_132) (fun _ h9 => h9) rfl (by decide +kernel) rfl rfl (Nat.le_of_ble_eq_true rfl) d_Model_gang_18 (fun H locs hP hD hS => ?_)
    have hP : va_P G vwCl [(hM, .inr (10, mO 1 st al ac nf ns gg mg bw md wy sg_ sz_ ks bd aM)), (aM 20, .inl (ty 2, 65537, .inl (bF gs)))] _ := hP
    have hD : va_D A [(hM, .inr (10, mO 1 st al ac nf ns gg mg bw md wy sg_ sz_ ks bd aM)), (aM 20, .inl (ty 2, 65537, .inl (bF gs)))] := hD
    refine lv_aload_n hx hb d_Model_gang_21 rfl (lv_at hl 0 rfl) ?_
    refine va_get (D := G) (ci := 10) (v := .int (nI 1)) (C := R_Model) (T := F_Model) (N := 47) hx hb hts in_Model hown hK hP 0 rfl rfl 0 (by decide) (hts _ fl_Model_132) (fun _ h9 => h9) rfl d_Model_gang_22 ?_
    refine n_if_gt (tgt := 41) hx hb (by omega) d_Model_gang_25 (by decide) (fun c25 => ?_) (fun c25 => absurd c25 (by omega))
    refine lv_iconst (v := (nI 0)) hx hb d_Model_gang_41 (by decide) ?_
    exact W.zret (v := (nI 0)) hx hb hr nar_b0 (fun t9 ht hW => ⟨⟨_, (0, 1, gs, gg, md), rfl, ⟨rfl, by first | exact ⟨fun _ => ⟨rfl, rfl, fun _ => rfl, rfl, rfl⟩, fun h => absurd h (by omega)⟩ | exact ⟨fun h => absurd h (by omega), fun _ => ⟨rfl, fun _ => ⟨rfl, fun _ => rfl, rfl, rfl⟩, fun h => absurd (tN_1 c38) (by rw [h]; decide)⟩⟩⟩, by rw [ht]; exact hP, hD⟩, hS.F ht⟩) hS.2.2 d_Model_gang_42
  · have d10 := of_decide_eq_true (tN_1 c10)
    refine lv_iconst (v := (nI 0)) hx hb d_Model_gang_13 (by decide) ?_
    refine lv_goto (tgt := 18) hx hb d_Model_gang_14 (by decide) ?_
    refine va_put (D := G) (ci := 10) (v := .int (nI 0)) (ty := .int) (C := R_Model) (T := F_Model) (N := 47) hx hb hts in_Model t_Model t_Model_ok n_Model hown hK hP hD hS 0 rfl rfl 0 (by decide) (hts _ fl_Model_132) (fun _ h9 => h9) rfl (by decide +kernel) rfl rfl (Nat.le_of_ble_eq_true rfl) d_Model_gang_18 (fun H locs hP hD hS => ?_)
    have hP : va_P G vwCl [(hM, .inr (10, mO 0 st al ac nf ns gg mg bw md wy sg_ sz_ ks bd aM)), (aM 20, .inl (ty 2, 65537, .inl (bF gs)))] _ := hP
    have hD : va_D A [(hM, .inr (10, mO 0 st al ac nf ns gg mg bw md wy sg_ sz_ ks bd aM)), (aM 20, .inl (ty 2, 65537, .inl (bF gs)))] := hD
    refine lv_aload_n hx hb d_Model_gang_21 rfl (lv_at hl 0 rfl) ?_
    refine va_get (D := G) (ci := 10) (v := .int (nI 0)) (C := R_Model) (T := F_Model) (N := 47) hx hb hts in_Model hown hK hP 0 rfl rfl 0 (by decide) (hts _ fl_Model_132) (fun _ h9 => h9) rfl d_Model_gang_22 ?_
    refine n_if_gt (tgt := 41) hx hb (by omega) d_Model_gang_25 (by decide) (fun c25 => absurd c25 (by omega)) (fun c25 => ?_)
    have hsq : ((v.toNat + st - 1) / st) < 65537 := by have h9 : ((v.toNat + st - 1) / st) ≤ v.toNat := (ceil_le g1).mpr (Nat.le_mul_of_pos_right _ g1); omega
    refine lv_aload_n hx hb d_Model_gang_28 rfl (lv_at hl 0 rfl) ?_
    refine va_get (D := G) (ci := 10) (v := .ref (aM 20)) (C := R_Model) (T := F_Model) (N := 47) hx hb hts in_Model hown hK hP 0 rfl rfl 20 (by decide) (hts _ fl_Model_55) (fun _ h9 => h9) rfl d_Model_gang_29 ?_
    refine lv_aload_n hx hb d_Model_gang_32 rfl (lv_at hl 0 rfl) ?_
    refine lv_iload_n hx hb d_Model_gang_33 rfl (lv_at hl 1 rfl) ?_
    refine top_i (show (iI v) = (nI v.toNat) from iI_nI (by omega)) ?_
    refine vp_callSi (W.runV (As := [.int (nI v.toNat)]) (rest := [.ref (aM 20)]) ⟨hx, hb, hml, hown, hts⟩ (c_Model_stepsOf l G ty hM 0 st al ac nf ns gg mg bw md wy sg_ sz_ ks bd aM v.toNat (by omega) (by omega) (by omega)) ⟨callB_of 1 hts (gd_TB cd_Model_stepsOf) rfl rfl rfl (hts _ ini_Model) (hts _ lk_Model_161) hd_Model_stepsOf ⟨Nat.le_of_ble_eq_true rfl, Nat.le_of_ble_eq_true rfl⟩, hts _ im_Model_stepsOf, hts _ sl_Model_stepsOf⟩ (preV_ro (hP.sub (ws' := [(hM, .inr (10, mO 0 st al ac nf ns gg mg bw md wy sg_ sz_ ks bd aM))]) [0] rfl) hX 0 rfl rfl) rfl rfl hl.1 rfl (lv_room (Nat.le_of_ble_eq_true rfl)) d_Model_gang_34 ⟨Nat.le_of_ble_eq_true rfl, Nat.le_of_ble_eq_true rfl⟩) (fun r9 er9 => ?_)
    subst er9
    refine n_zald hx hb hK hP 1 2 rfl rfl (by omega) (by omega) d_Model_gang_37 ?_
    refine n_if_eq (tgt := 43) hx hb (tN_lt _) d_Model_gang_38 (by decide) (fun c38 => ?_) (fun c38 => ?_)
    · refine lv_aload_n hx hb d_Model_gang_43 rfl (lv_at hl 0 rfl) ?_
      refine va_get (D := G) (ci := 10) (v := .ref (aM 20)) (C := R_Model) (T := F_Model) (N := 47) hx hb hts in_Model hown hK hP 0 rfl rfl 20 (by decide) (hts _ fl_Model_55) (fun _ h9 => h9) rfl d_Model_gang_44 ?_
      refine lv_aload_n hx hb d_Model_gang_47 rfl (lv_at hl 0 rfl) ?_
      refine lv_iload_n hx hb d_Model_gang_48 rfl (lv_at hl 1 rfl) ?_
      refine top_i (show (iI v) = (nI v.toNat) from iI_nI (by omega)) ?_
      refine vp_callSi (W.runV (As := [.int (nI v.toNat)]) (rest := [.ref (aM 20)]) ⟨hx, hb, hml, hown, hts⟩ (c_Model_stepsOf l G ty hM 0 st al ac nf ns gg mg bw md wy sg_ sz_ ks bd aM v.toNat (by omega) (by omega) (by omega)) ⟨callB_of 1 hts (gd_TB cd_Model_stepsOf) rfl rfl rfl (hts _ ini_Model) (hts _ lk_Model_161) hd_Model_stepsOf ⟨Nat.le_of_ble_eq_true rfl, Nat.le_of_ble_eq_true rfl⟩, hts _ im_Model_stepsOf, hts _ sl_Model_stepsOf⟩ (preV_ro (hP.sub (ws' := [(hM, .inr (10, mO 0 st al ac nf ns gg mg bw md wy sg_ sz_ ks bd aM))]) [0] rfl) hX 0 rfl rfl) rfl rfl hl.1 rfl (lv_room (Nat.le_of_ble_eq_true rfl)) d_Model_gang_49 ⟨Nat.le_of_ble_eq_true rfl, Nat.le_of_ble_eq_true rfl⟩) (fun r9 er9 => ?_)
      subst er9
      refine lv_iconst (v := (nI 1)) hx hb d_Model_gang_52 (by decide) ?_
      refine n_zast hx hb hK hP hD hS 1 2 rfl rfl nar_z1 (by omega) (by omega) d_Model_gang_53 (fun H locs hP hD hS => ?_)
      rw [upd_b1] at hP hD
      have hP : va_P G vwCl [(hM, .inr (10, mO 0 st al ac nf ns gg mg bw md wy sg_ sz_ ks bd aM)), (aM 20, .inl (ty 2, 65537, .inl (bF (va_up gs ((v.toNat + st - 1) / st) true))))] _ := hP
      have hD : va_D A [(hM, .inr (10, mO 0 st al ac nf ns gg mg bw md wy sg_ sz_ ks bd aM)), (aM 20, .inl (ty 2, 65537, .inl (bF (va_up gs ((v.toNat + st - 1) / st) true))))] := hD
      refine lv_aload_n hx hb d_Model_gang_54 rfl (lv_at hl 0 rfl) ?_
      refine lv_iconst (v := (nI 1)) hx hb d_Model_gang_55 (by decide) ?_
      refine va_put (D := G) (ci := 10) (v := .int (nI 1)) (ty := .boolean) (C := R_Model) (T := F_Model) (N := 47) hx hb hts in_Model t_Model t_Model_ok n_Model hown hK hP hD hS 0 rfl rfl 21 (by decide) (hts _ fl_Model_168) (fun _ h9 => h9) rfl (by decide +kernel) nar_b1 fit_b1 (Nat.le_of_ble_eq_true rfl) d_Model_gang_56 (fun H locs hP hD hS => ?_)
      have hP : va_P G vwCl [(hM, .inr (10, mO 0 st al ac nf ns 1 mg bw md wy sg_ sz_ ks bd aM)), (aM 20, .inl (ty 2, 65537, .inl (bF (va_up gs ((v.toNat + st - 1) / st) true))))] _ := hP
      have hD : va_D A [(hM, .inr (10, mO 0 st al ac nf ns 1 mg bw md wy sg_ sz_ ks bd aM)), (aM 20, .inl (ty 2, 65537, .inl (bF (va_up gs ((v.toNat + st - 1) / st) true))))] := hD
      refine lv_aload_n hx hb d_Model_gang_59 rfl (lv_at hl 0 rfl) ?_
      refine lv_iconst (v := (nI 1)) hx hb d_Model_gang_60 (by decide) ?_
      refine call_wr_i (Wc := [(hM, .inr (10, mO 0 st al ac nf ns 1 mg bw md wy sg_ sz_ ks bd aM))]) (Wr := [(aM 20, .inl (ty 2, 65537, .inl (bF (va_up gs ((v.toNat + st - 1) / st) true))))]) (va_runV (As := [.int (nI 1)]) (rest := []) ⟨hx, hb, hml, hown, hts⟩ (c_told1 l G ty _ hM 0 st al ac nf ns 1 mg bw md wy sg_ sz_ ks bd aM (by omega)) ⟨callB_of 1 hts (gd_TB cd_Model_told) rfl rfl rfl (hts _ ini_Model) (hts _ lk_Model_152) hd_Model_told ⟨Nat.le_of_ble_eq_true rfl, Nat.le_of_ble_eq_true rfl⟩, hts _ im_Model_told, hts _ sl_Model_told⟩ (preV_wr (hP.sub (ws' := [(hM, .inr (10, mO 0 st al ac nf ns 1 mg bw md wy sg_ sz_ ks bd aM))]) [0] rfl) hX (hD.sub (ws' := [(hM, .inr (10, mO 0 st al ac nf ns 1 mg bw md wy sg_ sz_ ks bd aM))]) [0] (by decide) rfl) 0 rfl rfl) rfl rfl hl.1 rfl (lv_room (Nat.le_of_ble_eq_true rfl)) d_Model_gang_61 ⟨Nat.le_of_ble_eq_true rfl, Nat.le_of_ble_eq_true rfl⟩) hP hD hS hA [0] [1] rfl rfl (by decide) (by decide) (fun r2 u9 H locs hw1 hP hD hS => ?_)
      have hw1 : r2 = (nI 1) := hw1
      have hP : va_P G vwCl [(aM 20, .inl (ty 2, 65537, .inl (bF (va_up gs ((v.toNat + st - 1) / st) true)))), (hM, .inr (10, mO 0 st al ac nf ns 1 mg bw 0 wy sg_ sz_ ks bd aM))] _ := hP
      have hD : va_D A [(aM 20, .inl (ty 2, 65537, .inl (bF (va_up gs ((v.toNat + st - 1) / st) true)))), (hM, .inr (10, mO 0 st al ac nf ns 1 mg bw 0 wy sg_ sz_ ks bd aM))] := hD
      subst hw1
      have hP : va_P G vwCl [(hM, .inr (10, mO 0 st al ac nf ns 1 mg bw 0 wy sg_ sz_ ks bd aM)), (aM 20, .inl (ty 2, 65537, .inl (bF (va_up gs ((v.toNat + st - 1) / st) true))))] _ := hP.sub [1, 0] rfl
      have hD : va_D A [(hM, .inr (10, mO 0 st al ac nf ns 1 mg bw 0 wy sg_ sz_ ks bd aM)), (aM 20, .inl (ty 2, 65537, .inl (bF (va_up gs ((v.toNat + st - 1) / st) true))))] := hD.sub [1, 0] (by decide) rfl
      exact W.zret (v := (nI 1)) hx hb hr nar_b1 (fun t9 ht hW => ⟨⟨_, (1, 0, (va_up gs ((v.toNat + st - 1) / st) true), 1, 0), rfl, ⟨rfl, ⟨fun h => absurd h (by omega), fun _ => ⟨rfl, fun h => absurd h (by rw [tN_0 c38]; decide), fun _ => ⟨rfl, fun _ => rfl, rfl, rfl⟩⟩⟩⟩, by rw [ht]; exact hP, hD⟩, hS.F ht⟩) hS.2.2 d_Model_gang_64
    · refine lv_iconst (v := (nI 0)) hx hb d_Model_gang_41 (by decide) ?_
      exact W.zret (v := (nI 0)) hx hb hr nar_b0 (fun t9 ht hW => ⟨⟨_, (0, 0, gs, gg, md), rfl, ⟨rfl, by first | exact ⟨fun _ => ⟨rfl, rfl, fun _ => rfl, rfl, rfl⟩, fun h => absurd h (by omega)⟩ | exact ⟨fun h => absurd h (by omega), fun _ => ⟨rfl, fun _ => ⟨rfl, fun _ => rfl, rfl, rfl⟩, fun h => absurd (tN_1 c38) (by rw [h]; decide)⟩⟩⟩, by rw [ht]; exact hP, hD⟩, hS.F ht⟩) hS.2.2 d_Model_gang_42

abbrev q_Model_need (G : va_G) (ty : Nat → ClassId) (hM : Nat) (cd : Nat) (st : Nat) (al : Nat) (ac : Nat) (nf : Nat) (ns : Nat) (gg : Nat) (mg : Nat) (bw : Nat) (md : Nat) (wy : Nat) (sg_ : Nat) (sz_ : Nat) (ks : Nat) (bd : Int) (aM : Nat → Nat) (pi : Int) (v : Int) (sn : Nat → Int) (A : Nat → Prop) : Array Value → State → Outcome → State → Prop := va_Qi (fun (r : Int32) => fun (uu : Nat × Nat × (Nat → Int) × Nat) => r = (nI uu.1) ∧ ((pi < 0 ∨ (ns : Int) ≤ pi) → uu.2.1 = 1 ∧ uu.1 = 0 ∧ (∀ q, uu.2.2.1 q = sn q) ∧ uu.2.2.2 = md) ∧ (¬ (pi < 0 ∨ (ns : Int) ≤ pi) → ((v < 0 ∨ 1000 < v) → uu.2.1 = 2 ∧ uu.1 = 0 ∧ (∀ q, uu.2.2.1 q = sn q) ∧ uu.2.2.2 = md) ∧ (¬ (v < 0 ∨ 1000 < v) → uu.2.1 = 0 ∧ (sn pi.toNat = v → uu.1 = 0 ∧ (∀ q, uu.2.2.1 q = sn q) ∧ uu.2.2.2 = md) ∧ (sn pi.toNat ≠ v → uu.1 = 1 ∧ (∀ q, uu.2.2.1 q = va_up sn pi.toNat v q) ∧ uu.2.2.2 = 0)))) (at_W G (fun (uu : Nat × Nat × (Nat → Int) × Nat) => [(hM, .inr (10, mO uu.2.1 st al ac nf ns gg mg bw uu.2.2.2 wy sg_ sz_ ks bd aM)), (aM 17, .inl (ty 0, 8, .inl (zF uu.2.2.1)))]) A) A
set_option maxRecDepth 100000 in
set_option maxHeartbeats 4000000 in
theorem c_Model_need (l : Launch) (G : va_G) (ty : Nat → ClassId) (sz : Nat) (hM : Nat) (cd : Nat) (st : Nat) (al : Nat) (ac : Nat) (nf : Nat) (ns : Nat) (gg : Nat) (mg : Nat) (bw : Nat) (md : Nat) (wy : Nat) (sg_ : Nat) (sz_ : Nat) (ks : Nat) (bd : Int) (aM : Nat → Nat) (pi : Int) (v : Int) (sn : Nat → Int) (gmd : md ≤ 1) (gi : -2147483648 ≤ pi ∧ pi ≤ 2147483647) (gv : -2147483648 ≤ v ∧ v ≤ 2147483647) (g8 : ns ≤ 8) (gn : ∀ i, i < ns → -1 ≤ sn i ∧ sn i ≤ 1000) : Met l y_Model_need ws_Model_need { frames := 1, cells := 0, slots := 0, locals := 25 } (va_Pc [.ref hM, .int (iI pi), .int (iI v)] (fun U => U.heap.size = sz ∧ va_P G vwCl [(hM, .inr (10, mO cd st al ac nf ns gg mg bw md wy sg_ sz_ ks bd aM)), (aM 17, .inl (ty 0, 8, .inl (zF sn)))] U.heap ∧ KX G ty U ∧ va_D (fun _ => True) [(hM, .inr (10, mO cd st al ac nf ns gg mg bw md wy sg_ sz_ ks bd aM)), (aM 17, .inl (ty 0, 8, .inl (zF sn)))])) (q_Model_need G ty hM cd st al ac nf ns gg mg bw md wy sg_ sz_ ks bd aM pi v sn (va_A [(hM, .inr (10, mO cd st al ac nf ns gg mg bw md wy sg_ sz_ ks bd aM)), (aM 17, .inl (ty 0, 8, .inl (zF sn)))] sz)) 0 0 (va_A [(hM, .inr (10, mO cd st al ac nf ns gg mg bw md wy sg_ sz_ ks bd aM)), (aM 17, .inl (ty 0, 8, .inl (zF sn)))] sz) := by
  refine met_wr (y := y_Model_need) (maxL := 3) (sz := sz) (G := G) (ty := ty) (mc := 0) (ms := 0) (av := [.ref hM, .int (iI pi), .int (iI v)]) (W0 := [(hM, .inr (10, mO cd st al ac nf ns gg mg bw md wy sg_ sz_ ks bd aM)), (aM 17, .inl (ty 0, 8, .inl (zF sn)))]) (fun A => q_Model_need G ty hM cd st al ac nf ns gg mg bw md wy sg_ sz_ ks bd aM pi v sn A) R_Model (by decide) rfl rfl (Nat.le_of_ble_eq_true rfl) ?_
  intro p e s m below meth c ls A hx hb hr hml hown hts hlocks hin hA hP hX hD hS hl
  have hK := hX.1
  have hl : lv_has ls 3 [(0, .ref hM), (1, .int (iI pi)), (2, .int (iI v))] := hl
  refine lv_aload_n hx hb d_Model_need_0 rfl (lv_at hl 0 rfl) ?_
  refine lv_iload_n hx hb d_Model_need_1 rfl (lv_at hl 1 rfl) ?_
  refine call_wr_i (Wc := [(hM, .inr (10, mO cd st al ac nf ns gg mg bw md wy sg_ sz_ ks bd aM))]) (Wr := [(aM 17, .inl (ty 0, 8, .inl (zF sn)))]) (va_runV (As := [.int (iI pi)]) (rest := []) ⟨hx, hb, hml, hown, hts⟩ (c_Model_noPiece l G ty _ hM cd st al ac nf ns gg mg bw md wy sg_ sz_ ks bd aM pi (by omega) (by omega)) ⟨callB_of 1 hts (gd_TB cd_Model_noPiece) rfl rfl rfl (hts _ ini_Model) (hts _ lk_Model_164) hd_Model_noPiece ⟨Nat.le_of_ble_eq_true rfl, Nat.le_of_ble_eq_true rfl⟩, hts _ im_Model_noPiece, hts _ sl_Model_noPiece⟩ (preV_wr (hP.sub (ws' := [(hM, .inr (10, mO cd st al ac nf ns gg mg bw md wy sg_ sz_ ks bd aM))]) [0] rfl) hX (hD.sub (ws' := [(hM, .inr (10, mO cd st al ac nf ns gg mg bw md wy sg_ sz_ ks bd aM))]) [0] (by decide) rfl) 0 rfl rfl) rfl rfl hl.1 rfl (lv_room (Nat.le_of_ble_eq_true rfl)) d_Model_need_2 ⟨Nat.le_of_ble_eq_true rfl, Nat.le_of_ble_eq_true rfl⟩) hP hD hS hA [0] [1] rfl rfl (by decide) (by decide) (fun r2 u9 H locs hw1 hP hD hS => ?_)
  have hw1 : r2 = (nI ((decide (pi < 0 ∨ (ns : Int) ≤ pi)).toNat)) := hw1
  have hP : va_P G vwCl [(aM 17, .inl (ty 0, 8, .inl (zF sn))), (hM, .inr (10, mO ((decide (pi < 0 ∨ (ns : Int) ≤ pi)).toNat) st al ac nf ns gg mg bw md wy sg_ sz_ ks bd aM))] _ := hP
  have hD : va_D A [(aM 17, .inl (ty 0, 8, .inl (zF sn))), (hM, .inr (10, mO ((decide (pi < 0 ∨ (ns : Int) ≤ pi)).toNat) st al ac nf ns gg mg bw md wy sg_ sz_ ks bd aM))] := hD
  subst hw1
  refine n_if_eq (tgt := 10) hx hb (tN_lt _) d_Model_need_5 (by decide) (fun c5 => ?_) (fun c5 => ?_)
  · have d5 := of_decide_eq_false (tN_0 c5)
    refine lv_aload_n hx hb d_Model_need_10 rfl (lv_at hl 0 rfl) ?_
    refine lv_iload_n hx hb d_Model_need_11 rfl (lv_at hl 2 rfl) ?_
    refine z_i2l hx hb (by omega) d_Model_need_12 ?_
    refine lv_lconst (v := iL 0) hx hb d_Model_need_13 (by decide) ?_
    refine lv_ldc2 (v := (iL 1000)) hx hb hown (hts _ kc_Model_171) d_Model_need_14 ?_
    refine vp_callSi (W.runS (As := [.long (iL v), .long (iL 0), .long (iL 1000)]) (rest := [.ref hM]) ⟨hx, hb, hml, hown, hts⟩ (c_Model_isIn l G ty v 0 1000 (by omega) (by omega) (by omega)) ⟨callB_of 3 hts (gd_TB cd_Model_isIn) rfl rfl rfl (hts _ ini_Model) (hts _ lk_Model_141) hd_Model_isIn ⟨Nat.le_of_ble_eq_true rfl, Nat.le_of_ble_eq_true rfl⟩, hts _ st_Model_isIn⟩ (preS_ro (hP.sub (ws' := []) [] rfl) hX) rfl rfl hl.1 rfl (lv_room (Nat.le_of_ble_eq_true rfl)) d_Model_need_17 ⟨Nat.le_of_ble_eq_true rfl, Nat.le_of_ble_eq_true rfl⟩) (fun r9 er9 => ?_)
    subst er9
    refine n_if_eq (tgt := 27) hx hb (tN_lt _) d_Model_need_20 (by decide) (fun c20 => ?_) (fun c20 => ?_)
    · have d20 := of_decide_eq_false (tN_0 c20)
      refine lv_iconst (v := (nI 2)) hx hb d_Model_need_27 (by decide) ?_
      refine va_put (D := G) (ci := 10) (v := .int (nI 2)) (ty := .int) (C := R_Model) (T := F_Model) (N := 47) hx hb hts in_Model t_Model t_Model_ok n_Model hown hK hP hD hS 1 rfl rfl 0 (by decide) (hts _ fl_Model_132) (fun _ h9 => h9) rfl (by decide +kernel) rfl rfl (Nat.le_of_ble_eq_true rfl) d_Model_need_28 (fun H locs hP hD hS => ?_)
      have hP : va_P G vwCl [(aM 17, .inl (ty 0, 8, .inl (zF sn))), (hM, .inr (10, mO 2 st al ac nf ns gg mg bw md wy sg_ sz_ ks bd aM))] _ := hP
      have hD : va_D A [(aM 17, .inl (ty 0, 8, .inl (zF sn))), (hM, .inr (10, mO 2 st al ac nf ns gg mg bw md wy sg_ sz_ ks bd aM))] := hD
      refine lv_aload_n hx hb d_Model_need_31 rfl (lv_at hl 0 rfl) ?_
      refine va_get (D := G) (ci := 10) (v := .int (nI 2)) (C := R_Model) (T := F_Model) (N := 47) hx hb hts in_Model hown hK hP 1 rfl rfl 0 (by decide) (hts _ fl_Model_132) (fun _ h9 => h9) rfl d_Model_need_32 ?_
      refine n_if_gt (tgt := 48) hx hb (by omega) d_Model_need_35 (by decide) (fun c35 => ?_) (fun c35 => absurd c35 (by omega))
      refine lv_iconst (v := (nI 0)) hx hb d_Model_need_48 (by decide) ?_
      have hP : va_P G vwCl [(hM, .inr (10, mO 2 st al ac nf ns gg mg bw md wy sg_ sz_ ks bd aM)), (aM 17, .inl (ty 0, 8, .inl (zF sn)))] _ := hP.sub [1, 0] rfl
      have hD : va_D A [(hM, .inr (10, mO 2 st al ac nf ns gg mg bw md wy sg_ sz_ ks bd aM)), (aM 17, .inl (ty 0, 8, .inl (zF sn)))] := hD.sub [1, 0] (by decide) rfl
      exact W.zret (v := (nI 0)) hx hb hr nar_b0 (fun t9 ht hW => ⟨⟨_, (0, 2, sn, md), rfl, ⟨rfl, by first | exact ⟨fun h => ⟨by rw [decide_eq_true h]; rfl, rfl, fun _ => rfl, rfl⟩, fun h => absurd d5 h⟩ | exact ⟨fun h => absurd h (by omega), fun _ => ⟨fun _ => ⟨rfl, rfl, fun _ => rfl, rfl⟩, fun h => absurd h (by omega)⟩⟩ | exact ⟨fun h => absurd h (by omega), fun _ => ⟨fun h => absurd h (by omega), fun _ => ⟨rfl, fun _ => ⟨rfl, fun _ => rfl, rfl⟩, fun h => absurd c45 h⟩⟩⟩⟩, by rw [ht]; exact hP, hD⟩, hS.F ht⟩) hS.2.2 d_Model_need_49
    · have d20 := of_decide_eq_true (tN_1 c20)
      refine lv_iconst (v := (nI 0)) hx hb d_Model_need_23 (by decide) ?_
      refine lv_goto (tgt := 28) hx hb d_Model_need_24 (by decide) ?_
      refine va_put (D := G) (ci := 10) (v := .int (nI 0)) (ty := .int) (C := R_Model) (T := F_Model) (N := 47) hx hb hts in_Model t_Model t_Model_ok n_Model hown hK hP hD hS 1 rfl rfl 0 (by decide) (hts _ fl_Model_132) (fun _ h9 => h9) rfl (by decide +kernel) rfl rfl (Nat.le_of_ble_eq_true rfl) d_Model_need_28 (fun H locs hP hD hS => ?_)
      have hP : va_P G vwCl [(aM 17, .inl (ty 0, 8, .inl (zF sn))), (hM, .inr (10, mO 0 st al ac nf ns gg mg bw md wy sg_ sz_ ks bd aM))] _ := hP
      have hD : va_D A [(aM 17, .inl (ty 0, 8, .inl (zF sn))), (hM, .inr (10, mO 0 st al ac nf ns gg mg bw md wy sg_ sz_ ks bd aM))] := hD
      refine lv_aload_n hx hb d_Model_need_31 rfl (lv_at hl 0 rfl) ?_
      refine va_get (D := G) (ci := 10) (v := .int (nI 0)) (C := R_Model) (T := F_Model) (N := 47) hx hb hts in_Model hown hK hP 1 rfl rfl 0 (by decide) (hts _ fl_Model_132) (fun _ h9 => h9) rfl d_Model_need_32 ?_
      refine n_if_gt (tgt := 48) hx hb (by omega) d_Model_need_35 (by decide) (fun c35 => absurd c35 (by omega)) (fun c35 => ?_)
      have hgn := gn pi.toNat (by omega)
      refine lv_aload_n hx hb d_Model_need_38 rfl (lv_at hl 0 rfl) ?_
      refine va_get (D := G) (ci := 10) (v := .ref (aM 17)) (C := R_Model) (T := F_Model) (N := 47) hx hb hts in_Model hown hK hP 1 rfl rfl 17 (by decide) (hts _ fl_Model_45) (fun _ h9 => h9) rfl d_Model_need_39 ?_
      refine lv_iload_n hx hb d_Model_need_42 rfl (lv_at hl 1 rfl) ?_
      refine top_i (show (iI pi) = (nI pi.toNat) from iI_nI (by omega)) ?_
      refine n_iald hx hb hK hP 0 0 rfl rfl (by omega) (by omega) d_Model_need_43 ?_
      refine lv_iload_n hx hb d_Model_need_44 rfl (lv_at hl 2 rfl) ?_
      refine z_icmp_ne (tgt := 50) hx hb (by omega) (by omega) d_Model_need_45 (by decide) (fun c45 => ?_) (fun c45 => ?_)
      · refine lv_aload_n hx hb d_Model_need_50 rfl (lv_at hl 0 rfl) ?_
        refine va_get (D := G) (ci := 10) (v := .ref (aM 17)) (C := R_Model) (T := F_Model) (N := 47) hx hb hts in_Model hown hK hP 1 rfl rfl 17 (by decide) (hts _ fl_Model_45) (fun _ h9 => h9) rfl d_Model_need_51 ?_
        refine lv_iload_n hx hb d_Model_need_54 rfl (lv_at hl 1 rfl) ?_
        refine top_i (show (iI pi) = (nI pi.toNat) from iI_nI (by omega)) ?_
        refine lv_iload_n hx hb d_Model_need_55 rfl (lv_at hl 2 rfl) ?_
        refine n_iast hx hb hK hP hD hS 0 0 rfl rfl (by omega) (by omega) d_Model_need_56 (fun H locs hP hD hS => ?_)
        rw [upd_zF] at hP hD
        have hP : va_P G vwCl [(aM 17, .inl (ty 0, 8, .inl (zF (va_up sn pi.toNat v)))), (hM, .inr (10, mO 0 st al ac nf ns gg mg bw md wy sg_ sz_ ks bd aM))] _ := hP
        have hD : va_D A [(aM 17, .inl (ty 0, 8, .inl (zF (va_up sn pi.toNat v)))), (hM, .inr (10, mO 0 st al ac nf ns gg mg bw md wy sg_ sz_ ks bd aM))] := hD
        refine lv_aload_n hx hb d_Model_need_57 rfl (lv_at hl 0 rfl) ?_
        refine lv_iconst (v := (nI 1)) hx hb d_Model_need_58 (by decide) ?_
        refine call_wr_i (Wc := [(hM, .inr (10, mO 0 st al ac nf ns gg mg bw md wy sg_ sz_ ks bd aM))]) (Wr := [(aM 17, .inl (ty 0, 8, .inl (zF (va_up sn pi.toNat v))))]) (va_runV (As := [.int (nI 1)]) (rest := []) ⟨hx, hb, hml, hown, hts⟩ (c_told1 l G ty _ hM 0 st al ac nf ns gg mg bw md wy sg_ sz_ ks bd aM (by omega)) ⟨callB_of 1 hts (gd_TB cd_Model_told) rfl rfl rfl (hts _ ini_Model) (hts _ lk_Model_152) hd_Model_told ⟨Nat.le_of_ble_eq_true rfl, Nat.le_of_ble_eq_true rfl⟩, hts _ im_Model_told, hts _ sl_Model_told⟩ (preV_wr (hP.sub (ws' := [(hM, .inr (10, mO 0 st al ac nf ns gg mg bw md wy sg_ sz_ ks bd aM))]) [1] rfl) hX (hD.sub (ws' := [(hM, .inr (10, mO 0 st al ac nf ns gg mg bw md wy sg_ sz_ ks bd aM))]) [1] (by decide) rfl) 0 rfl rfl) rfl rfl hl.1 rfl (lv_room (Nat.le_of_ble_eq_true rfl)) d_Model_need_59 ⟨Nat.le_of_ble_eq_true rfl, Nat.le_of_ble_eq_true rfl⟩) hP hD hS hA [1] [0] rfl rfl (by decide) (by decide) (fun r4 u9 H locs hw3 hP hD hS => ?_)
        have hw3 : r4 = (nI 1) := hw3
        have hP : va_P G vwCl [(aM 17, .inl (ty 0, 8, .inl (zF (va_up sn pi.toNat v)))), (hM, .inr (10, mO 0 st al ac nf ns gg mg bw 0 wy sg_ sz_ ks bd aM))] _ := hP
        have hD : va_D A [(aM 17, .inl (ty 0, 8, .inl (zF (va_up sn pi.toNat v)))), (hM, .inr (10, mO 0 st al ac nf ns gg mg bw 0 wy sg_ sz_ ks bd aM))] := hD
        subst hw3
        have hP : va_P G vwCl [(hM, .inr (10, mO 0 st al ac nf ns gg mg bw 0 wy sg_ sz_ ks bd aM)), (aM 17, .inl (ty 0, 8, .inl (zF (va_up sn pi.toNat v))))] _ := hP.sub [1, 0] rfl
        have hD : va_D A [(hM, .inr (10, mO 0 st al ac nf ns gg mg bw 0 wy sg_ sz_ ks bd aM)), (aM 17, .inl (ty 0, 8, .inl (zF (va_up sn pi.toNat v))))] := hD.sub [1, 0] (by decide) rfl
        exact W.zret (v := (nI 1)) hx hb hr nar_b1 (fun t9 ht hW => ⟨⟨_, (1, 0, (va_up sn pi.toNat v), 0), rfl, ⟨rfl, ⟨fun h => absurd h (by omega), fun _ => ⟨fun h => absurd h (by omega), fun _ => ⟨rfl, fun h => absurd h c45, fun _ => ⟨rfl, fun _ => rfl, rfl⟩⟩⟩⟩⟩, by rw [ht]; exact hP, hD⟩, hS.F ht⟩) hS.2.2 d_Model_need_62
      · refine lv_iconst (v := (nI 0)) hx hb d_Model_need_48 (by decide) ?_
        have hP : va_P G vwCl [(hM, .inr (10, mO 0 st al ac nf ns gg mg bw md wy sg_ sz_ ks bd aM)), (aM 17, .inl (ty 0, 8, .inl (zF sn)))] _ := hP.sub [1, 0] rfl
        have hD : va_D A [(hM, .inr (10, mO 0 st al ac nf ns gg mg bw md wy sg_ sz_ ks bd aM)), (aM 17, .inl (ty 0, 8, .inl (zF sn)))] := hD.sub [1, 0] (by decide) rfl
        exact W.zret (v := (nI 0)) hx hb hr nar_b0 (fun t9 ht hW => ⟨⟨_, (0, 0, sn, md), rfl, ⟨rfl, by first | exact ⟨fun h => ⟨by rw [decide_eq_true h]; rfl, rfl, fun _ => rfl, rfl⟩, fun h => absurd d5 h⟩ | exact ⟨fun h => absurd h (by omega), fun _ => ⟨fun _ => ⟨rfl, rfl, fun _ => rfl, rfl⟩, fun h => absurd h (by omega)⟩⟩ | exact ⟨fun h => absurd h (by omega), fun _ => ⟨fun h => absurd h (by omega), fun _ => ⟨rfl, fun _ => ⟨rfl, fun _ => rfl, rfl⟩, fun h => absurd c45 h⟩⟩⟩⟩, by rw [ht]; exact hP, hD⟩, hS.F ht⟩) hS.2.2 d_Model_need_49
  · have d5 := of_decide_eq_true (tN_1 c5)
    refine lv_iconst (v := (nI 0)) hx hb d_Model_need_8 (by decide) ?_
    have hP : va_P G vwCl [(hM, .inr (10, mO ((decide (pi < 0 ∨ (ns : Int) ≤ pi)).toNat) st al ac nf ns gg mg bw md wy sg_ sz_ ks bd aM)), (aM 17, .inl (ty 0, 8, .inl (zF sn)))] _ := hP.sub [1, 0] rfl
    have hD : va_D A [(hM, .inr (10, mO ((decide (pi < 0 ∨ (ns : Int) ≤ pi)).toNat) st al ac nf ns gg mg bw md wy sg_ sz_ ks bd aM)), (aM 17, .inl (ty 0, 8, .inl (zF sn)))] := hD.sub [1, 0] (by decide) rfl
    exact W.zret (v := (nI 0)) hx hb hr nar_b0 (fun t9 ht hW => ⟨⟨_, (0, (decide (pi < 0 ∨ (ns : Int) ≤ pi)).toNat, sn, md), rfl, ⟨rfl, by first | exact ⟨fun h => ⟨by rw [decide_eq_true h]; rfl, rfl, fun _ => rfl, rfl⟩, fun h => absurd d5 h⟩ | exact ⟨fun h => absurd h (by omega), fun _ => ⟨fun _ => ⟨rfl, rfl, fun _ => rfl, rfl⟩, fun h => absurd h (by omega)⟩⟩ | exact ⟨fun h => absurd h (by omega), fun _ => ⟨fun h => absurd h (by omega), fun _ => ⟨rfl, fun _ => ⟨rfl, fun _ => rfl, rfl⟩, fun h => absurd c45 h⟩⟩⟩⟩, by rw [ht]; exact hP, hD⟩, hS.F ht⟩) hS.2.2 d_Model_need_9
