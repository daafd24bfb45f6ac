theorem fl_Model_122 : Cond.fieldLink R_Model 122 "FaultRipsModel" "step" "I" ∈ TB := mem_TB 853 (by decide +kernel) (by decide +kernel)
theorem fl_Model_132 : Cond.fieldLink R_Model 132 "FaultRipsModel" "code" "I" ∈ TB := mem_TB 852 (by decide +kernel) (by decide +kernel)
theorem fl_Model_16 : Cond.fieldLink R_Model 16 "FaultRipsModel" "fx" "[I" ∈ TB := mem_TB 859 (by decide +kernel) (by decide +kernel)
theorem fl_Model_173 : Cond.fieldLink R_Model 173 "FaultRipsModel" "margin" "I" ∈ TB := mem_TB 874 (by decide +kernel) (by decide +kernel)
theorem fl_Model_19 : Cond.fieldLink R_Model 19 "FaultRipsModel" "fy" "[I" ∈ TB := mem_TB 860 (by decide +kernel) (by decide +kernel)
theorem fl_Model_22 : Cond.fieldLink R_Model 22 "FaultRipsModel" "fw" "[I" ∈ TB := mem_TB 861 (by decide +kernel) (by decide +kernel)
theorem fl_Model_25 : Cond.fieldLink R_Model 25 "FaultRipsModel" "fh" "[I" ∈ TB := mem_TB 862 (by decide +kernel) (by decide +kernel)

/-- the reference's object -/
def mO (cd st al ac nf ns gg mg bw md wy sg_ sz_ ks : Nat) (bd : Int) (aM : Nat → Nat) : List Value := [.int (nI cd), .int (nI st), .int (nI al), .int (nI ac), .int (nI nf), .ref (aM 5), .ref (aM 6), .ref (aM 7), .ref (aM 8), .ref (aM 9), .ref (aM 10), .int (nI ns), .ref (aM 12), .ref (aM 13), .ref (aM 14), .ref (aM 15), .ref (aM 16), .ref (aM 17), .ref (aM 18), .ref (aM 19), .ref (aM 20), .int (nI gg), .int (nI mg), .int (nI bw), .ref (aM 24), .ref (aM 25), .ref (aM 26), .ref (aM 27), .ref (aM 28), .ref (aM 29), .ref (aM 30), .ref (aM 31), .ref (aM 32), .int (nI md), .int (nI wy), .int (nI sg_), .int (nI sz_), .ref (aM 37), .ref (aM 38), .ref (aM 39), .ref (aM 40), .ref (aM 41), .int (nI ks), .ref (aM 43), .long (iL bd), .ref (aM 45), .ref (aM 46)]
/-- a column of the faults' numbers -/
def col (fd : Nat → Nat → Int) (j i : Nat) : Int := fd i j
theorem fM_x {fd : Nat → Nat → Int} {mg lo hi i : Nat} : fM fd mg 1 lo hi i = decide (col fd 2 i - (mg : Int) < (hi : Int) ∧ (lo : Int) < col fd 2 i + col fd 4 i + (mg : Int)) := by
  unfold fM fMeets
  exact decide_eq_decide.mpr (by rw [if_neg (by omega)]; exact Iff.rfl)
theorem fM_y {fd : Nat → Nat → Int} {mg lo hi i : Nat} : fM fd mg 0 lo hi i = decide (col fd 3 i - (mg : Int) < (hi : Int) ∧ (lo : Int) < col fd 3 i + col fd 5 i + (mg : Int)) := by
  unfold fM fMeets
  exact decide_eq_decide.mpr (by rw [if_pos rfl]; exact Iff.rfl)

abbrev q_Model_number (G : va_G) (ty : Nat → ClassId) (x0 : Nat) (x1 : Nat) (y0 : Nat) (y1 : Nat) : Array Value → State → Outcome → State → Prop := vp_Si (fun r : Int32 => r = (nI (((25 * x0 + x1) * 11 + y0) * 11 + y1)))
set_option maxRecDepth 100000 in
set_option maxHeartbeats 4000000 in
theorem c_Model_number (l : Launch) (G : va_G) (ty : Nat → ClassId) (x0 : Nat) (x1 : Nat) (y0 : Nat) (y1 : Nat) : Met l y_Model_number ws_Model_number { frames := 0, cells := 0, slots := 0, locals := 0 } (va_Pc [.int (nI x0), .int (nI x1), .int (nI y0), .int (nI y1)] (fun U => va_P G vwCl [] U.heap ∧ KX G ty U)) (q_Model_number G ty x0 x1 y0 y1) 0 0 (fun _ => False) := by
  refine met_ro R_Model (by decide) rfl rfl (Nat.le_of_ble_eq_true rfl) ?_
  intro p e s m below meth c ls hx hb hr hml hown hts hlocks hP hX hl
  have hK := hX.1
  have hl : lv_has ls 4 [(0, .int (nI x0)), (1, .int (nI x1)), (2, .int (nI y0)), (3, .int (nI y1))] := hl
  refine lv_bipush (v := (nI 25)) hx hb d_Model_number_0 (by decide) ?_
  refine lv_iload_n hx hb d_Model_number_2 rfl (lv_at hl 0 rfl) ?_
  refine n_imul hx hb d_Model_number_3 ?_
  refine lv_iload_n hx hb d_Model_number_4 rfl (lv_at hl 1 rfl) ?_
  refine n_iadd hx hb d_Model_number_5 ?_
  refine lv_bipush (v := (nI 11)) hx hb d_Model_number_6 (by decide) ?_
  refine n_imul hx hb d_Model_number_8 ?_
  refine lv_iload_n hx hb d_Model_number_9 rfl (lv_at hl 2 rfl) ?_
  refine n_iadd hx hb d_Model_number_10 ?_
  refine lv_bipush (v := (nI 11)) hx hb d_Model_number_11 (by decide) ?_
  refine n_imul hx hb d_Model_number_13 ?_
  refine lv_iload_n hx hb d_Model_number_14 rfl (lv_at hl 3 rfl) ?_
  refine n_iadd hx hb d_Model_number_15 ?_
  exact W.iret (v := (nI ((((((25 * x0) + x1) * 11) + y0) * 11) + y1))) hx hb hr (fun t9 ht _ => ⟨_, rfl, rfl, ht⟩) (fun q h => by cases h) d_Model_number_16

abbrev q_Model_isIn (G : va_G) (ty : Nat → ClassId) (v : Int) (a : Int) (b : Int) : Array Value → State → Outcome → State → Prop := vp_Si (fun r : Int32 => r = (nI ((decide (a ≤ v ∧ v ≤ b)).toNat)))
set_option maxRecDepth 100000 in
set_option maxHeartbeats 4000000 in
theorem c_Model_isIn (l : Launch) (G : va_G) (ty : Nat → ClassId) (v : Int) (a : Int) (b : Int) (g1 : -9223372036854775808 ≤ v ∧ v ≤ 9223372036854775807) (g2 : -9223372036854775808 ≤ a ∧ a ≤ 9223372036854775807) (g3 : -9223372036854775808 ≤ b ∧ b ≤ 9223372036854775807) : Met l y_Model_isIn ws_Model_isIn { frames := 0, cells := 0, slots := 0, locals := 0 } (va_Pc [.long (iL v), .long (iL a), .long (iL b)] (fun U => va_P G vwCl [] U.heap ∧ KX G ty U)) (q_Model_isIn G ty v a b) 0 0 (fun _ => False) := by
  refine met_ro R_Model (by decide) rfl rfl (Nat.le_of_ble_eq_true rfl) ?_
  intro p e s m below meth c ls hx hb hr hml hown hts hlocks hP hX hl
  have hK := hX.1
  have hl : lv_has ls 6 [(0, .long (iL v)), (2, .long (iL a)), (4, .long (iL b))] := hl
  refine lv_lload_n hx hb d_Model_isIn_0 rfl (lv_at hl 0 rfl) ?_
  refine lv_lload_n hx hb d_Model_isIn_1 rfl (lv_at hl 1 rfl) ?_
  refine l_cmp_lt (tgt := 17) hx hb (by omega) (by omega) d_Model_isIn_2 d_Model_isIn_3 (by decide) (fun c2 => ?_) (fun c2 => ?_)
  · refine lv_iconst (v := (nI 0)) hx hb d_Model_isIn_17 (by decide) ?_
    exact W.zret (v := (nI 0)) hx hb hr nar_b0 (fun t9 ht _ => ⟨_, rfl, congrArg nI (show 0 = (decide (a ≤ v ∧ v ≤ b)).toNat by rw [decide_eq_false (by omega)]; rfl), ht⟩) (fun q h => by cases h) d_Model_isIn_18
  · refine lv_lload_n hx hb d_Model_isIn_6 rfl (lv_at hl 0 rfl) ?_
    refine lv_lload hx hb d_Model_isIn_7 (lv_at hl 2 rfl) ?_
    refine l_cmp_gt (tgt := 17) hx hb (by omega) (by omega) d_Model_isIn_9 d_Model_isIn_10 (by decide) (fun c9 => ?_) (fun c9 => ?_)
    · refine lv_iconst (v := (nI 0)) hx hb d_Model_isIn_17 (by decide) ?_
      exact W.zret (v := (nI 0)) hx hb hr nar_b0 (fun t9 ht _ => ⟨_, rfl, congrArg nI (show 0 = (decide (a ≤ v ∧ v ≤ b)).toNat by rw [decide_eq_false (by omega)]; rfl), ht⟩) (fun q h => by cases h) d_Model_isIn_18
    · refine lv_iconst (v := (nI 1)) hx hb d_Model_isIn_13 (by decide) ?_
      refine lv_goto (tgt := 18) hx hb d_Model_isIn_14 (by decide) ?_
      exact W.zret (v := (nI 1)) hx hb hr nar_b1 (fun t9 ht _ => ⟨_, rfl, congrArg nI (show 1 = (decide (a ≤ v ∧ v ≤ b)).toNat by rw [decide_eq_true (by omega)]; rfl), ht⟩) (fun q h => by cases h) d_Model_isIn_18

abbrev q_Model_stepsOf (G : va_G) (ty : Nat → ClassId) (hM : Nat) (cd : Nat) (st : Nat) (al : Nat) (ac : Nat) (nf : Nat) (ns : Nat) (gg : Nat) (mg : Nat) (bw : Nat) (md : Nat) (wy : Nat) (sg_ : Nat) (sz_ : Nat) (ks : Nat) (bd : Int) (aM : Nat → Nat) (pt : Nat) : Array Value → State → Outcome → State → Prop := vp_Si (fun r : Int32 => r = (nI ((pt + st - 1) / st)))
set_option maxRecDepth 100000 in
set_option maxHeartbeats 4000000 in
theorem c_Model_stepsOf (l : Launch) (G : va_G) (ty : Nat → ClassId) (hM : Nat) (cd : Nat) (st : Nat) (al : Nat) (ac : Nat) (nf : Nat) (ns : Nat) (gg : Nat) (mg : Nat) (bw : Nat) (md : Nat) (wy : Nat) (sg_ : Nat) (sz_ : Nat) (ks : Nat) (bd : Int) (aM : Nat → Nat) (pt : Nat) (g1 : 1 ≤ st) (g2 : st ≤ 65536) (g3 : pt ≤ 65536) : Met l y_Model_stepsOf ws_Model_stepsOf { frames := 0, cells := 0, slots := 0, locals := 0 } (va_Pc [.ref hM, .int (nI pt)] (fun U => va_P G vwCl [(hM, .inr (10, mO cd st al ac nf ns gg mg bw md wy sg_ sz_ ks bd aM))] U.heap ∧ KX G ty U)) (q_Model_stepsOf G ty hM cd st al ac nf ns gg mg bw md wy sg_ sz_ ks bd aM pt) 0 0 (fun _ => False) := by
  refine met_ro R_Model (by decide) rfl rfl (Nat.le_of_ble_eq_true rfl) ?_
  intro p e s m below meth c ls hx hb hr hml hown hts hlocks hP hX hl
  have hK := hX.1
  have hl : lv_has ls 2 [(0, .ref hM), (1, .int (nI pt))] := hl
  refine lv_iload_n hx hb d_Model_stepsOf_0 rfl (lv_at hl 1 rfl) ?_
  refine lv_aload_n hx hb d_Model_stepsOf_1 rfl (lv_at hl 0 rfl) ?_
  refine va_get (D := G) (ci := 10) (v := .int (nI st)) (C := R_Model) (T := F_Model) (N := 47) hx hb hts in_Model hown hK hP 0 rfl rfl 1 (by decide) (hts _ fl_Model_122) (fun _ h9 => h9) rfl d_Model_stepsOf_2 ?_
  refine n_iadd hx hb d_Model_stepsOf_5 ?_
  refine lv_iconst (v := (nI 1)) hx hb d_Model_stepsOf_6 (by decide) ?_
  refine n_isub hx hb (by omega) d_Model_stepsOf_7 ?_
  refine lv_aload_n hx hb d_Model_stepsOf_8 rfl (lv_at hl 0 rfl) ?_
  refine va_get (D := G) (ci := 10) (v := .int (nI st)) (C := R_Model) (T := F_Model) (N := 47) hx hb hts in_Model hown hK hP 0 rfl rfl 1 (by decide) (hts _ fl_Model_122) (fun _ h9 => h9) rfl d_Model_stepsOf_9 ?_
  refine n_idiv hx hb (by omega) (by omega) (by omega) d_Model_stepsOf_12 ?_
  exact W.iret (v := (nI (((pt + st) - 1) / st))) hx hb hr (fun t9 ht _ => ⟨_, rfl, rfl, ht⟩) (fun q h => by cases h) d_Model_stepsOf_13

abbrev q_Model_thrown (G : va_G) (ty : Nat → ClassId) (hM : Nat) (cd : Nat) (st : Nat) (al : Nat) (ac : Nat) (nf : Nat) (ns : Nat) (gg : Nat) (mg : Nat) (bw : Nat) (md : Nat) (wy : Nat) (sg_ : Nat) (sz_ : Nat) (ks : Nat) (bd : Int) (aM : Nat → Nat) : Array Value → State → Outcome → State → Prop := vp_Si (fun r : Int32 => r = (nI cd))
set_option maxRecDepth 100000 in
set_option maxHeartbeats 4000000 in
theorem c_Model_thrown (l : Launch) (G : va_G) (ty : Nat → ClassId) (hM : Nat) (cd : Nat) (st : Nat) (al : Nat) (ac : Nat) (nf : Nat) (ns : Nat) (gg : Nat) (mg : Nat) (bw : Nat) (md : Nat) (wy : Nat) (sg_ : Nat) (sz_ : Nat) (ks : Nat) (bd : Int) (aM : Nat → Nat) : Met l y_Model_thrown ws_Model_thrown { frames := 0, cells := 0, slots := 0, locals := 0 } (va_Pc [.ref hM] (fun U => va_P G vwCl [(hM, .inr (10, mO cd st al ac nf ns gg mg bw md wy sg_ sz_ ks bd aM))] U.heap ∧ KX G ty U)) (q_Model_thrown G ty hM cd st al ac nf ns gg mg bw md wy sg_ sz_ ks bd aM) 0 0 (fun _ => False) := by
  refine met_ro R_Model (by decide) rfl rfl (Nat.le_of_ble_eq_true rfl) ?_
  intro p e s m below meth c ls hx hb hr hml hown hts hlocks hP hX hl
  have hK := hX.1
  have hl : lv_has ls 1 [(0, .ref hM)] := hl
  refine lv_aload_n hx hb d_Model_thrown_0 rfl (lv_at hl 0 rfl) ?_
  refine va_get (D := G) (ci := 10) (v := .int (nI cd)) (C := R_Model) (T := F_Model) (N := 47) hx hb hts in_Model hown hK hP 0 rfl rfl 0 (by decide) (hts _ fl_Model_132) (fun _ h9 => h9) rfl d_Model_thrown_1 ?_
  exact W.iret (v := (nI cd)) hx hb hr (fun t9 ht _ => ⟨_, rfl, rfl, ht⟩) (fun q h => by cases h) d_Model_thrown_4

abbrev q_Model_isOver (G : va_G) (ty : Nat → ClassId) (hM : Nat) (cd : Nat) (st : Nat) (al : Nat) (ac : Nat) (nf : Nat) (ns : Nat) (gg : Nat) (mg : Nat) (bw : Nat) (md : Nat) (wy : Nat) (sg_ : Nat) (sz_ : Nat) (ks : Nat) (bd : Int) (aM : Nat → Nat) (f : Nat) (x0 : Nat) (x1 : Nat) (y0 : Nat) (y1 : Nat) (fd : Nat → Nat → Int) : Array Value → State → Outcome → State → Prop := vp_Si (fun r : Int32 => r = (nI ((fM fd mg 1 (x0 * st) (x1 * st) f && fM fd mg 0 (y0 * st) (y1 * st) f).toNat)))
set_option maxRecDepth 100000 in
set_option maxHeartbeats 4000000 in
theorem c_Model_isOver (l : Launch) (G : va_G) (ty : Nat → ClassId) (hM : Nat) (cd : Nat) (st : Nat) (al : Nat) (ac : Nat) (nf : Nat) (ns : Nat) (gg : Nat) (mg : Nat) (bw : Nat) (md : Nat) (wy : Nat) (sg_ : Nat) (sz_ : Nat) (ks : Nat) (bd : Int) (aM : Nat → Nat) (f : Nat) (x0 : Nat) (x1 : Nat) (y0 : Nat) (y1 : Nat) (fd : Nat → Nat → Int) (g1 : f < nf) (gF : FOK nf fd) (g2 : 1 ≤ st ∧ st ≤ 65536) (g3 : x0 ≤ 24) (g4 : x1 ≤ 24) (g5 : y0 ≤ 24) (g6 : y1 ≤ 24) (g7 : mg ≤ 65536) : Met l y_Model_isOver ws_Model_isOver { frames := 0, cells := 0, slots := 0, locals := 0 } (va_Pc [.ref hM, .int (nI f), .int (nI x0), .int (nI x1), .int (nI y0), .int (nI y1)] (fun U => va_P G vwCl [(hM, .inr (10, mO cd st al ac nf ns gg mg bw md wy sg_ sz_ ks bd aM)), (aM 7, .inl (ty 0, 20, .inl (zF (col fd 2)))), (aM 8, .inl (ty 0, 20, .inl (zF (col fd 3)))), (aM 9, .inl (ty 0, 20, .inl (zF (col fd 4)))), (aM 10, .inl (ty 0, 20, .inl (zF (col fd 5))))] U.heap ∧ KX G ty U)) (q_Model_isOver G ty hM cd st al ac nf ns gg mg bw md wy sg_ sz_ ks bd aM f x0 x1 y0 y1 fd) 0 0 (fun _ => False) := by
  refine met_ro R_Model (by decide) rfl rfl (Nat.le_of_ble_eq_true rfl) ?_
  intro p e s m below meth c ls hx hb hr hml hown hts hlocks hP hX hl
  have hK := hX.1
  have hl : lv_has ls 8 [(0, .ref hM), (1, .int (nI f)), (2, .int (nI x0)), (3, .int (nI x1)), (4, .int (nI y0)), (5, .int (nI y1))] := hl
  have hn := gF.1
  have hF : (0 ≤ fd f 0 ∧ fd f 0 ≤ 1) ∧ (0 ≤ fd f 1 ∧ fd f 1 ≤ 7) ∧ (-65536 ≤ col fd 2 f ∧ col fd 2 f ≤ 65536) ∧ (-65536 ≤ col fd 3 f ∧ col fd 3 f ≤ 65536) ∧ (0 ≤ col fd 4 f ∧ col fd 4 f ≤ 65536) ∧ (0 ≤ col fd 5 f ∧ col fd 5 f ≤ 65536) := gF.2 f g1
  have b0 := Nat.mul_le_mul g3 g2.2
  have b1 := Nat.mul_le_mul g4 g2.2
  have b2 := Nat.mul_le_mul g5 g2.2
  have b3 := Nat.mul_le_mul g6 g2.2
  refine lv_aload_n hx hb d_Model_isOver_0 rfl (lv_at hl 0 rfl) ?_
  refine va_get (D := G) (ci := 10) (v := .ref (aM 7)) (C := R_Model) (T := F_Model) (N := 47) hx hb hts in_Model hown hK hP 0 rfl rfl 7 (by decide) (hts _ fl_Model_16) (fun _ h9 => h9) rfl d_Model_isOver_1 ?_
  refine lv_iload_n hx hb d_Model_isOver_4 rfl (lv_at hl 1 rfl) ?_
  refine n_iald hx hb hK hP 1 0 rfl rfl (by omega) (by omega) d_Model_isOver_5 ?_
  refine lv_aload_n hx hb d_Model_isOver_6 rfl (lv_at hl 0 rfl) ?_
  refine va_get (D := G) (ci := 10) (v := .int (nI mg)) (C := R_Model) (T := F_Model) (N := 47) hx hb hts in_Model hown hK hP 0 rfl rfl 22 (by decide) (hts _ fl_Model_173) (fun _ h9 => h9) rfl d_Model_isOver_7 ?_
  refine zn_isub hx hb d_Model_isOver_10 ?_
  refine lv_iload_n hx hb d_Model_isOver_11 rfl (lv_at hl 3 rfl) ?_
  refine lv_aload_n hx hb d_Model_isOver_12 rfl (lv_at hl 0 rfl) ?_
  refine va_get (D := G) (ci := 10) (v := .int (nI st)) (C := R_Model) (T := F_Model) (N := 47) hx hb hts in_Model hown hK hP 0 rfl rfl 1 (by decide) (hts _ fl_Model_122) (fun _ h9 => h9) rfl d_Model_isOver_13 ?_
  refine n_imul hx hb d_Model_isOver_16 ?_
  refine zn_icmp_ge (tgt := 51) hx hb (by omega) (by omega) d_Model_isOver_17 (by decide) (fun c17 => ?_) (fun c17 => ?_)
  · refine lv_iconst (v := (nI 0)) hx hb d_Model_isOver_51 (by decide) ?_
    refine top_i (show (nI 0) = nI (fM fd mg 1 (x0 * st) (x1 * st) f).toNat from congrArg nI (by rw [fM_x, decide_eq_false (by omega)]; rfl)) ?_
    refine lv_istore (lv' := [(6, .int (nI ((fM fd mg 1 (x0 * st) (x1 * st) f).toNat))), (0, .ref hM), (1, .int (nI f)), (2, .int (nI x0)), (3, .int (nI x1)), (4, .int (nI y0)), (5, .int (nI y1))]) hx hb d_Model_isOver_52 hl (by decide) rfl (fun ls hl => ?_)
    refine lv_aload_n hx hb d_Model_isOver_54 rfl (lv_at hl 1 rfl) ?_
    refine va_get (D := G) (ci := 10) (v := .ref (aM 8)) (C := R_Model) (T := F_Model) (N := 47) hx hb hts in_Model hown hK hP 0 rfl rfl 8 (by decide) (hts _ fl_Model_19) (fun _ h9 => h9) rfl d_Model_isOver_55 ?_
    refine lv_iload_n hx hb d_Model_isOver_58 rfl (lv_at hl 2 rfl) ?_
    refine n_iald hx hb hK hP 2 0 rfl rfl (by omega) (by omega) d_Model_isOver_59 ?_
    refine lv_aload_n hx hb d_Model_isOver_60 rfl (lv_at hl 1 rfl) ?_
    refine va_get (D := G) (ci := 10) (v := .int (nI mg)) (C := R_Model) (T := F_Model) (N := 47) hx hb hts in_Model hown hK hP 0 rfl rfl 22 (by decide) (hts _ fl_Model_173) (fun _ h9 => h9) rfl d_Model_isOver_61 ?_
    refine zn_isub hx hb d_Model_isOver_64 ?_
    refine lv_iload hx hb d_Model_isOver_65 (lv_at hl 6 rfl) ?_
    refine lv_aload_n hx hb d_Model_isOver_67 rfl (lv_at hl 1 rfl) ?_
    refine va_get (D := G) (ci := 10) (v := .int (nI st)) (C := R_Model) (T := F_Model) (N := 47) hx hb hts in_Model hown hK hP 0 rfl rfl 1 (by decide) (hts _ fl_Model_122) (fun _ h9 => h9) rfl d_Model_isOver_68 ?_
    refine n_imul hx hb d_Model_isOver_71 ?_
    refine zn_icmp_ge (tgt := 107) hx hb (by omega) (by omega) d_Model_isOver_72 (by decide) (fun c72 => ?_) (fun c72 => ?_)
    · refine lv_iconst (v := (nI 0)) hx hb d_Model_isOver_107 (by decide) ?_
      refine top_i (show (nI 0) = nI (fM fd mg 0 (y0 * st) (y1 * st) f).toNat from congrArg nI (by rw [fM_y, decide_eq_false (by omega)]; rfl)) ?_
      refine lv_istore (lv' := [(7, .int (nI ((fM fd mg 0 (y0 * st) (y1 * st) f).toNat))), (6, .int (nI ((fM fd mg 1 (x0 * st) (x1 * st) f).toNat))), (0, .ref hM), (1, .int (nI f)), (2, .int (nI x0)), (3, .int (nI x1)), (4, .int (nI y0)), (5, .int (nI y1))]) hx hb d_Model_isOver_108 hl (by decide) rfl (fun ls hl => ?_)
      refine lv_iload hx hb d_Model_isOver_110 (lv_at hl 1 rfl) ?_
      refine n_if_eq (tgt := 124) hx hb (tN_lt _) d_Model_isOver_112 (by decide) (fun c112 => ?_) (fun c112 => ?_)
      · refine lv_iconst (v := (nI 0)) hx hb d_Model_isOver_124 (by decide) ?_
        exact W.zret (v := (nI 0)) hx hb hr nar_b0 (fun t9 ht _ => ⟨_, rfl, congrArg nI (by first | (rw [tN_1 c112, tN_1 c117]; rfl) | (rw [tN_0 c112]; rfl) | (rw [tN_1 c112, tN_0 c117]; rfl)), ht⟩) (fun q h => by cases h) d_Model_isOver_125
      · refine lv_iload hx hb d_Model_isOver_115 (lv_at hl 0 rfl) ?_
        refine n_if_eq (tgt := 124) hx hb (tN_lt _) d_Model_isOver_117 (by decide) (fun c117 => ?_) (fun c117 => ?_)
        · refine lv_iconst (v := (nI 0)) hx hb d_Model_isOver_124 (by decide) ?_
          exact W.zret (v := (nI 0)) hx hb hr nar_b0 (fun t9 ht _ => ⟨_, rfl, congrArg nI (by first | (rw [tN_1 c112, tN_1 c117]; rfl) | (rw [tN_0 c112]; rfl) | (rw [tN_1 c112, tN_0 c117]; rfl)), ht⟩) (fun q h => by cases h) d_Model_isOver_125
        · refine lv_iconst (v := (nI 1)) hx hb d_Model_isOver_120 (by decide) ?_
          refine lv_goto (tgt := 125) hx hb d_Model_isOver_121 (by decide) ?_
          exact W.zret (v := (nI 1)) hx hb hr nar_b1 (fun t9 ht _ => ⟨_, rfl, congrArg nI (by first | (rw [tN_1 c112, tN_1 c117]; rfl) | (rw [tN_0 c112]; rfl) | (rw [tN_1 c112, tN_0 c117]; rfl)), ht⟩) (fun q h => by cases h) d_Model_isOver_125
    · refine lv_aload_n hx hb d_Model_isOver_75 rfl (lv_at hl 1 rfl) ?_
      refine va_get (D := G) (ci := 10) (v := .ref (aM 8)) (C := R_Model) (T := F_Model) (N := 47) hx hb hts in_Model hown hK hP 0 rfl rfl 8 (by decide) (hts _ fl_Model_19) (fun _ h9 => h9) rfl d_Model_isOver_76 ?_
      refine lv_iload_n hx hb d_Model_isOver_79 rfl (lv_at hl 2 rfl) ?_
      refine n_iald hx hb hK hP 2 0 rfl rfl (by omega) (by omega) d_Model_isOver_80 ?_
      refine lv_aload_n hx hb d_Model_isOver_81 rfl (lv_at hl 1 rfl) ?_
      refine va_get (D := G) (ci := 10) (v := .ref (aM 10)) (C := R_Model) (T := F_Model) (N := 47) hx hb hts in_Model hown hK hP 0 rfl rfl 10 (by decide) (hts _ fl_Model_25) (fun _ h9 => h9) rfl d_Model_isOver_82 ?_
      refine lv_iload_n hx hb d_Model_isOver_85 rfl (lv_at hl 2 rfl) ?_
      refine n_iald hx hb hK hP 4 0 rfl rfl (by omega) (by omega) d_Model_isOver_86 ?_
      refine z_iadd hx hb d_Model_isOver_87 ?_
      refine lv_aload_n hx hb d_Model_isOver_88 rfl (lv_at hl 1 rfl) ?_
      refine va_get (D := G) (ci := 10) (v := .int (nI mg)) (C := R_Model) (T := F_Model) (N := 47) hx hb hts in_Model hown hK hP 0 rfl rfl 22 (by decide) (hts _ fl_Model_173) (fun _ h9 => h9) rfl d_Model_isOver_89 ?_
      refine zn_iadd hx hb d_Model_isOver_92 ?_
      refine lv_iload hx hb d_Model_isOver_93 (lv_at hl 5 rfl) ?_
      refine lv_aload_n hx hb d_Model_isOver_95 rfl (lv_at hl 1 rfl) ?_
      refine va_get (D := G) (ci := 10) (v := .int (nI st)) (C := R_Model) (T := F_Model) (N := 47) hx hb hts in_Model hown hK hP 0 rfl rfl 1 (by decide) (hts _ fl_Model_122) (fun _ h9 => h9) rfl d_Model_isOver_96 ?_
      refine n_imul hx hb d_Model_isOver_99 ?_
      refine zn_icmp_le (tgt := 107) hx hb (by omega) (by omega) d_Model_isOver_100 (by decide) (fun c100 => ?_) (fun c100 => ?_)
      · refine lv_iconst (v := (nI 0)) hx hb d_Model_isOver_107 (by decide) ?_
        refine top_i (show (nI 0) = nI (fM fd mg 0 (y0 * st) (y1 * st) f).toNat from congrArg nI (by rw [fM_y, decide_eq_false (by omega)]; rfl)) ?_
        refine lv_istore (lv' := [(7, .int (nI ((fM fd mg 0 (y0 * st) (y1 * st) f).toNat))), (6, .int (nI ((fM fd mg 1 (x0 * st) (x1 * st) f).toNat))), (0, .ref hM), (1, .int (nI f)), (2, .int (nI x0)), (3, .int (nI x1)), (4, .int (nI y0)), (5, .int (nI y1))]) hx hb d_Model_isOver_108 hl (by decide) rfl (fun ls hl => ?_)
        refine lv_iload hx hb d_Model_isOver_110 (lv_at hl 1 rfl) ?_
        refine n_if_eq (tgt := 124) hx hb (tN_lt _) d_Model_isOver_112 (by decide) (fun c112 => ?_) (fun c112 => ?_)
        · refine lv_iconst (v := (nI 0)) hx hb d_Model_isOver_124 (by decide) ?_
          exact W.zret (v := (nI 0)) hx hb hr nar_b0 (fun t9 ht _ => ⟨_, rfl, congrArg nI (by first | (rw [tN_1 c112, tN_1 c117]; rfl) | (rw [tN_0 c112]; rfl) | (rw [tN_1 c112, tN_0 c117]; rfl)), ht⟩) (fun q h => by cases h) d_Model_isOver_125
        · refine lv_iload hx hb d_Model_isOver_115 (lv_at hl 0 rfl) ?_
          refine n_if_eq (tgt := 124) hx hb (tN_lt _) d_Model_isOver_117 (by decide) (fun c117 => ?_) (fun c117 => ?_)
          · refine lv_iconst (v := (nI 0)) hx hb d_Model_isOver_124 (by decide) ?_
            exact W.zret (v := (nI 0)) hx hb hr nar_b0 (fun t9 ht _ => ⟨_, rfl, congrArg nI (by first | (rw [tN_1 c112, tN_1 c117]; rfl) | (rw [tN_0 c112]; rfl) | (rw [tN_1 c112, tN_0 c117]; rfl)), ht⟩) (fun q h => by cases h) d_Model_isOver_125
          · refine lv_iconst (v := (nI 1)) hx hb d_Model_isOver_120 (by decide) ?_
            refine lv_goto (tgt := 125) hx hb d_Model_isOver_121 (by decide) ?_
            exact W.zret (v := (nI 1)) hx hb hr nar_b1 (fun t9 ht _ => ⟨_, rfl, congrArg nI (by first | (rw [tN_1 c112, tN_1 c117]; rfl) | (rw [tN_0 c112]; rfl) | (rw [tN_1 c112, tN_0 c117]; rfl)), ht⟩) (fun q h => by cases h) d_Model_isOver_125
      · refine lv_iconst (v := (nI 1)) hx hb d_Model_isOver_103 (by decide) ?_
        refine lv_goto (tgt := 108) hx hb d_Model_isOver_104 (by decide) ?_
        refine top_i (show (nI 1) = nI (fM fd mg 0 (y0 * st) (y1 * st) f).toNat from congrArg nI (by rw [fM_y, decide_eq_true (by omega)]; rfl)) ?_
        refine lv_istore (lv' := [(7, .int (nI ((fM fd mg 0 (y0 * st) (y1 * st) f).toNat))), (6, .int (nI ((fM fd mg 1 (x0 * st) (x1 * st) f).toNat))), (0, .ref hM), (1, .int (nI f)), (2, .int (nI x0)), (3, .int (nI x1)), (4, .int (nI y0)), (5, .int (nI y1))]) hx hb d_Model_isOver_108 hl (by decide) rfl (fun ls hl => ?_)
        refine lv_iload hx hb d_Model_isOver_110 (lv_at hl 1 rfl) ?_
        refine n_if_eq (tgt := 124) hx hb (tN_lt _) d_Model_isOver_112 (by decide) (fun c112 => ?_) (fun c112 => ?_)
        · refine lv_iconst (v := (nI 0)) hx hb d_Model_isOver_124 (by decide) ?_
          exact W.zret (v := (nI 0)) hx hb hr nar_b0 (fun t9 ht _ => ⟨_, rfl, congrArg nI (by first | (rw [tN_1 c112, tN_1 c117]; rfl) | (rw [tN_0 c112]; rfl) | (rw [tN_1 c112, tN_0 c117]; rfl)), ht⟩) (fun q h => by cases h) d_Model_isOver_125
        · refine lv_iload hx hb d_Model_isOver_115 (lv_at hl 0 rfl) ?_
          refine n_if_eq (tgt := 124) hx hb (tN_lt _) d_Model_isOver_117 (by decide) (fun c117 => ?_) (fun c117 => ?_)
          · refine lv_iconst (v := (nI 0)) hx hb d_Model_isOver_124 (by decide) ?_
            exact W.zret (v := (nI 0)) hx hb hr nar_b0 (fun t9 ht _ => ⟨_, rfl, congrArg nI (by first | (rw [tN_1 c112, tN_1 c117]; rfl) | (rw [tN_0 c112]; rfl) | (rw [tN_1 c112, tN_0 c117]; rfl)), ht⟩) (fun q h => by cases h) d_Model_isOver_125
          · refine lv_iconst (v := (nI 1)) hx hb d_Model_isOver_120 (by decide) ?_
            refine lv_goto (tgt := 125) hx hb d_Model_isOver_121 (by decide) ?_
            exact W.zret (v := (nI 1)) hx hb hr nar_b1 (fun t9 ht _ => ⟨_, rfl, congrArg nI (by first | (rw [tN_1 c112, tN_1 c117]; rfl) | (rw [tN_0 c112]; rfl) | (rw [tN_1 c112, tN_0 c117]; rfl)), ht⟩) (fun q h => by cases h) d_Model_isOver_125
  · refine lv_aload_n hx hb d_Model_isOver_20 rfl (lv_at hl 0 rfl) ?_
    refine va_get (D := G) (ci := 10) (v := .ref (aM 7)) (C := R_Model) (T := F_Model) (N := 47) hx hb hts in_Model hown hK hP 0 rfl rfl 7 (by decide) (hts _ fl_Model_16) (fun _ h9 => h9) rfl d_Model_isOver_21 ?_
    refine lv_iload_n hx hb d_Model_isOver_24 rfl (lv_at hl 1 rfl) ?_
    refine n_iald hx hb hK hP 1 0 rfl rfl (by omega) (by omega) d_Model_isOver_25 ?_
    refine lv_aload_n hx hb d_Model_isOver_26 rfl (lv_at hl 0 rfl) ?_
    refine va_get (D := G) (ci := 10) (v := .ref (aM 9)) (C := R_Model) (T := F_Model) (N := 47) hx hb hts in_Model hown hK hP 0 rfl rfl 9 (by decide) (hts _ fl_Model_22) (fun _ h9 => h9) rfl d_Model_isOver_27 ?_
    refine lv_iload_n hx hb d_Model_isOver_30 rfl (lv_at hl 1 rfl) ?_
    refine n_iald hx hb hK hP 3 0 rfl rfl (by omega) (by omega) d_Model_isOver_31 ?_
    refine z_iadd hx hb d_Model_isOver_32 ?_
    refine lv_aload_n hx hb d_Model_isOver_33 rfl (lv_at hl 0 rfl) ?_
    refine va_get (D := G) (ci := 10) (v := .int (nI mg)) (C := R_Model) (T := F_Model) (N := 47) hx hb hts in_Model hown hK hP 0 rfl rfl 22 (by decide) (hts _ fl_Model_173) (fun _ h9 => h9) rfl d_Model_isOver_34 ?_
    refine zn_iadd hx hb d_Model_isOver_37 ?_
    refine lv_iload_n hx hb d_Model_isOver_38 rfl (lv_at hl 2 rfl) ?_
    refine lv_aload_n hx hb d_Model_isOver_39 rfl (lv_at hl 0 rfl) ?_
    refine va_get (D := G) (ci := 10) (v := .int (nI st)) (C := R_Model) (T := F_Model) (N := 47) hx hb hts in_Model hown hK hP 0 rfl rfl 1 (by decide) (hts _ fl_Model_122) (fun _ h9 => h9) rfl d_Model_isOver_40 ?_
    refine n_imul hx hb d_Model_isOver_43 ?_
    refine zn_icmp_le (tgt := 51) hx hb (by omega) (by omega) d_Model_isOver_44 (by decide) (fun c44 => ?_) (fun c44 => ?_)
    · refine lv_iconst (v := (nI 0)) hx hb d_Model_isOver_51 (by decide) ?_
      refine top_i (show (nI 0) = nI (fM fd mg 1 (x0 * st) (x1 * st) f).toNat from congrArg nI (by rw [fM_x, decide_eq_false (by omega)]; rfl)) ?_
      refine lv_istore (lv' := [(6, .int (nI ((fM fd mg 1 (x0 * st) (x1 * st) f).toNat))), (0, .ref hM), (1, .int (nI f)), (2, .int (nI x0)), (3, .int (nI x1)), (4, .int (nI y0)), (5, .int (nI y1))]) hx hb d_Model_isOver_52 hl (by decide) rfl (fun ls hl => ?_)
      refine lv_aload_n hx hb d_Model_isOver_54 rfl (lv_at hl 1 rfl) ?_
      refine va_get (D := G) (ci := 10) (v := .ref (aM 8)) (C := R_Model) (T := F_Model) (N := 47) hx hb hts in_Model hown hK hP 0 rfl rfl 8 (by decide) (hts _ fl_Model_19) (fun _ h9 => h9) rfl d_Model_isOver_55 ?_
      refine lv_iload_n hx hb d_Model_isOver_58 rfl (lv_at hl 2 rfl) ?_
      refine n_iald hx hb hK hP 2 0 rfl rfl (by omega) (by omega) d_Model_isOver_59 ?_
      refine lv_aload_n hx hb d_Model_isOver_60 rfl (lv_at hl 1 rfl) ?_
      refine va_get (D := G) (ci := 10) (v := .int (nI mg)) (C := R_Model) (T := F_Model) (N := 47) hx hb hts in_Model hown hK hP 0 rfl rfl 22 (by decide) (hts _ fl_Model_173) (fun _ h9 => h9) rfl d_Model_isOver_61 ?_
      refine zn_isub hx hb d_Model_isOver_64 ?_
      refine lv_iload hx hb d_Model_isOver_65 (lv_at hl 6 rfl) ?_
      refine lv_aload_n hx hb d_Model_isOver_67 rfl (lv_at hl 1 rfl) ?_
      refine va_get (D := G) (ci := 10) (v := .int (nI st)) (C := R_Model) (T := F_Model) (N := 47) hx hb hts in_Model hown hK hP 0 rfl rfl 1 (by decide) (hts _ fl_Model_122) (fun _ h9 => h9) rfl d_Model_isOver_68 ?_
      refine n_imul hx hb d_Model_isOver_71 ?_
      refine zn_icmp_ge (tgt := 107) hx hb (by omega) (by omega) d_Model_isOver_72 (by decide) (fun c72 => ?_) (fun c72 => ?_)
      · refine lv_iconst (v := (nI 0)) hx hb d_Model_isOver_107 (by decide) ?_
        refine top_i (show (nI 0) = nI (fM fd mg 0 (y0 * st) (y1 * st) f).toNat from congrArg nI (by rw [fM_y, decide_eq_false (by omega)]; rfl)) ?_
        refine lv_istore (lv' := [(7, .int (nI ((fM fd mg 0 (y0 * st) (y1 * st) f).toNat))), (6, .int (nI ((fM fd mg 1 (x0 * st) (x1 * st) f).toNat))), (0, .ref hM), (1, .int (nI f)), (2, .int (nI x0)), (3, .int (nI x1)), (4, .int (nI y0)), (5, .int (nI y1))]) hx hb d_Model_isOver_108 hl (by decide) rfl (fun ls hl => ?_)
        refine lv_iload hx hb d_Model_isOver_110 (lv_at hl 1 rfl) ?_
        refine n_if_eq (tgt := 124) hx hb (tN_lt _) d_Model_isOver_112 (by decide) (fun c112 => ?_) (fun c112 => ?_)
        · refine lv_iconst (v := (nI 0)) hx hb d_Model_isOver_124 (by decide) ?_
          exact W.zret (v := (nI 0)) hx hb hr nar_b0 (fun t9 ht _ => ⟨_, rfl, congrArg nI (by first | (rw [tN_1 c112, tN_1 c117]; rfl) | (rw [tN_0 c112]; rfl) | (rw [tN_1 c112, tN_0 c117]; rfl)), ht⟩) (fun q h => by cases h) d_Model_isOver_125
        · refine lv_iload hx hb d_Model_isOver_115 (lv_at hl 0 rfl) ?_
          refine n_if_eq (tgt := 124) hx hb (tN_lt _) d_Model_isOver_117 (by decide) (fun c117 => ?_) (fun c117 => ?_)
          · refine lv_iconst (v := (nI 0)) hx hb d_Model_isOver_124 (by decide) ?_
            exact W.zret (v := (nI 0)) hx hb hr nar_b0 (fun t9 ht _ => ⟨_, rfl, congrArg nI (by first | (rw [tN_1 c112, tN_1 c117]; rfl) | (rw [tN_0 c112]; rfl) | (rw [tN_1 c112, tN_0 c117]; rfl)), ht⟩) (fun q h => by cases h) d_Model_isOver_125
          · refine lv_iconst (v := (nI 1)) hx hb d_Model_isOver_120 (by decide) ?_
            refine lv_goto (tgt := 125) hx hb d_Model_isOver_121 (by decide) ?_
            exact W.zret (v := (nI 1)) hx hb hr nar_b1 (fun t9 ht _ => ⟨_, rfl, congrArg nI (by first | (rw [tN_1 c112, tN_1 c117]; rfl) | (rw [tN_0 c112]; rfl) | (rw [tN_1 c112, tN_0 c117]; rfl)), ht⟩) (fun q h => by cases h) d_Model_isOver_125
      · refine lv_aload_n hx hb d_Model_isOver_75 rfl (lv_at hl 1 rfl) ?_
        refine va_get (D := G) (ci := 10) (v := .ref (aM 8)) (C := R_Model) (T := F_Model) (N := 47) hx hb hts in_Model hown hK hP 0 rfl rfl 8 (by decide) (hts _ fl_Model_19) (fun _ h9 => h9) rfl d_Model_isOver_76 ?_
        refine lv_iload_n hx hb d_Model_isOver_79 rfl (lv_at hl 2 rfl) ?_
        refine n_iald hx hb hK hP 2 0 rfl rfl (by omega) (by omega) d_Model_isOver_80 ?_
        refine lv_aload_n hx hb d_Model_isOver_81 rfl (lv_at hl 1 rfl) ?_
        refine va_get (D := G) (ci := 10) (v := .ref (aM 10)) (C := R_Model) (T := F_Model) (N := 47) hx hb hts in_Model hown hK hP 0 rfl rfl 10 (by decide) (hts _ fl_Model_25) (fun _ h9 => h9) rfl d_Model_isOver_82 ?_
        refine lv_iload_n hx hb d_Model_isOver_85 rfl (lv_at hl 2 rfl) ?_
        refine n_iald hx hb hK hP 4 0 rfl rfl (by omega) (by omega) d_Model_isOver_86 ?_
        refine z_iadd hx hb d_Model_isOver_87 ?_
        refine lv_aload_n hx hb d_Model_isOver_88 rfl (lv_at hl 1 rfl) ?_
        refine va_get (D := G) (ci := 10) (v := .int (nI mg)) (C := R_Model) (T := F_Model) (N := 47) hx hb hts in_Model hown hK hP 0 rfl rfl 22 (by decide) (hts _ fl_Model_173) (fun _ h9 => h9) rfl d_Model_isOver_89 ?_
        refine zn_iadd hx hb d_Model_isOver_92 ?_
        refine lv_iload hx hb d_Model_isOver_93 (lv_at hl 5 rfl) ?_
        refine lv_aload_n hx hb d_Model_isOver_95 rfl (lv_at hl 1 rfl) ?_
        refine va_get (D := G) (ci := 10) (v := .int (nI st)) (C := R_Model) (T := F_Model) (N := 47) hx hb hts in_Model hown hK hP 0 rfl rfl 1 (by decide) (hts _ fl_Model_122) (fun _ h9 => h9) rfl d_Model_isOver_96 ?_
        refine n_imul hx hb d_Model_isOver_99 ?_
        refine zn_icmp_le (tgt := 107) hx hb (by omega) (by omega) d_Model_isOver_100 (by decide) (fun c100 => ?_) (fun c100 => ?_)
        · refine lv_iconst (v := (nI 0)) hx hb d_Model_isOver_107 (by decide) ?_
          refine top_i (show (nI 0) = nI (fM fd mg 0 (y0 * st) (y1 * st) f).toNat from congrArg nI (by rw [fM_y, decide_eq_false (by omega)]; rfl)) ?_
          refine lv_istore (lv' := [(7, .int (nI ((fM fd mg 0 (y0 * st) (y1 * st) f).toNat))), (6, .int (nI ((fM fd mg 1 (x0 * st) (x1 * st) f).toNat))), (0, .ref hM), (1, .int (nI f)), (2, .int (nI x0)), (3, .int (nI x1)), (4, .int (nI y0)), (5, .int (nI y1))]) hx hb d_Model_isOver_108 hl (by decide) rfl (fun ls hl => ?_)
          refine lv_iload hx hb d_Model_isOver_110 (lv_at hl 1 rfl) ?_
          refine n_if_eq (tgt := 124) hx hb (tN_lt _) d_Model_isOver_112 (by decide) (fun c112 => ?_) (fun c112 => ?_)
          · refine lv_iconst (v := (nI 0)) hx hb d_Model_isOver_124 (by decide) ?_
            exact W.zret (v := (nI 0)) hx hb hr nar_b0 (fun t9 ht _ => ⟨_, rfl, congrArg nI (by first | (rw [tN_1 c112, tN_1 c117]; rfl) | (rw [tN_0 c112]; rfl) | (rw [tN_1 c112, tN_0 c117]; rfl)), ht⟩) (fun q h => by cases h) d_Model_isOver_125
          · refine lv_iload hx hb d_Model_isOver_115 (lv_at hl 0 rfl) ?_
            refine n_if_eq (tgt := 124) hx hb (tN_lt _) d_Model_isOver_117 (by decide) (fun c117 => ?_) (fun c117 => ?_)
            · refine lv_iconst (v := (nI 0)) hx hb d_Model_isOver_124 (by decide) ?_
              exact W.zret (v := (nI 0)) hx hb hr nar_b0 (fun t9 ht _ => ⟨_, rfl, congrArg nI (by first | (rw [tN_1 c112, tN_1 c117]; rfl) | (rw [tN_0 c112]; rfl) | (rw [tN_1 c112, tN_0 c117]; rfl)), ht⟩) (fun q h => by cases h) d_Model_isOver_125
            · refine lv_iconst (v := (nI 1)) hx hb d_Model_isOver_120 (by decide) ?_
              refine lv_goto (tgt := 125) hx hb d_Model_isOver_121 (by decide) ?_
              exact W.zret (v := (nI 1)) hx hb hr nar_b1 (fun t9 ht _ => ⟨_, rfl, congrArg nI (by first | (rw [tN_1 c112, tN_1 c117]; rfl) | (rw [tN_0 c112]; rfl) | (rw [tN_1 c112, tN_0 c117]; rfl)), ht⟩) (fun q h => by cases h) d_Model_isOver_125
        · refine lv_iconst (v := (nI 1)) hx hb d_Model_isOver_103 (by decide) ?_
          refine lv_goto (tgt := 108) hx hb d_Model_isOver_104 (by decide) ?_
          refine top_i (show (nI 1) = nI (fM fd mg 0 (y0 * st) (y1 * st) f).toNat from congrArg nI (by rw [fM_y, decide_eq_true (by omega)]; rfl)) ?_
          refine lv_istore (lv' := [(7, .int (nI ((fM fd mg 0 (y0 * st) (y1 * st) f).toNat))), (6, .int (nI ((fM fd mg 1 (x0 * st) (x1 * st) f).toNat))), (0, .ref hM), (1, .int (nI f)), (2, .int (nI x0)), (3, .int (nI x1)), (4, .int (nI y0)), (5, .int (nI y1))]) hx hb d_Model_isOver_108 hl (by decide) rfl (fun ls hl => ?_)
          refine lv_iload hx hb d_Model_isOver_110 (lv_at hl 1 rfl) ?_
          refine n_if_eq (tgt := 124) hx hb (tN_lt _) d_Model_isOver_112 (by decide) (fun c112 => ?_) (fun c112 => ?_)
          · refine lv_iconst (v := (nI 0)) hx hb d_Model_isOver_124 (by decide) ?_
            exact W.zret (v := (nI 0)) hx hb hr nar_b0 (fun t9 ht _ => ⟨_, rfl, congrArg nI (by first | (rw [tN_1 c112, tN_1 c117]; rfl) | (rw [tN_0 c112]; rfl) | (rw [tN_1 c112, tN_0 c117]; rfl)), ht⟩) (fun q h => by cases h) d_Model_isOver_125
          · refine lv_iload hx hb d_Model_isOver_115 (lv_at hl 0 rfl) ?_
            refine n_if_eq (tgt := 124) hx hb (tN_lt _) d_Model_isOver_117 (by decide) (fun c117 => ?_) (fun c117 => ?_)
            · refine lv_iconst (v := (nI 0)) hx hb d_Model_isOver_124 (by decide) ?_
              exact W.zret (v := (nI 0)) hx hb hr nar_b0 (fun t9 ht _ => ⟨_, rfl, congrArg nI (by first | (rw [tN_1 c112, tN_1 c117]; rfl) | (rw [tN_0 c112]; rfl) | (rw [tN_1 c112, tN_0 c117]; rfl)), ht⟩) (fun q h => by cases h) d_Model_isOver_125
            · refine lv_iconst (v := (nI 1)) hx hb d_Model_isOver_120 (by decide) ?_
              refine lv_goto (tgt := 125) hx hb d_Model_isOver_121 (by decide) ?_
              exact W.zret (v := (nI 1)) hx hb hr nar_b1 (fun t9 ht _ => ⟨_, rfl, congrArg nI (by first | (rw [tN_1 c112, tN_1 c117]; rfl) | (rw [tN_0 c112]; rfl) | (rw [tN_1 c112, tN_0 c117]; rfl)), ht⟩) (fun q h => by cases h) d_Model_isOver_125
    · refine lv_iconst (v := (nI 1)) hx hb d_Model_isOver_47 (by decide) ?_
      refine lv_goto (tgt := 52) hx hb d_Model_isOver_48 (by decide) ?_
      refine top_i (show (nI 1) = nI (fM fd mg 1 (x0 * st) (x1 * st) f).toNat from congrArg nI (by rw [fM_x, decide_eq_true (by omega)]; rfl)) ?_
      refine lv_istore (lv' := [(6, .int (nI ((fM fd mg 1 (x0 * st) (x1 * st) f).toNat))), (0, .ref hM), (1, .int (nI f)), (2, .int (nI x0)), (3, .int (nI x1)), (4, .int (nI y0)), (5, .int (nI y1))]) hx hb d_Model_isOver_52 hl (by decide) rfl (fun ls hl => ?_)
      refine lv_aload_n hx hb d_Model_isOver_54 rfl (lv_at hl 1 rfl) ?_
      refine va_get (D := G) (ci := 10) (v := .ref (aM 8)) (C := R_Model) (T := F_Model) (N := 47) hx hb hts in_Model hown hK hP 0 rfl rfl 8 (by decide) (hts _ fl_Model_19) (fun _ h9 => h9) rfl d_Model_isOver_55 ?_
      refine lv_iload_n hx hb d_Model_isOver_58 rfl (lv_at hl 2 rfl) ?_
      refine n_iald hx hb hK hP 2 0 rfl rfl (by omega) (by omega) d_Model_isOver_59 ?_
      refine lv_aload_n hx hb d_Model_isOver_60 rfl (lv_at hl 1 rfl) ?_
      refine va_get (D := G) (ci := 10) (v := .int (nI mg)) (C := R_Model) (T := F_Model) (N := 47) hx hb hts in_Model hown hK hP 0 rfl rfl 22 (by decide) (hts _ fl_Model_173) (fun _ h9 => h9) rfl d_Model_isOver_61 ?_
      refine zn_isub hx hb d_Model_isOver_64 ?_
      refine lv_iload hx hb d_Model_isOver_65 (lv_at hl 6 rfl) ?_
      refine lv_aload_n hx hb d_Model_isOver_67 rfl (lv_at hl 1 rfl) ?_
      refine va_get (D := G) (ci := 10) (v := .int (nI st)) (C := R_Model) (T := F_Model) (N := 47) hx hb hts in_Model hown hK hP 0 rfl rfl 1 (by decide) (hts _ fl_Model_122) (fun _ h9 => h9) rfl d_Model_isOver_68 ?_
      refine n_imul hx hb d_Model_isOver_71 ?_
      refine zn_icmp_ge (tgt := 107) hx hb (by omega) (by omega) d_Model_isOver_72 (by decide) (fun c72 => ?_) (fun c72 => ?_)
      · refine lv_iconst (v := (nI 0)) hx hb d_Model_isOver_107 (by decide) ?_
        refine top_i (show (nI 0) = nI (fM fd mg 0 (y0 * st) (y1 * st) f).toNat from congrArg nI (by rw [fM_y, decide_eq_false (by omega)]; rfl)) ?_
        refine lv_istore (lv' := [(7, .int (nI ((fM fd mg 0 (y0 * st) (y1 * st) f).toNat))), (6, .int (nI ((fM fd mg 1 (x0 * st) (x1 * st) f).toNat))), (0, .ref hM), (1, .int (nI f)), (2, .int (nI x0)), (3, .int (nI x1)), (4, .int (nI y0)), (5, .int (nI y1))]) hx hb d_Model_isOver_108 hl (by decide) rfl (fun ls hl => ?_)
        refine lv_iload hx hb d_Model_isOver_110 (lv_at hl 1 rfl) ?_
        refine n_if_eq (tgt := 124) hx hb (tN_lt _) d_Model_isOver_112 (by decide) (fun c112 => ?_) (fun c112 => ?_)
        · refine lv_iconst (v := (nI 0)) hx hb d_Model_isOver_124 (by decide) ?_
          exact W.zret (v := (nI 0)) hx hb hr nar_b0 (fun t9 ht _ => ⟨_, rfl, congrArg nI (by first | (rw [tN_1 c112, tN_1 c117]; rfl) | (rw [tN_0 c112]; rfl) | (rw [tN_1 c112, tN_0 c117]; rfl)), ht⟩) (fun q h => by cases h) d_Model_isOver_125
        · refine lv_iload hx hb d_Model_isOver_115 (lv_at hl 0 rfl) ?_
          refine n_if_eq (tgt := 124) hx hb (tN_lt _) d_Model_isOver_117 (by decide) (fun c117 => ?_) (fun c117 => ?_)
          · refine lv_iconst (v := (nI 0)) hx hb d_Model_isOver_124 (by decide) ?_
            exact W.zret (v := (nI 0)) hx hb hr nar_b0 (fun t9 ht _ => ⟨_, rfl, congrArg nI (by first | (rw [tN_1 c112, tN_1 c117]; rfl) | (rw [tN_0 c112]; rfl) | (rw [tN_1 c112, tN_0 c117]; rfl)), ht⟩) (fun q h => by cases h) d_Model_isOver_125
          · refine lv_iconst (v := (nI 1)) hx hb d_Model_isOver_120 (by decide) ?_
            refine lv_goto (tgt := 125) hx hb d_Model_isOver_121 (by decide) ?_
            exact W.zret (v := (nI 1)) hx hb hr nar_b1 (fun t9 ht _ => ⟨_, rfl, congrArg nI (by first | (rw [tN_1 c112, tN_1 c117]; rfl) | (rw [tN_0 c112]; rfl) | (rw [tN_1 c112, tN_0 c117]; rfl)), ht⟩) (fun q h => by cases h) d_Model_isOver_125
      · refine lv_aload_n hx hb d_Model_isOver_75 rfl (lv_at hl 1 rfl) ?_
        refine va_get (D := G) (ci := 10) (v := .ref (aM 8)) (C := R_Model) (T := F_Model) (N := 47) hx hb hts in_Model hown hK hP 0 rfl rfl 8 (by decide) (hts _ fl_Model_19) (fun _ h9 => h9) rfl d_Model_isOver_76 ?_
        refine lv_iload_n hx hb d_Model_isOver_79 rfl (lv_at hl 2 rfl) ?_
        refine n_iald hx hb hK hP 2 0 rfl rfl (by omega) (by omega) d_Model_isOver_80 ?_
        refine lv_aload_n hx hb d_Model_isOver_81 rfl (lv_at hl 1 rfl) ?_
        refine va_get (D := G) (ci := 10) (v := .ref (aM 10)) (C := R_Model) (T := F_Model) (N := 47) hx hb hts in_Model hown hK hP 0 rfl rfl 10 (by decide) (hts _ fl_Model_25) (fun _ h9 => h9) rfl d_Model_isOver_82 ?_
        refine lv_iload_n hx hb d_Model_isOver_85 rfl (lv_at hl 2 rfl) ?_
        refine n_iald hx hb hK hP 4 0 rfl rfl (by omega) (by omega) d_Model_isOver_86 ?_
        refine z_iadd hx hb d_Model_isOver_87 ?_
        refine lv_aload_n hx hb d_Model_isOver_88 rfl (lv_at hl 1 rfl) ?_
        refine va_get (D := G) (ci := 10) (v := .int (nI mg)) (C := R_Model) (T := F_Model) (N := 47) hx hb hts in_Model hown hK hP 0 rfl rfl 22 (by decide) (hts _ fl_Model_173) (fun _ h9 => h9) rfl d_Model_isOver_89 ?_
        refine zn_iadd hx hb d_Model_isOver_92 ?_
        refine lv_iload hx hb d_Model_isOver_93 (lv_at hl 5 rfl) ?_
        refine lv_aload_n hx hb d_Model_isOver_95 rfl (lv_at hl 1 rfl) ?_
        refine va_get (D := G) (ci := 10) (v := .int (nI st)) (C := R_Model) (T := F_Model) (N := 47) hx hb hts in_Model hown hK hP 0 rfl rfl 1 (by decide) (hts _ fl_Model_122) (fun _ h9 => h9) rfl d_Model_isOver_96 ?_
        refine n_imul hx hb d_Model_isOver_99 ?_
        refine zn_icmp_le (tgt := 107) hx hb (by omega) (by omega) d_Model_isOver_100 (by decide) (fun c100 => ?_) (fun c100 => ?_)
        · refine lv_iconst (v := (nI 0)) hx hb d_Model_isOver_107 (by decide) ?_
          refine top_i (show (nI 0) = nI (fM fd mg 0 (y0 * st) (y1 * st) f).toNat from congrArg nI (by rw [fM_y, decide_eq_false (by omega)]; rfl)) ?_
          refine lv_istore (lv' := [(7, .int (nI ((fM fd mg 0 (y0 * st) (y1 * st) f).toNat))), (6, .int (nI ((fM fd mg 1 (x0 * st) (x1 * st) f).toNat))), (0, .ref hM), (1, .int (nI f)), (2, .int (nI x0)), (3, .int (nI x1)), (4, .int (nI y0)), (5, .int (nI y1))]) hx hb d_Model_isOver_108 hl (by decide) rfl (fun ls hl => ?_)
          refine lv_iload hx hb d_Model_isOver_110 (lv_at hl 1 rfl) ?_
          refine n_if_eq (tgt := 124) hx hb (tN_lt _) d_Model_isOver_112 (by decide) (fun c112 => ?_) (fun c112 => ?_)
          · refine lv_iconst (v := (nI 0)) hx hb d_Model_isOver_124 (by decide) ?_
            exact W.zret (v := (nI 0)) hx hb hr nar_b0 (fun t9 ht _ => ⟨_, rfl, congrArg nI (by first | (rw [tN_1 c112, tN_1 c117]; rfl) | (rw [tN_0 c112]; rfl) | (rw [tN_1 c112, tN_0 c117]; rfl)), ht⟩) (fun q h => by cases h) d_Model_isOver_125
          · refine lv_iload hx hb d_Model_isOver_115 (lv_at hl 0 rfl) ?_
            refine n_if_eq (tgt := 124) hx hb (tN_lt _) d_Model_isOver_117 (by decide) (fun c117 => ?_) (fun c117 => ?_)
            · refine lv_iconst (v := (nI 0)) hx hb d_Model_isOver_124 (by decide) ?_
              exact W.zret (v := (nI 0)) hx hb hr nar_b0 (fun t9 ht _ => ⟨_, rfl, congrArg nI (by first | (rw [tN_1 c112, tN_1 c117]; rfl) | (rw [tN_0 c112]; rfl) | (rw [tN_1 c112, tN_0 c117]; rfl)), ht⟩) (fun q h => by cases h) d_Model_isOver_125
            · refine lv_iconst (v := (nI 1)) hx hb d_Model_isOver_120 (by decide) ?_
              refine lv_goto (tgt := 125) hx hb d_Model_isOver_121 (by decide) ?_
              exact W.zret (v := (nI 1)) hx hb hr nar_b1 (fun t9 ht _ => ⟨_, rfl, congrArg nI (by first | (rw [tN_1 c112, tN_1 c117]; rfl) | (rw [tN_0 c112]; rfl) | (rw [tN_1 c112, tN_0 c117]; rfl)), ht⟩) (fun q h => by cases h) d_Model_isOver_125
        · refine lv_iconst (v := (nI 1)) hx hb d_Model_isOver_103 (by decide) ?_
          refine lv_goto (tgt := 108) hx hb d_Model_isOver_104 (by decide) ?_
          refine top_i (show (nI 1) = nI (fM fd mg 0 (y0 * st) (y1 * st) f).toNat from congrArg nI (by rw [fM_y, decide_eq_true (by omega)]; rfl)) ?_
          refine lv_istore (lv' := [(7, .int (nI ((fM fd mg 0 (y0 * st) (y1 * st) f).toNat))), (6, .int (nI ((fM fd mg 1 (x0 * st) (x1 * st) f).toNat))), (0, .ref hM), (1, .int (nI f)), (2, .int (nI x0)), (3, .int (nI x1)), (4, .int (nI y0)), (5, .int (nI y1))]) hx hb d_Model_isOver_108 hl (by decide) rfl (fun ls hl => ?_)
          refine lv_iload hx hb d_Model_isOver_110 (lv_at hl 1 rfl) ?_
          refine n_if_eq (tgt := 124) hx hb (tN_lt _) d_Model_isOver_112 (by decide) (fun c112 => ?_) (fun c112 => ?_)
          · refine lv_iconst (v := (nI 0)) hx hb d_Model_isOver_124 (by decide) ?_
            exact W.zret (v := (nI 0)) hx hb hr nar_b0 (fun t9 ht _ => ⟨_, rfl, congrArg nI (by first | (rw [tN_1 c112, tN_1 c117]; rfl) | (rw [tN_0 c112]; rfl) | (rw [tN_1 c112, tN_0 c117]; rfl)), ht⟩) (fun q h => by cases h) d_Model_isOver_125
          · refine lv_iload hx hb d_Model_isOver_115 (lv_at hl 0 rfl) ?_
            refine n_if_eq (tgt := 124) hx hb (tN_lt _) d_Model_isOver_117 (by decide) (fun c117 => ?_) (fun c117 => ?_)
            · refine lv_iconst (v := (nI 0)) hx hb d_Model_isOver_124 (by decide) ?_
              exact W.zret (v := (nI 0)) hx hb hr nar_b0 (fun t9 ht _ => ⟨_, rfl, congrArg nI (by first | (rw [tN_1 c112, tN_1 c117]; rfl) | (rw [tN_0 c112]; rfl) | (rw [tN_1 c112, tN_0 c117]; rfl)), ht⟩) (fun q h => by cases h) d_Model_isOver_125
            · refine lv_iconst (v := (nI 1)) hx hb d_Model_isOver_120 (by decide) ?_
              refine lv_goto (tgt := 125) hx hb d_Model_isOver_121 (by decide) ?_
              exact W.zret (v := (nI 1)) hx hb hr nar_b1 (fun t9 ht _ => ⟨_, rfl, congrArg nI (by first | (rw [tN_1 c112, tN_1 c117]; rfl) | (rw [tN_0 c112]; rfl) | (rw [tN_1 c112, tN_0 c117]; rfl)), ht⟩) (fun q h => by cases h) d_Model_isOver_125
