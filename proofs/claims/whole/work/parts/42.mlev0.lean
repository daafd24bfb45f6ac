theorem fl_Model_168 : Cond.fieldLink R_Model 168 "FaultRipsModel" "ganged" "Z" ∈ TB := mem_TB 873 (by decide +kernel) (by decide +kernel)
theorem fl_Model_193 : Cond.fieldLink R_Model 193 "FaultRipsModel" "way" "I" ∈ TB := mem_TB 886 (by decide +kernel) (by decide +kernel)
theorem fl_Model_55 : Cond.fieldLink R_Model 55 "FaultRipsModel" "gangs" "[Z" ∈ TB := mem_TB 872 (by decide +kernel) (by decide +kernel)
theorem fl_Model_73 : Cond.fieldLink R_Model 73 "FaultRipsModel" "value1" "[J" ∈ TB := mem_TB 879 (by decide +kernel) (by decide +kernel)
theorem fl_Model_76 : Cond.fieldLink R_Model 76 "FaultRipsModel" "count1" "[I" ∈ TB := mem_TB 880 (by decide +kernel) (by decide +kernel)
theorem fl_Model_79 : Cond.fieldLink R_Model 79 "FaultRipsModel" "value2" "[J" ∈ TB := mem_TB 881 (by decide +kernel) (by decide +kernel)
theorem fl_Model_82 : Cond.fieldLink R_Model 82 "FaultRipsModel" "count2" "[I" ∈ TB := mem_TB 882 (by decide +kernel) (by decide +kernel)
theorem fl_Model_91 : Cond.fieldLink R_Model 91 "FaultRipsModel" "stages" "I" ∈ TB := mem_TB 887 (by decide +kernel) (by decide +kernel)
theorem lk_Model_196 : Cond.methodLink R_Model 196 y_Model_isRipped ∈ TB := mem_TB 1083 (by decide +kernel) (by decide +kernel)

theorem dpV_mono {seg : Nat → Nat → Int} {ok : Nat → Bool} {e : Nat} : ∀ n p : Nat, p + n ≤ e → dpV seg ok (p + n) e ≤ dpV seg ok p e := by
  intro n
  induction n with
  | zero => intro p _; exact Int.le_refl _
  | succ n ih =>
    intro p h
    have h1 := ih (p + 1) (by omega)
    rw [show p + 1 + n = p + (n + 1) by omega] at h1
    refine Int.le_trans h1 ?_
    rw [dpV_step (show p < e by omega)]
    exact dpS_ge _
theorem dpV_u {seg : Nat → Nat → Int} {ok : Nat → Bool} {b e : Nat} (he : e - b ≤ 24) (hb : b ≤ e) (h : ∀ i j, b ≤ i → i < j → j ≤ e → seg i j ≤ 1100000000000000) : 0 ≤ dpV seg ok b e ∧ dpV seg ok b e ≤ 26400000000000000 := by
  refine ⟨dpV_nonneg _ b rfl hb, Int.le_trans (dpV_le (M := 1100000000000000) (by omega) _ b rfl hb (fun i j h1 h2 h3 => by have := h i j h1 h2 h3; omega)) (by omega)⟩
/-- worth and number as one: the greater is the better -/
def mS (v : Nat → Int) (c : Nat → Nat) : Rg := fun x0 x1 y0 y1 => 1024 * v (((25 * x0 + x1) * 11 + y0) * 11 + y1) - (c (((25 * x0 + x1) * 11 + y0) * 11 + y1) : Int)
/-- what is asked of the worths and numbers under a level, in a place -/
def mOK (v : Nat → Int) (c : Nat → Nat) (x0 x1 y0 y1 : Nat) : Prop := c (((25 * x0 + x1) * 11 + y0) * 11 + y1) ≤ (x1 - x0) * (y1 - y0) ∧ (c (((25 * x0 + x1) * 11 + y0) * 11 + y1) = 0 → v (((25 * x0 + x1) * 11 + y0) * 11 + y1) = 0) ∧ -2000000000 ≤ v (((25 * x0 + x1) * 11 + y0) * 11 + y1) ∧ v (((25 * x0 + x1) * 11 + y0) * 11 + y1) ≤ 1000000000000
theorem mS_le {v : Nat → Int} {c : Nat → Nat} {x0 x1 y0 y1 : Nat} (h : mOK v c x0 x1 y0 y1) : mS v c x0 x1 y0 y1 ≤ 1100000000000000 := by
  unfold mS
  have := h.2.2.2
  omega
/-- a row of the rest: worth and number behind each place -/
def rOKr (re : Nat → Int) (rc : Nat → Nat) (RV : Nat → Int) (base K n p : Nat) : Prop := 1024 * re (base + p) - (rc (base + p) : Int) = RV p ∧ rc (base + p) ≤ K * (n - p) ∧ (rc (base + p) = 0 → re (base + p) = 0)
theorem K_add {K a b c : Nat} (h : a + b = c) : K * a + K * b = K * c := by rw [← h, Nat.mul_add]

abbrev q_Model_isRipped (G : va_G) (ty : Nat → ClassId) (hM : Nat) (cd : Nat) (st : Nat) (al : Nat) (ac : Nat) (nf : Nat) (ns : Nat) (gg : Nat) (mg : Nat) (bw : Nat) (md : Nat) (wy : Nat) (sg_ : Nat) (sz_ : Nat) (ks : Nat) (bd : Int) (aM : Nat → Nat) (lv : Nat) : Array Value → State → Outcome → State → Prop := vp_Si (fun r : Int32 => r = (nI (1 - (if (sg_ - lv) % 2 = 0 then wy else 1 - wy))))
set_option maxRecDepth 100000 in
set_option maxHeartbeats 4000000 in
theorem c_Model_isRipped (l : Launch) (G : va_G) (ty : Nat → ClassId) (hM : Nat) (cd : Nat) (st : Nat) (al : Nat) (ac : Nat) (nf : Nat) (ns : Nat) (gg : Nat) (mg : Nat) (bw : Nat) (md : Nat) (wy : Nat) (sg_ : Nat) (sz_ : Nat) (ks : Nat) (bd : Int) (aM : Nat → Nat) (lv : Nat) (g1 : lv ≤ sg_) (g2 : sg_ ≤ 3) (g3 : wy ≤ 1) : Met l y_Model_isRipped ws_Model_isRipped { frames := 0, cells := 0, slots := 0, locals := 0 } (va_Pc [.ref hM, .int (nI lv)] (fun U => va_P G vwCl [(hM, .inr (10, mO cd st al ac nf ns gg mg bw md wy sg_ sz_ ks bd aM))] U.heap ∧ KX G ty U)) (q_Model_isRipped G ty hM cd st al ac nf ns gg mg bw md wy sg_ sz_ ks bd aM lv) 0 0 (fun _ => False) := by
  refine met_ro R_Model (by decide) rfl rfl (Nat.le_of_ble_eq_true rfl) ?_
  intro p e s m below meth c ls hx hb hr hml hown hts hlocks hP hX hl
  have hK := hX.1
  have hl : lv_has ls 2 [(0, .ref hM), (1, .int (nI lv))] := hl
  refine lv_aload_n hx hb d_Model_isRipped_0 rfl (lv_at hl 0 rfl) ?_
  refine va_get (D := G) (ci := 10) (v := .int (nI wy)) (C := R_Model) (T := F_Model) (N := 47) hx hb hts in_Model hown hK hP 0 rfl rfl 34 (by decide) (hts _ fl_Model_193) (fun _ h9 => h9) rfl d_Model_isRipped_1 ?_
  refine n_if_ne (tgt := 11) hx hb (by omega) d_Model_isRipped_4 (by decide) (fun c4 => ?_) (fun c4 => ?_)
  · refine lv_iconst (v := (nI 0)) hx hb d_Model_isRipped_11 (by decide) ?_
    refine lv_aload_n hx hb d_Model_isRipped_12 rfl (lv_at hl 0 rfl) ?_
    refine va_get (D := G) (ci := 10) (v := .int (nI sg_)) (C := R_Model) (T := F_Model) (N := 47) hx hb hts in_Model hown hK hP 0 rfl rfl 35 (by decide) (hts _ fl_Model_91) (fun _ h9 => h9) rfl d_Model_isRipped_13 ?_
    refine lv_iload_n hx hb d_Model_isRipped_16 rfl (lv_at hl 1 rfl) ?_
    refine n_isub hx hb (by omega) d_Model_isRipped_17 ?_
    refine lv_iconst (v := (nI 2)) hx hb d_Model_isRipped_18 (by decide) ?_
    refine n_irem hx hb (by omega) (by omega) (by omega) d_Model_isRipped_19 ?_
    refine n_if_ne (tgt := 27) hx hb (by omega) d_Model_isRipped_20 (by decide) (fun c20 => ?_) (fun c20 => ?_)
    · refine lv_iconst (v := (nI 0)) hx hb d_Model_isRipped_27 (by decide) ?_
      refine n_icmp_ne (tgt := 35) hx hb (by omega) (by omega) d_Model_isRipped_28 (by decide) (fun c28 => absurd c28 (by omega)) (fun c28 => ?_)
      refine lv_iconst (v := (nI 1)) hx hb d_Model_isRipped_31 (by decide) ?_
      refine lv_goto (tgt := 36) hx hb d_Model_isRipped_32 (by decide) ?_
      exact W.zret (v := (nI 1)) hx hb hr nar_b1 (fun t9 ht _ => ⟨_, rfl, congrArg nI (by split <;> omega), ht⟩) (fun q h => by cases h) d_Model_isRipped_36
    · refine lv_iconst (v := (nI 1)) hx hb d_Model_isRipped_23 (by decide) ?_
      refine lv_goto (tgt := 28) hx hb d_Model_isRipped_24 (by decide) ?_
      refine n_icmp_ne (tgt := 35) hx hb (by omega) (by omega) d_Model_isRipped_28 (by decide) (fun c28 => ?_) (fun c28 => absurd c28 (by omega))
      refine lv_iconst (v := (nI 0)) hx hb d_Model_isRipped_35 (by decide) ?_
      exact W.zret (v := (nI 0)) hx hb hr nar_b0 (fun t9 ht _ => ⟨_, rfl, congrArg nI (by split <;> omega), ht⟩) (fun q h => by cases h) d_Model_isRipped_36
  · refine lv_iconst (v := (nI 1)) hx hb d_Model_isRipped_7 (by decide) ?_
    refine lv_goto (tgt := 12) hx hb d_Model_isRipped_8 (by decide) ?_
    refine lv_aload_n hx hb d_Model_isRipped_12 rfl (lv_at hl 0 rfl) ?_
    refine va_get (D := G) (ci := 10) (v := .int (nI sg_)) (C := R_Model) (T := F_Model) (N := 47) hx hb hts in_Model hown hK hP 0 rfl rfl 35 (by decide) (hts _ fl_Model_91) (fun _ h9 => h9) rfl d_Model_isRipped_13 ?_
    refine lv_iload_n hx hb d_Model_isRipped_16 rfl (lv_at hl 1 rfl) ?_
    refine n_isub hx hb (by omega) d_Model_isRipped_17 ?_
    refine lv_iconst (v := (nI 2)) hx hb d_Model_isRipped_18 (by decide) ?_
    refine n_irem hx hb (by omega) (by omega) (by omega) d_Model_isRipped_19 ?_
    refine n_if_ne (tgt := 27) hx hb (by omega) d_Model_isRipped_20 (by decide) (fun c20 => ?_) (fun c20 => ?_)
    · refine lv_iconst (v := (nI 0)) hx hb d_Model_isRipped_27 (by decide) ?_
      refine n_icmp_ne (tgt := 35) hx hb (by omega) (by omega) d_Model_isRipped_28 (by decide) (fun c28 => ?_) (fun c28 => absurd c28 (by omega))
      refine lv_iconst (v := (nI 0)) hx hb d_Model_isRipped_35 (by decide) ?_
      exact W.zret (v := (nI 0)) hx hb hr nar_b0 (fun t9 ht _ => ⟨_, rfl, congrArg nI (by split <;> omega), ht⟩) (fun q h => by cases h) d_Model_isRipped_36
    · refine lv_iconst (v := (nI 1)) hx hb d_Model_isRipped_23 (by decide) ?_
      refine lv_goto (tgt := 28) hx hb d_Model_isRipped_24 (by decide) ?_
      refine n_icmp_ne (tgt := 35) hx hb (by omega) (by omega) d_Model_isRipped_28 (by decide) (fun c28 => absurd c28 (by omega)) (fun c28 => ?_)
      refine lv_iconst (v := (nI 1)) hx hb d_Model_isRipped_31 (by decide) ?_
      refine lv_goto (tgt := 36) hx hb d_Model_isRipped_32 (by decide) ?_
      exact W.zret (v := (nI 1)) hx hb hr nar_b1 (fun t9 ht _ => ⟨_, rfl, congrArg nI (by split <;> omega), ht⟩) (fun q h => by cases h) d_Model_isRipped_36

abbrev q_valueBy0 (G : va_G) (ty : Nat → ClassId) (hM : Nat) (cd : Nat) (st : Nat) (al : Nat) (ac : Nat) (nf : Nat) (ns : Nat) (gg : Nat) (mg : Nat) (bw : Nat) (md : Nat) (wy : Nat) (sg_ : Nat) (sz_ : Nat) (ks : Nat) (bd : Int) (aM : Nat → Nat) (at_ : Nat) (v : Nat → Int) : Array Value → State → Outcome → State → Prop := vp_Sl (fun r : Int64 => r = (iL (v at_)))
set_option maxRecDepth 100000 in
set_option maxHeartbeats 4000000 in
theorem c_valueBy0 (l : Launch) (G : va_G) (ty : Nat → ClassId) (hM : Nat) (cd : Nat) (st : Nat) (al : Nat) (ac : Nat) (nf : Nat) (ns : Nat) (gg : Nat) (mg : Nat) (bw : Nat) (md : Nat) (wy : Nat) (sg_ : Nat) (sz_ : Nat) (ks : Nat) (bd : Int) (aM : Nat → Nat) (at_ : Nat) (v : Nat → Int) (g1 : at_ < 75625) : Met l y_Model_valueBy ws_Model_valueBy { frames := 0, cells := 0, slots := 0, locals := 0 } (va_Pc [.ref hM, .int (nI 0), .int (nI at_)] (fun U => va_P G vwCl [(hM, .inr (10, mO cd st al ac nf ns gg mg bw md wy sg_ sz_ ks bd aM)), (aM 24, .inl (ty 1, 75625, .inr (.inl (lF v))))] U.heap ∧ KX G ty U)) (q_valueBy0 G ty hM cd st al ac nf ns gg mg bw md wy sg_ sz_ ks bd aM at_ v) 0 0 (fun _ => False) := by
  refine met_ro R_Model (by decide) rfl rfl (Nat.le_of_ble_eq_true rfl) ?_
  intro p e s m below meth c ls hx hb hr hml hown hts hlocks hP hX hl
  have hK := hX.1
  have hl : lv_has ls 3 [(0, .ref hM), (1, .int (nI 0)), (2, .int (nI at_))] := hl
  refine lv_iload_n hx hb d_Model_valueBy_0 rfl (lv_at hl 1 rfl) ?_
  refine n_if_ne (tgt := 13) hx hb (by omega) d_Model_valueBy_1 (by decide) (fun c1 => absurd c1 (by omega)) (fun c1 => ?_)
  refine lv_aload_n hx hb d_Model_valueBy_4 rfl (lv_at hl 0 rfl) ?_
  refine va_get (D := G) (ci := 10) (v := .ref (aM 24)) (C := R_Model) (T := F_Model) (N := 47) hx hb hts in_Model hown hK hP 0 rfl rfl 24 (by decide) (hts _ fl_Model_64) (fun _ h9 => h9) rfl d_Model_valueBy_5 ?_
  refine lv_iload_n hx hb d_Model_valueBy_8 rfl (lv_at hl 2 rfl) ?_
  refine n_lald hx hb hK hP 1 1 rfl rfl (by omega) (by omega) d_Model_valueBy_9 ?_
  refine lv_goto (tgt := 33) hx hb d_Model_valueBy_10 (by decide) ?_
  exact W.lret (v := (iL (v at_))) hx hb hr (fun t9 ht _ => ⟨_, rfl, rfl, ht⟩) (fun q h => by cases h) d_Model_valueBy_33

abbrev q_countBy0 (G : va_G) (ty : Nat → ClassId) (hM : Nat) (cd : Nat) (st : Nat) (al : Nat) (ac : Nat) (nf : Nat) (ns : Nat) (gg : Nat) (mg : Nat) (bw : Nat) (md : Nat) (wy : Nat) (sg_ : Nat) (sz_ : Nat) (ks : Nat) (bd : Int) (aM : Nat → Nat) (at_ : Nat) (cc9 : Nat → Nat) : Array Value → State → Outcome → State → Prop := vp_Si (fun r : Int32 => r = (nI (cc9 at_)))
set_option maxRecDepth 100000 in
set_option maxHeartbeats 4000000 in
theorem c_countBy0 (l : Launch) (G : va_G) (ty : Nat → ClassId) (hM : Nat) (cd : Nat) (st : Nat) (al : Nat) (ac : Nat) (nf : Nat) (ns : Nat) (gg : Nat) (mg : Nat) (bw : Nat) (md : Nat) (wy : Nat) (sg_ : Nat) (sz_ : Nat) (ks : Nat) (bd : Int) (aM : Nat → Nat) (at_ : Nat) (cc9 : Nat → Nat) (g1 : at_ < 75625) : Met l y_Model_countBy ws_Model_countBy { frames := 0, cells := 0, slots := 0, locals := 0 } (va_Pc [.ref hM, .int (nI 0), .int (nI at_)] (fun U => va_P G vwCl [(hM, .inr (10, mO cd st al ac nf ns gg mg bw md wy sg_ sz_ ks bd aM)), (aM 25, .inl (ty 0, 75625, .inl (nF cc9)))] U.heap ∧ KX G ty U)) (q_countBy0 G ty hM cd st al ac nf ns gg mg bw md wy sg_ sz_ ks bd aM at_ cc9) 0 0 (fun _ => False) := by
  refine met_ro R_Model (by decide) rfl rfl (Nat.le_of_ble_eq_true rfl) ?_
  intro p e s m below meth c ls hx hb hr hml hown hts hlocks hP hX hl
  have hK := hX.1
  have hl : lv_has ls 3 [(0, .ref hM), (1, .int (nI 0)), (2, .int (nI at_))] := hl
  refine lv_iload_n hx hb d_Model_countBy_0 rfl (lv_at hl 1 rfl) ?_
  refine n_if_ne (tgt := 13) hx hb (by omega) d_Model_countBy_1 (by decide) (fun c1 => absurd c1 (by omega)) (fun c1 => ?_)
  refine lv_aload_n hx hb d_Model_countBy_4 rfl (lv_at hl 0 rfl) ?_
  refine va_get (D := G) (ci := 10) (v := .ref (aM 25)) (C := R_Model) (T := F_Model) (N := 47) hx hb hts in_Model hown hK hP 0 rfl rfl 25 (by decide) (hts _ fl_Model_67) (fun _ h9 => h9) rfl d_Model_countBy_5 ?_
  refine lv_iload_n hx hb d_Model_countBy_8 rfl (lv_at hl 2 rfl) ?_
  refine n_iald hx hb hK hP 1 0 rfl rfl (by omega) (by omega) d_Model_countBy_9 ?_
  refine lv_goto (tgt := 33) hx hb d_Model_countBy_10 (by decide) ?_
  exact W.iret (v := (nI (cc9 at_))) hx hb hr (fun t9 ht _ => ⟨_, rfl, rfl, ht⟩) (fun q h => by cases h) d_Model_countBy_33

abbrev q_valueBy1 (G : va_G) (ty : Nat → ClassId) (hM : Nat) (cd : Nat) (st : Nat) (al : Nat) (ac : Nat) (nf : Nat) (ns : Nat) (gg : Nat) (mg : Nat) (bw : Nat) (md : Nat) (wy : Nat) (sg_ : Nat) (sz_ : Nat) (ks : Nat) (bd : Int) (aM : Nat → Nat) (at_ : Nat) (v : Nat → Int) : Array Value → State → Outcome → State → Prop := vp_Sl (fun r : Int64 => r = (iL (v at_)))
set_option maxRecDepth 100000 in
set_option maxHeartbeats 4000000 in
theorem c_valueBy1 (l : Launch) (G : va_G) (ty : Nat → ClassId) (hM : Nat) (cd : Nat) (st : Nat) (al : Nat) (ac : Nat) (nf : Nat) (ns : Nat) (gg : Nat) (mg : Nat) (bw : Nat) (md : Nat) (wy : Nat) (sg_ : Nat) (sz_ : Nat) (ks : Nat) (bd : Int) (aM : Nat → Nat) (at_ : Nat) (v : Nat → Int) (g1 : at_ < 75625) : Met l y_Model_valueBy ws_Model_valueBy { frames := 0, cells := 0, slots := 0, locals := 0 } (va_Pc [.ref hM, .int (nI 1), .int (nI at_)] (fun U => va_P G vwCl [(hM, .inr (10, mO cd st al ac nf ns gg mg bw md wy sg_ sz_ ks bd aM)), (aM 27, .inl (ty 1, 75625, .inr (.inl (lF v))))] U.heap ∧ KX G ty U)) (q_valueBy1 G ty hM cd st al ac nf ns gg mg bw md wy sg_ sz_ ks bd aM at_ v) 0 0 (fun _ => False) := by
  refine met_ro R_Model (by decide) rfl rfl (Nat.le_of_ble_eq_true rfl) ?_
  intro p e s m below meth c ls hx hb hr hml hown hts hlocks hP hX hl
  have hK := hX.1
  have hl : lv_has ls 3 [(0, .ref hM), (1, .int (nI 1)), (2, .int (nI at_))] := hl
  refine lv_iload_n hx hb d_Model_valueBy_0 rfl (lv_at hl 1 rfl) ?_
  refine n_if_ne (tgt := 13) hx hb (by omega) d_Model_valueBy_1 (by decide) (fun c1 => ?_) (fun c1 => absurd c1 (by omega))
  refine lv_iload_n hx hb d_Model_valueBy_13 rfl (lv_at hl 1 rfl) ?_
  refine lv_iconst (v := (nI 1)) hx hb d_Model_valueBy_14 (by decide) ?_
  refine n_icmp_ne (tgt := 27) hx hb (by omega) (by omega) d_Model_valueBy_15 (by decide) (fun c15 => absurd c15 (by omega)) (fun c15 => ?_)
  refine lv_aload_n hx hb d_Model_valueBy_18 rfl (lv_at hl 0 rfl) ?_
  refine va_get (D := G) (ci := 10) (v := .ref (aM 27)) (C := R_Model) (T := F_Model) (N := 47) hx hb hts in_Model hown hK hP 0 rfl rfl 27 (by decide) (hts _ fl_Model_73) (fun _ h9 => h9) rfl d_Model_valueBy_19 ?_
  refine lv_iload_n hx hb d_Model_valueBy_22 rfl (lv_at hl 2 rfl) ?_
  refine n_lald hx hb hK hP 1 1 rfl rfl (by omega) (by omega) d_Model_valueBy_23 ?_
  refine lv_goto (tgt := 33) hx hb d_Model_valueBy_24 (by decide) ?_
  exact W.lret (v := (iL (v at_))) hx hb hr (fun t9 ht _ => ⟨_, rfl, rfl, ht⟩) (fun q h => by cases h) d_Model_valueBy_33

abbrev q_countBy1 (G : va_G) (ty : Nat → ClassId) (hM : Nat) (cd : Nat) (st : Nat) (al : Nat) (ac : Nat) (nf : Nat) (ns : Nat) (gg : Nat) (mg : Nat) (bw : Nat) (md : Nat) (wy : Nat) (sg_ : Nat) (sz_ : Nat) (ks : Nat) (bd : Int) (aM : Nat → Nat) (at_ : Nat) (cc9 : Nat → Nat) : Array Value → State → Outcome → State → Prop := vp_Si (fun r : Int32 => r = (nI (cc9 at_)))
set_option maxRecDepth 100000 in
set_option maxHeartbeats 4000000 in
theorem c_countBy1 (l : Launch) (G : va_G) (ty : Nat → ClassId) (hM : Nat) (cd : Nat) (st : Nat) (al : Nat) (ac : Nat) (nf : Nat) (ns : Nat) (gg : Nat) (mg : Nat) (bw : Nat) (md : Nat) (wy : Nat) (sg_ : Nat) (sz_ : Nat) (ks : Nat) (bd : Int) (aM : Nat → Nat) (at_ : Nat) (cc9 : Nat → Nat) (g1 : at_ < 75625) : Met l y_Model_countBy ws_Model_countBy { frames := 0, cells := 0, slots := 0, locals := 0 } (va_Pc [.ref hM, .int (nI 1), .int (nI at_)] (fun U => va_P G vwCl [(hM, .inr (10, mO cd st al ac nf ns gg mg bw md wy sg_ sz_ ks bd aM)), (aM 28, .inl (ty 0, 75625, .inl (nF cc9)))] U.heap ∧ KX G ty U)) (q_countBy1 G ty hM cd st al ac nf ns gg mg bw md wy sg_ sz_ ks bd aM at_ cc9) 0 0 (fun _ => False) := by
  refine met_ro R_Model (by decide) rfl rfl (Nat.le_of_ble_eq_true rfl) ?_
  intro p e s m below meth c ls hx hb hr hml hown hts hlocks hP hX hl
  have hK := hX.1
  have hl : lv_has ls 3 [(0, .ref hM), (1, .int (nI 1)), (2, .int (nI at_))] := hl
  refine lv_iload_n hx hb d_Model_countBy_0 rfl (lv_at hl 1 rfl) ?_
  refine n_if_ne (tgt := 13) hx hb (by omega) d_Model_countBy_1 (by decide) (fun c1 => ?_) (fun c1 => absurd c1 (by omega))
  refine lv_iload_n hx hb d_Model_countBy_13 rfl (lv_at hl 1 rfl) ?_
  refine lv_iconst (v := (nI 1)) hx hb d_Model_countBy_14 (by decide) ?_
  refine n_icmp_ne (tgt := 27) hx hb (by omega) (by omega) d_Model_countBy_15 (by decide) (fun c15 => absurd c15 (by omega)) (fun c15 => ?_)
  refine lv_aload_n hx hb d_Model_countBy_18 rfl (lv_at hl 0 rfl) ?_
  refine va_get (D := G) (ci := 10) (v := .ref (aM 28)) (C := R_Model) (T := F_Model) (N := 47) hx hb hts in_Model hown hK hP 0 rfl rfl 28 (by decide) (hts _ fl_Model_76) (fun _ h9 => h9) rfl d_Model_countBy_19 ?_
  refine lv_iload_n hx hb d_Model_countBy_22 rfl (lv_at hl 2 rfl) ?_
  refine n_iald hx hb hK hP 1 0 rfl rfl (by omega) (by omega) d_Model_countBy_23 ?_
  refine lv_goto (tgt := 33) hx hb d_Model_countBy_24 (by decide) ?_
  exact W.iret (v := (nI (cc9 at_))) hx hb hr (fun t9 ht _ => ⟨_, rfl, rfl, ht⟩) (fun q h => by cases h) d_Model_countBy_33

abbrev q_valueBy2 (G : va_G) (ty : Nat → ClassId) (hM : Nat) (cd : Nat) (st : Nat) (al : Nat) (ac : Nat) (nf : Nat) (ns : Nat) (gg : Nat) (mg : Nat) (bw : Nat) (md : Nat) (wy : Nat) (sg_ : Nat) (sz_ : Nat) (ks : Nat) (bd : Int) (aM : Nat → Nat) (at_ : Nat) (v : Nat → Int) : Array Value → State → Outcome → State → Prop := vp_Sl (fun r : Int64 => r = (iL (v at_)))
set_option maxRecDepth 100000 in
set_option maxHeartbeats 4000000 in
theorem c_valueBy2 (l : Launch) (G : va_G) (ty : Nat → ClassId) (hM : Nat) (cd : Nat) (st : Nat) (al : Nat) (ac : Nat) (nf : Nat) (ns : Nat) (gg : Nat) (mg : Nat) (bw : Nat) (md : Nat) (wy : Nat) (sg_ : Nat) (sz_ : Nat) (ks : Nat) (bd : Int) (aM : Nat → Nat) (at_ : Nat) (v : Nat → Int) (g1 : at_ < 75625) : Met l y_Model_valueBy ws_Model_valueBy { frames := 0, cells := 0, slots := 0, locals := 0 } (va_Pc [.ref hM, .int (nI 2), .int (nI at_)] (fun U => va_P G vwCl [(hM, .inr (10, mO cd st al ac nf ns gg mg bw md wy sg_ sz_ ks bd aM)), (aM 29, .inl (ty 1, 75625, .inr (.inl (lF v))))] U.heap ∧ KX G ty U)) (q_valueBy2 G ty hM cd st al ac nf ns gg mg bw md wy sg_ sz_ ks bd aM at_ v) 0 0 (fun _ => False) := by
  refine met_ro R_Model (by decide) rfl rfl (Nat.le_of_ble_eq_true rfl) ?_
  intro p e s m below meth c ls hx hb hr hml hown hts hlocks hP hX hl
  have hK := hX.1
  have hl : lv_has ls 3 [(0, .ref hM), (1, .int (nI 2)), (2, .int (nI at_))] := hl
  refine lv_iload_n hx hb d_Model_valueBy_0 rfl (lv_at hl 1 rfl) ?_
  refine n_if_ne (tgt := 13) hx hb (by omega) d_Model_valueBy_1 (by decide) (fun c1 => ?_) (fun c1 => absurd c1 (by omega))
  refine lv_iload_n hx hb d_Model_valueBy_13 rfl (lv_at hl 1 rfl) ?_
  refine lv_iconst (v := (nI 1)) hx hb d_Model_valueBy_14 (by decide) ?_
  refine n_icmp_ne (tgt := 27) hx hb (by omega) (by omega) d_Model_valueBy_15 (by decide) (fun c15 => ?_) (fun c15 => absurd c15 (by omega))
  refine lv_aload_n hx hb d_Model_valueBy_27 rfl (lv_at hl 0 rfl) ?_
  refine va_get (D := G) (ci := 10) (v := .ref (aM 29)) (C := R_Model) (T := F_Model) (N := 47) hx hb hts in_Model hown hK hP 0 rfl rfl 29 (by decide) (hts _ fl_Model_79) (fun _ h9 => h9) rfl d_Model_valueBy_28 ?_
  refine lv_iload_n hx hb d_Model_valueBy_31 rfl (lv_at hl 2 rfl) ?_
  refine n_lald hx hb hK hP 1 1 rfl rfl (by omega) (by omega) d_Model_valueBy_32 ?_
  exact W.lret (v := (iL (v at_))) hx hb hr (fun t9 ht _ => ⟨_, rfl, rfl, ht⟩) (fun q h => by cases h) d_Model_valueBy_33

abbrev q_countBy2 (G : va_G) (ty : Nat → ClassId) (hM : Nat) (cd : Nat) (st : Nat) (al : Nat) (ac : Nat) (nf : Nat) (ns : Nat) (gg : Nat) (mg : Nat) (bw : Nat) (md : Nat) (wy : Nat) (sg_ : Nat) (sz_ : Nat) (ks : Nat) (bd : Int) (aM : Nat → Nat) (at_ : Nat) (cc9 : Nat → Nat) : Array Value → State → Outcome → State → Prop := vp_Si (fun r : Int32 => r = (nI (cc9 at_)))
set_option maxRecDepth 100000 in
set_option maxHeartbeats 4000000 in
theorem c_countBy2 (l : Launch) (G : va_G) (ty : Nat → ClassId) (hM : Nat) (cd : Nat) (st : Nat) (al : Nat) (ac : Nat) (nf : Nat) (ns : Nat) (gg : Nat) (mg : Nat) (bw : Nat) (md : Nat) (wy : Nat) (sg_ : Nat) (sz_ : Nat) (ks : Nat) (bd : Int) (aM : Nat → Nat) (at_ : Nat) (cc9 : Nat → Nat) (g1 : at_ < 75625) : Met l y_Model_countBy ws_Model_countBy { frames := 0, cells := 0, slots := 0, locals := 0 } (va_Pc [.ref hM, .int (nI 2), .int (nI at_)] (fun U => va_P G vwCl [(hM, .inr (10, mO cd st al ac nf ns gg mg bw md wy sg_ sz_ ks bd aM)), (aM 30, .inl (ty 0, 75625, .inl (nF cc9)))] U.heap ∧ KX G ty U)) (q_countBy2 G ty hM cd st al ac nf ns gg mg bw md wy sg_ sz_ ks bd aM at_ cc9) 0 0 (fun _ => False) := by
  refine met_ro R_Model (by decide) rfl rfl (Nat.le_of_ble_eq_true rfl) ?_
  intro p e s m below meth c ls hx hb hr hml hown hts hlocks hP hX hl
  have hK := hX.1
  have hl : lv_has ls 3 [(0, .ref hM), (1, .int (nI 2)), (2, .int (nI at_))] := hl
  refine lv_iload_n hx hb d_Model_countBy_0 rfl (lv_at hl 1 rfl) ?_
  refine n_if_ne (tgt := 13) hx hb (by omega) d_Model_countBy_1 (by decide) (fun c1 => ?_) (fun c1 => absurd c1 (by omega))
  refine lv_iload_n hx hb d_Model_countBy_13 rfl (lv_at hl 1 rfl) ?_
  refine lv_iconst (v := (nI 1)) hx hb d_Model_countBy_14 (by decide) ?_
  refine n_icmp_ne (tgt := 27) hx hb (by omega) (by omega) d_Model_countBy_15 (by decide) (fun c15 => ?_) (fun c15 => absurd c15 (by omega))
  refine lv_aload_n hx hb d_Model_countBy_27 rfl (lv_at hl 0 rfl) ?_
  refine va_get (D := G) (ci := 10) (v := .ref (aM 30)) (C := R_Model) (T := F_Model) (N := 47) hx hb hts in_Model hown hK hP 0 rfl rfl 30 (by decide) (hts _ fl_Model_82) (fun _ h9 => h9) rfl d_Model_countBy_28 ?_
  refine lv_iload_n hx hb d_Model_countBy_31 rfl (lv_at hl 2 rfl) ?_
  refine n_iald hx hb hK hP 1 0 rfl rfl (by omega) (by omega) d_Model_countBy_32 ?_
  exact W.iret (v := (nI (cc9 at_))) hx hb hr (fun t9 ht _ => ⟨_, rfl, rfl, ht⟩) (fun q h => by cases h) d_Model_countBy_33

abbrev q_segment0 (G : va_G) (ty : Nat → ClassId) (hM : Nat) (cd : Nat) (st : Nat) (al : Nat) (ac : Nat) (nf : Nat) (ns : Nat) (gg : Nat) (mg : Nat) (bw : Nat) (md : Nat) (wy : Nat) (sg_ : Nat) (sz_ : Nat) (ks : Nat) (bd : Int) (aM : Nat → Nat) (x0 : Nat) (x1 : Nat) (y0 : Nat) (y1 : Nat) (fr : Nat) (to_ : Nat) : Array Value → State → Outcome → State → Prop := vp_Si (fun r : Int32 => r = (nI (((25 * (x0 + fr) + (x0 + to_)) * 11 + y0) * 11 + y1)))
set_option maxRecDepth 100000 in
set_option maxHeartbeats 4000000 in
theorem c_segment0 (l : Launch) (G : va_G) (ty : Nat → ClassId) (hM : Nat) (cd : Nat) (st : Nat) (al : Nat) (ac : Nat) (nf : Nat) (ns : Nat) (gg : Nat) (mg : Nat) (bw : Nat) (md : Nat) (wy : Nat) (sg_ : Nat) (sz_ : Nat) (ks : Nat) (bd : Int) (aM : Nat → Nat) (x0 : Nat) (x1 : Nat) (y0 : Nat) (y1 : Nat) (fr : Nat) (to_ : Nat) : Met l y_Model_segment ws_Model_segment { frames := 1, cells := 0, slots := 0, locals := 23 } (va_Pc [.ref hM, .int (nI 0), .int (nI x0), .int (nI x1), .int (nI y0), .int (nI y1), .int (nI fr), .int (nI to_)] (fun U => va_P G vwCl [(hM, .inr (10, mO cd st al ac nf ns gg mg bw md wy sg_ sz_ ks bd aM))] U.heap ∧ KX G ty U)) (q_segment0 G ty hM cd st al ac nf ns gg mg bw md wy sg_ sz_ ks bd aM x0 x1 y0 y1 fr to_) 0 0 (fun _ => False) := by
  refine met_ro R_Model (by decide) rfl rfl (Nat.le_of_ble_eq_true rfl) ?_
  intro p e s m below meth c ls hx hb hr hml hown hts hlocks hP hX hl
  have hK := hX.1
  have hl : lv_has ls 8 [(0, .ref hM), (1, .int (nI 0)), (2, .int (nI x0)), (3, .int (nI x1)), (4, .int (nI y0)), (5, .int (nI y1)), (6, .int (nI fr)), (7, .int (nI to_))] := hl
  refine lv_iload_n hx hb d_Model_segment_0 rfl (lv_at hl 1 rfl) ?_
  refine n_if_eq (tgt := 22) hx hb (by omega) d_Model_segment_1 (by decide) (fun c1 => ?_) (fun c1 => absurd c1 (by omega))
  refine lv_iload_n hx hb d_Model_segment_22 rfl (lv_at hl 2 rfl) ?_
  refine lv_iload hx hb d_Model_segment_23 (lv_at hl 6 rfl) ?_
  refine n_iadd hx hb d_Model_segment_25 ?_
  refine lv_iload_n hx hb d_Model_segment_26 rfl (lv_at hl 2 rfl) ?_
  refine lv_iload hx hb d_Model_segment_27 (lv_at hl 7 rfl) ?_
  refine n_iadd hx hb d_Model_segment_29 ?_
  refine lv_iload hx hb d_Model_segment_30 (lv_at hl 4 rfl) ?_
  refine lv_iload hx hb d_Model_segment_32 (lv_at hl 5 rfl) ?_
  refine vp_callSi (W.runS (As := [.int (nI (x0 + fr)), .int (nI (x0 + to_)), .int (nI y0), .int (nI y1)]) (rest := []) ⟨hx, hb, hml, hown, hts⟩ (c_Model_number l G ty (x0 + fr) (x0 + to_) y0 y1 ) ⟨callB_of 4 hts (gd_TB cd_Model_number) rfl rfl rfl (hts _ ini_Model) (hts _ lk_Model_186) hd_Model_number ⟨Nat.le_of_ble_eq_true rfl, Nat.le_of_ble_eq_true rfl⟩, hts _ st_Model_number⟩ (preS_ro (hP.sub (ws' := []) [] rfl) hX) rfl rfl hl.1 rfl (lv_room (Nat.le_of_ble_eq_true rfl)) d_Model_segment_34 ⟨Nat.le_of_ble_eq_true rfl, Nat.le_of_ble_eq_true rfl⟩) (fun r9 er9 => ?_)
  subst er9
  exact W.iret (v := (nI (((25 * (x0 + fr) + (x0 + to_)) * 11 + y0) * 11 + y1))) hx hb hr (fun t9 ht _ => ⟨_, rfl, rfl, ht⟩) (fun q h => by cases h) d_Model_segment_37

abbrev q_segment1 (G : va_G) (ty : Nat → ClassId) (hM : Nat) (cd : Nat) (st : Nat) (al : Nat) (ac : Nat) (nf : Nat) (ns : Nat) (gg : Nat) (mg : Nat) (bw : Nat) (md : Nat) (wy : Nat) (sg_ : Nat) (sz_ : Nat) (ks : Nat) (bd : Int) (aM : Nat → Nat) (x0 : Nat) (x1 : Nat) (y0 : Nat) (y1 : Nat) (fr : Nat) (to_ : Nat) : Array Value → State → Outcome → State → Prop := vp_Si (fun r : Int32 => r = (nI (((25 * x0 + x1) * 11 + (y0 + fr)) * 11 + (y0 + to_))))
set_option maxRecDepth 100000 in
set_option maxHeartbeats 4000000 in
theorem c_segment1 (l : Launch) (G : va_G) (ty : Nat → ClassId) (hM : Nat) (cd : Nat) (st : Nat) (al : Nat) (ac : Nat) (nf : Nat) (ns : Nat) (gg : Nat) (mg : Nat) (bw : Nat) (md : Nat) (wy : Nat) (sg_ : Nat) (sz_ : Nat) (ks : Nat) (bd : Int) (aM : Nat → Nat) (x0 : Nat) (x1 : Nat) (y0 : Nat) (y1 : Nat) (fr : Nat) (to_ : Nat) : Met l y_Model_segment ws_Model_segment { frames := 1, cells := 0, slots := 0, locals := 23 } (va_Pc [.ref hM, .int (nI 1), .int (nI x0), .int (nI x1), .int (nI y0), .int (nI y1), .int (nI fr), .int (nI to_)] (fun U => va_P G vwCl [(hM, .inr (10, mO cd st al ac nf ns gg mg bw md wy sg_ sz_ ks bd aM))] U.heap ∧ KX G ty U)) (q_segment1 G ty hM cd st al ac nf ns gg mg bw md wy sg_ sz_ ks bd aM x0 x1 y0 y1 fr to_) 0 0 (fun _ => False) := by
  refine met_ro R_Model (by decide) rfl rfl (Nat.le_of_ble_eq_true rfl) ?_
  intro p e s m below meth c ls hx hb hr hml hown hts hlocks hP hX hl
  have hK := hX.1
  have hl : lv_has ls 8 [(0, .ref hM), (1, .int (nI 1)), (2, .int (nI x0)), (3, .int (nI x1)), (4, .int (nI y0)), (5, .int (nI y1)), (6, .int (nI fr)), (7, .int (nI to_))] := hl
  refine lv_iload_n hx hb d_Model_segment_0 rfl (lv_at hl 1 rfl) ?_
  refine n_if_eq (tgt := 22) hx hb (by omega) d_Model_segment_1 (by decide) (fun c1 => absurd c1 (by omega)) (fun c1 => ?_)
  refine lv_iload_n hx hb d_Model_segment_4 rfl (lv_at hl 2 rfl) ?_
  refine lv_iload_n hx hb d_Model_segment_5 rfl (lv_at hl 3 rfl) ?_
  refine lv_iload hx hb d_Model_segment_6 (lv_at hl 4 rfl) ?_
  refine lv_iload hx hb d_Model_segment_8 (lv_at hl 6 rfl) ?_
  refine n_iadd hx hb d_Model_segment_10 ?_
  refine lv_iload hx hb d_Model_segment_11 (lv_at hl 4 rfl) ?_
  refine lv_iload hx hb d_Model_segment_13 (lv_at hl 7 rfl) ?_
  refine n_iadd hx hb d_Model_segment_15 ?_
  refine vp_callSi (W.runS (As := [.int (nI x0), .int (nI x1), .int (nI (y0 + fr)), .int (nI (y0 + to_))]) (rest := []) ⟨hx, hb, hml, hown, hts⟩ (c_Model_number l G ty x0 x1 (y0 + fr) (y0 + to_) ) ⟨callB_of 4 hts (gd_TB cd_Model_number) rfl rfl rfl (hts _ ini_Model) (hts _ lk_Model_186) hd_Model_number ⟨Nat.le_of_ble_eq_true rfl, Nat.le_of_ble_eq_true rfl⟩, hts _ st_Model_number⟩ (preS_ro (hP.sub (ws' := []) [] rfl) hX) rfl rfl hl.1 rfl (lv_room (Nat.le_of_ble_eq_true rfl)) d_Model_segment_16 ⟨Nat.le_of_ble_eq_true rfl, Nat.le_of_ble_eq_true rfl⟩) (fun r9 er9 => ?_)
  subst er9
  refine lv_goto (tgt := 37) hx hb d_Model_segment_19 (by decide) ?_
  exact W.iret (v := (nI (((25 * x0 + x1) * 11 + (y0 + fr)) * 11 + (y0 + to_)))) hx hb hr (fun t9 ht _ => ⟨_, rfl, rfl, ht⟩) (fun q h => by cases h) d_Model_segment_37

abbrev q_Model_isCut (G : va_G) (ty : Nat → ClassId) (hM : Nat) (cd : Nat) (st : Nat) (al : Nat) (ac : Nat) (nf : Nat) (ns : Nat) (gg : Nat) (mg : Nat) (bw : Nat) (md : Nat) (wy : Nat) (sg_ : Nat) (sz_ : Nat) (ks : Nat) (bd : Int) (aM : Nat → Nat) (lv : Nat) (n : Nat) (gs : Nat → Bool) (tl : Bool) : Array Value → State → Outcome → State → Prop := vp_Si (fun r : Int32 => r = (nI ((okc lv sg_ (fun z9 => decide (1 ≤ z9) && (decide (wy ≠ 0) || (!tl || gs z9))) n).toNat)))
set_option maxRecDepth 100000 in
set_option maxHeartbeats 4000000 in
theorem c_Model_isCut (l : Launch) (G : va_G) (ty : Nat → ClassId) (hM : Nat) (cd : Nat) (st : Nat) (al : Nat) (ac : Nat) (nf : Nat) (ns : Nat) (gg : Nat) (mg : Nat) (bw : Nat) (md : Nat) (wy : Nat) (sg_ : Nat) (sz_ : Nat) (ks : Nat) (bd : Int) (aM : Nat → Nat) (lv : Nat) (n : Nat) (gs : Nat → Bool) (tl : Bool) (g1 : lv ≤ sg_) (g2 : sg_ ≤ 3) (g3 : wy ≤ 1) (g4 : 1 ≤ n) (g5 : n ≤ 24) : Met l y_Model_isCut ws_Model_isCut { frames := 1, cells := 0, slots := 0, locals := 21 } (va_Pc [.ref hM, .int (nI lv), .int (nI n)] (fun U => va_P G vwCl [(hM, .inr (10, mO cd st al ac nf ns tl.toNat mg bw md wy sg_ sz_ ks bd aM)), (aM 20, .inl (ty 2, 65537, .inl (bF gs)))] U.heap ∧ KX G ty U)) (q_Model_isCut G ty hM cd st al ac nf ns gg mg bw md wy sg_ sz_ ks bd aM lv n gs tl) 0 0 (fun _ => False) := by
  refine met_ro R_Model (by decide) rfl rfl (Nat.le_of_ble_eq_true rfl) ?_
  intro p e s m below meth c ls hx hb hr hml hown hts hlocks hP hX hl
  have hK := hX.1
  have hl : lv_has ls 3 [(0, .ref hM), (1, .int (nI lv)), (2, .int (nI n))] := hl
  refine lv_iload_n hx hb d_Model_isCut_0 rfl (lv_at hl 1 rfl) ?_
  refine lv_aload_n hx hb d_Model_isCut_1 rfl (lv_at hl 0 rfl) ?_
  refine va_get (D := G) (ci := 10) (v := .int (nI sg_)) (C := R_Model) (T := F_Model) (N := 47) hx hb hts in_Model hown hK hP 0 rfl rfl 35 (by decide) (hts _ fl_Model_91) (fun _ h9 => h9) rfl d_Model_isCut_2 ?_
  refine n_icmp_lt (tgt := 32) hx hb (by omega) (by omega) d_Model_isCut_5 (by decide) (fun c5 => ?_) (fun c5 => ?_)
  · refine lv_iconst (v := (nI 1)) hx hb d_Model_isCut_32 (by decide) ?_
    refine lv_goto (tgt := 37) hx hb d_Model_isCut_33 (by decide) ?_
    exact W.zret (v := (nI 1)) hx hb hr nar_b1 (fun t9 ht _ => ⟨_, rfl, congrArg nI (by show _ = (decide (lv < sg_) || (decide (1 ≤ n) && (decide (wy ≠ 0) || (!tl || gs n)))).toNat; first | (rw [decide_eq_true c5]; rfl) | (have hlv : lv = sg_ := (by omega); rw [hlv, Nat.sub_self, if_pos rfl] at c13; rw [decide_eq_false (by omega), decide_eq_true g4]; first | (rw [decide_eq_true (show wy ≠ 0 by omega)]; rfl) | (rw [show wy = 0 by omega]; first | (rw [tN_0 c20]; rfl) | (rw [tN_1 c20, tN_0 c29]; rfl) | (rw [tN_1 c20, tN_1 c29]; rfl)))), ht⟩) (fun q h => by cases h) d_Model_isCut_37
  · refine lv_aload_n hx hb d_Model_isCut_8 rfl (lv_at hl 0 rfl) ?_
    refine lv_iload_n hx hb d_Model_isCut_9 rfl (lv_at hl 1 rfl) ?_
    refine vp_callSi (W.runV (As := [.int (nI lv)]) (rest := []) ⟨hx, hb, hml, hown, hts⟩ (c_Model_isRipped l G ty hM cd st al ac nf ns tl.toNat mg bw md wy sg_ sz_ ks bd aM lv (by omega) (by omega) (by omega)) ⟨callB_of 1 hts (gd_TB cd_Model_isRipped) rfl rfl rfl (hts _ ini_Model) (hts _ lk_Model_196) hd_Model_isRipped ⟨Nat.le_of_ble_eq_true rfl, Nat.le_of_ble_eq_true rfl⟩, hts _ im_Model_isRipped, hts _ sl_Model_isRipped⟩ (preV_ro (hP.sub (ws' := [(hM, .inr (10, mO cd st al ac nf ns tl.toNat mg bw md wy sg_ sz_ ks bd aM))]) [0] rfl) hX 0 rfl rfl) rfl rfl hl.1 rfl (lv_room (Nat.le_of_ble_eq_true rfl)) d_Model_isCut_10 ⟨Nat.le_of_ble_eq_true rfl, Nat.le_of_ble_eq_true rfl⟩) (fun r9 er9 => ?_)
    subst er9
    refine n_if_eq (tgt := 32) hx hb (by split <;> omega) d_Model_isCut_13 (by decide) (fun c13 => ?_) (fun c13 => ?_)
    · refine lv_iconst (v := (nI 1)) hx hb d_Model_isCut_32 (by decide) ?_
      refine lv_goto (tgt := 37) hx hb d_Model_isCut_33 (by decide) ?_
      exact W.zret (v := (nI 1)) hx hb hr nar_b1 (fun t9 ht _ => ⟨_, rfl, congrArg nI (by show _ = (decide (lv < sg_) || (decide (1 ≤ n) && (decide (wy ≠ 0) || (!tl || gs n)))).toNat; first | (rw [decide_eq_true c5]; rfl) | (have hlv : lv = sg_ := (by omega); rw [hlv, Nat.sub_self, if_pos rfl] at c13; rw [decide_eq_false (by omega), decide_eq_true g4]; first | (rw [decide_eq_true (show wy ≠ 0 by omega)]; rfl) | (rw [show wy = 0 by omega]; first | (rw [tN_0 c20]; rfl) | (rw [tN_1 c20, tN_0 c29]; rfl) | (rw [tN_1 c20, tN_1 c29]; rfl)))), ht⟩) (fun q h => by cases h) d_Model_isCut_37
    · refine lv_aload_n hx hb d_Model_isCut_16 rfl (lv_at hl 0 rfl) ?_
      refine va_get (D := G) (ci := 10) (v := .int (nI tl.toNat)) (C := R_Model) (T := F_Model) (N := 47) hx hb hts in_Model hown hK hP 0 rfl rfl 21 (by decide) (hts _ fl_Model_168) (fun _ h9 => h9) rfl d_Model_isCut_17 ?_
      refine n_if_eq (tgt := 32) hx hb (tN_lt _) d_Model_isCut_20 (by decide) (fun c20 => ?_) (fun c20 => ?_)
      · refine lv_iconst (v := (nI 1)) hx hb d_Model_isCut_32 (by decide) ?_
        refine lv_goto (tgt := 37) hx hb d_Model_isCut_33 (by decide) ?_
        exact W.zret (v := (nI 1)) hx hb hr nar_b1 (fun t9 ht _ => ⟨_, rfl, congrArg nI (by show _ = (decide (lv < sg_) || (decide (1 ≤ n) && (decide (wy ≠ 0) || (!tl || gs n)))).toNat; first | (rw [decide_eq_true c5]; rfl) | (have hlv : lv = sg_ := (by omega); rw [hlv, Nat.sub_self, if_pos rfl] at c13; rw [decide_eq_false (by omega), decide_eq_true g4]; first | (rw [decide_eq_true (show wy ≠ 0 by omega)]; rfl) | (rw [show wy = 0 by omega]; first | (rw [tN_0 c20]; rfl) | (rw [tN_1 c20, tN_0 c29]; rfl) | (rw [tN_1 c20, tN_1 c29]; rfl)))), ht⟩) (fun q h => by cases h) d_Model_isCut_37
      · refine lv_aload_n hx hb d_Model_isCut_23 rfl (lv_at hl 0 rfl) ?_
        refine va_get (D := G) (ci := 10) (v := .ref (aM 20)) (C := R_Model) (T := F_Model) (N := 47) hx hb hts in_Model hown hK hP 0 rfl rfl 20 (by decide) (hts _ fl_Model_55) (fun _ h9 => h9) rfl d_Model_isCut_24 ?_
        refine lv_iload_n hx hb d_Model_isCut_27 rfl (lv_at hl 2 rfl) ?_
        refine n_zald hx hb hK hP 1 2 rfl rfl (by omega) (by omega) d_Model_isCut_28 ?_
        refine n_if_eq (tgt := 36) hx hb (tN_lt _) d_Model_isCut_29 (by decide) (fun c29 => ?_) (fun c29 => ?_)
        · refine lv_iconst (v := (nI 0)) hx hb d_Model_isCut_36 (by decide) ?_
          exact W.zret (v := (nI 0)) hx hb hr nar_b0 (fun t9 ht _ => ⟨_, rfl, congrArg nI (by show _ = (decide (lv < sg_) || (decide (1 ≤ n) && (decide (wy ≠ 0) || (!tl || gs n)))).toNat; first | (rw [decide_eq_true c5]; rfl) | (have hlv : lv = sg_ := (by omega); rw [hlv, Nat.sub_self, if_pos rfl] at c13; rw [decide_eq_false (by omega), decide_eq_true g4]; first | (rw [decide_eq_true (show wy ≠ 0 by omega)]; rfl) | (rw [show wy = 0 by omega]; first | (rw [tN_0 c20]; rfl) | (rw [tN_1 c20, tN_0 c29]; rfl) | (rw [tN_1 c20, tN_1 c29]; rfl)))), ht⟩) (fun q h => by cases h) d_Model_isCut_37
        · refine lv_iconst (v := (nI 1)) hx hb d_Model_isCut_32 (by decide) ?_
          refine lv_goto (tgt := 37) hx hb d_Model_isCut_33 (by decide) ?_
          exact W.zret (v := (nI 1)) hx hb hr nar_b1 (fun t9 ht _ => ⟨_, rfl, congrArg nI (by show _ = (decide (lv < sg_) || (decide (1 ≤ n) && (decide (wy ≠ 0) || (!tl || gs n)))).toNat; first | (rw [decide_eq_true c5]; rfl) | (have hlv : lv = sg_ := (by omega); rw [hlv, Nat.sub_self, if_pos rfl] at c13; rw [decide_eq_false (by omega), decide_eq_true g4]; first | (rw [decide_eq_true (show wy ≠ 0 by omega)]; rfl) | (rw [show wy = 0 by omega]; first | (rw [tN_0 c20]; rfl) | (rw [tN_1 c20, tN_0 c29]; rfl) | (rw [tN_1 c20, tN_1 c29]; rfl)))), ht⟩) (fun q h => by cases h) d_Model_isCut_37
