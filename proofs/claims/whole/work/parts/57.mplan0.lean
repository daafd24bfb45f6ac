

abbrev q_mplan0 (G : va_G) (ty : Nat → ClassId) (hM : Nat) (cd : Nat) (st : Nat) (al : Nat) (ac : Nat) (nf : Nat) (ns : Nat) (gg : Nat) (mg : Nat) (bw : Nat) (md : Nat) (wy : Nat) (sg_ : Nat) (sz_ : Nat) (ks : Nat) (bd : Int) (aM : Nat → Nat) (A : Nat → Prop) : Array Value → State → Outcome → State → Prop := va_Ql (fun (r : Int64) => fun (uu : Unit) => r = (iL 0)) (at_W G (fun (uu : Unit) => [(hM, .inr (10, mO cd st al ac nf ns gg mg bw md wy sg_ 0 ks bd aM))]) A) A
set_option maxRecDepth 100000 in
set_option maxHeartbeats 4000000 in
theorem c_mplan0 (l : Launch) (G : va_G) (ty : Nat → ClassId) (sz : Nat) (hM : Nat) (cd : Nat) (st : Nat) (al : Nat) (ac : Nat) (nf : Nat) (ns : Nat) (gg : Nat) (mg : Nat) (bw : Nat) (md : Nat) (wy : Nat) (sg_ : Nat) (sz_ : Nat) (ks : Nat) (bd : Int) (aM : Nat → Nat) (g0 : al = 0 ∨ ac = 0) (ga : al ≤ 24) (gc : ac ≤ 10) : Met l y_Model_plan ws_Model_plan { frames := 0, cells := 0, slots := 0, locals := 0 } (va_Pc [.ref hM] (fun U => U.heap.size = sz ∧ va_P G vwCl [(hM, .inr (10, mO cd st al ac nf ns gg mg bw md wy sg_ sz_ ks bd aM))] U.heap ∧ KX G ty U ∧ va_D (fun _ => True) [(hM, .inr (10, mO cd st al ac nf ns gg mg bw md wy sg_ sz_ ks bd aM))])) (q_mplan0 G ty hM cd st al ac nf ns gg mg bw md wy sg_ sz_ ks bd aM (va_A [(hM, .inr (10, mO cd st al ac nf ns gg mg bw md wy sg_ sz_ ks bd aM))] sz)) 0 0 (va_A [(hM, .inr (10, mO cd st al ac nf ns gg mg bw md wy sg_ sz_ ks bd aM))] sz) := by
  refine met_wr (y := y_Model_plan) (maxL := 4) (sz := sz) (G := G) (ty := ty) (mc := 0) (ms := 0) (av := [.ref hM]) (W0 := [(hM, .inr (10, mO cd st al ac nf ns gg mg bw md wy sg_ sz_ ks bd aM))]) (fun A => q_mplan0 G ty hM cd st al ac nf ns gg mg bw md wy sg_ sz_ ks bd aM A) R_Model (by decide) rfl rfl (Nat.le_of_ble_eq_true rfl) ?_
  intro p e s m below meth c ls A hx hb hr hml hown hts hlocks hin hA hP hX hD hS hl
  have hK := hX.1
  have hl : lv_has ls 4 [(0, .ref hM)] := hl
  refine lv_aload_n hx hb d_Model_plan_0 rfl (lv_at hl 0 rfl) ?_
  refine lv_iconst (v := (nI 0)) hx hb d_Model_plan_1 (by decide) ?_
  refine va_put (D := G) (ci := 10) (v := .int (nI 0)) (ty := .int) (C := R_Model) (T := F_Model) (N := 47) hx hb hts in_Model t_Model t_Model_ok n_Model hown hK hP hD hS 0 rfl rfl 36 (by decide) (hts _ fl_Model_219) (fun _ h9 => h9) rfl (by decide +kernel) rfl rfl (Nat.le_of_ble_eq_true rfl) d_Model_plan_2 (fun H locs hP hD hS => ?_)
  have hP : va_P G vwCl [(hM, .inr (10, mO cd st al ac nf ns gg mg bw md wy sg_ 0 ks bd aM))] _ := hP
  have hD : va_D A [(hM, .inr (10, mO cd st al ac nf ns gg mg bw md wy sg_ 0 ks bd aM))] := hD
  refine lv_aload_n hx hb d_Model_plan_5 rfl (lv_at hl 0 rfl) ?_
  refine va_get (D := G) (ci := 10) (v := .int (nI al)) (C := R_Model) (T := F_Model) (N := 47) hx hb hts in_Model hown hK hP 0 rfl rfl 2 (by decide) (hts _ fl_Model_125) (fun _ h9 => h9) rfl d_Model_plan_6 ?_
  refine n_if_eq (tgt := 19) hx hb (by omega) d_Model_plan_9 (by decide) (fun c9 => ?_) (fun c9 => ?_)
  · refine lv_lconst (v := iL 0) hx hb d_Model_plan_19 (by decide) ?_
    exact W.lret (v := (iL 0)) hx hb hr (fun t9 ht hW => ⟨⟨_, (), rfl, rfl, by rw [ht]; exact hP, hD⟩, hS.F ht⟩) hS.2.2 d_Model_plan_20
  · refine lv_aload_n hx hb d_Model_plan_12 rfl (lv_at hl 0 rfl) ?_
    refine va_get (D := G) (ci := 10) (v := .int (nI ac)) (C := R_Model) (T := F_Model) (N := 47) hx hb hts in_Model hown hK hP 0 rfl rfl 3 (by decide) (hts _ fl_Model_128) (fun _ h9 => h9) rfl d_Model_plan_13 ?_
    refine n_if_ne (tgt := 21) hx hb (by omega) d_Model_plan_16 (by decide) (fun c16 => absurd c16 (by omega)) (fun c16 => ?_)
    refine lv_lconst (v := iL 0) hx hb d_Model_plan_19 (by decide) ?_
    exact W.lret (v := (iL 0)) hx hb hr (fun t9 ht hW => ⟨⟨_, (), rfl, rfl, by rw [ht]; exact hP, hD⟩, hS.F ht⟩) hS.2.2 d_Model_plan_20
