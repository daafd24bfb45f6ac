theorem fl_Leftover_20 : Cond.fieldLink R_Leftover 20 "FaultRips$Leftover" "wide" "I" ∈ TB := mem_TB 212 (by decide +kernel) (by decide +kernel)
theorem fl_Leftover_24 : Cond.fieldLink R_Leftover 24 "FaultRips$Leftover" "along" "I" ∈ TB := mem_TB 213 (by decide +kernel) (by decide +kernel)
theorem fl_Leftover_29 : Cond.fieldLink R_Leftover 29 "FaultRips$Leftover" "covered" "[Z" ∈ TB := mem_TB 214 (by decide +kernel) (by decide +kernel)
theorem fl_Leftover_35 : Cond.fieldLink R_Leftover 35 "FaultRips$Leftover" "facts" "[[I" ∈ TB := mem_TB 208 (by decide +kernel) (by decide +kernel)
theorem fl_Leftover_38 : Cond.fieldLink R_Leftover 38 "FaultRips$Plan" "size" "I" ∈ TB := mem_TB 183 (by decide +kernel) (by decide +kernel)
theorem fl_Leftover_49 : Cond.fieldLink R_Leftover 49 "FaultRips$Plan" "facts" "[[I" ∈ TB := mem_TB 176 (by decide +kernel) (by decide +kernel)
theorem fl_Leftover_9 : Cond.fieldLink R_Leftover 9 "FaultRips$Leftover" "size" "I" ∈ TB := mem_TB 210 (by decide +kernel) (by decide +kernel)
theorem lk_Leftover_41 : Cond.methodLink R_Leftover 41 y_Leftover_cover ∈ TB := mem_TB 796 (by decide +kernel) (by decide +kernel)
theorem lk_Leftover_45 : Cond.methodLink R_Leftover 45 y_Leftover_gatherRow ∈ TB := mem_TB 801 (by decide +kernel) (by decide +kernel)
theorem lk_Leftover_56 : Cond.methodLink R_Leftover 56 y_Leftover_addRow ∈ TB := mem_TB 805 (by decide +kernel) (by decide +kernel)
theorem lm_Leftover_50 : Cond.methodLink R_Leftover 50 Lib.Math.min.name ∈ TB := mem_TB 800 (by decide +kernel) (by decide +kernel)

theorem nbR_half (c : Nat → Nat → Bool) (y : Nat) : ∀ x : Nat, 2 * nbR c y x ≤ x + 1 ∧ (x = 0 ∨ c (x - 1) y = true → 2 * nbR c y x ≤ x) := by
  intro x
  induction x with
  | zero => exact ⟨by show 2 * 0 ≤ 1; omega, fun _ => Nat.le_refl _⟩
  | succ x ih =>
    rw [nbR_s, Nat.add_sub_cancel]
    by_cases q : bgC c x y = true
    · have h1 : x = 0 ∨ c (x - 1) y = true := by
        unfold bgC at q
        rw [Bool.and_eq_true, Bool.or_eq_true, decide_eq_true_eq] at q
        exact q.2
      have h2 : c x y = false := by
        unfold bgC at q
        rw [Bool.and_eq_true] at q
        simpa using q.1
      have h3 := ih.2 h1
      rw [q]
      have e1 : true.toNat = 1 := rfl
      refine ⟨by omega, fun z => ?_⟩
      rcases z with z | z
      · omega
      · rw [h2] at z; cases z
    · have q' : bgC c x y = false := by simpa using q
      rw [q']
      have e0 : false.toNat = 0 := rfl
      have h3 := ih.1
      exact ⟨by omega, fun _ => by omega⟩
theorem nbA_half (c : Nat → Nat → Bool) (al : Nat) : ∀ y : Nat, nbA c al y ≤ y * ((al + 1) / 2) := by
  intro y
  induction y with
  | zero => exact Nat.zero_le _
  | succ y ih =>
    rw [nbA_s, Nat.succ_mul]
    have := (nbR_half c y al).1
    omega
/-- a row of what is left, from b on: nothing else begins in it -/
theorem nbR_run {c : Nat → Nat → Bool} {y b : Nat} (hb : bgC c b y = true) : ∀ n : Nat, (∀ i, b ≤ i → i < b + 1 + n → c i y = false) → nbR c y (b + 1 + n) = nbR c y b + 1 := by
  intro n
  induction n with
  | zero => intro _; rw [Nat.add_zero, nbR_s, hb]; rfl
  | succ n ih =>
    intro h
    rw [show b + 1 + (n + 1) = (b + 1 + n) + 1 by omega, nbR_s, ih (fun i h1 h2 => h i h1 (by omega))]
    have : bgC c (b + 1 + n) y = false := by
      unfold bgC
      rw [h (b + 1 + n - 1) (by omega) (by omega), decide_eq_false (by omega)]
      simp
    rw [this]; rfl
theorem bgC_of {c : Nat → Nat → Bool} {b y : Nat} (h1 : c b y = false) (h2 : b = 0 ∨ c (b - 1) y = true) : bgC c b y = true := by
  unfold bgC
  rw [h1]
  rcases h2 with z | z
  · rw [decide_eq_true z]; rfl
  · rw [z]; simp
theorem bgC_no {c : Nat → Nat → Bool} {b y : Nat} (h1 : c b y = true) : bgC c b y = false := by
  unfold bgC
  rw [h1]
  rfl

abbrev q_Leftover_addRow (G : va_G) (ty : Nat → ClassId) (hV : Nat) (aU : Nat) (aK : Nat) (sv : Nat) (wd : Nat) (al : Nat) (nV : Nat) (nK_ : Nat) (fU : Nat → Option Nat) (aI : Nat → Nat) (w0 : Nat → Nat) (w1 : Nat → Nat) (w2 : Nat → Nat) (x : Nat) (y : Nat) (n : Nat) (A : Nat → Prop) : Array Value → State → Outcome → State → Prop := va_Qv (fun (uu : Nat × (Nat → Nat) × (Nat → Nat) × (Nat → Nat)) => (n = 0 → uu.1 = sv ∧ uu.2.1 = w0 ∧ uu.2.2.1 = w1 ∧ uu.2.2.2 = w2) ∧ (1 ≤ n → uu.1 = sv + 1 ∧ uu.2.1 = va_up w0 sv x ∧ uu.2.2.1 = va_up w1 sv y ∧ uu.2.2.2 = va_up w2 sv n)) (at_W G (fun (uu : Nat × (Nat → Nat) × (Nat → Nat) × (Nat → Nat)) => [(hV, .inr (4, [.ref aU, .int (nI uu.1), .int (nI wd), .int (nI al), .ref aK])), (aU, .inl (ty 5, 3, .inr (.inr (.inr (.inr fU))))), (aI 0, .inl (ty 0, nV, .inl (nF uu.2.1))), (aI 1, .inl (ty 0, nV, .inl (nF uu.2.2.1))), (aI 2, .inl (ty 0, nV, .inl (nF uu.2.2.2)))]) A) A
set_option maxRecDepth 100000 in
set_option maxHeartbeats 4000000 in
theorem c_Leftover_addRow (l : Launch) (G : va_G) (ty : Nat → ClassId) (sz : Nat) (hV : Nat) (aU : Nat) (aK : Nat) (sv : Nat) (wd : Nat) (al : Nat) (nV : Nat) (nK_ : Nat) (fU : Nat → Option Nat) (aI : Nat → Nat) (w0 : Nat → Nat) (w1 : Nat → Nat) (w2 : Nat → Nat) (x : Nat) (y : Nat) (n : Nat) (gu : ∀ i, i < 3 → fU i = some (aI i)) (gwd : wd ≤ 10) (gal : al ≤ 24) (gnV : nV = wd * ((al + 1) / 2)) (gnK : nK_ = wd * al) (g1 : n ≤ 24) (gs : 1 ≤ n → sv < nV) (gsv : sv ≤ 1000) : Met l y_Leftover_addRow ws_Leftover_addRow { frames := 0, cells := 0, slots := 0, locals := 0 } (va_Pc [.ref hV, .int (nI x), .int (nI y), .int (nI n)] (fun U => U.heap.size = sz ∧ va_P G vwCl [(hV, .inr (4, [.ref aU, .int (nI sv), .int (nI wd), .int (nI al), .ref aK])), (aU, .inl (ty 5, 3, .inr (.inr (.inr (.inr fU))))), (aI 0, .inl (ty 0, nV, .inl (nF w0))), (aI 1, .inl (ty 0, nV, .inl (nF w1))), (aI 2, .inl (ty 0, nV, .inl (nF w2)))] U.heap ∧ KX G ty U ∧ va_D (fun _ => True) [(hV, .inr (4, [.ref aU, .int (nI sv), .int (nI wd), .int (nI al), .ref aK])), (aU, .inl (ty 5, 3, .inr (.inr (.inr (.inr fU))))), (aI 0, .inl (ty 0, nV, .inl (nF w0))), (aI 1, .inl (ty 0, nV, .inl (nF w1))), (aI 2, .inl (ty 0, nV, .inl (nF w2)))])) (q_Leftover_addRow G ty hV aU aK sv wd al nV nK_ fU aI w0 w1 w2 x y n (va_A [(hV, .inr (4, [.ref aU, .int (nI sv), .int (nI wd), .int (nI al), .ref aK])), (aU, .inl (ty 5, 3, .inr (.inr (.inr (.inr fU))))), (aI 0, .inl (ty 0, nV, .inl (nF w0))), (aI 1, .inl (ty 0, nV, .inl (nF w1))), (aI 2, .inl (ty 0, nV, .inl (nF w2)))] sz)) 0 0 (va_A [(hV, .inr (4, [.ref aU, .int (nI sv), .int (nI wd), .int (nI al), .ref aK])), (aU, .inl (ty 5, 3, .inr (.inr (.inr (.inr fU))))), (aI 0, .inl (ty 0, nV, .inl (nF w0))), (aI 1, .inl (ty 0, nV, .inl (nF w1))), (aI 2, .inl (ty 0, nV, .inl (nF w2)))] sz) := by
  refine met_wr (y := y_Leftover_addRow) (maxL := 4) (sz := sz) (G := G) (ty := ty) (mc := 0) (ms := 0) (av := [.ref hV, .int (nI x), .int (nI y), .int (nI n)]) (W0 := [(hV, .inr (4, [.ref aU, .int (nI sv), .int (nI wd), .int (nI al), .ref aK])), (aU, .inl (ty 5, 3, .inr (.inr (.inr (.inr fU))))), (aI 0, .inl (ty 0, nV, .inl (nF w0))), (aI 1, .inl (ty 0, nV, .inl (nF w1))), (aI 2, .inl (ty 0, nV, .inl (nF w2)))]) (fun A => q_Leftover_addRow G ty hV aU aK sv wd al nV nK_ fU aI w0 w1 w2 x y n A) R_Leftover (by decide) rfl rfl (Nat.le_of_ble_eq_true rfl) ?_
  intro p e s m below meth c ls A hx hb hr hml hown hts hlocks hin hA hP hX hD hS hl
  have hK := hX.1
  have hl : lv_has ls 4 [(0, .ref hV), (1, .int (nI x)), (2, .int (nI y)), (3, .int (nI n))] := hl
  have hnV : nV ≤ 1000 := by rw [gnV]; exact Nat.le_trans (Nat.mul_le_mul gwd (show (al + 1) / 2 ≤ 12 by omega)) (by decide)
  refine lv_iload_n hx hb d_Leftover_addRow_0 rfl (lv_at hl 3 rfl) ?_
  refine n_if_le (tgt := 64) hx hb (by omega) d_Leftover_addRow_1 (by decide) (fun c1 => ?_) (fun c1 => ?_)
  · exact W.vret hx hb hr (fun t9 ht hW => ⟨⟨(sv, w0, w1, w2), rfl, ⟨fun _ => ⟨rfl, rfl, rfl, rfl⟩, fun h => absurd h (by omega)⟩, by rw [ht]; exact hP, hD⟩, hS.F ht⟩) hS.2.2 d_Leftover_addRow_64
  · refine lv_aload_n hx hb d_Leftover_addRow_4 rfl (lv_at hl 0 rfl) ?_
    refine va_get (D := G) (ci := 4) (v := .int (nI sv)) (C := R_Leftover) (T := F_Leftover) (N := 5) hx hb hts in_Leftover hown hK hP 0 rfl rfl 1 (by decide) (hts _ fl_Leftover_9) (fun _ h9 => h9) rfl d_Leftover_addRow_5 ?_
    refine lv_aload_n hx hb d_Leftover_addRow_8 rfl (lv_at hl 0 rfl) ?_
    refine va_get (D := G) (ci := 4) (v := .ref aU) (C := R_Leftover) (T := F_Leftover) (N := 5) hx hb hts in_Leftover hown hK hP 0 rfl rfl 0 (by decide) (hts _ fl_Leftover_35) (fun _ h9 => h9) rfl d_Leftover_addRow_9 ?_
    refine lv_iconst (v := (nI 0)) hx hb d_Leftover_addRow_12 (by decide) ?_
    refine n_aaldA hx hb hK hP 1 5 rfl rfl (by omega) (by omega) (gu 0 (by omega)) d_Leftover_addRow_13 ?_
    refine n_alen hx hb hK hP 2 0 rfl rfl d_Leftover_addRow_14 ?_
    refine n_icmp_ge (tgt := 64) hx hb (by omega) (by omega) d_Leftover_addRow_15 (by decide) (fun c15 => absurd c15 (by have := gs (by omega); omega)) (fun c15 => ?_)
    refine lv_aload_n hx hb d_Leftover_addRow_18 rfl (lv_at hl 0 rfl) ?_
    refine va_get (D := G) (ci := 4) (v := .ref aU) (C := R_Leftover) (T := F_Leftover) (N := 5) hx hb hts in_Leftover hown hK hP 0 rfl rfl 0 (by decide) (hts _ fl_Leftover_35) (fun _ h9 => h9) rfl d_Leftover_addRow_19 ?_
    refine lv_iconst (v := (nI 0)) hx hb d_Leftover_addRow_22 (by decide) ?_
    refine n_aaldA hx hb hK hP 1 5 rfl rfl (by omega) (by omega) (gu 0 (by omega)) d_Leftover_addRow_23 ?_
    refine lv_aload_n hx hb d_Leftover_addRow_24 rfl (lv_at hl 0 rfl) ?_
    refine va_get (D := G) (ci := 4) (v := .int (nI sv)) (C := R_Leftover) (T := F_Leftover) (N := 5) hx hb hts in_Leftover hown hK hP 0 rfl rfl 1 (by decide) (hts _ fl_Leftover_9) (fun _ h9 => h9) rfl d_Leftover_addRow_25 ?_
    refine lv_iload_n hx hb d_Leftover_addRow_28 rfl (lv_at hl 1 rfl) ?_
    refine n_iast hx hb hK hP hD hS 2 0 rfl rfl (by omega) (by omega) d_Leftover_addRow_29 (fun H locs hP hD hS => ?_)
    rw [upd_nF] at hP hD
    have hP : va_P G vwCl [(hV, .inr (4, [.ref aU, .int (nI sv), .int (nI wd), .int (nI al), .ref aK])), (aU, .inl (ty 5, 3, .inr (.inr (.inr (.inr fU))))), (aI 0, .inl (ty 0, nV, .inl (nF (va_up w0 sv x)))), (aI 1, .inl (ty 0, nV, .inl (nF w1))), (aI 2, .inl (ty 0, nV, .inl (nF w2)))] _ := hP
    have hD : va_D A [(hV, .inr (4, [.ref aU, .int (nI sv), .int (nI wd), .int (nI al), .ref aK])), (aU, .inl (ty 5, 3, .inr (.inr (.inr (.inr fU))))), (aI 0, .inl (ty 0, nV, .inl (nF (va_up w0 sv x)))), (aI 1, .inl (ty 0, nV, .inl (nF w1))), (aI 2, .inl (ty 0, nV, .inl (nF w2)))] := hD
    refine lv_aload_n hx hb d_Leftover_addRow_30 rfl (lv_at hl 0 rfl) ?_
    refine va_get (D := G) (ci := 4) (v := .ref aU) (C := R_Leftover) (T := F_Leftover) (N := 5) hx hb hts in_Leftover hown hK hP 0 rfl rfl 0 (by decide) (hts _ fl_Leftover_35) (fun _ h9 => h9) rfl d_Leftover_addRow_31 ?_
    refine lv_iconst (v := (nI 1)) hx hb d_Leftover_addRow_34 (by decide) ?_
    refine n_aaldA hx hb hK hP 1 5 rfl rfl (by omega) (by omega) (gu 1 (by omega)) d_Leftover_addRow_35 ?_
    refine lv_aload_n hx hb d_Leftover_addRow_36 rfl (lv_at hl 0 rfl) ?_
    refine va_get (D := G) (ci := 4) (v := .int (nI sv)) (C := R_Leftover) (T := F_Leftover) (N := 5) hx hb hts in_Leftover hown hK hP 0 rfl rfl 1 (by decide) (hts _ fl_Leftover_9) (fun _ h9 => h9) rfl d_Leftover_addRow_37 ?_
    refine lv_iload_n hx hb d_Leftover_addRow_40 rfl (lv_at hl 2 rfl) ?_
    refine n_iast hx hb hK hP hD hS 3 0 rfl rfl (by omega) (by omega) d_Leftover_addRow_41 (fun H locs hP hD hS => ?_)
    rw [upd_nF] at hP hD
    have hP : va_P G vwCl [(hV, .inr (4, [.ref aU, .int (nI sv), .int (nI wd), .int (nI al), .ref aK])), (aU, .inl (ty 5, 3, .inr (.inr (.inr (.inr fU))))), (aI 0, .inl (ty 0, nV, .inl (nF (va_up w0 sv x)))), (aI 1, .inl (ty 0, nV, .inl (nF (va_up w1 sv y)))), (aI 2, .inl (ty 0, nV, .inl (nF w2)))] _ := hP
    have hD : va_D A [(hV, .inr (4, [.ref aU, .int (nI sv), .int (nI wd), .int (nI al), .ref aK])), (aU, .inl (ty 5, 3, .inr (.inr (.inr (.inr fU))))), (aI 0, .inl (ty 0, nV, .inl (nF (va_up w0 sv x)))), (aI 1, .inl (ty 0, nV, .inl (nF (va_up w1 sv y)))), (aI 2, .inl (ty 0, nV, .inl (nF w2)))] := hD
    refine lv_aload_n hx hb d_Leftover_addRow_42 rfl (lv_at hl 0 rfl) ?_
    refine va_get (D := G) (ci := 4) (v := .ref aU) (C := R_Leftover) (T := F_Leftover) (N := 5) hx hb hts in_Leftover hown hK hP 0 rfl rfl 0 (by decide) (hts _ fl_Leftover_35) (fun _ h9 => h9) rfl d_Leftover_addRow_43 ?_
    refine lv_iconst (v := (nI 2)) hx hb d_Leftover_addRow_46 (by decide) ?_
    refine n_aaldA hx hb hK hP 1 5 rfl rfl (by omega) (by omega) (gu 2 (by omega)) d_Leftover_addRow_47 ?_
    refine lv_aload_n hx hb d_Leftover_addRow_48 rfl (lv_at hl 0 rfl) ?_
    refine va_get (D := G) (ci := 4) (v := .int (nI sv)) (C := R_Leftover) (T := F_Leftover) (N := 5) hx hb hts in_Leftover hown hK hP 0 rfl rfl 1 (by decide) (hts _ fl_Leftover_9) (fun _ h9 => h9) rfl d_Leftover_addRow_49 ?_
    refine lv_iload_n hx hb d_Leftover_addRow_52 rfl (lv_at hl 3 rfl) ?_
    refine n_iast hx hb hK hP hD hS 4 0 rfl rfl (by omega) (by omega) d_Leftover_addRow_53 (fun H locs hP hD hS => ?_)
    rw [upd_nF] at hP hD
    have hP : va_P G vwCl [(hV, .inr (4, [.ref aU, .int (nI sv), .int (nI wd), .int (nI al), .ref aK])), (aU, .inl (ty 5, 3, .inr (.inr (.inr (.inr fU))))), (aI 0, .inl (ty 0, nV, .inl (nF (va_up w0 sv x)))), (aI 1, .inl (ty 0, nV, .inl (nF (va_up w1 sv y)))), (aI 2, .inl (ty 0, nV, .inl (nF (va_up w2 sv n))))] _ := hP
    have hD : va_D A [(hV, .inr (4, [.ref aU, .int (nI sv), .int (nI wd), .int (nI al), .ref aK])), (aU, .inl (ty 5, 3, .inr (.inr (.inr (.inr fU))))), (aI 0, .inl (ty 0, nV, .inl (nF (va_up w0 sv x)))), (aI 1, .inl (ty 0, nV, .inl (nF (va_up w1 sv y)))), (aI 2, .inl (ty 0, nV, .inl (nF (va_up w2 sv n))))] := hD
    refine lv_aload_n hx hb d_Leftover_addRow_54 rfl (lv_at hl 0 rfl) ?_
    refine lv_dup hx hb d_Leftover_addRow_55 rfl ?_
    refine va_get (D := G) (ci := 4) (v := .int (nI sv)) (C := R_Leftover) (T := F_Leftover) (N := 5) hx hb hts in_Leftover hown hK hP 0 rfl rfl 1 (by decide) (hts _ fl_Leftover_9) (fun _ h9 => h9) rfl d_Leftover_addRow_56 ?_
    refine lv_iconst (v := (nI 1)) hx hb d_Leftover_addRow_59 (by decide) ?_
    refine n_iadd hx hb d_Leftover_addRow_60 ?_
    refine va_put (D := G) (ci := 4) (v := .int (nI (sv + 1))) (ty := .int) (C := R_Leftover) (T := F_Leftover) (N := 5) hx hb hts in_Leftover t_Leftover t_Leftover_ok n_Leftover hown hK hP hD hS 0 rfl rfl 1 (by decide) (hts _ fl_Leftover_9) (fun _ h9 => h9) rfl (by decide +kernel) rfl rfl (Nat.le_of_ble_eq_true rfl) d_Leftover_addRow_61 (fun H locs hP hD hS => ?_)
    have hP : va_P G vwCl [(hV, .inr (4, [.ref aU, .int (nI (sv + 1)), .int (nI wd), .int (nI al), .ref aK])), (aU, .inl (ty 5, 3, .inr (.inr (.inr (.inr fU))))), (aI 0, .inl (ty 0, nV, .inl (nF (va_up w0 sv x)))), (aI 1, .inl (ty 0, nV, .inl (nF (va_up w1 sv y)))), (aI 2, .inl (ty 0, nV, .inl (nF (va_up w2 sv n))))] _ := hP
    have hD : va_D A [(hV, .inr (4, [.ref aU, .int (nI (sv + 1)), .int (nI wd), .int (nI al), .ref aK])), (aU, .inl (ty 5, 3, .inr (.inr (.inr (.inr fU))))), (aI 0, .inl (ty 0, nV, .inl (nF (va_up w0 sv x)))), (aI 1, .inl (ty 0, nV, .inl (nF (va_up w1 sv y)))), (aI 2, .inl (ty 0, nV, .inl (nF (va_up w2 sv n))))] := hD
    exact W.vret hx hb hr (fun t9 ht hW => ⟨⟨(sv + 1, (va_up w0 sv x), (va_up w1 sv y), (va_up w2 sv n)), rfl, ⟨fun h => absurd h (by omega), fun _ => ⟨rfl, rfl, rfl, rfl⟩⟩, by rw [ht]; exact hP, hD⟩, hS.F ht⟩) hS.2.2 d_Leftover_addRow_64

abbrev q_Leftover_gatherRow (G : va_G) (ty : Nat → ClassId) (hV : Nat) (aU : Nat) (aK : Nat) (sv : Nat) (wd : Nat) (al : Nat) (nV : Nat) (nK_ : Nat) (fU : Nat → Option Nat) (aI : Nat → Nat) (w0 : Nat → Nat) (w1 : Nat → Nat) (w2 : Nat → Nat) (kv : Nat → Bool) (y : Nat) (CC : Nat → Nat → Bool) (A : Nat → Prop) : Array Value → State → Outcome → State → Prop := va_Qv (fun (uu : Nat × (Nat → Nat) × (Nat → Nat) × (Nat → Nat)) => uu.1 = nbA CC al (y + 1) ∧ (∀ k fx fy e, fdC CC al wd k fx fy → edC CC al fy fx e → k < uu.1 → uu.2.1 k = fx ∧ uu.2.2.1 k = fy ∧ uu.2.2.2 k = e - fx)) (at_W G (fun (uu : Nat × (Nat → Nat) × (Nat → Nat) × (Nat → Nat)) => [(hV, .inr (4, [.ref aU, .int (nI uu.1), .int (nI wd), .int (nI al), .ref aK])), (aU, .inl (ty 5, 3, .inr (.inr (.inr (.inr fU))))), (aI 0, .inl (ty 0, nV, .inl (nF uu.2.1))), (aI 1, .inl (ty 0, nV, .inl (nF uu.2.2.1))), (aI 2, .inl (ty 0, nV, .inl (nF uu.2.2.2))), (aK, .inl (ty 2, nK_, .inl (bF kv)))]) A) A
set_option maxRecDepth 100000 in
set_option maxHeartbeats 4000000 in
theorem c_Leftover_gatherRow (l : Launch) (G : va_G) (ty : Nat → ClassId) (sz : Nat) (hV : Nat) (aU : Nat) (aK : Nat) (sv : Nat) (wd : Nat) (al : Nat) (nV : Nat) (nK_ : Nat) (fU : Nat → Option Nat) (aI : Nat → Nat) (w0 : Nat → Nat) (w1 : Nat → Nat) (w2 : Nat → Nat) (kv : Nat → Bool) (y : Nat) (CC : Nat → Nat → Bool) (gu : ∀ i, i < 3 → fU i = some (aI i)) (gwd : wd ≤ 10) (gal : al ≤ 24) (gnV : nV = wd * ((al + 1) / 2)) (gnK : nK_ = wd * al) (gy : y < wd) (gK : ∀ i, i < al → kv (y * al + i) = CC i y) (gs0 : sv = nbA CC al y) (gF : ∀ k fx fy e, fdC CC al wd k fx fy → edC CC al fy fx e → k < sv → w0 k = fx ∧ w1 k = fy ∧ w2 k = e - fx) : Met l y_Leftover_gatherRow ws_Leftover_gatherRow { frames := 1, cells := 0, slots := 0, locals := 23 } (va_Pc [.ref hV, .int (nI y)] (fun U => U.heap.size = sz ∧ va_P G vwCl [(hV, .inr (4, [.ref aU, .int (nI sv), .int (nI wd), .int (nI al), .ref aK])), (aU, .inl (ty 5, 3, .inr (.inr (.inr (.inr fU))))), (aI 0, .inl (ty 0, nV, .inl (nF w0))), (aI 1, .inl (ty 0, nV, .inl (nF w1))), (aI 2, .inl (ty 0, nV, .inl (nF w2))), (aK, .inl (ty 2, nK_, .inl (bF kv)))] U.heap ∧ KX G ty U ∧ va_D (fun _ => True) [(hV, .inr (4, [.ref aU, .int (nI sv), .int (nI wd), .int (nI al), .ref aK])), (aU, .inl (ty 5, 3, .inr (.inr (.inr (.inr fU))))), (aI 0, .inl (ty 0, nV, .inl (nF w0))), (aI 1, .inl (ty 0, nV, .inl (nF w1))), (aI 2, .inl (ty 0, nV, .inl (nF w2))), (aK, .inl (ty 2, nK_, .inl (bF kv)))])) (q_Leftover_gatherRow G ty hV aU aK sv wd al nV nK_ fU aI w0 w1 w2 kv y CC (va_A [(hV, .inr (4, [.ref aU, .int (nI sv), .int (nI wd), .int (nI al), .ref aK])), (aU, .inl (ty 5, 3, .inr (.inr (.inr (.inr fU))))), (aI 0, .inl (ty 0, nV, .inl (nF w0))), (aI 1, .inl (ty 0, nV, .inl (nF w1))), (aI 2, .inl (ty 0, nV, .inl (nF w2))), (aK, .inl (ty 2, nK_, .inl (bF kv)))] sz)) 0 0 (va_A [(hV, .inr (4, [.ref aU, .int (nI sv), .int (nI wd), .int (nI al), .ref aK])), (aU, .inl (ty 5, 3, .inr (.inr (.inr (.inr fU))))), (aI 0, .inl (ty 0, nV, .inl (nF w0))), (aI 1, .inl (ty 0, nV, .inl (nF w1))), (aI 2, .inl (ty 0, nV, .inl (nF w2))), (aK, .inl (ty 2, nK_, .inl (bF kv)))] sz) := by
  refine met_wr (y := y_Leftover_gatherRow) (maxL := 4) (sz := sz) (G := G) (ty := ty) (mc := 0) (ms := 0) (av := [.ref hV, .int (nI y)]) (W0 := [(hV, .inr (4, [.ref aU, .int (nI sv), .int (nI wd), .int (nI al), .ref aK])), (aU, .inl (ty 5, 3, .inr (.inr (.inr (.inr fU))))), (aI 0, .inl (ty 0, nV, .inl (nF w0))), (aI 1, .inl (ty 0, nV, .inl (nF w1))), (aI 2, .inl (ty 0, nV, .inl (nF w2))), (aK, .inl (ty 2, nK_, .inl (bF kv)))]) (fun A => q_Leftover_gatherRow G ty hV aU aK sv wd al nV nK_ fU aI w0 w1 w2 kv y CC A) R_Leftover (by decide) rfl rfl (Nat.le_of_ble_eq_true rfl) ?_
  intro p e s m below meth c ls A hx hb hr hml hown hts hlocks hin hA hP hX hD hS hl
  have hK := hX.1
  have hl : lv_has ls 4 [(0, .ref hV), (1, .int (nI y))] := hl
  have hh0 := nbA_half CC al y
  have hyl : y * ((al + 1) / 2) + (al + 1) / 2 ≤ nV := by rw [gnV, ← Nat.succ_mul]; exact Nat.mul_le_mul_right _ gy
  have hnV : nV ≤ 1000 := by rw [gnV]; exact Nat.le_trans (Nat.mul_le_mul gwd (show (al + 1) / 2 ≤ 12 by omega)) (by decide)
  have hya : y * al + al ≤ nK_ := by rw [gnK, ← Nat.succ_mul]; exact Nat.mul_le_mul_right _ gy
  have hnK : nK_ ≤ 240 := by rw [gnK]; exact Nat.mul_le_mul gwd gal
  refine lv_iconst (v := (nI 0)) hx hb d_Leftover_gatherRow_0 (by decide) ?_
  refine lv_istore_n (lv' := [(2, .int (nI 0)), (0, .ref hV), (1, .int (nI y))]) hx hb d_Leftover_gatherRow_1 rfl hl (by decide) rfl (fun ls hl => ?_)
  refine lv_iconst (v := (nI 0)) hx hb d_Leftover_gatherRow_2 (by decide) ?_
  refine lv_istore_n (lv' := [(3, .int (nI 0)), (2, .int (nI 0)), (0, .ref hV), (1, .int (nI y))]) hx hb d_Leftover_gatherRow_3 rfl hl (by decide) rfl (fun ls hl => ?_)
  have L4 : ∀ (k9 : Nat) (x : Nat) (b : Nat) (sv2 : Nat) (u0 : Nat → Nat) (u1 : Nat → Nat) (u2 : Nat → Nat) (H : Heap) (locs : List Loc) (ls : Array Slot), (x ≤ al + 1) → (b ≤ x) → (x ≤ al ∨ b = al + 1) → (∀ i, b ≤ i → i < x → CC i y = false) → (b = 0 ∨ (b ≤ al → CC (b - 1) y = true)) → (sv2 = nbA CC al y + nbR CC y (min b al)) → (∀ k fx fy e, fdC CC al wd k fx fy → edC CC al fy fx e → k < sv2 → u0 k = fx ∧ u1 k = fy ∧ u2 k = e - fx) → al + 1 - x < k9 → va_P G vwCl [(hV, .inr (4, [.ref aU, .int (nI sv2), .int (nI wd), .int (nI al), .ref aK])), (aU, .inl (ty 5, 3, .inr (.inr (.inr (.inr fU))))), (aI 0, .inl (ty 0, nV, .inl (nF u0))), (aI 1, .inl (ty 0, nV, .inl (nF u1))), (aI 2, .inl (ty 0, nV, .inl (nF u2))), (aK, .inl (ty 2, nK_, .inl (bF kv)))] H → va_D A [(hV, .inr (4, [.ref aU, .int (nI sv2), .int (nI wd), .int (nI al), .ref aK])), (aU, .inl (ty 5, 3, .inr (.inr (.inr (.inr fU))))), (aI 0, .inl (ty 0, nV, .inl (nF u0))), (aI 1, .inl (ty 0, nV, .inl (nF u1))), (aI 2, .inl (ty 0, nV, .inl (nF u2))), (aK, .inl (ty 2, nK_, .inl (bF kv)))] → va_S A s.heap H locs → lv_has ls 4 [(0, .ref hV), (1, .int (nI y)), (2, .int (nI b)), (3, .int (nI x))] → W p l e { frames := 1, cells := 0, slots := 0, locals := 23 } s m [.ref hV, .int (nI y)].toArray below meth c H locs 0 0 (MQ below (q_Leftover_gatherRow G ty hV aU aK sv wd al nV nK_ fU aI w0 w1 w2 kv y CC A) [.ref hV, .int (nI y)].toArray s 0 0 A) (F0 m 4 ls []) := by
    intro k9
    induction k9 with
    | zero => intro x b sv2 u0 u1 u2 H locs ls hxa hbx hb2 hun hbc hsv hF2 hk9; exact absurd hk9 (Nat.not_lt_zero _)
    | succ k9 ih4 =>
      intro x b sv2 u0 u1 u2 H locs ls hxa hbx hb2 hun hbc hsv hF2 hk9 hP hD hS hl
      refine lv_iload_n hx hb d_Leftover_gatherRow_4 rfl (lv_at hl 3 rfl) ?_
      refine lv_aload_n hx hb d_Leftover_gatherRow_5 rfl (lv_at hl 0 rfl) ?_
      refine va_get (D := G) (ci := 4) (v := .int (nI al)) (C := R_Leftover) (T := F_Leftover) (N := 5) hx hb hts in_Leftover hown hK hP 0 rfl rfl 3 (by decide) (hts _ fl_Leftover_24) (fun _ h9 => h9) rfl d_Leftover_gatherRow_6 ?_
      refine n_icmp_gt (tgt := 55) hx hb (by omega) (by omega) d_Leftover_gatherRow_9 (by decide) (fun c9 => ?_) (fun c9 => ?_)
      · exact W.vret hx hb hr (fun t9 ht hW => ⟨⟨(sv2, u0, u1, u2), rfl, ⟨by rw [hsv, show min b al = al by omega, nbA_s], hF2⟩, by rw [ht]; exact hP, hD⟩, hS.F ht⟩) hS.2.2 d_Leftover_gatherRow_55
      · have hh1 := nbR_half CC y b
        refine lv_iload_n hx hb d_Leftover_gatherRow_12 rfl (lv_at hl 3 rfl) ?_
        refine lv_aload_n hx hb d_Leftover_gatherRow_13 rfl (lv_at hl 0 rfl) ?_
        refine va_get (D := G) (ci := 4) (v := .int (nI al)) (C := R_Leftover) (T := F_Leftover) (N := 5) hx hb hts in_Leftover hown hK hP 0 rfl rfl 3 (by decide) (hts _ fl_Leftover_24) (fun _ h9 => h9) rfl d_Leftover_gatherRow_14 ?_
        refine n_icmp_eq (tgt := 36) hx hb (by omega) (by omega) d_Leftover_gatherRow_17 (by decide) (fun c17 => ?_) (fun c17 => ?_)
        · have hcov : x = al ∨ (x < al ∧ CC x y = true) := by first | exact Or.inl (by omega) | exact Or.inr ⟨by omega, tN_1 c33⟩
          have hbal : b ≤ al := by omega
          have hmb : min b al = b := by omega
          rw [hmb] at hsv
          have hbg : b < x → bgC CC b y = true := fun h9 => bgC_of (hun b (Nat.le_refl _) h9) (hbc.elim Or.inl (fun z => Or.inr (z hbal)))
          have hrun : b < x → nbR CC y x = nbR CC y b + 1 := fun h9 => by have h8 := nbR_run (hbg h9) (x - (b + 1)) (fun i h1 h2 => hun i h1 (by omega)); rw [show b + 1 + (x - (b + 1)) = x by omega] at h8; exact h8
          have hsvb : b < x → sv2 < nV := fun h9 => by have h8 := hrun h9; have h7 := (nbR_half CC y (b + 1)).1; have h6 := nbR_s CC y b; rw [hbg h9] at h6; have h5 : true.toNat = 1 := rfl; omega
          refine lv_aload_n hx hb d_Leftover_gatherRow_36 rfl (lv_at hl 0 rfl) ?_
          refine lv_iload_n hx hb d_Leftover_gatherRow_37 rfl (lv_at hl 2 rfl) ?_
          refine lv_iload_n hx hb d_Leftover_gatherRow_38 rfl (lv_at hl 1 rfl) ?_
          refine lv_iload_n hx hb d_Leftover_gatherRow_39 rfl (lv_at hl 3 rfl) ?_
          refine lv_iload_n hx hb d_Leftover_gatherRow_40 rfl (lv_at hl 2 rfl) ?_
          refine n_isub hx hb (by omega) d_Leftover_gatherRow_41 ?_
          refine call_wr_v (Wc := [(hV, .inr (4, [.ref aU, .int (nI sv2), .int (nI wd), .int (nI al), .ref aK])), (aU, .inl (ty 5, 3, .inr (.inr (.inr (.inr fU))))), (aI 0, .inl (ty 0, nV, .inl (nF u0))), (aI 1, .inl (ty 0, nV, .inl (nF u1))), (aI 2, .inl (ty 0, nV, .inl (nF u2)))]) (Wr := [(aK, .inl (ty 2, nK_, .inl (bF kv)))]) (va_runV (As := [.int (nI b), .int (nI y), .int (nI (x - b))]) (rest := []) ⟨hx, hb, hml, hown, hts⟩ (c_Leftover_addRow l G ty _ hV aU aK sv2 wd al nV nK_ fU aI u0 u1 u2 b y (x - b) gu (by omega) (by omega) gnV gnK (by omega) (fun h9 => hsvb (by omega)) (by have h8 := (nbR_half CC y b).1; omega)) ⟨callB_of 3 hts (gd_TB cd_Leftover_addRow) rfl rfl rfl (hts _ ini_Leftover) (hts _ lk_Leftover_56) hd_Leftover_addRow ⟨Nat.le_of_ble_eq_true rfl, Nat.le_of_ble_eq_true rfl⟩, hts _ im_Leftover_addRow, hts _ sl_Leftover_addRow⟩ (preV_wr (hP.sub (ws' := [(hV, .inr (4, [.ref aU, .int (nI sv2), .int (nI wd), .int (nI al), .ref aK])), (aU, .inl (ty 5, 3, .inr (.inr (.inr (.inr fU))))), (aI 0, .inl (ty 0, nV, .inl (nF u0))), (aI 1, .inl (ty 0, nV, .inl (nF u1))), (aI 2, .inl (ty 0, nV, .inl (nF u2)))]) [0, 1, 2, 3, 4] rfl) hX (hD.sub (ws' := [(hV, .inr (4, [.ref aU, .int (nI sv2), .int (nI wd), .int (nI al), .ref aK])), (aU, .inl (ty 5, 3, .inr (.inr (.inr (.inr fU))))), (aI 0, .inl (ty 0, nV, .inl (nF u0))), (aI 1, .inl (ty 0, nV, .inl (nF u1))), (aI 2, .inl (ty 0, nV, .inl (nF u2)))]) [0, 1, 2, 3, 4] (by decide) rfl) 0 rfl rfl) rfl rfl hl.1 rfl (lv_room (Nat.le_of_ble_eq_true rfl)) d_Leftover_gatherRow_42 ⟨Nat.le_of_ble_eq_true rfl, Nat.le_of_ble_eq_true rfl⟩) hP hD hS hA [0, 1, 2, 3, 4] [5] rfl rfl (by decide) (by decide) (fun u9 H locs hw5 hP hD hS => ?_)
          obtain ⟨sv4, t0, t1, t2⟩ := u9
          have hw5 : ((x - b) = 0 → sv4 = sv2 ∧ t0 = u0 ∧ t1 = u1 ∧ t2 = u2) ∧ (1 ≤ (x - b) → sv4 = sv2 + 1 ∧ t0 = va_up u0 sv2 b ∧ t1 = va_up u1 sv2 y ∧ t2 = va_up u2 sv2 (x - b)) := hw5
          have hP : va_P G vwCl [(aK, .inl (ty 2, nK_, .inl (bF kv))), (hV, .inr (4, [.ref aU, .int (nI sv4), .int (nI wd), .int (nI al), .ref aK])), (aU, .inl (ty 5, 3, .inr (.inr (.inr (.inr fU))))), (aI 0, .inl (ty 0, nV, .inl (nF t0))), (aI 1, .inl (ty 0, nV, .inl (nF t1))), (aI 2, .inl (ty 0, nV, .inl (nF t2)))] _ := hP
          have hD : va_D A [(aK, .inl (ty 2, nK_, .inl (bF kv))), (hV, .inr (4, [.ref aU, .int (nI sv4), .int (nI wd), .int (nI al), .ref aK])), (aU, .inl (ty 5, 3, .inr (.inr (.inr (.inr fU))))), (aI 0, .inl (ty 0, nV, .inl (nF t0))), (aI 1, .inl (ty 0, nV, .inl (nF t1))), (aI 2, .inl (ty 0, nV, .inl (nF t2)))] := hD
          obtain ⟨ha0, ha1⟩ := hw5
          refine lv_iload_n hx hb d_Leftover_gatherRow_45 rfl (lv_at hl 3 rfl) ?_
          refine lv_iconst (v := (nI 1)) hx hb d_Leftover_gatherRow_46 (by decide) ?_
          refine n_iadd hx hb d_Leftover_gatherRow_47 ?_
          refine lv_istore_n (lv' := [(2, .int (nI (x + 1))), (0, .ref hV), (1, .int (nI y)), (3, .int (nI x))]) hx hb d_Leftover_gatherRow_48 rfl hl (by decide) rfl (fun ls hl => ?_)
          have hb3 : x + 1 ≤ al ∨ x + 1 = al + 1 := by omega
          have hun3 : ∀ i, x + 1 ≤ i → i < x + 1 → CC i y = false := fun i h1 h2 => absurd h2 (by omega)
          have hbc3 : x + 1 = 0 ∨ (x + 1 ≤ al → CC (x + 1 - 1) y = true) := Or.inr (fun h9 => by rw [Nat.add_sub_cancel]; rcases hcov with z | z; exact absurd z (by omega); exact z.2)
          have hnx : nbR CC y (min (x + 1) al) = nbR CC y x := by rcases hcov with z | z; exact (by rw [show min (x + 1) al = x by omega]); exact (by rw [show min (x + 1) al = x + 1 by omega, nbR_s, bgC_no z.2]; rfl)
          have hsv3 : sv4 = nbA CC al y + nbR CC y (min (x + 1) al) := by rw [hnx]; rcases Nat.eq_or_lt_of_le hbx with z | z; exact (by rw [(ha0 (by omega)).1, hsv, z]); exact (by rw [(ha1 (by omega)).1, hsv, hrun z]; omega)
          have hF3 : ∀ k fx fy e, fdC CC al wd k fx fy → edC CC al fy fx e → k < sv4 → t0 k = fx ∧ t1 k = fy ∧ t2 k = e - fx := fun k fx fy e h1 h2 h3 => by rcases Nat.eq_or_lt_of_le hbx with z | z; exact (by obtain ⟨e0, e1, e2, e3⟩ := ha0 (by omega); rw [e0] at h3; rw [e1, e2, e3]; exact hF2 k fx fy e h1 h2 h3); exact (by obtain ⟨e0, e1, e2, e3⟩ := ha1 (by omega); rw [e0] at h3; rw [e1, e2, e3]; rcases Nat.lt_or_ge k sv2 with q | q; exact (by rw [va_up_ne _ _ (by omega), va_up_ne _ _ (by omega), va_up_ne _ _ (by omega)]; exact hF2 k fx fy e h1 h2 q); exact (by have ek : k = sv2 := (by omega); obtain ⟨ex, ey⟩ := fdC_uniq (show fdC CC al wd sv2 b y from ⟨by omega, gy, hbg z, hsv.symm⟩) (by rw [← ek]; exact h1); subst ex; subst ey; have ee := edC_uniq (show edC CC al y b x from ⟨by omega, by omega, hun, by rcases hcov with v | v; exact Or.inl v; exact Or.inr v.2⟩) h2; rw [ek, va_up_self, va_up_self, va_up_self, ← ee]; exact ⟨rfl, rfl, rfl⟩))
          refine lv_iinc (v := (nI (x + 1))) (lv' := [(3, .int (nI (x + 1))), (2, .int (nI (x + 1))), (0, .ref hV), (1, .int (nI y))]) hx hb d_Leftover_gatherRow_49 hl (k := 3) rfl (nI_inc _ _ _ (by omega)) (by decide) rfl (fun ls hl => ?_)
          refine lv_goto (tgt := 4) hx hb d_Leftover_gatherRow_52 (by decide) ?_
          have hP : va_P G vwCl [(hV, .inr (4, [.ref aU, .int (nI sv4), .int (nI wd), .int (nI al), .ref aK])), (aU, .inl (ty 5, 3, .inr (.inr (.inr (.inr fU))))), (aI 0, .inl (ty 0, nV, .inl (nF t0))), (aI 1, .inl (ty 0, nV, .inl (nF t1))), (aI 2, .inl (ty 0, nV, .inl (nF t2))), (aK, .inl (ty 2, nK_, .inl (bF kv)))] _ := hP.sub [1, 2, 3, 4, 5, 0] rfl
          have hD : va_D A [(hV, .inr (4, [.ref aU, .int (nI sv4), .int (nI wd), .int (nI al), .ref aK])), (aU, .inl (ty 5, 3, .inr (.inr (.inr (.inr fU))))), (aI 0, .inl (ty 0, nV, .inl (nF t0))), (aI 1, .inl (ty 0, nV, .inl (nF t1))), (aI 2, .inl (ty 0, nV, .inl (nF t2))), (aK, .inl (ty 2, nK_, .inl (bF kv)))] := hD.sub [1, 2, 3, 4, 5, 0] (by decide) rfl
          exact ih4 (x + 1) (x + 1) sv4 t0 t1 t2 _ _ _ (by omega) (by omega) hb3 hun3 hbc3 hsv3 hF3 (by omega) hP hD hS (lv_sub hl [2, 3, 1, 0] rfl)
        · have hkx := gK x (by omega)
          refine lv_aload_n hx hb d_Leftover_gatherRow_20 rfl (lv_at hl 0 rfl) ?_
          refine va_get (D := G) (ci := 4) (v := .ref aK) (C := R_Leftover) (T := F_Leftover) (N := 5) hx hb hts in_Leftover hown hK hP 0 rfl rfl 4 (by decide) (hts _ fl_Leftover_29) (fun _ h9 => h9) rfl d_Leftover_gatherRow_21 ?_
          refine lv_iload_n hx hb d_Leftover_gatherRow_24 rfl (lv_at hl 1 rfl) ?_
          refine lv_aload_n hx hb d_Leftover_gatherRow_25 rfl (lv_at hl 0 rfl) ?_
          refine va_get (D := G) (ci := 4) (v := .int (nI al)) (C := R_Leftover) (T := F_Leftover) (N := 5) hx hb hts in_Leftover hown hK hP 0 rfl rfl 3 (by decide) (hts _ fl_Leftover_24) (fun _ h9 => h9) rfl d_Leftover_gatherRow_26 ?_
          refine n_imul hx hb d_Leftover_gatherRow_29 ?_
          refine lv_iload_n hx hb d_Leftover_gatherRow_30 rfl (lv_at hl 3 rfl) ?_
          refine n_iadd hx hb d_Leftover_gatherRow_31 ?_
          refine n_zald hx hb hK hP 5 2 rfl rfl (by omega) (by omega) d_Leftover_gatherRow_32 ?_
          refine top_i (show (nI ((kv ((y * al) + x)).toNat)) = (nI ((CC x y).toNat)) from congrArg (fun z9 => nI (Bool.toNat z9)) hkx) ?_
          refine n_if_eq (tgt := 49) hx hb (tN_lt _) d_Leftover_gatherRow_33 (by decide) (fun c33 => ?_) (fun c33 => ?_)
          · have hb3 : x + 1 ≤ al ∨ b = al + 1 := by omega
            have hun3 : ∀ i, b ≤ i → i < x + 1 → CC i y = false := fun i h1 h2 => (Nat.lt_or_ge i x).elim (hun i h1) (fun q => by rw [show i = x by omega]; exact tN_0 c33)
            have hbc3 := hbc
            have hsv3 := hsv
            have hF3 := hF2
            refine lv_iinc (v := (nI (x + 1))) (lv' := [(3, .int (nI (x + 1))), (0, .ref hV), (1, .int (nI y)), (2, .int (nI b))]) hx hb d_Leftover_gatherRow_49 hl (k := 3) rfl (nI_inc _ _ _ (by omega)) (by decide) rfl (fun ls hl => ?_)
            refine lv_goto (tgt := 4) hx hb d_Leftover_gatherRow_52 (by decide) ?_
            exact ih4 (x + 1) b sv2 u0 u1 u2 _ _ _ (by omega) (by omega) hb3 hun3 hbc3 hsv3 hF3 (by omega) hP hD hS (lv_sub hl [1, 2, 3, 0] rfl)
          · have hcov : x = al ∨ (x < al ∧ CC x y = true) := by first | exact Or.inl (by omega) | exact Or.inr ⟨by omega, tN_1 c33⟩
            have hbal : b ≤ al := by omega
            have hmb : min b al = b := by omega
            rw [hmb] at hsv
            have hbg : b < x → bgC CC b y = true := fun h9 => bgC_of (hun b (Nat.le_refl _) h9) (hbc.elim Or.inl (fun z => Or.inr (z hbal)))
            have hrun : b < x → nbR CC y x = nbR CC y b + 1 := fun h9 => by have h8 := nbR_run (hbg h9) (x - (b + 1)) (fun i h1 h2 => hun i h1 (by omega)); rw [show b + 1 + (x - (b + 1)) = x by omega] at h8; exact h8
            have hsvb : b < x → sv2 < nV := fun h9 => by have h8 := hrun h9; have h7 := (nbR_half CC y (b + 1)).1; have h6 := nbR_s CC y b; rw [hbg h9] at h6; have h5 : true.toNat = 1 := rfl; omega
            refine lv_aload_n hx hb d_Leftover_gatherRow_36 rfl (lv_at hl 0 rfl) ?_
            refine lv_iload_n hx hb d_Leftover_gatherRow_37 rfl (lv_at hl 2 rfl) ?_
            refine lv_iload_n hx hb d_Leftover_gatherRow_38 rfl (lv_at hl 1 rfl) ?_
            refine lv_iload_n hx hb d_Leftover_gatherRow_39 rfl (lv_at hl 3 rfl) ?_
            refine lv_iload_n hx hb d_Leftover_gatherRow_40 rfl (lv_at hl 2 rfl) ?_
            refine n_isub hx hb (by omega) d_Leftover_gatherRow_41 ?_
            refine call_wr_v (Wc := [(hV, .inr (4, [.ref aU, .int (nI sv2), .int (nI wd), .int (nI al), .ref aK])), (aU, .inl (ty 5, 3, .inr (.inr (.inr (.inr fU))))), (aI 0, .inl (ty 0, nV, .inl (nF u0))), (aI 1, .inl (ty 0, nV, .inl (nF u1))), (aI 2, .inl (ty 0, nV, .inl (nF u2)))]) (Wr := [(aK, .inl (ty 2, nK_, .inl (bF kv)))]) (va_runV (As := [.int (nI b), .int (nI y), .int (nI (x - b))]) (rest := []) ⟨hx, hb, hml, hown, hts⟩ (c_Leftover_addRow l G ty _ hV aU aK sv2 wd al nV nK_ fU aI u0 u1 u2 b y (x - b) gu (by omega) (by omega) gnV gnK (by omega) (fun h9 => hsvb (by omega)) (by have h8 := (nbR_half CC y b).1; omega)) ⟨callB_of 3 hts (gd_TB cd_Leftover_addRow) rfl rfl rfl (hts _ ini_Leftover) (hts _ lk_Leftover_56) hd_Leftover_addRow ⟨Nat.le_of_ble_eq_true rfl, Nat.le_of_ble_eq_true rfl⟩, hts _ im_Leftover_addRow, hts _ sl_Leftover_addRow⟩ (preV_wr (hP.sub (ws' := [(hV, .inr (4, [.ref aU, .int (nI sv2), .int (nI wd), .int (nI al), .ref aK])), (aU, .inl (ty 5, 3, .inr (.inr (.inr (.inr fU))))), (aI 0, .inl (ty 0, nV, .inl (nF u0))), (aI 1, .inl (ty 0, nV, .inl (nF u1))), (aI 2, .inl (ty 0, nV, .inl (nF u2)))]) [0, 1, 2, 3, 4] rfl) hX (hD.sub (ws' := [(hV, .inr (4, [.ref aU, .int (nI sv2), .int (nI wd), .int (nI al), .ref aK])), (aU, .inl (ty 5, 3, .inr (.inr (.inr (.inr fU))))), (aI 0, .inl (ty 0, nV, .inl (nF u0))), (aI 1, .inl (ty 0, nV, .inl (nF u1))), (aI 2, .inl (ty 0, nV, .inl (nF u2)))]) [0, 1, 2, 3, 4] (by decide) rfl) 0 rfl rfl) rfl rfl hl.1 rfl (lv_room (Nat.le_of_ble_eq_true rfl)) d_Leftover_gatherRow_42 ⟨Nat.le_of_ble_eq_true rfl, Nat.le_of_ble_eq_true rfl⟩) hP hD hS hA [0, 1, 2, 3, 4] [5] rfl rfl (by decide) (by decide) (fun u9 H locs hw11 hP hD hS => ?_)
            obtain ⟨sv4, t0, t1, t2⟩ := u9
            have hw11 : ((x - b) = 0 → sv4 = sv2 ∧ t0 = u0 ∧ t1 = u1 ∧ t2 = u2) ∧ (1 ≤ (x - b) → sv4 = sv2 + 1 ∧ t0 = va_up u0 sv2 b ∧ t1 = va_up u1 sv2 y ∧ t2 = va_up u2 sv2 (x - b)) := hw11
            have hP : va_P G vwCl [(aK, .inl (ty 2, nK_, .inl (bF kv))), (hV, .inr (4, [.ref aU, .int (nI sv4), .int (nI wd), .int (nI al), .ref aK])), (aU, .inl (ty 5, 3, .inr (.inr (.inr (.inr fU))))), (aI 0, .inl (ty 0, nV, .inl (nF t0))), (aI 1, .inl (ty 0, nV, .inl (nF t1))), (aI 2, .inl (ty 0, nV, .inl (nF t2)))] _ := hP
            have hD : va_D A [(aK, .inl (ty 2, nK_, .inl (bF kv))), (hV, .inr (4, [.ref aU, .int (nI sv4), .int (nI wd), .int (nI al), .ref aK])), (aU, .inl (ty 5, 3, .inr (.inr (.inr (.inr fU))))), (aI 0, .inl (ty 0, nV, .inl (nF t0))), (aI 1, .inl (ty 0, nV, .inl (nF t1))), (aI 2, .inl (ty 0, nV, .inl (nF t2)))] := hD
            obtain ⟨ha0, ha1⟩ := hw11
            refine lv_iload_n hx hb d_Leftover_gatherRow_45 rfl (lv_at hl 3 rfl) ?_
            refine lv_iconst (v := (nI 1)) hx hb d_Leftover_gatherRow_46 (by decide) ?_
            refine n_iadd hx hb d_Leftover_gatherRow_47 ?_
            refine lv_istore_n (lv' := [(2, .int (nI (x + 1))), (0, .ref hV), (1, .int (nI y)), (3, .int (nI x))]) hx hb d_Leftover_gatherRow_48 rfl hl (by decide) rfl (fun ls hl => ?_)
            have hb3 : x + 1 ≤ al ∨ x + 1 = al + 1 := by omega
            have hun3 : ∀ i, x + 1 ≤ i → i < x + 1 → CC i y = false := fun i h1 h2 => absurd h2 (by omega)
            have hbc3 : x + 1 = 0 ∨ (x + 1 ≤ al → CC (x + 1 - 1) y = true) := Or.inr (fun h9 => by rw [Nat.add_sub_cancel]; rcases hcov with z | z; exact absurd z (by omega); exact z.2)
            have hnx : nbR CC y (min (x + 1) al) = nbR CC y x := by rcases hcov with z | z; exact (by rw [show min (x + 1) al = x by omega]); exact (by rw [show min (x + 1) al = x + 1 by omega, nbR_s, bgC_no z.2]; rfl)
            have hsv3 : sv4 = nbA CC al y + nbR CC y (min (x + 1) al) := by rw [hnx]; rcases Nat.eq_or_lt_of_le hbx with z | z; exact (by rw [(ha0 (by omega)).1, hsv, z]); exact (by rw [(ha1 (by omega)).1, hsv, hrun z]; omega)
            have hF3 : ∀ k fx fy e, fdC CC al wd k fx fy → edC CC al fy fx e → k < sv4 → t0 k = fx ∧ t1 k = fy ∧ t2 k = e - fx := fun k fx fy e h1 h2 h3 => by rcases Nat.eq_or_lt_of_le hbx with z | z; exact (by obtain ⟨e0, e1, e2, e3⟩ := ha0 (by omega); rw [e0] at h3; rw [e1, e2, e3]; exact hF2 k fx fy e h1 h2 h3); exact (by obtain ⟨e0, e1, e2, e3⟩ := ha1 (by omega); rw [e0] at h3; rw [e1, e2, e3]; rcases Nat.lt_or_ge k sv2 with q | q; exact (by rw [va_up_ne _ _ (by omega), va_up_ne _ _ (by omega), va_up_ne _ _ (by omega)]; exact hF2 k fx fy e h1 h2 q); exact (by have ek : k = sv2 := (by omega); obtain ⟨ex, ey⟩ := fdC_uniq (show fdC CC al wd sv2 b y from ⟨by omega, gy, hbg z, hsv.symm⟩) (by rw [← ek]; exact h1); subst ex; subst ey; have ee := edC_uniq (show edC CC al y b x from ⟨by omega, by omega, hun, by rcases hcov with v | v; exact Or.inl v; exact Or.inr v.2⟩) h2; rw [ek, va_up_self, va_up_self, va_up_self, ← ee]; exact ⟨rfl, rfl, rfl⟩))
            refine lv_iinc (v := (nI (x + 1))) (lv' := [(3, .int (nI (x + 1))), (2, .int (nI (x + 1))), (0, .ref hV), (1, .int (nI y))]) hx hb d_Leftover_gatherRow_49 hl (k := 3) rfl (nI_inc _ _ _ (by omega)) (by decide) rfl (fun ls hl => ?_)
            refine lv_goto (tgt := 4) hx hb d_Leftover_gatherRow_52 (by decide) ?_
            have hP : va_P G vwCl [(hV, .inr (4, [.ref aU, .int (nI sv4), .int (nI wd), .int (nI al), .ref aK])), (aU, .inl (ty 5, 3, .inr (.inr (.inr (.inr fU))))), (aI 0, .inl (ty 0, nV, .inl (nF t0))), (aI 1, .inl (ty 0, nV, .inl (nF t1))), (aI 2, .inl (ty 0, nV, .inl (nF t2))), (aK, .inl (ty 2, nK_, .inl (bF kv)))] _ := hP.sub [1, 2, 3, 4, 5, 0] rfl
            have hD : va_D A [(hV, .inr (4, [.ref aU, .int (nI sv4), .int (nI wd), .int (nI al), .ref aK])), (aU, .inl (ty 5, 3, .inr (.inr (.inr (.inr fU))))), (aI 0, .inl (ty 0, nV, .inl (nF t0))), (aI 1, .inl (ty 0, nV, .inl (nF t1))), (aI 2, .inl (ty 0, nV, .inl (nF t2))), (aK, .inl (ty 2, nK_, .inl (bF kv)))] := hD.sub [1, 2, 3, 4, 5, 0] (by decide) rfl
            exact ih4 (x + 1) (x + 1) sv4 t0 t1 t2 _ _ _ (by omega) (by omega) hb3 hun3 hbc3 hsv3 hF3 (by omega) hP hD hS (lv_sub hl [2, 3, 1, 0] rfl)
  exact L4 (al + 1 - 0 + 1) 0 0 sv w0 w1 w2 _ _ _ (Nat.zero_le _) (Nat.le_refl _) (Or.inl (Nat.zero_le _)) (fun i h1 h2 => absurd h2 (by omega)) (Or.inl rfl) (by rw [gs0, Nat.zero_min]; rfl) gF (Nat.lt_succ_self _) hP hD hS (lv_sub hl [2, 3, 1, 0] rfl)

theorem rm_inj {al x y X Y : Nat} (h1 : x < al) (h2 : X < al) (h : y * al + x = Y * al + X) : x = X ∧ y = Y := by
  rcases Nat.lt_trichotomy y Y with q | q | q
  · have := Nat.mul_le_mul_right al (show y + 1 ≤ Y from q); rw [Nat.succ_mul] at this; omega
  · subst q; exact ⟨by omega, rfl⟩
  · have := Nat.mul_le_mul_right al (show Y + 1 ≤ y from q); rw [Nat.succ_mul] at this; omega

abbrev q_Leftover_cover (G : va_G) (ty : Nat → ClassId) (hV : Nat) (aU : Nat) (aK : Nat) (sv : Nat) (wd : Nat) (al : Nat) (nK_ : Nat) (kv : Nat → Bool) (hQ : Nat) (aQ : Nat) (aC : Nat) (np : Nat) (rm : Nat) (tot : Int) (fQ : Nat → Option Nat) (aR : Nat → Nat) (f0 : Nat → Nat) (f1 : Nat → Nat) (f2 : Nat → Nat) (f3 : Nat → Nat) (k : Nat) (A : Nat → Prop) : Array Value → State → Outcome → State → Prop := va_Qv (fun (uu : (Nat → Bool)) => ∀ x y, x < al → y < wd → uu (y * al + x) = cvN f0 f1 f2 f3 (k + 1) x y) (at_W G (fun (uu : (Nat → Bool)) => [(hV, .inr (4, [.ref aU, .int (nI sv), .int (nI wd), .int (nI al), .ref aK])), (aK, .inl (ty 2, nK_, .inl (bF uu))), (hQ, .inr (6, [.ref aQ, .ref aC, .int (nI np), .long (iL tot), .int (nI rm)])), (aQ, .inl (ty 5, 6, .inr (.inr (.inr (.inr fQ))))), (aR 0, .inl (ty 0, rm, .inl (nF f0))), (aR 1, .inl (ty 0, rm, .inl (nF f1))), (aR 2, .inl (ty 0, rm, .inl (nF f2))), (aR 3, .inl (ty 0, rm, .inl (nF f3)))]) A) A
set_option maxRecDepth 100000 in
set_option maxHeartbeats 4000000 in
theorem c_Leftover_cover (l : Launch) (G : va_G) (ty : Nat → ClassId) (sz : Nat) (hV : Nat) (aU : Nat) (aK : Nat) (sv : Nat) (wd : Nat) (al : Nat) (nK_ : Nat) (kv : Nat → Bool) (hQ : Nat) (aQ : Nat) (aC : Nat) (np : Nat) (rm : Nat) (tot : Int) (fQ : Nat → Option Nat) (aR : Nat → Nat) (f0 : Nat → Nat) (f1 : Nat → Nat) (f2 : Nat → Nat) (f3 : Nat → Nat) (k : Nat) (gq : ∀ i, i < 6 → fQ i = some (aR i)) (grm : rm ≤ 240) (gnp : np ≤ rm) (gbx : ∀ k, k < np → f0 k + f2 k ≤ al ∧ f1 k + f3 k ≤ wd) (gwd : wd ≤ 10) (gal : al ≤ 24) (gnK : nK_ = wd * al) (gk : k < np) (gK : ∀ x y, x < al → y < wd → kv (y * al + x) = cvN f0 f1 f2 f3 k x y) : Met l y_Leftover_cover ws_Leftover_cover { frames := 1, cells := 0, slots := 0, locals := 21 } (va_Pc [.ref hV, .ref hQ, .int (nI k)] (fun U => U.heap.size = sz ∧ va_P G vwCl [(hV, .inr (4, [.ref aU, .int (nI sv), .int (nI wd), .int (nI al), .ref aK])), (aK, .inl (ty 2, nK_, .inl (bF kv))), (hQ, .inr (6, [.ref aQ, .ref aC, .int (nI np), .long (iL tot), .int (nI rm)])), (aQ, .inl (ty 5, 6, .inr (.inr (.inr (.inr fQ))))), (aR 0, .inl (ty 0, rm, .inl (nF f0))), (aR 1, .inl (ty 0, rm, .inl (nF f1))), (aR 2, .inl (ty 0, rm, .inl (nF f2))), (aR 3, .inl (ty 0, rm, .inl (nF f3)))] U.heap ∧ KX G ty U ∧ va_D (fun _ => True) [(hV, .inr (4, [.ref aU, .int (nI sv), .int (nI wd), .int (nI al), .ref aK])), (aK, .inl (ty 2, nK_, .inl (bF kv))), (hQ, .inr (6, [.ref aQ, .ref aC, .int (nI np), .long (iL tot), .int (nI rm)])), (aQ, .inl (ty 5, 6, .inr (.inr (.inr (.inr fQ))))), (aR 0, .inl (ty 0, rm, .inl (nF f0))), (aR 1, .inl (ty 0, rm, .inl (nF f1))), (aR 2, .inl (ty 0, rm, .inl (nF f2))), (aR 3, .inl (ty 0, rm, .inl (nF f3)))])) (q_Leftover_cover G ty hV aU aK sv wd al nK_ kv hQ aQ aC np rm tot fQ aR f0 f1 f2 f3 k (va_A [(hV, .inr (4, [.ref aU, .int (nI sv), .int (nI wd), .int (nI al), .ref aK])), (aK, .inl (ty 2, nK_, .inl (bF kv))), (hQ, .inr (6, [.ref aQ, .ref aC, .int (nI np), .long (iL tot), .int (nI rm)])), (aQ, .inl (ty 5, 6, .inr (.inr (.inr (.inr fQ))))), (aR 0, .inl (ty 0, rm, .inl (nF f0))), (aR 1, .inl (ty 0, rm, .inl (nF f1))), (aR 2, .inl (ty 0, rm, .inl (nF f2))), (aR 3, .inl (ty 0, rm, .inl (nF f3)))] sz)) 0 0 (va_A [(hV, .inr (4, [.ref aU, .int (nI sv), .int (nI wd), .int (nI al), .ref aK])), (aK, .inl (ty 2, nK_, .inl (bF kv))), (hQ, .inr (6, [.ref aQ, .ref aC, .int (nI np), .long (iL tot), .int (nI rm)])), (aQ, .inl (ty 5, 6, .inr (.inr (.inr (.inr fQ))))), (aR 0, .inl (ty 0, rm, .inl (nF f0))), (aR 1, .inl (ty 0, rm, .inl (nF f1))), (aR 2, .inl (ty 0, rm, .inl (nF f2))), (aR 3, .inl (ty 0, rm, .inl (nF f3)))] sz) := by
  refine met_wr (y := y_Leftover_cover) (maxL := 9) (sz := sz) (G := G) (ty := ty) (mc := 0) (ms := 0) (av := [.ref hV, .ref hQ, .int (nI k)]) (W0 := [(hV, .inr (4, [.ref aU, .int (nI sv), .int (nI wd), .int (nI al), .ref aK])), (aK, .inl (ty 2, nK_, .inl (bF kv))), (hQ, .inr (6, [.ref aQ, .ref aC, .int (nI np), .long (iL tot), .int (nI rm)])), (aQ, .inl (ty 5, 6, .inr (.inr (.inr (.inr fQ))))), (aR 0, .inl (ty 0, rm, .inl (nF f0))), (aR 1, .inl (ty 0, rm, .inl (nF f1))), (aR 2, .inl (ty 0, rm, .inl (nF f2))), (aR 3, .inl (ty 0, rm, .inl (nF f3)))]) (fun A => q_Leftover_cover G ty hV aU aK sv wd al nK_ kv hQ aQ aC np rm tot fQ aR f0 f1 f2 f3 k A) R_Leftover (by decide) rfl rfl (Nat.le_of_ble_eq_true rfl) ?_
  intro p e s m below meth c ls A hx hb hr hml hown hts hlocks hin hA hP hX hD hS hl
  have hK := hX.1
  have hl : lv_has ls 9 [(0, .ref hV), (1, .ref hQ), (2, .int (nI k))] := hl
  have hbk := gbx k gk
  have hnK : nK_ ≤ 240 := by rw [gnK]; exact Nat.mul_le_mul gwd gal
  refine lv_aload_n hx hb d_Leftover_cover_0 rfl (lv_at hl 1 rfl) ?_
  refine va_get (D := G) (ci := 6) (v := .ref aQ) (C := R_Plan) (T := F_Plan) (N := 5) hx hb hts in_Plan hown hK hP 2 rfl rfl 0 (by decide) (hts _ fl_Leftover_49) (fun _ h9 => h9) rfl d_Leftover_cover_1 ?_
  refine lv_iconst (v := (nI 0)) hx hb d_Leftover_cover_4 (by decide) ?_
  refine n_aaldA hx hb hK hP 3 5 rfl rfl (by omega) (by omega) (gq 0 (by omega)) d_Leftover_cover_5 ?_
  refine lv_iload_n hx hb d_Leftover_cover_6 rfl (lv_at hl 2 rfl) ?_
  refine n_iald hx hb hK hP 4 0 rfl rfl (by omega) (by omega) d_Leftover_cover_7 ?_
  refine lv_istore_n (lv' := [(3, .int (nI (f0 k))), (0, .ref hV), (1, .ref hQ), (2, .int (nI k))]) hx hb d_Leftover_cover_8 rfl hl (by decide) rfl (fun ls hl => ?_)
  refine lv_aload_n hx hb d_Leftover_cover_9 rfl (lv_at hl 2 rfl) ?_
  refine va_get (D := G) (ci := 6) (v := .ref aQ) (C := R_Plan) (T := F_Plan) (N := 5) hx hb hts in_Plan hown hK hP 2 rfl rfl 0 (by decide) (hts _ fl_Leftover_49) (fun _ h9 => h9) rfl d_Leftover_cover_10 ?_
  refine lv_iconst (v := (nI 1)) hx hb d_Leftover_cover_13 (by decide) ?_
  refine n_aaldA hx hb hK hP 3 5 rfl rfl (by omega) (by omega) (gq 1 (by omega)) d_Leftover_cover_14 ?_
  refine lv_iload_n hx hb d_Leftover_cover_15 rfl (lv_at hl 3 rfl) ?_
  refine n_iald hx hb hK hP 5 0 rfl rfl (by omega) (by omega) d_Leftover_cover_16 ?_
  refine lv_istore (lv' := [(4, .int (nI (f1 k))), (3, .int (nI (f0 k))), (0, .ref hV), (1, .ref hQ), (2, .int (nI k))]) hx hb d_Leftover_cover_17 hl (by decide) rfl (fun ls hl => ?_)
  refine lv_aload_n hx hb d_Leftover_cover_19 rfl (lv_at hl 2 rfl) ?_
  refine va_get (D := G) (ci := 4) (v := .int (nI al)) (C := R_Leftover) (T := F_Leftover) (N := 5) hx hb hts in_Leftover hown hK hP 0 rfl rfl 3 (by decide) (hts _ fl_Leftover_24) (fun _ h9 => h9) rfl d_Leftover_cover_20 ?_
  refine lv_iload_n hx hb d_Leftover_cover_23 rfl (lv_at hl 1 rfl) ?_
  refine lv_aload_n hx hb d_Leftover_cover_24 rfl (lv_at hl 3 rfl) ?_
  refine va_get (D := G) (ci := 6) (v := .ref aQ) (C := R_Plan) (T := F_Plan) (N := 5) hx hb hts in_Plan hown hK hP 2 rfl rfl 0 (by decide) (hts _ fl_Leftover_49) (fun _ h9 => h9) rfl d_Leftover_cover_25 ?_
  refine lv_iconst (v := (nI 2)) hx hb d_Leftover_cover_28 (by decide) ?_
  refine n_aaldA hx hb hK hP 3 5 rfl rfl (by omega) (by omega) (gq 2 (by omega)) d_Leftover_cover_29 ?_
  refine lv_iload_n hx hb d_Leftover_cover_30 rfl (lv_at hl 4 rfl) ?_
  refine n_iald hx hb hK hP 6 0 rfl rfl (by omega) (by omega) d_Leftover_cover_31 ?_
  refine n_iadd hx hb d_Leftover_cover_32 ?_
  refine n_mmin hx hb hml hl.1 hown hts lm_Leftover_50 ⟨Nat.le_of_ble_eq_true rfl, Nat.le_of_ble_eq_true rfl⟩ (Nat.le_of_ble_eq_true rfl) ⟨Nat.le_of_ble_eq_true rfl, Nat.le_of_ble_eq_true rfl⟩ (by omega) (by omega) d_Leftover_cover_33 ?_
  refine top_i (show (nI (min al ((f0 k) + (f2 k)))) = (nI (f0 k + f2 k)) from congrArg nI (by omega)) ?_
  refine lv_istore (lv' := [(5, .int (nI (f0 k + f2 k))), (4, .int (nI (f1 k))), (3, .int (nI (f0 k))), (0, .ref hV), (1, .ref hQ), (2, .int (nI k))]) hx hb d_Leftover_cover_36 hl (by decide) rfl (fun ls hl => ?_)
  refine lv_aload_n hx hb d_Leftover_cover_38 rfl (lv_at hl 3 rfl) ?_
  refine va_get (D := G) (ci := 4) (v := .int (nI wd)) (C := R_Leftover) (T := F_Leftover) (N := 5) hx hb hts in_Leftover hown hK hP 0 rfl rfl 2 (by decide) (hts _ fl_Leftover_20) (fun _ h9 => h9) rfl d_Leftover_cover_39 ?_
  refine lv_iload hx hb d_Leftover_cover_42 (lv_at hl 1 rfl) ?_
  refine lv_aload_n hx hb d_Leftover_cover_44 rfl (lv_at hl 4 rfl) ?_
  refine va_get (D := G) (ci := 6) (v := .ref aQ) (C := R_Plan) (T := F_Plan) (N := 5) hx hb hts in_Plan hown hK hP 2 rfl rfl 0 (by decide) (hts _ fl_Leftover_49) (fun _ h9 => h9) rfl d_Leftover_cover_45 ?_
  refine lv_iconst (v := (nI 3)) hx hb d_Leftover_cover_48 (by decide) ?_
  refine n_aaldA hx hb hK hP 3 5 rfl rfl (by omega) (by omega) (gq 3 (by omega)) d_Leftover_cover_49 ?_
  refine lv_iload_n hx hb d_Leftover_cover_50 rfl (lv_at hl 5 rfl) ?_
  refine n_iald hx hb hK hP 7 0 rfl rfl (by omega) (by omega) d_Leftover_cover_51 ?_
  refine n_iadd hx hb d_Leftover_cover_52 ?_
  refine n_mmin hx hb hml hl.1 hown hts lm_Leftover_50 ⟨Nat.le_of_ble_eq_true rfl, Nat.le_of_ble_eq_true rfl⟩ (Nat.le_of_ble_eq_true rfl) ⟨Nat.le_of_ble_eq_true rfl, Nat.le_of_ble_eq_true rfl⟩ (by omega) (by omega) d_Leftover_cover_53 ?_
  refine top_i (show (nI (min wd ((f1 k) + (f3 k)))) = (nI (f1 k + f3 k)) from congrArg nI (by omega)) ?_
  refine lv_istore (lv' := [(6, .int (nI (f1 k + f3 k))), (5, .int (nI (f0 k + f2 k))), (4, .int (nI (f1 k))), (3, .int (nI (f0 k))), (0, .ref hV), (1, .ref hQ), (2, .int (nI k))]) hx hb d_Leftover_cover_56 hl (by decide) rfl (fun ls hl => ?_)
  refine lv_iload hx hb d_Leftover_cover_58 (lv_at hl 2 rfl) ?_
  refine lv_istore (lv' := [(7, .int (nI (f1 k))), (6, .int (nI (f1 k + f3 k))), (5, .int (nI (f0 k + f2 k))), (4, .int (nI (f1 k))), (3, .int (nI (f0 k))), (0, .ref hV), (1, .ref hQ), (2, .int (nI k))]) hx hb d_Leftover_cover_60 hl (by decide) rfl (fun ls hl => ?_)
  have L62 : ∀ (k9 : Nat) (Y : Nat) (kv2 : Nat → Bool) (H : Heap) (locs : List Loc) (ls : Array Slot), (f1 k ≤ Y ∧ Y ≤ f1 k + f3 k) → (∀ x y, x < al → y < wd → kv2 (y * al + x) = (cvN f0 f1 f2 f3 k x y || decide ((f0 k ≤ x ∧ x < f0 k + f2 k ∧ f1 k ≤ y ∧ y < f1 k + f3 k) ∧ y < Y))) → f1 k + f3 k - Y < k9 → va_P G vwCl [(hV, .inr (4, [.ref aU, .int (nI sv), .int (nI wd), .int (nI al), .ref aK])), (aK, .inl (ty 2, nK_, .inl (bF kv2))), (hQ, .inr (6, [.ref aQ, .ref aC, .int (nI np), .long (iL tot), .int (nI rm)])), (aQ, .inl (ty 5, 6, .inr (.inr (.inr (.inr fQ))))), (aR 0, .inl (ty 0, rm, .inl (nF f0))), (aR 1, .inl (ty 0, rm, .inl (nF f1))), (aR 2, .inl (ty 0, rm, .inl (nF f2))), (aR 3, .inl (ty 0, rm, .inl (nF f3)))] H → va_D A [(hV, .inr (4, [.ref aU, .int (nI sv), .int (nI wd), .int (nI al), .ref aK])), (aK, .inl (ty 2, nK_, .inl (bF kv2))), (hQ, .inr (6, [.ref aQ, .ref aC, .int (nI np), .long (iL tot), .int (nI rm)])), (aQ, .inl (ty 5, 6, .inr (.inr (.inr (.inr fQ))))), (aR 0, .inl (ty 0, rm, .inl (nF f0))), (aR 1, .inl (ty 0, rm, .inl (nF f1))), (aR 2, .inl (ty 0, rm, .inl (nF f2))), (aR 3, .inl (ty 0, rm, .inl (nF f3)))] → va_S A s.heap H locs → lv_has ls 9 [(0, .ref hV), (1, .ref hQ), (2, .int (nI k)), (3, .int (nI (f0 k))), (4, .int (nI (f1 k))), (5, .int (nI (f0 k + f2 k))), (6, .int (nI (f1 k + f3 k))), (7, .int (nI Y))] → W p l e { frames := 1, cells := 0, slots := 0, locals := 21 } s m [.ref hV, .ref hQ, .int (nI k)].toArray below meth c H locs 0 0 (MQ below (q_Leftover_cover G ty hV aU aK sv wd al nK_ kv hQ aQ aC np rm tot fQ aR f0 f1 f2 f3 k A) [.ref hV, .ref hQ, .int (nI k)].toArray s 0 0 A) (F0 m 62 ls []) := by
    intro k9
    induction k9 with
    | zero => intro Y kv2 H locs ls hY hA1 hk9; exact absurd hk9 (Nat.not_lt_zero _)
    | succ k9 ih62 =>
      intro Y kv2 H locs ls hY hA1 hk9 hP hD hS hl
      refine lv_iload hx hb d_Leftover_cover_62 (lv_at hl 7 rfl) ?_
      refine lv_iload hx hb d_Leftover_cover_64 (lv_at hl 6 rfl) ?_
      refine n_icmp_ge (tgt := 107) hx hb (by omega) (by omega) d_Leftover_cover_66 (by decide) (fun c66 => ?_) (fun c66 => ?_)
      · exact W.vret hx hb hr (fun t9 ht hW => ⟨⟨(kv2), rfl, fun x y h1 h2 => by rw [hA1 x y h1 h2, cvN_s]; congr 1; exact decide_eq_decide.mpr (by omega), by rw [ht]; exact hP, hD⟩, hS.F ht⟩) hS.2.2 d_Leftover_cover_107
      · refine lv_iload_n hx hb d_Leftover_cover_69 rfl (lv_at hl 3 rfl) ?_
        refine lv_istore (lv' := [(8, .int (nI (f0 k))), (0, .ref hV), (1, .ref hQ), (2, .int (nI k)), (3, .int (nI (f0 k))), (4, .int (nI (f1 k))), (5, .int (nI (f0 k + f2 k))), (6, .int (nI (f1 k + f3 k))), (7, .int (nI Y))]) hx hb d_Leftover_cover_70 hl (by decide) rfl (fun ls hl => ?_)
        have L72 : ∀ (k9 : Nat) (X : Nat) (kv2 : Nat → Bool) (H : Heap) (locs : List Loc) (ls : Array Slot), (f0 k ≤ X ∧ X ≤ f0 k + f2 k) → (∀ x y, x < al → y < wd → kv2 (y * al + x) = (cvN f0 f1 f2 f3 k x y || decide ((f0 k ≤ x ∧ x < f0 k + f2 k ∧ f1 k ≤ y ∧ y < f1 k + f3 k) ∧ (y < Y ∨ (y = Y ∧ x < X))))) → f0 k + f2 k - X < k9 → va_P G vwCl [(hV, .inr (4, [.ref aU, .int (nI sv), .int (nI wd), .int (nI al), .ref aK])), (aK, .inl (ty 2, nK_, .inl (bF kv2))), (hQ, .inr (6, [.ref aQ, .ref aC, .int (nI np), .long (iL tot), .int (nI rm)])), (aQ, .inl (ty 5, 6, .inr (.inr (.inr (.inr fQ))))), (aR 0, .inl (ty 0, rm, .inl (nF f0))), (aR 1, .inl (ty 0, rm, .inl (nF f1))), (aR 2, .inl (ty 0, rm, .inl (nF f2))), (aR 3, .inl (ty 0, rm, .inl (nF f3)))] H → va_D A [(hV, .inr (4, [.ref aU, .int (nI sv), .int (nI wd), .int (nI al), .ref aK])), (aK, .inl (ty 2, nK_, .inl (bF kv2))), (hQ, .inr (6, [.ref aQ, .ref aC, .int (nI np), .long (iL tot), .int (nI rm)])), (aQ, .inl (ty 5, 6, .inr (.inr (.inr (.inr fQ))))), (aR 0, .inl (ty 0, rm, .inl (nF f0))), (aR 1, .inl (ty 0, rm, .inl (nF f1))), (aR 2, .inl (ty 0, rm, .inl (nF f2))), (aR 3, .inl (ty 0, rm, .inl (nF f3)))] → va_S A s.heap H locs → lv_has ls 9 [(0, .ref hV), (1, .ref hQ), (2, .int (nI k)), (3, .int (nI (f0 k))), (4, .int (nI (f1 k))), (5, .int (nI (f0 k + f2 k))), (6, .int (nI (f1 k + f3 k))), (7, .int (nI Y)), (8, .int (nI X))] → W p l e { frames := 1, cells := 0, slots := 0, locals := 21 } s m [.ref hV, .ref hQ, .int (nI k)].toArray below meth c H locs 0 0 (MQ below (q_Leftover_cover G ty hV aU aK sv wd al nK_ kv hQ aQ aC np rm tot fQ aR f0 f1 f2 f3 k A) [.ref hV, .ref hQ, .int (nI k)].toArray s 0 0 A) (F0 m 72 ls []) := by
          intro k9
          induction k9 with
          | zero => intro X kv2 H locs ls hXx hA2 hk9; exact absurd hk9 (Nat.not_lt_zero _)
          | succ k9 ih72 =>
            intro X kv2 H locs ls hXx hA2 hk9 hP hD hS hl
            refine lv_iload hx hb d_Leftover_cover_72 (lv_at hl 8 rfl) ?_
            refine lv_iload hx hb d_Leftover_cover_74 (lv_at hl 5 rfl) ?_
            refine n_icmp_ge (tgt := 101) hx hb (by omega) (by omega) d_Leftover_cover_76 (by decide) (fun c76 => ?_) (fun c76 => ?_)
            · refine lv_iinc (v := (nI (Y + 1))) (lv' := [(7, .int (nI (Y + 1))), (0, .ref hV), (1, .ref hQ), (2, .int (nI k)), (3, .int (nI (f0 k))), (4, .int (nI (f1 k))), (5, .int (nI (f0 k + f2 k))), (6, .int (nI (f1 k + f3 k))), (8, .int (nI X))]) hx hb d_Leftover_cover_101 hl (k := 7) rfl (nI_inc _ _ _ (by omega)) (by decide) rfl (fun ls hl => ?_)
              refine lv_goto (tgt := 62) hx hb d_Leftover_cover_104 (by decide) ?_
              exact ih62 (Y + 1) kv2 _ _ _ (by omega) (fun x y h1 h2 => by rw [hA2 x y h1 h2]; congr 1; exact decide_eq_decide.mpr (by omega)) (by omega) hP hD hS (lv_sub hl [1, 2, 3, 4, 5, 6, 7, 0] rfl)
            · have hix : Y * al + X < nK_ := by rw [gnK]; have h9 := Nat.mul_le_mul_right al (show Y + 1 ≤ wd by omega); rw [Nat.succ_mul] at h9; omega
              refine lv_aload_n hx hb d_Leftover_cover_79 rfl (lv_at hl 0 rfl) ?_
              refine va_get (D := G) (ci := 4) (v := .ref aK) (C := R_Leftover) (T := F_Leftover) (N := 5) hx hb hts in_Leftover hown hK hP 0 rfl rfl 4 (by decide) (hts _ fl_Leftover_29) (fun _ h9 => h9) rfl d_Leftover_cover_80 ?_
              refine lv_iload hx hb d_Leftover_cover_83 (lv_at hl 7 rfl) ?_
              refine lv_aload_n hx hb d_Leftover_cover_85 rfl (lv_at hl 0 rfl) ?_
              refine va_get (D := G) (ci := 4) (v := .int (nI al)) (C := R_Leftover) (T := F_Leftover) (N := 5) hx hb hts in_Leftover hown hK hP 0 rfl rfl 3 (by decide) (hts _ fl_Leftover_24) (fun _ h9 => h9) rfl d_Leftover_cover_86 ?_
              refine n_imul hx hb d_Leftover_cover_89 ?_
              refine lv_iload hx hb d_Leftover_cover_90 (lv_at hl 8 rfl) ?_
              refine n_iadd hx hb d_Leftover_cover_92 ?_
              refine lv_iconst (v := (nI 1)) hx hb d_Leftover_cover_93 (by decide) ?_
              refine n_zast hx hb hK hP hD hS 1 2 rfl rfl nar_z1 (by omega) (by omega) d_Leftover_cover_94 (fun H locs hP hD hS => ?_)
              rw [upd_b1] at hP hD
              have hP : va_P G vwCl [(hV, .inr (4, [.ref aU, .int (nI sv), .int (nI wd), .int (nI al), .ref aK])), (aK, .inl (ty 2, nK_, .inl (bF (va_up kv2 ((Y * al) + X) true)))), (hQ, .inr (6, [.ref aQ, .ref aC, .int (nI np), .long (iL tot), .int (nI rm)])), (aQ, .inl (ty 5, 6, .inr (.inr (.inr (.inr fQ))))), (aR 0, .inl (ty 0, rm, .inl (nF f0))), (aR 1, .inl (ty 0, rm, .inl (nF f1))), (aR 2, .inl (ty 0, rm, .inl (nF f2))), (aR 3, .inl (ty 0, rm, .inl (nF f3)))] _ := hP
              have hD : va_D A [(hV, .inr (4, [.ref aU, .int (nI sv), .int (nI wd), .int (nI al), .ref aK])), (aK, .inl (ty 2, nK_, .inl (bF (va_up kv2 ((Y * al) + X) true)))), (hQ, .inr (6, [.ref aQ, .ref aC, .int (nI np), .long (iL tot), .int (nI rm)])), (aQ, .inl (ty 5, 6, .inr (.inr (.inr (.inr fQ))))), (aR 0, .inl (ty 0, rm, .inl (nF f0))), (aR 1, .inl (ty 0, rm, .inl (nF f1))), (aR 2, .inl (ty 0, rm, .inl (nF f2))), (aR 3, .inl (ty 0, rm, .inl (nF f3)))] := hD
              have hA3 : ∀ x y, x < al → y < wd → (va_up kv2 ((Y * al) + X) true) (y * al + x) = (cvN f0 f1 f2 f3 k x y || decide ((f0 k ≤ x ∧ x < f0 k + f2 k ∧ f1 k ≤ y ∧ y < f1 k + f3 k) ∧ (y < Y ∨ (y = Y ∧ x < X + 1)))) := fun x y h1 h2 => by by_cases q : x = X ∧ y = Y; exact (by rw [q.1, q.2, va_up_self, decide_eq_true (by omega), Bool.or_true]); exact (by rw [va_up_ne _ _ (fun z => q (rm_inj h1 (by omega) z)), hA2 x y h1 h2]; congr 1; exact decide_eq_decide.mpr (by omega))
              refine lv_iinc (v := (nI (X + 1))) (lv' := [(8, .int (nI (X + 1))), (0, .ref hV), (1, .ref hQ), (2, .int (nI k)), (3, .int (nI (f0 k))), (4, .int (nI (f1 k))), (5, .int (nI (f0 k + f2 k))), (6, .int (nI (f1 k + f3 k))), (7, .int (nI Y))]) hx hb d_Leftover_cover_95 hl (k := 8) rfl (nI_inc _ _ _ (by omega)) (by decide) rfl (fun ls hl => ?_)
              refine lv_goto (tgt := 72) hx hb d_Leftover_cover_98 (by decide) ?_
              exact ih72 (X + 1) (va_up kv2 ((Y * al) + X) true) _ _ _ (by omega) hA3 (by omega) hP hD hS (lv_sub hl [1, 2, 3, 4, 5, 6, 7, 8, 0] rfl)
        exact L72 (f0 k + f2 k - (f0 k) + 1) (f0 k) kv2 _ _ _ (by omega) (fun x y h1 h2 => by rw [hA1 x y h1 h2]; congr 1; exact decide_eq_decide.mpr (by omega)) (Nat.lt_succ_self _) hP hD hS (lv_sub hl [1, 2, 3, 4, 5, 6, 7, 8, 0] rfl)
  exact L62 (f1 k + f3 k - (f1 k) + 1) (f1 k) kv _ _ _ (by omega) (fun x y h1 h2 => by rw [gK x y h1 h2, decide_eq_false (by omega), Bool.or_false]) (Nat.lt_succ_self _) hP hD hS (lv_sub hl [5, 6, 7, 4, 3, 2, 1, 0] rfl)

abbrev q_Leftover_gather (G : va_G) (ty : Nat → ClassId) (hV : Nat) (aU : Nat) (aK : Nat) (sv : Nat) (wd : Nat) (al : Nat) (nV : Nat) (nK_ : Nat) (fU : Nat → Option Nat) (aI : Nat → Nat) (w0 : Nat → Nat) (w1 : Nat → Nat) (w2 : Nat → Nat) (kv : Nat → Bool) (hQ : Nat) (aQ : Nat) (aC : Nat) (np : Nat) (rm : Nat) (tot : Int) (fQ : Nat → Option Nat) (aR : Nat → Nat) (f0 : Nat → Nat) (f1 : Nat → Nat) (f2 : Nat → Nat) (f3 : Nat → Nat) (A : Nat → Prop) : Array Value → State → Outcome → State → Prop := va_Qv (fun (uu : Nat × (Nat → Nat) × (Nat → Nat) × (Nat → Nat) × (Nat → Bool)) => uu.1 = nbA (cvN f0 f1 f2 f3 np) al wd ∧ (∀ k fx fy e, fdC (cvN f0 f1 f2 f3 np) al wd k fx fy → edC (cvN f0 f1 f2 f3 np) al fy fx e → k < uu.1 → uu.2.1 k = fx ∧ uu.2.2.1 k = fy ∧ uu.2.2.2.1 k = e - fx)) (at_W G (fun (uu : Nat × (Nat → Nat) × (Nat → Nat) × (Nat → Nat) × (Nat → Bool)) => [(hV, .inr (4, [.ref aU, .int (nI uu.1), .int (nI wd), .int (nI al), .ref aK])), (aU, .inl (ty 5, 3, .inr (.inr (.inr (.inr fU))))), (aI 0, .inl (ty 0, nV, .inl (nF uu.2.1))), (aI 1, .inl (ty 0, nV, .inl (nF uu.2.2.1))), (aI 2, .inl (ty 0, nV, .inl (nF uu.2.2.2.1))), (aK, .inl (ty 2, nK_, .inl (bF uu.2.2.2.2))), (hQ, .inr (6, [.ref aQ, .ref aC, .int (nI np), .long (iL tot), .int (nI rm)])), (aQ, .inl (ty 5, 6, .inr (.inr (.inr (.inr fQ))))), (aR 0, .inl (ty 0, rm, .inl (nF f0))), (aR 1, .inl (ty 0, rm, .inl (nF f1))), (aR 2, .inl (ty 0, rm, .inl (nF f2))), (aR 3, .inl (ty 0, rm, .inl (nF f3)))]) A) A
set_option maxRecDepth 100000 in
set_option maxHeartbeats 4000000 in
theorem c_Leftover_gather (l : Launch) (G : va_G) (ty : Nat → ClassId) (sz : Nat) (hV : Nat) (aU : Nat) (aK : Nat) (sv : Nat) (wd : Nat) (al : Nat) (nV : Nat) (nK_ : Nat) (fU : Nat → Option Nat) (aI : Nat → Nat) (w0 : Nat → Nat) (w1 : Nat → Nat) (w2 : Nat → Nat) (kv : Nat → Bool) (hQ : Nat) (aQ : Nat) (aC : Nat) (np : Nat) (rm : Nat) (tot : Int) (fQ : Nat → Option Nat) (aR : Nat → Nat) (f0 : Nat → Nat) (f1 : Nat → Nat) (f2 : Nat → Nat) (f3 : Nat → Nat) (gu : ∀ i, i < 3 → fU i = some (aI i)) (gwd : wd ≤ 10) (gal : al ≤ 24) (gnV : nV = wd * ((al + 1) / 2)) (gnK : nK_ = wd * al) (gq : ∀ i, i < 6 → fQ i = some (aR i)) (grm : rm ≤ 240) (gnp : np ≤ rm) (gbx : ∀ k, k < np → f0 k + f2 k ≤ al ∧ f1 k + f3 k ≤ wd) : Met l y_Leftover_gather ws_Leftover_gather { frames := 2, cells := 0, slots := 0, locals := 49 } (va_Pc [.ref hV, .ref hQ] (fun U => U.heap.size = sz ∧ va_P G vwCl [(hV, .inr (4, [.ref aU, .int (nI sv), .int (nI wd), .int (nI al), .ref aK])), (aU, .inl (ty 5, 3, .inr (.inr (.inr (.inr fU))))), (aI 0, .inl (ty 0, nV, .inl (nF w0))), (aI 1, .inl (ty 0, nV, .inl (nF w1))), (aI 2, .inl (ty 0, nV, .inl (nF w2))), (aK, .inl (ty 2, nK_, .inl (bF kv))), (hQ, .inr (6, [.ref aQ, .ref aC, .int (nI np), .long (iL tot), .int (nI rm)])), (aQ, .inl (ty 5, 6, .inr (.inr (.inr (.inr fQ))))), (aR 0, .inl (ty 0, rm, .inl (nF f0))), (aR 1, .inl (ty 0, rm, .inl (nF f1))), (aR 2, .inl (ty 0, rm, .inl (nF f2))), (aR 3, .inl (ty 0, rm, .inl (nF f3)))] U.heap ∧ KX G ty U ∧ va_D (fun _ => True) [(hV, .inr (4, [.ref aU, .int (nI sv), .int (nI wd), .int (nI al), .ref aK])), (aU, .inl (ty 5, 3, .inr (.inr (.inr (.inr fU))))), (aI 0, .inl (ty 0, nV, .inl (nF w0))), (aI 1, .inl (ty 0, nV, .inl (nF w1))), (aI 2, .inl (ty 0, nV, .inl (nF w2))), (aK, .inl (ty 2, nK_, .inl (bF kv))), (hQ, .inr (6, [.ref aQ, .ref aC, .int (nI np), .long (iL tot), .int (nI rm)])), (aQ, .inl (ty 5, 6, .inr (.inr (.inr (.inr fQ))))), (aR 0, .inl (ty 0, rm, .inl (nF f0))), (aR 1, .inl (ty 0, rm, .inl (nF f1))), (aR 2, .inl (ty 0, rm, .inl (nF f2))), (aR 3, .inl (ty 0, rm, .inl (nF f3)))])) (q_Leftover_gather G ty hV aU aK sv wd al nV nK_ fU aI w0 w1 w2 kv hQ aQ aC np rm tot fQ aR f0 f1 f2 f3 (va_A [(hV, .inr (4, [.ref aU, .int (nI sv), .int (nI wd), .int (nI al), .ref aK])), (aU, .inl (ty 5, 3, .inr (.inr (.inr (.inr fU))))), (aI 0, .inl (ty 0, nV, .inl (nF w0))), (aI 1, .inl (ty 0, nV, .inl (nF w1))), (aI 2, .inl (ty 0, nV, .inl (nF w2))), (aK, .inl (ty 2, nK_, .inl (bF kv))), (hQ, .inr (6, [.ref aQ, .ref aC, .int (nI np), .long (iL tot), .int (nI rm)])), (aQ, .inl (ty 5, 6, .inr (.inr (.inr (.inr fQ))))), (aR 0, .inl (ty 0, rm, .inl (nF f0))), (aR 1, .inl (ty 0, rm, .inl (nF f1))), (aR 2, .inl (ty 0, rm, .inl (nF f2))), (aR 3, .inl (ty 0, rm, .inl (nF f3)))] sz)) 0 0 (va_A [(hV, .inr (4, [.ref aU, .int (nI sv), .int (nI wd), .int (nI al), .ref aK])), (aU, .inl (ty 5, 3, .inr (.inr (.inr (.inr fU))))), (aI 0, .inl (ty 0, nV, .inl (nF w0))), (aI 1, .inl (ty 0, nV, .inl (nF w1))), (aI 2, .inl (ty 0, nV, .inl (nF w2))), (aK, .inl (ty 2, nK_, .inl (bF kv))), (hQ, .inr (6, [.ref aQ, .ref aC, .int (nI np), .long (iL tot), .int (nI rm)])), (aQ, .inl (ty 5, 6, .inr (.inr (.inr (.inr fQ))))), (aR 0, .inl (ty 0, rm, .inl (nF f0))), (aR 1, .inl (ty 0, rm, .inl (nF f1))), (aR 2, .inl (ty 0, rm, .inl (nF f2))), (aR 3, .inl (ty 0, rm, .inl (nF f3)))] sz) := by
  refine met_wr (y := y_Leftover_gather) (maxL := 3) (sz := sz) (G := G) (ty := ty) (mc := 0) (ms := 0) (av := [.ref hV, .ref hQ]) (W0 := [(hV, .inr (4, [.ref aU, .int (nI sv), .int (nI wd), .int (nI al), .ref aK])), (aU, .inl (ty 5, 3, .inr (.inr (.inr (.inr fU))))), (aI 0, .inl (ty 0, nV, .inl (nF w0))), (aI 1, .inl (ty 0, nV, .inl (nF w1))), (aI 2, .inl (ty 0, nV, .inl (nF w2))), (aK, .inl (ty 2, nK_, .inl (bF kv))), (hQ, .inr (6, [.ref aQ, .ref aC, .int (nI np), .long (iL tot), .int (nI rm)])), (aQ, .inl (ty 5, 6, .inr (.inr (.inr (.inr fQ))))), (aR 0, .inl (ty 0, rm, .inl (nF f0))), (aR 1, .inl (ty 0, rm, .inl (nF f1))), (aR 2, .inl (ty 0, rm, .inl (nF f2))), (aR 3, .inl (ty 0, rm, .inl (nF f3)))]) (fun A => q_Leftover_gather G ty hV aU aK sv wd al nV nK_ fU aI w0 w1 w2 kv hQ aQ aC np rm tot fQ aR f0 f1 f2 f3 A) R_Leftover (by decide) rfl rfl (Nat.le_of_ble_eq_true rfl) ?_
  intro p e s m below meth c ls A hx hb hr hml hown hts hlocks hin hA hP hX hD hS hl
  have hK := hX.1
  have hl : lv_has ls 3 [(0, .ref hV), (1, .ref hQ)] := hl
  have hnK : nK_ ≤ 240 := by rw [gnK]; exact Nat.mul_le_mul gwd gal
  refine lv_iconst (v := (nI 0)) hx hb d_Leftover_gather_0 (by decide) ?_
  refine lv_istore_n (lv' := [(2, .int (nI 0)), (0, .ref hV), (1, .ref hQ)]) hx hb d_Leftover_gather_1 rfl hl (by decide) rfl (fun ls hl => ?_)
  have L2 : ∀ (k9 : Nat) (i : Nat) (kv2 : Nat → Bool) (H : Heap) (locs : List Loc) (ls : Array Slot), (i ≤ nK_) → (∀ j, j < i → kv2 j = false) → nK_ - i < k9 → va_P G vwCl [(hV, .inr (4, [.ref aU, .int (nI sv), .int (nI wd), .int (nI al), .ref aK])), (aU, .inl (ty 5, 3, .inr (.inr (.inr (.inr fU))))), (aI 0, .inl (ty 0, nV, .inl (nF w0))), (aI 1, .inl (ty 0, nV, .inl (nF w1))), (aI 2, .inl (ty 0, nV, .inl (nF w2))), (aK, .inl (ty 2, nK_, .inl (bF kv2))), (hQ, .inr (6, [.ref aQ, .ref aC, .int (nI np), .long (iL tot), .int (nI rm)])), (aQ, .inl (ty 5, 6, .inr (.inr (.inr (.inr fQ))))), (aR 0, .inl (ty 0, rm, .inl (nF f0))), (aR 1, .inl (ty 0, rm, .inl (nF f1))), (aR 2, .inl (ty 0, rm, .inl (nF f2))), (aR 3, .inl (ty 0, rm, .inl (nF f3)))] H → va_D A [(hV, .inr (4, [.ref aU, .int (nI sv), .int (nI wd), .int (nI al), .ref aK])), (aU, .inl (ty 5, 3, .inr (.inr (.inr (.inr fU))))), (aI 0, .inl (ty 0, nV, .inl (nF w0))), (aI 1, .inl (ty 0, nV, .inl (nF w1))), (aI 2, .inl (ty 0, nV, .inl (nF w2))), (aK, .inl (ty 2, nK_, .inl (bF kv2))), (hQ, .inr (6, [.ref aQ, .ref aC, .int (nI np), .long (iL tot), .int (nI rm)])), (aQ, .inl (ty 5, 6, .inr (.inr (.inr (.inr fQ))))), (aR 0, .inl (ty 0, rm, .inl (nF f0))), (aR 1, .inl (ty 0, rm, .inl (nF f1))), (aR 2, .inl (ty 0, rm, .inl (nF f2))), (aR 3, .inl (ty 0, rm, .inl (nF f3)))] → va_S A s.heap H locs → lv_has ls 3 [(0, .ref hV), (1, .ref hQ), (2, .int (nI i))] → W p l e { frames := 2, cells := 0, slots := 0, locals := 49 } s m [.ref hV, .ref hQ].toArray below meth c H locs 0 0 (MQ below (q_Leftover_gather G ty hV aU aK sv wd al nV nK_ fU aI w0 w1 w2 kv hQ aQ aC np rm tot fQ aR f0 f1 f2 f3 A) [.ref hV, .ref hQ].toArray s 0 0 A) (F0 m 2 ls []) := by
    intro k9
    induction k9 with
    | zero => intro i kv2 H locs ls hi hA1 hk9; exact absurd hk9 (Nat.not_lt_zero _)
    | succ k9 ih2 =>
      intro i kv2 H locs ls hi hA1 hk9 hP hD hS hl
      refine lv_iload_n hx hb d_Leftover_gather_2 rfl (lv_at hl 2 rfl) ?_
      refine lv_aload_n hx hb d_Leftover_gather_3 rfl (lv_at hl 0 rfl) ?_
      refine va_get (D := G) (ci := 4) (v := .ref aK) (C := R_Leftover) (T := F_Leftover) (N := 5) hx hb hts in_Leftover hown hK hP 0 rfl rfl 4 (by decide) (hts _ fl_Leftover_29) (fun _ h9 => h9) rfl d_Leftover_gather_4 ?_
      refine n_alen hx hb hK hP 5 2 rfl rfl d_Leftover_gather_7 ?_
      refine n_icmp_ge (tgt := 24) hx hb (by omega) (by omega) d_Leftover_gather_8 (by decide) (fun c8 => ?_) (fun c8 => ?_)
      · refine lv_iconst (v := (nI 0)) hx hb d_Leftover_gather_24 (by decide) ?_
        refine lv_istore_n (lv' := [(2, .int (nI 0)), (0, .ref hV), (1, .ref hQ)]) hx hb d_Leftover_gather_25 rfl hl (by decide) rfl (fun ls hl => ?_)
        have L26 : ∀ (k9 : Nat) (i : Nat) (kv2 : Nat → Bool) (H : Heap) (locs : List Loc) (ls : Array Slot), (i ≤ np) → (∀ x y, x < al → y < wd → kv2 (y * al + x) = cvN f0 f1 f2 f3 i x y) → np - i < k9 → va_P G vwCl [(hV, .inr (4, [.ref aU, .int (nI sv), .int (nI wd), .int (nI al), .ref aK])), (aU, .inl (ty 5, 3, .inr (.inr (.inr (.inr fU))))), (aI 0, .inl (ty 0, nV, .inl (nF w0))), (aI 1, .inl (ty 0, nV, .inl (nF w1))), (aI 2, .inl (ty 0, nV, .inl (nF w2))), (aK, .inl (ty 2, nK_, .inl (bF kv2))), (hQ, .inr (6, [.ref aQ, .ref aC, .int (nI np), .long (iL tot), .int (nI rm)])), (aQ, .inl (ty 5, 6, .inr (.inr (.inr (.inr fQ))))), (aR 0, .inl (ty 0, rm, .inl (nF f0))), (aR 1, .inl (ty 0, rm, .inl (nF f1))), (aR 2, .inl (ty 0, rm, .inl (nF f2))), (aR 3, .inl (ty 0, rm, .inl (nF f3)))] H → va_D A [(hV, .inr (4, [.ref aU, .int (nI sv), .int (nI wd), .int (nI al), .ref aK])), (aU, .inl (ty 5, 3, .inr (.inr (.inr (.inr fU))))), (aI 0, .inl (ty 0, nV, .inl (nF w0))), (aI 1, .inl (ty 0, nV, .inl (nF w1))), (aI 2, .inl (ty 0, nV, .inl (nF w2))), (aK, .inl (ty 2, nK_, .inl (bF kv2))), (hQ, .inr (6, [.ref aQ, .ref aC, .int (nI np), .long (iL tot), .int (nI rm)])), (aQ, .inl (ty 5, 6, .inr (.inr (.inr (.inr fQ))))), (aR 0, .inl (ty 0, rm, .inl (nF f0))), (aR 1, .inl (ty 0, rm, .inl (nF f1))), (aR 2, .inl (ty 0, rm, .inl (nF f2))), (aR 3, .inl (ty 0, rm, .inl (nF f3)))] → va_S A s.heap H locs → lv_has ls 3 [(0, .ref hV), (1, .ref hQ), (2, .int (nI i))] → W p l e { frames := 2, cells := 0, slots := 0, locals := 49 } s m [.ref hV, .ref hQ].toArray below meth c H locs 0 0 (MQ below (q_Leftover_gather G ty hV aU aK sv wd al nV nK_ fU aI w0 w1 w2 kv hQ aQ aC np rm tot fQ aR f0 f1 f2 f3 A) [.ref hV, .ref hQ].toArray s 0 0 A) (F0 m 26 ls []) := by
          intro k9
          induction k9 with
          | zero => intro i kv2 H locs ls hi2 hA2 hk9; exact absurd hk9 (Nat.not_lt_zero _)
          | succ k9 ih26 =>
            intro i kv2 H locs ls hi2 hA2 hk9 hP hD hS hl
            refine lv_iload_n hx hb d_Leftover_gather_26 rfl (lv_at hl 2 rfl) ?_
            refine lv_aload_n hx hb d_Leftover_gather_27 rfl (lv_at hl 1 rfl) ?_
            refine va_get (D := G) (ci := 6) (v := .int (nI np)) (C := R_Plan) (T := F_Plan) (N := 5) hx hb hts in_Plan hown hK hP 6 rfl rfl 2 (by decide) (hts _ fl_Leftover_38) (fun _ h9 => h9) rfl d_Leftover_gather_28 ?_
            refine n_icmp_ge (tgt := 46) hx hb (by omega) (by omega) d_Leftover_gather_31 (by decide) (fun c31 => ?_) (fun c31 => ?_)
            · refine lv_aload_n hx hb d_Leftover_gather_46 rfl (lv_at hl 0 rfl) ?_
              refine lv_iconst (v := (nI 0)) hx hb d_Leftover_gather_47 (by decide) ?_
              refine va_put (D := G) (ci := 4) (v := .int (nI 0)) (ty := .int) (C := R_Leftover) (T := F_Leftover) (N := 5) hx hb hts in_Leftover t_Leftover t_Leftover_ok n_Leftover hown hK hP hD hS 0 rfl rfl 1 (by decide) (hts _ fl_Leftover_9) (fun _ h9 => h9) rfl (by decide +kernel) rfl rfl (Nat.le_of_ble_eq_true rfl) d_Leftover_gather_48 (fun H locs hP hD hS => ?_)
              have hP : va_P G vwCl [(hV, .inr (4, [.ref aU, .int (nI 0), .int (nI wd), .int (nI al), .ref aK])), (aU, .inl (ty 5, 3, .inr (.inr (.inr (.inr fU))))), (aI 0, .inl (ty 0, nV, .inl (nF w0))), (aI 1, .inl (ty 0, nV, .inl (nF w1))), (aI 2, .inl (ty 0, nV, .inl (nF w2))), (aK, .inl (ty 2, nK_, .inl (bF kv2))), (hQ, .inr (6, [.ref aQ, .ref aC, .int (nI np), .long (iL tot), .int (nI rm)])), (aQ, .inl (ty 5, 6, .inr (.inr (.inr (.inr fQ))))), (aR 0, .inl (ty 0, rm, .inl (nF f0))), (aR 1, .inl (ty 0, rm, .inl (nF f1))), (aR 2, .inl (ty 0, rm, .inl (nF f2))), (aR 3, .inl (ty 0, rm, .inl (nF f3)))] _ := hP
              have hD : va_D A [(hV, .inr (4, [.ref aU, .int (nI 0), .int (nI wd), .int (nI al), .ref aK])), (aU, .inl (ty 5, 3, .inr (.inr (.inr (.inr fU))))), (aI 0, .inl (ty 0, nV, .inl (nF w0))), (aI 1, .inl (ty 0, nV, .inl (nF w1))), (aI 2, .inl (ty 0, nV, .inl (nF w2))), (aK, .inl (ty 2, nK_, .inl (bF kv2))), (hQ, .inr (6, [.ref aQ, .ref aC, .int (nI np), .long (iL tot), .int (nI rm)])), (aQ, .inl (ty 5, 6, .inr (.inr (.inr (.inr fQ))))), (aR 0, .inl (ty 0, rm, .inl (nF f0))), (aR 1, .inl (ty 0, rm, .inl (nF f1))), (aR 2, .inl (ty 0, rm, .inl (nF f2))), (aR 3, .inl (ty 0, rm, .inl (nF f3)))] := hD
              have hnp : i = np := by omega
              rw [hnp] at hA2
              refine lv_iconst (v := (nI 0)) hx hb d_Leftover_gather_51 (by decide) ?_
              refine lv_istore_n (lv' := [(2, .int (nI 0)), (0, .ref hV), (1, .ref hQ)]) hx hb d_Leftover_gather_52 rfl hl (by decide) rfl (fun ls hl => ?_)
              have L53 : ∀ (k9 : Nat) (Y : Nat) (sv2 : Nat) (u0 : Nat → Nat) (u1 : Nat → Nat) (u2 : Nat → Nat) (H : Heap) (locs : List Loc) (ls : Array Slot), (Y ≤ wd) → (sv2 = nbA (cvN f0 f1 f2 f3 np) al Y) → (∀ k fx fy e, fdC (cvN f0 f1 f2 f3 np) al wd k fx fy → edC (cvN f0 f1 f2 f3 np) al fy fx e → k < sv2 → u0 k = fx ∧ u1 k = fy ∧ u2 k = e - fx) → wd - Y < k9 → va_P G vwCl [(hV, .inr (4, [.ref aU, .int (nI sv2), .int (nI wd), .int (nI al), .ref aK])), (aU, .inl (ty 5, 3, .inr (.inr (.inr (.inr fU))))), (aI 0, .inl (ty 0, nV, .inl (nF u0))), (aI 1, .inl (ty 0, nV, .inl (nF u1))), (aI 2, .inl (ty 0, nV, .inl (nF u2))), (aK, .inl (ty 2, nK_, .inl (bF kv2))), (hQ, .inr (6, [.ref aQ, .ref aC, .int (nI np), .long (iL tot), .int (nI rm)])), (aQ, .inl (ty 5, 6, .inr (.inr (.inr (.inr fQ))))), (aR 0, .inl (ty 0, rm, .inl (nF f0))), (aR 1, .inl (ty 0, rm, .inl (nF f1))), (aR 2, .inl (ty 0, rm, .inl (nF f2))), (aR 3, .inl (ty 0, rm, .inl (nF f3)))] H → va_D A [(hV, .inr (4, [.ref aU, .int (nI sv2), .int (nI wd), .int (nI al), .ref aK])), (aU, .inl (ty 5, 3, .inr (.inr (.inr (.inr fU))))), (aI 0, .inl (ty 0, nV, .inl (nF u0))), (aI 1, .inl (ty 0, nV, .inl (nF u1))), (aI 2, .inl (ty 0, nV, .inl (nF u2))), (aK, .inl (ty 2, nK_, .inl (bF kv2))), (hQ, .inr (6, [.ref aQ, .ref aC, .int (nI np), .long (iL tot), .int (nI rm)])), (aQ, .inl (ty 5, 6, .inr (.inr (.inr (.inr fQ))))), (aR 0, .inl (ty 0, rm, .inl (nF f0))), (aR 1, .inl (ty 0, rm, .inl (nF f1))), (aR 2, .inl (ty 0, rm, .inl (nF f2))), (aR 3, .inl (ty 0, rm, .inl (nF f3)))] → va_S A s.heap H locs → lv_has ls 3 [(0, .ref hV), (1, .ref hQ), (2, .int (nI Y))] → W p l e { frames := 2, cells := 0, slots := 0, locals := 49 } s m [.ref hV, .ref hQ].toArray below meth c H locs 0 0 (MQ below (q_Leftover_gather G ty hV aU aK sv wd al nV nK_ fU aI w0 w1 w2 kv hQ aQ aC np rm tot fQ aR f0 f1 f2 f3 A) [.ref hV, .ref hQ].toArray s 0 0 A) (F0 m 53 ls []) := by
                intro k9
                induction k9 with
                | zero => intro Y sv2 u0 u1 u2 H locs ls hY hs2 hF2 hk9; exact absurd hk9 (Nat.not_lt_zero _)
                | succ k9 ih53 =>
                  intro Y sv2 u0 u1 u2 H locs ls hY hs2 hF2 hk9 hP hD hS hl
                  refine lv_iload_n hx hb d_Leftover_gather_53 rfl (lv_at hl 2 rfl) ?_
                  refine lv_aload_n hx hb d_Leftover_gather_54 rfl (lv_at hl 0 rfl) ?_
                  refine va_get (D := G) (ci := 4) (v := .int (nI wd)) (C := R_Leftover) (T := F_Leftover) (N := 5) hx hb hts in_Leftover hown hK hP 0 rfl rfl 2 (by decide) (hts _ fl_Leftover_20) (fun _ h9 => h9) rfl d_Leftover_gather_55 ?_
                  refine n_icmp_ge (tgt := 72) hx hb (by omega) (by omega) d_Leftover_gather_58 (by decide) (fun c58 => ?_) (fun c58 => ?_)
                  · exact W.vret hx hb hr (fun t9 ht hW => ⟨⟨(sv2, u0, u1, u2, kv2), rfl, by rw [show Y = wd by omega] at hs2; exact ⟨hs2, hF2⟩, by rw [ht]; exact hP, hD⟩, hS.F ht⟩) hS.2.2 d_Leftover_gather_72
                  · refine lv_aload_n hx hb d_Leftover_gather_61 rfl (lv_at hl 0 rfl) ?_
                    refine lv_iload_n hx hb d_Leftover_gather_62 rfl (lv_at hl 2 rfl) ?_
                    refine call_wr_v (Wc := [(hV, .inr (4, [.ref aU, .int (nI sv2), .int (nI wd), .int (nI al), .ref aK])), (aU, .inl (ty 5, 3, .inr (.inr (.inr (.inr fU))))), (aI 0, .inl (ty 0, nV, .inl (nF u0))), (aI 1, .inl (ty 0, nV, .inl (nF u1))), (aI 2, .inl (ty 0, nV, .inl (nF u2))), (aK, .inl (ty 2, nK_, .inl (bF kv2)))]) (Wr := [(hQ, .inr (6, [.ref aQ, .ref aC, .int (nI np), .long (iL tot), .int (nI rm)])), (aQ, .inl (ty 5, 6, .inr (.inr (.inr (.inr fQ))))), (aR 0, .inl (ty 0, rm, .inl (nF f0))), (aR 1, .inl (ty 0, rm, .inl (nF f1))), (aR 2, .inl (ty 0, rm, .inl (nF f2))), (aR 3, .inl (ty 0, rm, .inl (nF f3)))]) (va_runV (As := [.int (nI Y)]) (rest := []) ⟨hx, hb, hml, hown, hts⟩ (c_Leftover_gatherRow l G ty _ hV aU aK sv2 wd al nV nK_ fU aI u0 u1 u2 kv2 Y (cvN f0 f1 f2 f3 np) gu (by omega) (by omega) gnV gnK (by omega) (fun i hi => hA2 i Y hi (by omega)) hs2 hF2) ⟨callB_of 1 hts (gd_TB cd_Leftover_gatherRow) rfl rfl rfl (hts _ ini_Leftover) (hts _ lk_Leftover_45) hd_Leftover_gatherRow ⟨Nat.le_of_ble_eq_true rfl, Nat.le_of_ble_eq_true rfl⟩, hts _ im_Leftover_gatherRow, hts _ sl_Leftover_gatherRow⟩ (preV_wr (hP.sub (ws' := [(hV, .inr (4, [.ref aU, .int (nI sv2), .int (nI wd), .int (nI al), .ref aK])), (aU, .inl (ty 5, 3, .inr (.inr (.inr (.inr fU))))), (aI 0, .inl (ty 0, nV, .inl (nF u0))), (aI 1, .inl (ty 0, nV, .inl (nF u1))), (aI 2, .inl (ty 0, nV, .inl (nF u2))), (aK, .inl (ty 2, nK_, .inl (bF kv2)))]) [0, 1, 2, 3, 4, 5] rfl) hX (hD.sub (ws' := [(hV, .inr (4, [.ref aU, .int (nI sv2), .int (nI wd), .int (nI al), .ref aK])), (aU, .inl (ty 5, 3, .inr (.inr (.inr (.inr fU))))), (aI 0, .inl (ty 0, nV, .inl (nF u0))), (aI 1, .inl (ty 0, nV, .inl (nF u1))), (aI 2, .inl (ty 0, nV, .inl (nF u2))), (aK, .inl (ty 2, nK_, .inl (bF kv2)))]) [0, 1, 2, 3, 4, 5] (by decide) rfl) 0 rfl rfl) rfl rfl hl.1 rfl (lv_room (Nat.le_of_ble_eq_true rfl)) d_Leftover_gather_63 ⟨Nat.le_of_ble_eq_true rfl, Nat.le_of_ble_eq_true rfl⟩) hP hD hS hA [0, 1, 2, 3, 4, 5] [6, 7, 8, 9, 10, 11] rfl rfl (by decide) (by decide) (fun u9 H locs hw5 hP hD hS => ?_)
                    obtain ⟨sv4, t0, t1, t2⟩ := u9
                    have hw5 : sv4 = nbA (cvN f0 f1 f2 f3 np) al (Y + 1) ∧ (∀ k fx fy e, fdC (cvN f0 f1 f2 f3 np) al wd k fx fy → edC (cvN f0 f1 f2 f3 np) al fy fx e → k < sv4 → t0 k = fx ∧ t1 k = fy ∧ t2 k = e - fx) := hw5
                    have hP : va_P G vwCl [(hQ, .inr (6, [.ref aQ, .ref aC, .int (nI np), .long (iL tot), .int (nI rm)])), (aQ, .inl (ty 5, 6, .inr (.inr (.inr (.inr fQ))))), (aR 0, .inl (ty 0, rm, .inl (nF f0))), (aR 1, .inl (ty 0, rm, .inl (nF f1))), (aR 2, .inl (ty 0, rm, .inl (nF f2))), (aR 3, .inl (ty 0, rm, .inl (nF f3))), (hV, .inr (4, [.ref aU, .int (nI sv4), .int (nI wd), .int (nI al), .ref aK])), (aU, .inl (ty 5, 3, .inr (.inr (.inr (.inr fU))))), (aI 0, .inl (ty 0, nV, .inl (nF t0))), (aI 1, .inl (ty 0, nV, .inl (nF t1))), (aI 2, .inl (ty 0, nV, .inl (nF t2))), (aK, .inl (ty 2, nK_, .inl (bF kv2)))] _ := hP
                    have hD : va_D A [(hQ, .inr (6, [.ref aQ, .ref aC, .int (nI np), .long (iL tot), .int (nI rm)])), (aQ, .inl (ty 5, 6, .inr (.inr (.inr (.inr fQ))))), (aR 0, .inl (ty 0, rm, .inl (nF f0))), (aR 1, .inl (ty 0, rm, .inl (nF f1))), (aR 2, .inl (ty 0, rm, .inl (nF f2))), (aR 3, .inl (ty 0, rm, .inl (nF f3))), (hV, .inr (4, [.ref aU, .int (nI sv4), .int (nI wd), .int (nI al), .ref aK])), (aU, .inl (ty 5, 3, .inr (.inr (.inr (.inr fU))))), (aI 0, .inl (ty 0, nV, .inl (nF t0))), (aI 1, .inl (ty 0, nV, .inl (nF t1))), (aI 2, .inl (ty 0, nV, .inl (nF t2))), (aK, .inl (ty 2, nK_, .inl (bF kv2)))] := hD
                    obtain ⟨hs3, hF3⟩ := hw5
                    refine lv_iinc (v := (nI (Y + 1))) (lv' := [(2, .int (nI (Y + 1))), (0, .ref hV), (1, .ref hQ)]) hx hb d_Leftover_gather_66 hl (k := 2) rfl (nI_inc _ _ _ (by omega)) (by decide) rfl (fun ls hl => ?_)
                    refine lv_goto (tgt := 53) hx hb d_Leftover_gather_69 (by decide) ?_
                    have hP : va_P G vwCl [(hV, .inr (4, [.ref aU, .int (nI sv4), .int (nI wd), .int (nI al), .ref aK])), (aU, .inl (ty 5, 3, .inr (.inr (.inr (.inr fU))))), (aI 0, .inl (ty 0, nV, .inl (nF t0))), (aI 1, .inl (ty 0, nV, .inl (nF t1))), (aI 2, .inl (ty 0, nV, .inl (nF t2))), (aK, .inl (ty 2, nK_, .inl (bF kv2))), (hQ, .inr (6, [.ref aQ, .ref aC, .int (nI np), .long (iL tot), .int (nI rm)])), (aQ, .inl (ty 5, 6, .inr (.inr (.inr (.inr fQ))))), (aR 0, .inl (ty 0, rm, .inl (nF f0))), (aR 1, .inl (ty 0, rm, .inl (nF f1))), (aR 2, .inl (ty 0, rm, .inl (nF f2))), (aR 3, .inl (ty 0, rm, .inl (nF f3)))] _ := hP.sub [6, 7, 8, 9, 10, 11, 0, 1, 2, 3, 4, 5] rfl
                    have hD : va_D A [(hV, .inr (4, [.ref aU, .int (nI sv4), .int (nI wd), .int (nI al), .ref aK])), (aU, .inl (ty 5, 3, .inr (.inr (.inr (.inr fU))))), (aI 0, .inl (ty 0, nV, .inl (nF t0))), (aI 1, .inl (ty 0, nV, .inl (nF t1))), (aI 2, .inl (ty 0, nV, .inl (nF t2))), (aK, .inl (ty 2, nK_, .inl (bF kv2))), (hQ, .inr (6, [.ref aQ, .ref aC, .int (nI np), .long (iL tot), .int (nI rm)])), (aQ, .inl (ty 5, 6, .inr (.inr (.inr (.inr fQ))))), (aR 0, .inl (ty 0, rm, .inl (nF f0))), (aR 1, .inl (ty 0, rm, .inl (nF f1))), (aR 2, .inl (ty 0, rm, .inl (nF f2))), (aR 3, .inl (ty 0, rm, .inl (nF f3)))] := hD.sub [6, 7, 8, 9, 10, 11, 0, 1, 2, 3, 4, 5] (by decide) rfl
                    exact ih53 (Y + 1) sv4 t0 t1 t2 _ _ _ (by omega) hs3 hF3 (by omega) hP hD hS (lv_sub hl [1, 2, 0] rfl)
              exact L53 (wd - 0 + 1) 0 0 w0 w1 w2 _ _ _ (Nat.zero_le _) rfl (fun k fx fy e h1 h2 h3 => absurd h3 (by omega)) (Nat.lt_succ_self _) hP hD hS (lv_sub hl [1, 2, 0] rfl)
            · refine lv_aload_n hx hb d_Leftover_gather_34 rfl (lv_at hl 0 rfl) ?_
              refine lv_aload_n hx hb d_Leftover_gather_35 rfl (lv_at hl 1 rfl) ?_
              refine lv_iload_n hx hb d_Leftover_gather_36 rfl (lv_at hl 2 rfl) ?_
              refine call_wr_v (Wc := [(hV, .inr (4, [.ref aU, .int (nI sv), .int (nI wd), .int (nI al), .ref aK])), (aK, .inl (ty 2, nK_, .inl (bF kv2))), (hQ, .inr (6, [.ref aQ, .ref aC, .int (nI np), .long (iL tot), .int (nI rm)])), (aQ, .inl (ty 5, 6, .inr (.inr (.inr (.inr fQ))))), (aR 0, .inl (ty 0, rm, .inl (nF f0))), (aR 1, .inl (ty 0, rm, .inl (nF f1))), (aR 2, .inl (ty 0, rm, .inl (nF f2))), (aR 3, .inl (ty 0, rm, .inl (nF f3)))]) (Wr := [(aU, .inl (ty 5, 3, .inr (.inr (.inr (.inr fU))))), (aI 0, .inl (ty 0, nV, .inl (nF w0))), (aI 1, .inl (ty 0, nV, .inl (nF w1))), (aI 2, .inl (ty 0, nV, .inl (nF w2)))]) (va_runV (As := [.ref hQ, .int (nI i)]) (rest := []) ⟨hx, hb, hml, hown, hts⟩ (c_Leftover_cover l G ty _ hV aU aK sv wd al nK_ kv2 hQ aQ aC np rm tot fQ aR f0 f1 f2 f3 i gq (by omega) (by omega) gbx (by omega) (by omega) gnK (by omega) hA2) ⟨callB_of 2 hts (gd_TB cd_Leftover_cover) rfl rfl rfl (hts _ ini_Leftover) (hts _ lk_Leftover_41) hd_Leftover_cover ⟨Nat.le_of_ble_eq_true rfl, Nat.le_of_ble_eq_true rfl⟩, hts _ im_Leftover_cover, hts _ sl_Leftover_cover⟩ (preV_wr (hP.sub (ws' := [(hV, .inr (4, [.ref aU, .int (nI sv), .int (nI wd), .int (nI al), .ref aK])), (aK, .inl (ty 2, nK_, .inl (bF kv2))), (hQ, .inr (6, [.ref aQ, .ref aC, .int (nI np), .long (iL tot), .int (nI rm)])), (aQ, .inl (ty 5, 6, .inr (.inr (.inr (.inr fQ))))), (aR 0, .inl (ty 0, rm, .inl (nF f0))), (aR 1, .inl (ty 0, rm, .inl (nF f1))), (aR 2, .inl (ty 0, rm, .inl (nF f2))), (aR 3, .inl (ty 0, rm, .inl (nF f3)))]) [0, 5, 6, 7, 8, 9, 10, 11] rfl) hX (hD.sub (ws' := [(hV, .inr (4, [.ref aU, .int (nI sv), .int (nI wd), .int (nI al), .ref aK])), (aK, .inl (ty 2, nK_, .inl (bF kv2))), (hQ, .inr (6, [.ref aQ, .ref aC, .int (nI np), .long (iL tot), .int (nI rm)])), (aQ, .inl (ty 5, 6, .inr (.inr (.inr (.inr fQ))))), (aR 0, .inl (ty 0, rm, .inl (nF f0))), (aR 1, .inl (ty 0, rm, .inl (nF f1))), (aR 2, .inl (ty 0, rm, .inl (nF f2))), (aR 3, .inl (ty 0, rm, .inl (nF f3)))]) [0, 5, 6, 7, 8, 9, 10, 11] (by decide) rfl) 0 rfl rfl) rfl rfl hl.1 rfl (lv_room (Nat.le_of_ble_eq_true rfl)) d_Leftover_gather_37 ⟨Nat.le_of_ble_eq_true rfl, Nat.le_of_ble_eq_true rfl⟩) hP hD hS hA [0, 5, 6, 7, 8, 9, 10, 11] [1, 2, 3, 4] rfl rfl (by decide) (by decide) (fun u9 H locs hw8 hP hD hS => ?_)
              obtain ⟨kv3, rfl⟩ : ∃ z, z = u9 := ⟨_, rfl⟩
              have hw8 : ∀ x y, x < al → y < wd → kv3 (y * al + x) = cvN f0 f1 f2 f3 (i + 1) x y := hw8
              have hP : va_P G vwCl [(aU, .inl (ty 5, 3, .inr (.inr (.inr (.inr fU))))), (aI 0, .inl (ty 0, nV, .inl (nF w0))), (aI 1, .inl (ty 0, nV, .inl (nF w1))), (aI 2, .inl (ty 0, nV, .inl (nF w2))), (hV, .inr (4, [.ref aU, .int (nI sv), .int (nI wd), .int (nI al), .ref aK])), (aK, .inl (ty 2, nK_, .inl (bF kv3))), (hQ, .inr (6, [.ref aQ, .ref aC, .int (nI np), .long (iL tot), .int (nI rm)])), (aQ, .inl (ty 5, 6, .inr (.inr (.inr (.inr fQ))))), (aR 0, .inl (ty 0, rm, .inl (nF f0))), (aR 1, .inl (ty 0, rm, .inl (nF f1))), (aR 2, .inl (ty 0, rm, .inl (nF f2))), (aR 3, .inl (ty 0, rm, .inl (nF f3)))] _ := hP
              have hD : va_D A [(aU, .inl (ty 5, 3, .inr (.inr (.inr (.inr fU))))), (aI 0, .inl (ty 0, nV, .inl (nF w0))), (aI 1, .inl (ty 0, nV, .inl (nF w1))), (aI 2, .inl (ty 0, nV, .inl (nF w2))), (hV, .inr (4, [.ref aU, .int (nI sv), .int (nI wd), .int (nI al), .ref aK])), (aK, .inl (ty 2, nK_, .inl (bF kv3))), (hQ, .inr (6, [.ref aQ, .ref aC, .int (nI np), .long (iL tot), .int (nI rm)])), (aQ, .inl (ty 5, 6, .inr (.inr (.inr (.inr fQ))))), (aR 0, .inl (ty 0, rm, .inl (nF f0))), (aR 1, .inl (ty 0, rm, .inl (nF f1))), (aR 2, .inl (ty 0, rm, .inl (nF f2))), (aR 3, .inl (ty 0, rm, .inl (nF f3)))] := hD
              have hA3 := hw8
              refine lv_iinc (v := (nI (i + 1))) (lv' := [(2, .int (nI (i + 1))), (0, .ref hV), (1, .ref hQ)]) hx hb d_Leftover_gather_40 hl (k := 2) rfl (nI_inc _ _ _ (by omega)) (by decide) rfl (fun ls hl => ?_)
              refine lv_goto (tgt := 26) hx hb d_Leftover_gather_43 (by decide) ?_
              have hP : va_P G vwCl [(hV, .inr (4, [.ref aU, .int (nI sv), .int (nI wd), .int (nI al), .ref aK])), (aU, .inl (ty 5, 3, .inr (.inr (.inr (.inr fU))))), (aI 0, .inl (ty 0, nV, .inl (nF w0))), (aI 1, .inl (ty 0, nV, .inl (nF w1))), (aI 2, .inl (ty 0, nV, .inl (nF w2))), (aK, .inl (ty 2, nK_, .inl (bF kv3))), (hQ, .inr (6, [.ref aQ, .ref aC, .int (nI np), .long (iL tot), .int (nI rm)])), (aQ, .inl (ty 5, 6, .inr (.inr (.inr (.inr fQ))))), (aR 0, .inl (ty 0, rm, .inl (nF f0))), (aR 1, .inl (ty 0, rm, .inl (nF f1))), (aR 2, .inl (ty 0, rm, .inl (nF f2))), (aR 3, .inl (ty 0, rm, .inl (nF f3)))] _ := hP.sub [4, 0, 1, 2, 3, 5, 6, 7, 8, 9, 10, 11] rfl
              have hD : va_D A [(hV, .inr (4, [.ref aU, .int (nI sv), .int (nI wd), .int (nI al), .ref aK])), (aU, .inl (ty 5, 3, .inr (.inr (.inr (.inr fU))))), (aI 0, .inl (ty 0, nV, .inl (nF w0))), (aI 1, .inl (ty 0, nV, .inl (nF w1))), (aI 2, .inl (ty 0, nV, .inl (nF w2))), (aK, .inl (ty 2, nK_, .inl (bF kv3))), (hQ, .inr (6, [.ref aQ, .ref aC, .int (nI np), .long (iL tot), .int (nI rm)])), (aQ, .inl (ty 5, 6, .inr (.inr (.inr (.inr fQ))))), (aR 0, .inl (ty 0, rm, .inl (nF f0))), (aR 1, .inl (ty 0, rm, .inl (nF f1))), (aR 2, .inl (ty 0, rm, .inl (nF f2))), (aR 3, .inl (ty 0, rm, .inl (nF f3)))] := hD.sub [4, 0, 1, 2, 3, 5, 6, 7, 8, 9, 10, 11] (by decide) rfl
              exact ih26 (i + 1) kv3 _ _ _ (by omega) hA3 (by omega) hP hD hS (lv_sub hl [1, 2, 0] rfl)
        exact L26 (np - 0 + 1) 0 kv2 _ _ _ (Nat.zero_le _) (fun x y h1 h2 => hA1 _ (by have h9 := Nat.mul_le_mul_right al (show y + 1 ≤ wd by omega); rw [Nat.succ_mul] at h9; omega)) (Nat.lt_succ_self _) hP hD hS (lv_sub hl [1, 2, 0] rfl)
      · refine lv_aload_n hx hb d_Leftover_gather_11 rfl (lv_at hl 0 rfl) ?_
        refine va_get (D := G) (ci := 4) (v := .ref aK) (C := R_Leftover) (T := F_Leftover) (N := 5) hx hb hts in_Leftover hown hK hP 0 rfl rfl 4 (by decide) (hts _ fl_Leftover_29) (fun _ h9 => h9) rfl d_Leftover_gather_12 ?_
        refine lv_iload_n hx hb d_Leftover_gather_15 rfl (lv_at hl 2 rfl) ?_
        refine lv_iconst (v := (nI 0)) hx hb d_Leftover_gather_16 (by decide) ?_
        refine n_zast hx hb hK hP hD hS 5 2 rfl rfl nar_z0 (by omega) (by omega) d_Leftover_gather_17 (fun H locs hP hD hS => ?_)
        rw [upd_b0] at hP hD
        have hP : va_P G vwCl [(hV, .inr (4, [.ref aU, .int (nI sv), .int (nI wd), .int (nI al), .ref aK])), (aU, .inl (ty 5, 3, .inr (.inr (.inr (.inr fU))))), (aI 0, .inl (ty 0, nV, .inl (nF w0))), (aI 1, .inl (ty 0, nV, .inl (nF w1))), (aI 2, .inl (ty 0, nV, .inl (nF w2))), (aK, .inl (ty 2, nK_, .inl (bF (va_up kv2 i false)))), (hQ, .inr (6, [.ref aQ, .ref aC, .int (nI np), .long (iL tot), .int (nI rm)])), (aQ, .inl (ty 5, 6, .inr (.inr (.inr (.inr fQ))))), (aR 0, .inl (ty 0, rm, .inl (nF f0))), (aR 1, .inl (ty 0, rm, .inl (nF f1))), (aR 2, .inl (ty 0, rm, .inl (nF f2))), (aR 3, .inl (ty 0, rm, .inl (nF f3)))] _ := hP
        have hD : va_D A [(hV, .inr (4, [.ref aU, .int (nI sv), .int (nI wd), .int (nI al), .ref aK])), (aU, .inl (ty 5, 3, .inr (.inr (.inr (.inr fU))))), (aI 0, .inl (ty 0, nV, .inl (nF w0))), (aI 1, .inl (ty 0, nV, .inl (nF w1))), (aI 2, .inl (ty 0, nV, .inl (nF w2))), (aK, .inl (ty 2, nK_, .inl (bF (va_up kv2 i false)))), (hQ, .inr (6, [.ref aQ, .ref aC, .int (nI np), .long (iL tot), .int (nI rm)])), (aQ, .inl (ty 5, 6, .inr (.inr (.inr (.inr fQ))))), (aR 0, .inl (ty 0, rm, .inl (nF f0))), (aR 1, .inl (ty 0, rm, .inl (nF f1))), (aR 2, .inl (ty 0, rm, .inl (nF f2))), (aR 3, .inl (ty 0, rm, .inl (nF f3)))] := hD
        refine lv_iinc (v := (nI (i + 1))) (lv' := [(2, .int (nI (i + 1))), (0, .ref hV), (1, .ref hQ)]) hx hb d_Leftover_gather_18 hl (k := 2) rfl (nI_inc _ _ _ (by omega)) (by decide) rfl (fun ls hl => ?_)
        refine lv_goto (tgt := 2) hx hb d_Leftover_gather_21 (by decide) ?_
        exact ih2 (i + 1) (va_up kv2 i false) _ _ _ (by omega) (fun j h => (Nat.lt_or_ge j i).elim (fun q => by rw [va_up_ne _ _ (by omega)]; exact hA1 j q) (fun q => by rw [show j = i by omega, va_up_self])) (by omega) hP hD hS (lv_sub hl [1, 2, 0] rfl)
  exact L2 (nK_ - 0 + 1) 0 kv _ _ _ (Nat.zero_le _) (fun j h => absurd h (by omega)) (Nat.lt_succ_self _) hP hD hS (lv_sub hl [1, 2, 0] rfl)
