theorem fl_Model_115 : Cond.fieldLink R_Model 115 "FaultRipsModel" "fewest" "[I" ∈ TB := mem_TB 898 (by decide +kernel) (by decide +kernel)
theorem kc_Model_301 : Cond.constantLong R_Model 301 (iL 100) ∈ TB := mem_TB 1206 (by decide +kernel) (by decide +kernel)

/-- panels: the fewest of the last d of n pieces that are w wide together; 1000: none -/
def fwD (dy : Nat → Nat) (n : Nat) : Nat → Nat → Nat
  | 0, w => if w = 0 then 0 else 1000
  | d + 1, w => min (fwD dy n d w) (if dy (n - (d + 1)) ≤ w then fwD dy n d (w - dy (n - (d + 1))) + 1 else 1000)
theorem fwD_s (dy : Nat → Nat) (n d w : Nat) : fwD dy n (d + 1) w = min (fwD dy n d w) (if dy (n - (d + 1)) ≤ w then fwD dy n d (w - dy (n - (d + 1))) + 1 else 1000) := rfl
theorem fwD_le (dy : Nat → Nat) (n d w : Nat) : fwD dy n d w ≤ 1000 := by
  induction d generalizing w with
  | zero => unfold fwD; split <;> omega
  | succ d ih => rw [fwD_s]; have := ih w; omega
theorem fwD_0 (dy : Nat → Nat) (n d : Nat) : fwD dy n d 0 = 0 := by
  induction d with
  | zero => rfl
  | succ d ih => rw [fwD_s, ih]; omega
/-- which piece is the k-th of the panel -/
def pkD (dy : Nat → Nat) (n k : Nat) : Nat → Nat → Nat → Int
  | 0, _, _ => -1
  | d + 1, lf, tk => if dy (n - (d + 1)) ≤ lf ∧ fwD dy n d (lf - dy (n - (d + 1))) + 1 = fwD dy n (d + 1) lf then (if tk = k then ((n - (d + 1) : Nat) : Int) else pkD dy n k d (lf - dy (n - (d + 1))) (tk + 1)) else pkD dy n k d lf tk
theorem pkD_s (dy : Nat → Nat) (n k d lf tk : Nat) : pkD dy n k (d + 1) lf tk = if dy (n - (d + 1)) ≤ lf ∧ fwD dy n d (lf - dy (n - (d + 1))) + 1 = fwD dy n (d + 1) lf then (if tk = k then ((n - (d + 1) : Nat) : Int) else pkD dy n k d (lf - dy (n - (d + 1))) (tk + 1)) else pkD dy n k d lf tk := rfl
theorem pkD_b (dy : Nat → Nat) (n k : Nat) : ∀ d lf tk : Nat, d ≤ n → -1 ≤ pkD dy n k d lf tk ∧ pkD dy n k d lf tk ≤ (n : Int) := by
  intro d
  induction d with
  | zero => intro lf tk h; show (-1 : Int) ≤ -1 ∧ (-1 : Int) ≤ (n : Int); omega
  | succ d ih =>
    intro lf tk h
    rw [pkD_s]
    have h1 := ih lf tk (by omega)
    have h2 := ih (lf - dy (n - (d + 1))) (tk + 1) (by omega)
    split
    · split <;> omega
    · exact h1
theorem pkD_0 {dy : Nat → Nat} {n k : Nat} (hd : ∀ i, i < n → 1 ≤ dy i) : ∀ d tk : Nat, d ≤ n → pkD dy n k d 0 tk = -1 := by
  intro d
  induction d with
  | zero => intro tk _; rfl
  | succ d ih =>
    intro tk h
    have := hd (n - (d + 1)) (by omega)
    rw [pkD_s, if_neg (by omega)]
    exact ih tk (by omega)
theorem fwD_congr {dy dy' : Nat → Nat} {n : Nat} : ∀ d w : Nat, d ≤ n → (∀ i, i < n → dy i = dy' i) → fwD dy n d w = fwD dy' n d w := by
  intro d
  induction d with
  | zero => intro w _ _; rfl
  | succ d ih =>
    intro w h e
    rw [fwD_s, fwD_s, e (n - (d + 1)) (by omega), ih _ (by omega) e, ih _ (by omega) e]
theorem pkD_congr {dy dy' : Nat → Nat} {n k : Nat} : ∀ d lf tk : Nat, d ≤ n → (∀ i, i < n → dy i = dy' i) → pkD dy n k d lf tk = pkD dy' n k d lf tk := by
  intro d
  induction d with
  | zero => intro lf tk _ _; rfl
  | succ d ih =>
    intro lf tk h e
    rw [pkD_s, pkD_s, e (n - (d + 1)) (by omega), fwD_congr d _ (by omega) e, fwD_congr (d + 1) _ h e, ih _ _ (by omega) e, ih _ _ (by omega) e]
/-- the panel's answer -/
def pnl (dy : Nat → Nat) (n w k : Nat) : Int := if 1000 ≤ fwD dy n n w then -1 else pkD dy n k n w 0
theorem fwD_keep {dy : Nat → Nat} {n d w : Nat} (h : ¬ (dy (n - (d + 1)) ≤ w ∧ fwD dy n d (w - dy (n - (d + 1))) + 1 = fwD dy n (d + 1) w)) : fwD dy n (d + 1) w = fwD dy n d w := by
  have h1 := fwD_le dy n d w
  rw [fwD_s] at h ⊢
  by_cases q : dy (n - (d + 1)) ≤ w
  · rw [if_pos q] at h ⊢
    omega
  · rw [if_neg q]
    omega
theorem fwD_m {dy : Nat → Nat} {n m x : Nat} (h : m < n) : fwD dy n (n - m) x = min (fwD dy n (n - (m + 1)) x) (if dy m ≤ x then fwD dy n (n - (m + 1)) (x - dy m) + 1 else 1000) := by
  obtain ⟨d, ed⟩ : ∃ d, d = n - (m + 1) := ⟨_, rfl⟩
  rw [← ed, show n - m = d + 1 by omega, fwD_s, show n - (d + 1) = m by omega]

abbrev q_Model_panel (G : va_G) (ty : Nat → ClassId) (hM : Nat) (cd : Nat) (st : Nat) (al : Nat) (ac : Nat) (nf : Nat) (ns : Nat) (gg : Nat) (mg : Nat) (bw : Nat) (md : Nat) (wy : Nat) (sg_ : Nat) (sz_ : Nat) (ks : Nat) (bd : Int) (aM : Nat → Nat) (wz : Int) (kz : Int) (p3 : Nat → Nat) (fe : Nat → Nat) (A : Nat → Prop) : Array Value → State → Outcome → State → Prop := va_Qi (fun (r : Int32) => fun (uu : Int × Nat × (Nat → Nat)) => r = (iI uu.1) ∧ (md = 0 → uu.2.1 = 1 ∧ uu.1 = 0) ∧ (md = 1 → ((wz < 1 ∨ 100 < wz ∨ kz < 0) → uu.2.1 = 2 ∧ uu.1 = 0) ∧ (¬ (wz < 1 ∨ 100 < wz ∨ kz < 0) → uu.2.1 = 0 ∧ uu.1 = pnl p3 sz_ wz.toNat kz.toNat))) (at_W G (fun (uu : Int × Nat × (Nat → Nat)) => [(hM, .inr (10, mO uu.2.1 st al ac nf ns gg mg bw md wy sg_ sz_ ks bd aM)), (aM 40, .inl (ty 0, 240, .inl (nF p3))), (aM 46, .inl (ty 0, 24341, .inl (nF uu.2.2)))]) A) A
set_option maxRecDepth 100000 in
set_option maxHeartbeats 4000000 in
theorem c_Model_panel (l : Launch) (G : va_G) (ty : Nat → ClassId) (sz : Nat) (hM : Nat) (cd : Nat) (st : Nat) (al : Nat) (ac : Nat) (nf : Nat) (ns : Nat) (gg : Nat) (mg : Nat) (bw : Nat) (md : Nat) (wy : Nat) (sg_ : Nat) (sz_ : Nat) (ks : Nat) (bd : Int) (aM : Nat → Nat) (wz : Int) (kz : Int) (p3 : Nat → Nat) (fe : Nat → Nat) (gmd : md ≤ 1) (g1 : sz_ ≤ 240) (g3 : ∀ k, k < sz_ → 1 ≤ p3 k ∧ p3 k ≤ 10) (gw : -2147483648 ≤ wz ∧ wz ≤ 2147483647) (gk : -2147483648 ≤ kz ∧ kz ≤ 2147483647) : Met l y_Model_panel ws_Model_panel { frames := 1, cells := 0, slots := 0, locals := 25 } (va_Pc [.ref hM, .int (iI wz), .int (iI kz)] (fun U => U.heap.size = sz ∧ va_P G vwCl [(hM, .inr (10, mO cd st al ac nf ns gg mg bw md wy sg_ sz_ ks bd aM)), (aM 40, .inl (ty 0, 240, .inl (nF p3))), (aM 46, .inl (ty 0, 24341, .inl (nF fe)))] U.heap ∧ KX G ty U ∧ va_D (fun _ => True) [(hM, .inr (10, mO cd st al ac nf ns gg mg bw md wy sg_ sz_ ks bd aM)), (aM 40, .inl (ty 0, 240, .inl (nF p3))), (aM 46, .inl (ty 0, 24341, .inl (nF fe)))])) (q_Model_panel G ty hM cd st al ac nf ns gg mg bw md wy sg_ sz_ ks bd aM wz kz p3 fe (va_A [(hM, .inr (10, mO cd st al ac nf ns gg mg bw md wy sg_ sz_ ks bd aM)), (aM 40, .inl (ty 0, 240, .inl (nF p3))), (aM 46, .inl (ty 0, 24341, .inl (nF fe)))] sz)) 0 0 (va_A [(hM, .inr (10, mO cd st al ac nf ns gg mg bw md wy sg_ sz_ ks bd aM)), (aM 40, .inl (ty 0, 240, .inl (nF p3))), (aM 46, .inl (ty 0, 24341, .inl (nF fe)))] sz) := by
  refine met_wr (y := y_Model_panel) (maxL := 6) (sz := sz) (G := G) (ty := ty) (mc := 0) (ms := 0) (av := [.ref hM, .int (iI wz), .int (iI kz)]) (W0 := [(hM, .inr (10, mO cd st al ac nf ns gg mg bw md wy sg_ sz_ ks bd aM)), (aM 40, .inl (ty 0, 240, .inl (nF p3))), (aM 46, .inl (ty 0, 24341, .inl (nF fe)))]) (fun A => q_Model_panel G ty hM cd st al ac nf ns gg mg bw md wy sg_ sz_ ks bd aM wz kz p3 fe A) R_Model (by decide) rfl rfl (Nat.le_of_ble_eq_true rfl) ?_
  intro p e s m below meth c ls A hx hb hr hml hown hts hlocks hin hA hP hX hD hS hl
  have hK := hX.1
  have hl : lv_has ls 6 [(0, .ref hM), (1, .int (iI wz)), (2, .int (iI kz))] := hl
  refine lv_aload_n hx hb d_Model_panel_0 rfl (lv_at hl 0 rfl) ?_
  refine call_wr_i (Wc := [(hM, .inr (10, mO cd st al ac nf ns gg mg bw md wy sg_ sz_ ks bd aM))]) (Wr := [(aM 40, .inl (ty 0, 240, .inl (nF p3))), (aM 46, .inl (ty 0, 24341, .inl (nF fe)))]) (va_runV (As := []) (rest := []) ⟨hx, hb, hml, hown, hts⟩ (c_Model_none l G ty _ hM cd st al ac nf ns gg mg bw md wy sg_ sz_ ks bd aM (by omega)) ⟨callB_of 0 hts (gd_TB cd_Model_none) rfl rfl rfl (hts _ ini_Model) (hts _ lk_Model_287) hd_Model_none ⟨Nat.le_of_ble_eq_true rfl, Nat.le_of_ble_eq_true rfl⟩, hts _ im_Model_none, hts _ sl_Model_none⟩ (preV_wr (hP.sub (ws' := [(hM, .inr (10, mO cd st al ac nf ns gg mg bw md wy sg_ sz_ ks bd aM))]) [0] rfl) hX (hD.sub (ws' := [(hM, .inr (10, mO cd st al ac nf ns gg mg bw md wy sg_ sz_ ks bd aM))]) [0] (by decide) rfl) 0 rfl rfl) rfl rfl hl.1 rfl (lv_room (Nat.le_of_ble_eq_true rfl)) d_Model_panel_1 ⟨Nat.le_of_ble_eq_true rfl, Nat.le_of_ble_eq_true rfl⟩) hP hD hS hA [0] [1, 2] rfl rfl (by decide) (by decide) (fun r2 u9 H locs hw1 hP hD hS => ?_)
  have hw1 : r2 = (nI (1 - md)) := hw1
  have hP : va_P G vwCl [(aM 40, .inl (ty 0, 240, .inl (nF p3))), (aM 46, .inl (ty 0, 24341, .inl (nF fe))), (hM, .inr (10, mO (1 - md) st al ac nf ns gg mg bw md wy sg_ sz_ ks bd aM))] _ := hP
  have hD : va_D A [(aM 40, .inl (ty 0, 240, .inl (nF p3))), (aM 46, .inl (ty 0, 24341, .inl (nF fe))), (hM, .inr (10, mO (1 - md) st al ac nf ns gg mg bw md wy sg_ sz_ ks bd aM))] := hD
  subst hw1
  refine n_if_eq (tgt := 9) hx hb (by omega) d_Model_panel_4 (by decide) (fun c4 => ?_) (fun c4 => ?_)
  · refine lv_aload_n hx hb d_Model_panel_9 rfl (lv_at hl 0 rfl) ?_
    refine lv_iload_n hx hb d_Model_panel_10 rfl (lv_at hl 1 rfl) ?_
    refine z_i2l hx hb (by omega) d_Model_panel_11 ?_
    refine lv_lconst (v := iL 1) hx hb d_Model_panel_12 (by decide) ?_
    refine lv_ldc2 (v := (iL 100)) hx hb hown (hts _ kc_Model_301) d_Model_panel_13 ?_
    refine vp_callSi (W.runS (As := [.long (iL wz), .long (iL 1), .long (iL 100)]) (rest := [.ref hM]) ⟨hx, hb, hml, hown, hts⟩ (c_Model_isIn l G ty wz 1 100 (by omega) (by omega) (by omega)) ⟨callB_of 3 hts (gd_TB cd_Model_isIn) rfl rfl rfl (hts _ ini_Model) (hts _ lk_Model_141) hd_Model_isIn ⟨Nat.le_of_ble_eq_true rfl, Nat.le_of_ble_eq_true rfl⟩, hts _ st_Model_isIn⟩ (preS_ro (hP.sub (ws' := []) [] rfl) hX) rfl rfl hl.1 rfl (lv_room (Nat.le_of_ble_eq_true rfl)) d_Model_panel_16 ⟨Nat.le_of_ble_eq_true rfl, Nat.le_of_ble_eq_true rfl⟩) (fun r9 er9 => ?_)
    subst er9
    refine n_if_eq (tgt := 30) hx hb (tN_lt _) d_Model_panel_19 (by decide) (fun c19 => ?_) (fun c19 => ?_)
    · have d19 := of_decide_eq_false (tN_0 c19)
      refine lv_iconst (v := (nI 2)) hx hb d_Model_panel_30 (by decide) ?_
      refine va_put (D := G) (ci := 10) (v := .int (nI 2)) (ty := .int) (C := R_Model) (T := F_Model) (N := 47) hx hb hts in_Model t_Model t_Model_ok n_Model hown hK hP hD hS 2 rfl rfl 0 (by decide) (hts _ fl_Model_132) (fun _ h9 => h9) rfl (by decide +kernel) rfl rfl (Nat.le_of_ble_eq_true rfl) d_Model_panel_31 (fun H locs hP hD hS => ?_)
      have hP : va_P G vwCl [(aM 40, .inl (ty 0, 240, .inl (nF p3))), (aM 46, .inl (ty 0, 24341, .inl (nF fe))), (hM, .inr (10, mO 2 st al ac nf ns gg mg bw md wy sg_ sz_ ks bd aM))] _ := hP
      have hD : va_D A [(aM 40, .inl (ty 0, 240, .inl (nF p3))), (aM 46, .inl (ty 0, 24341, .inl (nF fe))), (hM, .inr (10, mO 2 st al ac nf ns gg mg bw md wy sg_ sz_ ks bd aM))] := hD
      refine lv_aload_n hx hb d_Model_panel_34 rfl (lv_at hl 0 rfl) ?_
      refine va_get (D := G) (ci := 10) (v := .int (nI 2)) (C := R_Model) (T := F_Model) (N := 47) hx hb hts in_Model hown hK hP 2 rfl rfl 0 (by decide) (hts _ fl_Model_132) (fun _ h9 => h9) rfl d_Model_panel_35 ?_
      refine n_if_le (tgt := 43) hx hb (by omega) d_Model_panel_38 (by decide) (fun c38 => absurd c38 (by omega)) (fun c38 => ?_)
      refine lv_iconst (v := (nI 0)) hx hb d_Model_panel_41 (by decide) ?_
      have hP : va_P G vwCl [(hM, .inr (10, mO 2 st al ac nf ns gg mg bw md wy sg_ sz_ ks bd aM)), (aM 40, .inl (ty 0, 240, .inl (nF p3))), (aM 46, .inl (ty 0, 24341, .inl (nF fe)))] _ := hP.sub [2, 0, 1] rfl
      have hD : va_D A [(hM, .inr (10, mO 2 st al ac nf ns gg mg bw md wy sg_ sz_ ks bd aM)), (aM 40, .inl (ty 0, 240, .inl (nF p3))), (aM 46, .inl (ty 0, 24341, .inl (nF fe)))] := hD.sub [2, 0, 1] (by decide) rfl
      exact W.iret (v := (nI 0)) hx hb hr (fun t9 ht hW => ⟨⟨_, (((0 : Nat) : Int), 2, fe), rfl, ⟨nI_iI _, ⟨fun h => absurd h (by omega), fun _ => ⟨fun _ => ⟨rfl, rfl⟩, fun h => absurd h (by omega)⟩⟩⟩, by rw [ht]; exact hP, hD⟩, hS.F ht⟩) hS.2.2 d_Model_panel_42
    · have d19 := of_decide_eq_true (tN_1 c19)
      refine lv_iload_n hx hb d_Model_panel_22 rfl (lv_at hl 2 rfl) ?_
      refine z_if_lt (tgt := 30) hx hb (by omega) d_Model_panel_23 (by decide) (fun c23 => ?_) (fun c23 => ?_)
      · refine lv_iconst (v := (nI 2)) hx hb d_Model_panel_30 (by decide) ?_
        refine va_put (D := G) (ci := 10) (v := .int (nI 2)) (ty := .int) (C := R_Model) (T := F_Model) (N := 47) hx hb hts in_Model t_Model t_Model_ok n_Model hown hK hP hD hS 2 rfl rfl 0 (by decide) (hts _ fl_Model_132) (fun _ h9 => h9) rfl (by decide +kernel) rfl rfl (Nat.le_of_ble_eq_true rfl) d_Model_panel_31 (fun H locs hP hD hS => ?_)
        have hP : va_P G vwCl [(aM 40, .inl (ty 0, 240, .inl (nF p3))), (aM 46, .inl (ty 0, 24341, .inl (nF fe))), (hM, .inr (10, mO 2 st al ac nf ns gg mg bw md wy sg_ sz_ ks bd aM))] _ := hP
        have hD : va_D A [(aM 40, .inl (ty 0, 240, .inl (nF p3))), (aM 46, .inl (ty 0, 24341, .inl (nF fe))), (hM, .inr (10, mO 2 st al ac nf ns gg mg bw md wy sg_ sz_ ks bd aM))] := hD
        refine lv_aload_n hx hb d_Model_panel_34 rfl (lv_at hl 0 rfl) ?_
        refine va_get (D := G) (ci := 10) (v := .int (nI 2)) (C := R_Model) (T := F_Model) (N := 47) hx hb hts in_Model hown hK hP 2 rfl rfl 0 (by decide) (hts _ fl_Model_132) (fun _ h9 => h9) rfl d_Model_panel_35 ?_
        refine n_if_le (tgt := 43) hx hb (by omega) d_Model_panel_38 (by decide) (fun c38 => absurd c38 (by omega)) (fun c38 => ?_)
        refine lv_iconst (v := (nI 0)) hx hb d_Model_panel_41 (by decide) ?_
        have hP : va_P G vwCl [(hM, .inr (10, mO 2 st al ac nf ns gg mg bw md wy sg_ sz_ ks bd aM)), (aM 40, .inl (ty 0, 240, .inl (nF p3))), (aM 46, .inl (ty 0, 24341, .inl (nF fe)))] _ := hP.sub [2, 0, 1] rfl
        have hD : va_D A [(hM, .inr (10, mO 2 st al ac nf ns gg mg bw md wy sg_ sz_ ks bd aM)), (aM 40, .inl (ty 0, 240, .inl (nF p3))), (aM 46, .inl (ty 0, 24341, .inl (nF fe)))] := hD.sub [2, 0, 1] (by decide) rfl
        exact W.iret (v := (nI 0)) hx hb hr (fun t9 ht hW => ⟨⟨_, (((0 : Nat) : Int), 2, fe), rfl, ⟨nI_iI _, ⟨fun h => absurd h (by omega), fun _ => ⟨fun _ => ⟨rfl, rfl⟩, fun h => absurd h (by omega)⟩⟩⟩, by rw [ht]; exact hP, hD⟩, hS.F ht⟩) hS.2.2 d_Model_panel_42
      · refine lv_iconst (v := (nI 0)) hx hb d_Model_panel_26 (by decide) ?_
        refine lv_goto (tgt := 31) hx hb d_Model_panel_27 (by decide) ?_
        refine va_put (D := G) (ci := 10) (v := .int (nI 0)) (ty := .int) (C := R_Model) (T := F_Model) (N := 47) hx hb hts in_Model t_Model t_Model_ok n_Model hown hK hP hD hS 2 rfl rfl 0 (by decide) (hts _ fl_Model_132) (fun _ h9 => h9) rfl (by decide +kernel) rfl rfl (Nat.le_of_ble_eq_true rfl) d_Model_panel_31 (fun H locs hP hD hS => ?_)
        have hP : va_P G vwCl [(aM 40, .inl (ty 0, 240, .inl (nF p3))), (aM 46, .inl (ty 0, 24341, .inl (nF fe))), (hM, .inr (10, mO 0 st al ac nf ns gg mg bw md wy sg_ sz_ ks bd aM))] _ := hP
        have hD : va_D A [(aM 40, .inl (ty 0, 240, .inl (nF p3))), (aM 46, .inl (ty 0, 24341, .inl (nF fe))), (hM, .inr (10, mO 0 st al ac nf ns gg mg bw md wy sg_ sz_ ks bd aM))] := hD
        refine lv_aload_n hx hb d_Model_panel_34 rfl (lv_at hl 0 rfl) ?_
        refine va_get (D := G) (ci := 10) (v := .int (nI 0)) (C := R_Model) (T := F_Model) (N := 47) hx hb hts in_Model hown hK hP 2 rfl rfl 0 (by decide) (hts _ fl_Model_132) (fun _ h9 => h9) rfl d_Model_panel_35 ?_
        refine n_if_le (tgt := 43) hx hb (by omega) d_Model_panel_38 (by decide) (fun c38 => ?_) (fun c38 => absurd c38 (by omega))
        have hgood : 1 ≤ wz ∧ wz ≤ 100 ∧ 0 ≤ kz := by have h9 := of_decide_eq_true (tN_1 c19); omega
        refine lv_aload_n hx hb d_Model_panel_43 rfl (lv_at hl 0 rfl) ?_
        refine va_get (D := G) (ci := 10) (v := .int (nI sz_)) (C := R_Model) (T := F_Model) (N := 47) hx hb hts in_Model hown hK hP 2 rfl rfl 36 (by decide) (hts _ fl_Model_219) (fun _ h9 => h9) rfl d_Model_panel_44 ?_
        refine top_i (show (nI sz_) = (iI (((sz_ + 1 : Nat) : Int) - ((1 : Nat) : Int))) from by rw [nI_iI]; congr 1; omega) ?_
        refine lv_istore_n (lv' := [(3, .int (iI (((sz_ + 1 : Nat) : Int) - ((1 : Nat) : Int)))), (0, .ref hM), (1, .int (iI wz)), (2, .int (iI kz))]) hx hb d_Model_panel_47 rfl hl (by decide) rfl (fun ls hl => ?_)
        have L48 : ∀ (k9 : Nat) (i : Nat) (fe2 : Nat → Nat) (H : Heap) (locs : List Loc) (ls : Array Slot), (i ≤ sz_ + 1) → (∀ j, i ≤ j → j ≤ sz_ → ∀ y9 : Nat, ((y9 : Nat) : Int) ≤ wz → fe2 (101 * j + y9) = fwD p3 sz_ (sz_ - j) y9) → i < k9 → va_P G vwCl [(hM, .inr (10, mO 0 st al ac nf ns gg mg bw md wy sg_ sz_ ks bd aM)), (aM 40, .inl (ty 0, 240, .inl (nF p3))), (aM 46, .inl (ty 0, 24341, .inl (nF fe2)))] H → va_D A [(hM, .inr (10, mO 0 st al ac nf ns gg mg bw md wy sg_ sz_ ks bd aM)), (aM 40, .inl (ty 0, 240, .inl (nF p3))), (aM 46, .inl (ty 0, 24341, .inl (nF fe2)))] → va_S A s.heap H locs → lv_has ls 6 [(0, .ref hM), (1, .int (iI wz)), (2, .int (iI kz)), (3, .int (iI (((i : Nat) : Int) - ((1 : Nat) : Int))))] → W p l e { frames := 1, cells := 0, slots := 0, locals := 25 } s m [.ref hM, .int (iI wz), .int (iI kz)].toArray below meth c H locs 0 0 (MQ below (q_Model_panel G ty hM cd st al ac nf ns gg mg bw md wy sg_ sz_ ks bd aM wz kz p3 fe A) [.ref hM, .int (iI wz), .int (iI kz)].toArray s 0 0 A) (F0 m 48 ls []) := by
          intro k9
          induction k9 with
          | zero => intro i fe2 H locs ls hi1 hA1 hk9; exact absurd hk9 (Nat.not_lt_zero _)
          | succ k9 ih48 =>
            intro i fe2 H locs ls hi1 hA1 hk9 hP hD hS hl
            refine lv_iload_n hx hb d_Model_panel_48 rfl (lv_at hl 3 rfl) ?_
            refine z_if_lt (tgt := 198) hx hb (by omega) d_Model_panel_49 (by decide) (fun c49 => ?_) (fun c49 => ?_)
            · have ei : i = 0 := by omega
              rw [ei] at hA1
              have hW0 : fe2 wz.toNat = fwD p3 sz_ sz_ wz.toNat := by have h9 := hA1 0 (Nat.le_refl _) (Nat.zero_le _) wz.toNat (by omega); rw [Nat.mul_zero, Nat.zero_add, Nat.sub_zero] at h9; exact h9
              have hWl := fwD_le p3 sz_ sz_ wz.toNat
              refine lv_aload_n hx hb d_Model_panel_198 rfl (lv_at hl 0 rfl) ?_
              refine va_get (D := G) (ci := 10) (v := .ref (aM 46)) (C := R_Model) (T := F_Model) (N := 47) hx hb hts in_Model hown hK hP 0 rfl rfl 46 (by decide) (hts _ fl_Model_115) (fun _ h9 => h9) rfl d_Model_panel_199 ?_
              refine lv_iload_n hx hb d_Model_panel_202 rfl (lv_at hl 1 rfl) ?_
              refine top_i (show (iI wz) = (nI wz.toNat) from iI_nI (by omega)) ?_
              refine n_iald hx hb hK hP 2 0 rfl rfl (by omega) (by omega) d_Model_panel_203 ?_
              refine top_i (show (nI (fe2 wz.toNat)) = (nI (fwD p3 sz_ sz_ wz.toNat)) from congrArg nI hW0) ?_
              refine lv_sipush (v := (nI 1000)) hx hb d_Model_panel_204 (by decide) ?_
              refine n_icmp_lt (tgt := 212) hx hb (by omega) (by omega) d_Model_panel_207 (by decide) (fun c207 => ?_) (fun c207 => ?_)
              · refine lv_iload_n hx hb d_Model_panel_212 rfl (lv_at hl 1 rfl) ?_
                refine top_i (show (iI wz) = (nI wz.toNat) from iI_nI (by omega)) ?_
                refine lv_istore_n (lv' := [(3, .int (nI wz.toNat)), (0, .ref hM), (1, .int (iI wz)), (2, .int (iI kz))]) hx hb d_Model_panel_213 rfl hl (by decide) rfl (fun ls hl => ?_)
                refine lv_iconst (v := (nI 0)) hx hb d_Model_panel_214 (by decide) ?_
                refine lv_istore (lv' := [(4, .int (nI 0)), (3, .int (nI wz.toNat)), (0, .ref hM), (1, .int (iI wz)), (2, .int (iI kz))]) hx hb d_Model_panel_215 hl (by decide) rfl (fun ls hl => ?_)
                refine lv_iconst (v := (nI 0)) hx hb d_Model_panel_217 (by decide) ?_
                refine lv_istore (lv' := [(5, .int (nI 0)), (4, .int (nI 0)), (3, .int (nI wz.toNat)), (0, .ref hM), (1, .int (iI wz)), (2, .int (iI kz))]) hx hb d_Model_panel_218 hl (by decide) rfl (fun ls hl => ?_)
                have L220 : ∀ (k9 : Nat) (i2 : Nat) (lf : Nat) (tk : Nat) (H : Heap) (locs : List Loc) (ls : Array Slot), (i2 ≤ sz_) → ((lf : Int) ≤ wz) → (tk ≤ i2) → (pkD p3 sz_ kz.toNat sz_ wz.toNat 0 = pkD p3 sz_ kz.toNat (sz_ - i2) lf tk) → sz_ - i2 < k9 → va_P G vwCl [(hM, .inr (10, mO 0 st al ac nf ns gg mg bw md wy sg_ sz_ ks bd aM)), (aM 40, .inl (ty 0, 240, .inl (nF p3))), (aM 46, .inl (ty 0, 24341, .inl (nF fe2)))] H → va_D A [(hM, .inr (10, mO 0 st al ac nf ns gg mg bw md wy sg_ sz_ ks bd aM)), (aM 40, .inl (ty 0, 240, .inl (nF p3))), (aM 46, .inl (ty 0, 24341, .inl (nF fe2)))] → va_S A s.heap H locs → lv_has ls 6 [(0, .ref hM), (1, .int (iI wz)), (2, .int (iI kz)), (3, .int (nI lf)), (4, .int (nI tk)), (5, .int (nI i2))] → W p l e { frames := 1, cells := 0, slots := 0, locals := 25 } s m [.ref hM, .int (iI wz), .int (iI kz)].toArray below meth c H locs 0 0 (MQ below (q_Model_panel G ty hM cd st al ac nf ns gg mg bw md wy sg_ sz_ ks bd aM wz kz p3 fe A) [.ref hM, .int (iI wz), .int (iI kz)].toArray s 0 0 A) (F0 m 220 ls []) := by
                  intro k9
                  induction k9 with
                  | zero => intro i2 lf tk H locs ls hj1 hj2 hj3 hj4 hk9; exact absurd hk9 (Nat.not_lt_zero _)
                  | succ k9 ih220 =>
                    intro i2 lf tk H locs ls hj1 hj2 hj3 hj4 hk9 hP hD hS hl
                    refine lv_iload hx hb d_Model_panel_220 (lv_at hl 5 rfl) ?_
                    refine lv_aload_n hx hb d_Model_panel_222 rfl (lv_at hl 0 rfl) ?_
                    refine va_get (D := G) (ci := 10) (v := .int (nI sz_)) (C := R_Model) (T := F_Model) (N := 47) hx hb hts in_Model hown hK hP 0 rfl rfl 36 (by decide) (hts _ fl_Model_219) (fun _ h9 => h9) rfl d_Model_panel_223 ?_
                    refine n_icmp_ge (tgt := 307) hx hb (by omega) (by omega) d_Model_panel_226 (by decide) (fun c226 => ?_) (fun c226 => ?_)
                    · refine lv_iconst (v := (iI (-1))) hx hb d_Model_panel_307 (by decide) ?_
                      exact W.iret (v := (iI (-1))) hx hb hr (fun t9 ht hW => ⟨⟨_, (-1, 0, fe2), rfl, ⟨rfl, ⟨fun h => absurd h (by omega), fun _ => ⟨fun h => absurd h (by omega), fun _ => ⟨rfl, by unfold pnl; rw [if_neg (by omega), hj4, show sz_ - i2 = 0 by omega]; rfl⟩⟩⟩⟩, by rw [ht]; exact hP, hD⟩, hS.F ht⟩) hS.2.2 d_Model_panel_308
                    · have hp3 := g3 i2 (by omega)
                      obtain ⟨d, ed⟩ : ∃ d, d = sz_ - (i2 + 1) := ⟨_, rfl⟩
                      have ed1 : sz_ - i2 = d + 1 := by omega
                      have ei2 : sz_ - (d + 1) = i2 := by omega
                      have hr0 : fe2 (101 * i2 + lf) = fwD p3 sz_ (d + 1) lf := by rw [← ed1]; exact hA1 i2 (Nat.zero_le _) (by omega) lf (by omega)
                      have hl0 := fwD_le p3 sz_ (d + 1) lf
                      have hstep := hj4
                      rw [ed1, pkD_s, ei2] at hstep
                      refine lv_iload_n hx hb d_Model_panel_229 rfl (lv_at hl 3 rfl) ?_
                      refine lv_aload_n hx hb d_Model_panel_230 rfl (lv_at hl 0 rfl) ?_
                      refine va_get (D := G) (ci := 10) (v := .ref (aM 40)) (C := R_Model) (T := F_Model) (N := 47) hx hb hts in_Model hown hK hP 0 rfl rfl 40 (by decide) (hts _ fl_Model_103) (fun _ h9 => h9) rfl d_Model_panel_231 ?_
                      refine lv_iload hx hb d_Model_panel_234 (lv_at hl 5 rfl) ?_
                      refine n_iald hx hb hK hP 1 0 rfl rfl (by omega) (by omega) d_Model_panel_236 ?_
                      refine n_icmp_lt (tgt := 301) hx hb (by omega) (by omega) d_Model_panel_237 (by decide) (fun c237 => ?_) (fun c237 => ?_)
                      · have hj5 : pkD p3 sz_ kz.toNat sz_ wz.toNat 0 = pkD p3 sz_ kz.toNat (sz_ - (i2 + 1)) lf tk := by rw [← ed]; rw [if_neg (by omega)] at hstep; exact hstep
                        refine lv_iinc (v := (nI (i2 + 1))) (lv' := [(5, .int (nI (i2 + 1))), (0, .ref hM), (1, .int (iI wz)), (2, .int (iI kz)), (3, .int (nI lf)), (4, .int (nI tk))]) hx hb d_Model_panel_301 hl (k := 5) rfl (nI_inc _ _ _ (by omega)) (by decide) rfl (fun ls hl => ?_)
                        refine lv_goto (tgt := 220) hx hb d_Model_panel_304 (by decide) ?_
                        exact ih220 (i2 + 1) lf tk _ _ _ (by omega) (by omega) (by omega) hj5 (by omega) hP hD hS (lv_sub hl [1, 2, 3, 4, 5, 0] rfl)
                      · have hr1 : fe2 (101 * (i2 + 1) + (lf - p3 i2)) = fwD p3 sz_ d (lf - p3 i2) := by rw [ed]; exact hA1 (i2 + 1) (Nat.zero_le _) (by omega) (lf - p3 i2) (by omega)
                        have hl1 := fwD_le p3 sz_ d (lf - p3 i2)
                        refine lv_aload_n hx hb d_Model_panel_240 rfl (lv_at hl 0 rfl) ?_
                        refine va_get (D := G) (ci := 10) (v := .ref (aM 46)) (C := R_Model) (T := F_Model) (N := 47) hx hb hts in_Model hown hK hP 0 rfl rfl 46 (by decide) (hts _ fl_Model_115) (fun _ h9 => h9) rfl d_Model_panel_241 ?_
                        refine lv_bipush (v := (nI 101)) hx hb d_Model_panel_244 (by decide) ?_
                        refine lv_iload hx hb d_Model_panel_246 (lv_at hl 5 rfl) ?_
                        refine lv_iconst (v := (nI 1)) hx hb d_Model_panel_248 (by decide) ?_
                        refine n_iadd hx hb d_Model_panel_249 ?_
                        refine n_imul hx hb d_Model_panel_250 ?_
                        refine lv_iload_n hx hb d_Model_panel_251 rfl (lv_at hl 3 rfl) ?_
                        refine n_iadd hx hb d_Model_panel_252 ?_
                        refine lv_aload_n hx hb d_Model_panel_253 rfl (lv_at hl 0 rfl) ?_
                        refine va_get (D := G) (ci := 10) (v := .ref (aM 40)) (C := R_Model) (T := F_Model) (N := 47) hx hb hts in_Model hown hK hP 0 rfl rfl 40 (by decide) (hts _ fl_Model_103) (fun _ h9 => h9) rfl d_Model_panel_254 ?_
                        refine lv_iload hx hb d_Model_panel_257 (lv_at hl 5 rfl) ?_
                        refine n_iald hx hb hK hP 1 0 rfl rfl (by omega) (by omega) d_Model_panel_259 ?_
                        refine n_isub hx hb (by omega) d_Model_panel_260 ?_
                        refine n_iald hx hb hK hP 2 0 rfl rfl (by omega) (by omega) d_Model_panel_261 ?_
                        refine top_i (show (nI (fe2 (((101 * (i2 + 1)) + lf) - (p3 i2)))) = (nI (fwD p3 sz_ d (lf - p3 i2))) from congrArg nI (by rw [← hr1]; congr 1; omega)) ?_
                        refine lv_iconst (v := (nI 1)) hx hb d_Model_panel_262 (by decide) ?_
                        refine n_iadd hx hb d_Model_panel_263 ?_
                        refine lv_aload_n hx hb d_Model_panel_264 rfl (lv_at hl 0 rfl) ?_
                        refine va_get (D := G) (ci := 10) (v := .ref (aM 46)) (C := R_Model) (T := F_Model) (N := 47) hx hb hts in_Model hown hK hP 0 rfl rfl 46 (by decide) (hts _ fl_Model_115) (fun _ h9 => h9) rfl d_Model_panel_265 ?_
                        refine lv_bipush (v := (nI 101)) hx hb d_Model_panel_268 (by decide) ?_
                        refine lv_iload hx hb d_Model_panel_270 (lv_at hl 5 rfl) ?_
                        refine n_imul hx hb d_Model_panel_272 ?_
                        refine lv_iload_n hx hb d_Model_panel_273 rfl (lv_at hl 3 rfl) ?_
                        refine n_iadd hx hb d_Model_panel_274 ?_
                        refine n_iald hx hb hK hP 2 0 rfl rfl (by omega) (by omega) d_Model_panel_275 ?_
                        refine top_i (show (nI (fe2 ((101 * i2) + lf))) = (nI (fwD p3 sz_ (d + 1) lf)) from congrArg nI hr0) ?_
                        refine n_icmp_ne (tgt := 301) hx hb (by omega) (by omega) d_Model_panel_276 (by decide) (fun c276 => ?_) (fun c276 => ?_)
                        · have hj5 : pkD p3 sz_ kz.toNat sz_ wz.toNat 0 = pkD p3 sz_ kz.toNat (sz_ - (i2 + 1)) lf tk := by rw [← ed]; rw [if_neg (by omega)] at hstep; exact hstep
                          refine lv_iinc (v := (nI (i2 + 1))) (lv' := [(5, .int (nI (i2 + 1))), (0, .ref hM), (1, .int (iI wz)), (2, .int (iI kz)), (3, .int (nI lf)), (4, .int (nI tk))]) hx hb d_Model_panel_301 hl (k := 5) rfl (nI_inc _ _ _ (by omega)) (by decide) rfl (fun ls hl => ?_)
                          refine lv_goto (tgt := 220) hx hb d_Model_panel_304 (by decide) ?_
                          exact ih220 (i2 + 1) lf tk _ _ _ (by omega) (by omega) (by omega) hj5 (by omega) hP hD hS (lv_sub hl [1, 2, 3, 4, 5, 0] rfl)
                        · rw [if_pos ⟨by omega, by omega⟩] at hstep
                          refine lv_iload hx hb d_Model_panel_279 (lv_at hl 4 rfl) ?_
                          refine lv_iload_n hx hb d_Model_panel_281 rfl (lv_at hl 2 rfl) ?_
                          refine nz_icmp_ne (tgt := 288) hx hb (by omega) (by omega) d_Model_panel_282 (by decide) (fun c282 => ?_) (fun c282 => ?_)
                          · refine lv_iinc (v := (nI (tk + 1))) (lv' := [(4, .int (nI (tk + 1))), (0, .ref hM), (1, .int (iI wz)), (2, .int (iI kz)), (3, .int (nI lf)), (5, .int (nI i2))]) hx hb d_Model_panel_288 hl (k := 4) rfl (nI_inc _ _ _ (by omega)) (by decide) rfl (fun ls hl => ?_)
                            refine lv_iload_n hx hb d_Model_panel_291 rfl (lv_at hl 4 rfl) ?_
                            refine lv_aload_n hx hb d_Model_panel_292 rfl (lv_at hl 1 rfl) ?_
                            refine va_get (D := G) (ci := 10) (v := .ref (aM 40)) (C := R_Model) (T := F_Model) (N := 47) hx hb hts in_Model hown hK hP 0 rfl rfl 40 (by decide) (hts _ fl_Model_103) (fun _ h9 => h9) rfl d_Model_panel_293 ?_
                            refine lv_iload hx hb d_Model_panel_296 (lv_at hl 5 rfl) ?_
                            refine n_iald hx hb hK hP 1 0 rfl rfl (by omega) (by omega) d_Model_panel_298 ?_
                            refine n_isub hx hb (by omega) d_Model_panel_299 ?_
                            refine lv_istore_n (lv' := [(3, .int (nI (lf - (p3 i2)))), (4, .int (nI (tk + 1))), (0, .ref hM), (1, .int (iI wz)), (2, .int (iI kz)), (5, .int (nI i2))]) hx hb d_Model_panel_300 rfl hl (by decide) rfl (fun ls hl => ?_)
                            have hj5 : pkD p3 sz_ kz.toNat sz_ wz.toNat 0 = pkD p3 sz_ kz.toNat (sz_ - (i2 + 1)) (lf - p3 i2) (tk + 1) := by rw [← ed]; rw [if_neg (by omega)] at hstep; exact hstep
                            refine lv_iinc (v := (nI (i2 + 1))) (lv' := [(5, .int (nI (i2 + 1))), (3, .int (nI (lf - (p3 i2)))), (4, .int (nI (tk + 1))), (0, .ref hM), (1, .int (iI wz)), (2, .int (iI kz))]) hx hb d_Model_panel_301 hl (k := 5) rfl (nI_inc _ _ _ (by omega)) (by decide) rfl (fun ls hl => ?_)
                            refine lv_goto (tgt := 220) hx hb d_Model_panel_304 (by decide) ?_
                            exact ih220 (i2 + 1) (lf - (p3 i2)) (tk + 1) _ _ _ (by omega) (by omega) (by omega) hj5 (by omega) hP hD hS (lv_sub hl [3, 4, 5, 1, 2, 0] rfl)
                          · refine lv_iload hx hb d_Model_panel_285 (lv_at hl 5 rfl) ?_
                            exact W.iret (v := (nI i2)) hx hb hr (fun t9 ht hW => ⟨⟨_, (((i2 : Nat) : Int), 0, fe2), rfl, ⟨nI_iI _, ⟨fun h => absurd h (by omega), fun _ => ⟨fun h => absurd h (by omega), fun _ => ⟨rfl, by unfold pnl; rw [if_neg (by omega), hstep, if_pos (by omega)]⟩⟩⟩⟩, by rw [ht]; exact hP, hD⟩, hS.F ht⟩) hS.2.2 d_Model_panel_287
                exact L220 (sz_ - 0 + 1) 0 wz.toNat 0 _ _ _ (Nat.zero_le _) (by omega) (Nat.le_refl _) (by rw [Nat.sub_zero]) (Nat.lt_succ_self _) hP hD hS (lv_sub hl [3, 4, 5, 2, 1, 0] rfl)
              · refine lv_iconst (v := (iI (-1))) hx hb d_Model_panel_210 (by decide) ?_
                exact W.iret (v := (iI (-1))) hx hb hr (fun t9 ht hW => ⟨⟨_, (-1, 0, fe2), rfl, ⟨rfl, ⟨fun h => absurd h (by omega), fun _ => ⟨fun h => absurd h (by omega), fun _ => ⟨rfl, by unfold pnl; rw [if_pos (by omega)]⟩⟩⟩⟩, by rw [ht]; exact hP, hD⟩, hS.F ht⟩) hS.2.2 d_Model_panel_211
            · obtain ⟨m_, rfl⟩ : ∃ m_, i = m_ + 1 := ⟨i - 1, by omega⟩
              have hl : lv_has ls 6 [(0, .ref hM), (1, .int (iI wz)), (2, .int (iI kz)), (3, .int (nI m_))] := by rw [show (nI m_) = (iI (((m_ + 1 : Nat) : Int) - ((1 : Nat) : Int))) from by rw [nI_iI]; congr 1; omega]; exact hl
              refine lv_iconst (v := (nI 0)) hx hb d_Model_panel_52 (by decide) ?_
              refine lv_istore (lv' := [(4, .int (nI 0)), (0, .ref hM), (1, .int (iI wz)), (2, .int (iI kz)), (3, .int (nI m_))]) hx hb d_Model_panel_53 hl (by decide) rfl (fun ls hl => ?_)
              have L55 : ∀ (k9 : Nat) (x : Nat) (fe2 : Nat → Nat) (H : Heap) (locs : List Loc) (ls : Array Slot), ((x : Int) ≤ wz + 1) → (∀ j, m_ + 1 ≤ j → j ≤ sz_ → ∀ y9 : Nat, ((y9 : Nat) : Int) ≤ wz → fe2 (101 * j + y9) = fwD p3 sz_ (sz_ - j) y9) → (∀ y, y < x → fe2 (101 * m_ + y) = fwD p3 sz_ (sz_ - m_) y) → 101 - x < k9 → va_P G vwCl [(hM, .inr (10, mO 0 st al ac nf ns gg mg bw md wy sg_ sz_ ks bd aM)), (aM 40, .inl (ty 0, 240, .inl (nF p3))), (aM 46, .inl (ty 0, 24341, .inl (nF fe2)))] H → va_D A [(hM, .inr (10, mO 0 st al ac nf ns gg mg bw md wy sg_ sz_ ks bd aM)), (aM 40, .inl (ty 0, 240, .inl (nF p3))), (aM 46, .inl (ty 0, 24341, .inl (nF fe2)))] → va_S A s.heap H locs → lv_has ls 6 [(0, .ref hM), (1, .int (iI wz)), (2, .int (iI kz)), (3, .int (nI m_)), (4, .int (nI x))] → W p l e { frames := 1, cells := 0, slots := 0, locals := 25 } s m [.ref hM, .int (iI wz), .int (iI kz)].toArray below meth c H locs 0 0 (MQ below (q_Model_panel G ty hM cd st al ac nf ns gg mg bw md wy sg_ sz_ ks bd aM wz kz p3 fe A) [.ref hM, .int (iI wz), .int (iI kz)].toArray s 0 0 A) (F0 m 55 ls []) := by
                intro k9
                induction k9 with
                | zero => intro x fe2 H locs ls hx1 hA1 hB1 hk9; exact absurd hk9 (Nat.not_lt_zero _)
                | succ k9 ih55 =>
                  intro x fe2 H locs ls hx1 hA1 hB1 hk9 hP hD hS hl
                  refine lv_iload hx hb d_Model_panel_55 (lv_at hl 4 rfl) ?_
                  refine lv_iload_n hx hb d_Model_panel_57 rfl (lv_at hl 1 rfl) ?_
                  refine nz_icmp_gt (tgt := 192) hx hb (by omega) (by omega) d_Model_panel_58 (by decide) (fun c58 => ?_) (fun c58 => ?_)
                  · have hA3 : ∀ j, m_ ≤ j → j ≤ sz_ → ∀ y9 : Nat, ((y9 : Nat) : Int) ≤ wz → fe2 (101 * j + y9) = fwD p3 sz_ (sz_ - j) y9 := fun j h1 h2 y hy => (Nat.lt_or_ge m_ j).elim (fun q => hA1 j q h2 y hy) (fun q => by rw [show j = m_ by omega]; exact hB1 y (by omega))
                    refine lv_iinc (v := (iI (((m_ : Nat) : Int) - ((1 : Nat) : Int)))) (lv' := [(3, .int (iI (((m_ : Nat) : Int) - ((1 : Nat) : Int)))), (0, .ref hM), (1, .int (iI wz)), (2, .int (iI kz)), (4, .int (nI x))]) hx hb d_Model_panel_192 hl (k := 3) rfl (by rw [nI_iI]; exact iI_add _ _) (by decide) rfl (fun ls hl => ?_)
                    refine lv_goto (tgt := 48) hx hb d_Model_panel_195 (by decide) ?_
                    exact ih48 m_ fe2 _ _ _ (by omega) hA3 (by omega) hP hD hS (lv_sub hl [1, 2, 3, 0] rfl)
                  · have hbl := fwD_le p3 sz_ (sz_ - (m_ + 1)) x
                    refine lv_iload hx hb d_Model_panel_61 (lv_at hl 4 rfl) ?_
                    refine n_if_ne (tgt := 70) hx hb (by omega) d_Model_panel_63 (by decide) (fun c63 => ?_) (fun c63 => ?_)
                    · refine lv_iload_n hx hb d_Model_panel_70 rfl (lv_at hl 3 rfl) ?_
                      refine lv_aload_n hx hb d_Model_panel_71 rfl (lv_at hl 0 rfl) ?_
                      refine va_get (D := G) (ci := 10) (v := .int (nI sz_)) (C := R_Model) (T := F_Model) (N := 47) hx hb hts in_Model hown hK hP 0 rfl rfl 36 (by decide) (hts _ fl_Model_219) (fun _ h9 => h9) rfl d_Model_panel_72 ?_
                      refine n_icmp_ne (tgt := 84) hx hb (by omega) (by omega) d_Model_panel_75 (by decide) (fun c75 => ?_) (fun c75 => ?_)
                      · refine lv_aload_n hx hb d_Model_panel_84 rfl (lv_at hl 0 rfl) ?_
                        refine va_get (D := G) (ci := 10) (v := .ref (aM 46)) (C := R_Model) (T := F_Model) (N := 47) hx hb hts in_Model hown hK hP 0 rfl rfl 46 (by decide) (hts _ fl_Model_115) (fun _ h9 => h9) rfl d_Model_panel_85 ?_
                        refine lv_bipush (v := (nI 101)) hx hb d_Model_panel_88 (by decide) ?_
                        refine lv_iload_n hx hb d_Model_panel_90 rfl (lv_at hl 3 rfl) ?_
                        refine lv_iconst (v := (nI 1)) hx hb d_Model_panel_91 (by decide) ?_
                        refine n_iadd hx hb d_Model_panel_92 ?_
                        refine n_imul hx hb d_Model_panel_93 ?_
                        refine lv_iload hx hb d_Model_panel_94 (lv_at hl 4 rfl) ?_
                        refine n_iadd hx hb d_Model_panel_96 ?_
                        refine n_iald hx hb hK hP 2 0 rfl rfl (by omega) (by omega) d_Model_panel_97 ?_
                        refine top_i (show (nI (fe2 ((101 * (m_ + 1)) + x))) = nI (fwD p3 sz_ (sz_ - (m_ + 1)) x) from congrArg nI (by first | (rw [show x = 0 by omega, fwD_0]) | (rw [show sz_ - (m_ + 1) = 0 by omega]; show _ = (if x = 0 then 0 else 1000); rw [if_neg (by omega)]) | (exact hA1 (m_ + 1) (by omega) (by omega) x (by omega)))) ?_
                        refine lv_istore (lv' := [(5, .int (nI (fwD p3 sz_ (sz_ - (m_ + 1)) x))), (0, .ref hM), (1, .int (iI wz)), (2, .int (iI kz)), (3, .int (nI m_)), (4, .int (nI x))]) hx hb d_Model_panel_98 hl (by decide) rfl (fun ls hl => ?_)
                        refine lv_iload_n hx hb d_Model_panel_100 rfl (lv_at hl 4 rfl) ?_
                        refine lv_aload_n hx hb d_Model_panel_101 rfl (lv_at hl 1 rfl) ?_
                        refine va_get (D := G) (ci := 10) (v := .int (nI sz_)) (C := R_Model) (T := F_Model) (N := 47) hx hb hts in_Model hown hK hP 0 rfl rfl 36 (by decide) (hts _ fl_Model_219) (fun _ h9 => h9) rfl d_Model_panel_102 ?_
                        refine n_icmp_ge (tgt := 172) hx hb (by omega) (by omega) d_Model_panel_105 (by decide) (fun c105 => ?_) (fun c105 => ?_)
                        · have hl : lv_has ls 6 [(5, .int (nI (fwD p3 sz_ (sz_ - m_) x))), (0, .ref hM), (1, .int (iI wz)), (2, .int (iI kz)), (3, .int (nI m_)), (4, .int (nI x))] := by rw [show (nI (fwD p3 sz_ (sz_ - m_) x)) = (nI (fwD p3 sz_ (sz_ - (m_ + 1)) x)) from congrArg nI (by rcases Nat.lt_or_ge m_ sz_ with q | q; exact (by rw [fwD_m q]; first | (rw [if_pos (by omega)]; omega) | (rw [if_neg (by omega)]; omega)); exact (by first | exact congrArg (fun z9 => fwD p3 sz_ z9 x) (show sz_ - m_ = sz_ - (m_ + 1) by omega) | (exfalso; omega)))]; exact hl
                          refine lv_aload_n hx hb d_Model_panel_172 rfl (lv_at hl 1 rfl) ?_
                          refine va_get (D := G) (ci := 10) (v := .ref (aM 46)) (C := R_Model) (T := F_Model) (N := 47) hx hb hts in_Model hown hK hP 0 rfl rfl 46 (by decide) (hts _ fl_Model_115) (fun _ h9 => h9) rfl d_Model_panel_173 ?_
                          refine lv_bipush (v := (nI 101)) hx hb d_Model_panel_176 (by decide) ?_
                          refine lv_iload_n hx hb d_Model_panel_178 rfl (lv_at hl 4 rfl) ?_
                          refine n_imul hx hb d_Model_panel_179 ?_
                          refine lv_iload hx hb d_Model_panel_180 (lv_at hl 5 rfl) ?_
                          refine n_iadd hx hb d_Model_panel_182 ?_
                          refine lv_iload hx hb d_Model_panel_183 (lv_at hl 0 rfl) ?_
                          refine n_iast hx hb hK hP hD hS 2 0 rfl rfl (by omega) (by omega) d_Model_panel_185 (fun H locs hP hD hS => ?_)
                          rw [upd_nF] at hP hD
                          have hP : va_P G vwCl [(hM, .inr (10, mO 0 st al ac nf ns gg mg bw md wy sg_ sz_ ks bd aM)), (aM 40, .inl (ty 0, 240, .inl (nF p3))), (aM 46, .inl (ty 0, 24341, .inl (nF (va_up fe2 ((101 * m_) + x) (fwD p3 sz_ (sz_ - m_) x)))))] _ := hP
                          have hD : va_D A [(hM, .inr (10, mO 0 st al ac nf ns gg mg bw md wy sg_ sz_ ks bd aM)), (aM 40, .inl (ty 0, 240, .inl (nF p3))), (aM 46, .inl (ty 0, 24341, .inl (nF (va_up fe2 ((101 * m_) + x) (fwD p3 sz_ (sz_ - m_) x)))))] := hD
                          have hA2 : ∀ j, m_ + 1 ≤ j → j ≤ sz_ → ∀ y9 : Nat, ((y9 : Nat) : Int) ≤ wz → (va_up fe2 ((101 * m_) + x) (fwD p3 sz_ (sz_ - m_) x)) (101 * j + y9) = fwD p3 sz_ (sz_ - j) y9 := fun j h1 h2 y hy => by rw [va_up_ne _ _ (by omega)]; exact hA1 j h1 h2 y hy
                          have hB2 : ∀ y, y < x + 1 → (va_up fe2 ((101 * m_) + x) (fwD p3 sz_ (sz_ - m_) x)) (101 * m_ + y) = fwD p3 sz_ (sz_ - m_) y := fun y hy => (Nat.lt_or_ge y x).elim (fun q => by rw [va_up_ne _ _ (by omega)]; exact hB1 y q) (fun q => by rw [show y = x by omega, va_up_self])
                          refine lv_iinc (v := (nI (x + 1))) (lv' := [(4, .int (nI (x + 1))), (5, .int (nI (fwD p3 sz_ (sz_ - m_) x))), (0, .ref hM), (1, .int (iI wz)), (2, .int (iI kz)), (3, .int (nI m_))]) hx hb d_Model_panel_186 hl (k := 5) rfl (nI_inc _ _ _ (by omega)) (by decide) rfl (fun ls hl => ?_)
                          refine lv_goto (tgt := 55) hx hb d_Model_panel_189 (by decide) ?_
                          exact ih55 (x + 1) (va_up fe2 ((101 * m_) + x) (fwD p3 sz_ (sz_ - m_) x)) _ _ _ (by omega) hA2 hB2 (by omega) hP hD hS (lv_sub hl [2, 3, 4, 5, 0] rfl)
                        · have hp3 := g3 m_ (by omega)
                          refine lv_iload hx hb d_Model_panel_108 (lv_at hl 5 rfl) ?_
                          refine lv_aload_n hx hb d_Model_panel_110 rfl (lv_at hl 1 rfl) ?_
                          refine va_get (D := G) (ci := 10) (v := .ref (aM 40)) (C := R_Model) (T := F_Model) (N := 47) hx hb hts in_Model hown hK hP 0 rfl rfl 40 (by decide) (hts _ fl_Model_103) (fun _ h9 => h9) rfl d_Model_panel_111 ?_
                          refine lv_iload_n hx hb d_Model_panel_114 rfl (lv_at hl 4 rfl) ?_
                          refine n_iald hx hb hK hP 1 0 rfl rfl (by omega) (by omega) d_Model_panel_115 ?_
                          refine n_icmp_lt (tgt := 172) hx hb (by omega) (by omega) d_Model_panel_116 (by decide) (fun c116 => ?_) (fun c116 => ?_)
                          · have hl : lv_has ls 6 [(5, .int (nI (fwD p3 sz_ (sz_ - m_) x))), (0, .ref hM), (1, .int (iI wz)), (2, .int (iI kz)), (3, .int (nI m_)), (4, .int (nI x))] := by rw [show (nI (fwD p3 sz_ (sz_ - m_) x)) = (nI (fwD p3 sz_ (sz_ - (m_ + 1)) x)) from congrArg nI (by rcases Nat.lt_or_ge m_ sz_ with q | q; exact (by rw [fwD_m q]; first | (rw [if_pos (by omega)]; omega) | (rw [if_neg (by omega)]; omega)); exact (by first | exact congrArg (fun z9 => fwD p3 sz_ z9 x) (show sz_ - m_ = sz_ - (m_ + 1) by omega) | (exfalso; omega)))]; exact hl
                            refine lv_aload_n hx hb d_Model_panel_172 rfl (lv_at hl 1 rfl) ?_
                            refine va_get (D := G) (ci := 10) (v := .ref (aM 46)) (C := R_Model) (T := F_Model) (N := 47) hx hb hts in_Model hown hK hP 0 rfl rfl 46 (by decide) (hts _ fl_Model_115) (fun _ h9 => h9) rfl d_Model_panel_173 ?_
                            refine lv_bipush (v := (nI 101)) hx hb d_Model_panel_176 (by decide) ?_
                            refine lv_iload_n hx hb d_Model_panel_178 rfl (lv_at hl 4 rfl) ?_
                            refine n_imul hx hb d_Model_panel_179 ?_
                            refine lv_iload hx hb d_Model_panel_180 (lv_at hl 5 rfl) ?_
                            refine n_iadd hx hb d_Model_panel_182 ?_
                            refine lv_iload hx hb d_Model_panel_183 (lv_at hl 0 rfl) ?_
                            refine n_iast hx hb hK hP hD hS 2 0 rfl rfl (by omega) (by omega) d_Model_panel_185 (fun H locs hP hD hS => ?_)
                            rw [upd_nF] at hP hD
                            have hP : va_P G vwCl [(hM, .inr (10, mO 0 st al ac nf ns gg mg bw md wy sg_ sz_ ks bd aM)), (aM 40, .inl (ty 0, 240, .inl (nF p3))), (aM 46, .inl (ty 0, 24341, .inl (nF (va_up fe2 ((101 * m_) + x) (fwD p3 sz_ (sz_ - m_) x)))))] _ := hP
                            have hD : va_D A [(hM, .inr (10, mO 0 st al ac nf ns gg mg bw md wy sg_ sz_ ks bd aM)), (aM 40, .inl (ty 0, 240, .inl (nF p3))), (aM 46, .inl (ty 0, 24341, .inl (nF (va_up fe2 ((101 * m_) + x) (fwD p3 sz_ (sz_ - m_) x)))))] := hD
                            have hA2 : ∀ j, m_ + 1 ≤ j → j ≤ sz_ → ∀ y9 : Nat, ((y9 : Nat) : Int) ≤ wz → (va_up fe2 ((101 * m_) + x) (fwD p3 sz_ (sz_ - m_) x)) (101 * j + y9) = fwD p3 sz_ (sz_ - j) y9 := fun j h1 h2 y hy => by rw [va_up_ne _ _ (by omega)]; exact hA1 j h1 h2 y hy
                            have hB2 : ∀ y, y < x + 1 → (va_up fe2 ((101 * m_) + x) (fwD p3 sz_ (sz_ - m_) x)) (101 * m_ + y) = fwD p3 sz_ (sz_ - m_) y := fun y hy => (Nat.lt_or_ge y x).elim (fun q => by rw [va_up_ne _ _ (by omega)]; exact hB1 y q) (fun q => by rw [show y = x by omega, va_up_self])
                            refine lv_iinc (v := (nI (x + 1))) (lv' := [(4, .int (nI (x + 1))), (5, .int (nI (fwD p3 sz_ (sz_ - m_) x))), (0, .ref hM), (1, .int (iI wz)), (2, .int (iI kz)), (3, .int (nI m_))]) hx hb d_Model_panel_186 hl (k := 5) rfl (nI_inc _ _ _ (by omega)) (by decide) rfl (fun ls hl => ?_)
                            refine lv_goto (tgt := 55) hx hb d_Model_panel_189 (by decide) ?_
                            exact ih55 (x + 1) (va_up fe2 ((101 * m_) + x) (fwD p3 sz_ (sz_ - m_) x)) _ _ _ (by omega) hA2 hB2 (by omega) hP hD hS (lv_sub hl [2, 3, 4, 5, 0] rfl)
                          · have hy := hA1 (m_ + 1) (by omega) (by omega) (x - p3 m_) (by omega)
                            have hyl := fwD_le p3 sz_ (sz_ - (m_ + 1)) (x - p3 m_)
                            refine lv_aload_n hx hb d_Model_panel_119 rfl (lv_at hl 1 rfl) ?_
                            refine va_get (D := G) (ci := 10) (v := .ref (aM 46)) (C := R_Model) (T := F_Model) (N := 47) hx hb hts in_Model hown hK hP 0 rfl rfl 46 (by decide) (hts _ fl_Model_115) (fun _ h9 => h9) rfl d_Model_panel_120 ?_
                            refine lv_bipush (v := (nI 101)) hx hb d_Model_panel_123 (by decide) ?_
                            refine lv_iload_n hx hb d_Model_panel_125 rfl (lv_at hl 4 rfl) ?_
                            refine lv_iconst (v := (nI 1)) hx hb d_Model_panel_126 (by decide) ?_
                            refine n_iadd hx hb d_Model_panel_127 ?_
                            refine n_imul hx hb d_Model_panel_128 ?_
                            refine lv_iload hx hb d_Model_panel_129 (lv_at hl 5 rfl) ?_
                            refine n_iadd hx hb d_Model_panel_131 ?_
                            refine lv_aload_n hx hb d_Model_panel_132 rfl (lv_at hl 1 rfl) ?_
                            refine va_get (D := G) (ci := 10) (v := .ref (aM 40)) (C := R_Model) (T := F_Model) (N := 47) hx hb hts in_Model hown hK hP 0 rfl rfl 40 (by decide) (hts _ fl_Model_103) (fun _ h9 => h9) rfl d_Model_panel_133 ?_
                            refine lv_iload_n hx hb d_Model_panel_136 rfl (lv_at hl 4 rfl) ?_
                            refine n_iald hx hb hK hP 1 0 rfl rfl (by omega) (by omega) d_Model_panel_137 ?_
                            refine n_isub hx hb (by omega) d_Model_panel_138 ?_
                            refine n_iald hx hb hK hP 2 0 rfl rfl (by omega) (by omega) d_Model_panel_139 ?_
                            refine top_i (show (nI (fe2 (((101 * (m_ + 1)) + x) - (p3 m_)))) = (nI (fwD p3 sz_ (sz_ - (m_ + 1)) (x - p3 m_))) from congrArg nI (by rw [← hy]; congr 1; omega)) ?_
                            refine lv_iconst (v := (nI 1)) hx hb d_Model_panel_140 (by decide) ?_
                            refine n_iadd hx hb d_Model_panel_141 ?_
                            refine lv_iload hx hb d_Model_panel_142 (lv_at hl 0 rfl) ?_
                            refine n_icmp_ge (tgt := 172) hx hb (by omega) (by omega) d_Model_panel_144 (by decide) (fun c144 => ?_) (fun c144 => ?_)
                            · have hl : lv_has ls 6 [(5, .int (nI (fwD p3 sz_ (sz_ - m_) x))), (0, .ref hM), (1, .int (iI wz)), (2, .int (iI kz)), (3, .int (nI m_)), (4, .int (nI x))] := by rw [show (nI (fwD p3 sz_ (sz_ - m_) x)) = (nI (fwD p3 sz_ (sz_ - (m_ + 1)) x)) from congrArg nI (by rcases Nat.lt_or_ge m_ sz_ with q | q; exact (by rw [fwD_m q]; first | (rw [if_pos (by omega)]; omega) | (rw [if_neg (by omega)]; omega)); exact (by first | exact congrArg (fun z9 => fwD p3 sz_ z9 x) (show sz_ - m_ = sz_ - (m_ + 1) by omega) | (exfalso; omega)))]; exact hl
                              refine lv_aload_n hx hb d_Model_panel_172 rfl (lv_at hl 1 rfl) ?_
                              refine va_get (D := G) (ci := 10) (v := .ref (aM 46)) (C := R_Model) (T := F_Model) (N := 47) hx hb hts in_Model hown hK hP 0 rfl rfl 46 (by decide) (hts _ fl_Model_115) (fun _ h9 => h9) rfl d_Model_panel_173 ?_
                              refine lv_bipush (v := (nI 101)) hx hb d_Model_panel_176 (by decide) ?_
                              refine lv_iload_n hx hb d_Model_panel_178 rfl (lv_at hl 4 rfl) ?_
                              refine n_imul hx hb d_Model_panel_179 ?_
                              refine lv_iload hx hb d_Model_panel_180 (lv_at hl 5 rfl) ?_
                              refine n_iadd hx hb d_Model_panel_182 ?_
                              refine lv_iload hx hb d_Model_panel_183 (lv_at hl 0 rfl) ?_
                              refine n_iast hx hb hK hP hD hS 2 0 rfl rfl (by omega) (by omega) d_Model_panel_185 (fun H locs hP hD hS => ?_)
                              rw [upd_nF] at hP hD
                              have hP : va_P G vwCl [(hM, .inr (10, mO 0 st al ac nf ns gg mg bw md wy sg_ sz_ ks bd aM)), (aM 40, .inl (ty 0, 240, .inl (nF p3))), (aM 46, .inl (ty 0, 24341, .inl (nF (va_up fe2 ((101 * m_) + x) (fwD p3 sz_ (sz_ - m_) x)))))] _ := hP
                              have hD : va_D A [(hM, .inr (10, mO 0 st al ac nf ns gg mg bw md wy sg_ sz_ ks bd aM)), (aM 40, .inl (ty 0, 240, .inl (nF p3))), (aM 46, .inl (ty 0, 24341, .inl (nF (va_up fe2 ((101 * m_) + x) (fwD p3 sz_ (sz_ - m_) x)))))] := hD
                              have hA2 : ∀ j, m_ + 1 ≤ j → j ≤ sz_ → ∀ y9 : Nat, ((y9 : Nat) : Int) ≤ wz → (va_up fe2 ((101 * m_) + x) (fwD p3 sz_ (sz_ - m_) x)) (101 * j + y9) = fwD p3 sz_ (sz_ - j) y9 := fun j h1 h2 y hy => by rw [va_up_ne _ _ (by omega)]; exact hA1 j h1 h2 y hy
                              have hB2 : ∀ y, y < x + 1 → (va_up fe2 ((101 * m_) + x) (fwD p3 sz_ (sz_ - m_) x)) (101 * m_ + y) = fwD p3 sz_ (sz_ - m_) y := fun y hy => (Nat.lt_or_ge y x).elim (fun q => by rw [va_up_ne _ _ (by omega)]; exact hB1 y q) (fun q => by rw [show y = x by omega, va_up_self])
                              refine lv_iinc (v := (nI (x + 1))) (lv' := [(4, .int (nI (x + 1))), (5, .int (nI (fwD p3 sz_ (sz_ - m_) x))), (0, .ref hM), (1, .int (iI wz)), (2, .int (iI kz)), (3, .int (nI m_))]) hx hb d_Model_panel_186 hl (k := 5) rfl (nI_inc _ _ _ (by omega)) (by decide) rfl (fun ls hl => ?_)
                              refine lv_goto (tgt := 55) hx hb d_Model_panel_189 (by decide) ?_
                              exact ih55 (x + 1) (va_up fe2 ((101 * m_) + x) (fwD p3 sz_ (sz_ - m_) x)) _ _ _ (by omega) hA2 hB2 (by omega) hP hD hS (lv_sub hl [2, 3, 4, 5, 0] rfl)
                            · refine lv_aload_n hx hb d_Model_panel_147 rfl (lv_at hl 1 rfl) ?_
                              refine va_get (D := G) (ci := 10) (v := .ref (aM 46)) (C := R_Model) (T := F_Model) (N := 47) hx hb hts in_Model hown hK hP 0 rfl rfl 46 (by decide) (hts _ fl_Model_115) (fun _ h9 => h9) rfl d_Model_panel_148 ?_
                              refine lv_bipush (v := (nI 101)) hx hb d_Model_panel_151 (by decide) ?_
                              refine lv_iload_n hx hb d_Model_panel_153 rfl (lv_at hl 4 rfl) ?_
                              refine lv_iconst (v := (nI 1)) hx hb d_Model_panel_154 (by decide) ?_
                              refine n_iadd hx hb d_Model_panel_155 ?_
                              refine n_imul hx hb d_Model_panel_156 ?_
                              refine lv_iload hx hb d_Model_panel_157 (lv_at hl 5 rfl) ?_
                              refine n_iadd hx hb d_Model_panel_159 ?_
                              refine lv_aload_n hx hb d_Model_panel_160 rfl (lv_at hl 1 rfl) ?_
                              refine va_get (D := G) (ci := 10) (v := .ref (aM 40)) (C := R_Model) (T := F_Model) (N := 47) hx hb hts in_Model hown hK hP 0 rfl rfl 40 (by decide) (hts _ fl_Model_103) (fun _ h9 => h9) rfl d_Model_panel_161 ?_
                              refine lv_iload_n hx hb d_Model_panel_164 rfl (lv_at hl 4 rfl) ?_
                              refine n_iald hx hb hK hP 1 0 rfl rfl (by omega) (by omega) d_Model_panel_165 ?_
                              refine n_isub hx hb (by omega) d_Model_panel_166 ?_
                              refine n_iald hx hb hK hP 2 0 rfl rfl (by omega) (by omega) d_Model_panel_167 ?_
                              refine top_i (show (nI (fe2 (((101 * (m_ + 1)) + x) - (p3 m_)))) = (nI (fwD p3 sz_ (sz_ - (m_ + 1)) (x - p3 m_))) from congrArg nI (by rw [← hy]; congr 1; omega)) ?_
                              refine lv_iconst (v := (nI 1)) hx hb d_Model_panel_168 (by decide) ?_
                              refine n_iadd hx hb d_Model_panel_169 ?_
                              refine lv_istore (lv' := [(5, .int (nI ((fwD p3 sz_ (sz_ - (m_ + 1)) (x - p3 m_)) + 1))), (0, .ref hM), (1, .int (iI wz)), (2, .int (iI kz)), (3, .int (nI m_)), (4, .int (nI x))]) hx hb d_Model_panel_170 hl (by decide) rfl (fun ls hl => ?_)
                              have hl : lv_has ls 6 [(5, .int (nI (fwD p3 sz_ (sz_ - m_) x))), (0, .ref hM), (1, .int (iI wz)), (2, .int (iI kz)), (3, .int (nI m_)), (4, .int (nI x))] := by rw [show (nI (fwD p3 sz_ (sz_ - m_) x)) = (nI ((fwD p3 sz_ (sz_ - (m_ + 1)) (x - p3 m_)) + 1)) from congrArg nI (by rcases Nat.lt_or_ge m_ sz_ with q | q; exact (by rw [fwD_m q]; first | (rw [if_pos (by omega)]; omega) | (rw [if_neg (by omega)]; omega)); exact (by first | exact congrArg (fun z9 => fwD p3 sz_ z9 x) (show sz_ - m_ = sz_ - (m_ + 1) by omega) | (exfalso; omega)))]; exact hl
                              refine lv_aload_n hx hb d_Model_panel_172 rfl (lv_at hl 1 rfl) ?_
                              refine va_get (D := G) (ci := 10) (v := .ref (aM 46)) (C := R_Model) (T := F_Model) (N := 47) hx hb hts in_Model hown hK hP 0 rfl rfl 46 (by decide) (hts _ fl_Model_115) (fun _ h9 => h9) rfl d_Model_panel_173 ?_
                              refine lv_bipush (v := (nI 101)) hx hb d_Model_panel_176 (by decide) ?_
                              refine lv_iload_n hx hb d_Model_panel_178 rfl (lv_at hl 4 rfl) ?_
                              refine n_imul hx hb d_Model_panel_179 ?_
                              refine lv_iload hx hb d_Model_panel_180 (lv_at hl 5 rfl) ?_
                              refine n_iadd hx hb d_Model_panel_182 ?_
                              refine lv_iload hx hb d_Model_panel_183 (lv_at hl 0 rfl) ?_
                              refine n_iast hx hb hK hP hD hS 2 0 rfl rfl (by omega) (by omega) d_Model_panel_185 (fun H locs hP hD hS => ?_)
                              rw [upd_nF] at hP hD
                              have hP : va_P G vwCl [(hM, .inr (10, mO 0 st al ac nf ns gg mg bw md wy sg_ sz_ ks bd aM)), (aM 40, .inl (ty 0, 240, .inl (nF p3))), (aM 46, .inl (ty 0, 24341, .inl (nF (va_up fe2 ((101 * m_) + x) (fwD p3 sz_ (sz_ - m_) x)))))] _ := hP
                              have hD : va_D A [(hM, .inr (10, mO 0 st al ac nf ns gg mg bw md wy sg_ sz_ ks bd aM)), (aM 40, .inl (ty 0, 240, .inl (nF p3))), (aM 46, .inl (ty 0, 24341, .inl (nF (va_up fe2 ((101 * m_) + x) (fwD p3 sz_ (sz_ - m_) x)))))] := hD
                              have hA2 : ∀ j, m_ + 1 ≤ j → j ≤ sz_ → ∀ y9 : Nat, ((y9 : Nat) : Int) ≤ wz → (va_up fe2 ((101 * m_) + x) (fwD p3 sz_ (sz_ - m_) x)) (101 * j + y9) = fwD p3 sz_ (sz_ - j) y9 := fun j h1 h2 y hy => by rw [va_up_ne _ _ (by omega)]; exact hA1 j h1 h2 y hy
                              have hB2 : ∀ y, y < x + 1 → (va_up fe2 ((101 * m_) + x) (fwD p3 sz_ (sz_ - m_) x)) (101 * m_ + y) = fwD p3 sz_ (sz_ - m_) y := fun y hy => (Nat.lt_or_ge y x).elim (fun q => by rw [va_up_ne _ _ (by omega)]; exact hB1 y q) (fun q => by rw [show y = x by omega, va_up_self])
                              refine lv_iinc (v := (nI (x + 1))) (lv' := [(4, .int (nI (x + 1))), (5, .int (nI (fwD p3 sz_ (sz_ - m_) x))), (0, .ref hM), (1, .int (iI wz)), (2, .int (iI kz)), (3, .int (nI m_))]) hx hb d_Model_panel_186 hl (k := 5) rfl (nI_inc _ _ _ (by omega)) (by decide) rfl (fun ls hl => ?_)
                              refine lv_goto (tgt := 55) hx hb d_Model_panel_189 (by decide) ?_
                              exact ih55 (x + 1) (va_up fe2 ((101 * m_) + x) (fwD p3 sz_ (sz_ - m_) x)) _ _ _ (by omega) hA2 hB2 (by omega) hP hD hS (lv_sub hl [2, 3, 4, 5, 0] rfl)
                      · refine lv_sipush (v := (nI 1000)) hx hb d_Model_panel_78 (by decide) ?_
                        refine lv_goto (tgt := 98) hx hb d_Model_panel_81 (by decide) ?_
                        refine top_i (show (nI 1000) = nI (fwD p3 sz_ (sz_ - (m_ + 1)) x) from congrArg nI (by first | (rw [show x = 0 by omega, fwD_0]) | (rw [show sz_ - (m_ + 1) = 0 by omega]; show _ = (if x = 0 then 0 else 1000); rw [if_neg (by omega)]) | (exact hA1 (m_ + 1) (by omega) (by omega) x (by omega)))) ?_
                        refine lv_istore (lv' := [(5, .int (nI (fwD p3 sz_ (sz_ - (m_ + 1)) x))), (0, .ref hM), (1, .int (iI wz)), (2, .int (iI kz)), (3, .int (nI m_)), (4, .int (nI x))]) hx hb d_Model_panel_98 hl (by decide) rfl (fun ls hl => ?_)
                        refine lv_iload_n hx hb d_Model_panel_100 rfl (lv_at hl 4 rfl) ?_
                        refine lv_aload_n hx hb d_Model_panel_101 rfl (lv_at hl 1 rfl) ?_
                        refine va_get (D := G) (ci := 10) (v := .int (nI sz_)) (C := R_Model) (T := F_Model) (N := 47) hx hb hts in_Model hown hK hP 0 rfl rfl 36 (by decide) (hts _ fl_Model_219) (fun _ h9 => h9) rfl d_Model_panel_102 ?_
                        refine n_icmp_ge (tgt := 172) hx hb (by omega) (by omega) d_Model_panel_105 (by decide) (fun c105 => ?_) (fun c105 => ?_)
                        · have hl : lv_has ls 6 [(5, .int (nI (fwD p3 sz_ (sz_ - m_) x))), (0, .ref hM), (1, .int (iI wz)), (2, .int (iI kz)), (3, .int (nI m_)), (4, .int (nI x))] := by rw [show (nI (fwD p3 sz_ (sz_ - m_) x)) = (nI (fwD p3 sz_ (sz_ - (m_ + 1)) x)) from congrArg nI (by rcases Nat.lt_or_ge m_ sz_ with q | q; exact (by rw [fwD_m q]; first | (rw [if_pos (by omega)]; omega) | (rw [if_neg (by omega)]; omega)); exact (by first | exact congrArg (fun z9 => fwD p3 sz_ z9 x) (show sz_ - m_ = sz_ - (m_ + 1) by omega) | (exfalso; omega)))]; exact hl
                          refine lv_aload_n hx hb d_Model_panel_172 rfl (lv_at hl 1 rfl) ?_
                          refine va_get (D := G) (ci := 10) (v := .ref (aM 46)) (C := R_Model) (T := F_Model) (N := 47) hx hb hts in_Model hown hK hP 0 rfl rfl 46 (by decide) (hts _ fl_Model_115) (fun _ h9 => h9) rfl d_Model_panel_173 ?_
                          refine lv_bipush (v := (nI 101)) hx hb d_Model_panel_176 (by decide) ?_
                          refine lv_iload_n hx hb d_Model_panel_178 rfl (lv_at hl 4 rfl) ?_
                          refine n_imul hx hb d_Model_panel_179 ?_
                          refine lv_iload hx hb d_Model_panel_180 (lv_at hl 5 rfl) ?_
                          refine n_iadd hx hb d_Model_panel_182 ?_
                          refine lv_iload hx hb d_Model_panel_183 (lv_at hl 0 rfl) ?_
                          refine n_iast hx hb hK hP hD hS 2 0 rfl rfl (by omega) (by omega) d_Model_panel_185 (fun H locs hP hD hS => ?_)
                          rw [upd_nF] at hP hD
                          have hP : va_P G vwCl [(hM, .inr (10, mO 0 st al ac nf ns gg mg bw md wy sg_ sz_ ks bd aM)), (aM 40, .inl (ty 0, 240, .inl (nF p3))), (aM 46, .inl (ty 0, 24341, .inl (nF (va_up fe2 ((101 * m_) + x) (fwD p3 sz_ (sz_ - m_) x)))))] _ := hP
                          have hD : va_D A [(hM, .inr (10, mO 0 st al ac nf ns gg mg bw md wy sg_ sz_ ks bd aM)), (aM 40, .inl (ty 0, 240, .inl (nF p3))), (aM 46, .inl (ty 0, 24341, .inl (nF (va_up fe2 ((101 * m_) + x) (fwD p3 sz_ (sz_ - m_) x)))))] := hD
                          have hA2 : ∀ j, m_ + 1 ≤ j → j ≤ sz_ → ∀ y9 : Nat, ((y9 : Nat) : Int) ≤ wz → (va_up fe2 ((101 * m_) + x) (fwD p3 sz_ (sz_ - m_) x)) (101 * j + y9) = fwD p3 sz_ (sz_ - j) y9 := fun j h1 h2 y hy => by rw [va_up_ne _ _ (by omega)]; exact hA1 j h1 h2 y hy
                          have hB2 : ∀ y, y < x + 1 → (va_up fe2 ((101 * m_) + x) (fwD p3 sz_ (sz_ - m_) x)) (101 * m_ + y) = fwD p3 sz_ (sz_ - m_) y := fun y hy => (Nat.lt_or_ge y x).elim (fun q => by rw [va_up_ne _ _ (by omega)]; exact hB1 y q) (fun q => by rw [show y = x by omega, va_up_self])
                          refine lv_iinc (v := (nI (x + 1))) (lv' := [(4, .int (nI (x + 1))), (5, .int (nI (fwD p3 sz_ (sz_ - m_) x))), (0, .ref hM), (1, .int (iI wz)), (2, .int (iI kz)), (3, .int (nI m_))]) hx hb d_Model_panel_186 hl (k := 5) rfl (nI_inc _ _ _ (by omega)) (by decide) rfl (fun ls hl => ?_)
                          refine lv_goto (tgt := 55) hx hb d_Model_panel_189 (by decide) ?_
                          exact ih55 (x + 1) (va_up fe2 ((101 * m_) + x) (fwD p3 sz_ (sz_ - m_) x)) _ _ _ (by omega) hA2 hB2 (by omega) hP hD hS (lv_sub hl [2, 3, 4, 5, 0] rfl)
                        · have hp3 := g3 m_ (by omega)
                          refine lv_iload hx hb d_Model_panel_108 (lv_at hl 5 rfl) ?_
                          refine lv_aload_n hx hb d_Model_panel_110 rfl (lv_at hl 1 rfl) ?_
                          refine va_get (D := G) (ci := 10) (v := .ref (aM 40)) (C := R_Model) (T := F_Model) (N := 47) hx hb hts in_Model hown hK hP 0 rfl rfl 40 (by decide) (hts _ fl_Model_103) (fun _ h9 => h9) rfl d_Model_panel_111 ?_
                          refine lv_iload_n hx hb d_Model_panel_114 rfl (lv_at hl 4 rfl) ?_
                          refine n_iald hx hb hK hP 1 0 rfl rfl (by omega) (by omega) d_Model_panel_115 ?_
                          refine n_icmp_lt (tgt := 172) hx hb (by omega) (by omega) d_Model_panel_116 (by decide) (fun c116 => ?_) (fun c116 => ?_)
                          · have hl : lv_has ls 6 [(5, .int (nI (fwD p3 sz_ (sz_ - m_) x))), (0, .ref hM), (1, .int (iI wz)), (2, .int (iI kz)), (3, .int (nI m_)), (4, .int (nI x))] := by rw [show (nI (fwD p3 sz_ (sz_ - m_) x)) = (nI (fwD p3 sz_ (sz_ - (m_ + 1)) x)) from congrArg nI (by rcases Nat.lt_or_ge m_ sz_ with q | q; exact (by rw [fwD_m q]; first | (rw [if_pos (by omega)]; omega) | (rw [if_neg (by omega)]; omega)); exact (by first | exact congrArg (fun z9 => fwD p3 sz_ z9 x) (show sz_ - m_ = sz_ - (m_ + 1) by omega) | (exfalso; omega)))]; exact hl
                            refine lv_aload_n hx hb d_Model_panel_172 rfl (lv_at hl 1 rfl) ?_
                            refine va_get (D := G) (ci := 10) (v := .ref (aM 46)) (C := R_Model) (T := F_Model) (N := 47) hx hb hts in_Model hown hK hP 0 rfl rfl 46 (by decide) (hts _ fl_Model_115) (fun _ h9 => h9) rfl d_Model_panel_173 ?_
                            refine lv_bipush (v := (nI 101)) hx hb d_Model_panel_176 (by decide) ?_
                            refine lv_iload_n hx hb d_Model_panel_178 rfl (lv_at hl 4 rfl) ?_
                            refine n_imul hx hb d_Model_panel_179 ?_
                            refine lv_iload hx hb d_Model_panel_180 (lv_at hl 5 rfl) ?_
                            refine n_iadd hx hb d_Model_panel_182 ?_
                            refine lv_iload hx hb d_Model_panel_183 (lv_at hl 0 rfl) ?_
                            refine n_iast hx hb hK hP hD hS 2 0 rfl rfl (by omega) (by omega) d_Model_panel_185 (fun H locs hP hD hS => ?_)
                            rw [upd_nF] at hP hD
                            have hP : va_P G vwCl [(hM, .inr (10, mO 0 st al ac nf ns gg mg bw md wy sg_ sz_ ks bd aM)), (aM 40, .inl (ty 0, 240, .inl (nF p3))), (aM 46, .inl (ty 0, 24341, .inl (nF (va_up fe2 ((101 * m_) + x) (fwD p3 sz_ (sz_ - m_) x)))))] _ := hP
                            have hD : va_D A [(hM, .inr (10, mO 0 st al ac nf ns gg mg bw md wy sg_ sz_ ks bd aM)), (aM 40, .inl (ty 0, 240, .inl (nF p3))), (aM 46, .inl (ty 0, 24341, .inl (nF (va_up fe2 ((101 * m_) + x) (fwD p3 sz_ (sz_ - m_) x)))))] := hD
                            have hA2 : ∀ j, m_ + 1 ≤ j → j ≤ sz_ → ∀ y9 : Nat, ((y9 : Nat) : Int) ≤ wz → (va_up fe2 ((101 * m_) + x) (fwD p3 sz_ (sz_ - m_) x)) (101 * j + y9) = fwD p3 sz_ (sz_ - j) y9 := fun j h1 h2 y hy => by rw [va_up_ne _ _ (by omega)]; exact hA1 j h1 h2 y hy
                            have hB2 : ∀ y, y < x + 1 → (va_up fe2 ((101 * m_) + x) (fwD p3 sz_ (sz_ - m_) x)) (101 * m_ + y) = fwD p3 sz_ (sz_ - m_) y := fun y hy => (Nat.lt_or_ge y x).elim (fun q => by rw [va_up_ne _ _ (by omega)]; exact hB1 y q) (fun q => by rw [show y = x by omega, va_up_self])
                            refine lv_iinc (v := (nI (x + 1))) (lv' := [(4, .int (nI (x + 1))), (5, .int (nI (fwD p3 sz_ (sz_ - m_) x))), (0, .ref hM), (1, .int (iI wz)), (2, .int (iI kz)), (3, .int (nI m_))]) hx hb d_Model_panel_186 hl (k := 5) rfl (nI_inc _ _ _ (by omega)) (by decide) rfl (fun ls hl => ?_)
                            refine lv_goto (tgt := 55) hx hb d_Model_panel_189 (by decide) ?_
                            exact ih55 (x + 1) (va_up fe2 ((101 * m_) + x) (fwD p3 sz_ (sz_ - m_) x)) _ _ _ (by omega) hA2 hB2 (by omega) hP hD hS (lv_sub hl [2, 3, 4, 5, 0] rfl)
                          · have hy := hA1 (m_ + 1) (by omega) (by omega) (x - p3 m_) (by omega)
                            have hyl := fwD_le p3 sz_ (sz_ - (m_ + 1)) (x - p3 m_)
                            refine lv_aload_n hx hb d_Model_panel_119 rfl (lv_at hl 1 rfl) ?_
                            refine va_get (D := G) (ci := 10) (v := .ref (aM 46)) (C := R_Model) (T := F_Model) (N := 47) hx hb hts in_Model hown hK hP 0 rfl rfl 46 (by decide) (hts _ fl_Model_115) (fun _ h9 => h9) rfl d_Model_panel_120 ?_
                            refine lv_bipush (v := (nI 101)) hx hb d_Model_panel_123 (by decide) ?_
                            refine lv_iload_n hx hb d_Model_panel_125 rfl (lv_at hl 4 rfl) ?_
                            refine lv_iconst (v := (nI 1)) hx hb d_Model_panel_126 (by decide) ?_
                            refine n_iadd hx hb d_Model_panel_127 ?_
                            refine n_imul hx hb d_Model_panel_128 ?_
                            refine lv_iload hx hb d_Model_panel_129 (lv_at hl 5 rfl) ?_
                            refine n_iadd hx hb d_Model_panel_131 ?_
                            refine lv_aload_n hx hb d_Model_panel_132 rfl (lv_at hl 1 rfl) ?_
                            refine va_get (D := G) (ci := 10) (v := .ref (aM 40)) (C := R_Model) (T := F_Model) (N := 47) hx hb hts in_Model hown hK hP 0 rfl rfl 40 (by decide) (hts _ fl_Model_103) (fun _ h9 => h9) rfl d_Model_panel_133 ?_
                            refine lv_iload_n hx hb d_Model_panel_136 rfl (lv_at hl 4 rfl) ?_
                            refine n_iald hx hb hK hP 1 0 rfl rfl (by omega) (by omega) d_Model_panel_137 ?_
                            refine n_isub hx hb (by omega) d_Model_panel_138 ?_
                            refine n_iald hx hb hK hP 2 0 rfl rfl (by omega) (by omega) d_Model_panel_139 ?_
                            refine top_i (show (nI (fe2 (((101 * (m_ + 1)) + x) - (p3 m_)))) = (nI (fwD p3 sz_ (sz_ - (m_ + 1)) (x - p3 m_))) from congrArg nI (by rw [← hy]; congr 1; omega)) ?_
                            refine lv_iconst (v := (nI 1)) hx hb d_Model_panel_140 (by decide) ?_
                            refine n_iadd hx hb d_Model_panel_141 ?_
                            refine lv_iload hx hb d_Model_panel_142 (lv_at hl 0 rfl) ?_
                            refine n_icmp_ge (tgt := 172) hx hb (by omega) (by omega) d_Model_panel_144 (by decide) (fun c144 => ?_) (fun c144 => ?_)
                            · have hl : lv_has ls 6 [(5, .int (nI (fwD p3 sz_ (sz_ - m_) x))), (0, .ref hM), (1, .int (iI wz)), (2, .int (iI kz)), (3, .int (nI m_)), (4, .int (nI x))] := by rw [show (nI (fwD p3 sz_ (sz_ - m_) x)) = (nI (fwD p3 sz_ (sz_ - (m_ + 1)) x)) from congrArg nI (by rcases Nat.lt_or_ge m_ sz_ with q | q; exact (by rw [fwD_m q]; first | (rw [if_pos (by omega)]; omega) | (rw [if_neg (by omega)]; omega)); exact (by first | exact congrArg (fun z9 => fwD p3 sz_ z9 x) (show sz_ - m_ = sz_ - (m_ + 1) by omega) | (exfalso; omega)))]; exact hl
                              refine lv_aload_n hx hb d_Model_panel_172 rfl (lv_at hl 1 rfl) ?_
                              refine va_get (D := G) (ci := 10) (v := .ref (aM 46)) (C := R_Model) (T := F_Model) (N := 47) hx hb hts in_Model hown hK hP 0 rfl rfl 46 (by decide) (hts _ fl_Model_115) (fun _ h9 => h9) rfl d_Model_panel_173 ?_
                              refine lv_bipush (v := (nI 101)) hx hb d_Model_panel_176 (by decide) ?_
                              refine lv_iload_n hx hb d_Model_panel_178 rfl (lv_at hl 4 rfl) ?_
                              refine n_imul hx hb d_Model_panel_179 ?_
                              refine lv_iload hx hb d_Model_panel_180 (lv_at hl 5 rfl) ?_
                              refine n_iadd hx hb d_Model_panel_182 ?_
                              refine lv_iload hx hb d_Model_panel_183 (lv_at hl 0 rfl) ?_
                              refine n_iast hx hb hK hP hD hS 2 0 rfl rfl (by omega) (by omega) d_Model_panel_185 (fun H locs hP hD hS => ?_)
                              rw [upd_nF] at hP hD
                              have hP : va_P G vwCl [(hM, .inr (10, mO 0 st al ac nf ns gg mg bw md wy sg_ sz_ ks bd aM)), (aM 40, .inl (ty 0, 240, .inl (nF p3))), (aM 46, .inl (ty 0, 24341, .inl (nF (va_up fe2 ((101 * m_) + x) (fwD p3 sz_ (sz_ - m_) x)))))] _ := hP
                              have hD : va_D A [(hM, .inr (10, mO 0 st al ac nf ns gg mg bw md wy sg_ sz_ ks bd aM)), (aM 40, .inl (ty 0, 240, .inl (nF p3))), (aM 46, .inl (ty 0, 24341, .inl (nF (va_up fe2 ((101 * m_) + x) (fwD p3 sz_ (sz_ - m_) x)))))] := hD
                              have hA2 : ∀ j, m_ + 1 ≤ j → j ≤ sz_ → ∀ y9 : Nat, ((y9 : Nat) : Int) ≤ wz → (va_up fe2 ((101 * m_) + x) (fwD p3 sz_ (sz_ - m_) x)) (101 * j + y9) = fwD p3 sz_ (sz_ - j) y9 := fun j h1 h2 y hy => by rw [va_up_ne _ _ (by omega)]; exact hA1 j h1 h2 y hy
                              have hB2 : ∀ y, y < x + 1 → (va_up fe2 ((101 * m_) + x) (fwD p3 sz_ (sz_ - m_) x)) (101 * m_ + y) = fwD p3 sz_ (sz_ - m_) y := fun y hy => (Nat.lt_or_ge y x).elim (fun q => by rw [va_up_ne _ _ (by omega)]; exact hB1 y q) (fun q => by rw [show y = x by omega, va_up_self])
                              refine lv_iinc (v := (nI (x + 1))) (lv' := [(4, .int (nI (x + 1))), (5, .int (nI (fwD p3 sz_ (sz_ - m_) x))), (0, .ref hM), (1, .int (iI wz)), (2, .int (iI kz)), (3, .int (nI m_))]) hx hb d_Model_panel_186 hl (k := 5) rfl (nI_inc _ _ _ (by omega)) (by decide) rfl (fun ls hl => ?_)
                              refine lv_goto (tgt := 55) hx hb d_Model_panel_189 (by decide) ?_
                              exact ih55 (x + 1) (va_up fe2 ((101 * m_) + x) (fwD p3 sz_ (sz_ - m_) x)) _ _ _ (by omega) hA2 hB2 (by omega) hP hD hS (lv_sub hl [2, 3, 4, 5, 0] rfl)
                            · refine lv_aload_n hx hb d_Model_panel_147 rfl (lv_at hl 1 rfl) ?_
                              refine va_get (D := G) (ci := 10) (v := .ref (aM 46)) (C := R_Model) (T := F_Model) (N := 47) hx hb hts in_Model hown hK hP 0 rfl rfl 46 (by decide) (hts _ fl_Model_115) (fun _ h9 => h9) rfl d_Model_panel_148 ?_
                              refine lv_bipush (v := (nI 101)) hx hb d_Model_panel_151 (by decide) ?_
                              refine lv_iload_n hx hb d_Model_panel_153 rfl (lv_at hl 4 rfl) ?_
                              refine lv_iconst (v := (nI 1)) hx hb d_Model_panel_154 (by decide) ?_
                              refine n_iadd hx hb d_Model_panel_155 ?_
                              refine n_imul hx hb d_Model_panel_156 ?_
                              refine lv_iload hx hb d_Model_panel_157 (lv_at hl 5 rfl) ?_
                              refine n_iadd hx hb d_Model_panel_159 ?_
                              refine lv_aload_n hx hb d_Model_panel_160 rfl (lv_at hl 1 rfl) ?_
                              refine va_get (D := G) (ci := 10) (v := .ref (aM 40)) (C := R_Model) (T := F_Model) (N := 47) hx hb hts in_Model hown hK hP 0 rfl rfl 40 (by decide) (hts _ fl_Model_103) (fun _ h9 => h9) rfl d_Model_panel_161 ?_
                              refine lv_iload_n hx hb d_Model_panel_164 rfl (lv_at hl 4 rfl) ?_
                              refine n_iald hx hb hK hP 1 0 rfl rfl (by omega) (by omega) d_Model_panel_165 ?_
                              refine n_isub hx hb (by omega) d_Model_panel_166 ?_
                              refine n_iald hx hb hK hP 2 0 rfl rfl (by omega) (by omega) d_Model_panel_167 ?_
                              refine top_i (show (nI (fe2 (((101 * (m_ + 1)) + x) - (p3 m_)))) = (nI (fwD p3 sz_ (sz_ - (m_ + 1)) (x - p3 m_))) from congrArg nI (by rw [← hy]; congr 1; omega)) ?_
                              refine lv_iconst (v := (nI 1)) hx hb d_Model_panel_168 (by decide) ?_
                              refine n_iadd hx hb d_Model_panel_169 ?_
                              refine lv_istore (lv' := [(5, .int (nI ((fwD p3 sz_ (sz_ - (m_ + 1)) (x - p3 m_)) + 1))), (0, .ref hM), (1, .int (iI wz)), (2, .int (iI kz)), (3, .int (nI m_)), (4, .int (nI x))]) hx hb d_Model_panel_170 hl (by decide) rfl (fun ls hl => ?_)
                              have hl : lv_has ls 6 [(5, .int (nI (fwD p3 sz_ (sz_ - m_) x))), (0, .ref hM), (1, .int (iI wz)), (2, .int (iI kz)), (3, .int (nI m_)), (4, .int (nI x))] := by rw [show (nI (fwD p3 sz_ (sz_ - m_) x)) = (nI ((fwD p3 sz_ (sz_ - (m_ + 1)) (x - p3 m_)) + 1)) from congrArg nI (by rcases Nat.lt_or_ge m_ sz_ with q | q; exact (by rw [fwD_m q]; first | (rw [if_pos (by omega)]; omega) | (rw [if_neg (by omega)]; omega)); exact (by first | exact congrArg (fun z9 => fwD p3 sz_ z9 x) (show sz_ - m_ = sz_ - (m_ + 1) by omega) | (exfalso; omega)))]; exact hl
                              refine lv_aload_n hx hb d_Model_panel_172 rfl (lv_at hl 1 rfl) ?_
                              refine va_get (D := G) (ci := 10) (v := .ref (aM 46)) (C := R_Model) (T := F_Model) (N := 47) hx hb hts in_Model hown hK hP 0 rfl rfl 46 (by decide) (hts _ fl_Model_115) (fun _ h9 => h9) rfl d_Model_panel_173 ?_
                              refine lv_bipush (v := (nI 101)) hx hb d_Model_panel_176 (by decide) ?_
                              refine lv_iload_n hx hb d_Model_panel_178 rfl (lv_at hl 4 rfl) ?_
                              refine n_imul hx hb d_Model_panel_179 ?_
                              refine lv_iload hx hb d_Model_panel_180 (lv_at hl 5 rfl) ?_
                              refine n_iadd hx hb d_Model_panel_182 ?_
                              refine lv_iload hx hb d_Model_panel_183 (lv_at hl 0 rfl) ?_
                              refine n_iast hx hb hK hP hD hS 2 0 rfl rfl (by omega) (by omega) d_Model_panel_185 (fun H locs hP hD hS => ?_)
                              rw [upd_nF] at hP hD
                              have hP : va_P G vwCl [(hM, .inr (10, mO 0 st al ac nf ns gg mg bw md wy sg_ sz_ ks bd aM)), (aM 40, .inl (ty 0, 240, .inl (nF p3))), (aM 46, .inl (ty 0, 24341, .inl (nF (va_up fe2 ((101 * m_) + x) (fwD p3 sz_ (sz_ - m_) x)))))] _ := hP
                              have hD : va_D A [(hM, .inr (10, mO 0 st al ac nf ns gg mg bw md wy sg_ sz_ ks bd aM)), (aM 40, .inl (ty 0, 240, .inl (nF p3))), (aM 46, .inl (ty 0, 24341, .inl (nF (va_up fe2 ((101 * m_) + x) (fwD p3 sz_ (sz_ - m_) x)))))] := hD
                              have hA2 : ∀ j, m_ + 1 ≤ j → j ≤ sz_ → ∀ y9 : Nat, ((y9 : Nat) : Int) ≤ wz → (va_up fe2 ((101 * m_) + x) (fwD p3 sz_ (sz_ - m_) x)) (101 * j + y9) = fwD p3 sz_ (sz_ - j) y9 := fun j h1 h2 y hy => by rw [va_up_ne _ _ (by omega)]; exact hA1 j h1 h2 y hy
                              have hB2 : ∀ y, y < x + 1 → (va_up fe2 ((101 * m_) + x) (fwD p3 sz_ (sz_ - m_) x)) (101 * m_ + y) = fwD p3 sz_ (sz_ - m_) y := fun y hy => (Nat.lt_or_ge y x).elim (fun q => by rw [va_up_ne _ _ (by omega)]; exact hB1 y q) (fun q => by rw [show y = x by omega, va_up_self])
                              refine lv_iinc (v := (nI (x + 1))) (lv' := [(4, .int (nI (x + 1))), (5, .int (nI (fwD p3 sz_ (sz_ - m_) x))), (0, .ref hM), (1, .int (iI wz)), (2, .int (iI kz)), (3, .int (nI m_))]) hx hb d_Model_panel_186 hl (k := 5) rfl (nI_inc _ _ _ (by omega)) (by decide) rfl (fun ls hl => ?_)
                              refine lv_goto (tgt := 55) hx hb d_Model_panel_189 (by decide) ?_
                              exact ih55 (x + 1) (va_up fe2 ((101 * m_) + x) (fwD p3 sz_ (sz_ - m_) x)) _ _ _ (by omega) hA2 hB2 (by omega) hP hD hS (lv_sub hl [2, 3, 4, 5, 0] rfl)
                    · refine lv_iconst (v := (nI 0)) hx hb d_Model_panel_66 (by decide) ?_
                      refine lv_goto (tgt := 98) hx hb d_Model_panel_67 (by decide) ?_
                      refine top_i (show (nI 0) = nI (fwD p3 sz_ (sz_ - (m_ + 1)) x) from congrArg nI (by first | (rw [show x = 0 by omega, fwD_0]) | (rw [show sz_ - (m_ + 1) = 0 by omega]; show _ = (if x = 0 then 0 else 1000); rw [if_neg (by omega)]) | (exact hA1 (m_ + 1) (by omega) (by omega) x (by omega)))) ?_
                      refine lv_istore (lv' := [(5, .int (nI (fwD p3 sz_ (sz_ - (m_ + 1)) x))), (0, .ref hM), (1, .int (iI wz)), (2, .int (iI kz)), (3, .int (nI m_)), (4, .int (nI x))]) hx hb d_Model_panel_98 hl (by decide) rfl (fun ls hl => ?_)
                      refine lv_iload_n hx hb d_Model_panel_100 rfl (lv_at hl 4 rfl) ?_
                      refine lv_aload_n hx hb d_Model_panel_101 rfl (lv_at hl 1 rfl) ?_
                      refine va_get (D := G) (ci := 10) (v := .int (nI sz_)) (C := R_Model) (T := F_Model) (N := 47) hx hb hts in_Model hown hK hP 0 rfl rfl 36 (by decide) (hts _ fl_Model_219) (fun _ h9 => h9) rfl d_Model_panel_102 ?_
                      refine n_icmp_ge (tgt := 172) hx hb (by omega) (by omega) d_Model_panel_105 (by decide) (fun c105 => ?_) (fun c105 => ?_)
                      · have hl : lv_has ls 6 [(5, .int (nI (fwD p3 sz_ (sz_ - m_) x))), (0, .ref hM), (1, .int (iI wz)), (2, .int (iI kz)), (3, .int (nI m_)), (4, .int (nI x))] := by rw [show (nI (fwD p3 sz_ (sz_ - m_) x)) = (nI (fwD p3 sz_ (sz_ - (m_ + 1)) x)) from congrArg nI (by rcases Nat.lt_or_ge m_ sz_ with q | q; exact (by rw [fwD_m q]; first | (rw [if_pos (by omega)]; omega) | (rw [if_neg (by omega)]; omega)); exact (by first | exact congrArg (fun z9 => fwD p3 sz_ z9 x) (show sz_ - m_ = sz_ - (m_ + 1) by omega) | (exfalso; omega)))]; exact hl
                        refine lv_aload_n hx hb d_Model_panel_172 rfl (lv_at hl 1 rfl) ?_
                        refine va_get (D := G) (ci := 10) (v := .ref (aM 46)) (C := R_Model) (T := F_Model) (N := 47) hx hb hts in_Model hown hK hP 0 rfl rfl 46 (by decide) (hts _ fl_Model_115) (fun _ h9 => h9) rfl d_Model_panel_173 ?_
                        refine lv_bipush (v := (nI 101)) hx hb d_Model_panel_176 (by decide) ?_
                        refine lv_iload_n hx hb d_Model_panel_178 rfl (lv_at hl 4 rfl) ?_
                        refine n_imul hx hb d_Model_panel_179 ?_
                        refine lv_iload hx hb d_Model_panel_180 (lv_at hl 5 rfl) ?_
                        refine n_iadd hx hb d_Model_panel_182 ?_
                        refine lv_iload hx hb d_Model_panel_183 (lv_at hl 0 rfl) ?_
                        refine n_iast hx hb hK hP hD hS 2 0 rfl rfl (by omega) (by omega) d_Model_panel_185 (fun H locs hP hD hS => ?_)
                        rw [upd_nF] at hP hD
                        have hP : va_P G vwCl [(hM, .inr (10, mO 0 st al ac nf ns gg mg bw md wy sg_ sz_ ks bd aM)), (aM 40, .inl (ty 0, 240, .inl (nF p3))), (aM 46, .inl (ty 0, 24341, .inl (nF (va_up fe2 ((101 * m_) + x) (fwD p3 sz_ (sz_ - m_) x)))))] _ := hP
                        have hD : va_D A [(hM, .inr (10, mO 0 st al ac nf ns gg mg bw md wy sg_ sz_ ks bd aM)), (aM 40, .inl (ty 0, 240, .inl (nF p3))), (aM 46, .inl (ty 0, 24341, .inl (nF (va_up fe2 ((101 * m_) + x) (fwD p3 sz_ (sz_ - m_) x)))))] := hD
                        have hA2 : ∀ j, m_ + 1 ≤ j → j ≤ sz_ → ∀ y9 : Nat, ((y9 : Nat) : Int) ≤ wz → (va_up fe2 ((101 * m_) + x) (fwD p3 sz_ (sz_ - m_) x)) (101 * j + y9) = fwD p3 sz_ (sz_ - j) y9 := fun j h1 h2 y hy => by rw [va_up_ne _ _ (by omega)]; exact hA1 j h1 h2 y hy
                        have hB2 : ∀ y, y < x + 1 → (va_up fe2 ((101 * m_) + x) (fwD p3 sz_ (sz_ - m_) x)) (101 * m_ + y) = fwD p3 sz_ (sz_ - m_) y := fun y hy => (Nat.lt_or_ge y x).elim (fun q => by rw [va_up_ne _ _ (by omega)]; exact hB1 y q) (fun q => by rw [show y = x by omega, va_up_self])
                        refine lv_iinc (v := (nI (x + 1))) (lv' := [(4, .int (nI (x + 1))), (5, .int (nI (fwD p3 sz_ (sz_ - m_) x))), (0, .ref hM), (1, .int (iI wz)), (2, .int (iI kz)), (3, .int (nI m_))]) hx hb d_Model_panel_186 hl (k := 5) rfl (nI_inc _ _ _ (by omega)) (by decide) rfl (fun ls hl => ?_)
                        refine lv_goto (tgt := 55) hx hb d_Model_panel_189 (by decide) ?_
                        exact ih55 (x + 1) (va_up fe2 ((101 * m_) + x) (fwD p3 sz_ (sz_ - m_) x)) _ _ _ (by omega) hA2 hB2 (by omega) hP hD hS (lv_sub hl [2, 3, 4, 5, 0] rfl)
                      · have hp3 := g3 m_ (by omega)
                        refine lv_iload hx hb d_Model_panel_108 (lv_at hl 5 rfl) ?_
                        refine lv_aload_n hx hb d_Model_panel_110 rfl (lv_at hl 1 rfl) ?_
                        refine va_get (D := G) (ci := 10) (v := .ref (aM 40)) (C := R_Model) (T := F_Model) (N := 47) hx hb hts in_Model hown hK hP 0 rfl rfl 40 (by decide) (hts _ fl_Model_103) (fun _ h9 => h9) rfl d_Model_panel_111 ?_
                        refine lv_iload_n hx hb d_Model_panel_114 rfl (lv_at hl 4 rfl) ?_
                        refine n_iald hx hb hK hP 1 0 rfl rfl (by omega) (by omega) d_Model_panel_115 ?_
                        refine n_icmp_lt (tgt := 172) hx hb (by omega) (by omega) d_Model_panel_116 (by decide) (fun c116 => ?_) (fun c116 => ?_)
                        · have hl : lv_has ls 6 [(5, .int (nI (fwD p3 sz_ (sz_ - m_) x))), (0, .ref hM), (1, .int (iI wz)), (2, .int (iI kz)), (3, .int (nI m_)), (4, .int (nI x))] := by rw [show (nI (fwD p3 sz_ (sz_ - m_) x)) = (nI (fwD p3 sz_ (sz_ - (m_ + 1)) x)) from congrArg nI (by rcases Nat.lt_or_ge m_ sz_ with q | q; exact (by rw [fwD_m q]; first | (rw [if_pos (by omega)]; omega) | (rw [if_neg (by omega)]; omega)); exact (by first | exact congrArg (fun z9 => fwD p3 sz_ z9 x) (show sz_ - m_ = sz_ - (m_ + 1) by omega) | (exfalso; omega)))]; exact hl
                          refine lv_aload_n hx hb d_Model_panel_172 rfl (lv_at hl 1 rfl) ?_
                          refine va_get (D := G) (ci := 10) (v := .ref (aM 46)) (C := R_Model) (T := F_Model) (N := 47) hx hb hts in_Model hown hK hP 0 rfl rfl 46 (by decide) (hts _ fl_Model_115) (fun _ h9 => h9) rfl d_Model_panel_173 ?_
                          refine lv_bipush (v := (nI 101)) hx hb d_Model_panel_176 (by decide) ?_
                          refine lv_iload_n hx hb d_Model_panel_178 rfl (lv_at hl 4 rfl) ?_
                          refine n_imul hx hb d_Model_panel_179 ?_
                          refine lv_iload hx hb d_Model_panel_180 (lv_at hl 5 rfl) ?_
                          refine n_iadd hx hb d_Model_panel_182 ?_
                          refine lv_iload hx hb d_Model_panel_183 (lv_at hl 0 rfl) ?_
                          refine n_iast hx hb hK hP hD hS 2 0 rfl rfl (by omega) (by omega) d_Model_panel_185 (fun H locs hP hD hS => ?_)
                          rw [upd_nF] at hP hD
                          have hP : va_P G vwCl [(hM, .inr (10, mO 0 st al ac nf ns gg mg bw md wy sg_ sz_ ks bd aM)), (aM 40, .inl (ty 0, 240, .inl (nF p3))), (aM 46, .inl (ty 0, 24341, .inl (nF (va_up fe2 ((101 * m_) + x) (fwD p3 sz_ (sz_ - m_) x)))))] _ := hP
                          have hD : va_D A [(hM, .inr (10, mO 0 st al ac nf ns gg mg bw md wy sg_ sz_ ks bd aM)), (aM 40, .inl (ty 0, 240, .inl (nF p3))), (aM 46, .inl (ty 0, 24341, .inl (nF (va_up fe2 ((101 * m_) + x) (fwD p3 sz_ (sz_ - m_) x)))))] := hD
                          have hA2 : ∀ j, m_ + 1 ≤ j → j ≤ sz_ → ∀ y9 : Nat, ((y9 : Nat) : Int) ≤ wz → (va_up fe2 ((101 * m_) + x) (fwD p3 sz_ (sz_ - m_) x)) (101 * j + y9) = fwD p3 sz_ (sz_ - j) y9 := fun j h1 h2 y hy => by rw [va_up_ne _ _ (by omega)]; exact hA1 j h1 h2 y hy
                          have hB2 : ∀ y, y < x + 1 → (va_up fe2 ((101 * m_) + x) (fwD p3 sz_ (sz_ - m_) x)) (101 * m_ + y) = fwD p3 sz_ (sz_ - m_) y := fun y hy => (Nat.lt_or_ge y x).elim (fun q => by rw [va_up_ne _ _ (by omega)]; exact hB1 y q) (fun q => by rw [show y = x by omega, va_up_self])
                          refine lv_iinc (v := (nI (x + 1))) (lv' := [(4, .int (nI (x + 1))), (5, .int (nI (fwD p3 sz_ (sz_ - m_) x))), (0, .ref hM), (1, .int (iI wz)), (2, .int (iI kz)), (3, .int (nI m_))]) hx hb d_Model_panel_186 hl (k := 5) rfl (nI_inc _ _ _ (by omega)) (by decide) rfl (fun ls hl => ?_)
                          refine lv_goto (tgt := 55) hx hb d_Model_panel_189 (by decide) ?_
                          exact ih55 (x + 1) (va_up fe2 ((101 * m_) + x) (fwD p3 sz_ (sz_ - m_) x)) _ _ _ (by omega) hA2 hB2 (by omega) hP hD hS (lv_sub hl [2, 3, 4, 5, 0] rfl)
                        · have hy := hA1 (m_ + 1) (by omega) (by omega) (x - p3 m_) (by omega)
                          have hyl := fwD_le p3 sz_ (sz_ - (m_ + 1)) (x - p3 m_)
                          refine lv_aload_n hx hb d_Model_panel_119 rfl (lv_at hl 1 rfl) ?_
                          refine va_get (D := G) (ci := 10) (v := .ref (aM 46)) (C := R_Model) (T := F_Model) (N := 47) hx hb hts in_Model hown hK hP 0 rfl rfl 46 (by decide) (hts _ fl_Model_115) (fun _ h9 => h9) rfl d_Model_panel_120 ?_
                          refine lv_bipush (v := (nI 101)) hx hb d_Model_panel_123 (by decide) ?_
                          refine lv_iload_n hx hb d_Model_panel_125 rfl (lv_at hl 4 rfl) ?_
                          refine lv_iconst (v := (nI 1)) hx hb d_Model_panel_126 (by decide) ?_
                          refine n_iadd hx hb d_Model_panel_127 ?_
                          refine n_imul hx hb d_Model_panel_128 ?_
                          refine lv_iload hx hb d_Model_panel_129 (lv_at hl 5 rfl) ?_
                          refine n_iadd hx hb d_Model_panel_131 ?_
                          refine lv_aload_n hx hb d_Model_panel_132 rfl (lv_at hl 1 rfl) ?_
                          refine va_get (D := G) (ci := 10) (v := .ref (aM 40)) (C := R_Model) (T := F_Model) (N := 47) hx hb hts in_Model hown hK hP 0 rfl rfl 40 (by decide) (hts _ fl_Model_103) (fun _ h9 => h9) rfl d_Model_panel_133 ?_
                          refine lv_iload_n hx hb d_Model_panel_136 rfl (lv_at hl 4 rfl) ?_
                          refine n_iald hx hb hK hP 1 0 rfl rfl (by omega) (by omega) d_Model_panel_137 ?_
                          refine n_isub hx hb (by omega) d_Model_panel_138 ?_
                          refine n_iald hx hb hK hP 2 0 rfl rfl (by omega) (by omega) d_Model_panel_139 ?_
                          refine top_i (show (nI (fe2 (((101 * (m_ + 1)) + x) - (p3 m_)))) = (nI (fwD p3 sz_ (sz_ - (m_ + 1)) (x - p3 m_))) from congrArg nI (by rw [← hy]; congr 1; omega)) ?_
                          refine lv_iconst (v := (nI 1)) hx hb d_Model_panel_140 (by decide) ?_
                          refine n_iadd hx hb d_Model_panel_141 ?_
                          refine lv_iload hx hb d_Model_panel_142 (lv_at hl 0 rfl) ?_
                          refine n_icmp_ge (tgt := 172) hx hb (by omega) (by omega) d_Model_panel_144 (by decide) (fun c144 => ?_) (fun c144 => ?_)
                          · have hl : lv_has ls 6 [(5, .int (nI (fwD p3 sz_ (sz_ - m_) x))), (0, .ref hM), (1, .int (iI wz)), (2, .int (iI kz)), (3, .int (nI m_)), (4, .int (nI x))] := by rw [show (nI (fwD p3 sz_ (sz_ - m_) x)) = (nI (fwD p3 sz_ (sz_ - (m_ + 1)) x)) from congrArg nI (by rcases Nat.lt_or_ge m_ sz_ with q | q; exact (by rw [fwD_m q]; first | (rw [if_pos (by omega)]; omega) | (rw [if_neg (by omega)]; omega)); exact (by first | exact congrArg (fun z9 => fwD p3 sz_ z9 x) (show sz_ - m_ = sz_ - (m_ + 1) by omega) | (exfalso; omega)))]; exact hl
                            refine lv_aload_n hx hb d_Model_panel_172 rfl (lv_at hl 1 rfl) ?_
                            refine va_get (D := G) (ci := 10) (v := .ref (aM 46)) (C := R_Model) (T := F_Model) (N := 47) hx hb hts in_Model hown hK hP 0 rfl rfl 46 (by decide) (hts _ fl_Model_115) (fun _ h9 => h9) rfl d_Model_panel_173 ?_
                            refine lv_bipush (v := (nI 101)) hx hb d_Model_panel_176 (by decide) ?_
                            refine lv_iload_n hx hb d_Model_panel_178 rfl (lv_at hl 4 rfl) ?_
                            refine n_imul hx hb d_Model_panel_179 ?_
                            refine lv_iload hx hb d_Model_panel_180 (lv_at hl 5 rfl) ?_
                            refine n_iadd hx hb d_Model_panel_182 ?_
                            refine lv_iload hx hb d_Model_panel_183 (lv_at hl 0 rfl) ?_
                            refine n_iast hx hb hK hP hD hS 2 0 rfl rfl (by omega) (by omega) d_Model_panel_185 (fun H locs hP hD hS => ?_)
                            rw [upd_nF] at hP hD
                            have hP : va_P G vwCl [(hM, .inr (10, mO 0 st al ac nf ns gg mg bw md wy sg_ sz_ ks bd aM)), (aM 40, .inl (ty 0, 240, .inl (nF p3))), (aM 46, .inl (ty 0, 24341, .inl (nF (va_up fe2 ((101 * m_) + x) (fwD p3 sz_ (sz_ - m_) x)))))] _ := hP
                            have hD : va_D A [(hM, .inr (10, mO 0 st al ac nf ns gg mg bw md wy sg_ sz_ ks bd aM)), (aM 40, .inl (ty 0, 240, .inl (nF p3))), (aM 46, .inl (ty 0, 24341, .inl (nF (va_up fe2 ((101 * m_) + x) (fwD p3 sz_ (sz_ - m_) x)))))] := hD
                            have hA2 : ∀ j, m_ + 1 ≤ j → j ≤ sz_ → ∀ y9 : Nat, ((y9 : Nat) : Int) ≤ wz → (va_up fe2 ((101 * m_) + x) (fwD p3 sz_ (sz_ - m_) x)) (101 * j + y9) = fwD p3 sz_ (sz_ - j) y9 := fun j h1 h2 y hy => by rw [va_up_ne _ _ (by omega)]; exact hA1 j h1 h2 y hy
                            have hB2 : ∀ y, y < x + 1 → (va_up fe2 ((101 * m_) + x) (fwD p3 sz_ (sz_ - m_) x)) (101 * m_ + y) = fwD p3 sz_ (sz_ - m_) y := fun y hy => (Nat.lt_or_ge y x).elim (fun q => by rw [va_up_ne _ _ (by omega)]; exact hB1 y q) (fun q => by rw [show y = x by omega, va_up_self])
                            refine lv_iinc (v := (nI (x + 1))) (lv' := [(4, .int (nI (x + 1))), (5, .int (nI (fwD p3 sz_ (sz_ - m_) x))), (0, .ref hM), (1, .int (iI wz)), (2, .int (iI kz)), (3, .int (nI m_))]) hx hb d_Model_panel_186 hl (k := 5) rfl (nI_inc _ _ _ (by omega)) (by decide) rfl (fun ls hl => ?_)
                            refine lv_goto (tgt := 55) hx hb d_Model_panel_189 (by decide) ?_
                            exact ih55 (x + 1) (va_up fe2 ((101 * m_) + x) (fwD p3 sz_ (sz_ - m_) x)) _ _ _ (by omega) hA2 hB2 (by omega) hP hD hS (lv_sub hl [2, 3, 4, 5, 0] rfl)
                          · refine lv_aload_n hx hb d_Model_panel_147 rfl (lv_at hl 1 rfl) ?_
                            refine va_get (D := G) (ci := 10) (v := .ref (aM 46)) (C := R_Model) (T := F_Model) (N := 47) hx hb hts in_Model hown hK hP 0 rfl rfl 46 (by decide) (hts _ fl_Model_115) (fun _ h9 => h9) rfl d_Model_panel_148 ?_
                            refine lv_bipush (v := (nI 101)) hx hb d_Model_panel_151 (by decide) ?_
                            refine lv_iload_n hx hb d_Model_panel_153 rfl (lv_at hl 4 rfl) ?_
                            refine lv_iconst (v := (nI 1)) hx hb d_Model_panel_154 (by decide) ?_
                            refine n_iadd hx hb d_Model_panel_155 ?_
                            refine n_imul hx hb d_Model_panel_156 ?_
                            refine lv_iload hx hb d_Model_panel_157 (lv_at hl 5 rfl) ?_
                            refine n_iadd hx hb d_Model_panel_159 ?_
                            refine lv_aload_n hx hb d_Model_panel_160 rfl (lv_at hl 1 rfl) ?_
                            refine va_get (D := G) (ci := 10) (v := .ref (aM 40)) (C := R_Model) (T := F_Model) (N := 47) hx hb hts in_Model hown hK hP 0 rfl rfl 40 (by decide) (hts _ fl_Model_103) (fun _ h9 => h9) rfl d_Model_panel_161 ?_
                            refine lv_iload_n hx hb d_Model_panel_164 rfl (lv_at hl 4 rfl) ?_
                            refine n_iald hx hb hK hP 1 0 rfl rfl (by omega) (by omega) d_Model_panel_165 ?_
                            refine n_isub hx hb (by omega) d_Model_panel_166 ?_
                            refine n_iald hx hb hK hP 2 0 rfl rfl (by omega) (by omega) d_Model_panel_167 ?_
                            refine top_i (show (nI (fe2 (((101 * (m_ + 1)) + x) - (p3 m_)))) = (nI (fwD p3 sz_ (sz_ - (m_ + 1)) (x - p3 m_))) from congrArg nI (by rw [← hy]; congr 1; omega)) ?_
                            refine lv_iconst (v := (nI 1)) hx hb d_Model_panel_168 (by decide) ?_
                            refine n_iadd hx hb d_Model_panel_169 ?_
                            refine lv_istore (lv' := [(5, .int (nI ((fwD p3 sz_ (sz_ - (m_ + 1)) (x - p3 m_)) + 1))), (0, .ref hM), (1, .int (iI wz)), (2, .int (iI kz)), (3, .int (nI m_)), (4, .int (nI x))]) hx hb d_Model_panel_170 hl (by decide) rfl (fun ls hl => ?_)
                            have hl : lv_has ls 6 [(5, .int (nI (fwD p3 sz_ (sz_ - m_) x))), (0, .ref hM), (1, .int (iI wz)), (2, .int (iI kz)), (3, .int (nI m_)), (4, .int (nI x))] := by rw [show (nI (fwD p3 sz_ (sz_ - m_) x)) = (nI ((fwD p3 sz_ (sz_ - (m_ + 1)) (x - p3 m_)) + 1)) from congrArg nI (by rcases Nat.lt_or_ge m_ sz_ with q | q; exact (by rw [fwD_m q]; first | (rw [if_pos (by omega)]; omega) | (rw [if_neg (by omega)]; omega)); exact (by first | exact congrArg (fun z9 => fwD p3 sz_ z9 x) (show sz_ - m_ = sz_ - (m_ + 1) by omega) | (exfalso; omega)))]; exact hl
                            refine lv_aload_n hx hb d_Model_panel_172 rfl (lv_at hl 1 rfl) ?_
                            refine va_get (D := G) (ci := 10) (v := .ref (aM 46)) (C := R_Model) (T := F_Model) (N := 47) hx hb hts in_Model hown hK hP 0 rfl rfl 46 (by decide) (hts _ fl_Model_115) (fun _ h9 => h9) rfl d_Model_panel_173 ?_
                            refine lv_bipush (v := (nI 101)) hx hb d_Model_panel_176 (by decide) ?_
                            refine lv_iload_n hx hb d_Model_panel_178 rfl (lv_at hl 4 rfl) ?_
                            refine n_imul hx hb d_Model_panel_179 ?_
                            refine lv_iload hx hb d_Model_panel_180 (lv_at hl 5 rfl) ?_
                            refine n_iadd hx hb d_Model_panel_182 ?_
                            refine lv_iload hx hb d_Model_panel_183 (lv_at hl 0 rfl) ?_
                            refine n_iast hx hb hK hP hD hS 2 0 rfl rfl (by omega) (by omega) d_Model_panel_185 (fun H locs hP hD hS => ?_)
                            rw [upd_nF] at hP hD
                            have hP : va_P G vwCl [(hM, .inr (10, mO 0 st al ac nf ns gg mg bw md wy sg_ sz_ ks bd aM)), (aM 40, .inl (ty 0, 240, .inl (nF p3))), (aM 46, .inl (ty 0, 24341, .inl (nF (va_up fe2 ((101 * m_) + x) (fwD p3 sz_ (sz_ - m_) x)))))] _ := hP
                            have hD : va_D A [(hM, .inr (10, mO 0 st al ac nf ns gg mg bw md wy sg_ sz_ ks bd aM)), (aM 40, .inl (ty 0, 240, .inl (nF p3))), (aM 46, .inl (ty 0, 24341, .inl (nF (va_up fe2 ((101 * m_) + x) (fwD p3 sz_ (sz_ - m_) x)))))] := hD
                            have hA2 : ∀ j, m_ + 1 ≤ j → j ≤ sz_ → ∀ y9 : Nat, ((y9 : Nat) : Int) ≤ wz → (va_up fe2 ((101 * m_) + x) (fwD p3 sz_ (sz_ - m_) x)) (101 * j + y9) = fwD p3 sz_ (sz_ - j) y9 := fun j h1 h2 y hy => by rw [va_up_ne _ _ (by omega)]; exact hA1 j h1 h2 y hy
                            have hB2 : ∀ y, y < x + 1 → (va_up fe2 ((101 * m_) + x) (fwD p3 sz_ (sz_ - m_) x)) (101 * m_ + y) = fwD p3 sz_ (sz_ - m_) y := fun y hy => (Nat.lt_or_ge y x).elim (fun q => by rw [va_up_ne _ _ (by omega)]; exact hB1 y q) (fun q => by rw [show y = x by omega, va_up_self])
                            refine lv_iinc (v := (nI (x + 1))) (lv' := [(4, .int (nI (x + 1))), (5, .int (nI (fwD p3 sz_ (sz_ - m_) x))), (0, .ref hM), (1, .int (iI wz)), (2, .int (iI kz)), (3, .int (nI m_))]) hx hb d_Model_panel_186 hl (k := 5) rfl (nI_inc _ _ _ (by omega)) (by decide) rfl (fun ls hl => ?_)
                            refine lv_goto (tgt := 55) hx hb d_Model_panel_189 (by decide) ?_
                            exact ih55 (x + 1) (va_up fe2 ((101 * m_) + x) (fwD p3 sz_ (sz_ - m_) x)) _ _ _ (by omega) hA2 hB2 (by omega) hP hD hS (lv_sub hl [2, 3, 4, 5, 0] rfl)
              exact L55 (101 - 0 + 1) 0 fe2 _ _ _ (by omega) hA1 (fun y h => absurd h (by omega)) (Nat.lt_succ_self _) hP hD hS (lv_sub hl [1, 2, 3, 4, 0] rfl)
        have hP : va_P G vwCl [(hM, .inr (10, mO 0 st al ac nf ns gg mg bw md wy sg_ sz_ ks bd aM)), (aM 40, .inl (ty 0, 240, .inl (nF p3))), (aM 46, .inl (ty 0, 24341, .inl (nF fe)))] _ := hP.sub [2, 0, 1] rfl
        have hD : va_D A [(hM, .inr (10, mO 0 st al ac nf ns gg mg bw md wy sg_ sz_ ks bd aM)), (aM 40, .inl (ty 0, 240, .inl (nF p3))), (aM 46, .inl (ty 0, 24341, .inl (nF fe)))] := hD.sub [2, 0, 1] (by decide) rfl
        exact L48 ((sz_ + 1) + 1) (sz_ + 1) fe _ _ _ (Nat.le_refl _) (fun j h1 h2 => absurd h1 (by omega)) (Nat.lt_succ_self _) hP hD hS (lv_sub hl [1, 2, 3, 0] rfl)
  · refine lv_iconst (v := (nI 0)) hx hb d_Model_panel_7 (by decide) ?_
    have hP : va_P G vwCl [(hM, .inr (10, mO (1 - md) st al ac nf ns gg mg bw md wy sg_ sz_ ks bd aM)), (aM 40, .inl (ty 0, 240, .inl (nF p3))), (aM 46, .inl (ty 0, 24341, .inl (nF fe)))] _ := hP.sub [2, 0, 1] rfl
    have hD : va_D A [(hM, .inr (10, mO (1 - md) st al ac nf ns gg mg bw md wy sg_ sz_ ks bd aM)), (aM 40, .inl (ty 0, 240, .inl (nF p3))), (aM 46, .inl (ty 0, 24341, .inl (nF fe)))] := hD.sub [2, 0, 1] (by decide) rfl
    exact W.iret (v := (nI 0)) hx hb hr (fun t9 ht hW => ⟨⟨_, (((0 : Nat) : Int), 1 - md, fe), rfl, ⟨nI_iI _, ⟨fun _ => ⟨by (try dsimp only); omega, rfl⟩, fun h => absurd h (by omega)⟩⟩, by rw [ht]; exact hP, hD⟩, hS.F ht⟩) hS.2.2 d_Model_panel_8

abbrev q_mclear2 (G : va_G) (ty : Nat → ClassId) (hM : Nat) (cd : Nat) (st : Nat) (al : Nat) (ac : Nat) (nf : Nat) (ns : Nat) (gg : Nat) (mg : Nat) (bw : Nat) (md : Nat) (wy : Nat) (sg_ : Nat) (sz_ : Nat) (ks : Nat) (bd : Int) (aM : Nat → Nat) (kz : Int) (fd : Nat → Nat → Int) (p0 : Nat → Nat) (p1 : Nat → Nat) (p2 : Nat → Nat) (p3 : Nat → Nat) (A : Nat → Prop) : Array Value → State → Outcome → State → Prop := va_Qi (fun (r : Int32) => fun (uu : Unit) => r = (nI ((allB (fun z9 => !(fM fd mg 1 (p0 kz.toNat * st) ((p0 kz.toNat + p2 kz.toNat) * st) z9 && fM fd mg 0 (p1 kz.toNat * st) ((p1 kz.toNat + p3 kz.toNat) * st) z9)) nf).toNat))) (at_W G (fun (uu : Unit) => [(hM, .inr (10, mO 0 st al ac nf ns gg mg bw md wy sg_ sz_ ks bd aM)), (aM 7, .inl (ty 0, 20, .inl (zF (col fd 2)))), (aM 8, .inl (ty 0, 20, .inl (zF (col fd 3)))), (aM 9, .inl (ty 0, 20, .inl (zF (col fd 4)))), (aM 10, .inl (ty 0, 20, .inl (zF (col fd 5)))), (aM 37, .inl (ty 0, 240, .inl (nF p0))), (aM 38, .inl (ty 0, 240, .inl (nF p1))), (aM 39, .inl (ty 0, 240, .inl (nF p2))), (aM 40, .inl (ty 0, 240, .inl (nF p3)))]) A) A
set_option maxRecDepth 100000 in
set_option maxHeartbeats 4000000 in
theorem c_mclear2 (l : Launch) (G : va_G) (ty : Nat → ClassId) (sz : Nat) (hM : Nat) (cd : Nat) (st : Nat) (al : Nat) (ac : Nat) (nf : Nat) (ns : Nat) (gg : Nat) (mg : Nat) (bw : Nat) (md : Nat) (wy : Nat) (sg_ : Nat) (sz_ : Nat) (ks : Nat) (bd : Int) (aM : Nat → Nat) (kz : Int) (fd : Nat → Nat → Int) (p0 : Nat → Nat) (p1 : Nat → Nat) (p2 : Nat → Nat) (p3 : Nat → Nat) (gmd : md = 1) (gF : FOK nf fd) (g2 : 1 ≤ st ∧ st ≤ 65536) (g7 : mg ≤ 65536) (gk : 0 ≤ kz ∧ kz < (sz_ : Int)) (g1 : sz_ ≤ 240) (g3 : ∀ k, k < sz_ → p0 k + p2 k ≤ 24 ∧ p1 k + p3 k ≤ 10) : Met l y_Model_clear2 ws_Model_clear2 { frames := 1, cells := 0, slots := 0, locals := 27 } (va_Pc [.ref hM, .int (iI kz)] (fun U => U.heap.size = sz ∧ va_P G vwCl [(hM, .inr (10, mO cd st al ac nf ns gg mg bw md wy sg_ sz_ ks bd aM)), (aM 7, .inl (ty 0, 20, .inl (zF (col fd 2)))), (aM 8, .inl (ty 0, 20, .inl (zF (col fd 3)))), (aM 9, .inl (ty 0, 20, .inl (zF (col fd 4)))), (aM 10, .inl (ty 0, 20, .inl (zF (col fd 5)))), (aM 37, .inl (ty 0, 240, .inl (nF p0))), (aM 38, .inl (ty 0, 240, .inl (nF p1))), (aM 39, .inl (ty 0, 240, .inl (nF p2))), (aM 40, .inl (ty 0, 240, .inl (nF p3)))] U.heap ∧ KX G ty U ∧ va_D (fun _ => True) [(hM, .inr (10, mO cd st al ac nf ns gg mg bw md wy sg_ sz_ ks bd aM)), (aM 7, .inl (ty 0, 20, .inl (zF (col fd 2)))), (aM 8, .inl (ty 0, 20, .inl (zF (col fd 3)))), (aM 9, .inl (ty 0, 20, .inl (zF (col fd 4)))), (aM 10, .inl (ty 0, 20, .inl (zF (col fd 5)))), (aM 37, .inl (ty 0, 240, .inl (nF p0))), (aM 38, .inl (ty 0, 240, .inl (nF p1))), (aM 39, .inl (ty 0, 240, .inl (nF p2))), (aM 40, .inl (ty 0, 240, .inl (nF p3)))])) (q_mclear2 G ty hM cd st al ac nf ns gg mg bw md wy sg_ sz_ ks bd aM kz fd p0 p1 p2 p3 (va_A [(hM, .inr (10, mO cd st al ac nf ns gg mg bw md wy sg_ sz_ ks bd aM)), (aM 7, .inl (ty 0, 20, .inl (zF (col fd 2)))), (aM 8, .inl (ty 0, 20, .inl (zF (col fd 3)))), (aM 9, .inl (ty 0, 20, .inl (zF (col fd 4)))), (aM 10, .inl (ty 0, 20, .inl (zF (col fd 5)))), (aM 37, .inl (ty 0, 240, .inl (nF p0))), (aM 38, .inl (ty 0, 240, .inl (nF p1))), (aM 39, .inl (ty 0, 240, .inl (nF p2))), (aM 40, .inl (ty 0, 240, .inl (nF p3)))] sz)) 0 0 (va_A [(hM, .inr (10, mO cd st al ac nf ns gg mg bw md wy sg_ sz_ ks bd aM)), (aM 7, .inl (ty 0, 20, .inl (zF (col fd 2)))), (aM 8, .inl (ty 0, 20, .inl (zF (col fd 3)))), (aM 9, .inl (ty 0, 20, .inl (zF (col fd 4)))), (aM 10, .inl (ty 0, 20, .inl (zF (col fd 5)))), (aM 37, .inl (ty 0, 240, .inl (nF p0))), (aM 38, .inl (ty 0, 240, .inl (nF p1))), (aM 39, .inl (ty 0, 240, .inl (nF p2))), (aM 40, .inl (ty 0, 240, .inl (nF p3)))] sz) := by
  refine met_wr (y := y_Model_clear2) (maxL := 4) (sz := sz) (G := G) (ty := ty) (mc := 0) (ms := 0) (av := [.ref hM, .int (iI kz)]) (W0 := [(hM, .inr (10, mO cd st al ac nf ns gg mg bw md wy sg_ sz_ ks bd aM)), (aM 7, .inl (ty 0, 20, .inl (zF (col fd 2)))), (aM 8, .inl (ty 0, 20, .inl (zF (col fd 3)))), (aM 9, .inl (ty 0, 20, .inl (zF (col fd 4)))), (aM 10, .inl (ty 0, 20, .inl (zF (col fd 5)))), (aM 37, .inl (ty 0, 240, .inl (nF p0))), (aM 38, .inl (ty 0, 240, .inl (nF p1))), (aM 39, .inl (ty 0, 240, .inl (nF p2))), (aM 40, .inl (ty 0, 240, .inl (nF p3)))]) (fun A => q_mclear2 G ty hM cd st al ac nf ns gg mg bw md wy sg_ sz_ ks bd aM kz fd p0 p1 p2 p3 A) R_Model (by decide) rfl rfl (Nat.le_of_ble_eq_true rfl) ?_
  intro p e s m below meth c ls A hx hb hr hml hown hts hlocks hin hA hP hX hD hS hl
  have hK := hX.1
  have hl : lv_has ls 4 [(0, .ref hM), (1, .int (iI kz))] := hl
  refine lv_aload_n hx hb d_Model_clear2_0 rfl (lv_at hl 0 rfl) ?_
  refine call_wr_i (Wc := [(hM, .inr (10, mO cd st al ac nf ns gg mg bw md wy sg_ sz_ ks bd aM))]) (Wr := [(aM 7, .inl (ty 0, 20, .inl (zF (col fd 2)))), (aM 8, .inl (ty 0, 20, .inl (zF (col fd 3)))), (aM 9, .inl (ty 0, 20, .inl (zF (col fd 4)))), (aM 10, .inl (ty 0, 20, .inl (zF (col fd 5)))), (aM 37, .inl (ty 0, 240, .inl (nF p0))), (aM 38, .inl (ty 0, 240, .inl (nF p1))), (aM 39, .inl (ty 0, 240, .inl (nF p2))), (aM 40, .inl (ty 0, 240, .inl (nF p3)))]) (va_runV (As := []) (rest := []) ⟨hx, hb, hml, hown, hts⟩ (c_Model_none l G ty _ hM cd st al ac nf ns gg mg bw md wy sg_ sz_ ks bd aM (by omega)) ⟨callB_of 0 hts (gd_TB cd_Model_none) rfl rfl rfl (hts _ ini_Model) (hts _ lk_Model_287) hd_Model_none ⟨Nat.le_of_ble_eq_true rfl, Nat.le_of_ble_eq_true rfl⟩, hts _ im_Model_none, hts _ sl_Model_none⟩ (preV_wr (hP.sub (ws' := [(hM, .inr (10, mO cd st al ac nf ns gg mg bw md wy sg_ sz_ ks bd aM))]) [0] rfl) hX (hD.sub (ws' := [(hM, .inr (10, mO cd st al ac nf ns gg mg bw md wy sg_ sz_ ks bd aM))]) [0] (by decide) rfl) 0 rfl rfl) rfl rfl hl.1 rfl (lv_room (Nat.le_of_ble_eq_true rfl)) d_Model_clear2_1 ⟨Nat.le_of_ble_eq_true rfl, Nat.le_of_ble_eq_true rfl⟩) hP hD hS hA [0] [1, 2, 3, 4, 5, 6, 7, 8] rfl rfl (by decide) (by decide) (fun r2 u9 H locs hw1 hP hD hS => ?_)
  have hw1 : r2 = (nI (1 - md)) := hw1
  have hP : va_P G vwCl [(aM 7, .inl (ty 0, 20, .inl (zF (col fd 2)))), (aM 8, .inl (ty 0, 20, .inl (zF (col fd 3)))), (aM 9, .inl (ty 0, 20, .inl (zF (col fd 4)))), (aM 10, .inl (ty 0, 20, .inl (zF (col fd 5)))), (aM 37, .inl (ty 0, 240, .inl (nF p0))), (aM 38, .inl (ty 0, 240, .inl (nF p1))), (aM 39, .inl (ty 0, 240, .inl (nF p2))), (aM 40, .inl (ty 0, 240, .inl (nF p3))), (hM, .inr (10, mO (1 - md) st al ac nf ns gg mg bw md wy sg_ sz_ ks bd aM))] _ := hP
  have hD : va_D A [(aM 7, .inl (ty 0, 20, .inl (zF (col fd 2)))), (aM 8, .inl (ty 0, 20, .inl (zF (col fd 3)))), (aM 9, .inl (ty 0, 20, .inl (zF (col fd 4)))), (aM 10, .inl (ty 0, 20, .inl (zF (col fd 5)))), (aM 37, .inl (ty 0, 240, .inl (nF p0))), (aM 38, .inl (ty 0, 240, .inl (nF p1))), (aM 39, .inl (ty 0, 240, .inl (nF p2))), (aM 40, .inl (ty 0, 240, .inl (nF p3))), (hM, .inr (10, mO (1 - md) st al ac nf ns gg mg bw md wy sg_ sz_ ks bd aM))] := hD
  subst hw1
  refine top_i (show (nI (1 - md)) = (nI 0) from congrArg nI (by omega)) ?_
  refine n_if_eq (tgt := 9) hx hb (by omega) d_Model_clear2_4 (by decide) (fun c4 => ?_) (fun c4 => absurd c4 (by omega))
  refine lv_aload_n hx hb d_Model_clear2_9 rfl (lv_at hl 0 rfl) ?_
  refine lv_iload_n hx hb d_Model_clear2_10 rfl (lv_at hl 1 rfl) ?_
  refine z_if_lt (tgt := 22) hx hb (by omega) d_Model_clear2_11 (by decide) (fun c11 => absurd c11 (by omega)) (fun c11 => ?_)
  refine lv_iload_n hx hb d_Model_clear2_14 rfl (lv_at hl 1 rfl) ?_
  refine lv_aload_n hx hb d_Model_clear2_15 rfl (lv_at hl 0 rfl) ?_
  refine va_get (D := G) (ci := 10) (v := .int (nI sz_)) (C := R_Model) (T := F_Model) (N := 47) hx hb hts in_Model hown hK hP 8 rfl rfl 36 (by decide) (hts _ fl_Model_219) (fun _ h9 => h9) rfl d_Model_clear2_16 ?_
  refine zn_icmp_lt (tgt := 26) hx hb (by omega) (by omega) d_Model_clear2_19 (by decide) (fun c19 => ?_) (fun c19 => absurd c19 (by omega))
  refine lv_iconst (v := (nI 0)) hx hb d_Model_clear2_26 (by decide) ?_
  refine va_put (D := G) (ci := 10) (v := .int (nI 0)) (ty := .int) (C := R_Model) (T := F_Model) (N := 47) hx hb hts in_Model t_Model t_Model_ok n_Model hown hK hP hD hS 8 rfl rfl 0 (by decide) (hts _ fl_Model_132) (fun _ h9 => h9) rfl (by decide +kernel) rfl rfl (Nat.le_of_ble_eq_true rfl) d_Model_clear2_27 (fun H locs hP hD hS => ?_)
  have hP : va_P G vwCl [(aM 7, .inl (ty 0, 20, .inl (zF (col fd 2)))), (aM 8, .inl (ty 0, 20, .inl (zF (col fd 3)))), (aM 9, .inl (ty 0, 20, .inl (zF (col fd 4)))), (aM 10, .inl (ty 0, 20, .inl (zF (col fd 5)))), (aM 37, .inl (ty 0, 240, .inl (nF p0))), (aM 38, .inl (ty 0, 240, .inl (nF p1))), (aM 39, .inl (ty 0, 240, .inl (nF p2))), (aM 40, .inl (ty 0, 240, .inl (nF p3))), (hM, .inr (10, mO 0 st al ac nf ns gg mg bw md wy sg_ sz_ ks bd aM))] _ := hP
  have hD : va_D A [(aM 7, .inl (ty 0, 20, .inl (zF (col fd 2)))), (aM 8, .inl (ty 0, 20, .inl (zF (col fd 3)))), (aM 9, .inl (ty 0, 20, .inl (zF (col fd 4)))), (aM 10, .inl (ty 0, 20, .inl (zF (col fd 5)))), (aM 37, .inl (ty 0, 240, .inl (nF p0))), (aM 38, .inl (ty 0, 240, .inl (nF p1))), (aM 39, .inl (ty 0, 240, .inl (nF p2))), (aM 40, .inl (ty 0, 240, .inl (nF p3))), (hM, .inr (10, mO 0 st al ac nf ns gg mg bw md wy sg_ sz_ ks bd aM))] := hD
  refine lv_aload_n hx hb d_Model_clear2_30 rfl (lv_at hl 0 rfl) ?_
  refine va_get (D := G) (ci := 10) (v := .int (nI 0)) (C := R_Model) (T := F_Model) (N := 47) hx hb hts in_Model hown hK hP 8 rfl rfl 0 (by decide) (hts _ fl_Model_132) (fun _ h9 => h9) rfl d_Model_clear2_31 ?_
  refine n_if_ne (tgt := 41) hx hb (by omega) d_Model_clear2_34 (by decide) (fun c34 => absurd c34 (by omega)) (fun c34 => ?_)
  refine lv_iconst (v := (nI 1)) hx hb d_Model_clear2_37 (by decide) ?_
  refine lv_goto (tgt := 42) hx hb d_Model_clear2_38 (by decide) ?_
  refine top_i (show nI 1 = nI (allB (fun z9 => !(fM fd mg 1 (p0 kz.toNat * st) ((p0 kz.toNat + p2 kz.toNat) * st) z9 && fM fd mg 0 (p1 kz.toNat * st) ((p1 kz.toNat + p3 kz.toNat) * st) z9)) 0).toNat from rfl) ?_
  have hn20 := gF.1
  refine lv_istore_n (lv' := [(2, .int (nI ((allB (fun z9 => !(fM fd mg 1 (p0 kz.toNat * st) ((p0 kz.toNat + p2 kz.toNat) * st) z9 && fM fd mg 0 (p1 kz.toNat * st) ((p1 kz.toNat + p3 kz.toNat) * st) z9)) 0).toNat))), (0, .ref hM), (1, .int (iI kz))]) hx hb d_Model_clear2_42 rfl hl (by decide) rfl (fun ls hl => ?_)
  refine lv_iconst (v := (nI 0)) hx hb d_Model_clear2_43 (by decide) ?_
  refine lv_istore_n (lv' := [(3, .int (nI 0)), (2, .int (nI ((allB (fun z9 => !(fM fd mg 1 (p0 kz.toNat * st) ((p0 kz.toNat + p2 kz.toNat) * st) z9 && fM fd mg 0 (p1 kz.toNat * st) ((p1 kz.toNat + p3 kz.toNat) * st) z9)) 0).toNat))), (0, .ref hM), (1, .int (iI kz))]) hx hb d_Model_clear2_44 rfl hl (by decide) rfl (fun ls hl => ?_)
  have L45 : ∀ (k9 : Nat) (i : Nat) (H : Heap) (locs : List Loc) (ls : Array Slot), (i ≤ nf) → nf - i < k9 → va_P G vwCl [(hM, .inr (10, mO 0 st al ac nf ns gg mg bw md wy sg_ sz_ ks bd aM)), (aM 7, .inl (ty 0, 20, .inl (zF (col fd 2)))), (aM 8, .inl (ty 0, 20, .inl (zF (col fd 3)))), (aM 9, .inl (ty 0, 20, .inl (zF (col fd 4)))), (aM 10, .inl (ty 0, 20, .inl (zF (col fd 5)))), (aM 37, .inl (ty 0, 240, .inl (nF p0))), (aM 38, .inl (ty 0, 240, .inl (nF p1))), (aM 39, .inl (ty 0, 240, .inl (nF p2))), (aM 40, .inl (ty 0, 240, .inl (nF p3)))] H → va_D A [(hM, .inr (10, mO 0 st al ac nf ns gg mg bw md wy sg_ sz_ ks bd aM)), (aM 7, .inl (ty 0, 20, .inl (zF (col fd 2)))), (aM 8, .inl (ty 0, 20, .inl (zF (col fd 3)))), (aM 9, .inl (ty 0, 20, .inl (zF (col fd 4)))), (aM 10, .inl (ty 0, 20, .inl (zF (col fd 5)))), (aM 37, .inl (ty 0, 240, .inl (nF p0))), (aM 38, .inl (ty 0, 240, .inl (nF p1))), (aM 39, .inl (ty 0, 240, .inl (nF p2))), (aM 40, .inl (ty 0, 240, .inl (nF p3)))] → va_S A s.heap H locs → lv_has ls 4 [(0, .ref hM), (1, .int (iI kz)), (2, .int (nI ((allB (fun z9 => !(fM fd mg 1 (p0 kz.toNat * st) ((p0 kz.toNat + p2 kz.toNat) * st) z9 && fM fd mg 0 (p1 kz.toNat * st) ((p1 kz.toNat + p3 kz.toNat) * st) z9)) i).toNat))), (3, .int (nI i))] → W p l e { frames := 1, cells := 0, slots := 0, locals := 27 } s m [.ref hM, .int (iI kz)].toArray below meth c H locs 0 0 (MQ below (q_mclear2 G ty hM cd st al ac nf ns gg mg bw md wy sg_ sz_ ks bd aM kz fd p0 p1 p2 p3 A) [.ref hM, .int (iI kz)].toArray s 0 0 A) (F0 m 45 ls []) := by
    intro k9
    induction k9 with
    | zero => intro i H locs ls hi1 hk9; exact absurd hk9 (Nat.not_lt_zero _)
    | succ k9 ih45 =>
      intro i H locs ls hi1 hk9 hP hD hS hl
      refine lv_iload_n hx hb d_Model_clear2_45 rfl (lv_at hl 3 rfl) ?_
      refine lv_aload_n hx hb d_Model_clear2_46 rfl (lv_at hl 0 rfl) ?_
      refine va_get (D := G) (ci := 10) (v := .int (nI nf)) (C := R_Model) (T := F_Model) (N := 47) hx hb hts in_Model hown hK hP 0 rfl rfl 4 (by decide) (hts _ fl_Model_149) (fun _ h9 => h9) rfl d_Model_clear2_47 ?_
      refine n_icmp_ge (tgt := 115) hx hb (by omega) (by omega) d_Model_clear2_50 (by decide) (fun c50 => ?_) (fun c50 => ?_)
      · refine lv_iload_n hx hb d_Model_clear2_115 rfl (lv_at hl 2 rfl) ?_
        exact W.zret (v := (nI ((allB (fun z9 => !(fM fd mg 1 (p0 kz.toNat * st) ((p0 kz.toNat + p2 kz.toNat) * st) z9 && fM fd mg 0 (p1 kz.toNat * st) ((p1 kz.toNat + p3 kz.toNat) * st) z9)) i).toNat))) hx hb hr (nar_tN _) (fun t9 ht hW => ⟨⟨_, (), rfl, congrArg nI (by first | (rw [show i = nf by omega]) | (rw [tN_0 c54, allB_f hi1 (tN_0 c54)])), by rw [ht]; exact hP, hD⟩, hS.F ht⟩) hS.2.2 d_Model_clear2_116
      · refine lv_iload_n hx hb d_Model_clear2_53 rfl (lv_at hl 2 rfl) ?_
        refine n_if_eq (tgt := 115) hx hb (tN_lt _) d_Model_clear2_54 (by decide) (fun c54 => ?_) (fun c54 => ?_)
        · refine lv_iload_n hx hb d_Model_clear2_115 rfl (lv_at hl 2 rfl) ?_
          exact W.zret (v := (nI ((allB (fun z9 => !(fM fd mg 1 (p0 kz.toNat * st) ((p0 kz.toNat + p2 kz.toNat) * st) z9 && fM fd mg 0 (p1 kz.toNat * st) ((p1 kz.toNat + p3 kz.toNat) * st) z9)) i).toNat))) hx hb hr (nar_tN _) (fun t9 ht hW => ⟨⟨_, (), rfl, congrArg nI (by first | (rw [show i = nf by omega]) | (rw [tN_0 c54, allB_f hi1 (tN_0 c54)])), by rw [ht]; exact hP, hD⟩, hS.F ht⟩) hS.2.2 d_Model_clear2_116
        · have hk := g3 kz.toNat (by omega)
          refine lv_aload_n hx hb d_Model_clear2_57 rfl (lv_at hl 0 rfl) ?_
          refine lv_iload_n hx hb d_Model_clear2_58 rfl (lv_at hl 3 rfl) ?_
          refine lv_aload_n hx hb d_Model_clear2_59 rfl (lv_at hl 0 rfl) ?_
          refine va_get (D := G) (ci := 10) (v := .ref (aM 37)) (C := R_Model) (T := F_Model) (N := 47) hx hb hts in_Model hown hK hP 0 rfl rfl 37 (by decide) (hts _ fl_Model_94) (fun _ h9 => h9) rfl d_Model_clear2_60 ?_
          refine lv_iload_n hx hb d_Model_clear2_63 rfl (lv_at hl 1 rfl) ?_
          refine top_i (show (iI kz) = (nI kz.toNat) from iI_nI (by omega)) ?_
          refine n_iald hx hb hK hP 5 0 rfl rfl (by omega) (by omega) d_Model_clear2_64 ?_
          refine lv_aload_n hx hb d_Model_clear2_65 rfl (lv_at hl 0 rfl) ?_
          refine va_get (D := G) (ci := 10) (v := .ref (aM 37)) (C := R_Model) (T := F_Model) (N := 47) hx hb hts in_Model hown hK hP 0 rfl rfl 37 (by decide) (hts _ fl_Model_94) (fun _ h9 => h9) rfl d_Model_clear2_66 ?_
          refine lv_iload_n hx hb d_Model_clear2_69 rfl (lv_at hl 1 rfl) ?_
          refine top_i (show (iI kz) = (nI kz.toNat) from iI_nI (by omega)) ?_
          refine n_iald hx hb hK hP 5 0 rfl rfl (by omega) (by omega) d_Model_clear2_70 ?_
          refine lv_aload_n hx hb d_Model_clear2_71 rfl (lv_at hl 0 rfl) ?_
          refine va_get (D := G) (ci := 10) (v := .ref (aM 39)) (C := R_Model) (T := F_Model) (N := 47) hx hb hts in_Model hown hK hP 0 rfl rfl 39 (by decide) (hts _ fl_Model_100) (fun _ h9 => h9) rfl d_Model_clear2_72 ?_
          refine lv_iload_n hx hb d_Model_clear2_75 rfl (lv_at hl 1 rfl) ?_
          refine top_i (show (iI kz) = (nI kz.toNat) from iI_nI (by omega)) ?_
          refine n_iald hx hb hK hP 7 0 rfl rfl (by omega) (by omega) d_Model_clear2_76 ?_
          refine n_iadd hx hb d_Model_clear2_77 ?_
          refine lv_aload_n hx hb d_Model_clear2_78 rfl (lv_at hl 0 rfl) ?_
          refine va_get (D := G) (ci := 10) (v := .ref (aM 38)) (C := R_Model) (T := F_Model) (N := 47) hx hb hts in_Model hown hK hP 0 rfl rfl 38 (by decide) (hts _ fl_Model_97) (fun _ h9 => h9) rfl d_Model_clear2_79 ?_
          refine lv_iload_n hx hb d_Model_clear2_82 rfl (lv_at hl 1 rfl) ?_
          refine top_i (show (iI kz) = (nI kz.toNat) from iI_nI (by omega)) ?_
          refine n_iald hx hb hK hP 6 0 rfl rfl (by omega) (by omega) d_Model_clear2_83 ?_
          refine lv_aload_n hx hb d_Model_clear2_84 rfl (lv_at hl 0 rfl) ?_
          refine va_get (D := G) (ci := 10) (v := .ref (aM 38)) (C := R_Model) (T := F_Model) (N := 47) hx hb hts in_Model hown hK hP 0 rfl rfl 38 (by decide) (hts _ fl_Model_97) (fun _ h9 => h9) rfl d_Model_clear2_85 ?_
          refine lv_iload_n hx hb d_Model_clear2_88 rfl (lv_at hl 1 rfl) ?_
          refine top_i (show (iI kz) = (nI kz.toNat) from iI_nI (by omega)) ?_
          refine n_iald hx hb hK hP 6 0 rfl rfl (by omega) (by omega) d_Model_clear2_89 ?_
          refine lv_aload_n hx hb d_Model_clear2_90 rfl (lv_at hl 0 rfl) ?_
          refine va_get (D := G) (ci := 10) (v := .ref (aM 40)) (C := R_Model) (T := F_Model) (N := 47) hx hb hts in_Model hown hK hP 0 rfl rfl 40 (by decide) (hts _ fl_Model_103) (fun _ h9 => h9) rfl d_Model_clear2_91 ?_
          refine lv_iload_n hx hb d_Model_clear2_94 rfl (lv_at hl 1 rfl) ?_
          refine top_i (show (iI kz) = (nI kz.toNat) from iI_nI (by omega)) ?_
          refine n_iald hx hb hK hP 8 0 rfl rfl (by omega) (by omega) d_Model_clear2_95 ?_
          refine n_iadd hx hb d_Model_clear2_96 ?_
          refine vp_callSi (W.runV (As := [.int (nI i), .int (nI (p0 kz.toNat)), .int (nI ((p0 kz.toNat) + (p2 kz.toNat))), .int (nI (p1 kz.toNat)), .int (nI ((p1 kz.toNat) + (p3 kz.toNat)))]) (rest := []) ⟨hx, hb, hml, hown, hts⟩ (c_Model_isOver l G ty hM 0 st al ac nf ns gg mg bw md wy sg_ sz_ ks bd aM i (p0 kz.toNat) ((p0 kz.toNat) + (p2 kz.toNat)) (p1 kz.toNat) ((p1 kz.toNat) + (p3 kz.toNat)) fd (by omega) gF (by omega) (by omega) (by omega) (by omega) (by omega) (by omega)) ⟨callB_of 5 hts (gd_TB cd_Model_isOver) rfl rfl rfl (hts _ ini_Model) (hts _ lk_Model_178) hd_Model_isOver ⟨Nat.le_of_ble_eq_true rfl, Nat.le_of_ble_eq_true rfl⟩, hts _ im_Model_isOver, hts _ sl_Model_isOver⟩ (preV_ro (hP.sub (ws' := [(hM, .inr (10, mO 0 st al ac nf ns gg mg bw md wy sg_ sz_ ks bd aM)), (aM 7, .inl (ty 0, 20, .inl (zF (col fd 2)))), (aM 8, .inl (ty 0, 20, .inl (zF (col fd 3)))), (aM 9, .inl (ty 0, 20, .inl (zF (col fd 4)))), (aM 10, .inl (ty 0, 20, .inl (zF (col fd 5))))]) [0, 1, 2, 3, 4] rfl) hX 0 rfl rfl) rfl rfl hl.1 rfl (lv_room (Nat.le_of_ble_eq_true rfl)) d_Model_clear2_97 ⟨Nat.le_of_ble_eq_true rfl, Nat.le_of_ble_eq_true rfl⟩) (fun r9 er9 => ?_)
          subst er9
          refine n_if_ne (tgt := 107) hx hb (tN_lt _) d_Model_clear2_100 (by decide) (fun c100 => ?_) (fun c100 => ?_)
          · refine lv_iconst (v := (nI 0)) hx hb d_Model_clear2_107 (by decide) ?_
            refine top_i (show (nI 0) = nI (allB (fun z9 => !(fM fd mg 1 (p0 kz.toNat * st) ((p0 kz.toNat + p2 kz.toNat) * st) z9 && fM fd mg 0 (p1 kz.toNat * st) ((p1 kz.toNat + p3 kz.toNat) * st) z9)) (i + 1)).toNat from congrArg nI (by rw [allB_s, tN_1 c54]; first | (rw [tN_0 c100]; rfl) | (rw [tN_1 c100]; rfl))) ?_
            refine lv_istore_n (lv' := [(2, .int (nI ((allB (fun z9 => !(fM fd mg 1 (p0 kz.toNat * st) ((p0 kz.toNat + p2 kz.toNat) * st) z9 && fM fd mg 0 (p1 kz.toNat * st) ((p1 kz.toNat + p3 kz.toNat) * st) z9)) (i + 1)).toNat))), (0, .ref hM), (1, .int (iI kz)), (3, .int (nI i))]) hx hb d_Model_clear2_108 rfl hl (by decide) rfl (fun ls hl => ?_)
            refine lv_iinc (v := (nI (i + 1))) (lv' := [(3, .int (nI (i + 1))), (2, .int (nI ((allB (fun z9 => !(fM fd mg 1 (p0 kz.toNat * st) ((p0 kz.toNat + p2 kz.toNat) * st) z9 && fM fd mg 0 (p1 kz.toNat * st) ((p1 kz.toNat + p3 kz.toNat) * st) z9)) (i + 1)).toNat))), (0, .ref hM), (1, .int (iI kz))]) hx hb d_Model_clear2_109 hl (k := 3) rfl (nI_inc _ _ _ (by omega)) (by decide) rfl (fun ls hl => ?_)
            refine lv_goto (tgt := 45) hx hb d_Model_clear2_112 (by decide) ?_
            exact ih45 (i + 1) _ _ _ (by omega) (by omega) hP hD hS (lv_sub hl [2, 3, 1, 0] rfl)
          · refine lv_iconst (v := (nI 1)) hx hb d_Model_clear2_103 (by decide) ?_
            refine lv_goto (tgt := 108) hx hb d_Model_clear2_104 (by decide) ?_
            refine top_i (show (nI 1) = nI (allB (fun z9 => !(fM fd mg 1 (p0 kz.toNat * st) ((p0 kz.toNat + p2 kz.toNat) * st) z9 && fM fd mg 0 (p1 kz.toNat * st) ((p1 kz.toNat + p3 kz.toNat) * st) z9)) (i + 1)).toNat from congrArg nI (by rw [allB_s, tN_1 c54]; first | (rw [tN_0 c100]; rfl) | (rw [tN_1 c100]; rfl))) ?_
            refine lv_istore_n (lv' := [(2, .int (nI ((allB (fun z9 => !(fM fd mg 1 (p0 kz.toNat * st) ((p0 kz.toNat + p2 kz.toNat) * st) z9 && fM fd mg 0 (p1 kz.toNat * st) ((p1 kz.toNat + p3 kz.toNat) * st) z9)) (i + 1)).toNat))), (0, .ref hM), (1, .int (iI kz)), (3, .int (nI i))]) hx hb d_Model_clear2_108 rfl hl (by decide) rfl (fun ls hl => ?_)
            refine lv_iinc (v := (nI (i + 1))) (lv' := [(3, .int (nI (i + 1))), (2, .int (nI ((allB (fun z9 => !(fM fd mg 1 (p0 kz.toNat * st) ((p0 kz.toNat + p2 kz.toNat) * st) z9 && fM fd mg 0 (p1 kz.toNat * st) ((p1 kz.toNat + p3 kz.toNat) * st) z9)) (i + 1)).toNat))), (0, .ref hM), (1, .int (iI kz))]) hx hb d_Model_clear2_109 hl (k := 3) rfl (nI_inc _ _ _ (by omega)) (by decide) rfl (fun ls hl => ?_)
            refine lv_goto (tgt := 45) hx hb d_Model_clear2_112 (by decide) ?_
            exact ih45 (i + 1) _ _ _ (by omega) (by omega) hP hD hS (lv_sub hl [2, 3, 1, 0] rfl)
  have hP : va_P G vwCl [(hM, .inr (10, mO 0 st al ac nf ns gg mg bw md wy sg_ sz_ ks bd aM)), (aM 7, .inl (ty 0, 20, .inl (zF (col fd 2)))), (aM 8, .inl (ty 0, 20, .inl (zF (col fd 3)))), (aM 9, .inl (ty 0, 20, .inl (zF (col fd 4)))), (aM 10, .inl (ty 0, 20, .inl (zF (col fd 5)))), (aM 37, .inl (ty 0, 240, .inl (nF p0))), (aM 38, .inl (ty 0, 240, .inl (nF p1))), (aM 39, .inl (ty 0, 240, .inl (nF p2))), (aM 40, .inl (ty 0, 240, .inl (nF p3)))] _ := hP.sub [8, 0, 1, 2, 3, 4, 5, 6, 7] rfl
  have hD : va_D A [(hM, .inr (10, mO 0 st al ac nf ns gg mg bw md wy sg_ sz_ ks bd aM)), (aM 7, .inl (ty 0, 20, .inl (zF (col fd 2)))), (aM 8, .inl (ty 0, 20, .inl (zF (col fd 3)))), (aM 9, .inl (ty 0, 20, .inl (zF (col fd 4)))), (aM 10, .inl (ty 0, 20, .inl (zF (col fd 5)))), (aM 37, .inl (ty 0, 240, .inl (nF p0))), (aM 38, .inl (ty 0, 240, .inl (nF p1))), (aM 39, .inl (ty 0, 240, .inl (nF p2))), (aM 40, .inl (ty 0, 240, .inl (nF p3)))] := hD.sub [8, 0, 1, 2, 3, 4, 5, 6, 7] (by decide) rfl
  exact L45 (nf - 0 + 1) 0 _ _ _ (Nat.zero_le _) (Nat.lt_succ_self _) hP hD hS (lv_sub hl [2, 3, 1, 0] rfl)

abbrev q_Model_clear2 (G : va_G) (ty : Nat → ClassId) (hM : Nat) (cd : Nat) (st : Nat) (al : Nat) (ac : Nat) (nf : Nat) (ns : Nat) (gg : Nat) (mg : Nat) (bw : Nat) (md : Nat) (wy : Nat) (sg_ : Nat) (sz_ : Nat) (ks : Nat) (bd : Int) (aM : Nat → Nat) (kz : Int) (A : Nat → Prop) : Array Value → State → Outcome → State → Prop := va_Qi (fun (r : Int32) => fun (uu : Nat × Nat) => r = (nI uu.1) ∧ uu.2 = (if md = 0 then 1 else 2) ∧ uu.1 = 0) (at_W G (fun (uu : Nat × Nat) => [(hM, .inr (10, mO uu.2 st al ac nf ns gg mg bw md wy sg_ sz_ ks bd aM))]) A) A
set_option maxRecDepth 100000 in
set_option maxHeartbeats 4000000 in
theorem c_Model_clear2 (l : Launch) (G : va_G) (ty : Nat → ClassId) (sz : Nat) (hM : Nat) (cd : Nat) (st : Nat) (al : Nat) (ac : Nat) (nf : Nat) (ns : Nat) (gg : Nat) (mg : Nat) (bw : Nat) (md : Nat) (wy : Nat) (sg_ : Nat) (sz_ : Nat) (ks : Nat) (bd : Int) (aM : Nat → Nat) (kz : Int) (gmd : md ≤ 1) (gk : -2147483648 ≤ kz ∧ kz ≤ 2147483647) (g1 : sz_ ≤ 240) (gn : nf ≤ 20) (gx : md = 1 → kz < 0 ∨ (sz_ : Int) ≤ kz) : Met l y_Model_clear2 ws_Model_clear2 { frames := 1, cells := 0, slots := 0, locals := 20 } (va_Pc [.ref hM, .int (iI kz)] (fun U => U.heap.size = sz ∧ va_P G vwCl [(hM, .inr (10, mO cd st al ac nf ns gg mg bw md wy sg_ sz_ ks bd aM))] U.heap ∧ KX G ty U ∧ va_D (fun _ => True) [(hM, .inr (10, mO cd st al ac nf ns gg mg bw md wy sg_ sz_ ks bd aM))])) (q_Model_clear2 G ty hM cd st al ac nf ns gg mg bw md wy sg_ sz_ ks bd aM kz (va_A [(hM, .inr (10, mO cd st al ac nf ns gg mg bw md wy sg_ sz_ ks bd aM))] sz)) 0 0 (va_A [(hM, .inr (10, mO cd st al ac nf ns gg mg bw md wy sg_ sz_ ks bd aM))] sz) := by
  refine met_wr (y := y_Model_clear2) (maxL := 4) (sz := sz) (G := G) (ty := ty) (mc := 0) (ms := 0) (av := [.ref hM, .int (iI kz)]) (W0 := [(hM, .inr (10, mO cd st al ac nf ns gg mg bw md wy sg_ sz_ ks bd aM))]) (fun A => q_Model_clear2 G ty hM cd st al ac nf ns gg mg bw md wy sg_ sz_ ks bd aM kz A) R_Model (by decide) rfl rfl (Nat.le_of_ble_eq_true rfl) ?_
  intro p e s m below meth c ls A hx hb hr hml hown hts hlocks hin hA hP hX hD hS hl
  have hK := hX.1
  have hl : lv_has ls 4 [(0, .ref hM), (1, .int (iI kz))] := hl
  refine lv_aload_n hx hb d_Model_clear2_0 rfl (lv_at hl 0 rfl) ?_
  refine call_wr_i (Wc := [(hM, .inr (10, mO cd st al ac nf ns gg mg bw md wy sg_ sz_ ks bd aM))]) (Wr := []) (va_runV (As := []) (rest := []) ⟨hx, hb, hml, hown, hts⟩ (c_Model_none l G ty _ hM cd st al ac nf ns gg mg bw md wy sg_ sz_ ks bd aM (by omega)) ⟨callB_of 0 hts (gd_TB cd_Model_none) rfl rfl rfl (hts _ ini_Model) (hts _ lk_Model_287) hd_Model_none ⟨Nat.le_of_ble_eq_true rfl, Nat.le_of_ble_eq_true rfl⟩, hts _ im_Model_none, hts _ sl_Model_none⟩ (preV_wr (hP.sub (ws' := [(hM, .inr (10, mO cd st al ac nf ns gg mg bw md wy sg_ sz_ ks bd aM))]) [0] rfl) hX (hD.sub (ws' := [(hM, .inr (10, mO cd st al ac nf ns gg mg bw md wy sg_ sz_ ks bd aM))]) [0] (by decide) rfl) 0 rfl rfl) rfl rfl hl.1 rfl (lv_room (Nat.le_of_ble_eq_true rfl)) d_Model_clear2_1 ⟨Nat.le_of_ble_eq_true rfl, Nat.le_of_ble_eq_true rfl⟩) hP hD hS hA [0] [] rfl rfl (by decide) (by decide) (fun r2 u9 H locs hw1 hP hD hS => ?_)
  have hw1 : r2 = (nI (1 - md)) := hw1
  have hP : va_P G vwCl [(hM, .inr (10, mO (1 - md) st al ac nf ns gg mg bw md wy sg_ sz_ ks bd aM))] _ := hP
  have hD : va_D A [(hM, .inr (10, mO (1 - md) st al ac nf ns gg mg bw md wy sg_ sz_ ks bd aM))] := hD
  subst hw1
  refine n_if_eq (tgt := 9) hx hb (by omega) d_Model_clear2_4 (by decide) (fun c4 => ?_) (fun c4 => ?_)
  · have hbad := gx (by omega)
    refine lv_aload_n hx hb d_Model_clear2_9 rfl (lv_at hl 0 rfl) ?_
    refine lv_iload_n hx hb d_Model_clear2_10 rfl (lv_at hl 1 rfl) ?_
    refine z_if_lt (tgt := 22) hx hb (by omega) d_Model_clear2_11 (by decide) (fun c11 => ?_) (fun c11 => ?_)
    · refine lv_iconst (v := (nI 2)) hx hb d_Model_clear2_22 (by decide) ?_
      refine lv_goto (tgt := 27) hx hb d_Model_clear2_23 (by decide) ?_
      refine va_put (D := G) (ci := 10) (v := .int (nI 2)) (ty := .int) (C := R_Model) (T := F_Model) (N := 47) hx hb hts in_Model t_Model t_Model_ok n_Model hown hK hP hD hS 0 rfl rfl 0 (by decide) (hts _ fl_Model_132) (fun _ h9 => h9) rfl (by decide +kernel) rfl rfl (Nat.le_of_ble_eq_true rfl) d_Model_clear2_27 (fun H locs hP hD hS => ?_)
      have hP : va_P G vwCl [(hM, .inr (10, mO 2 st al ac nf ns gg mg bw md wy sg_ sz_ ks bd aM))] _ := hP
      have hD : va_D A [(hM, .inr (10, mO 2 st al ac nf ns gg mg bw md wy sg_ sz_ ks bd aM))] := hD
      refine lv_aload_n hx hb d_Model_clear2_30 rfl (lv_at hl 0 rfl) ?_
      refine va_get (D := G) (ci := 10) (v := .int (nI 2)) (C := R_Model) (T := F_Model) (N := 47) hx hb hts in_Model hown hK hP 0 rfl rfl 0 (by decide) (hts _ fl_Model_132) (fun _ h9 => h9) rfl d_Model_clear2_31 ?_
      refine n_if_ne (tgt := 41) hx hb (by omega) d_Model_clear2_34 (by decide) (fun c34 => ?_) (fun c34 => absurd c34 (by omega))
      refine lv_iconst (v := (nI 0)) hx hb d_Model_clear2_41 (by decide) ?_
      refine lv_istore_n (lv' := [(2, .int (nI 0)), (0, .ref hM), (1, .int (iI kz))]) hx hb d_Model_clear2_42 rfl hl (by decide) rfl (fun ls hl => ?_)
      refine lv_iconst (v := (nI 0)) hx hb d_Model_clear2_43 (by decide) ?_
      refine lv_istore_n (lv' := [(3, .int (nI 0)), (2, .int (nI 0)), (0, .ref hM), (1, .int (iI kz))]) hx hb d_Model_clear2_44 rfl hl (by decide) rfl (fun ls hl => ?_)
      refine lv_iload_n hx hb d_Model_clear2_45 rfl (lv_at hl 0 rfl) ?_
      refine lv_aload_n hx hb d_Model_clear2_46 rfl (lv_at hl 2 rfl) ?_
      refine va_get (D := G) (ci := 10) (v := .int (nI nf)) (C := R_Model) (T := F_Model) (N := 47) hx hb hts in_Model hown hK hP 0 rfl rfl 4 (by decide) (hts _ fl_Model_149) (fun _ h9 => h9) rfl d_Model_clear2_47 ?_
      refine n_icmp_ge (tgt := 115) hx hb (by omega) (by omega) d_Model_clear2_50 (by decide) (fun c50 => ?_) (fun c50 => ?_)
      · refine lv_iload_n hx hb d_Model_clear2_115 rfl (lv_at hl 1 rfl) ?_
        exact W.zret (v := (nI 0)) hx hb hr nar_b0 (fun t9 ht hW => ⟨⟨_, (0, 2), rfl, ⟨rfl, ⟨by rw [if_neg (show ¬ md = 0 by omega)], rfl⟩⟩, by rw [ht]; exact hP, hD⟩, hS.F ht⟩) hS.2.2 d_Model_clear2_116
      · refine lv_iload_n hx hb d_Model_clear2_53 rfl (lv_at hl 1 rfl) ?_
        refine n_if_eq (tgt := 115) hx hb (by omega) d_Model_clear2_54 (by decide) (fun c54 => ?_) (fun c54 => absurd c54 (by omega))
        refine lv_iload_n hx hb d_Model_clear2_115 rfl (lv_at hl 1 rfl) ?_
        exact W.zret (v := (nI 0)) hx hb hr nar_b0 (fun t9 ht hW => ⟨⟨_, (0, 2), rfl, ⟨rfl, ⟨by rw [if_neg (show ¬ md = 0 by omega)], rfl⟩⟩, by rw [ht]; exact hP, hD⟩, hS.F ht⟩) hS.2.2 d_Model_clear2_116
    · refine lv_iload_n hx hb d_Model_clear2_14 rfl (lv_at hl 1 rfl) ?_
      refine lv_aload_n hx hb d_Model_clear2_15 rfl (lv_at hl 0 rfl) ?_
      refine va_get (D := G) (ci := 10) (v := .int (nI sz_)) (C := R_Model) (T := F_Model) (N := 47) hx hb hts in_Model hown hK hP 0 rfl rfl 36 (by decide) (hts _ fl_Model_219) (fun _ h9 => h9) rfl d_Model_clear2_16 ?_
      refine zn_icmp_lt (tgt := 26) hx hb (by omega) (by omega) d_Model_clear2_19 (by decide) (fun c19 => ?_) (fun c19 => ?_)
      · exact absurd hbad (by omega)
      · refine lv_iconst (v := (nI 2)) hx hb d_Model_clear2_22 (by decide) ?_
        refine lv_goto (tgt := 27) hx hb d_Model_clear2_23 (by decide) ?_
        refine va_put (D := G) (ci := 10) (v := .int (nI 2)) (ty := .int) (C := R_Model) (T := F_Model) (N := 47) hx hb hts in_Model t_Model t_Model_ok n_Model hown hK hP hD hS 0 rfl rfl 0 (by decide) (hts _ fl_Model_132) (fun _ h9 => h9) rfl (by decide +kernel) rfl rfl (Nat.le_of_ble_eq_true rfl) d_Model_clear2_27 (fun H locs hP hD hS => ?_)
        have hP : va_P G vwCl [(hM, .inr (10, mO 2 st al ac nf ns gg mg bw md wy sg_ sz_ ks bd aM))] _ := hP
        have hD : va_D A [(hM, .inr (10, mO 2 st al ac nf ns gg mg bw md wy sg_ sz_ ks bd aM))] := hD
        refine lv_aload_n hx hb d_Model_clear2_30 rfl (lv_at hl 0 rfl) ?_
        refine va_get (D := G) (ci := 10) (v := .int (nI 2)) (C := R_Model) (T := F_Model) (N := 47) hx hb hts in_Model hown hK hP 0 rfl rfl 0 (by decide) (hts _ fl_Model_132) (fun _ h9 => h9) rfl d_Model_clear2_31 ?_
        refine n_if_ne (tgt := 41) hx hb (by omega) d_Model_clear2_34 (by decide) (fun c34 => ?_) (fun c34 => absurd c34 (by omega))
        refine lv_iconst (v := (nI 0)) hx hb d_Model_clear2_41 (by decide) ?_
        refine lv_istore_n (lv' := [(2, .int (nI 0)), (0, .ref hM), (1, .int (iI kz))]) hx hb d_Model_clear2_42 rfl hl (by decide) rfl (fun ls hl => ?_)
        refine lv_iconst (v := (nI 0)) hx hb d_Model_clear2_43 (by decide) ?_
        refine lv_istore_n (lv' := [(3, .int (nI 0)), (2, .int (nI 0)), (0, .ref hM), (1, .int (iI kz))]) hx hb d_Model_clear2_44 rfl hl (by decide) rfl (fun ls hl => ?_)
        refine lv_iload_n hx hb d_Model_clear2_45 rfl (lv_at hl 0 rfl) ?_
        refine lv_aload_n hx hb d_Model_clear2_46 rfl (lv_at hl 2 rfl) ?_
        refine va_get (D := G) (ci := 10) (v := .int (nI nf)) (C := R_Model) (T := F_Model) (N := 47) hx hb hts in_Model hown hK hP 0 rfl rfl 4 (by decide) (hts _ fl_Model_149) (fun _ h9 => h9) rfl d_Model_clear2_47 ?_
        refine n_icmp_ge (tgt := 115) hx hb (by omega) (by omega) d_Model_clear2_50 (by decide) (fun c50 => ?_) (fun c50 => ?_)
        · refine lv_iload_n hx hb d_Model_clear2_115 rfl (lv_at hl 1 rfl) ?_
          exact W.zret (v := (nI 0)) hx hb hr nar_b0 (fun t9 ht hW => ⟨⟨_, (0, 2), rfl, ⟨rfl, ⟨by rw [if_neg (show ¬ md = 0 by omega)], rfl⟩⟩, by rw [ht]; exact hP, hD⟩, hS.F ht⟩) hS.2.2 d_Model_clear2_116
        · refine lv_iload_n hx hb d_Model_clear2_53 rfl (lv_at hl 1 rfl) ?_
          refine n_if_eq (tgt := 115) hx hb (by omega) d_Model_clear2_54 (by decide) (fun c54 => ?_) (fun c54 => absurd c54 (by omega))
          refine lv_iload_n hx hb d_Model_clear2_115 rfl (lv_at hl 1 rfl) ?_
          exact W.zret (v := (nI 0)) hx hb hr nar_b0 (fun t9 ht hW => ⟨⟨_, (0, 2), rfl, ⟨rfl, ⟨by rw [if_neg (show ¬ md = 0 by omega)], rfl⟩⟩, by rw [ht]; exact hP, hD⟩, hS.F ht⟩) hS.2.2 d_Model_clear2_116
  · refine lv_iconst (v := (nI 0)) hx hb d_Model_clear2_7 (by decide) ?_
    exact W.zret (v := (nI 0)) hx hb hr nar_b0 (fun t9 ht hW => ⟨⟨_, (0, 1 - md), rfl, ⟨rfl, ⟨by rw [if_pos (show md = 0 by omega)]; omega, rfl⟩⟩, by rw [ht]; exact hP, hD⟩, hS.F ht⟩) hS.2.2 d_Model_clear2_8
