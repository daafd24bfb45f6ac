theorem fl_Model_85 : Cond.fieldLink R_Model 85 "FaultRipsModel" "rest" "[J" ∈ TB := mem_TB 883 (by decide +kernel) (by decide +kernel)
theorem fl_Model_88 : Cond.fieldLink R_Model 88 "FaultRipsModel" "restCount" "[I" ∈ TB := mem_TB 884 (by decide +kernel) (by decide +kernel)
theorem lk_Model_199 : Cond.methodLink R_Model 199 y_Model_segment ∈ TB := mem_TB 1087 (by decide +kernel) (by decide +kernel)
theorem lk_Model_203 : Cond.methodLink R_Model 203 y_Model_countBy ∈ TB := mem_TB 1091 (by decide +kernel) (by decide +kernel)
theorem lk_Model_207 : Cond.methodLink R_Model 207 y_Model_isCut ∈ TB := mem_TB 1095 (by decide +kernel) (by decide +kernel)
theorem lk_Model_211 : Cond.methodLink R_Model 211 y_Model_valueBy ∈ TB := mem_TB 1099 (by decide +kernel) (by decide +kernel)

theorem rOKr_end {re : Nat → Int} {rc : Nat → Nat} {RV : Nat → Int} {base K n : Nat} (h : RV n = 0) : rOKr (va_up re (base + n) 0) (va_up rc (base + n) 0) RV base K n n := by
  refine ⟨?_, ?_, ?_⟩
  · rw [va_up_self, va_up_self, h]; rfl
  · rw [va_up_self]; exact Nat.zero_le _
  · rw [va_up_self, va_up_self]; exact fun _ => rfl
theorem rOKr_up {re : Nat → Int} {rc : Nat → Nat} {RV : Nat → Int} {base K n b p : Nat} {v : Int} {c : Nat} (hne : p ≠ b) (h : rOKr re rc RV base K n p) : rOKr (va_up re (base + b) v) (va_up rc (base + b) c) RV base K n p := by
  unfold rOKr
  rw [va_up_ne _ _ (by omega), va_up_ne _ _ (by omega)]
  exact h
theorem rOKr_at {re : Nat → Int} {rc : Nat → Nat} {RV : Nat → Int} {base K n b : Nat} {v : Int} {c : Nat} (h1 : 1024 * v - (c : Int) = RV b) (h2 : c ≤ K * (n - b)) (h3 : c = 0 → v = 0) : rOKr (va_up re (base + b) v) (va_up rc (base + b) c) RV base K n b := by
  refine ⟨?_, ?_, ?_⟩
  · rw [va_up_self, va_up_self]; exact h1
  · rw [va_up_self]; exact h2
  · rw [va_up_self, va_up_self]; exact h3

abbrev q_reckon10 (G : va_G) (ty : Nat → ClassId) (hM : Nat) (cd : Nat) (st : Nat) (al : Nat) (ac : Nat) (nf : Nat) (ns : Nat) (mg : Nat) (bw : Nat) (md : Nat) (wy : Nat) (sg_ : Nat) (sz_ : Nat) (ks : Nat) (bd : Int) (aM : Nat → Nat) (gs : Nat → Bool) (tl : Bool) (x0 : Nat) (x1 : Nat) (y0 : Nat) (y1 : Nat) (vu : Nat → Int) (cu : Nat → Nat) (re : Nat → Int) (rc : Nat → Nat) (A : Nat → Prop) : Array Value → State → Outcome → State → Prop := va_Qv (fun (uu : (Nat → Int) × (Nat → Nat)) => (∀ p, p ≤ (y1 - y0) → rOKr uu.1 uu.2 (fun p9 => dpV (mS vu cu x0 x1) (okc 1 sg_ (fun z9 => decide (1 ≤ z9) && (decide (wy ≠ 0) || (!tl || gs z9)))) (y0 + p9) y1) 32 (x1 - x0) (y1 - y0) p) ∧ (∀ q, q < 32 ∨ 32 + (y1 - y0) < q → uu.1 q = re q ∧ uu.2 q = rc q)) (at_W G (fun (uu : (Nat → Int) × (Nat → Nat)) => [(hM, .inr (10, mO cd st al ac nf ns tl.toNat mg bw md wy sg_ sz_ ks bd aM)), (aM 24, .inl (ty 1, 75625, .inr (.inl (lF vu)))), (aM 25, .inl (ty 0, 75625, .inl (nF cu))), (aM 31, .inl (ty 1, 128, .inr (.inl (lF uu.1)))), (aM 32, .inl (ty 0, 128, .inl (nF uu.2))), (aM 20, .inl (ty 2, 65537, .inl (bF gs)))]) A) A
set_option maxRecDepth 100000 in
set_option maxHeartbeats 4000000 in
theorem c_reckon10 (l : Launch) (G : va_G) (ty : Nat → ClassId) (sz : Nat) (hM : Nat) (cd : Nat) (st : Nat) (al : Nat) (ac : Nat) (nf : Nat) (ns : Nat) (mg : Nat) (bw : Nat) (md : Nat) (wy : Nat) (sg_ : Nat) (sz_ : Nat) (ks : Nat) (bd : Int) (aM : Nat → Nat) (gs : Nat → Bool) (tl : Bool) (x0 : Nat) (x1 : Nat) (y0 : Nat) (y1 : Nat) (vu : Nat → Int) (cu : Nat → Nat) (re : Nat → Int) (rc : Nat → Nat) (gtp : 1 ≤ sg_ ∧ sg_ ≤ 3) (gwy : wy ≤ 1) (gax : 0 = (if (sg_ - 1) % 2 = 0 then wy else 1 - wy)) (k1 : x0 < x1) (k2 : x1 ≤ 24) (k3 : y0 < y1) (k4 : y1 ≤ 10) (gO : ∀ i j, y0 ≤ i → i < j → j ≤ y1 → mOK vu cu x0 x1 i j) : Met l y_Model_reckon ws_Model_reckon { frames := 2, cells := 0, slots := 0, locals := 50 } (va_Pc [.ref hM, .int (nI 1), .int (nI x0), .int (nI x1), .int (nI y0), .int (nI y1)] (fun U => U.heap.size = sz ∧ va_P G vwCl [(hM, .inr (10, mO cd st al ac nf ns tl.toNat mg bw md wy sg_ sz_ ks bd aM)), (aM 24, .inl (ty 1, 75625, .inr (.inl (lF vu)))), (aM 25, .inl (ty 0, 75625, .inl (nF cu))), (aM 31, .inl (ty 1, 128, .inr (.inl (lF re)))), (aM 32, .inl (ty 0, 128, .inl (nF rc))), (aM 20, .inl (ty 2, 65537, .inl (bF gs)))] U.heap ∧ KX G ty U ∧ va_D (fun _ => True) [(hM, .inr (10, mO cd st al ac nf ns tl.toNat mg bw md wy sg_ sz_ ks bd aM)), (aM 24, .inl (ty 1, 75625, .inr (.inl (lF vu)))), (aM 25, .inl (ty 0, 75625, .inl (nF cu))), (aM 31, .inl (ty 1, 128, .inr (.inl (lF re)))), (aM 32, .inl (ty 0, 128, .inl (nF rc))), (aM 20, .inl (ty 2, 65537, .inl (bF gs)))])) (q_reckon10 G ty hM cd st al ac nf ns mg bw md wy sg_ sz_ ks bd aM gs tl x0 x1 y0 y1 vu cu re rc (va_A [(hM, .inr (10, mO cd st al ac nf ns tl.toNat mg bw md wy sg_ sz_ ks bd aM)), (aM 24, .inl (ty 1, 75625, .inr (.inl (lF vu)))), (aM 25, .inl (ty 0, 75625, .inl (nF cu))), (aM 31, .inl (ty 1, 128, .inr (.inl (lF re)))), (aM 32, .inl (ty 0, 128, .inl (nF rc))), (aM 20, .inl (ty 2, 65537, .inl (bF gs)))] sz)) 0 0 (va_A [(hM, .inr (10, mO cd st al ac nf ns tl.toNat mg bw md wy sg_ sz_ ks bd aM)), (aM 24, .inl (ty 1, 75625, .inr (.inl (lF vu)))), (aM 25, .inl (ty 0, 75625, .inl (nF cu))), (aM 31, .inl (ty 1, 128, .inr (.inl (lF re)))), (aM 32, .inl (ty 0, 128, .inl (nF rc))), (aM 20, .inl (ty 2, 65537, .inl (bF gs)))] sz) := by
  refine met_wr (y := y_Model_reckon) (maxL := 16) (sz := sz) (G := G) (ty := ty) (mc := 0) (ms := 0) (av := [.ref hM, .int (nI 1), .int (nI x0), .int (nI x1), .int (nI y0), .int (nI y1)]) (W0 := [(hM, .inr (10, mO cd st al ac nf ns tl.toNat mg bw md wy sg_ sz_ ks bd aM)), (aM 24, .inl (ty 1, 75625, .inr (.inl (lF vu)))), (aM 25, .inl (ty 0, 75625, .inl (nF cu))), (aM 31, .inl (ty 1, 128, .inr (.inl (lF re)))), (aM 32, .inl (ty 0, 128, .inl (nF rc))), (aM 20, .inl (ty 2, 65537, .inl (bF gs)))]) (fun A => q_reckon10 G ty hM cd st al ac nf ns mg bw md wy sg_ sz_ ks bd aM gs tl x0 x1 y0 y1 vu cu re rc A) R_Model (by decide) rfl rfl (Nat.le_of_ble_eq_true rfl) ?_
  intro p e s m below meth c ls A hx hb hr hml hown hts hlocks hin hA hP hX hD hS hl
  have hK := hX.1
  have hl : lv_has ls 16 [(0, .ref hM), (1, .int (nI 1)), (2, .int (nI x0)), (3, .int (nI x1)), (4, .int (nI y0)), (5, .int (nI y1))] := hl
  have hKn : ∀ a9, a9 ≤ y1 - y0 → (x1 - x0) * a9 ≤ 240 := fun a9 h9 => Nat.le_trans (Nat.mul_le_mul (show x1 - x0 ≤ 24 by omega) (show a9 ≤ 10 by omega)) (by decide)
  have hdv : ∀ p, y0 ≤ p → p ≤ y1 → 0 ≤ dpV (mS vu cu x0 x1) (okc 1 sg_ (fun z9 => decide (1 ≤ z9) && (decide (wy ≠ 0) || (!tl || gs z9)))) p y1 ∧ dpV (mS vu cu x0 x1) (okc 1 sg_ (fun z9 => decide (1 ≤ z9) && (decide (wy ≠ 0) || (!tl || gs z9)))) p y1 ≤ 26400000000000000 := fun p h1 h2 => dpV_u (by omega) h2 (fun i j h3 h4 h5 => mS_le (gO i j (by omega) h4 h5))
  refine lv_aload_n hx hb d_Model_reckon_0 rfl (lv_at hl 0 rfl) ?_
  refine lv_iload_n hx hb d_Model_reckon_1 rfl (lv_at hl 1 rfl) ?_
  refine vp_callSi (W.runV (As := [.int (nI 1)]) (rest := []) ⟨hx, hb, hml, hown, hts⟩ (c_Model_isRipped l G ty hM cd st al ac nf ns tl.toNat mg bw md wy sg_ sz_ ks bd aM 1 (by omega) (by omega) (by omega)) ⟨callB_of 1 hts (gd_TB cd_Model_isRipped) rfl rfl rfl (hts _ ini_Model) (hts _ lk_Model_196) hd_Model_isRipped ⟨Nat.le_of_ble_eq_true rfl, Nat.le_of_ble_eq_true rfl⟩, hts _ im_Model_isRipped, hts _ sl_Model_isRipped⟩ (preV_ro (hP.sub (ws' := [(hM, .inr (10, mO cd st al ac nf ns tl.toNat mg bw md wy sg_ sz_ ks bd aM))]) [0] rfl) hX 0 rfl rfl) rfl rfl hl.1 rfl (lv_room (Nat.le_of_ble_eq_true rfl)) d_Model_reckon_2 ⟨Nat.le_of_ble_eq_true rfl, Nat.le_of_ble_eq_true rfl⟩) (fun r9 er9 => ?_)
  subst er9
  refine top_i (show (nI (1 - (if (sg_ - 1) % 2 = 0 then wy else 1 - wy))) = (nI 1) from congrArg (fun z9 => nI (1 - z9)) gax.symm) ?_
  refine lv_istore (lv' := [(6, .int (nI 1)), (0, .ref hM), (1, .int (nI 1)), (2, .int (nI x0)), (3, .int (nI x1)), (4, .int (nI y0)), (5, .int (nI y1))]) hx hb d_Model_reckon_5 hl (by decide) rfl (fun ls hl => ?_)
  refine lv_iload hx hb d_Model_reckon_7 (lv_at hl 0 rfl) ?_
  refine n_if_eq (tgt := 20) hx hb (by omega) d_Model_reckon_9 (by decide) (fun c9 => absurd c9 (by omega)) (fun c9 => ?_)
  refine lv_iload hx hb d_Model_reckon_12 (lv_at hl 6 rfl) ?_
  refine lv_iload hx hb d_Model_reckon_14 (lv_at hl 5 rfl) ?_
  refine n_isub hx hb (by omega) d_Model_reckon_16 ?_
  refine lv_goto (tgt := 23) hx hb d_Model_reckon_17 (by decide) ?_
  refine lv_istore (lv' := [(7, .int (nI (y1 - y0))), (6, .int (nI 1)), (0, .ref hM), (1, .int (nI 1)), (2, .int (nI x0)), (3, .int (nI x1)), (4, .int (nI y0)), (5, .int (nI y1))]) hx hb d_Model_reckon_23 hl (by decide) rfl (fun ls hl => ?_)
  refine lv_bipush (v := (nI 32)) hx hb d_Model_reckon_25 (by decide) ?_
  refine lv_iload_n hx hb d_Model_reckon_27 rfl (lv_at hl 3 rfl) ?_
  refine n_imul hx hb d_Model_reckon_28 ?_
  refine top_i (show (nI (32 * 1)) = nI 32 from rfl) ?_
  refine lv_istore (lv' := [(8, .int (nI 32)), (7, .int (nI (y1 - y0))), (6, .int (nI 1)), (0, .ref hM), (1, .int (nI 1)), (2, .int (nI x0)), (3, .int (nI x1)), (4, .int (nI y0)), (5, .int (nI y1))]) hx hb d_Model_reckon_29 hl (by decide) rfl (fun ls hl => ?_)
  refine lv_aload_n hx hb d_Model_reckon_31 rfl (lv_at hl 3 rfl) ?_
  refine va_get (D := G) (ci := 10) (v := .ref (aM 31)) (C := R_Model) (T := F_Model) (N := 47) hx hb hts in_Model hown hK hP 0 rfl rfl 31 (by decide) (hts _ fl_Model_85) (fun _ h9 => h9) rfl d_Model_reckon_32 ?_
  refine lv_iload hx hb d_Model_reckon_35 (lv_at hl 0 rfl) ?_
  refine lv_iload hx hb d_Model_reckon_37 (lv_at hl 1 rfl) ?_
  refine n_iadd hx hb d_Model_reckon_39 ?_
  refine lv_lconst (v := iL 0) hx hb d_Model_reckon_40 (by decide) ?_
  refine n_last hx hb hK hP hD hS 3 1 rfl rfl (by omega) (by omega) d_Model_reckon_41 (fun H locs hP hD hS => ?_)
  rw [upd_lF] at hP hD
  have hP : va_P G vwCl [(hM, .inr (10, mO cd st al ac nf ns tl.toNat mg bw md wy sg_ sz_ ks bd aM)), (aM 24, .inl (ty 1, 75625, .inr (.inl (lF vu)))), (aM 25, .inl (ty 0, 75625, .inl (nF cu))), (aM 31, .inl (ty 1, 128, .inr (.inl (lF (va_up re (32 + (y1 - y0)) 0))))), (aM 32, .inl (ty 0, 128, .inl (nF rc))), (aM 20, .inl (ty 2, 65537, .inl (bF gs)))] _ := hP
  have hD : va_D A [(hM, .inr (10, mO cd st al ac nf ns tl.toNat mg bw md wy sg_ sz_ ks bd aM)), (aM 24, .inl (ty 1, 75625, .inr (.inl (lF vu)))), (aM 25, .inl (ty 0, 75625, .inl (nF cu))), (aM 31, .inl (ty 1, 128, .inr (.inl (lF (va_up re (32 + (y1 - y0)) 0))))), (aM 32, .inl (ty 0, 128, .inl (nF rc))), (aM 20, .inl (ty 2, 65537, .inl (bF gs)))] := hD
  refine lv_aload_n hx hb d_Model_reckon_42 rfl (lv_at hl 3 rfl) ?_
  refine va_get (D := G) (ci := 10) (v := .ref (aM 32)) (C := R_Model) (T := F_Model) (N := 47) hx hb hts in_Model hown hK hP 0 rfl rfl 32 (by decide) (hts _ fl_Model_88) (fun _ h9 => h9) rfl d_Model_reckon_43 ?_
  refine lv_iload hx hb d_Model_reckon_46 (lv_at hl 0 rfl) ?_
  refine lv_iload hx hb d_Model_reckon_48 (lv_at hl 1 rfl) ?_
  refine n_iadd hx hb d_Model_reckon_50 ?_
  refine lv_iconst (v := (nI 0)) hx hb d_Model_reckon_51 (by decide) ?_
  refine n_iast hx hb hK hP hD hS 4 0 rfl rfl (by omega) (by omega) d_Model_reckon_52 (fun H locs hP hD hS => ?_)
  rw [upd_nF] at hP hD
  have hP : va_P G vwCl [(hM, .inr (10, mO cd st al ac nf ns tl.toNat mg bw md wy sg_ sz_ ks bd aM)), (aM 24, .inl (ty 1, 75625, .inr (.inl (lF vu)))), (aM 25, .inl (ty 0, 75625, .inl (nF cu))), (aM 31, .inl (ty 1, 128, .inr (.inl (lF (va_up re (32 + (y1 - y0)) 0))))), (aM 32, .inl (ty 0, 128, .inl (nF (va_up rc (32 + (y1 - y0)) 0)))), (aM 20, .inl (ty 2, 65537, .inl (bF gs)))] _ := hP
  have hD : va_D A [(hM, .inr (10, mO cd st al ac nf ns tl.toNat mg bw md wy sg_ sz_ ks bd aM)), (aM 24, .inl (ty 1, 75625, .inr (.inl (lF vu)))), (aM 25, .inl (ty 0, 75625, .inl (nF cu))), (aM 31, .inl (ty 1, 128, .inr (.inl (lF (va_up re (32 + (y1 - y0)) 0))))), (aM 32, .inl (ty 0, 128, .inl (nF (va_up rc (32 + (y1 - y0)) 0)))), (aM 20, .inl (ty 2, 65537, .inl (bF gs)))] := hD
  refine lv_iload hx hb d_Model_reckon_53 (lv_at hl 1 rfl) ?_
  refine lv_iconst (v := (nI 1)) hx hb d_Model_reckon_55 (by decide) ?_
  refine nzz_isub hx hb d_Model_reckon_56 ?_
  refine lv_istore (lv' := [(9, .int (iI ((y1 - y0 : Nat) - ((1 : Nat) : Int)))), (8, .int (nI 32)), (7, .int (nI (y1 - y0))), (6, .int (nI 1)), (0, .ref hM), (1, .int (nI 1)), (2, .int (nI x0)), (3, .int (nI x1)), (4, .int (nI y0)), (5, .int (nI y1))]) hx hb d_Model_reckon_57 hl (by decide) rfl (fun ls hl => ?_)
  have L59 : ∀ (k9 : Nat) (b : Nat) (re2 : Nat → Int) (rc2 : Nat → Nat) (H : Heap) (locs : List Loc) (ls : Array Slot), (b ≤ (y1 - y0)) → (∀ p, b ≤ p → p ≤ (y1 - y0) → rOKr re2 rc2 (fun p9 => dpV (mS vu cu x0 x1) (okc 1 sg_ (fun z9 => decide (1 ≤ z9) && (decide (wy ≠ 0) || (!tl || gs z9)))) (y0 + p9) y1) 32 (x1 - x0) (y1 - y0) p) → (∀ q, q < 32 ∨ 32 + (y1 - y0) < q → re2 q = re q ∧ rc2 q = rc q) → b < k9 → va_P G vwCl [(hM, .inr (10, mO cd st al ac nf ns tl.toNat mg bw md wy sg_ sz_ ks bd aM)), (aM 24, .inl (ty 1, 75625, .inr (.inl (lF vu)))), (aM 25, .inl (ty 0, 75625, .inl (nF cu))), (aM 31, .inl (ty 1, 128, .inr (.inl (lF re2)))), (aM 32, .inl (ty 0, 128, .inl (nF rc2))), (aM 20, .inl (ty 2, 65537, .inl (bF gs)))] H → va_D A [(hM, .inr (10, mO cd st al ac nf ns tl.toNat mg bw md wy sg_ sz_ ks bd aM)), (aM 24, .inl (ty 1, 75625, .inr (.inl (lF vu)))), (aM 25, .inl (ty 0, 75625, .inl (nF cu))), (aM 31, .inl (ty 1, 128, .inr (.inl (lF re2)))), (aM 32, .inl (ty 0, 128, .inl (nF rc2))), (aM 20, .inl (ty 2, 65537, .inl (bF gs)))] → va_S A s.heap H locs → lv_has ls 16 [(0, .ref hM), (1, .int (nI 1)), (2, .int (nI x0)), (3, .int (nI x1)), (4, .int (nI y0)), (5, .int (nI y1)), (6, .int (nI 1)), (7, .int (nI (y1 - y0))), (8, .int (nI 32)), (9, .int (iI (((b : Nat) : Int) - ((1 : Nat) : Int))))] → W p l e { frames := 2, cells := 0, slots := 0, locals := 50 } s m [.ref hM, .int (nI 1), .int (nI x0), .int (nI x1), .int (nI y0), .int (nI y1)].toArray below meth c H locs 0 0 (MQ below (q_reckon10 G ty hM cd st al ac nf ns mg bw md wy sg_ sz_ ks bd aM gs tl x0 x1 y0 y1 vu cu re rc A) [.ref hM, .int (nI 1), .int (nI x0), .int (nI x1), .int (nI y0), .int (nI y1)].toArray s 0 0 A) (F0 m 59 ls []) := by
    intro k9
    induction k9 with
    | zero => intro b re2 rc2 H locs ls hb0 hR hF hk9; exact absurd hk9 (Nat.not_lt_zero _)
    | succ k9 ih59 =>
      intro b re2 rc2 H locs ls hb0 hR hF hk9 hP hD hS hl
      refine lv_iload hx hb d_Model_reckon_59 (lv_at hl 9 rfl) ?_
      refine z_if_lt (tgt := 288) hx hb (by omega) d_Model_reckon_61 (by decide) (fun c61 => ?_) (fun c61 => ?_)
      · exact W.vret hx hb hr (fun t9 ht hW => ⟨⟨(re2, rc2), rfl, ⟨fun p h => hR p (by omega) h, hF⟩, by rw [ht]; exact hP, hD⟩, hS.F ht⟩) hS.2.2 d_Model_reckon_288
      · obtain ⟨b1, rfl⟩ : ∃ b1, b = b1 + 1 := ⟨b - 1, by omega⟩
        have hl : lv_has ls 16 [(0, .ref hM), (1, .int (nI 1)), (2, .int (nI x0)), (3, .int (nI x1)), (4, .int (nI y0)), (5, .int (nI y1)), (6, .int (nI 1)), (7, .int (nI (y1 - y0))), (8, .int (nI 32)), (9, .int (nI b1))] := by rw [show (nI b1) = (iI (((b1 + 1 : Nat) : Int) - ((1 : Nat) : Int))) from by rw [nI_iI]; congr 1; omega]; exact hl
        have hr1 := hR (b1 + 1) (Nat.le_refl _) (by omega)
        have hr11 : 1024 * re2 (32 + (b1 + 1)) - (rc2 (32 + (b1 + 1)) : Int) = dpV (mS vu cu x0 x1) (okc 1 sg_ (fun z9 => decide (1 ≤ z9) && (decide (wy ≠ 0) || (!tl || gs z9)))) (y0 + b1 + 1) y1 := hr1.1
        have hkk := Nat.le_trans hr1.2.1 (Nat.mul_le_mul_left (x1 - x0) (show y1 - y0 - (b1 + 1) ≤ y1 - y0 - b1 by omega))
        refine lv_aload_n hx hb d_Model_reckon_64 rfl (lv_at hl 0 rfl) ?_
        refine va_get (D := G) (ci := 10) (v := .ref (aM 31)) (C := R_Model) (T := F_Model) (N := 47) hx hb hts in_Model hown hK hP 0 rfl rfl 31 (by decide) (hts _ fl_Model_85) (fun _ h9 => h9) rfl d_Model_reckon_65 ?_
        refine lv_iload hx hb d_Model_reckon_68 (lv_at hl 8 rfl) ?_
        refine lv_iload hx hb d_Model_reckon_70 (lv_at hl 9 rfl) ?_
        refine n_iadd hx hb d_Model_reckon_72 ?_
        refine lv_aload_n hx hb d_Model_reckon_73 rfl (lv_at hl 0 rfl) ?_
        refine va_get (D := G) (ci := 10) (v := .ref (aM 31)) (C := R_Model) (T := F_Model) (N := 47) hx hb hts in_Model hown hK hP 0 rfl rfl 31 (by decide) (hts _ fl_Model_85) (fun _ h9 => h9) rfl d_Model_reckon_74 ?_
        refine lv_iload hx hb d_Model_reckon_77 (lv_at hl 8 rfl) ?_
        refine lv_iload hx hb d_Model_reckon_79 (lv_at hl 9 rfl) ?_
        refine n_iadd hx hb d_Model_reckon_81 ?_
        refine lv_iconst (v := (nI 1)) hx hb d_Model_reckon_82 (by decide) ?_
        refine n_iadd hx hb d_Model_reckon_83 ?_
        refine n_lald hx hb hK hP 3 1 rfl rfl (by omega) (by omega) d_Model_reckon_84 ?_
        refine top_l (show (iL (re2 ((32 + b1) + 1))) = (iL (re2 (32 + (b1 + 1)))) from rfl) ?_
        refine n_last hx hb hK hP hD hS 3 1 rfl rfl (by omega) (by omega) d_Model_reckon_85 (fun H locs hP hD hS => ?_)
        rw [upd_lF] at hP hD
        have hP : va_P G vwCl [(hM, .inr (10, mO cd st al ac nf ns tl.toNat mg bw md wy sg_ sz_ ks bd aM)), (aM 24, .inl (ty 1, 75625, .inr (.inl (lF vu)))), (aM 25, .inl (ty 0, 75625, .inl (nF cu))), (aM 31, .inl (ty 1, 128, .inr (.inl (lF (va_up re2 (32 + b1) (re2 (32 + (b1 + 1)))))))), (aM 32, .inl (ty 0, 128, .inl (nF rc2))), (aM 20, .inl (ty 2, 65537, .inl (bF gs)))] _ := hP
        have hD : va_D A [(hM, .inr (10, mO cd st al ac nf ns tl.toNat mg bw md wy sg_ sz_ ks bd aM)), (aM 24, .inl (ty 1, 75625, .inr (.inl (lF vu)))), (aM 25, .inl (ty 0, 75625, .inl (nF cu))), (aM 31, .inl (ty 1, 128, .inr (.inl (lF (va_up re2 (32 + b1) (re2 (32 + (b1 + 1)))))))), (aM 32, .inl (ty 0, 128, .inl (nF rc2))), (aM 20, .inl (ty 2, 65537, .inl (bF gs)))] := hD
        refine lv_aload_n hx hb d_Model_reckon_86 rfl (lv_at hl 0 rfl) ?_
        refine va_get (D := G) (ci := 10) (v := .ref (aM 32)) (C := R_Model) (T := F_Model) (N := 47) hx hb hts in_Model hown hK hP 0 rfl rfl 32 (by decide) (hts _ fl_Model_88) (fun _ h9 => h9) rfl d_Model_reckon_87 ?_
        refine lv_iload hx hb d_Model_reckon_90 (lv_at hl 8 rfl) ?_
        refine lv_iload hx hb d_Model_reckon_92 (lv_at hl 9 rfl) ?_
        refine n_iadd hx hb d_Model_reckon_94 ?_
        refine lv_aload_n hx hb d_Model_reckon_95 rfl (lv_at hl 0 rfl) ?_
        refine va_get (D := G) (ci := 10) (v := .ref (aM 32)) (C := R_Model) (T := F_Model) (N := 47) hx hb hts in_Model hown hK hP 0 rfl rfl 32 (by decide) (hts _ fl_Model_88) (fun _ h9 => h9) rfl d_Model_reckon_96 ?_
        refine lv_iload hx hb d_Model_reckon_99 (lv_at hl 8 rfl) ?_
        refine lv_iload hx hb d_Model_reckon_101 (lv_at hl 9 rfl) ?_
        refine n_iadd hx hb d_Model_reckon_103 ?_
        refine lv_iconst (v := (nI 1)) hx hb d_Model_reckon_104 (by decide) ?_
        refine n_iadd hx hb d_Model_reckon_105 ?_
        refine n_iald hx hb hK hP 4 0 rfl rfl (by omega) (by omega) d_Model_reckon_106 ?_
        refine top_i (show (nI (rc2 ((32 + b1) + 1))) = (nI (rc2 (32 + (b1 + 1)))) from rfl) ?_
        refine n_iast hx hb hK hP hD hS 4 0 rfl rfl (by omega) (by omega) d_Model_reckon_107 (fun H locs hP hD hS => ?_)
        rw [upd_nF] at hP hD
        have hP : va_P G vwCl [(hM, .inr (10, mO cd st al ac nf ns tl.toNat mg bw md wy sg_ sz_ ks bd aM)), (aM 24, .inl (ty 1, 75625, .inr (.inl (lF vu)))), (aM 25, .inl (ty 0, 75625, .inl (nF cu))), (aM 31, .inl (ty 1, 128, .inr (.inl (lF (va_up re2 (32 + b1) (re2 (32 + (b1 + 1)))))))), (aM 32, .inl (ty 0, 128, .inl (nF (va_up rc2 (32 + b1) (rc2 (32 + (b1 + 1))))))), (aM 20, .inl (ty 2, 65537, .inl (bF gs)))] _ := hP
        have hD : va_D A [(hM, .inr (10, mO cd st al ac nf ns tl.toNat mg bw md wy sg_ sz_ ks bd aM)), (aM 24, .inl (ty 1, 75625, .inr (.inl (lF vu)))), (aM 25, .inl (ty 0, 75625, .inl (nF cu))), (aM 31, .inl (ty 1, 128, .inr (.inl (lF (va_up re2 (32 + b1) (re2 (32 + (b1 + 1)))))))), (aM 32, .inl (ty 0, 128, .inl (nF (va_up rc2 (32 + b1) (rc2 (32 + (b1 + 1))))))), (aM 20, .inl (ty 2, 65537, .inl (bF gs)))] := hD
        refine lv_iload hx hb d_Model_reckon_108 (lv_at hl 9 rfl) ?_
        refine lv_iconst (v := (nI 1)) hx hb d_Model_reckon_110 (by decide) ?_
        refine n_iadd hx hb d_Model_reckon_111 ?_
        refine lv_istore (lv' := [(10, .int (nI (b1 + 1))), (0, .ref hM), (1, .int (nI 1)), (2, .int (nI x0)), (3, .int (nI x1)), (4, .int (nI y0)), (5, .int (nI y1)), (6, .int (nI 1)), (7, .int (nI (y1 - y0))), (8, .int (nI 32)), (9, .int (nI b1))]) hx hb d_Model_reckon_112 hl (by decide) rfl (fun ls hl => ?_)
        have L114 : ∀ (k9 : Nat) (n1 : Nat) (va : Int) (ca : Nat) (H : Heap) (locs : List Loc) (ls : Array Slot), (b1 + n1 ≤ (y1 - y0)) → (1024 * va - (ca : Int) = dpS (mS vu cu x0 x1) (okc 1 sg_ (fun z9 => decide (1 ≤ z9) && (decide (wy ≠ 0) || (!tl || gs z9)))) (fun p9 => dpV (mS vu cu x0 x1) (okc 1 sg_ (fun z9 => decide (1 ≤ z9) && (decide (wy ≠ 0) || (!tl || gs z9)))) p9 y1) (y0 + b1) (dpV (mS vu cu x0 x1) (okc 1 sg_ (fun z9 => decide (1 ≤ z9) && (decide (wy ≠ 0) || (!tl || gs z9)))) (y0 + b1 + 1) y1) n1) → (ca ≤ (x1 - x0) * (y1 - y0 - b1)) → (ca = 0 → va = 0) → (y1 - y0) + 1 - (b1 + n1) < k9 → va_P G vwCl [(hM, .inr (10, mO cd st al ac nf ns tl.toNat mg bw md wy sg_ sz_ ks bd aM)), (aM 24, .inl (ty 1, 75625, .inr (.inl (lF vu)))), (aM 25, .inl (ty 0, 75625, .inl (nF cu))), (aM 31, .inl (ty 1, 128, .inr (.inl (lF (va_up re2 (32 + b1) va))))), (aM 32, .inl (ty 0, 128, .inl (nF (va_up rc2 (32 + b1) ca)))), (aM 20, .inl (ty 2, 65537, .inl (bF gs)))] H → va_D A [(hM, .inr (10, mO cd st al ac nf ns tl.toNat mg bw md wy sg_ sz_ ks bd aM)), (aM 24, .inl (ty 1, 75625, .inr (.inl (lF vu)))), (aM 25, .inl (ty 0, 75625, .inl (nF cu))), (aM 31, .inl (ty 1, 128, .inr (.inl (lF (va_up re2 (32 + b1) va))))), (aM 32, .inl (ty 0, 128, .inl (nF (va_up rc2 (32 + b1) ca)))), (aM 20, .inl (ty 2, 65537, .inl (bF gs)))] → va_S A s.heap H locs → lv_has ls 16 [(0, .ref hM), (1, .int (nI 1)), (2, .int (nI x0)), (3, .int (nI x1)), (4, .int (nI y0)), (5, .int (nI y1)), (6, .int (nI 1)), (7, .int (nI (y1 - y0))), (8, .int (nI 32)), (9, .int (nI b1)), (10, .int (nI (b1 + 1 + n1)))] → W p l e { frames := 2, cells := 0, slots := 0, locals := 50 } s m [.ref hM, .int (nI 1), .int (nI x0), .int (nI x1), .int (nI y0), .int (nI y1)].toArray below meth c H locs 0 0 (MQ below (q_reckon10 G ty hM cd st al ac nf ns mg bw md wy sg_ sz_ ks bd aM gs tl x0 x1 y0 y1 vu cu re rc A) [.ref hM, .int (nI 1), .int (nI x0), .int (nI x1), .int (nI y0), .int (nI y1)].toArray s 0 0 A) (F0 m 114 ls []) := by
          intro k9
          induction k9 with
          | zero => intro n1 va ca H locs ls hn1 hE hca h00 hk9; exact absurd hk9 (Nat.not_lt_zero _)
          | succ k9 ih114 =>
            intro n1 va ca H locs ls hn1 hE hca h00 hk9 hP hD hS hl
            refine lv_iload hx hb d_Model_reckon_114 (lv_at hl 10 rfl) ?_
            refine lv_iload hx hb d_Model_reckon_116 (lv_at hl 7 rfl) ?_
            refine n_icmp_gt (tgt := 282) hx hb (by omega) (by omega) d_Model_reckon_118 (by decide) (fun c118 => ?_) (fun c118 => ?_)
            · have hfin : 1024 * va - (ca : Int) = dpV (mS vu cu x0 x1) (okc 1 sg_ (fun z9 => decide (1 ≤ z9) && (decide (wy ≠ 0) || (!tl || gs z9)))) (y0 + b1) y1 := by rw [dpV_step (show y0 + b1 < y1 by omega), show y1 - (y0 + b1) = n1 by omega]; exact hE
              have hR3 : ∀ p, b1 ≤ p → p ≤ (y1 - y0) → rOKr (va_up re2 (32 + b1) va) (va_up rc2 (32 + b1) ca) (fun p9 => dpV (mS vu cu x0 x1) (okc 1 sg_ (fun z9 => decide (1 ≤ z9) && (decide (wy ≠ 0) || (!tl || gs z9)))) (y0 + p9) y1) 32 (x1 - x0) (y1 - y0) p := fun p h1 h2 => (Nat.lt_or_ge b1 p).elim (fun q => rOKr_up (by omega) (hR p (by omega) h2)) (fun q => by rw [show p = b1 from by omega]; exact rOKr_at hfin hca h00)
              have hF3 : ∀ q, q < 32 ∨ 32 + (y1 - y0) < q → (va_up re2 (32 + b1) va) q = re q ∧ (va_up rc2 (32 + b1) ca) q = rc q := fun q hq => ⟨by rw [va_up_ne _ _ (by omega)]; exact (hF q hq).1, by rw [va_up_ne _ _ (by omega)]; exact (hF q hq).2⟩
              refine lv_iinc (v := (iI (((b1 : Nat) : Int) - ((1 : Nat) : Int)))) (lv' := [(9, .int (iI (((b1 : Nat) : Int) - ((1 : Nat) : Int)))), (0, .ref hM), (1, .int (nI 1)), (2, .int (nI x0)), (3, .int (nI x1)), (4, .int (nI y0)), (5, .int (nI y1)), (6, .int (nI 1)), (7, .int (nI (y1 - y0))), (8, .int (nI 32)), (10, .int (nI (b1 + 1 + n1)))]) hx hb d_Model_reckon_282 hl (k := 9) rfl (by rw [nI_iI]; exact iI_add _ _) (by decide) rfl (fun ls hl => ?_)
              refine lv_goto (tgt := 59) hx hb d_Model_reckon_285 (by decide) ?_
              exact ih59 b1 (va_up re2 (32 + b1) va) (va_up rc2 (32 + b1) ca) _ _ _ (by omega) hR3 hF3 (by omega) hP hD hS (lv_sub hl [1, 2, 3, 4, 5, 6, 7, 8, 9, 0] rfl)
            · obtain ⟨at_, eat⟩ : ∃ at_, at_ = ((25 * x0 + x1) * 11 + (y0 + b1)) * 11 + (y0 + (b1 + 1 + n1)) := ⟨_, rfl⟩
              have e1 : y0 + (b1 + 1 + n1) = y0 + b1 + 1 + n1 := by omega
              have hO := gO (y0 + b1) (y0 + b1 + 1 + n1) (by omega) (by omega) (by omega)
              unfold mOK at hO
              rw [← e1, ← eat] at hO
              have hO1 : cu at_ ≤ (x1 - x0) * (n1 + 1) := by have h9 := hO.1; rw [show y0 + (b1 + 1 + n1) - (y0 + b1) = n1 + 1 by omega] at h9; exact h9
              have hO2 := hO.2.1
              have hO3 := hO.2.2
              clear hO
              have hvS : mS vu cu x0 x1 (y0 + b1) (y0 + b1 + 1 + n1) = 1024 * vu at_ - (cu at_ : Int) := by rw [eat, e1]; try rfl
              have hrT := hR (b1 + 1 + n1) (by omega) (by omega)
              have hrT1 : 1024 * re2 (32 + (b1 + 1 + n1)) - (rc2 (32 + (b1 + 1 + n1)) : Int) = dpV (mS vu cu x0 x1) (okc 1 sg_ (fun z9 => decide (1 ≤ z9) && (decide (wy ≠ 0) || (!tl || gs z9)))) (y0 + b1 + 1 + n1) y1 := by have h9 := hrT.1; rw [← e1]; exact h9
              have hrT2 := hrT.2.1
              clear hrT
              have hka : (x1 - x0) * (y1 - y0 - (b1 + 1 + n1)) + (x1 - x0) * (n1 + 1) = (x1 - x0) * (y1 - y0 - b1) := K_add (by omega)
              have hkb := hKn (y1 - y0 - b1) (by omega)
              have hz0 := (hdv (y0 + b1 + 1 + n1) (by omega) (by omega))
              have hat : at_ < 75625 := by rw [eat]; omega
              have hz : dpV (mS vu cu x0 x1) (okc 1 sg_ (fun z9 => decide (1 ≤ z9) && (decide (wy ≠ 0) || (!tl || gs z9)))) (y0 + b1 + 1 + n1) y1 ≤ dpS (mS vu cu x0 x1) (okc 1 sg_ (fun z9 => decide (1 ≤ z9) && (decide (wy ≠ 0) || (!tl || gs z9)))) (fun p9 => dpV (mS vu cu x0 x1) (okc 1 sg_ (fun z9 => decide (1 ≤ z9) && (decide (wy ≠ 0) || (!tl || gs z9)))) p9 y1) (y0 + b1) (dpV (mS vu cu x0 x1) (okc 1 sg_ (fun z9 => decide (1 ≤ z9) && (decide (wy ≠ 0) || (!tl || gs z9)))) (y0 + b1 + 1) y1) n1 := Int.le_trans (dpV_mono n1 (y0 + b1 + 1) (by omega)) (dpS_ge n1)
              have hcu : dpS (mS vu cu x0 x1) (okc 1 sg_ (fun z9 => decide (1 ≤ z9) && (decide (wy ≠ 0) || (!tl || gs z9)))) (fun p9 => dpV (mS vu cu x0 x1) (okc 1 sg_ (fun z9 => decide (1 ≤ z9) && (decide (wy ≠ 0) || (!tl || gs z9)))) p9 y1) (y0 + b1) (dpV (mS vu cu x0 x1) (okc 1 sg_ (fun z9 => decide (1 ≤ z9) && (decide (wy ≠ 0) || (!tl || gs z9)))) (y0 + b1 + 1) y1) n1 ≤ 30000000000000000 := dpS_le n1 (by have := hdv (y0 + b1 + 1) (by omega) (by omega); omega) (fun j hj => by have a1 := mS_le (gO (y0 + b1) (y0 + b1 + 1 + j) (by omega) (by omega) (by omega)); have a2 := hdv (y0 + b1 + 1 + j) (by omega) (by omega); show (mS vu cu x0 x1) (y0 + b1) (y0 + b1 + 1 + j) + dpV (mS vu cu x0 x1) (okc 1 sg_ (fun z9 => decide (1 ≤ z9) && (decide (wy ≠ 0) || (!tl || gs z9)))) (y0 + b1 + 1 + j) y1 ≤ 30000000000000000; have a3 : (mS vu cu x0 x1) (y0 + b1) (y0 + b1 + 1 + j) ≤ 1100000000000000 := a1; omega)
              refine lv_aload_n hx hb d_Model_reckon_121 rfl (lv_at hl 0 rfl) ?_
              refine lv_iload hx hb d_Model_reckon_122 (lv_at hl 6 rfl) ?_
              refine lv_iload_n hx hb d_Model_reckon_124 rfl (lv_at hl 2 rfl) ?_
              refine lv_iload_n hx hb d_Model_reckon_125 rfl (lv_at hl 3 rfl) ?_
              refine lv_iload hx hb d_Model_reckon_126 (lv_at hl 4 rfl) ?_
              refine lv_iload hx hb d_Model_reckon_128 (lv_at hl 5 rfl) ?_
              refine lv_iload hx hb d_Model_reckon_130 (lv_at hl 9 rfl) ?_
              refine lv_iload hx hb d_Model_reckon_132 (lv_at hl 10 rfl) ?_
              refine vp_callSi (W.runV (As := [.int (nI 1), .int (nI x0), .int (nI x1), .int (nI y0), .int (nI y1), .int (nI b1), .int (nI (b1 + 1 + n1))]) (rest := []) ⟨hx, hb, hml, hown, hts⟩ (c_segment1 l G ty hM cd st al ac nf ns tl.toNat mg bw md wy sg_ sz_ ks bd aM x0 x1 y0 y1 b1 (b1 + 1 + n1) ) ⟨callB_of 7 hts (gd_TB cd_Model_segment) rfl rfl rfl (hts _ ini_Model) (hts _ lk_Model_199) hd_Model_segment ⟨Nat.le_of_ble_eq_true rfl, Nat.le_of_ble_eq_true rfl⟩, hts _ im_Model_segment, hts _ sl_Model_segment⟩ (preV_ro (hP.sub (ws' := [(hM, .inr (10, mO cd st al ac nf ns tl.toNat mg bw md wy sg_ sz_ ks bd aM))]) [0] rfl) hX 0 rfl rfl) rfl rfl hl.1 rfl (lv_room (Nat.le_of_ble_eq_true rfl)) d_Model_reckon_134 ⟨Nat.le_of_ble_eq_true rfl, Nat.le_of_ble_eq_true rfl⟩) (fun r9 er9 => ?_)
              subst er9
              refine top_i (show (nI (((25 * x0 + x1) * 11 + (y0 + b1)) * 11 + (y0 + (b1 + 1 + n1)))) = (nI at_) from congrArg nI eat.symm) ?_
              refine lv_istore (lv' := [(11, .int (nI at_)), (0, .ref hM), (1, .int (nI 1)), (2, .int (nI x0)), (3, .int (nI x1)), (4, .int (nI y0)), (5, .int (nI y1)), (6, .int (nI 1)), (7, .int (nI (y1 - y0))), (8, .int (nI 32)), (9, .int (nI b1)), (10, .int (nI (b1 + 1 + n1)))]) hx hb d_Model_reckon_137 hl (by decide) rfl (fun ls hl => ?_)
              refine lv_aload_n hx hb d_Model_reckon_139 rfl (lv_at hl 1 rfl) ?_
              refine lv_iload_n hx hb d_Model_reckon_140 rfl (lv_at hl 2 rfl) ?_
              refine lv_iconst (v := (nI 1)) hx hb d_Model_reckon_141 (by decide) ?_
              refine n_isub hx hb (by omega) d_Model_reckon_142 ?_
              refine top_i (show (nI (1 - 1)) = nI 0 from rfl) ?_
              refine lv_iload hx hb d_Model_reckon_143 (lv_at hl 0 rfl) ?_
              refine vp_callSi (W.runV (As := [.int (nI 0), .int (nI at_)]) (rest := []) ⟨hx, hb, hml, hown, hts⟩ (c_countBy0 l G ty hM cd st al ac nf ns tl.toNat mg bw md wy sg_ sz_ ks bd aM at_ cu (by omega)) ⟨callB_of 2 hts (gd_TB cd_Model_countBy) rfl rfl rfl (hts _ ini_Model) (hts _ lk_Model_203) hd_Model_countBy ⟨Nat.le_of_ble_eq_true rfl, Nat.le_of_ble_eq_true rfl⟩, hts _ im_Model_countBy, hts _ sl_Model_countBy⟩ (preV_ro (hP.sub (ws' := [(hM, .inr (10, mO cd st al ac nf ns tl.toNat mg bw md wy sg_ sz_ ks bd aM)), (aM 25, .inl (ty 0, 75625, .inl (nF cu)))]) [0, 2] rfl) hX 0 rfl rfl) rfl rfl hl.1 rfl (lv_room (Nat.le_of_ble_eq_true rfl)) d_Model_reckon_145 ⟨Nat.le_of_ble_eq_true rfl, Nat.le_of_ble_eq_true rfl⟩) (fun r9 er9 => ?_)
              subst er9
              refine lv_istore (lv' := [(12, .int (nI (cu at_))), (11, .int (nI at_)), (0, .ref hM), (1, .int (nI 1)), (2, .int (nI x0)), (3, .int (nI x1)), (4, .int (nI y0)), (5, .int (nI y1)), (6, .int (nI 1)), (7, .int (nI (y1 - y0))), (8, .int (nI 32)), (9, .int (nI b1)), (10, .int (nI (b1 + 1 + n1)))]) hx hb d_Model_reckon_148 hl (by decide) rfl (fun ls hl => ?_)
              refine lv_iload hx hb d_Model_reckon_150 (lv_at hl 0 rfl) ?_
              refine n_if_le (tgt := 276) hx hb (by omega) d_Model_reckon_152 (by decide) (fun c152 => ?_) (fun c152 => ?_)
              · have hE2 : 1024 * va - (ca : Int) = dpS (mS vu cu x0 x1) (okc 1 sg_ (fun z9 => decide (1 ≤ z9) && (decide (wy ≠ 0) || (!tl || gs z9)))) (fun p9 => dpV (mS vu cu x0 x1) (okc 1 sg_ (fun z9 => decide (1 ≤ z9) && (decide (wy ≠ 0) || (!tl || gs z9)))) p9 y1) (y0 + b1) (dpV (mS vu cu x0 x1) (okc 1 sg_ (fun z9 => decide (1 ≤ z9) && (decide (wy ≠ 0) || (!tl || gs z9)))) (y0 + b1 + 1) y1) (n1 + 1) := by rw [dpS_s, if_neg]; exact hE; intro hh; first | omega | exact absurd hh.2.2 (by rw [show (okc 1 sg_ (fun z9 => decide (1 ≤ z9) && (decide (wy ≠ 0) || (!tl || gs z9)))) (n1 + 1) = false from tN_0 c165]; decide)
                have hc2 := hca
                have h02 := h00
                refine lv_iinc (v := (nI ((b1 + 1 + n1) + 1))) (lv' := [(10, .int (nI ((b1 + 1 + n1) + 1))), (12, .int (nI (cu at_))), (11, .int (nI at_)), (0, .ref hM), (1, .int (nI 1)), (2, .int (nI x0)), (3, .int (nI x1)), (4, .int (nI y0)), (5, .int (nI y1)), (6, .int (nI 1)), (7, .int (nI (y1 - y0))), (8, .int (nI 32)), (9, .int (nI b1))]) hx hb d_Model_reckon_276 hl (k := 12) rfl (nI_inc _ _ _ (by omega)) (by decide) rfl (fun ls hl => ?_)
                refine lv_goto (tgt := 114) hx hb d_Model_reckon_279 (by decide) ?_
                exact ih114 (n1 + 1) va ca _ _ _ (by omega) hE2 hc2 h02 (by omega) hP hD hS (lv_sub hl [3, 4, 5, 6, 7, 8, 9, 10, 11, 12, 0] rfl)
              · refine lv_aload_n hx hb d_Model_reckon_155 rfl (lv_at hl 2 rfl) ?_
                refine lv_iload_n hx hb d_Model_reckon_156 rfl (lv_at hl 3 rfl) ?_
                refine lv_iload hx hb d_Model_reckon_157 (lv_at hl 12 rfl) ?_
                refine lv_iload hx hb d_Model_reckon_159 (lv_at hl 11 rfl) ?_
                refine n_isub hx hb (by omega) d_Model_reckon_161 ?_
                refine top_i (show (nI ((b1 + 1 + n1) - b1)) = (nI (n1 + 1)) from congrArg nI (by omega)) ?_
                refine vp_callSi (W.runV (As := [.int (nI 1), .int (nI (n1 + 1))]) (rest := []) ⟨hx, hb, hml, hown, hts⟩ (c_Model_isCut l G ty hM cd st al ac nf ns 0 mg bw md wy sg_ sz_ ks bd aM 1 (n1 + 1) gs tl (by omega) (by omega) (by omega) (by omega) (by omega)) ⟨callB_of 2 hts (gd_TB cd_Model_isCut) rfl rfl rfl (hts _ ini_Model) (hts _ lk_Model_207) hd_Model_isCut ⟨Nat.le_of_ble_eq_true rfl, Nat.le_of_ble_eq_true rfl⟩, hts _ im_Model_isCut, hts _ sl_Model_isCut⟩ (preV_ro (hP.sub (ws' := [(hM, .inr (10, mO cd st al ac nf ns tl.toNat mg bw md wy sg_ sz_ ks bd aM)), (aM 20, .inl (ty 2, 65537, .inl (bF gs)))]) [0, 5] rfl) hX 0 rfl rfl) rfl rfl hl.1 rfl (lv_room (Nat.le_of_ble_eq_true rfl)) d_Model_reckon_162 ⟨Nat.le_of_ble_eq_true rfl, Nat.le_of_ble_eq_true rfl⟩) (fun r9 er9 => ?_)
                subst er9
                refine n_if_eq (tgt := 276) hx hb (tN_lt _) d_Model_reckon_165 (by decide) (fun c165 => ?_) (fun c165 => ?_)
                · have hE2 : 1024 * va - (ca : Int) = dpS (mS vu cu x0 x1) (okc 1 sg_ (fun z9 => decide (1 ≤ z9) && (decide (wy ≠ 0) || (!tl || gs z9)))) (fun p9 => dpV (mS vu cu x0 x1) (okc 1 sg_ (fun z9 => decide (1 ≤ z9) && (decide (wy ≠ 0) || (!tl || gs z9)))) p9 y1) (y0 + b1) (dpV (mS vu cu x0 x1) (okc 1 sg_ (fun z9 => decide (1 ≤ z9) && (decide (wy ≠ 0) || (!tl || gs z9)))) (y0 + b1 + 1) y1) (n1 + 1) := by rw [dpS_s, if_neg]; exact hE; intro hh; first | omega | exact absurd hh.2.2 (by rw [show (okc 1 sg_ (fun z9 => decide (1 ≤ z9) && (decide (wy ≠ 0) || (!tl || gs z9)))) (n1 + 1) = false from tN_0 c165]; decide)
                  have hc2 := hca
                  have h02 := h00
                  refine lv_iinc (v := (nI ((b1 + 1 + n1) + 1))) (lv' := [(10, .int (nI ((b1 + 1 + n1) + 1))), (12, .int (nI (cu at_))), (11, .int (nI at_)), (0, .ref hM), (1, .int (nI 1)), (2, .int (nI x0)), (3, .int (nI x1)), (4, .int (nI y0)), (5, .int (nI y1)), (6, .int (nI 1)), (7, .int (nI (y1 - y0))), (8, .int (nI 32)), (9, .int (nI b1))]) hx hb d_Model_reckon_276 hl (k := 12) rfl (nI_inc _ _ _ (by omega)) (by decide) rfl (fun ls hl => ?_)
                  refine lv_goto (tgt := 114) hx hb d_Model_reckon_279 (by decide) ?_
                  exact ih114 (n1 + 1) va ca _ _ _ (by omega) hE2 hc2 h02 (by omega) hP hD hS (lv_sub hl [3, 4, 5, 6, 7, 8, 9, 10, 11, 12, 0] rfl)
                · refine lv_aload_n hx hb d_Model_reckon_168 rfl (lv_at hl 2 rfl) ?_
                  refine va_get (D := G) (ci := 10) (v := .ref (aM 31)) (C := R_Model) (T := F_Model) (N := 47) hx hb hts in_Model hown hK hP 0 rfl rfl 31 (by decide) (hts _ fl_Model_85) (fun _ h9 => h9) rfl d_Model_reckon_169 ?_
                  refine lv_iload hx hb d_Model_reckon_172 (lv_at hl 10 rfl) ?_
                  refine lv_iload hx hb d_Model_reckon_174 (lv_at hl 12 rfl) ?_
                  refine n_iadd hx hb d_Model_reckon_176 ?_
                  refine n_lald hx hb hK hP 3 1 rfl rfl (by omega) (by omega) d_Model_reckon_177 ?_
                  refine top_l (show (iL ((va_up re2 (32 + b1) va) (32 + (b1 + 1 + n1)))) = (iL (re2 (32 + (b1 + 1 + n1)))) from congrArg iL (va_up_ne _ _ (by omega))) ?_
                  refine lv_aload_n hx hb d_Model_reckon_178 rfl (lv_at hl 2 rfl) ?_
                  refine lv_iload_n hx hb d_Model_reckon_179 rfl (lv_at hl 3 rfl) ?_
                  refine lv_iconst (v := (nI 1)) hx hb d_Model_reckon_180 (by decide) ?_
                  refine n_isub hx hb (by omega) d_Model_reckon_181 ?_
                  refine top_i (show (nI (1 - 1)) = nI 0 from rfl) ?_
                  refine lv_iload hx hb d_Model_reckon_182 (lv_at hl 1 rfl) ?_
                  refine vp_callSl (W.runV (As := [.int (nI 0), .int (nI at_)]) (rest := [.long (iL (re2 (32 + (b1 + 1 + n1))))]) ⟨hx, hb, hml, hown, hts⟩ (c_valueBy0 l G ty hM cd st al ac nf ns tl.toNat mg bw md wy sg_ sz_ ks bd aM at_ vu (by omega)) ⟨callB_of 2 hts (gd_TB cd_Model_valueBy) rfl rfl rfl (hts _ ini_Model) (hts _ lk_Model_211) hd_Model_valueBy ⟨Nat.le_of_ble_eq_true rfl, Nat.le_of_ble_eq_true rfl⟩, hts _ im_Model_valueBy, hts _ sl_Model_valueBy⟩ (preV_ro (hP.sub (ws' := [(hM, .inr (10, mO cd st al ac nf ns tl.toNat mg bw md wy sg_ sz_ ks bd aM)), (aM 24, .inl (ty 1, 75625, .inr (.inl (lF vu))))]) [0, 1] rfl) hX 0 rfl rfl) rfl rfl hl.1 rfl (lv_room (Nat.le_of_ble_eq_true rfl)) d_Model_reckon_184 ⟨Nat.le_of_ble_eq_true rfl, Nat.le_of_ble_eq_true rfl⟩) (fun r9 er9 => ?_)
                  subst er9
                  refine z_ladd hx hb d_Model_reckon_187 ?_
                  refine lv_lstore (lv' := [(13, .long (iL ((re2 (32 + (b1 + 1 + n1))) + (vu at_)))), (12, .int (nI (cu at_))), (11, .int (nI at_)), (0, .ref hM), (1, .int (nI 1)), (2, .int (nI x0)), (3, .int (nI x1)), (4, .int (nI y0)), (5, .int (nI y1)), (6, .int (nI 1)), (7, .int (nI (y1 - y0))), (8, .int (nI 32)), (9, .int (nI b1)), (10, .int (nI (b1 + 1 + n1)))]) hx hb d_Model_reckon_188 hl (by decide) rfl (fun ls hl => ?_)
                  refine lv_aload_n hx hb d_Model_reckon_190 rfl (lv_at hl 3 rfl) ?_
                  refine va_get (D := G) (ci := 10) (v := .ref (aM 32)) (C := R_Model) (T := F_Model) (N := 47) hx hb hts in_Model hown hK hP 0 rfl rfl 32 (by decide) (hts _ fl_Model_88) (fun _ h9 => h9) rfl d_Model_reckon_191 ?_
                  refine lv_iload hx hb d_Model_reckon_194 (lv_at hl 11 rfl) ?_
                  refine lv_iload hx hb d_Model_reckon_196 (lv_at hl 13 rfl) ?_
                  refine n_iadd hx hb d_Model_reckon_198 ?_
                  refine n_iald hx hb hK hP 4 0 rfl rfl (by omega) (by omega) d_Model_reckon_199 ?_
                  refine top_i (show (nI ((va_up rc2 (32 + b1) ca) (32 + (b1 + 1 + n1)))) = (nI (rc2 (32 + (b1 + 1 + n1)))) from congrArg nI (va_up_ne _ _ (by omega))) ?_
                  refine lv_iload hx hb d_Model_reckon_200 (lv_at hl 1 rfl) ?_
                  refine n_iadd hx hb d_Model_reckon_202 ?_
                  refine lv_istore (lv' := [(15, .int (nI ((rc2 (32 + (b1 + 1 + n1))) + (cu at_)))), (13, .long (iL ((re2 (32 + (b1 + 1 + n1))) + (vu at_)))), (12, .int (nI (cu at_))), (11, .int (nI at_)), (0, .ref hM), (1, .int (nI 1)), (2, .int (nI x0)), (3, .int (nI x1)), (4, .int (nI y0)), (5, .int (nI y1)), (6, .int (nI 1)), (7, .int (nI (y1 - y0))), (8, .int (nI 32)), (9, .int (nI b1)), (10, .int (nI (b1 + 1 + n1)))]) hx hb d_Model_reckon_203 hl (by decide) rfl (fun ls hl => ?_)
                  refine lv_lload hx hb d_Model_reckon_205 (lv_at hl 1 rfl) ?_
                  refine lv_aload_n hx hb d_Model_reckon_207 rfl (lv_at hl 4 rfl) ?_
                  refine va_get (D := G) (ci := 10) (v := .ref (aM 31)) (C := R_Model) (T := F_Model) (N := 47) hx hb hts in_Model hown hK hP 0 rfl rfl 31 (by decide) (hts _ fl_Model_85) (fun _ h9 => h9) rfl d_Model_reckon_208 ?_
                  refine lv_iload hx hb d_Model_reckon_211 (lv_at hl 12 rfl) ?_
                  refine lv_iload hx hb d_Model_reckon_213 (lv_at hl 13 rfl) ?_
                  refine n_iadd hx hb d_Model_reckon_215 ?_
                  refine n_lald hx hb hK hP 3 1 rfl rfl (by omega) (by omega) d_Model_reckon_216 ?_
                  refine top_l (show (iL ((va_up re2 (32 + b1) va) (32 + b1))) = (iL va) from congrArg iL (va_up_self _ _ _)) ?_
                  refine l_cmp_gt (tgt := 252) hx hb (by omega) (by omega) d_Model_reckon_217 d_Model_reckon_218 (by decide) (fun c217 => ?_) (fun c217 => ?_)
                  · refine lv_aload_n hx hb d_Model_reckon_252 rfl (lv_at hl 4 rfl) ?_
                    refine va_get (D := G) (ci := 10) (v := .ref (aM 31)) (C := R_Model) (T := F_Model) (N := 47) hx hb hts in_Model hown hK hP 0 rfl rfl 31 (by decide) (hts _ fl_Model_85) (fun _ h9 => h9) rfl d_Model_reckon_253 ?_
                    refine lv_iload hx hb d_Model_reckon_256 (lv_at hl 12 rfl) ?_
                    refine lv_iload hx hb d_Model_reckon_258 (lv_at hl 13 rfl) ?_
                    refine n_iadd hx hb d_Model_reckon_260 ?_
                    refine lv_lload hx hb d_Model_reckon_261 (lv_at hl 1 rfl) ?_
                    refine n_last hx hb hK hP hD hS 3 1 rfl rfl (by omega) (by omega) d_Model_reckon_263 (fun H locs hP hD hS => ?_)
                    rw [upd_lF] at hP hD
                    have hP : va_P G vwCl [(hM, .inr (10, mO cd st al ac nf ns tl.toNat mg bw md wy sg_ sz_ ks bd aM)), (aM 24, .inl (ty 1, 75625, .inr (.inl (lF vu)))), (aM 25, .inl (ty 0, 75625, .inl (nF cu))), (aM 31, .inl (ty 1, 128, .inr (.inl (lF (va_up (va_up re2 (32 + b1) va) (32 + b1) ((re2 (32 + (b1 + 1 + n1))) + (vu at_))))))), (aM 32, .inl (ty 0, 128, .inl (nF (va_up rc2 (32 + b1) ca)))), (aM 20, .inl (ty 2, 65537, .inl (bF gs)))] _ := hP
                    have hD : va_D A [(hM, .inr (10, mO cd st al ac nf ns tl.toNat mg bw md wy sg_ sz_ ks bd aM)), (aM 24, .inl (ty 1, 75625, .inr (.inl (lF vu)))), (aM 25, .inl (ty 0, 75625, .inl (nF cu))), (aM 31, .inl (ty 1, 128, .inr (.inl (lF (va_up (va_up re2 (32 + b1) va) (32 + b1) ((re2 (32 + (b1 + 1 + n1))) + (vu at_))))))), (aM 32, .inl (ty 0, 128, .inl (nF (va_up rc2 (32 + b1) ca)))), (aM 20, .inl (ty 2, 65537, .inl (bF gs)))] := hD
                    refine lv_aload_n hx hb d_Model_reckon_264 rfl (lv_at hl 4 rfl) ?_
                    refine va_get (D := G) (ci := 10) (v := .ref (aM 32)) (C := R_Model) (T := F_Model) (N := 47) hx hb hts in_Model hown hK hP 0 rfl rfl 32 (by decide) (hts _ fl_Model_88) (fun _ h9 => h9) rfl d_Model_reckon_265 ?_
                    refine lv_iload hx hb d_Model_reckon_268 (lv_at hl 12 rfl) ?_
                    refine lv_iload hx hb d_Model_reckon_270 (lv_at hl 13 rfl) ?_
                    refine n_iadd hx hb d_Model_reckon_272 ?_
                    refine lv_iload hx hb d_Model_reckon_273 (lv_at hl 0 rfl) ?_
                    refine n_iast hx hb hK hP hD hS 4 0 rfl rfl (by omega) (by omega) d_Model_reckon_275 (fun H locs hP hD hS => ?_)
                    rw [upd_nF] at hP hD
                    have hP : va_P G vwCl [(hM, .inr (10, mO cd st al ac nf ns tl.toNat mg bw md wy sg_ sz_ ks bd aM)), (aM 24, .inl (ty 1, 75625, .inr (.inl (lF vu)))), (aM 25, .inl (ty 0, 75625, .inl (nF cu))), (aM 31, .inl (ty 1, 128, .inr (.inl (lF (va_up (va_up re2 (32 + b1) va) (32 + b1) ((re2 (32 + (b1 + 1 + n1))) + (vu at_))))))), (aM 32, .inl (ty 0, 128, .inl (nF (va_up (va_up rc2 (32 + b1) ca) (32 + b1) ((rc2 (32 + (b1 + 1 + n1))) + (cu at_)))))), (aM 20, .inl (ty 2, 65537, .inl (bF gs)))] _ := hP
                    have hD : va_D A [(hM, .inr (10, mO cd st al ac nf ns tl.toNat mg bw md wy sg_ sz_ ks bd aM)), (aM 24, .inl (ty 1, 75625, .inr (.inl (lF vu)))), (aM 25, .inl (ty 0, 75625, .inl (nF cu))), (aM 31, .inl (ty 1, 128, .inr (.inl (lF (va_up (va_up re2 (32 + b1) va) (32 + b1) ((re2 (32 + (b1 + 1 + n1))) + (vu at_))))))), (aM 32, .inl (ty 0, 128, .inl (nF (va_up (va_up rc2 (32 + b1) ca) (32 + b1) ((rc2 (32 + (b1 + 1 + n1))) + (cu at_)))))), (aM 20, .inl (ty 2, 65537, .inl (bF gs)))] := hD
                    have hP : va_P G vwCl [(hM, .inr (10, mO cd st al ac nf ns tl.toNat mg bw md wy sg_ sz_ ks bd aM)), (aM 24, .inl (ty 1, 75625, .inr (.inl (lF vu)))), (aM 25, .inl (ty 0, 75625, .inl (nF cu))), (aM 31, .inl (ty 1, 128, .inr (.inl (lF (va_up re2 (32 + b1) (re2 (32 + (b1 + 1 + n1)) + vu at_)))))), (aM 32, .inl (ty 0, 128, .inl (nF (va_up rc2 (32 + b1) (rc2 (32 + (b1 + 1 + n1)) + cu at_))))), (aM 20, .inl (ty 2, 65537, .inl (bF gs)))] H := by rw [va_up_up, va_up_up] at hP; exact hP
                    have hD : va_D A [(hM, .inr (10, mO cd st al ac nf ns tl.toNat mg bw md wy sg_ sz_ ks bd aM)), (aM 24, .inl (ty 1, 75625, .inr (.inl (lF vu)))), (aM 25, .inl (ty 0, 75625, .inl (nF cu))), (aM 31, .inl (ty 1, 128, .inr (.inl (lF (va_up re2 (32 + b1) (re2 (32 + (b1 + 1 + n1)) + vu at_)))))), (aM 32, .inl (ty 0, 128, .inl (nF (va_up rc2 (32 + b1) (rc2 (32 + (b1 + 1 + n1)) + cu at_))))), (aM 20, .inl (ty 2, 65537, .inl (bF gs)))] := by rw [va_up_up, va_up_up] at hD; exact hD
                    have hE2 : 1024 * (re2 (32 + (b1 + 1 + n1)) + vu at_) - ((rc2 (32 + (b1 + 1 + n1)) + cu at_ : Nat) : Int) = dpS (mS vu cu x0 x1) (okc 1 sg_ (fun z9 => decide (1 ≤ z9) && (decide (wy ≠ 0) || (!tl || gs z9)))) (fun p9 => dpV (mS vu cu x0 x1) (okc 1 sg_ (fun z9 => decide (1 ≤ z9) && (decide (wy ≠ 0) || (!tl || gs z9)))) p9 y1) (y0 + b1) (dpV (mS vu cu x0 x1) (okc 1 sg_ (fun z9 => decide (1 ≤ z9) && (decide (wy ≠ 0) || (!tl || gs z9)))) (y0 + b1 + 1) y1) (n1 + 1) := by rw [dpS_s, if_pos ⟨by omega, by omega, tN_1 c165⟩]; omega
                    have hc2 : rc2 (32 + (b1 + 1 + n1)) + cu at_ ≤ (x1 - x0) * (y1 - y0 - b1) := by omega
                    have h02 : rc2 (32 + (b1 + 1 + n1)) + cu at_ = 0 → re2 (32 + (b1 + 1 + n1)) + vu at_ = 0 := by omega
                    refine lv_iinc (v := (nI ((b1 + 1 + n1) + 1))) (lv' := [(10, .int (nI ((b1 + 1 + n1) + 1))), (15, .int (nI ((rc2 (32 + (b1 + 1 + n1))) + (cu at_)))), (13, .long (iL ((re2 (32 + (b1 + 1 + n1))) + (vu at_)))), (12, .int (nI (cu at_))), (11, .int (nI at_)), (0, .ref hM), (1, .int (nI 1)), (2, .int (nI x0)), (3, .int (nI x1)), (4, .int (nI y0)), (5, .int (nI y1)), (6, .int (nI 1)), (7, .int (nI (y1 - y0))), (8, .int (nI 32)), (9, .int (nI b1))]) hx hb d_Model_reckon_276 hl (k := 14) rfl (nI_inc _ _ _ (by omega)) (by decide) rfl (fun ls hl => ?_)
                    refine lv_goto (tgt := 114) hx hb d_Model_reckon_279 (by decide) ?_
                    exact ih114 (n1 + 1) (re2 (32 + (b1 + 1 + n1)) + vu at_) (rc2 (32 + (b1 + 1 + n1)) + cu at_) _ _ _ (by omega) hE2 hc2 h02 (by omega) hP hD hS (lv_sub hl [5, 6, 7, 8, 9, 10, 11, 12, 13, 14, 0] rfl)
                  · refine lv_lload hx hb d_Model_reckon_221 (lv_at hl 1 rfl) ?_
                    refine lv_aload_n hx hb d_Model_reckon_223 rfl (lv_at hl 4 rfl) ?_
                    refine va_get (D := G) (ci := 10) (v := .ref (aM 31)) (C := R_Model) (T := F_Model) (N := 47) hx hb hts in_Model hown hK hP 0 rfl rfl 31 (by decide) (hts _ fl_Model_85) (fun _ h9 => h9) rfl d_Model_reckon_224 ?_
                    refine lv_iload hx hb d_Model_reckon_227 (lv_at hl 12 rfl) ?_
                    refine lv_iload hx hb d_Model_reckon_229 (lv_at hl 13 rfl) ?_
                    refine n_iadd hx hb d_Model_reckon_231 ?_
                    refine n_lald hx hb hK hP 3 1 rfl rfl (by omega) (by omega) d_Model_reckon_232 ?_
                    refine top_l (show (iL ((va_up re2 (32 + b1) va) (32 + b1))) = (iL va) from congrArg iL (va_up_self _ _ _)) ?_
                    refine l_cmp_ne (tgt := 276) hx hb (by omega) (by omega) d_Model_reckon_233 d_Model_reckon_234 (by decide) (fun c233 => ?_) (fun c233 => ?_)
                    · have hE2 : 1024 * va - (ca : Int) = dpS (mS vu cu x0 x1) (okc 1 sg_ (fun z9 => decide (1 ≤ z9) && (decide (wy ≠ 0) || (!tl || gs z9)))) (fun p9 => dpV (mS vu cu x0 x1) (okc 1 sg_ (fun z9 => decide (1 ≤ z9) && (decide (wy ≠ 0) || (!tl || gs z9)))) p9 y1) (y0 + b1) (dpV (mS vu cu x0 x1) (okc 1 sg_ (fun z9 => decide (1 ≤ z9) && (decide (wy ≠ 0) || (!tl || gs z9)))) (y0 + b1 + 1) y1) (n1 + 1) := by rw [dpS_s, if_neg]; exact hE; intro hh; first | omega | exact absurd hh.2.2 (by rw [show (okc 1 sg_ (fun z9 => decide (1 ≤ z9) && (decide (wy ≠ 0) || (!tl || gs z9)))) (n1 + 1) = false from tN_0 c165]; decide)
                      have hc2 := hca
                      have h02 := h00
                      refine lv_iinc (v := (nI ((b1 + 1 + n1) + 1))) (lv' := [(10, .int (nI ((b1 + 1 + n1) + 1))), (15, .int (nI ((rc2 (32 + (b1 + 1 + n1))) + (cu at_)))), (13, .long (iL ((re2 (32 + (b1 + 1 + n1))) + (vu at_)))), (12, .int (nI (cu at_))), (11, .int (nI at_)), (0, .ref hM), (1, .int (nI 1)), (2, .int (nI x0)), (3, .int (nI x1)), (4, .int (nI y0)), (5, .int (nI y1)), (6, .int (nI 1)), (7, .int (nI (y1 - y0))), (8, .int (nI 32)), (9, .int (nI b1))]) hx hb d_Model_reckon_276 hl (k := 14) rfl (nI_inc _ _ _ (by omega)) (by decide) rfl (fun ls hl => ?_)
                      refine lv_goto (tgt := 114) hx hb d_Model_reckon_279 (by decide) ?_
                      exact ih114 (n1 + 1) va ca _ _ _ (by omega) hE2 hc2 h02 (by omega) hP hD hS (lv_sub hl [5, 6, 7, 8, 9, 10, 11, 12, 13, 14, 0] rfl)
                    · refine lv_iload hx hb d_Model_reckon_237 (lv_at hl 0 rfl) ?_
                      refine lv_aload_n hx hb d_Model_reckon_239 rfl (lv_at hl 4 rfl) ?_
                      refine va_get (D := G) (ci := 10) (v := .ref (aM 32)) (C := R_Model) (T := F_Model) (N := 47) hx hb hts in_Model hown hK hP 0 rfl rfl 32 (by decide) (hts _ fl_Model_88) (fun _ h9 => h9) rfl d_Model_reckon_240 ?_
                      refine lv_iload hx hb d_Model_reckon_243 (lv_at hl 12 rfl) ?_
                      refine lv_iload hx hb d_Model_reckon_245 (lv_at hl 13 rfl) ?_
                      refine n_iadd hx hb d_Model_reckon_247 ?_
                      refine n_iald hx hb hK hP 4 0 rfl rfl (by omega) (by omega) d_Model_reckon_248 ?_
                      refine top_i (show (nI ((va_up rc2 (32 + b1) ca) (32 + b1))) = (nI ca) from congrArg nI (va_up_self _ _ _)) ?_
                      refine n_icmp_ge (tgt := 276) hx hb (by omega) (by omega) d_Model_reckon_249 (by decide) (fun c249 => ?_) (fun c249 => ?_)
                      · have hE2 : 1024 * va - (ca : Int) = dpS (mS vu cu x0 x1) (okc 1 sg_ (fun z9 => decide (1 ≤ z9) && (decide (wy ≠ 0) || (!tl || gs z9)))) (fun p9 => dpV (mS vu cu x0 x1) (okc 1 sg_ (fun z9 => decide (1 ≤ z9) && (decide (wy ≠ 0) || (!tl || gs z9)))) p9 y1) (y0 + b1) (dpV (mS vu cu x0 x1) (okc 1 sg_ (fun z9 => decide (1 ≤ z9) && (decide (wy ≠ 0) || (!tl || gs z9)))) (y0 + b1 + 1) y1) (n1 + 1) := by rw [dpS_s, if_neg]; exact hE; intro hh; first | omega | exact absurd hh.2.2 (by rw [show (okc 1 sg_ (fun z9 => decide (1 ≤ z9) && (decide (wy ≠ 0) || (!tl || gs z9)))) (n1 + 1) = false from tN_0 c165]; decide)
                        have hc2 := hca
                        have h02 := h00
                        refine lv_iinc (v := (nI ((b1 + 1 + n1) + 1))) (lv' := [(10, .int (nI ((b1 + 1 + n1) + 1))), (15, .int (nI ((rc2 (32 + (b1 + 1 + n1))) + (cu at_)))), (13, .long (iL ((re2 (32 + (b1 + 1 + n1))) + (vu at_)))), (12, .int (nI (cu at_))), (11, .int (nI at_)), (0, .ref hM), (1, .int (nI 1)), (2, .int (nI x0)), (3, .int (nI x1)), (4, .int (nI y0)), (5, .int (nI y1)), (6, .int (nI 1)), (7, .int (nI (y1 - y0))), (8, .int (nI 32)), (9, .int (nI b1))]) hx hb d_Model_reckon_276 hl (k := 14) rfl (nI_inc _ _ _ (by omega)) (by decide) rfl (fun ls hl => ?_)
                        refine lv_goto (tgt := 114) hx hb d_Model_reckon_279 (by decide) ?_
                        exact ih114 (n1 + 1) va ca _ _ _ (by omega) hE2 hc2 h02 (by omega) hP hD hS (lv_sub hl [5, 6, 7, 8, 9, 10, 11, 12, 13, 14, 0] rfl)
                      · refine lv_aload_n hx hb d_Model_reckon_252 rfl (lv_at hl 4 rfl) ?_
                        refine va_get (D := G) (ci := 10) (v := .ref (aM 31)) (C := R_Model) (T := F_Model) (N := 47) hx hb hts in_Model hown hK hP 0 rfl rfl 31 (by decide) (hts _ fl_Model_85) (fun _ h9 => h9) rfl d_Model_reckon_253 ?_
                        refine lv_iload hx hb d_Model_reckon_256 (lv_at hl 12 rfl) ?_
                        refine lv_iload hx hb d_Model_reckon_258 (lv_at hl 13 rfl) ?_
                        refine n_iadd hx hb d_Model_reckon_260 ?_
                        refine lv_lload hx hb d_Model_reckon_261 (lv_at hl 1 rfl) ?_
                        refine n_last hx hb hK hP hD hS 3 1 rfl rfl (by omega) (by omega) d_Model_reckon_263 (fun H locs hP hD hS => ?_)
                        rw [upd_lF] at hP hD
                        have hP : va_P G vwCl [(hM, .inr (10, mO cd st al ac nf ns tl.toNat mg bw md wy sg_ sz_ ks bd aM)), (aM 24, .inl (ty 1, 75625, .inr (.inl (lF vu)))), (aM 25, .inl (ty 0, 75625, .inl (nF cu))), (aM 31, .inl (ty 1, 128, .inr (.inl (lF (va_up (va_up re2 (32 + b1) va) (32 + b1) ((re2 (32 + (b1 + 1 + n1))) + (vu at_))))))), (aM 32, .inl (ty 0, 128, .inl (nF (va_up rc2 (32 + b1) ca)))), (aM 20, .inl (ty 2, 65537, .inl (bF gs)))] _ := hP
                        have hD : va_D A [(hM, .inr (10, mO cd st al ac nf ns tl.toNat mg bw md wy sg_ sz_ ks bd aM)), (aM 24, .inl (ty 1, 75625, .inr (.inl (lF vu)))), (aM 25, .inl (ty 0, 75625, .inl (nF cu))), (aM 31, .inl (ty 1, 128, .inr (.inl (lF (va_up (va_up re2 (32 + b1) va) (32 + b1) ((re2 (32 + (b1 + 1 + n1))) + (vu at_))))))), (aM 32, .inl (ty 0, 128, .inl (nF (va_up rc2 (32 + b1) ca)))), (aM 20, .inl (ty 2, 65537, .inl (bF gs)))] := hD
                        refine lv_aload_n hx hb d_Model_reckon_264 rfl (lv_at hl 4 rfl) ?_
                        refine va_get (D := G) (ci := 10) (v := .ref (aM 32)) (C := R_Model) (T := F_Model) (N := 47) hx hb hts in_Model hown hK hP 0 rfl rfl 32 (by decide) (hts _ fl_Model_88) (fun _ h9 => h9) rfl d_Model_reckon_265 ?_
                        refine lv_iload hx hb d_Model_reckon_268 (lv_at hl 12 rfl) ?_
                        refine lv_iload hx hb d_Model_reckon_270 (lv_at hl 13 rfl) ?_
                        refine n_iadd hx hb d_Model_reckon_272 ?_
                        refine lv_iload hx hb d_Model_reckon_273 (lv_at hl 0 rfl) ?_
                        refine n_iast hx hb hK hP hD hS 4 0 rfl rfl (by omega) (by omega) d_Model_reckon_275 (fun H locs hP hD hS => ?_)
                        rw [upd_nF] at hP hD
                        have hP : va_P G vwCl [(hM, .inr (10, mO cd st al ac nf ns tl.toNat mg bw md wy sg_ sz_ ks bd aM)), (aM 24, .inl (ty 1, 75625, .inr (.inl (lF vu)))), (aM 25, .inl (ty 0, 75625, .inl (nF cu))), (aM 31, .inl (ty 1, 128, .inr (.inl (lF (va_up (va_up re2 (32 + b1) va) (32 + b1) ((re2 (32 + (b1 + 1 + n1))) + (vu at_))))))), (aM 32, .inl (ty 0, 128, .inl (nF (va_up (va_up rc2 (32 + b1) ca) (32 + b1) ((rc2 (32 + (b1 + 1 + n1))) + (cu at_)))))), (aM 20, .inl (ty 2, 65537, .inl (bF gs)))] _ := hP
                        have hD : va_D A [(hM, .inr (10, mO cd st al ac nf ns tl.toNat mg bw md wy sg_ sz_ ks bd aM)), (aM 24, .inl (ty 1, 75625, .inr (.inl (lF vu)))), (aM 25, .inl (ty 0, 75625, .inl (nF cu))), (aM 31, .inl (ty 1, 128, .inr (.inl (lF (va_up (va_up re2 (32 + b1) va) (32 + b1) ((re2 (32 + (b1 + 1 + n1))) + (vu at_))))))), (aM 32, .inl (ty 0, 128, .inl (nF (va_up (va_up rc2 (32 + b1) ca) (32 + b1) ((rc2 (32 + (b1 + 1 + n1))) + (cu at_)))))), (aM 20, .inl (ty 2, 65537, .inl (bF gs)))] := hD
                        have hP : va_P G vwCl [(hM, .inr (10, mO cd st al ac nf ns tl.toNat mg bw md wy sg_ sz_ ks bd aM)), (aM 24, .inl (ty 1, 75625, .inr (.inl (lF vu)))), (aM 25, .inl (ty 0, 75625, .inl (nF cu))), (aM 31, .inl (ty 1, 128, .inr (.inl (lF (va_up re2 (32 + b1) (re2 (32 + (b1 + 1 + n1)) + vu at_)))))), (aM 32, .inl (ty 0, 128, .inl (nF (va_up rc2 (32 + b1) (rc2 (32 + (b1 + 1 + n1)) + cu at_))))), (aM 20, .inl (ty 2, 65537, .inl (bF gs)))] H := by rw [va_up_up, va_up_up] at hP; exact hP
                        have hD : va_D A [(hM, .inr (10, mO cd st al ac nf ns tl.toNat mg bw md wy sg_ sz_ ks bd aM)), (aM 24, .inl (ty 1, 75625, .inr (.inl (lF vu)))), (aM 25, .inl (ty 0, 75625, .inl (nF cu))), (aM 31, .inl (ty 1, 128, .inr (.inl (lF (va_up re2 (32 + b1) (re2 (32 + (b1 + 1 + n1)) + vu at_)))))), (aM 32, .inl (ty 0, 128, .inl (nF (va_up rc2 (32 + b1) (rc2 (32 + (b1 + 1 + n1)) + cu at_))))), (aM 20, .inl (ty 2, 65537, .inl (bF gs)))] := by rw [va_up_up, va_up_up] at hD; exact hD
                        have hE2 : 1024 * (re2 (32 + (b1 + 1 + n1)) + vu at_) - ((rc2 (32 + (b1 + 1 + n1)) + cu at_ : Nat) : Int) = dpS (mS vu cu x0 x1) (okc 1 sg_ (fun z9 => decide (1 ≤ z9) && (decide (wy ≠ 0) || (!tl || gs z9)))) (fun p9 => dpV (mS vu cu x0 x1) (okc 1 sg_ (fun z9 => decide (1 ≤ z9) && (decide (wy ≠ 0) || (!tl || gs z9)))) p9 y1) (y0 + b1) (dpV (mS vu cu x0 x1) (okc 1 sg_ (fun z9 => decide (1 ≤ z9) && (decide (wy ≠ 0) || (!tl || gs z9)))) (y0 + b1 + 1) y1) (n1 + 1) := by rw [dpS_s, if_pos ⟨by omega, by omega, tN_1 c165⟩]; omega
                        have hc2 : rc2 (32 + (b1 + 1 + n1)) + cu at_ ≤ (x1 - x0) * (y1 - y0 - b1) := by omega
                        have h02 : rc2 (32 + (b1 + 1 + n1)) + cu at_ = 0 → re2 (32 + (b1 + 1 + n1)) + vu at_ = 0 := by omega
                        refine lv_iinc (v := (nI ((b1 + 1 + n1) + 1))) (lv' := [(10, .int (nI ((b1 + 1 + n1) + 1))), (15, .int (nI ((rc2 (32 + (b1 + 1 + n1))) + (cu at_)))), (13, .long (iL ((re2 (32 + (b1 + 1 + n1))) + (vu at_)))), (12, .int (nI (cu at_))), (11, .int (nI at_)), (0, .ref hM), (1, .int (nI 1)), (2, .int (nI x0)), (3, .int (nI x1)), (4, .int (nI y0)), (5, .int (nI y1)), (6, .int (nI 1)), (7, .int (nI (y1 - y0))), (8, .int (nI 32)), (9, .int (nI b1))]) hx hb d_Model_reckon_276 hl (k := 14) rfl (nI_inc _ _ _ (by omega)) (by decide) rfl (fun ls hl => ?_)
                        refine lv_goto (tgt := 114) hx hb d_Model_reckon_279 (by decide) ?_
                        exact ih114 (n1 + 1) (re2 (32 + (b1 + 1 + n1)) + vu at_) (rc2 (32 + (b1 + 1 + n1)) + cu at_) _ _ _ (by omega) hE2 hc2 h02 (by omega) hP hD hS (lv_sub hl [5, 6, 7, 8, 9, 10, 11, 12, 13, 14, 0] rfl)
        exact L114 ((y1 - y0) + 1 - (b1 + 0) + 1) 0 (re2 (32 + (b1 + 1))) (rc2 (32 + (b1 + 1))) _ _ _ (by omega) hr11 hkk hr1.2.2 (Nat.lt_succ_self _) hP hD hS (lv_sub hl [1, 2, 3, 4, 5, 6, 7, 8, 9, 10, 0] rfl)
  exact L59 ((y1 - y0) + 1) (y1 - y0) (va_up re (32 + (y1 - y0)) 0) (va_up rc (32 + (y1 - y0)) 0) _ _ _ (Nat.le_refl _) (fun p h1 h2 => by rw [show p = y1 - y0 from by omega]; exact rOKr_end (by show dpV _ _ (y0 + (y1 - y0)) y1 = 0; rw [show y0 + (y1 - y0) = y1 by omega]; exact dpV_end _ _ _)) (fun q hq => ⟨va_up_ne _ _ (by omega), va_up_ne _ _ (by omega)⟩) (Nat.lt_succ_self _) hP hD hS (lv_sub hl [4, 5, 6, 7, 8, 9, 3, 2, 1, 0] rfl)

abbrev q_reckon11 (G : va_G) (ty : Nat → ClassId) (hM : Nat) (cd : Nat) (st : Nat) (al : Nat) (ac : Nat) (nf : Nat) (ns : Nat) (mg : Nat) (bw : Nat) (md : Nat) (wy : Nat) (sg_ : Nat) (sz_ : Nat) (ks : Nat) (bd : Int) (aM : Nat → Nat) (gs : Nat → Bool) (tl : Bool) (x0 : Nat) (x1 : Nat) (y0 : Nat) (y1 : Nat) (vu : Nat → Int) (cu : Nat → Nat) (re : Nat → Int) (rc : Nat → Nat) (A : Nat → Prop) : Array Value → State → Outcome → State → Prop := va_Qv (fun (uu : (Nat → Int) × (Nat → Nat)) => (∀ p, p ≤ (x1 - x0) → rOKr uu.1 uu.2 (fun p9 => dpV (fun b9 e9 => mS vu cu b9 e9 y0 y1) (okc 1 sg_ (fun z9 => decide (1 ≤ z9) && (decide (wy ≠ 0) || (!tl || gs z9)))) (x0 + p9) x1) 32 (y1 - y0) (x1 - x0) p) ∧ (∀ q, q < 32 ∨ 32 + (x1 - x0) < q → uu.1 q = re q ∧ uu.2 q = rc q)) (at_W G (fun (uu : (Nat → Int) × (Nat → Nat)) => [(hM, .inr (10, mO cd st al ac nf ns tl.toNat mg bw md wy sg_ sz_ ks bd aM)), (aM 24, .inl (ty 1, 75625, .inr (.inl (lF vu)))), (aM 25, .inl (ty 0, 75625, .inl (nF cu))), (aM 31, .inl (ty 1, 128, .inr (.inl (lF uu.1)))), (aM 32, .inl (ty 0, 128, .inl (nF uu.2))), (aM 20, .inl (ty 2, 65537, .inl (bF gs)))]) A) A
set_option maxRecDepth 100000 in
set_option maxHeartbeats 4000000 in
theorem c_reckon11 (l : Launch) (G : va_G) (ty : Nat → ClassId) (sz : Nat) (hM : Nat) (cd : Nat) (st : Nat) (al : Nat) (ac : Nat) (nf : Nat) (ns : Nat) (mg : Nat) (bw : Nat) (md : Nat) (wy : Nat) (sg_ : Nat) (sz_ : Nat) (ks : Nat) (bd : Int) (aM : Nat → Nat) (gs : Nat → Bool) (tl : Bool) (x0 : Nat) (x1 : Nat) (y0 : Nat) (y1 : Nat) (vu : Nat → Int) (cu : Nat → Nat) (re : Nat → Int) (rc : Nat → Nat) (gtp : 1 ≤ sg_ ∧ sg_ ≤ 3) (gwy : wy ≤ 1) (gax : 1 = (if (sg_ - 1) % 2 = 0 then wy else 1 - wy)) (k1 : x0 < x1) (k2 : x1 ≤ 24) (k3 : y0 < y1) (k4 : y1 ≤ 10) (gO : ∀ i j, x0 ≤ i → i < j → j ≤ x1 → mOK vu cu i j y0 y1) : Met l y_Model_reckon ws_Model_reckon { frames := 2, cells := 0, slots := 0, locals := 50 } (va_Pc [.ref hM, .int (nI 1), .int (nI x0), .int (nI x1), .int (nI y0), .int (nI y1)] (fun U => U.heap.size = sz ∧ va_P G vwCl [(hM, .inr (10, mO cd st al ac nf ns tl.toNat mg bw md wy sg_ sz_ ks bd aM)), (aM 24, .inl (ty 1, 75625, .inr (.inl (lF vu)))), (aM 25, .inl (ty 0, 75625, .inl (nF cu))), (aM 31, .inl (ty 1, 128, .inr (.inl (lF re)))), (aM 32, .inl (ty 0, 128, .inl (nF rc))), (aM 20, .inl (ty 2, 65537, .inl (bF gs)))] U.heap ∧ KX G ty U ∧ va_D (fun _ => True) [(hM, .inr (10, mO cd st al ac nf ns tl.toNat mg bw md wy sg_ sz_ ks bd aM)), (aM 24, .inl (ty 1, 75625, .inr (.inl (lF vu)))), (aM 25, .inl (ty 0, 75625, .inl (nF cu))), (aM 31, .inl (ty 1, 128, .inr (.inl (lF re)))), (aM 32, .inl (ty 0, 128, .inl (nF rc))), (aM 20, .inl (ty 2, 65537, .inl (bF gs)))])) (q_reckon11 G ty hM cd st al ac nf ns mg bw md wy sg_ sz_ ks bd aM gs tl x0 x1 y0 y1 vu cu re rc (va_A [(hM, .inr (10, mO cd st al ac nf ns tl.toNat mg bw md wy sg_ sz_ ks bd aM)), (aM 24, .inl (ty 1, 75625, .inr (.inl (lF vu)))), (aM 25, .inl (ty 0, 75625, .inl (nF cu))), (aM 31, .inl (ty 1, 128, .inr (.inl (lF re)))), (aM 32, .inl (ty 0, 128, .inl (nF rc))), (aM 20, .inl (ty 2, 65537, .inl (bF gs)))] sz)) 0 0 (va_A [(hM, .inr (10, mO cd st al ac nf ns tl.toNat mg bw md wy sg_ sz_ ks bd aM)), (aM 24, .inl (ty 1, 75625, .inr (.inl (lF vu)))), (aM 25, .inl (ty 0, 75625, .inl (nF cu))), (aM 31, .inl (ty 1, 128, .inr (.inl (lF re)))), (aM 32, .inl (ty 0, 128, .inl (nF rc))), (aM 20, .inl (ty 2, 65537, .inl (bF gs)))] sz) := by
  refine met_wr (y := y_Model_reckon) (maxL := 16) (sz := sz) (G := G) (ty := ty) (mc := 0) (ms := 0) (av := [.ref hM, .int (nI 1), .int (nI x0), .int (nI x1), .int (nI y0), .int (nI y1)]) (W0 := [(hM, .inr (10, mO cd st al ac nf ns tl.toNat mg bw md wy sg_ sz_ ks bd aM)), (aM 24, .inl (ty 1, 75625, .inr (.inl (lF vu)))), (aM 25, .inl (ty 0, 75625, .inl (nF cu))), (aM 31, .inl (ty 1, 128, .inr (.inl (lF re)))), (aM 32, .inl (ty 0, 128, .inl (nF rc))), (aM 20, .inl (ty 2, 65537, .inl (bF gs)))]) (fun A => q_reckon11 G ty hM cd st al ac nf ns mg bw md wy sg_ sz_ ks bd aM gs tl x0 x1 y0 y1 vu cu re rc A) R_Model (by decide) rfl rfl (Nat.le_of_ble_eq_true rfl) ?_
  intro p e s m below meth c ls A hx hb hr hml hown hts hlocks hin hA hP hX hD hS hl
  have hK := hX.1
  have hl : lv_has ls 16 [(0, .ref hM), (1, .int (nI 1)), (2, .int (nI x0)), (3, .int (nI x1)), (4, .int (nI y0)), (5, .int (nI y1))] := hl
  have hKn : ∀ a9, a9 ≤ x1 - x0 → (y1 - y0) * a9 ≤ 240 := fun a9 h9 => Nat.le_trans (Nat.mul_le_mul (show y1 - y0 ≤ 10 by omega) (show a9 ≤ 24 by omega)) (by decide)
  have hdv : ∀ p, x0 ≤ p → p ≤ x1 → 0 ≤ dpV (fun b9 e9 => mS vu cu b9 e9 y0 y1) (okc 1 sg_ (fun z9 => decide (1 ≤ z9) && (decide (wy ≠ 0) || (!tl || gs z9)))) p x1 ∧ dpV (fun b9 e9 => mS vu cu b9 e9 y0 y1) (okc 1 sg_ (fun z9 => decide (1 ≤ z9) && (decide (wy ≠ 0) || (!tl || gs z9)))) p x1 ≤ 26400000000000000 := fun p h1 h2 => dpV_u (by omega) h2 (fun i j h3 h4 h5 => mS_le (gO i j (by omega) h4 h5))
  refine lv_aload_n hx hb d_Model_reckon_0 rfl (lv_at hl 0 rfl) ?_
  refine lv_iload_n hx hb d_Model_reckon_1 rfl (lv_at hl 1 rfl) ?_
  refine vp_callSi (W.runV (As := [.int (nI 1)]) (rest := []) ⟨hx, hb, hml, hown, hts⟩ (c_Model_isRipped l G ty hM cd st al ac nf ns tl.toNat mg bw md wy sg_ sz_ ks bd aM 1 (by omega) (by omega) (by omega)) ⟨callB_of 1 hts (gd_TB cd_Model_isRipped) rfl rfl rfl (hts _ ini_Model) (hts _ lk_Model_196) hd_Model_isRipped ⟨Nat.le_of_ble_eq_true rfl, Nat.le_of_ble_eq_true rfl⟩, hts _ im_Model_isRipped, hts _ sl_Model_isRipped⟩ (preV_ro (hP.sub (ws' := [(hM, .inr (10, mO cd st al ac nf ns tl.toNat mg bw md wy sg_ sz_ ks bd aM))]) [0] rfl) hX 0 rfl rfl) rfl rfl hl.1 rfl (lv_room (Nat.le_of_ble_eq_true rfl)) d_Model_reckon_2 ⟨Nat.le_of_ble_eq_true rfl, Nat.le_of_ble_eq_true rfl⟩) (fun r9 er9 => ?_)
  subst er9
  refine top_i (show (nI (1 - (if (sg_ - 1) % 2 = 0 then wy else 1 - wy))) = (nI 0) from congrArg (fun z9 => nI (1 - z9)) gax.symm) ?_
  refine lv_istore (lv' := [(6, .int (nI 0)), (0, .ref hM), (1, .int (nI 1)), (2, .int (nI x0)), (3, .int (nI x1)), (4, .int (nI y0)), (5, .int (nI y1))]) hx hb d_Model_reckon_5 hl (by decide) rfl (fun ls hl => ?_)
  refine lv_iload hx hb d_Model_reckon_7 (lv_at hl 0 rfl) ?_
  refine n_if_eq (tgt := 20) hx hb (by omega) d_Model_reckon_9 (by decide) (fun c9 => ?_) (fun c9 => absurd c9 (by omega))
  refine lv_iload_n hx hb d_Model_reckon_20 rfl (lv_at hl 4 rfl) ?_
  refine lv_iload_n hx hb d_Model_reckon_21 rfl (lv_at hl 3 rfl) ?_
  refine n_isub hx hb (by omega) d_Model_reckon_22 ?_
  refine lv_istore (lv' := [(7, .int (nI (x1 - x0))), (6, .int (nI 0)), (0, .ref hM), (1, .int (nI 1)), (2, .int (nI x0)), (3, .int (nI x1)), (4, .int (nI y0)), (5, .int (nI y1))]) hx hb d_Model_reckon_23 hl (by decide) rfl (fun ls hl => ?_)
  refine lv_bipush (v := (nI 32)) hx hb d_Model_reckon_25 (by decide) ?_
  refine lv_iload_n hx hb d_Model_reckon_27 rfl (lv_at hl 3 rfl) ?_
  refine n_imul hx hb d_Model_reckon_28 ?_
  refine top_i (show (nI (32 * 1)) = nI 32 from rfl) ?_
  refine lv_istore (lv' := [(8, .int (nI 32)), (7, .int (nI (x1 - x0))), (6, .int (nI 0)), (0, .ref hM), (1, .int (nI 1)), (2, .int (nI x0)), (3, .int (nI x1)), (4, .int (nI y0)), (5, .int (nI y1))]) hx hb d_Model_reckon_29 hl (by decide) rfl (fun ls hl => ?_)
  refine lv_aload_n hx hb d_Model_reckon_31 rfl (lv_at hl 3 rfl) ?_
  refine va_get (D := G) (ci := 10) (v := .ref (aM 31)) (C := R_Model) (T := F_Model) (N := 47) hx hb hts in_Model hown hK hP 0 rfl rfl 31 (by decide) (hts _ fl_Model_85) (fun _ h9 => h9) rfl d_Model_reckon_32 ?_
  refine lv_iload hx hb d_Model_reckon_35 (lv_at hl 0 rfl) ?_
  refine lv_iload hx hb d_Model_reckon_37 (lv_at hl 1 rfl) ?_
  refine n_iadd hx hb d_Model_reckon_39 ?_
  refine lv_lconst (v := iL 0) hx hb d_Model_reckon_40 (by decide) ?_
  refine n_last hx hb hK hP hD hS 3 1 rfl rfl (by omega) (by omega) d_Model_reckon_41 (fun H locs hP hD hS => ?_)
  rw [upd_lF] at hP hD
  have hP : va_P G vwCl [(hM, .inr (10, mO cd st al ac nf ns tl.toNat mg bw md wy sg_ sz_ ks bd aM)), (aM 24, .inl (ty 1, 75625, .inr (.inl (lF vu)))), (aM 25, .inl (ty 0, 75625, .inl (nF cu))), (aM 31, .inl (ty 1, 128, .inr (.inl (lF (va_up re (32 + (x1 - x0)) 0))))), (aM 32, .inl (ty 0, 128, .inl (nF rc))), (aM 20, .inl (ty 2, 65537, .inl (bF gs)))] _ := hP
  have hD : va_D A [(hM, .inr (10, mO cd st al ac nf ns tl.toNat mg bw md wy sg_ sz_ ks bd aM)), (aM 24, .inl (ty 1, 75625, .inr (.inl (lF vu)))), (aM 25, .inl (ty 0, 75625, .inl (nF cu))), (aM 31, .inl (ty 1, 128, .inr (.inl (lF (va_up re (32 + (x1 - x0)) 0))))), (aM 32, .inl (ty 0, 128, .inl (nF rc))), (aM 20, .inl (ty 2, 65537, .inl (bF gs)))] := hD
  refine lv_aload_n hx hb d_Model_reckon_42 rfl (lv_at hl 3 rfl) ?_
  refine va_get (D := G) (ci := 10) (v := .ref (aM 32)) (C := R_Model) (T := F_Model) (N := 47) hx hb hts in_Model hown hK hP 0 rfl rfl 32 (by decide) (hts _ fl_Model_88) (fun _ h9 => h9) rfl d_Model_reckon_43 ?_
  refine lv_iload hx hb d_Model_reckon_46 (lv_at hl 0 rfl) ?_
  refine lv_iload hx hb d_Model_reckon_48 (lv_at hl 1 rfl) ?_
  refine n_iadd hx hb d_Model_reckon_50 ?_
  refine lv_iconst (v := (nI 0)) hx hb d_Model_reckon_51 (by decide) ?_
  refine n_iast hx hb hK hP hD hS 4 0 rfl rfl (by omega) (by omega) d_Model_reckon_52 (fun H locs hP hD hS => ?_)
  rw [upd_nF] at hP hD
  have hP : va_P G vwCl [(hM, .inr (10, mO cd st al ac nf ns tl.toNat mg bw md wy sg_ sz_ ks bd aM)), (aM 24, .inl (ty 1, 75625, .inr (.inl (lF vu)))), (aM 25, .inl (ty 0, 75625, .inl (nF cu))), (aM 31, .inl (ty 1, 128, .inr (.inl (lF (va_up re (32 + (x1 - x0)) 0))))), (aM 32, .inl (ty 0, 128, .inl (nF (va_up rc (32 + (x1 - x0)) 0)))), (aM 20, .inl (ty 2, 65537, .inl (bF gs)))] _ := hP
  have hD : va_D A [(hM, .inr (10, mO cd st al ac nf ns tl.toNat mg bw md wy sg_ sz_ ks bd aM)), (aM 24, .inl (ty 1, 75625, .inr (.inl (lF vu)))), (aM 25, .inl (ty 0, 75625, .inl (nF cu))), (aM 31, .inl (ty 1, 128, .inr (.inl (lF (va_up re (32 + (x1 - x0)) 0))))), (aM 32, .inl (ty 0, 128, .inl (nF (va_up rc (32 + (x1 - x0)) 0)))), (aM 20, .inl (ty 2, 65537, .inl (bF gs)))] := hD
  refine lv_iload hx hb d_Model_reckon_53 (lv_at hl 1 rfl) ?_
  refine lv_iconst (v := (nI 1)) hx hb d_Model_reckon_55 (by decide) ?_
  refine nzz_isub hx hb d_Model_reckon_56 ?_
  refine lv_istore (lv' := [(9, .int (iI ((x1 - x0 : Nat) - ((1 : Nat) : Int)))), (8, .int (nI 32)), (7, .int (nI (x1 - x0))), (6, .int (nI 0)), (0, .ref hM), (1, .int (nI 1)), (2, .int (nI x0)), (3, .int (nI x1)), (4, .int (nI y0)), (5, .int (nI y1))]) hx hb d_Model_reckon_57 hl (by decide) rfl (fun ls hl => ?_)
  have L59 : ∀ (k9 : Nat) (b : Nat) (re2 : Nat → Int) (rc2 : Nat → Nat) (H : Heap) (locs : List Loc) (ls : Array Slot), (b ≤ (x1 - x0)) → (∀ p, b ≤ p → p ≤ (x1 - x0) → rOKr re2 rc2 (fun p9 => dpV (fun b9 e9 => mS vu cu b9 e9 y0 y1) (okc 1 sg_ (fun z9 => decide (1 ≤ z9) && (decide (wy ≠ 0) || (!tl || gs z9)))) (x0 + p9) x1) 32 (y1 - y0) (x1 - x0) p) → (∀ q, q < 32 ∨ 32 + (x1 - x0) < q → re2 q = re q ∧ rc2 q = rc q) → b < k9 → va_P G vwCl [(hM, .inr (10, mO cd st al ac nf ns tl.toNat mg bw md wy sg_ sz_ ks bd aM)), (aM 24, .inl (ty 1, 75625, .inr (.inl (lF vu)))), (aM 25, .inl (ty 0, 75625, .inl (nF cu))), (aM 31, .inl (ty 1, 128, .inr (.inl (lF re2)))), (aM 32, .inl (ty 0, 128, .inl (nF rc2))), (aM 20, .inl (ty 2, 65537, .inl (bF gs)))] H → va_D A [(hM, .inr (10, mO cd st al ac nf ns tl.toNat mg bw md wy sg_ sz_ ks bd aM)), (aM 24, .inl (ty 1, 75625, .inr (.inl (lF vu)))), (aM 25, .inl (ty 0, 75625, .inl (nF cu))), (aM 31, .inl (ty 1, 128, .inr (.inl (lF re2)))), (aM 32, .inl (ty 0, 128, .inl (nF rc2))), (aM 20, .inl (ty 2, 65537, .inl (bF gs)))] → va_S A s.heap H locs → lv_has ls 16 [(0, .ref hM), (1, .int (nI 1)), (2, .int (nI x0)), (3, .int (nI x1)), (4, .int (nI y0)), (5, .int (nI y1)), (6, .int (nI 0)), (7, .int (nI (x1 - x0))), (8, .int (nI 32)), (9, .int (iI (((b : Nat) : Int) - ((1 : Nat) : Int))))] → W p l e { frames := 2, cells := 0, slots := 0, locals := 50 } s m [.ref hM, .int (nI 1), .int (nI x0), .int (nI x1), .int (nI y0), .int (nI y1)].toArray below meth c H locs 0 0 (MQ below (q_reckon11 G ty hM cd st al ac nf ns mg bw md wy sg_ sz_ ks bd aM gs tl x0 x1 y0 y1 vu cu re rc A) [.ref hM, .int (nI 1), .int (nI x0), .int (nI x1), .int (nI y0), .int (nI y1)].toArray s 0 0 A) (F0 m 59 ls []) := by
    intro k9
    induction k9 with
    | zero => intro b re2 rc2 H locs ls hb0 hR hF hk9; exact absurd hk9 (Nat.not_lt_zero _)
    | succ k9 ih59 =>
      intro b re2 rc2 H locs ls hb0 hR hF hk9 hP hD hS hl
      refine lv_iload hx hb d_Model_reckon_59 (lv_at hl 9 rfl) ?_
      refine z_if_lt (tgt := 288) hx hb (by omega) d_Model_reckon_61 (by decide) (fun c61 => ?_) (fun c61 => ?_)
      · exact W.vret hx hb hr (fun t9 ht hW => ⟨⟨(re2, rc2), rfl, ⟨fun p h => hR p (by omega) h, hF⟩, by rw [ht]; exact hP, hD⟩, hS.F ht⟩) hS.2.2 d_Model_reckon_288
      · obtain ⟨b1, rfl⟩ : ∃ b1, b = b1 + 1 := ⟨b - 1, by omega⟩
        have hl : lv_has ls 16 [(0, .ref hM), (1, .int (nI 1)), (2, .int (nI x0)), (3, .int (nI x1)), (4, .int (nI y0)), (5, .int (nI y1)), (6, .int (nI 0)), (7, .int (nI (x1 - x0))), (8, .int (nI 32)), (9, .int (nI b1))] := by rw [show (nI b1) = (iI (((b1 + 1 : Nat) : Int) - ((1 : Nat) : Int))) from by rw [nI_iI]; congr 1; omega]; exact hl
        have hr1 := hR (b1 + 1) (Nat.le_refl _) (by omega)
        have hr11 : 1024 * re2 (32 + (b1 + 1)) - (rc2 (32 + (b1 + 1)) : Int) = dpV (fun b9 e9 => mS vu cu b9 e9 y0 y1) (okc 1 sg_ (fun z9 => decide (1 ≤ z9) && (decide (wy ≠ 0) || (!tl || gs z9)))) (x0 + b1 + 1) x1 := hr1.1
        have hkk := Nat.le_trans hr1.2.1 (Nat.mul_le_mul_left (y1 - y0) (show x1 - x0 - (b1 + 1) ≤ x1 - x0 - b1 by omega))
        refine lv_aload_n hx hb d_Model_reckon_64 rfl (lv_at hl 0 rfl) ?_
        refine va_get (D := G) (ci := 10) (v := .ref (aM 31)) (C := R_Model) (T := F_Model) (N := 47) hx hb hts in_Model hown hK hP 0 rfl rfl 31 (by decide) (hts _ fl_Model_85) (fun _ h9 => h9) rfl d_Model_reckon_65 ?_
        refine lv_iload hx hb d_Model_reckon_68 (lv_at hl 8 rfl) ?_
        refine lv_iload hx hb d_Model_reckon_70 (lv_at hl 9 rfl) ?_
        refine n_iadd hx hb d_Model_reckon_72 ?_
        refine lv_aload_n hx hb d_Model_reckon_73 rfl (lv_at hl 0 rfl) ?_
        refine va_get (D := G) (ci := 10) (v := .ref (aM 31)) (C := R_Model) (T := F_Model) (N := 47) hx hb hts in_Model hown hK hP 0 rfl rfl 31 (by decide) (hts _ fl_Model_85) (fun _ h9 => h9) rfl d_Model_reckon_74 ?_
        refine lv_iload hx hb d_Model_reckon_77 (lv_at hl 8 rfl) ?_
        refine lv_iload hx hb d_Model_reckon_79 (lv_at hl 9 rfl) ?_
        refine n_iadd hx hb d_Model_reckon_81 ?_
        refine lv_iconst (v := (nI 1)) hx hb d_Model_reckon_82 (by decide) ?_
        refine n_iadd hx hb d_Model_reckon_83 ?_
        refine n_lald hx hb hK hP 3 1 rfl rfl (by omega) (by omega) d_Model_reckon_84 ?_
        refine top_l (show (iL (re2 ((32 + b1) + 1))) = (iL (re2 (32 + (b1 + 1)))) from rfl) ?_
        refine n_last hx hb hK hP hD hS 3 1 rfl rfl (by omega) (by omega) d_Model_reckon_85 (fun H locs hP hD hS => ?_)
        rw [upd_lF] at hP hD
        have hP : va_P G vwCl [(hM, .inr (10, mO cd st al ac nf ns tl.toNat mg bw md wy sg_ sz_ ks bd aM)), (aM 24, .inl (ty 1, 75625, .inr (.inl (lF vu)))), (aM 25, .inl (ty 0, 75625, .inl (nF cu))), (aM 31, .inl (ty 1, 128, .inr (.inl (lF (va_up re2 (32 + b1) (re2 (32 + (b1 + 1)))))))), (aM 32, .inl (ty 0, 128, .inl (nF rc2))), (aM 20, .inl (ty 2, 65537, .inl (bF gs)))] _ := hP
        have hD : va_D A [(hM, .inr (10, mO cd st al ac nf ns tl.toNat mg bw md wy sg_ sz_ ks bd aM)), (aM 24, .inl (ty 1, 75625, .inr (.inl (lF vu)))), (aM 25, .inl (ty 0, 75625, .inl (nF cu))), (aM 31, .inl (ty 1, 128, .inr (.inl (lF (va_up re2 (32 + b1) (re2 (32 + (b1 + 1)))))))), (aM 32, .inl (ty 0, 128, .inl (nF rc2))), (aM 20, .inl (ty 2, 65537, .inl (bF gs)))] := hD
        refine lv_aload_n hx hb d_Model_reckon_86 rfl (lv_at hl 0 rfl) ?_
        refine va_get (D := G) (ci := 10) (v := .ref (aM 32)) (C := R_Model) (T := F_Model) (N := 47) hx hb hts in_Model hown hK hP 0 rfl rfl 32 (by decide) (hts _ fl_Model_88) (fun _ h9 => h9) rfl d_Model_reckon_87 ?_
        refine lv_iload hx hb d_Model_reckon_90 (lv_at hl 8 rfl) ?_
        refine lv_iload hx hb d_Model_reckon_92 (lv_at hl 9 rfl) ?_
        refine n_iadd hx hb d_Model_reckon_94 ?_
        refine lv_aload_n hx hb d_Model_reckon_95 rfl (lv_at hl 0 rfl) ?_
        refine va_get (D := G) (ci := 10) (v := .ref (aM 32)) (C := R_Model) (T := F_Model) (N := 47) hx hb hts in_Model hown hK hP 0 rfl rfl 32 (by decide) (hts _ fl_Model_88) (fun _ h9 => h9) rfl d_Model_reckon_96 ?_
        refine lv_iload hx hb d_Model_reckon_99 (lv_at hl 8 rfl) ?_
        refine lv_iload hx hb d_Model_reckon_101 (lv_at hl 9 rfl) ?_
        refine n_iadd hx hb d_Model_reckon_103 ?_
        refine lv_iconst (v := (nI 1)) hx hb d_Model_reckon_104 (by decide) ?_
        refine n_iadd hx hb d_Model_reckon_105 ?_
        refine n_iald hx hb hK hP 4 0 rfl rfl (by omega) (by omega) d_Model_reckon_106 ?_
        refine top_i (show (nI (rc2 ((32 + b1) + 1))) = (nI (rc2 (32 + (b1 + 1)))) from rfl) ?_
        refine n_iast hx hb hK hP hD hS 4 0 rfl rfl (by omega) (by omega) d_Model_reckon_107 (fun H locs hP hD hS => ?_)
        rw [upd_nF] at hP hD
        have hP : va_P G vwCl [(hM, .inr (10, mO cd st al ac nf ns tl.toNat mg bw md wy sg_ sz_ ks bd aM)), (aM 24, .inl (ty 1, 75625, .inr (.inl (lF vu)))), (aM 25, .inl (ty 0, 75625, .inl (nF cu))), (aM 31, .inl (ty 1, 128, .inr (.inl (lF (va_up re2 (32 + b1) (re2 (32 + (b1 + 1)))))))), (aM 32, .inl (ty 0, 128, .inl (nF (va_up rc2 (32 + b1) (rc2 (32 + (b1 + 1))))))), (aM 20, .inl (ty 2, 65537, .inl (bF gs)))] _ := hP
        have hD : va_D A [(hM, .inr (10, mO cd st al ac nf ns tl.toNat mg bw md wy sg_ sz_ ks bd aM)), (aM 24, .inl (ty 1, 75625, .inr (.inl (lF vu)))), (aM 25, .inl (ty 0, 75625, .inl (nF cu))), (aM 31, .inl (ty 1, 128, .inr (.inl (lF (va_up re2 (32 + b1) (re2 (32 + (b1 + 1)))))))), (aM 32, .inl (ty 0, 128, .inl (nF (va_up rc2 (32 + b1) (rc2 (32 + (b1 + 1))))))), (aM 20, .inl (ty 2, 65537, .inl (bF gs)))] := hD
        refine lv_iload hx hb d_Model_reckon_108 (lv_at hl 9 rfl) ?_
        refine lv_iconst (v := (nI 1)) hx hb d_Model_reckon_110 (by decide) ?_
        refine n_iadd hx hb d_Model_reckon_111 ?_
        refine lv_istore (lv' := [(10, .int (nI (b1 + 1))), (0, .ref hM), (1, .int (nI 1)), (2, .int (nI x0)), (3, .int (nI x1)), (4, .int (nI y0)), (5, .int (nI y1)), (6, .int (nI 0)), (7, .int (nI (x1 - x0))), (8, .int (nI 32)), (9, .int (nI b1))]) hx hb d_Model_reckon_112 hl (by decide) rfl (fun ls hl => ?_)
        have L114 : ∀ (k9 : Nat) (n1 : Nat) (va : Int) (ca : Nat) (H : Heap) (locs : List Loc) (ls : Array Slot), (b1 + n1 ≤ (x1 - x0)) → (1024 * va - (ca : Int) = dpS (fun b9 e9 => mS vu cu b9 e9 y0 y1) (okc 1 sg_ (fun z9 => decide (1 ≤ z9) && (decide (wy ≠ 0) || (!tl || gs z9)))) (fun p9 => dpV (fun b9 e9 => mS vu cu b9 e9 y0 y1) (okc 1 sg_ (fun z9 => decide (1 ≤ z9) && (decide (wy ≠ 0) || (!tl || gs z9)))) p9 x1) (x0 + b1) (dpV (fun b9 e9 => mS vu cu b9 e9 y0 y1) (okc 1 sg_ (fun z9 => decide (1 ≤ z9) && (decide (wy ≠ 0) || (!tl || gs z9)))) (x0 + b1 + 1) x1) n1) → (ca ≤ (y1 - y0) * (x1 - x0 - b1)) → (ca = 0 → va = 0) → (x1 - x0) + 1 - (b1 + n1) < k9 → va_P G vwCl [(hM, .inr (10, mO cd st al ac nf ns tl.toNat mg bw md wy sg_ sz_ ks bd aM)), (aM 24, .inl (ty 1, 75625, .inr (.inl (lF vu)))), (aM 25, .inl (ty 0, 75625, .inl (nF cu))), (aM 31, .inl (ty 1, 128, .inr (.inl (lF (va_up re2 (32 + b1) va))))), (aM 32, .inl (ty 0, 128, .inl (nF (va_up rc2 (32 + b1) ca)))), (aM 20, .inl (ty 2, 65537, .inl (bF gs)))] H → va_D A [(hM, .inr (10, mO cd st al ac nf ns tl.toNat mg bw md wy sg_ sz_ ks bd aM)), (aM 24, .inl (ty 1, 75625, .inr (.inl (lF vu)))), (aM 25, .inl (ty 0, 75625, .inl (nF cu))), (aM 31, .inl (ty 1, 128, .inr (.inl (lF (va_up re2 (32 + b1) va))))), (aM 32, .inl (ty 0, 128, .inl (nF (va_up rc2 (32 + b1) ca)))), (aM 20, .inl (ty 2, 65537, .inl (bF gs)))] → va_S A s.heap H locs → lv_has ls 16 [(0, .ref hM), (1, .int (nI 1)), (2, .int (nI x0)), (3, .int (nI x1)), (4, .int (nI y0)), (5, .int (nI y1)), (6, .int (nI 0)), (7, .int (nI (x1 - x0))), (8, .int (nI 32)), (9, .int (nI b1)), (10, .int (nI (b1 + 1 + n1)))] → W p l e { frames := 2, cells := 0, slots := 0, locals := 50 } s m [.ref hM, .int (nI 1), .int (nI x0), .int (nI x1), .int (nI y0), .int (nI y1)].toArray below meth c H locs 0 0 (MQ below (q_reckon11 G ty hM cd st al ac nf ns mg bw md wy sg_ sz_ ks bd aM gs tl x0 x1 y0 y1 vu cu re rc A) [.ref hM, .int (nI 1), .int (nI x0), .int (nI x1), .int (nI y0), .int (nI y1)].toArray s 0 0 A) (F0 m 114 ls []) := by
          intro k9
          induction k9 with
          | zero => intro n1 va ca H locs ls hn1 hE hca h00 hk9; exact absurd hk9 (Nat.not_lt_zero _)
          | succ k9 ih114 =>
            intro n1 va ca H locs ls hn1 hE hca h00 hk9 hP hD hS hl
            refine lv_iload hx hb d_Model_reckon_114 (lv_at hl 10 rfl) ?_
            refine lv_iload hx hb d_Model_reckon_116 (lv_at hl 7 rfl) ?_
            refine n_icmp_gt (tgt := 282) hx hb (by omega) (by omega) d_Model_reckon_118 (by decide) (fun c118 => ?_) (fun c118 => ?_)
            · have hfin : 1024 * va - (ca : Int) = dpV (fun b9 e9 => mS vu cu b9 e9 y0 y1) (okc 1 sg_ (fun z9 => decide (1 ≤ z9) && (decide (wy ≠ 0) || (!tl || gs z9)))) (x0 + b1) x1 := by rw [dpV_step (show x0 + b1 < x1 by omega), show x1 - (x0 + b1) = n1 by omega]; exact hE
              have hR3 : ∀ p, b1 ≤ p → p ≤ (x1 - x0) → rOKr (va_up re2 (32 + b1) va) (va_up rc2 (32 + b1) ca) (fun p9 => dpV (fun b9 e9 => mS vu cu b9 e9 y0 y1) (okc 1 sg_ (fun z9 => decide (1 ≤ z9) && (decide (wy ≠ 0) || (!tl || gs z9)))) (x0 + p9) x1) 32 (y1 - y0) (x1 - x0) p := fun p h1 h2 => (Nat.lt_or_ge b1 p).elim (fun q => rOKr_up (by omega) (hR p (by omega) h2)) (fun q => by rw [show p = b1 from by omega]; exact rOKr_at hfin hca h00)
              have hF3 : ∀ q, q < 32 ∨ 32 + (x1 - x0) < q → (va_up re2 (32 + b1) va) q = re q ∧ (va_up rc2 (32 + b1) ca) q = rc q := fun q hq => ⟨by rw [va_up_ne _ _ (by omega)]; exact (hF q hq).1, by rw [va_up_ne _ _ (by omega)]; exact (hF q hq).2⟩
              refine lv_iinc (v := (iI (((b1 : Nat) : Int) - ((1 : Nat) : Int)))) (lv' := [(9, .int (iI (((b1 : Nat) : Int) - ((1 : Nat) : Int)))), (0, .ref hM), (1, .int (nI 1)), (2, .int (nI x0)), (3, .int (nI x1)), (4, .int (nI y0)), (5, .int (nI y1)), (6, .int (nI 0)), (7, .int (nI (x1 - x0))), (8, .int (nI 32)), (10, .int (nI (b1 + 1 + n1)))]) hx hb d_Model_reckon_282 hl (k := 9) rfl (by rw [nI_iI]; exact iI_add _ _) (by decide) rfl (fun ls hl => ?_)
              refine lv_goto (tgt := 59) hx hb d_Model_reckon_285 (by decide) ?_
              exact ih59 b1 (va_up re2 (32 + b1) va) (va_up rc2 (32 + b1) ca) _ _ _ (by omega) hR3 hF3 (by omega) hP hD hS (lv_sub hl [1, 2, 3, 4, 5, 6, 7, 8, 9, 0] rfl)
            · obtain ⟨at_, eat⟩ : ∃ at_, at_ = ((25 * (x0 + b1) + (x0 + (b1 + 1 + n1))) * 11 + y0) * 11 + y1 := ⟨_, rfl⟩
              have e1 : x0 + (b1 + 1 + n1) = x0 + b1 + 1 + n1 := by omega
              have hO := gO (x0 + b1) (x0 + b1 + 1 + n1) (by omega) (by omega) (by omega)
              unfold mOK at hO
              rw [← e1, ← eat] at hO
              have hO1 : cu at_ ≤ (y1 - y0) * (n1 + 1) := by have h9 := hO.1; rw [show x0 + (b1 + 1 + n1) - (x0 + b1) = n1 + 1 by omega] at h9; rw [Nat.mul_comm]; exact h9
              have hO2 := hO.2.1
              have hO3 := hO.2.2
              clear hO
              have hvS : mS vu cu (x0 + b1) (x0 + b1 + 1 + n1) y0 y1 = 1024 * vu at_ - (cu at_ : Int) := by rw [eat, e1]; try rfl
              have hrT := hR (b1 + 1 + n1) (by omega) (by omega)
              have hrT1 : 1024 * re2 (32 + (b1 + 1 + n1)) - (rc2 (32 + (b1 + 1 + n1)) : Int) = dpV (fun b9 e9 => mS vu cu b9 e9 y0 y1) (okc 1 sg_ (fun z9 => decide (1 ≤ z9) && (decide (wy ≠ 0) || (!tl || gs z9)))) (x0 + b1 + 1 + n1) x1 := by have h9 := hrT.1; rw [← e1]; exact h9
              have hrT2 := hrT.2.1
              clear hrT
              have hka : (y1 - y0) * (x1 - x0 - (b1 + 1 + n1)) + (y1 - y0) * (n1 + 1) = (y1 - y0) * (x1 - x0 - b1) := K_add (by omega)
              have hkb := hKn (x1 - x0 - b1) (by omega)
              have hz0 := (hdv (x0 + b1 + 1 + n1) (by omega) (by omega))
              have hat : at_ < 75625 := by rw [eat]; omega
              have hz : dpV (fun b9 e9 => mS vu cu b9 e9 y0 y1) (okc 1 sg_ (fun z9 => decide (1 ≤ z9) && (decide (wy ≠ 0) || (!tl || gs z9)))) (x0 + b1 + 1 + n1) x1 ≤ dpS (fun b9 e9 => mS vu cu b9 e9 y0 y1) (okc 1 sg_ (fun z9 => decide (1 ≤ z9) && (decide (wy ≠ 0) || (!tl || gs z9)))) (fun p9 => dpV (fun b9 e9 => mS vu cu b9 e9 y0 y1) (okc 1 sg_ (fun z9 => decide (1 ≤ z9) && (decide (wy ≠ 0) || (!tl || gs z9)))) p9 x1) (x0 + b1) (dpV (fun b9 e9 => mS vu cu b9 e9 y0 y1) (okc 1 sg_ (fun z9 => decide (1 ≤ z9) && (decide (wy ≠ 0) || (!tl || gs z9)))) (x0 + b1 + 1) x1) n1 := Int.le_trans (dpV_mono n1 (x0 + b1 + 1) (by omega)) (dpS_ge n1)
              have hcu : dpS (fun b9 e9 => mS vu cu b9 e9 y0 y1) (okc 1 sg_ (fun z9 => decide (1 ≤ z9) && (decide (wy ≠ 0) || (!tl || gs z9)))) (fun p9 => dpV (fun b9 e9 => mS vu cu b9 e9 y0 y1) (okc 1 sg_ (fun z9 => decide (1 ≤ z9) && (decide (wy ≠ 0) || (!tl || gs z9)))) p9 x1) (x0 + b1) (dpV (fun b9 e9 => mS vu cu b9 e9 y0 y1) (okc 1 sg_ (fun z9 => decide (1 ≤ z9) && (decide (wy ≠ 0) || (!tl || gs z9)))) (x0 + b1 + 1) x1) n1 ≤ 30000000000000000 := dpS_le n1 (by have := hdv (x0 + b1 + 1) (by omega) (by omega); omega) (fun j hj => by have a1 := mS_le (gO (x0 + b1) (x0 + b1 + 1 + j) (by omega) (by omega) (by omega)); have a2 := hdv (x0 + b1 + 1 + j) (by omega) (by omega); show (fun b9 e9 => mS vu cu b9 e9 y0 y1) (x0 + b1) (x0 + b1 + 1 + j) + dpV (fun b9 e9 => mS vu cu b9 e9 y0 y1) (okc 1 sg_ (fun z9 => decide (1 ≤ z9) && (decide (wy ≠ 0) || (!tl || gs z9)))) (x0 + b1 + 1 + j) x1 ≤ 30000000000000000; have a3 : (fun b9 e9 => mS vu cu b9 e9 y0 y1) (x0 + b1) (x0 + b1 + 1 + j) ≤ 1100000000000000 := a1; omega)
              refine lv_aload_n hx hb d_Model_reckon_121 rfl (lv_at hl 0 rfl) ?_
              refine lv_iload hx hb d_Model_reckon_122 (lv_at hl 6 rfl) ?_
              refine lv_iload_n hx hb d_Model_reckon_124 rfl (lv_at hl 2 rfl) ?_
              refine lv_iload_n hx hb d_Model_reckon_125 rfl (lv_at hl 3 rfl) ?_
              refine lv_iload hx hb d_Model_reckon_126 (lv_at hl 4 rfl) ?_
              refine lv_iload hx hb d_Model_reckon_128 (lv_at hl 5 rfl) ?_
              refine lv_iload hx hb d_Model_reckon_130 (lv_at hl 9 rfl) ?_
              refine lv_iload hx hb d_Model_reckon_132 (lv_at hl 10 rfl) ?_
              refine vp_callSi (W.runV (As := [.int (nI 0), .int (nI x0), .int (nI x1), .int (nI y0), .int (nI y1), .int (nI b1), .int (nI (b1 + 1 + n1))]) (rest := []) ⟨hx, hb, hml, hown, hts⟩ (c_segment0 l G ty hM cd st al ac nf ns tl.toNat mg bw md wy sg_ sz_ ks bd aM x0 x1 y0 y1 b1 (b1 + 1 + n1) ) ⟨callB_of 7 hts (gd_TB cd_Model_segment) rfl rfl rfl (hts _ ini_Model) (hts _ lk_Model_199) hd_Model_segment ⟨Nat.le_of_ble_eq_true rfl, Nat.le_of_ble_eq_true rfl⟩, hts _ im_Model_segment, hts _ sl_Model_segment⟩ (preV_ro (hP.sub (ws' := [(hM, .inr (10, mO cd st al ac nf ns tl.toNat mg bw md wy sg_ sz_ ks bd aM))]) [0] rfl) hX 0 rfl rfl) rfl rfl hl.1 rfl (lv_room (Nat.le_of_ble_eq_true rfl)) d_Model_reckon_134 ⟨Nat.le_of_ble_eq_true rfl, Nat.le_of_ble_eq_true rfl⟩) (fun r9 er9 => ?_)
              subst er9
              refine top_i (show (nI (((25 * (x0 + b1) + (x0 + (b1 + 1 + n1))) * 11 + y0) * 11 + y1)) = (nI at_) from congrArg nI eat.symm) ?_
              refine lv_istore (lv' := [(11, .int (nI at_)), (0, .ref hM), (1, .int (nI 1)), (2, .int (nI x0)), (3, .int (nI x1)), (4, .int (nI y0)), (5, .int (nI y1)), (6, .int (nI 0)), (7, .int (nI (x1 - x0))), (8, .int (nI 32)), (9, .int (nI b1)), (10, .int (nI (b1 + 1 + n1)))]) hx hb d_Model_reckon_137 hl (by decide) rfl (fun ls hl => ?_)
              refine lv_aload_n hx hb d_Model_reckon_139 rfl (lv_at hl 1 rfl) ?_
              refine lv_iload_n hx hb d_Model_reckon_140 rfl (lv_at hl 2 rfl) ?_
              refine lv_iconst (v := (nI 1)) hx hb d_Model_reckon_141 (by decide) ?_
              refine n_isub hx hb (by omega) d_Model_reckon_142 ?_
              refine top_i (show (nI (1 - 1)) = nI 0 from rfl) ?_
              refine lv_iload hx hb d_Model_reckon_143 (lv_at hl 0 rfl) ?_
              refine vp_callSi (W.runV (As := [.int (nI 0), .int (nI at_)]) (rest := []) ⟨hx, hb, hml, hown, hts⟩ (c_countBy0 l G ty hM cd st al ac nf ns tl.toNat mg bw md wy sg_ sz_ ks bd aM at_ cu (by omega)) ⟨callB_of 2 hts (gd_TB cd_Model_countBy) rfl rfl rfl (hts _ ini_Model) (hts _ lk_Model_203) hd_Model_countBy ⟨Nat.le_of_ble_eq_true rfl, Nat.le_of_ble_eq_true rfl⟩, hts _ im_Model_countBy, hts _ sl_Model_countBy⟩ (preV_ro (hP.sub (ws' := [(hM, .inr (10, mO cd st al ac nf ns tl.toNat mg bw md wy sg_ sz_ ks bd aM)), (aM 25, .inl (ty 0, 75625, .inl (nF cu)))]) [0, 2] rfl) hX 0 rfl rfl) rfl rfl hl.1 rfl (lv_room (Nat.le_of_ble_eq_true rfl)) d_Model_reckon_145 ⟨Nat.le_of_ble_eq_true rfl, Nat.le_of_ble_eq_true rfl⟩) (fun r9 er9 => ?_)
              subst er9
              refine lv_istore (lv' := [(12, .int (nI (cu at_))), (11, .int (nI at_)), (0, .ref hM), (1, .int (nI 1)), (2, .int (nI x0)), (3, .int (nI x1)), (4, .int (nI y0)), (5, .int (nI y1)), (6, .int (nI 0)), (7, .int (nI (x1 - x0))), (8, .int (nI 32)), (9, .int (nI b1)), (10, .int (nI (b1 + 1 + n1)))]) hx hb d_Model_reckon_148 hl (by decide) rfl (fun ls hl => ?_)
              refine lv_iload hx hb d_Model_reckon_150 (lv_at hl 0 rfl) ?_
              refine n_if_le (tgt := 276) hx hb (by omega) d_Model_reckon_152 (by decide) (fun c152 => ?_) (fun c152 => ?_)
              · have hE2 : 1024 * va - (ca : Int) = dpS (fun b9 e9 => mS vu cu b9 e9 y0 y1) (okc 1 sg_ (fun z9 => decide (1 ≤ z9) && (decide (wy ≠ 0) || (!tl || gs z9)))) (fun p9 => dpV (fun b9 e9 => mS vu cu b9 e9 y0 y1) (okc 1 sg_ (fun z9 => decide (1 ≤ z9) && (decide (wy ≠ 0) || (!tl || gs z9)))) p9 x1) (x0 + b1) (dpV (fun b9 e9 => mS vu cu b9 e9 y0 y1) (okc 1 sg_ (fun z9 => decide (1 ≤ z9) && (decide (wy ≠ 0) || (!tl || gs z9)))) (x0 + b1 + 1) x1) (n1 + 1) := by rw [dpS_s, if_neg]; exact hE; intro hh; first | omega | exact absurd hh.2.2 (by rw [show (okc 1 sg_ (fun z9 => decide (1 ≤ z9) && (decide (wy ≠ 0) || (!tl || gs z9)))) (n1 + 1) = false from tN_0 c165]; decide)
                have hc2 := hca
                have h02 := h00
                refine lv_iinc (v := (nI ((b1 + 1 + n1) + 1))) (lv' := [(10, .int (nI ((b1 + 1 + n1) + 1))), (12, .int (nI (cu at_))), (11, .int (nI at_)), (0, .ref hM), (1, .int (nI 1)), (2, .int (nI x0)), (3, .int (nI x1)), (4, .int (nI y0)), (5, .int (nI y1)), (6, .int (nI 0)), (7, .int (nI (x1 - x0))), (8, .int (nI 32)), (9, .int (nI b1))]) hx hb d_Model_reckon_276 hl (k := 12) rfl (nI_inc _ _ _ (by omega)) (by decide) rfl (fun ls hl => ?_)
                refine lv_goto (tgt := 114) hx hb d_Model_reckon_279 (by decide) ?_
                exact ih114 (n1 + 1) va ca _ _ _ (by omega) hE2 hc2 h02 (by omega) hP hD hS (lv_sub hl [3, 4, 5, 6, 7, 8, 9, 10, 11, 12, 0] rfl)
              · refine lv_aload_n hx hb d_Model_reckon_155 rfl (lv_at hl 2 rfl) ?_
                refine lv_iload_n hx hb d_Model_reckon_156 rfl (lv_at hl 3 rfl) ?_
                refine lv_iload hx hb d_Model_reckon_157 (lv_at hl 12 rfl) ?_
                refine lv_iload hx hb d_Model_reckon_159 (lv_at hl 11 rfl) ?_
                refine n_isub hx hb (by omega) d_Model_reckon_161 ?_
                refine top_i (show (nI ((b1 + 1 + n1) - b1)) = (nI (n1 + 1)) from congrArg nI (by omega)) ?_
                refine vp_callSi (W.runV (As := [.int (nI 1), .int (nI (n1 + 1))]) (rest := []) ⟨hx, hb, hml, hown, hts⟩ (c_Model_isCut l G ty hM cd st al ac nf ns 0 mg bw md wy sg_ sz_ ks bd aM 1 (n1 + 1) gs tl (by omega) (by omega) (by omega) (by omega) (by omega)) ⟨callB_of 2 hts (gd_TB cd_Model_isCut) rfl rfl rfl (hts _ ini_Model) (hts _ lk_Model_207) hd_Model_isCut ⟨Nat.le_of_ble_eq_true rfl, Nat.le_of_ble_eq_true rfl⟩, hts _ im_Model_isCut, hts _ sl_Model_isCut⟩ (preV_ro (hP.sub (ws' := [(hM, .inr (10, mO cd st al ac nf ns tl.toNat mg bw md wy sg_ sz_ ks bd aM)), (aM 20, .inl (ty 2, 65537, .inl (bF gs)))]) [0, 5] rfl) hX 0 rfl rfl) rfl rfl hl.1 rfl (lv_room (Nat.le_of_ble_eq_true rfl)) d_Model_reckon_162 ⟨Nat.le_of_ble_eq_true rfl, Nat.le_of_ble_eq_true rfl⟩) (fun r9 er9 => ?_)
                subst er9
                refine n_if_eq (tgt := 276) hx hb (tN_lt _) d_Model_reckon_165 (by decide) (fun c165 => ?_) (fun c165 => ?_)
                · have hE2 : 1024 * va - (ca : Int) = dpS (fun b9 e9 => mS vu cu b9 e9 y0 y1) (okc 1 sg_ (fun z9 => decide (1 ≤ z9) && (decide (wy ≠ 0) || (!tl || gs z9)))) (fun p9 => dpV (fun b9 e9 => mS vu cu b9 e9 y0 y1) (okc 1 sg_ (fun z9 => decide (1 ≤ z9) && (decide (wy ≠ 0) || (!tl || gs z9)))) p9 x1) (x0 + b1) (dpV (fun b9 e9 => mS vu cu b9 e9 y0 y1) (okc 1 sg_ (fun z9 => decide (1 ≤ z9) && (decide (wy ≠ 0) || (!tl || gs z9)))) (x0 + b1 + 1) x1) (n1 + 1) := by rw [dpS_s, if_neg]; exact hE; intro hh; first | omega | exact absurd hh.2.2 (by rw [show (okc 1 sg_ (fun z9 => decide (1 ≤ z9) && (decide (wy ≠ 0) || (!tl || gs z9)))) (n1 + 1) = false from tN_0 c165]; decide)
                  have hc2 := hca
                  have h02 := h00
                  refine lv_iinc (v := (nI ((b1 + 1 + n1) + 1))) (lv' := [(10, .int (nI ((b1 + 1 + n1) + 1))), (12, .int (nI (cu at_))), (11, .int (nI at_)), (0, .ref hM), (1, .int (nI 1)), (2, .int (nI x0)), (3, .int (nI x1)), (4, .int (nI y0)), (5, .int (nI y1)), (6, .int (nI 0)), (7, .int (nI (x1 - x0))), (8, .int (nI 32)), (9, .int (nI b1))]) hx hb d_Model_reckon_276 hl (k := 12) rfl (nI_inc _ _ _ (by omega)) (by decide) rfl (fun ls hl => ?_)
                  refine lv_goto (tgt := 114) hx hb d_Model_reckon_279 (by decide) ?_
                  exact ih114 (n1 + 1) va ca _ _ _ (by omega) hE2 hc2 h02 (by omega) hP hD hS (lv_sub hl [3, 4, 5, 6, 7, 8, 9, 10, 11, 12, 0] rfl)
                · refine lv_aload_n hx hb d_Model_reckon_168 rfl (lv_at hl 2 rfl) ?_
                  refine va_get (D := G) (ci := 10) (v := .ref (aM 31)) (C := R_Model) (T := F_Model) (N := 47) hx hb hts in_Model hown hK hP 0 rfl rfl 31 (by decide) (hts _ fl_Model_85) (fun _ h9 => h9) rfl d_Model_reckon_169 ?_
                  refine lv_iload hx hb d_Model_reckon_172 (lv_at hl 10 rfl) ?_
                  refine lv_iload hx hb d_Model_reckon_174 (lv_at hl 12 rfl) ?_
                  refine n_iadd hx hb d_Model_reckon_176 ?_
                  refine n_lald hx hb hK hP 3 1 rfl rfl (by omega) (by omega) d_Model_reckon_177 ?_
                  refine top_l (show (iL ((va_up re2 (32 + b1) va) (32 + (b1 + 1 + n1)))) = (iL (re2 (32 + (b1 + 1 + n1)))) from congrArg iL (va_up_ne _ _ (by omega))) ?_
                  refine lv_aload_n hx hb d_Model_reckon_178 rfl (lv_at hl 2 rfl) ?_
                  refine lv_iload_n hx hb d_Model_reckon_179 rfl (lv_at hl 3 rfl) ?_
                  refine lv_iconst (v := (nI 1)) hx hb d_Model_reckon_180 (by decide) ?_
                  refine n_isub hx hb (by omega) d_Model_reckon_181 ?_
                  refine top_i (show (nI (1 - 1)) = nI 0 from rfl) ?_
                  refine lv_iload hx hb d_Model_reckon_182 (lv_at hl 1 rfl) ?_
                  refine vp_callSl (W.runV (As := [.int (nI 0), .int (nI at_)]) (rest := [.long (iL (re2 (32 + (b1 + 1 + n1))))]) ⟨hx, hb, hml, hown, hts⟩ (c_valueBy0 l G ty hM cd st al ac nf ns tl.toNat mg bw md wy sg_ sz_ ks bd aM at_ vu (by omega)) ⟨callB_of 2 hts (gd_TB cd_Model_valueBy) rfl rfl rfl (hts _ ini_Model) (hts _ lk_Model_211) hd_Model_valueBy ⟨Nat.le_of_ble_eq_true rfl, Nat.le_of_ble_eq_true rfl⟩, hts _ im_Model_valueBy, hts _ sl_Model_valueBy⟩ (preV_ro (hP.sub (ws' := [(hM, .inr (10, mO cd st al ac nf ns tl.toNat mg bw md wy sg_ sz_ ks bd aM)), (aM 24, .inl (ty 1, 75625, .inr (.inl (lF vu))))]) [0, 1] rfl) hX 0 rfl rfl) rfl rfl hl.1 rfl (lv_room (Nat.le_of_ble_eq_true rfl)) d_Model_reckon_184 ⟨Nat.le_of_ble_eq_true rfl, Nat.le_of_ble_eq_true rfl⟩) (fun r9 er9 => ?_)
                  subst er9
                  refine z_ladd hx hb d_Model_reckon_187 ?_
                  refine lv_lstore (lv' := [(13, .long (iL ((re2 (32 + (b1 + 1 + n1))) + (vu at_)))), (12, .int (nI (cu at_))), (11, .int (nI at_)), (0, .ref hM), (1, .int (nI 1)), (2, .int (nI x0)), (3, .int (nI x1)), (4, .int (nI y0)), (5, .int (nI y1)), (6, .int (nI 0)), (7, .int (nI (x1 - x0))), (8, .int (nI 32)), (9, .int (nI b1)), (10, .int (nI (b1 + 1 + n1)))]) hx hb d_Model_reckon_188 hl (by decide) rfl (fun ls hl => ?_)
                  refine lv_aload_n hx hb d_Model_reckon_190 rfl (lv_at hl 3 rfl) ?_
                  refine va_get (D := G) (ci := 10) (v := .ref (aM 32)) (C := R_Model) (T := F_Model) (N := 47) hx hb hts in_Model hown hK hP 0 rfl rfl 32 (by decide) (hts _ fl_Model_88) (fun _ h9 => h9) rfl d_Model_reckon_191 ?_
                  refine lv_iload hx hb d_Model_reckon_194 (lv_at hl 11 rfl) ?_
                  refine lv_iload hx hb d_Model_reckon_196 (lv_at hl 13 rfl) ?_
                  refine n_iadd hx hb d_Model_reckon_198 ?_
                  refine n_iald hx hb hK hP 4 0 rfl rfl (by omega) (by omega) d_Model_reckon_199 ?_
                  refine top_i (show (nI ((va_up rc2 (32 + b1) ca) (32 + (b1 + 1 + n1)))) = (nI (rc2 (32 + (b1 + 1 + n1)))) from congrArg nI (va_up_ne _ _ (by omega))) ?_
                  refine lv_iload hx hb d_Model_reckon_200 (lv_at hl 1 rfl) ?_
                  refine n_iadd hx hb d_Model_reckon_202 ?_
                  refine lv_istore (lv' := [(15, .int (nI ((rc2 (32 + (b1 + 1 + n1))) + (cu at_)))), (13, .long (iL ((re2 (32 + (b1 + 1 + n1))) + (vu at_)))), (12, .int (nI (cu at_))), (11, .int (nI at_)), (0, .ref hM), (1, .int (nI 1)), (2, .int (nI x0)), (3, .int (nI x1)), (4, .int (nI y0)), (5, .int (nI y1)), (6, .int (nI 0)), (7, .int (nI (x1 - x0))), (8, .int (nI 32)), (9, .int (nI b1)), (10, .int (nI (b1 + 1 + n1)))]) hx hb d_Model_reckon_203 hl (by decide) rfl (fun ls hl => ?_)
                  refine lv_lload hx hb d_Model_reckon_205 (lv_at hl 1 rfl) ?_
                  refine lv_aload_n hx hb d_Model_reckon_207 rfl (lv_at hl 4 rfl) ?_
                  refine va_get (D := G) (ci := 10) (v := .ref (aM 31)) (C := R_Model) (T := F_Model) (N := 47) hx hb hts in_Model hown hK hP 0 rfl rfl 31 (by decide) (hts _ fl_Model_85) (fun _ h9 => h9) rfl d_Model_reckon_208 ?_
                  refine lv_iload hx hb d_Model_reckon_211 (lv_at hl 12 rfl) ?_
                  refine lv_iload hx hb d_Model_reckon_213 (lv_at hl 13 rfl) ?_
                  refine n_iadd hx hb d_Model_reckon_215 ?_
                  refine n_lald hx hb hK hP 3 1 rfl rfl (by omega) (by omega) d_Model_reckon_216 ?_
                  refine top_l (show (iL ((va_up re2 (32 + b1) va) (32 + b1))) = (iL va) from congrArg iL (va_up_self _ _ _)) ?_
                  refine l_cmp_gt (tgt := 252) hx hb (by omega) (by omega) d_Model_reckon_217 d_Model_reckon_218 (by decide) (fun c217 => ?_) (fun c217 => ?_)
                  · refine lv_aload_n hx hb d_Model_reckon_252 rfl (lv_at hl 4 rfl) ?_
                    refine va_get (D := G) (ci := 10) (v := .ref (aM 31)) (C := R_Model) (T := F_Model) (N := 47) hx hb hts in_Model hown hK hP 0 rfl rfl 31 (by decide) (hts _ fl_Model_85) (fun _ h9 => h9) rfl d_Model_reckon_253 ?_
                    refine lv_iload hx hb d_Model_reckon_256 (lv_at hl 12 rfl) ?_
                    refine lv_iload hx hb d_Model_reckon_258 (lv_at hl 13 rfl) ?_
                    refine n_iadd hx hb d_Model_reckon_260 ?_
                    refine lv_lload hx hb d_Model_reckon_261 (lv_at hl 1 rfl) ?_
                    refine n_last hx hb hK hP hD hS 3 1 rfl rfl (by omega) (by omega) d_Model_reckon_263 (fun H locs hP hD hS => ?_)
                    rw [upd_lF] at hP hD
                    have hP : va_P G vwCl [(hM, .inr (10, mO cd st al ac nf ns tl.toNat mg bw md wy sg_ sz_ ks bd aM)), (aM 24, .inl (ty 1, 75625, .inr (.inl (lF vu)))), (aM 25, .inl (ty 0, 75625, .inl (nF cu))), (aM 31, .inl (ty 1, 128, .inr (.inl (lF (va_up (va_up re2 (32 + b1) va) (32 + b1) ((re2 (32 + (b1 + 1 + n1))) + (vu at_))))))), (aM 32, .inl (ty 0, 128, .inl (nF (va_up rc2 (32 + b1) ca)))), (aM 20, .inl (ty 2, 65537, .inl (bF gs)))] _ := hP
                    have hD : va_D A [(hM, .inr (10, mO cd st al ac nf ns tl.toNat mg bw md wy sg_ sz_ ks bd aM)), (aM 24, .inl (ty 1, 75625, .inr (.inl (lF vu)))), (aM 25, .inl (ty 0, 75625, .inl (nF cu))), (aM 31, .inl (ty 1, 128, .inr (.inl (lF (va_up (va_up re2 (32 + b1) va) (32 + b1) ((re2 (32 + (b1 + 1 + n1))) + (vu at_))))))), (aM 32, .inl (ty 0, 128, .inl (nF (va_up rc2 (32 + b1) ca)))), (aM 20, .inl (ty 2, 65537, .inl (bF gs)))] := hD
                    refine lv_aload_n hx hb d_Model_reckon_264 rfl (lv_at hl 4 rfl) ?_
                    refine va_get (D := G) (ci := 10) (v := .ref (aM 32)) (C := R_Model) (T := F_Model) (N := 47) hx hb hts in_Model hown hK hP 0 rfl rfl 32 (by decide) (hts _ fl_Model_88) (fun _ h9 => h9) rfl d_Model_reckon_265 ?_
                    refine lv_iload hx hb d_Model_reckon_268 (lv_at hl 12 rfl) ?_
                    refine lv_iload hx hb d_Model_reckon_270 (lv_at hl 13 rfl) ?_
                    refine n_iadd hx hb d_Model_reckon_272 ?_
                    refine lv_iload hx hb d_Model_reckon_273 (lv_at hl 0 rfl) ?_
                    refine n_iast hx hb hK hP hD hS 4 0 rfl rfl (by omega) (by omega) d_Model_reckon_275 (fun H locs hP hD hS => ?_)
                    rw [upd_nF] at hP hD
                    have hP : va_P G vwCl [(hM, .inr (10, mO cd st al ac nf ns tl.toNat mg bw md wy sg_ sz_ ks bd aM)), (aM 24, .inl (ty 1, 75625, .inr (.inl (lF vu)))), (aM 25, .inl (ty 0, 75625, .inl (nF cu))), (aM 31, .inl (ty 1, 128, .inr (.inl (lF (va_up (va_up re2 (32 + b1) va) (32 + b1) ((re2 (32 + (b1 + 1 + n1))) + (vu at_))))))), (aM 32, .inl (ty 0, 128, .inl (nF (va_up (va_up rc2 (32 + b1) ca) (32 + b1) ((rc2 (32 + (b1 + 1 + n1))) + (cu at_)))))), (aM 20, .inl (ty 2, 65537, .inl (bF gs)))] _ := hP
                    have hD : va_D A [(hM, .inr (10, mO cd st al ac nf ns tl.toNat mg bw md wy sg_ sz_ ks bd aM)), (aM 24, .inl (ty 1, 75625, .inr (.inl (lF vu)))), (aM 25, .inl (ty 0, 75625, .inl (nF cu))), (aM 31, .inl (ty 1, 128, .inr (.inl (lF (va_up (va_up re2 (32 + b1) va) (32 + b1) ((re2 (32 + (b1 + 1 + n1))) + (vu at_))))))), (aM 32, .inl (ty 0, 128, .inl (nF (va_up (va_up rc2 (32 + b1) ca) (32 + b1) ((rc2 (32 + (b1 + 1 + n1))) + (cu at_)))))), (aM 20, .inl (ty 2, 65537, .inl (bF gs)))] := hD
                    have hP : va_P G vwCl [(hM, .inr (10, mO cd st al ac nf ns tl.toNat mg bw md wy sg_ sz_ ks bd aM)), (aM 24, .inl (ty 1, 75625, .inr (.inl (lF vu)))), (aM 25, .inl (ty 0, 75625, .inl (nF cu))), (aM 31, .inl (ty 1, 128, .inr (.inl (lF (va_up re2 (32 + b1) (re2 (32 + (b1 + 1 + n1)) + vu at_)))))), (aM 32, .inl (ty 0, 128, .inl (nF (va_up rc2 (32 + b1) (rc2 (32 + (b1 + 1 + n1)) + cu at_))))), (aM 20, .inl (ty 2, 65537, .inl (bF gs)))] H := by rw [va_up_up, va_up_up] at hP; exact hP
                    have hD : va_D A [(hM, .inr (10, mO cd st al ac nf ns tl.toNat mg bw md wy sg_ sz_ ks bd aM)), (aM 24, .inl (ty 1, 75625, .inr (.inl (lF vu)))), (aM 25, .inl (ty 0, 75625, .inl (nF cu))), (aM 31, .inl (ty 1, 128, .inr (.inl (lF (va_up re2 (32 + b1) (re2 (32 + (b1 + 1 + n1)) + vu at_)))))), (aM 32, .inl (ty 0, 128, .inl (nF (va_up rc2 (32 + b1) (rc2 (32 + (b1 + 1 + n1)) + cu at_))))), (aM 20, .inl (ty 2, 65537, .inl (bF gs)))] := by rw [va_up_up, va_up_up] at hD; exact hD
                    have hE2 : 1024 * (re2 (32 + (b1 + 1 + n1)) + vu at_) - ((rc2 (32 + (b1 + 1 + n1)) + cu at_ : Nat) : Int) = dpS (fun b9 e9 => mS vu cu b9 e9 y0 y1) (okc 1 sg_ (fun z9 => decide (1 ≤ z9) && (decide (wy ≠ 0) || (!tl || gs z9)))) (fun p9 => dpV (fun b9 e9 => mS vu cu b9 e9 y0 y1) (okc 1 sg_ (fun z9 => decide (1 ≤ z9) && (decide (wy ≠ 0) || (!tl || gs z9)))) p9 x1) (x0 + b1) (dpV (fun b9 e9 => mS vu cu b9 e9 y0 y1) (okc 1 sg_ (fun z9 => decide (1 ≤ z9) && (decide (wy ≠ 0) || (!tl || gs z9)))) (x0 + b1 + 1) x1) (n1 + 1) := by rw [dpS_s, if_pos ⟨by omega, by omega, tN_1 c165⟩]; omega
                    have hc2 : rc2 (32 + (b1 + 1 + n1)) + cu at_ ≤ (y1 - y0) * (x1 - x0 - b1) := by omega
                    have h02 : rc2 (32 + (b1 + 1 + n1)) + cu at_ = 0 → re2 (32 + (b1 + 1 + n1)) + vu at_ = 0 := by omega
                    refine lv_iinc (v := (nI ((b1 + 1 + n1) + 1))) (lv' := [(10, .int (nI ((b1 + 1 + n1) + 1))), (15, .int (nI ((rc2 (32 + (b1 + 1 + n1))) + (cu at_)))), (13, .long (iL ((re2 (32 + (b1 + 1 + n1))) + (vu at_)))), (12, .int (nI (cu at_))), (11, .int (nI at_)), (0, .ref hM), (1, .int (nI 1)), (2, .int (nI x0)), (3, .int (nI x1)), (4, .int (nI y0)), (5, .int (nI y1)), (6, .int (nI 0)), (7, .int (nI (x1 - x0))), (8, .int (nI 32)), (9, .int (nI b1))]) hx hb d_Model_reckon_276 hl (k := 14) rfl (nI_inc _ _ _ (by omega)) (by decide) rfl (fun ls hl => ?_)
                    refine lv_goto (tgt := 114) hx hb d_Model_reckon_279 (by decide) ?_
                    exact ih114 (n1 + 1) (re2 (32 + (b1 + 1 + n1)) + vu at_) (rc2 (32 + (b1 + 1 + n1)) + cu at_) _ _ _ (by omega) hE2 hc2 h02 (by omega) hP hD hS (lv_sub hl [5, 6, 7, 8, 9, 10, 11, 12, 13, 14, 0] rfl)
                  · refine lv_lload hx hb d_Model_reckon_221 (lv_at hl 1 rfl) ?_
                    refine lv_aload_n hx hb d_Model_reckon_223 rfl (lv_at hl 4 rfl) ?_
                    refine va_get (D := G) (ci := 10) (v := .ref (aM 31)) (C := R_Model) (T := F_Model) (N := 47) hx hb hts in_Model hown hK hP 0 rfl rfl 31 (by decide) (hts _ fl_Model_85) (fun _ h9 => h9) rfl d_Model_reckon_224 ?_
                    refine lv_iload hx hb d_Model_reckon_227 (lv_at hl 12 rfl) ?_
                    refine lv_iload hx hb d_Model_reckon_229 (lv_at hl 13 rfl) ?_
                    refine n_iadd hx hb d_Model_reckon_231 ?_
                    refine n_lald hx hb hK hP 3 1 rfl rfl (by omega) (by omega) d_Model_reckon_232 ?_
                    refine top_l (show (iL ((va_up re2 (32 + b1) va) (32 + b1))) = (iL va) from congrArg iL (va_up_self _ _ _)) ?_
                    refine l_cmp_ne (tgt := 276) hx hb (by omega) (by omega) d_Model_reckon_233 d_Model_reckon_234 (by decide) (fun c233 => ?_) (fun c233 => ?_)
                    · have hE2 : 1024 * va - (ca : Int) = dpS (fun b9 e9 => mS vu cu b9 e9 y0 y1) (okc 1 sg_ (fun z9 => decide (1 ≤ z9) && (decide (wy ≠ 0) || (!tl || gs z9)))) (fun p9 => dpV (fun b9 e9 => mS vu cu b9 e9 y0 y1) (okc 1 sg_ (fun z9 => decide (1 ≤ z9) && (decide (wy ≠ 0) || (!tl || gs z9)))) p9 x1) (x0 + b1) (dpV (fun b9 e9 => mS vu cu b9 e9 y0 y1) (okc 1 sg_ (fun z9 => decide (1 ≤ z9) && (decide (wy ≠ 0) || (!tl || gs z9)))) (x0 + b1 + 1) x1) (n1 + 1) := by rw [dpS_s, if_neg]; exact hE; intro hh; first | omega | exact absurd hh.2.2 (by rw [show (okc 1 sg_ (fun z9 => decide (1 ≤ z9) && (decide (wy ≠ 0) || (!tl || gs z9)))) (n1 + 1) = false from tN_0 c165]; decide)
                      have hc2 := hca
                      have h02 := h00
                      refine lv_iinc (v := (nI ((b1 + 1 + n1) + 1))) (lv' := [(10, .int (nI ((b1 + 1 + n1) + 1))), (15, .int (nI ((rc2 (32 + (b1 + 1 + n1))) + (cu at_)))), (13, .long (iL ((re2 (32 + (b1 + 1 + n1))) + (vu at_)))), (12, .int (nI (cu at_))), (11, .int (nI at_)), (0, .ref hM), (1, .int (nI 1)), (2, .int (nI x0)), (3, .int (nI x1)), (4, .int (nI y0)), (5, .int (nI y1)), (6, .int (nI 0)), (7, .int (nI (x1 - x0))), (8, .int (nI 32)), (9, .int (nI b1))]) hx hb d_Model_reckon_276 hl (k := 14) rfl (nI_inc _ _ _ (by omega)) (by decide) rfl (fun ls hl => ?_)
                      refine lv_goto (tgt := 114) hx hb d_Model_reckon_279 (by decide) ?_
                      exact ih114 (n1 + 1) va ca _ _ _ (by omega) hE2 hc2 h02 (by omega) hP hD hS (lv_sub hl [5, 6, 7, 8, 9, 10, 11, 12, 13, 14, 0] rfl)
                    · refine lv_iload hx hb d_Model_reckon_237 (lv_at hl 0 rfl) ?_
                      refine lv_aload_n hx hb d_Model_reckon_239 rfl (lv_at hl 4 rfl) ?_
                      refine va_get (D := G) (ci := 10) (v := .ref (aM 32)) (C := R_Model) (T := F_Model) (N := 47) hx hb hts in_Model hown hK hP 0 rfl rfl 32 (by decide) (hts _ fl_Model_88) (fun _ h9 => h9) rfl d_Model_reckon_240 ?_
                      refine lv_iload hx hb d_Model_reckon_243 (lv_at hl 12 rfl) ?_
                      refine lv_iload hx hb d_Model_reckon_245 (lv_at hl 13 rfl) ?_
                      refine n_iadd hx hb d_Model_reckon_247 ?_
                      refine n_iald hx hb hK hP 4 0 rfl rfl (by omega) (by omega) d_Model_reckon_248 ?_
                      refine top_i (show (nI ((va_up rc2 (32 + b1) ca) (32 + b1))) = (nI ca) from congrArg nI (va_up_self _ _ _)) ?_
                      refine n_icmp_ge (tgt := 276) hx hb (by omega) (by omega) d_Model_reckon_249 (by decide) (fun c249 => ?_) (fun c249 => ?_)
                      · have hE2 : 1024 * va - (ca : Int) = dpS (fun b9 e9 => mS vu cu b9 e9 y0 y1) (okc 1 sg_ (fun z9 => decide (1 ≤ z9) && (decide (wy ≠ 0) || (!tl || gs z9)))) (fun p9 => dpV (fun b9 e9 => mS vu cu b9 e9 y0 y1) (okc 1 sg_ (fun z9 => decide (1 ≤ z9) && (decide (wy ≠ 0) || (!tl || gs z9)))) p9 x1) (x0 + b1) (dpV (fun b9 e9 => mS vu cu b9 e9 y0 y1) (okc 1 sg_ (fun z9 => decide (1 ≤ z9) && (decide (wy ≠ 0) || (!tl || gs z9)))) (x0 + b1 + 1) x1) (n1 + 1) := by rw [dpS_s, if_neg]; exact hE; intro hh; first | omega | exact absurd hh.2.2 (by rw [show (okc 1 sg_ (fun z9 => decide (1 ≤ z9) && (decide (wy ≠ 0) || (!tl || gs z9)))) (n1 + 1) = false from tN_0 c165]; decide)
                        have hc2 := hca
                        have h02 := h00
                        refine lv_iinc (v := (nI ((b1 + 1 + n1) + 1))) (lv' := [(10, .int (nI ((b1 + 1 + n1) + 1))), (15, .int (nI ((rc2 (32 + (b1 + 1 + n1))) + (cu at_)))), (13, .long (iL ((re2 (32 + (b1 + 1 + n1))) + (vu at_)))), (12, .int (nI (cu at_))), (11, .int (nI at_)), (0, .ref hM), (1, .int (nI 1)), (2, .int (nI x0)), (3, .int (nI x1)), (4, .int (nI y0)), (5, .int (nI y1)), (6, .int (nI 0)), (7, .int (nI (x1 - x0))), (8, .int (nI 32)), (9, .int (nI b1))]) hx hb d_Model_reckon_276 hl (k := 14) rfl (nI_inc _ _ _ (by omega)) (by decide) rfl (fun ls hl => ?_)
                        refine lv_goto (tgt := 114) hx hb d_Model_reckon_279 (by decide) ?_
                        exact ih114 (n1 + 1) va ca _ _ _ (by omega) hE2 hc2 h02 (by omega) hP hD hS (lv_sub hl [5, 6, 7, 8, 9, 10, 11, 12, 13, 14, 0] rfl)
                      · refine lv_aload_n hx hb d_Model_reckon_252 rfl (lv_at hl 4 rfl) ?_
                        refine va_get (D := G) (ci := 10) (v := .ref (aM 31)) (C := R_Model) (T := F_Model) (N := 47) hx hb hts in_Model hown hK hP 0 rfl rfl 31 (by decide) (hts _ fl_Model_85) (fun _ h9 => h9) rfl d_Model_reckon_253 ?_
                        refine lv_iload hx hb d_Model_reckon_256 (lv_at hl 12 rfl) ?_
                        refine lv_iload hx hb d_Model_reckon_258 (lv_at hl 13 rfl) ?_
                        refine n_iadd hx hb d_Model_reckon_260 ?_
                        refine lv_lload hx hb d_Model_reckon_261 (lv_at hl 1 rfl) ?_
                        refine n_last hx hb hK hP hD hS 3 1 rfl rfl (by omega) (by omega) d_Model_reckon_263 (fun H locs hP hD hS => ?_)
                        rw [upd_lF] at hP hD
                        have hP : va_P G vwCl [(hM, .inr (10, mO cd st al ac nf ns tl.toNat mg bw md wy sg_ sz_ ks bd aM)), (aM 24, .inl (ty 1, 75625, .inr (.inl (lF vu)))), (aM 25, .inl (ty 0, 75625, .inl (nF cu))), (aM 31, .inl (ty 1, 128, .inr (.inl (lF (va_up (va_up re2 (32 + b1) va) (32 + b1) ((re2 (32 + (b1 + 1 + n1))) + (vu at_))))))), (aM 32, .inl (ty 0, 128, .inl (nF (va_up rc2 (32 + b1) ca)))), (aM 20, .inl (ty 2, 65537, .inl (bF gs)))] _ := hP
                        have hD : va_D A [(hM, .inr (10, mO cd st al ac nf ns tl.toNat mg bw md wy sg_ sz_ ks bd aM)), (aM 24, .inl (ty 1, 75625, .inr (.inl (lF vu)))), (aM 25, .inl (ty 0, 75625, .inl (nF cu))), (aM 31, .inl (ty 1, 128, .inr (.inl (lF (va_up (va_up re2 (32 + b1) va) (32 + b1) ((re2 (32 + (b1 + 1 + n1))) + (vu at_))))))), (aM 32, .inl (ty 0, 128, .inl (nF (va_up rc2 (32 + b1) ca)))), (aM 20, .inl (ty 2, 65537, .inl (bF gs)))] := hD
                        refine lv_aload_n hx hb d_Model_reckon_264 rfl (lv_at hl 4 rfl) ?_
                        refine va_get (D := G) (ci := 10) (v := .ref (aM 32)) (C := R_Model) (T := F_Model) (N := 47) hx hb hts in_Model hown hK hP 0 rfl rfl 32 (by decide) (hts _ fl_Model_88) (fun _ h9 => h9) rfl d_Model_reckon_265 ?_
                        refine lv_iload hx hb d_Model_reckon_268 (lv_at hl 12 rfl) ?_
                        refine lv_iload hx hb d_Model_reckon_270 (lv_at hl 13 rfl) ?_
                        refine n_iadd hx hb d_Model_reckon_272 ?_
                        refine lv_iload hx hb d_Model_reckon_273 (lv_at hl 0 rfl) ?_
                        refine n_iast hx hb hK hP hD hS 4 0 rfl rfl (by omega) (by omega) d_Model_reckon_275 (fun H locs hP hD hS => ?_)
                        rw [upd_nF] at hP hD
                        have hP : va_P G vwCl [(hM, .inr (10, mO cd st al ac nf ns tl.toNat mg bw md wy sg_ sz_ ks bd aM)), (aM 24, .inl (ty 1, 75625, .inr (.inl (lF vu)))), (aM 25, .inl (ty 0, 75625, .inl (nF cu))), (aM 31, .inl (ty 1, 128, .inr (.inl (lF (va_up (va_up re2 (32 + b1) va) (32 + b1) ((re2 (32 + (b1 + 1 + n1))) + (vu at_))))))), (aM 32, .inl (ty 0, 128, .inl (nF (va_up (va_up rc2 (32 + b1) ca) (32 + b1) ((rc2 (32 + (b1 + 1 + n1))) + (cu at_)))))), (aM 20, .inl (ty 2, 65537, .inl (bF gs)))] _ := hP
                        have hD : va_D A [(hM, .inr (10, mO cd st al ac nf ns tl.toNat mg bw md wy sg_ sz_ ks bd aM)), (aM 24, .inl (ty 1, 75625, .inr (.inl (lF vu)))), (aM 25, .inl (ty 0, 75625, .inl (nF cu))), (aM 31, .inl (ty 1, 128, .inr (.inl (lF (va_up (va_up re2 (32 + b1) va) (32 + b1) ((re2 (32 + (b1 + 1 + n1))) + (vu at_))))))), (aM 32, .inl (ty 0, 128, .inl (nF (va_up (va_up rc2 (32 + b1) ca) (32 + b1) ((rc2 (32 + (b1 + 1 + n1))) + (cu at_)))))), (aM 20, .inl (ty 2, 65537, .inl (bF gs)))] := hD
                        have hP : va_P G vwCl [(hM, .inr (10, mO cd st al ac nf ns tl.toNat mg bw md wy sg_ sz_ ks bd aM)), (aM 24, .inl (ty 1, 75625, .inr (.inl (lF vu)))), (aM 25, .inl (ty 0, 75625, .inl (nF cu))), (aM 31, .inl (ty 1, 128, .inr (.inl (lF (va_up re2 (32 + b1) (re2 (32 + (b1 + 1 + n1)) + vu at_)))))), (aM 32, .inl (ty 0, 128, .inl (nF (va_up rc2 (32 + b1) (rc2 (32 + (b1 + 1 + n1)) + cu at_))))), (aM 20, .inl (ty 2, 65537, .inl (bF gs)))] H := by rw [va_up_up, va_up_up] at hP; exact hP
                        have hD : va_D A [(hM, .inr (10, mO cd st al ac nf ns tl.toNat mg bw md wy sg_ sz_ ks bd aM)), (aM 24, .inl (ty 1, 75625, .inr (.inl (lF vu)))), (aM 25, .inl (ty 0, 75625, .inl (nF cu))), (aM 31, .inl (ty 1, 128, .inr (.inl (lF (va_up re2 (32 + b1) (re2 (32 + (b1 + 1 + n1)) + vu at_)))))), (aM 32, .inl (ty 0, 128, .inl (nF (va_up rc2 (32 + b1) (rc2 (32 + (b1 + 1 + n1)) + cu at_))))), (aM 20, .inl (ty 2, 65537, .inl (bF gs)))] := by rw [va_up_up, va_up_up] at hD; exact hD
                        have hE2 : 1024 * (re2 (32 + (b1 + 1 + n1)) + vu at_) - ((rc2 (32 + (b1 + 1 + n1)) + cu at_ : Nat) : Int) = dpS (fun b9 e9 => mS vu cu b9 e9 y0 y1) (okc 1 sg_ (fun z9 => decide (1 ≤ z9) && (decide (wy ≠ 0) || (!tl || gs z9)))) (fun p9 => dpV (fun b9 e9 => mS vu cu b9 e9 y0 y1) (okc 1 sg_ (fun z9 => decide (1 ≤ z9) && (decide (wy ≠ 0) || (!tl || gs z9)))) p9 x1) (x0 + b1) (dpV (fun b9 e9 => mS vu cu b9 e9 y0 y1) (okc 1 sg_ (fun z9 => decide (1 ≤ z9) && (decide (wy ≠ 0) || (!tl || gs z9)))) (x0 + b1 + 1) x1) (n1 + 1) := by rw [dpS_s, if_pos ⟨by omega, by omega, tN_1 c165⟩]; omega
                        have hc2 : rc2 (32 + (b1 + 1 + n1)) + cu at_ ≤ (y1 - y0) * (x1 - x0 - b1) := by omega
                        have h02 : rc2 (32 + (b1 + 1 + n1)) + cu at_ = 0 → re2 (32 + (b1 + 1 + n1)) + vu at_ = 0 := by omega
                        refine lv_iinc (v := (nI ((b1 + 1 + n1) + 1))) (lv' := [(10, .int (nI ((b1 + 1 + n1) + 1))), (15, .int (nI ((rc2 (32 + (b1 + 1 + n1))) + (cu at_)))), (13, .long (iL ((re2 (32 + (b1 + 1 + n1))) + (vu at_)))), (12, .int (nI (cu at_))), (11, .int (nI at_)), (0, .ref hM), (1, .int (nI 1)), (2, .int (nI x0)), (3, .int (nI x1)), (4, .int (nI y0)), (5, .int (nI y1)), (6, .int (nI 0)), (7, .int (nI (x1 - x0))), (8, .int (nI 32)), (9, .int (nI b1))]) hx hb d_Model_reckon_276 hl (k := 14) rfl (nI_inc _ _ _ (by omega)) (by decide) rfl (fun ls hl => ?_)
                        refine lv_goto (tgt := 114) hx hb d_Model_reckon_279 (by decide) ?_
                        exact ih114 (n1 + 1) (re2 (32 + (b1 + 1 + n1)) + vu at_) (rc2 (32 + (b1 + 1 + n1)) + cu at_) _ _ _ (by omega) hE2 hc2 h02 (by omega) hP hD hS (lv_sub hl [5, 6, 7, 8, 9, 10, 11, 12, 13, 14, 0] rfl)
        exact L114 ((x1 - x0) + 1 - (b1 + 0) + 1) 0 (re2 (32 + (b1 + 1))) (rc2 (32 + (b1 + 1))) _ _ _ (by omega) hr11 hkk hr1.2.2 (Nat.lt_succ_self _) hP hD hS (lv_sub hl [1, 2, 3, 4, 5, 6, 7, 8, 9, 10, 0] rfl)
  exact L59 ((x1 - x0) + 1) (x1 - x0) (va_up re (32 + (x1 - x0)) 0) (va_up rc (32 + (x1 - x0)) 0) _ _ _ (Nat.le_refl _) (fun p h1 h2 => by rw [show p = x1 - x0 from by omega]; exact rOKr_end (by show dpV _ _ (x0 + (x1 - x0)) x1 = 0; rw [show x0 + (x1 - x0) = x1 by omega]; exact dpV_end _ _ _)) (fun q hq => ⟨va_up_ne _ _ (by omega), va_up_ne _ _ (by omega)⟩) (Nat.lt_succ_self _) hP hD hS (lv_sub hl [4, 5, 6, 7, 8, 9, 3, 2, 1, 0] rfl)

abbrev q_reckon20 (G : va_G) (ty : Nat → ClassId) (hM : Nat) (cd : Nat) (st : Nat) (al : Nat) (ac : Nat) (nf : Nat) (ns : Nat) (mg : Nat) (bw : Nat) (md : Nat) (wy : Nat) (sg_ : Nat) (sz_ : Nat) (ks : Nat) (bd : Int) (aM : Nat → Nat) (gs : Nat → Bool) (tl : Bool) (x0 : Nat) (x1 : Nat) (y0 : Nat) (y1 : Nat) (vu : Nat → Int) (cu : Nat → Nat) (re : Nat → Int) (rc : Nat → Nat) (A : Nat → Prop) : Array Value → State → Outcome → State → Prop := va_Qv (fun (uu : (Nat → Int) × (Nat → Nat)) => (∀ p, p ≤ (y1 - y0) → rOKr uu.1 uu.2 (fun p9 => dpV (mS vu cu x0 x1) (okc 2 sg_ (fun z9 => decide (1 ≤ z9) && (decide (wy ≠ 0) || (!tl || gs z9)))) (y0 + p9) y1) 64 (x1 - x0) (y1 - y0) p) ∧ (∀ q, q < 64 ∨ 64 + (y1 - y0) < q → uu.1 q = re q ∧ uu.2 q = rc q)) (at_W G (fun (uu : (Nat → Int) × (Nat → Nat)) => [(hM, .inr (10, mO cd st al ac nf ns tl.toNat mg bw md wy sg_ sz_ ks bd aM)), (aM 27, .inl (ty 1, 75625, .inr (.inl (lF vu)))), (aM 28, .inl (ty 0, 75625, .inl (nF cu))), (aM 31, .inl (ty 1, 128, .inr (.inl (lF uu.1)))), (aM 32, .inl (ty 0, 128, .inl (nF uu.2))), (aM 20, .inl (ty 2, 65537, .inl (bF gs)))]) A) A
set_option maxRecDepth 100000 in
set_option maxHeartbeats 4000000 in
theorem c_reckon20 (l : Launch) (G : va_G) (ty : Nat → ClassId) (sz : Nat) (hM : Nat) (cd : Nat) (st : Nat) (al : Nat) (ac : Nat) (nf : Nat) (ns : Nat) (mg : Nat) (bw : Nat) (md : Nat) (wy : Nat) (sg_ : Nat) (sz_ : Nat) (ks : Nat) (bd : Int) (aM : Nat → Nat) (gs : Nat → Bool) (tl : Bool) (x0 : Nat) (x1 : Nat) (y0 : Nat) (y1 : Nat) (vu : Nat → Int) (cu : Nat → Nat) (re : Nat → Int) (rc : Nat → Nat) (gtp : 2 ≤ sg_ ∧ sg_ ≤ 3) (gwy : wy ≤ 1) (gax : 0 = (if (sg_ - 2) % 2 = 0 then wy else 1 - wy)) (k1 : x0 < x1) (k2 : x1 ≤ 24) (k3 : y0 < y1) (k4 : y1 ≤ 10) (gO : ∀ i j, y0 ≤ i → i < j → j ≤ y1 → mOK vu cu x0 x1 i j) : Met l y_Model_reckon ws_Model_reckon { frames := 2, cells := 0, slots := 0, locals := 50 } (va_Pc [.ref hM, .int (nI 2), .int (nI x0), .int (nI x1), .int (nI y0), .int (nI y1)] (fun U => U.heap.size = sz ∧ va_P G vwCl [(hM, .inr (10, mO cd st al ac nf ns tl.toNat mg bw md wy sg_ sz_ ks bd aM)), (aM 27, .inl (ty 1, 75625, .inr (.inl (lF vu)))), (aM 28, .inl (ty 0, 75625, .inl (nF cu))), (aM 31, .inl (ty 1, 128, .inr (.inl (lF re)))), (aM 32, .inl (ty 0, 128, .inl (nF rc))), (aM 20, .inl (ty 2, 65537, .inl (bF gs)))] U.heap ∧ KX G ty U ∧ va_D (fun _ => True) [(hM, .inr (10, mO cd st al ac nf ns tl.toNat mg bw md wy sg_ sz_ ks bd aM)), (aM 27, .inl (ty 1, 75625, .inr (.inl (lF vu)))), (aM 28, .inl (ty 0, 75625, .inl (nF cu))), (aM 31, .inl (ty 1, 128, .inr (.inl (lF re)))), (aM 32, .inl (ty 0, 128, .inl (nF rc))), (aM 20, .inl (ty 2, 65537, .inl (bF gs)))])) (q_reckon20 G ty hM cd st al ac nf ns mg bw md wy sg_ sz_ ks bd aM gs tl x0 x1 y0 y1 vu cu re rc (va_A [(hM, .inr (10, mO cd st al ac nf ns tl.toNat mg bw md wy sg_ sz_ ks bd aM)), (aM 27, .inl (ty 1, 75625, .inr (.inl (lF vu)))), (aM 28, .inl (ty 0, 75625, .inl (nF cu))), (aM 31, .inl (ty 1, 128, .inr (.inl (lF re)))), (aM 32, .inl (ty 0, 128, .inl (nF rc))), (aM 20, .inl (ty 2, 65537, .inl (bF gs)))] sz)) 0 0 (va_A [(hM, .inr (10, mO cd st al ac nf ns tl.toNat mg bw md wy sg_ sz_ ks bd aM)), (aM 27, .inl (ty 1, 75625, .inr (.inl (lF vu)))), (aM 28, .inl (ty 0, 75625, .inl (nF cu))), (aM 31, .inl (ty 1, 128, .inr (.inl (lF re)))), (aM 32, .inl (ty 0, 128, .inl (nF rc))), (aM 20, .inl (ty 2, 65537, .inl (bF gs)))] sz) := by
  refine met_wr (y := y_Model_reckon) (maxL := 16) (sz := sz) (G := G) (ty := ty) (mc := 0) (ms := 0) (av := [.ref hM, .int (nI 2), .int (nI x0), .int (nI x1), .int (nI y0), .int (nI y1)]) (W0 := [(hM, .inr (10, mO cd st al ac nf ns tl.toNat mg bw md wy sg_ sz_ ks bd aM)), (aM 27, .inl (ty 1, 75625, .inr (.inl (lF vu)))), (aM 28, .inl (ty 0, 75625, .inl (nF cu))), (aM 31, .inl (ty 1, 128, .inr (.inl (lF re)))), (aM 32, .inl (ty 0, 128, .inl (nF rc))), (aM 20, .inl (ty 2, 65537, .inl (bF gs)))]) (fun A => q_reckon20 G ty hM cd st al ac nf ns mg bw md wy sg_ sz_ ks bd aM gs tl x0 x1 y0 y1 vu cu re rc A) R_Model (by decide) rfl rfl (Nat.le_of_ble_eq_true rfl) ?_
  intro p e s m below meth c ls A hx hb hr hml hown hts hlocks hin hA hP hX hD hS hl
  have hK := hX.1
  have hl : lv_has ls 16 [(0, .ref hM), (1, .int (nI 2)), (2, .int (nI x0)), (3, .int (nI x1)), (4, .int (nI y0)), (5, .int (nI y1))] := hl
  have hKn : ∀ a9, a9 ≤ y1 - y0 → (x1 - x0) * a9 ≤ 240 := fun a9 h9 => Nat.le_trans (Nat.mul_le_mul (show x1 - x0 ≤ 24 by omega) (show a9 ≤ 10 by omega)) (by decide)
  have hdv : ∀ p, y0 ≤ p → p ≤ y1 → 0 ≤ dpV (mS vu cu x0 x1) (okc 2 sg_ (fun z9 => decide (1 ≤ z9) && (decide (wy ≠ 0) || (!tl || gs z9)))) p y1 ∧ dpV (mS vu cu x0 x1) (okc 2 sg_ (fun z9 => decide (1 ≤ z9) && (decide (wy ≠ 0) || (!tl || gs z9)))) p y1 ≤ 26400000000000000 := fun p h1 h2 => dpV_u (by omega) h2 (fun i j h3 h4 h5 => mS_le (gO i j (by omega) h4 h5))
  refine lv_aload_n hx hb d_Model_reckon_0 rfl (lv_at hl 0 rfl) ?_
  refine lv_iload_n hx hb d_Model_reckon_1 rfl (lv_at hl 1 rfl) ?_
  refine vp_callSi (W.runV (As := [.int (nI 2)]) (rest := []) ⟨hx, hb, hml, hown, hts⟩ (c_Model_isRipped l G ty hM cd st al ac nf ns tl.toNat mg bw md wy sg_ sz_ ks bd aM 2 (by omega) (by omega) (by omega)) ⟨callB_of 1 hts (gd_TB cd_Model_isRipped) rfl rfl rfl (hts _ ini_Model) (hts _ lk_Model_196) hd_Model_isRipped ⟨Nat.le_of_ble_eq_true rfl, Nat.le_of_ble_eq_true rfl⟩, hts _ im_Model_isRipped, hts _ sl_Model_isRipped⟩ (preV_ro (hP.sub (ws' := [(hM, .inr (10, mO cd st al ac nf ns tl.toNat mg bw md wy sg_ sz_ ks bd aM))]) [0] rfl) hX 0 rfl rfl) rfl rfl hl.1 rfl (lv_room (Nat.le_of_ble_eq_true rfl)) d_Model_reckon_2 ⟨Nat.le_of_ble_eq_true rfl, Nat.le_of_ble_eq_true rfl⟩) (fun r9 er9 => ?_)
  subst er9
  refine top_i (show (nI (1 - (if (sg_ - 2) % 2 = 0 then wy else 1 - wy))) = (nI 1) from congrArg (fun z9 => nI (1 - z9)) gax.symm) ?_
  refine lv_istore (lv' := [(6, .int (nI 1)), (0, .ref hM), (1, .int (nI 2)), (2, .int (nI x0)), (3, .int (nI x1)), (4, .int (nI y0)), (5, .int (nI y1))]) hx hb d_Model_reckon_5 hl (by decide) rfl (fun ls hl => ?_)
  refine lv_iload hx hb d_Model_reckon_7 (lv_at hl 0 rfl) ?_
  refine n_if_eq (tgt := 20) hx hb (by omega) d_Model_reckon_9 (by decide) (fun c9 => absurd c9 (by omega)) (fun c9 => ?_)
  refine lv_iload hx hb d_Model_reckon_12 (lv_at hl 6 rfl) ?_
  refine lv_iload hx hb d_Model_reckon_14 (lv_at hl 5 rfl) ?_
  refine n_isub hx hb (by omega) d_Model_reckon_16 ?_
  refine lv_goto (tgt := 23) hx hb d_Model_reckon_17 (by decide) ?_
  refine lv_istore (lv' := [(7, .int (nI (y1 - y0))), (6, .int (nI 1)), (0, .ref hM), (1, .int (nI 2)), (2, .int (nI x0)), (3, .int (nI x1)), (4, .int (nI y0)), (5, .int (nI y1))]) hx hb d_Model_reckon_23 hl (by decide) rfl (fun ls hl => ?_)
  refine lv_bipush (v := (nI 32)) hx hb d_Model_reckon_25 (by decide) ?_
  refine lv_iload_n hx hb d_Model_reckon_27 rfl (lv_at hl 3 rfl) ?_
  refine n_imul hx hb d_Model_reckon_28 ?_
  refine top_i (show (nI (32 * 2)) = nI 64 from rfl) ?_
  refine lv_istore (lv' := [(8, .int (nI 64)), (7, .int (nI (y1 - y0))), (6, .int (nI 1)), (0, .ref hM), (1, .int (nI 2)), (2, .int (nI x0)), (3, .int (nI x1)), (4, .int (nI y0)), (5, .int (nI y1))]) hx hb d_Model_reckon_29 hl (by decide) rfl (fun ls hl => ?_)
  refine lv_aload_n hx hb d_Model_reckon_31 rfl (lv_at hl 3 rfl) ?_
  refine va_get (D := G) (ci := 10) (v := .ref (aM 31)) (C := R_Model) (T := F_Model) (N := 47) hx hb hts in_Model hown hK hP 0 rfl rfl 31 (by decide) (hts _ fl_Model_85) (fun _ h9 => h9) rfl d_Model_reckon_32 ?_
  refine lv_iload hx hb d_Model_reckon_35 (lv_at hl 0 rfl) ?_
  refine lv_iload hx hb d_Model_reckon_37 (lv_at hl 1 rfl) ?_
  refine n_iadd hx hb d_Model_reckon_39 ?_
  refine lv_lconst (v := iL 0) hx hb d_Model_reckon_40 (by decide) ?_
  refine n_last hx hb hK hP hD hS 3 1 rfl rfl (by omega) (by omega) d_Model_reckon_41 (fun H locs hP hD hS => ?_)
  rw [upd_lF] at hP hD
  have hP : va_P G vwCl [(hM, .inr (10, mO cd st al ac nf ns tl.toNat mg bw md wy sg_ sz_ ks bd aM)), (aM 27, .inl (ty 1, 75625, .inr (.inl (lF vu)))), (aM 28, .inl (ty 0, 75625, .inl (nF cu))), (aM 31, .inl (ty 1, 128, .inr (.inl (lF (va_up re (64 + (y1 - y0)) 0))))), (aM 32, .inl (ty 0, 128, .inl (nF rc))), (aM 20, .inl (ty 2, 65537, .inl (bF gs)))] _ := hP
  have hD : va_D A [(hM, .inr (10, mO cd st al ac nf ns tl.toNat mg bw md wy sg_ sz_ ks bd aM)), (aM 27, .inl (ty 1, 75625, .inr (.inl (lF vu)))), (aM 28, .inl (ty 0, 75625, .inl (nF cu))), (aM 31, .inl (ty 1, 128, .inr (.inl (lF (va_up re (64 + (y1 - y0)) 0))))), (aM 32, .inl (ty 0, 128, .inl (nF rc))), (aM 20, .inl (ty 2, 65537, .inl (bF gs)))] := hD
  refine lv_aload_n hx hb d_Model_reckon_42 rfl (lv_at hl 3 rfl) ?_
  refine va_get (D := G) (ci := 10) (v := .ref (aM 32)) (C := R_Model) (T := F_Model) (N := 47) hx hb hts in_Model hown hK hP 0 rfl rfl 32 (by decide) (hts _ fl_Model_88) (fun _ h9 => h9) rfl d_Model_reckon_43 ?_
  refine lv_iload hx hb d_Model_reckon_46 (lv_at hl 0 rfl) ?_
  refine lv_iload hx hb d_Model_reckon_48 (lv_at hl 1 rfl) ?_
  refine n_iadd hx hb d_Model_reckon_50 ?_
  refine lv_iconst (v := (nI 0)) hx hb d_Model_reckon_51 (by decide) ?_
  refine n_iast hx hb hK hP hD hS 4 0 rfl rfl (by omega) (by omega) d_Model_reckon_52 (fun H locs hP hD hS => ?_)
  rw [upd_nF] at hP hD
  have hP : va_P G vwCl [(hM, .inr (10, mO cd st al ac nf ns tl.toNat mg bw md wy sg_ sz_ ks bd aM)), (aM 27, .inl (ty 1, 75625, .inr (.inl (lF vu)))), (aM 28, .inl (ty 0, 75625, .inl (nF cu))), (aM 31, .inl (ty 1, 128, .inr (.inl (lF (va_up re (64 + (y1 - y0)) 0))))), (aM 32, .inl (ty 0, 128, .inl (nF (va_up rc (64 + (y1 - y0)) 0)))), (aM 20, .inl (ty 2, 65537, .inl (bF gs)))] _ := hP
  have hD : va_D A [(hM, .inr (10, mO cd st al ac nf ns tl.toNat mg bw md wy sg_ sz_ ks bd aM)), (aM 27, .inl (ty 1, 75625, .inr (.inl (lF vu)))), (aM 28, .inl (ty 0, 75625, .inl (nF cu))), (aM 31, .inl (ty 1, 128, .inr (.inl (lF (va_up re (64 + (y1 - y0)) 0))))), (aM 32, .inl (ty 0, 128, .inl (nF (va_up rc (64 + (y1 - y0)) 0)))), (aM 20, .inl (ty 2, 65537, .inl (bF gs)))] := hD
  refine lv_iload hx hb d_Model_reckon_53 (lv_at hl 1 rfl) ?_
  refine lv_iconst (v := (nI 1)) hx hb d_Model_reckon_55 (by decide) ?_
  refine nzz_isub hx hb d_Model_reckon_56 ?_
  refine lv_istore (lv' := [(9, .int (iI ((y1 - y0 : Nat) - ((1 : Nat) : Int)))), (8, .int (nI 64)), (7, .int (nI (y1 - y0))), (6, .int (nI 1)), (0, .ref hM), (1, .int (nI 2)), (2, .int (nI x0)), (3, .int (nI x1)), (4, .int (nI y0)), (5, .int (nI y1))]) hx hb d_Model_reckon_57 hl (by decide) rfl (fun ls hl => ?_)
  have L59 : ∀ (k9 : Nat) (b : Nat) (re2 : Nat → Int) (rc2 : Nat → Nat) (H : Heap) (locs : List Loc) (ls : Array Slot), (b ≤ (y1 - y0)) → (∀ p, b ≤ p → p ≤ (y1 - y0) → rOKr re2 rc2 (fun p9 => dpV (mS vu cu x0 x1) (okc 2 sg_ (fun z9 => decide (1 ≤ z9) && (decide (wy ≠ 0) || (!tl || gs z9)))) (y0 + p9) y1) 64 (x1 - x0) (y1 - y0) p) → (∀ q, q < 64 ∨ 64 + (y1 - y0) < q → re2 q = re q ∧ rc2 q = rc q) → b < k9 → va_P G vwCl [(hM, .inr (10, mO cd st al ac nf ns tl.toNat mg bw md wy sg_ sz_ ks bd aM)), (aM 27, .inl (ty 1, 75625, .inr (.inl (lF vu)))), (aM 28, .inl (ty 0, 75625, .inl (nF cu))), (aM 31, .inl (ty 1, 128, .inr (.inl (lF re2)))), (aM 32, .inl (ty 0, 128, .inl (nF rc2))), (aM 20, .inl (ty 2, 65537, .inl (bF gs)))] H → va_D A [(hM, .inr (10, mO cd st al ac nf ns tl.toNat mg bw md wy sg_ sz_ ks bd aM)), (aM 27, .inl (ty 1, 75625, .inr (.inl (lF vu)))), (aM 28, .inl (ty 0, 75625, .inl (nF cu))), (aM 31, .inl (ty 1, 128, .inr (.inl (lF re2)))), (aM 32, .inl (ty 0, 128, .inl (nF rc2))), (aM 20, .inl (ty 2, 65537, .inl (bF gs)))] → va_S A s.heap H locs → lv_has ls 16 [(0, .ref hM), (1, .int (nI 2)), (2, .int (nI x0)), (3, .int (nI x1)), (4, .int (nI y0)), (5, .int (nI y1)), (6, .int (nI 1)), (7, .int (nI (y1 - y0))), (8, .int (nI 64)), (9, .int (iI (((b : Nat) : Int) - ((1 : Nat) : Int))))] → W p l e { frames := 2, cells := 0, slots := 0, locals := 50 } s m [.ref hM, .int (nI 2), .int (nI x0), .int (nI x1), .int (nI y0), .int (nI y1)].toArray below meth c H locs 0 0 (MQ below (q_reckon20 G ty hM cd st al ac nf ns mg bw md wy sg_ sz_ ks bd aM gs tl x0 x1 y0 y1 vu cu re rc A) [.ref hM, .int (nI 2), .int (nI x0), .int (nI x1), .int (nI y0), .int (nI y1)].toArray s 0 0 A) (F0 m 59 ls []) := by
    intro k9
    induction k9 with
    | zero => intro b re2 rc2 H locs ls hb0 hR hF hk9; exact absurd hk9 (Nat.not_lt_zero _)
    | succ k9 ih59 =>
      intro b re2 rc2 H locs ls hb0 hR hF hk9 hP hD hS hl
      refine lv_iload hx hb d_Model_reckon_59 (lv_at hl 9 rfl) ?_
      refine z_if_lt (tgt := 288) hx hb (by omega) d_Model_reckon_61 (by decide) (fun c61 => ?_) (fun c61 => ?_)
      · exact W.vret hx hb hr (fun t9 ht hW => ⟨⟨(re2, rc2), rfl, ⟨fun p h => hR p (by omega) h, hF⟩, by rw [ht]; exact hP, hD⟩, hS.F ht⟩) hS.2.2 d_Model_reckon_288
      · obtain ⟨b1, rfl⟩ : ∃ b1, b = b1 + 1 := ⟨b - 1, by omega⟩
        have hl : lv_has ls 16 [(0, .ref hM), (1, .int (nI 2)), (2, .int (nI x0)), (3, .int (nI x1)), (4, .int (nI y0)), (5, .int (nI y1)), (6, .int (nI 1)), (7, .int (nI (y1 - y0))), (8, .int (nI 64)), (9, .int (nI b1))] := by rw [show (nI b1) = (iI (((b1 + 1 : Nat) : Int) - ((1 : Nat) : Int))) from by rw [nI_iI]; congr 1; omega]; exact hl
        have hr1 := hR (b1 + 1) (Nat.le_refl _) (by omega)
        have hr11 : 1024 * re2 (64 + (b1 + 1)) - (rc2 (64 + (b1 + 1)) : Int) = dpV (mS vu cu x0 x1) (okc 2 sg_ (fun z9 => decide (1 ≤ z9) && (decide (wy ≠ 0) || (!tl || gs z9)))) (y0 + b1 + 1) y1 := hr1.1
        have hkk := Nat.le_trans hr1.2.1 (Nat.mul_le_mul_left (x1 - x0) (show y1 - y0 - (b1 + 1) ≤ y1 - y0 - b1 by omega))
        refine lv_aload_n hx hb d_Model_reckon_64 rfl (lv_at hl 0 rfl) ?_
        refine va_get (D := G) (ci := 10) (v := .ref (aM 31)) (C := R_Model) (T := F_Model) (N := 47) hx hb hts in_Model hown hK hP 0 rfl rfl 31 (by decide) (hts _ fl_Model_85) (fun _ h9 => h9) rfl d_Model_reckon_65 ?_
        refine lv_iload hx hb d_Model_reckon_68 (lv_at hl 8 rfl) ?_
        refine lv_iload hx hb d_Model_reckon_70 (lv_at hl 9 rfl) ?_
        refine n_iadd hx hb d_Model_reckon_72 ?_
        refine lv_aload_n hx hb d_Model_reckon_73 rfl (lv_at hl 0 rfl) ?_
        refine va_get (D := G) (ci := 10) (v := .ref (aM 31)) (C := R_Model) (T := F_Model) (N := 47) hx hb hts in_Model hown hK hP 0 rfl rfl 31 (by decide) (hts _ fl_Model_85) (fun _ h9 => h9) rfl d_Model_reckon_74 ?_
        refine lv_iload hx hb d_Model_reckon_77 (lv_at hl 8 rfl) ?_
        refine lv_iload hx hb d_Model_reckon_79 (lv_at hl 9 rfl) ?_
        refine n_iadd hx hb d_Model_reckon_81 ?_
        refine lv_iconst (v := (nI 1)) hx hb d_Model_reckon_82 (by decide) ?_
        refine n_iadd hx hb d_Model_reckon_83 ?_
        refine n_lald hx hb hK hP 3 1 rfl rfl (by omega) (by omega) d_Model_reckon_84 ?_
        refine top_l (show (iL (re2 ((64 + b1) + 1))) = (iL (re2 (64 + (b1 + 1)))) from rfl) ?_
        refine n_last hx hb hK hP hD hS 3 1 rfl rfl (by omega) (by omega) d_Model_reckon_85 (fun H locs hP hD hS => ?_)
        rw [upd_lF] at hP hD
        have hP : va_P G vwCl [(hM, .inr (10, mO cd st al ac nf ns tl.toNat mg bw md wy sg_ sz_ ks bd aM)), (aM 27, .inl (ty 1, 75625, .inr (.inl (lF vu)))), (aM 28, .inl (ty 0, 75625, .inl (nF cu))), (aM 31, .inl (ty 1, 128, .inr (.inl (lF (va_up re2 (64 + b1) (re2 (64 + (b1 + 1)))))))), (aM 32, .inl (ty 0, 128, .inl (nF rc2))), (aM 20, .inl (ty 2, 65537, .inl (bF gs)))] _ := hP
        have hD : va_D A [(hM, .inr (10, mO cd st al ac nf ns tl.toNat mg bw md wy sg_ sz_ ks bd aM)), (aM 27, .inl (ty 1, 75625, .inr (.inl (lF vu)))), (aM 28, .inl (ty 0, 75625, .inl (nF cu))), (aM 31, .inl (ty 1, 128, .inr (.inl (lF (va_up re2 (64 + b1) (re2 (64 + (b1 + 1)))))))), (aM 32, .inl (ty 0, 128, .inl (nF rc2))), (aM 20, .inl (ty 2, 65537, .inl (bF gs)))] := hD
        refine lv_aload_n hx hb d_Model_reckon_86 rfl (lv_at hl 0 rfl) ?_
        refine va_get (D := G) (ci := 10) (v := .ref (aM 32)) (C := R_Model) (T := F_Model) (N := 47) hx hb hts in_Model hown hK hP 0 rfl rfl 32 (by decide) (hts _ fl_Model_88) (fun _ h9 => h9) rfl d_Model_reckon_87 ?_
        refine lv_iload hx hb d_Model_reckon_90 (lv_at hl 8 rfl) ?_
        refine lv_iload hx hb d_Model_reckon_92 (lv_at hl 9 rfl) ?_
        refine n_iadd hx hb d_Model_reckon_94 ?_
        refine lv_aload_n hx hb d_Model_reckon_95 rfl (lv_at hl 0 rfl) ?_
        refine va_get (D := G) (ci := 10) (v := .ref (aM 32)) (C := R_Model) (T := F_Model) (N := 47) hx hb hts in_Model hown hK hP 0 rfl rfl 32 (by decide) (hts _ fl_Model_88) (fun _ h9 => h9) rfl d_Model_reckon_96 ?_
        refine lv_iload hx hb d_Model_reckon_99 (lv_at hl 8 rfl) ?_
        refine lv_iload hx hb d_Model_reckon_101 (lv_at hl 9 rfl) ?_
        refine n_iadd hx hb d_Model_reckon_103 ?_
        refine lv_iconst (v := (nI 1)) hx hb d_Model_reckon_104 (by decide) ?_
        refine n_iadd hx hb d_Model_reckon_105 ?_
        refine n_iald hx hb hK hP 4 0 rfl rfl (by omega) (by omega) d_Model_reckon_106 ?_
        refine top_i (show (nI (rc2 ((64 + b1) + 1))) = (nI (rc2 (64 + (b1 + 1)))) from rfl) ?_
        refine n_iast hx hb hK hP hD hS 4 0 rfl rfl (by omega) (by omega) d_Model_reckon_107 (fun H locs hP hD hS => ?_)
        rw [upd_nF] at hP hD
        have hP : va_P G vwCl [(hM, .inr (10, mO cd st al ac nf ns tl.toNat mg bw md wy sg_ sz_ ks bd aM)), (aM 27, .inl (ty 1, 75625, .inr (.inl (lF vu)))), (aM 28, .inl (ty 0, 75625, .inl (nF cu))), (aM 31, .inl (ty 1, 128, .inr (.inl (lF (va_up re2 (64 + b1) (re2 (64 + (b1 + 1)))))))), (aM 32, .inl (ty 0, 128, .inl (nF (va_up rc2 (64 + b1) (rc2 (64 + (b1 + 1))))))), (aM 20, .inl (ty 2, 65537, .inl (bF gs)))] _ := hP
        have hD : va_D A [(hM, .inr (10, mO cd st al ac nf ns tl.toNat mg bw md wy sg_ sz_ ks bd aM)), (aM 27, .inl (ty 1, 75625, .inr (.inl (lF vu)))), (aM 28, .inl (ty 0, 75625, .inl (nF cu))), (aM 31, .inl (ty 1, 128, .inr (.inl (lF (va_up re2 (64 + b1) (re2 (64 + (b1 + 1)))))))), (aM 32, .inl (ty 0, 128, .inl (nF (va_up rc2 (64 + b1) (rc2 (64 + (b1 + 1))))))), (aM 20, .inl (ty 2, 65537, .inl (bF gs)))] := hD
        refine lv_iload hx hb d_Model_reckon_108 (lv_at hl 9 rfl) ?_
        refine lv_iconst (v := (nI 1)) hx hb d_Model_reckon_110 (by decide) ?_
        refine n_iadd hx hb d_Model_reckon_111 ?_
        refine lv_istore (lv' := [(10, .int (nI (b1 + 1))), (0, .ref hM), (1, .int (nI 2)), (2, .int (nI x0)), (3, .int (nI x1)), (4, .int (nI y0)), (5, .int (nI y1)), (6, .int (nI 1)), (7, .int (nI (y1 - y0))), (8, .int (nI 64)), (9, .int (nI b1))]) hx hb d_Model_reckon_112 hl (by decide) rfl (fun ls hl => ?_)
        have L114 : ∀ (k9 : Nat) (n1 : Nat) (va : Int) (ca : Nat) (H : Heap) (locs : List Loc) (ls : Array Slot), (b1 + n1 ≤ (y1 - y0)) → (1024 * va - (ca : Int) = dpS (mS vu cu x0 x1) (okc 2 sg_ (fun z9 => decide (1 ≤ z9) && (decide (wy ≠ 0) || (!tl || gs z9)))) (fun p9 => dpV (mS vu cu x0 x1) (okc 2 sg_ (fun z9 => decide (1 ≤ z9) && (decide (wy ≠ 0) || (!tl || gs z9)))) p9 y1) (y0 + b1) (dpV (mS vu cu x0 x1) (okc 2 sg_ (fun z9 => decide (1 ≤ z9) && (decide (wy ≠ 0) || (!tl || gs z9)))) (y0 + b1 + 1) y1) n1) → (ca ≤ (x1 - x0) * (y1 - y0 - b1)) → (ca = 0 → va = 0) → (y1 - y0) + 1 - (b1 + n1) < k9 → va_P G vwCl [(hM, .inr (10, mO cd st al ac nf ns tl.toNat mg bw md wy sg_ sz_ ks bd aM)), (aM 27, .inl (ty 1, 75625, .inr (.inl (lF vu)))), (aM 28, .inl (ty 0, 75625, .inl (nF cu))), (aM 31, .inl (ty 1, 128, .inr (.inl (lF (va_up re2 (64 + b1) va))))), (aM 32, .inl (ty 0, 128, .inl (nF (va_up rc2 (64 + b1) ca)))), (aM 20, .inl (ty 2, 65537, .inl (bF gs)))] H → va_D A [(hM, .inr (10, mO cd st al ac nf ns tl.toNat mg bw md wy sg_ sz_ ks bd aM)), (aM 27, .inl (ty 1, 75625, .inr (.inl (lF vu)))), (aM 28, .inl (ty 0, 75625, .inl (nF cu))), (aM 31, .inl (ty 1, 128, .inr (.inl (lF (va_up re2 (64 + b1) va))))), (aM 32, .inl (ty 0, 128, .inl (nF (va_up rc2 (64 + b1) ca)))), (aM 20, .inl (ty 2, 65537, .inl (bF gs)))] → va_S A s.heap H locs → lv_has ls 16 [(0, .ref hM), (1, .int (nI 2)), (2, .int (nI x0)), (3, .int (nI x1)), (4, .int (nI y0)), (5, .int (nI y1)), (6, .int (nI 1)), (7, .int (nI (y1 - y0))), (8, .int (nI 64)), (9, .int (nI b1)), (10, .int (nI (b1 + 1 + n1)))] → W p l e { frames := 2, cells := 0, slots := 0, locals := 50 } s m [.ref hM, .int (nI 2), .int (nI x0), .int (nI x1), .int (nI y0), .int (nI y1)].toArray below meth c H locs 0 0 (MQ below (q_reckon20 G ty hM cd st al ac nf ns mg bw md wy sg_ sz_ ks bd aM gs tl x0 x1 y0 y1 vu cu re rc A) [.ref hM, .int (nI 2), .int (nI x0), .int (nI x1), .int (nI y0), .int (nI y1)].toArray s 0 0 A) (F0 m 114 ls []) := by
          intro k9
          induction k9 with
          | zero => intro n1 va ca H locs ls hn1 hE hca h00 hk9; exact absurd hk9 (Nat.not_lt_zero _)
          | succ k9 ih114 =>
            intro n1 va ca H locs ls hn1 hE hca h00 hk9 hP hD hS hl
            refine lv_iload hx hb d_Model_reckon_114 (lv_at hl 10 rfl) ?_
            refine lv_iload hx hb d_Model_reckon_116 (lv_at hl 7 rfl) ?_
            refine n_icmp_gt (tgt := 282) hx hb (by omega) (by omega) d_Model_reckon_118 (by decide) (fun c118 => ?_) (fun c118 => ?_)
            · have hfin : 1024 * va - (ca : Int) = dpV (mS vu cu x0 x1) (okc 2 sg_ (fun z9 => decide (1 ≤ z9) && (decide (wy ≠ 0) || (!tl || gs z9)))) (y0 + b1) y1 := by rw [dpV_step (show y0 + b1 < y1 by omega), show y1 - (y0 + b1) = n1 by omega]; exact hE
              have hR3 : ∀ p, b1 ≤ p → p ≤ (y1 - y0) → rOKr (va_up re2 (64 + b1) va) (va_up rc2 (64 + b1) ca) (fun p9 => dpV (mS vu cu x0 x1) (okc 2 sg_ (fun z9 => decide (1 ≤ z9) && (decide (wy ≠ 0) || (!tl || gs z9)))) (y0 + p9) y1) 64 (x1 - x0) (y1 - y0) p := fun p h1 h2 => (Nat.lt_or_ge b1 p).elim (fun q => rOKr_up (by omega) (hR p (by omega) h2)) (fun q => by rw [show p = b1 from by omega]; exact rOKr_at hfin hca h00)
              have hF3 : ∀ q, q < 64 ∨ 64 + (y1 - y0) < q → (va_up re2 (64 + b1) va) q = re q ∧ (va_up rc2 (64 + b1) ca) q = rc q := fun q hq => ⟨by rw [va_up_ne _ _ (by omega)]; exact (hF q hq).1, by rw [va_up_ne _ _ (by omega)]; exact (hF q hq).2⟩
              refine lv_iinc (v := (iI (((b1 : Nat) : Int) - ((1 : Nat) : Int)))) (lv' := [(9, .int (iI (((b1 : Nat) : Int) - ((1 : Nat) : Int)))), (0, .ref hM), (1, .int (nI 2)), (2, .int (nI x0)), (3, .int (nI x1)), (4, .int (nI y0)), (5, .int (nI y1)), (6, .int (nI 1)), (7, .int (nI (y1 - y0))), (8, .int (nI 64)), (10, .int (nI (b1 + 1 + n1)))]) hx hb d_Model_reckon_282 hl (k := 9) rfl (by rw [nI_iI]; exact iI_add _ _) (by decide) rfl (fun ls hl => ?_)
              refine lv_goto (tgt := 59) hx hb d_Model_reckon_285 (by decide) ?_
              exact ih59 b1 (va_up re2 (64 + b1) va) (va_up rc2 (64 + b1) ca) _ _ _ (by omega) hR3 hF3 (by omega) hP hD hS (lv_sub hl [1, 2, 3, 4, 5, 6, 7, 8, 9, 0] rfl)
            · obtain ⟨at_, eat⟩ : ∃ at_, at_ = ((25 * x0 + x1) * 11 + (y0 + b1)) * 11 + (y0 + (b1 + 1 + n1)) := ⟨_, rfl⟩
              have e1 : y0 + (b1 + 1 + n1) = y0 + b1 + 1 + n1 := by omega
              have hO := gO (y0 + b1) (y0 + b1 + 1 + n1) (by omega) (by omega) (by omega)
              unfold mOK at hO
              rw [← e1, ← eat] at hO
              have hO1 : cu at_ ≤ (x1 - x0) * (n1 + 1) := by have h9 := hO.1; rw [show y0 + (b1 + 1 + n1) - (y0 + b1) = n1 + 1 by omega] at h9; exact h9
              have hO2 := hO.2.1
              have hO3 := hO.2.2
              clear hO
              have hvS : mS vu cu x0 x1 (y0 + b1) (y0 + b1 + 1 + n1) = 1024 * vu at_ - (cu at_ : Int) := by rw [eat, e1]; try rfl
              have hrT := hR (b1 + 1 + n1) (by omega) (by omega)
              have hrT1 : 1024 * re2 (64 + (b1 + 1 + n1)) - (rc2 (64 + (b1 + 1 + n1)) : Int) = dpV (mS vu cu x0 x1) (okc 2 sg_ (fun z9 => decide (1 ≤ z9) && (decide (wy ≠ 0) || (!tl || gs z9)))) (y0 + b1 + 1 + n1) y1 := by have h9 := hrT.1; rw [← e1]; exact h9
              have hrT2 := hrT.2.1
              clear hrT
              have hka : (x1 - x0) * (y1 - y0 - (b1 + 1 + n1)) + (x1 - x0) * (n1 + 1) = (x1 - x0) * (y1 - y0 - b1) := K_add (by omega)
              have hkb := hKn (y1 - y0 - b1) (by omega)
              have hz0 := (hdv (y0 + b1 + 1 + n1) (by omega) (by omega))
              have hat : at_ < 75625 := by rw [eat]; omega
              have hz : dpV (mS vu cu x0 x1) (okc 2 sg_ (fun z9 => decide (1 ≤ z9) && (decide (wy ≠ 0) || (!tl || gs z9)))) (y0 + b1 + 1 + n1) y1 ≤ dpS (mS vu cu x0 x1) (okc 2 sg_ (fun z9 => decide (1 ≤ z9) && (decide (wy ≠ 0) || (!tl || gs z9)))) (fun p9 => dpV (mS vu cu x0 x1) (okc 2 sg_ (fun z9 => decide (1 ≤ z9) && (decide (wy ≠ 0) || (!tl || gs z9)))) p9 y1) (y0 + b1) (dpV (mS vu cu x0 x1) (okc 2 sg_ (fun z9 => decide (1 ≤ z9) && (decide (wy ≠ 0) || (!tl || gs z9)))) (y0 + b1 + 1) y1) n1 := Int.le_trans (dpV_mono n1 (y0 + b1 + 1) (by omega)) (dpS_ge n1)
              have hcu : dpS (mS vu cu x0 x1) (okc 2 sg_ (fun z9 => decide (1 ≤ z9) && (decide (wy ≠ 0) || (!tl || gs z9)))) (fun p9 => dpV (mS vu cu x0 x1) (okc 2 sg_ (fun z9 => decide (1 ≤ z9) && (decide (wy ≠ 0) || (!tl || gs z9)))) p9 y1) (y0 + b1) (dpV (mS vu cu x0 x1) (okc 2 sg_ (fun z9 => decide (1 ≤ z9) && (decide (wy ≠ 0) || (!tl || gs z9)))) (y0 + b1 + 1) y1) n1 ≤ 30000000000000000 := dpS_le n1 (by have := hdv (y0 + b1 + 1) (by omega) (by omega); omega) (fun j hj => by have a1 := mS_le (gO (y0 + b1) (y0 + b1 + 1 + j) (by omega) (by omega) (by omega)); have a2 := hdv (y0 + b1 + 1 + j) (by omega) (by omega); show (mS vu cu x0 x1) (y0 + b1) (y0 + b1 + 1 + j) + dpV (mS vu cu x0 x1) (okc 2 sg_ (fun z9 => decide (1 ≤ z9) && (decide (wy ≠ 0) || (!tl || gs z9)))) (y0 + b1 + 1 + j) y1 ≤ 30000000000000000; have a3 : (mS vu cu x0 x1) (y0 + b1) (y0 + b1 + 1 + j) ≤ 1100000000000000 := a1; omega)
              refine lv_aload_n hx hb d_Model_reckon_121 rfl (lv_at hl 0 rfl) ?_
              refine lv_iload hx hb d_Model_reckon_122 (lv_at hl 6 rfl) ?_
              refine lv_iload_n hx hb d_Model_reckon_124 rfl (lv_at hl 2 rfl) ?_
              refine lv_iload_n hx hb d_Model_reckon_125 rfl (lv_at hl 3 rfl) ?_
              refine lv_iload hx hb d_Model_reckon_126 (lv_at hl 4 rfl) ?_
              refine lv_iload hx hb d_Model_reckon_128 (lv_at hl 5 rfl) ?_
              refine lv_iload hx hb d_Model_reckon_130 (lv_at hl 9 rfl) ?_
              refine lv_iload hx hb d_Model_reckon_132 (lv_at hl 10 rfl) ?_
              refine vp_callSi (W.runV (As := [.int (nI 1), .int (nI x0), .int (nI x1), .int (nI y0), .int (nI y1), .int (nI b1), .int (nI (b1 + 1 + n1))]) (rest := []) ⟨hx, hb, hml, hown, hts⟩ (c_segment1 l G ty hM cd st al ac nf ns tl.toNat mg bw md wy sg_ sz_ ks bd aM x0 x1 y0 y1 b1 (b1 + 1 + n1) ) ⟨callB_of 7 hts (gd_TB cd_Model_segment) rfl rfl rfl (hts _ ini_Model) (hts _ lk_Model_199) hd_Model_segment ⟨Nat.le_of_ble_eq_true rfl, Nat.le_of_ble_eq_true rfl⟩, hts _ im_Model_segment, hts _ sl_Model_segment⟩ (preV_ro (hP.sub (ws' := [(hM, .inr (10, mO cd st al ac nf ns tl.toNat mg bw md wy sg_ sz_ ks bd aM))]) [0] rfl) hX 0 rfl rfl) rfl rfl hl.1 rfl (lv_room (Nat.le_of_ble_eq_true rfl)) d_Model_reckon_134 ⟨Nat.le_of_ble_eq_true rfl, Nat.le_of_ble_eq_true rfl⟩) (fun r9 er9 => ?_)
              subst er9
              refine top_i (show (nI (((25 * x0 + x1) * 11 + (y0 + b1)) * 11 + (y0 + (b1 + 1 + n1)))) = (nI at_) from congrArg nI eat.symm) ?_
              refine lv_istore (lv' := [(11, .int (nI at_)), (0, .ref hM), (1, .int (nI 2)), (2, .int (nI x0)), (3, .int (nI x1)), (4, .int (nI y0)), (5, .int (nI y1)), (6, .int (nI 1)), (7, .int (nI (y1 - y0))), (8, .int (nI 64)), (9, .int (nI b1)), (10, .int (nI (b1 + 1 + n1)))]) hx hb d_Model_reckon_137 hl (by decide) rfl (fun ls hl => ?_)
              refine lv_aload_n hx hb d_Model_reckon_139 rfl (lv_at hl 1 rfl) ?_
              refine lv_iload_n hx hb d_Model_reckon_140 rfl (lv_at hl 2 rfl) ?_
              refine lv_iconst (v := (nI 1)) hx hb d_Model_reckon_141 (by decide) ?_
              refine n_isub hx hb (by omega) d_Model_reckon_142 ?_
              refine top_i (show (nI (2 - 1)) = nI 1 from rfl) ?_
              refine lv_iload hx hb d_Model_reckon_143 (lv_at hl 0 rfl) ?_
              refine vp_callSi (W.runV (As := [.int (nI 1), .int (nI at_)]) (rest := []) ⟨hx, hb, hml, hown, hts⟩ (c_countBy1 l G ty hM cd st al ac nf ns tl.toNat mg bw md wy sg_ sz_ ks bd aM at_ cu (by omega)) ⟨callB_of 2 hts (gd_TB cd_Model_countBy) rfl rfl rfl (hts _ ini_Model) (hts _ lk_Model_203) hd_Model_countBy ⟨Nat.le_of_ble_eq_true rfl, Nat.le_of_ble_eq_true rfl⟩, hts _ im_Model_countBy, hts _ sl_Model_countBy⟩ (preV_ro (hP.sub (ws' := [(hM, .inr (10, mO cd st al ac nf ns tl.toNat mg bw md wy sg_ sz_ ks bd aM)), (aM 28, .inl (ty 0, 75625, .inl (nF cu)))]) [0, 2] rfl) hX 0 rfl rfl) rfl rfl hl.1 rfl (lv_room (Nat.le_of_ble_eq_true rfl)) d_Model_reckon_145 ⟨Nat.le_of_ble_eq_true rfl, Nat.le_of_ble_eq_true rfl⟩) (fun r9 er9 => ?_)
              subst er9
              refine lv_istore (lv' := [(12, .int (nI (cu at_))), (11, .int (nI at_)), (0, .ref hM), (1, .int (nI 2)), (2, .int (nI x0)), (3, .int (nI x1)), (4, .int (nI y0)), (5, .int (nI y1)), (6, .int (nI 1)), (7, .int (nI (y1 - y0))), (8, .int (nI 64)), (9, .int (nI b1)), (10, .int (nI (b1 + 1 + n1)))]) hx hb d_Model_reckon_148 hl (by decide) rfl (fun ls hl => ?_)
              refine lv_iload hx hb d_Model_reckon_150 (lv_at hl 0 rfl) ?_
              refine n_if_le (tgt := 276) hx hb (by omega) d_Model_reckon_152 (by decide) (fun c152 => ?_) (fun c152 => ?_)
              · have hE2 : 1024 * va - (ca : Int) = dpS (mS vu cu x0 x1) (okc 2 sg_ (fun z9 => decide (1 ≤ z9) && (decide (wy ≠ 0) || (!tl || gs z9)))) (fun p9 => dpV (mS vu cu x0 x1) (okc 2 sg_ (fun z9 => decide (1 ≤ z9) && (decide (wy ≠ 0) || (!tl || gs z9)))) p9 y1) (y0 + b1) (dpV (mS vu cu x0 x1) (okc 2 sg_ (fun z9 => decide (1 ≤ z9) && (decide (wy ≠ 0) || (!tl || gs z9)))) (y0 + b1 + 1) y1) (n1 + 1) := by rw [dpS_s, if_neg]; exact hE; intro hh; first | omega | exact absurd hh.2.2 (by rw [show (okc 2 sg_ (fun z9 => decide (1 ≤ z9) && (decide (wy ≠ 0) || (!tl || gs z9)))) (n1 + 1) = false from tN_0 c165]; decide)
                have hc2 := hca
                have h02 := h00
                refine lv_iinc (v := (nI ((b1 + 1 + n1) + 1))) (lv' := [(10, .int (nI ((b1 + 1 + n1) + 1))), (12, .int (nI (cu at_))), (11, .int (nI at_)), (0, .ref hM), (1, .int (nI 2)), (2, .int (nI x0)), (3, .int (nI x1)), (4, .int (nI y0)), (5, .int (nI y1)), (6, .int (nI 1)), (7, .int (nI (y1 - y0))), (8, .int (nI 64)), (9, .int (nI b1))]) hx hb d_Model_reckon_276 hl (k := 12) rfl (nI_inc _ _ _ (by omega)) (by decide) rfl (fun ls hl => ?_)
                refine lv_goto (tgt := 114) hx hb d_Model_reckon_279 (by decide) ?_
                exact ih114 (n1 + 1) va ca _ _ _ (by omega) hE2 hc2 h02 (by omega) hP hD hS (lv_sub hl [3, 4, 5, 6, 7, 8, 9, 10, 11, 12, 0] rfl)
              · refine lv_aload_n hx hb d_Model_reckon_155 rfl (lv_at hl 2 rfl) ?_
                refine lv_iload_n hx hb d_Model_reckon_156 rfl (lv_at hl 3 rfl) ?_
                refine lv_iload hx hb d_Model_reckon_157 (lv_at hl 12 rfl) ?_
                refine lv_iload hx hb d_Model_reckon_159 (lv_at hl 11 rfl) ?_
                refine n_isub hx hb (by omega) d_Model_reckon_161 ?_
                refine top_i (show (nI ((b1 + 1 + n1) - b1)) = (nI (n1 + 1)) from congrArg nI (by omega)) ?_
                refine vp_callSi (W.runV (As := [.int (nI 2), .int (nI (n1 + 1))]) (rest := []) ⟨hx, hb, hml, hown, hts⟩ (c_Model_isCut l G ty hM cd st al ac nf ns 0 mg bw md wy sg_ sz_ ks bd aM 2 (n1 + 1) gs tl (by omega) (by omega) (by omega) (by omega) (by omega)) ⟨callB_of 2 hts (gd_TB cd_Model_isCut) rfl rfl rfl (hts _ ini_Model) (hts _ lk_Model_207) hd_Model_isCut ⟨Nat.le_of_ble_eq_true rfl, Nat.le_of_ble_eq_true rfl⟩, hts _ im_Model_isCut, hts _ sl_Model_isCut⟩ (preV_ro (hP.sub (ws' := [(hM, .inr (10, mO cd st al ac nf ns tl.toNat mg bw md wy sg_ sz_ ks bd aM)), (aM 20, .inl (ty 2, 65537, .inl (bF gs)))]) [0, 5] rfl) hX 0 rfl rfl) rfl rfl hl.1 rfl (lv_room (Nat.le_of_ble_eq_true rfl)) d_Model_reckon_162 ⟨Nat.le_of_ble_eq_true rfl, Nat.le_of_ble_eq_true rfl⟩) (fun r9 er9 => ?_)
                subst er9
                refine n_if_eq (tgt := 276) hx hb (tN_lt _) d_Model_reckon_165 (by decide) (fun c165 => ?_) (fun c165 => ?_)
                · have hE2 : 1024 * va - (ca : Int) = dpS (mS vu cu x0 x1) (okc 2 sg_ (fun z9 => decide (1 ≤ z9) && (decide (wy ≠ 0) || (!tl || gs z9)))) (fun p9 => dpV (mS vu cu x0 x1) (okc 2 sg_ (fun z9 => decide (1 ≤ z9) && (decide (wy ≠ 0) || (!tl || gs z9)))) p9 y1) (y0 + b1) (dpV (mS vu cu x0 x1) (okc 2 sg_ (fun z9 => decide (1 ≤ z9) && (decide (wy ≠ 0) || (!tl || gs z9)))) (y0 + b1 + 1) y1) (n1 + 1) := by rw [dpS_s, if_neg]; exact hE; intro hh; first | omega | exact absurd hh.2.2 (by rw [show (okc 2 sg_ (fun z9 => decide (1 ≤ z9) && (decide (wy ≠ 0) || (!tl || gs z9)))) (n1 + 1) = false from tN_0 c165]; decide)
                  have hc2 := hca
                  have h02 := h00
                  refine lv_iinc (v := (nI ((b1 + 1 + n1) + 1))) (lv' := [(10, .int (nI ((b1 + 1 + n1) + 1))), (12, .int (nI (cu at_))), (11, .int (nI at_)), (0, .ref hM), (1, .int (nI 2)), (2, .int (nI x0)), (3, .int (nI x1)), (4, .int (nI y0)), (5, .int (nI y1)), (6, .int (nI 1)), (7, .int (nI (y1 - y0))), (8, .int (nI 64)), (9, .int (nI b1))]) hx hb d_Model_reckon_276 hl (k := 12) rfl (nI_inc _ _ _ (by omega)) (by decide) rfl (fun ls hl => ?_)
                  refine lv_goto (tgt := 114) hx hb d_Model_reckon_279 (by decide) ?_
                  exact ih114 (n1 + 1) va ca _ _ _ (by omega) hE2 hc2 h02 (by omega) hP hD hS (lv_sub hl [3, 4, 5, 6, 7, 8, 9, 10, 11, 12, 0] rfl)
                · refine lv_aload_n hx hb d_Model_reckon_168 rfl (lv_at hl 2 rfl) ?_
                  refine va_get (D := G) (ci := 10) (v := .ref (aM 31)) (C := R_Model) (T := F_Model) (N := 47) hx hb hts in_Model hown hK hP 0 rfl rfl 31 (by decide) (hts _ fl_Model_85) (fun _ h9 => h9) rfl d_Model_reckon_169 ?_
                  refine lv_iload hx hb d_Model_reckon_172 (lv_at hl 10 rfl) ?_
                  refine lv_iload hx hb d_Model_reckon_174 (lv_at hl 12 rfl) ?_
                  refine n_iadd hx hb d_Model_reckon_176 ?_
                  refine n_lald hx hb hK hP 3 1 rfl rfl (by omega) (by omega) d_Model_reckon_177 ?_
                  refine top_l (show (iL ((va_up re2 (64 + b1) va) (64 + (b1 + 1 + n1)))) = (iL (re2 (64 + (b1 + 1 + n1)))) from congrArg iL (va_up_ne _ _ (by omega))) ?_
                  refine lv_aload_n hx hb d_Model_reckon_178 rfl (lv_at hl 2 rfl) ?_
                  refine lv_iload_n hx hb d_Model_reckon_179 rfl (lv_at hl 3 rfl) ?_
                  refine lv_iconst (v := (nI 1)) hx hb d_Model_reckon_180 (by decide) ?_
                  refine n_isub hx hb (by omega) d_Model_reckon_181 ?_
                  refine top_i (show (nI (2 - 1)) = nI 1 from rfl) ?_
                  refine lv_iload hx hb d_Model_reckon_182 (lv_at hl 1 rfl) ?_
                  refine vp_callSl (W.runV (As := [.int (nI 1), .int (nI at_)]) (rest := [.long (iL (re2 (64 + (b1 + 1 + n1))))]) ⟨hx, hb, hml, hown, hts⟩ (c_valueBy1 l G ty hM cd st al ac nf ns tl.toNat mg bw md wy sg_ sz_ ks bd aM at_ vu (by omega)) ⟨callB_of 2 hts (gd_TB cd_Model_valueBy) rfl rfl rfl (hts _ ini_Model) (hts _ lk_Model_211) hd_Model_valueBy ⟨Nat.le_of_ble_eq_true rfl, Nat.le_of_ble_eq_true rfl⟩, hts _ im_Model_valueBy, hts _ sl_Model_valueBy⟩ (preV_ro (hP.sub (ws' := [(hM, .inr (10, mO cd st al ac nf ns tl.toNat mg bw md wy sg_ sz_ ks bd aM)), (aM 27, .inl (ty 1, 75625, .inr (.inl (lF vu))))]) [0, 1] rfl) hX 0 rfl rfl) rfl rfl hl.1 rfl (lv_room (Nat.le_of_ble_eq_true rfl)) d_Model_reckon_184 ⟨Nat.le_of_ble_eq_true rfl, Nat.le_of_ble_eq_true rfl⟩) (fun r9 er9 => ?_)
                  subst er9
                  refine z_ladd hx hb d_Model_reckon_187 ?_
                  refine lv_lstore (lv' := [(13, .long (iL ((re2 (64 + (b1 + 1 + n1))) + (vu at_)))), (12, .int (nI (cu at_))), (11, .int (nI at_)), (0, .ref hM), (1, .int (nI 2)), (2, .int (nI x0)), (3, .int (nI x1)), (4, .int (nI y0)), (5, .int (nI y1)), (6, .int (nI 1)), (7, .int (nI (y1 - y0))), (8, .int (nI 64)), (9, .int (nI b1)), (10, .int (nI (b1 + 1 + n1)))]) hx hb d_Model_reckon_188 hl (by decide) rfl (fun ls hl => ?_)
                  refine lv_aload_n hx hb d_Model_reckon_190 rfl (lv_at hl 3 rfl) ?_
                  refine va_get (D := G) (ci := 10) (v := .ref (aM 32)) (C := R_Model) (T := F_Model) (N := 47) hx hb hts in_Model hown hK hP 0 rfl rfl 32 (by decide) (hts _ fl_Model_88) (fun _ h9 => h9) rfl d_Model_reckon_191 ?_
                  refine lv_iload hx hb d_Model_reckon_194 (lv_at hl 11 rfl) ?_
                  refine lv_iload hx hb d_Model_reckon_196 (lv_at hl 13 rfl) ?_
                  refine n_iadd hx hb d_Model_reckon_198 ?_
                  refine n_iald hx hb hK hP 4 0 rfl rfl (by omega) (by omega) d_Model_reckon_199 ?_
                  refine top_i (show (nI ((va_up rc2 (64 + b1) ca) (64 + (b1 + 1 + n1)))) = (nI (rc2 (64 + (b1 + 1 + n1)))) from congrArg nI (va_up_ne _ _ (by omega))) ?_
                  refine lv_iload hx hb d_Model_reckon_200 (lv_at hl 1 rfl) ?_
                  refine n_iadd hx hb d_Model_reckon_202 ?_
                  refine lv_istore (lv' := [(15, .int (nI ((rc2 (64 + (b1 + 1 + n1))) + (cu at_)))), (13, .long (iL ((re2 (64 + (b1 + 1 + n1))) + (vu at_)))), (12, .int (nI (cu at_))), (11, .int (nI at_)), (0, .ref hM), (1, .int (nI 2)), (2, .int (nI x0)), (3, .int (nI x1)), (4, .int (nI y0)), (5, .int (nI y1)), (6, .int (nI 1)), (7, .int (nI (y1 - y0))), (8, .int (nI 64)), (9, .int (nI b1)), (10, .int (nI (b1 + 1 + n1)))]) hx hb d_Model_reckon_203 hl (by decide) rfl (fun ls hl => ?_)
                  refine lv_lload hx hb d_Model_reckon_205 (lv_at hl 1 rfl) ?_
                  refine lv_aload_n hx hb d_Model_reckon_207 rfl (lv_at hl 4 rfl) ?_
                  refine va_get (D := G) (ci := 10) (v := .ref (aM 31)) (C := R_Model) (T := F_Model) (N := 47) hx hb hts in_Model hown hK hP 0 rfl rfl 31 (by decide) (hts _ fl_Model_85) (fun _ h9 => h9) rfl d_Model_reckon_208 ?_
                  refine lv_iload hx hb d_Model_reckon_211 (lv_at hl 12 rfl) ?_
                  refine lv_iload hx hb d_Model_reckon_213 (lv_at hl 13 rfl) ?_
                  refine n_iadd hx hb d_Model_reckon_215 ?_
                  refine n_lald hx hb hK hP 3 1 rfl rfl (by omega) (by omega) d_Model_reckon_216 ?_
                  refine top_l (show (iL ((va_up re2 (64 + b1) va) (64 + b1))) = (iL va) from congrArg iL (va_up_self _ _ _)) ?_
                  refine l_cmp_gt (tgt := 252) hx hb (by omega) (by omega) d_Model_reckon_217 d_Model_reckon_218 (by decide) (fun c217 => ?_) (fun c217 => ?_)
                  · refine lv_aload_n hx hb d_Model_reckon_252 rfl (lv_at hl 4 rfl) ?_
                    refine va_get (D := G) (ci := 10) (v := .ref (aM 31)) (C := R_Model) (T := F_Model) (N := 47) hx hb hts in_Model hown hK hP 0 rfl rfl 31 (by decide) (hts _ fl_Model_85) (fun _ h9 => h9) rfl d_Model_reckon_253 ?_
                    refine lv_iload hx hb d_Model_reckon_256 (lv_at hl 12 rfl) ?_
                    refine lv_iload hx hb d_Model_reckon_258 (lv_at hl 13 rfl) ?_
                    refine n_iadd hx hb d_Model_reckon_260 ?_
                    refine lv_lload hx hb d_Model_reckon_261 (lv_at hl 1 rfl) ?_
                    refine n_last hx hb hK hP hD hS 3 1 rfl rfl (by omega) (by omega) d_Model_reckon_263 (fun H locs hP hD hS => ?_)
                    rw [upd_lF] at hP hD
                    have hP : va_P G vwCl [(hM, .inr (10, mO cd st al ac nf ns tl.toNat mg bw md wy sg_ sz_ ks bd aM)), (aM 27, .inl (ty 1, 75625, .inr (.inl (lF vu)))), (aM 28, .inl (ty 0, 75625, .inl (nF cu))), (aM 31, .inl (ty 1, 128, .inr (.inl (lF (va_up (va_up re2 (64 + b1) va) (64 + b1) ((re2 (64 + (b1 + 1 + n1))) + (vu at_))))))), (aM 32, .inl (ty 0, 128, .inl (nF (va_up rc2 (64 + b1) ca)))), (aM 20, .inl (ty 2, 65537, .inl (bF gs)))] _ := hP
                    have hD : va_D A [(hM, .inr (10, mO cd st al ac nf ns tl.toNat mg bw md wy sg_ sz_ ks bd aM)), (aM 27, .inl (ty 1, 75625, .inr (.inl (lF vu)))), (aM 28, .inl (ty 0, 75625, .inl (nF cu))), (aM 31, .inl (ty 1, 128, .inr (.inl (lF (va_up (va_up re2 (64 + b1) va) (64 + b1) ((re2 (64 + (b1 + 1 + n1))) + (vu at_))))))), (aM 32, .inl (ty 0, 128, .inl (nF (va_up rc2 (64 + b1) ca)))), (aM 20, .inl (ty 2, 65537, .inl (bF gs)))] := hD
                    refine lv_aload_n hx hb d_Model_reckon_264 rfl (lv_at hl 4 rfl) ?_
                    refine va_get (D := G) (ci := 10) (v := .ref (aM 32)) (C := R_Model) (T := F_Model) (N := 47) hx hb hts in_Model hown hK hP 0 rfl rfl 32 (by decide) (hts _ fl_Model_88) (fun _ h9 => h9) rfl d_Model_reckon_265 ?_
                    refine lv_iload hx hb d_Model_reckon_268 (lv_at hl 12 rfl) ?_
                    refine lv_iload hx hb d_Model_reckon_270 (lv_at hl 13 rfl) ?_
                    refine n_iadd hx hb d_Model_reckon_272 ?_
                    refine lv_iload hx hb d_Model_reckon_273 (lv_at hl 0 rfl) ?_
                    refine n_iast hx hb hK hP hD hS 4 0 rfl rfl (by omega) (by omega) d_Model_reckon_275 (fun H locs hP hD hS => ?_)
                    rw [upd_nF] at hP hD
                    have hP : va_P G vwCl [(hM, .inr (10, mO cd st al ac nf ns tl.toNat mg bw md wy sg_ sz_ ks bd aM)), (aM 27, .inl (ty 1, 75625, .inr (.inl (lF vu)))), (aM 28, .inl (ty 0, 75625, .inl (nF cu))), (aM 31, .inl (ty 1, 128, .inr (.inl (lF (va_up (va_up re2 (64 + b1) va) (64 + b1) ((re2 (64 + (b1 + 1 + n1))) + (vu at_))))))), (aM 32, .inl (ty 0, 128, .inl (nF (va_up (va_up rc2 (64 + b1) ca) (64 + b1) ((rc2 (64 + (b1 + 1 + n1))) + (cu at_)))))), (aM 20, .inl (ty 2, 65537, .inl (bF gs)))] _ := hP
                    have hD : va_D A [(hM, .inr (10, mO cd st al ac nf ns tl.toNat mg bw md wy sg_ sz_ ks bd aM)), (aM 27, .inl (ty 1, 75625, .inr (.inl (lF vu)))), (aM 28, .inl (ty 0, 75625, .inl (nF cu))), (aM 31, .inl (ty 1, 128, .inr (.inl (lF (va_up (va_up re2 (64 + b1) va) (64 + b1) ((re2 (64 + (b1 + 1 + n1))) + (vu at_))))))), (aM 32, .inl (ty 0, 128, .inl (nF (va_up (va_up rc2 (64 + b1) ca) (64 + b1) ((rc2 (64 + (b1 + 1 + n1))) + (cu at_)))))), (aM 20, .inl (ty 2, 65537, .inl (bF gs)))] := hD
                    have hP : va_P G vwCl [(hM, .inr (10, mO cd st al ac nf ns tl.toNat mg bw md wy sg_ sz_ ks bd aM)), (aM 27, .inl (ty 1, 75625, .inr (.inl (lF vu)))), (aM 28, .inl (ty 0, 75625, .inl (nF cu))), (aM 31, .inl (ty 1, 128, .inr (.inl (lF (va_up re2 (64 + b1) (re2 (64 + (b1 + 1 + n1)) + vu at_)))))), (aM 32, .inl (ty 0, 128, .inl (nF (va_up rc2 (64 + b1) (rc2 (64 + (b1 + 1 + n1)) + cu at_))))), (aM 20, .inl (ty 2, 65537, .inl (bF gs)))] H := by rw [va_up_up, va_up_up] at hP; exact hP
                    have hD : va_D A [(hM, .inr (10, mO cd st al ac nf ns tl.toNat mg bw md wy sg_ sz_ ks bd aM)), (aM 27, .inl (ty 1, 75625, .inr (.inl (lF vu)))), (aM 28, .inl (ty 0, 75625, .inl (nF cu))), (aM 31, .inl (ty 1, 128, .inr (.inl (lF (va_up re2 (64 + b1) (re2 (64 + (b1 + 1 + n1)) + vu at_)))))), (aM 32, .inl (ty 0, 128, .inl (nF (va_up rc2 (64 + b1) (rc2 (64 + (b1 + 1 + n1)) + cu at_))))), (aM 20, .inl (ty 2, 65537, .inl (bF gs)))] := by rw [va_up_up, va_up_up] at hD; exact hD
                    have hE2 : 1024 * (re2 (64 + (b1 + 1 + n1)) + vu at_) - ((rc2 (64 + (b1 + 1 + n1)) + cu at_ : Nat) : Int) = dpS (mS vu cu x0 x1) (okc 2 sg_ (fun z9 => decide (1 ≤ z9) && (decide (wy ≠ 0) || (!tl || gs z9)))) (fun p9 => dpV (mS vu cu x0 x1) (okc 2 sg_ (fun z9 => decide (1 ≤ z9) && (decide (wy ≠ 0) || (!tl || gs z9)))) p9 y1) (y0 + b1) (dpV (mS vu cu x0 x1) (okc 2 sg_ (fun z9 => decide (1 ≤ z9) && (decide (wy ≠ 0) || (!tl || gs z9)))) (y0 + b1 + 1) y1) (n1 + 1) := by rw [dpS_s, if_pos ⟨by omega, by omega, tN_1 c165⟩]; omega
                    have hc2 : rc2 (64 + (b1 + 1 + n1)) + cu at_ ≤ (x1 - x0) * (y1 - y0 - b1) := by omega
                    have h02 : rc2 (64 + (b1 + 1 + n1)) + cu at_ = 0 → re2 (64 + (b1 + 1 + n1)) + vu at_ = 0 := by omega
                    refine lv_iinc (v := (nI ((b1 + 1 + n1) + 1))) (lv' := [(10, .int (nI ((b1 + 1 + n1) + 1))), (15, .int (nI ((rc2 (64 + (b1 + 1 + n1))) + (cu at_)))), (13, .long (iL ((re2 (64 + (b1 + 1 + n1))) + (vu at_)))), (12, .int (nI (cu at_))), (11, .int (nI at_)), (0, .ref hM), (1, .int (nI 2)), (2, .int (nI x0)), (3, .int (nI x1)), (4, .int (nI y0)), (5, .int (nI y1)), (6, .int (nI 1)), (7, .int (nI (y1 - y0))), (8, .int (nI 64)), (9, .int (nI b1))]) hx hb d_Model_reckon_276 hl (k := 14) rfl (nI_inc _ _ _ (by omega)) (by decide) rfl (fun ls hl => ?_)
                    refine lv_goto (tgt := 114) hx hb d_Model_reckon_279 (by decide) ?_
                    exact ih114 (n1 + 1) (re2 (64 + (b1 + 1 + n1)) + vu at_) (rc2 (64 + (b1 + 1 + n1)) + cu at_) _ _ _ (by omega) hE2 hc2 h02 (by omega) hP hD hS (lv_sub hl [5, 6, 7, 8, 9, 10, 11, 12, 13, 14, 0] rfl)
                  · refine lv_lload hx hb d_Model_reckon_221 (lv_at hl 1 rfl) ?_
                    refine lv_aload_n hx hb d_Model_reckon_223 rfl (lv_at hl 4 rfl) ?_
                    refine va_get (D := G) (ci := 10) (v := .ref (aM 31)) (C := R_Model) (T := F_Model) (N := 47) hx hb hts in_Model hown hK hP 0 rfl rfl 31 (by decide) (hts _ fl_Model_85) (fun _ h9 => h9) rfl d_Model_reckon_224 ?_
                    refine lv_iload hx hb d_Model_reckon_227 (lv_at hl 12 rfl) ?_
                    refine lv_iload hx hb d_Model_reckon_229 (lv_at hl 13 rfl) ?_
                    refine n_iadd hx hb d_Model_reckon_231 ?_
                    refine n_lald hx hb hK hP 3 1 rfl rfl (by omega) (by omega) d_Model_reckon_232 ?_
                    refine top_l (show (iL ((va_up re2 (64 + b1) va) (64 + b1))) = (iL va) from congrArg iL (va_up_self _ _ _)) ?_
                    refine l_cmp_ne (tgt := 276) hx hb (by omega) (by omega) d_Model_reckon_233 d_Model_reckon_234 (by decide) (fun c233 => ?_) (fun c233 => ?_)
                    · have hE2 : 1024 * va - (ca : Int) = dpS (mS vu cu x0 x1) (okc 2 sg_ (fun z9 => decide (1 ≤ z9) && (decide (wy ≠ 0) || (!tl || gs z9)))) (fun p9 => dpV (mS vu cu x0 x1) (okc 2 sg_ (fun z9 => decide (1 ≤ z9) && (decide (wy ≠ 0) || (!tl || gs z9)))) p9 y1) (y0 + b1) (dpV (mS vu cu x0 x1) (okc 2 sg_ (fun z9 => decide (1 ≤ z9) && (decide (wy ≠ 0) || (!tl || gs z9)))) (y0 + b1 + 1) y1) (n1 + 1) := by rw [dpS_s, if_neg]; exact hE; intro hh; first | omega | exact absurd hh.2.2 (by rw [show (okc 2 sg_ (fun z9 => decide (1 ≤ z9) && (decide (wy ≠ 0) || (!tl || gs z9)))) (n1 + 1) = false from tN_0 c165]; decide)
                      have hc2 := hca
                      have h02 := h00
                      refine lv_iinc (v := (nI ((b1 + 1 + n1) + 1))) (lv' := [(10, .int (nI ((b1 + 1 + n1) + 1))), (15, .int (nI ((rc2 (64 + (b1 + 1 + n1))) + (cu at_)))), (13, .long (iL ((re2 (64 + (b1 + 1 + n1))) + (vu at_)))), (12, .int (nI (cu at_))), (11, .int (nI at_)), (0, .ref hM), (1, .int (nI 2)), (2, .int (nI x0)), (3, .int (nI x1)), (4, .int (nI y0)), (5, .int (nI y1)), (6, .int (nI 1)), (7, .int (nI (y1 - y0))), (8, .int (nI 64)), (9, .int (nI b1))]) hx hb d_Model_reckon_276 hl (k := 14) rfl (nI_inc _ _ _ (by omega)) (by decide) rfl (fun ls hl => ?_)
                      refine lv_goto (tgt := 114) hx hb d_Model_reckon_279 (by decide) ?_
                      exact ih114 (n1 + 1) va ca _ _ _ (by omega) hE2 hc2 h02 (by omega) hP hD hS (lv_sub hl [5, 6, 7, 8, 9, 10, 11, 12, 13, 14, 0] rfl)
                    · refine lv_iload hx hb d_Model_reckon_237 (lv_at hl 0 rfl) ?_
                      refine lv_aload_n hx hb d_Model_reckon_239 rfl (lv_at hl 4 rfl) ?_
                      refine va_get (D := G) (ci := 10) (v := .ref (aM 32)) (C := R_Model) (T := F_Model) (N := 47) hx hb hts in_Model hown hK hP 0 rfl rfl 32 (by decide) (hts _ fl_Model_88) (fun _ h9 => h9) rfl d_Model_reckon_240 ?_
                      refine lv_iload hx hb d_Model_reckon_243 (lv_at hl 12 rfl) ?_
                      refine lv_iload hx hb d_Model_reckon_245 (lv_at hl 13 rfl) ?_
                      refine n_iadd hx hb d_Model_reckon_247 ?_
                      refine n_iald hx hb hK hP 4 0 rfl rfl (by omega) (by omega) d_Model_reckon_248 ?_
                      refine top_i (show (nI ((va_up rc2 (64 + b1) ca) (64 + b1))) = (nI ca) from congrArg nI (va_up_self _ _ _)) ?_
                      refine n_icmp_ge (tgt := 276) hx hb (by omega) (by omega) d_Model_reckon_249 (by decide) (fun c249 => ?_) (fun c249 => ?_)
                      · have hE2 : 1024 * va - (ca : Int) = dpS (mS vu cu x0 x1) (okc 2 sg_ (fun z9 => decide (1 ≤ z9) && (decide (wy ≠ 0) || (!tl || gs z9)))) (fun p9 => dpV (mS vu cu x0 x1) (okc 2 sg_ (fun z9 => decide (1 ≤ z9) && (decide (wy ≠ 0) || (!tl || gs z9)))) p9 y1) (y0 + b1) (dpV (mS vu cu x0 x1) (okc 2 sg_ (fun z9 => decide (1 ≤ z9) && (decide (wy ≠ 0) || (!tl || gs z9)))) (y0 + b1 + 1) y1) (n1 + 1) := by rw [dpS_s, if_neg]; exact hE; intro hh; first | omega | exact absurd hh.2.2 (by rw [show (okc 2 sg_ (fun z9 => decide (1 ≤ z9) && (decide (wy ≠ 0) || (!tl || gs z9)))) (n1 + 1) = false from tN_0 c165]; decide)
                        have hc2 := hca
                        have h02 := h00
                        refine lv_iinc (v := (nI ((b1 + 1 + n1) + 1))) (lv' := [(10, .int (nI ((b1 + 1 + n1) + 1))), (15, .int (nI ((rc2 (64 + (b1 + 1 + n1))) + (cu at_)))), (13, .long (iL ((re2 (64 + (b1 + 1 + n1))) + (vu at_)))), (12, .int (nI (cu at_))), (11, .int (nI at_)), (0, .ref hM), (1, .int (nI 2)), (2, .int (nI x0)), (3, .int (nI x1)), (4, .int (nI y0)), (5, .int (nI y1)), (6, .int (nI 1)), (7, .int (nI (y1 - y0))), (8, .int (nI 64)), (9, .int (nI b1))]) hx hb d_Model_reckon_276 hl (k := 14) rfl (nI_inc _ _ _ (by omega)) (by decide) rfl (fun ls hl => ?_)
                        refine lv_goto (tgt := 114) hx hb d_Model_reckon_279 (by decide) ?_
                        exact ih114 (n1 + 1) va ca _ _ _ (by omega) hE2 hc2 h02 (by omega) hP hD hS (lv_sub hl [5, 6, 7, 8, 9, 10, 11, 12, 13, 14, 0] rfl)
                      · refine lv_aload_n hx hb d_Model_reckon_252 rfl (lv_at hl 4 rfl) ?_
                        refine va_get (D := G) (ci := 10) (v := .ref (aM 31)) (C := R_Model) (T := F_Model) (N := 47) hx hb hts in_Model hown hK hP 0 rfl rfl 31 (by decide) (hts _ fl_Model_85) (fun _ h9 => h9) rfl d_Model_reckon_253 ?_
                        refine lv_iload hx hb d_Model_reckon_256 (lv_at hl 12 rfl) ?_
                        refine lv_iload hx hb d_Model_reckon_258 (lv_at hl 13 rfl) ?_
                        refine n_iadd hx hb d_Model_reckon_260 ?_
                        refine lv_lload hx hb d_Model_reckon_261 (lv_at hl 1 rfl) ?_
                        refine n_last hx hb hK hP hD hS 3 1 rfl rfl (by omega) (by omega) d_Model_reckon_263 (fun H locs hP hD hS => ?_)
                        rw [upd_lF] at hP hD
                        have hP : va_P G vwCl [(hM, .inr (10, mO cd st al ac nf ns tl.toNat mg bw md wy sg_ sz_ ks bd aM)), (aM 27, .inl (ty 1, 75625, .inr (.inl (lF vu)))), (aM 28, .inl (ty 0, 75625, .inl (nF cu))), (aM 31, .inl (ty 1, 128, .inr (.inl (lF (va_up (va_up re2 (64 + b1) va) (64 + b1) ((re2 (64 + (b1 + 1 + n1))) + (vu at_))))))), (aM 32, .inl (ty 0, 128, .inl (nF (va_up rc2 (64 + b1) ca)))), (aM 20, .inl (ty 2, 65537, .inl (bF gs)))] _ := hP
                        have hD : va_D A [(hM, .inr (10, mO cd st al ac nf ns tl.toNat mg bw md wy sg_ sz_ ks bd aM)), (aM 27, .inl (ty 1, 75625, .inr (.inl (lF vu)))), (aM 28, .inl (ty 0, 75625, .inl (nF cu))), (aM 31, .inl (ty 1, 128, .inr (.inl (lF (va_up (va_up re2 (64 + b1) va) (64 + b1) ((re2 (64 + (b1 + 1 + n1))) + (vu at_))))))), (aM 32, .inl (ty 0, 128, .inl (nF (va_up rc2 (64 + b1) ca)))), (aM 20, .inl (ty 2, 65537, .inl (bF gs)))] := hD
                        refine lv_aload_n hx hb d_Model_reckon_264 rfl (lv_at hl 4 rfl) ?_
                        refine va_get (D := G) (ci := 10) (v := .ref (aM 32)) (C := R_Model) (T := F_Model) (N := 47) hx hb hts in_Model hown hK hP 0 rfl rfl 32 (by decide) (hts _ fl_Model_88) (fun _ h9 => h9) rfl d_Model_reckon_265 ?_
                        refine lv_iload hx hb d_Model_reckon_268 (lv_at hl 12 rfl) ?_
                        refine lv_iload hx hb d_Model_reckon_270 (lv_at hl 13 rfl) ?_
                        refine n_iadd hx hb d_Model_reckon_272 ?_
                        refine lv_iload hx hb d_Model_reckon_273 (lv_at hl 0 rfl) ?_
                        refine n_iast hx hb hK hP hD hS 4 0 rfl rfl (by omega) (by omega) d_Model_reckon_275 (fun H locs hP hD hS => ?_)
                        rw [upd_nF] at hP hD
                        have hP : va_P G vwCl [(hM, .inr (10, mO cd st al ac nf ns tl.toNat mg bw md wy sg_ sz_ ks bd aM)), (aM 27, .inl (ty 1, 75625, .inr (.inl (lF vu)))), (aM 28, .inl (ty 0, 75625, .inl (nF cu))), (aM 31, .inl (ty 1, 128, .inr (.inl (lF (va_up (va_up re2 (64 + b1) va) (64 + b1) ((re2 (64 + (b1 + 1 + n1))) + (vu at_))))))), (aM 32, .inl (ty 0, 128, .inl (nF (va_up (va_up rc2 (64 + b1) ca) (64 + b1) ((rc2 (64 + (b1 + 1 + n1))) + (cu at_)))))), (aM 20, .inl (ty 2, 65537, .inl (bF gs)))] _ := hP
                        have hD : va_D A [(hM, .inr (10, mO cd st al ac nf ns tl.toNat mg bw md wy sg_ sz_ ks bd aM)), (aM 27, .inl (ty 1, 75625, .inr (.inl (lF vu)))), (aM 28, .inl (ty 0, 75625, .inl (nF cu))), (aM 31, .inl (ty 1, 128, .inr (.inl (lF (va_up (va_up re2 (64 + b1) va) (64 + b1) ((re2 (64 + (b1 + 1 + n1))) + (vu at_))))))), (aM 32, .inl (ty 0, 128, .inl (nF (va_up (va_up rc2 (64 + b1) ca) (64 + b1) ((rc2 (64 + (b1 + 1 + n1))) + (cu at_)))))), (aM 20, .inl (ty 2, 65537, .inl (bF gs)))] := hD
                        have hP : va_P G vwCl [(hM, .inr (10, mO cd st al ac nf ns tl.toNat mg bw md wy sg_ sz_ ks bd aM)), (aM 27, .inl (ty 1, 75625, .inr (.inl (lF vu)))), (aM 28, .inl (ty 0, 75625, .inl (nF cu))), (aM 31, .inl (ty 1, 128, .inr (.inl (lF (va_up re2 (64 + b1) (re2 (64 + (b1 + 1 + n1)) + vu at_)))))), (aM 32, .inl (ty 0, 128, .inl (nF (va_up rc2 (64 + b1) (rc2 (64 + (b1 + 1 + n1)) + cu at_))))), (aM 20, .inl (ty 2, 65537, .inl (bF gs)))] H := by rw [va_up_up, va_up_up] at hP; exact hP
                        have hD : va_D A [(hM, .inr (10, mO cd st al ac nf ns tl.toNat mg bw md wy sg_ sz_ ks bd aM)), (aM 27, .inl (ty 1, 75625, .inr (.inl (lF vu)))), (aM 28, .inl (ty 0, 75625, .inl (nF cu))), (aM 31, .inl (ty 1, 128, .inr (.inl (lF (va_up re2 (64 + b1) (re2 (64 + (b1 + 1 + n1)) + vu at_)))))), (aM 32, .inl (ty 0, 128, .inl (nF (va_up rc2 (64 + b1) (rc2 (64 + (b1 + 1 + n1)) + cu at_))))), (aM 20, .inl (ty 2, 65537, .inl (bF gs)))] := by rw [va_up_up, va_up_up] at hD; exact hD
                        have hE2 : 1024 * (re2 (64 + (b1 + 1 + n1)) + vu at_) - ((rc2 (64 + (b1 + 1 + n1)) + cu at_ : Nat) : Int) = dpS (mS vu cu x0 x1) (okc 2 sg_ (fun z9 => decide (1 ≤ z9) && (decide (wy ≠ 0) || (!tl || gs z9)))) (fun p9 => dpV (mS vu cu x0 x1) (okc 2 sg_ (fun z9 => decide (1 ≤ z9) && (decide (wy ≠ 0) || (!tl || gs z9)))) p9 y1) (y0 + b1) (dpV (mS vu cu x0 x1) (okc 2 sg_ (fun z9 => decide (1 ≤ z9) && (decide (wy ≠ 0) || (!tl || gs z9)))) (y0 + b1 + 1) y1) (n1 + 1) := by rw [dpS_s, if_pos ⟨by omega, by omega, tN_1 c165⟩]; omega
                        have hc2 : rc2 (64 + (b1 + 1 + n1)) + cu at_ ≤ (x1 - x0) * (y1 - y0 - b1) := by omega
                        have h02 : rc2 (64 + (b1 + 1 + n1)) + cu at_ = 0 → re2 (64 + (b1 + 1 + n1)) + vu at_ = 0 := by omega
                        refine lv_iinc (v := (nI ((b1 + 1 + n1) + 1))) (lv' := [(10, .int (nI ((b1 + 1 + n1) + 1))), (15, .int (nI ((rc2 (64 + (b1 + 1 + n1))) + (cu at_)))), (13, .long (iL ((re2 (64 + (b1 + 1 + n1))) + (vu at_)))), (12, .int (nI (cu at_))), (11, .int (nI at_)), (0, .ref hM), (1, .int (nI 2)), (2, .int (nI x0)), (3, .int (nI x1)), (4, .int (nI y0)), (5, .int (nI y1)), (6, .int (nI 1)), (7, .int (nI (y1 - y0))), (8, .int (nI 64)), (9, .int (nI b1))]) hx hb d_Model_reckon_276 hl (k := 14) rfl (nI_inc _ _ _ (by omega)) (by decide) rfl (fun ls hl => ?_)
                        refine lv_goto (tgt := 114) hx hb d_Model_reckon_279 (by decide) ?_
                        exact ih114 (n1 + 1) (re2 (64 + (b1 + 1 + n1)) + vu at_) (rc2 (64 + (b1 + 1 + n1)) + cu at_) _ _ _ (by omega) hE2 hc2 h02 (by omega) hP hD hS (lv_sub hl [5, 6, 7, 8, 9, 10, 11, 12, 13, 14, 0] rfl)
        exact L114 ((y1 - y0) + 1 - (b1 + 0) + 1) 0 (re2 (64 + (b1 + 1))) (rc2 (64 + (b1 + 1))) _ _ _ (by omega) hr11 hkk hr1.2.2 (Nat.lt_succ_self _) hP hD hS (lv_sub hl [1, 2, 3, 4, 5, 6, 7, 8, 9, 10, 0] rfl)
  exact L59 ((y1 - y0) + 1) (y1 - y0) (va_up re (64 + (y1 - y0)) 0) (va_up rc (64 + (y1 - y0)) 0) _ _ _ (Nat.le_refl _) (fun p h1 h2 => by rw [show p = y1 - y0 from by omega]; exact rOKr_end (by show dpV _ _ (y0 + (y1 - y0)) y1 = 0; rw [show y0 + (y1 - y0) = y1 by omega]; exact dpV_end _ _ _)) (fun q hq => ⟨va_up_ne _ _ (by omega), va_up_ne _ _ (by omega)⟩) (Nat.lt_succ_self _) hP hD hS (lv_sub hl [4, 5, 6, 7, 8, 9, 3, 2, 1, 0] rfl)

abbrev q_reckon21 (G : va_G) (ty : Nat → ClassId) (hM : Nat) (cd : Nat) (st : Nat) (al : Nat) (ac : Nat) (nf : Nat) (ns : Nat) (mg : Nat) (bw : Nat) (md : Nat) (wy : Nat) (sg_ : Nat) (sz_ : Nat) (ks : Nat) (bd : Int) (aM : Nat → Nat) (gs : Nat → Bool) (tl : Bool) (x0 : Nat) (x1 : Nat) (y0 : Nat) (y1 : Nat) (vu : Nat → Int) (cu : Nat → Nat) (re : Nat → Int) (rc : Nat → Nat) (A : Nat → Prop) : Array Value → State → Outcome → State → Prop := va_Qv (fun (uu : (Nat → Int) × (Nat → Nat)) => (∀ p, p ≤ (x1 - x0) → rOKr uu.1 uu.2 (fun p9 => dpV (fun b9 e9 => mS vu cu b9 e9 y0 y1) (okc 2 sg_ (fun z9 => decide (1 ≤ z9) && (decide (wy ≠ 0) || (!tl || gs z9)))) (x0 + p9) x1) 64 (y1 - y0) (x1 - x0) p) ∧ (∀ q, q < 64 ∨ 64 + (x1 - x0) < q → uu.1 q = re q ∧ uu.2 q = rc q)) (at_W G (fun (uu : (Nat → Int) × (Nat → Nat)) => [(hM, .inr (10, mO cd st al ac nf ns tl.toNat mg bw md wy sg_ sz_ ks bd aM)), (aM 27, .inl (ty 1, 75625, .inr (.inl (lF vu)))), (aM 28, .inl (ty 0, 75625, .inl (nF cu))), (aM 31, .inl (ty 1, 128, .inr (.inl (lF uu.1)))), (aM 32, .inl (ty 0, 128, .inl (nF uu.2))), (aM 20, .inl (ty 2, 65537, .inl (bF gs)))]) A) A
set_option maxRecDepth 100000 in
set_option maxHeartbeats 4000000 in
theorem c_reckon21 (l : Launch) (G : va_G) (ty : Nat → ClassId) (sz : Nat) (hM : Nat) (cd : Nat) (st : Nat) (al : Nat) (ac : Nat) (nf : Nat) (ns : Nat) (mg : Nat) (bw : Nat) (md : Nat) (wy : Nat) (sg_ : Nat) (sz_ : Nat) (ks : Nat) (bd : Int) (aM : Nat → Nat) (gs : Nat → Bool) (tl : Bool) (x0 : Nat) (x1 : Nat) (y0 : Nat) (y1 : Nat) (vu : Nat → Int) (cu : Nat → Nat) (re : Nat → Int) (rc : Nat → Nat) (gtp : 2 ≤ sg_ ∧ sg_ ≤ 3) (gwy : wy ≤ 1) (gax : 1 = (if (sg_ - 2) % 2 = 0 then wy else 1 - wy)) (k1 : x0 < x1) (k2 : x1 ≤ 24) (k3 : y0 < y1) (k4 : y1 ≤ 10) (gO : ∀ i j, x0 ≤ i → i < j → j ≤ x1 → mOK vu cu i j y0 y1) : Met l y_Model_reckon ws_Model_reckon { frames := 2, cells := 0, slots := 0, locals := 50 } (va_Pc [.ref hM, .int (nI 2), .int (nI x0), .int (nI x1), .int (nI y0), .int (nI y1)] (fun U => U.heap.size = sz ∧ va_P G vwCl [(hM, .inr (10, mO cd st al ac nf ns tl.toNat mg bw md wy sg_ sz_ ks bd aM)), (aM 27, .inl (ty 1, 75625, .inr (.inl (lF vu)))), (aM 28, .inl (ty 0, 75625, .inl (nF cu))), (aM 31, .inl (ty 1, 128, .inr (.inl (lF re)))), (aM 32, .inl (ty 0, 128, .inl (nF rc))), (aM 20, .inl (ty 2, 65537, .inl (bF gs)))] U.heap ∧ KX G ty U ∧ va_D (fun _ => True) [(hM, .inr (10, mO cd st al ac nf ns tl.toNat mg bw md wy sg_ sz_ ks bd aM)), (aM 27, .inl (ty 1, 75625, .inr (.inl (lF vu)))), (aM 28, .inl (ty 0, 75625, .inl (nF cu))), (aM 31, .inl (ty 1, 128, .inr (.inl (lF re)))), (aM 32, .inl (ty 0, 128, .inl (nF rc))), (aM 20, .inl (ty 2, 65537, .inl (bF gs)))])) (q_reckon21 G ty hM cd st al ac nf ns mg bw md wy sg_ sz_ ks bd aM gs tl x0 x1 y0 y1 vu cu re rc (va_A [(hM, .inr (10, mO cd st al ac nf ns tl.toNat mg bw md wy sg_ sz_ ks bd aM)), (aM 27, .inl (ty 1, 75625, .inr (.inl (lF vu)))), (aM 28, .inl (ty 0, 75625, .inl (nF cu))), (aM 31, .inl (ty 1, 128, .inr (.inl (lF re)))), (aM 32, .inl (ty 0, 128, .inl (nF rc))), (aM 20, .inl (ty 2, 65537, .inl (bF gs)))] sz)) 0 0 (va_A [(hM, .inr (10, mO cd st al ac nf ns tl.toNat mg bw md wy sg_ sz_ ks bd aM)), (aM 27, .inl (ty 1, 75625, .inr (.inl (lF vu)))), (aM 28, .inl (ty 0, 75625, .inl (nF cu))), (aM 31, .inl (ty 1, 128, .inr (.inl (lF re)))), (aM 32, .inl (ty 0, 128, .inl (nF rc))), (aM 20, .inl (ty 2, 65537, .inl (bF gs)))] sz) := by
  refine met_wr (y := y_Model_reckon) (maxL := 16) (sz := sz) (G := G) (ty := ty) (mc := 0) (ms := 0) (av := [.ref hM, .int (nI 2), .int (nI x0), .int (nI x1), .int (nI y0), .int (nI y1)]) (W0 := [(hM, .inr (10, mO cd st al ac nf ns tl.toNat mg bw md wy sg_ sz_ ks bd aM)), (aM 27, .inl (ty 1, 75625, .inr (.inl (lF vu)))), (aM 28, .inl (ty 0, 75625, .inl (nF cu))), (aM 31, .inl (ty 1, 128, .inr (.inl (lF re)))), (aM 32, .inl (ty 0, 128, .inl (nF rc))), (aM 20, .inl (ty 2, 65537, .inl (bF gs)))]) (fun A => q_reckon21 G ty hM cd st al ac nf ns mg bw md wy sg_ sz_ ks bd aM gs tl x0 x1 y0 y1 vu cu re rc A) R_Model (by decide) rfl rfl (Nat.le_of_ble_eq_true rfl) ?_
  intro p e s m below meth c ls A hx hb hr hml hown hts hlocks hin hA hP hX hD hS hl
  have hK := hX.1
  have hl : lv_has ls 16 [(0, .ref hM), (1, .int (nI 2)), (2, .int (nI x0)), (3, .int (nI x1)), (4, .int (nI y0)), (5, .int (nI y1))] := hl
  have hKn : ∀ a9, a9 ≤ x1 - x0 → (y1 - y0) * a9 ≤ 240 := fun a9 h9 => Nat.le_trans (Nat.mul_le_mul (show y1 - y0 ≤ 10 by omega) (show a9 ≤ 24 by omega)) (by decide)
  have hdv : ∀ p, x0 ≤ p → p ≤ x1 → 0 ≤ dpV (fun b9 e9 => mS vu cu b9 e9 y0 y1) (okc 2 sg_ (fun z9 => decide (1 ≤ z9) && (decide (wy ≠ 0) || (!tl || gs z9)))) p x1 ∧ dpV (fun b9 e9 => mS vu cu b9 e9 y0 y1) (okc 2 sg_ (fun z9 => decide (1 ≤ z9) && (decide (wy ≠ 0) || (!tl || gs z9)))) p x1 ≤ 26400000000000000 := fun p h1 h2 => dpV_u (by omega) h2 (fun i j h3 h4 h5 => mS_le (gO i j (by omega) h4 h5))
  refine lv_aload_n hx hb d_Model_reckon_0 rfl (lv_at hl 0 rfl) ?_
  refine lv_iload_n hx hb d_Model_reckon_1 rfl (lv_at hl 1 rfl) ?_
  refine vp_callSi (W.runV (As := [.int (nI 2)]) (rest := []) ⟨hx, hb, hml, hown, hts⟩ (c_Model_isRipped l G ty hM cd st al ac nf ns tl.toNat mg bw md wy sg_ sz_ ks bd aM 2 (by omega) (by omega) (by omega)) ⟨callB_of 1 hts (gd_TB cd_Model_isRipped) rfl rfl rfl (hts _ ini_Model) (hts _ lk_Model_196) hd_Model_isRipped ⟨Nat.le_of_ble_eq_true rfl, Nat.le_of_ble_eq_true rfl⟩, hts _ im_Model_isRipped, hts _ sl_Model_isRipped⟩ (preV_ro (hP.sub (ws' := [(hM, .inr (10, mO cd st al ac nf ns tl.toNat mg bw md wy sg_ sz_ ks bd aM))]) [0] rfl) hX 0 rfl rfl) rfl rfl hl.1 rfl (lv_room (Nat.le_of_ble_eq_true rfl)) d_Model_reckon_2 ⟨Nat.le_of_ble_eq_true rfl, Nat.le_of_ble_eq_true rfl⟩) (fun r9 er9 => ?_)
  subst er9
  refine top_i (show (nI (1 - (if (sg_ - 2) % 2 = 0 then wy else 1 - wy))) = (nI 0) from congrArg (fun z9 => nI (1 - z9)) gax.symm) ?_
  refine lv_istore (lv' := [(6, .int (nI 0)), (0, .ref hM), (1, .int (nI 2)), (2, .int (nI x0)), (3, .int (nI x1)), (4, .int (nI y0)), (5, .int (nI y1))]) hx hb d_Model_reckon_5 hl (by decide) rfl (fun ls hl => ?_)
  refine lv_iload hx hb d_Model_reckon_7 (lv_at hl 0 rfl) ?_
  refine n_if_eq (tgt := 20) hx hb (by omega) d_Model_reckon_9 (by decide) (fun c9 => ?_) (fun c9 => absurd c9 (by omega))
  refine lv_iload_n hx hb d_Model_reckon_20 rfl (lv_at hl 4 rfl) ?_
  refine lv_iload_n hx hb d_Model_reckon_21 rfl (lv_at hl 3 rfl) ?_
  refine n_isub hx hb (by omega) d_Model_reckon_22 ?_
  refine lv_istore (lv' := [(7, .int (nI (x1 - x0))), (6, .int (nI 0)), (0, .ref hM), (1, .int (nI 2)), (2, .int (nI x0)), (3, .int (nI x1)), (4, .int (nI y0)), (5, .int (nI y1))]) hx hb d_Model_reckon_23 hl (by decide) rfl (fun ls hl => ?_)
  refine lv_bipush (v := (nI 32)) hx hb d_Model_reckon_25 (by decide) ?_
  refine lv_iload_n hx hb d_Model_reckon_27 rfl (lv_at hl 3 rfl) ?_
  refine n_imul hx hb d_Model_reckon_28 ?_
  refine top_i (show (nI (32 * 2)) = nI 64 from rfl) ?_
  refine lv_istore (lv' := [(8, .int (nI 64)), (7, .int (nI (x1 - x0))), (6, .int (nI 0)), (0, .ref hM), (1, .int (nI 2)), (2, .int (nI x0)), (3, .int (nI x1)), (4, .int (nI y0)), (5, .int (nI y1))]) hx hb d_Model_reckon_29 hl (by decide) rfl (fun ls hl => ?_)
  refine lv_aload_n hx hb d_Model_reckon_31 rfl (lv_at hl 3 rfl) ?_
  refine va_get (D := G) (ci := 10) (v := .ref (aM 31)) (C := R_Model) (T := F_Model) (N := 47) hx hb hts in_Model hown hK hP 0 rfl rfl 31 (by decide) (hts _ fl_Model_85) (fun _ h9 => h9) rfl d_Model_reckon_32 ?_
  refine lv_iload hx hb d_Model_reckon_35 (lv_at hl 0 rfl) ?_
  refine lv_iload hx hb d_Model_reckon_37 (lv_at hl 1 rfl) ?_
  refine n_iadd hx hb d_Model_reckon_39 ?_
  refine lv_lconst (v := iL 0) hx hb d_Model_reckon_40 (by decide) ?_
  refine n_last hx hb hK hP hD hS 3 1 rfl rfl (by omega) (by omega) d_Model_reckon_41 (fun H locs hP hD hS => ?_)
  rw [upd_lF] at hP hD
  have hP : va_P G vwCl [(hM, .inr (10, mO cd st al ac nf ns tl.toNat mg bw md wy sg_ sz_ ks bd aM)), (aM 27, .inl (ty 1, 75625, .inr (.inl (lF vu)))), (aM 28, .inl (ty 0, 75625, .inl (nF cu))), (aM 31, .inl (ty 1, 128, .inr (.inl (lF (va_up re (64 + (x1 - x0)) 0))))), (aM 32, .inl (ty 0, 128, .inl (nF rc))), (aM 20, .inl (ty 2, 65537, .inl (bF gs)))] _ := hP
  have hD : va_D A [(hM, .inr (10, mO cd st al ac nf ns tl.toNat mg bw md wy sg_ sz_ ks bd aM)), (aM 27, .inl (ty 1, 75625, .inr (.inl (lF vu)))), (aM 28, .inl (ty 0, 75625, .inl (nF cu))), (aM 31, .inl (ty 1, 128, .inr (.inl (lF (va_up re (64 + (x1 - x0)) 0))))), (aM 32, .inl (ty 0, 128, .inl (nF rc))), (aM 20, .inl (ty 2, 65537, .inl (bF gs)))] := hD
  refine lv_aload_n hx hb d_Model_reckon_42 rfl (lv_at hl 3 rfl) ?_
  refine va_get (D := G) (ci := 10) (v := .ref (aM 32)) (C := R_Model) (T := F_Model) (N := 47) hx hb hts in_Model hown hK hP 0 rfl rfl 32 (by decide) (hts _ fl_Model_88) (fun _ h9 => h9) rfl d_Model_reckon_43 ?_
  refine lv_iload hx hb d_Model_reckon_46 (lv_at hl 0 rfl) ?_
  refine lv_iload hx hb d_Model_reckon_48 (lv_at hl 1 rfl) ?_
  refine n_iadd hx hb d_Model_reckon_50 ?_
  refine lv_iconst (v := (nI 0)) hx hb d_Model_reckon_51 (by decide) ?_
  refine n_iast hx hb hK hP hD hS 4 0 rfl rfl (by omega) (by omega) d_Model_reckon_52 (fun H locs hP hD hS => ?_)
  rw [upd_nF] at hP hD
  have hP : va_P G vwCl [(hM, .inr (10, mO cd st al ac nf ns tl.toNat mg bw md wy sg_ sz_ ks bd aM)), (aM 27, .inl (ty 1, 75625, .inr (.inl (lF vu)))), (aM 28, .inl (ty 0, 75625, .inl (nF cu))), (aM 31, .inl (ty 1, 128, .inr (.inl (lF (va_up re (64 + (x1 - x0)) 0))))), (aM 32, .inl (ty 0, 128, .inl (nF (va_up rc (64 + (x1 - x0)) 0)))), (aM 20, .inl (ty 2, 65537, .inl (bF gs)))] _ := hP
  have hD : va_D A [(hM, .inr (10, mO cd st al ac nf ns tl.toNat mg bw md wy sg_ sz_ ks bd aM)), (aM 27, .inl (ty 1, 75625, .inr (.inl (lF vu)))), (aM 28, .inl (ty 0, 75625, .inl (nF cu))), (aM 31, .inl (ty 1, 128, .inr (.inl (lF (va_up re (64 + (x1 - x0)) 0))))), (aM 32, .inl (ty 0, 128, .inl (nF (va_up rc (64 + (x1 - x0)) 0)))), (aM 20, .inl (ty 2, 65537, .inl (bF gs)))] := hD
  refine lv_iload hx hb d_Model_reckon_53 (lv_at hl 1 rfl) ?_
  refine lv_iconst (v := (nI 1)) hx hb d_Model_reckon_55 (by decide) ?_
  refine nzz_isub hx hb d_Model_reckon_56 ?_
  refine lv_istore (lv' := [(9, .int (iI ((x1 - x0 : Nat) - ((1 : Nat) : Int)))), (8, .int (nI 64)), (7, .int (nI (x1 - x0))), (6, .int (nI 0)), (0, .ref hM), (1, .int (nI 2)), (2, .int (nI x0)), (3, .int (nI x1)), (4, .int (nI y0)), (5, .int (nI y1))]) hx hb d_Model_reckon_57 hl (by decide) rfl (fun ls hl => ?_)
  have L59 : ∀ (k9 : Nat) (b : Nat) (re2 : Nat → Int) (rc2 : Nat → Nat) (H : Heap) (locs : List Loc) (ls : Array Slot), (b ≤ (x1 - x0)) → (∀ p, b ≤ p → p ≤ (x1 - x0) → rOKr re2 rc2 (fun p9 => dpV (fun b9 e9 => mS vu cu b9 e9 y0 y1) (okc 2 sg_ (fun z9 => decide (1 ≤ z9) && (decide (wy ≠ 0) || (!tl || gs z9)))) (x0 + p9) x1) 64 (y1 - y0) (x1 - x0) p) → (∀ q, q < 64 ∨ 64 + (x1 - x0) < q → re2 q = re q ∧ rc2 q = rc q) → b < k9 → va_P G vwCl [(hM, .inr (10, mO cd st al ac nf ns tl.toNat mg bw md wy sg_ sz_ ks bd aM)), (aM 27, .inl (ty 1, 75625, .inr (.inl (lF vu)))), (aM 28, .inl (ty 0, 75625, .inl (nF cu))), (aM 31, .inl (ty 1, 128, .inr (.inl (lF re2)))), (aM 32, .inl (ty 0, 128, .inl (nF rc2))), (aM 20, .inl (ty 2, 65537, .inl (bF gs)))] H → va_D A [(hM, .inr (10, mO cd st al ac nf ns tl.toNat mg bw md wy sg_ sz_ ks bd aM)), (aM 27, .inl (ty 1, 75625, .inr (.inl (lF vu)))), (aM 28, .inl (ty 0, 75625, .inl (nF cu))), (aM 31, .inl (ty 1, 128, .inr (.inl (lF re2)))), (aM 32, .inl (ty 0, 128, .inl (nF rc2))), (aM 20, .inl (ty 2, 65537, .inl (bF gs)))] → va_S A s.heap H locs → lv_has ls 16 [(0, .ref hM), (1, .int (nI 2)), (2, .int (nI x0)), (3, .int (nI x1)), (4, .int (nI y0)), (5, .int (nI y1)), (6, .int (nI 0)), (7, .int (nI (x1 - x0))), (8, .int (nI 64)), (9, .int (iI (((b : Nat) : Int) - ((1 : Nat) : Int))))] → W p l e { frames := 2, cells := 0, slots := 0, locals := 50 } s m [.ref hM, .int (nI 2), .int (nI x0), .int (nI x1), .int (nI y0), .int (nI y1)].toArray below meth c H locs 0 0 (MQ below (q_reckon21 G ty hM cd st al ac nf ns mg bw md wy sg_ sz_ ks bd aM gs tl x0 x1 y0 y1 vu cu re rc A) [.ref hM, .int (nI 2), .int (nI x0), .int (nI x1), .int (nI y0), .int (nI y1)].toArray s 0 0 A) (F0 m 59 ls []) := by
    intro k9
    induction k9 with
    | zero => intro b re2 rc2 H locs ls hb0 hR hF hk9; exact absurd hk9 (Nat.not_lt_zero _)
    | succ k9 ih59 =>
      intro b re2 rc2 H locs ls hb0 hR hF hk9 hP hD hS hl
      refine lv_iload hx hb d_Model_reckon_59 (lv_at hl 9 rfl) ?_
      refine z_if_lt (tgt := 288) hx hb (by omega) d_Model_reckon_61 (by decide) (fun c61 => ?_) (fun c61 => ?_)
      · exact W.vret hx hb hr (fun t9 ht hW => ⟨⟨(re2, rc2), rfl, ⟨fun p h => hR p (by omega) h, hF⟩, by rw [ht]; exact hP, hD⟩, hS.F ht⟩) hS.2.2 d_Model_reckon_288
      · obtain ⟨b1, rfl⟩ : ∃ b1, b = b1 + 1 := ⟨b - 1, by omega⟩
        have hl : lv_has ls 16 [(0, .ref hM), (1, .int (nI 2)), (2, .int (nI x0)), (3, .int (nI x1)), (4, .int (nI y0)), (5, .int (nI y1)), (6, .int (nI 0)), (7, .int (nI (x1 - x0))), (8, .int (nI 64)), (9, .int (nI b1))] := by rw [show (nI b1) = (iI (((b1 + 1 : Nat) : Int) - ((1 : Nat) : Int))) from by rw [nI_iI]; congr 1; omega]; exact hl
        have hr1 := hR (b1 + 1) (Nat.le_refl _) (by omega)
        have hr11 : 1024 * re2 (64 + (b1 + 1)) - (rc2 (64 + (b1 + 1)) : Int) = dpV (fun b9 e9 => mS vu cu b9 e9 y0 y1) (okc 2 sg_ (fun z9 => decide (1 ≤ z9) && (decide (wy ≠ 0) || (!tl || gs z9)))) (x0 + b1 + 1) x1 := hr1.1
        have hkk := Nat.le_trans hr1.2.1 (Nat.mul_le_mul_left (y1 - y0) (show x1 - x0 - (b1 + 1) ≤ x1 - x0 - b1 by omega))
        refine lv_aload_n hx hb d_Model_reckon_64 rfl (lv_at hl 0 rfl) ?_
        refine va_get (D := G) (ci := 10) (v := .ref (aM 31)) (C := R_Model) (T := F_Model) (N := 47) hx hb hts in_Model hown hK hP 0 rfl rfl 31 (by decide) (hts _ fl_Model_85) (fun _ h9 => h9) rfl d_Model_reckon_65 ?_
        refine lv_iload hx hb d_Model_reckon_68 (lv_at hl 8 rfl) ?_
        refine lv_iload hx hb d_Model_reckon_70 (lv_at hl 9 rfl) ?_
        refine n_iadd hx hb d_Model_reckon_72 ?_
        refine lv_aload_n hx hb d_Model_reckon_73 rfl (lv_at hl 0 rfl) ?_
        refine va_get (D := G) (ci := 10) (v := .ref (aM 31)) (C := R_Model) (T := F_Model) (N := 47) hx hb hts in_Model hown hK hP 0 rfl rfl 31 (by decide) (hts _ fl_Model_85) (fun _ h9 => h9) rfl d_Model_reckon_74 ?_
        refine lv_iload hx hb d_Model_reckon_77 (lv_at hl 8 rfl) ?_
        refine lv_iload hx hb d_Model_reckon_79 (lv_at hl 9 rfl) ?_
        refine n_iadd hx hb d_Model_reckon_81 ?_
        refine lv_iconst (v := (nI 1)) hx hb d_Model_reckon_82 (by decide) ?_
        refine n_iadd hx hb d_Model_reckon_83 ?_
        refine n_lald hx hb hK hP 3 1 rfl rfl (by omega) (by omega) d_Model_reckon_84 ?_
        refine top_l (show (iL (re2 ((64 + b1) + 1))) = (iL (re2 (64 + (b1 + 1)))) from rfl) ?_
        refine n_last hx hb hK hP hD hS 3 1 rfl rfl (by omega) (by omega) d_Model_reckon_85 (fun H locs hP hD hS => ?_)
        rw [upd_lF] at hP hD
        have hP : va_P G vwCl [(hM, .inr (10, mO cd st al ac nf ns tl.toNat mg bw md wy sg_ sz_ ks bd aM)), (aM 27, .inl (ty 1, 75625, .inr (.inl (lF vu)))), (aM 28, .inl (ty 0, 75625, .inl (nF cu))), (aM 31, .inl (ty 1, 128, .inr (.inl (lF (va_up re2 (64 + b1) (re2 (64 + (b1 + 1)))))))), (aM 32, .inl (ty 0, 128, .inl (nF rc2))), (aM 20, .inl (ty 2, 65537, .inl (bF gs)))] _ := hP
        have hD : va_D A [(hM, .inr (10, mO cd st al ac nf ns tl.toNat mg bw md wy sg_ sz_ ks bd aM)), (aM 27, .inl (ty 1, 75625, .inr (.inl (lF vu)))), (aM 28, .inl (ty 0, 75625, .inl (nF cu))), (aM 31, .inl (ty 1, 128, .inr (.inl (lF (va_up re2 (64 + b1) (re2 (64 + (b1 + 1)))))))), (aM 32, .inl (ty 0, 128, .inl (nF rc2))), (aM 20, .inl (ty 2, 65537, .inl (bF gs)))] := hD
        refine lv_aload_n hx hb d_Model_reckon_86 rfl (lv_at hl 0 rfl) ?_
        refine va_get (D := G) (ci := 10) (v := .ref (aM 32)) (C := R_Model) (T := F_Model) (N := 47) hx hb hts in_Model hown hK hP 0 rfl rfl 32 (by decide) (hts _ fl_Model_88) (fun _ h9 => h9) rfl d_Model_reckon_87 ?_
        refine lv_iload hx hb d_Model_reckon_90 (lv_at hl 8 rfl) ?_
        refine lv_iload hx hb d_Model_reckon_92 (lv_at hl 9 rfl) ?_
        refine n_iadd hx hb d_Model_reckon_94 ?_
        refine lv_aload_n hx hb d_Model_reckon_95 rfl (lv_at hl 0 rfl) ?_
        refine va_get (D := G) (ci := 10) (v := .ref (aM 32)) (C := R_Model) (T := F_Model) (N := 47) hx hb hts in_Model hown hK hP 0 rfl rfl 32 (by decide) (hts _ fl_Model_88) (fun _ h9 => h9) rfl d_Model_reckon_96 ?_
        refine lv_iload hx hb d_Model_reckon_99 (lv_at hl 8 rfl) ?_
        refine lv_iload hx hb d_Model_reckon_101 (lv_at hl 9 rfl) ?_
        refine n_iadd hx hb d_Model_reckon_103 ?_
        refine lv_iconst (v := (nI 1)) hx hb d_Model_reckon_104 (by decide) ?_
        refine n_iadd hx hb d_Model_reckon_105 ?_
        refine n_iald hx hb hK hP 4 0 rfl rfl (by omega) (by omega) d_Model_reckon_106 ?_
        refine top_i (show (nI (rc2 ((64 + b1) + 1))) = (nI (rc2 (64 + (b1 + 1)))) from rfl) ?_
        refine n_iast hx hb hK hP hD hS 4 0 rfl rfl (by omega) (by omega) d_Model_reckon_107 (fun H locs hP hD hS => ?_)
        rw [upd_nF] at hP hD
        have hP : va_P G vwCl [(hM, .inr (10, mO cd st al ac nf ns tl.toNat mg bw md wy sg_ sz_ ks bd aM)), (aM 27, .inl (ty 1, 75625, .inr (.inl (lF vu)))), (aM 28, .inl (ty 0, 75625, .inl (nF cu))), (aM 31, .inl (ty 1, 128, .inr (.inl (lF (va_up re2 (64 + b1) (re2 (64 + (b1 + 1)))))))), (aM 32, .inl (ty 0, 128, .inl (nF (va_up rc2 (64 + b1) (rc2 (64 + (b1 + 1))))))), (aM 20, .inl (ty 2, 65537, .inl (bF gs)))] _ := hP
        have hD : va_D A [(hM, .inr (10, mO cd st al ac nf ns tl.toNat mg bw md wy sg_ sz_ ks bd aM)), (aM 27, .inl (ty 1, 75625, .inr (.inl (lF vu)))), (aM 28, .inl (ty 0, 75625, .inl (nF cu))), (aM 31, .inl (ty 1, 128, .inr (.inl (lF (va_up re2 (64 + b1) (re2 (64 + (b1 + 1)))))))), (aM 32, .inl (ty 0, 128, .inl (nF (va_up rc2 (64 + b1) (rc2 (64 + (b1 + 1))))))), (aM 20, .inl (ty 2, 65537, .inl (bF gs)))] := hD
        refine lv_iload hx hb d_Model_reckon_108 (lv_at hl 9 rfl) ?_
        refine lv_iconst (v := (nI 1)) hx hb d_Model_reckon_110 (by decide) ?_
        refine n_iadd hx hb d_Model_reckon_111 ?_
        refine lv_istore (lv' := [(10, .int (nI (b1 + 1))), (0, .ref hM), (1, .int (nI 2)), (2, .int (nI x0)), (3, .int (nI x1)), (4, .int (nI y0)), (5, .int (nI y1)), (6, .int (nI 0)), (7, .int (nI (x1 - x0))), (8, .int (nI 64)), (9, .int (nI b1))]) hx hb d_Model_reckon_112 hl (by decide) rfl (fun ls hl => ?_)
        have L114 : ∀ (k9 : Nat) (n1 : Nat) (va : Int) (ca : Nat) (H : Heap) (locs : List Loc) (ls : Array Slot), (b1 + n1 ≤ (x1 - x0)) → (1024 * va - (ca : Int) = dpS (fun b9 e9 => mS vu cu b9 e9 y0 y1) (okc 2 sg_ (fun z9 => decide (1 ≤ z9) && (decide (wy ≠ 0) || (!tl || gs z9)))) (fun p9 => dpV (fun b9 e9 => mS vu cu b9 e9 y0 y1) (okc 2 sg_ (fun z9 => decide (1 ≤ z9) && (decide (wy ≠ 0) || (!tl || gs z9)))) p9 x1) (x0 + b1) (dpV (fun b9 e9 => mS vu cu b9 e9 y0 y1) (okc 2 sg_ (fun z9 => decide (1 ≤ z9) && (decide (wy ≠ 0) || (!tl || gs z9)))) (x0 + b1 + 1) x1) n1) → (ca ≤ (y1 - y0) * (x1 - x0 - b1)) → (ca = 0 → va = 0) → (x1 - x0) + 1 - (b1 + n1) < k9 → va_P G vwCl [(hM, .inr (10, mO cd st al ac nf ns tl.toNat mg bw md wy sg_ sz_ ks bd aM)), (aM 27, .inl (ty 1, 75625, .inr (.inl (lF vu)))), (aM 28, .inl (ty 0, 75625, .inl (nF cu))), (aM 31, .inl (ty 1, 128, .inr (.inl (lF (va_up re2 (64 + b1) va))))), (aM 32, .inl (ty 0, 128, .inl (nF (va_up rc2 (64 + b1) ca)))), (aM 20, .inl (ty 2, 65537, .inl (bF gs)))] H → va_D A [(hM, .inr (10, mO cd st al ac nf ns tl.toNat mg bw md wy sg_ sz_ ks bd aM)), (aM 27, .inl (ty 1, 75625, .inr (.inl (lF vu)))), (aM 28, .inl (ty 0, 75625, .inl (nF cu))), (aM 31, .inl (ty 1, 128, .inr (.inl (lF (va_up re2 (64 + b1) va))))), (aM 32, .inl (ty 0, 128, .inl (nF (va_up rc2 (64 + b1) ca)))), (aM 20, .inl (ty 2, 65537, .inl (bF gs)))] → va_S A s.heap H locs → lv_has ls 16 [(0, .ref hM), (1, .int (nI 2)), (2, .int (nI x0)), (3, .int (nI x1)), (4, .int (nI y0)), (5, .int (nI y1)), (6, .int (nI 0)), (7, .int (nI (x1 - x0))), (8, .int (nI 64)), (9, .int (nI b1)), (10, .int (nI (b1 + 1 + n1)))] → W p l e { frames := 2, cells := 0, slots := 0, locals := 50 } s m [.ref hM, .int (nI 2), .int (nI x0), .int (nI x1), .int (nI y0), .int (nI y1)].toArray below meth c H locs 0 0 (MQ below (q_reckon21 G ty hM cd st al ac nf ns mg bw md wy sg_ sz_ ks bd aM gs tl x0 x1 y0 y1 vu cu re rc A) [.ref hM, .int (nI 2), .int (nI x0), .int (nI x1), .int (nI y0), .int (nI y1)].toArray s 0 0 A) (F0 m 114 ls []) := by
          intro k9
          induction k9 with
          | zero => intro n1 va ca H locs ls hn1 hE hca h00 hk9; exact absurd hk9 (Nat.not_lt_zero _)
          | succ k9 ih114 =>
            intro n1 va ca H locs ls hn1 hE hca h00 hk9 hP hD hS hl
            refine lv_iload hx hb d_Model_reckon_114 (lv_at hl 10 rfl) ?_
            refine lv_iload hx hb d_Model_reckon_116 (lv_at hl 7 rfl) ?_
            refine n_icmp_gt (tgt := 282) hx hb (by omega) (by omega) d_Model_reckon_118 (by decide) (fun c118 => ?_) (fun c118 => ?_)
            · have hfin : 1024 * va - (ca : Int) = dpV (fun b9 e9 => mS vu cu b9 e9 y0 y1) (okc 2 sg_ (fun z9 => decide (1 ≤ z9) && (decide (wy ≠ 0) || (!tl || gs z9)))) (x0 + b1) x1 := by rw [dpV_step (show x0 + b1 < x1 by omega), show x1 - (x0 + b1) = n1 by omega]; exact hE
              have hR3 : ∀ p, b1 ≤ p → p ≤ (x1 - x0) → rOKr (va_up re2 (64 + b1) va) (va_up rc2 (64 + b1) ca) (fun p9 => dpV (fun b9 e9 => mS vu cu b9 e9 y0 y1) (okc 2 sg_ (fun z9 => decide (1 ≤ z9) && (decide (wy ≠ 0) || (!tl || gs z9)))) (x0 + p9) x1) 64 (y1 - y0) (x1 - x0) p := fun p h1 h2 => (Nat.lt_or_ge b1 p).elim (fun q => rOKr_up (by omega) (hR p (by omega) h2)) (fun q => by rw [show p = b1 from by omega]; exact rOKr_at hfin hca h00)
              have hF3 : ∀ q, q < 64 ∨ 64 + (x1 - x0) < q → (va_up re2 (64 + b1) va) q = re q ∧ (va_up rc2 (64 + b1) ca) q = rc q := fun q hq => ⟨by rw [va_up_ne _ _ (by omega)]; exact (hF q hq).1, by rw [va_up_ne _ _ (by omega)]; exact (hF q hq).2⟩
              refine lv_iinc (v := (iI (((b1 : Nat) : Int) - ((1 : Nat) : Int)))) (lv' := [(9, .int (iI (((b1 : Nat) : Int) - ((1 : Nat) : Int)))), (0, .ref hM), (1, .int (nI 2)), (2, .int (nI x0)), (3, .int (nI x1)), (4, .int (nI y0)), (5, .int (nI y1)), (6, .int (nI 0)), (7, .int (nI (x1 - x0))), (8, .int (nI 64)), (10, .int (nI (b1 + 1 + n1)))]) hx hb d_Model_reckon_282 hl (k := 9) rfl (by rw [nI_iI]; exact iI_add _ _) (by decide) rfl (fun ls hl => ?_)
              refine lv_goto (tgt := 59) hx hb d_Model_reckon_285 (by decide) ?_
              exact ih59 b1 (va_up re2 (64 + b1) va) (va_up rc2 (64 + b1) ca) _ _ _ (by omega) hR3 hF3 (by omega) hP hD hS (lv_sub hl [1, 2, 3, 4, 5, 6, 7, 8, 9, 0] rfl)
            · obtain ⟨at_, eat⟩ : ∃ at_, at_ = ((25 * (x0 + b1) + (x0 + (b1 + 1 + n1))) * 11 + y0) * 11 + y1 := ⟨_, rfl⟩
              have e1 : x0 + (b1 + 1 + n1) = x0 + b1 + 1 + n1 := by omega
              have hO := gO (x0 + b1) (x0 + b1 + 1 + n1) (by omega) (by omega) (by omega)
              unfold mOK at hO
              rw [← e1, ← eat] at hO
              have hO1 : cu at_ ≤ (y1 - y0) * (n1 + 1) := by have h9 := hO.1; rw [show x0 + (b1 + 1 + n1) - (x0 + b1) = n1 + 1 by omega] at h9; rw [Nat.mul_comm]; exact h9
              have hO2 := hO.2.1
              have hO3 := hO.2.2
              clear hO
              have hvS : mS vu cu (x0 + b1) (x0 + b1 + 1 + n1) y0 y1 = 1024 * vu at_ - (cu at_ : Int) := by rw [eat, e1]; try rfl
              have hrT := hR (b1 + 1 + n1) (by omega) (by omega)
              have hrT1 : 1024 * re2 (64 + (b1 + 1 + n1)) - (rc2 (64 + (b1 + 1 + n1)) : Int) = dpV (fun b9 e9 => mS vu cu b9 e9 y0 y1) (okc 2 sg_ (fun z9 => decide (1 ≤ z9) && (decide (wy ≠ 0) || (!tl || gs z9)))) (x0 + b1 + 1 + n1) x1 := by have h9 := hrT.1; rw [← e1]; exact h9
              have hrT2 := hrT.2.1
              clear hrT
              have hka : (y1 - y0) * (x1 - x0 - (b1 + 1 + n1)) + (y1 - y0) * (n1 + 1) = (y1 - y0) * (x1 - x0 - b1) := K_add (by omega)
              have hkb := hKn (x1 - x0 - b1) (by omega)
              have hz0 := (hdv (x0 + b1 + 1 + n1) (by omega) (by omega))
              have hat : at_ < 75625 := by rw [eat]; omega
              have hz : dpV (fun b9 e9 => mS vu cu b9 e9 y0 y1) (okc 2 sg_ (fun z9 => decide (1 ≤ z9) && (decide (wy ≠ 0) || (!tl || gs z9)))) (x0 + b1 + 1 + n1) x1 ≤ dpS (fun b9 e9 => mS vu cu b9 e9 y0 y1) (okc 2 sg_ (fun z9 => decide (1 ≤ z9) && (decide (wy ≠ 0) || (!tl || gs z9)))) (fun p9 => dpV (fun b9 e9 => mS vu cu b9 e9 y0 y1) (okc 2 sg_ (fun z9 => decide (1 ≤ z9) && (decide (wy ≠ 0) || (!tl || gs z9)))) p9 x1) (x0 + b1) (dpV (fun b9 e9 => mS vu cu b9 e9 y0 y1) (okc 2 sg_ (fun z9 => decide (1 ≤ z9) && (decide (wy ≠ 0) || (!tl || gs z9)))) (x0 + b1 + 1) x1) n1 := Int.le_trans (dpV_mono n1 (x0 + b1 + 1) (by omega)) (dpS_ge n1)
              have hcu : dpS (fun b9 e9 => mS vu cu b9 e9 y0 y1) (okc 2 sg_ (fun z9 => decide (1 ≤ z9) && (decide (wy ≠ 0) || (!tl || gs z9)))) (fun p9 => dpV (fun b9 e9 => mS vu cu b9 e9 y0 y1) (okc 2 sg_ (fun z9 => decide (1 ≤ z9) && (decide (wy ≠ 0) || (!tl || gs z9)))) p9 x1) (x0 + b1) (dpV (fun b9 e9 => mS vu cu b9 e9 y0 y1) (okc 2 sg_ (fun z9 => decide (1 ≤ z9) && (decide (wy ≠ 0) || (!tl || gs z9)))) (x0 + b1 + 1) x1) n1 ≤ 30000000000000000 := dpS_le n1 (by have := hdv (x0 + b1 + 1) (by omega) (by omega); omega) (fun j hj => by have a1 := mS_le (gO (x0 + b1) (x0 + b1 + 1 + j) (by omega) (by omega) (by omega)); have a2 := hdv (x0 + b1 + 1 + j) (by omega) (by omega); show (fun b9 e9 => mS vu cu b9 e9 y0 y1) (x0 + b1) (x0 + b1 + 1 + j) + dpV (fun b9 e9 => mS vu cu b9 e9 y0 y1) (okc 2 sg_ (fun z9 => decide (1 ≤ z9) && (decide (wy ≠ 0) || (!tl || gs z9)))) (x0 + b1 + 1 + j) x1 ≤ 30000000000000000; have a3 : (fun b9 e9 => mS vu cu b9 e9 y0 y1) (x0 + b1) (x0 + b1 + 1 + j) ≤ 1100000000000000 := a1; omega)
              refine lv_aload_n hx hb d_Model_reckon_121 rfl (lv_at hl 0 rfl) ?_
              refine lv_iload hx hb d_Model_reckon_122 (lv_at hl 6 rfl) ?_
              refine lv_iload_n hx hb d_Model_reckon_124 rfl (lv_at hl 2 rfl) ?_
              refine lv_iload_n hx hb d_Model_reckon_125 rfl (lv_at hl 3 rfl) ?_
              refine lv_iload hx hb d_Model_reckon_126 (lv_at hl 4 rfl) ?_
              refine lv_iload hx hb d_Model_reckon_128 (lv_at hl 5 rfl) ?_
              refine lv_iload hx hb d_Model_reckon_130 (lv_at hl 9 rfl) ?_
              refine lv_iload hx hb d_Model_reckon_132 (lv_at hl 10 rfl) ?_
              refine vp_callSi (W.runV (As := [.int (nI 0), .int (nI x0), .int (nI x1), .int (nI y0), .int (nI y1), .int (nI b1), .int (nI (b1 + 1 + n1))]) (rest := []) ⟨hx, hb, hml, hown, hts⟩ (c_segment0 l G ty hM cd st al ac nf ns tl.toNat mg bw md wy sg_ sz_ ks bd aM x0 x1 y0 y1 b1 (b1 + 1 + n1) ) ⟨callB_of 7 hts (gd_TB cd_Model_segment) rfl rfl rfl (hts _ ini_Model) (hts _ lk_Model_199) hd_Model_segment ⟨Nat.le_of_ble_eq_true rfl, Nat.le_of_ble_eq_true rfl⟩, hts _ im_Model_segment, hts _ sl_Model_segment⟩ (preV_ro (hP.sub (ws' := [(hM, .inr (10, mO cd st al ac nf ns tl.toNat mg bw md wy sg_ sz_ ks bd aM))]) [0] rfl) hX 0 rfl rfl) rfl rfl hl.1 rfl (lv_room (Nat.le_of_ble_eq_true rfl)) d_Model_reckon_134 ⟨Nat.le_of_ble_eq_true rfl, Nat.le_of_ble_eq_true rfl⟩) (fun r9 er9 => ?_)
              subst er9
              refine top_i (show (nI (((25 * (x0 + b1) + (x0 + (b1 + 1 + n1))) * 11 + y0) * 11 + y1)) = (nI at_) from congrArg nI eat.symm) ?_
              refine lv_istore (lv' := [(11, .int (nI at_)), (0, .ref hM), (1, .int (nI 2)), (2, .int (nI x0)), (3, .int (nI x1)), (4, .int (nI y0)), (5, .int (nI y1)), (6, .int (nI 0)), (7, .int (nI (x1 - x0))), (8, .int (nI 64)), (9, .int (nI b1)), (10, .int (nI (b1 + 1 + n1)))]) hx hb d_Model_reckon_137 hl (by decide) rfl (fun ls hl => ?_)
              refine lv_aload_n hx hb d_Model_reckon_139 rfl (lv_at hl 1 rfl) ?_
              refine lv_iload_n hx hb d_Model_reckon_140 rfl (lv_at hl 2 rfl) ?_
              refine lv_iconst (v := (nI 1)) hx hb d_Model_reckon_141 (by decide) ?_
              refine n_isub hx hb (by omega) d_Model_reckon_142 ?_
              refine top_i (show (nI (2 - 1)) = nI 1 from rfl) ?_
              refine lv_iload hx hb d_Model_reckon_143 (lv_at hl 0 rfl) ?_
              refine vp_callSi (W.runV (As := [.int (nI 1), .int (nI at_)]) (rest := []) ⟨hx, hb, hml, hown, hts⟩ (c_countBy1 l G ty hM cd st al ac nf ns tl.toNat mg bw md wy sg_ sz_ ks bd aM at_ cu (by omega)) ⟨callB_of 2 hts (gd_TB cd_Model_countBy) rfl rfl rfl (hts _ ini_Model) (hts _ lk_Model_203) hd_Model_countBy ⟨Nat.le_of_ble_eq_true rfl, Nat.le_of_ble_eq_true rfl⟩, hts _ im_Model_countBy, hts _ sl_Model_countBy⟩ (preV_ro (hP.sub (ws' := [(hM, .inr (10, mO cd st al ac nf ns tl.toNat mg bw md wy sg_ sz_ ks bd aM)), (aM 28, .inl (ty 0, 75625, .inl (nF cu)))]) [0, 2] rfl) hX 0 rfl rfl) rfl rfl hl.1 rfl (lv_room (Nat.le_of_ble_eq_true rfl)) d_Model_reckon_145 ⟨Nat.le_of_ble_eq_true rfl, Nat.le_of_ble_eq_true rfl⟩) (fun r9 er9 => ?_)
              subst er9
              refine lv_istore (lv' := [(12, .int (nI (cu at_))), (11, .int (nI at_)), (0, .ref hM), (1, .int (nI 2)), (2, .int (nI x0)), (3, .int (nI x1)), (4, .int (nI y0)), (5, .int (nI y1)), (6, .int (nI 0)), (7, .int (nI (x1 - x0))), (8, .int (nI 64)), (9, .int (nI b1)), (10, .int (nI (b1 + 1 + n1)))]) hx hb d_Model_reckon_148 hl (by decide) rfl (fun ls hl => ?_)
              refine lv_iload hx hb d_Model_reckon_150 (lv_at hl 0 rfl) ?_
              refine n_if_le (tgt := 276) hx hb (by omega) d_Model_reckon_152 (by decide) (fun c152 => ?_) (fun c152 => ?_)
              · have hE2 : 1024 * va - (ca : Int) = dpS (fun b9 e9 => mS vu cu b9 e9 y0 y1) (okc 2 sg_ (fun z9 => decide (1 ≤ z9) && (decide (wy ≠ 0) || (!tl || gs z9)))) (fun p9 => dpV (fun b9 e9 => mS vu cu b9 e9 y0 y1) (okc 2 sg_ (fun z9 => decide (1 ≤ z9) && (decide (wy ≠ 0) || (!tl || gs z9)))) p9 x1) (x0 + b1) (dpV (fun b9 e9 => mS vu cu b9 e9 y0 y1) (okc 2 sg_ (fun z9 => decide (1 ≤ z9) && (decide (wy ≠ 0) || (!tl || gs z9)))) (x0 + b1 + 1) x1) (n1 + 1) := by rw [dpS_s, if_neg]; exact hE; intro hh; first | omega | exact absurd hh.2.2 (by rw [show (okc 2 sg_ (fun z9 => decide (1 ≤ z9) && (decide (wy ≠ 0) || (!tl || gs z9)))) (n1 + 1) = false from tN_0 c165]; decide)
                have hc2 := hca
                have h02 := h00
                refine lv_iinc (v := (nI ((b1 + 1 + n1) + 1))) (lv' := [(10, .int (nI ((b1 + 1 + n1) + 1))), (12, .int (nI (cu at_))), (11, .int (nI at_)), (0, .ref hM), (1, .int (nI 2)), (2, .int (nI x0)), (3, .int (nI x1)), (4, .int (nI y0)), (5, .int (nI y1)), (6, .int (nI 0)), (7, .int (nI (x1 - x0))), (8, .int (nI 64)), (9, .int (nI b1))]) hx hb d_Model_reckon_276 hl (k := 12) rfl (nI_inc _ _ _ (by omega)) (by decide) rfl (fun ls hl => ?_)
                refine lv_goto (tgt := 114) hx hb d_Model_reckon_279 (by decide) ?_
                exact ih114 (n1 + 1) va ca _ _ _ (by omega) hE2 hc2 h02 (by omega) hP hD hS (lv_sub hl [3, 4, 5, 6, 7, 8, 9, 10, 11, 12, 0] rfl)
              · refine lv_aload_n hx hb d_Model_reckon_155 rfl (lv_at hl 2 rfl) ?_
                refine lv_iload_n hx hb d_Model_reckon_156 rfl (lv_at hl 3 rfl) ?_
                refine lv_iload hx hb d_Model_reckon_157 (lv_at hl 12 rfl) ?_
                refine lv_iload hx hb d_Model_reckon_159 (lv_at hl 11 rfl) ?_
                refine n_isub hx hb (by omega) d_Model_reckon_161 ?_
                refine top_i (show (nI ((b1 + 1 + n1) - b1)) = (nI (n1 + 1)) from congrArg nI (by omega)) ?_
                refine vp_callSi (W.runV (As := [.int (nI 2), .int (nI (n1 + 1))]) (rest := []) ⟨hx, hb, hml, hown, hts⟩ (c_Model_isCut l G ty hM cd st al ac nf ns 0 mg bw md wy sg_ sz_ ks bd aM 2 (n1 + 1) gs tl (by omega) (by omega) (by omega) (by omega) (by omega)) ⟨callB_of 2 hts (gd_TB cd_Model_isCut) rfl rfl rfl (hts _ ini_Model) (hts _ lk_Model_207) hd_Model_isCut ⟨Nat.le_of_ble_eq_true rfl, Nat.le_of_ble_eq_true rfl⟩, hts _ im_Model_isCut, hts _ sl_Model_isCut⟩ (preV_ro (hP.sub (ws' := [(hM, .inr (10, mO cd st al ac nf ns tl.toNat mg bw md wy sg_ sz_ ks bd aM)), (aM 20, .inl (ty 2, 65537, .inl (bF gs)))]) [0, 5] rfl) hX 0 rfl rfl) rfl rfl hl.1 rfl (lv_room (Nat.le_of_ble_eq_true rfl)) d_Model_reckon_162 ⟨Nat.le_of_ble_eq_true rfl, Nat.le_of_ble_eq_true rfl⟩) (fun r9 er9 => ?_)
                subst er9
                refine n_if_eq (tgt := 276) hx hb (tN_lt _) d_Model_reckon_165 (by decide) (fun c165 => ?_) (fun c165 => ?_)
                · have hE2 : 1024 * va - (ca : Int) = dpS (fun b9 e9 => mS vu cu b9 e9 y0 y1) (okc 2 sg_ (fun z9 => decide (1 ≤ z9) && (decide (wy ≠ 0) || (!tl || gs z9)))) (fun p9 => dpV (fun b9 e9 => mS vu cu b9 e9 y0 y1) (okc 2 sg_ (fun z9 => decide (1 ≤ z9) && (decide (wy ≠ 0) || (!tl || gs z9)))) p9 x1) (x0 + b1) (dpV (fun b9 e9 => mS vu cu b9 e9 y0 y1) (okc 2 sg_ (fun z9 => decide (1 ≤ z9) && (decide (wy ≠ 0) || (!tl || gs z9)))) (x0 + b1 + 1) x1) (n1 + 1) := by rw [dpS_s, if_neg]; exact hE; intro hh; first | omega | exact absurd hh.2.2 (by rw [show (okc 2 sg_ (fun z9 => decide (1 ≤ z9) && (decide (wy ≠ 0) || (!tl || gs z9)))) (n1 + 1) = false from tN_0 c165]; decide)
                  have hc2 := hca
                  have h02 := h00
                  refine lv_iinc (v := (nI ((b1 + 1 + n1) + 1))) (lv' := [(10, .int (nI ((b1 + 1 + n1) + 1))), (12, .int (nI (cu at_))), (11, .int (nI at_)), (0, .ref hM), (1, .int (nI 2)), (2, .int (nI x0)), (3, .int (nI x1)), (4, .int (nI y0)), (5, .int (nI y1)), (6, .int (nI 0)), (7, .int (nI (x1 - x0))), (8, .int (nI 64)), (9, .int (nI b1))]) hx hb d_Model_reckon_276 hl (k := 12) rfl (nI_inc _ _ _ (by omega)) (by decide) rfl (fun ls hl => ?_)
                  refine lv_goto (tgt := 114) hx hb d_Model_reckon_279 (by decide) ?_
                  exact ih114 (n1 + 1) va ca _ _ _ (by omega) hE2 hc2 h02 (by omega) hP hD hS (lv_sub hl [3, 4, 5, 6, 7, 8, 9, 10, 11, 12, 0] rfl)
                · refine lv_aload_n hx hb d_Model_reckon_168 rfl (lv_at hl 2 rfl) ?_
                  refine va_get (D := G) (ci := 10) (v := .ref (aM 31)) (C := R_Model) (T := F_Model) (N := 47) hx hb hts in_Model hown hK hP 0 rfl rfl 31 (by decide) (hts _ fl_Model_85) (fun _ h9 => h9) rfl d_Model_reckon_169 ?_
                  refine lv_iload hx hb d_Model_reckon_172 (lv_at hl 10 rfl) ?_
                  refine lv_iload hx hb d_Model_reckon_174 (lv_at hl 12 rfl) ?_
                  refine n_iadd hx hb d_Model_reckon_176 ?_
                  refine n_lald hx hb hK hP 3 1 rfl rfl (by omega) (by omega) d_Model_reckon_177 ?_
                  refine top_l (show (iL ((va_up re2 (64 + b1) va) (64 + (b1 + 1 + n1)))) = (iL (re2 (64 + (b1 + 1 + n1)))) from congrArg iL (va_up_ne _ _ (by omega))) ?_
                  refine lv_aload_n hx hb d_Model_reckon_178 rfl (lv_at hl 2 rfl) ?_
                  refine lv_iload_n hx hb d_Model_reckon_179 rfl (lv_at hl 3 rfl) ?_
                  refine lv_iconst (v := (nI 1)) hx hb d_Model_reckon_180 (by decide) ?_
                  refine n_isub hx hb (by omega) d_Model_reckon_181 ?_
                  refine top_i (show (nI (2 - 1)) = nI 1 from rfl) ?_
                  refine lv_iload hx hb d_Model_reckon_182 (lv_at hl 1 rfl) ?_
                  refine vp_callSl (W.runV (As := [.int (nI 1), .int (nI at_)]) (rest := [.long (iL (re2 (64 + (b1 + 1 + n1))))]) ⟨hx, hb, hml, hown, hts⟩ (c_valueBy1 l G ty hM cd st al ac nf ns tl.toNat mg bw md wy sg_ sz_ ks bd aM at_ vu (by omega)) ⟨callB_of 2 hts (gd_TB cd_Model_valueBy) rfl rfl rfl (hts _ ini_Model) (hts _ lk_Model_211) hd_Model_valueBy ⟨Nat.le_of_ble_eq_true rfl, Nat.le_of_ble_eq_true rfl⟩, hts _ im_Model_valueBy, hts _ sl_Model_valueBy⟩ (preV_ro (hP.sub (ws' := [(hM, .inr (10, mO cd st al ac nf ns tl.toNat mg bw md wy sg_ sz_ ks bd aM)), (aM 27, .inl (ty 1, 75625, .inr (.inl (lF vu))))]) [0, 1] rfl) hX 0 rfl rfl) rfl rfl hl.1 rfl (lv_room (Nat.le_of_ble_eq_true rfl)) d_Model_reckon_184 ⟨Nat.le_of_ble_eq_true rfl, Nat.le_of_ble_eq_true rfl⟩) (fun r9 er9 => ?_)
                  subst er9
                  refine z_ladd hx hb d_Model_reckon_187 ?_
                  refine lv_lstore (lv' := [(13, .long (iL ((re2 (64 + (b1 + 1 + n1))) + (vu at_)))), (12, .int (nI (cu at_))), (11, .int (nI at_)), (0, .ref hM), (1, .int (nI 2)), (2, .int (nI x0)), (3, .int (nI x1)), (4, .int (nI y0)), (5, .int (nI y1)), (6, .int (nI 0)), (7, .int (nI (x1 - x0))), (8, .int (nI 64)), (9, .int (nI b1)), (10, .int (nI (b1 + 1 + n1)))]) hx hb d_Model_reckon_188 hl (by decide) rfl (fun ls hl => ?_)
                  refine lv_aload_n hx hb d_Model_reckon_190 rfl (lv_at hl 3 rfl) ?_
                  refine va_get (D := G) (ci := 10) (v := .ref (aM 32)) (C := R_Model) (T := F_Model) (N := 47) hx hb hts in_Model hown hK hP 0 rfl rfl 32 (by decide) (hts _ fl_Model_88) (fun _ h9 => h9) rfl d_Model_reckon_191 ?_
                  refine lv_iload hx hb d_Model_reckon_194 (lv_at hl 11 rfl) ?_
                  refine lv_iload hx hb d_Model_reckon_196 (lv_at hl 13 rfl) ?_
                  refine n_iadd hx hb d_Model_reckon_198 ?_
                  refine n_iald hx hb hK hP 4 0 rfl rfl (by omega) (by omega) d_Model_reckon_199 ?_
                  refine top_i (show (nI ((va_up rc2 (64 + b1) ca) (64 + (b1 + 1 + n1)))) = (nI (rc2 (64 + (b1 + 1 + n1)))) from congrArg nI (va_up_ne _ _ (by omega))) ?_
                  refine lv_iload hx hb d_Model_reckon_200 (lv_at hl 1 rfl) ?_
                  refine n_iadd hx hb d_Model_reckon_202 ?_
                  refine lv_istore (lv' := [(15, .int (nI ((rc2 (64 + (b1 + 1 + n1))) + (cu at_)))), (13, .long (iL ((re2 (64 + (b1 + 1 + n1))) + (vu at_)))), (12, .int (nI (cu at_))), (11, .int (nI at_)), (0, .ref hM), (1, .int (nI 2)), (2, .int (nI x0)), (3, .int (nI x1)), (4, .int (nI y0)), (5, .int (nI y1)), (6, .int (nI 0)), (7, .int (nI (x1 - x0))), (8, .int (nI 64)), (9, .int (nI b1)), (10, .int (nI (b1 + 1 + n1)))]) hx hb d_Model_reckon_203 hl (by decide) rfl (fun ls hl => ?_)
                  refine lv_lload hx hb d_Model_reckon_205 (lv_at hl 1 rfl) ?_
                  refine lv_aload_n hx hb d_Model_reckon_207 rfl (lv_at hl 4 rfl) ?_
                  refine va_get (D := G) (ci := 10) (v := .ref (aM 31)) (C := R_Model) (T := F_Model) (N := 47) hx hb hts in_Model hown hK hP 0 rfl rfl 31 (by decide) (hts _ fl_Model_85) (fun _ h9 => h9) rfl d_Model_reckon_208 ?_
                  refine lv_iload hx hb d_Model_reckon_211 (lv_at hl 12 rfl) ?_
                  refine lv_iload hx hb d_Model_reckon_213 (lv_at hl 13 rfl) ?_
                  refine n_iadd hx hb d_Model_reckon_215 ?_
                  refine n_lald hx hb hK hP 3 1 rfl rfl (by omega) (by omega) d_Model_reckon_216 ?_
                  refine top_l (show (iL ((va_up re2 (64 + b1) va) (64 + b1))) = (iL va) from congrArg iL (va_up_self _ _ _)) ?_
                  refine l_cmp_gt (tgt := 252) hx hb (by omega) (by omega) d_Model_reckon_217 d_Model_reckon_218 (by decide) (fun c217 => ?_) (fun c217 => ?_)
                  · refine lv_aload_n hx hb d_Model_reckon_252 rfl (lv_at hl 4 rfl) ?_
                    refine va_get (D := G) (ci := 10) (v := .ref (aM 31)) (C := R_Model) (T := F_Model) (N := 47) hx hb hts in_Model hown hK hP 0 rfl rfl 31 (by decide) (hts _ fl_Model_85) (fun _ h9 => h9) rfl d_Model_reckon_253 ?_
                    refine lv_iload hx hb d_Model_reckon_256 (lv_at hl 12 rfl) ?_
                    refine lv_iload hx hb d_Model_reckon_258 (lv_at hl 13 rfl) ?_
                    refine n_iadd hx hb d_Model_reckon_260 ?_
                    refine lv_lload hx hb d_Model_reckon_261 (lv_at hl 1 rfl) ?_
                    refine n_last hx hb hK hP hD hS 3 1 rfl rfl (by omega) (by omega) d_Model_reckon_263 (fun H locs hP hD hS => ?_)
                    rw [upd_lF] at hP hD
                    have hP : va_P G vwCl [(hM, .inr (10, mO cd st al ac nf ns tl.toNat mg bw md wy sg_ sz_ ks bd aM)), (aM 27, .inl (ty 1, 75625, .inr (.inl (lF vu)))), (aM 28, .inl (ty 0, 75625, .inl (nF cu))), (aM 31, .inl (ty 1, 128, .inr (.inl (lF (va_up (va_up re2 (64 + b1) va) (64 + b1) ((re2 (64 + (b1 + 1 + n1))) + (vu at_))))))), (aM 32, .inl (ty 0, 128, .inl (nF (va_up rc2 (64 + b1) ca)))), (aM 20, .inl (ty 2, 65537, .inl (bF gs)))] _ := hP
                    have hD : va_D A [(hM, .inr (10, mO cd st al ac nf ns tl.toNat mg bw md wy sg_ sz_ ks bd aM)), (aM 27, .inl (ty 1, 75625, .inr (.inl (lF vu)))), (aM 28, .inl (ty 0, 75625, .inl (nF cu))), (aM 31, .inl (ty 1, 128, .inr (.inl (lF (va_up (va_up re2 (64 + b1) va) (64 + b1) ((re2 (64 + (b1 + 1 + n1))) + (vu at_))))))), (aM 32, .inl (ty 0, 128, .inl (nF (va_up rc2 (64 + b1) ca)))), (aM 20, .inl (ty 2, 65537, .inl (bF gs)))] := hD
                    refine lv_aload_n hx hb d_Model_reckon_264 rfl (lv_at hl 4 rfl) ?_
                    refine va_get (D := G) (ci := 10) (v := .ref (aM 32)) (C := R_Model) (T := F_Model) (N := 47) hx hb hts in_Model hown hK hP 0 rfl rfl 32 (by decide) (hts _ fl_Model_88) (fun _ h9 => h9) rfl d_Model_reckon_265 ?_
                    refine lv_iload hx hb d_Model_reckon_268 (lv_at hl 12 rfl) ?_
                    refine lv_iload hx hb d_Model_reckon_270 (lv_at hl 13 rfl) ?_
                    refine n_iadd hx hb d_Model_reckon_272 ?_
                    refine lv_iload hx hb d_Model_reckon_273 (lv_at hl 0 rfl) ?_
                    refine n_iast hx hb hK hP hD hS 4 0 rfl rfl (by omega) (by omega) d_Model_reckon_275 (fun H locs hP hD hS => ?_)
                    rw [upd_nF] at hP hD
                    have hP : va_P G vwCl [(hM, .inr (10, mO cd st al ac nf ns tl.toNat mg bw md wy sg_ sz_ ks bd aM)), (aM 27, .inl (ty 1, 75625, .inr (.inl (lF vu)))), (aM 28, .inl (ty 0, 75625, .inl (nF cu))), (aM 31, .inl (ty 1, 128, .inr (.inl (lF (va_up (va_up re2 (64 + b1) va) (64 + b1) ((re2 (64 + (b1 + 1 + n1))) + (vu at_))))))), (aM 32, .inl (ty 0, 128, .inl (nF (va_up (va_up rc2 (64 + b1) ca) (64 + b1) ((rc2 (64 + (b1 + 1 + n1))) + (cu at_)))))), (aM 20, .inl (ty 2, 65537, .inl (bF gs)))] _ := hP
                    have hD : va_D A [(hM, .inr (10, mO cd st al ac nf ns tl.toNat mg bw md wy sg_ sz_ ks bd aM)), (aM 27, .inl (ty 1, 75625, .inr (.inl (lF vu)))), (aM 28, .inl (ty 0, 75625, .inl (nF cu))), (aM 31, .inl (ty 1, 128, .inr (.inl (lF (va_up (va_up re2 (64 + b1) va) (64 + b1) ((re2 (64 + (b1 + 1 + n1))) + (vu at_))))))), (aM 32, .inl (ty 0, 128, .inl (nF (va_up (va_up rc2 (64 + b1) ca) (64 + b1) ((rc2 (64 + (b1 + 1 + n1))) + (cu at_)))))), (aM 20, .inl (ty 2, 65537, .inl (bF gs)))] := hD
                    have hP : va_P G vwCl [(hM, .inr (10, mO cd st al ac nf ns tl.toNat mg bw md wy sg_ sz_ ks bd aM)), (aM 27, .inl (ty 1, 75625, .inr (.inl (lF vu)))), (aM 28, .inl (ty 0, 75625, .inl (nF cu))), (aM 31, .inl (ty 1, 128, .inr (.inl (lF (va_up re2 (64 + b1) (re2 (64 + (b1 + 1 + n1)) + vu at_)))))), (aM 32, .inl (ty 0, 128, .inl (nF (va_up rc2 (64 + b1) (rc2 (64 + (b1 + 1 + n1)) + cu at_))))), (aM 20, .inl (ty 2, 65537, .inl (bF gs)))] H := by rw [va_up_up, va_up_up] at hP; exact hP
                    have hD : va_D A [(hM, .inr (10, mO cd st al ac nf ns tl.toNat mg bw md wy sg_ sz_ ks bd aM)), (aM 27, .inl (ty 1, 75625, .inr (.inl (lF vu)))), (aM 28, .inl (ty 0, 75625, .inl (nF cu))), (aM 31, .inl (ty 1, 128, .inr (.inl (lF (va_up re2 (64 + b1) (re2 (64 + (b1 + 1 + n1)) + vu at_)))))), (aM 32, .inl (ty 0, 128, .inl (nF (va_up rc2 (64 + b1) (rc2 (64 + (b1 + 1 + n1)) + cu at_))))), (aM 20, .inl (ty 2, 65537, .inl (bF gs)))] := by rw [va_up_up, va_up_up] at hD; exact hD
                    have hE2 : 1024 * (re2 (64 + (b1 + 1 + n1)) + vu at_) - ((rc2 (64 + (b1 + 1 + n1)) + cu at_ : Nat) : Int) = dpS (fun b9 e9 => mS vu cu b9 e9 y0 y1) (okc 2 sg_ (fun z9 => decide (1 ≤ z9) && (decide (wy ≠ 0) || (!tl || gs z9)))) (fun p9 => dpV (fun b9 e9 => mS vu cu b9 e9 y0 y1) (okc 2 sg_ (fun z9 => decide (1 ≤ z9) && (decide (wy ≠ 0) || (!tl || gs z9)))) p9 x1) (x0 + b1) (dpV (fun b9 e9 => mS vu cu b9 e9 y0 y1) (okc 2 sg_ (fun z9 => decide (1 ≤ z9) && (decide (wy ≠ 0) || (!tl || gs z9)))) (x0 + b1 + 1) x1) (n1 + 1) := by rw [dpS_s, if_pos ⟨by omega, by omega, tN_1 c165⟩]; omega
                    have hc2 : rc2 (64 + (b1 + 1 + n1)) + cu at_ ≤ (y1 - y0) * (x1 - x0 - b1) := by omega
                    have h02 : rc2 (64 + (b1 + 1 + n1)) + cu at_ = 0 → re2 (64 + (b1 + 1 + n1)) + vu at_ = 0 := by omega
                    refine lv_iinc (v := (nI ((b1 + 1 + n1) + 1))) (lv' := [(10, .int (nI ((b1 + 1 + n1) + 1))), (15, .int (nI ((rc2 (64 + (b1 + 1 + n1))) + (cu at_)))), (13, .long (iL ((re2 (64 + (b1 + 1 + n1))) + (vu at_)))), (12, .int (nI (cu at_))), (11, .int (nI at_)), (0, .ref hM), (1, .int (nI 2)), (2, .int (nI x0)), (3, .int (nI x1)), (4, .int (nI y0)), (5, .int (nI y1)), (6, .int (nI 0)), (7, .int (nI (x1 - x0))), (8, .int (nI 64)), (9, .int (nI b1))]) hx hb d_Model_reckon_276 hl (k := 14) rfl (nI_inc _ _ _ (by omega)) (by decide) rfl (fun ls hl => ?_)
                    refine lv_goto (tgt := 114) hx hb d_Model_reckon_279 (by decide) ?_
                    exact ih114 (n1 + 1) (re2 (64 + (b1 + 1 + n1)) + vu at_) (rc2 (64 + (b1 + 1 + n1)) + cu at_) _ _ _ (by omega) hE2 hc2 h02 (by omega) hP hD hS (lv_sub hl [5, 6, 7, 8, 9, 10, 11, 12, 13, 14, 0] rfl)
                  · refine lv_lload hx hb d_Model_reckon_221 (lv_at hl 1 rfl) ?_
                    refine lv_aload_n hx hb d_Model_reckon_223 rfl (lv_at hl 4 rfl) ?_
                    refine va_get (D := G) (ci := 10) (v := .ref (aM 31)) (C := R_Model) (T := F_Model) (N := 47) hx hb hts in_Model hown hK hP 0 rfl rfl 31 (by decide) (hts _ fl_Model_85) (fun _ h9 => h9) rfl d_Model_reckon_224 ?_
                    refine lv_iload hx hb d_Model_reckon_227 (lv_at hl 12 rfl) ?_
                    refine lv_iload hx hb d_Model_reckon_229 (lv_at hl 13 rfl) ?_
                    refine n_iadd hx hb d_Model_reckon_231 ?_
                    refine n_lald hx hb hK hP 3 1 rfl rfl (by omega) (by omega) d_Model_reckon_232 ?_
                    refine top_l (show (iL ((va_up re2 (64 + b1) va) (64 + b1))) = (iL va) from congrArg iL (va_up_self _ _ _)) ?_
                    refine l_cmp_ne (tgt := 276) hx hb (by omega) (by omega) d_Model_reckon_233 d_Model_reckon_234 (by decide) (fun c233 => ?_) (fun c233 => ?_)
                    · have hE2 : 1024 * va - (ca : Int) = dpS (fun b9 e9 => mS vu cu b9 e9 y0 y1) (okc 2 sg_ (fun z9 => decide (1 ≤ z9) && (decide (wy ≠ 0) || (!tl || gs z9)))) (fun p9 => dpV (fun b9 e9 => mS vu cu b9 e9 y0 y1) (okc 2 sg_ (fun z9 => decide (1 ≤ z9) && (decide (wy ≠ 0) || (!tl || gs z9)))) p9 x1) (x0 + b1) (dpV (fun b9 e9 => mS vu cu b9 e9 y0 y1) (okc 2 sg_ (fun z9 => decide (1 ≤ z9) && (decide (wy ≠ 0) || (!tl || gs z9)))) (x0 + b1 + 1) x1) (n1 + 1) := by rw [dpS_s, if_neg]; exact hE; intro hh; first | omega | exact absurd hh.2.2 (by rw [show (okc 2 sg_ (fun z9 => decide (1 ≤ z9) && (decide (wy ≠ 0) || (!tl || gs z9)))) (n1 + 1) = false from tN_0 c165]; decide)
                      have hc2 := hca
                      have h02 := h00
                      refine lv_iinc (v := (nI ((b1 + 1 + n1) + 1))) (lv' := [(10, .int (nI ((b1 + 1 + n1) + 1))), (15, .int (nI ((rc2 (64 + (b1 + 1 + n1))) + (cu at_)))), (13, .long (iL ((re2 (64 + (b1 + 1 + n1))) + (vu at_)))), (12, .int (nI (cu at_))), (11, .int (nI at_)), (0, .ref hM), (1, .int (nI 2)), (2, .int (nI x0)), (3, .int (nI x1)), (4, .int (nI y0)), (5, .int (nI y1)), (6, .int (nI 0)), (7, .int (nI (x1 - x0))), (8, .int (nI 64)), (9, .int (nI b1))]) hx hb d_Model_reckon_276 hl (k := 14) rfl (nI_inc _ _ _ (by omega)) (by decide) rfl (fun ls hl => ?_)
                      refine lv_goto (tgt := 114) hx hb d_Model_reckon_279 (by decide) ?_
                      exact ih114 (n1 + 1) va ca _ _ _ (by omega) hE2 hc2 h02 (by omega) hP hD hS (lv_sub hl [5, 6, 7, 8, 9, 10, 11, 12, 13, 14, 0] rfl)
                    · refine lv_iload hx hb d_Model_reckon_237 (lv_at hl 0 rfl) ?_
                      refine lv_aload_n hx hb d_Model_reckon_239 rfl (lv_at hl 4 rfl) ?_
                      refine va_get (D := G) (ci := 10) (v := .ref (aM 32)) (C := R_Model) (T := F_Model) (N := 47) hx hb hts in_Model hown hK hP 0 rfl rfl 32 (by decide) (hts _ fl_Model_88) (fun _ h9 => h9) rfl d_Model_reckon_240 ?_
                      refine lv_iload hx hb d_Model_reckon_243 (lv_at hl 12 rfl) ?_
                      refine lv_iload hx hb d_Model_reckon_245 (lv_at hl 13 rfl) ?_
                      refine n_iadd hx hb d_Model_reckon_247 ?_
                      refine n_iald hx hb hK hP 4 0 rfl rfl (by omega) (by omega) d_Model_reckon_248 ?_
                      refine top_i (show (nI ((va_up rc2 (64 + b1) ca) (64 + b1))) = (nI ca) from congrArg nI (va_up_self _ _ _)) ?_
                      refine n_icmp_ge (tgt := 276) hx hb (by omega) (by omega) d_Model_reckon_249 (by decide) (fun c249 => ?_) (fun c249 => ?_)
                      · have hE2 : 1024 * va - (ca : Int) = dpS (fun b9 e9 => mS vu cu b9 e9 y0 y1) (okc 2 sg_ (fun z9 => decide (1 ≤ z9) && (decide (wy ≠ 0) || (!tl || gs z9)))) (fun p9 => dpV (fun b9 e9 => mS vu cu b9 e9 y0 y1) (okc 2 sg_ (fun z9 => decide (1 ≤ z9) && (decide (wy ≠ 0) || (!tl || gs z9)))) p9 x1) (x0 + b1) (dpV (fun b9 e9 => mS vu cu b9 e9 y0 y1) (okc 2 sg_ (fun z9 => decide (1 ≤ z9) && (decide (wy ≠ 0) || (!tl || gs z9)))) (x0 + b1 + 1) x1) (n1 + 1) := by rw [dpS_s, if_neg]; exact hE; intro hh; first | omega | exact absurd hh.2.2 (by rw [show (okc 2 sg_ (fun z9 => decide (1 ≤ z9) && (decide (wy ≠ 0) || (!tl || gs z9)))) (n1 + 1) = false from tN_0 c165]; decide)
                        have hc2 := hca
                        have h02 := h00
                        refine lv_iinc (v := (nI ((b1 + 1 + n1) + 1))) (lv' := [(10, .int (nI ((b1 + 1 + n1) + 1))), (15, .int (nI ((rc2 (64 + (b1 + 1 + n1))) + (cu at_)))), (13, .long (iL ((re2 (64 + (b1 + 1 + n1))) + (vu at_)))), (12, .int (nI (cu at_))), (11, .int (nI at_)), (0, .ref hM), (1, .int (nI 2)), (2, .int (nI x0)), (3, .int (nI x1)), (4, .int (nI y0)), (5, .int (nI y1)), (6, .int (nI 0)), (7, .int (nI (x1 - x0))), (8, .int (nI 64)), (9, .int (nI b1))]) hx hb d_Model_reckon_276 hl (k := 14) rfl (nI_inc _ _ _ (by omega)) (by decide) rfl (fun ls hl => ?_)
                        refine lv_goto (tgt := 114) hx hb d_Model_reckon_279 (by decide) ?_
                        exact ih114 (n1 + 1) va ca _ _ _ (by omega) hE2 hc2 h02 (by omega) hP hD hS (lv_sub hl [5, 6, 7, 8, 9, 10, 11, 12, 13, 14, 0] rfl)
                      · refine lv_aload_n hx hb d_Model_reckon_252 rfl (lv_at hl 4 rfl) ?_
                        refine va_get (D := G) (ci := 10) (v := .ref (aM 31)) (C := R_Model) (T := F_Model) (N := 47) hx hb hts in_Model hown hK hP 0 rfl rfl 31 (by decide) (hts _ fl_Model_85) (fun _ h9 => h9) rfl d_Model_reckon_253 ?_
                        refine lv_iload hx hb d_Model_reckon_256 (lv_at hl 12 rfl) ?_
                        refine lv_iload hx hb d_Model_reckon_258 (lv_at hl 13 rfl) ?_
                        refine n_iadd hx hb d_Model_reckon_260 ?_
                        refine lv_lload hx hb d_Model_reckon_261 (lv_at hl 1 rfl) ?_
                        refine n_last hx hb hK hP hD hS 3 1 rfl rfl (by omega) (by omega) d_Model_reckon_263 (fun H locs hP hD hS => ?_)
                        rw [upd_lF] at hP hD
                        have hP : va_P G vwCl [(hM, .inr (10, mO cd st al ac nf ns tl.toNat mg bw md wy sg_ sz_ ks bd aM)), (aM 27, .inl (ty 1, 75625, .inr (.inl (lF vu)))), (aM 28, .inl (ty 0, 75625, .inl (nF cu))), (aM 31, .inl (ty 1, 128, .inr (.inl (lF (va_up (va_up re2 (64 + b1) va) (64 + b1) ((re2 (64 + (b1 + 1 + n1))) + (vu at_))))))), (aM 32, .inl (ty 0, 128, .inl (nF (va_up rc2 (64 + b1) ca)))), (aM 20, .inl (ty 2, 65537, .inl (bF gs)))] _ := hP
                        have hD : va_D A [(hM, .inr (10, mO cd st al ac nf ns tl.toNat mg bw md wy sg_ sz_ ks bd aM)), (aM 27, .inl (ty 1, 75625, .inr (.inl (lF vu)))), (aM 28, .inl (ty 0, 75625, .inl (nF cu))), (aM 31, .inl (ty 1, 128, .inr (.inl (lF (va_up (va_up re2 (64 + b1) va) (64 + b1) ((re2 (64 + (b1 + 1 + n1))) + (vu at_))))))), (aM 32, .inl (ty 0, 128, .inl (nF (va_up rc2 (64 + b1) ca)))), (aM 20, .inl (ty 2, 65537, .inl (bF gs)))] := hD
                        refine lv_aload_n hx hb d_Model_reckon_264 rfl (lv_at hl 4 rfl) ?_
                        refine va_get (D := G) (ci := 10) (v := .ref (aM 32)) (C := R_Model) (T := F_Model) (N := 47) hx hb hts in_Model hown hK hP 0 rfl rfl 32 (by decide) (hts _ fl_Model_88) (fun _ h9 => h9) rfl d_Model_reckon_265 ?_
                        refine lv_iload hx hb d_Model_reckon_268 (lv_at hl 12 rfl) ?_
                        refine lv_iload hx hb d_Model_reckon_270 (lv_at hl 13 rfl) ?_
                        refine n_iadd hx hb d_Model_reckon_272 ?_
                        refine lv_iload hx hb d_Model_reckon_273 (lv_at hl 0 rfl) ?_
                        refine n_iast hx hb hK hP hD hS 4 0 rfl rfl (by omega) (by omega) d_Model_reckon_275 (fun H locs hP hD hS => ?_)
                        rw [upd_nF] at hP hD
                        have hP : va_P G vwCl [(hM, .inr (10, mO cd st al ac nf ns tl.toNat mg bw md wy sg_ sz_ ks bd aM)), (aM 27, .inl (ty 1, 75625, .inr (.inl (lF vu)))), (aM 28, .inl (ty 0, 75625, .inl (nF cu))), (aM 31, .inl (ty 1, 128, .inr (.inl (lF (va_up (va_up re2 (64 + b1) va) (64 + b1) ((re2 (64 + (b1 + 1 + n1))) + (vu at_))))))), (aM 32, .inl (ty 0, 128, .inl (nF (va_up (va_up rc2 (64 + b1) ca) (64 + b1) ((rc2 (64 + (b1 + 1 + n1))) + (cu at_)))))), (aM 20, .inl (ty 2, 65537, .inl (bF gs)))] _ := hP
                        have hD : va_D A [(hM, .inr (10, mO cd st al ac nf ns tl.toNat mg bw md wy sg_ sz_ ks bd aM)), (aM 27, .inl (ty 1, 75625, .inr (.inl (lF vu)))), (aM 28, .inl (ty 0, 75625, .inl (nF cu))), (aM 31, .inl (ty 1, 128, .inr (.inl (lF (va_up (va_up re2 (64 + b1) va) (64 + b1) ((re2 (64 + (b1 + 1 + n1))) + (vu at_))))))), (aM 32, .inl (ty 0, 128, .inl (nF (va_up (va_up rc2 (64 + b1) ca) (64 + b1) ((rc2 (64 + (b1 + 1 + n1))) + (cu at_)))))), (aM 20, .inl (ty 2, 65537, .inl (bF gs)))] := hD
                        have hP : va_P G vwCl [(hM, .inr (10, mO cd st al ac nf ns tl.toNat mg bw md wy sg_ sz_ ks bd aM)), (aM 27, .inl (ty 1, 75625, .inr (.inl (lF vu)))), (aM 28, .inl (ty 0, 75625, .inl (nF cu))), (aM 31, .inl (ty 1, 128, .inr (.inl (lF (va_up re2 (64 + b1) (re2 (64 + (b1 + 1 + n1)) + vu at_)))))), (aM 32, .inl (ty 0, 128, .inl (nF (va_up rc2 (64 + b1) (rc2 (64 + (b1 + 1 + n1)) + cu at_))))), (aM 20, .inl (ty 2, 65537, .inl (bF gs)))] H := by rw [va_up_up, va_up_up] at hP; exact hP
                        have hD : va_D A [(hM, .inr (10, mO cd st al ac nf ns tl.toNat mg bw md wy sg_ sz_ ks bd aM)), (aM 27, .inl (ty 1, 75625, .inr (.inl (lF vu)))), (aM 28, .inl (ty 0, 75625, .inl (nF cu))), (aM 31, .inl (ty 1, 128, .inr (.inl (lF (va_up re2 (64 + b1) (re2 (64 + (b1 + 1 + n1)) + vu at_)))))), (aM 32, .inl (ty 0, 128, .inl (nF (va_up rc2 (64 + b1) (rc2 (64 + (b1 + 1 + n1)) + cu at_))))), (aM 20, .inl (ty 2, 65537, .inl (bF gs)))] := by rw [va_up_up, va_up_up] at hD; exact hD
                        have hE2 : 1024 * (re2 (64 + (b1 + 1 + n1)) + vu at_) - ((rc2 (64 + (b1 + 1 + n1)) + cu at_ : Nat) : Int) = dpS (fun b9 e9 => mS vu cu b9 e9 y0 y1) (okc 2 sg_ (fun z9 => decide (1 ≤ z9) && (decide (wy ≠ 0) || (!tl || gs z9)))) (fun p9 => dpV (fun b9 e9 => mS vu cu b9 e9 y0 y1) (okc 2 sg_ (fun z9 => decide (1 ≤ z9) && (decide (wy ≠ 0) || (!tl || gs z9)))) p9 x1) (x0 + b1) (dpV (fun b9 e9 => mS vu cu b9 e9 y0 y1) (okc 2 sg_ (fun z9 => decide (1 ≤ z9) && (decide (wy ≠ 0) || (!tl || gs z9)))) (x0 + b1 + 1) x1) (n1 + 1) := by rw [dpS_s, if_pos ⟨by omega, by omega, tN_1 c165⟩]; omega
                        have hc2 : rc2 (64 + (b1 + 1 + n1)) + cu at_ ≤ (y1 - y0) * (x1 - x0 - b1) := by omega
                        have h02 : rc2 (64 + (b1 + 1 + n1)) + cu at_ = 0 → re2 (64 + (b1 + 1 + n1)) + vu at_ = 0 := by omega
                        refine lv_iinc (v := (nI ((b1 + 1 + n1) + 1))) (lv' := [(10, .int (nI ((b1 + 1 + n1) + 1))), (15, .int (nI ((rc2 (64 + (b1 + 1 + n1))) + (cu at_)))), (13, .long (iL ((re2 (64 + (b1 + 1 + n1))) + (vu at_)))), (12, .int (nI (cu at_))), (11, .int (nI at_)), (0, .ref hM), (1, .int (nI 2)), (2, .int (nI x0)), (3, .int (nI x1)), (4, .int (nI y0)), (5, .int (nI y1)), (6, .int (nI 0)), (7, .int (nI (x1 - x0))), (8, .int (nI 64)), (9, .int (nI b1))]) hx hb d_Model_reckon_276 hl (k := 14) rfl (nI_inc _ _ _ (by omega)) (by decide) rfl (fun ls hl => ?_)
                        refine lv_goto (tgt := 114) hx hb d_Model_reckon_279 (by decide) ?_
                        exact ih114 (n1 + 1) (re2 (64 + (b1 + 1 + n1)) + vu at_) (rc2 (64 + (b1 + 1 + n1)) + cu at_) _ _ _ (by omega) hE2 hc2 h02 (by omega) hP hD hS (lv_sub hl [5, 6, 7, 8, 9, 10, 11, 12, 13, 14, 0] rfl)
        exact L114 ((x1 - x0) + 1 - (b1 + 0) + 1) 0 (re2 (64 + (b1 + 1))) (rc2 (64 + (b1 + 1))) _ _ _ (by omega) hr11 hkk hr1.2.2 (Nat.lt_succ_self _) hP hD hS (lv_sub hl [1, 2, 3, 4, 5, 6, 7, 8, 9, 10, 0] rfl)
  exact L59 ((x1 - x0) + 1) (x1 - x0) (va_up re (64 + (x1 - x0)) 0) (va_up rc (64 + (x1 - x0)) 0) _ _ _ (Nat.le_refl _) (fun p h1 h2 => by rw [show p = x1 - x0 from by omega]; exact rOKr_end (by show dpV _ _ (x0 + (x1 - x0)) x1 = 0; rw [show x0 + (x1 - x0) = x1 by omega]; exact dpV_end _ _ _)) (fun q hq => ⟨va_up_ne _ _ (by omega), va_up_ne _ _ (by omega)⟩) (Nat.lt_succ_self _) hP hD hS (lv_sub hl [4, 5, 6, 7, 8, 9, 3, 2, 1, 0] rfl)

abbrev q_reckon30 (G : va_G) (ty : Nat → ClassId) (hM : Nat) (cd : Nat) (st : Nat) (al : Nat) (ac : Nat) (nf : Nat) (ns : Nat) (mg : Nat) (bw : Nat) (md : Nat) (wy : Nat) (sg_ : Nat) (sz_ : Nat) (ks : Nat) (bd : Int) (aM : Nat → Nat) (gs : Nat → Bool) (tl : Bool) (x0 : Nat) (x1 : Nat) (y0 : Nat) (y1 : Nat) (vu : Nat → Int) (cu : Nat → Nat) (re : Nat → Int) (rc : Nat → Nat) (A : Nat → Prop) : Array Value → State → Outcome → State → Prop := va_Qv (fun (uu : (Nat → Int) × (Nat → Nat)) => (∀ p, p ≤ (y1 - y0) → rOKr uu.1 uu.2 (fun p9 => dpV (mS vu cu x0 x1) (okc 3 sg_ (fun z9 => decide (1 ≤ z9) && (decide (wy ≠ 0) || (!tl || gs z9)))) (y0 + p9) y1) 96 (x1 - x0) (y1 - y0) p) ∧ (∀ q, q < 96 ∨ 96 + (y1 - y0) < q → uu.1 q = re q ∧ uu.2 q = rc q)) (at_W G (fun (uu : (Nat → Int) × (Nat → Nat)) => [(hM, .inr (10, mO cd st al ac nf ns tl.toNat mg bw md wy sg_ sz_ ks bd aM)), (aM 29, .inl (ty 1, 75625, .inr (.inl (lF vu)))), (aM 30, .inl (ty 0, 75625, .inl (nF cu))), (aM 31, .inl (ty 1, 128, .inr (.inl (lF uu.1)))), (aM 32, .inl (ty 0, 128, .inl (nF uu.2))), (aM 20, .inl (ty 2, 65537, .inl (bF gs)))]) A) A
set_option maxRecDepth 100000 in
set_option maxHeartbeats 4000000 in
theorem c_reckon30 (l : Launch) (G : va_G) (ty : Nat → ClassId) (sz : Nat) (hM : Nat) (cd : Nat) (st : Nat) (al : Nat) (ac : Nat) (nf : Nat) (ns : Nat) (mg : Nat) (bw : Nat) (md : Nat) (wy : Nat) (sg_ : Nat) (sz_ : Nat) (ks : Nat) (bd : Int) (aM : Nat → Nat) (gs : Nat → Bool) (tl : Bool) (x0 : Nat) (x1 : Nat) (y0 : Nat) (y1 : Nat) (vu : Nat → Int) (cu : Nat → Nat) (re : Nat → Int) (rc : Nat → Nat) (gtp : 3 ≤ sg_ ∧ sg_ ≤ 3) (gwy : wy ≤ 1) (gax : 0 = (if (sg_ - 3) % 2 = 0 then wy else 1 - wy)) (k1 : x0 < x1) (k2 : x1 ≤ 24) (k3 : y0 < y1) (k4 : y1 ≤ 10) (gO : ∀ i j, y0 ≤ i → i < j → j ≤ y1 → mOK vu cu x0 x1 i j) : Met l y_Model_reckon ws_Model_reckon { frames := 2, cells := 0, slots := 0, locals := 50 } (va_Pc [.ref hM, .int (nI 3), .int (nI x0), .int (nI x1), .int (nI y0), .int (nI y1)] (fun U => U.heap.size = sz ∧ va_P G vwCl [(hM, .inr (10, mO cd st al ac nf ns tl.toNat mg bw md wy sg_ sz_ ks bd aM)), (aM 29, .inl (ty 1, 75625, .inr (.inl (lF vu)))), (aM 30, .inl (ty 0, 75625, .inl (nF cu))), (aM 31, .inl (ty 1, 128, .inr (.inl (lF re)))), (aM 32, .inl (ty 0, 128, .inl (nF rc))), (aM 20, .inl (ty 2, 65537, .inl (bF gs)))] U.heap ∧ KX G ty U ∧ va_D (fun _ => True) [(hM, .inr (10, mO cd st al ac nf ns tl.toNat mg bw md wy sg_ sz_ ks bd aM)), (aM 29, .inl (ty 1, 75625, .inr (.inl (lF vu)))), (aM 30, .inl (ty 0, 75625, .inl (nF cu))), (aM 31, .inl (ty 1, 128, .inr (.inl (lF re)))), (aM 32, .inl (ty 0, 128, .inl (nF rc))), (aM 20, .inl (ty 2, 65537, .inl (bF gs)))])) (q_reckon30 G ty hM cd st al ac nf ns mg bw md wy sg_ sz_ ks bd aM gs tl x0 x1 y0 y1 vu cu re rc (va_A [(hM, .inr (10, mO cd st al ac nf ns tl.toNat mg bw md wy sg_ sz_ ks bd aM)), (aM 29, .inl (ty 1, 75625, .inr (.inl (lF vu)))), (aM 30, .inl (ty 0, 75625, .inl (nF cu))), (aM 31, .inl (ty 1, 128, .inr (.inl (lF re)))), (aM 32, .inl (ty 0, 128, .inl (nF rc))), (aM 20, .inl (ty 2, 65537, .inl (bF gs)))] sz)) 0 0 (va_A [(hM, .inr (10, mO cd st al ac nf ns tl.toNat mg bw md wy sg_ sz_ ks bd aM)), (aM 29, .inl (ty 1, 75625, .inr (.inl (lF vu)))), (aM 30, .inl (ty 0, 75625, .inl (nF cu))), (aM 31, .inl (ty 1, 128, .inr (.inl (lF re)))), (aM 32, .inl (ty 0, 128, .inl (nF rc))), (aM 20, .inl (ty 2, 65537, .inl (bF gs)))] sz) := by
  refine met_wr (y := y_Model_reckon) (maxL := 16) (sz := sz) (G := G) (ty := ty) (mc := 0) (ms := 0) (av := [.ref hM, .int (nI 3), .int (nI x0), .int (nI x1), .int (nI y0), .int (nI y1)]) (W0 := [(hM, .inr (10, mO cd st al ac nf ns tl.toNat mg bw md wy sg_ sz_ ks bd aM)), (aM 29, .inl (ty 1, 75625, .inr (.inl (lF vu)))), (aM 30, .inl (ty 0, 75625, .inl (nF cu))), (aM 31, .inl (ty 1, 128, .inr (.inl (lF re)))), (aM 32, .inl (ty 0, 128, .inl (nF rc))), (aM 20, .inl (ty 2, 65537, .inl (bF gs)))]) (fun A => q_reckon30 G ty hM cd st al ac nf ns mg bw md wy sg_ sz_ ks bd aM gs tl x0 x1 y0 y1 vu cu re rc A) R_Model (by decide) rfl rfl (Nat.le_of_ble_eq_true rfl) ?_
  intro p e s m below meth c ls A hx hb hr hml hown hts hlocks hin hA hP hX hD hS hl
  have hK := hX.1
  have hl : lv_has ls 16 [(0, .ref hM), (1, .int (nI 3)), (2, .int (nI x0)), (3, .int (nI x1)), (4, .int (nI y0)), (5, .int (nI y1))] := hl
  have hKn : ∀ a9, a9 ≤ y1 - y0 → (x1 - x0) * a9 ≤ 240 := fun a9 h9 => Nat.le_trans (Nat.mul_le_mul (show x1 - x0 ≤ 24 by omega) (show a9 ≤ 10 by omega)) (by decide)
  have hdv : ∀ p, y0 ≤ p → p ≤ y1 → 0 ≤ dpV (mS vu cu x0 x1) (okc 3 sg_ (fun z9 => decide (1 ≤ z9) && (decide (wy ≠ 0) || (!tl || gs z9)))) p y1 ∧ dpV (mS vu cu x0 x1) (okc 3 sg_ (fun z9 => decide (1 ≤ z9) && (decide (wy ≠ 0) || (!tl || gs z9)))) p y1 ≤ 26400000000000000 := fun p h1 h2 => dpV_u (by omega) h2 (fun i j h3 h4 h5 => mS_le (gO i j (by omega) h4 h5))
  refine lv_aload_n hx hb d_Model_reckon_0 rfl (lv_at hl 0 rfl) ?_
  refine lv_iload_n hx hb d_Model_reckon_1 rfl (lv_at hl 1 rfl) ?_
  refine vp_callSi (W.runV (As := [.int (nI 3)]) (rest := []) ⟨hx, hb, hml, hown, hts⟩ (c_Model_isRipped l G ty hM cd st al ac nf ns tl.toNat mg bw md wy sg_ sz_ ks bd aM 3 (by omega) (by omega) (by omega)) ⟨callB_of 1 hts (gd_TB cd_Model_isRipped) rfl rfl rfl (hts _ ini_Model) (hts _ lk_Model_196) hd_Model_isRipped ⟨Nat.le_of_ble_eq_true rfl, Nat.le_of_ble_eq_true rfl⟩, hts _ im_Model_isRipped, hts _ sl_Model_isRipped⟩ (preV_ro (hP.sub (ws' := [(hM, .inr (10, mO cd st al ac nf ns tl.toNat mg bw md wy sg_ sz_ ks bd aM))]) [0] rfl) hX 0 rfl rfl) rfl rfl hl.1 rfl (lv_room (Nat.le_of_ble_eq_true rfl)) d_Model_reckon_2 ⟨Nat.le_of_ble_eq_true rfl, Nat.le_of_ble_eq_true rfl⟩) (fun r9 er9 => ?_)
  subst er9
  refine top_i (show (nI (1 - (if (sg_ - 3) % 2 = 0 then wy else 1 - wy))) = (nI 1) from congrArg (fun z9 => nI (1 - z9)) gax.symm) ?_
  refine lv_istore (lv' := [(6, .int (nI 1)), (0, .ref hM), (1, .int (nI 3)), (2, .int (nI x0)), (3, .int (nI x1)), (4, .int (nI y0)), (5, .int (nI y1))]) hx hb d_Model_reckon_5 hl (by decide) rfl (fun ls hl => ?_)
  refine lv_iload hx hb d_Model_reckon_7 (lv_at hl 0 rfl) ?_
  refine n_if_eq (tgt := 20) hx hb (by omega) d_Model_reckon_9 (by decide) (fun c9 => absurd c9 (by omega)) (fun c9 => ?_)
  refine lv_iload hx hb d_Model_reckon_12 (lv_at hl 6 rfl) ?_
  refine lv_iload hx hb d_Model_reckon_14 (lv_at hl 5 rfl) ?_
  refine n_isub hx hb (by omega) d_Model_reckon_16 ?_
  refine lv_goto (tgt := 23) hx hb d_Model_reckon_17 (by decide) ?_
  refine lv_istore (lv' := [(7, .int (nI (y1 - y0))), (6, .int (nI 1)), (0, .ref hM), (1, .int (nI 3)), (2, .int (nI x0)), (3, .int (nI x1)), (4, .int (nI y0)), (5, .int (nI y1))]) hx hb d_Model_reckon_23 hl (by decide) rfl (fun ls hl => ?_)
  refine lv_bipush (v := (nI 32)) hx hb d_Model_reckon_25 (by decide) ?_
  refine lv_iload_n hx hb d_Model_reckon_27 rfl (lv_at hl 3 rfl) ?_
  refine n_imul hx hb d_Model_reckon_28 ?_
  refine top_i (show (nI (32 * 3)) = nI 96 from rfl) ?_
  refine lv_istore (lv' := [(8, .int (nI 96)), (7, .int (nI (y1 - y0))), (6, .int (nI 1)), (0, .ref hM), (1, .int (nI 3)), (2, .int (nI x0)), (3, .int (nI x1)), (4, .int (nI y0)), (5, .int (nI y1))]) hx hb d_Model_reckon_29 hl (by decide) rfl (fun ls hl => ?_)
  refine lv_aload_n hx hb d_Model_reckon_31 rfl (lv_at hl 3 rfl) ?_
  refine va_get (D := G) (ci := 10) (v := .ref (aM 31)) (C := R_Model) (T := F_Model) (N := 47) hx hb hts in_Model hown hK hP 0 rfl rfl 31 (by decide) (hts _ fl_Model_85) (fun _ h9 => h9) rfl d_Model_reckon_32 ?_
  refine lv_iload hx hb d_Model_reckon_35 (lv_at hl 0 rfl) ?_
  refine lv_iload hx hb d_Model_reckon_37 (lv_at hl 1 rfl) ?_
  refine n_iadd hx hb d_Model_reckon_39 ?_
  refine lv_lconst (v := iL 0) hx hb d_Model_reckon_40 (by decide) ?_
  refine n_last hx hb hK hP hD hS 3 1 rfl rfl (by omega) (by omega) d_Model_reckon_41 (fun H locs hP hD hS => ?_)
  rw [upd_lF] at hP hD
  have hP : va_P G vwCl [(hM, .inr (10, mO cd st al ac nf ns tl.toNat mg bw md wy sg_ sz_ ks bd aM)), (aM 29, .inl (ty 1, 75625, .inr (.inl (lF vu)))), (aM 30, .inl (ty 0, 75625, .inl (nF cu))), (aM 31, .inl (ty 1, 128, .inr (.inl (lF (va_up re (96 + (y1 - y0)) 0))))), (aM 32, .inl (ty 0, 128, .inl (nF rc))), (aM 20, .inl (ty 2, 65537, .inl (bF gs)))] _ := hP
  have hD : va_D A [(hM, .inr (10, mO cd st al ac nf ns tl.toNat mg bw md wy sg_ sz_ ks bd aM)), (aM 29, .inl (ty 1, 75625, .inr (.inl (lF vu)))), (aM 30, .inl (ty 0, 75625, .inl (nF cu))), (aM 31, .inl (ty 1, 128, .inr (.inl (lF (va_up re (96 + (y1 - y0)) 0))))), (aM 32, .inl (ty 0, 128, .inl (nF rc))), (aM 20, .inl (ty 2, 65537, .inl (bF gs)))] := hD
  refine lv_aload_n hx hb d_Model_reckon_42 rfl (lv_at hl 3 rfl) ?_
  refine va_get (D := G) (ci := 10) (v := .ref (aM 32)) (C := R_Model) (T := F_Model) (N := 47) hx hb hts in_Model hown hK hP 0 rfl rfl 32 (by decide) (hts _ fl_Model_88) (fun _ h9 => h9) rfl d_Model_reckon_43 ?_
  refine lv_iload hx hb d_Model_reckon_46 (lv_at hl 0 rfl) ?_
  refine lv_iload hx hb d_Model_reckon_48 (lv_at hl 1 rfl) ?_
  refine n_iadd hx hb d_Model_reckon_50 ?_
  refine lv_iconst (v := (nI 0)) hx hb d_Model_reckon_51 (by decide) ?_
  refine n_iast hx hb hK hP hD hS 4 0 rfl rfl (by omega) (by omega) d_Model_reckon_52 (fun H locs hP hD hS => ?_)
  rw [upd_nF] at hP hD
  have hP : va_P G vwCl [(hM, .inr (10, mO cd st al ac nf ns tl.toNat mg bw md wy sg_ sz_ ks bd aM)), (aM 29, .inl (ty 1, 75625, .inr (.inl (lF vu)))), (aM 30, .inl (ty 0, 75625, .inl (nF cu))), (aM 31, .inl (ty 1, 128, .inr (.inl (lF (va_up re (96 + (y1 - y0)) 0))))), (aM 32, .inl (ty 0, 128, .inl (nF (va_up rc (96 + (y1 - y0)) 0)))), (aM 20, .inl (ty 2, 65537, .inl (bF gs)))] _ := hP
  have hD : va_D A [(hM, .inr (10, mO cd st al ac nf ns tl.toNat mg bw md wy sg_ sz_ ks bd aM)), (aM 29, .inl (ty 1, 75625, .inr (.inl (lF vu)))), (aM 30, .inl (ty 0, 75625, .inl (nF cu))), (aM 31, .inl (ty 1, 128, .inr (.inl (lF (va_up re (96 + (y1 - y0)) 0))))), (aM 32, .inl (ty 0, 128, .inl (nF (va_up rc (96 + (y1 - y0)) 0)))), (aM 20, .inl (ty 2, 65537, .inl (bF gs)))] := hD
  refine lv_iload hx hb d_Model_reckon_53 (lv_at hl 1 rfl) ?_
  refine lv_iconst (v := (nI 1)) hx hb d_Model_reckon_55 (by decide) ?_
  refine nzz_isub hx hb d_Model_reckon_56 ?_
  refine lv_istore (lv' := [(9, .int (iI ((y1 - y0 : Nat) - ((1 : Nat) : Int)))), (8, .int (nI 96)), (7, .int (nI (y1 - y0))), (6, .int (nI 1)), (0, .ref hM), (1, .int (nI 3)), (2, .int (nI x0)), (3, .int (nI x1)), (4, .int (nI y0)), (5, .int (nI y1))]) hx hb d_Model_reckon_57 hl (by decide) rfl (fun ls hl => ?_)
  have L59 : ∀ (k9 : Nat) (b : Nat) (re2 : Nat → Int) (rc2 : Nat → Nat) (H : Heap) (locs : List Loc) (ls : Array Slot), (b ≤ (y1 - y0)) → (∀ p, b ≤ p → p ≤ (y1 - y0) → rOKr re2 rc2 (fun p9 => dpV (mS vu cu x0 x1) (okc 3 sg_ (fun z9 => decide (1 ≤ z9) && (decide (wy ≠ 0) || (!tl || gs z9)))) (y0 + p9) y1) 96 (x1 - x0) (y1 - y0) p) → (∀ q, q < 96 ∨ 96 + (y1 - y0) < q → re2 q = re q ∧ rc2 q = rc q) → b < k9 → va_P G vwCl [(hM, .inr (10, mO cd st al ac nf ns tl.toNat mg bw md wy sg_ sz_ ks bd aM)), (aM 29, .inl (ty 1, 75625, .inr (.inl (lF vu)))), (aM 30, .inl (ty 0, 75625, .inl (nF cu))), (aM 31, .inl (ty 1, 128, .inr (.inl (lF re2)))), (aM 32, .inl (ty 0, 128, .inl (nF rc2))), (aM 20, .inl (ty 2, 65537, .inl (bF gs)))] H → va_D A [(hM, .inr (10, mO cd st al ac nf ns tl.toNat mg bw md wy sg_ sz_ ks bd aM)), (aM 29, .inl (ty 1, 75625, .inr (.inl (lF vu)))), (aM 30, .inl (ty 0, 75625, .inl (nF cu))), (aM 31, .inl (ty 1, 128, .inr (.inl (lF re2)))), (aM 32, .inl (ty 0, 128, .inl (nF rc2))), (aM 20, .inl (ty 2, 65537, .inl (bF gs)))] → va_S A s.heap H locs → lv_has ls 16 [(0, .ref hM), (1, .int (nI 3)), (2, .int (nI x0)), (3, .int (nI x1)), (4, .int (nI y0)), (5, .int (nI y1)), (6, .int (nI 1)), (7, .int (nI (y1 - y0))), (8, .int (nI 96)), (9, .int (iI (((b : Nat) : Int) - ((1 : Nat) : Int))))] → W p l e { frames := 2, cells := 0, slots := 0, locals := 50 } s m [.ref hM, .int (nI 3), .int (nI x0), .int (nI x1), .int (nI y0), .int (nI y1)].toArray below meth c H locs 0 0 (MQ below (q_reckon30 G ty hM cd st al ac nf ns mg bw md wy sg_ sz_ ks bd aM gs tl x0 x1 y0 y1 vu cu re rc A) [.ref hM, .int (nI 3), .int (nI x0), .int (nI x1), .int (nI y0), .int (nI y1)].toArray s 0 0 A) (F0 m 59 ls []) := by
    intro k9
    induction k9 with
    | zero => intro b re2 rc2 H locs ls hb0 hR hF hk9; exact absurd hk9 (Nat.not_lt_zero _)
    | succ k9 ih59 =>
      intro b re2 rc2 H locs ls hb0 hR hF hk9 hP hD hS hl
      refine lv_iload hx hb d_Model_reckon_59 (lv_at hl 9 rfl) ?_
      refine z_if_lt (tgt := 288) hx hb (by omega) d_Model_reckon_61 (by decide) (fun c61 => ?_) (fun c61 => ?_)
      · exact W.vret hx hb hr (fun t9 ht hW => ⟨⟨(re2, rc2), rfl, ⟨fun p h => hR p (by omega) h, hF⟩, by rw [ht]; exact hP, hD⟩, hS.F ht⟩) hS.2.2 d_Model_reckon_288
      · obtain ⟨b1, rfl⟩ : ∃ b1, b = b1 + 1 := ⟨b - 1, by omega⟩
        have hl : lv_has ls 16 [(0, .ref hM), (1, .int (nI 3)), (2, .int (nI x0)), (3, .int (nI x1)), (4, .int (nI y0)), (5, .int (nI y1)), (6, .int (nI 1)), (7, .int (nI (y1 - y0))), (8, .int (nI 96)), (9, .int (nI b1))] := by rw [show (nI b1) = (iI (((b1 + 1 : Nat) : Int) - ((1 : Nat) : Int))) from by rw [nI_iI]; congr 1; omega]; exact hl
        have hr1 := hR (b1 + 1) (Nat.le_refl _) (by omega)
        have hr11 : 1024 * re2 (96 + (b1 + 1)) - (rc2 (96 + (b1 + 1)) : Int) = dpV (mS vu cu x0 x1) (okc 3 sg_ (fun z9 => decide (1 ≤ z9) && (decide (wy ≠ 0) || (!tl || gs z9)))) (y0 + b1 + 1) y1 := hr1.1
        have hkk := Nat.le_trans hr1.2.1 (Nat.mul_le_mul_left (x1 - x0) (show y1 - y0 - (b1 + 1) ≤ y1 - y0 - b1 by omega))
        refine lv_aload_n hx hb d_Model_reckon_64 rfl (lv_at hl 0 rfl) ?_
        refine va_get (D := G) (ci := 10) (v := .ref (aM 31)) (C := R_Model) (T := F_Model) (N := 47) hx hb hts in_Model hown hK hP 0 rfl rfl 31 (by decide) (hts _ fl_Model_85) (fun _ h9 => h9) rfl d_Model_reckon_65 ?_
        refine lv_iload hx hb d_Model_reckon_68 (lv_at hl 8 rfl) ?_
        refine lv_iload hx hb d_Model_reckon_70 (lv_at hl 9 rfl) ?_
        refine n_iadd hx hb d_Model_reckon_72 ?_
        refine lv_aload_n hx hb d_Model_reckon_73 rfl (lv_at hl 0 rfl) ?_
        refine va_get (D := G) (ci := 10) (v := .ref (aM 31)) (C := R_Model) (T := F_Model) (N := 47) hx hb hts in_Model hown hK hP 0 rfl rfl 31 (by decide) (hts _ fl_Model_85) (fun _ h9 => h9) rfl d_Model_reckon_74 ?_
        refine lv_iload hx hb d_Model_reckon_77 (lv_at hl 8 rfl) ?_
        refine lv_iload hx hb d_Model_reckon_79 (lv_at hl 9 rfl) ?_
        refine n_iadd hx hb d_Model_reckon_81 ?_
        refine lv_iconst (v := (nI 1)) hx hb d_Model_reckon_82 (by decide) ?_
        refine n_iadd hx hb d_Model_reckon_83 ?_
        refine n_lald hx hb hK hP 3 1 rfl rfl (by omega) (by omega) d_Model_reckon_84 ?_
        refine top_l (show (iL (re2 ((96 + b1) + 1))) = (iL (re2 (96 + (b1 + 1)))) from rfl) ?_
        refine n_last hx hb hK hP hD hS 3 1 rfl rfl (by omega) (by omega) d_Model_reckon_85 (fun H locs hP hD hS => ?_)
        rw [upd_lF] at hP hD
        have hP : va_P G vwCl [(hM, .inr (10, mO cd st al ac nf ns tl.toNat mg bw md wy sg_ sz_ ks bd aM)), (aM 29, .inl (ty 1, 75625, .inr (.inl (lF vu)))), (aM 30, .inl (ty 0, 75625, .inl (nF cu))), (aM 31, .inl (ty 1, 128, .inr (.inl (lF (va_up re2 (96 + b1) (re2 (96 + (b1 + 1)))))))), (aM 32, .inl (ty 0, 128, .inl (nF rc2))), (aM 20, .inl (ty 2, 65537, .inl (bF gs)))] _ := hP
        have hD : va_D A [(hM, .inr (10, mO cd st al ac nf ns tl.toNat mg bw md wy sg_ sz_ ks bd aM)), (aM 29, .inl (ty 1, 75625, .inr (.inl (lF vu)))), (aM 30, .inl (ty 0, 75625, .inl (nF cu))), (aM 31, .inl (ty 1, 128, .inr (.inl (lF (va_up re2 (96 + b1) (re2 (96 + (b1 + 1)))))))), (aM 32, .inl (ty 0, 128, .inl (nF rc2))), (aM 20, .inl (ty 2, 65537, .inl (bF gs)))] := hD
        refine lv_aload_n hx hb d_Model_reckon_86 rfl (lv_at hl 0 rfl) ?_
        refine va_get (D := G) (ci := 10) (v := .ref (aM 32)) (C := R_Model) (T := F_Model) (N := 47) hx hb hts in_Model hown hK hP 0 rfl rfl 32 (by decide) (hts _ fl_Model_88) (fun _ h9 => h9) rfl d_Model_reckon_87 ?_
        refine lv_iload hx hb d_Model_reckon_90 (lv_at hl 8 rfl) ?_
        refine lv_iload hx hb d_Model_reckon_92 (lv_at hl 9 rfl) ?_
        refine n_iadd hx hb d_Model_reckon_94 ?_
        refine lv_aload_n hx hb d_Model_reckon_95 rfl (lv_at hl 0 rfl) ?_
        refine va_get (D := G) (ci := 10) (v := .ref (aM 32)) (C := R_Model) (T := F_Model) (N := 47) hx hb hts in_Model hown hK hP 0 rfl rfl 32 (by decide) (hts _ fl_Model_88) (fun _ h9 => h9) rfl d_Model_reckon_96 ?_
        refine lv_iload hx hb d_Model_reckon_99 (lv_at hl 8 rfl) ?_
        refine lv_iload hx hb d_Model_reckon_101 (lv_at hl 9 rfl) ?_
        refine n_iadd hx hb d_Model_reckon_103 ?_
        refine lv_iconst (v := (nI 1)) hx hb d_Model_reckon_104 (by decide) ?_
        refine n_iadd hx hb d_Model_reckon_105 ?_
        refine n_iald hx hb hK hP 4 0 rfl rfl (by omega) (by omega) d_Model_reckon_106 ?_
        refine top_i (show (nI (rc2 ((96 + b1) + 1))) = (nI (rc2 (96 + (b1 + 1)))) from rfl) ?_
        refine n_iast hx hb hK hP hD hS 4 0 rfl rfl (by omega) (by omega) d_Model_reckon_107 (fun H locs hP hD hS => ?_)
        rw [upd_nF] at hP hD
        have hP : va_P G vwCl [(hM, .inr (10, mO cd st al ac nf ns tl.toNat mg bw md wy sg_ sz_ ks bd aM)), (aM 29, .inl (ty 1, 75625, .inr (.inl (lF vu)))), (aM 30, .inl (ty 0, 75625, .inl (nF cu))), (aM 31, .inl (ty 1, 128, .inr (.inl (lF (va_up re2 (96 + b1) (re2 (96 + (b1 + 1)))))))), (aM 32, .inl (ty 0, 128, .inl (nF (va_up rc2 (96 + b1) (rc2 (96 + (b1 + 1))))))), (aM 20, .inl (ty 2, 65537, .inl (bF gs)))] _ := hP
        have hD : va_D A [(hM, .inr (10, mO cd st al ac nf ns tl.toNat mg bw md wy sg_ sz_ ks bd aM)), (aM 29, .inl (ty 1, 75625, .inr (.inl (lF vu)))), (aM 30, .inl (ty 0, 75625, .inl (nF cu))), (aM 31, .inl (ty 1, 128, .inr (.inl (lF (va_up re2 (96 + b1) (re2 (96 + (b1 + 1)))))))), (aM 32, .inl (ty 0, 128, .inl (nF (va_up rc2 (96 + b1) (rc2 (96 + (b1 + 1))))))), (aM 20, .inl (ty 2, 65537, .inl (bF gs)))] := hD
        refine lv_iload hx hb d_Model_reckon_108 (lv_at hl 9 rfl) ?_
        refine lv_iconst (v := (nI 1)) hx hb d_Model_reckon_110 (by decide) ?_
        refine n_iadd hx hb d_Model_reckon_111 ?_
        refine lv_istore (lv' := [(10, .int (nI (b1 + 1))), (0, .ref hM), (1, .int (nI 3)), (2, .int (nI x0)), (3, .int (nI x1)), (4, .int (nI y0)), (5, .int (nI y1)), (6, .int (nI 1)), (7, .int (nI (y1 - y0))), (8, .int (nI 96)), (9, .int (nI b1))]) hx hb d_Model_reckon_112 hl (by decide) rfl (fun ls hl => ?_)
        have L114 : ∀ (k9 : Nat) (n1 : Nat) (va : Int) (ca : Nat) (H : Heap) (locs : List Loc) (ls : Array Slot), (b1 + n1 ≤ (y1 - y0)) → (1024 * va - (ca : Int) = dpS (mS vu cu x0 x1) (okc 3 sg_ (fun z9 => decide (1 ≤ z9) && (decide (wy ≠ 0) || (!tl || gs z9)))) (fun p9 => dpV (mS vu cu x0 x1) (okc 3 sg_ (fun z9 => decide (1 ≤ z9) && (decide (wy ≠ 0) || (!tl || gs z9)))) p9 y1) (y0 + b1) (dpV (mS vu cu x0 x1) (okc 3 sg_ (fun z9 => decide (1 ≤ z9) && (decide (wy ≠ 0) || (!tl || gs z9)))) (y0 + b1 + 1) y1) n1) → (ca ≤ (x1 - x0) * (y1 - y0 - b1)) → (ca = 0 → va = 0) → (y1 - y0) + 1 - (b1 + n1) < k9 → va_P G vwCl [(hM, .inr (10, mO cd st al ac nf ns tl.toNat mg bw md wy sg_ sz_ ks bd aM)), (aM 29, .inl (ty 1, 75625, .inr (.inl (lF vu)))), (aM 30, .inl (ty 0, 75625, .inl (nF cu))), (aM 31, .inl (ty 1, 128, .inr (.inl (lF (va_up re2 (96 + b1) va))))), (aM 32, .inl (ty 0, 128, .inl (nF (va_up rc2 (96 + b1) ca)))), (aM 20, .inl (ty 2, 65537, .inl (bF gs)))] H → va_D A [(hM, .inr (10, mO cd st al ac nf ns tl.toNat mg bw md wy sg_ sz_ ks bd aM)), (aM 29, .inl (ty 1, 75625, .inr (.inl (lF vu)))), (aM 30, .inl (ty 0, 75625, .inl (nF cu))), (aM 31, .inl (ty 1, 128, .inr (.inl (lF (va_up re2 (96 + b1) va))))), (aM 32, .inl (ty 0, 128, .inl (nF (va_up rc2 (96 + b1) ca)))), (aM 20, .inl (ty 2, 65537, .inl (bF gs)))] → va_S A s.heap H locs → lv_has ls 16 [(0, .ref hM), (1, .int (nI 3)), (2, .int (nI x0)), (3, .int (nI x1)), (4, .int (nI y0)), (5, .int (nI y1)), (6, .int (nI 1)), (7, .int (nI (y1 - y0))), (8, .int (nI 96)), (9, .int (nI b1)), (10, .int (nI (b1 + 1 + n1)))] → W p l e { frames := 2, cells := 0, slots := 0, locals := 50 } s m [.ref hM, .int (nI 3), .int (nI x0), .int (nI x1), .int (nI y0), .int (nI y1)].toArray below meth c H locs 0 0 (MQ below (q_reckon30 G ty hM cd st al ac nf ns mg bw md wy sg_ sz_ ks bd aM gs tl x0 x1 y0 y1 vu cu re rc A) [.ref hM, .int (nI 3), .int (nI x0), .int (nI x1), .int (nI y0), .int (nI y1)].toArray s 0 0 A) (F0 m 114 ls []) := by
          intro k9
          induction k9 with
          | zero => intro n1 va ca H locs ls hn1 hE hca h00 hk9; exact absurd hk9 (Nat.not_lt_zero _)
          | succ k9 ih114 =>
            intro n1 va ca H locs ls hn1 hE hca h00 hk9 hP hD hS hl
            refine lv_iload hx hb d_Model_reckon_114 (lv_at hl 10 rfl) ?_
            refine lv_iload hx hb d_Model_reckon_116 (lv_at hl 7 rfl) ?_
            refine n_icmp_gt (tgt := 282) hx hb (by omega) (by omega) d_Model_reckon_118 (by decide) (fun c118 => ?_) (fun c118 => ?_)
            · have hfin : 1024 * va - (ca : Int) = dpV (mS vu cu x0 x1) (okc 3 sg_ (fun z9 => decide (1 ≤ z9) && (decide (wy ≠ 0) || (!tl || gs z9)))) (y0 + b1) y1 := by rw [dpV_step (show y0 + b1 < y1 by omega), show y1 - (y0 + b1) = n1 by omega]; exact hE
              have hR3 : ∀ p, b1 ≤ p → p ≤ (y1 - y0) → rOKr (va_up re2 (96 + b1) va) (va_up rc2 (96 + b1) ca) (fun p9 => dpV (mS vu cu x0 x1) (okc 3 sg_ (fun z9 => decide (1 ≤ z9) && (decide (wy ≠ 0) || (!tl || gs z9)))) (y0 + p9) y1) 96 (x1 - x0) (y1 - y0) p := fun p h1 h2 => (Nat.lt_or_ge b1 p).elim (fun q => rOKr_up (by omega) (hR p (by omega) h2)) (fun q => by rw [show p = b1 from by omega]; exact rOKr_at hfin hca h00)
              have hF3 : ∀ q, q < 96 ∨ 96 + (y1 - y0) < q → (va_up re2 (96 + b1) va) q = re q ∧ (va_up rc2 (96 + b1) ca) q = rc q := fun q hq => ⟨by rw [va_up_ne _ _ (by omega)]; exact (hF q hq).1, by rw [va_up_ne _ _ (by omega)]; exact (hF q hq).2⟩
              refine lv_iinc (v := (iI (((b1 : Nat) : Int) - ((1 : Nat) : Int)))) (lv' := [(9, .int (iI (((b1 : Nat) : Int) - ((1 : Nat) : Int)))), (0, .ref hM), (1, .int (nI 3)), (2, .int (nI x0)), (3, .int (nI x1)), (4, .int (nI y0)), (5, .int (nI y1)), (6, .int (nI 1)), (7, .int (nI (y1 - y0))), (8, .int (nI 96)), (10, .int (nI (b1 + 1 + n1)))]) hx hb d_Model_reckon_282 hl (k := 9) rfl (by rw [nI_iI]; exact iI_add _ _) (by decide) rfl (fun ls hl => ?_)
              refine lv_goto (tgt := 59) hx hb d_Model_reckon_285 (by decide) ?_
              exact ih59 b1 (va_up re2 (96 + b1) va) (va_up rc2 (96 + b1) ca) _ _ _ (by omega) hR3 hF3 (by omega) hP hD hS (lv_sub hl [1, 2, 3, 4, 5, 6, 7, 8, 9, 0] rfl)
            · obtain ⟨at_, eat⟩ : ∃ at_, at_ = ((25 * x0 + x1) * 11 + (y0 + b1)) * 11 + (y0 + (b1 + 1 + n1)) := ⟨_, rfl⟩
              have e1 : y0 + (b1 + 1 + n1) = y0 + b1 + 1 + n1 := by omega
              have hO := gO (y0 + b1) (y0 + b1 + 1 + n1) (by omega) (by omega) (by omega)
              unfold mOK at hO
              rw [← e1, ← eat] at hO
              have hO1 : cu at_ ≤ (x1 - x0) * (n1 + 1) := by have h9 := hO.1; rw [show y0 + (b1 + 1 + n1) - (y0 + b1) = n1 + 1 by omega] at h9; exact h9
              have hO2 := hO.2.1
              have hO3 := hO.2.2
              clear hO
              have hvS : mS vu cu x0 x1 (y0 + b1) (y0 + b1 + 1 + n1) = 1024 * vu at_ - (cu at_ : Int) := by rw [eat, e1]; try rfl
              have hrT := hR (b1 + 1 + n1) (by omega) (by omega)
              have hrT1 : 1024 * re2 (96 + (b1 + 1 + n1)) - (rc2 (96 + (b1 + 1 + n1)) : Int) = dpV (mS vu cu x0 x1) (okc 3 sg_ (fun z9 => decide (1 ≤ z9) && (decide (wy ≠ 0) || (!tl || gs z9)))) (y0 + b1 + 1 + n1) y1 := by have h9 := hrT.1; rw [← e1]; exact h9
              have hrT2 := hrT.2.1
              clear hrT
              have hka : (x1 - x0) * (y1 - y0 - (b1 + 1 + n1)) + (x1 - x0) * (n1 + 1) = (x1 - x0) * (y1 - y0 - b1) := K_add (by omega)
              have hkb := hKn (y1 - y0 - b1) (by omega)
              have hz0 := (hdv (y0 + b1 + 1 + n1) (by omega) (by omega))
              have hat : at_ < 75625 := by rw [eat]; omega
              have hz : dpV (mS vu cu x0 x1) (okc 3 sg_ (fun z9 => decide (1 ≤ z9) && (decide (wy ≠ 0) || (!tl || gs z9)))) (y0 + b1 + 1 + n1) y1 ≤ dpS (mS vu cu x0 x1) (okc 3 sg_ (fun z9 => decide (1 ≤ z9) && (decide (wy ≠ 0) || (!tl || gs z9)))) (fun p9 => dpV (mS vu cu x0 x1) (okc 3 sg_ (fun z9 => decide (1 ≤ z9) && (decide (wy ≠ 0) || (!tl || gs z9)))) p9 y1) (y0 + b1) (dpV (mS vu cu x0 x1) (okc 3 sg_ (fun z9 => decide (1 ≤ z9) && (decide (wy ≠ 0) || (!tl || gs z9)))) (y0 + b1 + 1) y1) n1 := Int.le_trans (dpV_mono n1 (y0 + b1 + 1) (by omega)) (dpS_ge n1)
              have hcu : dpS (mS vu cu x0 x1) (okc 3 sg_ (fun z9 => decide (1 ≤ z9) && (decide (wy ≠ 0) || (!tl || gs z9)))) (fun p9 => dpV (mS vu cu x0 x1) (okc 3 sg_ (fun z9 => decide (1 ≤ z9) && (decide (wy ≠ 0) || (!tl || gs z9)))) p9 y1) (y0 + b1) (dpV (mS vu cu x0 x1) (okc 3 sg_ (fun z9 => decide (1 ≤ z9) && (decide (wy ≠ 0) || (!tl || gs z9)))) (y0 + b1 + 1) y1) n1 ≤ 30000000000000000 := dpS_le n1 (by have := hdv (y0 + b1 + 1) (by omega) (by omega); omega) (fun j hj => by have a1 := mS_le (gO (y0 + b1) (y0 + b1 + 1 + j) (by omega) (by omega) (by omega)); have a2 := hdv (y0 + b1 + 1 + j) (by omega) (by omega); show (mS vu cu x0 x1) (y0 + b1) (y0 + b1 + 1 + j) + dpV (mS vu cu x0 x1) (okc 3 sg_ (fun z9 => decide (1 ≤ z9) && (decide (wy ≠ 0) || (!tl || gs z9)))) (y0 + b1 + 1 + j) y1 ≤ 30000000000000000; have a3 : (mS vu cu x0 x1) (y0 + b1) (y0 + b1 + 1 + j) ≤ 1100000000000000 := a1; omega)
              refine lv_aload_n hx hb d_Model_reckon_121 rfl (lv_at hl 0 rfl) ?_
              refine lv_iload hx hb d_Model_reckon_122 (lv_at hl 6 rfl) ?_
              refine lv_iload_n hx hb d_Model_reckon_124 rfl (lv_at hl 2 rfl) ?_
              refine lv_iload_n hx hb d_Model_reckon_125 rfl (lv_at hl 3 rfl) ?_
              refine lv_iload hx hb d_Model_reckon_126 (lv_at hl 4 rfl) ?_
              refine lv_iload hx hb d_Model_reckon_128 (lv_at hl 5 rfl) ?_
              refine lv_iload hx hb d_Model_reckon_130 (lv_at hl 9 rfl) ?_
              refine lv_iload hx hb d_Model_reckon_132 (lv_at hl 10 rfl) ?_
              refine vp_callSi (W.runV (As := [.int (nI 1), .int (nI x0), .int (nI x1), .int (nI y0), .int (nI y1), .int (nI b1), .int (nI (b1 + 1 + n1))]) (rest := []) ⟨hx, hb, hml, hown, hts⟩ (c_segment1 l G ty hM cd st al ac nf ns tl.toNat mg bw md wy sg_ sz_ ks bd aM x0 x1 y0 y1 b1 (b1 + 1 + n1) ) ⟨callB_of 7 hts (gd_TB cd_Model_segment) rfl rfl rfl (hts _ ini_Model) (hts _ lk_Model_199) hd_Model_segment ⟨Nat.le_of_ble_eq_true rfl, Nat.le_of_ble_eq_true rfl⟩, hts _ im_Model_segment, hts _ sl_Model_segment⟩ (preV_ro (hP.sub (ws' := [(hM, .inr (10, mO cd st al ac nf ns tl.toNat mg bw md wy sg_ sz_ ks bd aM))]) [0] rfl) hX 0 rfl rfl) rfl rfl hl.1 rfl (lv_room (Nat.le_of_ble_eq_true rfl)) d_Model_reckon_134 ⟨Nat.le_of_ble_eq_true rfl, Nat.le_of_ble_eq_true rfl⟩) (fun r9 er9 => ?_)
              subst er9
              refine top_i (show (nI (((25 * x0 + x1) * 11 + (y0 + b1)) * 11 + (y0 + (b1 + 1 + n1)))) = (nI at_) from congrArg nI eat.symm) ?_
              refine lv_istore (lv' := [(11, .int (nI at_)), (0, .ref hM), (1, .int (nI 3)), (2, .int (nI x0)), (3, .int (nI x1)), (4, .int (nI y0)), (5, .int (nI y1)), (6, .int (nI 1)), (7, .int (nI (y1 - y0))), (8, .int (nI 96)), (9, .int (nI b1)), (10, .int (nI (b1 + 1 + n1)))]) hx hb d_Model_reckon_137 hl (by decide) rfl (fun ls hl => ?_)
              refine lv_aload_n hx hb d_Model_reckon_139 rfl (lv_at hl 1 rfl) ?_
              refine lv_iload_n hx hb d_Model_reckon_140 rfl (lv_at hl 2 rfl) ?_
              refine lv_iconst (v := (nI 1)) hx hb d_Model_reckon_141 (by decide) ?_
              refine n_isub hx hb (by omega) d_Model_reckon_142 ?_
              refine top_i (show (nI (3 - 1)) = nI 2 from rfl) ?_
              refine lv_iload hx hb d_Model_reckon_143 (lv_at hl 0 rfl) ?_
              refine vp_callSi (W.runV (As := [.int (nI 2), .int (nI at_)]) (rest := []) ⟨hx, hb, hml, hown, hts⟩ (c_countBy2 l G ty hM cd st al ac nf ns tl.toNat mg bw md wy sg_ sz_ ks bd aM at_ cu (by omega)) ⟨callB_of 2 hts (gd_TB cd_Model_countBy) rfl rfl rfl (hts _ ini_Model) (hts _ lk_Model_203) hd_Model_countBy ⟨Nat.le_of_ble_eq_true rfl, Nat.le_of_ble_eq_true rfl⟩, hts _ im_Model_countBy, hts _ sl_Model_countBy⟩ (preV_ro (hP.sub (ws' := [(hM, .inr (10, mO cd st al ac nf ns tl.toNat mg bw md wy sg_ sz_ ks bd aM)), (aM 30, .inl (ty 0, 75625, .inl (nF cu)))]) [0, 2] rfl) hX 0 rfl rfl) rfl rfl hl.1 rfl (lv_room (Nat.le_of_ble_eq_true rfl)) d_Model_reckon_145 ⟨Nat.le_of_ble_eq_true rfl, Nat.le_of_ble_eq_true rfl⟩) (fun r9 er9 => ?_)
              subst er9
              refine lv_istore (lv' := [(12, .int (nI (cu at_))), (11, .int (nI at_)), (0, .ref hM), (1, .int (nI 3)), (2, .int (nI x0)), (3, .int (nI x1)), (4, .int (nI y0)), (5, .int (nI y1)), (6, .int (nI 1)), (7, .int (nI (y1 - y0))), (8, .int (nI 96)), (9, .int (nI b1)), (10, .int (nI (b1 + 1 + n1)))]) hx hb d_Model_reckon_148 hl (by decide) rfl (fun ls hl => ?_)
              refine lv_iload hx hb d_Model_reckon_150 (lv_at hl 0 rfl) ?_
              refine n_if_le (tgt := 276) hx hb (by omega) d_Model_reckon_152 (by decide) (fun c152 => ?_) (fun c152 => ?_)
              · have hE2 : 1024 * va - (ca : Int) = dpS (mS vu cu x0 x1) (okc 3 sg_ (fun z9 => decide (1 ≤ z9) && (decide (wy ≠ 0) || (!tl || gs z9)))) (fun p9 => dpV (mS vu cu x0 x1) (okc 3 sg_ (fun z9 => decide (1 ≤ z9) && (decide (wy ≠ 0) || (!tl || gs z9)))) p9 y1) (y0 + b1) (dpV (mS vu cu x0 x1) (okc 3 sg_ (fun z9 => decide (1 ≤ z9) && (decide (wy ≠ 0) || (!tl || gs z9)))) (y0 + b1 + 1) y1) (n1 + 1) := by rw [dpS_s, if_neg]; exact hE; intro hh; first | omega | exact absurd hh.2.2 (by rw [show (okc 3 sg_ (fun z9 => decide (1 ≤ z9) && (decide (wy ≠ 0) || (!tl || gs z9)))) (n1 + 1) = false from tN_0 c165]; decide)
                have hc2 := hca
                have h02 := h00
                refine lv_iinc (v := (nI ((b1 + 1 + n1) + 1))) (lv' := [(10, .int (nI ((b1 + 1 + n1) + 1))), (12, .int (nI (cu at_))), (11, .int (nI at_)), (0, .ref hM), (1, .int (nI 3)), (2, .int (nI x0)), (3, .int (nI x1)), (4, .int (nI y0)), (5, .int (nI y1)), (6, .int (nI 1)), (7, .int (nI (y1 - y0))), (8, .int (nI 96)), (9, .int (nI b1))]) hx hb d_Model_reckon_276 hl (k := 12) rfl (nI_inc _ _ _ (by omega)) (by decide) rfl (fun ls hl => ?_)
                refine lv_goto (tgt := 114) hx hb d_Model_reckon_279 (by decide) ?_
                exact ih114 (n1 + 1) va ca _ _ _ (by omega) hE2 hc2 h02 (by omega) hP hD hS (lv_sub hl [3, 4, 5, 6, 7, 8, 9, 10, 11, 12, 0] rfl)
              · refine lv_aload_n hx hb d_Model_reckon_155 rfl (lv_at hl 2 rfl) ?_
                refine lv_iload_n hx hb d_Model_reckon_156 rfl (lv_at hl 3 rfl) ?_
                refine lv_iload hx hb d_Model_reckon_157 (lv_at hl 12 rfl) ?_
                refine lv_iload hx hb d_Model_reckon_159 (lv_at hl 11 rfl) ?_
                refine n_isub hx hb (by omega) d_Model_reckon_161 ?_
                refine top_i (show (nI ((b1 + 1 + n1) - b1)) = (nI (n1 + 1)) from congrArg nI (by omega)) ?_
                refine vp_callSi (W.runV (As := [.int (nI 3), .int (nI (n1 + 1))]) (rest := []) ⟨hx, hb, hml, hown, hts⟩ (c_Model_isCut l G ty hM cd st al ac nf ns 0 mg bw md wy sg_ sz_ ks bd aM 3 (n1 + 1) gs tl (by omega) (by omega) (by omega) (by omega) (by omega)) ⟨callB_of 2 hts (gd_TB cd_Model_isCut) rfl rfl rfl (hts _ ini_Model) (hts _ lk_Model_207) hd_Model_isCut ⟨Nat.le_of_ble_eq_true rfl, Nat.le_of_ble_eq_true rfl⟩, hts _ im_Model_isCut, hts _ sl_Model_isCut⟩ (preV_ro (hP.sub (ws' := [(hM, .inr (10, mO cd st al ac nf ns tl.toNat mg bw md wy sg_ sz_ ks bd aM)), (aM 20, .inl (ty 2, 65537, .inl (bF gs)))]) [0, 5] rfl) hX 0 rfl rfl) rfl rfl hl.1 rfl (lv_room (Nat.le_of_ble_eq_true rfl)) d_Model_reckon_162 ⟨Nat.le_of_ble_eq_true rfl, Nat.le_of_ble_eq_true rfl⟩) (fun r9 er9 => ?_)
                subst er9
                refine n_if_eq (tgt := 276) hx hb (tN_lt _) d_Model_reckon_165 (by decide) (fun c165 => ?_) (fun c165 => ?_)
                · have hE2 : 1024 * va - (ca : Int) = dpS (mS vu cu x0 x1) (okc 3 sg_ (fun z9 => decide (1 ≤ z9) && (decide (wy ≠ 0) || (!tl || gs z9)))) (fun p9 => dpV (mS vu cu x0 x1) (okc 3 sg_ (fun z9 => decide (1 ≤ z9) && (decide (wy ≠ 0) || (!tl || gs z9)))) p9 y1) (y0 + b1) (dpV (mS vu cu x0 x1) (okc 3 sg_ (fun z9 => decide (1 ≤ z9) && (decide (wy ≠ 0) || (!tl || gs z9)))) (y0 + b1 + 1) y1) (n1 + 1) := by rw [dpS_s, if_neg]; exact hE; intro hh; first | omega | exact absurd hh.2.2 (by rw [show (okc 3 sg_ (fun z9 => decide (1 ≤ z9) && (decide (wy ≠ 0) || (!tl || gs z9)))) (n1 + 1) = false from tN_0 c165]; decide)
                  have hc2 := hca
                  have h02 := h00
                  refine lv_iinc (v := (nI ((b1 + 1 + n1) + 1))) (lv' := [(10, .int (nI ((b1 + 1 + n1) + 1))), (12, .int (nI (cu at_))), (11, .int (nI at_)), (0, .ref hM), (1, .int (nI 3)), (2, .int (nI x0)), (3, .int (nI x1)), (4, .int (nI y0)), (5, .int (nI y1)), (6, .int (nI 1)), (7, .int (nI (y1 - y0))), (8, .int (nI 96)), (9, .int (nI b1))]) hx hb d_Model_reckon_276 hl (k := 12) rfl (nI_inc _ _ _ (by omega)) (by decide) rfl (fun ls hl => ?_)
                  refine lv_goto (tgt := 114) hx hb d_Model_reckon_279 (by decide) ?_
                  exact ih114 (n1 + 1) va ca _ _ _ (by omega) hE2 hc2 h02 (by omega) hP hD hS (lv_sub hl [3, 4, 5, 6, 7, 8, 9, 10, 11, 12, 0] rfl)
                · refine lv_aload_n hx hb d_Model_reckon_168 rfl (lv_at hl 2 rfl) ?_
                  refine va_get (D := G) (ci := 10) (v := .ref (aM 31)) (C := R_Model) (T := F_Model) (N := 47) hx hb hts in_Model hown hK hP 0 rfl rfl 31 (by decide) (hts _ fl_Model_85) (fun _ h9 => h9) rfl d_Model_reckon_169 ?_
                  refine lv_iload hx hb d_Model_reckon_172 (lv_at hl 10 rfl) ?_
                  refine lv_iload hx hb d_Model_reckon_174 (lv_at hl 12 rfl) ?_
                  refine n_iadd hx hb d_Model_reckon_176 ?_
                  refine n_lald hx hb hK hP 3 1 rfl rfl (by omega) (by omega) d_Model_reckon_177 ?_
                  refine top_l (show (iL ((va_up re2 (96 + b1) va) (96 + (b1 + 1 + n1)))) = (iL (re2 (96 + (b1 + 1 + n1)))) from congrArg iL (va_up_ne _ _ (by omega))) ?_
                  refine lv_aload_n hx hb d_Model_reckon_178 rfl (lv_at hl 2 rfl) ?_
                  refine lv_iload_n hx hb d_Model_reckon_179 rfl (lv_at hl 3 rfl) ?_
                  refine lv_iconst (v := (nI 1)) hx hb d_Model_reckon_180 (by decide) ?_
                  refine n_isub hx hb (by omega) d_Model_reckon_181 ?_
                  refine top_i (show (nI (3 - 1)) = nI 2 from rfl) ?_
                  refine lv_iload hx hb d_Model_reckon_182 (lv_at hl 1 rfl) ?_
                  refine vp_callSl (W.runV (As := [.int (nI 2), .int (nI at_)]) (rest := [.long (iL (re2 (96 + (b1 + 1 + n1))))]) ⟨hx, hb, hml, hown, hts⟩ (c_valueBy2 l G ty hM cd st al ac nf ns tl.toNat mg bw md wy sg_ sz_ ks bd aM at_ vu (by omega)) ⟨callB_of 2 hts (gd_TB cd_Model_valueBy) rfl rfl rfl (hts _ ini_Model) (hts _ lk_Model_211) hd_Model_valueBy ⟨Nat.le_of_ble_eq_true rfl, Nat.le_of_ble_eq_true rfl⟩, hts _ im_Model_valueBy, hts _ sl_Model_valueBy⟩ (preV_ro (hP.sub (ws' := [(hM, .inr (10, mO cd st al ac nf ns tl.toNat mg bw md wy sg_ sz_ ks bd aM)), (aM 29, .inl (ty 1, 75625, .inr (.inl (lF vu))))]) [0, 1] rfl) hX 0 rfl rfl) rfl rfl hl.1 rfl (lv_room (Nat.le_of_ble_eq_true rfl)) d_Model_reckon_184 ⟨Nat.le_of_ble_eq_true rfl, Nat.le_of_ble_eq_true rfl⟩) (fun r9 er9 => ?_)
                  subst er9
                  refine z_ladd hx hb d_Model_reckon_187 ?_
                  refine lv_lstore (lv' := [(13, .long (iL ((re2 (96 + (b1 + 1 + n1))) + (vu at_)))), (12, .int (nI (cu at_))), (11, .int (nI at_)), (0, .ref hM), (1, .int (nI 3)), (2, .int (nI x0)), (3, .int (nI x1)), (4, .int (nI y0)), (5, .int (nI y1)), (6, .int (nI 1)), (7, .int (nI (y1 - y0))), (8, .int (nI 96)), (9, .int (nI b1)), (10, .int (nI (b1 + 1 + n1)))]) hx hb d_Model_reckon_188 hl (by decide) rfl (fun ls hl => ?_)
                  refine lv_aload_n hx hb d_Model_reckon_190 rfl (lv_at hl 3 rfl) ?_
                  refine va_get (D := G) (ci := 10) (v := .ref (aM 32)) (C := R_Model) (T := F_Model) (N := 47) hx hb hts in_Model hown hK hP 0 rfl rfl 32 (by decide) (hts _ fl_Model_88) (fun _ h9 => h9) rfl d_Model_reckon_191 ?_
                  refine lv_iload hx hb d_Model_reckon_194 (lv_at hl 11 rfl) ?_
                  refine lv_iload hx hb d_Model_reckon_196 (lv_at hl 13 rfl) ?_
                  refine n_iadd hx hb d_Model_reckon_198 ?_
                  refine n_iald hx hb hK hP 4 0 rfl rfl (by omega) (by omega) d_Model_reckon_199 ?_
                  refine top_i (show (nI ((va_up rc2 (96 + b1) ca) (96 + (b1 + 1 + n1)))) = (nI (rc2 (96 + (b1 + 1 + n1)))) from congrArg nI (va_up_ne _ _ (by omega))) ?_
                  refine lv_iload hx hb d_Model_reckon_200 (lv_at hl 1 rfl) ?_
                  refine n_iadd hx hb d_Model_reckon_202 ?_
                  refine lv_istore (lv' := [(15, .int (nI ((rc2 (96 + (b1 + 1 + n1))) + (cu at_)))), (13, .long (iL ((re2 (96 + (b1 + 1 + n1))) + (vu at_)))), (12, .int (nI (cu at_))), (11, .int (nI at_)), (0, .ref hM), (1, .int (nI 3)), (2, .int (nI x0)), (3, .int (nI x1)), (4, .int (nI y0)), (5, .int (nI y1)), (6, .int (nI 1)), (7, .int (nI (y1 - y0))), (8, .int (nI 96)), (9, .int (nI b1)), (10, .int (nI (b1 + 1 + n1)))]) hx hb d_Model_reckon_203 hl (by decide) rfl (fun ls hl => ?_)
                  refine lv_lload hx hb d_Model_reckon_205 (lv_at hl 1 rfl) ?_
                  refine lv_aload_n hx hb d_Model_reckon_207 rfl (lv_at hl 4 rfl) ?_
                  refine va_get (D := G) (ci := 10) (v := .ref (aM 31)) (C := R_Model) (T := F_Model) (N := 47) hx hb hts in_Model hown hK hP 0 rfl rfl 31 (by decide) (hts _ fl_Model_85) (fun _ h9 => h9) rfl d_Model_reckon_208 ?_
                  refine lv_iload hx hb d_Model_reckon_211 (lv_at hl 12 rfl) ?_
                  refine lv_iload hx hb d_Model_reckon_213 (lv_at hl 13 rfl) ?_
                  refine n_iadd hx hb d_Model_reckon_215 ?_
                  refine n_lald hx hb hK hP 3 1 rfl rfl (by omega) (by omega) d_Model_reckon_216 ?_
                  refine top_l (show (iL ((va_up re2 (96 + b1) va) (96 + b1))) = (iL va) from congrArg iL (va_up_self _ _ _)) ?_
                  refine l_cmp_gt (tgt := 252) hx hb (by omega) (by omega) d_Model_reckon_217 d_Model_reckon_218 (by decide) (fun c217 => ?_) (fun c217 => ?_)
                  · refine lv_aload_n hx hb d_Model_reckon_252 rfl (lv_at hl 4 rfl) ?_
                    refine va_get (D := G) (ci := 10) (v := .ref (aM 31)) (C := R_Model) (T := F_Model) (N := 47) hx hb hts in_Model hown hK hP 0 rfl rfl 31 (by decide) (hts _ fl_Model_85) (fun _ h9 => h9) rfl d_Model_reckon_253 ?_
                    refine lv_iload hx hb d_Model_reckon_256 (lv_at hl 12 rfl) ?_
                    refine lv_iload hx hb d_Model_reckon_258 (lv_at hl 13 rfl) ?_
                    refine n_iadd hx hb d_Model_reckon_260 ?_
                    refine lv_lload hx hb d_Model_reckon_261 (lv_at hl 1 rfl) ?_
                    refine n_last hx hb hK hP hD hS 3 1 rfl rfl (by omega) (by omega) d_Model_reckon_263 (fun H locs hP hD hS => ?_)
                    rw [upd_lF] at hP hD
                    have hP : va_P G vwCl [(hM, .inr (10, mO cd st al ac nf ns tl.toNat mg bw md wy sg_ sz_ ks bd aM)), (aM 29, .inl (ty 1, 75625, .inr (.inl (lF vu)))), (aM 30, .inl (ty 0, 75625, .inl (nF cu))), (aM 31, .inl (ty 1, 128, .inr (.inl (lF (va_up (va_up re2 (96 + b1) va) (96 + b1) ((re2 (96 + (b1 + 1 + n1))) + (vu at_))))))), (aM 32, .inl (ty 0, 128, .inl (nF (va_up rc2 (96 + b1) ca)))), (aM 20, .inl (ty 2, 65537, .inl (bF gs)))] _ := hP
                    have hD : va_D A [(hM, .inr (10, mO cd st al ac nf ns tl.toNat mg bw md wy sg_ sz_ ks bd aM)), (aM 29, .inl (ty 1, 75625, .inr (.inl (lF vu)))), (aM 30, .inl (ty 0, 75625, .inl (nF cu))), (aM 31, .inl (ty 1, 128, .inr (.inl (lF (va_up (va_up re2 (96 + b1) va) (96 + b1) ((re2 (96 + (b1 + 1 + n1))) + (vu at_))))))), (aM 32, .inl (ty 0, 128, .inl (nF (va_up rc2 (96 + b1) ca)))), (aM 20, .inl (ty 2, 65537, .inl (bF gs)))] := hD
                    refine lv_aload_n hx hb d_Model_reckon_264 rfl (lv_at hl 4 rfl) ?_
                    refine va_get (D := G) (ci := 10) (v := .ref (aM 32)) (C := R_Model) (T := F_Model) (N := 47) hx hb hts in_Model hown hK hP 0 rfl rfl 32 (by decide) (hts _ fl_Model_88) (fun _ h9 => h9) rfl d_Model_reckon_265 ?_
                    refine lv_iload hx hb d_Model_reckon_268 (lv_at hl 12 rfl) ?_
                    refine lv_iload hx hb d_Model_reckon_270 (lv_at hl 13 rfl) ?_
                    refine n_iadd hx hb d_Model_reckon_272 ?_
                    refine lv_iload hx hb d_Model_reckon_273 (lv_at hl 0 rfl) ?_
                    refine n_iast hx hb hK hP hD hS 4 0 rfl rfl (by omega) (by omega) d_Model_reckon_275 (fun H locs hP hD hS => ?_)
                    rw [upd_nF] at hP hD
                    have hP : va_P G vwCl [(hM, .inr (10, mO cd st al ac nf ns tl.toNat mg bw md wy sg_ sz_ ks bd aM)), (aM 29, .inl (ty 1, 75625, .inr (.inl (lF vu)))), (aM 30, .inl (ty 0, 75625, .inl (nF cu))), (aM 31, .inl (ty 1, 128, .inr (.inl (lF (va_up (va_up re2 (96 + b1) va) (96 + b1) ((re2 (96 + (b1 + 1 + n1))) + (vu at_))))))), (aM 32, .inl (ty 0, 128, .inl (nF (va_up (va_up rc2 (96 + b1) ca) (96 + b1) ((rc2 (96 + (b1 + 1 + n1))) + (cu at_)))))), (aM 20, .inl (ty 2, 65537, .inl (bF gs)))] _ := hP
                    have hD : va_D A [(hM, .inr (10, mO cd st al ac nf ns tl.toNat mg bw md wy sg_ sz_ ks bd aM)), (aM 29, .inl (ty 1, 75625, .inr (.inl (lF vu)))), (aM 30, .inl (ty 0, 75625, .inl (nF cu))), (aM 31, .inl (ty 1, 128, .inr (.inl (lF (va_up (va_up re2 (96 + b1) va) (96 + b1) ((re2 (96 + (b1 + 1 + n1))) + (vu at_))))))), (aM 32, .inl (ty 0, 128, .inl (nF (va_up (va_up rc2 (96 + b1) ca) (96 + b1) ((rc2 (96 + (b1 + 1 + n1))) + (cu at_)))))), (aM 20, .inl (ty 2, 65537, .inl (bF gs)))] := hD
                    have hP : va_P G vwCl [(hM, .inr (10, mO cd st al ac nf ns tl.toNat mg bw md wy sg_ sz_ ks bd aM)), (aM 29, .inl (ty 1, 75625, .inr (.inl (lF vu)))), (aM 30, .inl (ty 0, 75625, .inl (nF cu))), (aM 31, .inl (ty 1, 128, .inr (.inl (lF (va_up re2 (96 + b1) (re2 (96 + (b1 + 1 + n1)) + vu at_)))))), (aM 32, .inl (ty 0, 128, .inl (nF (va_up rc2 (96 + b1) (rc2 (96 + (b1 + 1 + n1)) + cu at_))))), (aM 20, .inl (ty 2, 65537, .inl (bF gs)))] H := by rw [va_up_up, va_up_up] at hP; exact hP
                    have hD : va_D A [(hM, .inr (10, mO cd st al ac nf ns tl.toNat mg bw md wy sg_ sz_ ks bd aM)), (aM 29, .inl (ty 1, 75625, .inr (.inl (lF vu)))), (aM 30, .inl (ty 0, 75625, .inl (nF cu))), (aM 31, .inl (ty 1, 128, .inr (.inl (lF (va_up re2 (96 + b1) (re2 (96 + (b1 + 1 + n1)) + vu at_)))))), (aM 32, .inl (ty 0, 128, .inl (nF (va_up rc2 (96 + b1) (rc2 (96 + (b1 + 1 + n1)) + cu at_))))), (aM 20, .inl (ty 2, 65537, .inl (bF gs)))] := by rw [va_up_up, va_up_up] at hD; exact hD
                    have hE2 : 1024 * (re2 (96 + (b1 + 1 + n1)) + vu at_) - ((rc2 (96 + (b1 + 1 + n1)) + cu at_ : Nat) : Int) = dpS (mS vu cu x0 x1) (okc 3 sg_ (fun z9 => decide (1 ≤ z9) && (decide (wy ≠ 0) || (!tl || gs z9)))) (fun p9 => dpV (mS vu cu x0 x1) (okc 3 sg_ (fun z9 => decide (1 ≤ z9) && (decide (wy ≠ 0) || (!tl || gs z9)))) p9 y1) (y0 + b1) (dpV (mS vu cu x0 x1) (okc 3 sg_ (fun z9 => decide (1 ≤ z9) && (decide (wy ≠ 0) || (!tl || gs z9)))) (y0 + b1 + 1) y1) (n1 + 1) := by rw [dpS_s, if_pos ⟨by omega, by omega, tN_1 c165⟩]; omega
                    have hc2 : rc2 (96 + (b1 + 1 + n1)) + cu at_ ≤ (x1 - x0) * (y1 - y0 - b1) := by omega
                    have h02 : rc2 (96 + (b1 + 1 + n1)) + cu at_ = 0 → re2 (96 + (b1 + 1 + n1)) + vu at_ = 0 := by omega
                    refine lv_iinc (v := (nI ((b1 + 1 + n1) + 1))) (lv' := [(10, .int (nI ((b1 + 1 + n1) + 1))), (15, .int (nI ((rc2 (96 + (b1 + 1 + n1))) + (cu at_)))), (13, .long (iL ((re2 (96 + (b1 + 1 + n1))) + (vu at_)))), (12, .int (nI (cu at_))), (11, .int (nI at_)), (0, .ref hM), (1, .int (nI 3)), (2, .int (nI x0)), (3, .int (nI x1)), (4, .int (nI y0)), (5, .int (nI y1)), (6, .int (nI 1)), (7, .int (nI (y1 - y0))), (8, .int (nI 96)), (9, .int (nI b1))]) hx hb d_Model_reckon_276 hl (k := 14) rfl (nI_inc _ _ _ (by omega)) (by decide) rfl (fun ls hl => ?_)
                    refine lv_goto (tgt := 114) hx hb d_Model_reckon_279 (by decide) ?_
                    exact ih114 (n1 + 1) (re2 (96 + (b1 + 1 + n1)) + vu at_) (rc2 (96 + (b1 + 1 + n1)) + cu at_) _ _ _ (by omega) hE2 hc2 h02 (by omega) hP hD hS (lv_sub hl [5, 6, 7, 8, 9, 10, 11, 12, 13, 14, 0] rfl)
                  · refine lv_lload hx hb d_Model_reckon_221 (lv_at hl 1 rfl) ?_
                    refine lv_aload_n hx hb d_Model_reckon_223 rfl (lv_at hl 4 rfl) ?_
                    refine va_get (D := G) (ci := 10) (v := .ref (aM 31)) (C := R_Model) (T := F_Model) (N := 47) hx hb hts in_Model hown hK hP 0 rfl rfl 31 (by decide) (hts _ fl_Model_85) (fun _ h9 => h9) rfl d_Model_reckon_224 ?_
                    refine lv_iload hx hb d_Model_reckon_227 (lv_at hl 12 rfl) ?_
                    refine lv_iload hx hb d_Model_reckon_229 (lv_at hl 13 rfl) ?_
                    refine n_iadd hx hb d_Model_reckon_231 ?_
                    refine n_lald hx hb hK hP 3 1 rfl rfl (by omega) (by omega) d_Model_reckon_232 ?_
                    refine top_l (show (iL ((va_up re2 (96 + b1) va) (96 + b1))) = (iL va) from congrArg iL (va_up_self _ _ _)) ?_
                    refine l_cmp_ne (tgt := 276) hx hb (by omega) (by omega) d_Model_reckon_233 d_Model_reckon_234 (by decide) (fun c233 => ?_) (fun c233 => ?_)
                    · have hE2 : 1024 * va - (ca : Int) = dpS (mS vu cu x0 x1) (okc 3 sg_ (fun z9 => decide (1 ≤ z9) && (decide (wy ≠ 0) || (!tl || gs z9)))) (fun p9 => dpV (mS vu cu x0 x1) (okc 3 sg_ (fun z9 => decide (1 ≤ z9) && (decide (wy ≠ 0) || (!tl || gs z9)))) p9 y1) (y0 + b1) (dpV (mS vu cu x0 x1) (okc 3 sg_ (fun z9 => decide (1 ≤ z9) && (decide (wy ≠ 0) || (!tl || gs z9)))) (y0 + b1 + 1) y1) (n1 + 1) := by rw [dpS_s, if_neg]; exact hE; intro hh; first | omega | exact absurd hh.2.2 (by rw [show (okc 3 sg_ (fun z9 => decide (1 ≤ z9) && (decide (wy ≠ 0) || (!tl || gs z9)))) (n1 + 1) = false from tN_0 c165]; decide)
                      have hc2 := hca
                      have h02 := h00
                      refine lv_iinc (v := (nI ((b1 + 1 + n1) + 1))) (lv' := [(10, .int (nI ((b1 + 1 + n1) + 1))), (15, .int (nI ((rc2 (96 + (b1 + 1 + n1))) + (cu at_)))), (13, .long (iL ((re2 (96 + (b1 + 1 + n1))) + (vu at_)))), (12, .int (nI (cu at_))), (11, .int (nI at_)), (0, .ref hM), (1, .int (nI 3)), (2, .int (nI x0)), (3, .int (nI x1)), (4, .int (nI y0)), (5, .int (nI y1)), (6, .int (nI 1)), (7, .int (nI (y1 - y0))), (8, .int (nI 96)), (9, .int (nI b1))]) hx hb d_Model_reckon_276 hl (k := 14) rfl (nI_inc _ _ _ (by omega)) (by decide) rfl (fun ls hl => ?_)
                      refine lv_goto (tgt := 114) hx hb d_Model_reckon_279 (by decide) ?_
                      exact ih114 (n1 + 1) va ca _ _ _ (by omega) hE2 hc2 h02 (by omega) hP hD hS (lv_sub hl [5, 6, 7, 8, 9, 10, 11, 12, 13, 14, 0] rfl)
                    · refine lv_iload hx hb d_Model_reckon_237 (lv_at hl 0 rfl) ?_
                      refine lv_aload_n hx hb d_Model_reckon_239 rfl (lv_at hl 4 rfl) ?_
                      refine va_get (D := G) (ci := 10) (v := .ref (aM 32)) (C := R_Model) (T := F_Model) (N := 47) hx hb hts in_Model hown hK hP 0 rfl rfl 32 (by decide) (hts _ fl_Model_88) (fun _ h9 => h9) rfl d_Model_reckon_240 ?_
                      refine lv_iload hx hb d_Model_reckon_243 (lv_at hl 12 rfl) ?_
                      refine lv_iload hx hb d_Model_reckon_245 (lv_at hl 13 rfl) ?_
                      refine n_iadd hx hb d_Model_reckon_247 ?_
                      refine n_iald hx hb hK hP 4 0 rfl rfl (by omega) (by omega) d_Model_reckon_248 ?_
                      refine top_i (show (nI ((va_up rc2 (96 + b1) ca) (96 + b1))) = (nI ca) from congrArg nI (va_up_self _ _ _)) ?_
                      refine n_icmp_ge (tgt := 276) hx hb (by omega) (by omega) d_Model_reckon_249 (by decide) (fun c249 => ?_) (fun c249 => ?_)
                      · have hE2 : 1024 * va - (ca : Int) = dpS (mS vu cu x0 x1) (okc 3 sg_ (fun z9 => decide (1 ≤ z9) && (decide (wy ≠ 0) || (!tl || gs z9)))) (fun p9 => dpV (mS vu cu x0 x1) (okc 3 sg_ (fun z9 => decide (1 ≤ z9) && (decide (wy ≠ 0) || (!tl || gs z9)))) p9 y1) (y0 + b1) (dpV (mS vu cu x0 x1) (okc 3 sg_ (fun z9 => decide (1 ≤ z9) && (decide (wy ≠ 0) || (!tl || gs z9)))) (y0 + b1 + 1) y1) (n1 + 1) := by rw [dpS_s, if_neg]; exact hE; intro hh; first | omega | exact absurd hh.2.2 (by rw [show (okc 3 sg_ (fun z9 => decide (1 ≤ z9) && (decide (wy ≠ 0) || (!tl || gs z9)))) (n1 + 1) = false from tN_0 c165]; decide)
                        have hc2 := hca
                        have h02 := h00
                        refine lv_iinc (v := (nI ((b1 + 1 + n1) + 1))) (lv' := [(10, .int (nI ((b1 + 1 + n1) + 1))), (15, .int (nI ((rc2 (96 + (b1 + 1 + n1))) + (cu at_)))), (13, .long (iL ((re2 (96 + (b1 + 1 + n1))) + (vu at_)))), (12, .int (nI (cu at_))), (11, .int (nI at_)), (0, .ref hM), (1, .int (nI 3)), (2, .int (nI x0)), (3, .int (nI x1)), (4, .int (nI y0)), (5, .int (nI y1)), (6, .int (nI 1)), (7, .int (nI (y1 - y0))), (8, .int (nI 96)), (9, .int (nI b1))]) hx hb d_Model_reckon_276 hl (k := 14) rfl (nI_inc _ _ _ (by omega)) (by decide) rfl (fun ls hl => ?_)
                        refine lv_goto (tgt := 114) hx hb d_Model_reckon_279 (by decide) ?_
                        exact ih114 (n1 + 1) va ca _ _ _ (by omega) hE2 hc2 h02 (by omega) hP hD hS (lv_sub hl [5, 6, 7, 8, 9, 10, 11, 12, 13, 14, 0] rfl)
                      · refine lv_aload_n hx hb d_Model_reckon_252 rfl (lv_at hl 4 rfl) ?_
                        refine va_get (D := G) (ci := 10) (v := .ref (aM 31)) (C := R_Model) (T := F_Model) (N := 47) hx hb hts in_Model hown hK hP 0 rfl rfl 31 (by decide) (hts _ fl_Model_85) (fun _ h9 => h9) rfl d_Model_reckon_253 ?_
                        refine lv_iload hx hb d_Model_reckon_256 (lv_at hl 12 rfl) ?_
                        refine lv_iload hx hb d_Model_reckon_258 (lv_at hl 13 rfl) ?_
                        refine n_iadd hx hb d_Model_reckon_260 ?_
                        refine lv_lload hx hb d_Model_reckon_261 (lv_at hl 1 rfl) ?_
                        refine n_last hx hb hK hP hD hS 3 1 rfl rfl (by omega) (by omega) d_Model_reckon_263 (fun H locs hP hD hS => ?_)
                        rw [upd_lF] at hP hD
                        have hP : va_P G vwCl [(hM, .inr (10, mO cd st al ac nf ns tl.toNat mg bw md wy sg_ sz_ ks bd aM)), (aM 29, .inl (ty 1, 75625, .inr (.inl (lF vu)))), (aM 30, .inl (ty 0, 75625, .inl (nF cu))), (aM 31, .inl (ty 1, 128, .inr (.inl (lF (va_up (va_up re2 (96 + b1) va) (96 + b1) ((re2 (96 + (b1 + 1 + n1))) + (vu at_))))))), (aM 32, .inl (ty 0, 128, .inl (nF (va_up rc2 (96 + b1) ca)))), (aM 20, .inl (ty 2, 65537, .inl (bF gs)))] _ := hP
                        have hD : va_D A [(hM, .inr (10, mO cd st al ac nf ns tl.toNat mg bw md wy sg_ sz_ ks bd aM)), (aM 29, .inl (ty 1, 75625, .inr (.inl (lF vu)))), (aM 30, .inl (ty 0, 75625, .inl (nF cu))), (aM 31, .inl (ty 1, 128, .inr (.inl (lF (va_up (va_up re2 (96 + b1) va) (96 + b1) ((re2 (96 + (b1 + 1 + n1))) + (vu at_))))))), (aM 32, .inl (ty 0, 128, .inl (nF (va_up rc2 (96 + b1) ca)))), (aM 20, .inl (ty 2, 65537, .inl (bF gs)))] := hD
                        refine lv_aload_n hx hb d_Model_reckon_264 rfl (lv_at hl 4 rfl) ?_
                        refine va_get (D := G) (ci := 10) (v := .ref (aM 32)) (C := R_Model) (T := F_Model) (N := 47) hx hb hts in_Model hown hK hP 0 rfl rfl 32 (by decide) (hts _ fl_Model_88) (fun _ h9 => h9) rfl d_Model_reckon_265 ?_
                        refine lv_iload hx hb d_Model_reckon_268 (lv_at hl 12 rfl) ?_
                        refine lv_iload hx hb d_Model_reckon_270 (lv_at hl 13 rfl) ?_
                        refine n_iadd hx hb d_Model_reckon_272 ?_
                        refine lv_iload hx hb d_Model_reckon_273 (lv_at hl 0 rfl) ?_
                        refine n_iast hx hb hK hP hD hS 4 0 rfl rfl (by omega) (by omega) d_Model_reckon_275 (fun H locs hP hD hS => ?_)
                        rw [upd_nF] at hP hD
                        have hP : va_P G vwCl [(hM, .inr (10, mO cd st al ac nf ns tl.toNat mg bw md wy sg_ sz_ ks bd aM)), (aM 29, .inl (ty 1, 75625, .inr (.inl (lF vu)))), (aM 30, .inl (ty 0, 75625, .inl (nF cu))), (aM 31, .inl (ty 1, 128, .inr (.inl (lF (va_up (va_up re2 (96 + b1) va) (96 + b1) ((re2 (96 + (b1 + 1 + n1))) + (vu at_))))))), (aM 32, .inl (ty 0, 128, .inl (nF (va_up (va_up rc2 (96 + b1) ca) (96 + b1) ((rc2 (96 + (b1 + 1 + n1))) + (cu at_)))))), (aM 20, .inl (ty 2, 65537, .inl (bF gs)))] _ := hP
                        have hD : va_D A [(hM, .inr (10, mO cd st al ac nf ns tl.toNat mg bw md wy sg_ sz_ ks bd aM)), (aM 29, .inl (ty 1, 75625, .inr (.inl (lF vu)))), (aM 30, .inl (ty 0, 75625, .inl (nF cu))), (aM 31, .inl (ty 1, 128, .inr (.inl (lF (va_up (va_up re2 (96 + b1) va) (96 + b1) ((re2 (96 + (b1 + 1 + n1))) + (vu at_))))))), (aM 32, .inl (ty 0, 128, .inl (nF (va_up (va_up rc2 (96 + b1) ca) (96 + b1) ((rc2 (96 + (b1 + 1 + n1))) + (cu at_)))))), (aM 20, .inl (ty 2, 65537, .inl (bF gs)))] := hD
                        have hP : va_P G vwCl [(hM, .inr (10, mO cd st al ac nf ns tl.toNat mg bw md wy sg_ sz_ ks bd aM)), (aM 29, .inl (ty 1, 75625, .inr (.inl (lF vu)))), (aM 30, .inl (ty 0, 75625, .inl (nF cu))), (aM 31, .inl (ty 1, 128, .inr (.inl (lF (va_up re2 (96 + b1) (re2 (96 + (b1 + 1 + n1)) + vu at_)))))), (aM 32, .inl (ty 0, 128, .inl (nF (va_up rc2 (96 + b1) (rc2 (96 + (b1 + 1 + n1)) + cu at_))))), (aM 20, .inl (ty 2, 65537, .inl (bF gs)))] H := by rw [va_up_up, va_up_up] at hP; exact hP
                        have hD : va_D A [(hM, .inr (10, mO cd st al ac nf ns tl.toNat mg bw md wy sg_ sz_ ks bd aM)), (aM 29, .inl (ty 1, 75625, .inr (.inl (lF vu)))), (aM 30, .inl (ty 0, 75625, .inl (nF cu))), (aM 31, .inl (ty 1, 128, .inr (.inl (lF (va_up re2 (96 + b1) (re2 (96 + (b1 + 1 + n1)) + vu at_)))))), (aM 32, .inl (ty 0, 128, .inl (nF (va_up rc2 (96 + b1) (rc2 (96 + (b1 + 1 + n1)) + cu at_))))), (aM 20, .inl (ty 2, 65537, .inl (bF gs)))] := by rw [va_up_up, va_up_up] at hD; exact hD
                        have hE2 : 1024 * (re2 (96 + (b1 + 1 + n1)) + vu at_) - ((rc2 (96 + (b1 + 1 + n1)) + cu at_ : Nat) : Int) = dpS (mS vu cu x0 x1) (okc 3 sg_ (fun z9 => decide (1 ≤ z9) && (decide (wy ≠ 0) || (!tl || gs z9)))) (fun p9 => dpV (mS vu cu x0 x1) (okc 3 sg_ (fun z9 => decide (1 ≤ z9) && (decide (wy ≠ 0) || (!tl || gs z9)))) p9 y1) (y0 + b1) (dpV (mS vu cu x0 x1) (okc 3 sg_ (fun z9 => decide (1 ≤ z9) && (decide (wy ≠ 0) || (!tl || gs z9)))) (y0 + b1 + 1) y1) (n1 + 1) := by rw [dpS_s, if_pos ⟨by omega, by omega, tN_1 c165⟩]; omega
                        have hc2 : rc2 (96 + (b1 + 1 + n1)) + cu at_ ≤ (x1 - x0) * (y1 - y0 - b1) := by omega
                        have h02 : rc2 (96 + (b1 + 1 + n1)) + cu at_ = 0 → re2 (96 + (b1 + 1 + n1)) + vu at_ = 0 := by omega
                        refine lv_iinc (v := (nI ((b1 + 1 + n1) + 1))) (lv' := [(10, .int (nI ((b1 + 1 + n1) + 1))), (15, .int (nI ((rc2 (96 + (b1 + 1 + n1))) + (cu at_)))), (13, .long (iL ((re2 (96 + (b1 + 1 + n1))) + (vu at_)))), (12, .int (nI (cu at_))), (11, .int (nI at_)), (0, .ref hM), (1, .int (nI 3)), (2, .int (nI x0)), (3, .int (nI x1)), (4, .int (nI y0)), (5, .int (nI y1)), (6, .int (nI 1)), (7, .int (nI (y1 - y0))), (8, .int (nI 96)), (9, .int (nI b1))]) hx hb d_Model_reckon_276 hl (k := 14) rfl (nI_inc _ _ _ (by omega)) (by decide) rfl (fun ls hl => ?_)
                        refine lv_goto (tgt := 114) hx hb d_Model_reckon_279 (by decide) ?_
                        exact ih114 (n1 + 1) (re2 (96 + (b1 + 1 + n1)) + vu at_) (rc2 (96 + (b1 + 1 + n1)) + cu at_) _ _ _ (by omega) hE2 hc2 h02 (by omega) hP hD hS (lv_sub hl [5, 6, 7, 8, 9, 10, 11, 12, 13, 14, 0] rfl)
        exact L114 ((y1 - y0) + 1 - (b1 + 0) + 1) 0 (re2 (96 + (b1 + 1))) (rc2 (96 + (b1 + 1))) _ _ _ (by omega) hr11 hkk hr1.2.2 (Nat.lt_succ_self _) hP hD hS (lv_sub hl [1, 2, 3, 4, 5, 6, 7, 8, 9, 10, 0] rfl)
  exact L59 ((y1 - y0) + 1) (y1 - y0) (va_up re (96 + (y1 - y0)) 0) (va_up rc (96 + (y1 - y0)) 0) _ _ _ (Nat.le_refl _) (fun p h1 h2 => by rw [show p = y1 - y0 from by omega]; exact rOKr_end (by show dpV _ _ (y0 + (y1 - y0)) y1 = 0; rw [show y0 + (y1 - y0) = y1 by omega]; exact dpV_end _ _ _)) (fun q hq => ⟨va_up_ne _ _ (by omega), va_up_ne _ _ (by omega)⟩) (Nat.lt_succ_self _) hP hD hS (lv_sub hl [4, 5, 6, 7, 8, 9, 3, 2, 1, 0] rfl)

abbrev q_reckon31 (G : va_G) (ty : Nat → ClassId) (hM : Nat) (cd : Nat) (st : Nat) (al : Nat) (ac : Nat) (nf : Nat) (ns : Nat) (mg : Nat) (bw : Nat) (md : Nat) (wy : Nat) (sg_ : Nat) (sz_ : Nat) (ks : Nat) (bd : Int) (aM : Nat → Nat) (gs : Nat → Bool) (tl : Bool) (x0 : Nat) (x1 : Nat) (y0 : Nat) (y1 : Nat) (vu : Nat → Int) (cu : Nat → Nat) (re : Nat → Int) (rc : Nat → Nat) (A : Nat → Prop) : Array Value → State → Outcome → State → Prop := va_Qv (fun (uu : (Nat → Int) × (Nat → Nat)) => (∀ p, p ≤ (x1 - x0) → rOKr uu.1 uu.2 (fun p9 => dpV (fun b9 e9 => mS vu cu b9 e9 y0 y1) (okc 3 sg_ (fun z9 => decide (1 ≤ z9) && (decide (wy ≠ 0) || (!tl || gs z9)))) (x0 + p9) x1) 96 (y1 - y0) (x1 - x0) p) ∧ (∀ q, q < 96 ∨ 96 + (x1 - x0) < q → uu.1 q = re q ∧ uu.2 q = rc q)) (at_W G (fun (uu : (Nat → Int) × (Nat → Nat)) => [(hM, .inr (10, mO cd st al ac nf ns tl.toNat mg bw md wy sg_ sz_ ks bd aM)), (aM 29, .inl (ty 1, 75625, .inr (.inl (lF vu)))), (aM 30, .inl (ty 0, 75625, .inl (nF cu))), (aM 31, .inl (ty 1, 128, .inr (.inl (lF uu.1)))), (aM 32, .inl (ty 0, 128, .inl (nF uu.2))), (aM 20, .inl (ty 2, 65537, .inl (bF gs)))]) A) A
set_option maxRecDepth 100000 in
set_option maxHeartbeats 4000000 in
theorem c_reckon31 (l : Launch) (G : va_G) (ty : Nat → ClassId) (sz : Nat) (hM : Nat) (cd : Nat) (st : Nat) (al : Nat) (ac : Nat) (nf : Nat) (ns : Nat) (mg : Nat) (bw : Nat) (md : Nat) (wy : Nat) (sg_ : Nat) (sz_ : Nat) (ks : Nat) (bd : Int) (aM : Nat → Nat) (gs : Nat → Bool) (tl : Bool) (x0 : Nat) (x1 : Nat) (y0 : Nat) (y1 : Nat) (vu : Nat → Int) (cu : Nat → Nat) (re : Nat → Int) (rc : Nat → Nat) (gtp : 3 ≤ sg_ ∧ sg_ ≤ 3) (gwy : wy ≤ 1) (gax : 1 = (if (sg_ - 3) % 2 = 0 then wy else 1 - wy)) (k1 : x0 < x1) (k2 : x1 ≤ 24) (k3 : y0 < y1) (k4 : y1 ≤ 10) (gO : ∀ i j, x0 ≤ i → i < j → j ≤ x1 → mOK vu cu i j y0 y1) : Met l y_Model_reckon ws_Model_reckon { frames := 2, cells := 0, slots := 0, locals := 50 } (va_Pc [.ref hM, .int (nI 3), .int (nI x0), .int (nI x1), .int (nI y0), .int (nI y1)] (fun U => U.heap.size = sz ∧ va_P G vwCl [(hM, .inr (10, mO cd st al ac nf ns tl.toNat mg bw md wy sg_ sz_ ks bd aM)), (aM 29, .inl (ty 1, 75625, .inr (.inl (lF vu)))), (aM 30, .inl (ty 0, 75625, .inl (nF cu))), (aM 31, .inl (ty 1, 128, .inr (.inl (lF re)))), (aM 32, .inl (ty 0, 128, .inl (nF rc))), (aM 20, .inl (ty 2, 65537, .inl (bF gs)))] U.heap ∧ KX G ty U ∧ va_D (fun _ => True) [(hM, .inr (10, mO cd st al ac nf ns tl.toNat mg bw md wy sg_ sz_ ks bd aM)), (aM 29, .inl (ty 1, 75625, .inr (.inl (lF vu)))), (aM 30, .inl (ty 0, 75625, .inl (nF cu))), (aM 31, .inl (ty 1, 128, .inr (.inl (lF re)))), (aM 32, .inl (ty 0, 128, .inl (nF rc))), (aM 20, .inl (ty 2, 65537, .inl (bF gs)))])) (q_reckon31 G ty hM cd st al ac nf ns mg bw md wy sg_ sz_ ks bd aM gs tl x0 x1 y0 y1 vu cu re rc (va_A [(hM, .inr (10, mO cd st al ac nf ns tl.toNat mg bw md wy sg_ sz_ ks bd aM)), (aM 29, .inl (ty 1, 75625, .inr (.inl (lF vu)))), (aM 30, .inl (ty 0, 75625, .inl (nF cu))), (aM 31, .inl (ty 1, 128, .inr (.inl (lF re)))), (aM 32, .inl (ty 0, 128, .inl (nF rc))), (aM 20, .inl (ty 2, 65537, .inl (bF gs)))] sz)) 0 0 (va_A [(hM, .inr (10, mO cd st al ac nf ns tl.toNat mg bw md wy sg_ sz_ ks bd aM)), (aM 29, .inl (ty 1, 75625, .inr (.inl (lF vu)))), (aM 30, .inl (ty 0, 75625, .inl (nF cu))), (aM 31, .inl (ty 1, 128, .inr (.inl (lF re)))), (aM 32, .inl (ty 0, 128, .inl (nF rc))), (aM 20, .inl (ty 2, 65537, .inl (bF gs)))] sz) := by
  refine met_wr (y := y_Model_reckon) (maxL := 16) (sz := sz) (G := G) (ty := ty) (mc := 0) (ms := 0) (av := [.ref hM, .int (nI 3), .int (nI x0), .int (nI x1), .int (nI y0), .int (nI y1)]) (W0 := [(hM, .inr (10, mO cd st al ac nf ns tl.toNat mg bw md wy sg_ sz_ ks bd aM)), (aM 29, .inl (ty 1, 75625, .inr (.inl (lF vu)))), (aM 30, .inl (ty 0, 75625, .inl (nF cu))), (aM 31, .inl (ty 1, 128, .inr (.inl (lF re)))), (aM 32, .inl (ty 0, 128, .inl (nF rc))), (aM 20, .inl (ty 2, 65537, .inl (bF gs)))]) (fun A => q_reckon31 G ty hM cd st al ac nf ns mg bw md wy sg_ sz_ ks bd aM gs tl x0 x1 y0 y1 vu cu re rc A) R_Model (by decide) rfl rfl (Nat.le_of_ble_eq_true rfl) ?_
  intro p e s m below meth c ls A hx hb hr hml hown hts hlocks hin hA hP hX hD hS hl
  have hK := hX.1
  have hl : lv_has ls 16 [(0, .ref hM), (1, .int (nI 3)), (2, .int (nI x0)), (3, .int (nI x1)), (4, .int (nI y0)), (5, .int (nI y1))] := hl
  have hKn : ∀ a9, a9 ≤ x1 - x0 → (y1 - y0) * a9 ≤ 240 := fun a9 h9 => Nat.le_trans (Nat.mul_le_mul (show y1 - y0 ≤ 10 by omega) (show a9 ≤ 24 by omega)) (by decide)
  have hdv : ∀ p, x0 ≤ p → p ≤ x1 → 0 ≤ dpV (fun b9 e9 => mS vu cu b9 e9 y0 y1) (okc 3 sg_ (fun z9 => decide (1 ≤ z9) && (decide (wy ≠ 0) || (!tl || gs z9)))) p x1 ∧ dpV (fun b9 e9 => mS vu cu b9 e9 y0 y1) (okc 3 sg_ (fun z9 => decide (1 ≤ z9) && (decide (wy ≠ 0) || (!tl || gs z9)))) p x1 ≤ 26400000000000000 := fun p h1 h2 => dpV_u (by omega) h2 (fun i j h3 h4 h5 => mS_le (gO i j (by omega) h4 h5))
  refine lv_aload_n hx hb d_Model_reckon_0 rfl (lv_at hl 0 rfl) ?_
  refine lv_iload_n hx hb d_Model_reckon_1 rfl (lv_at hl 1 rfl) ?_
  refine vp_callSi (W.runV (As := [.int (nI 3)]) (rest := []) ⟨hx, hb, hml, hown, hts⟩ (c_Model_isRipped l G ty hM cd st al ac nf ns tl.toNat mg bw md wy sg_ sz_ ks bd aM 3 (by omega) (by omega) (by omega)) ⟨callB_of 1 hts (gd_TB cd_Model_isRipped) rfl rfl rfl (hts _ ini_Model) (hts _ lk_Model_196) hd_Model_isRipped ⟨Nat.le_of_ble_eq_true rfl, Nat.le_of_ble_eq_true rfl⟩, hts _ im_Model_isRipped, hts _ sl_Model_isRipped⟩ (preV_ro (hP.sub (ws' := [(hM, .inr (10, mO cd st al ac nf ns tl.toNat mg bw md wy sg_ sz_ ks bd aM))]) [0] rfl) hX 0 rfl rfl) rfl rfl hl.1 rfl (lv_room (Nat.le_of_ble_eq_true rfl)) d_Model_reckon_2 ⟨Nat.le_of_ble_eq_true rfl, Nat.le_of_ble_eq_true rfl⟩) (fun r9 er9 => ?_)
  subst er9
  refine top_i (show (nI (1 - (if (sg_ - 3) % 2 = 0 then wy else 1 - wy))) = (nI 0) from congrArg (fun z9 => nI (1 - z9)) gax.symm) ?_
  refine lv_istore (lv' := [(6, .int (nI 0)), (0, .ref hM), (1, .int (nI 3)), (2, .int (nI x0)), (3, .int (nI x1)), (4, .int (nI y0)), (5, .int (nI y1))]) hx hb d_Model_reckon_5 hl (by decide) rfl (fun ls hl => ?_)
  refine lv_iload hx hb d_Model_reckon_7 (lv_at hl 0 rfl) ?_
  refine n_if_eq (tgt := 20) hx hb (by omega) d_Model_reckon_9 (by decide) (fun c9 => ?_) (fun c9 => absurd c9 (by omega))
  refine lv_iload_n hx hb d_Model_reckon_20 rfl (lv_at hl 4 rfl) ?_
  refine lv_iload_n hx hb d_Model_reckon_21 rfl (lv_at hl 3 rfl) ?_
  refine n_isub hx hb (by omega) d_Model_reckon_22 ?_
  refine lv_istore (lv' := [(7, .int (nI (x1 - x0))), (6, .int (nI 0)), (0, .ref hM), (1, .int (nI 3)), (2, .int (nI x0)), (3, .int (nI x1)), (4, .int (nI y0)), (5, .int (nI y1))]) hx hb d_Model_reckon_23 hl (by decide) rfl (fun ls hl => ?_)
  refine lv_bipush (v := (nI 32)) hx hb d_Model_reckon_25 (by decide) ?_
  refine lv_iload_n hx hb d_Model_reckon_27 rfl (lv_at hl 3 rfl) ?_
  refine n_imul hx hb d_Model_reckon_28 ?_
  refine top_i (show (nI (32 * 3)) = nI 96 from rfl) ?_
  refine lv_istore (lv' := [(8, .int (nI 96)), (7, .int (nI (x1 - x0))), (6, .int (nI 0)), (0, .ref hM), (1, .int (nI 3)), (2, .int (nI x0)), (3, .int (nI x1)), (4, .int (nI y0)), (5, .int (nI y1))]) hx hb d_Model_reckon_29 hl (by decide) rfl (fun ls hl => ?_)
  refine lv_aload_n hx hb d_Model_reckon_31 rfl (lv_at hl 3 rfl) ?_
  refine va_get (D := G) (ci := 10) (v := .ref (aM 31)) (C := R_Model) (T := F_Model) (N := 47) hx hb hts in_Model hown hK hP 0 rfl rfl 31 (by decide) (hts _ fl_Model_85) (fun _ h9 => h9) rfl d_Model_reckon_32 ?_
  refine lv_iload hx hb d_Model_reckon_35 (lv_at hl 0 rfl) ?_
  refine lv_iload hx hb d_Model_reckon_37 (lv_at hl 1 rfl) ?_
  refine n_iadd hx hb d_Model_reckon_39 ?_
  refine lv_lconst (v := iL 0) hx hb d_Model_reckon_40 (by decide) ?_
  refine n_last hx hb hK hP hD hS 3 1 rfl rfl (by omega) (by omega) d_Model_reckon_41 (fun H locs hP hD hS => ?_)
  rw [upd_lF] at hP hD
  have hP : va_P G vwCl [(hM, .inr (10, mO cd st al ac nf ns tl.toNat mg bw md wy sg_ sz_ ks bd aM)), (aM 29, .inl (ty 1, 75625, .inr (.inl (lF vu)))), (aM 30, .inl (ty 0, 75625, .inl (nF cu))), (aM 31, .inl (ty 1, 128, .inr (.inl (lF (va_up re (96 + (x1 - x0)) 0))))), (aM 32, .inl (ty 0, 128, .inl (nF rc))), (aM 20, .inl (ty 2, 65537, .inl (bF gs)))] _ := hP
  have hD : va_D A [(hM, .inr (10, mO cd st al ac nf ns tl.toNat mg bw md wy sg_ sz_ ks bd aM)), (aM 29, .inl (ty 1, 75625, .inr (.inl (lF vu)))), (aM 30, .inl (ty 0, 75625, .inl (nF cu))), (aM 31, .inl (ty 1, 128, .inr (.inl (lF (va_up re (96 + (x1 - x0)) 0))))), (aM 32, .inl (ty 0, 128, .inl (nF rc))), (aM 20, .inl (ty 2, 65537, .inl (bF gs)))] := hD
  refine lv_aload_n hx hb d_Model_reckon_42 rfl (lv_at hl 3 rfl) ?_
  refine va_get (D := G) (ci := 10) (v := .ref (aM 32)) (C := R_Model) (T := F_Model) (N := 47) hx hb hts in_Model hown hK hP 0 rfl rfl 32 (by decide) (hts _ fl_Model_88) (fun _ h9 => h9) rfl d_Model_reckon_43 ?_
  refine lv_iload hx hb d_Model_reckon_46 (lv_at hl 0 rfl) ?_
  refine lv_iload hx hb d_Model_reckon_48 (lv_at hl 1 rfl) ?_
  refine n_iadd hx hb d_Model_reckon_50 ?_
  refine lv_iconst (v := (nI 0)) hx hb d_Model_reckon_51 (by decide) ?_
  refine n_iast hx hb hK hP hD hS 4 0 rfl rfl (by omega) (by omega) d_Model_reckon_52 (fun H locs hP hD hS => ?_)
  rw [upd_nF] at hP hD
  have hP : va_P G vwCl [(hM, .inr (10, mO cd st al ac nf ns tl.toNat mg bw md wy sg_ sz_ ks bd aM)), (aM 29, .inl (ty 1, 75625, .inr (.inl (lF vu)))), (aM 30, .inl (ty 0, 75625, .inl (nF cu))), (aM 31, .inl (ty 1, 128, .inr (.inl (lF (va_up re (96 + (x1 - x0)) 0))))), (aM 32, .inl (ty 0, 128, .inl (nF (va_up rc (96 + (x1 - x0)) 0)))), (aM 20, .inl (ty 2, 65537, .inl (bF gs)))] _ := hP
  have hD : va_D A [(hM, .inr (10, mO cd st al ac nf ns tl.toNat mg bw md wy sg_ sz_ ks bd aM)), (aM 29, .inl (ty 1, 75625, .inr (.inl (lF vu)))), (aM 30, .inl (ty 0, 75625, .inl (nF cu))), (aM 31, .inl (ty 1, 128, .inr (.inl (lF (va_up re (96 + (x1 - x0)) 0))))), (aM 32, .inl (ty 0, 128, .inl (nF (va_up rc (96 + (x1 - x0)) 0)))), (aM 20, .inl (ty 2, 65537, .inl (bF gs)))] := hD
  refine lv_iload hx hb d_Model_reckon_53 (lv_at hl 1 rfl) ?_
  refine lv_iconst (v := (nI 1)) hx hb d_Model_reckon_55 (by decide) ?_
  refine nzz_isub hx hb d_Model_reckon_56 ?_
  refine lv_istore (lv' := [(9, .int (iI ((x1 - x0 : Nat) - ((1 : Nat) : Int)))), (8, .int (nI 96)), (7, .int (nI (x1 - x0))), (6, .int (nI 0)), (0, .ref hM), (1, .int (nI 3)), (2, .int (nI x0)), (3, .int (nI x1)), (4, .int (nI y0)), (5, .int (nI y1))]) hx hb d_Model_reckon_57 hl (by decide) rfl (fun ls hl => ?_)
  have L59 : ∀ (k9 : Nat) (b : Nat) (re2 : Nat → Int) (rc2 : Nat → Nat) (H : Heap) (locs : List Loc) (ls : Array Slot), (b ≤ (x1 - x0)) → (∀ p, b ≤ p → p ≤ (x1 - x0) → rOKr re2 rc2 (fun p9 => dpV (fun b9 e9 => mS vu cu b9 e9 y0 y1) (okc 3 sg_ (fun z9 => decide (1 ≤ z9) && (decide (wy ≠ 0) || (!tl || gs z9)))) (x0 + p9) x1) 96 (y1 - y0) (x1 - x0) p) → (∀ q, q < 96 ∨ 96 + (x1 - x0) < q → re2 q = re q ∧ rc2 q = rc q) → b < k9 → va_P G vwCl [(hM, .inr (10, mO cd st al ac nf ns tl.toNat mg bw md wy sg_ sz_ ks bd aM)), (aM 29, .inl (ty 1, 75625, .inr (.inl (lF vu)))), (aM 30, .inl (ty 0, 75625, .inl (nF cu))), (aM 31, .inl (ty 1, 128, .inr (.inl (lF re2)))), (aM 32, .inl (ty 0, 128, .inl (nF rc2))), (aM 20, .inl (ty 2, 65537, .inl (bF gs)))] H → va_D A [(hM, .inr (10, mO cd st al ac nf ns tl.toNat mg bw md wy sg_ sz_ ks bd aM)), (aM 29, .inl (ty 1, 75625, .inr (.inl (lF vu)))), (aM 30, .inl (ty 0, 75625, .inl (nF cu))), (aM 31, .inl (ty 1, 128, .inr (.inl (lF re2)))), (aM 32, .inl (ty 0, 128, .inl (nF rc2))), (aM 20, .inl (ty 2, 65537, .inl (bF gs)))] → va_S A s.heap H locs → lv_has ls 16 [(0, .ref hM), (1, .int (nI 3)), (2, .int (nI x0)), (3, .int (nI x1)), (4, .int (nI y0)), (5, .int (nI y1)), (6, .int (nI 0)), (7, .int (nI (x1 - x0))), (8, .int (nI 96)), (9, .int (iI (((b : Nat) : Int) - ((1 : Nat) : Int))))] → W p l e { frames := 2, cells := 0, slots := 0, locals := 50 } s m [.ref hM, .int (nI 3), .int (nI x0), .int (nI x1), .int (nI y0), .int (nI y1)].toArray below meth c H locs 0 0 (MQ below (q_reckon31 G ty hM cd st al ac nf ns mg bw md wy sg_ sz_ ks bd aM gs tl x0 x1 y0 y1 vu cu re rc A) [.ref hM, .int (nI 3), .int (nI x0), .int (nI x1), .int (nI y0), .int (nI y1)].toArray s 0 0 A) (F0 m 59 ls []) := by
    intro k9
    induction k9 with
    | zero => intro b re2 rc2 H locs ls hb0 hR hF hk9; exact absurd hk9 (Nat.not_lt_zero _)
    | succ k9 ih59 =>
      intro b re2 rc2 H locs ls hb0 hR hF hk9 hP hD hS hl
      refine lv_iload hx hb d_Model_reckon_59 (lv_at hl 9 rfl) ?_
      refine z_if_lt (tgt := 288) hx hb (by omega) d_Model_reckon_61 (by decide) (fun c61 => ?_) (fun c61 => ?_)
      · exact W.vret hx hb hr (fun t9 ht hW => ⟨⟨(re2, rc2), rfl, ⟨fun p h => hR p (by omega) h, hF⟩, by rw [ht]; exact hP, hD⟩, hS.F ht⟩) hS.2.2 d_Model_reckon_288
      · obtain ⟨b1, rfl⟩ : ∃ b1, b = b1 + 1 := ⟨b - 1, by omega⟩
        have hl : lv_has ls 16 [(0, .ref hM), (1, .int (nI 3)), (2, .int (nI x0)), (3, .int (nI x1)), (4, .int (nI y0)), (5, .int (nI y1)), (6, .int (nI 0)), (7, .int (nI (x1 - x0))), (8, .int (nI 96)), (9, .int (nI b1))] := by rw [show (nI b1) = (iI (((b1 + 1 : Nat) : Int) - ((1 : Nat) : Int))) from by rw [nI_iI]; congr 1; omega]; exact hl
        have hr1 := hR (b1 + 1) (Nat.le_refl _) (by omega)
        have hr11 : 1024 * re2 (96 + (b1 + 1)) - (rc2 (96 + (b1 + 1)) : Int) = dpV (fun b9 e9 => mS vu cu b9 e9 y0 y1) (okc 3 sg_ (fun z9 => decide (1 ≤ z9) && (decide (wy ≠ 0) || (!tl || gs z9)))) (x0 + b1 + 1) x1 := hr1.1
        have hkk := Nat.le_trans hr1.2.1 (Nat.mul_le_mul_left (y1 - y0) (show x1 - x0 - (b1 + 1) ≤ x1 - x0 - b1 by omega))
        refine lv_aload_n hx hb d_Model_reckon_64 rfl (lv_at hl 0 rfl) ?_
        refine va_get (D := G) (ci := 10) (v := .ref (aM 31)) (C := R_Model) (T := F_Model) (N := 47) hx hb hts in_Model hown hK hP 0 rfl rfl 31 (by decide) (hts _ fl_Model_85) (fun _ h9 => h9) rfl d_Model_reckon_65 ?_
        refine lv_iload hx hb d_Model_reckon_68 (lv_at hl 8 rfl) ?_
        refine lv_iload hx hb d_Model_reckon_70 (lv_at hl 9 rfl) ?_
        refine n_iadd hx hb d_Model_reckon_72 ?_
        refine lv_aload_n hx hb d_Model_reckon_73 rfl (lv_at hl 0 rfl) ?_
        refine va_get (D := G) (ci := 10) (v := .ref (aM 31)) (C := R_Model) (T := F_Model) (N := 47) hx hb hts in_Model hown hK hP 0 rfl rfl 31 (by decide) (hts _ fl_Model_85) (fun _ h9 => h9) rfl d_Model_reckon_74 ?_
        refine lv_iload hx hb d_Model_reckon_77 (lv_at hl 8 rfl) ?_
        refine lv_iload hx hb d_Model_reckon_79 (lv_at hl 9 rfl) ?_
        refine n_iadd hx hb d_Model_reckon_81 ?_
        refine lv_iconst (v := (nI 1)) hx hb d_Model_reckon_82 (by decide) ?_
        refine n_iadd hx hb d_Model_reckon_83 ?_
        refine n_lald hx hb hK hP 3 1 rfl rfl (by omega) (by omega) d_Model_reckon_84 ?_
        refine top_l (show (iL (re2 ((96 + b1) + 1))) = (iL (re2 (96 + (b1 + 1)))) from rfl) ?_
        refine n_last hx hb hK hP hD hS 3 1 rfl rfl (by omega) (by omega) d_Model_reckon_85 (fun H locs hP hD hS => ?_)
        rw [upd_lF] at hP hD
        have hP : va_P G vwCl [(hM, .inr (10, mO cd st al ac nf ns tl.toNat mg bw md wy sg_ sz_ ks bd aM)), (aM 29, .inl (ty 1, 75625, .inr (.inl (lF vu)))), (aM 30, .inl (ty 0, 75625, .inl (nF cu))), (aM 31, .inl (ty 1, 128, .inr (.inl (lF (va_up re2 (96 + b1) (re2 (96 + (b1 + 1)))))))), (aM 32, .inl (ty 0, 128, .inl (nF rc2))), (aM 20, .inl (ty 2, 65537, .inl (bF gs)))] _ := hP
        have hD : va_D A [(hM, .inr (10, mO cd st al ac nf ns tl.toNat mg bw md wy sg_ sz_ ks bd aM)), (aM 29, .inl (ty 1, 75625, .inr (.inl (lF vu)))), (aM 30, .inl (ty 0, 75625, .inl (nF cu))), (aM 31, .inl (ty 1, 128, .inr (.inl (lF (va_up re2 (96 + b1) (re2 (96 + (b1 + 1)))))))), (aM 32, .inl (ty 0, 128, .inl (nF rc2))), (aM 20, .inl (ty 2, 65537, .inl (bF gs)))] := hD
        refine lv_aload_n hx hb d_Model_reckon_86 rfl (lv_at hl 0 rfl) ?_
        refine va_get (D := G) (ci := 10) (v := .ref (aM 32)) (C := R_Model) (T := F_Model) (N := 47) hx hb hts in_Model hown hK hP 0 rfl rfl 32 (by decide) (hts _ fl_Model_88) (fun _ h9 => h9) rfl d_Model_reckon_87 ?_
        refine lv_iload hx hb d_Model_reckon_90 (lv_at hl 8 rfl) ?_
        refine lv_iload hx hb d_Model_reckon_92 (lv_at hl 9 rfl) ?_
        refine n_iadd hx hb d_Model_reckon_94 ?_
        refine lv_aload_n hx hb d_Model_reckon_95 rfl (lv_at hl 0 rfl) ?_
        refine va_get (D := G) (ci := 10) (v := .ref (aM 32)) (C := R_Model) (T := F_Model) (N := 47) hx hb hts in_Model hown hK hP 0 rfl rfl 32 (by decide) (hts _ fl_Model_88) (fun _ h9 => h9) rfl d_Model_reckon_96 ?_
        refine lv_iload hx hb d_Model_reckon_99 (lv_at hl 8 rfl) ?_
        refine lv_iload hx hb d_Model_reckon_101 (lv_at hl 9 rfl) ?_
        refine n_iadd hx hb d_Model_reckon_103 ?_
        refine lv_iconst (v := (nI 1)) hx hb d_Model_reckon_104 (by decide) ?_
        refine n_iadd hx hb d_Model_reckon_105 ?_
        refine n_iald hx hb hK hP 4 0 rfl rfl (by omega) (by omega) d_Model_reckon_106 ?_
        refine top_i (show (nI (rc2 ((96 + b1) + 1))) = (nI (rc2 (96 + (b1 + 1)))) from rfl) ?_
        refine n_iast hx hb hK hP hD hS 4 0 rfl rfl (by omega) (by omega) d_Model_reckon_107 (fun H locs hP hD hS => ?_)
        rw [upd_nF] at hP hD
        have hP : va_P G vwCl [(hM, .inr (10, mO cd st al ac nf ns tl.toNat mg bw md wy sg_ sz_ ks bd aM)), (aM 29, .inl (ty 1, 75625, .inr (.inl (lF vu)))), (aM 30, .inl (ty 0, 75625, .inl (nF cu))), (aM 31, .inl (ty 1, 128, .inr (.inl (lF (va_up re2 (96 + b1) (re2 (96 + (b1 + 1)))))))), (aM 32, .inl (ty 0, 128, .inl (nF (va_up rc2 (96 + b1) (rc2 (96 + (b1 + 1))))))), (aM 20, .inl (ty 2, 65537, .inl (bF gs)))] _ := hP
        have hD : va_D A [(hM, .inr (10, mO cd st al ac nf ns tl.toNat mg bw md wy sg_ sz_ ks bd aM)), (aM 29, .inl (ty 1, 75625, .inr (.inl (lF vu)))), (aM 30, .inl (ty 0, 75625, .inl (nF cu))), (aM 31, .inl (ty 1, 128, .inr (.inl (lF (va_up re2 (96 + b1) (re2 (96 + (b1 + 1)))))))), (aM 32, .inl (ty 0, 128, .inl (nF (va_up rc2 (96 + b1) (rc2 (96 + (b1 + 1))))))), (aM 20, .inl (ty 2, 65537, .inl (bF gs)))] := hD
        refine lv_iload hx hb d_Model_reckon_108 (lv_at hl 9 rfl) ?_
        refine lv_iconst (v := (nI 1)) hx hb d_Model_reckon_110 (by decide) ?_
        refine n_iadd hx hb d_Model_reckon_111 ?_
        refine lv_istore (lv' := [(10, .int (nI (b1 + 1))), (0, .ref hM), (1, .int (nI 3)), (2, .int (nI x0)), (3, .int (nI x1)), (4, .int (nI y0)), (5, .int (nI y1)), (6, .int (nI 0)), (7, .int (nI (x1 - x0))), (8, .int (nI 96)), (9, .int (nI b1))]) hx hb d_Model_reckon_112 hl (by decide) rfl (fun ls hl => ?_)
        have L114 : ∀ (k9 : Nat) (n1 : Nat) (va : Int) (ca : Nat) (H : Heap) (locs : List Loc) (ls : Array Slot), (b1 + n1 ≤ (x1 - x0)) → (1024 * va - (ca : Int) = dpS (fun b9 e9 => mS vu cu b9 e9 y0 y1) (okc 3 sg_ (fun z9 => decide (1 ≤ z9) && (decide (wy ≠ 0) || (!tl || gs z9)))) (fun p9 => dpV (fun b9 e9 => mS vu cu b9 e9 y0 y1) (okc 3 sg_ (fun z9 => decide (1 ≤ z9) && (decide (wy ≠ 0) || (!tl || gs z9)))) p9 x1) (x0 + b1) (dpV (fun b9 e9 => mS vu cu b9 e9 y0 y1) (okc 3 sg_ (fun z9 => decide (1 ≤ z9) && (decide (wy ≠ 0) || (!tl || gs z9)))) (x0 + b1 + 1) x1) n1) → (ca ≤ (y1 - y0) * (x1 - x0 - b1)) → (ca = 0 → va = 0) → (x1 - x0) + 1 - (b1 + n1) < k9 → va_P G vwCl [(hM, .inr (10, mO cd st al ac nf ns tl.toNat mg bw md wy sg_ sz_ ks bd aM)), (aM 29, .inl (ty 1, 75625, .inr (.inl (lF vu)))), (aM 30, .inl (ty 0, 75625, .inl (nF cu))), (aM 31, .inl (ty 1, 128, .inr (.inl (lF (va_up re2 (96 + b1) va))))), (aM 32, .inl (ty 0, 128, .inl (nF (va_up rc2 (96 + b1) ca)))), (aM 20, .inl (ty 2, 65537, .inl (bF gs)))] H → va_D A [(hM, .inr (10, mO cd st al ac nf ns tl.toNat mg bw md wy sg_ sz_ ks bd aM)), (aM 29, .inl (ty 1, 75625, .inr (.inl (lF vu)))), (aM 30, .inl (ty 0, 75625, .inl (nF cu))), (aM 31, .inl (ty 1, 128, .inr (.inl (lF (va_up re2 (96 + b1) va))))), (aM 32, .inl (ty 0, 128, .inl (nF (va_up rc2 (96 + b1) ca)))), (aM 20, .inl (ty 2, 65537, .inl (bF gs)))] → va_S A s.heap H locs → lv_has ls 16 [(0, .ref hM), (1, .int (nI 3)), (2, .int (nI x0)), (3, .int (nI x1)), (4, .int (nI y0)), (5, .int (nI y1)), (6, .int (nI 0)), (7, .int (nI (x1 - x0))), (8, .int (nI 96)), (9, .int (nI b1)), (10, .int (nI (b1 + 1 + n1)))] → W p l e { frames := 2, cells := 0, slots := 0, locals := 50 } s m [.ref hM, .int (nI 3), .int (nI x0), .int (nI x1), .int (nI y0), .int (nI y1)].toArray below meth c H locs 0 0 (MQ below (q_reckon31 G ty hM cd st al ac nf ns mg bw md wy sg_ sz_ ks bd aM gs tl x0 x1 y0 y1 vu cu re rc A) [.ref hM, .int (nI 3), .int (nI x0), .int (nI x1), .int (nI y0), .int (nI y1)].toArray s 0 0 A) (F0 m 114 ls []) := by
          intro k9
          induction k9 with
          | zero => intro n1 va ca H locs ls hn1 hE hca h00 hk9; exact absurd hk9 (Nat.not_lt_zero _)
          | succ k9 ih114 =>
            intro n1 va ca H locs ls hn1 hE hca h00 hk9 hP hD hS hl
            refine lv_iload hx hb d_Model_reckon_114 (lv_at hl 10 rfl) ?_
            refine lv_iload hx hb d_Model_reckon_116 (lv_at hl 7 rfl) ?_
            refine n_icmp_gt (tgt := 282) hx hb (by omega) (by omega) d_Model_reckon_118 (by decide) (fun c118 => ?_) (fun c118 => ?_)
            · have hfin : 1024 * va - (ca : Int) = dpV (fun b9 e9 => mS vu cu b9 e9 y0 y1) (okc 3 sg_ (fun z9 => decide (1 ≤ z9) && (decide (wy ≠ 0) || (!tl || gs z9)))) (x0 + b1) x1 := by rw [dpV_step (show x0 + b1 < x1 by omega), show x1 - (x0 + b1) = n1 by omega]; exact hE
              have hR3 : ∀ p, b1 ≤ p → p ≤ (x1 - x0) → rOKr (va_up re2 (96 + b1) va) (va_up rc2 (96 + b1) ca) (fun p9 => dpV (fun b9 e9 => mS vu cu b9 e9 y0 y1) (okc 3 sg_ (fun z9 => decide (1 ≤ z9) && (decide (wy ≠ 0) || (!tl || gs z9)))) (x0 + p9) x1) 96 (y1 - y0) (x1 - x0) p := fun p h1 h2 => (Nat.lt_or_ge b1 p).elim (fun q => rOKr_up (by omega) (hR p (by omega) h2)) (fun q => by rw [show p = b1 from by omega]; exact rOKr_at hfin hca h00)
              have hF3 : ∀ q, q < 96 ∨ 96 + (x1 - x0) < q → (va_up re2 (96 + b1) va) q = re q ∧ (va_up rc2 (96 + b1) ca) q = rc q := fun q hq => ⟨by rw [va_up_ne _ _ (by omega)]; exact (hF q hq).1, by rw [va_up_ne _ _ (by omega)]; exact (hF q hq).2⟩
              refine lv_iinc (v := (iI (((b1 : Nat) : Int) - ((1 : Nat) : Int)))) (lv' := [(9, .int (iI (((b1 : Nat) : Int) - ((1 : Nat) : Int)))), (0, .ref hM), (1, .int (nI 3)), (2, .int (nI x0)), (3, .int (nI x1)), (4, .int (nI y0)), (5, .int (nI y1)), (6, .int (nI 0)), (7, .int (nI (x1 - x0))), (8, .int (nI 96)), (10, .int (nI (b1 + 1 + n1)))]) hx hb d_Model_reckon_282 hl (k := 9) rfl (by rw [nI_iI]; exact iI_add _ _) (by decide) rfl (fun ls hl => ?_)
              refine lv_goto (tgt := 59) hx hb d_Model_reckon_285 (by decide) ?_
              exact ih59 b1 (va_up re2 (96 + b1) va) (va_up rc2 (96 + b1) ca) _ _ _ (by omega) hR3 hF3 (by omega) hP hD hS (lv_sub hl [1, 2, 3, 4, 5, 6, 7, 8, 9, 0] rfl)
            · obtain ⟨at_, eat⟩ : ∃ at_, at_ = ((25 * (x0 + b1) + (x0 + (b1 + 1 + n1))) * 11 + y0) * 11 + y1 := ⟨_, rfl⟩
              have e1 : x0 + (b1 + 1 + n1) = x0 + b1 + 1 + n1 := by omega
              have hO := gO (x0 + b1) (x0 + b1 + 1 + n1) (by omega) (by omega) (by omega)
              unfold mOK at hO
              rw [← e1, ← eat] at hO
              have hO1 : cu at_ ≤ (y1 - y0) * (n1 + 1) := by have h9 := hO.1; rw [show x0 + (b1 + 1 + n1) - (x0 + b1) = n1 + 1 by omega] at h9; rw [Nat.mul_comm]; exact h9
              have hO2 := hO.2.1
              have hO3 := hO.2.2
              clear hO
              have hvS : mS vu cu (x0 + b1) (x0 + b1 + 1 + n1) y0 y1 = 1024 * vu at_ - (cu at_ : Int) := by rw [eat, e1]; try rfl
              have hrT := hR (b1 + 1 + n1) (by omega) (by omega)
              have hrT1 : 1024 * re2 (96 + (b1 + 1 + n1)) - (rc2 (96 + (b1 + 1 + n1)) : Int) = dpV (fun b9 e9 => mS vu cu b9 e9 y0 y1) (okc 3 sg_ (fun z9 => decide (1 ≤ z9) && (decide (wy ≠ 0) || (!tl || gs z9)))) (x0 + b1 + 1 + n1) x1 := by have h9 := hrT.1; rw [← e1]; exact h9
              have hrT2 := hrT.2.1
              clear hrT
              have hka : (y1 - y0) * (x1 - x0 - (b1 + 1 + n1)) + (y1 - y0) * (n1 + 1) = (y1 - y0) * (x1 - x0 - b1) := K_add (by omega)
              have hkb := hKn (x1 - x0 - b1) (by omega)
              have hz0 := (hdv (x0 + b1 + 1 + n1) (by omega) (by omega))
              have hat : at_ < 75625 := by rw [eat]; omega
              have hz : dpV (fun b9 e9 => mS vu cu b9 e9 y0 y1) (okc 3 sg_ (fun z9 => decide (1 ≤ z9) && (decide (wy ≠ 0) || (!tl || gs z9)))) (x0 + b1 + 1 + n1) x1 ≤ dpS (fun b9 e9 => mS vu cu b9 e9 y0 y1) (okc 3 sg_ (fun z9 => decide (1 ≤ z9) && (decide (wy ≠ 0) || (!tl || gs z9)))) (fun p9 => dpV (fun b9 e9 => mS vu cu b9 e9 y0 y1) (okc 3 sg_ (fun z9 => decide (1 ≤ z9) && (decide (wy ≠ 0) || (!tl || gs z9)))) p9 x1) (x0 + b1) (dpV (fun b9 e9 => mS vu cu b9 e9 y0 y1) (okc 3 sg_ (fun z9 => decide (1 ≤ z9) && (decide (wy ≠ 0) || (!tl || gs z9)))) (x0 + b1 + 1) x1) n1 := Int.le_trans (dpV_mono n1 (x0 + b1 + 1) (by omega)) (dpS_ge n1)
              have hcu : dpS (fun b9 e9 => mS vu cu b9 e9 y0 y1) (okc 3 sg_ (fun z9 => decide (1 ≤ z9) && (decide (wy ≠ 0) || (!tl || gs z9)))) (fun p9 => dpV (fun b9 e9 => mS vu cu b9 e9 y0 y1) (okc 3 sg_ (fun z9 => decide (1 ≤ z9) && (decide (wy ≠ 0) || (!tl || gs z9)))) p9 x1) (x0 + b1) (dpV (fun b9 e9 => mS vu cu b9 e9 y0 y1) (okc 3 sg_ (fun z9 => decide (1 ≤ z9) && (decide (wy ≠ 0) || (!tl || gs z9)))) (x0 + b1 + 1) x1) n1 ≤ 30000000000000000 := dpS_le n1 (by have := hdv (x0 + b1 + 1) (by omega) (by omega); omega) (fun j hj => by have a1 := mS_le (gO (x0 + b1) (x0 + b1 + 1 + j) (by omega) (by omega) (by omega)); have a2 := hdv (x0 + b1 + 1 + j) (by omega) (by omega); show (fun b9 e9 => mS vu cu b9 e9 y0 y1) (x0 + b1) (x0 + b1 + 1 + j) + dpV (fun b9 e9 => mS vu cu b9 e9 y0 y1) (okc 3 sg_ (fun z9 => decide (1 ≤ z9) && (decide (wy ≠ 0) || (!tl || gs z9)))) (x0 + b1 + 1 + j) x1 ≤ 30000000000000000; have a3 : (fun b9 e9 => mS vu cu b9 e9 y0 y1) (x0 + b1) (x0 + b1 + 1 + j) ≤ 1100000000000000 := a1; omega)
              refine lv_aload_n hx hb d_Model_reckon_121 rfl (lv_at hl 0 rfl) ?_
              refine lv_iload hx hb d_Model_reckon_122 (lv_at hl 6 rfl) ?_
              refine lv_iload_n hx hb d_Model_reckon_124 rfl (lv_at hl 2 rfl) ?_
              refine lv_iload_n hx hb d_Model_reckon_125 rfl (lv_at hl 3 rfl) ?_
              refine lv_iload hx hb d_Model_reckon_126 (lv_at hl 4 rfl) ?_
              refine lv_iload hx hb d_Model_reckon_128 (lv_at hl 5 rfl) ?_
              refine lv_iload hx hb d_Model_reckon_130 (lv_at hl 9 rfl) ?_
              refine lv_iload hx hb d_Model_reckon_132 (lv_at hl 10 rfl) ?_
              refine vp_callSi (W.runV (As := [.int (nI 0), .int (nI x0), .int (nI x1), .int (nI y0), .int (nI y1), .int (nI b1), .int (nI (b1 + 1 + n1))]) (rest := []) ⟨hx, hb, hml, hown, hts⟩ (c_segment0 l G ty hM cd st al ac nf ns tl.toNat mg bw md wy sg_ sz_ ks bd aM x0 x1 y0 y1 b1 (b1 + 1 + n1) ) ⟨callB_of 7 hts (gd_TB cd_Model_segment) rfl rfl rfl (hts _ ini_Model) (hts _ lk_Model_199) hd_Model_segment ⟨Nat.le_of_ble_eq_true rfl, Nat.le_of_ble_eq_true rfl⟩, hts _ im_Model_segment, hts _ sl_Model_segment⟩ (preV_ro (hP.sub (ws' := [(hM, .inr (10, mO cd st al ac nf ns tl.toNat mg bw md wy sg_ sz_ ks bd aM))]) [0] rfl) hX 0 rfl rfl) rfl rfl hl.1 rfl (lv_room (Nat.le_of_ble_eq_true rfl)) d_Model_reckon_134 ⟨Nat.le_of_ble_eq_true rfl, Nat.le_of_ble_eq_true rfl⟩) (fun r9 er9 => ?_)
              subst er9
              refine top_i (show (nI (((25 * (x0 + b1) + (x0 + (b1 + 1 + n1))) * 11 + y0) * 11 + y1)) = (nI at_) from congrArg nI eat.symm) ?_
              refine lv_istore (lv' := [(11, .int (nI at_)), (0, .ref hM), (1, .int (nI 3)), (2, .int (nI x0)), (3, .int (nI x1)), (4, .int (nI y0)), (5, .int (nI y1)), (6, .int (nI 0)), (7, .int (nI (x1 - x0))), (8, .int (nI 96)), (9, .int (nI b1)), (10, .int (nI (b1 + 1 + n1)))]) hx hb d_Model_reckon_137 hl (by decide) rfl (fun ls hl => ?_)
              refine lv_aload_n hx hb d_Model_reckon_139 rfl (lv_at hl 1 rfl) ?_
              refine lv_iload_n hx hb d_Model_reckon_140 rfl (lv_at hl 2 rfl) ?_
              refine lv_iconst (v := (nI 1)) hx hb d_Model_reckon_141 (by decide) ?_
              refine n_isub hx hb (by omega) d_Model_reckon_142 ?_
              refine top_i (show (nI (3 - 1)) = nI 2 from rfl) ?_
              refine lv_iload hx hb d_Model_reckon_143 (lv_at hl 0 rfl) ?_
              refine vp_callSi (W.runV (As := [.int (nI 2), .int (nI at_)]) (rest := []) ⟨hx, hb, hml, hown, hts⟩ (c_countBy2 l G ty hM cd st al ac nf ns tl.toNat mg bw md wy sg_ sz_ ks bd aM at_ cu (by omega)) ⟨callB_of 2 hts (gd_TB cd_Model_countBy) rfl rfl rfl (hts _ ini_Model) (hts _ lk_Model_203) hd_Model_countBy ⟨Nat.le_of_ble_eq_true rfl, Nat.le_of_ble_eq_true rfl⟩, hts _ im_Model_countBy, hts _ sl_Model_countBy⟩ (preV_ro (hP.sub (ws' := [(hM, .inr (10, mO cd st al ac nf ns tl.toNat mg bw md wy sg_ sz_ ks bd aM)), (aM 30, .inl (ty 0, 75625, .inl (nF cu)))]) [0, 2] rfl) hX 0 rfl rfl) rfl rfl hl.1 rfl (lv_room (Nat.le_of_ble_eq_true rfl)) d_Model_reckon_145 ⟨Nat.le_of_ble_eq_true rfl, Nat.le_of_ble_eq_true rfl⟩) (fun r9 er9 => ?_)
              subst er9
              refine lv_istore (lv' := [(12, .int (nI (cu at_))), (11, .int (nI at_)), (0, .ref hM), (1, .int (nI 3)), (2, .int (nI x0)), (3, .int (nI x1)), (4, .int (nI y0)), (5, .int (nI y1)), (6, .int (nI 0)), (7, .int (nI (x1 - x0))), (8, .int (nI 96)), (9, .int (nI b1)), (10, .int (nI (b1 + 1 + n1)))]) hx hb d_Model_reckon_148 hl (by decide) rfl (fun ls hl => ?_)
              refine lv_iload hx hb d_Model_reckon_150 (lv_at hl 0 rfl) ?_
              refine n_if_le (tgt := 276) hx hb (by omega) d_Model_reckon_152 (by decide) (fun c152 => ?_) (fun c152 => ?_)
              · have hE2 : 1024 * va - (ca : Int) = dpS (fun b9 e9 => mS vu cu b9 e9 y0 y1) (okc 3 sg_ (fun z9 => decide (1 ≤ z9) && (decide (wy ≠ 0) || (!tl || gs z9)))) (fun p9 => dpV (fun b9 e9 => mS vu cu b9 e9 y0 y1) (okc 3 sg_ (fun z9 => decide (1 ≤ z9) && (decide (wy ≠ 0) || (!tl || gs z9)))) p9 x1) (x0 + b1) (dpV (fun b9 e9 => mS vu cu b9 e9 y0 y1) (okc 3 sg_ (fun z9 => decide (1 ≤ z9) && (decide (wy ≠ 0) || (!tl || gs z9)))) (x0 + b1 + 1) x1) (n1 + 1) := by rw [dpS_s, if_neg]; exact hE; intro hh; first | omega | exact absurd hh.2.2 (by rw [show (okc 3 sg_ (fun z9 => decide (1 ≤ z9) && (decide (wy ≠ 0) || (!tl || gs z9)))) (n1 + 1) = false from tN_0 c165]; decide)
                have hc2 := hca
                have h02 := h00
                refine lv_iinc (v := (nI ((b1 + 1 + n1) + 1))) (lv' := [(10, .int (nI ((b1 + 1 + n1) + 1))), (12, .int (nI (cu at_))), (11, .int (nI at_)), (0, .ref hM), (1, .int (nI 3)), (2, .int (nI x0)), (3, .int (nI x1)), (4, .int (nI y0)), (5, .int (nI y1)), (6, .int (nI 0)), (7, .int (nI (x1 - x0))), (8, .int (nI 96)), (9, .int (nI b1))]) hx hb d_Model_reckon_276 hl (k := 12) rfl (nI_inc _ _ _ (by omega)) (by decide) rfl (fun ls hl => ?_)
                refine lv_goto (tgt := 114) hx hb d_Model_reckon_279 (by decide) ?_
                exact ih114 (n1 + 1) va ca _ _ _ (by omega) hE2 hc2 h02 (by omega) hP hD hS (lv_sub hl [3, 4, 5, 6, 7, 8, 9, 10, 11, 12, 0] rfl)
              · refine lv_aload_n hx hb d_Model_reckon_155 rfl (lv_at hl 2 rfl) ?_
                refine lv_iload_n hx hb d_Model_reckon_156 rfl (lv_at hl 3 rfl) ?_
                refine lv_iload hx hb d_Model_reckon_157 (lv_at hl 12 rfl) ?_
                refine lv_iload hx hb d_Model_reckon_159 (lv_at hl 11 rfl) ?_
                refine n_isub hx hb (by omega) d_Model_reckon_161 ?_
                refine top_i (show (nI ((b1 + 1 + n1) - b1)) = (nI (n1 + 1)) from congrArg nI (by omega)) ?_
                refine vp_callSi (W.runV (As := [.int (nI 3), .int (nI (n1 + 1))]) (rest := []) ⟨hx, hb, hml, hown, hts⟩ (c_Model_isCut l G ty hM cd st al ac nf ns 0 mg bw md wy sg_ sz_ ks bd aM 3 (n1 + 1) gs tl (by omega) (by omega) (by omega) (by omega) (by omega)) ⟨callB_of 2 hts (gd_TB cd_Model_isCut) rfl rfl rfl (hts _ ini_Model) (hts _ lk_Model_207) hd_Model_isCut ⟨Nat.le_of_ble_eq_true rfl, Nat.le_of_ble_eq_true rfl⟩, hts _ im_Model_isCut, hts _ sl_Model_isCut⟩ (preV_ro (hP.sub (ws' := [(hM, .inr (10, mO cd st al ac nf ns tl.toNat mg bw md wy sg_ sz_ ks bd aM)), (aM 20, .inl (ty 2, 65537, .inl (bF gs)))]) [0, 5] rfl) hX 0 rfl rfl) rfl rfl hl.1 rfl (lv_room (Nat.le_of_ble_eq_true rfl)) d_Model_reckon_162 ⟨Nat.le_of_ble_eq_true rfl, Nat.le_of_ble_eq_true rfl⟩) (fun r9 er9 => ?_)
                subst er9
                refine n_if_eq (tgt := 276) hx hb (tN_lt _) d_Model_reckon_165 (by decide) (fun c165 => ?_) (fun c165 => ?_)
                · have hE2 : 1024 * va - (ca : Int) = dpS (fun b9 e9 => mS vu cu b9 e9 y0 y1) (okc 3 sg_ (fun z9 => decide (1 ≤ z9) && (decide (wy ≠ 0) || (!tl || gs z9)))) (fun p9 => dpV (fun b9 e9 => mS vu cu b9 e9 y0 y1) (okc 3 sg_ (fun z9 => decide (1 ≤ z9) && (decide (wy ≠ 0) || (!tl || gs z9)))) p9 x1) (x0 + b1) (dpV (fun b9 e9 => mS vu cu b9 e9 y0 y1) (okc 3 sg_ (fun z9 => decide (1 ≤ z9) && (decide (wy ≠ 0) || (!tl || gs z9)))) (x0 + b1 + 1) x1) (n1 + 1) := by rw [dpS_s, if_neg]; exact hE; intro hh; first | omega | exact absurd hh.2.2 (by rw [show (okc 3 sg_ (fun z9 => decide (1 ≤ z9) && (decide (wy ≠ 0) || (!tl || gs z9)))) (n1 + 1) = false from tN_0 c165]; decide)
                  have hc2 := hca
                  have h02 := h00
                  refine lv_iinc (v := (nI ((b1 + 1 + n1) + 1))) (lv' := [(10, .int (nI ((b1 + 1 + n1) + 1))), (12, .int (nI (cu at_))), (11, .int (nI at_)), (0, .ref hM), (1, .int (nI 3)), (2, .int (nI x0)), (3, .int (nI x1)), (4, .int (nI y0)), (5, .int (nI y1)), (6, .int (nI 0)), (7, .int (nI (x1 - x0))), (8, .int (nI 96)), (9, .int (nI b1))]) hx hb d_Model_reckon_276 hl (k := 12) rfl (nI_inc _ _ _ (by omega)) (by decide) rfl (fun ls hl => ?_)
                  refine lv_goto (tgt := 114) hx hb d_Model_reckon_279 (by decide) ?_
                  exact ih114 (n1 + 1) va ca _ _ _ (by omega) hE2 hc2 h02 (by omega) hP hD hS (lv_sub hl [3, 4, 5, 6, 7, 8, 9, 10, 11, 12, 0] rfl)
                · refine lv_aload_n hx hb d_Model_reckon_168 rfl (lv_at hl 2 rfl) ?_
                  refine va_get (D := G) (ci := 10) (v := .ref (aM 31)) (C := R_Model) (T := F_Model) (N := 47) hx hb hts in_Model hown hK hP 0 rfl rfl 31 (by decide) (hts _ fl_Model_85) (fun _ h9 => h9) rfl d_Model_reckon_169 ?_
                  refine lv_iload hx hb d_Model_reckon_172 (lv_at hl 10 rfl) ?_
                  refine lv_iload hx hb d_Model_reckon_174 (lv_at hl 12 rfl) ?_
                  refine n_iadd hx hb d_Model_reckon_176 ?_
                  refine n_lald hx hb hK hP 3 1 rfl rfl (by omega) (by omega) d_Model_reckon_177 ?_
                  refine top_l (show (iL ((va_up re2 (96 + b1) va) (96 + (b1 + 1 + n1)))) = (iL (re2 (96 + (b1 + 1 + n1)))) from congrArg iL (va_up_ne _ _ (by omega))) ?_
                  refine lv_aload_n hx hb d_Model_reckon_178 rfl (lv_at hl 2 rfl) ?_
                  refine lv_iload_n hx hb d_Model_reckon_179 rfl (lv_at hl 3 rfl) ?_
                  refine lv_iconst (v := (nI 1)) hx hb d_Model_reckon_180 (by decide) ?_
                  refine n_isub hx hb (by omega) d_Model_reckon_181 ?_
                  refine top_i (show (nI (3 - 1)) = nI 2 from rfl) ?_
                  refine lv_iload hx hb d_Model_reckon_182 (lv_at hl 1 rfl) ?_
                  refine vp_callSl (W.runV (As := [.int (nI 2), .int (nI at_)]) (rest := [.long (iL (re2 (96 + (b1 + 1 + n1))))]) ⟨hx, hb, hml, hown, hts⟩ (c_valueBy2 l G ty hM cd st al ac nf ns tl.toNat mg bw md wy sg_ sz_ ks bd aM at_ vu (by omega)) ⟨callB_of 2 hts (gd_TB cd_Model_valueBy) rfl rfl rfl (hts _ ini_Model) (hts _ lk_Model_211) hd_Model_valueBy ⟨Nat.le_of_ble_eq_true rfl, Nat.le_of_ble_eq_true rfl⟩, hts _ im_Model_valueBy, hts _ sl_Model_valueBy⟩ (preV_ro (hP.sub (ws' := [(hM, .inr (10, mO cd st al ac nf ns tl.toNat mg bw md wy sg_ sz_ ks bd aM)), (aM 29, .inl (ty 1, 75625, .inr (.inl (lF vu))))]) [0, 1] rfl) hX 0 rfl rfl) rfl rfl hl.1 rfl (lv_room (Nat.le_of_ble_eq_true rfl)) d_Model_reckon_184 ⟨Nat.le_of_ble_eq_true rfl, Nat.le_of_ble_eq_true rfl⟩) (fun r9 er9 => ?_)
                  subst er9
                  refine z_ladd hx hb d_Model_reckon_187 ?_
                  refine lv_lstore (lv' := [(13, .long (iL ((re2 (96 + (b1 + 1 + n1))) + (vu at_)))), (12, .int (nI (cu at_))), (11, .int (nI at_)), (0, .ref hM), (1, .int (nI 3)), (2, .int (nI x0)), (3, .int (nI x1)), (4, .int (nI y0)), (5, .int (nI y1)), (6, .int (nI 0)), (7, .int (nI (x1 - x0))), (8, .int (nI 96)), (9, .int (nI b1)), (10, .int (nI (b1 + 1 + n1)))]) hx hb d_Model_reckon_188 hl (by decide) rfl (fun ls hl => ?_)
                  refine lv_aload_n hx hb d_Model_reckon_190 rfl (lv_at hl 3 rfl) ?_
                  refine va_get (D := G) (ci := 10) (v := .ref (aM 32)) (C := R_Model) (T := F_Model) (N := 47) hx hb hts in_Model hown hK hP 0 rfl rfl 32 (by decide) (hts _ fl_Model_88) (fun _ h9 => h9) rfl d_Model_reckon_191 ?_
                  refine lv_iload hx hb d_Model_reckon_194 (lv_at hl 11 rfl) ?_
                  refine lv_iload hx hb d_Model_reckon_196 (lv_at hl 13 rfl) ?_
                  refine n_iadd hx hb d_Model_reckon_198 ?_
                  refine n_iald hx hb hK hP 4 0 rfl rfl (by omega) (by omega) d_Model_reckon_199 ?_
                  refine top_i (show (nI ((va_up rc2 (96 + b1) ca) (96 + (b1 + 1 + n1)))) = (nI (rc2 (96 + (b1 + 1 + n1)))) from congrArg nI (va_up_ne _ _ (by omega))) ?_
                  refine lv_iload hx hb d_Model_reckon_200 (lv_at hl 1 rfl) ?_
                  refine n_iadd hx hb d_Model_reckon_202 ?_
                  refine lv_istore (lv' := [(15, .int (nI ((rc2 (96 + (b1 + 1 + n1))) + (cu at_)))), (13, .long (iL ((re2 (96 + (b1 + 1 + n1))) + (vu at_)))), (12, .int (nI (cu at_))), (11, .int (nI at_)), (0, .ref hM), (1, .int (nI 3)), (2, .int (nI x0)), (3, .int (nI x1)), (4, .int (nI y0)), (5, .int (nI y1)), (6, .int (nI 0)), (7, .int (nI (x1 - x0))), (8, .int (nI 96)), (9, .int (nI b1)), (10, .int (nI (b1 + 1 + n1)))]) hx hb d_Model_reckon_203 hl (by decide) rfl (fun ls hl => ?_)
                  refine lv_lload hx hb d_Model_reckon_205 (lv_at hl 1 rfl) ?_
                  refine lv_aload_n hx hb d_Model_reckon_207 rfl (lv_at hl 4 rfl) ?_
                  refine va_get (D := G) (ci := 10) (v := .ref (aM 31)) (C := R_Model) (T := F_Model) (N := 47) hx hb hts in_Model hown hK hP 0 rfl rfl 31 (by decide) (hts _ fl_Model_85) (fun _ h9 => h9) rfl d_Model_reckon_208 ?_
                  refine lv_iload hx hb d_Model_reckon_211 (lv_at hl 12 rfl) ?_
                  refine lv_iload hx hb d_Model_reckon_213 (lv_at hl 13 rfl) ?_
                  refine n_iadd hx hb d_Model_reckon_215 ?_
                  refine n_lald hx hb hK hP 3 1 rfl rfl (by omega) (by omega) d_Model_reckon_216 ?_
                  refine top_l (show (iL ((va_up re2 (96 + b1) va) (96 + b1))) = (iL va) from congrArg iL (va_up_self _ _ _)) ?_
                  refine l_cmp_gt (tgt := 252) hx hb (by omega) (by omega) d_Model_reckon_217 d_Model_reckon_218 (by decide) (fun c217 => ?_) (fun c217 => ?_)
                  · refine lv_aload_n hx hb d_Model_reckon_252 rfl (lv_at hl 4 rfl) ?_
                    refine va_get (D := G) (ci := 10) (v := .ref (aM 31)) (C := R_Model) (T := F_Model) (N := 47) hx hb hts in_Model hown hK hP 0 rfl rfl 31 (by decide) (hts _ fl_Model_85) (fun _ h9 => h9) rfl d_Model_reckon_253 ?_
                    refine lv_iload hx hb d_Model_reckon_256 (lv_at hl 12 rfl) ?_
                    refine lv_iload hx hb d_Model_reckon_258 (lv_at hl 13 rfl) ?_
                    refine n_iadd hx hb d_Model_reckon_260 ?_
                    refine lv_lload hx hb d_Model_reckon_261 (lv_at hl 1 rfl) ?_
                    refine n_last hx hb hK hP hD hS 3 1 rfl rfl (by omega) (by omega) d_Model_reckon_263 (fun H locs hP hD hS => ?_)
                    rw [upd_lF] at hP hD
                    have hP : va_P G vwCl [(hM, .inr (10, mO cd st al ac nf ns tl.toNat mg bw md wy sg_ sz_ ks bd aM)), (aM 29, .inl (ty 1, 75625, .inr (.inl (lF vu)))), (aM 30, .inl (ty 0, 75625, .inl (nF cu))), (aM 31, .inl (ty 1, 128, .inr (.inl (lF (va_up (va_up re2 (96 + b1) va) (96 + b1) ((re2 (96 + (b1 + 1 + n1))) + (vu at_))))))), (aM 32, .inl (ty 0, 128, .inl (nF (va_up rc2 (96 + b1) ca)))), (aM 20, .inl (ty 2, 65537, .inl (bF gs)))] _ := hP
                    have hD : va_D A [(hM, .inr (10, mO cd st al ac nf ns tl.toNat mg bw md wy sg_ sz_ ks bd aM)), (aM 29, .inl (ty 1, 75625, .inr (.inl (lF vu)))), (aM 30, .inl (ty 0, 75625, .inl (nF cu))), (aM 31, .inl (ty 1, 128, .inr (.inl (lF (va_up (va_up re2 (96 + b1) va) (96 + b1) ((re2 (96 + (b1 + 1 + n1))) + (vu at_))))))), (aM 32, .inl (ty 0, 128, .inl (nF (va_up rc2 (96 + b1) ca)))), (aM 20, .inl (ty 2, 65537, .inl (bF gs)))] := hD
                    refine lv_aload_n hx hb d_Model_reckon_264 rfl (lv_at hl 4 rfl) ?_
                    refine va_get (D := G) (ci := 10) (v := .ref (aM 32)) (C := R_Model) (T := F_Model) (N := 47) hx hb hts in_Model hown hK hP 0 rfl rfl 32 (by decide) (hts _ fl_Model_88) (fun _ h9 => h9) rfl d_Model_reckon_265 ?_
                    refine lv_iload hx hb d_Model_reckon_268 (lv_at hl 12 rfl) ?_
                    refine lv_iload hx hb d_Model_reckon_270 (lv_at hl 13 rfl) ?_
                    refine n_iadd hx hb d_Model_reckon_272 ?_
                    refine lv_iload hx hb d_Model_reckon_273 (lv_at hl 0 rfl) ?_
                    refine n_iast hx hb hK hP hD hS 4 0 rfl rfl (by omega) (by omega) d_Model_reckon_275 (fun H locs hP hD hS => ?_)
                    rw [upd_nF] at hP hD
                    have hP : va_P G vwCl [(hM, .inr (10, mO cd st al ac nf ns tl.toNat mg bw md wy sg_ sz_ ks bd aM)), (aM 29, .inl (ty 1, 75625, .inr (.inl (lF vu)))), (aM 30, .inl (ty 0, 75625, .inl (nF cu))), (aM 31, .inl (ty 1, 128, .inr (.inl (lF (va_up (va_up re2 (96 + b1) va) (96 + b1) ((re2 (96 + (b1 + 1 + n1))) + (vu at_))))))), (aM 32, .inl (ty 0, 128, .inl (nF (va_up (va_up rc2 (96 + b1) ca) (96 + b1) ((rc2 (96 + (b1 + 1 + n1))) + (cu at_)))))), (aM 20, .inl (ty 2, 65537, .inl (bF gs)))] _ := hP
                    have hD : va_D A [(hM, .inr (10, mO cd st al ac nf ns tl.toNat mg bw md wy sg_ sz_ ks bd aM)), (aM 29, .inl (ty 1, 75625, .inr (.inl (lF vu)))), (aM 30, .inl (ty 0, 75625, .inl (nF cu))), (aM 31, .inl (ty 1, 128, .inr (.inl (lF (va_up (va_up re2 (96 + b1) va) (96 + b1) ((re2 (96 + (b1 + 1 + n1))) + (vu at_))))))), (aM 32, .inl (ty 0, 128, .inl (nF (va_up (va_up rc2 (96 + b1) ca) (96 + b1) ((rc2 (96 + (b1 + 1 + n1))) + (cu at_)))))), (aM 20, .inl (ty 2, 65537, .inl (bF gs)))] := hD
                    have hP : va_P G vwCl [(hM, .inr (10, mO cd st al ac nf ns tl.toNat mg bw md wy sg_ sz_ ks bd aM)), (aM 29, .inl (ty 1, 75625, .inr (.inl (lF vu)))), (aM 30, .inl (ty 0, 75625, .inl (nF cu))), (aM 31, .inl (ty 1, 128, .inr (.inl (lF (va_up re2 (96 + b1) (re2 (96 + (b1 + 1 + n1)) + vu at_)))))), (aM 32, .inl (ty 0, 128, .inl (nF (va_up rc2 (96 + b1) (rc2 (96 + (b1 + 1 + n1)) + cu at_))))), (aM 20, .inl (ty 2, 65537, .inl (bF gs)))] H := by rw [va_up_up, va_up_up] at hP; exact hP
                    have hD : va_D A [(hM, .inr (10, mO cd st al ac nf ns tl.toNat mg bw md wy sg_ sz_ ks bd aM)), (aM 29, .inl (ty 1, 75625, .inr (.inl (lF vu)))), (aM 30, .inl (ty 0, 75625, .inl (nF cu))), (aM 31, .inl (ty 1, 128, .inr (.inl (lF (va_up re2 (96 + b1) (re2 (96 + (b1 + 1 + n1)) + vu at_)))))), (aM 32, .inl (ty 0, 128, .inl (nF (va_up rc2 (96 + b1) (rc2 (96 + (b1 + 1 + n1)) + cu at_))))), (aM 20, .inl (ty 2, 65537, .inl (bF gs)))] := by rw [va_up_up, va_up_up] at hD; exact hD
                    have hE2 : 1024 * (re2 (96 + (b1 + 1 + n1)) + vu at_) - ((rc2 (96 + (b1 + 1 + n1)) + cu at_ : Nat) : Int) = dpS (fun b9 e9 => mS vu cu b9 e9 y0 y1) (okc 3 sg_ (fun z9 => decide (1 ≤ z9) && (decide (wy ≠ 0) || (!tl || gs z9)))) (fun p9 => dpV (fun b9 e9 => mS vu cu b9 e9 y0 y1) (okc 3 sg_ (fun z9 => decide (1 ≤ z9) && (decide (wy ≠ 0) || (!tl || gs z9)))) p9 x1) (x0 + b1) (dpV (fun b9 e9 => mS vu cu b9 e9 y0 y1) (okc 3 sg_ (fun z9 => decide (1 ≤ z9) && (decide (wy ≠ 0) || (!tl || gs z9)))) (x0 + b1 + 1) x1) (n1 + 1) := by rw [dpS_s, if_pos ⟨by omega, by omega, tN_1 c165⟩]; omega
                    have hc2 : rc2 (96 + (b1 + 1 + n1)) + cu at_ ≤ (y1 - y0) * (x1 - x0 - b1) := by omega
                    have h02 : rc2 (96 + (b1 + 1 + n1)) + cu at_ = 0 → re2 (96 + (b1 + 1 + n1)) + vu at_ = 0 := by omega
                    refine lv_iinc (v := (nI ((b1 + 1 + n1) + 1))) (lv' := [(10, .int (nI ((b1 + 1 + n1) + 1))), (15, .int (nI ((rc2 (96 + (b1 + 1 + n1))) + (cu at_)))), (13, .long (iL ((re2 (96 + (b1 + 1 + n1))) + (vu at_)))), (12, .int (nI (cu at_))), (11, .int (nI at_)), (0, .ref hM), (1, .int (nI 3)), (2, .int (nI x0)), (3, .int (nI x1)), (4, .int (nI y0)), (5, .int (nI y1)), (6, .int (nI 0)), (7, .int (nI (x1 - x0))), (8, .int (nI 96)), (9, .int (nI b1))]) hx hb d_Model_reckon_276 hl (k := 14) rfl (nI_inc _ _ _ (by omega)) (by decide) rfl (fun ls hl => ?_)
                    refine lv_goto (tgt := 114) hx hb d_Model_reckon_279 (by decide) ?_
                    exact ih114 (n1 + 1) (re2 (96 + (b1 + 1 + n1)) + vu at_) (rc2 (96 + (b1 + 1 + n1)) + cu at_) _ _ _ (by omega) hE2 hc2 h02 (by omega) hP hD hS (lv_sub hl [5, 6, 7, 8, 9, 10, 11, 12, 13, 14, 0] rfl)
                  · refine lv_lload hx hb d_Model_reckon_221 (lv_at hl 1 rfl) ?_
                    refine lv_aload_n hx hb d_Model_reckon_223 rfl (lv_at hl 4 rfl) ?_
                    refine va_get (D := G) (ci := 10) (v := .ref (aM 31)) (C := R_Model) (T := F_Model) (N := 47) hx hb hts in_Model hown hK hP 0 rfl rfl 31 (by decide) (hts _ fl_Model_85) (fun _ h9 => h9) rfl d_Model_reckon_224 ?_
                    refine lv_iload hx hb d_Model_reckon_227 (lv_at hl 12 rfl) ?_
                    refine lv_iload hx hb d_Model_reckon_229 (lv_at hl 13 rfl) ?_
                    refine n_iadd hx hb d_Model_reckon_231 ?_
                    refine n_lald hx hb hK hP 3 1 rfl rfl (by omega) (by omega) d_Model_reckon_232 ?_
                    refine top_l (show (iL ((va_up re2 (96 + b1) va) (96 + b1))) = (iL va) from congrArg iL (va_up_self _ _ _)) ?_
                    refine l_cmp_ne (tgt := 276) hx hb (by omega) (by omega) d_Model_reckon_233 d_Model_reckon_234 (by decide) (fun c233 => ?_) (fun c233 => ?_)
                    · have hE2 : 1024 * va - (ca : Int) = dpS (fun b9 e9 => mS vu cu b9 e9 y0 y1) (okc 3 sg_ (fun z9 => decide (1 ≤ z9) && (decide (wy ≠ 0) || (!tl || gs z9)))) (fun p9 => dpV (fun b9 e9 => mS vu cu b9 e9 y0 y1) (okc 3 sg_ (fun z9 => decide (1 ≤ z9) && (decide (wy ≠ 0) || (!tl || gs z9)))) p9 x1) (x0 + b1) (dpV (fun b9 e9 => mS vu cu b9 e9 y0 y1) (okc 3 sg_ (fun z9 => decide (1 ≤ z9) && (decide (wy ≠ 0) || (!tl || gs z9)))) (x0 + b1 + 1) x1) (n1 + 1) := by rw [dpS_s, if_neg]; exact hE; intro hh; first | omega | exact absurd hh.2.2 (by rw [show (okc 3 sg_ (fun z9 => decide (1 ≤ z9) && (decide (wy ≠ 0) || (!tl || gs z9)))) (n1 + 1) = false from tN_0 c165]; decide)
                      have hc2 := hca
                      have h02 := h00
                      refine lv_iinc (v := (nI ((b1 + 1 + n1) + 1))) (lv' := [(10, .int (nI ((b1 + 1 + n1) + 1))), (15, .int (nI ((rc2 (96 + (b1 + 1 + n1))) + (cu at_)))), (13, .long (iL ((re2 (96 + (b1 + 1 + n1))) + (vu at_)))), (12, .int (nI (cu at_))), (11, .int (nI at_)), (0, .ref hM), (1, .int (nI 3)), (2, .int (nI x0)), (3, .int (nI x1)), (4, .int (nI y0)), (5, .int (nI y1)), (6, .int (nI 0)), (7, .int (nI (x1 - x0))), (8, .int (nI 96)), (9, .int (nI b1))]) hx hb d_Model_reckon_276 hl (k := 14) rfl (nI_inc _ _ _ (by omega)) (by decide) rfl (fun ls hl => ?_)
                      refine lv_goto (tgt := 114) hx hb d_Model_reckon_279 (by decide) ?_
                      exact ih114 (n1 + 1) va ca _ _ _ (by omega) hE2 hc2 h02 (by omega) hP hD hS (lv_sub hl [5, 6, 7, 8, 9, 10, 11, 12, 13, 14, 0] rfl)
                    · refine lv_iload hx hb d_Model_reckon_237 (lv_at hl 0 rfl) ?_
                      refine lv_aload_n hx hb d_Model_reckon_239 rfl (lv_at hl 4 rfl) ?_
                      refine va_get (D := G) (ci := 10) (v := .ref (aM 32)) (C := R_Model) (T := F_Model) (N := 47) hx hb hts in_Model hown hK hP 0 rfl rfl 32 (by decide) (hts _ fl_Model_88) (fun _ h9 => h9) rfl d_Model_reckon_240 ?_
                      refine lv_iload hx hb d_Model_reckon_243 (lv_at hl 12 rfl) ?_
                      refine lv_iload hx hb d_Model_reckon_245 (lv_at hl 13 rfl) ?_
                      refine n_iadd hx hb d_Model_reckon_247 ?_
                      refine n_iald hx hb hK hP 4 0 rfl rfl (by omega) (by omega) d_Model_reckon_248 ?_
                      refine top_i (show (nI ((va_up rc2 (96 + b1) ca) (96 + b1))) = (nI ca) from congrArg nI (va_up_self _ _ _)) ?_
                      refine n_icmp_ge (tgt := 276) hx hb (by omega) (by omega) d_Model_reckon_249 (by decide) (fun c249 => ?_) (fun c249 => ?_)
                      · have hE2 : 1024 * va - (ca : Int) = dpS (fun b9 e9 => mS vu cu b9 e9 y0 y1) (okc 3 sg_ (fun z9 => decide (1 ≤ z9) && (decide (wy ≠ 0) || (!tl || gs z9)))) (fun p9 => dpV (fun b9 e9 => mS vu cu b9 e9 y0 y1) (okc 3 sg_ (fun z9 => decide (1 ≤ z9) && (decide (wy ≠ 0) || (!tl || gs z9)))) p9 x1) (x0 + b1) (dpV (fun b9 e9 => mS vu cu b9 e9 y0 y1) (okc 3 sg_ (fun z9 => decide (1 ≤ z9) && (decide (wy ≠ 0) || (!tl || gs z9)))) (x0 + b1 + 1) x1) (n1 + 1) := by rw [dpS_s, if_neg]; exact hE; intro hh; first | omega | exact absurd hh.2.2 (by rw [show (okc 3 sg_ (fun z9 => decide (1 ≤ z9) && (decide (wy ≠ 0) || (!tl || gs z9)))) (n1 + 1) = false from tN_0 c165]; decide)
                        have hc2 := hca
                        have h02 := h00
                        refine lv_iinc (v := (nI ((b1 + 1 + n1) + 1))) (lv' := [(10, .int (nI ((b1 + 1 + n1) + 1))), (15, .int (nI ((rc2 (96 + (b1 + 1 + n1))) + (cu at_)))), (13, .long (iL ((re2 (96 + (b1 + 1 + n1))) + (vu at_)))), (12, .int (nI (cu at_))), (11, .int (nI at_)), (0, .ref hM), (1, .int (nI 3)), (2, .int (nI x0)), (3, .int (nI x1)), (4, .int (nI y0)), (5, .int (nI y1)), (6, .int (nI 0)), (7, .int (nI (x1 - x0))), (8, .int (nI 96)), (9, .int (nI b1))]) hx hb d_Model_reckon_276 hl (k := 14) rfl (nI_inc _ _ _ (by omega)) (by decide) rfl (fun ls hl => ?_)
                        refine lv_goto (tgt := 114) hx hb d_Model_reckon_279 (by decide) ?_
                        exact ih114 (n1 + 1) va ca _ _ _ (by omega) hE2 hc2 h02 (by omega) hP hD hS (lv_sub hl [5, 6, 7, 8, 9, 10, 11, 12, 13, 14, 0] rfl)
                      · refine lv_aload_n hx hb d_Model_reckon_252 rfl (lv_at hl 4 rfl) ?_
                        refine va_get (D := G) (ci := 10) (v := .ref (aM 31)) (C := R_Model) (T := F_Model) (N := 47) hx hb hts in_Model hown hK hP 0 rfl rfl 31 (by decide) (hts _ fl_Model_85) (fun _ h9 => h9) rfl d_Model_reckon_253 ?_
                        refine lv_iload hx hb d_Model_reckon_256 (lv_at hl 12 rfl) ?_
                        refine lv_iload hx hb d_Model_reckon_258 (lv_at hl 13 rfl) ?_
                        refine n_iadd hx hb d_Model_reckon_260 ?_
                        refine lv_lload hx hb d_Model_reckon_261 (lv_at hl 1 rfl) ?_
                        refine n_last hx hb hK hP hD hS 3 1 rfl rfl (by omega) (by omega) d_Model_reckon_263 (fun H locs hP hD hS => ?_)
                        rw [upd_lF] at hP hD
                        have hP : va_P G vwCl [(hM, .inr (10, mO cd st al ac nf ns tl.toNat mg bw md wy sg_ sz_ ks bd aM)), (aM 29, .inl (ty 1, 75625, .inr (.inl (lF vu)))), (aM 30, .inl (ty 0, 75625, .inl (nF cu))), (aM 31, .inl (ty 1, 128, .inr (.inl (lF (va_up (va_up re2 (96 + b1) va) (96 + b1) ((re2 (96 + (b1 + 1 + n1))) + (vu at_))))))), (aM 32, .inl (ty 0, 128, .inl (nF (va_up rc2 (96 + b1) ca)))), (aM 20, .inl (ty 2, 65537, .inl (bF gs)))] _ := hP
                        have hD : va_D A [(hM, .inr (10, mO cd st al ac nf ns tl.toNat mg bw md wy sg_ sz_ ks bd aM)), (aM 29, .inl (ty 1, 75625, .inr (.inl (lF vu)))), (aM 30, .inl (ty 0, 75625, .inl (nF cu))), (aM 31, .inl (ty 1, 128, .inr (.inl (lF (va_up (va_up re2 (96 + b1) va) (96 + b1) ((re2 (96 + (b1 + 1 + n1))) + (vu at_))))))), (aM 32, .inl (ty 0, 128, .inl (nF (va_up rc2 (96 + b1) ca)))), (aM 20, .inl (ty 2, 65537, .inl (bF gs)))] := hD
                        refine lv_aload_n hx hb d_Model_reckon_264 rfl (lv_at hl 4 rfl) ?_
                        refine va_get (D := G) (ci := 10) (v := .ref (aM 32)) (C := R_Model) (T := F_Model) (N := 47) hx hb hts in_Model hown hK hP 0 rfl rfl 32 (by decide) (hts _ fl_Model_88) (fun _ h9 => h9) rfl d_Model_reckon_265 ?_
                        refine lv_iload hx hb d_Model_reckon_268 (lv_at hl 12 rfl) ?_
                        refine lv_iload hx hb d_Model_reckon_270 (lv_at hl 13 rfl) ?_
                        refine n_iadd hx hb d_Model_reckon_272 ?_
                        refine lv_iload hx hb d_Model_reckon_273 (lv_at hl 0 rfl) ?_
                        refine n_iast hx hb hK hP hD hS 4 0 rfl rfl (by omega) (by omega) d_Model_reckon_275 (fun H locs hP hD hS => ?_)
                        rw [upd_nF] at hP hD
                        have hP : va_P G vwCl [(hM, .inr (10, mO cd st al ac nf ns tl.toNat mg bw md wy sg_ sz_ ks bd aM)), (aM 29, .inl (ty 1, 75625, .inr (.inl (lF vu)))), (aM 30, .inl (ty 0, 75625, .inl (nF cu))), (aM 31, .inl (ty 1, 128, .inr (.inl (lF (va_up (va_up re2 (96 + b1) va) (96 + b1) ((re2 (96 + (b1 + 1 + n1))) + (vu at_))))))), (aM 32, .inl (ty 0, 128, .inl (nF (va_up (va_up rc2 (96 + b1) ca) (96 + b1) ((rc2 (96 + (b1 + 1 + n1))) + (cu at_)))))), (aM 20, .inl (ty 2, 65537, .inl (bF gs)))] _ := hP
                        have hD : va_D A [(hM, .inr (10, mO cd st al ac nf ns tl.toNat mg bw md wy sg_ sz_ ks bd aM)), (aM 29, .inl (ty 1, 75625, .inr (.inl (lF vu)))), (aM 30, .inl (ty 0, 75625, .inl (nF cu))), (aM 31, .inl (ty 1, 128, .inr (.inl (lF (va_up (va_up re2 (96 + b1) va) (96 + b1) ((re2 (96 + (b1 + 1 + n1))) + (vu at_))))))), (aM 32, .inl (ty 0, 128, .inl (nF (va_up (va_up rc2 (96 + b1) ca) (96 + b1) ((rc2 (96 + (b1 + 1 + n1))) + (cu at_)))))), (aM 20, .inl (ty 2, 65537, .inl (bF gs)))] := hD
                        have hP : va_P G vwCl [(hM, .inr (10, mO cd st al ac nf ns tl.toNat mg bw md wy sg_ sz_ ks bd aM)), (aM 29, .inl (ty 1, 75625, .inr (.inl (lF vu)))), (aM 30, .inl (ty 0, 75625, .inl (nF cu))), (aM 31, .inl (ty 1, 128, .inr (.inl (lF (va_up re2 (96 + b1) (re2 (96 + (b1 + 1 + n1)) + vu at_)))))), (aM 32, .inl (ty 0, 128, .inl (nF (va_up rc2 (96 + b1) (rc2 (96 + (b1 + 1 + n1)) + cu at_))))), (aM 20, .inl (ty 2, 65537, .inl (bF gs)))] H := by rw [va_up_up, va_up_up] at hP; exact hP
                        have hD : va_D A [(hM, .inr (10, mO cd st al ac nf ns tl.toNat mg bw md wy sg_ sz_ ks bd aM)), (aM 29, .inl (ty 1, 75625, .inr (.inl (lF vu)))), (aM 30, .inl (ty 0, 75625, .inl (nF cu))), (aM 31, .inl (ty 1, 128, .inr (.inl (lF (va_up re2 (96 + b1) (re2 (96 + (b1 + 1 + n1)) + vu at_)))))), (aM 32, .inl (ty 0, 128, .inl (nF (va_up rc2 (96 + b1) (rc2 (96 + (b1 + 1 + n1)) + cu at_))))), (aM 20, .inl (ty 2, 65537, .inl (bF gs)))] := by rw [va_up_up, va_up_up] at hD; exact hD
                        have hE2 : 1024 * (re2 (96 + (b1 + 1 + n1)) + vu at_) - ((rc2 (96 + (b1 + 1 + n1)) + cu at_ : Nat) : Int) = dpS (fun b9 e9 => mS vu cu b9 e9 y0 y1) (okc 3 sg_ (fun z9 => decide (1 ≤ z9) && (decide (wy ≠ 0) || (!tl || gs z9)))) (fun p9 => dpV (fun b9 e9 => mS vu cu b9 e9 y0 y1) (okc 3 sg_ (fun z9 => decide (1 ≤ z9) && (decide (wy ≠ 0) || (!tl || gs z9)))) p9 x1) (x0 + b1) (dpV (fun b9 e9 => mS vu cu b9 e9 y0 y1) (okc 3 sg_ (fun z9 => decide (1 ≤ z9) && (decide (wy ≠ 0) || (!tl || gs z9)))) (x0 + b1 + 1) x1) (n1 + 1) := by rw [dpS_s, if_pos ⟨by omega, by omega, tN_1 c165⟩]; omega
                        have hc2 : rc2 (96 + (b1 + 1 + n1)) + cu at_ ≤ (y1 - y0) * (x1 - x0 - b1) := by omega
                        have h02 : rc2 (96 + (b1 + 1 + n1)) + cu at_ = 0 → re2 (96 + (b1 + 1 + n1)) + vu at_ = 0 := by omega
                        refine lv_iinc (v := (nI ((b1 + 1 + n1) + 1))) (lv' := [(10, .int (nI ((b1 + 1 + n1) + 1))), (15, .int (nI ((rc2 (96 + (b1 + 1 + n1))) + (cu at_)))), (13, .long (iL ((re2 (96 + (b1 + 1 + n1))) + (vu at_)))), (12, .int (nI (cu at_))), (11, .int (nI at_)), (0, .ref hM), (1, .int (nI 3)), (2, .int (nI x0)), (3, .int (nI x1)), (4, .int (nI y0)), (5, .int (nI y1)), (6, .int (nI 0)), (7, .int (nI (x1 - x0))), (8, .int (nI 96)), (9, .int (nI b1))]) hx hb d_Model_reckon_276 hl (k := 14) rfl (nI_inc _ _ _ (by omega)) (by decide) rfl (fun ls hl => ?_)
                        refine lv_goto (tgt := 114) hx hb d_Model_reckon_279 (by decide) ?_
                        exact ih114 (n1 + 1) (re2 (96 + (b1 + 1 + n1)) + vu at_) (rc2 (96 + (b1 + 1 + n1)) + cu at_) _ _ _ (by omega) hE2 hc2 h02 (by omega) hP hD hS (lv_sub hl [5, 6, 7, 8, 9, 10, 11, 12, 13, 14, 0] rfl)
        exact L114 ((x1 - x0) + 1 - (b1 + 0) + 1) 0 (re2 (96 + (b1 + 1))) (rc2 (96 + (b1 + 1))) _ _ _ (by omega) hr11 hkk hr1.2.2 (Nat.lt_succ_self _) hP hD hS (lv_sub hl [1, 2, 3, 4, 5, 6, 7, 8, 9, 10, 0] rfl)
  exact L59 ((x1 - x0) + 1) (x1 - x0) (va_up re (96 + (x1 - x0)) 0) (va_up rc (96 + (x1 - x0)) 0) _ _ _ (Nat.le_refl _) (fun p h1 h2 => by rw [show p = x1 - x0 from by omega]; exact rOKr_end (by show dpV _ _ (x0 + (x1 - x0)) x1 = 0; rw [show x0 + (x1 - x0) = x1 by omega]; exact dpV_end _ _ _)) (fun q hq => ⟨va_up_ne _ _ (by omega), va_up_ne _ _ (by omega)⟩) (Nat.lt_succ_self _) hP hD hS (lv_sub hl [4, 5, 6, 7, 8, 9, 3, 2, 1, 0] rfl)
