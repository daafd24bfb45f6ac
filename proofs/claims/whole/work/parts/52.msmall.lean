theorem fl_Model_109 : Cond.fieldLink R_Model 109 "FaultRipsModel" "kept" "[I" ∈ TB := mem_TB 895 (by decide +kernel) (by decide +kernel)
theorem fl_Model_260 : Cond.fieldLink R_Model 260 "FaultRipsModel" "keptSize" "I" ∈ TB := mem_TB 894 (by decide +kernel) (by decide +kernel)
theorem fl_Model_45 : Cond.fieldLink R_Model 45 "FaultRipsModel" "needs" "[I" ∈ TB := mem_TB 869 (by decide +kernel) (by decide +kernel)
theorem fl_Model_51 : Cond.fieldLink R_Model 51 "FaultRipsModel" "lastPrices" "[J" ∈ TB := mem_TB 871 (by decide +kernel) (by decide +kernel)
theorem lk_Model_257 : Cond.methodLink R_Model 257 y_Model_countOf ∈ TB := mem_TB 1136 (by decide +kernel) (by decide +kernel)

/-- all hold: of sort i no more than needed, and just so many where it has a price -/
def hB (s : Nat) (pr sn : Nat → Int) (p4 : Nat → Nat) (n i : Nat) : Bool := decide ((s = 0 ∨ pr i = 0 ∨ ((cntF p4 n i : Nat) : Int) = sn i) ∧ (sn i < 0 ∨ ((cntF p4 n i : Nat) : Int) ≤ sn i))
/-- a price behind a round, the reference's way -/
def nxP (sn pr : Nat → Int) (p4 : Nat → Nat) (n sd i : Nat) : Int := if sn i < 0 ∨ pr i + (((cntF p4 n i : Nat) : Int) - sn i) * ((sd : Nat) : Int) < 0 then 0 else pr i + (((cntF p4 n i : Nat) : Int) - sn i) * ((sd : Nat) : Int)
theorem sd_mul {a b : Int} {sd : Nat} (h : -1000 ≤ a ∧ a ≤ 1001) (hs : sd ≤ 256) (hb : 0 ≤ b ∧ b ≤ 1000000000) : -2000000000 ≤ b + a * ((sd : Nat) : Int) ∧ b + a * ((sd : Nat) : Int) ≤ 2000000000 := by
  have := mul_b h hs
  omega

abbrev q_Model_countOf (G : va_G) (ty : Nat → ClassId) (hM : Nat) (cd : Nat) (st : Nat) (al : Nat) (ac : Nat) (nf : Nat) (ns : Nat) (gg : Nat) (mg : Nat) (bw : Nat) (md : Nat) (wy : Nat) (sg_ : Nat) (sz_ : Nat) (ks : Nat) (bd : Int) (aM : Nat → Nat) (i : Nat) (p4 : Nat → Nat) : Array Value → State → Outcome → State → Prop := vp_Si (fun r : Int32 => r = (nI (cntF p4 sz_ i)))
set_option maxRecDepth 100000 in
set_option maxHeartbeats 4000000 in
theorem c_Model_countOf (l : Launch) (G : va_G) (ty : Nat → ClassId) (hM : Nat) (cd : Nat) (st : Nat) (al : Nat) (ac : Nat) (nf : Nat) (ns : Nat) (gg : Nat) (mg : Nat) (bw : Nat) (md : Nat) (wy : Nat) (sg_ : Nat) (sz_ : Nat) (ks : Nat) (bd : Int) (aM : Nat → Nat) (i : Nat) (p4 : Nat → Nat) (g1 : sz_ ≤ 240) (g4 : ∀ k, k < sz_ → p4 k < 8) (gi : i < 8) : Met l y_Model_countOf ws_Model_countOf { frames := 0, cells := 0, slots := 0, locals := 0 } (va_Pc [.ref hM, .int (nI i)] (fun U => va_P G vwCl [(hM, .inr (10, mO cd st al ac nf ns gg mg bw md wy sg_ sz_ ks bd aM)), (aM 41, .inl (ty 0, 240, .inl (nF p4)))] U.heap ∧ KX G ty U)) (q_Model_countOf G ty hM cd st al ac nf ns gg mg bw md wy sg_ sz_ ks bd aM i p4) 0 0 (fun _ => False) := by
  refine met_ro R_Model (by decide) rfl rfl (Nat.le_of_ble_eq_true rfl) ?_
  intro p e s m below meth c ls hx hb hr hml hown hts hlocks hP hX hl
  have hK := hX.1
  have hl : lv_has ls 4 [(0, .ref hM), (1, .int (nI i))] := hl
  refine lv_iconst (v := (nI 0)) hx hb d_Model_countOf_0 (by decide) ?_
  refine lv_istore_n (lv' := [(2, .int (nI 0)), (0, .ref hM), (1, .int (nI i))]) hx hb d_Model_countOf_1 rfl hl (by decide) rfl (fun ls hl => ?_)
  refine lv_iconst (v := (nI 0)) hx hb d_Model_countOf_2 (by decide) ?_
  refine lv_istore_n (lv' := [(3, .int (nI 0)), (2, .int (nI 0)), (0, .ref hM), (1, .int (nI i))]) hx hb d_Model_countOf_3 rfl hl (by decide) rfl (fun ls hl => ?_)
  have L4 : ∀ (k9 : Nat) (k : Nat) (ls : Array Slot), (k ≤ sz_) → sz_ - k < k9 → lv_has ls 4 [(0, .ref hM), (1, .int (nI i)), (2, .int (nI (cntF p4 k i))), (3, .int (nI k))] → W p l e { frames := 0, cells := 0, slots := 0, locals := 0 } s m [.ref hM, .int (nI i)].toArray below meth c s.heap [] 0 0 (MQ below (q_Model_countOf G ty hM cd st al ac nf ns gg mg bw md wy sg_ sz_ ks bd aM i p4) [.ref hM, .int (nI i)].toArray s 0 0 (fun _ => False)) (F0 m 4 ls []) := by
    intro k9
    induction k9 with
    | zero => intro k ls hk hk9; exact absurd hk9 (Nat.not_lt_zero _)
    | succ k9 ih4 =>
      intro k ls hk hk9 hl
      refine lv_iload_n hx hb d_Model_countOf_4 rfl (lv_at hl 3 rfl) ?_
      refine lv_aload_n hx hb d_Model_countOf_5 rfl (lv_at hl 0 rfl) ?_
      refine va_get (D := G) (ci := 10) (v := .int (nI sz_)) (C := R_Model) (T := F_Model) (N := 47) hx hb hts in_Model hown hK hP 0 rfl rfl 36 (by decide) (hts _ fl_Model_219) (fun _ h9 => h9) rfl d_Model_countOf_6 ?_
      refine n_icmp_ge (tgt := 36) hx hb (by omega) (by omega) d_Model_countOf_9 (by decide) (fun c9 => ?_) (fun c9 => ?_)
      · refine lv_iload_n hx hb d_Model_countOf_36 rfl (lv_at hl 2 rfl) ?_
        exact W.iret (v := (nI (cntF p4 k i))) hx hb hr (fun t9 ht _ => ⟨_, rfl, congrArg nI (by rw [show k = sz_ by omega]), ht⟩) (fun q h => by cases h) d_Model_countOf_37
      · have hkk := g4 k (by omega)
        refine lv_aload_n hx hb d_Model_countOf_12 rfl (lv_at hl 0 rfl) ?_
        refine va_get (D := G) (ci := 10) (v := .ref (aM 41)) (C := R_Model) (T := F_Model) (N := 47) hx hb hts in_Model hown hK hP 0 rfl rfl 41 (by decide) (hts _ fl_Model_106) (fun _ h9 => h9) rfl d_Model_countOf_13 ?_
        refine lv_iload_n hx hb d_Model_countOf_16 rfl (lv_at hl 3 rfl) ?_
        refine n_iald hx hb hK hP 1 0 rfl rfl (by omega) (by omega) d_Model_countOf_17 ?_
        refine lv_iload_n hx hb d_Model_countOf_18 rfl (lv_at hl 1 rfl) ?_
        refine n_icmp_ne (tgt := 28) hx hb (by omega) (by omega) d_Model_countOf_19 (by decide) (fun c19 => ?_) (fun c19 => ?_)
        · refine lv_iload_n hx hb d_Model_countOf_28 rfl (lv_at hl 2 rfl) ?_
          refine top_i (show (nI (cntF p4 k i)) = nI (cntF p4 (k + 1) i) from congrArg nI (by show _ = cntF p4 k i + (if p4 k = i then 1 else 0); first | (rw [if_pos c19]) | (rw [if_neg c19]; rfl))) ?_
          refine lv_istore_n (lv' := [(2, .int (nI (cntF p4 (k + 1) i))), (0, .ref hM), (1, .int (nI i)), (3, .int (nI k))]) hx hb d_Model_countOf_29 rfl hl (by decide) rfl (fun ls hl => ?_)
          refine lv_iinc (v := (nI (k + 1))) (lv' := [(3, .int (nI (k + 1))), (2, .int (nI (cntF p4 (k + 1) i))), (0, .ref hM), (1, .int (nI i))]) hx hb d_Model_countOf_30 hl (k := 3) rfl (nI_inc _ _ _ (by omega)) (by decide) rfl (fun ls hl => ?_)
          refine lv_goto (tgt := 4) hx hb d_Model_countOf_33 (by decide) ?_
          exact ih4 (k + 1) _ (by omega) (by omega) (lv_sub hl [2, 3, 1, 0] rfl)
        · refine lv_iload_n hx hb d_Model_countOf_22 rfl (lv_at hl 2 rfl) ?_
          refine lv_iconst (v := (nI 1)) hx hb d_Model_countOf_23 (by decide) ?_
          refine n_iadd hx hb d_Model_countOf_24 ?_
          refine lv_goto (tgt := 29) hx hb d_Model_countOf_25 (by decide) ?_
          refine top_i (show (nI ((cntF p4 k i) + 1)) = nI (cntF p4 (k + 1) i) from congrArg nI (by show _ = cntF p4 k i + (if p4 k = i then 1 else 0); first | (rw [if_pos c19]) | (rw [if_neg c19]; rfl))) ?_
          refine lv_istore_n (lv' := [(2, .int (nI (cntF p4 (k + 1) i))), (0, .ref hM), (1, .int (nI i)), (3, .int (nI k))]) hx hb d_Model_countOf_29 rfl hl (by decide) rfl (fun ls hl => ?_)
          refine lv_iinc (v := (nI (k + 1))) (lv' := [(3, .int (nI (k + 1))), (2, .int (nI (cntF p4 (k + 1) i))), (0, .ref hM), (1, .int (nI i))]) hx hb d_Model_countOf_30 hl (k := 3) rfl (nI_inc _ _ _ (by omega)) (by decide) rfl (fun ls hl => ?_)
          refine lv_goto (tgt := 4) hx hb d_Model_countOf_33 (by decide) ?_
          exact ih4 (k + 1) _ (by omega) (by omega) (lv_sub hl [2, 3, 1, 0] rfl)
  exact L4 (sz_ - 0 + 1) 0 _ (Nat.zero_le _) (Nat.lt_succ_self _) (lv_sub hl [2, 3, 1, 0] rfl)

abbrev q_Model_trueWorth (G : va_G) (ty : Nat → ClassId) (hM : Nat) (cd : Nat) (st : Nat) (al : Nat) (ac : Nat) (nf : Nat) (ns : Nat) (gg : Nat) (mg : Nat) (bw : Nat) (md : Nat) (wy : Nat) (sg_ : Nat) (sz_ : Nat) (ks : Nat) (bd : Int) (aM : Nat → Nat) (wo : Nat → Int) (p2 : Nat → Nat) (p4 : Nat → Nat) : Array Value → State → Outcome → State → Prop := vp_Sl (fun r : Int64 => r = (iL (sumA (fun z9 => wo (p4 z9) * ((p2 z9 : Nat) : Int)) sz_)))
set_option maxRecDepth 100000 in
set_option maxHeartbeats 4000000 in
theorem c_Model_trueWorth (l : Launch) (G : va_G) (ty : Nat → ClassId) (hM : Nat) (cd : Nat) (st : Nat) (al : Nat) (ac : Nat) (nf : Nat) (ns : Nat) (gg : Nat) (mg : Nat) (bw : Nat) (md : Nat) (wy : Nat) (sg_ : Nat) (sz_ : Nat) (ks : Nat) (bd : Int) (aM : Nat → Nat) (wo : Nat → Int) (p2 : Nat → Nat) (p4 : Nat → Nat) (g1 : sz_ ≤ 240) (g4 : ∀ k, k < sz_ → p4 k < 8) (g5 : ∀ k, k < sz_ → p2 k ≤ 24) : Met l y_Model_trueWorth ws_Model_trueWorth { frames := 0, cells := 0, slots := 0, locals := 0 } (va_Pc [.ref hM] (fun U => va_P G vwCl [(hM, .inr (10, mO cd st al ac nf ns gg mg bw md wy sg_ sz_ ks bd aM)), (aM 15, .inl (ty 1, 8, .inr (.inl (lF wo)))), (aM 39, .inl (ty 0, 240, .inl (nF p2))), (aM 41, .inl (ty 0, 240, .inl (nF p4)))] U.heap ∧ KX G ty U)) (q_Model_trueWorth G ty hM cd st al ac nf ns gg mg bw md wy sg_ sz_ ks bd aM wo p2 p4) 0 0 (fun _ => False) := by
  refine met_ro R_Model (by decide) rfl rfl (Nat.le_of_ble_eq_true rfl) ?_
  intro p e s m below meth c ls hx hb hr hml hown hts hlocks hP hX hl
  have hK := hX.1
  have hl : lv_has ls 4 [(0, .ref hM)] := hl
  refine lv_lconst (v := iL 0) hx hb d_Model_trueWorth_0 (by decide) ?_
  refine lv_lstore_n (lv' := [(1, .long (iL 0)), (0, .ref hM)]) hx hb d_Model_trueWorth_1 rfl hl (by decide) rfl (fun ls hl => ?_)
  refine lv_iconst (v := (nI 0)) hx hb d_Model_trueWorth_2 (by decide) ?_
  refine lv_istore_n (lv' := [(3, .int (nI 0)), (1, .long (iL 0)), (0, .ref hM)]) hx hb d_Model_trueWorth_3 rfl hl (by decide) rfl (fun ls hl => ?_)
  have L4 : ∀ (k9 : Nat) (k : Nat) (ls : Array Slot), (k ≤ sz_) → sz_ - k < k9 → lv_has ls 4 [(0, .ref hM), (1, .long (iL (sumA (fun z9 => wo (p4 z9) * ((p2 z9 : Nat) : Int)) k))), (3, .int (nI k))] → W p l e { frames := 0, cells := 0, slots := 0, locals := 0 } s m [.ref hM].toArray below meth c s.heap [] 0 0 (MQ below (q_Model_trueWorth G ty hM cd st al ac nf ns gg mg bw md wy sg_ sz_ ks bd aM wo p2 p4) [.ref hM].toArray s 0 0 (fun _ => False)) (F0 m 4 ls []) := by
    intro k9
    induction k9 with
    | zero => intro k ls hk hk9; exact absurd hk9 (Nat.not_lt_zero _)
    | succ k9 ih4 =>
      intro k ls hk hk9 hl
      refine lv_iload_n hx hb d_Model_trueWorth_4 rfl (lv_at hl 2 rfl) ?_
      refine lv_aload_n hx hb d_Model_trueWorth_5 rfl (lv_at hl 0 rfl) ?_
      refine va_get (D := G) (ci := 10) (v := .int (nI sz_)) (C := R_Model) (T := F_Model) (N := 47) hx hb hts in_Model hown hK hP 0 rfl rfl 36 (by decide) (hts _ fl_Model_219) (fun _ h9 => h9) rfl d_Model_trueWorth_6 ?_
      refine n_icmp_ge (tgt := 40) hx hb (by omega) (by omega) d_Model_trueWorth_9 (by decide) (fun c9 => ?_) (fun c9 => ?_)
      · refine lv_lload_n hx hb d_Model_trueWorth_40 rfl (lv_at hl 1 rfl) ?_
        exact W.lret (v := (iL (sumA (fun z9 => wo (p4 z9) * ((p2 z9 : Nat) : Int)) k))) hx hb hr (fun t9 ht _ => ⟨_, rfl, congrArg iL (by rw [show k = sz_ by omega]), ht⟩) (fun q h => by cases h) d_Model_trueWorth_41
      · have hkk := g4 k (by omega)
        have hk5 := g5 k (by omega)
        refine lv_lload_n hx hb d_Model_trueWorth_12 rfl (lv_at hl 1 rfl) ?_
        refine lv_aload_n hx hb d_Model_trueWorth_13 rfl (lv_at hl 0 rfl) ?_
        refine va_get (D := G) (ci := 10) (v := .ref (aM 15)) (C := R_Model) (T := F_Model) (N := 47) hx hb hts in_Model hown hK hP 0 rfl rfl 15 (by decide) (hts _ fl_Model_37) (fun _ h9 => h9) rfl d_Model_trueWorth_14 ?_
        refine lv_aload_n hx hb d_Model_trueWorth_17 rfl (lv_at hl 0 rfl) ?_
        refine va_get (D := G) (ci := 10) (v := .ref (aM 41)) (C := R_Model) (T := F_Model) (N := 47) hx hb hts in_Model hown hK hP 0 rfl rfl 41 (by decide) (hts _ fl_Model_106) (fun _ h9 => h9) rfl d_Model_trueWorth_18 ?_
        refine lv_iload_n hx hb d_Model_trueWorth_21 rfl (lv_at hl 2 rfl) ?_
        refine n_iald hx hb hK hP 3 0 rfl rfl (by omega) (by omega) d_Model_trueWorth_22 ?_
        refine n_lald hx hb hK hP 1 1 rfl rfl (by omega) (by omega) d_Model_trueWorth_23 ?_
        refine lv_aload_n hx hb d_Model_trueWorth_24 rfl (lv_at hl 0 rfl) ?_
        refine va_get (D := G) (ci := 10) (v := .ref (aM 39)) (C := R_Model) (T := F_Model) (N := 47) hx hb hts in_Model hown hK hP 0 rfl rfl 39 (by decide) (hts _ fl_Model_100) (fun _ h9 => h9) rfl d_Model_trueWorth_25 ?_
        refine lv_iload_n hx hb d_Model_trueWorth_28 rfl (lv_at hl 2 rfl) ?_
        refine n_iald hx hb hK hP 2 0 rfl rfl (by omega) (by omega) d_Model_trueWorth_29 ?_
        refine n_i2l hx hb (by omega) d_Model_trueWorth_30 ?_
        refine z_lmul hx hb d_Model_trueWorth_31 ?_
        refine z_ladd hx hb d_Model_trueWorth_32 ?_
        refine top_l (show (iL ((sumA (fun z9 => wo (p4 z9) * ((p2 z9 : Nat) : Int)) k) + ((wo (p4 k)) * ((p2 k : Nat) : Int)))) = (iL (sumA (fun z9 => wo (p4 z9) * ((p2 z9 : Nat) : Int)) (k + 1))) from rfl) ?_
        refine lv_lstore_n (lv' := [(1, .long (iL (sumA (fun z9 => wo (p4 z9) * ((p2 z9 : Nat) : Int)) (k + 1)))), (0, .ref hM), (3, .int (nI k))]) hx hb d_Model_trueWorth_33 rfl hl (by decide) rfl (fun ls hl => ?_)
        refine lv_iinc (v := (nI (k + 1))) (lv' := [(3, .int (nI (k + 1))), (1, .long (iL (sumA (fun z9 => wo (p4 z9) * ((p2 z9 : Nat) : Int)) (k + 1)))), (0, .ref hM)]) hx hb d_Model_trueWorth_34 hl (k := 2) rfl (nI_inc _ _ _ (by omega)) (by decide) rfl (fun ls hl => ?_)
        refine lv_goto (tgt := 4) hx hb d_Model_trueWorth_37 (by decide) ?_
        exact ih4 (k + 1) _ (by omega) (by omega) (lv_sub hl [2, 1, 0] rfl)
  exact L4 (sz_ - 0 + 1) 0 _ (Nat.zero_le _) (Nat.lt_succ_self _) (lv_sub hl [2, 1, 0] rfl)

abbrev q_allHold0 (G : va_G) (ty : Nat → ClassId) (hM : Nat) (cd : Nat) (st : Nat) (al : Nat) (ac : Nat) (nf : Nat) (ns : Nat) (gg : Nat) (mg : Nat) (bw : Nat) (md : Nat) (wy : Nat) (sg_ : Nat) (sz_ : Nat) (ks : Nat) (bd : Int) (aM : Nat → Nat) (sn : Nat → Int) (pr : Nat → Int) (p4 : Nat → Nat) : Array Value → State → Outcome → State → Prop := vp_Si (fun r : Int32 => r = (nI ((allB (hB 0 pr sn p4 sz_) ns).toNat)))
set_option maxRecDepth 100000 in
set_option maxHeartbeats 4000000 in
theorem c_allHold0 (l : Launch) (G : va_G) (ty : Nat → ClassId) (hM : Nat) (cd : Nat) (st : Nat) (al : Nat) (ac : Nat) (nf : Nat) (ns : Nat) (gg : Nat) (mg : Nat) (bw : Nat) (md : Nat) (wy : Nat) (sg_ : Nat) (sz_ : Nat) (ks : Nat) (bd : Int) (aM : Nat → Nat) (sn : Nat → Int) (pr : Nat → Int) (p4 : Nat → Nat) (g1 : sz_ ≤ 240) (g4 : ∀ k, k < sz_ → p4 k < 8) (g8 : ns ≤ 8) (gn : ∀ i, i < ns → -1 ≤ sn i ∧ sn i ≤ 1000) (gp : ∀ i, i < ns → 0 ≤ pr i ∧ pr i ≤ 1000000000) : Met l y_Model_allHold ws_Model_allHold { frames := 1, cells := 0, slots := 0, locals := 23 } (va_Pc [.ref hM, .int (nI 0)] (fun U => va_P G vwCl [(hM, .inr (10, mO cd st al ac nf ns gg mg bw md wy sg_ sz_ ks bd aM)), (aM 17, .inl (ty 0, 8, .inl (zF sn))), (aM 18, .inl (ty 1, 8, .inr (.inl (lF pr)))), (aM 41, .inl (ty 0, 240, .inl (nF p4)))] U.heap ∧ KX G ty U)) (q_allHold0 G ty hM cd st al ac nf ns gg mg bw md wy sg_ sz_ ks bd aM sn pr p4) 0 0 (fun _ => False) := by
  refine met_ro R_Model (by decide) rfl rfl (Nat.le_of_ble_eq_true rfl) ?_
  intro p e s m below meth c ls hx hb hr hml hown hts hlocks hP hX hl
  have hK := hX.1
  have hl : lv_has ls 5 [(0, .ref hM), (1, .int (nI 0))] := hl
  refine lv_iconst (v := (nI 1)) hx hb d_Model_allHold_0 (by decide) ?_
  refine lv_istore_n (lv' := [(2, .int (nI 1)), (0, .ref hM), (1, .int (nI 0))]) hx hb d_Model_allHold_1 rfl hl (by decide) rfl (fun ls hl => ?_)
  refine lv_iconst (v := (nI 0)) hx hb d_Model_allHold_2 (by decide) ?_
  refine lv_istore_n (lv' := [(3, .int (nI 0)), (2, .int (nI 1)), (0, .ref hM), (1, .int (nI 0))]) hx hb d_Model_allHold_3 rfl hl (by decide) rfl (fun ls hl => ?_)
  have L4 : ∀ (k9 : Nat) (i : Nat) (ls : Array Slot), (i ≤ ns) → ns - i < k9 → lv_has ls 5 [(0, .ref hM), (1, .int (nI 0)), (2, .int (nI ((allB (hB 0 pr sn p4 sz_) i).toNat))), (3, .int (nI i))] → W p l e { frames := 1, cells := 0, slots := 0, locals := 23 } s m [.ref hM, .int (nI 0)].toArray below meth c s.heap [] 0 0 (MQ below (q_allHold0 G ty hM cd st al ac nf ns gg mg bw md wy sg_ sz_ ks bd aM sn pr p4) [.ref hM, .int (nI 0)].toArray s 0 0 (fun _ => False)) (F0 m 4 ls []) := by
    intro k9
    induction k9 with
    | zero => intro i ls hi hk9; exact absurd hk9 (Nat.not_lt_zero _)
    | succ k9 ih4 =>
      intro i ls hi hk9 hl
      refine lv_iload_n hx hb d_Model_allHold_4 rfl (lv_at hl 3 rfl) ?_
      refine lv_aload_n hx hb d_Model_allHold_5 rfl (lv_at hl 0 rfl) ?_
      refine va_get (D := G) (ci := 10) (v := .int (nI ns)) (C := R_Model) (T := F_Model) (N := 47) hx hb hts in_Model hown hK hP 0 rfl rfl 11 (by decide) (hts _ fl_Model_158) (fun _ h9 => h9) rfl d_Model_allHold_6 ?_
      refine n_icmp_ge (tgt := 92) hx hb (by omega) (by omega) d_Model_allHold_9 (by decide) (fun c9 => ?_) (fun c9 => ?_)
      · refine lv_iload_n hx hb d_Model_allHold_92 rfl (lv_at hl 2 rfl) ?_
        exact W.zret (v := (nI ((allB (hB 0 pr sn p4 sz_) i).toNat))) hx hb hr (nar_tN _) (fun t9 ht _ => ⟨_, rfl, congrArg nI (by rw [show i = ns by omega]), ht⟩) (fun q h => by cases h) d_Model_allHold_93
      · have hn := gn i (by omega)
        have hp := gp i (by omega)
        have hcl := cntF_le p4 sz_ i
        refine lv_iload_n hx hb d_Model_allHold_12 rfl (lv_at hl 1 rfl) ?_
        refine n_if_eq (tgt := 41) hx hb (by omega) d_Model_allHold_13 (by decide) (fun c13 => ?_) (fun c13 => absurd c13 (by omega))
        refine lv_iconst (v := (nI 1)) hx hb d_Model_allHold_41 (by decide) ?_
        refine lv_goto (tgt := 46) hx hb d_Model_allHold_42 (by decide) ?_
        refine lv_istore (lv' := [(4, .int (nI 1)), (0, .ref hM), (1, .int (nI 0)), (2, .int (nI ((allB (hB 0 pr sn p4 sz_) i).toNat))), (3, .int (nI i))]) hx hb d_Model_allHold_46 hl (by decide) rfl (fun ls hl => ?_)
        refine lv_iload_n hx hb d_Model_allHold_48 rfl (lv_at hl 3 rfl) ?_
        refine n_if_eq (tgt := 84) hx hb (tN_lt _) d_Model_allHold_49 (by decide) (fun c49 => ?_) (fun c49 => ?_)
        · refine lv_iconst (v := (nI 0)) hx hb d_Model_allHold_84 (by decide) ?_
          refine top_i (show (nI 0) = nI (allB (hB 0 pr sn p4 sz_) (i + 1)).toNat from congrArg nI (by rw [allB_s]; first | (rw [tN_0 c49]; rfl) | (rw [tN_1 c49, show (hB 0 pr sn p4 sz_) i = true from decide_eq_true (by omega)]; rfl) | (rw [tN_1 c49, show (hB 0 pr sn p4 sz_) i = false from decide_eq_false (by omega)]; rfl))) ?_
          refine lv_istore_n (lv' := [(2, .int (nI ((allB (hB 0 pr sn p4 sz_) (i + 1)).toNat))), (4, .int (nI 1)), (0, .ref hM), (1, .int (nI 0)), (3, .int (nI i))]) hx hb d_Model_allHold_85 rfl hl (by decide) rfl (fun ls hl => ?_)
          refine lv_iinc (v := (nI (i + 1))) (lv' := [(3, .int (nI (i + 1))), (2, .int (nI ((allB (hB 0 pr sn p4 sz_) (i + 1)).toNat))), (4, .int (nI 1)), (0, .ref hM), (1, .int (nI 0))]) hx hb d_Model_allHold_86 hl (k := 4) rfl (nI_inc _ _ _ (by omega)) (by decide) rfl (fun ls hl => ?_)
          refine lv_goto (tgt := 4) hx hb d_Model_allHold_89 (by decide) ?_
          exact ih4 (i + 1) _ (by omega) (by omega) (lv_sub hl [3, 4, 1, 0] rfl)
        · refine lv_iload hx hb d_Model_allHold_52 (lv_at hl 0 rfl) ?_
          refine n_if_eq (tgt := 84) hx hb (by omega) d_Model_allHold_54 (by decide) (fun c54 => absurd c54 (by omega)) (fun c54 => ?_)
          refine lv_aload_n hx hb d_Model_allHold_57 rfl (lv_at hl 1 rfl) ?_
          refine va_get (D := G) (ci := 10) (v := .ref (aM 17)) (C := R_Model) (T := F_Model) (N := 47) hx hb hts in_Model hown hK hP 0 rfl rfl 17 (by decide) (hts _ fl_Model_45) (fun _ h9 => h9) rfl d_Model_allHold_58 ?_
          refine lv_iload_n hx hb d_Model_allHold_61 rfl (lv_at hl 4 rfl) ?_
          refine n_iald hx hb hK hP 1 0 rfl rfl (by omega) (by omega) d_Model_allHold_62 ?_
          refine z_if_lt (tgt := 80) hx hb (by omega) d_Model_allHold_63 (by decide) (fun c63 => ?_) (fun c63 => ?_)
          · refine lv_iconst (v := (nI 1)) hx hb d_Model_allHold_80 (by decide) ?_
            refine lv_goto (tgt := 85) hx hb d_Model_allHold_81 (by decide) ?_
            refine top_i (show (nI 1) = nI (allB (hB 0 pr sn p4 sz_) (i + 1)).toNat from congrArg nI (by rw [allB_s]; first | (rw [tN_0 c49]; rfl) | (rw [tN_1 c49, show (hB 0 pr sn p4 sz_) i = true from decide_eq_true (by omega)]; rfl) | (rw [tN_1 c49, show (hB 0 pr sn p4 sz_) i = false from decide_eq_false (by omega)]; rfl))) ?_
            refine lv_istore_n (lv' := [(2, .int (nI ((allB (hB 0 pr sn p4 sz_) (i + 1)).toNat))), (4, .int (nI 1)), (0, .ref hM), (1, .int (nI 0)), (3, .int (nI i))]) hx hb d_Model_allHold_85 rfl hl (by decide) rfl (fun ls hl => ?_)
            refine lv_iinc (v := (nI (i + 1))) (lv' := [(3, .int (nI (i + 1))), (2, .int (nI ((allB (hB 0 pr sn p4 sz_) (i + 1)).toNat))), (4, .int (nI 1)), (0, .ref hM), (1, .int (nI 0))]) hx hb d_Model_allHold_86 hl (k := 4) rfl (nI_inc _ _ _ (by omega)) (by decide) rfl (fun ls hl => ?_)
            refine lv_goto (tgt := 4) hx hb d_Model_allHold_89 (by decide) ?_
            exact ih4 (i + 1) _ (by omega) (by omega) (lv_sub hl [3, 4, 1, 0] rfl)
          · refine lv_aload_n hx hb d_Model_allHold_66 rfl (lv_at hl 1 rfl) ?_
            refine lv_iload_n hx hb d_Model_allHold_67 rfl (lv_at hl 4 rfl) ?_
            refine vp_callSi (W.runV (As := [.int (nI i)]) (rest := []) ⟨hx, hb, hml, hown, hts⟩ (c_Model_countOf l G ty hM cd st al ac nf ns gg mg bw md wy sg_ sz_ ks bd aM i p4 (by omega) g4 (by omega)) ⟨callB_of 1 hts (gd_TB cd_Model_countOf) rfl rfl rfl (hts _ ini_Model) (hts _ lk_Model_257) hd_Model_countOf ⟨Nat.le_of_ble_eq_true rfl, Nat.le_of_ble_eq_true rfl⟩, hts _ im_Model_countOf, hts _ sl_Model_countOf⟩ (preV_ro (hP.sub (ws' := [(hM, .inr (10, mO cd st al ac nf ns gg mg bw md wy sg_ sz_ ks bd aM)), (aM 41, .inl (ty 0, 240, .inl (nF p4)))]) [0, 3] rfl) hX 0 rfl rfl) rfl rfl hl.1 rfl (lv_room (Nat.le_of_ble_eq_true rfl)) d_Model_allHold_68 ⟨Nat.le_of_ble_eq_true rfl, Nat.le_of_ble_eq_true rfl⟩) (fun r9 er9 => ?_)
            subst er9
            refine lv_aload_n hx hb d_Model_allHold_71 rfl (lv_at hl 1 rfl) ?_
            refine va_get (D := G) (ci := 10) (v := .ref (aM 17)) (C := R_Model) (T := F_Model) (N := 47) hx hb hts in_Model hown hK hP 0 rfl rfl 17 (by decide) (hts _ fl_Model_45) (fun _ h9 => h9) rfl d_Model_allHold_72 ?_
            refine lv_iload_n hx hb d_Model_allHold_75 rfl (lv_at hl 4 rfl) ?_
            refine n_iald hx hb hK hP 1 0 rfl rfl (by omega) (by omega) d_Model_allHold_76 ?_
            refine nz_icmp_gt (tgt := 84) hx hb (by omega) (by omega) d_Model_allHold_77 (by decide) (fun c77 => ?_) (fun c77 => ?_)
            · refine lv_iconst (v := (nI 0)) hx hb d_Model_allHold_84 (by decide) ?_
              refine top_i (show (nI 0) = nI (allB (hB 0 pr sn p4 sz_) (i + 1)).toNat from congrArg nI (by rw [allB_s]; first | (rw [tN_0 c49]; rfl) | (rw [tN_1 c49, show (hB 0 pr sn p4 sz_) i = true from decide_eq_true (by omega)]; rfl) | (rw [tN_1 c49, show (hB 0 pr sn p4 sz_) i = false from decide_eq_false (by omega)]; rfl))) ?_
              refine lv_istore_n (lv' := [(2, .int (nI ((allB (hB 0 pr sn p4 sz_) (i + 1)).toNat))), (4, .int (nI 1)), (0, .ref hM), (1, .int (nI 0)), (3, .int (nI i))]) hx hb d_Model_allHold_85 rfl hl (by decide) rfl (fun ls hl => ?_)
              refine lv_iinc (v := (nI (i + 1))) (lv' := [(3, .int (nI (i + 1))), (2, .int (nI ((allB (hB 0 pr sn p4 sz_) (i + 1)).toNat))), (4, .int (nI 1)), (0, .ref hM), (1, .int (nI 0))]) hx hb d_Model_allHold_86 hl (k := 4) rfl (nI_inc _ _ _ (by omega)) (by decide) rfl (fun ls hl => ?_)
              refine lv_goto (tgt := 4) hx hb d_Model_allHold_89 (by decide) ?_
              exact ih4 (i + 1) _ (by omega) (by omega) (lv_sub hl [3, 4, 1, 0] rfl)
            · refine lv_iconst (v := (nI 1)) hx hb d_Model_allHold_80 (by decide) ?_
              refine lv_goto (tgt := 85) hx hb d_Model_allHold_81 (by decide) ?_
              refine top_i (show (nI 1) = nI (allB (hB 0 pr sn p4 sz_) (i + 1)).toNat from congrArg nI (by rw [allB_s]; first | (rw [tN_0 c49]; rfl) | (rw [tN_1 c49, show (hB 0 pr sn p4 sz_) i = true from decide_eq_true (by omega)]; rfl) | (rw [tN_1 c49, show (hB 0 pr sn p4 sz_) i = false from decide_eq_false (by omega)]; rfl))) ?_
              refine lv_istore_n (lv' := [(2, .int (nI ((allB (hB 0 pr sn p4 sz_) (i + 1)).toNat))), (4, .int (nI 1)), (0, .ref hM), (1, .int (nI 0)), (3, .int (nI i))]) hx hb d_Model_allHold_85 rfl hl (by decide) rfl (fun ls hl => ?_)
              refine lv_iinc (v := (nI (i + 1))) (lv' := [(3, .int (nI (i + 1))), (2, .int (nI ((allB (hB 0 pr sn p4 sz_) (i + 1)).toNat))), (4, .int (nI 1)), (0, .ref hM), (1, .int (nI 0))]) hx hb d_Model_allHold_86 hl (k := 4) rfl (nI_inc _ _ _ (by omega)) (by decide) rfl (fun ls hl => ?_)
              refine lv_goto (tgt := 4) hx hb d_Model_allHold_89 (by decide) ?_
              exact ih4 (i + 1) _ (by omega) (by omega) (lv_sub hl [3, 4, 1, 0] rfl)
  exact L4 (ns - 0 + 1) 0 _ (Nat.zero_le _) (Nat.lt_succ_self _) (lv_sub hl [2, 3, 1, 0] rfl)

abbrev q_allHold1 (G : va_G) (ty : Nat → ClassId) (hM : Nat) (cd : Nat) (st : Nat) (al : Nat) (ac : Nat) (nf : Nat) (ns : Nat) (gg : Nat) (mg : Nat) (bw : Nat) (md : Nat) (wy : Nat) (sg_ : Nat) (sz_ : Nat) (ks : Nat) (bd : Int) (aM : Nat → Nat) (sn : Nat → Int) (pr : Nat → Int) (p4 : Nat → Nat) : Array Value → State → Outcome → State → Prop := vp_Si (fun r : Int32 => r = (nI ((allB (hB 1 pr sn p4 sz_) ns).toNat)))
set_option maxRecDepth 100000 in
set_option maxHeartbeats 4000000 in
theorem c_allHold1 (l : Launch) (G : va_G) (ty : Nat → ClassId) (hM : Nat) (cd : Nat) (st : Nat) (al : Nat) (ac : Nat) (nf : Nat) (ns : Nat) (gg : Nat) (mg : Nat) (bw : Nat) (md : Nat) (wy : Nat) (sg_ : Nat) (sz_ : Nat) (ks : Nat) (bd : Int) (aM : Nat → Nat) (sn : Nat → Int) (pr : Nat → Int) (p4 : Nat → Nat) (g1 : sz_ ≤ 240) (g4 : ∀ k, k < sz_ → p4 k < 8) (g8 : ns ≤ 8) (gn : ∀ i, i < ns → -1 ≤ sn i ∧ sn i ≤ 1000) (gp : ∀ i, i < ns → 0 ≤ pr i ∧ pr i ≤ 1000000000) : Met l y_Model_allHold ws_Model_allHold { frames := 1, cells := 0, slots := 0, locals := 23 } (va_Pc [.ref hM, .int (nI 1)] (fun U => va_P G vwCl [(hM, .inr (10, mO cd st al ac nf ns gg mg bw md wy sg_ sz_ ks bd aM)), (aM 17, .inl (ty 0, 8, .inl (zF sn))), (aM 18, .inl (ty 1, 8, .inr (.inl (lF pr)))), (aM 41, .inl (ty 0, 240, .inl (nF p4)))] U.heap ∧ KX G ty U)) (q_allHold1 G ty hM cd st al ac nf ns gg mg bw md wy sg_ sz_ ks bd aM sn pr p4) 0 0 (fun _ => False) := by
  refine met_ro R_Model (by decide) rfl rfl (Nat.le_of_ble_eq_true rfl) ?_
  intro p e s m below meth c ls hx hb hr hml hown hts hlocks hP hX hl
  have hK := hX.1
  have hl : lv_has ls 5 [(0, .ref hM), (1, .int (nI 1))] := hl
  refine lv_iconst (v := (nI 1)) hx hb d_Model_allHold_0 (by decide) ?_
  refine lv_istore_n (lv' := [(2, .int (nI 1)), (0, .ref hM), (1, .int (nI 1))]) hx hb d_Model_allHold_1 rfl hl (by decide) rfl (fun ls hl => ?_)
  refine lv_iconst (v := (nI 0)) hx hb d_Model_allHold_2 (by decide) ?_
  refine lv_istore_n (lv' := [(3, .int (nI 0)), (2, .int (nI 1)), (0, .ref hM), (1, .int (nI 1))]) hx hb d_Model_allHold_3 rfl hl (by decide) rfl (fun ls hl => ?_)
  have L4 : ∀ (k9 : Nat) (i : Nat) (ls : Array Slot), (i ≤ ns) → ns - i < k9 → lv_has ls 5 [(0, .ref hM), (1, .int (nI 1)), (2, .int (nI ((allB (hB 1 pr sn p4 sz_) i).toNat))), (3, .int (nI i))] → W p l e { frames := 1, cells := 0, slots := 0, locals := 23 } s m [.ref hM, .int (nI 1)].toArray below meth c s.heap [] 0 0 (MQ below (q_allHold1 G ty hM cd st al ac nf ns gg mg bw md wy sg_ sz_ ks bd aM sn pr p4) [.ref hM, .int (nI 1)].toArray s 0 0 (fun _ => False)) (F0 m 4 ls []) := by
    intro k9
    induction k9 with
    | zero => intro i ls hi hk9; exact absurd hk9 (Nat.not_lt_zero _)
    | succ k9 ih4 =>
      intro i ls hi hk9 hl
      refine lv_iload_n hx hb d_Model_allHold_4 rfl (lv_at hl 3 rfl) ?_
      refine lv_aload_n hx hb d_Model_allHold_5 rfl (lv_at hl 0 rfl) ?_
      refine va_get (D := G) (ci := 10) (v := .int (nI ns)) (C := R_Model) (T := F_Model) (N := 47) hx hb hts in_Model hown hK hP 0 rfl rfl 11 (by decide) (hts _ fl_Model_158) (fun _ h9 => h9) rfl d_Model_allHold_6 ?_
      refine n_icmp_ge (tgt := 92) hx hb (by omega) (by omega) d_Model_allHold_9 (by decide) (fun c9 => ?_) (fun c9 => ?_)
      · refine lv_iload_n hx hb d_Model_allHold_92 rfl (lv_at hl 2 rfl) ?_
        exact W.zret (v := (nI ((allB (hB 1 pr sn p4 sz_) i).toNat))) hx hb hr (nar_tN _) (fun t9 ht _ => ⟨_, rfl, congrArg nI (by rw [show i = ns by omega]), ht⟩) (fun q h => by cases h) d_Model_allHold_93
      · have hn := gn i (by omega)
        have hp := gp i (by omega)
        have hcl := cntF_le p4 sz_ i
        refine lv_iload_n hx hb d_Model_allHold_12 rfl (lv_at hl 1 rfl) ?_
        refine n_if_eq (tgt := 41) hx hb (by omega) d_Model_allHold_13 (by decide) (fun c13 => absurd c13 (by omega)) (fun c13 => ?_)
        refine lv_aload_n hx hb d_Model_allHold_16 rfl (lv_at hl 0 rfl) ?_
        refine va_get (D := G) (ci := 10) (v := .ref (aM 18)) (C := R_Model) (T := F_Model) (N := 47) hx hb hts in_Model hown hK hP 0 rfl rfl 18 (by decide) (hts _ fl_Model_48) (fun _ h9 => h9) rfl d_Model_allHold_17 ?_
        refine lv_iload_n hx hb d_Model_allHold_20 rfl (lv_at hl 3 rfl) ?_
        refine n_lald hx hb hK hP 2 1 rfl rfl (by omega) (by omega) d_Model_allHold_21 ?_
        refine lv_lconst (v := iL 0) hx hb d_Model_allHold_22 (by decide) ?_
        refine l_cmp_eq (tgt := 41) hx hb (by omega) (by omega) d_Model_allHold_23 d_Model_allHold_24 (by decide) (fun c23 => ?_) (fun c23 => ?_)
        · refine lv_iconst (v := (nI 1)) hx hb d_Model_allHold_41 (by decide) ?_
          refine lv_goto (tgt := 46) hx hb d_Model_allHold_42 (by decide) ?_
          refine lv_istore (lv' := [(4, .int (nI 1)), (0, .ref hM), (1, .int (nI 1)), (2, .int (nI ((allB (hB 1 pr sn p4 sz_) i).toNat))), (3, .int (nI i))]) hx hb d_Model_allHold_46 hl (by decide) rfl (fun ls hl => ?_)
          refine lv_iload_n hx hb d_Model_allHold_48 rfl (lv_at hl 3 rfl) ?_
          refine n_if_eq (tgt := 84) hx hb (tN_lt _) d_Model_allHold_49 (by decide) (fun c49 => ?_) (fun c49 => ?_)
          · refine lv_iconst (v := (nI 0)) hx hb d_Model_allHold_84 (by decide) ?_
            refine top_i (show (nI 0) = nI (allB (hB 1 pr sn p4 sz_) (i + 1)).toNat from congrArg nI (by rw [allB_s]; first | (rw [tN_0 c49]; rfl) | (rw [tN_1 c49, show (hB 1 pr sn p4 sz_) i = true from decide_eq_true (by omega)]; rfl) | (rw [tN_1 c49, show (hB 1 pr sn p4 sz_) i = false from decide_eq_false (by omega)]; rfl))) ?_
            refine lv_istore_n (lv' := [(2, .int (nI ((allB (hB 1 pr sn p4 sz_) (i + 1)).toNat))), (4, .int (nI 1)), (0, .ref hM), (1, .int (nI 1)), (3, .int (nI i))]) hx hb d_Model_allHold_85 rfl hl (by decide) rfl (fun ls hl => ?_)
            refine lv_iinc (v := (nI (i + 1))) (lv' := [(3, .int (nI (i + 1))), (2, .int (nI ((allB (hB 1 pr sn p4 sz_) (i + 1)).toNat))), (4, .int (nI 1)), (0, .ref hM), (1, .int (nI 1))]) hx hb d_Model_allHold_86 hl (k := 4) rfl (nI_inc _ _ _ (by omega)) (by decide) rfl (fun ls hl => ?_)
            refine lv_goto (tgt := 4) hx hb d_Model_allHold_89 (by decide) ?_
            exact ih4 (i + 1) _ (by omega) (by omega) (lv_sub hl [3, 4, 1, 0] rfl)
          · refine lv_iload hx hb d_Model_allHold_52 (lv_at hl 0 rfl) ?_
            refine n_if_eq (tgt := 84) hx hb (by omega) d_Model_allHold_54 (by decide) (fun c54 => absurd c54 (by omega)) (fun c54 => ?_)
            refine lv_aload_n hx hb d_Model_allHold_57 rfl (lv_at hl 1 rfl) ?_
            refine va_get (D := G) (ci := 10) (v := .ref (aM 17)) (C := R_Model) (T := F_Model) (N := 47) hx hb hts in_Model hown hK hP 0 rfl rfl 17 (by decide) (hts _ fl_Model_45) (fun _ h9 => h9) rfl d_Model_allHold_58 ?_
            refine lv_iload_n hx hb d_Model_allHold_61 rfl (lv_at hl 4 rfl) ?_
            refine n_iald hx hb hK hP 1 0 rfl rfl (by omega) (by omega) d_Model_allHold_62 ?_
            refine z_if_lt (tgt := 80) hx hb (by omega) d_Model_allHold_63 (by decide) (fun c63 => ?_) (fun c63 => ?_)
            · refine lv_iconst (v := (nI 1)) hx hb d_Model_allHold_80 (by decide) ?_
              refine lv_goto (tgt := 85) hx hb d_Model_allHold_81 (by decide) ?_
              refine top_i (show (nI 1) = nI (allB (hB 1 pr sn p4 sz_) (i + 1)).toNat from congrArg nI (by rw [allB_s]; first | (rw [tN_0 c49]; rfl) | (rw [tN_1 c49, show (hB 1 pr sn p4 sz_) i = true from decide_eq_true (by omega)]; rfl) | (rw [tN_1 c49, show (hB 1 pr sn p4 sz_) i = false from decide_eq_false (by omega)]; rfl))) ?_
              refine lv_istore_n (lv' := [(2, .int (nI ((allB (hB 1 pr sn p4 sz_) (i + 1)).toNat))), (4, .int (nI 1)), (0, .ref hM), (1, .int (nI 1)), (3, .int (nI i))]) hx hb d_Model_allHold_85 rfl hl (by decide) rfl (fun ls hl => ?_)
              refine lv_iinc (v := (nI (i + 1))) (lv' := [(3, .int (nI (i + 1))), (2, .int (nI ((allB (hB 1 pr sn p4 sz_) (i + 1)).toNat))), (4, .int (nI 1)), (0, .ref hM), (1, .int (nI 1))]) hx hb d_Model_allHold_86 hl (k := 4) rfl (nI_inc _ _ _ (by omega)) (by decide) rfl (fun ls hl => ?_)
              refine lv_goto (tgt := 4) hx hb d_Model_allHold_89 (by decide) ?_
              exact ih4 (i + 1) _ (by omega) (by omega) (lv_sub hl [3, 4, 1, 0] rfl)
            · refine lv_aload_n hx hb d_Model_allHold_66 rfl (lv_at hl 1 rfl) ?_
              refine lv_iload_n hx hb d_Model_allHold_67 rfl (lv_at hl 4 rfl) ?_
              refine vp_callSi (W.runV (As := [.int (nI i)]) (rest := []) ⟨hx, hb, hml, hown, hts⟩ (c_Model_countOf l G ty hM cd st al ac nf ns gg mg bw md wy sg_ sz_ ks bd aM i p4 (by omega) g4 (by omega)) ⟨callB_of 1 hts (gd_TB cd_Model_countOf) rfl rfl rfl (hts _ ini_Model) (hts _ lk_Model_257) hd_Model_countOf ⟨Nat.le_of_ble_eq_true rfl, Nat.le_of_ble_eq_true rfl⟩, hts _ im_Model_countOf, hts _ sl_Model_countOf⟩ (preV_ro (hP.sub (ws' := [(hM, .inr (10, mO cd st al ac nf ns gg mg bw md wy sg_ sz_ ks bd aM)), (aM 41, .inl (ty 0, 240, .inl (nF p4)))]) [0, 3] rfl) hX 0 rfl rfl) rfl rfl hl.1 rfl (lv_room (Nat.le_of_ble_eq_true rfl)) d_Model_allHold_68 ⟨Nat.le_of_ble_eq_true rfl, Nat.le_of_ble_eq_true rfl⟩) (fun r9 er9 => ?_)
              subst er9
              refine lv_aload_n hx hb d_Model_allHold_71 rfl (lv_at hl 1 rfl) ?_
              refine va_get (D := G) (ci := 10) (v := .ref (aM 17)) (C := R_Model) (T := F_Model) (N := 47) hx hb hts in_Model hown hK hP 0 rfl rfl 17 (by decide) (hts _ fl_Model_45) (fun _ h9 => h9) rfl d_Model_allHold_72 ?_
              refine lv_iload_n hx hb d_Model_allHold_75 rfl (lv_at hl 4 rfl) ?_
              refine n_iald hx hb hK hP 1 0 rfl rfl (by omega) (by omega) d_Model_allHold_76 ?_
              refine nz_icmp_gt (tgt := 84) hx hb (by omega) (by omega) d_Model_allHold_77 (by decide) (fun c77 => ?_) (fun c77 => ?_)
              · refine lv_iconst (v := (nI 0)) hx hb d_Model_allHold_84 (by decide) ?_
                refine top_i (show (nI 0) = nI (allB (hB 1 pr sn p4 sz_) (i + 1)).toNat from congrArg nI (by rw [allB_s]; first | (rw [tN_0 c49]; rfl) | (rw [tN_1 c49, show (hB 1 pr sn p4 sz_) i = true from decide_eq_true (by omega)]; rfl) | (rw [tN_1 c49, show (hB 1 pr sn p4 sz_) i = false from decide_eq_false (by omega)]; rfl))) ?_
                refine lv_istore_n (lv' := [(2, .int (nI ((allB (hB 1 pr sn p4 sz_) (i + 1)).toNat))), (4, .int (nI 1)), (0, .ref hM), (1, .int (nI 1)), (3, .int (nI i))]) hx hb d_Model_allHold_85 rfl hl (by decide) rfl (fun ls hl => ?_)
                refine lv_iinc (v := (nI (i + 1))) (lv' := [(3, .int (nI (i + 1))), (2, .int (nI ((allB (hB 1 pr sn p4 sz_) (i + 1)).toNat))), (4, .int (nI 1)), (0, .ref hM), (1, .int (nI 1))]) hx hb d_Model_allHold_86 hl (k := 4) rfl (nI_inc _ _ _ (by omega)) (by decide) rfl (fun ls hl => ?_)
                refine lv_goto (tgt := 4) hx hb d_Model_allHold_89 (by decide) ?_
                exact ih4 (i + 1) _ (by omega) (by omega) (lv_sub hl [3, 4, 1, 0] rfl)
              · refine lv_iconst (v := (nI 1)) hx hb d_Model_allHold_80 (by decide) ?_
                refine lv_goto (tgt := 85) hx hb d_Model_allHold_81 (by decide) ?_
                refine top_i (show (nI 1) = nI (allB (hB 1 pr sn p4 sz_) (i + 1)).toNat from congrArg nI (by rw [allB_s]; first | (rw [tN_0 c49]; rfl) | (rw [tN_1 c49, show (hB 1 pr sn p4 sz_) i = true from decide_eq_true (by omega)]; rfl) | (rw [tN_1 c49, show (hB 1 pr sn p4 sz_) i = false from decide_eq_false (by omega)]; rfl))) ?_
                refine lv_istore_n (lv' := [(2, .int (nI ((allB (hB 1 pr sn p4 sz_) (i + 1)).toNat))), (4, .int (nI 1)), (0, .ref hM), (1, .int (nI 1)), (3, .int (nI i))]) hx hb d_Model_allHold_85 rfl hl (by decide) rfl (fun ls hl => ?_)
                refine lv_iinc (v := (nI (i + 1))) (lv' := [(3, .int (nI (i + 1))), (2, .int (nI ((allB (hB 1 pr sn p4 sz_) (i + 1)).toNat))), (4, .int (nI 1)), (0, .ref hM), (1, .int (nI 1))]) hx hb d_Model_allHold_86 hl (k := 4) rfl (nI_inc _ _ _ (by omega)) (by decide) rfl (fun ls hl => ?_)
                refine lv_goto (tgt := 4) hx hb d_Model_allHold_89 (by decide) ?_
                exact ih4 (i + 1) _ (by omega) (by omega) (lv_sub hl [3, 4, 1, 0] rfl)
        · refine lv_aload_n hx hb d_Model_allHold_27 rfl (lv_at hl 0 rfl) ?_
          refine lv_iload_n hx hb d_Model_allHold_28 rfl (lv_at hl 3 rfl) ?_
          refine vp_callSi (W.runV (As := [.int (nI i)]) (rest := []) ⟨hx, hb, hml, hown, hts⟩ (c_Model_countOf l G ty hM cd st al ac nf ns gg mg bw md wy sg_ sz_ ks bd aM i p4 (by omega) g4 (by omega)) ⟨callB_of 1 hts (gd_TB cd_Model_countOf) rfl rfl rfl (hts _ ini_Model) (hts _ lk_Model_257) hd_Model_countOf ⟨Nat.le_of_ble_eq_true rfl, Nat.le_of_ble_eq_true rfl⟩, hts _ im_Model_countOf, hts _ sl_Model_countOf⟩ (preV_ro (hP.sub (ws' := [(hM, .inr (10, mO cd st al ac nf ns gg mg bw md wy sg_ sz_ ks bd aM)), (aM 41, .inl (ty 0, 240, .inl (nF p4)))]) [0, 3] rfl) hX 0 rfl rfl) rfl rfl hl.1 rfl (lv_room (Nat.le_of_ble_eq_true rfl)) d_Model_allHold_29 ⟨Nat.le_of_ble_eq_true rfl, Nat.le_of_ble_eq_true rfl⟩) (fun r9 er9 => ?_)
          subst er9
          refine lv_aload_n hx hb d_Model_allHold_32 rfl (lv_at hl 0 rfl) ?_
          refine va_get (D := G) (ci := 10) (v := .ref (aM 17)) (C := R_Model) (T := F_Model) (N := 47) hx hb hts in_Model hown hK hP 0 rfl rfl 17 (by decide) (hts _ fl_Model_45) (fun _ h9 => h9) rfl d_Model_allHold_33 ?_
          refine lv_iload_n hx hb d_Model_allHold_36 rfl (lv_at hl 3 rfl) ?_
          refine n_iald hx hb hK hP 1 0 rfl rfl (by omega) (by omega) d_Model_allHold_37 ?_
          refine nz_icmp_ne (tgt := 45) hx hb (by omega) (by omega) d_Model_allHold_38 (by decide) (fun c38 => ?_) (fun c38 => ?_)
          · refine lv_iconst (v := (nI 0)) hx hb d_Model_allHold_45 (by decide) ?_
            refine lv_istore (lv' := [(4, .int (nI 0)), (0, .ref hM), (1, .int (nI 1)), (2, .int (nI ((allB (hB 1 pr sn p4 sz_) i).toNat))), (3, .int (nI i))]) hx hb d_Model_allHold_46 hl (by decide) rfl (fun ls hl => ?_)
            refine lv_iload_n hx hb d_Model_allHold_48 rfl (lv_at hl 3 rfl) ?_
            refine n_if_eq (tgt := 84) hx hb (tN_lt _) d_Model_allHold_49 (by decide) (fun c49 => ?_) (fun c49 => ?_)
            · refine lv_iconst (v := (nI 0)) hx hb d_Model_allHold_84 (by decide) ?_
              refine top_i (show (nI 0) = nI (allB (hB 1 pr sn p4 sz_) (i + 1)).toNat from congrArg nI (by rw [allB_s]; first | (rw [tN_0 c49]; rfl) | (rw [tN_1 c49, show (hB 1 pr sn p4 sz_) i = true from decide_eq_true (by omega)]; rfl) | (rw [tN_1 c49, show (hB 1 pr sn p4 sz_) i = false from decide_eq_false (by omega)]; rfl))) ?_
              refine lv_istore_n (lv' := [(2, .int (nI ((allB (hB 1 pr sn p4 sz_) (i + 1)).toNat))), (4, .int (nI 0)), (0, .ref hM), (1, .int (nI 1)), (3, .int (nI i))]) hx hb d_Model_allHold_85 rfl hl (by decide) rfl (fun ls hl => ?_)
              refine lv_iinc (v := (nI (i + 1))) (lv' := [(3, .int (nI (i + 1))), (2, .int (nI ((allB (hB 1 pr sn p4 sz_) (i + 1)).toNat))), (4, .int (nI 0)), (0, .ref hM), (1, .int (nI 1))]) hx hb d_Model_allHold_86 hl (k := 4) rfl (nI_inc _ _ _ (by omega)) (by decide) rfl (fun ls hl => ?_)
              refine lv_goto (tgt := 4) hx hb d_Model_allHold_89 (by decide) ?_
              exact ih4 (i + 1) _ (by omega) (by omega) (lv_sub hl [3, 4, 1, 0] rfl)
            · refine lv_iload hx hb d_Model_allHold_52 (lv_at hl 0 rfl) ?_
              refine n_if_eq (tgt := 84) hx hb (by omega) d_Model_allHold_54 (by decide) (fun c54 => ?_) (fun c54 => absurd c54 (by omega))
              refine lv_iconst (v := (nI 0)) hx hb d_Model_allHold_84 (by decide) ?_
              refine top_i (show (nI 0) = nI (allB (hB 1 pr sn p4 sz_) (i + 1)).toNat from congrArg nI (by rw [allB_s]; first | (rw [tN_0 c49]; rfl) | (rw [tN_1 c49, show (hB 1 pr sn p4 sz_) i = true from decide_eq_true (by omega)]; rfl) | (rw [tN_1 c49, show (hB 1 pr sn p4 sz_) i = false from decide_eq_false (by omega)]; rfl))) ?_
              refine lv_istore_n (lv' := [(2, .int (nI ((allB (hB 1 pr sn p4 sz_) (i + 1)).toNat))), (4, .int (nI 0)), (0, .ref hM), (1, .int (nI 1)), (3, .int (nI i))]) hx hb d_Model_allHold_85 rfl hl (by decide) rfl (fun ls hl => ?_)
              refine lv_iinc (v := (nI (i + 1))) (lv' := [(3, .int (nI (i + 1))), (2, .int (nI ((allB (hB 1 pr sn p4 sz_) (i + 1)).toNat))), (4, .int (nI 0)), (0, .ref hM), (1, .int (nI 1))]) hx hb d_Model_allHold_86 hl (k := 4) rfl (nI_inc _ _ _ (by omega)) (by decide) rfl (fun ls hl => ?_)
              refine lv_goto (tgt := 4) hx hb d_Model_allHold_89 (by decide) ?_
              exact ih4 (i + 1) _ (by omega) (by omega) (lv_sub hl [3, 4, 1, 0] rfl)
          · refine lv_iconst (v := (nI 1)) hx hb d_Model_allHold_41 (by decide) ?_
            refine lv_goto (tgt := 46) hx hb d_Model_allHold_42 (by decide) ?_
            refine lv_istore (lv' := [(4, .int (nI 1)), (0, .ref hM), (1, .int (nI 1)), (2, .int (nI ((allB (hB 1 pr sn p4 sz_) i).toNat))), (3, .int (nI i))]) hx hb d_Model_allHold_46 hl (by decide) rfl (fun ls hl => ?_)
            refine lv_iload_n hx hb d_Model_allHold_48 rfl (lv_at hl 3 rfl) ?_
            refine n_if_eq (tgt := 84) hx hb (tN_lt _) d_Model_allHold_49 (by decide) (fun c49 => ?_) (fun c49 => ?_)
            · refine lv_iconst (v := (nI 0)) hx hb d_Model_allHold_84 (by decide) ?_
              refine top_i (show (nI 0) = nI (allB (hB 1 pr sn p4 sz_) (i + 1)).toNat from congrArg nI (by rw [allB_s]; first | (rw [tN_0 c49]; rfl) | (rw [tN_1 c49, show (hB 1 pr sn p4 sz_) i = true from decide_eq_true (by omega)]; rfl) | (rw [tN_1 c49, show (hB 1 pr sn p4 sz_) i = false from decide_eq_false (by omega)]; rfl))) ?_
              refine lv_istore_n (lv' := [(2, .int (nI ((allB (hB 1 pr sn p4 sz_) (i + 1)).toNat))), (4, .int (nI 1)), (0, .ref hM), (1, .int (nI 1)), (3, .int (nI i))]) hx hb d_Model_allHold_85 rfl hl (by decide) rfl (fun ls hl => ?_)
              refine lv_iinc (v := (nI (i + 1))) (lv' := [(3, .int (nI (i + 1))), (2, .int (nI ((allB (hB 1 pr sn p4 sz_) (i + 1)).toNat))), (4, .int (nI 1)), (0, .ref hM), (1, .int (nI 1))]) hx hb d_Model_allHold_86 hl (k := 4) rfl (nI_inc _ _ _ (by omega)) (by decide) rfl (fun ls hl => ?_)
              refine lv_goto (tgt := 4) hx hb d_Model_allHold_89 (by decide) ?_
              exact ih4 (i + 1) _ (by omega) (by omega) (lv_sub hl [3, 4, 1, 0] rfl)
            · refine lv_iload hx hb d_Model_allHold_52 (lv_at hl 0 rfl) ?_
              refine n_if_eq (tgt := 84) hx hb (by omega) d_Model_allHold_54 (by decide) (fun c54 => absurd c54 (by omega)) (fun c54 => ?_)
              refine lv_aload_n hx hb d_Model_allHold_57 rfl (lv_at hl 1 rfl) ?_
              refine va_get (D := G) (ci := 10) (v := .ref (aM 17)) (C := R_Model) (T := F_Model) (N := 47) hx hb hts in_Model hown hK hP 0 rfl rfl 17 (by decide) (hts _ fl_Model_45) (fun _ h9 => h9) rfl d_Model_allHold_58 ?_
              refine lv_iload_n hx hb d_Model_allHold_61 rfl (lv_at hl 4 rfl) ?_
              refine n_iald hx hb hK hP 1 0 rfl rfl (by omega) (by omega) d_Model_allHold_62 ?_
              refine z_if_lt (tgt := 80) hx hb (by omega) d_Model_allHold_63 (by decide) (fun c63 => ?_) (fun c63 => ?_)
              · refine lv_iconst (v := (nI 1)) hx hb d_Model_allHold_80 (by decide) ?_
                refine lv_goto (tgt := 85) hx hb d_Model_allHold_81 (by decide) ?_
                refine top_i (show (nI 1) = nI (allB (hB 1 pr sn p4 sz_) (i + 1)).toNat from congrArg nI (by rw [allB_s]; first | (rw [tN_0 c49]; rfl) | (rw [tN_1 c49, show (hB 1 pr sn p4 sz_) i = true from decide_eq_true (by omega)]; rfl) | (rw [tN_1 c49, show (hB 1 pr sn p4 sz_) i = false from decide_eq_false (by omega)]; rfl))) ?_
                refine lv_istore_n (lv' := [(2, .int (nI ((allB (hB 1 pr sn p4 sz_) (i + 1)).toNat))), (4, .int (nI 1)), (0, .ref hM), (1, .int (nI 1)), (3, .int (nI i))]) hx hb d_Model_allHold_85 rfl hl (by decide) rfl (fun ls hl => ?_)
                refine lv_iinc (v := (nI (i + 1))) (lv' := [(3, .int (nI (i + 1))), (2, .int (nI ((allB (hB 1 pr sn p4 sz_) (i + 1)).toNat))), (4, .int (nI 1)), (0, .ref hM), (1, .int (nI 1))]) hx hb d_Model_allHold_86 hl (k := 4) rfl (nI_inc _ _ _ (by omega)) (by decide) rfl (fun ls hl => ?_)
                refine lv_goto (tgt := 4) hx hb d_Model_allHold_89 (by decide) ?_
                exact ih4 (i + 1) _ (by omega) (by omega) (lv_sub hl [3, 4, 1, 0] rfl)
              · refine lv_aload_n hx hb d_Model_allHold_66 rfl (lv_at hl 1 rfl) ?_
                refine lv_iload_n hx hb d_Model_allHold_67 rfl (lv_at hl 4 rfl) ?_
                refine vp_callSi (W.runV (As := [.int (nI i)]) (rest := []) ⟨hx, hb, hml, hown, hts⟩ (c_Model_countOf l G ty hM cd st al ac nf ns gg mg bw md wy sg_ sz_ ks bd aM i p4 (by omega) g4 (by omega)) ⟨callB_of 1 hts (gd_TB cd_Model_countOf) rfl rfl rfl (hts _ ini_Model) (hts _ lk_Model_257) hd_Model_countOf ⟨Nat.le_of_ble_eq_true rfl, Nat.le_of_ble_eq_true rfl⟩, hts _ im_Model_countOf, hts _ sl_Model_countOf⟩ (preV_ro (hP.sub (ws' := [(hM, .inr (10, mO cd st al ac nf ns gg mg bw md wy sg_ sz_ ks bd aM)), (aM 41, .inl (ty 0, 240, .inl (nF p4)))]) [0, 3] rfl) hX 0 rfl rfl) rfl rfl hl.1 rfl (lv_room (Nat.le_of_ble_eq_true rfl)) d_Model_allHold_68 ⟨Nat.le_of_ble_eq_true rfl, Nat.le_of_ble_eq_true rfl⟩) (fun r9 er9 => ?_)
                subst er9
                refine lv_aload_n hx hb d_Model_allHold_71 rfl (lv_at hl 1 rfl) ?_
                refine va_get (D := G) (ci := 10) (v := .ref (aM 17)) (C := R_Model) (T := F_Model) (N := 47) hx hb hts in_Model hown hK hP 0 rfl rfl 17 (by decide) (hts _ fl_Model_45) (fun _ h9 => h9) rfl d_Model_allHold_72 ?_
                refine lv_iload_n hx hb d_Model_allHold_75 rfl (lv_at hl 4 rfl) ?_
                refine n_iald hx hb hK hP 1 0 rfl rfl (by omega) (by omega) d_Model_allHold_76 ?_
                refine nz_icmp_gt (tgt := 84) hx hb (by omega) (by omega) d_Model_allHold_77 (by decide) (fun c77 => ?_) (fun c77 => ?_)
                · refine lv_iconst (v := (nI 0)) hx hb d_Model_allHold_84 (by decide) ?_
                  refine top_i (show (nI 0) = nI (allB (hB 1 pr sn p4 sz_) (i + 1)).toNat from congrArg nI (by rw [allB_s]; first | (rw [tN_0 c49]; rfl) | (rw [tN_1 c49, show (hB 1 pr sn p4 sz_) i = true from decide_eq_true (by omega)]; rfl) | (rw [tN_1 c49, show (hB 1 pr sn p4 sz_) i = false from decide_eq_false (by omega)]; rfl))) ?_
                  refine lv_istore_n (lv' := [(2, .int (nI ((allB (hB 1 pr sn p4 sz_) (i + 1)).toNat))), (4, .int (nI 1)), (0, .ref hM), (1, .int (nI 1)), (3, .int (nI i))]) hx hb d_Model_allHold_85 rfl hl (by decide) rfl (fun ls hl => ?_)
                  refine lv_iinc (v := (nI (i + 1))) (lv' := [(3, .int (nI (i + 1))), (2, .int (nI ((allB (hB 1 pr sn p4 sz_) (i + 1)).toNat))), (4, .int (nI 1)), (0, .ref hM), (1, .int (nI 1))]) hx hb d_Model_allHold_86 hl (k := 4) rfl (nI_inc _ _ _ (by omega)) (by decide) rfl (fun ls hl => ?_)
                  refine lv_goto (tgt := 4) hx hb d_Model_allHold_89 (by decide) ?_
                  exact ih4 (i + 1) _ (by omega) (by omega) (lv_sub hl [3, 4, 1, 0] rfl)
                · refine lv_iconst (v := (nI 1)) hx hb d_Model_allHold_80 (by decide) ?_
                  refine lv_goto (tgt := 85) hx hb d_Model_allHold_81 (by decide) ?_
                  refine top_i (show (nI 1) = nI (allB (hB 1 pr sn p4 sz_) (i + 1)).toNat from congrArg nI (by rw [allB_s]; first | (rw [tN_0 c49]; rfl) | (rw [tN_1 c49, show (hB 1 pr sn p4 sz_) i = true from decide_eq_true (by omega)]; rfl) | (rw [tN_1 c49, show (hB 1 pr sn p4 sz_) i = false from decide_eq_false (by omega)]; rfl))) ?_
                  refine lv_istore_n (lv' := [(2, .int (nI ((allB (hB 1 pr sn p4 sz_) (i + 1)).toNat))), (4, .int (nI 1)), (0, .ref hM), (1, .int (nI 1)), (3, .int (nI i))]) hx hb d_Model_allHold_85 rfl hl (by decide) rfl (fun ls hl => ?_)
                  refine lv_iinc (v := (nI (i + 1))) (lv' := [(3, .int (nI (i + 1))), (2, .int (nI ((allB (hB 1 pr sn p4 sz_) (i + 1)).toNat))), (4, .int (nI 1)), (0, .ref hM), (1, .int (nI 1))]) hx hb d_Model_allHold_86 hl (k := 4) rfl (nI_inc _ _ _ (by omega)) (by decide) rfl (fun ls hl => ?_)
                  refine lv_goto (tgt := 4) hx hb d_Model_allHold_89 (by decide) ?_
                  exact ih4 (i + 1) _ (by omega) (by omega) (lv_sub hl [3, 4, 1, 0] rfl)
  exact L4 (ns - 0 + 1) 0 _ (Nat.zero_le _) (Nat.lt_succ_self _) (lv_sub hl [2, 3, 1, 0] rfl)

abbrev q_Model_keep (G : va_G) (ty : Nat → ClassId) (hM : Nat) (cd : Nat) (st : Nat) (al : Nat) (ac : Nat) (nf : Nat) (ns : Nat) (gg : Nat) (mg : Nat) (bw : Nat) (md : Nat) (wy : Nat) (sg_ : Nat) (sz_ : Nat) (ks : Nat) (bd : Int) (aM : Nat → Nat) (p0 : Nat → Nat) (p1 : Nat → Nat) (p2 : Nat → Nat) (p3 : Nat → Nat) (p4 : Nat → Nat) (kp : Nat → Nat) (A : Nat → Prop) : Array Value → State → Outcome → State → Prop := va_Qv (fun (uu : (Nat → Nat)) => ∀ k, k < sz_ → uu (5 * k) = p0 k ∧ uu (5 * k + 1) = p1 k ∧ uu (5 * k + 2) = p2 k ∧ uu (5 * k + 3) = p3 k ∧ uu (5 * k + 4) = p4 k) (at_W G (fun (uu : (Nat → Nat)) => [(hM, .inr (10, mO cd st al ac nf ns gg mg bw md wy sg_ sz_ sz_ bd aM)), (aM 37, .inl (ty 0, 240, .inl (nF p0))), (aM 38, .inl (ty 0, 240, .inl (nF p1))), (aM 39, .inl (ty 0, 240, .inl (nF p2))), (aM 40, .inl (ty 0, 240, .inl (nF p3))), (aM 41, .inl (ty 0, 240, .inl (nF p4))), (aM 43, .inl (ty 0, 1200, .inl (nF uu)))]) A) A
set_option maxRecDepth 100000 in
set_option maxHeartbeats 4000000 in
theorem c_Model_keep (l : Launch) (G : va_G) (ty : Nat → ClassId) (sz : Nat) (hM : Nat) (cd : Nat) (st : Nat) (al : Nat) (ac : Nat) (nf : Nat) (ns : Nat) (gg : Nat) (mg : Nat) (bw : Nat) (md : Nat) (wy : Nat) (sg_ : Nat) (sz_ : Nat) (ks : Nat) (bd : Int) (aM : Nat → Nat) (p0 : Nat → Nat) (p1 : Nat → Nat) (p2 : Nat → Nat) (p3 : Nat → Nat) (p4 : Nat → Nat) (kp : Nat → Nat) (g1 : sz_ ≤ 240) : Met l y_Model_keep ws_Model_keep { frames := 0, cells := 0, slots := 0, locals := 0 } (va_Pc [.ref hM] (fun U => U.heap.size = sz ∧ va_P G vwCl [(hM, .inr (10, mO cd st al ac nf ns gg mg bw md wy sg_ sz_ ks bd aM)), (aM 37, .inl (ty 0, 240, .inl (nF p0))), (aM 38, .inl (ty 0, 240, .inl (nF p1))), (aM 39, .inl (ty 0, 240, .inl (nF p2))), (aM 40, .inl (ty 0, 240, .inl (nF p3))), (aM 41, .inl (ty 0, 240, .inl (nF p4))), (aM 43, .inl (ty 0, 1200, .inl (nF kp)))] U.heap ∧ KX G ty U ∧ va_D (fun _ => True) [(hM, .inr (10, mO cd st al ac nf ns gg mg bw md wy sg_ sz_ ks bd aM)), (aM 37, .inl (ty 0, 240, .inl (nF p0))), (aM 38, .inl (ty 0, 240, .inl (nF p1))), (aM 39, .inl (ty 0, 240, .inl (nF p2))), (aM 40, .inl (ty 0, 240, .inl (nF p3))), (aM 41, .inl (ty 0, 240, .inl (nF p4))), (aM 43, .inl (ty 0, 1200, .inl (nF kp)))])) (q_Model_keep G ty hM cd st al ac nf ns gg mg bw md wy sg_ sz_ ks bd aM p0 p1 p2 p3 p4 kp (va_A [(hM, .inr (10, mO cd st al ac nf ns gg mg bw md wy sg_ sz_ ks bd aM)), (aM 37, .inl (ty 0, 240, .inl (nF p0))), (aM 38, .inl (ty 0, 240, .inl (nF p1))), (aM 39, .inl (ty 0, 240, .inl (nF p2))), (aM 40, .inl (ty 0, 240, .inl (nF p3))), (aM 41, .inl (ty 0, 240, .inl (nF p4))), (aM 43, .inl (ty 0, 1200, .inl (nF kp)))] sz)) 0 0 (va_A [(hM, .inr (10, mO cd st al ac nf ns gg mg bw md wy sg_ sz_ ks bd aM)), (aM 37, .inl (ty 0, 240, .inl (nF p0))), (aM 38, .inl (ty 0, 240, .inl (nF p1))), (aM 39, .inl (ty 0, 240, .inl (nF p2))), (aM 40, .inl (ty 0, 240, .inl (nF p3))), (aM 41, .inl (ty 0, 240, .inl (nF p4))), (aM 43, .inl (ty 0, 1200, .inl (nF kp)))] sz) := by
  refine met_wr (y := y_Model_keep) (maxL := 2) (sz := sz) (G := G) (ty := ty) (mc := 0) (ms := 0) (av := [.ref hM]) (W0 := [(hM, .inr (10, mO cd st al ac nf ns gg mg bw md wy sg_ sz_ ks bd aM)), (aM 37, .inl (ty 0, 240, .inl (nF p0))), (aM 38, .inl (ty 0, 240, .inl (nF p1))), (aM 39, .inl (ty 0, 240, .inl (nF p2))), (aM 40, .inl (ty 0, 240, .inl (nF p3))), (aM 41, .inl (ty 0, 240, .inl (nF p4))), (aM 43, .inl (ty 0, 1200, .inl (nF kp)))]) (fun A => q_Model_keep G ty hM cd st al ac nf ns gg mg bw md wy sg_ sz_ ks bd aM p0 p1 p2 p3 p4 kp A) R_Model (by decide) rfl rfl (Nat.le_of_ble_eq_true rfl) ?_
  intro p e s m below meth c ls A hx hb hr hml hown hts hlocks hin hA hP hX hD hS hl
  have hK := hX.1
  have hl : lv_has ls 2 [(0, .ref hM)] := hl
  refine lv_aload_n hx hb d_Model_keep_0 rfl (lv_at hl 0 rfl) ?_
  refine lv_aload_n hx hb d_Model_keep_1 rfl (lv_at hl 0 rfl) ?_
  refine va_get (D := G) (ci := 10) (v := .int (nI sz_)) (C := R_Model) (T := F_Model) (N := 47) hx hb hts in_Model hown hK hP 0 rfl rfl 36 (by decide) (hts _ fl_Model_219) (fun _ h9 => h9) rfl d_Model_keep_2 ?_
  refine va_put (D := G) (ci := 10) (v := .int (nI sz_)) (ty := .int) (C := R_Model) (T := F_Model) (N := 47) hx hb hts in_Model t_Model t_Model_ok n_Model hown hK hP hD hS 0 rfl rfl 42 (by decide) (hts _ fl_Model_260) (fun _ h9 => h9) rfl (by decide +kernel) rfl rfl (Nat.le_of_ble_eq_true rfl) d_Model_keep_5 (fun H locs hP hD hS => ?_)
  have hP : va_P G vwCl [(hM, .inr (10, mO cd st al ac nf ns gg mg bw md wy sg_ sz_ sz_ bd aM)), (aM 37, .inl (ty 0, 240, .inl (nF p0))), (aM 38, .inl (ty 0, 240, .inl (nF p1))), (aM 39, .inl (ty 0, 240, .inl (nF p2))), (aM 40, .inl (ty 0, 240, .inl (nF p3))), (aM 41, .inl (ty 0, 240, .inl (nF p4))), (aM 43, .inl (ty 0, 1200, .inl (nF kp)))] _ := hP
  have hD : va_D A [(hM, .inr (10, mO cd st al ac nf ns gg mg bw md wy sg_ sz_ sz_ bd aM)), (aM 37, .inl (ty 0, 240, .inl (nF p0))), (aM 38, .inl (ty 0, 240, .inl (nF p1))), (aM 39, .inl (ty 0, 240, .inl (nF p2))), (aM 40, .inl (ty 0, 240, .inl (nF p3))), (aM 41, .inl (ty 0, 240, .inl (nF p4))), (aM 43, .inl (ty 0, 1200, .inl (nF kp)))] := hD
  refine lv_iconst (v := (nI 0)) hx hb d_Model_keep_8 (by decide) ?_
  refine lv_istore_n (lv' := [(1, .int (nI 0)), (0, .ref hM)]) hx hb d_Model_keep_9 rfl hl (by decide) rfl (fun ls hl => ?_)
  have L10 : ∀ (k9 : Nat) (k : Nat) (kp2 : Nat → Nat) (H : Heap) (locs : List Loc) (ls : Array Slot), (k ≤ sz_) → (∀ j, j < k → kp2 (5 * j) = p0 j ∧ kp2 (5 * j + 1) = p1 j ∧ kp2 (5 * j + 2) = p2 j ∧ kp2 (5 * j + 3) = p3 j ∧ kp2 (5 * j + 4) = p4 j) → sz_ - k < k9 → va_P G vwCl [(hM, .inr (10, mO cd st al ac nf ns gg mg bw md wy sg_ sz_ sz_ bd aM)), (aM 37, .inl (ty 0, 240, .inl (nF p0))), (aM 38, .inl (ty 0, 240, .inl (nF p1))), (aM 39, .inl (ty 0, 240, .inl (nF p2))), (aM 40, .inl (ty 0, 240, .inl (nF p3))), (aM 41, .inl (ty 0, 240, .inl (nF p4))), (aM 43, .inl (ty 0, 1200, .inl (nF kp2)))] H → va_D A [(hM, .inr (10, mO cd st al ac nf ns gg mg bw md wy sg_ sz_ sz_ bd aM)), (aM 37, .inl (ty 0, 240, .inl (nF p0))), (aM 38, .inl (ty 0, 240, .inl (nF p1))), (aM 39, .inl (ty 0, 240, .inl (nF p2))), (aM 40, .inl (ty 0, 240, .inl (nF p3))), (aM 41, .inl (ty 0, 240, .inl (nF p4))), (aM 43, .inl (ty 0, 1200, .inl (nF kp2)))] → va_S A s.heap H locs → lv_has ls 2 [(0, .ref hM), (1, .int (nI k))] → W p l e { frames := 0, cells := 0, slots := 0, locals := 0 } s m [.ref hM].toArray below meth c H locs 0 0 (MQ below (q_Model_keep G ty hM cd st al ac nf ns gg mg bw md wy sg_ sz_ ks bd aM p0 p1 p2 p3 p4 kp A) [.ref hM].toArray s 0 0 A) (F0 m 10 ls []) := by
    intro k9
    induction k9 with
    | zero => intro k kp2 H locs ls hk hA1 hk9; exact absurd hk9 (Nat.not_lt_zero _)
    | succ k9 ih10 =>
      intro k kp2 H locs ls hk hA1 hk9 hP hD hS hl
      refine lv_iload_n hx hb d_Model_keep_10 rfl (lv_at hl 1 rfl) ?_
      refine lv_aload_n hx hb d_Model_keep_11 rfl (lv_at hl 0 rfl) ?_
      refine va_get (D := G) (ci := 10) (v := .int (nI sz_)) (C := R_Model) (T := F_Model) (N := 47) hx hb hts in_Model hown hK hP 0 rfl rfl 36 (by decide) (hts _ fl_Model_219) (fun _ h9 => h9) rfl d_Model_keep_12 ?_
      refine n_icmp_ge (tgt := 102) hx hb (by omega) (by omega) d_Model_keep_15 (by decide) (fun c15 => ?_) (fun c15 => ?_)
      · exact W.vret hx hb hr (fun t9 ht hW => ⟨⟨(kp2), rfl, fun k9 h => hA1 k9 (by omega), by rw [ht]; exact hP, hD⟩, hS.F ht⟩) hS.2.2 d_Model_keep_102
      · refine lv_aload_n hx hb d_Model_keep_18 rfl (lv_at hl 0 rfl) ?_
        refine va_get (D := G) (ci := 10) (v := .ref (aM 43)) (C := R_Model) (T := F_Model) (N := 47) hx hb hts in_Model hown hK hP 0 rfl rfl 43 (by decide) (hts _ fl_Model_109) (fun _ h9 => h9) rfl d_Model_keep_19 ?_
        refine lv_iconst (v := (nI 5)) hx hb d_Model_keep_22 (by decide) ?_
        refine lv_iload_n hx hb d_Model_keep_23 rfl (lv_at hl 1 rfl) ?_
        refine n_imul hx hb d_Model_keep_24 ?_
        refine lv_aload_n hx hb d_Model_keep_25 rfl (lv_at hl 0 rfl) ?_
        refine va_get (D := G) (ci := 10) (v := .ref (aM 37)) (C := R_Model) (T := F_Model) (N := 47) hx hb hts in_Model hown hK hP 0 rfl rfl 37 (by decide) (hts _ fl_Model_94) (fun _ h9 => h9) rfl d_Model_keep_26 ?_
        refine lv_iload_n hx hb d_Model_keep_29 rfl (lv_at hl 1 rfl) ?_
        refine n_iald hx hb hK hP 1 0 rfl rfl (by omega) (by omega) d_Model_keep_30 ?_
        refine top_i (show (nI (p0 k)) = (nI (p0 k)) from rfl) ?_
        refine n_iast hx hb hK hP hD hS 6 0 rfl rfl (by omega) (by omega) d_Model_keep_31 (fun H locs hP hD hS => ?_)
        rw [upd_nF] at hP hD
        have hP : va_P G vwCl [(hM, .inr (10, mO cd st al ac nf ns gg mg bw md wy sg_ sz_ sz_ bd aM)), (aM 37, .inl (ty 0, 240, .inl (nF p0))), (aM 38, .inl (ty 0, 240, .inl (nF p1))), (aM 39, .inl (ty 0, 240, .inl (nF p2))), (aM 40, .inl (ty 0, 240, .inl (nF p3))), (aM 41, .inl (ty 0, 240, .inl (nF p4))), (aM 43, .inl (ty 0, 1200, .inl (nF (va_up kp2 (5 * k) (p0 k)))))] _ := hP
        have hD : va_D A [(hM, .inr (10, mO cd st al ac nf ns gg mg bw md wy sg_ sz_ sz_ bd aM)), (aM 37, .inl (ty 0, 240, .inl (nF p0))), (aM 38, .inl (ty 0, 240, .inl (nF p1))), (aM 39, .inl (ty 0, 240, .inl (nF p2))), (aM 40, .inl (ty 0, 240, .inl (nF p3))), (aM 41, .inl (ty 0, 240, .inl (nF p4))), (aM 43, .inl (ty 0, 1200, .inl (nF (va_up kp2 (5 * k) (p0 k)))))] := hD
        refine lv_aload_n hx hb d_Model_keep_32 rfl (lv_at hl 0 rfl) ?_
        refine va_get (D := G) (ci := 10) (v := .ref (aM 43)) (C := R_Model) (T := F_Model) (N := 47) hx hb hts in_Model hown hK hP 0 rfl rfl 43 (by decide) (hts _ fl_Model_109) (fun _ h9 => h9) rfl d_Model_keep_33 ?_
        refine lv_iconst (v := (nI 5)) hx hb d_Model_keep_36 (by decide) ?_
        refine lv_iload_n hx hb d_Model_keep_37 rfl (lv_at hl 1 rfl) ?_
        refine n_imul hx hb d_Model_keep_38 ?_
        refine lv_iconst (v := (nI 1)) hx hb d_Model_keep_39 (by decide) ?_
        refine n_iadd hx hb d_Model_keep_40 ?_
        refine lv_aload_n hx hb d_Model_keep_41 rfl (lv_at hl 0 rfl) ?_
        refine va_get (D := G) (ci := 10) (v := .ref (aM 38)) (C := R_Model) (T := F_Model) (N := 47) hx hb hts in_Model hown hK hP 0 rfl rfl 38 (by decide) (hts _ fl_Model_97) (fun _ h9 => h9) rfl d_Model_keep_42 ?_
        refine lv_iload_n hx hb d_Model_keep_45 rfl (lv_at hl 1 rfl) ?_
        refine n_iald hx hb hK hP 2 0 rfl rfl (by omega) (by omega) d_Model_keep_46 ?_
        refine top_i (show (nI (p1 k)) = (nI (p1 k)) from rfl) ?_
        refine n_iast hx hb hK hP hD hS 6 0 rfl rfl (by omega) (by omega) d_Model_keep_47 (fun H locs hP hD hS => ?_)
        rw [upd_nF] at hP hD
        have hP : va_P G vwCl [(hM, .inr (10, mO cd st al ac nf ns gg mg bw md wy sg_ sz_ sz_ bd aM)), (aM 37, .inl (ty 0, 240, .inl (nF p0))), (aM 38, .inl (ty 0, 240, .inl (nF p1))), (aM 39, .inl (ty 0, 240, .inl (nF p2))), (aM 40, .inl (ty 0, 240, .inl (nF p3))), (aM 41, .inl (ty 0, 240, .inl (nF p4))), (aM 43, .inl (ty 0, 1200, .inl (nF (va_up (va_up kp2 (5 * k) (p0 k)) ((5 * k) + 1) (p1 k)))))] _ := hP
        have hD : va_D A [(hM, .inr (10, mO cd st al ac nf ns gg mg bw md wy sg_ sz_ sz_ bd aM)), (aM 37, .inl (ty 0, 240, .inl (nF p0))), (aM 38, .inl (ty 0, 240, .inl (nF p1))), (aM 39, .inl (ty 0, 240, .inl (nF p2))), (aM 40, .inl (ty 0, 240, .inl (nF p3))), (aM 41, .inl (ty 0, 240, .inl (nF p4))), (aM 43, .inl (ty 0, 1200, .inl (nF (va_up (va_up kp2 (5 * k) (p0 k)) ((5 * k) + 1) (p1 k)))))] := hD
        refine lv_aload_n hx hb d_Model_keep_48 rfl (lv_at hl 0 rfl) ?_
        refine va_get (D := G) (ci := 10) (v := .ref (aM 43)) (C := R_Model) (T := F_Model) (N := 47) hx hb hts in_Model hown hK hP 0 rfl rfl 43 (by decide) (hts _ fl_Model_109) (fun _ h9 => h9) rfl d_Model_keep_49 ?_
        refine lv_iconst (v := (nI 5)) hx hb d_Model_keep_52 (by decide) ?_
        refine lv_iload_n hx hb d_Model_keep_53 rfl (lv_at hl 1 rfl) ?_
        refine n_imul hx hb d_Model_keep_54 ?_
        refine lv_iconst (v := (nI 2)) hx hb d_Model_keep_55 (by decide) ?_
        refine n_iadd hx hb d_Model_keep_56 ?_
        refine lv_aload_n hx hb d_Model_keep_57 rfl (lv_at hl 0 rfl) ?_
        refine va_get (D := G) (ci := 10) (v := .ref (aM 39)) (C := R_Model) (T := F_Model) (N := 47) hx hb hts in_Model hown hK hP 0 rfl rfl 39 (by decide) (hts _ fl_Model_100) (fun _ h9 => h9) rfl d_Model_keep_58 ?_
        refine lv_iload_n hx hb d_Model_keep_61 rfl (lv_at hl 1 rfl) ?_
        refine n_iald hx hb hK hP 3 0 rfl rfl (by omega) (by omega) d_Model_keep_62 ?_
        refine top_i (show (nI (p2 k)) = (nI (p2 k)) from rfl) ?_
        refine n_iast hx hb hK hP hD hS 6 0 rfl rfl (by omega) (by omega) d_Model_keep_63 (fun H locs hP hD hS => ?_)
        rw [upd_nF] at hP hD
        have hP : va_P G vwCl [(hM, .inr (10, mO cd st al ac nf ns gg mg bw md wy sg_ sz_ sz_ bd aM)), (aM 37, .inl (ty 0, 240, .inl (nF p0))), (aM 38, .inl (ty 0, 240, .inl (nF p1))), (aM 39, .inl (ty 0, 240, .inl (nF p2))), (aM 40, .inl (ty 0, 240, .inl (nF p3))), (aM 41, .inl (ty 0, 240, .inl (nF p4))), (aM 43, .inl (ty 0, 1200, .inl (nF (va_up (va_up (va_up kp2 (5 * k) (p0 k)) ((5 * k) + 1) (p1 k)) ((5 * k) + 2) (p2 k)))))] _ := hP
        have hD : va_D A [(hM, .inr (10, mO cd st al ac nf ns gg mg bw md wy sg_ sz_ sz_ bd aM)), (aM 37, .inl (ty 0, 240, .inl (nF p0))), (aM 38, .inl (ty 0, 240, .inl (nF p1))), (aM 39, .inl (ty 0, 240, .inl (nF p2))), (aM 40, .inl (ty 0, 240, .inl (nF p3))), (aM 41, .inl (ty 0, 240, .inl (nF p4))), (aM 43, .inl (ty 0, 1200, .inl (nF (va_up (va_up (va_up kp2 (5 * k) (p0 k)) ((5 * k) + 1) (p1 k)) ((5 * k) + 2) (p2 k)))))] := hD
        refine lv_aload_n hx hb d_Model_keep_64 rfl (lv_at hl 0 rfl) ?_
        refine va_get (D := G) (ci := 10) (v := .ref (aM 43)) (C := R_Model) (T := F_Model) (N := 47) hx hb hts in_Model hown hK hP 0 rfl rfl 43 (by decide) (hts _ fl_Model_109) (fun _ h9 => h9) rfl d_Model_keep_65 ?_
        refine lv_iconst (v := (nI 5)) hx hb d_Model_keep_68 (by decide) ?_
        refine lv_iload_n hx hb d_Model_keep_69 rfl (lv_at hl 1 rfl) ?_
        refine n_imul hx hb d_Model_keep_70 ?_
        refine lv_iconst (v := (nI 3)) hx hb d_Model_keep_71 (by decide) ?_
        refine n_iadd hx hb d_Model_keep_72 ?_
        refine lv_aload_n hx hb d_Model_keep_73 rfl (lv_at hl 0 rfl) ?_
        refine va_get (D := G) (ci := 10) (v := .ref (aM 40)) (C := R_Model) (T := F_Model) (N := 47) hx hb hts in_Model hown hK hP 0 rfl rfl 40 (by decide) (hts _ fl_Model_103) (fun _ h9 => h9) rfl d_Model_keep_74 ?_
        refine lv_iload_n hx hb d_Model_keep_77 rfl (lv_at hl 1 rfl) ?_
        refine n_iald hx hb hK hP 4 0 rfl rfl (by omega) (by omega) d_Model_keep_78 ?_
        refine top_i (show (nI (p3 k)) = (nI (p3 k)) from rfl) ?_
        refine n_iast hx hb hK hP hD hS 6 0 rfl rfl (by omega) (by omega) d_Model_keep_79 (fun H locs hP hD hS => ?_)
        rw [upd_nF] at hP hD
        have hP : va_P G vwCl [(hM, .inr (10, mO cd st al ac nf ns gg mg bw md wy sg_ sz_ sz_ bd aM)), (aM 37, .inl (ty 0, 240, .inl (nF p0))), (aM 38, .inl (ty 0, 240, .inl (nF p1))), (aM 39, .inl (ty 0, 240, .inl (nF p2))), (aM 40, .inl (ty 0, 240, .inl (nF p3))), (aM 41, .inl (ty 0, 240, .inl (nF p4))), (aM 43, .inl (ty 0, 1200, .inl (nF (va_up (va_up (va_up (va_up kp2 (5 * k) (p0 k)) ((5 * k) + 1) (p1 k)) ((5 * k) + 2) (p2 k)) ((5 * k) + 3) (p3 k)))))] _ := hP
        have hD : va_D A [(hM, .inr (10, mO cd st al ac nf ns gg mg bw md wy sg_ sz_ sz_ bd aM)), (aM 37, .inl (ty 0, 240, .inl (nF p0))), (aM 38, .inl (ty 0, 240, .inl (nF p1))), (aM 39, .inl (ty 0, 240, .inl (nF p2))), (aM 40, .inl (ty 0, 240, .inl (nF p3))), (aM 41, .inl (ty 0, 240, .inl (nF p4))), (aM 43, .inl (ty 0, 1200, .inl (nF (va_up (va_up (va_up (va_up kp2 (5 * k) (p0 k)) ((5 * k) + 1) (p1 k)) ((5 * k) + 2) (p2 k)) ((5 * k) + 3) (p3 k)))))] := hD
        refine lv_aload_n hx hb d_Model_keep_80 rfl (lv_at hl 0 rfl) ?_
        refine va_get (D := G) (ci := 10) (v := .ref (aM 43)) (C := R_Model) (T := F_Model) (N := 47) hx hb hts in_Model hown hK hP 0 rfl rfl 43 (by decide) (hts _ fl_Model_109) (fun _ h9 => h9) rfl d_Model_keep_81 ?_
        refine lv_iconst (v := (nI 5)) hx hb d_Model_keep_84 (by decide) ?_
        refine lv_iload_n hx hb d_Model_keep_85 rfl (lv_at hl 1 rfl) ?_
        refine n_imul hx hb d_Model_keep_86 ?_
        refine lv_iconst (v := (nI 4)) hx hb d_Model_keep_87 (by decide) ?_
        refine n_iadd hx hb d_Model_keep_88 ?_
        refine lv_aload_n hx hb d_Model_keep_89 rfl (lv_at hl 0 rfl) ?_
        refine va_get (D := G) (ci := 10) (v := .ref (aM 41)) (C := R_Model) (T := F_Model) (N := 47) hx hb hts in_Model hown hK hP 0 rfl rfl 41 (by decide) (hts _ fl_Model_106) (fun _ h9 => h9) rfl d_Model_keep_90 ?_
        refine lv_iload_n hx hb d_Model_keep_93 rfl (lv_at hl 1 rfl) ?_
        refine n_iald hx hb hK hP 5 0 rfl rfl (by omega) (by omega) d_Model_keep_94 ?_
        refine top_i (show (nI (p4 k)) = (nI (p4 k)) from rfl) ?_
        refine n_iast hx hb hK hP hD hS 6 0 rfl rfl (by omega) (by omega) d_Model_keep_95 (fun H locs hP hD hS => ?_)
        rw [upd_nF] at hP hD
        have hP : va_P G vwCl [(hM, .inr (10, mO cd st al ac nf ns gg mg bw md wy sg_ sz_ sz_ bd aM)), (aM 37, .inl (ty 0, 240, .inl (nF p0))), (aM 38, .inl (ty 0, 240, .inl (nF p1))), (aM 39, .inl (ty 0, 240, .inl (nF p2))), (aM 40, .inl (ty 0, 240, .inl (nF p3))), (aM 41, .inl (ty 0, 240, .inl (nF p4))), (aM 43, .inl (ty 0, 1200, .inl (nF (va_up (va_up (va_up (va_up (va_up kp2 (5 * k) (p0 k)) ((5 * k) + 1) (p1 k)) ((5 * k) + 2) (p2 k)) ((5 * k) + 3) (p3 k)) ((5 * k) + 4) (p4 k)))))] _ := hP
        have hD : va_D A [(hM, .inr (10, mO cd st al ac nf ns gg mg bw md wy sg_ sz_ sz_ bd aM)), (aM 37, .inl (ty 0, 240, .inl (nF p0))), (aM 38, .inl (ty 0, 240, .inl (nF p1))), (aM 39, .inl (ty 0, 240, .inl (nF p2))), (aM 40, .inl (ty 0, 240, .inl (nF p3))), (aM 41, .inl (ty 0, 240, .inl (nF p4))), (aM 43, .inl (ty 0, 1200, .inl (nF (va_up (va_up (va_up (va_up (va_up kp2 (5 * k) (p0 k)) ((5 * k) + 1) (p1 k)) ((5 * k) + 2) (p2 k)) ((5 * k) + 3) (p3 k)) ((5 * k) + 4) (p4 k)))))] := hD
        have hA2 : ∀ j, j < k + 1 → (va_up (va_up (va_up (va_up (va_up kp2 (5 * k) (p0 k)) ((5 * k) + 1) (p1 k)) ((5 * k) + 2) (p2 k)) ((5 * k) + 3) (p3 k)) ((5 * k) + 4) (p4 k)) (5 * j) = p0 j ∧ (va_up (va_up (va_up (va_up (va_up kp2 (5 * k) (p0 k)) ((5 * k) + 1) (p1 k)) ((5 * k) + 2) (p2 k)) ((5 * k) + 3) (p3 k)) ((5 * k) + 4) (p4 k)) (5 * j + 1) = p1 j ∧ (va_up (va_up (va_up (va_up (va_up kp2 (5 * k) (p0 k)) ((5 * k) + 1) (p1 k)) ((5 * k) + 2) (p2 k)) ((5 * k) + 3) (p3 k)) ((5 * k) + 4) (p4 k)) (5 * j + 2) = p2 j ∧ (va_up (va_up (va_up (va_up (va_up kp2 (5 * k) (p0 k)) ((5 * k) + 1) (p1 k)) ((5 * k) + 2) (p2 k)) ((5 * k) + 3) (p3 k)) ((5 * k) + 4) (p4 k)) (5 * j + 3) = p3 j ∧ (va_up (va_up (va_up (va_up (va_up kp2 (5 * k) (p0 k)) ((5 * k) + 1) (p1 k)) ((5 * k) + 2) (p2 k)) ((5 * k) + 3) (p3 k)) ((5 * k) + 4) (p4 k)) (5 * j + 4) = p4 j := fun j h => (Nat.lt_or_ge j k).elim (fun q => ⟨by rw [va_up_ne _ _ (by omega)]; rw [va_up_ne _ _ (by omega)]; rw [va_up_ne _ _ (by omega)]; rw [va_up_ne _ _ (by omega)]; rw [va_up_ne _ _ (by omega)]; exact (hA1 j q).1, by rw [va_up_ne _ _ (by omega)]; rw [va_up_ne _ _ (by omega)]; rw [va_up_ne _ _ (by omega)]; rw [va_up_ne _ _ (by omega)]; rw [va_up_ne _ _ (by omega)]; exact (hA1 j q).2.1, by rw [va_up_ne _ _ (by omega)]; rw [va_up_ne _ _ (by omega)]; rw [va_up_ne _ _ (by omega)]; rw [va_up_ne _ _ (by omega)]; rw [va_up_ne _ _ (by omega)]; exact (hA1 j q).2.2.1, by rw [va_up_ne _ _ (by omega)]; rw [va_up_ne _ _ (by omega)]; rw [va_up_ne _ _ (by omega)]; rw [va_up_ne _ _ (by omega)]; rw [va_up_ne _ _ (by omega)]; exact (hA1 j q).2.2.2.1, by rw [va_up_ne _ _ (by omega)]; rw [va_up_ne _ _ (by omega)]; rw [va_up_ne _ _ (by omega)]; rw [va_up_ne _ _ (by omega)]; rw [va_up_ne _ _ (by omega)]; exact (hA1 j q).2.2.2.2⟩) (fun q => by have ej : j = k := (by omega); rw [ej]; exact ⟨by rw [va_up_ne _ _ (by omega)]; rw [va_up_ne _ _ (by omega)]; rw [va_up_ne _ _ (by omega)]; rw [va_up_ne _ _ (by omega)]; rw [va_up_self], by rw [va_up_ne _ _ (by omega)]; rw [va_up_ne _ _ (by omega)]; rw [va_up_ne _ _ (by omega)]; rw [va_up_self], by rw [va_up_ne _ _ (by omega)]; rw [va_up_ne _ _ (by omega)]; rw [va_up_self], by rw [va_up_ne _ _ (by omega)]; rw [va_up_self], by rw [va_up_self]⟩)
        refine lv_iinc (v := (nI (k + 1))) (lv' := [(1, .int (nI (k + 1))), (0, .ref hM)]) hx hb d_Model_keep_96 hl (k := 1) rfl (nI_inc _ _ _ (by omega)) (by decide) rfl (fun ls hl => ?_)
        refine lv_goto (tgt := 10) hx hb d_Model_keep_99 (by decide) ?_
        exact ih10 (k + 1) (va_up (va_up (va_up (va_up (va_up kp2 (5 * k) (p0 k)) ((5 * k) + 1) (p1 k)) ((5 * k) + 2) (p2 k)) ((5 * k) + 3) (p3 k)) ((5 * k) + 4) (p4 k)) _ _ _ (by omega) hA2 (by omega) hP hD hS (lv_sub hl [1, 0] rfl)
  exact L10 (sz_ - 0 + 1) 0 kp _ _ _ (Nat.zero_le _) (fun j h => absurd h (by omega)) (Nat.lt_succ_self _) hP hD hS (lv_sub hl [1, 0] rfl)

abbrev q_Model_bringBack (G : va_G) (ty : Nat → ClassId) (hM : Nat) (cd : Nat) (st : Nat) (al : Nat) (ac : Nat) (nf : Nat) (ns : Nat) (gg : Nat) (mg : Nat) (bw : Nat) (md : Nat) (wy : Nat) (sg_ : Nat) (sz_ : Nat) (ks : Nat) (bd : Int) (aM : Nat → Nat) (p0 : Nat → Nat) (p1 : Nat → Nat) (p2 : Nat → Nat) (p3 : Nat → Nat) (p4 : Nat → Nat) (kp : Nat → Nat) (A : Nat → Prop) : Array Value → State → Outcome → State → Prop := va_Qv (fun (uu : (Nat → Nat) × (Nat → Nat) × (Nat → Nat) × (Nat → Nat) × (Nat → Nat)) => ∀ k, k < ks → uu.1 k = kp (5 * k) ∧ uu.2.1 k = kp (5 * k + 1) ∧ uu.2.2.1 k = kp (5 * k + 2) ∧ uu.2.2.2.1 k = kp (5 * k + 3) ∧ uu.2.2.2.2 k = kp (5 * k + 4)) (at_W G (fun (uu : (Nat → Nat) × (Nat → Nat) × (Nat → Nat) × (Nat → Nat) × (Nat → Nat)) => [(hM, .inr (10, mO cd st al ac nf ns gg mg bw md wy sg_ ks ks bd aM)), (aM 37, .inl (ty 0, 240, .inl (nF uu.1))), (aM 38, .inl (ty 0, 240, .inl (nF uu.2.1))), (aM 39, .inl (ty 0, 240, .inl (nF uu.2.2.1))), (aM 40, .inl (ty 0, 240, .inl (nF uu.2.2.2.1))), (aM 41, .inl (ty 0, 240, .inl (nF uu.2.2.2.2))), (aM 43, .inl (ty 0, 1200, .inl (nF kp)))]) A) A
set_option maxRecDepth 100000 in
set_option maxHeartbeats 4000000 in
theorem c_Model_bringBack (l : Launch) (G : va_G) (ty : Nat → ClassId) (sz : Nat) (hM : Nat) (cd : Nat) (st : Nat) (al : Nat) (ac : Nat) (nf : Nat) (ns : Nat) (gg : Nat) (mg : Nat) (bw : Nat) (md : Nat) (wy : Nat) (sg_ : Nat) (sz_ : Nat) (ks : Nat) (bd : Int) (aM : Nat → Nat) (p0 : Nat → Nat) (p1 : Nat → Nat) (p2 : Nat → Nat) (p3 : Nat → Nat) (p4 : Nat → Nat) (kp : Nat → Nat) (g1 : ks ≤ 240) : Met l y_Model_bringBack ws_Model_bringBack { frames := 0, cells := 0, slots := 0, locals := 0 } (va_Pc [.ref hM] (fun U => U.heap.size = sz ∧ va_P G vwCl [(hM, .inr (10, mO cd st al ac nf ns gg mg bw md wy sg_ sz_ ks bd aM)), (aM 37, .inl (ty 0, 240, .inl (nF p0))), (aM 38, .inl (ty 0, 240, .inl (nF p1))), (aM 39, .inl (ty 0, 240, .inl (nF p2))), (aM 40, .inl (ty 0, 240, .inl (nF p3))), (aM 41, .inl (ty 0, 240, .inl (nF p4))), (aM 43, .inl (ty 0, 1200, .inl (nF kp)))] U.heap ∧ KX G ty U ∧ va_D (fun _ => True) [(hM, .inr (10, mO cd st al ac nf ns gg mg bw md wy sg_ sz_ ks bd aM)), (aM 37, .inl (ty 0, 240, .inl (nF p0))), (aM 38, .inl (ty 0, 240, .inl (nF p1))), (aM 39, .inl (ty 0, 240, .inl (nF p2))), (aM 40, .inl (ty 0, 240, .inl (nF p3))), (aM 41, .inl (ty 0, 240, .inl (nF p4))), (aM 43, .inl (ty 0, 1200, .inl (nF kp)))])) (q_Model_bringBack G ty hM cd st al ac nf ns gg mg bw md wy sg_ sz_ ks bd aM p0 p1 p2 p3 p4 kp (va_A [(hM, .inr (10, mO cd st al ac nf ns gg mg bw md wy sg_ sz_ ks bd aM)), (aM 37, .inl (ty 0, 240, .inl (nF p0))), (aM 38, .inl (ty 0, 240, .inl (nF p1))), (aM 39, .inl (ty 0, 240, .inl (nF p2))), (aM 40, .inl (ty 0, 240, .inl (nF p3))), (aM 41, .inl (ty 0, 240, .inl (nF p4))), (aM 43, .inl (ty 0, 1200, .inl (nF kp)))] sz)) 0 0 (va_A [(hM, .inr (10, mO cd st al ac nf ns gg mg bw md wy sg_ sz_ ks bd aM)), (aM 37, .inl (ty 0, 240, .inl (nF p0))), (aM 38, .inl (ty 0, 240, .inl (nF p1))), (aM 39, .inl (ty 0, 240, .inl (nF p2))), (aM 40, .inl (ty 0, 240, .inl (nF p3))), (aM 41, .inl (ty 0, 240, .inl (nF p4))), (aM 43, .inl (ty 0, 1200, .inl (nF kp)))] sz) := by
  refine met_wr (y := y_Model_bringBack) (maxL := 2) (sz := sz) (G := G) (ty := ty) (mc := 0) (ms := 0) (av := [.ref hM]) (W0 := [(hM, .inr (10, mO cd st al ac nf ns gg mg bw md wy sg_ sz_ ks bd aM)), (aM 37, .inl (ty 0, 240, .inl (nF p0))), (aM 38, .inl (ty 0, 240, .inl (nF p1))), (aM 39, .inl (ty 0, 240, .inl (nF p2))), (aM 40, .inl (ty 0, 240, .inl (nF p3))), (aM 41, .inl (ty 0, 240, .inl (nF p4))), (aM 43, .inl (ty 0, 1200, .inl (nF kp)))]) (fun A => q_Model_bringBack G ty hM cd st al ac nf ns gg mg bw md wy sg_ sz_ ks bd aM p0 p1 p2 p3 p4 kp A) R_Model (by decide) rfl rfl (Nat.le_of_ble_eq_true rfl) ?_
  intro p e s m below meth c ls A hx hb hr hml hown hts hlocks hin hA hP hX hD hS hl
  have hK := hX.1
  have hl : lv_has ls 2 [(0, .ref hM)] := hl
  refine lv_aload_n hx hb d_Model_bringBack_0 rfl (lv_at hl 0 rfl) ?_
  refine lv_aload_n hx hb d_Model_bringBack_1 rfl (lv_at hl 0 rfl) ?_
  refine va_get (D := G) (ci := 10) (v := .int (nI ks)) (C := R_Model) (T := F_Model) (N := 47) hx hb hts in_Model hown hK hP 0 rfl rfl 42 (by decide) (hts _ fl_Model_260) (fun _ h9 => h9) rfl d_Model_bringBack_2 ?_
  refine va_put (D := G) (ci := 10) (v := .int (nI ks)) (ty := .int) (C := R_Model) (T := F_Model) (N := 47) hx hb hts in_Model t_Model t_Model_ok n_Model hown hK hP hD hS 0 rfl rfl 36 (by decide) (hts _ fl_Model_219) (fun _ h9 => h9) rfl (by decide +kernel) rfl rfl (Nat.le_of_ble_eq_true rfl) d_Model_bringBack_5 (fun H locs hP hD hS => ?_)
  have hP : va_P G vwCl [(hM, .inr (10, mO cd st al ac nf ns gg mg bw md wy sg_ ks ks bd aM)), (aM 37, .inl (ty 0, 240, .inl (nF p0))), (aM 38, .inl (ty 0, 240, .inl (nF p1))), (aM 39, .inl (ty 0, 240, .inl (nF p2))), (aM 40, .inl (ty 0, 240, .inl (nF p3))), (aM 41, .inl (ty 0, 240, .inl (nF p4))), (aM 43, .inl (ty 0, 1200, .inl (nF kp)))] _ := hP
  have hD : va_D A [(hM, .inr (10, mO cd st al ac nf ns gg mg bw md wy sg_ ks ks bd aM)), (aM 37, .inl (ty 0, 240, .inl (nF p0))), (aM 38, .inl (ty 0, 240, .inl (nF p1))), (aM 39, .inl (ty 0, 240, .inl (nF p2))), (aM 40, .inl (ty 0, 240, .inl (nF p3))), (aM 41, .inl (ty 0, 240, .inl (nF p4))), (aM 43, .inl (ty 0, 1200, .inl (nF kp)))] := hD
  refine lv_iconst (v := (nI 0)) hx hb d_Model_bringBack_8 (by decide) ?_
  refine lv_istore_n (lv' := [(1, .int (nI 0)), (0, .ref hM)]) hx hb d_Model_bringBack_9 rfl hl (by decide) rfl (fun ls hl => ?_)
  have L10 : ∀ (k9 : Nat) (k : Nat) (q0 : Nat → Nat) (q1 : Nat → Nat) (q2 : Nat → Nat) (q3 : Nat → Nat) (q4 : Nat → Nat) (H : Heap) (locs : List Loc) (ls : Array Slot), (k ≤ ks) → (∀ j, j < k → q0 j = kp (5 * j) ∧ q1 j = kp (5 * j + 1) ∧ q2 j = kp (5 * j + 2) ∧ q3 j = kp (5 * j + 3) ∧ q4 j = kp (5 * j + 4)) → ks - k < k9 → va_P G vwCl [(hM, .inr (10, mO cd st al ac nf ns gg mg bw md wy sg_ ks ks bd aM)), (aM 37, .inl (ty 0, 240, .inl (nF q0))), (aM 38, .inl (ty 0, 240, .inl (nF q1))), (aM 39, .inl (ty 0, 240, .inl (nF q2))), (aM 40, .inl (ty 0, 240, .inl (nF q3))), (aM 41, .inl (ty 0, 240, .inl (nF q4))), (aM 43, .inl (ty 0, 1200, .inl (nF kp)))] H → va_D A [(hM, .inr (10, mO cd st al ac nf ns gg mg bw md wy sg_ ks ks bd aM)), (aM 37, .inl (ty 0, 240, .inl (nF q0))), (aM 38, .inl (ty 0, 240, .inl (nF q1))), (aM 39, .inl (ty 0, 240, .inl (nF q2))), (aM 40, .inl (ty 0, 240, .inl (nF q3))), (aM 41, .inl (ty 0, 240, .inl (nF q4))), (aM 43, .inl (ty 0, 1200, .inl (nF kp)))] → va_S A s.heap H locs → lv_has ls 2 [(0, .ref hM), (1, .int (nI k))] → W p l e { frames := 0, cells := 0, slots := 0, locals := 0 } s m [.ref hM].toArray below meth c H locs 0 0 (MQ below (q_Model_bringBack G ty hM cd st al ac nf ns gg mg bw md wy sg_ sz_ ks bd aM p0 p1 p2 p3 p4 kp A) [.ref hM].toArray s 0 0 A) (F0 m 10 ls []) := by
    intro k9
    induction k9 with
    | zero => intro k q0 q1 q2 q3 q4 H locs ls hk hA1 hk9; exact absurd hk9 (Nat.not_lt_zero _)
    | succ k9 ih10 =>
      intro k q0 q1 q2 q3 q4 H locs ls hk hA1 hk9 hP hD hS hl
      refine lv_iload_n hx hb d_Model_bringBack_10 rfl (lv_at hl 1 rfl) ?_
      refine lv_aload_n hx hb d_Model_bringBack_11 rfl (lv_at hl 0 rfl) ?_
      refine va_get (D := G) (ci := 10) (v := .int (nI ks)) (C := R_Model) (T := F_Model) (N := 47) hx hb hts in_Model hown hK hP 0 rfl rfl 36 (by decide) (hts _ fl_Model_219) (fun _ h9 => h9) rfl d_Model_bringBack_12 ?_
      refine n_icmp_ge (tgt := 102) hx hb (by omega) (by omega) d_Model_bringBack_15 (by decide) (fun c15 => ?_) (fun c15 => ?_)
      · exact W.vret hx hb hr (fun t9 ht hW => ⟨⟨(q0, q1, q2, q3, q4), rfl, fun k9 h => hA1 k9 (by omega), by rw [ht]; exact hP, hD⟩, hS.F ht⟩) hS.2.2 d_Model_bringBack_102
      · refine lv_aload_n hx hb d_Model_bringBack_18 rfl (lv_at hl 0 rfl) ?_
        refine va_get (D := G) (ci := 10) (v := .ref (aM 37)) (C := R_Model) (T := F_Model) (N := 47) hx hb hts in_Model hown hK hP 0 rfl rfl 37 (by decide) (hts _ fl_Model_94) (fun _ h9 => h9) rfl d_Model_bringBack_19 ?_
        refine lv_iload_n hx hb d_Model_bringBack_22 rfl (lv_at hl 1 rfl) ?_
        refine lv_aload_n hx hb d_Model_bringBack_23 rfl (lv_at hl 0 rfl) ?_
        refine va_get (D := G) (ci := 10) (v := .ref (aM 43)) (C := R_Model) (T := F_Model) (N := 47) hx hb hts in_Model hown hK hP 0 rfl rfl 43 (by decide) (hts _ fl_Model_109) (fun _ h9 => h9) rfl d_Model_bringBack_24 ?_
        refine lv_iconst (v := (nI 5)) hx hb d_Model_bringBack_27 (by decide) ?_
        refine lv_iload_n hx hb d_Model_bringBack_28 rfl (lv_at hl 1 rfl) ?_
        refine n_imul hx hb d_Model_bringBack_29 ?_
        refine n_iald hx hb hK hP 6 0 rfl rfl (by omega) (by omega) d_Model_bringBack_30 ?_
        refine top_i (show (nI (kp (5 * k))) = (nI (kp (5 * k))) from rfl) ?_
        refine n_iast hx hb hK hP hD hS 1 0 rfl rfl (by omega) (by omega) d_Model_bringBack_31 (fun H locs hP hD hS => ?_)
        rw [upd_nF] at hP hD
        have hP : va_P G vwCl [(hM, .inr (10, mO cd st al ac nf ns gg mg bw md wy sg_ ks ks bd aM)), (aM 37, .inl (ty 0, 240, .inl (nF (va_up q0 k (kp (5 * k)))))), (aM 38, .inl (ty 0, 240, .inl (nF q1))), (aM 39, .inl (ty 0, 240, .inl (nF q2))), (aM 40, .inl (ty 0, 240, .inl (nF q3))), (aM 41, .inl (ty 0, 240, .inl (nF q4))), (aM 43, .inl (ty 0, 1200, .inl (nF kp)))] _ := hP
        have hD : va_D A [(hM, .inr (10, mO cd st al ac nf ns gg mg bw md wy sg_ ks ks bd aM)), (aM 37, .inl (ty 0, 240, .inl (nF (va_up q0 k (kp (5 * k)))))), (aM 38, .inl (ty 0, 240, .inl (nF q1))), (aM 39, .inl (ty 0, 240, .inl (nF q2))), (aM 40, .inl (ty 0, 240, .inl (nF q3))), (aM 41, .inl (ty 0, 240, .inl (nF q4))), (aM 43, .inl (ty 0, 1200, .inl (nF kp)))] := hD
        refine lv_aload_n hx hb d_Model_bringBack_32 rfl (lv_at hl 0 rfl) ?_
        refine va_get (D := G) (ci := 10) (v := .ref (aM 38)) (C := R_Model) (T := F_Model) (N := 47) hx hb hts in_Model hown hK hP 0 rfl rfl 38 (by decide) (hts _ fl_Model_97) (fun _ h9 => h9) rfl d_Model_bringBack_33 ?_
        refine lv_iload_n hx hb d_Model_bringBack_36 rfl (lv_at hl 1 rfl) ?_
        refine lv_aload_n hx hb d_Model_bringBack_37 rfl (lv_at hl 0 rfl) ?_
        refine va_get (D := G) (ci := 10) (v := .ref (aM 43)) (C := R_Model) (T := F_Model) (N := 47) hx hb hts in_Model hown hK hP 0 rfl rfl 43 (by decide) (hts _ fl_Model_109) (fun _ h9 => h9) rfl d_Model_bringBack_38 ?_
        refine lv_iconst (v := (nI 5)) hx hb d_Model_bringBack_41 (by decide) ?_
        refine lv_iload_n hx hb d_Model_bringBack_42 rfl (lv_at hl 1 rfl) ?_
        refine n_imul hx hb d_Model_bringBack_43 ?_
        refine lv_iconst (v := (nI 1)) hx hb d_Model_bringBack_44 (by decide) ?_
        refine n_iadd hx hb d_Model_bringBack_45 ?_
        refine n_iald hx hb hK hP 6 0 rfl rfl (by omega) (by omega) d_Model_bringBack_46 ?_
        refine top_i (show (nI (kp ((5 * k) + 1))) = (nI (kp (5 * k + 1))) from rfl) ?_
        refine n_iast hx hb hK hP hD hS 2 0 rfl rfl (by omega) (by omega) d_Model_bringBack_47 (fun H locs hP hD hS => ?_)
        rw [upd_nF] at hP hD
        have hP : va_P G vwCl [(hM, .inr (10, mO cd st al ac nf ns gg mg bw md wy sg_ ks ks bd aM)), (aM 37, .inl (ty 0, 240, .inl (nF (va_up q0 k (kp (5 * k)))))), (aM 38, .inl (ty 0, 240, .inl (nF (va_up q1 k (kp (5 * k + 1)))))), (aM 39, .inl (ty 0, 240, .inl (nF q2))), (aM 40, .inl (ty 0, 240, .inl (nF q3))), (aM 41, .inl (ty 0, 240, .inl (nF q4))), (aM 43, .inl (ty 0, 1200, .inl (nF kp)))] _ := hP
        have hD : va_D A [(hM, .inr (10, mO cd st al ac nf ns gg mg bw md wy sg_ ks ks bd aM)), (aM 37, .inl (ty 0, 240, .inl (nF (va_up q0 k (kp (5 * k)))))), (aM 38, .inl (ty 0, 240, .inl (nF (va_up q1 k (kp (5 * k + 1)))))), (aM 39, .inl (ty 0, 240, .inl (nF q2))), (aM 40, .inl (ty 0, 240, .inl (nF q3))), (aM 41, .inl (ty 0, 240, .inl (nF q4))), (aM 43, .inl (ty 0, 1200, .inl (nF kp)))] := hD
        refine lv_aload_n hx hb d_Model_bringBack_48 rfl (lv_at hl 0 rfl) ?_
        refine va_get (D := G) (ci := 10) (v := .ref (aM 39)) (C := R_Model) (T := F_Model) (N := 47) hx hb hts in_Model hown hK hP 0 rfl rfl 39 (by decide) (hts _ fl_Model_100) (fun _ h9 => h9) rfl d_Model_bringBack_49 ?_
        refine lv_iload_n hx hb d_Model_bringBack_52 rfl (lv_at hl 1 rfl) ?_
        refine lv_aload_n hx hb d_Model_bringBack_53 rfl (lv_at hl 0 rfl) ?_
        refine va_get (D := G) (ci := 10) (v := .ref (aM 43)) (C := R_Model) (T := F_Model) (N := 47) hx hb hts in_Model hown hK hP 0 rfl rfl 43 (by decide) (hts _ fl_Model_109) (fun _ h9 => h9) rfl d_Model_bringBack_54 ?_
        refine lv_iconst (v := (nI 5)) hx hb d_Model_bringBack_57 (by decide) ?_
        refine lv_iload_n hx hb d_Model_bringBack_58 rfl (lv_at hl 1 rfl) ?_
        refine n_imul hx hb d_Model_bringBack_59 ?_
        refine lv_iconst (v := (nI 2)) hx hb d_Model_bringBack_60 (by decide) ?_
        refine n_iadd hx hb d_Model_bringBack_61 ?_
        refine n_iald hx hb hK hP 6 0 rfl rfl (by omega) (by omega) d_Model_bringBack_62 ?_
        refine top_i (show (nI (kp ((5 * k) + 2))) = (nI (kp (5 * k + 2))) from rfl) ?_
        refine n_iast hx hb hK hP hD hS 3 0 rfl rfl (by omega) (by omega) d_Model_bringBack_63 (fun H locs hP hD hS => ?_)
        rw [upd_nF] at hP hD
        have hP : va_P G vwCl [(hM, .inr (10, mO cd st al ac nf ns gg mg bw md wy sg_ ks ks bd aM)), (aM 37, .inl (ty 0, 240, .inl (nF (va_up q0 k (kp (5 * k)))))), (aM 38, .inl (ty 0, 240, .inl (nF (va_up q1 k (kp (5 * k + 1)))))), (aM 39, .inl (ty 0, 240, .inl (nF (va_up q2 k (kp (5 * k + 2)))))), (aM 40, .inl (ty 0, 240, .inl (nF q3))), (aM 41, .inl (ty 0, 240, .inl (nF q4))), (aM 43, .inl (ty 0, 1200, .inl (nF kp)))] _ := hP
        have hD : va_D A [(hM, .inr (10, mO cd st al ac nf ns gg mg bw md wy sg_ ks ks bd aM)), (aM 37, .inl (ty 0, 240, .inl (nF (va_up q0 k (kp (5 * k)))))), (aM 38, .inl (ty 0, 240, .inl (nF (va_up q1 k (kp (5 * k + 1)))))), (aM 39, .inl (ty 0, 240, .inl (nF (va_up q2 k (kp (5 * k + 2)))))), (aM 40, .inl (ty 0, 240, .inl (nF q3))), (aM 41, .inl (ty 0, 240, .inl (nF q4))), (aM 43, .inl (ty 0, 1200, .inl (nF kp)))] := hD
        refine lv_aload_n hx hb d_Model_bringBack_64 rfl (lv_at hl 0 rfl) ?_
        refine va_get (D := G) (ci := 10) (v := .ref (aM 40)) (C := R_Model) (T := F_Model) (N := 47) hx hb hts in_Model hown hK hP 0 rfl rfl 40 (by decide) (hts _ fl_Model_103) (fun _ h9 => h9) rfl d_Model_bringBack_65 ?_
        refine lv_iload_n hx hb d_Model_bringBack_68 rfl (lv_at hl 1 rfl) ?_
        refine lv_aload_n hx hb d_Model_bringBack_69 rfl (lv_at hl 0 rfl) ?_
        refine va_get (D := G) (ci := 10) (v := .ref (aM 43)) (C := R_Model) (T := F_Model) (N := 47) hx hb hts in_Model hown hK hP 0 rfl rfl 43 (by decide) (hts _ fl_Model_109) (fun _ h9 => h9) rfl d_Model_bringBack_70 ?_
        refine lv_iconst (v := (nI 5)) hx hb d_Model_bringBack_73 (by decide) ?_
        refine lv_iload_n hx hb d_Model_bringBack_74 rfl (lv_at hl 1 rfl) ?_
        refine n_imul hx hb d_Model_bringBack_75 ?_
        refine lv_iconst (v := (nI 3)) hx hb d_Model_bringBack_76 (by decide) ?_
        refine n_iadd hx hb d_Model_bringBack_77 ?_
        refine n_iald hx hb hK hP 6 0 rfl rfl (by omega) (by omega) d_Model_bringBack_78 ?_
        refine top_i (show (nI (kp ((5 * k) + 3))) = (nI (kp (5 * k + 3))) from rfl) ?_
        refine n_iast hx hb hK hP hD hS 4 0 rfl rfl (by omega) (by omega) d_Model_bringBack_79 (fun H locs hP hD hS => ?_)
        rw [upd_nF] at hP hD
        have hP : va_P G vwCl [(hM, .inr (10, mO cd st al ac nf ns gg mg bw md wy sg_ ks ks bd aM)), (aM 37, .inl (ty 0, 240, .inl (nF (va_up q0 k (kp (5 * k)))))), (aM 38, .inl (ty 0, 240, .inl (nF (va_up q1 k (kp (5 * k + 1)))))), (aM 39, .inl (ty 0, 240, .inl (nF (va_up q2 k (kp (5 * k + 2)))))), (aM 40, .inl (ty 0, 240, .inl (nF (va_up q3 k (kp (5 * k + 3)))))), (aM 41, .inl (ty 0, 240, .inl (nF q4))), (aM 43, .inl (ty 0, 1200, .inl (nF kp)))] _ := hP
        have hD : va_D A [(hM, .inr (10, mO cd st al ac nf ns gg mg bw md wy sg_ ks ks bd aM)), (aM 37, .inl (ty 0, 240, .inl (nF (va_up q0 k (kp (5 * k)))))), (aM 38, .inl (ty 0, 240, .inl (nF (va_up q1 k (kp (5 * k + 1)))))), (aM 39, .inl (ty 0, 240, .inl (nF (va_up q2 k (kp (5 * k + 2)))))), (aM 40, .inl (ty 0, 240, .inl (nF (va_up q3 k (kp (5 * k + 3)))))), (aM 41, .inl (ty 0, 240, .inl (nF q4))), (aM 43, .inl (ty 0, 1200, .inl (nF kp)))] := hD
        refine lv_aload_n hx hb d_Model_bringBack_80 rfl (lv_at hl 0 rfl) ?_
        refine va_get (D := G) (ci := 10) (v := .ref (aM 41)) (C := R_Model) (T := F_Model) (N := 47) hx hb hts in_Model hown hK hP 0 rfl rfl 41 (by decide) (hts _ fl_Model_106) (fun _ h9 => h9) rfl d_Model_bringBack_81 ?_
        refine lv_iload_n hx hb d_Model_bringBack_84 rfl (lv_at hl 1 rfl) ?_
        refine lv_aload_n hx hb d_Model_bringBack_85 rfl (lv_at hl 0 rfl) ?_
        refine va_get (D := G) (ci := 10) (v := .ref (aM 43)) (C := R_Model) (T := F_Model) (N := 47) hx hb hts in_Model hown hK hP 0 rfl rfl 43 (by decide) (hts _ fl_Model_109) (fun _ h9 => h9) rfl d_Model_bringBack_86 ?_
        refine lv_iconst (v := (nI 5)) hx hb d_Model_bringBack_89 (by decide) ?_
        refine lv_iload_n hx hb d_Model_bringBack_90 rfl (lv_at hl 1 rfl) ?_
        refine n_imul hx hb d_Model_bringBack_91 ?_
        refine lv_iconst (v := (nI 4)) hx hb d_Model_bringBack_92 (by decide) ?_
        refine n_iadd hx hb d_Model_bringBack_93 ?_
        refine n_iald hx hb hK hP 6 0 rfl rfl (by omega) (by omega) d_Model_bringBack_94 ?_
        refine top_i (show (nI (kp ((5 * k) + 4))) = (nI (kp (5 * k + 4))) from rfl) ?_
        refine n_iast hx hb hK hP hD hS 5 0 rfl rfl (by omega) (by omega) d_Model_bringBack_95 (fun H locs hP hD hS => ?_)
        rw [upd_nF] at hP hD
        have hP : va_P G vwCl [(hM, .inr (10, mO cd st al ac nf ns gg mg bw md wy sg_ ks ks bd aM)), (aM 37, .inl (ty 0, 240, .inl (nF (va_up q0 k (kp (5 * k)))))), (aM 38, .inl (ty 0, 240, .inl (nF (va_up q1 k (kp (5 * k + 1)))))), (aM 39, .inl (ty 0, 240, .inl (nF (va_up q2 k (kp (5 * k + 2)))))), (aM 40, .inl (ty 0, 240, .inl (nF (va_up q3 k (kp (5 * k + 3)))))), (aM 41, .inl (ty 0, 240, .inl (nF (va_up q4 k (kp (5 * k + 4)))))), (aM 43, .inl (ty 0, 1200, .inl (nF kp)))] _ := hP
        have hD : va_D A [(hM, .inr (10, mO cd st al ac nf ns gg mg bw md wy sg_ ks ks bd aM)), (aM 37, .inl (ty 0, 240, .inl (nF (va_up q0 k (kp (5 * k)))))), (aM 38, .inl (ty 0, 240, .inl (nF (va_up q1 k (kp (5 * k + 1)))))), (aM 39, .inl (ty 0, 240, .inl (nF (va_up q2 k (kp (5 * k + 2)))))), (aM 40, .inl (ty 0, 240, .inl (nF (va_up q3 k (kp (5 * k + 3)))))), (aM 41, .inl (ty 0, 240, .inl (nF (va_up q4 k (kp (5 * k + 4)))))), (aM 43, .inl (ty 0, 1200, .inl (nF kp)))] := hD
        refine lv_iinc (v := (nI (k + 1))) (lv' := [(1, .int (nI (k + 1))), (0, .ref hM)]) hx hb d_Model_bringBack_96 hl (k := 1) rfl (nI_inc _ _ _ (by omega)) (by decide) rfl (fun ls hl => ?_)
        refine lv_goto (tgt := 10) hx hb d_Model_bringBack_99 (by decide) ?_
        exact ih10 (k + 1) (va_up q0 k (kp (5 * k))) (va_up q1 k (kp (5 * k + 1))) (va_up q2 k (kp (5 * k + 2))) (va_up q3 k (kp (5 * k + 3))) (va_up q4 k (kp (5 * k + 4))) _ _ _ (by omega) (fun j h => (Nat.lt_or_ge j k).elim (fun q => by simp only [va_up_ne _ _ (show j ≠ k by omega)]; exact hA1 j q) (fun q => by have ej : j = k := (by omega); rw [ej]; simp only [va_up_self]; simp)) (by omega) hP hD hS (lv_sub hl [1, 0] rfl)
  exact L10 (ks - 0 + 1) 0 p0 p1 p2 p3 p4 _ _ _ (Nat.zero_le _) (fun j h => absurd h (by omega)) (Nat.lt_succ_self _) hP hD hS (lv_sub hl [1, 0] rfl)

abbrev q_Model_setPrices (G : va_G) (ty : Nat → ClassId) (hM : Nat) (cd : Nat) (st : Nat) (al : Nat) (ac : Nat) (nf : Nat) (ns : Nat) (gg : Nat) (mg : Nat) (bw : Nat) (md : Nat) (wy : Nat) (sg_ : Nat) (sz_ : Nat) (ks : Nat) (bd : Int) (aM : Nat → Nat) (r : Nat) (sn : Nat → Int) (pr : Nat → Int) (lp : Nat → Int) (p4 : Nat → Nat) (A : Nat → Prop) : Array Value → State → Outcome → State → Prop := va_Qv (fun (uu : (Nat → Int) × (Nat → Int)) => ∀ i, i < ns → uu.2 i = pr i ∧ uu.1 i = nxP sn pr p4 sz_ (max 1 (256 / r)) i) (at_W G (fun (uu : (Nat → Int) × (Nat → Int)) => [(hM, .inr (10, mO cd st al ac nf ns gg mg bw md wy sg_ sz_ ks bd aM)), (aM 17, .inl (ty 0, 8, .inl (zF sn))), (aM 18, .inl (ty 1, 8, .inr (.inl (lF uu.1)))), (aM 19, .inl (ty 1, 8, .inr (.inl (lF uu.2)))), (aM 41, .inl (ty 0, 240, .inl (nF p4)))]) A) A
set_option maxRecDepth 100000 in
set_option maxHeartbeats 4000000 in
theorem c_Model_setPrices (l : Launch) (G : va_G) (ty : Nat → ClassId) (sz : Nat) (hM : Nat) (cd : Nat) (st : Nat) (al : Nat) (ac : Nat) (nf : Nat) (ns : Nat) (gg : Nat) (mg : Nat) (bw : Nat) (md : Nat) (wy : Nat) (sg_ : Nat) (sz_ : Nat) (ks : Nat) (bd : Int) (aM : Nat → Nat) (r : Nat) (sn : Nat → Int) (pr : Nat → Int) (lp : Nat → Int) (p4 : Nat → Nat) (g1 : sz_ ≤ 240) (g4 : ∀ k, k < sz_ → p4 k < 8) (g8 : ns ≤ 8) (gn : ∀ i, i < ns → -1 ≤ sn i ∧ sn i ≤ 1000) (gp : ∀ i, i < ns → 0 ≤ pr i ∧ pr i ≤ 1000000000) (gr : 1 ≤ r ∧ r ≤ 6) : Met l y_Model_setPrices ws_Model_setPrices { frames := 1, cells := 0, slots := 0, locals := 23 } (va_Pc [.ref hM, .int (nI r)] (fun U => U.heap.size = sz ∧ va_P G vwCl [(hM, .inr (10, mO cd st al ac nf ns gg mg bw md wy sg_ sz_ ks bd aM)), (aM 17, .inl (ty 0, 8, .inl (zF sn))), (aM 18, .inl (ty 1, 8, .inr (.inl (lF pr)))), (aM 19, .inl (ty 1, 8, .inr (.inl (lF lp)))), (aM 41, .inl (ty 0, 240, .inl (nF p4)))] U.heap ∧ KX G ty U ∧ va_D (fun _ => True) [(hM, .inr (10, mO cd st al ac nf ns gg mg bw md wy sg_ sz_ ks bd aM)), (aM 17, .inl (ty 0, 8, .inl (zF sn))), (aM 18, .inl (ty 1, 8, .inr (.inl (lF pr)))), (aM 19, .inl (ty 1, 8, .inr (.inl (lF lp)))), (aM 41, .inl (ty 0, 240, .inl (nF p4)))])) (q_Model_setPrices G ty hM cd st al ac nf ns gg mg bw md wy sg_ sz_ ks bd aM r sn pr lp p4 (va_A [(hM, .inr (10, mO cd st al ac nf ns gg mg bw md wy sg_ sz_ ks bd aM)), (aM 17, .inl (ty 0, 8, .inl (zF sn))), (aM 18, .inl (ty 1, 8, .inr (.inl (lF pr)))), (aM 19, .inl (ty 1, 8, .inr (.inl (lF lp)))), (aM 41, .inl (ty 0, 240, .inl (nF p4)))] sz)) 0 0 (va_A [(hM, .inr (10, mO cd st al ac nf ns gg mg bw md wy sg_ sz_ ks bd aM)), (aM 17, .inl (ty 0, 8, .inl (zF sn))), (aM 18, .inl (ty 1, 8, .inr (.inl (lF pr)))), (aM 19, .inl (ty 1, 8, .inr (.inl (lF lp)))), (aM 41, .inl (ty 0, 240, .inl (nF p4)))] sz) := by
  refine met_wr (y := y_Model_setPrices) (maxL := 7) (sz := sz) (G := G) (ty := ty) (mc := 0) (ms := 0) (av := [.ref hM, .int (nI r)]) (W0 := [(hM, .inr (10, mO cd st al ac nf ns gg mg bw md wy sg_ sz_ ks bd aM)), (aM 17, .inl (ty 0, 8, .inl (zF sn))), (aM 18, .inl (ty 1, 8, .inr (.inl (lF pr)))), (aM 19, .inl (ty 1, 8, .inr (.inl (lF lp)))), (aM 41, .inl (ty 0, 240, .inl (nF p4)))]) (fun A => q_Model_setPrices G ty hM cd st al ac nf ns gg mg bw md wy sg_ sz_ ks bd aM r sn pr lp p4 A) R_Model (by decide) rfl rfl (Nat.le_of_ble_eq_true rfl) ?_
  intro p e s m below meth c ls A hx hb hr hml hown hts hlocks hin hA hP hX hD hS hl
  have hK := hX.1
  have hl : lv_has ls 7 [(0, .ref hM), (1, .int (nI r))] := hl
  obtain ⟨sd, esd⟩ : ∃ sd, sd = max 1 (256 / r) := ⟨_, rfl⟩
  have hdv : 256 / r ≤ 256 := Nat.div_le_self _ _
  have hsd : sd ≤ 256 := by rw [esd]; omega
  refine lv_sipush (v := (nI 256)) hx hb d_Model_setPrices_0 (by decide) ?_
  refine lv_iload_n hx hb d_Model_setPrices_3 rfl (lv_at hl 1 rfl) ?_
  refine n_idiv hx hb (by omega) (by omega) (by omega) d_Model_setPrices_4 ?_
  refine lv_iconst (v := (nI 1)) hx hb d_Model_setPrices_5 (by decide) ?_
  refine n_icmp_le (tgt := 18) hx hb (by omega) (by omega) d_Model_setPrices_6 (by decide) (fun c6 => ?_) (fun c6 => ?_)
  · refine lv_lconst (v := iL 1) hx hb d_Model_setPrices_18 (by decide) ?_
    refine top_l (show (iL 1) = iL ((sd : Nat) : Int) from congrArg iL (by rw [esd]; omega)) ?_
    refine lv_lstore_n (lv' := [(2, .long (iL ((sd : Nat) : Int))), (0, .ref hM), (1, .int (nI r))]) hx hb d_Model_setPrices_19 rfl hl (by decide) rfl (fun ls hl => ?_)
    refine lv_iconst (v := (nI 0)) hx hb d_Model_setPrices_20 (by decide) ?_
    refine lv_istore (lv' := [(4, .int (nI 0)), (2, .long (iL ((sd : Nat) : Int))), (0, .ref hM), (1, .int (nI r))]) hx hb d_Model_setPrices_21 hl (by decide) rfl (fun ls hl => ?_)
    have L23 : ∀ (k9 : Nat) (i : Nat) (pq : Nat → Int) (lq : Nat → Int) (H : Heap) (locs : List Loc) (ls : Array Slot), (i ≤ ns) → (∀ j, j < i → lq j = pr j ∧ pq j = nxP sn pr p4 sz_ sd j) → (∀ j, i ≤ j → pq j = pr j) → ns - i < k9 → va_P G vwCl [(hM, .inr (10, mO cd st al ac nf ns gg mg bw md wy sg_ sz_ ks bd aM)), (aM 17, .inl (ty 0, 8, .inl (zF sn))), (aM 18, .inl (ty 1, 8, .inr (.inl (lF pq)))), (aM 19, .inl (ty 1, 8, .inr (.inl (lF lq)))), (aM 41, .inl (ty 0, 240, .inl (nF p4)))] H → va_D A [(hM, .inr (10, mO cd st al ac nf ns gg mg bw md wy sg_ sz_ ks bd aM)), (aM 17, .inl (ty 0, 8, .inl (zF sn))), (aM 18, .inl (ty 1, 8, .inr (.inl (lF pq)))), (aM 19, .inl (ty 1, 8, .inr (.inl (lF lq)))), (aM 41, .inl (ty 0, 240, .inl (nF p4)))] → va_S A s.heap H locs → lv_has ls 7 [(0, .ref hM), (2, .long (iL ((sd : Nat) : Int))), (4, .int (nI i))] → W p l e { frames := 1, cells := 0, slots := 0, locals := 23 } s m [.ref hM, .int (nI r)].toArray below meth c H locs 0 0 (MQ below (q_Model_setPrices G ty hM cd st al ac nf ns gg mg bw md wy sg_ sz_ ks bd aM r sn pr lp p4 A) [.ref hM, .int (nI r)].toArray s 0 0 A) (F0 m 23 ls []) := by
      intro k9
      induction k9 with
      | zero => intro i pq lq H locs ls hi hA1 hB1 hk9; exact absurd hk9 (Nat.not_lt_zero _)
      | succ k9 ih23 =>
        intro i pq lq H locs ls hi hA1 hB1 hk9 hP hD hS hl
        refine lv_iload hx hb d_Model_setPrices_23 (lv_at hl 2 rfl) ?_
        refine lv_aload_n hx hb d_Model_setPrices_25 rfl (lv_at hl 0 rfl) ?_
        refine va_get (D := G) (ci := 10) (v := .int (nI ns)) (C := R_Model) (T := F_Model) (N := 47) hx hb hts in_Model hown hK hP 0 rfl rfl 11 (by decide) (hts _ fl_Model_158) (fun _ h9 => h9) rfl d_Model_setPrices_26 ?_
        refine n_icmp_ge (tgt := 109) hx hb (by omega) (by omega) d_Model_setPrices_29 (by decide) (fun c29 => ?_) (fun c29 => ?_)
        · exact W.vret hx hb hr (fun t9 ht hW => ⟨⟨(pq, lq), rfl, fun j h => by rw [← esd]; exact hA1 j (by omega), by rw [ht]; exact hP, hD⟩, hS.F ht⟩) hS.2.2 d_Model_setPrices_109
        · have hn := gn i (by omega)
          have hp := gp i (by omega)
          have hcl := cntF_le p4 sz_ i
          have hpi := hB1 i (Nat.le_refl i)
          have hms := sd_mul (show -1000 ≤ ((cntF p4 sz_ i : Nat) : Int) - sn i ∧ ((cntF p4 sz_ i : Nat) : Int) - sn i ≤ 1001 by omega) hsd hp
          refine lv_aload_n hx hb d_Model_setPrices_32 rfl (lv_at hl 0 rfl) ?_
          refine va_get (D := G) (ci := 10) (v := .ref (aM 19)) (C := R_Model) (T := F_Model) (N := 47) hx hb hts in_Model hown hK hP 0 rfl rfl 19 (by decide) (hts _ fl_Model_51) (fun _ h9 => h9) rfl d_Model_setPrices_33 ?_
          refine lv_iload hx hb d_Model_setPrices_36 (lv_at hl 2 rfl) ?_
          refine lv_aload_n hx hb d_Model_setPrices_38 rfl (lv_at hl 0 rfl) ?_
          refine va_get (D := G) (ci := 10) (v := .ref (aM 18)) (C := R_Model) (T := F_Model) (N := 47) hx hb hts in_Model hown hK hP 0 rfl rfl 18 (by decide) (hts _ fl_Model_48) (fun _ h9 => h9) rfl d_Model_setPrices_39 ?_
          refine lv_iload hx hb d_Model_setPrices_42 (lv_at hl 2 rfl) ?_
          refine n_lald hx hb hK hP 2 1 rfl rfl (by omega) (by omega) d_Model_setPrices_44 ?_
          refine top_l (show (iL (pq i)) = (iL (pr i)) from congrArg iL hpi) ?_
          refine n_last hx hb hK hP hD hS 3 1 rfl rfl (by omega) (by omega) d_Model_setPrices_45 (fun H locs hP hD hS => ?_)
          rw [upd_lF] at hP hD
          have hP : va_P G vwCl [(hM, .inr (10, mO cd st al ac nf ns gg mg bw md wy sg_ sz_ ks bd aM)), (aM 17, .inl (ty 0, 8, .inl (zF sn))), (aM 18, .inl (ty 1, 8, .inr (.inl (lF pq)))), (aM 19, .inl (ty 1, 8, .inr (.inl (lF (va_up lq i (pr i)))))), (aM 41, .inl (ty 0, 240, .inl (nF p4)))] _ := hP
          have hD : va_D A [(hM, .inr (10, mO cd st al ac nf ns gg mg bw md wy sg_ sz_ ks bd aM)), (aM 17, .inl (ty 0, 8, .inl (zF sn))), (aM 18, .inl (ty 1, 8, .inr (.inl (lF pq)))), (aM 19, .inl (ty 1, 8, .inr (.inl (lF (va_up lq i (pr i)))))), (aM 41, .inl (ty 0, 240, .inl (nF p4)))] := hD
          refine lv_aload_n hx hb d_Model_setPrices_46 rfl (lv_at hl 0 rfl) ?_
          refine va_get (D := G) (ci := 10) (v := .ref (aM 18)) (C := R_Model) (T := F_Model) (N := 47) hx hb hts in_Model hown hK hP 0 rfl rfl 18 (by decide) (hts _ fl_Model_48) (fun _ h9 => h9) rfl d_Model_setPrices_47 ?_
          refine lv_iload hx hb d_Model_setPrices_50 (lv_at hl 2 rfl) ?_
          refine n_lald hx hb hK hP 2 1 rfl rfl (by omega) (by omega) d_Model_setPrices_52 ?_
          refine top_l (show (iL (pq i)) = (iL (pr i)) from congrArg iL hpi) ?_
          refine lv_aload_n hx hb d_Model_setPrices_53 rfl (lv_at hl 0 rfl) ?_
          refine lv_iload hx hb d_Model_setPrices_54 (lv_at hl 2 rfl) ?_
          refine vp_callSi (W.runV (As := [.int (nI i)]) (rest := [.long (iL (pr i))]) ⟨hx, hb, hml, hown, hts⟩ (c_Model_countOf l G ty hM cd st al ac nf ns gg mg bw md wy sg_ sz_ ks bd aM i p4 (by omega) g4 (by omega)) ⟨callB_of 1 hts (gd_TB cd_Model_countOf) rfl rfl rfl (hts _ ini_Model) (hts _ lk_Model_257) hd_Model_countOf ⟨Nat.le_of_ble_eq_true rfl, Nat.le_of_ble_eq_true rfl⟩, hts _ im_Model_countOf, hts _ sl_Model_countOf⟩ (preV_ro (hP.sub (ws' := [(hM, .inr (10, mO cd st al ac nf ns gg mg bw md wy sg_ sz_ ks bd aM)), (aM 41, .inl (ty 0, 240, .inl (nF p4)))]) [0, 4] rfl) hX 0 rfl rfl) rfl rfl hl.1 rfl (lv_room (Nat.le_of_ble_eq_true rfl)) d_Model_setPrices_56 ⟨Nat.le_of_ble_eq_true rfl, Nat.le_of_ble_eq_true rfl⟩) (fun r9 er9 => ?_)
          subst er9
          refine lv_aload_n hx hb d_Model_setPrices_59 rfl (lv_at hl 0 rfl) ?_
          refine va_get (D := G) (ci := 10) (v := .ref (aM 17)) (C := R_Model) (T := F_Model) (N := 47) hx hb hts in_Model hown hK hP 0 rfl rfl 17 (by decide) (hts _ fl_Model_45) (fun _ h9 => h9) rfl d_Model_setPrices_60 ?_
          refine lv_iload hx hb d_Model_setPrices_63 (lv_at hl 2 rfl) ?_
          refine n_iald hx hb hK hP 1 0 rfl rfl (by omega) (by omega) d_Model_setPrices_65 ?_
          refine nz_isub hx hb d_Model_setPrices_66 ?_
          refine z_i2l hx hb (by omega) d_Model_setPrices_67 ?_
          refine lv_lload_n hx hb d_Model_setPrices_68 rfl (lv_at hl 1 rfl) ?_
          refine z_lmul hx hb d_Model_setPrices_69 ?_
          refine z_ladd hx hb d_Model_setPrices_70 ?_
          refine lv_lstore (lv' := [(5, .long (iL ((pr i) + ((((cntF p4 sz_ i : Nat) : Int) - (sn i)) * ((sd : Nat) : Int))))), (0, .ref hM), (2, .long (iL ((sd : Nat) : Int))), (4, .int (nI i))]) hx hb d_Model_setPrices_71 hl (by decide) rfl (fun ls hl => ?_)
          refine lv_aload_n hx hb d_Model_setPrices_73 rfl (lv_at hl 1 rfl) ?_
          refine va_get (D := G) (ci := 10) (v := .ref (aM 18)) (C := R_Model) (T := F_Model) (N := 47) hx hb hts in_Model hown hK hP 0 rfl rfl 18 (by decide) (hts _ fl_Model_48) (fun _ h9 => h9) rfl d_Model_setPrices_74 ?_
          refine lv_iload hx hb d_Model_setPrices_77 (lv_at hl 3 rfl) ?_
          refine lv_aload_n hx hb d_Model_setPrices_79 rfl (lv_at hl 1 rfl) ?_
          refine va_get (D := G) (ci := 10) (v := .ref (aM 17)) (C := R_Model) (T := F_Model) (N := 47) hx hb hts in_Model hown hK hP 0 rfl rfl 17 (by decide) (hts _ fl_Model_45) (fun _ h9 => h9) rfl d_Model_setPrices_80 ?_
          refine lv_iload hx hb d_Model_setPrices_83 (lv_at hl 3 rfl) ?_
          refine n_iald hx hb hK hP 1 0 rfl rfl (by omega) (by omega) d_Model_setPrices_85 ?_
          refine z_if_lt (tgt := 96) hx hb (by omega) d_Model_setPrices_86 (by decide) (fun c86 => ?_) (fun c86 => ?_)
          · refine lv_lconst (v := iL 0) hx hb d_Model_setPrices_96 (by decide) ?_
            refine lv_goto (tgt := 102) hx hb d_Model_setPrices_97 (by decide) ?_
            refine top_l (show (iL 0) = iL (nxP sn pr p4 sz_ sd i) from congrArg iL (by unfold nxP; first | (rw [if_pos (Or.inl c86)]) | (rw [if_pos (Or.inr c92)]) | (rw [if_neg (by omega)]))) ?_
            refine n_last hx hb hK hP hD hS 2 1 rfl rfl (by omega) (by omega) d_Model_setPrices_102 (fun H locs hP hD hS => ?_)
            rw [upd_lF] at hP hD
            have hP : va_P G vwCl [(hM, .inr (10, mO cd st al ac nf ns gg mg bw md wy sg_ sz_ ks bd aM)), (aM 17, .inl (ty 0, 8, .inl (zF sn))), (aM 18, .inl (ty 1, 8, .inr (.inl (lF (va_up pq i (nxP sn pr p4 sz_ sd i)))))), (aM 19, .inl (ty 1, 8, .inr (.inl (lF (va_up lq i (pr i)))))), (aM 41, .inl (ty 0, 240, .inl (nF p4)))] _ := hP
            have hD : va_D A [(hM, .inr (10, mO cd st al ac nf ns gg mg bw md wy sg_ sz_ ks bd aM)), (aM 17, .inl (ty 0, 8, .inl (zF sn))), (aM 18, .inl (ty 1, 8, .inr (.inl (lF (va_up pq i (nxP sn pr p4 sz_ sd i)))))), (aM 19, .inl (ty 1, 8, .inr (.inl (lF (va_up lq i (pr i)))))), (aM 41, .inl (ty 0, 240, .inl (nF p4)))] := hD
            have hA2 : ∀ j, j < i + 1 → (va_up lq i (pr i)) j = pr j ∧ (va_up pq i (nxP sn pr p4 sz_ sd i)) j = nxP sn pr p4 sz_ sd j := fun j h => (Nat.lt_or_ge j i).elim (fun q => by rw [va_up_ne _ _ (by omega), va_up_ne _ _ (by omega)]; exact hA1 j q) (fun q => by have ej : j = i := (by omega); rw [ej, va_up_self, va_up_self]; exact ⟨rfl, rfl⟩)
            have hB2 : ∀ j, i + 1 ≤ j → (va_up pq i (nxP sn pr p4 sz_ sd i)) j = pr j := fun j h => by rw [va_up_ne _ _ (by omega)]; exact hB1 j (by omega)
            refine lv_iinc (v := (nI (i + 1))) (lv' := [(4, .int (nI (i + 1))), (5, .long (iL ((pr i) + ((((cntF p4 sz_ i : Nat) : Int) - (sn i)) * ((sd : Nat) : Int))))), (0, .ref hM), (2, .long (iL ((sd : Nat) : Int)))]) hx hb d_Model_setPrices_103 hl (k := 3) rfl (nI_inc _ _ _ (by omega)) (by decide) rfl (fun ls hl => ?_)
            refine lv_goto (tgt := 23) hx hb d_Model_setPrices_106 (by decide) ?_
            exact ih23 (i + 1) (va_up pq i (nxP sn pr p4 sz_ sd i)) (va_up lq i (pr i)) _ _ _ (by omega) hA2 hB2 (by omega) hP hD hS (lv_sub hl [2, 3, 0] rfl)
          · refine lv_lload hx hb d_Model_setPrices_89 (lv_at hl 0 rfl) ?_
            refine lv_lconst (v := iL 0) hx hb d_Model_setPrices_91 (by decide) ?_
            refine l_cmp_ge (tgt := 100) hx hb (by omega) (by omega) d_Model_setPrices_92 d_Model_setPrices_93 (by decide) (fun c92 => ?_) (fun c92 => ?_)
            · refine lv_lload hx hb d_Model_setPrices_100 (lv_at hl 0 rfl) ?_
              refine top_l (show (iL ((pr i) + ((((cntF p4 sz_ i : Nat) : Int) - (sn i)) * ((sd : Nat) : Int)))) = iL (nxP sn pr p4 sz_ sd i) from congrArg iL (by unfold nxP; first | (rw [if_pos (Or.inl c86)]) | (rw [if_pos (Or.inr c92)]) | (rw [if_neg (by omega)]))) ?_
              refine n_last hx hb hK hP hD hS 2 1 rfl rfl (by omega) (by omega) d_Model_setPrices_102 (fun H locs hP hD hS => ?_)
              rw [upd_lF] at hP hD
              have hP : va_P G vwCl [(hM, .inr (10, mO cd st al ac nf ns gg mg bw md wy sg_ sz_ ks bd aM)), (aM 17, .inl (ty 0, 8, .inl (zF sn))), (aM 18, .inl (ty 1, 8, .inr (.inl (lF (va_up pq i (nxP sn pr p4 sz_ sd i)))))), (aM 19, .inl (ty 1, 8, .inr (.inl (lF (va_up lq i (pr i)))))), (aM 41, .inl (ty 0, 240, .inl (nF p4)))] _ := hP
              have hD : va_D A [(hM, .inr (10, mO cd st al ac nf ns gg mg bw md wy sg_ sz_ ks bd aM)), (aM 17, .inl (ty 0, 8, .inl (zF sn))), (aM 18, .inl (ty 1, 8, .inr (.inl (lF (va_up pq i (nxP sn pr p4 sz_ sd i)))))), (aM 19, .inl (ty 1, 8, .inr (.inl (lF (va_up lq i (pr i)))))), (aM 41, .inl (ty 0, 240, .inl (nF p4)))] := hD
              have hA2 : ∀ j, j < i + 1 → (va_up lq i (pr i)) j = pr j ∧ (va_up pq i (nxP sn pr p4 sz_ sd i)) j = nxP sn pr p4 sz_ sd j := fun j h => (Nat.lt_or_ge j i).elim (fun q => by rw [va_up_ne _ _ (by omega), va_up_ne _ _ (by omega)]; exact hA1 j q) (fun q => by have ej : j = i := (by omega); rw [ej, va_up_self, va_up_self]; exact ⟨rfl, rfl⟩)
              have hB2 : ∀ j, i + 1 ≤ j → (va_up pq i (nxP sn pr p4 sz_ sd i)) j = pr j := fun j h => by rw [va_up_ne _ _ (by omega)]; exact hB1 j (by omega)
              refine lv_iinc (v := (nI (i + 1))) (lv' := [(4, .int (nI (i + 1))), (5, .long (iL ((pr i) + ((((cntF p4 sz_ i : Nat) : Int) - (sn i)) * ((sd : Nat) : Int))))), (0, .ref hM), (2, .long (iL ((sd : Nat) : Int)))]) hx hb d_Model_setPrices_103 hl (k := 3) rfl (nI_inc _ _ _ (by omega)) (by decide) rfl (fun ls hl => ?_)
              refine lv_goto (tgt := 23) hx hb d_Model_setPrices_106 (by decide) ?_
              exact ih23 (i + 1) (va_up pq i (nxP sn pr p4 sz_ sd i)) (va_up lq i (pr i)) _ _ _ (by omega) hA2 hB2 (by omega) hP hD hS (lv_sub hl [2, 3, 0] rfl)
            · refine lv_lconst (v := iL 0) hx hb d_Model_setPrices_96 (by decide) ?_
              refine lv_goto (tgt := 102) hx hb d_Model_setPrices_97 (by decide) ?_
              refine top_l (show (iL 0) = iL (nxP sn pr p4 sz_ sd i) from congrArg iL (by unfold nxP; first | (rw [if_pos (Or.inl c86)]) | (rw [if_pos (Or.inr c92)]) | (rw [if_neg (by omega)]))) ?_
              refine n_last hx hb hK hP hD hS 2 1 rfl rfl (by omega) (by omega) d_Model_setPrices_102 (fun H locs hP hD hS => ?_)
              rw [upd_lF] at hP hD
              have hP : va_P G vwCl [(hM, .inr (10, mO cd st al ac nf ns gg mg bw md wy sg_ sz_ ks bd aM)), (aM 17, .inl (ty 0, 8, .inl (zF sn))), (aM 18, .inl (ty 1, 8, .inr (.inl (lF (va_up pq i (nxP sn pr p4 sz_ sd i)))))), (aM 19, .inl (ty 1, 8, .inr (.inl (lF (va_up lq i (pr i)))))), (aM 41, .inl (ty 0, 240, .inl (nF p4)))] _ := hP
              have hD : va_D A [(hM, .inr (10, mO cd st al ac nf ns gg mg bw md wy sg_ sz_ ks bd aM)), (aM 17, .inl (ty 0, 8, .inl (zF sn))), (aM 18, .inl (ty 1, 8, .inr (.inl (lF (va_up pq i (nxP sn pr p4 sz_ sd i)))))), (aM 19, .inl (ty 1, 8, .inr (.inl (lF (va_up lq i (pr i)))))), (aM 41, .inl (ty 0, 240, .inl (nF p4)))] := hD
              have hA2 : ∀ j, j < i + 1 → (va_up lq i (pr i)) j = pr j ∧ (va_up pq i (nxP sn pr p4 sz_ sd i)) j = nxP sn pr p4 sz_ sd j := fun j h => (Nat.lt_or_ge j i).elim (fun q => by rw [va_up_ne _ _ (by omega), va_up_ne _ _ (by omega)]; exact hA1 j q) (fun q => by have ej : j = i := (by omega); rw [ej, va_up_self, va_up_self]; exact ⟨rfl, rfl⟩)
              have hB2 : ∀ j, i + 1 ≤ j → (va_up pq i (nxP sn pr p4 sz_ sd i)) j = pr j := fun j h => by rw [va_up_ne _ _ (by omega)]; exact hB1 j (by omega)
              refine lv_iinc (v := (nI (i + 1))) (lv' := [(4, .int (nI (i + 1))), (5, .long (iL ((pr i) + ((((cntF p4 sz_ i : Nat) : Int) - (sn i)) * ((sd : Nat) : Int))))), (0, .ref hM), (2, .long (iL ((sd : Nat) : Int)))]) hx hb d_Model_setPrices_103 hl (k := 3) rfl (nI_inc _ _ _ (by omega)) (by decide) rfl (fun ls hl => ?_)
              refine lv_goto (tgt := 23) hx hb d_Model_setPrices_106 (by decide) ?_
              exact ih23 (i + 1) (va_up pq i (nxP sn pr p4 sz_ sd i)) (va_up lq i (pr i)) _ _ _ (by omega) hA2 hB2 (by omega) hP hD hS (lv_sub hl [2, 3, 0] rfl)
    exact L23 (ns - 0 + 1) 0 pr lp _ _ _ (Nat.zero_le _) (fun j h => absurd h (by omega)) (fun j _ => rfl) (Nat.lt_succ_self _) hP hD hS (lv_sub hl [2, 1, 0] rfl)
  · refine lv_sipush (v := (nI 256)) hx hb d_Model_setPrices_9 (by decide) ?_
    refine lv_iload_n hx hb d_Model_setPrices_12 rfl (lv_at hl 1 rfl) ?_
    refine n_idiv hx hb (by omega) (by omega) (by omega) d_Model_setPrices_13 ?_
    refine n_i2l hx hb (by omega) d_Model_setPrices_14 ?_
    refine lv_goto (tgt := 19) hx hb d_Model_setPrices_15 (by decide) ?_
    refine top_l (show (iL ((256 / r : Nat) : Int)) = iL ((sd : Nat) : Int) from congrArg iL (by rw [esd]; omega)) ?_
    refine lv_lstore_n (lv' := [(2, .long (iL ((sd : Nat) : Int))), (0, .ref hM), (1, .int (nI r))]) hx hb d_Model_setPrices_19 rfl hl (by decide) rfl (fun ls hl => ?_)
    refine lv_iconst (v := (nI 0)) hx hb d_Model_setPrices_20 (by decide) ?_
    refine lv_istore (lv' := [(4, .int (nI 0)), (2, .long (iL ((sd : Nat) : Int))), (0, .ref hM), (1, .int (nI r))]) hx hb d_Model_setPrices_21 hl (by decide) rfl (fun ls hl => ?_)
    have L23 : ∀ (k9 : Nat) (i : Nat) (pq : Nat → Int) (lq : Nat → Int) (H : Heap) (locs : List Loc) (ls : Array Slot), (i ≤ ns) → (∀ j, j < i → lq j = pr j ∧ pq j = nxP sn pr p4 sz_ sd j) → (∀ j, i ≤ j → pq j = pr j) → ns - i < k9 → va_P G vwCl [(hM, .inr (10, mO cd st al ac nf ns gg mg bw md wy sg_ sz_ ks bd aM)), (aM 17, .inl (ty 0, 8, .inl (zF sn))), (aM 18, .inl (ty 1, 8, .inr (.inl (lF pq)))), (aM 19, .inl (ty 1, 8, .inr (.inl (lF lq)))), (aM 41, .inl (ty 0, 240, .inl (nF p4)))] H → va_D A [(hM, .inr (10, mO cd st al ac nf ns gg mg bw md wy sg_ sz_ ks bd aM)), (aM 17, .inl (ty 0, 8, .inl (zF sn))), (aM 18, .inl (ty 1, 8, .inr (.inl (lF pq)))), (aM 19, .inl (ty 1, 8, .inr (.inl (lF lq)))), (aM 41, .inl (ty 0, 240, .inl (nF p4)))] → va_S A s.heap H locs → lv_has ls 7 [(0, .ref hM), (2, .long (iL ((sd : Nat) : Int))), (4, .int (nI i))] → W p l e { frames := 1, cells := 0, slots := 0, locals := 23 } s m [.ref hM, .int (nI r)].toArray below meth c H locs 0 0 (MQ below (q_Model_setPrices G ty hM cd st al ac nf ns gg mg bw md wy sg_ sz_ ks bd aM r sn pr lp p4 A) [.ref hM, .int (nI r)].toArray s 0 0 A) (F0 m 23 ls []) := by
      intro k9
      induction k9 with
      | zero => intro i pq lq H locs ls hi hA1 hB1 hk9; exact absurd hk9 (Nat.not_lt_zero _)
      | succ k9 ih23 =>
        intro i pq lq H locs ls hi hA1 hB1 hk9 hP hD hS hl
        refine lv_iload hx hb d_Model_setPrices_23 (lv_at hl 2 rfl) ?_
        refine lv_aload_n hx hb d_Model_setPrices_25 rfl (lv_at hl 0 rfl) ?_
        refine va_get (D := G) (ci := 10) (v := .int (nI ns)) (C := R_Model) (T := F_Model) (N := 47) hx hb hts in_Model hown hK hP 0 rfl rfl 11 (by decide) (hts _ fl_Model_158) (fun _ h9 => h9) rfl d_Model_setPrices_26 ?_
        refine n_icmp_ge (tgt := 109) hx hb (by omega) (by omega) d_Model_setPrices_29 (by decide) (fun c29 => ?_) (fun c29 => ?_)
        · exact W.vret hx hb hr (fun t9 ht hW => ⟨⟨(pq, lq), rfl, fun j h => by rw [← esd]; exact hA1 j (by omega), by rw [ht]; exact hP, hD⟩, hS.F ht⟩) hS.2.2 d_Model_setPrices_109
        · have hn := gn i (by omega)
          have hp := gp i (by omega)
          have hcl := cntF_le p4 sz_ i
          have hpi := hB1 i (Nat.le_refl i)
          have hms := sd_mul (show -1000 ≤ ((cntF p4 sz_ i : Nat) : Int) - sn i ∧ ((cntF p4 sz_ i : Nat) : Int) - sn i ≤ 1001 by omega) hsd hp
          refine lv_aload_n hx hb d_Model_setPrices_32 rfl (lv_at hl 0 rfl) ?_
          refine va_get (D := G) (ci := 10) (v := .ref (aM 19)) (C := R_Model) (T := F_Model) (N := 47) hx hb hts in_Model hown hK hP 0 rfl rfl 19 (by decide) (hts _ fl_Model_51) (fun _ h9 => h9) rfl d_Model_setPrices_33 ?_
          refine lv_iload hx hb d_Model_setPrices_36 (lv_at hl 2 rfl) ?_
          refine lv_aload_n hx hb d_Model_setPrices_38 rfl (lv_at hl 0 rfl) ?_
          refine va_get (D := G) (ci := 10) (v := .ref (aM 18)) (C := R_Model) (T := F_Model) (N := 47) hx hb hts in_Model hown hK hP 0 rfl rfl 18 (by decide) (hts _ fl_Model_48) (fun _ h9 => h9) rfl d_Model_setPrices_39 ?_
          refine lv_iload hx hb d_Model_setPrices_42 (lv_at hl 2 rfl) ?_
          refine n_lald hx hb hK hP 2 1 rfl rfl (by omega) (by omega) d_Model_setPrices_44 ?_
          refine top_l (show (iL (pq i)) = (iL (pr i)) from congrArg iL hpi) ?_
          refine n_last hx hb hK hP hD hS 3 1 rfl rfl (by omega) (by omega) d_Model_setPrices_45 (fun H locs hP hD hS => ?_)
          rw [upd_lF] at hP hD
          have hP : va_P G vwCl [(hM, .inr (10, mO cd st al ac nf ns gg mg bw md wy sg_ sz_ ks bd aM)), (aM 17, .inl (ty 0, 8, .inl (zF sn))), (aM 18, .inl (ty 1, 8, .inr (.inl (lF pq)))), (aM 19, .inl (ty 1, 8, .inr (.inl (lF (va_up lq i (pr i)))))), (aM 41, .inl (ty 0, 240, .inl (nF p4)))] _ := hP
          have hD : va_D A [(hM, .inr (10, mO cd st al ac nf ns gg mg bw md wy sg_ sz_ ks bd aM)), (aM 17, .inl (ty 0, 8, .inl (zF sn))), (aM 18, .inl (ty 1, 8, .inr (.inl (lF pq)))), (aM 19, .inl (ty 1, 8, .inr (.inl (lF (va_up lq i (pr i)))))), (aM 41, .inl (ty 0, 240, .inl (nF p4)))] := hD
          refine lv_aload_n hx hb d_Model_setPrices_46 rfl (lv_at hl 0 rfl) ?_
          refine va_get (D := G) (ci := 10) (v := .ref (aM 18)) (C := R_Model) (T := F_Model) (N := 47) hx hb hts in_Model hown hK hP 0 rfl rfl 18 (by decide) (hts _ fl_Model_48) (fun _ h9 => h9) rfl d_Model_setPrices_47 ?_
          refine lv_iload hx hb d_Model_setPrices_50 (lv_at hl 2 rfl) ?_
          refine n_lald hx hb hK hP 2 1 rfl rfl (by omega) (by omega) d_Model_setPrices_52 ?_
          refine top_l (show (iL (pq i)) = (iL (pr i)) from congrArg iL hpi) ?_
          refine lv_aload_n hx hb d_Model_setPrices_53 rfl (lv_at hl 0 rfl) ?_
          refine lv_iload hx hb d_Model_setPrices_54 (lv_at hl 2 rfl) ?_
          refine vp_callSi (W.runV (As := [.int (nI i)]) (rest := [.long (iL (pr i))]) ⟨hx, hb, hml, hown, hts⟩ (c_Model_countOf l G ty hM cd st al ac nf ns gg mg bw md wy sg_ sz_ ks bd aM i p4 (by omega) g4 (by omega)) ⟨callB_of 1 hts (gd_TB cd_Model_countOf) rfl rfl rfl (hts _ ini_Model) (hts _ lk_Model_257) hd_Model_countOf ⟨Nat.le_of_ble_eq_true rfl, Nat.le_of_ble_eq_true rfl⟩, hts _ im_Model_countOf, hts _ sl_Model_countOf⟩ (preV_ro (hP.sub (ws' := [(hM, .inr (10, mO cd st al ac nf ns gg mg bw md wy sg_ sz_ ks bd aM)), (aM 41, .inl (ty 0, 240, .inl (nF p4)))]) [0, 4] rfl) hX 0 rfl rfl) rfl rfl hl.1 rfl (lv_room (Nat.le_of_ble_eq_true rfl)) d_Model_setPrices_56 ⟨Nat.le_of_ble_eq_true rfl, Nat.le_of_ble_eq_true rfl⟩) (fun r9 er9 => ?_)
          subst er9
          refine lv_aload_n hx hb d_Model_setPrices_59 rfl (lv_at hl 0 rfl) ?_
          refine va_get (D := G) (ci := 10) (v := .ref (aM 17)) (C := R_Model) (T := F_Model) (N := 47) hx hb hts in_Model hown hK hP 0 rfl rfl 17 (by decide) (hts _ fl_Model_45) (fun _ h9 => h9) rfl d_Model_setPrices_60 ?_
          refine lv_iload hx hb d_Model_setPrices_63 (lv_at hl 2 rfl) ?_
          refine n_iald hx hb hK hP 1 0 rfl rfl (by omega) (by omega) d_Model_setPrices_65 ?_
          refine nz_isub hx hb d_Model_setPrices_66 ?_
          refine z_i2l hx hb (by omega) d_Model_setPrices_67 ?_
          refine lv_lload_n hx hb d_Model_setPrices_68 rfl (lv_at hl 1 rfl) ?_
          refine z_lmul hx hb d_Model_setPrices_69 ?_
          refine z_ladd hx hb d_Model_setPrices_70 ?_
          refine lv_lstore (lv' := [(5, .long (iL ((pr i) + ((((cntF p4 sz_ i : Nat) : Int) - (sn i)) * ((sd : Nat) : Int))))), (0, .ref hM), (2, .long (iL ((sd : Nat) : Int))), (4, .int (nI i))]) hx hb d_Model_setPrices_71 hl (by decide) rfl (fun ls hl => ?_)
          refine lv_aload_n hx hb d_Model_setPrices_73 rfl (lv_at hl 1 rfl) ?_
          refine va_get (D := G) (ci := 10) (v := .ref (aM 18)) (C := R_Model) (T := F_Model) (N := 47) hx hb hts in_Model hown hK hP 0 rfl rfl 18 (by decide) (hts _ fl_Model_48) (fun _ h9 => h9) rfl d_Model_setPrices_74 ?_
          refine lv_iload hx hb d_Model_setPrices_77 (lv_at hl 3 rfl) ?_
          refine lv_aload_n hx hb d_Model_setPrices_79 rfl (lv_at hl 1 rfl) ?_
          refine va_get (D := G) (ci := 10) (v := .ref (aM 17)) (C := R_Model) (T := F_Model) (N := 47) hx hb hts in_Model hown hK hP 0 rfl rfl 17 (by decide) (hts _ fl_Model_45) (fun _ h9 => h9) rfl d_Model_setPrices_80 ?_
          refine lv_iload hx hb d_Model_setPrices_83 (lv_at hl 3 rfl) ?_
          refine n_iald hx hb hK hP 1 0 rfl rfl (by omega) (by omega) d_Model_setPrices_85 ?_
          refine z_if_lt (tgt := 96) hx hb (by omega) d_Model_setPrices_86 (by decide) (fun c86 => ?_) (fun c86 => ?_)
          · refine lv_lconst (v := iL 0) hx hb d_Model_setPrices_96 (by decide) ?_
            refine lv_goto (tgt := 102) hx hb d_Model_setPrices_97 (by decide) ?_
            refine top_l (show (iL 0) = iL (nxP sn pr p4 sz_ sd i) from congrArg iL (by unfold nxP; first | (rw [if_pos (Or.inl c86)]) | (rw [if_pos (Or.inr c92)]) | (rw [if_neg (by omega)]))) ?_
            refine n_last hx hb hK hP hD hS 2 1 rfl rfl (by omega) (by omega) d_Model_setPrices_102 (fun H locs hP hD hS => ?_)
            rw [upd_lF] at hP hD
            have hP : va_P G vwCl [(hM, .inr (10, mO cd st al ac nf ns gg mg bw md wy sg_ sz_ ks bd aM)), (aM 17, .inl (ty 0, 8, .inl (zF sn))), (aM 18, .inl (ty 1, 8, .inr (.inl (lF (va_up pq i (nxP sn pr p4 sz_ sd i)))))), (aM 19, .inl (ty 1, 8, .inr (.inl (lF (va_up lq i (pr i)))))), (aM 41, .inl (ty 0, 240, .inl (nF p4)))] _ := hP
            have hD : va_D A [(hM, .inr (10, mO cd st al ac nf ns gg mg bw md wy sg_ sz_ ks bd aM)), (aM 17, .inl (ty 0, 8, .inl (zF sn))), (aM 18, .inl (ty 1, 8, .inr (.inl (lF (va_up pq i (nxP sn pr p4 sz_ sd i)))))), (aM 19, .inl (ty 1, 8, .inr (.inl (lF (va_up lq i (pr i)))))), (aM 41, .inl (ty 0, 240, .inl (nF p4)))] := hD
            have hA2 : ∀ j, j < i + 1 → (va_up lq i (pr i)) j = pr j ∧ (va_up pq i (nxP sn pr p4 sz_ sd i)) j = nxP sn pr p4 sz_ sd j := fun j h => (Nat.lt_or_ge j i).elim (fun q => by rw [va_up_ne _ _ (by omega), va_up_ne _ _ (by omega)]; exact hA1 j q) (fun q => by have ej : j = i := (by omega); rw [ej, va_up_self, va_up_self]; exact ⟨rfl, rfl⟩)
            have hB2 : ∀ j, i + 1 ≤ j → (va_up pq i (nxP sn pr p4 sz_ sd i)) j = pr j := fun j h => by rw [va_up_ne _ _ (by omega)]; exact hB1 j (by omega)
            refine lv_iinc (v := (nI (i + 1))) (lv' := [(4, .int (nI (i + 1))), (5, .long (iL ((pr i) + ((((cntF p4 sz_ i : Nat) : Int) - (sn i)) * ((sd : Nat) : Int))))), (0, .ref hM), (2, .long (iL ((sd : Nat) : Int)))]) hx hb d_Model_setPrices_103 hl (k := 3) rfl (nI_inc _ _ _ (by omega)) (by decide) rfl (fun ls hl => ?_)
            refine lv_goto (tgt := 23) hx hb d_Model_setPrices_106 (by decide) ?_
            exact ih23 (i + 1) (va_up pq i (nxP sn pr p4 sz_ sd i)) (va_up lq i (pr i)) _ _ _ (by omega) hA2 hB2 (by omega) hP hD hS (lv_sub hl [2, 3, 0] rfl)
          · refine lv_lload hx hb d_Model_setPrices_89 (lv_at hl 0 rfl) ?_
            refine lv_lconst (v := iL 0) hx hb d_Model_setPrices_91 (by decide) ?_
            refine l_cmp_ge (tgt := 100) hx hb (by omega) (by omega) d_Model_setPrices_92 d_Model_setPrices_93 (by decide) (fun c92 => ?_) (fun c92 => ?_)
            · refine lv_lload hx hb d_Model_setPrices_100 (lv_at hl 0 rfl) ?_
              refine top_l (show (iL ((pr i) + ((((cntF p4 sz_ i : Nat) : Int) - (sn i)) * ((sd : Nat) : Int)))) = iL (nxP sn pr p4 sz_ sd i) from congrArg iL (by unfold nxP; first | (rw [if_pos (Or.inl c86)]) | (rw [if_pos (Or.inr c92)]) | (rw [if_neg (by omega)]))) ?_
              refine n_last hx hb hK hP hD hS 2 1 rfl rfl (by omega) (by omega) d_Model_setPrices_102 (fun H locs hP hD hS => ?_)
              rw [upd_lF] at hP hD
              have hP : va_P G vwCl [(hM, .inr (10, mO cd st al ac nf ns gg mg bw md wy sg_ sz_ ks bd aM)), (aM 17, .inl (ty 0, 8, .inl (zF sn))), (aM 18, .inl (ty 1, 8, .inr (.inl (lF (va_up pq i (nxP sn pr p4 sz_ sd i)))))), (aM 19, .inl (ty 1, 8, .inr (.inl (lF (va_up lq i (pr i)))))), (aM 41, .inl (ty 0, 240, .inl (nF p4)))] _ := hP
              have hD : va_D A [(hM, .inr (10, mO cd st al ac nf ns gg mg bw md wy sg_ sz_ ks bd aM)), (aM 17, .inl (ty 0, 8, .inl (zF sn))), (aM 18, .inl (ty 1, 8, .inr (.inl (lF (va_up pq i (nxP sn pr p4 sz_ sd i)))))), (aM 19, .inl (ty 1, 8, .inr (.inl (lF (va_up lq i (pr i)))))), (aM 41, .inl (ty 0, 240, .inl (nF p4)))] := hD
              have hA2 : ∀ j, j < i + 1 → (va_up lq i (pr i)) j = pr j ∧ (va_up pq i (nxP sn pr p4 sz_ sd i)) j = nxP sn pr p4 sz_ sd j := fun j h => (Nat.lt_or_ge j i).elim (fun q => by rw [va_up_ne _ _ (by omega), va_up_ne _ _ (by omega)]; exact hA1 j q) (fun q => by have ej : j = i := (by omega); rw [ej, va_up_self, va_up_self]; exact ⟨rfl, rfl⟩)
              have hB2 : ∀ j, i + 1 ≤ j → (va_up pq i (nxP sn pr p4 sz_ sd i)) j = pr j := fun j h => by rw [va_up_ne _ _ (by omega)]; exact hB1 j (by omega)
              refine lv_iinc (v := (nI (i + 1))) (lv' := [(4, .int (nI (i + 1))), (5, .long (iL ((pr i) + ((((cntF p4 sz_ i : Nat) : Int) - (sn i)) * ((sd : Nat) : Int))))), (0, .ref hM), (2, .long (iL ((sd : Nat) : Int)))]) hx hb d_Model_setPrices_103 hl (k := 3) rfl (nI_inc _ _ _ (by omega)) (by decide) rfl (fun ls hl => ?_)
              refine lv_goto (tgt := 23) hx hb d_Model_setPrices_106 (by decide) ?_
              exact ih23 (i + 1) (va_up pq i (nxP sn pr p4 sz_ sd i)) (va_up lq i (pr i)) _ _ _ (by omega) hA2 hB2 (by omega) hP hD hS (lv_sub hl [2, 3, 0] rfl)
            · refine lv_lconst (v := iL 0) hx hb d_Model_setPrices_96 (by decide) ?_
              refine lv_goto (tgt := 102) hx hb d_Model_setPrices_97 (by decide) ?_
              refine top_l (show (iL 0) = iL (nxP sn pr p4 sz_ sd i) from congrArg iL (by unfold nxP; first | (rw [if_pos (Or.inl c86)]) | (rw [if_pos (Or.inr c92)]) | (rw [if_neg (by omega)]))) ?_
              refine n_last hx hb hK hP hD hS 2 1 rfl rfl (by omega) (by omega) d_Model_setPrices_102 (fun H locs hP hD hS => ?_)
              rw [upd_lF] at hP hD
              have hP : va_P G vwCl [(hM, .inr (10, mO cd st al ac nf ns gg mg bw md wy sg_ sz_ ks bd aM)), (aM 17, .inl (ty 0, 8, .inl (zF sn))), (aM 18, .inl (ty 1, 8, .inr (.inl (lF (va_up pq i (nxP sn pr p4 sz_ sd i)))))), (aM 19, .inl (ty 1, 8, .inr (.inl (lF (va_up lq i (pr i)))))), (aM 41, .inl (ty 0, 240, .inl (nF p4)))] _ := hP
              have hD : va_D A [(hM, .inr (10, mO cd st al ac nf ns gg mg bw md wy sg_ sz_ ks bd aM)), (aM 17, .inl (ty 0, 8, .inl (zF sn))), (aM 18, .inl (ty 1, 8, .inr (.inl (lF (va_up pq i (nxP sn pr p4 sz_ sd i)))))), (aM 19, .inl (ty 1, 8, .inr (.inl (lF (va_up lq i (pr i)))))), (aM 41, .inl (ty 0, 240, .inl (nF p4)))] := hD
              have hA2 : ∀ j, j < i + 1 → (va_up lq i (pr i)) j = pr j ∧ (va_up pq i (nxP sn pr p4 sz_ sd i)) j = nxP sn pr p4 sz_ sd j := fun j h => (Nat.lt_or_ge j i).elim (fun q => by rw [va_up_ne _ _ (by omega), va_up_ne _ _ (by omega)]; exact hA1 j q) (fun q => by have ej : j = i := (by omega); rw [ej, va_up_self, va_up_self]; exact ⟨rfl, rfl⟩)
              have hB2 : ∀ j, i + 1 ≤ j → (va_up pq i (nxP sn pr p4 sz_ sd i)) j = pr j := fun j h => by rw [va_up_ne _ _ (by omega)]; exact hB1 j (by omega)
              refine lv_iinc (v := (nI (i + 1))) (lv' := [(4, .int (nI (i + 1))), (5, .long (iL ((pr i) + ((((cntF p4 sz_ i : Nat) : Int) - (sn i)) * ((sd : Nat) : Int))))), (0, .ref hM), (2, .long (iL ((sd : Nat) : Int)))]) hx hb d_Model_setPrices_103 hl (k := 3) rfl (nI_inc _ _ _ (by omega)) (by decide) rfl (fun ls hl => ?_)
              refine lv_goto (tgt := 23) hx hb d_Model_setPrices_106 (by decide) ?_
              exact ih23 (i + 1) (va_up pq i (nxP sn pr p4 sz_ sd i)) (va_up lq i (pr i)) _ _ _ (by omega) hA2 hB2 (by omega) hP hD hS (lv_sub hl [2, 3, 0] rfl)
    exact L23 (ns - 0 + 1) 0 pr lp _ _ _ (Nat.zero_le _) (fun j h => absurd h (by omega)) (fun j _ => rfl) (Nat.lt_succ_self _) hP hD hS (lv_sub hl [2, 1, 0] rfl)

abbrev q_Model_drop (G : va_G) (ty : Nat → ClassId) (hM : Nat) (cd : Nat) (st : Nat) (al : Nat) (ac : Nat) (nf : Nat) (ns : Nat) (gg : Nat) (mg : Nat) (bw : Nat) (md : Nat) (wy : Nat) (sg_ : Nat) (sz_ : Nat) (ks : Nat) (bd : Int) (aM : Nat → Nat) (at_ : Nat) (p0 : Nat → Nat) (p1 : Nat → Nat) (p2 : Nat → Nat) (p3 : Nat → Nat) (p4 : Nat → Nat) (A : Nat → Prop) : Array Value → State → Outcome → State → Prop := va_Qv (fun (uu : (Nat → Nat) × (Nat → Nat) × (Nat → Nat) × (Nat → Nat) × (Nat → Nat)) => ∀ j, ((j < at_ → uu.1 j = p0 j) ∧ (at_ ≤ j → j + 1 < sz_ → uu.1 j = p0 (j + 1))) ∧ ((j < at_ → uu.2.1 j = p1 j) ∧ (at_ ≤ j → j + 1 < sz_ → uu.2.1 j = p1 (j + 1))) ∧ ((j < at_ → uu.2.2.1 j = p2 j) ∧ (at_ ≤ j → j + 1 < sz_ → uu.2.2.1 j = p2 (j + 1))) ∧ ((j < at_ → uu.2.2.2.1 j = p3 j) ∧ (at_ ≤ j → j + 1 < sz_ → uu.2.2.2.1 j = p3 (j + 1))) ∧ ((j < at_ → uu.2.2.2.2 j = p4 j) ∧ (at_ ≤ j → j + 1 < sz_ → uu.2.2.2.2 j = p4 (j + 1)))) (at_W G (fun (uu : (Nat → Nat) × (Nat → Nat) × (Nat → Nat) × (Nat → Nat) × (Nat → Nat)) => [(hM, .inr (10, mO cd st al ac nf ns gg mg bw md wy sg_ (sz_ - 1) ks bd aM)), (aM 37, .inl (ty 0, 240, .inl (nF uu.1))), (aM 38, .inl (ty 0, 240, .inl (nF uu.2.1))), (aM 39, .inl (ty 0, 240, .inl (nF uu.2.2.1))), (aM 40, .inl (ty 0, 240, .inl (nF uu.2.2.2.1))), (aM 41, .inl (ty 0, 240, .inl (nF uu.2.2.2.2)))]) A) A
set_option maxRecDepth 100000 in
set_option maxHeartbeats 4000000 in
theorem c_Model_drop (l : Launch) (G : va_G) (ty : Nat → ClassId) (sz : Nat) (hM : Nat) (cd : Nat) (st : Nat) (al : Nat) (ac : Nat) (nf : Nat) (ns : Nat) (gg : Nat) (mg : Nat) (bw : Nat) (md : Nat) (wy : Nat) (sg_ : Nat) (sz_ : Nat) (ks : Nat) (bd : Int) (aM : Nat → Nat) (at_ : Nat) (p0 : Nat → Nat) (p1 : Nat → Nat) (p2 : Nat → Nat) (p3 : Nat → Nat) (p4 : Nat → Nat) (g1 : sz_ ≤ 240) (ga : at_ < sz_) : Met l y_Model_drop ws_Model_drop { frames := 0, cells := 0, slots := 0, locals := 0 } (va_Pc [.ref hM, .int (nI at_)] (fun U => U.heap.size = sz ∧ va_P G vwCl [(hM, .inr (10, mO cd st al ac nf ns gg mg bw md wy sg_ sz_ ks bd aM)), (aM 37, .inl (ty 0, 240, .inl (nF p0))), (aM 38, .inl (ty 0, 240, .inl (nF p1))), (aM 39, .inl (ty 0, 240, .inl (nF p2))), (aM 40, .inl (ty 0, 240, .inl (nF p3))), (aM 41, .inl (ty 0, 240, .inl (nF p4)))] U.heap ∧ KX G ty U ∧ va_D (fun _ => True) [(hM, .inr (10, mO cd st al ac nf ns gg mg bw md wy sg_ sz_ ks bd aM)), (aM 37, .inl (ty 0, 240, .inl (nF p0))), (aM 38, .inl (ty 0, 240, .inl (nF p1))), (aM 39, .inl (ty 0, 240, .inl (nF p2))), (aM 40, .inl (ty 0, 240, .inl (nF p3))), (aM 41, .inl (ty 0, 240, .inl (nF p4)))])) (q_Model_drop G ty hM cd st al ac nf ns gg mg bw md wy sg_ sz_ ks bd aM at_ p0 p1 p2 p3 p4 (va_A [(hM, .inr (10, mO cd st al ac nf ns gg mg bw md wy sg_ sz_ ks bd aM)), (aM 37, .inl (ty 0, 240, .inl (nF p0))), (aM 38, .inl (ty 0, 240, .inl (nF p1))), (aM 39, .inl (ty 0, 240, .inl (nF p2))), (aM 40, .inl (ty 0, 240, .inl (nF p3))), (aM 41, .inl (ty 0, 240, .inl (nF p4)))] sz)) 0 0 (va_A [(hM, .inr (10, mO cd st al ac nf ns gg mg bw md wy sg_ sz_ ks bd aM)), (aM 37, .inl (ty 0, 240, .inl (nF p0))), (aM 38, .inl (ty 0, 240, .inl (nF p1))), (aM 39, .inl (ty 0, 240, .inl (nF p2))), (aM 40, .inl (ty 0, 240, .inl (nF p3))), (aM 41, .inl (ty 0, 240, .inl (nF p4)))] sz) := by
  refine met_wr (y := y_Model_drop) (maxL := 3) (sz := sz) (G := G) (ty := ty) (mc := 0) (ms := 0) (av := [.ref hM, .int (nI at_)]) (W0 := [(hM, .inr (10, mO cd st al ac nf ns gg mg bw md wy sg_ sz_ ks bd aM)), (aM 37, .inl (ty 0, 240, .inl (nF p0))), (aM 38, .inl (ty 0, 240, .inl (nF p1))), (aM 39, .inl (ty 0, 240, .inl (nF p2))), (aM 40, .inl (ty 0, 240, .inl (nF p3))), (aM 41, .inl (ty 0, 240, .inl (nF p4)))]) (fun A => q_Model_drop G ty hM cd st al ac nf ns gg mg bw md wy sg_ sz_ ks bd aM at_ p0 p1 p2 p3 p4 A) R_Model (by decide) rfl rfl (Nat.le_of_ble_eq_true rfl) ?_
  intro p e s m below meth c ls A hx hb hr hml hown hts hlocks hin hA hP hX hD hS hl
  have hK := hX.1
  have hl : lv_has ls 3 [(0, .ref hM), (1, .int (nI at_))] := hl
  refine lv_iload_n hx hb d_Model_drop_0 rfl (lv_at hl 1 rfl) ?_
  refine lv_iconst (v := (nI 1)) hx hb d_Model_drop_1 (by decide) ?_
  refine n_iadd hx hb d_Model_drop_2 ?_
  refine lv_istore_n (lv' := [(2, .int (nI (at_ + 1))), (0, .ref hM), (1, .int (nI at_))]) hx hb d_Model_drop_3 rfl hl (by decide) rfl (fun ls hl => ?_)
  have L4 : ∀ (k9 : Nat) (k : Nat) (q0 : Nat → Nat) (q1 : Nat → Nat) (q2 : Nat → Nat) (q3 : Nat → Nat) (q4 : Nat → Nat) (H : Heap) (locs : List Loc) (ls : Array Slot), (at_ + 1 ≤ k ∧ k ≤ sz_) → (∀ j, ((j < at_ → q0 j = p0 j) ∧ (at_ ≤ j → j + 1 < k → q0 j = p0 (j + 1)) ∧ (k ≤ j + 1 → q0 j = p0 j)) ∧ ((j < at_ → q1 j = p1 j) ∧ (at_ ≤ j → j + 1 < k → q1 j = p1 (j + 1)) ∧ (k ≤ j + 1 → q1 j = p1 j)) ∧ ((j < at_ → q2 j = p2 j) ∧ (at_ ≤ j → j + 1 < k → q2 j = p2 (j + 1)) ∧ (k ≤ j + 1 → q2 j = p2 j)) ∧ ((j < at_ → q3 j = p3 j) ∧ (at_ ≤ j → j + 1 < k → q3 j = p3 (j + 1)) ∧ (k ≤ j + 1 → q3 j = p3 j)) ∧ ((j < at_ → q4 j = p4 j) ∧ (at_ ≤ j → j + 1 < k → q4 j = p4 (j + 1)) ∧ (k ≤ j + 1 → q4 j = p4 j))) → sz_ - k < k9 → va_P G vwCl [(hM, .inr (10, mO cd st al ac nf ns gg mg bw md wy sg_ sz_ ks bd aM)), (aM 37, .inl (ty 0, 240, .inl (nF q0))), (aM 38, .inl (ty 0, 240, .inl (nF q1))), (aM 39, .inl (ty 0, 240, .inl (nF q2))), (aM 40, .inl (ty 0, 240, .inl (nF q3))), (aM 41, .inl (ty 0, 240, .inl (nF q4)))] H → va_D A [(hM, .inr (10, mO cd st al ac nf ns gg mg bw md wy sg_ sz_ ks bd aM)), (aM 37, .inl (ty 0, 240, .inl (nF q0))), (aM 38, .inl (ty 0, 240, .inl (nF q1))), (aM 39, .inl (ty 0, 240, .inl (nF q2))), (aM 40, .inl (ty 0, 240, .inl (nF q3))), (aM 41, .inl (ty 0, 240, .inl (nF q4)))] → va_S A s.heap H locs → lv_has ls 3 [(0, .ref hM), (1, .int (nI at_)), (2, .int (nI k))] → W p l e { frames := 0, cells := 0, slots := 0, locals := 0 } s m [.ref hM, .int (nI at_)].toArray below meth c H locs 0 0 (MQ below (q_Model_drop G ty hM cd st al ac nf ns gg mg bw md wy sg_ sz_ ks bd aM at_ p0 p1 p2 p3 p4 A) [.ref hM, .int (nI at_)].toArray s 0 0 A) (F0 m 4 ls []) := by
    intro k9
    induction k9 with
    | zero => intro k q0 q1 q2 q3 q4 H locs ls hk hA1 hk9; exact absurd hk9 (Nat.not_lt_zero _)
    | succ k9 ih4 =>
      intro k q0 q1 q2 q3 q4 H locs ls hk hA1 hk9 hP hD hS hl
      refine lv_iload_n hx hb d_Model_drop_4 rfl (lv_at hl 2 rfl) ?_
      refine lv_aload_n hx hb d_Model_drop_5 rfl (lv_at hl 0 rfl) ?_
      refine va_get (D := G) (ci := 10) (v := .int (nI sz_)) (C := R_Model) (T := F_Model) (N := 47) hx hb hts in_Model hown hK hP 0 rfl rfl 36 (by decide) (hts _ fl_Model_219) (fun _ h9 => h9) rfl d_Model_drop_6 ?_
      refine n_icmp_ge (tgt := 88) hx hb (by omega) (by omega) d_Model_drop_9 (by decide) (fun c9 => ?_) (fun c9 => ?_)
      · refine lv_aload_n hx hb d_Model_drop_88 rfl (lv_at hl 0 rfl) ?_
        refine lv_dup hx hb d_Model_drop_89 rfl ?_
        refine va_get (D := G) (ci := 10) (v := .int (nI sz_)) (C := R_Model) (T := F_Model) (N := 47) hx hb hts in_Model hown hK hP 0 rfl rfl 36 (by decide) (hts _ fl_Model_219) (fun _ h9 => h9) rfl d_Model_drop_90 ?_
        refine lv_iconst (v := (nI 1)) hx hb d_Model_drop_93 (by decide) ?_
        refine n_isub hx hb (by omega) d_Model_drop_94 ?_
        refine va_put (D := G) (ci := 10) (v := .int (nI (sz_ - 1))) (ty := .int) (C := R_Model) (T := F_Model) (N := 47) hx hb hts in_Model t_Model t_Model_ok n_Model hown hK hP hD hS 0 rfl rfl 36 (by decide) (hts _ fl_Model_219) (fun _ h9 => h9) rfl (by decide +kernel) rfl rfl (Nat.le_of_ble_eq_true rfl) d_Model_drop_95 (fun H locs hP hD hS => ?_)
        have hP : va_P G vwCl [(hM, .inr (10, mO cd st al ac nf ns gg mg bw md wy sg_ (sz_ - 1) ks bd aM)), (aM 37, .inl (ty 0, 240, .inl (nF q0))), (aM 38, .inl (ty 0, 240, .inl (nF q1))), (aM 39, .inl (ty 0, 240, .inl (nF q2))), (aM 40, .inl (ty 0, 240, .inl (nF q3))), (aM 41, .inl (ty 0, 240, .inl (nF q4)))] _ := hP
        have hD : va_D A [(hM, .inr (10, mO cd st al ac nf ns gg mg bw md wy sg_ (sz_ - 1) ks bd aM)), (aM 37, .inl (ty 0, 240, .inl (nF q0))), (aM 38, .inl (ty 0, 240, .inl (nF q1))), (aM 39, .inl (ty 0, 240, .inl (nF q2))), (aM 40, .inl (ty 0, 240, .inl (nF q3))), (aM 41, .inl (ty 0, 240, .inl (nF q4)))] := hD
        exact W.vret hx hb hr (fun t9 ht hW => ⟨⟨(q0, q1, q2, q3, q4), rfl, fun j => ⟨⟨(hA1 j).1.1, fun h1 h2 => (hA1 j).1.2.1 h1 (by omega)⟩, ⟨(hA1 j).2.1.1, fun h1 h2 => (hA1 j).2.1.2.1 h1 (by omega)⟩, ⟨(hA1 j).2.2.1.1, fun h1 h2 => (hA1 j).2.2.1.2.1 h1 (by omega)⟩, ⟨(hA1 j).2.2.2.1.1, fun h1 h2 => (hA1 j).2.2.2.1.2.1 h1 (by omega)⟩, ⟨(hA1 j).2.2.2.2.1, fun h1 h2 => (hA1 j).2.2.2.2.2.1 h1 (by omega)⟩⟩, by rw [ht]; exact hP, hD⟩, hS.F ht⟩) hS.2.2 d_Model_drop_98
      · refine lv_aload_n hx hb d_Model_drop_12 rfl (lv_at hl 0 rfl) ?_
        refine va_get (D := G) (ci := 10) (v := .ref (aM 37)) (C := R_Model) (T := F_Model) (N := 47) hx hb hts in_Model hown hK hP 0 rfl rfl 37 (by decide) (hts _ fl_Model_94) (fun _ h9 => h9) rfl d_Model_drop_13 ?_
        refine lv_iload_n hx hb d_Model_drop_16 rfl (lv_at hl 2 rfl) ?_
        refine lv_iconst (v := (nI 1)) hx hb d_Model_drop_17 (by decide) ?_
        refine n_isub hx hb (by omega) d_Model_drop_18 ?_
        refine lv_aload_n hx hb d_Model_drop_19 rfl (lv_at hl 0 rfl) ?_
        refine va_get (D := G) (ci := 10) (v := .ref (aM 37)) (C := R_Model) (T := F_Model) (N := 47) hx hb hts in_Model hown hK hP 0 rfl rfl 37 (by decide) (hts _ fl_Model_94) (fun _ h9 => h9) rfl d_Model_drop_20 ?_
        refine lv_iload_n hx hb d_Model_drop_23 rfl (lv_at hl 2 rfl) ?_
        refine n_iald hx hb hK hP 1 0 rfl rfl (by omega) (by omega) d_Model_drop_24 ?_
        refine top_i (show (nI (q0 k)) = (nI (q0 k)) from rfl) ?_
        refine n_iast hx hb hK hP hD hS 1 0 rfl rfl (by omega) (by omega) d_Model_drop_25 (fun H locs hP hD hS => ?_)
        rw [upd_nF] at hP hD
        have hP : va_P G vwCl [(hM, .inr (10, mO cd st al ac nf ns gg mg bw md wy sg_ sz_ ks bd aM)), (aM 37, .inl (ty 0, 240, .inl (nF (va_up q0 (k - 1) (q0 k))))), (aM 38, .inl (ty 0, 240, .inl (nF q1))), (aM 39, .inl (ty 0, 240, .inl (nF q2))), (aM 40, .inl (ty 0, 240, .inl (nF q3))), (aM 41, .inl (ty 0, 240, .inl (nF q4)))] _ := hP
        have hD : va_D A [(hM, .inr (10, mO cd st al ac nf ns gg mg bw md wy sg_ sz_ ks bd aM)), (aM 37, .inl (ty 0, 240, .inl (nF (va_up q0 (k - 1) (q0 k))))), (aM 38, .inl (ty 0, 240, .inl (nF q1))), (aM 39, .inl (ty 0, 240, .inl (nF q2))), (aM 40, .inl (ty 0, 240, .inl (nF q3))), (aM 41, .inl (ty 0, 240, .inl (nF q4)))] := hD
        refine lv_aload_n hx hb d_Model_drop_26 rfl (lv_at hl 0 rfl) ?_
        refine va_get (D := G) (ci := 10) (v := .ref (aM 38)) (C := R_Model) (T := F_Model) (N := 47) hx hb hts in_Model hown hK hP 0 rfl rfl 38 (by decide) (hts _ fl_Model_97) (fun _ h9 => h9) rfl d_Model_drop_27 ?_
        refine lv_iload_n hx hb d_Model_drop_30 rfl (lv_at hl 2 rfl) ?_
        refine lv_iconst (v := (nI 1)) hx hb d_Model_drop_31 (by decide) ?_
        refine n_isub hx hb (by omega) d_Model_drop_32 ?_
        refine lv_aload_n hx hb d_Model_drop_33 rfl (lv_at hl 0 rfl) ?_
        refine va_get (D := G) (ci := 10) (v := .ref (aM 38)) (C := R_Model) (T := F_Model) (N := 47) hx hb hts in_Model hown hK hP 0 rfl rfl 38 (by decide) (hts _ fl_Model_97) (fun _ h9 => h9) rfl d_Model_drop_34 ?_
        refine lv_iload_n hx hb d_Model_drop_37 rfl (lv_at hl 2 rfl) ?_
        refine n_iald hx hb hK hP 2 0 rfl rfl (by omega) (by omega) d_Model_drop_38 ?_
        refine top_i (show (nI (q1 k)) = (nI (q1 k)) from rfl) ?_
        refine n_iast hx hb hK hP hD hS 2 0 rfl rfl (by omega) (by omega) d_Model_drop_39 (fun H locs hP hD hS => ?_)
        rw [upd_nF] at hP hD
        have hP : va_P G vwCl [(hM, .inr (10, mO cd st al ac nf ns gg mg bw md wy sg_ sz_ ks bd aM)), (aM 37, .inl (ty 0, 240, .inl (nF (va_up q0 (k - 1) (q0 k))))), (aM 38, .inl (ty 0, 240, .inl (nF (va_up q1 (k - 1) (q1 k))))), (aM 39, .inl (ty 0, 240, .inl (nF q2))), (aM 40, .inl (ty 0, 240, .inl (nF q3))), (aM 41, .inl (ty 0, 240, .inl (nF q4)))] _ := hP
        have hD : va_D A [(hM, .inr (10, mO cd st al ac nf ns gg mg bw md wy sg_ sz_ ks bd aM)), (aM 37, .inl (ty 0, 240, .inl (nF (va_up q0 (k - 1) (q0 k))))), (aM 38, .inl (ty 0, 240, .inl (nF (va_up q1 (k - 1) (q1 k))))), (aM 39, .inl (ty 0, 240, .inl (nF q2))), (aM 40, .inl (ty 0, 240, .inl (nF q3))), (aM 41, .inl (ty 0, 240, .inl (nF q4)))] := hD
        refine lv_aload_n hx hb d_Model_drop_40 rfl (lv_at hl 0 rfl) ?_
        refine va_get (D := G) (ci := 10) (v := .ref (aM 39)) (C := R_Model) (T := F_Model) (N := 47) hx hb hts in_Model hown hK hP 0 rfl rfl 39 (by decide) (hts _ fl_Model_100) (fun _ h9 => h9) rfl d_Model_drop_41 ?_
        refine lv_iload_n hx hb d_Model_drop_44 rfl (lv_at hl 2 rfl) ?_
        refine lv_iconst (v := (nI 1)) hx hb d_Model_drop_45 (by decide) ?_
        refine n_isub hx hb (by omega) d_Model_drop_46 ?_
        refine lv_aload_n hx hb d_Model_drop_47 rfl (lv_at hl 0 rfl) ?_
        refine va_get (D := G) (ci := 10) (v := .ref (aM 39)) (C := R_Model) (T := F_Model) (N := 47) hx hb hts in_Model hown hK hP 0 rfl rfl 39 (by decide) (hts _ fl_Model_100) (fun _ h9 => h9) rfl d_Model_drop_48 ?_
        refine lv_iload_n hx hb d_Model_drop_51 rfl (lv_at hl 2 rfl) ?_
        refine n_iald hx hb hK hP 3 0 rfl rfl (by omega) (by omega) d_Model_drop_52 ?_
        refine top_i (show (nI (q2 k)) = (nI (q2 k)) from rfl) ?_
        refine n_iast hx hb hK hP hD hS 3 0 rfl rfl (by omega) (by omega) d_Model_drop_53 (fun H locs hP hD hS => ?_)
        rw [upd_nF] at hP hD
        have hP : va_P G vwCl [(hM, .inr (10, mO cd st al ac nf ns gg mg bw md wy sg_ sz_ ks bd aM)), (aM 37, .inl (ty 0, 240, .inl (nF (va_up q0 (k - 1) (q0 k))))), (aM 38, .inl (ty 0, 240, .inl (nF (va_up q1 (k - 1) (q1 k))))), (aM 39, .inl (ty 0, 240, .inl (nF (va_up q2 (k - 1) (q2 k))))), (aM 40, .inl (ty 0, 240, .inl (nF q3))), (aM 41, .inl (ty 0, 240, .inl (nF q4)))] _ := hP
        have hD : va_D A [(hM, .inr (10, mO cd st al ac nf ns gg mg bw md wy sg_ sz_ ks bd aM)), (aM 37, .inl (ty 0, 240, .inl (nF (va_up q0 (k - 1) (q0 k))))), (aM 38, .inl (ty 0, 240, .inl (nF (va_up q1 (k - 1) (q1 k))))), (aM 39, .inl (ty 0, 240, .inl (nF (va_up q2 (k - 1) (q2 k))))), (aM 40, .inl (ty 0, 240, .inl (nF q3))), (aM 41, .inl (ty 0, 240, .inl (nF q4)))] := hD
        refine lv_aload_n hx hb d_Model_drop_54 rfl (lv_at hl 0 rfl) ?_
        refine va_get (D := G) (ci := 10) (v := .ref (aM 40)) (C := R_Model) (T := F_Model) (N := 47) hx hb hts in_Model hown hK hP 0 rfl rfl 40 (by decide) (hts _ fl_Model_103) (fun _ h9 => h9) rfl d_Model_drop_55 ?_
        refine lv_iload_n hx hb d_Model_drop_58 rfl (lv_at hl 2 rfl) ?_
        refine lv_iconst (v := (nI 1)) hx hb d_Model_drop_59 (by decide) ?_
        refine n_isub hx hb (by omega) d_Model_drop_60 ?_
        refine lv_aload_n hx hb d_Model_drop_61 rfl (lv_at hl 0 rfl) ?_
        refine va_get (D := G) (ci := 10) (v := .ref (aM 40)) (C := R_Model) (T := F_Model) (N := 47) hx hb hts in_Model hown hK hP 0 rfl rfl 40 (by decide) (hts _ fl_Model_103) (fun _ h9 => h9) rfl d_Model_drop_62 ?_
        refine lv_iload_n hx hb d_Model_drop_65 rfl (lv_at hl 2 rfl) ?_
        refine n_iald hx hb hK hP 4 0 rfl rfl (by omega) (by omega) d_Model_drop_66 ?_
        refine top_i (show (nI (q3 k)) = (nI (q3 k)) from rfl) ?_
        refine n_iast hx hb hK hP hD hS 4 0 rfl rfl (by omega) (by omega) d_Model_drop_67 (fun H locs hP hD hS => ?_)
        rw [upd_nF] at hP hD
        have hP : va_P G vwCl [(hM, .inr (10, mO cd st al ac nf ns gg mg bw md wy sg_ sz_ ks bd aM)), (aM 37, .inl (ty 0, 240, .inl (nF (va_up q0 (k - 1) (q0 k))))), (aM 38, .inl (ty 0, 240, .inl (nF (va_up q1 (k - 1) (q1 k))))), (aM 39, .inl (ty 0, 240, .inl (nF (va_up q2 (k - 1) (q2 k))))), (aM 40, .inl (ty 0, 240, .inl (nF (va_up q3 (k - 1) (q3 k))))), (aM 41, .inl (ty 0, 240, .inl (nF q4)))] _ := hP
        have hD : va_D A [(hM, .inr (10, mO cd st al ac nf ns gg mg bw md wy sg_ sz_ ks bd aM)), (aM 37, .inl (ty 0, 240, .inl (nF (va_up q0 (k - 1) (q0 k))))), (aM 38, .inl (ty 0, 240, .inl (nF (va_up q1 (k - 1) (q1 k))))), (aM 39, .inl (ty 0, 240, .inl (nF (va_up q2 (k - 1) (q2 k))))), (aM 40, .inl (ty 0, 240, .inl (nF (va_up q3 (k - 1) (q3 k))))), (aM 41, .inl (ty 0, 240, .inl (nF q4)))] := hD
        refine lv_aload_n hx hb d_Model_drop_68 rfl (lv_at hl 0 rfl) ?_
        refine va_get (D := G) (ci := 10) (v := .ref (aM 41)) (C := R_Model) (T := F_Model) (N := 47) hx hb hts in_Model hown hK hP 0 rfl rfl 41 (by decide) (hts _ fl_Model_106) (fun _ h9 => h9) rfl d_Model_drop_69 ?_
        refine lv_iload_n hx hb d_Model_drop_72 rfl (lv_at hl 2 rfl) ?_
        refine lv_iconst (v := (nI 1)) hx hb d_Model_drop_73 (by decide) ?_
        refine n_isub hx hb (by omega) d_Model_drop_74 ?_
        refine lv_aload_n hx hb d_Model_drop_75 rfl (lv_at hl 0 rfl) ?_
        refine va_get (D := G) (ci := 10) (v := .ref (aM 41)) (C := R_Model) (T := F_Model) (N := 47) hx hb hts in_Model hown hK hP 0 rfl rfl 41 (by decide) (hts _ fl_Model_106) (fun _ h9 => h9) rfl d_Model_drop_76 ?_
        refine lv_iload_n hx hb d_Model_drop_79 rfl (lv_at hl 2 rfl) ?_
        refine n_iald hx hb hK hP 5 0 rfl rfl (by omega) (by omega) d_Model_drop_80 ?_
        refine top_i (show (nI (q4 k)) = (nI (q4 k)) from rfl) ?_
        refine n_iast hx hb hK hP hD hS 5 0 rfl rfl (by omega) (by omega) d_Model_drop_81 (fun H locs hP hD hS => ?_)
        rw [upd_nF] at hP hD
        have hP : va_P G vwCl [(hM, .inr (10, mO cd st al ac nf ns gg mg bw md wy sg_ sz_ ks bd aM)), (aM 37, .inl (ty 0, 240, .inl (nF (va_up q0 (k - 1) (q0 k))))), (aM 38, .inl (ty 0, 240, .inl (nF (va_up q1 (k - 1) (q1 k))))), (aM 39, .inl (ty 0, 240, .inl (nF (va_up q2 (k - 1) (q2 k))))), (aM 40, .inl (ty 0, 240, .inl (nF (va_up q3 (k - 1) (q3 k))))), (aM 41, .inl (ty 0, 240, .inl (nF (va_up q4 (k - 1) (q4 k)))))] _ := hP
        have hD : va_D A [(hM, .inr (10, mO cd st al ac nf ns gg mg bw md wy sg_ sz_ ks bd aM)), (aM 37, .inl (ty 0, 240, .inl (nF (va_up q0 (k - 1) (q0 k))))), (aM 38, .inl (ty 0, 240, .inl (nF (va_up q1 (k - 1) (q1 k))))), (aM 39, .inl (ty 0, 240, .inl (nF (va_up q2 (k - 1) (q2 k))))), (aM 40, .inl (ty 0, 240, .inl (nF (va_up q3 (k - 1) (q3 k))))), (aM 41, .inl (ty 0, 240, .inl (nF (va_up q4 (k - 1) (q4 k)))))] := hD
        have hA2 : ∀ j, ((j < at_ → (va_up q0 (k - 1) (q0 k)) j = p0 j) ∧ (at_ ≤ j → j + 1 < (k + 1) → (va_up q0 (k - 1) (q0 k)) j = p0 (j + 1)) ∧ ((k + 1) ≤ j + 1 → (va_up q0 (k - 1) (q0 k)) j = p0 j)) ∧ ((j < at_ → (va_up q1 (k - 1) (q1 k)) j = p1 j) ∧ (at_ ≤ j → j + 1 < (k + 1) → (va_up q1 (k - 1) (q1 k)) j = p1 (j + 1)) ∧ ((k + 1) ≤ j + 1 → (va_up q1 (k - 1) (q1 k)) j = p1 j)) ∧ ((j < at_ → (va_up q2 (k - 1) (q2 k)) j = p2 j) ∧ (at_ ≤ j → j + 1 < (k + 1) → (va_up q2 (k - 1) (q2 k)) j = p2 (j + 1)) ∧ ((k + 1) ≤ j + 1 → (va_up q2 (k - 1) (q2 k)) j = p2 j)) ∧ ((j < at_ → (va_up q3 (k - 1) (q3 k)) j = p3 j) ∧ (at_ ≤ j → j + 1 < (k + 1) → (va_up q3 (k - 1) (q3 k)) j = p3 (j + 1)) ∧ ((k + 1) ≤ j + 1 → (va_up q3 (k - 1) (q3 k)) j = p3 j)) ∧ ((j < at_ → (va_up q4 (k - 1) (q4 k)) j = p4 j) ∧ (at_ ≤ j → j + 1 < (k + 1) → (va_up q4 (k - 1) (q4 k)) j = p4 (j + 1)) ∧ ((k + 1) ≤ j + 1 → (va_up q4 (k - 1) (q4 k)) j = p4 j)) := fun j => ⟨⟨fun h => by rw [va_up_ne _ _ (by omega)]; exact (hA1 j).1.1 h, fun h1 h2 => (Nat.lt_or_ge (j + 1) k).elim (fun q => by rw [va_up_ne _ _ (by omega)]; exact (hA1 j).1.2.1 h1 q) (fun q => by have ej : j = k - 1 := (by omega); rw [ej, va_up_self, show k - 1 + 1 = k by omega]; exact (hA1 k).1.2.2 (by omega)), fun h => by rw [va_up_ne _ _ (by omega)]; exact (hA1 j).1.2.2 (by omega)⟩, ⟨fun h => by rw [va_up_ne _ _ (by omega)]; exact (hA1 j).2.1.1 h, fun h1 h2 => (Nat.lt_or_ge (j + 1) k).elim (fun q => by rw [va_up_ne _ _ (by omega)]; exact (hA1 j).2.1.2.1 h1 q) (fun q => by have ej : j = k - 1 := (by omega); rw [ej, va_up_self, show k - 1 + 1 = k by omega]; exact (hA1 k).2.1.2.2 (by omega)), fun h => by rw [va_up_ne _ _ (by omega)]; exact (hA1 j).2.1.2.2 (by omega)⟩, ⟨fun h => by rw [va_up_ne _ _ (by omega)]; exact (hA1 j).2.2.1.1 h, fun h1 h2 => (Nat.lt_or_ge (j + 1) k).elim (fun q => by rw [va_up_ne _ _ (by omega)]; exact (hA1 j).2.2.1.2.1 h1 q) (fun q => by have ej : j = k - 1 := (by omega); rw [ej, va_up_self, show k - 1 + 1 = k by omega]; exact (hA1 k).2.2.1.2.2 (by omega)), fun h => by rw [va_up_ne _ _ (by omega)]; exact (hA1 j).2.2.1.2.2 (by omega)⟩, ⟨fun h => by rw [va_up_ne _ _ (by omega)]; exact (hA1 j).2.2.2.1.1 h, fun h1 h2 => (Nat.lt_or_ge (j + 1) k).elim (fun q => by rw [va_up_ne _ _ (by omega)]; exact (hA1 j).2.2.2.1.2.1 h1 q) (fun q => by have ej : j = k - 1 := (by omega); rw [ej, va_up_self, show k - 1 + 1 = k by omega]; exact (hA1 k).2.2.2.1.2.2 (by omega)), fun h => by rw [va_up_ne _ _ (by omega)]; exact (hA1 j).2.2.2.1.2.2 (by omega)⟩, ⟨fun h => by rw [va_up_ne _ _ (by omega)]; exact (hA1 j).2.2.2.2.1 h, fun h1 h2 => (Nat.lt_or_ge (j + 1) k).elim (fun q => by rw [va_up_ne _ _ (by omega)]; exact (hA1 j).2.2.2.2.2.1 h1 q) (fun q => by have ej : j = k - 1 := (by omega); rw [ej, va_up_self, show k - 1 + 1 = k by omega]; exact (hA1 k).2.2.2.2.2.2 (by omega)), fun h => by rw [va_up_ne _ _ (by omega)]; exact (hA1 j).2.2.2.2.2.2 (by omega)⟩⟩
        refine lv_iinc (v := (nI (k + 1))) (lv' := [(2, .int (nI (k + 1))), (0, .ref hM), (1, .int (nI at_))]) hx hb d_Model_drop_82 hl (k := 2) rfl (nI_inc _ _ _ (by omega)) (by decide) rfl (fun ls hl => ?_)
        refine lv_goto (tgt := 4) hx hb d_Model_drop_85 (by decide) ?_
        exact ih4 (k + 1) (va_up q0 (k - 1) (q0 k)) (va_up q1 (k - 1) (q1 k)) (va_up q2 (k - 1) (q2 k)) (va_up q3 (k - 1) (q3 k)) (va_up q4 (k - 1) (q4 k)) _ _ _ (by omega) hA2 (by omega) hP hD hS (lv_sub hl [1, 2, 0] rfl)
  exact L4 (sz_ - (at_ + 1) + 1) (at_ + 1) p0 p1 p2 p3 p4 _ _ _ (by omega) (fun j => ⟨⟨fun _ => rfl, fun h1 h2 => absurd h1 (by omega), fun _ => rfl⟩, ⟨fun _ => rfl, fun h1 h2 => absurd h1 (by omega), fun _ => rfl⟩, ⟨fun _ => rfl, fun h1 h2 => absurd h1 (by omega), fun _ => rfl⟩, ⟨fun _ => rfl, fun h1 h2 => absurd h1 (by omega), fun _ => rfl⟩, ⟨fun _ => rfl, fun h1 h2 => absurd h1 (by omega), fun _ => rfl⟩⟩) (Nat.lt_succ_self _) hP hD hS (lv_sub hl [1, 2, 0] rfl)
