theorem fl_Sorts_22 : Cond.fieldLink R_Sorts 22 "FaultRips$Sorts" "bow" "I" ∈ TB := mem_TB 102 (by decide +kernel) (by decide +kernel)
theorem fl_Sorts_25 : Cond.fieldLink R_Sorts 25 "FaultRips$Sorts" "board" "LFaultRips$Board;" ∈ TB := mem_TB 104 (by decide +kernel) (by decide +kernel)
theorem fl_Sorts_50 : Cond.fieldLink R_Sorts 50 "FaultRips$Plan" "total" "J" ∈ TB := mem_TB 186 (by decide +kernel) (by decide +kernel)
theorem lk_Sorts_29 : Cond.methodLink R_Sorts 29 y_Sort_makeReady ∈ TB := mem_TB 585 (by decide +kernel) (by decide +kernel)
theorem lm_Sorts_53 : Cond.methodLink R_Sorts 53 Lib.MathLoose.max_long.x ∈ TB := mem_TB 702 (by decide +kernel) (by decide +kernel)

/-- a plan's worth, and what the prices weigh -/
def vSum (ns0 : Nat → Int) (pr : Nat → Int) (cn : Nat → Nat) (tot : Int) : Nat → Int
  | 0 => tot
  | i + 1 => if ns0 i = -1 then vSum ns0 pr cn tot i else vSum ns0 pr cn tot i + pr i * (ns0 i - (cn i : Int))
theorem vSum_b {sn pr : Nat → Int} {cn : Nat → Nat} {tot : Int} (ht : 0 ≤ tot ∧ tot ≤ 1000000000000) (hp : ∀ i, i < 8 → 0 ≤ pr i ∧ pr i ≤ 1000000000) (hn : ∀ i, i < 8 → -1 ≤ sn i ∧ sn i ≤ 1000) (hc : ∀ i, i < 8 → cn i ≤ 1000) : ∀ i : Nat, i ≤ 8 → -(1001000000000 * (i : Int)) ≤ vSum sn pr cn tot i ∧ vSum sn pr cn tot i ≤ 1000000000000 + 1001000000000 * (i : Int) := by
  intro i
  induction i with
  | zero => intro _; show -(1001000000000 * ((0 : Nat) : Int)) ≤ tot ∧ tot ≤ 1000000000000 + 1001000000000 * ((0 : Nat) : Int); omega
  | succ i ih =>
    intro hi
    have h := ih (by omega)
    have h1 := hp i (by omega)
    have h2 := hn i (by omega)
    have h3 := hc i (by omega)
    show -(1001000000000 * ((i + 1 : Nat) : Int)) ≤ (if sn i = -1 then vSum sn pr cn tot i else vSum sn pr cn tot i + pr i * (sn i - (cn i : Int))) ∧ (if sn i = -1 then vSum sn pr cn tot i else vSum sn pr cn tot i + pr i * (sn i - (cn i : Int))) ≤ _
    split
    · omega
    · have h4 : pr i * (sn i - (cn i : Int)) ≤ 1000000000 * 1001 := Int.le_trans (Int.mul_le_mul_of_nonneg_left (show sn i - (cn i : Int) ≤ 1001 by omega) h1.1) (Int.mul_le_mul_of_nonneg_right h1.2 (by omega))
      have h5 : -(1000000000 * 1001) ≤ pr i * (sn i - (cn i : Int)) := by
        have h6 : pr i * ((cn i : Int) - sn i) ≤ 1000000000 * 1001 := Int.le_trans (Int.mul_le_mul_of_nonneg_left (show (cn i : Int) - sn i ≤ 1001 by omega) h1.1) (Int.mul_le_mul_of_nonneg_right h1.2 (by omega))
        have h7 : pr i * ((cn i : Int) - sn i) = -(pr i * (sn i - (cn i : Int))) := by rw [← Int.mul_neg]; congr 1; omega
        omega
      omega
/-- a price behind a round -/
def mvP (sn pr : Nat → Int) (cn : Nat → Nat) (sd : Nat) (i : Nat) : Int := if sn i = -1 then pr i else max 0 (pr i + ((cn i : Int) - sn i) * (sd : Int))

abbrev q_Sorts_valueOf (G : va_G) (ty : Nat → ClassId) (hT : Nat) (aT : Nat) (hB : Nat) (bw : Nat) (fT : Nat → Option Nat) (hQ : Nat) (aQ : Nat) (aC : Nat) (np : Nat) (rm : Nat) (tot : Int) (cn : Nat → Nat) (nf : Nat) (adF : Nat → Nat) (fd : Nat → Nat → Int) (ns : Nat) (adS : Nat → Nat) (sw : Nat → Nat) (sp : Nat → Nat) (sn : Nat → Int) (pr : Nat → Int) (sl : Nat → Nat) (sm : Nat → Nat) (sb : Nat → Int32) (lo : Nat → Nat) (hi : Nat → Nat) (sa : Nat → Int32) : Array Value → State → Outcome → State → Prop := vp_Sl (fun r : Int64 => r = (iL (vSum sn pr cn tot ns)))
set_option maxRecDepth 100000 in
set_option maxHeartbeats 4000000 in
theorem c_Sorts_valueOf (l : Launch) (G : va_G) (ty : Nat → ClassId) (hT : Nat) (aT : Nat) (hB : Nat) (bw : Nat) (fT : Nat → Option Nat) (hQ : Nat) (aQ : Nat) (aC : Nat) (np : Nat) (rm : Nat) (tot : Int) (cn : Nat → Nat) (nf : Nat) (adF : Nat → Nat) (fd : Nat → Nat → Int) (ns : Nat) (adS : Nat → Nat) (sw : Nat → Nat) (sp : Nat → Nat) (sn : Nat → Int) (pr : Nat → Int) (sl : Nat → Nat) (sm : Nat → Nat) (sb : Nat → Int32) (lo : Nat → Nat) (hi : Nat → Nat) (sa : Nat → Int32) (g8 : ns ≤ 8) (gt : ∀ i, i < ns → fT i = some (adS i)) (gn : ∀ i, i < ns → -1 ≤ sn i ∧ sn i ≤ 1000) (gc : ∀ i, i < 8 → cn i ≤ 1000) : Met l y_Sorts_valueOf ws_Sorts_valueOf { frames := 0, cells := 0, slots := 0, locals := 0 } (va_Pc [.ref hT, .ref hQ] (fun U => va_P G vwCl (WP [(hT, .inr (8, [.ref aT, .int (nI ns), .int (nI bw), .ref hB])), (aT, .inl (ty 4, 8, .inr (.inr (.inr (.inr fT))))), (hQ, .inr (6, [.ref aQ, .ref aC, .int (nI np), .long (iL tot), .int (nI rm)])), (aC, .inl (ty 0, 8, .inl (nF cn)))] (PLd nf adF fd ns adS sw sp sn pr sl sm sb lo hi sa)) U.heap ∧ KX G ty U)) (q_Sorts_valueOf G ty hT aT hB bw fT hQ aQ aC np rm tot cn nf adF fd ns adS sw sp sn pr sl sm sb lo hi sa) 0 0 (fun _ => False) := by
  refine met_ro R_Sorts (by decide) rfl rfl (Nat.le_of_ble_eq_true rfl) ?_
  intro p e s m below meth c ls hx hb hr hml hown hts hlocks hP hX hl
  have hK := hX.1
  have hl : lv_has ls 5 [(0, .ref hT), (1, .ref hQ)] := hl
  refine lv_aload_n hx hb d_Sorts_valueOf_0 rfl (lv_at hl 1 rfl) ?_
  refine va_get (D := G) (ci := 6) (v := .long (iL tot)) (C := R_Plan) (T := F_Plan) (N := 5) hx hb hts in_Plan hown hK hP 2 rfl rfl 3 (by decide) (hts _ fl_Sorts_50) (fun _ h9 => h9) rfl d_Sorts_valueOf_1 ?_
  refine lv_lstore_n (lv' := [(2, .long (iL tot)), (0, .ref hT), (1, .ref hQ)]) hx hb d_Sorts_valueOf_4 rfl hl (by decide) rfl (fun ls hl => ?_)
  refine lv_iconst (v := (nI 0)) hx hb d_Sorts_valueOf_5 (by decide) ?_
  refine lv_istore (lv' := [(4, .int (nI 0)), (2, .long (iL tot)), (0, .ref hT), (1, .ref hQ)]) hx hb d_Sorts_valueOf_6 hl (by decide) rfl (fun ls hl => ?_)
  have L8 : ∀ (k9 : Nat) (i : Nat) (ls : Array Slot), (i ≤ ns) → ns - i < k9 → lv_has ls 5 [(0, .ref hT), (1, .ref hQ), (2, .long (iL (vSum sn pr cn tot i))), (4, .int (nI i))] → W p l e { frames := 0, cells := 0, slots := 0, locals := 0 } s m [.ref hT, .ref hQ].toArray below meth c s.heap [] 0 0 (MQ below (q_Sorts_valueOf G ty hT aT hB bw fT hQ aQ aC np rm tot cn nf adF fd ns adS sw sp sn pr sl sm sb lo hi sa) [.ref hT, .ref hQ].toArray s 0 0 (fun _ => False)) (F0 m 8 ls []) := by
    intro k9
    induction k9 with
    | zero => intro i ls hi1 hk9; exact absurd hk9 (Nat.not_lt_zero _)
    | succ k9 ih8 =>
      intro i ls hi1 hk9 hl
      refine lv_iload hx hb d_Sorts_valueOf_8 (lv_at hl 3 rfl) ?_
      refine lv_aload_n hx hb d_Sorts_valueOf_10 rfl (lv_at hl 0 rfl) ?_
      refine va_get (D := G) (ci := 8) (v := .int (nI ns)) (C := R_Sorts) (T := F_Sorts) (N := 4) hx hb hts in_Sorts hown hK hP 0 rfl rfl 1 (by decide) (hts _ fl_Sorts_17) (fun _ h9 => h9) rfl d_Sorts_valueOf_11 ?_
      refine n_icmp_ge (tgt := 70) hx hb (by omega) (by omega) d_Sorts_valueOf_14 (by decide) (fun c14 => ?_) (fun c14 => ?_)
      · refine lv_lload_n hx hb d_Sorts_valueOf_70 rfl (lv_at hl 2 rfl) ?_
        exact W.lret (v := (iL (vSum sn pr cn tot i))) hx hb hr (fun t9 ht _ => ⟨_, rfl, congrArg iL (by rw [show i = ns from by omega]), ht⟩) (fun q h => by cases h) d_Sorts_valueOf_71
      · have hc := gc i (by omega)
        have hn := gn i (by omega)
        refine lv_aload_n hx hb d_Sorts_valueOf_17 rfl (lv_at hl 0 rfl) ?_
        refine va_get (D := G) (ci := 8) (v := .ref aT) (C := R_Sorts) (T := F_Sorts) (N := 4) hx hb hts in_Sorts hown hK hP 0 rfl rfl 0 (by decide) (hts _ fl_Sorts_11) (fun _ h9 => h9) rfl d_Sorts_valueOf_18 ?_
        refine lv_iload hx hb d_Sorts_valueOf_21 (lv_at hl 3 rfl) ?_
        refine n_aald hx hb hK hP 1 4 rfl rfl (by omega) (by omega) (gt i (by omega)) d_Sorts_valueOf_23 ?_
        refine va_get (D := G) (ci := 7) (v := .int (iI (sn i))) (C := R_Sort) (T := F_Sort) (N := 10) hx hb hts in_Sort hown hK hP (4 + (nf + i)) (pool_2 4 rfl (by omega)) rfl 2 (by decide) (hts _ fl_Sorts_33) (fun _ h9 => h9) rfl d_Sorts_valueOf_24 ?_
        refine lv_iconst (v := (iI (-1))) hx hb d_Sorts_valueOf_27 (by decide) ?_
        refine z_icmp_eq (tgt := 64) hx hb (by omega) (by omega) d_Sorts_valueOf_28 (by decide) (fun c28 => ?_) (fun c28 => ?_)
        · have hl : lv_has ls 5 [(0, .ref hT), (1, .ref hQ), (2, .long (iL (vSum sn pr cn tot (i + 1)))), (4, .int (nI i))] := by rw [show (iL (vSum sn pr cn tot (i + 1))) = (iL (vSum sn pr cn tot i)) from congrArg iL (by show (if sn i = -1 then _ else _) = _; rw [if_pos c28])]; exact hl
          refine lv_iinc (v := (nI (i + 1))) (lv' := [(4, .int (nI (i + 1))), (0, .ref hT), (1, .ref hQ), (2, .long (iL (vSum sn pr cn tot (i + 1))))]) hx hb d_Sorts_valueOf_64 hl (k := 3) rfl (nI_inc _ _ _ (by omega)) (by decide) rfl (fun ls hl => ?_)
          refine lv_goto (tgt := 8) hx hb d_Sorts_valueOf_67 (by decide) ?_
          exact ih8 (i + 1) _ (by omega) (by omega) (lv_sub hl [1, 2, 3, 0] rfl)
        · refine lv_lload_n hx hb d_Sorts_valueOf_31 rfl (lv_at hl 2 rfl) ?_
          refine lv_aload_n hx hb d_Sorts_valueOf_32 rfl (lv_at hl 0 rfl) ?_
          refine va_get (D := G) (ci := 8) (v := .ref aT) (C := R_Sorts) (T := F_Sorts) (N := 4) hx hb hts in_Sorts hown hK hP 0 rfl rfl 0 (by decide) (hts _ fl_Sorts_11) (fun _ h9 => h9) rfl d_Sorts_valueOf_33 ?_
          refine lv_iload hx hb d_Sorts_valueOf_36 (lv_at hl 3 rfl) ?_
          refine n_aald hx hb hK hP 1 4 rfl rfl (by omega) (by omega) (gt i (by omega)) d_Sorts_valueOf_38 ?_
          refine va_get (D := G) (ci := 7) (v := .long (iL (pr i))) (C := R_Sort) (T := F_Sort) (N := 10) hx hb hts in_Sort hown hK hP (4 + (nf + i)) (pool_2 4 rfl (by omega)) rfl 3 (by decide) (hts _ fl_Sorts_46) (fun _ h9 => h9) rfl d_Sorts_valueOf_39 ?_
          refine lv_aload_n hx hb d_Sorts_valueOf_42 rfl (lv_at hl 0 rfl) ?_
          refine va_get (D := G) (ci := 8) (v := .ref aT) (C := R_Sorts) (T := F_Sorts) (N := 4) hx hb hts in_Sorts hown hK hP 0 rfl rfl 0 (by decide) (hts _ fl_Sorts_11) (fun _ h9 => h9) rfl d_Sorts_valueOf_43 ?_
          refine lv_iload hx hb d_Sorts_valueOf_46 (lv_at hl 3 rfl) ?_
          refine n_aald hx hb hK hP 1 4 rfl rfl (by omega) (by omega) (gt i (by omega)) d_Sorts_valueOf_48 ?_
          refine va_get (D := G) (ci := 7) (v := .int (iI (sn i))) (C := R_Sort) (T := F_Sort) (N := 10) hx hb hts in_Sort hown hK hP (4 + (nf + i)) (pool_2 4 rfl (by omega)) rfl 2 (by decide) (hts _ fl_Sorts_33) (fun _ h9 => h9) rfl d_Sorts_valueOf_49 ?_
          refine lv_aload_n hx hb d_Sorts_valueOf_52 rfl (lv_at hl 1 rfl) ?_
          refine va_get (D := G) (ci := 6) (v := .ref aC) (C := R_Plan) (T := F_Plan) (N := 5) hx hb hts in_Plan hown hK hP 2 rfl rfl 1 (by decide) (hts _ fl_Sorts_36) (fun _ h9 => h9) rfl d_Sorts_valueOf_53 ?_
          refine lv_iload hx hb d_Sorts_valueOf_56 (lv_at hl 3 rfl) ?_
          refine n_iald hx hb hK hP 3 0 rfl rfl (by omega) (by omega) d_Sorts_valueOf_58 ?_
          refine zn_isub hx hb d_Sorts_valueOf_59 ?_
          refine z_i2l hx hb (by omega) d_Sorts_valueOf_60 ?_
          refine z_lmul hx hb d_Sorts_valueOf_61 ?_
          refine z_ladd hx hb d_Sorts_valueOf_62 ?_
          refine top_l (show (iL ((vSum sn pr cn tot i) + ((pr i) * ((sn i) - ((cn i : Nat) : Int))))) = (iL (vSum sn pr cn tot (i + 1))) from congrArg iL (by show _ = (if sn i = -1 then _ else _); rw [if_neg c28])) ?_
          refine lv_lstore_n (lv' := [(2, .long (iL (vSum sn pr cn tot (i + 1)))), (0, .ref hT), (1, .ref hQ), (4, .int (nI i))]) hx hb d_Sorts_valueOf_63 rfl hl (by decide) rfl (fun ls hl => ?_)
          refine lv_iinc (v := (nI (i + 1))) (lv' := [(4, .int (nI (i + 1))), (2, .long (iL (vSum sn pr cn tot (i + 1)))), (0, .ref hT), (1, .ref hQ)]) hx hb d_Sorts_valueOf_64 hl (k := 3) rfl (nI_inc _ _ _ (by omega)) (by decide) rfl (fun ls hl => ?_)
          refine lv_goto (tgt := 8) hx hb d_Sorts_valueOf_67 (by decide) ?_
          exact ih8 (i + 1) _ (by omega) (by omega) (lv_sub hl [2, 3, 1, 0] rfl)
  exact L8 (ns - 0 + 1) 0 _ (Nat.zero_le _) (Nat.lt_succ_self _) (lv_sub hl [2, 3, 1, 0] rfl)

theorem mul_b {a : Int} {sd : Nat} (h : -1000 ≤ a ∧ a ≤ 1001) (hs : sd ≤ 256) : -256256 ≤ a * (sd : Int) ∧ a * (sd : Int) ≤ 256256 := by
  have h1 : a * (sd : Int) ≤ 1001 * 256 := Int.le_trans (Int.mul_le_mul_of_nonneg_right h.2 (by omega)) (Int.mul_le_mul_of_nonneg_left (by omega) (by omega))
  have h2 : (-a) * (sd : Int) ≤ 1000 * 256 := Int.le_trans (Int.mul_le_mul_of_nonneg_right (show -a ≤ 1000 by omega) (by omega)) (Int.mul_le_mul_of_nonneg_left (by omega) (by omega))
  rw [Int.neg_mul] at h2
  omega

abbrev q_Sorts_movePrices (G : va_G) (ty : Nat → ClassId) (hT : Nat) (aT : Nat) (hB : Nat) (bw : Nat) (fT : Nat → Option Nat) (hQ : Nat) (aQ : Nat) (aC : Nat) (np : Nat) (rm : Nat) (tot : Int) (cn : Nat → Nat) (sd : Nat) (nf : Nat) (adF : Nat → Nat) (fd : Nat → Nat → Int) (ns : Nat) (adS : Nat → Nat) (sw : Nat → Nat) (sp : Nat → Nat) (sn : Nat → Int) (pr : Nat → Int) (sl : Nat → Nat) (sm : Nat → Nat) (sb : Nat → Int32) (lo : Nat → Nat) (hi : Nat → Nat) (sa : Nat → Int32) (A : Nat → Prop) : Array Value → State → Outcome → State → Prop := va_Qv (fun (uu : (Nat → Int)) => ∀ i, i < ns → uu i = mvP sn pr cn sd i) (at_W G (fun (uu : (Nat → Int)) => (WP [(hT, .inr (8, [.ref aT, .int (nI ns), .int (nI bw), .ref hB])), (aT, .inl (ty 4, 8, .inr (.inr (.inr (.inr fT))))), (hQ, .inr (6, [.ref aQ, .ref aC, .int (nI np), .long (iL tot), .int (nI rm)])), (aC, .inl (ty 0, 8, .inl (nF cn)))] (PLd nf adF fd ns adS sw sp sn uu sl sm sb lo hi sa))) A) A
set_option maxRecDepth 100000 in
set_option maxHeartbeats 4000000 in
theorem c_Sorts_movePrices (l : Launch) (G : va_G) (ty : Nat → ClassId) (sz : Nat) (hT : Nat) (aT : Nat) (hB : Nat) (bw : Nat) (fT : Nat → Option Nat) (hQ : Nat) (aQ : Nat) (aC : Nat) (np : Nat) (rm : Nat) (tot : Int) (cn : Nat → Nat) (sd : Nat) (nf : Nat) (adF : Nat → Nat) (fd : Nat → Nat → Int) (ns : Nat) (adS : Nat → Nat) (sw : Nat → Nat) (sp : Nat → Nat) (sn : Nat → Int) (pr : Nat → Int) (sl : Nat → Nat) (sm : Nat → Nat) (sb : Nat → Int32) (lo : Nat → Nat) (hi : Nat → Nat) (sa : Nat → Int32) (g8 : ns ≤ 8) (gt : ∀ i, i < ns → fT i = some (adS i)) (gn : ∀ i, i < ns → -1 ≤ sn i ∧ sn i ≤ 1000) (gc : ∀ i, i < 8 → cn i ≤ 1000) (gp : ∀ i, i < ns → 0 ≤ pr i ∧ pr i ≤ 1000000000) (gs : sd ≤ 256) : Met l y_Sorts_movePrices ws_Sorts_movePrices { frames := 1, cells := 0, slots := 0, locals := 23 } (va_Pc [.ref hT, .ref hQ, .int (nI sd)] (fun U => U.heap.size = sz ∧ va_P G vwCl (WP [(hT, .inr (8, [.ref aT, .int (nI ns), .int (nI bw), .ref hB])), (aT, .inl (ty 4, 8, .inr (.inr (.inr (.inr fT))))), (hQ, .inr (6, [.ref aQ, .ref aC, .int (nI np), .long (iL tot), .int (nI rm)])), (aC, .inl (ty 0, 8, .inl (nF cn)))] (PLd nf adF fd ns adS sw sp sn pr sl sm sb lo hi sa)) U.heap ∧ KX G ty U ∧ va_D (fun _ => True) (WP [(hT, .inr (8, [.ref aT, .int (nI ns), .int (nI bw), .ref hB])), (aT, .inl (ty 4, 8, .inr (.inr (.inr (.inr fT))))), (hQ, .inr (6, [.ref aQ, .ref aC, .int (nI np), .long (iL tot), .int (nI rm)])), (aC, .inl (ty 0, 8, .inl (nF cn)))] (PLd nf adF fd ns adS sw sp sn pr sl sm sb lo hi sa)))) (q_Sorts_movePrices G ty hT aT hB bw fT hQ aQ aC np rm tot cn sd nf adF fd ns adS sw sp sn pr sl sm sb lo hi sa (va_A (WP [(hT, .inr (8, [.ref aT, .int (nI ns), .int (nI bw), .ref hB])), (aT, .inl (ty 4, 8, .inr (.inr (.inr (.inr fT))))), (hQ, .inr (6, [.ref aQ, .ref aC, .int (nI np), .long (iL tot), .int (nI rm)])), (aC, .inl (ty 0, 8, .inl (nF cn)))] (PLd nf adF fd ns adS sw sp sn pr sl sm sb lo hi sa)) sz)) 0 0 (va_A (WP [(hT, .inr (8, [.ref aT, .int (nI ns), .int (nI bw), .ref hB])), (aT, .inl (ty 4, 8, .inr (.inr (.inr (.inr fT))))), (hQ, .inr (6, [.ref aQ, .ref aC, .int (nI np), .long (iL tot), .int (nI rm)])), (aC, .inl (ty 0, 8, .inl (nF cn)))] (PLd nf adF fd ns adS sw sp sn pr sl sm sb lo hi sa)) sz) := by
  refine met_wr (y := y_Sorts_movePrices) (maxL := 5) (sz := sz) (G := G) (ty := ty) (mc := 0) (ms := 0) (av := [.ref hT, .ref hQ, .int (nI sd)]) (W0 := (WP [(hT, .inr (8, [.ref aT, .int (nI ns), .int (nI bw), .ref hB])), (aT, .inl (ty 4, 8, .inr (.inr (.inr (.inr fT))))), (hQ, .inr (6, [.ref aQ, .ref aC, .int (nI np), .long (iL tot), .int (nI rm)])), (aC, .inl (ty 0, 8, .inl (nF cn)))] (PLd nf adF fd ns adS sw sp sn pr sl sm sb lo hi sa))) (fun A => q_Sorts_movePrices G ty hT aT hB bw fT hQ aQ aC np rm tot cn sd nf adF fd ns adS sw sp sn pr sl sm sb lo hi sa A) R_Sorts (by decide) rfl rfl (Nat.le_of_ble_eq_true rfl) ?_
  intro p e s m below meth c ls A hx hb hr hml hown hts hlocks hin hA hP hX hD hS hl
  have hK := hX.1
  have hl : lv_has ls 5 [(0, .ref hT), (1, .ref hQ), (2, .int (nI sd))] := hl
  refine lv_iconst (v := (nI 0)) hx hb d_Sorts_movePrices_0 (by decide) ?_
  refine lv_istore_n (lv' := [(3, .int (nI 0)), (0, .ref hT), (1, .ref hQ), (2, .int (nI sd))]) hx hb d_Sorts_movePrices_1 rfl hl (by decide) rfl (fun ls hl => ?_)
  have L2 : ∀ (k9 : Nat) (i : Nat) (pq : Nat → Int) (H : Heap) (locs : List Loc) (ls : Array Slot), (i ≤ ns) → (∀ j, j < i → pq j = mvP sn pr cn sd j) → (∀ j, i ≤ j → pq j = pr j) → ns - i < k9 → va_P G vwCl (WP [(hT, .inr (8, [.ref aT, .int (nI ns), .int (nI bw), .ref hB])), (aT, .inl (ty 4, 8, .inr (.inr (.inr (.inr fT))))), (hQ, .inr (6, [.ref aQ, .ref aC, .int (nI np), .long (iL tot), .int (nI rm)])), (aC, .inl (ty 0, 8, .inl (nF cn)))] (PLd nf adF fd ns adS sw sp sn pq sl sm sb lo hi sa)) H → va_D A (WP [(hT, .inr (8, [.ref aT, .int (nI ns), .int (nI bw), .ref hB])), (aT, .inl (ty 4, 8, .inr (.inr (.inr (.inr fT))))), (hQ, .inr (6, [.ref aQ, .ref aC, .int (nI np), .long (iL tot), .int (nI rm)])), (aC, .inl (ty 0, 8, .inl (nF cn)))] (PLd nf adF fd ns adS sw sp sn pq sl sm sb lo hi sa)) → va_S A s.heap H locs → lv_has ls 5 [(0, .ref hT), (1, .ref hQ), (2, .int (nI sd)), (3, .int (nI i))] → W p l e { frames := 1, cells := 0, slots := 0, locals := 23 } s m [.ref hT, .ref hQ, .int (nI sd)].toArray below meth c H locs 0 0 (MQ below (q_Sorts_movePrices G ty hT aT hB bw fT hQ aQ aC np rm tot cn sd nf adF fd ns adS sw sp sn pr sl sm sb lo hi sa A) [.ref hT, .ref hQ, .int (nI sd)].toArray s 0 0 A) (F0 m 2 ls []) := by
    intro k9
    induction k9 with
    | zero => intro i pq H locs ls hi1 hA1 hB1 hk9; exact absurd hk9 (Nat.not_lt_zero _)
    | succ k9 ih2 =>
      intro i pq H locs ls hi1 hA1 hB1 hk9 hP hD hS hl
      refine lv_iload_n hx hb d_Sorts_movePrices_2 rfl (lv_at hl 3 rfl) ?_
      refine lv_aload_n hx hb d_Sorts_movePrices_3 rfl (lv_at hl 0 rfl) ?_
      refine va_get (D := G) (ci := 8) (v := .int (nI ns)) (C := R_Sorts) (T := F_Sorts) (N := 4) hx hb hts in_Sorts hown hK hP 0 rfl rfl 1 (by decide) (hts _ fl_Sorts_17) (fun _ h9 => h9) rfl d_Sorts_movePrices_4 ?_
      refine n_icmp_ge (tgt := 64) hx hb (by omega) (by omega) d_Sorts_movePrices_7 (by decide) (fun c7 => ?_) (fun c7 => ?_)
      · exact W.vret hx hb hr (fun t9 ht hW => ⟨⟨(pq), rfl, fun j h => hA1 j (by omega), by rw [ht]; exact hP, hD⟩, hS.F ht⟩) hS.2.2 d_Sorts_movePrices_64
      · have hc := gc i (by omega)
        have hn := gn i (by omega)
        have hp := gp i (by omega)
        have hpi := hB1 i (Nat.le_refl i)
        have hm1 := mul_b (show -1000 ≤ (cn i : Int) - sn i ∧ (cn i : Int) - sn i ≤ 1001 by omega) gs
        refine lv_aload_n hx hb d_Sorts_movePrices_10 rfl (lv_at hl 0 rfl) ?_
        refine va_get (D := G) (ci := 8) (v := .ref aT) (C := R_Sorts) (T := F_Sorts) (N := 4) hx hb hts in_Sorts hown hK hP 0 rfl rfl 0 (by decide) (hts _ fl_Sorts_11) (fun _ h9 => h9) rfl d_Sorts_movePrices_11 ?_
        refine lv_iload_n hx hb d_Sorts_movePrices_14 rfl (lv_at hl 3 rfl) ?_
        refine n_aald hx hb hK hP 1 4 rfl rfl (by omega) (by omega) (gt i (by omega)) d_Sorts_movePrices_15 ?_
        refine lv_astore (lv' := [(4, .ref (adS i)), (0, .ref hT), (1, .ref hQ), (2, .int (nI sd)), (3, .int (nI i))]) hx hb d_Sorts_movePrices_16 hl (by decide) rfl (fun ls hl => ?_)
        refine lv_aload hx hb d_Sorts_movePrices_18 (lv_at hl 0 rfl) ?_
        refine va_get (D := G) (ci := 7) (v := .int (iI (sn i))) (C := R_Sort) (T := F_Sort) (N := 10) hx hb hts in_Sort hown hK hP (4 + (nf + i)) (pool_2 4 rfl (by omega)) rfl 2 (by decide) (hts _ fl_Sorts_33) (fun _ h9 => h9) rfl d_Sorts_movePrices_20 ?_
        refine lv_iconst (v := (iI (-1))) hx hb d_Sorts_movePrices_23 (by decide) ?_
        refine z_icmp_eq (tgt := 58) hx hb (by omega) (by omega) d_Sorts_movePrices_24 (by decide) (fun c24 => ?_) (fun c24 => ?_)
        · have hA2 : ∀ j, j < i + 1 → pq j = mvP sn pr cn sd j := fun j h => (Nat.lt_or_ge j i).elim (hA1 j) (fun q => by rw [show j = i from by omega, hpi]; unfold mvP; rw [if_pos c24])
          have hB2 : ∀ j, i + 1 ≤ j → pq j = pr j := fun j h => hB1 j (by omega)
          refine lv_iinc (v := (nI (i + 1))) (lv' := [(3, .int (nI (i + 1))), (4, .ref (adS i)), (0, .ref hT), (1, .ref hQ), (2, .int (nI sd))]) hx hb d_Sorts_movePrices_58 hl (k := 4) rfl (nI_inc _ _ _ (by omega)) (by decide) rfl (fun ls hl => ?_)
          refine lv_goto (tgt := 2) hx hb d_Sorts_movePrices_61 (by decide) ?_
          exact ih2 (i + 1) pq _ _ _ (by omega) hA2 hB2 (by omega) hP hD hS (lv_sub hl [2, 3, 4, 0] rfl)
        · refine lv_aload hx hb d_Sorts_movePrices_27 (lv_at hl 0 rfl) ?_
          refine lv_lconst (v := iL 0) hx hb d_Sorts_movePrices_29 (by decide) ?_
          refine lv_aload hx hb d_Sorts_movePrices_30 (lv_at hl 0 rfl) ?_
          refine va_get (D := G) (ci := 7) (v := .long (iL (pq i))) (C := R_Sort) (T := F_Sort) (N := 10) hx hb hts in_Sort hown hK hP (4 + (nf + i)) (pool_2 4 rfl (by omega)) rfl 3 (by decide) (hts _ fl_Sorts_46) (fun _ h9 => h9) rfl d_Sorts_movePrices_32 ?_
          refine top_l (show (iL (pq i)) = (iL (pr i)) from congrArg iL hpi) ?_
          refine lv_aload_n hx hb d_Sorts_movePrices_35 rfl (lv_at hl 2 rfl) ?_
          refine va_get (D := G) (ci := 6) (v := .ref aC) (C := R_Plan) (T := F_Plan) (N := 5) hx hb hts in_Plan hown hK hP 2 rfl rfl 1 (by decide) (hts _ fl_Sorts_36) (fun _ h9 => h9) rfl d_Sorts_movePrices_36 ?_
          refine lv_iload_n hx hb d_Sorts_movePrices_39 rfl (lv_at hl 4 rfl) ?_
          refine n_iald hx hb hK hP 3 0 rfl rfl (by omega) (by omega) d_Sorts_movePrices_40 ?_
          refine lv_aload hx hb d_Sorts_movePrices_41 (lv_at hl 0 rfl) ?_
          refine va_get (D := G) (ci := 7) (v := .int (iI (sn i))) (C := R_Sort) (T := F_Sort) (N := 10) hx hb hts in_Sort hown hK hP (4 + (nf + i)) (pool_2 4 rfl (by omega)) rfl 2 (by decide) (hts _ fl_Sorts_33) (fun _ h9 => h9) rfl d_Sorts_movePrices_43 ?_
          refine nz_isub hx hb d_Sorts_movePrices_46 ?_
          refine z_i2l hx hb (by omega) d_Sorts_movePrices_47 ?_
          refine lv_iload_n hx hb d_Sorts_movePrices_48 rfl (lv_at hl 3 rfl) ?_
          refine n_i2l hx hb (by omega) d_Sorts_movePrices_49 ?_
          refine z_lmul hx hb d_Sorts_movePrices_50 ?_
          refine z_ladd hx hb d_Sorts_movePrices_51 ?_
          refine z_mmaxl hx hb hml hl.1 hown hts lm_Sorts_53 ⟨Nat.le_of_ble_eq_true rfl, Nat.le_of_ble_eq_true rfl⟩ (Nat.le_of_ble_eq_true rfl) ⟨Nat.le_of_ble_eq_true rfl, Nat.le_of_ble_eq_true rfl⟩ (by omega) (by omega) d_Sorts_movePrices_52 ?_
          refine va_put (D := G) (ci := 7) (v := .long (iL (max 0 ((pr i) + ((((cn i : Nat) : Int) - (sn i)) * ((sd : Nat) : Int)))))) (ty := .long) (C := R_Sort) (T := F_Sort) (N := 10) hx hb hts in_Sort t_Sort t_Sort_ok n_Sort hown hK hP hD hS (4 + (nf + i)) (pool_2 4 rfl (by omega)) rfl 3 (by decide) (hts _ fl_Sorts_46) (fun _ h9 => h9) rfl (by decide +kernel) rfl rfl (Nat.le_of_ble_eq_true rfl) d_Sorts_movePrices_55 (fun H locs hP hD hS => ?_)
          have ePL : ((WP [(hT, .inr (8, [.ref aT, .int (nI ns), .int (nI bw), .ref hB])), (aT, .inl (ty 4, 8, .inr (.inr (.inr (.inr fT))))), (hQ, .inr (6, [.ref aQ, .ref aC, .int (nI np), .long (iL tot), .int (nI rm)])), (aC, .inl (ty 0, 8, .inl (nF cn)))] (PLd nf adF fd ns adS sw sp sn pq sl sm sb lo hi sa))).set (4 + (nf + i)) (adS i, .inr (7, [.int (nI (sw i)), .int (nI (sp i)), .int (iI (sn i)), .long (iL (max 0 ((pr i) + ((((cn i : Nat) : Int) - (sn i)) * ((sd : Nat) : Int))))), .int (nI (sl i)), .int (nI (sm i)), .int (sb i), .int (nI (lo i)), .int (nI (hi i)), .int (sa i)])) = (WP [(hT, .inr (8, [.ref aT, .int (nI ns), .int (nI bw), .ref hB])), (aT, .inl (ty 4, 8, .inr (.inr (.inr (.inr fT))))), (hQ, .inr (6, [.ref aQ, .ref aC, .int (nI np), .long (iL tot), .int (nI rm)])), (aC, .inl (ty 0, 8, .inl (nF cn)))] (PLd nf adF fd ns adS sw sp sn (va_up pq i (max 0 ((pr i) + ((((cn i : Nat) : Int) - (sn i)) * ((sd : Nat) : Int))))) sl sm sb lo hi sa)) := pool_set2 4 rfl (by simp only [va_up_self]) (fun j hj => by simp only [va_up_ne _ _ hj])
          have hP : va_P G vwCl (WP [(hT, .inr (8, [.ref aT, .int (nI ns), .int (nI bw), .ref hB])), (aT, .inl (ty 4, 8, .inr (.inr (.inr (.inr fT))))), (hQ, .inr (6, [.ref aQ, .ref aC, .int (nI np), .long (iL tot), .int (nI rm)])), (aC, .inl (ty 0, 8, .inl (nF cn)))] (PLd nf adF fd ns adS sw sp sn (va_up pq i (max 0 ((pr i) + ((((cn i : Nat) : Int) - (sn i)) * ((sd : Nat) : Int))))) sl sm sb lo hi sa)) H := by rw [← ePL]; exact hP
          have hD : va_D A (WP [(hT, .inr (8, [.ref aT, .int (nI ns), .int (nI bw), .ref hB])), (aT, .inl (ty 4, 8, .inr (.inr (.inr (.inr fT))))), (hQ, .inr (6, [.ref aQ, .ref aC, .int (nI np), .long (iL tot), .int (nI rm)])), (aC, .inl (ty 0, 8, .inl (nF cn)))] (PLd nf adF fd ns adS sw sp sn (va_up pq i (max 0 ((pr i) + ((((cn i : Nat) : Int) - (sn i)) * ((sd : Nat) : Int))))) sl sm sb lo hi sa)) := by rw [← ePL]; exact hD
          have hA2 : ∀ j, j < i + 1 → va_up pq i (max 0 ((pr i) + ((((cn i : Nat) : Int) - (sn i)) * ((sd : Nat) : Int)))) j = mvP sn pr cn sd j := fun j h => (Nat.lt_or_ge j i).elim (fun q => by rw [va_up_ne _ _ (by omega)]; exact hA1 j q) (fun q => by rw [show j = i from by omega, va_up_self]; unfold mvP; rw [if_neg c24])
          have hB2 : ∀ j, i + 1 ≤ j → va_up pq i (max 0 ((pr i) + ((((cn i : Nat) : Int) - (sn i)) * ((sd : Nat) : Int)))) j = pr j := fun j h => by rw [va_up_ne _ _ (by omega)]; exact hB1 j (by omega)
          refine lv_iinc (v := (nI (i + 1))) (lv' := [(3, .int (nI (i + 1))), (4, .ref (adS i)), (0, .ref hT), (1, .ref hQ), (2, .int (nI sd))]) hx hb d_Sorts_movePrices_58 hl (k := 4) rfl (nI_inc _ _ _ (by omega)) (by decide) rfl (fun ls hl => ?_)
          refine lv_goto (tgt := 2) hx hb d_Sorts_movePrices_61 (by decide) ?_
          exact ih2 (i + 1) (va_up pq i (max 0 ((pr i) + ((((cn i : Nat) : Int) - (sn i)) * ((sd : Nat) : Int))))) _ _ _ (by omega) hA2 hB2 (by omega) hP hD hS (lv_sub hl [2, 3, 4, 0] rfl)
  exact L2 (ns - 0 + 1) 0 pr _ _ _ (Nat.zero_le _) (fun j h => absurd h (by omega)) (fun j _ => rfl) (Nat.lt_succ_self _) hP hD hS (lv_sub hl [1, 2, 3, 0] rfl)

abbrev q_Sorts_makeReady (G : va_G) (ty : Nat → ClassId) (hT : Nat) (aT : Nat) (hB : Nat) (bw : Nat) (fT : Nat → Option Nat) (aF : Nat) (aX : Nat) (aY : Nat) (st : Nat) (wd : Nat) (al : Nat) (mg : Nat) (fF : Nat → Option Nat) (sal : Nat → Nat → Bool) (nf : Nat) (adF : Nat → Nat) (fd : Nat → Nat → Int) (ns : Nat) (adS : Nat → Nat) (sw : Nat → Nat) (sp : Nat → Nat) (sn : Nat → Int) (pr : Nat → Int) (sl : Nat → Nat) (sm : Nat → Nat) (sb : Nat → Int32) (lo : Nat → Nat) (hi : Nat → Nat) (sa : Nat → Int32) (A : Nat → Prop) : Array Value → State → Outcome → State → Prop := va_Qv (fun (uu : (Nat → Int) × (Nat → Nat) × (Nat → Nat) × (Nat → Int32)) => ∀ j, j < ns → (uu.1 j = 0) ∧ (uu.2.1 j = (lo j + st - 1) / st) ∧ (uu.2.2.1 j = min al (min (hi j) bw / st)) ∧ (uu.2.2.2 j = Mk (fun z9 => !(sal j (fd z9 0 * 8 + fd z9 1).toNat)) nf)) (at_W G (fun (uu : (Nat → Int) × (Nat → Nat) × (Nat → Nat) × (Nat → Int32)) => (WP [(hT, .inr (8, [.ref aT, .int (nI ns), .int (nI bw), .ref hB])), (aT, .inl (ty 4, 8, .inr (.inr (.inr (.inr fT))))), (hB, .inr (0, [.int (nI st), .int (nI wd), .int (nI al), .ref aF, .int (nI nf), .int (nI mg), .ref aX, .ref aY])), (aF, .inl (ty 3, 20, .inr (.inr (.inr (.inr fF)))))] (PLd nf adF fd ns adS sw sp sn uu.1 uu.2.1 uu.2.2.1 uu.2.2.2 lo hi sa))) A) A
set_option maxRecDepth 100000 in
set_option maxHeartbeats 4000000 in
theorem c_Sorts_makeReady (l : Launch) (G : va_G) (ty : Nat → ClassId) (sz : Nat) (hT : Nat) (aT : Nat) (hB : Nat) (bw : Nat) (fT : Nat → Option Nat) (aF : Nat) (aX : Nat) (aY : Nat) (st : Nat) (wd : Nat) (al : Nat) (mg : Nat) (fF : Nat → Option Nat) (sal : Nat → Nat → Bool) (nf : Nat) (adF : Nat → Nat) (fd : Nat → Nat → Int) (ns : Nat) (adS : Nat → Nat) (sw : Nat → Nat) (sp : Nat → Nat) (sn : Nat → Int) (pr : Nat → Int) (sl : Nat → Nat) (sm : Nat → Nat) (sb : Nat → Int32) (lo : Nat → Nat) (hi : Nat → Nat) (sa : Nat → Int32) (g8 : ns ≤ 8) (gt : ∀ i, i < ns → fT i = some (adS i)) (q1 : 1 ≤ st) (q2 : st ≤ 65536) (q4 : al ≤ 24) (gb : bw ≤ 16777216) (gF : FOK nf fd) (gf : ∀ i, i < nf → fF i = some (adF i)) (gL : ∀ j, j < ns → lo j ≤ 65536 ∧ hi j ≤ 65536) (ga : ∀ j, j < ns → sa j = Mk (sal j) 16) : Met l y_Sorts_makeReady ws_Sorts_makeReady { frames := 2, cells := 0, slots := 0, locals := 45 } (va_Pc [.ref hT] (fun U => U.heap.size = sz ∧ va_P G vwCl (WP [(hT, .inr (8, [.ref aT, .int (nI ns), .int (nI bw), .ref hB])), (aT, .inl (ty 4, 8, .inr (.inr (.inr (.inr fT))))), (hB, .inr (0, [.int (nI st), .int (nI wd), .int (nI al), .ref aF, .int (nI nf), .int (nI mg), .ref aX, .ref aY])), (aF, .inl (ty 3, 20, .inr (.inr (.inr (.inr fF)))))] (PLd nf adF fd ns adS sw sp sn pr sl sm sb lo hi sa)) U.heap ∧ KX G ty U ∧ va_D (fun _ => True) (WP [(hT, .inr (8, [.ref aT, .int (nI ns), .int (nI bw), .ref hB])), (aT, .inl (ty 4, 8, .inr (.inr (.inr (.inr fT))))), (hB, .inr (0, [.int (nI st), .int (nI wd), .int (nI al), .ref aF, .int (nI nf), .int (nI mg), .ref aX, .ref aY])), (aF, .inl (ty 3, 20, .inr (.inr (.inr (.inr fF)))))] (PLd nf adF fd ns adS sw sp sn pr sl sm sb lo hi sa)))) (q_Sorts_makeReady G ty hT aT hB bw fT aF aX aY st wd al mg fF sal nf adF fd ns adS sw sp sn pr sl sm sb lo hi sa (va_A (WP [(hT, .inr (8, [.ref aT, .int (nI ns), .int (nI bw), .ref hB])), (aT, .inl (ty 4, 8, .inr (.inr (.inr (.inr fT))))), (hB, .inr (0, [.int (nI st), .int (nI wd), .int (nI al), .ref aF, .int (nI nf), .int (nI mg), .ref aX, .ref aY])), (aF, .inl (ty 3, 20, .inr (.inr (.inr (.inr fF)))))] (PLd nf adF fd ns adS sw sp sn pr sl sm sb lo hi sa)) sz)) 0 0 (va_A (WP [(hT, .inr (8, [.ref aT, .int (nI ns), .int (nI bw), .ref hB])), (aT, .inl (ty 4, 8, .inr (.inr (.inr (.inr fT))))), (hB, .inr (0, [.int (nI st), .int (nI wd), .int (nI al), .ref aF, .int (nI nf), .int (nI mg), .ref aX, .ref aY])), (aF, .inl (ty 3, 20, .inr (.inr (.inr (.inr fF)))))] (PLd nf adF fd ns adS sw sp sn pr sl sm sb lo hi sa)) sz) := by
  refine met_wr (y := y_Sorts_makeReady) (maxL := 2) (sz := sz) (G := G) (ty := ty) (mc := 0) (ms := 0) (av := [.ref hT]) (W0 := (WP [(hT, .inr (8, [.ref aT, .int (nI ns), .int (nI bw), .ref hB])), (aT, .inl (ty 4, 8, .inr (.inr (.inr (.inr fT))))), (hB, .inr (0, [.int (nI st), .int (nI wd), .int (nI al), .ref aF, .int (nI nf), .int (nI mg), .ref aX, .ref aY])), (aF, .inl (ty 3, 20, .inr (.inr (.inr (.inr fF)))))] (PLd nf adF fd ns adS sw sp sn pr sl sm sb lo hi sa))) (fun A => q_Sorts_makeReady G ty hT aT hB bw fT aF aX aY st wd al mg fF sal nf adF fd ns adS sw sp sn pr sl sm sb lo hi sa A) R_Sorts (by decide) rfl rfl (Nat.le_of_ble_eq_true rfl) ?_
  intro p e s m below meth c ls A hx hb hr hml hown hts hlocks hin hA hP hX hD hS hl
  have hK := hX.1
  have hl : lv_has ls 2 [(0, .ref hT)] := hl
  refine lv_iconst (v := (nI 0)) hx hb d_Sorts_makeReady_0 (by decide) ?_
  refine lv_istore_n (lv' := [(1, .int (nI 0)), (0, .ref hT)]) hx hb d_Sorts_makeReady_1 rfl hl (by decide) rfl (fun ls hl => ?_)
  have L2 : ∀ (k9 : Nat) (i : Nat) (pq : Nat → Int) (lq : Nat → Nat) (mq : Nat → Nat) (bq : Nat → Int32) (H : Heap) (locs : List Loc) (ls : Array Slot), (i ≤ ns) → (∀ j, j < i → (pq j = 0) ∧ (lq j = (lo j + st - 1) / st) ∧ (mq j = min al (min (hi j) bw / st)) ∧ (bq j = Mk (fun z9 => !(sal j (fd z9 0 * 8 + fd z9 1).toNat)) nf)) → ns - i < k9 → va_P G vwCl (WP [(hT, .inr (8, [.ref aT, .int (nI ns), .int (nI bw), .ref hB])), (aT, .inl (ty 4, 8, .inr (.inr (.inr (.inr fT))))), (hB, .inr (0, [.int (nI st), .int (nI wd), .int (nI al), .ref aF, .int (nI nf), .int (nI mg), .ref aX, .ref aY])), (aF, .inl (ty 3, 20, .inr (.inr (.inr (.inr fF)))))] (PLd nf adF fd ns adS sw sp sn pq lq mq bq lo hi sa)) H → va_D A (WP [(hT, .inr (8, [.ref aT, .int (nI ns), .int (nI bw), .ref hB])), (aT, .inl (ty 4, 8, .inr (.inr (.inr (.inr fT))))), (hB, .inr (0, [.int (nI st), .int (nI wd), .int (nI al), .ref aF, .int (nI nf), .int (nI mg), .ref aX, .ref aY])), (aF, .inl (ty 3, 20, .inr (.inr (.inr (.inr fF)))))] (PLd nf adF fd ns adS sw sp sn pq lq mq bq lo hi sa)) → va_S A s.heap H locs → lv_has ls 2 [(0, .ref hT), (1, .int (nI i))] → W p l e { frames := 2, cells := 0, slots := 0, locals := 45 } s m [.ref hT].toArray below meth c H locs 0 0 (MQ below (q_Sorts_makeReady G ty hT aT hB bw fT aF aX aY st wd al mg fF sal nf adF fd ns adS sw sp sn pr sl sm sb lo hi sa A) [.ref hT].toArray s 0 0 A) (F0 m 2 ls []) := by
    intro k9
    induction k9 with
    | zero => intro i pq lq mq bq H locs ls hi1 hA1 hk9; exact absurd hk9 (Nat.not_lt_zero _)
    | succ k9 ih2 =>
      intro i pq lq mq bq H locs ls hi1 hA1 hk9 hP hD hS hl
      refine lv_iload_n hx hb d_Sorts_makeReady_2 rfl (lv_at hl 1 rfl) ?_
      refine lv_aload_n hx hb d_Sorts_makeReady_3 rfl (lv_at hl 0 rfl) ?_
      refine va_get (D := G) (ci := 8) (v := .int (nI ns)) (C := R_Sorts) (T := F_Sorts) (N := 4) hx hb hts in_Sorts hown hK hP 0 rfl rfl 1 (by decide) (hts _ fl_Sorts_17) (fun _ h9 => h9) rfl d_Sorts_makeReady_4 ?_
      refine n_icmp_ge (tgt := 33) hx hb (by omega) (by omega) d_Sorts_makeReady_7 (by decide) (fun c7 => ?_) (fun c7 => ?_)
      · exact W.vret hx hb hr (fun t9 ht hW => ⟨⟨(pq, lq, mq, bq), rfl, fun j h => hA1 j (by omega), by rw [ht]; exact hP, hD⟩, hS.F ht⟩) hS.2.2 d_Sorts_makeReady_33
      · have hL := gL i (by omega)
        refine lv_aload_n hx hb d_Sorts_makeReady_10 rfl (lv_at hl 0 rfl) ?_
        refine va_get (D := G) (ci := 8) (v := .ref aT) (C := R_Sorts) (T := F_Sorts) (N := 4) hx hb hts in_Sorts hown hK hP 0 rfl rfl 0 (by decide) (hts _ fl_Sorts_11) (fun _ h9 => h9) rfl d_Sorts_makeReady_11 ?_
        refine lv_iload_n hx hb d_Sorts_makeReady_14 rfl (lv_at hl 1 rfl) ?_
        refine n_aald hx hb hK hP 1 4 rfl rfl (by omega) (by omega) (gt i (by omega)) d_Sorts_makeReady_15 ?_
        refine lv_aload_n hx hb d_Sorts_makeReady_16 rfl (lv_at hl 0 rfl) ?_
        refine va_get (D := G) (ci := 8) (v := .ref hB) (C := R_Sorts) (T := F_Sorts) (N := 4) hx hb hts in_Sorts hown hK hP 0 rfl rfl 3 (by decide) (hts _ fl_Sorts_25) (fun _ h9 => h9) rfl d_Sorts_makeReady_17 ?_
        refine lv_aload_n hx hb d_Sorts_makeReady_20 rfl (lv_at hl 0 rfl) ?_
        refine va_get (D := G) (ci := 8) (v := .int (nI bw)) (C := R_Sorts) (T := F_Sorts) (N := 4) hx hb hts in_Sorts hown hK hP 0 rfl rfl 2 (by decide) (hts _ fl_Sorts_22) (fun _ h9 => h9) rfl d_Sorts_makeReady_21 ?_
        refine call_wrP_v (Wc := [(hB, .inr (0, [.int (nI st), .int (nI wd), .int (nI al), .ref aF, .int (nI nf), .int (nI mg), .ref aX, .ref aY])), (aF, .inl (ty 3, 20, .inr (.inr (.inr (.inr fF)))))]) (Wr := [(hT, .inr (8, [.ref aT, .int (nI ns), .int (nI bw), .ref hB])), (aT, .inl (ty 4, 8, .inr (.inr (.inr (.inr fT)))))]) (pl := (PLd nf adF fd ns adS sw sp sn pq lq mq bq lo hi sa)) (W1 := fun (uu : Unit) => [(hB, .inr (0, [.int (nI st), .int (nI wd), .int (nI al), .ref aF, .int (nI nf), .int (nI mg), .ref aX, .ref aY])), (aF, .inl (ty 3, 20, .inr (.inr (.inr (.inr fF)))))]) (pl1 := fun (uu : Unit) => (PLd nf adF fd ns adS sw sp sn (va_up pq i 0) (va_up lq i ((lo i + st - 1) / st)) (va_up mq i (min al (min (hi i) bw / st))) (va_up bq i (Mk (fun z9 => !(sal i (fd z9 0 * 8 + fd z9 1).toNat)) nf)) lo hi sa)) (va_runV (As := [.ref hB, .int (nI bw)]) (rest := []) ⟨hx, hb, hml, hown, hts⟩ (c_Sort_makeReady l G ty _ hB aF aX aY st wd al mg fF i bw sal nf adF fd ns adS sw sp sn pq lq mq bq lo hi sa (by omega) (by omega) (by omega) (by omega) gF gf (by omega) hL.1 hL.2 (ga i (by omega))) ⟨callB_of 2 hts (gd_TB cd_Sort_makeReady) rfl rfl rfl (hts _ ini_Sort) (hts _ lk_Sorts_29) hd_Sort_makeReady ⟨Nat.le_of_ble_eq_true rfl, Nat.le_of_ble_eq_true rfl⟩, hts _ im_Sort_makeReady, hts _ sl_Sort_makeReady⟩ (preV_wr (hP.part (cx := [(hB, .inr (0, [.int (nI st), .int (nI wd), .int (nI al), .ref aF, .int (nI nf), .int (nI mg), .ref aX, .ref aY])), (aF, .inl (ty 3, 20, .inr (.inr (.inr (.inr fF)))))]) [2, 3] rfl) hX (hD.part (cx := [(hB, .inr (0, [.int (nI st), .int (nI wd), .int (nI al), .ref aF, .int (nI nf), .int (nI mg), .ref aX, .ref aY])), (aF, .inl (ty 3, 20, .inr (.inr (.inr (.inr fF)))))]) [2, 3] (by decide) rfl) (2 + (nf + i)) (pool_2 2 rfl (by omega)) rfl) rfl rfl hl.1 rfl (lv_room (Nat.le_of_ble_eq_true rfl)) d_Sorts_makeReady_24 ⟨Nat.le_of_ble_eq_true rfl, Nat.le_of_ble_eq_true rfl⟩) hP hD hS hA [2, 3] [0, 1] rfl rfl (by decide) (by decide) (fun u9 H locs hw1 hP hD hS => ?_)
        have hw1 : True := hw1
        have hP : va_P G vwCl (WP [(hT, .inr (8, [.ref aT, .int (nI ns), .int (nI bw), .ref hB])), (aT, .inl (ty 4, 8, .inr (.inr (.inr (.inr fT))))), (hB, .inr (0, [.int (nI st), .int (nI wd), .int (nI al), .ref aF, .int (nI nf), .int (nI mg), .ref aX, .ref aY])), (aF, .inl (ty 3, 20, .inr (.inr (.inr (.inr fF)))))] (PLd nf adF fd ns adS sw sp sn (va_up pq i 0) (va_up lq i ((lo i + st - 1) / st)) (va_up mq i (min al (min (hi i) bw / st))) (va_up bq i (Mk (fun z9 => !(sal i (fd z9 0 * 8 + fd z9 1).toNat)) nf)) lo hi sa)) _ := hP
        have hD : va_D A (WP [(hT, .inr (8, [.ref aT, .int (nI ns), .int (nI bw), .ref hB])), (aT, .inl (ty 4, 8, .inr (.inr (.inr (.inr fT))))), (hB, .inr (0, [.int (nI st), .int (nI wd), .int (nI al), .ref aF, .int (nI nf), .int (nI mg), .ref aX, .ref aY])), (aF, .inl (ty 3, 20, .inr (.inr (.inr (.inr fF)))))] (PLd nf adF fd ns adS sw sp sn (va_up pq i 0) (va_up lq i ((lo i + st - 1) / st)) (va_up mq i (min al (min (hi i) bw / st))) (va_up bq i (Mk (fun z9 => !(sal i (fd z9 0 * 8 + fd z9 1).toNat)) nf)) lo hi sa)) := hD
        refine lv_iinc (v := (nI (i + 1))) (lv' := [(1, .int (nI (i + 1))), (0, .ref hT)]) hx hb d_Sorts_makeReady_27 hl (k := 1) rfl (nI_inc _ _ _ (by omega)) (by decide) rfl (fun ls hl => ?_)
        refine lv_goto (tgt := 2) hx hb d_Sorts_makeReady_30 (by decide) ?_
        exact ih2 (i + 1) (va_up pq i 0) (va_up lq i ((lo i + st - 1) / st)) (va_up mq i (min al (min (hi i) bw / st))) (va_up bq i (Mk (fun z9 => !(sal i (fd z9 0 * 8 + fd z9 1).toNat)) nf)) _ _ _ (by omega) (fun j h => (Nat.lt_or_ge j i).elim (fun q => by simp only [va_up_ne _ _ (show j ≠ i by omega)]; exact hA1 j q) (fun q => by rw [show j = i from by omega]; simp only [va_up_self]; simp)) (by omega) hP hD hS (lv_sub hl [1, 0] rfl)
  exact L2 (ns - 0 + 1) 0 pr sl sm sb _ _ _ (Nat.zero_le _) (fun j h => absurd h (by omega)) (Nat.lt_succ_self _) hP hD hS (lv_sub hl [1, 0] rfl)
