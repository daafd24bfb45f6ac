theorem fl_Sorts_11 : Cond.fieldLink R_Sorts 11 "FaultRips$Sorts" "told" "[LFaultRips$Sort;" ∈ TB := mem_TB 96 (by decide +kernel) (by decide +kernel)
theorem fl_Sorts_17 : Cond.fieldLink R_Sorts 17 "FaultRips$Sorts" "count" "I" ∈ TB := mem_TB 99 (by decide +kernel) (by decide +kernel)
theorem fl_Sorts_33 : Cond.fieldLink R_Sorts 33 "FaultRips$Sort" "need" "I" ∈ TB := mem_TB 453 (by decide +kernel) (by decide +kernel)
theorem fl_Sorts_36 : Cond.fieldLink R_Sorts 36 "FaultRips$Plan" "counts" "[I" ∈ TB := mem_TB 179 (by decide +kernel) (by decide +kernel)
theorem fl_Sorts_46 : Cond.fieldLink R_Sorts 46 "FaultRips$Sort" "price" "J" ∈ TB := mem_TB 456 (by decide +kernel) (by decide +kernel)
theorem lk_Sorts_42 : Cond.methodLink R_Sorts 42 y_Sorts_isTooMany ∈ TB := mem_TB 716 (by decide +kernel) (by decide +kernel)

abbrev q_Sort_allowKind (G : va_G) (ty : Nat → ClassId) (j : Nat) (f : Int) (k : Int) (sal : Nat → Nat → Bool) (nf : Nat) (adF : Nat → Nat) (fd : Nat → Nat → Int) (ns : Nat) (adS : Nat → Nat) (sw : Nat → Nat) (sp : Nat → Nat) (sn : Nat → Int) (pr : Nat → Int) (sl : Nat → Nat) (sm : Nat → Nat) (sb : Nat → Int32) (lo : Nat → Nat) (hi : Nat → Nat) (sa : Nat → Int32) (A : Nat → Prop) : Array Value → State → Outcome → State → Prop := va_Qv (fun (uu : Unit) => True) (at_W G (fun (uu : Unit) => (WP [] (PLd nf adF fd ns adS sw sp sn pr sl sm sb lo hi (va_up sa j (Mk (va_up (sal j) (f * 8 + k).toNat true) 16))))) A) A
set_option maxRecDepth 100000 in
set_option maxHeartbeats 4000000 in
theorem c_Sort_allowKind (l : Launch) (G : va_G) (ty : Nat → ClassId) (sz : Nat) (j : Nat) (f : Int) (k : Int) (sal : Nat → Nat → Bool) (nf : Nat) (adF : Nat → Nat) (fd : Nat → Nat → Int) (ns : Nat) (adS : Nat → Nat) (sw : Nat → Nat) (sp : Nat → Nat) (sn : Nat → Int) (pr : Nat → Int) (sl : Nat → Nat) (sm : Nat → Nat) (sb : Nat → Int32) (lo : Nat → Nat) (hi : Nat → Nat) (sa : Nat → Int32) (g1 : 0 ≤ f ∧ f ≤ 1) (g2 : 0 ≤ k ∧ k ≤ 7) (gj : j < ns) (ga : sa j = Mk (sal j) 16) : Met l y_Sort_allowKind ws_Sort_allowKind { frames := 0, cells := 0, slots := 0, locals := 0 } (va_Pc [.ref (adS j), .int (iI f), .int (iI k)] (fun U => U.heap.size = sz ∧ va_P G vwCl (WP [] (PLd nf adF fd ns adS sw sp sn pr sl sm sb lo hi sa)) U.heap ∧ KX G ty U ∧ va_D (fun _ => True) (WP [] (PLd nf adF fd ns adS sw sp sn pr sl sm sb lo hi sa)))) (q_Sort_allowKind G ty j f k sal nf adF fd ns adS sw sp sn pr sl sm sb lo hi sa (va_A (WP [] (PLd nf adF fd ns adS sw sp sn pr sl sm sb lo hi sa)) sz)) 0 0 (va_A (WP [] (PLd nf adF fd ns adS sw sp sn pr sl sm sb lo hi sa)) sz) := by
  refine met_wr (y := y_Sort_allowKind) (maxL := 3) (sz := sz) (G := G) (ty := ty) (mc := 0) (ms := 0) (av := [.ref (adS j), .int (iI f), .int (iI k)]) (W0 := (WP [] (PLd nf adF fd ns adS sw sp sn pr sl sm sb lo hi sa))) (fun A => q_Sort_allowKind G ty j f k sal nf adF fd ns adS sw sp sn pr sl sm sb lo hi sa A) R_Sort (by decide) rfl rfl (Nat.le_of_ble_eq_true rfl) ?_
  intro p e s m below meth c ls A hx hb hr hml hown hts hlocks hin hA hP hX hD hS hl
  have hK := hX.1
  have hl : lv_has ls 3 [(0, .ref (adS j)), (1, .int (iI f)), (2, .int (iI k))] := hl
  refine lv_aload_n hx hb d_Sort_allowKind_0 rfl (lv_at hl 0 rfl) ?_
  refine lv_dup hx hb d_Sort_allowKind_1 rfl ?_
  refine va_get (D := G) (ci := 7) (v := .int (sa j)) (C := R_Sort) (T := F_Sort) (N := 10) hx hb hts in_Sort hown hK hP (0 + (nf + j)) (pool_2 0 rfl (by omega)) rfl 9 (by decide) (hts _ fl_Sort_28) (fun _ h9 => h9) rfl d_Sort_allowKind_2 ?_
  refine top_i (show (sa j) = (Mk (sal j) 16) from ga) ?_
  refine lv_iconst (v := (nI 1)) hx hb d_Sort_allowKind_5 (by decide) ?_
  refine lv_iload_n hx hb d_Sort_allowKind_6 rfl (lv_at hl 1 rfl) ?_
  refine lv_bipush (v := (nI 8)) hx hb d_Sort_allowKind_7 (by decide) ?_
  refine zn_imul hx hb d_Sort_allowKind_9 ?_
  refine lv_iload_n hx hb d_Sort_allowKind_10 rfl (lv_at hl 2 rfl) ?_
  refine z_iadd hx hb d_Sort_allowKind_11 ?_
  refine top_i (show (iI ((f * ((8 : Nat) : Int)) + k)) = (nI ((f * 8 + k).toNat)) from by rw [← iI_nI (by omega)]; rfl) ?_
  refine lv_ishl hx hb d_Sort_allowKind_12 ?_
  refine lv_ior hx hb d_Sort_allowKind_13 ?_
  refine top_i (show ((Mk (sal j) 16) ||| ((nI 1) <<< ((nI ((f * 8 + k).toNat)) &&& 31))) = (Mk (va_up (sal j) (f * 8 + k).toNat true) 16) from Mk_or (by omega) (by omega) (va_up_self _ _ _) (fun j hj => va_up_ne _ _ hj)) ?_
  refine va_put (D := G) (ci := 7) (v := .int (Mk (va_up (sal j) (f * 8 + k).toNat true) 16)) (ty := .int) (C := R_Sort) (T := F_Sort) (N := 10) hx hb hts in_Sort t_Sort t_Sort_ok n_Sort hown hK hP hD hS (0 + (nf + j)) (pool_2 0 rfl (by omega)) rfl 9 (by decide) (hts _ fl_Sort_28) (fun _ h9 => h9) rfl (by decide +kernel) rfl rfl (Nat.le_of_ble_eq_true rfl) d_Sort_allowKind_14 (fun H locs hP hD hS => ?_)
  have ePL : ((WP [] (PLd nf adF fd ns adS sw sp sn pr sl sm sb lo hi sa))).set (0 + (nf + j)) (adS j, .inr (7, [.int (nI (sw j)), .int (nI (sp j)), .int (iI (sn j)), .long (iL (pr j)), .int (nI (sl j)), .int (nI (sm j)), .int (sb j), .int (nI (lo j)), .int (nI (hi j)), .int (Mk (va_up (sal j) (f * 8 + k).toNat true) 16)])) = (WP [] (PLd nf adF fd ns adS sw sp sn pr sl sm sb lo hi (va_up sa j (Mk (va_up (sal j) (f * 8 + k).toNat true) 16)))) := pool_set2 0 rfl (by simp only [va_up_self]) (fun j hj => by simp only [va_up_ne _ _ hj])
  have hP : va_P G vwCl (WP [] (PLd nf adF fd ns adS sw sp sn pr sl sm sb lo hi (va_up sa j (Mk (va_up (sal j) (f * 8 + k).toNat true) 16)))) H := by rw [← ePL]; exact hP
  have hD : va_D A (WP [] (PLd nf adF fd ns adS sw sp sn pr sl sm sb lo hi (va_up sa j (Mk (va_up (sal j) (f * 8 + k).toNat true) 16)))) := by rw [← ePL]; exact hD
  exact W.vret hx hb hr (fun t9 ht hW => ⟨⟨(), rfl, trivial, by rw [ht]; exact hP, hD⟩, hS.F ht⟩) hS.2.2 d_Sort_allowKind_17

/-- too many of a sort: it has a need, and there are more -/
def tooM (sn : Nat → Int) (i k : Nat) : Bool := decide (sn i ≠ -1 ∧ sn i < (k : Int))

abbrev q_Sorts_isTooMany (G : va_G) (ty : Nat → ClassId) (hT : Nat) (aT : Nat) (hB : Nat) (bw : Nat) (fT : Nat → Option Nat) (i : Nat) (k : Nat) (nf : Nat) (adF : Nat → Nat) (fd : Nat → Nat → Int) (ns : Nat) (adS : Nat → Nat) (sw : Nat → Nat) (sp : Nat → Nat) (sn : Nat → Int) (pr : Nat → Int) (sl : Nat → Nat) (sm : Nat → Nat) (sb : Nat → Int32) (lo : Nat → Nat) (hi : Nat → Nat) (sa : Nat → Int32) : Array Value → State → Outcome → State → Prop := vp_Si (fun r : Int32 => r = (nI ((tooM sn i k).toNat)))
set_option maxRecDepth 100000 in
set_option maxHeartbeats 4000000 in
theorem c_Sorts_isTooMany (l : Launch) (G : va_G) (ty : Nat → ClassId) (hT : Nat) (aT : Nat) (hB : Nat) (bw : Nat) (fT : Nat → Option Nat) (i : Nat) (k : Nat) (nf : Nat) (adF : Nat → Nat) (fd : Nat → Nat → Int) (ns : Nat) (adS : Nat → Nat) (sw : Nat → Nat) (sp : Nat → Nat) (sn : Nat → Int) (pr : Nat → Int) (sl : Nat → Nat) (sm : Nat → Nat) (sb : Nat → Int32) (lo : Nat → Nat) (hi : Nat → Nat) (sa : Nat → Int32) (g8 : ns ≤ 8) (gt : ∀ i, i < ns → fT i = some (adS i)) (gi : i < ns) (gk : k ≤ 100000) (gn : -1 ≤ sn i ∧ sn i ≤ 1000) : Met l y_Sorts_isTooMany ws_Sorts_isTooMany { frames := 0, cells := 0, slots := 0, locals := 0 } (va_Pc [.ref hT, .int (nI i), .int (nI k)] (fun U => va_P G vwCl (WP [(hT, .inr (8, [.ref aT, .int (nI ns), .int (nI bw), .ref hB])), (aT, .inl (ty 4, 8, .inr (.inr (.inr (.inr fT)))))] (PLd nf adF fd ns adS sw sp sn pr sl sm sb lo hi sa)) U.heap ∧ KX G ty U)) (q_Sorts_isTooMany G ty hT aT hB bw fT i k nf adF fd ns adS sw sp sn pr sl sm sb lo hi sa) 0 0 (fun _ => False) := by
  refine met_ro R_Sorts (by decide) rfl rfl (Nat.le_of_ble_eq_true rfl) ?_
  intro p e s m below meth c ls hx hb hr hml hown hts hlocks hP hX hl
  have hK := hX.1
  have hl : lv_has ls 3 [(0, .ref hT), (1, .int (nI i)), (2, .int (nI k))] := hl
  refine lv_aload_n hx hb d_Sorts_isTooMany_0 rfl (lv_at hl 0 rfl) ?_
  refine va_get (D := G) (ci := 8) (v := .ref aT) (C := R_Sorts) (T := F_Sorts) (N := 4) hx hb hts in_Sorts hown hK hP 0 rfl rfl 0 (by decide) (hts _ fl_Sorts_11) (fun _ h9 => h9) rfl d_Sorts_isTooMany_1 ?_
  refine lv_iload_n hx hb d_Sorts_isTooMany_4 rfl (lv_at hl 1 rfl) ?_
  refine n_aald hx hb hK hP 1 4 rfl rfl (by omega) (by omega) (gt i (by omega)) d_Sorts_isTooMany_5 ?_
  refine va_get (D := G) (ci := 7) (v := .int (iI (sn i))) (C := R_Sort) (T := F_Sort) (N := 10) hx hb hts in_Sort hown hK hP (2 + (nf + i)) (pool_2 2 rfl (by omega)) rfl 2 (by decide) (hts _ fl_Sorts_33) (fun _ h9 => h9) rfl d_Sorts_isTooMany_6 ?_
  refine lv_iconst (v := (iI (-1))) hx hb d_Sorts_isTooMany_9 (by decide) ?_
  refine z_icmp_eq (tgt := 30) hx hb (by omega) (by omega) d_Sorts_isTooMany_10 (by decide) (fun c10 => ?_) (fun c10 => ?_)
  · refine lv_iconst (v := (nI 0)) hx hb d_Sorts_isTooMany_30 (by decide) ?_
    exact W.zret (v := (nI 0)) hx hb hr nar_b0 (fun t9 ht _ => ⟨_, rfl, congrArg nI (show 0 = (tooM sn i k).toNat by unfold tooM; rw [decide_eq_false (by omega)]; rfl), ht⟩) (fun q h => by cases h) d_Sorts_isTooMany_31
  · refine lv_iload_n hx hb d_Sorts_isTooMany_13 rfl (lv_at hl 2 rfl) ?_
    refine lv_aload_n hx hb d_Sorts_isTooMany_14 rfl (lv_at hl 0 rfl) ?_
    refine va_get (D := G) (ci := 8) (v := .ref aT) (C := R_Sorts) (T := F_Sorts) (N := 4) hx hb hts in_Sorts hown hK hP 0 rfl rfl 0 (by decide) (hts _ fl_Sorts_11) (fun _ h9 => h9) rfl d_Sorts_isTooMany_15 ?_
    refine lv_iload_n hx hb d_Sorts_isTooMany_18 rfl (lv_at hl 1 rfl) ?_
    refine n_aald hx hb hK hP 1 4 rfl rfl (by omega) (by omega) (gt i (by omega)) d_Sorts_isTooMany_19 ?_
    refine va_get (D := G) (ci := 7) (v := .int (iI (sn i))) (C := R_Sort) (T := F_Sort) (N := 10) hx hb hts in_Sort hown hK hP (2 + (nf + i)) (pool_2 2 rfl (by omega)) rfl 2 (by decide) (hts _ fl_Sorts_33) (fun _ h9 => h9) rfl d_Sorts_isTooMany_20 ?_
    refine nz_icmp_le (tgt := 30) hx hb (by omega) (by omega) d_Sorts_isTooMany_23 (by decide) (fun c23 => ?_) (fun c23 => ?_)
    · refine lv_iconst (v := (nI 0)) hx hb d_Sorts_isTooMany_30 (by decide) ?_
      exact W.zret (v := (nI 0)) hx hb hr nar_b0 (fun t9 ht _ => ⟨_, rfl, congrArg nI (show 0 = (tooM sn i k).toNat by unfold tooM; rw [decide_eq_false (by omega)]; rfl), ht⟩) (fun q h => by cases h) d_Sorts_isTooMany_31
    · refine lv_iconst (v := (nI 1)) hx hb d_Sorts_isTooMany_26 (by decide) ?_
      refine lv_goto (tgt := 31) hx hb d_Sorts_isTooMany_27 (by decide) ?_
      exact W.zret (v := (nI 1)) hx hb hr nar_b1 (fun t9 ht _ => ⟨_, rfl, congrArg nI (show 1 = (tooM sn i k).toNat by unfold tooM; rw [decide_eq_true (by omega)]; rfl), ht⟩) (fun q h => by cases h) d_Sorts_isTooMany_31

abbrev q_Sorts_tooMany (G : va_G) (ty : Nat → ClassId) (hT : Nat) (aT : Nat) (hB : Nat) (bw : Nat) (fT : Nat → Option Nat) (hQ : Nat) (aQ : Nat) (aC : Nat) (np : Nat) (rm : Nat) (tot : Int) (cn : Nat → Nat) (nf : Nat) (adF : Nat → Nat) (fd : Nat → Nat → Int) (ns : Nat) (adS : Nat → Nat) (sw : Nat → Nat) (sp : Nat → Nat) (sn : Nat → Int) (pr : Nat → Int) (sl : Nat → Nat) (sm : Nat → Nat) (sb : Nat → Int32) (lo : Nat → Nat) (hi : Nat → Nat) (sa : Nat → Int32) : Array Value → State → Outcome → State → Prop := vp_Si (fun r : Int32 => r = (nI (((List.range ns).any (fun i => tooM sn i (cn i))).toNat)))
set_option maxRecDepth 100000 in
set_option maxHeartbeats 4000000 in
theorem c_Sorts_tooMany (l : Launch) (G : va_G) (ty : Nat → ClassId) (hT : Nat) (aT : Nat) (hB : Nat) (bw : Nat) (fT : Nat → Option Nat) (hQ : Nat) (aQ : Nat) (aC : Nat) (np : Nat) (rm : Nat) (tot : Int) (cn : Nat → Nat) (nf : Nat) (adF : Nat → Nat) (fd : Nat → Nat → Int) (ns : Nat) (adS : Nat → Nat) (sw : Nat → Nat) (sp : Nat → Nat) (sn : Nat → Int) (pr : Nat → Int) (sl : Nat → Nat) (sm : Nat → Nat) (sb : Nat → Int32) (lo : Nat → Nat) (hi : Nat → Nat) (sa : Nat → Int32) (g8 : ns ≤ 8) (gt : ∀ i, i < ns → fT i = some (adS i)) (gn : ∀ i, i < ns → -1 ≤ sn i ∧ sn i ≤ 1000) (gc : ∀ i, i < 8 → cn i ≤ 1000) : Met l y_Sorts_tooMany ws_Sorts_tooMany { frames := 1, cells := 0, slots := 0, locals := 22 } (va_Pc [.ref hT, .ref hQ] (fun U => va_P G vwCl (WP [(hT, .inr (8, [.ref aT, .int (nI ns), .int (nI bw), .ref hB])), (aT, .inl (ty 4, 8, .inr (.inr (.inr (.inr fT))))), (hQ, .inr (6, [.ref aQ, .ref aC, .int (nI np), .long (iL tot), .int (nI rm)])), (aC, .inl (ty 0, 8, .inl (nF cn)))] (PLd nf adF fd ns adS sw sp sn pr sl sm sb lo hi sa)) U.heap ∧ KX G ty U)) (q_Sorts_tooMany G ty hT aT hB bw fT hQ aQ aC np rm tot cn nf adF fd ns adS sw sp sn pr sl sm sb lo hi sa) 0 0 (fun _ => False) := by
  refine met_ro R_Sorts (by decide) rfl rfl (Nat.le_of_ble_eq_true rfl) ?_
  intro p e s m below meth c ls hx hb hr hml hown hts hlocks hP hX hl
  have hK := hX.1
  have hl : lv_has ls 3 [(0, .ref hT), (1, .ref hQ)] := hl
  refine lv_iconst (v := (nI 0)) hx hb d_Sorts_tooMany_0 (by decide) ?_
  refine lv_istore_n (lv' := [(2, .int (nI 0)), (0, .ref hT), (1, .ref hQ)]) hx hb d_Sorts_tooMany_1 rfl hl (by decide) rfl (fun ls hl => ?_)
  have L2 : ∀ (k9 : Nat) (i : Nat) (ls : Array Slot), (i ≤ ns) → (∀ j, j < i → tooM sn j (cn j) = false) → ns - i < k9 → lv_has ls 3 [(0, .ref hT), (1, .ref hQ), (2, .int (nI i))] → W p l e { frames := 1, cells := 0, slots := 0, locals := 22 } s m [.ref hT, .ref hQ].toArray below meth c s.heap [] 0 0 (MQ below (q_Sorts_tooMany G ty hT aT hB bw fT hQ aQ aC np rm tot cn nf adF fd ns adS sw sp sn pr sl sm sb lo hi sa) [.ref hT, .ref hQ].toArray s 0 0 (fun _ => False)) (F0 m 2 ls []) := by
    intro k9
    induction k9 with
    | zero => intro i ls hi1 hF hk9; exact absurd hk9 (Nat.not_lt_zero _)
    | succ k9 ih2 =>
      intro i ls hi1 hF hk9 hl
      refine lv_iload_n hx hb d_Sorts_tooMany_2 rfl (lv_at hl 2 rfl) ?_
      refine lv_aload_n hx hb d_Sorts_tooMany_3 rfl (lv_at hl 0 rfl) ?_
      refine va_get (D := G) (ci := 8) (v := .int (nI ns)) (C := R_Sorts) (T := F_Sorts) (N := 4) hx hb hts in_Sorts hown hK hP 0 rfl rfl 1 (by decide) (hts _ fl_Sorts_17) (fun _ h9 => h9) rfl d_Sorts_tooMany_4 ?_
      refine n_icmp_ge (tgt := 32) hx hb (by omega) (by omega) d_Sorts_tooMany_7 (by decide) (fun c7 => ?_) (fun c7 => ?_)
      · refine lv_iconst (v := (nI 0)) hx hb d_Sorts_tooMany_32 (by decide) ?_
        exact W.zret (v := (nI 0)) hx hb hr nar_b0 (fun t9 ht _ => ⟨_, rfl, congrArg nI (show 0 = ((List.range ns).any (fun i => tooM sn i (cn i))).toNat by rw [List.any_eq_false.mpr (fun j hj => by rw [hF j (by have := List.mem_range.mp hj; omega)]; decide)]; rfl), ht⟩) (fun q h => by cases h) d_Sorts_tooMany_33
      · have hc := gc i (by omega)
        have hn := gn i (by omega)
        refine lv_aload_n hx hb d_Sorts_tooMany_10 rfl (lv_at hl 0 rfl) ?_
        refine lv_iload_n hx hb d_Sorts_tooMany_11 rfl (lv_at hl 2 rfl) ?_
        refine lv_aload_n hx hb d_Sorts_tooMany_12 rfl (lv_at hl 1 rfl) ?_
        refine va_get (D := G) (ci := 6) (v := .ref aC) (C := R_Plan) (T := F_Plan) (N := 5) hx hb hts in_Plan hown hK hP 2 rfl rfl 1 (by decide) (hts _ fl_Sorts_36) (fun _ h9 => h9) rfl d_Sorts_tooMany_13 ?_
        refine lv_iload_n hx hb d_Sorts_tooMany_16 rfl (lv_at hl 2 rfl) ?_
        refine n_iald hx hb hK hP 3 0 rfl rfl (by omega) (by omega) d_Sorts_tooMany_17 ?_
        refine vp_callSi (W.runV (As := [.int (nI i), .int (nI (cn i))]) (rest := []) ⟨hx, hb, hml, hown, hts⟩ (c_Sorts_isTooMany l G ty hT aT hB bw fT i (cn i) nf adF fd ns adS sw sp sn pr sl sm sb lo hi sa (by omega) gt (by omega) (by omega) (by omega)) ⟨callB_of 2 hts (gd_TB cd_Sorts_isTooMany) rfl rfl rfl (hts _ ini_Sorts) (hts _ lk_Sorts_42) hd_Sorts_isTooMany ⟨Nat.le_of_ble_eq_true rfl, Nat.le_of_ble_eq_true rfl⟩, hts _ im_Sorts_isTooMany, hts _ sl_Sorts_isTooMany⟩ (preV_ro (hP.part (cx := [(hT, .inr (8, [.ref aT, .int (nI ns), .int (nI bw), .ref hB])), (aT, .inl (ty 4, 8, .inr (.inr (.inr (.inr fT)))))]) [0, 1] rfl) hX 0 rfl rfl) rfl rfl hl.1 rfl (lv_room (Nat.le_of_ble_eq_true rfl)) d_Sorts_tooMany_18 ⟨Nat.le_of_ble_eq_true rfl, Nat.le_of_ble_eq_true rfl⟩) (fun r9 er9 => ?_)
        subst er9
        refine n_if_eq (tgt := 26) hx hb (tN_lt _) d_Sorts_tooMany_21 (by decide) (fun c21 => ?_) (fun c21 => ?_)
        · refine lv_iinc (v := (nI (i + 1))) (lv' := [(2, .int (nI (i + 1))), (0, .ref hT), (1, .ref hQ)]) hx hb d_Sorts_tooMany_26 hl (k := 2) rfl (nI_inc _ _ _ (by omega)) (by decide) rfl (fun ls hl => ?_)
          refine lv_goto (tgt := 2) hx hb d_Sorts_tooMany_29 (by decide) ?_
          exact ih2 (i + 1) _ (by omega) (fun j h => (Nat.lt_or_ge j i).elim (hF j) (fun q => by rw [show j = i from by omega]; exact tN_0 c21)) (by omega) (lv_sub hl [1, 2, 0] rfl)
        · refine lv_iconst (v := (nI 1)) hx hb d_Sorts_tooMany_24 (by decide) ?_
          exact W.zret (v := (nI 1)) hx hb hr nar_b1 (fun t9 ht _ => ⟨_, rfl, congrArg nI (show 1 = ((List.range ns).any (fun i => tooM sn i (cn i))).toNat by rw [List.any_eq_true.mpr ⟨i, List.mem_range.mpr (by omega), tN_1 c21⟩]; rfl), ht⟩) (fun q h => by cases h) d_Sorts_tooMany_25
  exact L2 (ns - 0 + 1) 0 _ (Nat.zero_le _) (fun j h => absurd h (by omega)) (Nat.lt_succ_self _) (lv_sub hl [1, 2, 0] rfl)

abbrev q_Sorts_isSettled (G : va_G) (ty : Nat → ClassId) (hT : Nat) (aT : Nat) (hB : Nat) (bw : Nat) (fT : Nat → Option Nat) (hQ : Nat) (aQ : Nat) (aC : Nat) (np : Nat) (rm : Nat) (tot : Int) (cn : Nat → Nat) (nf : Nat) (adF : Nat → Nat) (fd : Nat → Nat → Int) (ns : Nat) (adS : Nat → Nat) (sw : Nat → Nat) (sp : Nat → Nat) (sn : Nat → Int) (pr : Nat → Int) (sl : Nat → Nat) (sm : Nat → Nat) (sb : Nat → Int32) (lo : Nat → Nat) (hi : Nat → Nat) (sa : Nat → Int32) : Array Value → State → Outcome → State → Prop := vp_Si (fun r : Int32 => r = (nI (((List.range ns).all (fun i => !(decide (0 < pr i ∧ ((cn i : Int) ≠ sn i))) && !(tooM sn i (cn i)))).toNat)))
set_option maxRecDepth 100000 in
set_option maxHeartbeats 4000000 in
theorem c_Sorts_isSettled (l : Launch) (G : va_G) (ty : Nat → ClassId) (hT : Nat) (aT : Nat) (hB : Nat) (bw : Nat) (fT : Nat → Option Nat) (hQ : Nat) (aQ : Nat) (aC : Nat) (np : Nat) (rm : Nat) (tot : Int) (cn : Nat → Nat) (nf : Nat) (adF : Nat → Nat) (fd : Nat → Nat → Int) (ns : Nat) (adS : Nat → Nat) (sw : Nat → Nat) (sp : Nat → Nat) (sn : Nat → Int) (pr : Nat → Int) (sl : Nat → Nat) (sm : Nat → Nat) (sb : Nat → Int32) (lo : Nat → Nat) (hi : Nat → Nat) (sa : Nat → Int32) (g8 : ns ≤ 8) (gt : ∀ i, i < ns → fT i = some (adS i)) (gn : ∀ i, i < ns → -1 ≤ sn i ∧ sn i ≤ 1000) (gc : ∀ i, i < 8 → cn i ≤ 1000) (gp : ∀ i, i < ns → 0 ≤ pr i ∧ pr i ≤ 1000000000) : Met l y_Sorts_isSettled ws_Sorts_isSettled { frames := 1, cells := 0, slots := 0, locals := 22 } (va_Pc [.ref hT, .ref hQ] (fun U => va_P G vwCl (WP [(hT, .inr (8, [.ref aT, .int (nI ns), .int (nI bw), .ref hB])), (aT, .inl (ty 4, 8, .inr (.inr (.inr (.inr fT))))), (hQ, .inr (6, [.ref aQ, .ref aC, .int (nI np), .long (iL tot), .int (nI rm)])), (aC, .inl (ty 0, 8, .inl (nF cn)))] (PLd nf adF fd ns adS sw sp sn pr sl sm sb lo hi sa)) U.heap ∧ KX G ty U)) (q_Sorts_isSettled G ty hT aT hB bw fT hQ aQ aC np rm tot cn nf adF fd ns adS sw sp sn pr sl sm sb lo hi sa) 0 0 (fun _ => False) := by
  refine met_ro R_Sorts (by decide) rfl rfl (Nat.le_of_ble_eq_true rfl) ?_
  intro p e s m below meth c ls hx hb hr hml hown hts hlocks hP hX hl
  have hK := hX.1
  have hl : lv_has ls 4 [(0, .ref hT), (1, .ref hQ)] := hl
  refine lv_iconst (v := (nI 0)) hx hb d_Sorts_isSettled_0 (by decide) ?_
  refine lv_istore_n (lv' := [(2, .int (nI 0)), (0, .ref hT), (1, .ref hQ)]) hx hb d_Sorts_isSettled_1 rfl hl (by decide) rfl (fun ls hl => ?_)
  have L2 : ∀ (k9 : Nat) (i : Nat) (ls : Array Slot), (i ≤ ns) → (∀ j, j < i → (!(decide (0 < pr j ∧ ((cn j : Int) ≠ sn j))) && !(tooM sn j (cn j))) = true) → ns - i < k9 → lv_has ls 4 [(0, .ref hT), (1, .ref hQ), (2, .int (nI i))] → W p l e { frames := 1, cells := 0, slots := 0, locals := 22 } s m [.ref hT, .ref hQ].toArray below meth c s.heap [] 0 0 (MQ below (q_Sorts_isSettled G ty hT aT hB bw fT hQ aQ aC np rm tot cn nf adF fd ns adS sw sp sn pr sl sm sb lo hi sa) [.ref hT, .ref hQ].toArray s 0 0 (fun _ => False)) (F0 m 2 ls []) := by
    intro k9
    induction k9 with
    | zero => intro i ls hi1 hF hk9; exact absurd hk9 (Nat.not_lt_zero _)
    | succ k9 ih2 =>
      intro i ls hi1 hF hk9 hl
      refine lv_iload_n hx hb d_Sorts_isSettled_2 rfl (lv_at hl 2 rfl) ?_
      refine lv_aload_n hx hb d_Sorts_isSettled_3 rfl (lv_at hl 0 rfl) ?_
      refine va_get (D := G) (ci := 8) (v := .int (nI ns)) (C := R_Sorts) (T := F_Sorts) (N := 4) hx hb hts in_Sorts hown hK hP 0 rfl rfl 1 (by decide) (hts _ fl_Sorts_17) (fun _ h9 => h9) rfl d_Sorts_isSettled_4 ?_
      refine n_icmp_ge (tgt := 74) hx hb (by omega) (by omega) d_Sorts_isSettled_7 (by decide) (fun c7 => ?_) (fun c7 => ?_)
      · refine lv_iconst (v := (nI 1)) hx hb d_Sorts_isSettled_74 (by decide) ?_
        exact W.zret (v := (nI 1)) hx hb hr nar_b1 (fun t9 ht _ => ⟨_, rfl, congrArg nI (show 1 = ((List.range ns).all (fun i => !(decide (0 < pr i ∧ ((cn i : Int) ≠ sn i))) && !(tooM sn i (cn i)))).toNat by rw [List.all_eq_true.mpr (fun j hj => hF j (by have := List.mem_range.mp hj; omega))]; rfl), ht⟩) (fun q h => by cases h) d_Sorts_isSettled_75
      · have hc := gc i (by omega)
        have hn := gn i (by omega)
        have hp := gp i (by omega)
        refine lv_aload_n hx hb d_Sorts_isSettled_10 rfl (lv_at hl 0 rfl) ?_
        refine va_get (D := G) (ci := 8) (v := .ref aT) (C := R_Sorts) (T := F_Sorts) (N := 4) hx hb hts in_Sorts hown hK hP 0 rfl rfl 0 (by decide) (hts _ fl_Sorts_11) (fun _ h9 => h9) rfl d_Sorts_isSettled_11 ?_
        refine lv_iload_n hx hb d_Sorts_isSettled_14 rfl (lv_at hl 2 rfl) ?_
        refine n_aald hx hb hK hP 1 4 rfl rfl (by omega) (by omega) (gt i (by omega)) d_Sorts_isSettled_15 ?_
        refine va_get (D := G) (ci := 7) (v := .long (iL (pr i))) (C := R_Sort) (T := F_Sort) (N := 10) hx hb hts in_Sort hown hK hP (4 + (nf + i)) (pool_2 4 rfl (by omega)) rfl 3 (by decide) (hts _ fl_Sorts_46) (fun _ h9 => h9) rfl d_Sorts_isSettled_16 ?_
        refine lv_lconst (v := iL 0) hx hb d_Sorts_isSettled_19 (by decide) ?_
        refine l_cmp_le (tgt := 46) hx hb (by omega) (by omega) d_Sorts_isSettled_20 d_Sorts_isSettled_21 (by decide) (fun c20 => ?_) (fun c20 => ?_)
        · refine lv_iconst (v := (nI 0)) hx hb d_Sorts_isSettled_46 (by decide) ?_
          refine lv_istore_n (lv' := [(3, .int (nI 0)), (0, .ref hT), (1, .ref hQ), (2, .int (nI i))]) hx hb d_Sorts_isSettled_47 rfl hl (by decide) rfl (fun ls hl => ?_)
          refine lv_iload_n hx hb d_Sorts_isSettled_48 rfl (lv_at hl 0 rfl) ?_
          refine n_if_ne (tgt := 66) hx hb (by omega) d_Sorts_isSettled_49 (by decide) (fun c49 => absurd c49 (by omega)) (fun c49 => ?_)
          refine lv_aload_n hx hb d_Sorts_isSettled_52 rfl (lv_at hl 1 rfl) ?_
          refine lv_iload_n hx hb d_Sorts_isSettled_53 rfl (lv_at hl 3 rfl) ?_
          refine lv_aload_n hx hb d_Sorts_isSettled_54 rfl (lv_at hl 2 rfl) ?_
          refine va_get (D := G) (ci := 6) (v := .ref aC) (C := R_Plan) (T := F_Plan) (N := 5) hx hb hts in_Plan hown hK hP 2 rfl rfl 1 (by decide) (hts _ fl_Sorts_36) (fun _ h9 => h9) rfl d_Sorts_isSettled_55 ?_
          refine lv_iload_n hx hb d_Sorts_isSettled_58 rfl (lv_at hl 3 rfl) ?_
          refine n_iald hx hb hK hP 3 0 rfl rfl (by omega) (by omega) d_Sorts_isSettled_59 ?_
          refine vp_callSi (W.runV (As := [.int (nI i), .int (nI (cn i))]) (rest := []) ⟨hx, hb, hml, hown, hts⟩ (c_Sorts_isTooMany l G ty hT aT hB bw fT i (cn i) nf adF fd ns adS sw sp sn pr sl sm sb lo hi sa (by omega) gt (by omega) (by omega) (by omega)) ⟨callB_of 2 hts (gd_TB cd_Sorts_isTooMany) rfl rfl rfl (hts _ ini_Sorts) (hts _ lk_Sorts_42) hd_Sorts_isTooMany ⟨Nat.le_of_ble_eq_true rfl, Nat.le_of_ble_eq_true rfl⟩, hts _ im_Sorts_isTooMany, hts _ sl_Sorts_isTooMany⟩ (preV_ro (hP.part (cx := [(hT, .inr (8, [.ref aT, .int (nI ns), .int (nI bw), .ref hB])), (aT, .inl (ty 4, 8, .inr (.inr (.inr (.inr fT)))))]) [0, 1] rfl) hX 0 rfl rfl) rfl rfl hl.1 rfl (lv_room (Nat.le_of_ble_eq_true rfl)) d_Sorts_isSettled_60 ⟨Nat.le_of_ble_eq_true rfl, Nat.le_of_ble_eq_true rfl⟩) (fun r9 er9 => ?_)
          subst er9
          refine n_if_eq (tgt := 68) hx hb (tN_lt _) d_Sorts_isSettled_63 (by decide) (fun c63 => ?_) (fun c63 => ?_)
          · refine lv_iinc (v := (nI (i + 1))) (lv' := [(2, .int (nI (i + 1))), (3, .int (nI 0)), (0, .ref hT), (1, .ref hQ)]) hx hb d_Sorts_isSettled_68 hl (k := 3) rfl (nI_inc _ _ _ (by omega)) (by decide) rfl (fun ls hl => ?_)
            refine lv_goto (tgt := 2) hx hb d_Sorts_isSettled_71 (by decide) ?_
            exact ih2 (i + 1) _ (by omega) (fun j h => (Nat.lt_or_ge j i).elim (hF j) (fun q => by rw [show j = i from by omega, tN_0 c63, decide_eq_false (by omega)]; rfl)) (by omega) (lv_sub hl [2, 3, 0] rfl)
          · refine lv_iconst (v := (nI 0)) hx hb d_Sorts_isSettled_66 (by decide) ?_
            exact W.zret (v := (nI 0)) hx hb hr nar_b0 (fun t9 ht _ => ⟨_, rfl, congrArg nI (show 0 = ((List.range ns).all (fun i => !(decide (0 < pr i ∧ ((cn i : Int) ≠ sn i))) && !(tooM sn i (cn i)))).toNat by rw [List.all_eq_false.mpr ⟨i, List.mem_range.mpr (by omega), by first | (rw [tN_1 c63]; simp) | (rw [decide_eq_true (by omega)]; simp)⟩]; rfl), ht⟩) (fun q h => by cases h) d_Sorts_isSettled_67
        · refine lv_aload_n hx hb d_Sorts_isSettled_24 rfl (lv_at hl 1 rfl) ?_
          refine va_get (D := G) (ci := 6) (v := .ref aC) (C := R_Plan) (T := F_Plan) (N := 5) hx hb hts in_Plan hown hK hP 2 rfl rfl 1 (by decide) (hts _ fl_Sorts_36) (fun _ h9 => h9) rfl d_Sorts_isSettled_25 ?_
          refine lv_iload_n hx hb d_Sorts_isSettled_28 rfl (lv_at hl 2 rfl) ?_
          refine n_iald hx hb hK hP 3 0 rfl rfl (by omega) (by omega) d_Sorts_isSettled_29 ?_
          refine lv_aload_n hx hb d_Sorts_isSettled_30 rfl (lv_at hl 0 rfl) ?_
          refine va_get (D := G) (ci := 8) (v := .ref aT) (C := R_Sorts) (T := F_Sorts) (N := 4) hx hb hts in_Sorts hown hK hP 0 rfl rfl 0 (by decide) (hts _ fl_Sorts_11) (fun _ h9 => h9) rfl d_Sorts_isSettled_31 ?_
          refine lv_iload_n hx hb d_Sorts_isSettled_34 rfl (lv_at hl 2 rfl) ?_
          refine n_aald hx hb hK hP 1 4 rfl rfl (by omega) (by omega) (gt i (by omega)) d_Sorts_isSettled_35 ?_
          refine va_get (D := G) (ci := 7) (v := .int (iI (sn i))) (C := R_Sort) (T := F_Sort) (N := 10) hx hb hts in_Sort hown hK hP (4 + (nf + i)) (pool_2 4 rfl (by omega)) rfl 2 (by decide) (hts _ fl_Sorts_33) (fun _ h9 => h9) rfl d_Sorts_isSettled_36 ?_
          refine nz_icmp_eq (tgt := 46) hx hb (by omega) (by omega) d_Sorts_isSettled_39 (by decide) (fun c39 => ?_) (fun c39 => ?_)
          · refine lv_iconst (v := (nI 0)) hx hb d_Sorts_isSettled_46 (by decide) ?_
            refine lv_istore_n (lv' := [(3, .int (nI 0)), (0, .ref hT), (1, .ref hQ), (2, .int (nI i))]) hx hb d_Sorts_isSettled_47 rfl hl (by decide) rfl (fun ls hl => ?_)
            refine lv_iload_n hx hb d_Sorts_isSettled_48 rfl (lv_at hl 0 rfl) ?_
            refine n_if_ne (tgt := 66) hx hb (by omega) d_Sorts_isSettled_49 (by decide) (fun c49 => absurd c49 (by omega)) (fun c49 => ?_)
            refine lv_aload_n hx hb d_Sorts_isSettled_52 rfl (lv_at hl 1 rfl) ?_
            refine lv_iload_n hx hb d_Sorts_isSettled_53 rfl (lv_at hl 3 rfl) ?_
            refine lv_aload_n hx hb d_Sorts_isSettled_54 rfl (lv_at hl 2 rfl) ?_
            refine va_get (D := G) (ci := 6) (v := .ref aC) (C := R_Plan) (T := F_Plan) (N := 5) hx hb hts in_Plan hown hK hP 2 rfl rfl 1 (by decide) (hts _ fl_Sorts_36) (fun _ h9 => h9) rfl d_Sorts_isSettled_55 ?_
            refine lv_iload_n hx hb d_Sorts_isSettled_58 rfl (lv_at hl 3 rfl) ?_
            refine n_iald hx hb hK hP 3 0 rfl rfl (by omega) (by omega) d_Sorts_isSettled_59 ?_
            refine vp_callSi (W.runV (As := [.int (nI i), .int (nI (cn i))]) (rest := []) ⟨hx, hb, hml, hown, hts⟩ (c_Sorts_isTooMany l G ty hT aT hB bw fT i (cn i) nf adF fd ns adS sw sp sn pr sl sm sb lo hi sa (by omega) gt (by omega) (by omega) (by omega)) ⟨callB_of 2 hts (gd_TB cd_Sorts_isTooMany) rfl rfl rfl (hts _ ini_Sorts) (hts _ lk_Sorts_42) hd_Sorts_isTooMany ⟨Nat.le_of_ble_eq_true rfl, Nat.le_of_ble_eq_true rfl⟩, hts _ im_Sorts_isTooMany, hts _ sl_Sorts_isTooMany⟩ (preV_ro (hP.part (cx := [(hT, .inr (8, [.ref aT, .int (nI ns), .int (nI bw), .ref hB])), (aT, .inl (ty 4, 8, .inr (.inr (.inr (.inr fT)))))]) [0, 1] rfl) hX 0 rfl rfl) rfl rfl hl.1 rfl (lv_room (Nat.le_of_ble_eq_true rfl)) d_Sorts_isSettled_60 ⟨Nat.le_of_ble_eq_true rfl, Nat.le_of_ble_eq_true rfl⟩) (fun r9 er9 => ?_)
            subst er9
            refine n_if_eq (tgt := 68) hx hb (tN_lt _) d_Sorts_isSettled_63 (by decide) (fun c63 => ?_) (fun c63 => ?_)
            · refine lv_iinc (v := (nI (i + 1))) (lv' := [(2, .int (nI (i + 1))), (3, .int (nI 0)), (0, .ref hT), (1, .ref hQ)]) hx hb d_Sorts_isSettled_68 hl (k := 3) rfl (nI_inc _ _ _ (by omega)) (by decide) rfl (fun ls hl => ?_)
              refine lv_goto (tgt := 2) hx hb d_Sorts_isSettled_71 (by decide) ?_
              exact ih2 (i + 1) _ (by omega) (fun j h => (Nat.lt_or_ge j i).elim (hF j) (fun q => by rw [show j = i from by omega, tN_0 c63, decide_eq_false (by omega)]; rfl)) (by omega) (lv_sub hl [2, 3, 0] rfl)
            · refine lv_iconst (v := (nI 0)) hx hb d_Sorts_isSettled_66 (by decide) ?_
              exact W.zret (v := (nI 0)) hx hb hr nar_b0 (fun t9 ht _ => ⟨_, rfl, congrArg nI (show 0 = ((List.range ns).all (fun i => !(decide (0 < pr i ∧ ((cn i : Int) ≠ sn i))) && !(tooM sn i (cn i)))).toNat by rw [List.all_eq_false.mpr ⟨i, List.mem_range.mpr (by omega), by first | (rw [tN_1 c63]; simp) | (rw [decide_eq_true (by omega)]; simp)⟩]; rfl), ht⟩) (fun q h => by cases h) d_Sorts_isSettled_67
          · refine lv_iconst (v := (nI 1)) hx hb d_Sorts_isSettled_42 (by decide) ?_
            refine lv_goto (tgt := 47) hx hb d_Sorts_isSettled_43 (by decide) ?_
            refine lv_istore_n (lv' := [(3, .int (nI 1)), (0, .ref hT), (1, .ref hQ), (2, .int (nI i))]) hx hb d_Sorts_isSettled_47 rfl hl (by decide) rfl (fun ls hl => ?_)
            refine lv_iload_n hx hb d_Sorts_isSettled_48 rfl (lv_at hl 0 rfl) ?_
            refine n_if_ne (tgt := 66) hx hb (by omega) d_Sorts_isSettled_49 (by decide) (fun c49 => ?_) (fun c49 => absurd c49 (by omega))
            refine lv_iconst (v := (nI 0)) hx hb d_Sorts_isSettled_66 (by decide) ?_
            exact W.zret (v := (nI 0)) hx hb hr nar_b0 (fun t9 ht _ => ⟨_, rfl, congrArg nI (show 0 = ((List.range ns).all (fun i => !(decide (0 < pr i ∧ ((cn i : Int) ≠ sn i))) && !(tooM sn i (cn i)))).toNat by rw [List.all_eq_false.mpr ⟨i, List.mem_range.mpr (by omega), by first | (rw [tN_1 c63]; simp) | (rw [decide_eq_true (by omega)]; simp)⟩]; rfl), ht⟩) (fun q h => by cases h) d_Sorts_isSettled_67
  exact L2 (ns - 0 + 1) 0 _ (Nat.zero_le _) (fun j h => absurd h (by omega)) (Nat.lt_succ_self _) (lv_sub hl [1, 2, 0] rfl)
