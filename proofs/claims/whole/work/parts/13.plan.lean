theorem fl_Plan_15 : Cond.fieldLink R_Plan 15 "FaultRips$Plan" "size" "I" ∈ TB := mem_TB 181 (by decide +kernel) (by decide +kernel)
theorem fl_Plan_19 : Cond.fieldLink R_Plan 19 "FaultRips$Plan" "total" "J" ∈ TB := mem_TB 185 (by decide +kernel) (by decide +kernel)
theorem fl_Plan_23 : Cond.fieldLink R_Plan 23 "FaultRips$Plan" "room" "I" ∈ TB := mem_TB 188 (by decide +kernel) (by decide +kernel)
theorem fl_Plan_28 : Cond.fieldLink R_Plan 28 "FaultRips$Plan" "facts" "[[I" ∈ TB := mem_TB 174 (by decide +kernel) (by decide +kernel)
theorem fl_Plan_9 : Cond.fieldLink R_Plan 9 "FaultRips$Plan" "counts" "[I" ∈ TB := mem_TB 178 (by decide +kernel) (by decide +kernel)
theorem lk_Plan_31 : Cond.methodLink R_Plan 31 y_Arrays_fillI ∈ TB := mem_TB 600 (by decide +kernel) (by decide +kernel)

abbrev q_Arrays_fillI (G : va_G) (ty : Nat → ClassId) (aA : Nat) (n : Nat) (v : Nat) (g : Nat → Nat) (A : Nat → Prop) : Array Value → State → Outcome → State → Prop := va_Qv (fun (uu : (Nat → Nat)) => ∀ j, j < n → uu j = v) (at_W G (fun (uu : (Nat → Nat)) => [(aA, .inl (ty 0, n, .inl (nF uu)))]) A) A
set_option maxRecDepth 100000 in
set_option maxHeartbeats 4000000 in
theorem c_Arrays_fillI (l : Launch) (G : va_G) (ty : Nat → ClassId) (sz : Nat) (aA : Nat) (n : Nat) (v : Nat) (g : Nat → Nat) (gn : n < 2147483648) : Met l y_Arrays_fillI ws_Arrays_fillI { frames := 0, cells := 0, slots := 0, locals := 0 } (va_Pc [.ref aA, .int (nI v)] (fun U => U.heap.size = sz ∧ va_P G vwCl [(aA, .inl (ty 0, n, .inl (nF g)))] U.heap ∧ KX G ty U ∧ va_D (fun _ => True) [(aA, .inl (ty 0, n, .inl (nF g)))])) (q_Arrays_fillI G ty aA n v g (va_A [(aA, .inl (ty 0, n, .inl (nF g)))] sz)) 0 0 (va_A [(aA, .inl (ty 0, n, .inl (nF g)))] sz) := by
  refine met_wr (y := y_Arrays_fillI) (maxL := 4) (sz := sz) (G := G) (ty := ty) (mc := 0) (ms := 0) (av := [.ref aA, .int (nI v)]) (W0 := [(aA, .inl (ty 0, n, .inl (nF g)))]) (fun A => q_Arrays_fillI G ty aA n v g A) R_Arrays (by decide) rfl rfl (Nat.le_of_ble_eq_true rfl) ?_
  intro p e s m below meth c ls A hx hb hr hml hown hts hlocks hin hA hP hX hD hS hl
  have hK := hX.1
  have hl : lv_has ls 4 [(0, .ref aA), (1, .int (nI v))] := hl
  refine lv_iconst (v := (nI 0)) hx hb d_Arrays_fillI_0 (by decide) ?_
  refine lv_istore_n (lv' := [(2, .int (nI 0)), (0, .ref aA), (1, .int (nI v))]) hx hb d_Arrays_fillI_1 rfl hl (by decide) rfl (fun ls hl => ?_)
  refine lv_aload_n hx hb d_Arrays_fillI_2 rfl (lv_at hl 1 rfl) ?_
  refine n_alen hx hb hK hP 0 0 rfl rfl d_Arrays_fillI_3 ?_
  refine lv_istore_n (lv' := [(3, .int (nI n)), (2, .int (nI 0)), (0, .ref aA), (1, .int (nI v))]) hx hb d_Arrays_fillI_4 rfl hl (by decide) rfl (fun ls hl => ?_)
  have L5 : ∀ (k9 : Nat) (i : Nat) (g2 : Nat → Nat) (H : Heap) (locs : List Loc) (ls : Array Slot), (i ≤ n) → (∀ j, j < i → g2 j = v) → n - i < k9 → va_P G vwCl [(aA, .inl (ty 0, n, .inl (nF g2)))] H → va_D A [(aA, .inl (ty 0, n, .inl (nF g2)))] → va_S A s.heap H locs → lv_has ls 4 [(0, .ref aA), (1, .int (nI v)), (2, .int (nI i)), (3, .int (nI n))] → W p l e { frames := 0, cells := 0, slots := 0, locals := 0 } s m [.ref aA, .int (nI v)].toArray below meth c H locs 0 0 (MQ below (q_Arrays_fillI G ty aA n v g A) [.ref aA, .int (nI v)].toArray s 0 0 A) (F0 m 5 ls []) := by
    intro k9
    induction k9 with
    | zero => intro i g2 H locs ls hi1 hF hk9; exact absurd hk9 (Nat.not_lt_zero _)
    | succ k9 ih5 =>
      intro i g2 H locs ls hi1 hF hk9 hP hD hS hl
      refine lv_iload_n hx hb d_Arrays_fillI_5 rfl (lv_at hl 2 rfl) ?_
      refine lv_iload_n hx hb d_Arrays_fillI_6 rfl (lv_at hl 3 rfl) ?_
      refine n_icmp_ge (tgt := 20) hx hb (by omega) (by omega) d_Arrays_fillI_7 (by decide) (fun c7 => ?_) (fun c7 => ?_)
      · exact W.vret hx hb hr (fun t9 ht hW => ⟨⟨(g2), rfl, fun j h => hF j (by omega), by rw [ht]; exact hP, hD⟩, hS.F ht⟩) hS.2.2 d_Arrays_fillI_20
      · refine lv_aload_n hx hb d_Arrays_fillI_10 rfl (lv_at hl 0 rfl) ?_
        refine lv_iload_n hx hb d_Arrays_fillI_11 rfl (lv_at hl 2 rfl) ?_
        refine lv_iload_n hx hb d_Arrays_fillI_12 rfl (lv_at hl 1 rfl) ?_
        refine n_iast hx hb hK hP hD hS 0 0 rfl rfl (by omega) (by omega) d_Arrays_fillI_13 (fun H locs hP hD hS => ?_)
        rw [upd_nF] at hP hD
        have hP : va_P G vwCl [(aA, .inl (ty 0, n, .inl (nF (va_up g2 i v))))] _ := hP
        have hD : va_D A [(aA, .inl (ty 0, n, .inl (nF (va_up g2 i v))))] := hD
        refine lv_iinc (v := (nI (i + 1))) (lv' := [(2, .int (nI (i + 1))), (0, .ref aA), (1, .int (nI v)), (3, .int (nI n))]) hx hb d_Arrays_fillI_14 hl (k := 2) rfl (nI_inc _ _ _ (by omega)) (by decide) rfl (fun ls hl => ?_)
        refine lv_goto (tgt := 5) hx hb d_Arrays_fillI_17 (by decide) ?_
        exact ih5 (i + 1) (va_up g2 i v) _ _ _ (by omega) (fun j h => (Nat.lt_or_ge j i).elim (fun q => by rw [va_up_ne _ _ (by omega)]; exact hF j q) (fun q => by rw [show j = i from by omega, va_up_self])) (by omega) hP hD hS (lv_sub hl [1, 2, 0, 3] rfl)
  exact L5 (n - 0 + 1) 0 g _ _ _ (Nat.zero_le _) (fun j h => absurd h (by omega)) (Nat.lt_succ_self _) hP hD hS (lv_sub hl [2, 3, 1, 0] rfl)

abbrev q_Arrays_fillJ (G : va_G) (ty : Nat → ClassId) (aA : Nat) (n : Nat) (v : Int) (g : Nat → Int) (A : Nat → Prop) : Array Value → State → Outcome → State → Prop := va_Qv (fun (uu : (Nat → Int)) => ∀ j, j < n → uu j = v) (at_W G (fun (uu : (Nat → Int)) => [(aA, .inl (ty 1, n, .inr (.inl (lF uu))))]) A) A
set_option maxRecDepth 100000 in
set_option maxHeartbeats 4000000 in
theorem c_Arrays_fillJ (l : Launch) (G : va_G) (ty : Nat → ClassId) (sz : Nat) (aA : Nat) (n : Nat) (v : Int) (g : Nat → Int) (gn : n < 2147483648) : Met l y_Arrays_fillJ ws_Arrays_fillJ { frames := 0, cells := 0, slots := 0, locals := 0 } (va_Pc [.ref aA, .long (iL v)] (fun U => U.heap.size = sz ∧ va_P G vwCl [(aA, .inl (ty 1, n, .inr (.inl (lF g))))] U.heap ∧ KX G ty U ∧ va_D (fun _ => True) [(aA, .inl (ty 1, n, .inr (.inl (lF g))))])) (q_Arrays_fillJ G ty aA n v g (va_A [(aA, .inl (ty 1, n, .inr (.inl (lF g))))] sz)) 0 0 (va_A [(aA, .inl (ty 1, n, .inr (.inl (lF g))))] sz) := by
  refine met_wr (y := y_Arrays_fillJ) (maxL := 5) (sz := sz) (G := G) (ty := ty) (mc := 0) (ms := 0) (av := [.ref aA, .long (iL v)]) (W0 := [(aA, .inl (ty 1, n, .inr (.inl (lF g))))]) (fun A => q_Arrays_fillJ G ty aA n v g A) R_Arrays (by decide) rfl rfl (Nat.le_of_ble_eq_true rfl) ?_
  intro p e s m below meth c ls A hx hb hr hml hown hts hlocks hin hA hP hX hD hS hl
  have hK := hX.1
  have hl : lv_has ls 5 [(0, .ref aA), (1, .long (iL v))] := hl
  refine lv_iconst (v := (nI 0)) hx hb d_Arrays_fillJ_0 (by decide) ?_
  refine lv_istore_n (lv' := [(3, .int (nI 0)), (0, .ref aA), (1, .long (iL v))]) hx hb d_Arrays_fillJ_1 rfl hl (by decide) rfl (fun ls hl => ?_)
  refine lv_aload_n hx hb d_Arrays_fillJ_2 rfl (lv_at hl 1 rfl) ?_
  refine n_alen hx hb hK hP 0 1 rfl rfl d_Arrays_fillJ_3 ?_
  refine lv_istore (lv' := [(4, .int (nI n)), (3, .int (nI 0)), (0, .ref aA), (1, .long (iL v))]) hx hb d_Arrays_fillJ_4 hl (by decide) rfl (fun ls hl => ?_)
  have L6 : ∀ (k9 : Nat) (i : Nat) (g2 : Nat → Int) (H : Heap) (locs : List Loc) (ls : Array Slot), (i ≤ n) → (∀ j, j < i → g2 j = v) → n - i < k9 → va_P G vwCl [(aA, .inl (ty 1, n, .inr (.inl (lF g2))))] H → va_D A [(aA, .inl (ty 1, n, .inr (.inl (lF g2))))] → va_S A s.heap H locs → lv_has ls 5 [(0, .ref aA), (1, .long (iL v)), (3, .int (nI i)), (4, .int (nI n))] → W p l e { frames := 0, cells := 0, slots := 0, locals := 0 } s m [.ref aA, .long (iL v)].toArray below meth c H locs 0 0 (MQ below (q_Arrays_fillJ G ty aA n v g A) [.ref aA, .long (iL v)].toArray s 0 0 A) (F0 m 6 ls []) := by
    intro k9
    induction k9 with
    | zero => intro i g2 H locs ls hi1 hF hk9; exact absurd hk9 (Nat.not_lt_zero _)
    | succ k9 ih6 =>
      intro i g2 H locs ls hi1 hF hk9 hP hD hS hl
      refine lv_iload_n hx hb d_Arrays_fillJ_6 rfl (lv_at hl 2 rfl) ?_
      refine lv_iload hx hb d_Arrays_fillJ_7 (lv_at hl 3 rfl) ?_
      refine n_icmp_ge (tgt := 22) hx hb (by omega) (by omega) d_Arrays_fillJ_9 (by decide) (fun c9 => ?_) (fun c9 => ?_)
      · exact W.vret hx hb hr (fun t9 ht hW => ⟨⟨(g2), rfl, fun j h => hF j (by omega), by rw [ht]; exact hP, hD⟩, hS.F ht⟩) hS.2.2 d_Arrays_fillJ_22
      · refine lv_aload_n hx hb d_Arrays_fillJ_12 rfl (lv_at hl 0 rfl) ?_
        refine lv_iload_n hx hb d_Arrays_fillJ_13 rfl (lv_at hl 2 rfl) ?_
        refine lv_lload_n hx hb d_Arrays_fillJ_14 rfl (lv_at hl 1 rfl) ?_
        refine n_last hx hb hK hP hD hS 0 1 rfl rfl (by omega) (by omega) d_Arrays_fillJ_15 (fun H locs hP hD hS => ?_)
        rw [upd_lF] at hP hD
        have hP : va_P G vwCl [(aA, .inl (ty 1, n, .inr (.inl (lF (va_up g2 i v)))))] _ := hP
        have hD : va_D A [(aA, .inl (ty 1, n, .inr (.inl (lF (va_up g2 i v)))))] := hD
        refine lv_iinc (v := (nI (i + 1))) (lv' := [(3, .int (nI (i + 1))), (0, .ref aA), (1, .long (iL v)), (4, .int (nI n))]) hx hb d_Arrays_fillJ_16 hl (k := 2) rfl (nI_inc _ _ _ (by omega)) (by decide) rfl (fun ls hl => ?_)
        refine lv_goto (tgt := 6) hx hb d_Arrays_fillJ_19 (by decide) ?_
        exact ih6 (i + 1) (va_up g2 i v) _ _ _ (by omega) (fun j h => (Nat.lt_or_ge j i).elim (fun q => by rw [va_up_ne _ _ (by omega)]; exact hF j q) (fun q => by rw [show j = i from by omega, va_up_self])) (by omega) hP hD hS (lv_sub hl [1, 2, 0, 3] rfl)
  exact L6 (n - 0 + 1) 0 g _ _ _ (Nat.zero_le _) (fun j h => absurd h (by omega)) (Nat.lt_succ_self _) hP hD hS (lv_sub hl [2, 3, 1, 0] rfl)

abbrev q_Plan_empty (G : va_G) (ty : Nat → ClassId) (hQ : Nat) (aQ : Nat) (aC : Nat) (np : Nat) (rm : Nat) (tot : Int) (cn : Nat → Nat) (A : Nat → Prop) : Array Value → State → Outcome → State → Prop := va_Qv (fun (uu : (Nat → Nat)) => ∀ i, i < 8 → uu i = 0) (at_W G (fun (uu : (Nat → Nat)) => [(hQ, .inr (6, [.ref aQ, .ref aC, .int (nI 0), .long (iL 0), .int (nI rm)])), (aC, .inl (ty 0, 8, .inl (nF uu)))]) A) A
set_option maxRecDepth 100000 in
set_option maxHeartbeats 4000000 in
theorem c_Plan_empty (l : Launch) (G : va_G) (ty : Nat → ClassId) (sz : Nat) (hQ : Nat) (aQ : Nat) (aC : Nat) (np : Nat) (rm : Nat) (tot : Int) (cn : Nat → Nat) : Met l y_Plan_empty ws_Plan_empty { frames := 1, cells := 0, slots := 0, locals := 23 } (va_Pc [.ref hQ] (fun U => U.heap.size = sz ∧ va_P G vwCl [(hQ, .inr (6, [.ref aQ, .ref aC, .int (nI np), .long (iL tot), .int (nI rm)])), (aC, .inl (ty 0, 8, .inl (nF cn)))] U.heap ∧ KX G ty U ∧ va_D (fun _ => True) [(hQ, .inr (6, [.ref aQ, .ref aC, .int (nI np), .long (iL tot), .int (nI rm)])), (aC, .inl (ty 0, 8, .inl (nF cn)))])) (q_Plan_empty G ty hQ aQ aC np rm tot cn (va_A [(hQ, .inr (6, [.ref aQ, .ref aC, .int (nI np), .long (iL tot), .int (nI rm)])), (aC, .inl (ty 0, 8, .inl (nF cn)))] sz)) 0 0 (va_A [(hQ, .inr (6, [.ref aQ, .ref aC, .int (nI np), .long (iL tot), .int (nI rm)])), (aC, .inl (ty 0, 8, .inl (nF cn)))] sz) := by
  refine met_wr (y := y_Plan_empty) (maxL := 1) (sz := sz) (G := G) (ty := ty) (mc := 0) (ms := 0) (av := [.ref hQ]) (W0 := [(hQ, .inr (6, [.ref aQ, .ref aC, .int (nI np), .long (iL tot), .int (nI rm)])), (aC, .inl (ty 0, 8, .inl (nF cn)))]) (fun A => q_Plan_empty G ty hQ aQ aC np rm tot cn A) R_Plan (by decide) rfl rfl (Nat.le_of_ble_eq_true rfl) ?_
  intro p e s m below meth c ls A hx hb hr hml hown hts hlocks hin hA hP hX hD hS hl
  have hK := hX.1
  have hl : lv_has ls 1 [(0, .ref hQ)] := hl
  refine lv_aload_n hx hb d_Plan_empty_0 rfl (lv_at hl 0 rfl) ?_
  refine lv_iconst (v := (nI 0)) hx hb d_Plan_empty_1 (by decide) ?_
  refine va_put (D := G) (ci := 6) (v := .int (nI 0)) (ty := .int) (C := R_Plan) (T := F_Plan) (N := 5) hx hb hts in_Plan t_Plan t_Plan_ok n_Plan hown hK hP hD hS 0 rfl rfl 2 (by decide) (hts _ fl_Plan_15) (fun _ h9 => h9) rfl (by decide +kernel) rfl rfl (Nat.le_of_ble_eq_true rfl) d_Plan_empty_2 (fun H locs hP hD hS => ?_)
  have hP : va_P G vwCl [(hQ, .inr (6, [.ref aQ, .ref aC, .int (nI 0), .long (iL tot), .int (nI rm)])), (aC, .inl (ty 0, 8, .inl (nF cn)))] _ := hP
  have hD : va_D A [(hQ, .inr (6, [.ref aQ, .ref aC, .int (nI 0), .long (iL tot), .int (nI rm)])), (aC, .inl (ty 0, 8, .inl (nF cn)))] := hD
  refine lv_aload_n hx hb d_Plan_empty_5 rfl (lv_at hl 0 rfl) ?_
  refine lv_lconst (v := iL 0) hx hb d_Plan_empty_6 (by decide) ?_
  refine va_put (D := G) (ci := 6) (v := .long (iL 0)) (ty := .long) (C := R_Plan) (T := F_Plan) (N := 5) hx hb hts in_Plan t_Plan t_Plan_ok n_Plan hown hK hP hD hS 0 rfl rfl 3 (by decide) (hts _ fl_Plan_19) (fun _ h9 => h9) rfl (by decide +kernel) rfl rfl (Nat.le_of_ble_eq_true rfl) d_Plan_empty_7 (fun H locs hP hD hS => ?_)
  have hP : va_P G vwCl [(hQ, .inr (6, [.ref aQ, .ref aC, .int (nI 0), .long (iL 0), .int (nI rm)])), (aC, .inl (ty 0, 8, .inl (nF cn)))] _ := hP
  have hD : va_D A [(hQ, .inr (6, [.ref aQ, .ref aC, .int (nI 0), .long (iL 0), .int (nI rm)])), (aC, .inl (ty 0, 8, .inl (nF cn)))] := hD
  refine lv_aload_n hx hb d_Plan_empty_10 rfl (lv_at hl 0 rfl) ?_
  refine va_get (D := G) (ci := 6) (v := .ref aC) (C := R_Plan) (T := F_Plan) (N := 5) hx hb hts in_Plan hown hK hP 0 rfl rfl 1 (by decide) (hts _ fl_Plan_9) (fun _ h9 => h9) rfl d_Plan_empty_11 ?_
  refine lv_iconst (v := (nI 0)) hx hb d_Plan_empty_14 (by decide) ?_
  refine call_wr_v (Wc := [(aC, .inl (ty 0, 8, .inl (nF cn)))]) (Wr := [(hQ, .inr (6, [.ref aQ, .ref aC, .int (nI 0), .long (iL 0), .int (nI rm)]))]) (va_runS (As := [.ref aC, .int (nI 0)]) (rest := []) ⟨hx, hb, hml, hown, hts⟩ (c_Arrays_fillI l G ty _ aC 8 0 cn (by omega)) ⟨callB_of 2 hts (gd_TB cd_Arrays_fillI) rfl rfl rfl (hts _ ini_Arrays) (hts _ lk_Plan_31) hd_Arrays_fillI ⟨Nat.le_of_ble_eq_true rfl, Nat.le_of_ble_eq_true rfl⟩, hts _ st_Arrays_fillI⟩ (preS_wr (hP.sub (ws' := [(aC, .inl (ty 0, 8, .inl (nF cn)))]) [1] rfl) hX (hD.sub (ws' := [(aC, .inl (ty 0, 8, .inl (nF cn)))]) [1] (by decide) rfl)) rfl rfl hl.1 rfl (lv_room (Nat.le_of_ble_eq_true rfl)) d_Plan_empty_15 ⟨Nat.le_of_ble_eq_true rfl, Nat.le_of_ble_eq_true rfl⟩) hP hD hS hA [1] [0] rfl rfl (by decide) (by decide) (fun u9 H locs hw2 hP hD hS => ?_)
  obtain ⟨cn1, rfl⟩ : ∃ z, z = u9 := ⟨_, rfl⟩
  have hw2 : ∀ j, j < 8 → cn1 j = 0 := hw2
  have hP : va_P G vwCl [(hQ, .inr (6, [.ref aQ, .ref aC, .int (nI 0), .long (iL 0), .int (nI rm)])), (aC, .inl (ty 0, 8, .inl (nF cn1)))] _ := hP
  have hD : va_D A [(hQ, .inr (6, [.ref aQ, .ref aC, .int (nI 0), .long (iL 0), .int (nI rm)])), (aC, .inl (ty 0, 8, .inl (nF cn1)))] := hD
  exact W.vret hx hb hr (fun t9 ht hW => ⟨⟨(cn1), rfl, hw2, by rw [ht]; exact hP, hD⟩, hS.F ht⟩) hS.2.2 d_Plan_empty_18

abbrev q_Plan_addPiece (G : va_G) (ty : Nat → ClassId) (hQ : Nat) (aQ : Nat) (aC : Nat) (np : Nat) (rm : Nat) (tot : Int) (cn : Nat → Nat) (fQ : Nat → Option Nat) (aR : Nat → Nat) (f0 : Nat → Nat) (f1 : Nat → Nat) (f2 : Nat → Nat) (f3 : Nat → Nat) (f4 : Nat → Nat) (f5 : Nat → Nat) (x : Nat) (y : Nat) (dx : Nat) (dy : Nat) (so : Nat) (va : Nat) (A : Nat → Prop) : Array Value → State → Outcome → State → Prop := va_Qv (fun (uu : Unit) => True) (at_W G (fun (uu : Unit) => [(hQ, .inr (6, [.ref aQ, .ref aC, .int (nI (np + 1)), .long (iL (tot + (va : Int))), .int (nI rm)])), (aQ, .inl (ty 5, 6, .inr (.inr (.inr (.inr fQ))))), (aR 0, .inl (ty 0, rm, .inl (nF (va_up f0 np x)))), (aR 1, .inl (ty 0, rm, .inl (nF (va_up f1 np y)))), (aR 2, .inl (ty 0, rm, .inl (nF (va_up f2 np dx)))), (aR 3, .inl (ty 0, rm, .inl (nF (va_up f3 np dy)))), (aR 4, .inl (ty 0, rm, .inl (nF (va_up f4 np so)))), (aR 5, .inl (ty 0, rm, .inl (nF (va_up f5 np va)))), (aC, .inl (ty 0, 8, .inl (nF (va_up cn so (cn so + 1)))))]) A) A
set_option maxRecDepth 100000 in
set_option maxHeartbeats 4000000 in
theorem c_Plan_addPiece (l : Launch) (G : va_G) (ty : Nat → ClassId) (sz : Nat) (hQ : Nat) (aQ : Nat) (aC : Nat) (np : Nat) (rm : Nat) (tot : Int) (cn : Nat → Nat) (fQ : Nat → Option Nat) (aR : Nat → Nat) (f0 : Nat → Nat) (f1 : Nat → Nat) (f2 : Nat → Nat) (f3 : Nat → Nat) (f4 : Nat → Nat) (f5 : Nat → Nat) (x : Nat) (y : Nat) (dx : Nat) (dy : Nat) (so : Nat) (va : Nat) (gq : ∀ i, i < 6 → fQ i = some (aR i)) (gr : rm ≤ 240) (g1 : np < rm) (g2 : so < 8) (g3 : va ≤ 100000000) : Met l y_Plan_addPiece ws_Plan_addPiece { frames := 0, cells := 0, slots := 0, locals := 0 } (va_Pc [.ref hQ, .int (nI x), .int (nI y), .int (nI dx), .int (nI dy), .int (nI so), .int (nI va)] (fun U => U.heap.size = sz ∧ va_P G vwCl [(hQ, .inr (6, [.ref aQ, .ref aC, .int (nI np), .long (iL tot), .int (nI rm)])), (aQ, .inl (ty 5, 6, .inr (.inr (.inr (.inr fQ))))), (aR 0, .inl (ty 0, rm, .inl (nF f0))), (aR 1, .inl (ty 0, rm, .inl (nF f1))), (aR 2, .inl (ty 0, rm, .inl (nF f2))), (aR 3, .inl (ty 0, rm, .inl (nF f3))), (aR 4, .inl (ty 0, rm, .inl (nF f4))), (aR 5, .inl (ty 0, rm, .inl (nF f5))), (aC, .inl (ty 0, 8, .inl (nF cn)))] U.heap ∧ KX G ty U ∧ va_D (fun _ => True) [(hQ, .inr (6, [.ref aQ, .ref aC, .int (nI np), .long (iL tot), .int (nI rm)])), (aQ, .inl (ty 5, 6, .inr (.inr (.inr (.inr fQ))))), (aR 0, .inl (ty 0, rm, .inl (nF f0))), (aR 1, .inl (ty 0, rm, .inl (nF f1))), (aR 2, .inl (ty 0, rm, .inl (nF f2))), (aR 3, .inl (ty 0, rm, .inl (nF f3))), (aR 4, .inl (ty 0, rm, .inl (nF f4))), (aR 5, .inl (ty 0, rm, .inl (nF f5))), (aC, .inl (ty 0, 8, .inl (nF cn)))])) (q_Plan_addPiece G ty hQ aQ aC np rm tot cn fQ aR f0 f1 f2 f3 f4 f5 x y dx dy so va (va_A [(hQ, .inr (6, [.ref aQ, .ref aC, .int (nI np), .long (iL tot), .int (nI rm)])), (aQ, .inl (ty 5, 6, .inr (.inr (.inr (.inr fQ))))), (aR 0, .inl (ty 0, rm, .inl (nF f0))), (aR 1, .inl (ty 0, rm, .inl (nF f1))), (aR 2, .inl (ty 0, rm, .inl (nF f2))), (aR 3, .inl (ty 0, rm, .inl (nF f3))), (aR 4, .inl (ty 0, rm, .inl (nF f4))), (aR 5, .inl (ty 0, rm, .inl (nF f5))), (aC, .inl (ty 0, 8, .inl (nF cn)))] sz)) 0 0 (va_A [(hQ, .inr (6, [.ref aQ, .ref aC, .int (nI np), .long (iL tot), .int (nI rm)])), (aQ, .inl (ty 5, 6, .inr (.inr (.inr (.inr fQ))))), (aR 0, .inl (ty 0, rm, .inl (nF f0))), (aR 1, .inl (ty 0, rm, .inl (nF f1))), (aR 2, .inl (ty 0, rm, .inl (nF f2))), (aR 3, .inl (ty 0, rm, .inl (nF f3))), (aR 4, .inl (ty 0, rm, .inl (nF f4))), (aR 5, .inl (ty 0, rm, .inl (nF f5))), (aC, .inl (ty 0, 8, .inl (nF cn)))] sz) := by
  refine met_wr (y := y_Plan_addPiece) (maxL := 7) (sz := sz) (G := G) (ty := ty) (mc := 0) (ms := 0) (av := [.ref hQ, .int (nI x), .int (nI y), .int (nI dx), .int (nI dy), .int (nI so), .int (nI va)]) (W0 := [(hQ, .inr (6, [.ref aQ, .ref aC, .int (nI np), .long (iL tot), .int (nI rm)])), (aQ, .inl (ty 5, 6, .inr (.inr (.inr (.inr fQ))))), (aR 0, .inl (ty 0, rm, .inl (nF f0))), (aR 1, .inl (ty 0, rm, .inl (nF f1))), (aR 2, .inl (ty 0, rm, .inl (nF f2))), (aR 3, .inl (ty 0, rm, .inl (nF f3))), (aR 4, .inl (ty 0, rm, .inl (nF f4))), (aR 5, .inl (ty 0, rm, .inl (nF f5))), (aC, .inl (ty 0, 8, .inl (nF cn)))]) (fun A => q_Plan_addPiece G ty hQ aQ aC np rm tot cn fQ aR f0 f1 f2 f3 f4 f5 x y dx dy so va A) R_Plan (by decide) rfl rfl (Nat.le_of_ble_eq_true rfl) ?_
  intro p e s m below meth c ls A hx hb hr hml hown hts hlocks hin hA hP hX hD hS hl
  have hK := hX.1
  have hl : lv_has ls 7 [(0, .ref hQ), (1, .int (nI x)), (2, .int (nI y)), (3, .int (nI dx)), (4, .int (nI dy)), (5, .int (nI so)), (6, .int (nI va))] := hl
  refine lv_aload_n hx hb d_Plan_addPiece_0 rfl (lv_at hl 0 rfl) ?_
  refine va_get (D := G) (ci := 6) (v := .int (nI np)) (C := R_Plan) (T := F_Plan) (N := 5) hx hb hts in_Plan hown hK hP 0 rfl rfl 2 (by decide) (hts _ fl_Plan_15) (fun _ h9 => h9) rfl d_Plan_addPiece_1 ?_
  refine lv_aload_n hx hb d_Plan_addPiece_4 rfl (lv_at hl 0 rfl) ?_
  refine va_get (D := G) (ci := 6) (v := .int (nI rm)) (C := R_Plan) (T := F_Plan) (N := 5) hx hb hts in_Plan hown hK hP 0 rfl rfl 4 (by decide) (hts _ fl_Plan_23) (fun _ h9 => h9) rfl d_Plan_addPiece_5 ?_
  refine n_icmp_ge (tgt := 23) hx hb (by omega) (by omega) d_Plan_addPiece_8 (by decide) (fun c8 => absurd c8 (by omega)) (fun c8 => ?_)
  refine lv_iload hx hb d_Plan_addPiece_11 (lv_at hl 5 rfl) ?_
  refine n_if_lt (tgt := 23) hx hb (by omega) d_Plan_addPiece_13 (by decide) (fun c13 => absurd c13 (by omega)) (fun c13 => ?_)
  refine lv_iload hx hb d_Plan_addPiece_16 (lv_at hl 5 rfl) ?_
  refine lv_bipush (v := (nI 8)) hx hb d_Plan_addPiece_18 (by decide) ?_
  refine n_icmp_lt (tgt := 24) hx hb (by omega) (by omega) d_Plan_addPiece_20 (by decide) (fun c20 => ?_) (fun c20 => absurd c20 (by omega))
  refine lv_aload_n hx hb d_Plan_addPiece_24 rfl (lv_at hl 0 rfl) ?_
  refine va_get (D := G) (ci := 6) (v := .ref aQ) (C := R_Plan) (T := F_Plan) (N := 5) hx hb hts in_Plan hown hK hP 0 rfl rfl 0 (by decide) (hts _ fl_Plan_28) (fun _ h9 => h9) rfl d_Plan_addPiece_25 ?_
  refine lv_iconst (v := (nI 0)) hx hb d_Plan_addPiece_28 (by decide) ?_
  refine n_aaldA hx hb hK hP 1 5 rfl rfl (by omega) (by omega) (gq 0 (by omega)) d_Plan_addPiece_29 ?_
  refine lv_aload_n hx hb d_Plan_addPiece_30 rfl (lv_at hl 0 rfl) ?_
  refine va_get (D := G) (ci := 6) (v := .int (nI np)) (C := R_Plan) (T := F_Plan) (N := 5) hx hb hts in_Plan hown hK hP 0 rfl rfl 2 (by decide) (hts _ fl_Plan_15) (fun _ h9 => h9) rfl d_Plan_addPiece_31 ?_
  refine lv_iload_n hx hb d_Plan_addPiece_34 rfl (lv_at hl 1 rfl) ?_
  refine n_iast hx hb hK hP hD hS 2 0 rfl rfl (by omega) (by omega) d_Plan_addPiece_35 (fun H locs hP hD hS => ?_)
  rw [upd_nF] at hP hD
  have hP : va_P G vwCl [(hQ, .inr (6, [.ref aQ, .ref aC, .int (nI np), .long (iL tot), .int (nI rm)])), (aQ, .inl (ty 5, 6, .inr (.inr (.inr (.inr fQ))))), (aR 0, .inl (ty 0, rm, .inl (nF (va_up f0 np x)))), (aR 1, .inl (ty 0, rm, .inl (nF f1))), (aR 2, .inl (ty 0, rm, .inl (nF f2))), (aR 3, .inl (ty 0, rm, .inl (nF f3))), (aR 4, .inl (ty 0, rm, .inl (nF f4))), (aR 5, .inl (ty 0, rm, .inl (nF f5))), (aC, .inl (ty 0, 8, .inl (nF cn)))] _ := hP
  have hD : va_D A [(hQ, .inr (6, [.ref aQ, .ref aC, .int (nI np), .long (iL tot), .int (nI rm)])), (aQ, .inl (ty 5, 6, .inr (.inr (.inr (.inr fQ))))), (aR 0, .inl (ty 0, rm, .inl (nF (va_up f0 np x)))), (aR 1, .inl (ty 0, rm, .inl (nF f1))), (aR 2, .inl (ty 0, rm, .inl (nF f2))), (aR 3, .inl (ty 0, rm, .inl (nF f3))), (aR 4, .inl (ty 0, rm, .inl (nF f4))), (aR 5, .inl (ty 0, rm, .inl (nF f5))), (aC, .inl (ty 0, 8, .inl (nF cn)))] := hD
  refine lv_aload_n hx hb d_Plan_addPiece_36 rfl (lv_at hl 0 rfl) ?_
  refine va_get (D := G) (ci := 6) (v := .ref aQ) (C := R_Plan) (T := F_Plan) (N := 5) hx hb hts in_Plan hown hK hP 0 rfl rfl 0 (by decide) (hts _ fl_Plan_28) (fun _ h9 => h9) rfl d_Plan_addPiece_37 ?_
  refine lv_iconst (v := (nI 1)) hx hb d_Plan_addPiece_40 (by decide) ?_
  refine n_aaldA hx hb hK hP 1 5 rfl rfl (by omega) (by omega) (gq 1 (by omega)) d_Plan_addPiece_41 ?_
  refine lv_aload_n hx hb d_Plan_addPiece_42 rfl (lv_at hl 0 rfl) ?_
  refine va_get (D := G) (ci := 6) (v := .int (nI np)) (C := R_Plan) (T := F_Plan) (N := 5) hx hb hts in_Plan hown hK hP 0 rfl rfl 2 (by decide) (hts _ fl_Plan_15) (fun _ h9 => h9) rfl d_Plan_addPiece_43 ?_
  refine lv_iload_n hx hb d_Plan_addPiece_46 rfl (lv_at hl 2 rfl) ?_
  refine n_iast hx hb hK hP hD hS 3 0 rfl rfl (by omega) (by omega) d_Plan_addPiece_47 (fun H locs hP hD hS => ?_)
  rw [upd_nF] at hP hD
  have hP : va_P G vwCl [(hQ, .inr (6, [.ref aQ, .ref aC, .int (nI np), .long (iL tot), .int (nI rm)])), (aQ, .inl (ty 5, 6, .inr (.inr (.inr (.inr fQ))))), (aR 0, .inl (ty 0, rm, .inl (nF (va_up f0 np x)))), (aR 1, .inl (ty 0, rm, .inl (nF (va_up f1 np y)))), (aR 2, .inl (ty 0, rm, .inl (nF f2))), (aR 3, .inl (ty 0, rm, .inl (nF f3))), (aR 4, .inl (ty 0, rm, .inl (nF f4))), (aR 5, .inl (ty 0, rm, .inl (nF f5))), (aC, .inl (ty 0, 8, .inl (nF cn)))] _ := hP
  have hD : va_D A [(hQ, .inr (6, [.ref aQ, .ref aC, .int (nI np), .long (iL tot), .int (nI rm)])), (aQ, .inl (ty 5, 6, .inr (.inr (.inr (.inr fQ))))), (aR 0, .inl (ty 0, rm, .inl (nF (va_up f0 np x)))), (aR 1, .inl (ty 0, rm, .inl (nF (va_up f1 np y)))), (aR 2, .inl (ty 0, rm, .inl (nF f2))), (aR 3, .inl (ty 0, rm, .inl (nF f3))), (aR 4, .inl (ty 0, rm, .inl (nF f4))), (aR 5, .inl (ty 0, rm, .inl (nF f5))), (aC, .inl (ty 0, 8, .inl (nF cn)))] := hD
  refine lv_aload_n hx hb d_Plan_addPiece_48 rfl (lv_at hl 0 rfl) ?_
  refine va_get (D := G) (ci := 6) (v := .ref aQ) (C := R_Plan) (T := F_Plan) (N := 5) hx hb hts in_Plan hown hK hP 0 rfl rfl 0 (by decide) (hts _ fl_Plan_28) (fun _ h9 => h9) rfl d_Plan_addPiece_49 ?_
  refine lv_iconst (v := (nI 2)) hx hb d_Plan_addPiece_52 (by decide) ?_
  refine n_aaldA hx hb hK hP 1 5 rfl rfl (by omega) (by omega) (gq 2 (by omega)) d_Plan_addPiece_53 ?_
  refine lv_aload_n hx hb d_Plan_addPiece_54 rfl (lv_at hl 0 rfl) ?_
  refine va_get (D := G) (ci := 6) (v := .int (nI np)) (C := R_Plan) (T := F_Plan) (N := 5) hx hb hts in_Plan hown hK hP 0 rfl rfl 2 (by decide) (hts _ fl_Plan_15) (fun _ h9 => h9) rfl d_Plan_addPiece_55 ?_
  refine lv_iload_n hx hb d_Plan_addPiece_58 rfl (lv_at hl 3 rfl) ?_
  refine n_iast hx hb hK hP hD hS 4 0 rfl rfl (by omega) (by omega) d_Plan_addPiece_59 (fun H locs hP hD hS => ?_)
  rw [upd_nF] at hP hD
  have hP : va_P G vwCl [(hQ, .inr (6, [.ref aQ, .ref aC, .int (nI np), .long (iL tot), .int (nI rm)])), (aQ, .inl (ty 5, 6, .inr (.inr (.inr (.inr fQ))))), (aR 0, .inl (ty 0, rm, .inl (nF (va_up f0 np x)))), (aR 1, .inl (ty 0, rm, .inl (nF (va_up f1 np y)))), (aR 2, .inl (ty 0, rm, .inl (nF (va_up f2 np dx)))), (aR 3, .inl (ty 0, rm, .inl (nF f3))), (aR 4, .inl (ty 0, rm, .inl (nF f4))), (aR 5, .inl (ty 0, rm, .inl (nF f5))), (aC, .inl (ty 0, 8, .inl (nF cn)))] _ := hP
  have hD : va_D A [(hQ, .inr (6, [.ref aQ, .ref aC, .int (nI np), .long (iL tot), .int (nI rm)])), (aQ, .inl (ty 5, 6, .inr (.inr (.inr (.inr fQ))))), (aR 0, .inl (ty 0, rm, .inl (nF (va_up f0 np x)))), (aR 1, .inl (ty 0, rm, .inl (nF (va_up f1 np y)))), (aR 2, .inl (ty 0, rm, .inl (nF (va_up f2 np dx)))), (aR 3, .inl (ty 0, rm, .inl (nF f3))), (aR 4, .inl (ty 0, rm, .inl (nF f4))), (aR 5, .inl (ty 0, rm, .inl (nF f5))), (aC, .inl (ty 0, 8, .inl (nF cn)))] := hD
  refine lv_aload_n hx hb d_Plan_addPiece_60 rfl (lv_at hl 0 rfl) ?_
  refine va_get (D := G) (ci := 6) (v := .ref aQ) (C := R_Plan) (T := F_Plan) (N := 5) hx hb hts in_Plan hown hK hP 0 rfl rfl 0 (by decide) (hts _ fl_Plan_28) (fun _ h9 => h9) rfl d_Plan_addPiece_61 ?_
  refine lv_iconst (v := (nI 3)) hx hb d_Plan_addPiece_64 (by decide) ?_
  refine n_aaldA hx hb hK hP 1 5 rfl rfl (by omega) (by omega) (gq 3 (by omega)) d_Plan_addPiece_65 ?_
  refine lv_aload_n hx hb d_Plan_addPiece_66 rfl (lv_at hl 0 rfl) ?_
  refine va_get (D := G) (ci := 6) (v := .int (nI np)) (C := R_Plan) (T := F_Plan) (N := 5) hx hb hts in_Plan hown hK hP 0 rfl rfl 2 (by decide) (hts _ fl_Plan_15) (fun _ h9 => h9) rfl d_Plan_addPiece_67 ?_
  refine lv_iload hx hb d_Plan_addPiece_70 (lv_at hl 4 rfl) ?_
  refine n_iast hx hb hK hP hD hS 5 0 rfl rfl (by omega) (by omega) d_Plan_addPiece_72 (fun H locs hP hD hS => ?_)
  rw [upd_nF] at hP hD
  have hP : va_P G vwCl [(hQ, .inr (6, [.ref aQ, .ref aC, .int (nI np), .long (iL tot), .int (nI rm)])), (aQ, .inl (ty 5, 6, .inr (.inr (.inr (.inr fQ))))), (aR 0, .inl (ty 0, rm, .inl (nF (va_up f0 np x)))), (aR 1, .inl (ty 0, rm, .inl (nF (va_up f1 np y)))), (aR 2, .inl (ty 0, rm, .inl (nF (va_up f2 np dx)))), (aR 3, .inl (ty 0, rm, .inl (nF (va_up f3 np dy)))), (aR 4, .inl (ty 0, rm, .inl (nF f4))), (aR 5, .inl (ty 0, rm, .inl (nF f5))), (aC, .inl (ty 0, 8, .inl (nF cn)))] _ := hP
  have hD : va_D A [(hQ, .inr (6, [.ref aQ, .ref aC, .int (nI np), .long (iL tot), .int (nI rm)])), (aQ, .inl (ty 5, 6, .inr (.inr (.inr (.inr fQ))))), (aR 0, .inl (ty 0, rm, .inl (nF (va_up f0 np x)))), (aR 1, .inl (ty 0, rm, .inl (nF (va_up f1 np y)))), (aR 2, .inl (ty 0, rm, .inl (nF (va_up f2 np dx)))), (aR 3, .inl (ty 0, rm, .inl (nF (va_up f3 np dy)))), (aR 4, .inl (ty 0, rm, .inl (nF f4))), (aR 5, .inl (ty 0, rm, .inl (nF f5))), (aC, .inl (ty 0, 8, .inl (nF cn)))] := hD
  refine lv_aload_n hx hb d_Plan_addPiece_73 rfl (lv_at hl 0 rfl) ?_
  refine va_get (D := G) (ci := 6) (v := .ref aQ) (C := R_Plan) (T := F_Plan) (N := 5) hx hb hts in_Plan hown hK hP 0 rfl rfl 0 (by decide) (hts _ fl_Plan_28) (fun _ h9 => h9) rfl d_Plan_addPiece_74 ?_
  refine lv_iconst (v := (nI 4)) hx hb d_Plan_addPiece_77 (by decide) ?_
  refine n_aaldA hx hb hK hP 1 5 rfl rfl (by omega) (by omega) (gq 4 (by omega)) d_Plan_addPiece_78 ?_
  refine lv_aload_n hx hb d_Plan_addPiece_79 rfl (lv_at hl 0 rfl) ?_
  refine va_get (D := G) (ci := 6) (v := .int (nI np)) (C := R_Plan) (T := F_Plan) (N := 5) hx hb hts in_Plan hown hK hP 0 rfl rfl 2 (by decide) (hts _ fl_Plan_15) (fun _ h9 => h9) rfl d_Plan_addPiece_80 ?_
  refine lv_iload hx hb d_Plan_addPiece_83 (lv_at hl 5 rfl) ?_
  refine n_iast hx hb hK hP hD hS 6 0 rfl rfl (by omega) (by omega) d_Plan_addPiece_85 (fun H locs hP hD hS => ?_)
  rw [upd_nF] at hP hD
  have hP : va_P G vwCl [(hQ, .inr (6, [.ref aQ, .ref aC, .int (nI np), .long (iL tot), .int (nI rm)])), (aQ, .inl (ty 5, 6, .inr (.inr (.inr (.inr fQ))))), (aR 0, .inl (ty 0, rm, .inl (nF (va_up f0 np x)))), (aR 1, .inl (ty 0, rm, .inl (nF (va_up f1 np y)))), (aR 2, .inl (ty 0, rm, .inl (nF (va_up f2 np dx)))), (aR 3, .inl (ty 0, rm, .inl (nF (va_up f3 np dy)))), (aR 4, .inl (ty 0, rm, .inl (nF (va_up f4 np so)))), (aR 5, .inl (ty 0, rm, .inl (nF f5))), (aC, .inl (ty 0, 8, .inl (nF cn)))] _ := hP
  have hD : va_D A [(hQ, .inr (6, [.ref aQ, .ref aC, .int (nI np), .long (iL tot), .int (nI rm)])), (aQ, .inl (ty 5, 6, .inr (.inr (.inr (.inr fQ))))), (aR 0, .inl (ty 0, rm, .inl (nF (va_up f0 np x)))), (aR 1, .inl (ty 0, rm, .inl (nF (va_up f1 np y)))), (aR 2, .inl (ty 0, rm, .inl (nF (va_up f2 np dx)))), (aR 3, .inl (ty 0, rm, .inl (nF (va_up f3 np dy)))), (aR 4, .inl (ty 0, rm, .inl (nF (va_up f4 np so)))), (aR 5, .inl (ty 0, rm, .inl (nF f5))), (aC, .inl (ty 0, 8, .inl (nF cn)))] := hD
  refine lv_aload_n hx hb d_Plan_addPiece_86 rfl (lv_at hl 0 rfl) ?_
  refine va_get (D := G) (ci := 6) (v := .ref aQ) (C := R_Plan) (T := F_Plan) (N := 5) hx hb hts in_Plan hown hK hP 0 rfl rfl 0 (by decide) (hts _ fl_Plan_28) (fun _ h9 => h9) rfl d_Plan_addPiece_87 ?_
  refine lv_iconst (v := (nI 5)) hx hb d_Plan_addPiece_90 (by decide) ?_
  refine n_aaldA hx hb hK hP 1 5 rfl rfl (by omega) (by omega) (gq 5 (by omega)) d_Plan_addPiece_91 ?_
  refine lv_aload_n hx hb d_Plan_addPiece_92 rfl (lv_at hl 0 rfl) ?_
  refine va_get (D := G) (ci := 6) (v := .int (nI np)) (C := R_Plan) (T := F_Plan) (N := 5) hx hb hts in_Plan hown hK hP 0 rfl rfl 2 (by decide) (hts _ fl_Plan_15) (fun _ h9 => h9) rfl d_Plan_addPiece_93 ?_
  refine lv_iload hx hb d_Plan_addPiece_96 (lv_at hl 6 rfl) ?_
  refine n_iast hx hb hK hP hD hS 7 0 rfl rfl (by omega) (by omega) d_Plan_addPiece_98 (fun H locs hP hD hS => ?_)
  rw [upd_nF] at hP hD
  have hP : va_P G vwCl [(hQ, .inr (6, [.ref aQ, .ref aC, .int (nI np), .long (iL tot), .int (nI rm)])), (aQ, .inl (ty 5, 6, .inr (.inr (.inr (.inr fQ))))), (aR 0, .inl (ty 0, rm, .inl (nF (va_up f0 np x)))), (aR 1, .inl (ty 0, rm, .inl (nF (va_up f1 np y)))), (aR 2, .inl (ty 0, rm, .inl (nF (va_up f2 np dx)))), (aR 3, .inl (ty 0, rm, .inl (nF (va_up f3 np dy)))), (aR 4, .inl (ty 0, rm, .inl (nF (va_up f4 np so)))), (aR 5, .inl (ty 0, rm, .inl (nF (va_up f5 np va)))), (aC, .inl (ty 0, 8, .inl (nF cn)))] _ := hP
  have hD : va_D A [(hQ, .inr (6, [.ref aQ, .ref aC, .int (nI np), .long (iL tot), .int (nI rm)])), (aQ, .inl (ty 5, 6, .inr (.inr (.inr (.inr fQ))))), (aR 0, .inl (ty 0, rm, .inl (nF (va_up f0 np x)))), (aR 1, .inl (ty 0, rm, .inl (nF (va_up f1 np y)))), (aR 2, .inl (ty 0, rm, .inl (nF (va_up f2 np dx)))), (aR 3, .inl (ty 0, rm, .inl (nF (va_up f3 np dy)))), (aR 4, .inl (ty 0, rm, .inl (nF (va_up f4 np so)))), (aR 5, .inl (ty 0, rm, .inl (nF (va_up f5 np va)))), (aC, .inl (ty 0, 8, .inl (nF cn)))] := hD
  refine lv_aload_n hx hb d_Plan_addPiece_99 rfl (lv_at hl 0 rfl) ?_
  refine va_get (D := G) (ci := 6) (v := .ref aC) (C := R_Plan) (T := F_Plan) (N := 5) hx hb hts in_Plan hown hK hP 0 rfl rfl 1 (by decide) (hts _ fl_Plan_9) (fun _ h9 => h9) rfl d_Plan_addPiece_100 ?_
  refine lv_iload hx hb d_Plan_addPiece_103 (lv_at hl 5 rfl) ?_
  refine lv_dup2_11 hx hb d_Plan_addPiece_105 rfl rfl ?_
  refine n_iald hx hb hK hP 8 0 rfl rfl (by omega) (by omega) d_Plan_addPiece_106 ?_
  refine lv_iconst (v := (nI 1)) hx hb d_Plan_addPiece_107 (by decide) ?_
  refine n_iadd hx hb d_Plan_addPiece_108 ?_
  refine n_iast hx hb hK hP hD hS 8 0 rfl rfl (by omega) (by omega) d_Plan_addPiece_109 (fun H locs hP hD hS => ?_)
  rw [upd_nF] at hP hD
  have hP : va_P G vwCl [(hQ, .inr (6, [.ref aQ, .ref aC, .int (nI np), .long (iL tot), .int (nI rm)])), (aQ, .inl (ty 5, 6, .inr (.inr (.inr (.inr fQ))))), (aR 0, .inl (ty 0, rm, .inl (nF (va_up f0 np x)))), (aR 1, .inl (ty 0, rm, .inl (nF (va_up f1 np y)))), (aR 2, .inl (ty 0, rm, .inl (nF (va_up f2 np dx)))), (aR 3, .inl (ty 0, rm, .inl (nF (va_up f3 np dy)))), (aR 4, .inl (ty 0, rm, .inl (nF (va_up f4 np so)))), (aR 5, .inl (ty 0, rm, .inl (nF (va_up f5 np va)))), (aC, .inl (ty 0, 8, .inl (nF (va_up cn so ((cn so) + 1)))))] _ := hP
  have hD : va_D A [(hQ, .inr (6, [.ref aQ, .ref aC, .int (nI np), .long (iL tot), .int (nI rm)])), (aQ, .inl (ty 5, 6, .inr (.inr (.inr (.inr fQ))))), (aR 0, .inl (ty 0, rm, .inl (nF (va_up f0 np x)))), (aR 1, .inl (ty 0, rm, .inl (nF (va_up f1 np y)))), (aR 2, .inl (ty 0, rm, .inl (nF (va_up f2 np dx)))), (aR 3, .inl (ty 0, rm, .inl (nF (va_up f3 np dy)))), (aR 4, .inl (ty 0, rm, .inl (nF (va_up f4 np so)))), (aR 5, .inl (ty 0, rm, .inl (nF (va_up f5 np va)))), (aC, .inl (ty 0, 8, .inl (nF (va_up cn so ((cn so) + 1)))))] := hD
  refine lv_aload_n hx hb d_Plan_addPiece_110 rfl (lv_at hl 0 rfl) ?_
  refine lv_dup hx hb d_Plan_addPiece_111 rfl ?_
  refine va_get (D := G) (ci := 6) (v := .int (nI np)) (C := R_Plan) (T := F_Plan) (N := 5) hx hb hts in_Plan hown hK hP 0 rfl rfl 2 (by decide) (hts _ fl_Plan_15) (fun _ h9 => h9) rfl d_Plan_addPiece_112 ?_
  refine lv_iconst (v := (nI 1)) hx hb d_Plan_addPiece_115 (by decide) ?_
  refine n_iadd hx hb d_Plan_addPiece_116 ?_
  refine va_put (D := G) (ci := 6) (v := .int (nI (np + 1))) (ty := .int) (C := R_Plan) (T := F_Plan) (N := 5) hx hb hts in_Plan t_Plan t_Plan_ok n_Plan hown hK hP hD hS 0 rfl rfl 2 (by decide) (hts _ fl_Plan_15) (fun _ h9 => h9) rfl (by decide +kernel) rfl rfl (Nat.le_of_ble_eq_true rfl) d_Plan_addPiece_117 (fun H locs hP hD hS => ?_)
  have hP : va_P G vwCl [(hQ, .inr (6, [.ref aQ, .ref aC, .int (nI (np + 1)), .long (iL tot), .int (nI rm)])), (aQ, .inl (ty 5, 6, .inr (.inr (.inr (.inr fQ))))), (aR 0, .inl (ty 0, rm, .inl (nF (va_up f0 np x)))), (aR 1, .inl (ty 0, rm, .inl (nF (va_up f1 np y)))), (aR 2, .inl (ty 0, rm, .inl (nF (va_up f2 np dx)))), (aR 3, .inl (ty 0, rm, .inl (nF (va_up f3 np dy)))), (aR 4, .inl (ty 0, rm, .inl (nF (va_up f4 np so)))), (aR 5, .inl (ty 0, rm, .inl (nF (va_up f5 np va)))), (aC, .inl (ty 0, 8, .inl (nF (va_up cn so ((cn so) + 1)))))] _ := hP
  have hD : va_D A [(hQ, .inr (6, [.ref aQ, .ref aC, .int (nI (np + 1)), .long (iL tot), .int (nI rm)])), (aQ, .inl (ty 5, 6, .inr (.inr (.inr (.inr fQ))))), (aR 0, .inl (ty 0, rm, .inl (nF (va_up f0 np x)))), (aR 1, .inl (ty 0, rm, .inl (nF (va_up f1 np y)))), (aR 2, .inl (ty 0, rm, .inl (nF (va_up f2 np dx)))), (aR 3, .inl (ty 0, rm, .inl (nF (va_up f3 np dy)))), (aR 4, .inl (ty 0, rm, .inl (nF (va_up f4 np so)))), (aR 5, .inl (ty 0, rm, .inl (nF (va_up f5 np va)))), (aC, .inl (ty 0, 8, .inl (nF (va_up cn so ((cn so) + 1)))))] := hD
  refine lv_aload_n hx hb d_Plan_addPiece_120 rfl (lv_at hl 0 rfl) ?_
  refine lv_dup hx hb d_Plan_addPiece_121 rfl ?_
  refine va_get (D := G) (ci := 6) (v := .long (iL tot)) (C := R_Plan) (T := F_Plan) (N := 5) hx hb hts in_Plan hown hK hP 0 rfl rfl 3 (by decide) (hts _ fl_Plan_19) (fun _ h9 => h9) rfl d_Plan_addPiece_122 ?_
  refine lv_iload hx hb d_Plan_addPiece_125 (lv_at hl 6 rfl) ?_
  refine n_i2l hx hb (by omega) d_Plan_addPiece_127 ?_
  refine z_ladd hx hb d_Plan_addPiece_128 ?_
  refine va_put (D := G) (ci := 6) (v := .long (iL (tot + ((va : Nat) : Int)))) (ty := .long) (C := R_Plan) (T := F_Plan) (N := 5) hx hb hts in_Plan t_Plan t_Plan_ok n_Plan hown hK hP hD hS 0 rfl rfl 3 (by decide) (hts _ fl_Plan_19) (fun _ h9 => h9) rfl (by decide +kernel) rfl rfl (Nat.le_of_ble_eq_true rfl) d_Plan_addPiece_129 (fun H locs hP hD hS => ?_)
  have hP : va_P G vwCl [(hQ, .inr (6, [.ref aQ, .ref aC, .int (nI (np + 1)), .long (iL (tot + ((va : Nat) : Int))), .int (nI rm)])), (aQ, .inl (ty 5, 6, .inr (.inr (.inr (.inr fQ))))), (aR 0, .inl (ty 0, rm, .inl (nF (va_up f0 np x)))), (aR 1, .inl (ty 0, rm, .inl (nF (va_up f1 np y)))), (aR 2, .inl (ty 0, rm, .inl (nF (va_up f2 np dx)))), (aR 3, .inl (ty 0, rm, .inl (nF (va_up f3 np dy)))), (aR 4, .inl (ty 0, rm, .inl (nF (va_up f4 np so)))), (aR 5, .inl (ty 0, rm, .inl (nF (va_up f5 np va)))), (aC, .inl (ty 0, 8, .inl (nF (va_up cn so ((cn so) + 1)))))] _ := hP
  have hD : va_D A [(hQ, .inr (6, [.ref aQ, .ref aC, .int (nI (np + 1)), .long (iL (tot + ((va : Nat) : Int))), .int (nI rm)])), (aQ, .inl (ty 5, 6, .inr (.inr (.inr (.inr fQ))))), (aR 0, .inl (ty 0, rm, .inl (nF (va_up f0 np x)))), (aR 1, .inl (ty 0, rm, .inl (nF (va_up f1 np y)))), (aR 2, .inl (ty 0, rm, .inl (nF (va_up f2 np dx)))), (aR 3, .inl (ty 0, rm, .inl (nF (va_up f3 np dy)))), (aR 4, .inl (ty 0, rm, .inl (nF (va_up f4 np so)))), (aR 5, .inl (ty 0, rm, .inl (nF (va_up f5 np va)))), (aC, .inl (ty 0, 8, .inl (nF (va_up cn so ((cn so) + 1)))))] := hD
  exact W.vret hx hb hr (fun t9 ht hW => ⟨⟨(), rfl, trivial, by rw [ht]; exact hP, hD⟩, hS.F ht⟩) hS.2.2 d_Plan_addPiece_132
