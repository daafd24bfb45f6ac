theorem fl_PanelMaker_15 : Cond.fieldLink R_PanelMaker 15 "FaultRips$PanelMaker" "room" "I" ∈ TB := mem_TB 233 (by decide +kernel) (by decide +kernel)
theorem fl_PanelMaker_19 : Cond.fieldLink R_PanelMaker 19 "FaultRips$Plan" "size" "I" ∈ TB := mem_TB 182 (by decide +kernel) (by decide +kernel)
theorem fl_PanelMaker_28 : Cond.fieldLink R_PanelMaker 28 "FaultRips$Plan" "facts" "[[I" ∈ TB := mem_TB 175 (by decide +kernel) (by decide +kernel)
theorem fl_PanelMaker_9 : Cond.fieldLink R_PanelMaker 9 "FaultRips$PanelMaker" "fewest" "[I" ∈ TB := mem_TB 234 (by decide +kernel) (by decide +kernel)
theorem lk_PanelMaker_24 : Cond.methodLink R_PanelMaker 24 y_PanelMaker_fillFewest ∈ TB := mem_TB 823 (by decide +kernel) (by decide +kernel)
theorem lk_PanelMaker_32 : Cond.methodLink R_PanelMaker 32 y_PanelMaker_fillFrom ∈ TB := mem_TB 827 (by decide +kernel) (by decide +kernel)
theorem lm_PanelMaker_36 : Cond.methodLink R_PanelMaker 36 Lib.Math.min.name ∈ TB := mem_TB 831 (by decide +kernel) (by decide +kernel)

abbrev q_PanelMaker_fillFrom (G : va_G) (ty : Nat → ClassId) (hN : Nat) (rN : Nat) (aW : Nat) (lN : Nat) (i : Nat) (dz : Nat) (wz : Nat) (fe : Nat → Nat) (A : Nat → Prop) : Array Value → State → Outcome → State → Prop := va_Qv (fun (uu : (Nat → Nat)) => (∀ x, x ≤ wz → uu (i * 101 + x) = min (fe (i * 101 + 101 + x)) (if dz ≤ x then fe (i * 101 + 101 + (x - dz)) + 1 else 1000)) ∧ (∀ q, q < i * 101 ∨ i * 101 + wz < q → uu q = fe q)) (at_W G (fun (uu : (Nat → Nat)) => [(hN, .inr (5, [.int (nI rN), .ref aW])), (aW, .inl (ty 0, lN, .inl (nF uu)))]) A) A
set_option maxRecDepth 100000 in
set_option maxHeartbeats 4000000 in
theorem c_PanelMaker_fillFrom (l : Launch) (G : va_G) (ty : Nat → ClassId) (sz : Nat) (hN : Nat) (rN : Nat) (aW : Nat) (lN : Nat) (i : Nat) (dz : Nat) (wz : Nat) (fe : Nat → Nat) (g1 : wz ≤ 100) (g2 : i * 101 + 202 ≤ lN) (g3 : lN ≤ 30000) (g4 : ∀ x, x ≤ wz → fe (i * 101 + 101 + x) ≤ 1000) (g5 : dz ≤ 1000) : Met l y_PanelMaker_fillFrom ws_PanelMaker_fillFrom { frames := 1, cells := 0, slots := 0, locals := 21 } (va_Pc [.ref hN, .int (nI i), .int (nI dz), .int (nI wz)] (fun U => U.heap.size = sz ∧ va_P G vwCl [(hN, .inr (5, [.int (nI rN), .ref aW])), (aW, .inl (ty 0, lN, .inl (nF fe)))] U.heap ∧ KX G ty U ∧ va_D (fun _ => True) [(hN, .inr (5, [.int (nI rN), .ref aW])), (aW, .inl (ty 0, lN, .inl (nF fe)))])) (q_PanelMaker_fillFrom G ty hN rN aW lN i dz wz fe (va_A [(hN, .inr (5, [.int (nI rN), .ref aW])), (aW, .inl (ty 0, lN, .inl (nF fe)))] sz)) 0 0 (va_A [(hN, .inr (5, [.int (nI rN), .ref aW])), (aW, .inl (ty 0, lN, .inl (nF fe)))] sz) := by
  refine met_wr (y := y_PanelMaker_fillFrom) (maxL := 9) (sz := sz) (G := G) (ty := ty) (mc := 0) (ms := 0) (av := [.ref hN, .int (nI i), .int (nI dz), .int (nI wz)]) (W0 := [(hN, .inr (5, [.int (nI rN), .ref aW])), (aW, .inl (ty 0, lN, .inl (nF fe)))]) (fun A => q_PanelMaker_fillFrom G ty hN rN aW lN i dz wz fe A) R_PanelMaker (by decide) rfl rfl (Nat.le_of_ble_eq_true rfl) ?_
  intro p e s m below meth c ls A hx hb hr hml hown hts hlocks hin hA hP hX hD hS hl
  have hK := hX.1
  have hl : lv_has ls 9 [(0, .ref hN), (1, .int (nI i)), (2, .int (nI dz)), (3, .int (nI wz))] := hl
  refine lv_iload_n hx hb d_PanelMaker_fillFrom_0 rfl (lv_at hl 1 rfl) ?_
  refine lv_bipush (v := (nI 101)) hx hb d_PanelMaker_fillFrom_1 (by decide) ?_
  refine n_imul hx hb d_PanelMaker_fillFrom_3 ?_
  refine lv_istore (lv' := [(4, .int (nI (i * 101))), (0, .ref hN), (1, .int (nI i)), (2, .int (nI dz)), (3, .int (nI wz))]) hx hb d_PanelMaker_fillFrom_4 hl (by decide) rfl (fun ls hl => ?_)
  refine lv_iload hx hb d_PanelMaker_fillFrom_6 (lv_at hl 0 rfl) ?_
  refine lv_bipush (v := (nI 101)) hx hb d_PanelMaker_fillFrom_8 (by decide) ?_
  refine n_iadd hx hb d_PanelMaker_fillFrom_10 ?_
  refine lv_istore (lv' := [(5, .int (nI ((i * 101) + 101))), (4, .int (nI (i * 101))), (0, .ref hN), (1, .int (nI i)), (2, .int (nI dz)), (3, .int (nI wz))]) hx hb d_PanelMaker_fillFrom_11 hl (by decide) rfl (fun ls hl => ?_)
  refine lv_iconst (v := (nI 0)) hx hb d_PanelMaker_fillFrom_13 (by decide) ?_
  refine lv_istore (lv' := [(6, .int (nI 0)), (5, .int (nI ((i * 101) + 101))), (4, .int (nI (i * 101))), (0, .ref hN), (1, .int (nI i)), (2, .int (nI dz)), (3, .int (nI wz))]) hx hb d_PanelMaker_fillFrom_14 hl (by decide) rfl (fun ls hl => ?_)
  have L16 : ∀ (k9 : Nat) (x : Nat) (fe2 : Nat → Nat) (H : Heap) (locs : List Loc) (ls : Array Slot), (x ≤ wz + 1) → (∀ y, y < x → fe2 (i * 101 + y) = min (fe (i * 101 + 101 + y)) (if dz ≤ y then fe (i * 101 + 101 + (y - dz)) + 1 else 1000)) → (∀ q, q < i * 101 ∨ i * 101 + x ≤ q → fe2 q = fe q) → wz + 1 - x < k9 → va_P G vwCl [(hN, .inr (5, [.int (nI rN), .ref aW])), (aW, .inl (ty 0, lN, .inl (nF fe2)))] H → va_D A [(hN, .inr (5, [.int (nI rN), .ref aW])), (aW, .inl (ty 0, lN, .inl (nF fe2)))] → va_S A s.heap H locs → lv_has ls 9 [(0, .ref hN), (1, .int (nI i)), (2, .int (nI dz)), (3, .int (nI wz)), (4, .int (nI (i * 101))), (5, .int (nI ((i * 101) + 101))), (6, .int (nI x))] → W p l e { frames := 1, cells := 0, slots := 0, locals := 21 } s m [.ref hN, .int (nI i), .int (nI dz), .int (nI wz)].toArray below meth c H locs 0 0 (MQ below (q_PanelMaker_fillFrom G ty hN rN aW lN i dz wz fe A) [.ref hN, .int (nI i), .int (nI dz), .int (nI wz)].toArray s 0 0 A) (F0 m 16 ls []) := by
    intro k9
    induction k9 with
    | zero => intro x fe2 H locs ls hxw hA1 hB1 hk9; exact absurd hk9 (Nat.not_lt_zero _)
    | succ k9 ih16 =>
      intro x fe2 H locs ls hxw hA1 hB1 hk9 hP hD hS hl
      refine lv_iload hx hb d_PanelMaker_fillFrom_16 (lv_at hl 6 rfl) ?_
      refine lv_iload_n hx hb d_PanelMaker_fillFrom_18 rfl (lv_at hl 3 rfl) ?_
      refine n_icmp_gt (tgt := 85) hx hb (by omega) (by omega) d_PanelMaker_fillFrom_19 (by decide) (fun c19 => ?_) (fun c19 => ?_)
      · exact W.vret hx hb hr (fun t9 ht hW => ⟨⟨(fe2), rfl, ⟨fun x9 h => hA1 x9 (by omega), fun q h => hB1 q (by omega)⟩, by rw [ht]; exact hP, hD⟩, hS.F ht⟩) hS.2.2 d_PanelMaker_fillFrom_85
      · have hn := g4 x (by omega)
        have hbn := hB1 (i * 101 + 101 + x) (by omega)
        refine lv_aload_n hx hb d_PanelMaker_fillFrom_22 rfl (lv_at hl 0 rfl) ?_
        refine va_get (D := G) (ci := 5) (v := .ref aW) (C := R_PanelMaker) (T := F_PanelMaker) (N := 2) hx hb hts in_PanelMaker hown hK hP 0 rfl rfl 1 (by decide) (hts _ fl_PanelMaker_9) (fun _ h9 => h9) rfl d_PanelMaker_fillFrom_23 ?_
        refine lv_iload hx hb d_PanelMaker_fillFrom_26 (lv_at hl 5 rfl) ?_
        refine lv_iload hx hb d_PanelMaker_fillFrom_28 (lv_at hl 6 rfl) ?_
        refine n_iadd hx hb d_PanelMaker_fillFrom_30 ?_
        refine n_iald hx hb hK hP 1 0 rfl rfl (by omega) (by omega) d_PanelMaker_fillFrom_31 ?_
        refine top_i (show (nI (fe2 (((i * 101) + 101) + x))) = (nI (fe (i * 101 + 101 + x))) from congrArg nI hbn) ?_
        refine lv_istore (lv' := [(7, .int (nI (fe (i * 101 + 101 + x)))), (0, .ref hN), (1, .int (nI i)), (2, .int (nI dz)), (3, .int (nI wz)), (4, .int (nI (i * 101))), (5, .int (nI ((i * 101) + 101))), (6, .int (nI x))]) hx hb d_PanelMaker_fillFrom_32 hl (by decide) rfl (fun ls hl => ?_)
        refine lv_iload hx hb d_PanelMaker_fillFrom_34 (lv_at hl 7 rfl) ?_
        refine lv_iload_n hx hb d_PanelMaker_fillFrom_36 rfl (lv_at hl 3 rfl) ?_
        refine n_icmp_lt (tgt := 57) hx hb (by omega) (by omega) d_PanelMaker_fillFrom_37 (by decide) (fun c37 => ?_) (fun c37 => ?_)
        · refine lv_sipush (v := (nI 1000)) hx hb d_PanelMaker_fillFrom_57 (by decide) ?_
          refine top_i (show (nI 1000) = nI (if dz ≤ x then fe (i * 101 + 101 + (x - dz)) + 1 else 1000) from congrArg nI (by first | (rw [if_pos (by omega)]) | (rw [if_neg (by omega)]))) ?_
          have hif : (if dz ≤ x then fe (i * 101 + 101 + (x - dz)) + 1 else 1000) ≤ 1001 := by split <;> omega
          refine lv_istore (lv' := [(8, .int (nI (if dz ≤ x then fe (i * 101 + 101 + (x - dz)) + 1 else 1000))), (7, .int (nI (fe (i * 101 + 101 + x)))), (0, .ref hN), (1, .int (nI i)), (2, .int (nI dz)), (3, .int (nI wz)), (4, .int (nI (i * 101))), (5, .int (nI ((i * 101) + 101))), (6, .int (nI x))]) hx hb d_PanelMaker_fillFrom_60 hl (by decide) rfl (fun ls hl => ?_)
          refine lv_aload_n hx hb d_PanelMaker_fillFrom_62 rfl (lv_at hl 2 rfl) ?_
          refine va_get (D := G) (ci := 5) (v := .ref aW) (C := R_PanelMaker) (T := F_PanelMaker) (N := 2) hx hb hts in_PanelMaker hown hK hP 0 rfl rfl 1 (by decide) (hts _ fl_PanelMaker_9) (fun _ h9 => h9) rfl d_PanelMaker_fillFrom_63 ?_
          refine lv_iload hx hb d_PanelMaker_fillFrom_66 (lv_at hl 6 rfl) ?_
          refine lv_iload hx hb d_PanelMaker_fillFrom_68 (lv_at hl 8 rfl) ?_
          refine n_iadd hx hb d_PanelMaker_fillFrom_70 ?_
          refine lv_iload hx hb d_PanelMaker_fillFrom_71 (lv_at hl 1 rfl) ?_
          refine lv_iload hx hb d_PanelMaker_fillFrom_73 (lv_at hl 0 rfl) ?_
          refine n_mmin hx hb hml hl.1 hown hts lm_PanelMaker_36 ⟨Nat.le_of_ble_eq_true rfl, Nat.le_of_ble_eq_true rfl⟩ (Nat.le_of_ble_eq_true rfl) ⟨Nat.le_of_ble_eq_true rfl, Nat.le_of_ble_eq_true rfl⟩ (by omega) (by omega) d_PanelMaker_fillFrom_75 ?_
          refine n_iast hx hb hK hP hD hS 1 0 rfl rfl (by omega) (by omega) d_PanelMaker_fillFrom_78 (fun H locs hP hD hS => ?_)
          rw [upd_nF] at hP hD
          have hP : va_P G vwCl [(hN, .inr (5, [.int (nI rN), .ref aW])), (aW, .inl (ty 0, lN, .inl (nF (va_up fe2 ((i * 101) + x) (min (fe (i * 101 + 101 + x)) (if dz ≤ x then fe (i * 101 + 101 + (x - dz)) + 1 else 1000))))))] _ := hP
          have hD : va_D A [(hN, .inr (5, [.int (nI rN), .ref aW])), (aW, .inl (ty 0, lN, .inl (nF (va_up fe2 ((i * 101) + x) (min (fe (i * 101 + 101 + x)) (if dz ≤ x then fe (i * 101 + 101 + (x - dz)) + 1 else 1000))))))] := hD
          have hA2 : ∀ y, y < x + 1 → (va_up fe2 ((i * 101) + x) (min (fe (i * 101 + 101 + x)) (if dz ≤ x then fe (i * 101 + 101 + (x - dz)) + 1 else 1000))) (i * 101 + y) = min (fe (i * 101 + 101 + y)) (if dz ≤ y then fe (i * 101 + 101 + (y - dz)) + 1 else 1000) := fun y h => (Nat.lt_or_ge y x).elim (fun q => by rw [va_up_ne _ _ (by omega)]; exact hA1 y q) (fun q => by rw [show y = x by omega, va_up_self])
          have hB2 : ∀ q, q < i * 101 ∨ i * 101 + (x + 1) ≤ q → (va_up fe2 ((i * 101) + x) (min (fe (i * 101 + 101 + x)) (if dz ≤ x then fe (i * 101 + 101 + (x - dz)) + 1 else 1000))) q = fe q := fun q h => by rw [va_up_ne _ _ (by omega)]; exact hB1 q (by omega)
          refine lv_iinc (v := (nI (x + 1))) (lv' := [(6, .int (nI (x + 1))), (8, .int (nI (if dz ≤ x then fe (i * 101 + 101 + (x - dz)) + 1 else 1000))), (7, .int (nI (fe (i * 101 + 101 + x)))), (0, .ref hN), (1, .int (nI i)), (2, .int (nI dz)), (3, .int (nI wz)), (4, .int (nI (i * 101))), (5, .int (nI ((i * 101) + 101)))]) hx hb d_PanelMaker_fillFrom_79 hl (k := 8) rfl (nI_inc _ _ _ (by omega)) (by decide) rfl (fun ls hl => ?_)
          refine lv_goto (tgt := 16) hx hb d_PanelMaker_fillFrom_82 (by decide) ?_
          exact ih16 (x + 1) (va_up fe2 ((i * 101) + x) (min (fe (i * 101 + 101 + x)) (if dz ≤ x then fe (i * 101 + 101 + (x - dz)) + 1 else 1000))) _ _ _ (by omega) hA2 hB2 (by omega) hP hD hS (lv_sub hl [3, 4, 5, 6, 7, 8, 0] rfl)
        · have hb2 := hB1 (i * 101 + 101 + (x - dz)) (by omega)
          have hn2 := g4 (x - dz) (by omega)
          refine lv_aload_n hx hb d_PanelMaker_fillFrom_40 rfl (lv_at hl 1 rfl) ?_
          refine va_get (D := G) (ci := 5) (v := .ref aW) (C := R_PanelMaker) (T := F_PanelMaker) (N := 2) hx hb hts in_PanelMaker hown hK hP 0 rfl rfl 1 (by decide) (hts _ fl_PanelMaker_9) (fun _ h9 => h9) rfl d_PanelMaker_fillFrom_41 ?_
          refine lv_iload hx hb d_PanelMaker_fillFrom_44 (lv_at hl 6 rfl) ?_
          refine lv_iload hx hb d_PanelMaker_fillFrom_46 (lv_at hl 7 rfl) ?_
          refine n_iadd hx hb d_PanelMaker_fillFrom_48 ?_
          refine lv_iload_n hx hb d_PanelMaker_fillFrom_49 rfl (lv_at hl 3 rfl) ?_
          refine n_isub hx hb (by omega) d_PanelMaker_fillFrom_50 ?_
          refine top_i (show (nI ((((i * 101) + 101) + x) - dz)) = (nI (i * 101 + 101 + (x - dz))) from congrArg nI (by omega)) ?_
          refine n_iald hx hb hK hP 1 0 rfl rfl (by omega) (by omega) d_PanelMaker_fillFrom_51 ?_
          refine top_i (show (nI (fe2 (i * 101 + 101 + (x - dz)))) = (nI (fe (i * 101 + 101 + (x - dz)))) from congrArg nI hb2) ?_
          refine lv_iconst (v := (nI 1)) hx hb d_PanelMaker_fillFrom_52 (by decide) ?_
          refine n_iadd hx hb d_PanelMaker_fillFrom_53 ?_
          refine lv_goto (tgt := 60) hx hb d_PanelMaker_fillFrom_54 (by decide) ?_
          refine top_i (show (nI ((fe (i * 101 + 101 + (x - dz))) + 1)) = nI (if dz ≤ x then fe (i * 101 + 101 + (x - dz)) + 1 else 1000) from congrArg nI (by first | (rw [if_pos (by omega)]) | (rw [if_neg (by omega)]))) ?_
          have hif : (if dz ≤ x then fe (i * 101 + 101 + (x - dz)) + 1 else 1000) ≤ 1001 := by split <;> omega
          refine lv_istore (lv' := [(8, .int (nI (if dz ≤ x then fe (i * 101 + 101 + (x - dz)) + 1 else 1000))), (7, .int (nI (fe (i * 101 + 101 + x)))), (0, .ref hN), (1, .int (nI i)), (2, .int (nI dz)), (3, .int (nI wz)), (4, .int (nI (i * 101))), (5, .int (nI ((i * 101) + 101))), (6, .int (nI x))]) hx hb d_PanelMaker_fillFrom_60 hl (by decide) rfl (fun ls hl => ?_)
          refine lv_aload_n hx hb d_PanelMaker_fillFrom_62 rfl (lv_at hl 2 rfl) ?_
          refine va_get (D := G) (ci := 5) (v := .ref aW) (C := R_PanelMaker) (T := F_PanelMaker) (N := 2) hx hb hts in_PanelMaker hown hK hP 0 rfl rfl 1 (by decide) (hts _ fl_PanelMaker_9) (fun _ h9 => h9) rfl d_PanelMaker_fillFrom_63 ?_
          refine lv_iload hx hb d_PanelMaker_fillFrom_66 (lv_at hl 6 rfl) ?_
          refine lv_iload hx hb d_PanelMaker_fillFrom_68 (lv_at hl 8 rfl) ?_
          refine n_iadd hx hb d_PanelMaker_fillFrom_70 ?_
          refine lv_iload hx hb d_PanelMaker_fillFrom_71 (lv_at hl 1 rfl) ?_
          refine lv_iload hx hb d_PanelMaker_fillFrom_73 (lv_at hl 0 rfl) ?_
          refine n_mmin hx hb hml hl.1 hown hts lm_PanelMaker_36 ⟨Nat.le_of_ble_eq_true rfl, Nat.le_of_ble_eq_true rfl⟩ (Nat.le_of_ble_eq_true rfl) ⟨Nat.le_of_ble_eq_true rfl, Nat.le_of_ble_eq_true rfl⟩ (by omega) (by omega) d_PanelMaker_fillFrom_75 ?_
          refine n_iast hx hb hK hP hD hS 1 0 rfl rfl (by omega) (by omega) d_PanelMaker_fillFrom_78 (fun H locs hP hD hS => ?_)
          rw [upd_nF] at hP hD
          have hP : va_P G vwCl [(hN, .inr (5, [.int (nI rN), .ref aW])), (aW, .inl (ty 0, lN, .inl (nF (va_up fe2 ((i * 101) + x) (min (fe (i * 101 + 101 + x)) (if dz ≤ x then fe (i * 101 + 101 + (x - dz)) + 1 else 1000))))))] _ := hP
          have hD : va_D A [(hN, .inr (5, [.int (nI rN), .ref aW])), (aW, .inl (ty 0, lN, .inl (nF (va_up fe2 ((i * 101) + x) (min (fe (i * 101 + 101 + x)) (if dz ≤ x then fe (i * 101 + 101 + (x - dz)) + 1 else 1000))))))] := hD
          have hA2 : ∀ y, y < x + 1 → (va_up fe2 ((i * 101) + x) (min (fe (i * 101 + 101 + x)) (if dz ≤ x then fe (i * 101 + 101 + (x - dz)) + 1 else 1000))) (i * 101 + y) = min (fe (i * 101 + 101 + y)) (if dz ≤ y then fe (i * 101 + 101 + (y - dz)) + 1 else 1000) := fun y h => (Nat.lt_or_ge y x).elim (fun q => by rw [va_up_ne _ _ (by omega)]; exact hA1 y q) (fun q => by rw [show y = x by omega, va_up_self])
          have hB2 : ∀ q, q < i * 101 ∨ i * 101 + (x + 1) ≤ q → (va_up fe2 ((i * 101) + x) (min (fe (i * 101 + 101 + x)) (if dz ≤ x then fe (i * 101 + 101 + (x - dz)) + 1 else 1000))) q = fe q := fun q h => by rw [va_up_ne _ _ (by omega)]; exact hB1 q (by omega)
          refine lv_iinc (v := (nI (x + 1))) (lv' := [(6, .int (nI (x + 1))), (8, .int (nI (if dz ≤ x then fe (i * 101 + 101 + (x - dz)) + 1 else 1000))), (7, .int (nI (fe (i * 101 + 101 + x)))), (0, .ref hN), (1, .int (nI i)), (2, .int (nI dz)), (3, .int (nI wz)), (4, .int (nI (i * 101))), (5, .int (nI ((i * 101) + 101)))]) hx hb d_PanelMaker_fillFrom_79 hl (k := 8) rfl (nI_inc _ _ _ (by omega)) (by decide) rfl (fun ls hl => ?_)
          refine lv_goto (tgt := 16) hx hb d_PanelMaker_fillFrom_82 (by decide) ?_
          exact ih16 (x + 1) (va_up fe2 ((i * 101) + x) (min (fe (i * 101 + 101 + x)) (if dz ≤ x then fe (i * 101 + 101 + (x - dz)) + 1 else 1000))) _ _ _ (by omega) hA2 hB2 (by omega) hP hD hS (lv_sub hl [3, 4, 5, 6, 7, 8, 0] rfl)
  exact L16 (wz + 1 - 0 + 1) 0 fe _ _ _ (Nat.zero_le _) (fun y h => absurd h (by omega)) (fun q _ => rfl) (Nat.lt_succ_self _) hP hD hS (lv_sub hl [3, 4, 5, 6, 2, 1, 0] rfl)

abbrev q_PanelMaker_fillFewest (G : va_G) (ty : Nat → ClassId) (hN : Nat) (rN : Nat) (aW : Nat) (lN : Nat) (bN : Nat) (sN : Nat) (wz : Nat) (fe : Nat → Nat) (hQ : Nat) (aQ : Nat) (aC : Nat) (np : Nat) (rm : Nat) (tot : Int) (fQ : Nat → Option Nat) (aR : Nat → Nat) (f3 : Nat → Nat) (A : Nat → Prop) : Array Value → State → Outcome → State → Prop := va_Qv (fun (uu : Nat × (Nat → Nat)) => ∀ j, 0 ≤ j → j ≤ np → ∀ x, x ≤ wz → uu.2 (j * 101 + x) = fwD f3 np (np - j) x) (at_W G (fun (uu : Nat × (Nat → Nat)) => [(hN, .inr (5, [.int (nI rN), .ref uu.1])), (uu.1, .inl (ty 0, (rN + 1) * 101, .inl (nF uu.2))), (hQ, .inr (6, [.ref aQ, .ref aC, .int (nI np), .long (iL tot), .int (nI rm)])), (aQ, .inl (ty 5, 6, .inr (.inr (.inr (.inr fQ))))), (aR 3, .inl (ty 0, rm, .inl (nF f3)))]) A) A
set_option maxRecDepth 100000 in
set_option maxHeartbeats 4000000 in
theorem c_PanelMaker_fillFewest (l : Launch) (G : va_G) (ty : Nat → ClassId) (sz : Nat) (hN : Nat) (rN : Nat) (aW : Nat) (lN : Nat) (bN : Nat) (sN : Nat) (wz : Nat) (fe : Nat → Nat) (hQ : Nat) (aQ : Nat) (aC : Nat) (np : Nat) (rm : Nat) (tot : Int) (fQ : Nat → Option Nat) (aR : Nat → Nat) (f3 : Nat → Nat) (gq : ∀ i, i < 6 → fQ i = some (aR i)) (g1 : wz ≤ 100) (gnp : np ≤ rN) (grN : rN ≤ 240) (grm : rm = rN) (gd : ∀ k, k < np → 1 ≤ f3 k ∧ f3 k ≤ 10) (hlN : (lN = (rN + 1) * 101 ∧ bN = 0 ∧ sN = 0) ∨ (lN = 0 ∧ bN = 1 ∧ sN = (rN + 1) * 101)) : Met l y_PanelMaker_fillFewest ws_PanelMaker_fillFewest { frames := 2, cells := bN, slots := sN, locals := 49 } (va_Pc [.ref hN, .ref hQ, .int (nI wz)] (fun U => U.heap.size = sz ∧ va_P G vwCl [(hN, .inr (5, [.int (nI rN), .ref aW])), (aW, .inl (ty 0, lN, .inl (nF fe))), (hQ, .inr (6, [.ref aQ, .ref aC, .int (nI np), .long (iL tot), .int (nI rm)])), (aQ, .inl (ty 5, 6, .inr (.inr (.inr (.inr fQ))))), (aR 3, .inl (ty 0, rm, .inl (nF f3)))] U.heap ∧ KX G ty U ∧ va_D (fun _ => True) [(hN, .inr (5, [.int (nI rN), .ref aW])), (aW, .inl (ty 0, lN, .inl (nF fe))), (hQ, .inr (6, [.ref aQ, .ref aC, .int (nI np), .long (iL tot), .int (nI rm)])), (aQ, .inl (ty 5, 6, .inr (.inr (.inr (.inr fQ))))), (aR 3, .inl (ty 0, rm, .inl (nF f3)))])) (q_PanelMaker_fillFewest G ty hN rN aW lN bN sN wz fe hQ aQ aC np rm tot fQ aR f3 (va_A [(hN, .inr (5, [.int (nI rN), .ref aW])), (aW, .inl (ty 0, lN, .inl (nF fe))), (hQ, .inr (6, [.ref aQ, .ref aC, .int (nI np), .long (iL tot), .int (nI rm)])), (aQ, .inl (ty 5, 6, .inr (.inr (.inr (.inr fQ))))), (aR 3, .inl (ty 0, rm, .inl (nF f3)))] sz)) bN sN (va_A [(hN, .inr (5, [.int (nI rN), .ref aW])), (aW, .inl (ty 0, lN, .inl (nF fe))), (hQ, .inr (6, [.ref aQ, .ref aC, .int (nI np), .long (iL tot), .int (nI rm)])), (aQ, .inl (ty 5, 6, .inr (.inr (.inr (.inr fQ))))), (aR 3, .inl (ty 0, rm, .inl (nF f3)))] sz) := by
  refine met_wr (y := y_PanelMaker_fillFewest) (maxL := 5) (sz := sz) (G := G) (ty := ty) (mc := bN) (ms := sN) (av := [.ref hN, .ref hQ, .int (nI wz)]) (W0 := [(hN, .inr (5, [.int (nI rN), .ref aW])), (aW, .inl (ty 0, lN, .inl (nF fe))), (hQ, .inr (6, [.ref aQ, .ref aC, .int (nI np), .long (iL tot), .int (nI rm)])), (aQ, .inl (ty 5, 6, .inr (.inr (.inr (.inr fQ))))), (aR 3, .inl (ty 0, rm, .inl (nF f3)))]) (fun A => q_PanelMaker_fillFewest G ty hN rN aW lN bN sN wz fe hQ aQ aC np rm tot fQ aR f3 A) R_PanelMaker (by decide) rfl rfl (Nat.le_of_ble_eq_true rfl) ?_
  intro p e s m below meth c ls A hx hb hr hml hown hts hlocks hin hA hP hX hD hS hl
  have hK := hX.1
  have hl : lv_has ls 5 [(0, .ref hN), (1, .ref hQ), (2, .int (nI wz))] := hl
  refine lv_aload_n hx hb d_PanelMaker_fillFewest_0 rfl (lv_at hl 0 rfl) ?_
  refine va_get (D := G) (ci := 5) (v := .ref aW) (C := R_PanelMaker) (T := F_PanelMaker) (N := 2) hx hb hts in_PanelMaker hown hK hP 0 rfl rfl 1 (by decide) (hts _ fl_PanelMaker_9) (fun _ h9 => h9) rfl d_PanelMaker_fillFewest_1 ?_
  refine n_alen hx hb hK hP 1 0 rfl rfl d_PanelMaker_fillFewest_4 ?_
  refine lv_aload_n hx hb d_PanelMaker_fillFewest_5 rfl (lv_at hl 0 rfl) ?_
  refine va_get (D := G) (ci := 5) (v := .int (nI rN)) (C := R_PanelMaker) (T := F_PanelMaker) (N := 2) hx hb hts in_PanelMaker hown hK hP 0 rfl rfl 0 (by decide) (hts _ fl_PanelMaker_15) (fun _ h9 => h9) rfl d_PanelMaker_fillFewest_6 ?_
  refine lv_iconst (v := (nI 1)) hx hb d_PanelMaker_fillFewest_9 (by decide) ?_
  refine n_iadd hx hb d_PanelMaker_fillFewest_10 ?_
  refine lv_bipush (v := (nI 101)) hx hb d_PanelMaker_fillFewest_11 (by decide) ?_
  refine n_imul hx hb d_PanelMaker_fillFewest_13 ?_
  refine n_icmp_eq (tgt := 32) hx hb (by omega) (by omega) d_PanelMaker_fillFewest_14 (by decide) (fun c14 => ?_) (fun c14 => ?_)
  · refine lv_aload_n hx hb d_PanelMaker_fillFewest_32 rfl (lv_at hl 1 rfl) ?_
    refine va_get (D := G) (ci := 6) (v := .int (nI np)) (C := R_Plan) (T := F_Plan) (N := 5) hx hb hts in_Plan hown hK hP 2 rfl rfl 2 (by decide) (hts _ fl_PanelMaker_19) (fun _ h9 => h9) rfl d_PanelMaker_fillFewest_33 ?_
    refine lv_bipush (v := (nI 101)) hx hb d_PanelMaker_fillFewest_36 (by decide) ?_
    refine n_imul hx hb d_PanelMaker_fillFewest_38 ?_
    refine lv_istore_n (lv' := [(3, .int (nI (np * 101))), (0, .ref hN), (1, .ref hQ), (2, .int (nI wz))]) hx hb d_PanelMaker_fillFewest_39 rfl hl (by decide) rfl (fun ls hl => ?_)
    have hol : lN = (rN + 1) * 101 ∧ bN = 0 ∧ sN = 0 := by omega
    have hP : va_P G vwCl [(hN, .inr (5, [.int (nI rN), .ref aW])), (aW, .inl (ty 0, (rN + 1) * 101, .inl (nF fe))), (hQ, .inr (6, [.ref aQ, .ref aC, .int (nI np), .long (iL tot), .int (nI rm)])), (aQ, .inl (ty 5, 6, .inr (.inr (.inr (.inr fQ))))), (aR 3, .inl (ty 0, rm, .inl (nF f3)))] s.heap := by rw [hol.1] at hP; exact hP
    have hD : va_D A [(hN, .inr (5, [.int (nI rN), .ref aW])), (aW, .inl (ty 0, (rN + 1) * 101, .inl (nF fe))), (hQ, .inr (6, [.ref aQ, .ref aC, .int (nI np), .long (iL tot), .int (nI rm)])), (aQ, .inl (ty 5, 6, .inr (.inr (.inr (.inr fQ))))), (aR 3, .inl (ty 0, rm, .inl (nF f3)))] := by rw [hol.1] at hD; exact hD
    refine lv_aload_n hx hb d_PanelMaker_fillFewest_40 rfl (lv_at hl 1 rfl) ?_
    refine va_get (D := G) (ci := 5) (v := .ref aW) (C := R_PanelMaker) (T := F_PanelMaker) (N := 2) hx hb hts in_PanelMaker hown hK hP 0 rfl rfl 1 (by decide) (hts _ fl_PanelMaker_9) (fun _ h9 => h9) rfl d_PanelMaker_fillFewest_41 ?_
    refine lv_iload_n hx hb d_PanelMaker_fillFewest_44 rfl (lv_at hl 0 rfl) ?_
    refine lv_iconst (v := (nI 0)) hx hb d_PanelMaker_fillFewest_45 (by decide) ?_
    refine n_iast hx hb hK hP hD hS 1 0 rfl rfl (by omega) (by omega) d_PanelMaker_fillFewest_46 (fun H locs hP hD hS => ?_)
    rw [upd_nF] at hP hD
    have hP : va_P G vwCl [(hN, .inr (5, [.int (nI rN), .ref aW])), (aW, .inl (ty 0, (rN + 1) * 101, .inl (nF (va_up fe (np * 101) 0)))), (hQ, .inr (6, [.ref aQ, .ref aC, .int (nI np), .long (iL tot), .int (nI rm)])), (aQ, .inl (ty 5, 6, .inr (.inr (.inr (.inr fQ))))), (aR 3, .inl (ty 0, rm, .inl (nF f3)))] _ := hP
    have hD : va_D A [(hN, .inr (5, [.int (nI rN), .ref aW])), (aW, .inl (ty 0, (rN + 1) * 101, .inl (nF (va_up fe (np * 101) 0)))), (hQ, .inr (6, [.ref aQ, .ref aC, .int (nI np), .long (iL tot), .int (nI rm)])), (aQ, .inl (ty 5, 6, .inr (.inr (.inr (.inr fQ))))), (aR 3, .inl (ty 0, rm, .inl (nF f3)))] := hD
    refine lv_iconst (v := (nI 1)) hx hb d_PanelMaker_fillFewest_47 (by decide) ?_
    refine lv_istore (lv' := [(4, .int (nI 1)), (3, .int (nI (np * 101))), (0, .ref hN), (1, .ref hQ), (2, .int (nI wz))]) hx hb d_PanelMaker_fillFewest_48 hl (by decide) rfl (fun ls hl => ?_)
    have L50 : ∀ (k9 : Nat) (x : Nat) (fe2 : Nat → Nat) (H : Heap) (locs : List Loc) (ls : Array Slot), (1 ≤ x ∧ x ≤ wz + 1) → (∀ y, y < x → fe2 (np * 101 + y) = fwD f3 np 0 y) → wz + 1 - x < k9 → va_P G vwCl [(hN, .inr (5, [.int (nI rN), .ref aW])), (aW, .inl (ty 0, (rN + 1) * 101, .inl (nF fe2))), (hQ, .inr (6, [.ref aQ, .ref aC, .int (nI np), .long (iL tot), .int (nI rm)])), (aQ, .inl (ty 5, 6, .inr (.inr (.inr (.inr fQ))))), (aR 3, .inl (ty 0, rm, .inl (nF f3)))] H → va_D A [(hN, .inr (5, [.int (nI rN), .ref aW])), (aW, .inl (ty 0, (rN + 1) * 101, .inl (nF fe2))), (hQ, .inr (6, [.ref aQ, .ref aC, .int (nI np), .long (iL tot), .int (nI rm)])), (aQ, .inl (ty 5, 6, .inr (.inr (.inr (.inr fQ))))), (aR 3, .inl (ty 0, rm, .inl (nF f3)))] → va_S A s.heap H locs → lv_has ls 5 [(0, .ref hN), (1, .ref hQ), (2, .int (nI wz)), (3, .int (nI (np * 101))), (4, .int (nI x))] → W p l e { frames := 2, cells := bN, slots := sN, locals := 49 } s m [.ref hN, .ref hQ, .int (nI wz)].toArray below meth c H locs 0 0 (MQ below (q_PanelMaker_fillFewest G ty hN rN aW lN bN sN wz fe hQ aQ aC np rm tot fQ aR f3 A) [.ref hN, .ref hQ, .int (nI wz)].toArray s bN sN A) (F0 m 50 ls []) := by
      intro k9
      induction k9 with
      | zero => intro x fe2 H locs ls hxw hA1 hk9; exact absurd hk9 (Nat.not_lt_zero _)
      | succ k9 ih50 =>
        intro x fe2 H locs ls hxw hA1 hk9 hP hD hS hl
        refine lv_iload hx hb d_PanelMaker_fillFewest_50 (lv_at hl 4 rfl) ?_
        refine lv_iload_n hx hb d_PanelMaker_fillFewest_52 rfl (lv_at hl 2 rfl) ?_
        refine n_icmp_gt (tgt := 74) hx hb (by omega) (by omega) d_PanelMaker_fillFewest_53 (by decide) (fun c53 => ?_) (fun c53 => ?_)
        · refine lv_aload_n hx hb d_PanelMaker_fillFewest_74 rfl (lv_at hl 1 rfl) ?_
          refine va_get (D := G) (ci := 6) (v := .int (nI np)) (C := R_Plan) (T := F_Plan) (N := 5) hx hb hts in_Plan hown hK hP 2 rfl rfl 2 (by decide) (hts _ fl_PanelMaker_19) (fun _ h9 => h9) rfl d_PanelMaker_fillFewest_75 ?_
          refine lv_iconst (v := (nI 1)) hx hb d_PanelMaker_fillFewest_78 (by decide) ?_
          refine nzz_isub hx hb d_PanelMaker_fillFewest_79 ?_
          refine lv_istore (lv' := [(4, .int (iI ((np : Nat) - ((1 : Nat) : Int)))), (0, .ref hN), (1, .ref hQ), (2, .int (nI wz)), (3, .int (nI (np * 101)))]) hx hb d_PanelMaker_fillFewest_80 hl (by decide) rfl (fun ls hl => ?_)
          have L82 : ∀ (k9 : Nat) (i : Nat) (fe2 : Nat → Nat) (H : Heap) (locs : List Loc) (ls : Array Slot), (i ≤ np) → (∀ j, i ≤ j → j ≤ np → ∀ x, x ≤ wz → fe2 (j * 101 + x) = fwD f3 np (np - j) x) → i < k9 → va_P G vwCl [(hN, .inr (5, [.int (nI rN), .ref aW])), (aW, .inl (ty 0, (rN + 1) * 101, .inl (nF fe2))), (hQ, .inr (6, [.ref aQ, .ref aC, .int (nI np), .long (iL tot), .int (nI rm)])), (aQ, .inl (ty 5, 6, .inr (.inr (.inr (.inr fQ))))), (aR 3, .inl (ty 0, rm, .inl (nF f3)))] H → va_D A [(hN, .inr (5, [.int (nI rN), .ref aW])), (aW, .inl (ty 0, (rN + 1) * 101, .inl (nF fe2))), (hQ, .inr (6, [.ref aQ, .ref aC, .int (nI np), .long (iL tot), .int (nI rm)])), (aQ, .inl (ty 5, 6, .inr (.inr (.inr (.inr fQ))))), (aR 3, .inl (ty 0, rm, .inl (nF f3)))] → va_S A s.heap H locs → lv_has ls 5 [(0, .ref hN), (1, .ref hQ), (2, .int (nI wz)), (4, .int (iI (((i : Nat) : Int) - ((1 : Nat) : Int))))] → W p l e { frames := 2, cells := bN, slots := sN, locals := 49 } s m [.ref hN, .ref hQ, .int (nI wz)].toArray below meth c H locs 0 0 (MQ below (q_PanelMaker_fillFewest G ty hN rN aW lN bN sN wz fe hQ aQ aC np rm tot fQ aR f3 A) [.ref hN, .ref hQ, .int (nI wz)].toArray s bN sN A) (F0 m 82 ls []) := by
            intro k9
            induction k9 with
            | zero => intro i fe2 H locs ls hi hA2 hk9; exact absurd hk9 (Nat.not_lt_zero _)
            | succ k9 ih82 =>
              intro i fe2 H locs ls hi hA2 hk9 hP hD hS hl
              refine lv_iload hx hb d_PanelMaker_fillFewest_82 (lv_at hl 3 rfl) ?_
              refine z_if_lt (tgt := 109) hx hb (by omega) d_PanelMaker_fillFewest_84 (by decide) (fun c84 => ?_) (fun c84 => ?_)
              · refine W.widen (k := bN) (n := sN) (by omega) (by omega) ?_
                exact W.vret hx hb hr (fun t9 ht hW => ⟨⟨(aW, fe2), rfl, by rw [show i = 0 by omega] at hA2; exact hA2, by rw [ht]; exact hP, hD⟩, hS.F ht⟩) hS.2.2 d_PanelMaker_fillFewest_109
              · obtain ⟨m_, rfl⟩ : ∃ m_, i = m_ + 1 := ⟨i - 1, by omega⟩
                have hl : lv_has ls 5 [(0, .ref hN), (1, .ref hQ), (2, .int (nI wz)), (4, .int (nI m_))] := by rw [show (nI m_) = (iI (((m_ + 1 : Nat) : Int) - ((1 : Nat) : Int))) from by rw [nI_iI]; congr 1; omega]; exact hl
                have hdm := gd m_ (by omega)
                refine lv_aload_n hx hb d_PanelMaker_fillFewest_87 rfl (lv_at hl 0 rfl) ?_
                refine lv_iload hx hb d_PanelMaker_fillFewest_88 (lv_at hl 3 rfl) ?_
                refine lv_aload_n hx hb d_PanelMaker_fillFewest_90 rfl (lv_at hl 1 rfl) ?_
                refine va_get (D := G) (ci := 6) (v := .ref aQ) (C := R_Plan) (T := F_Plan) (N := 5) hx hb hts in_Plan hown hK hP 2 rfl rfl 0 (by decide) (hts _ fl_PanelMaker_28) (fun _ h9 => h9) rfl d_PanelMaker_fillFewest_91 ?_
                refine lv_iconst (v := (nI 3)) hx hb d_PanelMaker_fillFewest_94 (by decide) ?_
                refine n_aaldA hx hb hK hP 3 5 rfl rfl (by omega) (by omega) (gq 3 (by omega)) d_PanelMaker_fillFewest_95 ?_
                refine lv_iload hx hb d_PanelMaker_fillFewest_96 (lv_at hl 3 rfl) ?_
                refine n_iald hx hb hK hP 4 0 rfl rfl (by omega) (by omega) d_PanelMaker_fillFewest_98 ?_
                refine lv_iload_n hx hb d_PanelMaker_fillFewest_99 rfl (lv_at hl 2 rfl) ?_
                refine call_wr_v (Wc := [(hN, .inr (5, [.int (nI rN), .ref aW])), (aW, .inl (ty 0, ((rN + 1) * 101), .inl (nF fe2)))]) (Wr := [(hQ, .inr (6, [.ref aQ, .ref aC, .int (nI np), .long (iL tot), .int (nI rm)])), (aQ, .inl (ty 5, 6, .inr (.inr (.inr (.inr fQ))))), (aR 3, .inl (ty 0, rm, .inl (nF f3)))]) (va_runV (As := [.int (nI m_), .int (nI (f3 m_)), .int (nI wz)]) (rest := []) ⟨hx, hb, hml, hown, hts⟩ (c_PanelMaker_fillFrom l G ty _ hN rN aW ((rN + 1) * 101) m_ (f3 m_) wz fe2 (by omega) (by omega) (by omega) (fun x hx => by rw [show m_ * 101 + 101 + x = (m_ + 1) * 101 + x by omega, hA2 (m_ + 1) (Nat.le_refl _) (by omega) x hx]; exact fwD_le _ _ _ _) (by omega)) ⟨callB_of 3 hts (gd_TB cd_PanelMaker_fillFrom) rfl rfl rfl (hts _ ini_PanelMaker) (hts _ lk_PanelMaker_32) hd_PanelMaker_fillFrom ⟨Nat.le_of_ble_eq_true rfl, Nat.le_of_ble_eq_true rfl⟩, hts _ im_PanelMaker_fillFrom, hts _ sl_PanelMaker_fillFrom⟩ (preV_wr (hP.sub (ws' := [(hN, .inr (5, [.int (nI rN), .ref aW])), (aW, .inl (ty 0, ((rN + 1) * 101), .inl (nF fe2)))]) [0, 1] rfl) hX (hD.sub (ws' := [(hN, .inr (5, [.int (nI rN), .ref aW])), (aW, .inl (ty 0, ((rN + 1) * 101), .inl (nF fe2)))]) [0, 1] (by decide) rfl) 0 rfl rfl) rfl rfl hl.1 rfl (lv_room (Nat.le_of_ble_eq_true rfl)) d_PanelMaker_fillFewest_100 ⟨show 0 + 0 ≤ bN by omega, show 0 + 0 ≤ sN by omega⟩) hP hD hS hA [0, 1] [2, 3, 4] rfl rfl (by decide) (by decide) (fun u9 H locs hw2 hP hD hS => ?_)
                obtain ⟨fe3, rfl⟩ : ∃ z, z = u9 := ⟨_, rfl⟩
                have hw2 : (∀ x, x ≤ wz → fe3 (m_ * 101 + x) = min (fe2 (m_ * 101 + 101 + x)) (if (f3 m_) ≤ x then fe2 (m_ * 101 + 101 + (x - (f3 m_))) + 1 else 1000)) ∧ (∀ q, q < m_ * 101 ∨ m_ * 101 + wz < q → fe3 q = fe2 q) := hw2
                have hP : va_P G vwCl [(hQ, .inr (6, [.ref aQ, .ref aC, .int (nI np), .long (iL tot), .int (nI rm)])), (aQ, .inl (ty 5, 6, .inr (.inr (.inr (.inr fQ))))), (aR 3, .inl (ty 0, rm, .inl (nF f3))), (hN, .inr (5, [.int (nI rN), .ref aW])), (aW, .inl (ty 0, ((rN + 1) * 101), .inl (nF fe3)))] _ := hP
                have hD : va_D A [(hQ, .inr (6, [.ref aQ, .ref aC, .int (nI np), .long (iL tot), .int (nI rm)])), (aQ, .inl (ty 5, 6, .inr (.inr (.inr (.inr fQ))))), (aR 3, .inl (ty 0, rm, .inl (nF f3))), (hN, .inr (5, [.int (nI rN), .ref aW])), (aW, .inl (ty 0, ((rN + 1) * 101), .inl (nF fe3)))] := hD
                obtain ⟨hf1, hf2⟩ := hw2
                have hA3 : ∀ j, m_ ≤ j → j ≤ np → ∀ x, x ≤ wz → fe3 (j * 101 + x) = fwD f3 np (np - j) x := fun j h1 h2 x hx => (Nat.lt_or_ge m_ j).elim (fun q => by rw [hf2 _ (by omega)]; exact hA2 j q h2 x hx) (fun q => by have ej : j = m_ := (by omega); rw [ej, hf1 x hx]; obtain ⟨d, ed⟩ : ∃ d, d = np - (m_ + 1) := ⟨_, rfl⟩; rw [show np - m_ = d + 1 by omega, fwD_s, show np - (d + 1) = m_ by omega]; have h8 := hA2 (m_ + 1) (Nat.le_refl _) (by omega) x hx; rw [← ed, show (m_ + 1) * 101 + x = m_ * 101 + 101 + x by omega] at h8; rw [h8]; by_cases z : f3 m_ ≤ x; exact (by have h7 := hA2 (m_ + 1) (Nat.le_refl _) (by omega) (x - f3 m_) (by omega); rw [← ed, show (m_ + 1) * 101 + (x - f3 m_) = m_ * 101 + 101 + (x - f3 m_) by omega] at h7; rw [if_pos z, if_pos z, h7]); exact (by rw [if_neg z, if_neg z]))
                refine lv_iinc (v := (iI (((m_ : Nat) : Int) - ((1 : Nat) : Int)))) (lv' := [(4, .int (iI (((m_ : Nat) : Int) - ((1 : Nat) : Int)))), (0, .ref hN), (1, .ref hQ), (2, .int (nI wz))]) hx hb d_PanelMaker_fillFewest_103 hl (k := 3) rfl (by rw [nI_iI]; exact iI_add _ _) (by decide) rfl (fun ls hl => ?_)
                refine lv_goto (tgt := 82) hx hb d_PanelMaker_fillFewest_106 (by decide) ?_
                have hP : va_P G vwCl [(hN, .inr (5, [.int (nI rN), .ref aW])), (aW, .inl (ty 0, ((rN + 1) * 101), .inl (nF fe3))), (hQ, .inr (6, [.ref aQ, .ref aC, .int (nI np), .long (iL tot), .int (nI rm)])), (aQ, .inl (ty 5, 6, .inr (.inr (.inr (.inr fQ))))), (aR 3, .inl (ty 0, rm, .inl (nF f3)))] _ := hP.sub [3, 4, 0, 1, 2] rfl
                have hD : va_D A [(hN, .inr (5, [.int (nI rN), .ref aW])), (aW, .inl (ty 0, ((rN + 1) * 101), .inl (nF fe3))), (hQ, .inr (6, [.ref aQ, .ref aC, .int (nI np), .long (iL tot), .int (nI rm)])), (aQ, .inl (ty 5, 6, .inr (.inr (.inr (.inr fQ))))), (aR 3, .inl (ty 0, rm, .inl (nF f3)))] := hD.sub [3, 4, 0, 1, 2] (by decide) rfl
                exact ih82 m_ fe3 _ _ _ (by omega) hA3 (by omega) hP hD hS (lv_sub hl [1, 2, 3, 0] rfl)
          exact L82 (np + 1) np fe2 _ _ _ (Nat.le_refl _) (fun j h1 h2 y hy => by rw [show j = np by omega, Nat.sub_self]; exact hA1 y (by omega)) (Nat.lt_succ_self _) hP hD hS (lv_sub hl [1, 2, 3, 0] rfl)
        · refine lv_aload_n hx hb d_PanelMaker_fillFewest_56 rfl (lv_at hl 0 rfl) ?_
          refine va_get (D := G) (ci := 5) (v := .ref aW) (C := R_PanelMaker) (T := F_PanelMaker) (N := 2) hx hb hts in_PanelMaker hown hK hP 0 rfl rfl 1 (by decide) (hts _ fl_PanelMaker_9) (fun _ h9 => h9) rfl d_PanelMaker_fillFewest_57 ?_
          refine lv_iload_n hx hb d_PanelMaker_fillFewest_60 rfl (lv_at hl 3 rfl) ?_
          refine lv_iload hx hb d_PanelMaker_fillFewest_61 (lv_at hl 4 rfl) ?_
          refine n_iadd hx hb d_PanelMaker_fillFewest_63 ?_
          refine lv_sipush (v := (nI 1000)) hx hb d_PanelMaker_fillFewest_64 (by decide) ?_
          refine n_iast hx hb hK hP hD hS 1 0 rfl rfl (by omega) (by omega) d_PanelMaker_fillFewest_67 (fun H locs hP hD hS => ?_)
          rw [upd_nF] at hP hD
          have hP : va_P G vwCl [(hN, .inr (5, [.int (nI rN), .ref aW])), (aW, .inl (ty 0, (rN + 1) * 101, .inl (nF (va_up fe2 ((np * 101) + x) 1000)))), (hQ, .inr (6, [.ref aQ, .ref aC, .int (nI np), .long (iL tot), .int (nI rm)])), (aQ, .inl (ty 5, 6, .inr (.inr (.inr (.inr fQ))))), (aR 3, .inl (ty 0, rm, .inl (nF f3)))] _ := hP
          have hD : va_D A [(hN, .inr (5, [.int (nI rN), .ref aW])), (aW, .inl (ty 0, (rN + 1) * 101, .inl (nF (va_up fe2 ((np * 101) + x) 1000)))), (hQ, .inr (6, [.ref aQ, .ref aC, .int (nI np), .long (iL tot), .int (nI rm)])), (aQ, .inl (ty 5, 6, .inr (.inr (.inr (.inr fQ))))), (aR 3, .inl (ty 0, rm, .inl (nF f3)))] := hD
          refine lv_iinc (v := (nI (x + 1))) (lv' := [(4, .int (nI (x + 1))), (0, .ref hN), (1, .ref hQ), (2, .int (nI wz)), (3, .int (nI (np * 101)))]) hx hb d_PanelMaker_fillFewest_68 hl (k := 4) rfl (nI_inc _ _ _ (by omega)) (by decide) rfl (fun ls hl => ?_)
          refine lv_goto (tgt := 50) hx hb d_PanelMaker_fillFewest_71 (by decide) ?_
          exact ih50 (x + 1) (va_up fe2 ((np * 101) + x) 1000) _ _ _ (by omega) (fun y h => (Nat.lt_or_ge y x).elim (fun q => by rw [va_up_ne _ _ (by omega)]; exact hA1 y q) (fun q => by rw [show y = x by omega, va_up_self]; show 1000 = (if x = 0 then 0 else 1000); rw [if_neg (by omega)])) (by omega) hP hD hS (lv_sub hl [1, 2, 3, 4, 0] rfl)
    exact L50 (wz + 1 - 1 + 1) 1 (va_up fe (np * 101) 0) _ _ _ (by omega) (fun y h => by rw [show y = 0 by omega, Nat.add_zero, va_up_self]; rfl) (Nat.lt_succ_self _) hP hD hS (lv_sub hl [2, 3, 4, 1, 0] rfl)
  · refine lv_aload_n hx hb d_PanelMaker_fillFewest_17 rfl (lv_at hl 0 rfl) ?_
    refine lv_aload_n hx hb d_PanelMaker_fillFewest_18 rfl (lv_at hl 0 rfl) ?_
    refine va_get (D := G) (ci := 5) (v := .int (nI rN)) (C := R_PanelMaker) (T := F_PanelMaker) (N := 2) hx hb hts in_PanelMaker hown hK hP 0 rfl rfl 0 (by decide) (hts _ fl_PanelMaker_15) (fun _ h9 => h9) rfl d_PanelMaker_fillFewest_19 ?_
    refine lv_iconst (v := (nI 1)) hx hb d_PanelMaker_fillFewest_22 (by decide) ?_
    refine n_iadd hx hb d_PanelMaker_fillFewest_23 ?_
    refine lv_bipush (v := (nI 101)) hx hb d_PanelMaker_fillFewest_24 (by decide) ?_
    refine n_imul hx hb d_PanelMaker_fillFewest_26 ?_
    refine n_newI hx hb hts hX hP hD hS hA (by omega) (show 0 + 1 ≤ bN by omega) (show 0 + ((rN + 1) * 101) ≤ sN by omega) d_PanelMaker_fillFewest_27 (fun aW2 H hP hD hS => ?_)
    have hP : va_P G vwCl [(hN, .inr (5, [.int (nI rN), .ref aW])), (aW, .inl (ty 0, lN, .inl (nF fe))), (hQ, .inr (6, [.ref aQ, .ref aC, .int (nI np), .long (iL tot), .int (nI rm)])), (aQ, .inl (ty 5, 6, .inr (.inr (.inr (.inr fQ))))), (aR 3, .inl (ty 0, rm, .inl (nF f3))), (aW2, .inl (ty 0, (rN + 1) * 101, .inl (nF (fun _ => 0))))] _ := hP
    have hD : va_D A [(hN, .inr (5, [.int (nI rN), .ref aW])), (aW, .inl (ty 0, lN, .inl (nF fe))), (hQ, .inr (6, [.ref aQ, .ref aC, .int (nI np), .long (iL tot), .int (nI rm)])), (aQ, .inl (ty 5, 6, .inr (.inr (.inr (.inr fQ))))), (aR 3, .inl (ty 0, rm, .inl (nF f3))), (aW2, .inl (ty 0, (rN + 1) * 101, .inl (nF (fun _ => 0))))] := hD
    refine va_put (D := G) (ci := 5) (v := .ref aW2) (ty := .array .int) (C := R_PanelMaker) (T := F_PanelMaker) (N := 2) hx hb hts in_PanelMaker t_PanelMaker t_PanelMaker_ok n_PanelMaker hown hK hP hD hS 0 rfl rfl 1 (by decide) (hts _ fl_PanelMaker_9) (fun _ h9 => h9) rfl (by decide +kernel) rfl rfl (Nat.le_of_ble_eq_true rfl) d_PanelMaker_fillFewest_29 (fun H locs hP hD hS => ?_)
    have hP : va_P G vwCl [(hN, .inr (5, [.int (nI rN), .ref aW2])), (aW, .inl (ty 0, lN, .inl (nF fe))), (hQ, .inr (6, [.ref aQ, .ref aC, .int (nI np), .long (iL tot), .int (nI rm)])), (aQ, .inl (ty 5, 6, .inr (.inr (.inr (.inr fQ))))), (aR 3, .inl (ty 0, rm, .inl (nF f3))), (aW2, .inl (ty 0, (rN + 1) * 101, .inl (nF (fun _ => 0))))] _ := hP
    have hD : va_D A [(hN, .inr (5, [.int (nI rN), .ref aW2])), (aW, .inl (ty 0, lN, .inl (nF fe))), (hQ, .inr (6, [.ref aQ, .ref aC, .int (nI np), .long (iL tot), .int (nI rm)])), (aQ, .inl (ty 5, 6, .inr (.inr (.inr (.inr fQ))))), (aR 3, .inl (ty 0, rm, .inl (nF f3))), (aW2, .inl (ty 0, (rN + 1) * 101, .inl (nF (fun _ => 0))))] := hD
    refine lv_aload_n hx hb d_PanelMaker_fillFewest_32 rfl (lv_at hl 1 rfl) ?_
    refine va_get (D := G) (ci := 6) (v := .int (nI np)) (C := R_Plan) (T := F_Plan) (N := 5) hx hb hts in_Plan hown hK hP 2 rfl rfl 2 (by decide) (hts _ fl_PanelMaker_19) (fun _ h9 => h9) rfl d_PanelMaker_fillFewest_33 ?_
    refine lv_bipush (v := (nI 101)) hx hb d_PanelMaker_fillFewest_36 (by decide) ?_
    refine n_imul hx hb d_PanelMaker_fillFewest_38 ?_
    refine lv_istore_n (lv' := [(3, .int (nI (np * 101))), (0, .ref hN), (1, .ref hQ), (2, .int (nI wz))]) hx hb d_PanelMaker_fillFewest_39 rfl hl (by decide) rfl (fun ls hl => ?_)
    have hP : va_P G vwCl [(hN, .inr (5, [.int (nI rN), .ref aW2])), (aW2, .inl (ty 0, (rN + 1) * 101, .inl (nF (fun _ => 0)))), (hQ, .inr (6, [.ref aQ, .ref aC, .int (nI np), .long (iL tot), .int (nI rm)])), (aQ, .inl (ty 5, 6, .inr (.inr (.inr (.inr fQ))))), (aR 3, .inl (ty 0, rm, .inl (nF f3)))] _ := hP.sub [0, 5, 2, 3, 4] rfl
    have hD : va_D A [(hN, .inr (5, [.int (nI rN), .ref aW2])), (aW2, .inl (ty 0, (rN + 1) * 101, .inl (nF (fun _ => 0)))), (hQ, .inr (6, [.ref aQ, .ref aC, .int (nI np), .long (iL tot), .int (nI rm)])), (aQ, .inl (ty 5, 6, .inr (.inr (.inr (.inr fQ))))), (aR 3, .inl (ty 0, rm, .inl (nF f3)))] := hD.sub [0, 5, 2, 3, 4] (by decide) rfl
    refine lv_aload_n hx hb d_PanelMaker_fillFewest_40 rfl (lv_at hl 1 rfl) ?_
    refine va_get (D := G) (ci := 5) (v := .ref aW2) (C := R_PanelMaker) (T := F_PanelMaker) (N := 2) hx hb hts in_PanelMaker hown hK hP 0 rfl rfl 1 (by decide) (hts _ fl_PanelMaker_9) (fun _ h9 => h9) rfl d_PanelMaker_fillFewest_41 ?_
    refine lv_iload_n hx hb d_PanelMaker_fillFewest_44 rfl (lv_at hl 0 rfl) ?_
    refine lv_iconst (v := (nI 0)) hx hb d_PanelMaker_fillFewest_45 (by decide) ?_
    refine n_iast hx hb hK hP hD hS 1 0 rfl rfl (by omega) (by omega) d_PanelMaker_fillFewest_46 (fun H locs hP hD hS => ?_)
    rw [upd_nF] at hP hD
    have hP : va_P G vwCl [(hN, .inr (5, [.int (nI rN), .ref aW2])), (aW2, .inl (ty 0, (rN + 1) * 101, .inl (nF (va_up (fun _ => 0) (np * 101) 0)))), (hQ, .inr (6, [.ref aQ, .ref aC, .int (nI np), .long (iL tot), .int (nI rm)])), (aQ, .inl (ty 5, 6, .inr (.inr (.inr (.inr fQ))))), (aR 3, .inl (ty 0, rm, .inl (nF f3)))] _ := hP
    have hD : va_D A [(hN, .inr (5, [.int (nI rN), .ref aW2])), (aW2, .inl (ty 0, (rN + 1) * 101, .inl (nF (va_up (fun _ => 0) (np * 101) 0)))), (hQ, .inr (6, [.ref aQ, .ref aC, .int (nI np), .long (iL tot), .int (nI rm)])), (aQ, .inl (ty 5, 6, .inr (.inr (.inr (.inr fQ))))), (aR 3, .inl (ty 0, rm, .inl (nF f3)))] := hD
    refine lv_iconst (v := (nI 1)) hx hb d_PanelMaker_fillFewest_47 (by decide) ?_
    refine lv_istore (lv' := [(4, .int (nI 1)), (3, .int (nI (np * 101))), (0, .ref hN), (1, .ref hQ), (2, .int (nI wz))]) hx hb d_PanelMaker_fillFewest_48 hl (by decide) rfl (fun ls hl => ?_)
    have L50 : ∀ (k9 : Nat) (x : Nat) (fe2 : Nat → Nat) (H : Heap) (locs : List Loc) (ls : Array Slot), (1 ≤ x ∧ x ≤ wz + 1) → (∀ y, y < x → fe2 (np * 101 + y) = fwD f3 np 0 y) → wz + 1 - x < k9 → va_P G vwCl [(hN, .inr (5, [.int (nI rN), .ref aW2])), (aW2, .inl (ty 0, (rN + 1) * 101, .inl (nF fe2))), (hQ, .inr (6, [.ref aQ, .ref aC, .int (nI np), .long (iL tot), .int (nI rm)])), (aQ, .inl (ty 5, 6, .inr (.inr (.inr (.inr fQ))))), (aR 3, .inl (ty 0, rm, .inl (nF f3)))] H → va_D A [(hN, .inr (5, [.int (nI rN), .ref aW2])), (aW2, .inl (ty 0, (rN + 1) * 101, .inl (nF fe2))), (hQ, .inr (6, [.ref aQ, .ref aC, .int (nI np), .long (iL tot), .int (nI rm)])), (aQ, .inl (ty 5, 6, .inr (.inr (.inr (.inr fQ))))), (aR 3, .inl (ty 0, rm, .inl (nF f3)))] → va_S A s.heap H locs → lv_has ls 5 [(0, .ref hN), (1, .ref hQ), (2, .int (nI wz)), (3, .int (nI (np * 101))), (4, .int (nI x))] → W p l e { frames := 2, cells := bN, slots := sN, locals := 49 } s m [.ref hN, .ref hQ, .int (nI wz)].toArray below meth c H locs (0 + 1) (0 + ((rN + 1) * 101)) (MQ below (q_PanelMaker_fillFewest G ty hN rN aW lN bN sN wz fe hQ aQ aC np rm tot fQ aR f3 A) [.ref hN, .ref hQ, .int (nI wz)].toArray s bN sN A) (F0 m 50 ls []) := by
      intro k9
      induction k9 with
      | zero => intro x fe2 H locs ls hxw hA1 hk9; exact absurd hk9 (Nat.not_lt_zero _)
      | succ k9 ih50 =>
        intro x fe2 H locs ls hxw hA1 hk9 hP hD hS hl
        refine lv_iload hx hb d_PanelMaker_fillFewest_50 (lv_at hl 4 rfl) ?_
        refine lv_iload_n hx hb d_PanelMaker_fillFewest_52 rfl (lv_at hl 2 rfl) ?_
        refine n_icmp_gt (tgt := 74) hx hb (by omega) (by omega) d_PanelMaker_fillFewest_53 (by decide) (fun c53 => ?_) (fun c53 => ?_)
        · refine lv_aload_n hx hb d_PanelMaker_fillFewest_74 rfl (lv_at hl 1 rfl) ?_
          refine va_get (D := G) (ci := 6) (v := .int (nI np)) (C := R_Plan) (T := F_Plan) (N := 5) hx hb hts in_Plan hown hK hP 2 rfl rfl 2 (by decide) (hts _ fl_PanelMaker_19) (fun _ h9 => h9) rfl d_PanelMaker_fillFewest_75 ?_
          refine lv_iconst (v := (nI 1)) hx hb d_PanelMaker_fillFewest_78 (by decide) ?_
          refine nzz_isub hx hb d_PanelMaker_fillFewest_79 ?_
          refine lv_istore (lv' := [(4, .int (iI ((np : Nat) - ((1 : Nat) : Int)))), (0, .ref hN), (1, .ref hQ), (2, .int (nI wz)), (3, .int (nI (np * 101)))]) hx hb d_PanelMaker_fillFewest_80 hl (by decide) rfl (fun ls hl => ?_)
          have L82 : ∀ (k9 : Nat) (i : Nat) (fe2 : Nat → Nat) (H : Heap) (locs : List Loc) (ls : Array Slot), (i ≤ np) → (∀ j, i ≤ j → j ≤ np → ∀ x, x ≤ wz → fe2 (j * 101 + x) = fwD f3 np (np - j) x) → i < k9 → va_P G vwCl [(hN, .inr (5, [.int (nI rN), .ref aW2])), (aW2, .inl (ty 0, (rN + 1) * 101, .inl (nF fe2))), (hQ, .inr (6, [.ref aQ, .ref aC, .int (nI np), .long (iL tot), .int (nI rm)])), (aQ, .inl (ty 5, 6, .inr (.inr (.inr (.inr fQ))))), (aR 3, .inl (ty 0, rm, .inl (nF f3)))] H → va_D A [(hN, .inr (5, [.int (nI rN), .ref aW2])), (aW2, .inl (ty 0, (rN + 1) * 101, .inl (nF fe2))), (hQ, .inr (6, [.ref aQ, .ref aC, .int (nI np), .long (iL tot), .int (nI rm)])), (aQ, .inl (ty 5, 6, .inr (.inr (.inr (.inr fQ))))), (aR 3, .inl (ty 0, rm, .inl (nF f3)))] → va_S A s.heap H locs → lv_has ls 5 [(0, .ref hN), (1, .ref hQ), (2, .int (nI wz)), (4, .int (iI (((i : Nat) : Int) - ((1 : Nat) : Int))))] → W p l e { frames := 2, cells := bN, slots := sN, locals := 49 } s m [.ref hN, .ref hQ, .int (nI wz)].toArray below meth c H locs (0 + 1) (0 + ((rN + 1) * 101)) (MQ below (q_PanelMaker_fillFewest G ty hN rN aW lN bN sN wz fe hQ aQ aC np rm tot fQ aR f3 A) [.ref hN, .ref hQ, .int (nI wz)].toArray s bN sN A) (F0 m 82 ls []) := by
            intro k9
            induction k9 with
            | zero => intro i fe2 H locs ls hi hA2 hk9; exact absurd hk9 (Nat.not_lt_zero _)
            | succ k9 ih82 =>
              intro i fe2 H locs ls hi hA2 hk9 hP hD hS hl
              refine lv_iload hx hb d_PanelMaker_fillFewest_82 (lv_at hl 3 rfl) ?_
              refine z_if_lt (tgt := 109) hx hb (by omega) d_PanelMaker_fillFewest_84 (by decide) (fun c84 => ?_) (fun c84 => ?_)
              · refine W.widen (k := bN) (n := sN) (by omega) (by omega) ?_
                exact W.vret hx hb hr (fun t9 ht hW => ⟨⟨(aW2, fe2), rfl, by rw [show i = 0 by omega] at hA2; exact hA2, by rw [ht]; exact hP, hD⟩, hS.F ht⟩) hS.2.2 d_PanelMaker_fillFewest_109
              · obtain ⟨m_, rfl⟩ : ∃ m_, i = m_ + 1 := ⟨i - 1, by omega⟩
                have hl : lv_has ls 5 [(0, .ref hN), (1, .ref hQ), (2, .int (nI wz)), (4, .int (nI m_))] := by rw [show (nI m_) = (iI (((m_ + 1 : Nat) : Int) - ((1 : Nat) : Int))) from by rw [nI_iI]; congr 1; omega]; exact hl
                have hdm := gd m_ (by omega)
                refine lv_aload_n hx hb d_PanelMaker_fillFewest_87 rfl (lv_at hl 0 rfl) ?_
                refine lv_iload hx hb d_PanelMaker_fillFewest_88 (lv_at hl 3 rfl) ?_
                refine lv_aload_n hx hb d_PanelMaker_fillFewest_90 rfl (lv_at hl 1 rfl) ?_
                refine va_get (D := G) (ci := 6) (v := .ref aQ) (C := R_Plan) (T := F_Plan) (N := 5) hx hb hts in_Plan hown hK hP 2 rfl rfl 0 (by decide) (hts _ fl_PanelMaker_28) (fun _ h9 => h9) rfl d_PanelMaker_fillFewest_91 ?_
                refine lv_iconst (v := (nI 3)) hx hb d_PanelMaker_fillFewest_94 (by decide) ?_
                refine n_aaldA hx hb hK hP 3 5 rfl rfl (by omega) (by omega) (gq 3 (by omega)) d_PanelMaker_fillFewest_95 ?_
                refine lv_iload hx hb d_PanelMaker_fillFewest_96 (lv_at hl 3 rfl) ?_
                refine n_iald hx hb hK hP 4 0 rfl rfl (by omega) (by omega) d_PanelMaker_fillFewest_98 ?_
                refine lv_iload_n hx hb d_PanelMaker_fillFewest_99 rfl (lv_at hl 2 rfl) ?_
                refine call_wr_v (Wc := [(hN, .inr (5, [.int (nI rN), .ref aW2])), (aW2, .inl (ty 0, ((rN + 1) * 101), .inl (nF fe2)))]) (Wr := [(hQ, .inr (6, [.ref aQ, .ref aC, .int (nI np), .long (iL tot), .int (nI rm)])), (aQ, .inl (ty 5, 6, .inr (.inr (.inr (.inr fQ))))), (aR 3, .inl (ty 0, rm, .inl (nF f3)))]) (va_runV (As := [.int (nI m_), .int (nI (f3 m_)), .int (nI wz)]) (rest := []) ⟨hx, hb, hml, hown, hts⟩ (c_PanelMaker_fillFrom l G ty _ hN rN aW2 ((rN + 1) * 101) m_ (f3 m_) wz fe2 (by omega) (by omega) (by omega) (fun x hx => by rw [show m_ * 101 + 101 + x = (m_ + 1) * 101 + x by omega, hA2 (m_ + 1) (Nat.le_refl _) (by omega) x hx]; exact fwD_le _ _ _ _) (by omega)) ⟨callB_of 3 hts (gd_TB cd_PanelMaker_fillFrom) rfl rfl rfl (hts _ ini_PanelMaker) (hts _ lk_PanelMaker_32) hd_PanelMaker_fillFrom ⟨Nat.le_of_ble_eq_true rfl, Nat.le_of_ble_eq_true rfl⟩, hts _ im_PanelMaker_fillFrom, hts _ sl_PanelMaker_fillFrom⟩ (preV_wr (hP.sub (ws' := [(hN, .inr (5, [.int (nI rN), .ref aW2])), (aW2, .inl (ty 0, ((rN + 1) * 101), .inl (nF fe2)))]) [0, 1] rfl) hX (hD.sub (ws' := [(hN, .inr (5, [.int (nI rN), .ref aW2])), (aW2, .inl (ty 0, ((rN + 1) * 101), .inl (nF fe2)))]) [0, 1] (by decide) rfl) 0 rfl rfl) rfl rfl hl.1 rfl (lv_room (Nat.le_of_ble_eq_true rfl)) d_PanelMaker_fillFewest_100 ⟨show (0 + 1) + 0 ≤ bN by omega, show (0 + ((rN + 1) * 101)) + 0 ≤ sN by omega⟩) hP hD hS hA [0, 1] [2, 3, 4] rfl rfl (by decide) (by decide) (fun u9 H locs hw5 hP hD hS => ?_)
                obtain ⟨fe3, rfl⟩ : ∃ z, z = u9 := ⟨_, rfl⟩
                have hw5 : (∀ x, x ≤ wz → fe3 (m_ * 101 + x) = min (fe2 (m_ * 101 + 101 + x)) (if (f3 m_) ≤ x then fe2 (m_ * 101 + 101 + (x - (f3 m_))) + 1 else 1000)) ∧ (∀ q, q < m_ * 101 ∨ m_ * 101 + wz < q → fe3 q = fe2 q) := hw5
                have hP : va_P G vwCl [(hQ, .inr (6, [.ref aQ, .ref aC, .int (nI np), .long (iL tot), .int (nI rm)])), (aQ, .inl (ty 5, 6, .inr (.inr (.inr (.inr fQ))))), (aR 3, .inl (ty 0, rm, .inl (nF f3))), (hN, .inr (5, [.int (nI rN), .ref aW2])), (aW2, .inl (ty 0, ((rN + 1) * 101), .inl (nF fe3)))] _ := hP
                have hD : va_D A [(hQ, .inr (6, [.ref aQ, .ref aC, .int (nI np), .long (iL tot), .int (nI rm)])), (aQ, .inl (ty 5, 6, .inr (.inr (.inr (.inr fQ))))), (aR 3, .inl (ty 0, rm, .inl (nF f3))), (hN, .inr (5, [.int (nI rN), .ref aW2])), (aW2, .inl (ty 0, ((rN + 1) * 101), .inl (nF fe3)))] := hD
                obtain ⟨hf1, hf2⟩ := hw5
                have hA3 : ∀ j, m_ ≤ j → j ≤ np → ∀ x, x ≤ wz → fe3 (j * 101 + x) = fwD f3 np (np - j) x := fun j h1 h2 x hx => (Nat.lt_or_ge m_ j).elim (fun q => by rw [hf2 _ (by omega)]; exact hA2 j q h2 x hx) (fun q => by have ej : j = m_ := (by omega); rw [ej, hf1 x hx]; obtain ⟨d, ed⟩ : ∃ d, d = np - (m_ + 1) := ⟨_, rfl⟩; rw [show np - m_ = d + 1 by omega, fwD_s, show np - (d + 1) = m_ by omega]; have h8 := hA2 (m_ + 1) (Nat.le_refl _) (by omega) x hx; rw [← ed, show (m_ + 1) * 101 + x = m_ * 101 + 101 + x by omega] at h8; rw [h8]; by_cases z : f3 m_ ≤ x; exact (by have h7 := hA2 (m_ + 1) (Nat.le_refl _) (by omega) (x - f3 m_) (by omega); rw [← ed, show (m_ + 1) * 101 + (x - f3 m_) = m_ * 101 + 101 + (x - f3 m_) by omega] at h7; rw [if_pos z, if_pos z, h7]); exact (by rw [if_neg z, if_neg z]))
                refine lv_iinc (v := (iI (((m_ : Nat) : Int) - ((1 : Nat) : Int)))) (lv' := [(4, .int (iI (((m_ : Nat) : Int) - ((1 : Nat) : Int)))), (0, .ref hN), (1, .ref hQ), (2, .int (nI wz))]) hx hb d_PanelMaker_fillFewest_103 hl (k := 3) rfl (by rw [nI_iI]; exact iI_add _ _) (by decide) rfl (fun ls hl => ?_)
                refine lv_goto (tgt := 82) hx hb d_PanelMaker_fillFewest_106 (by decide) ?_
                have hP : va_P G vwCl [(hN, .inr (5, [.int (nI rN), .ref aW2])), (aW2, .inl (ty 0, ((rN + 1) * 101), .inl (nF fe3))), (hQ, .inr (6, [.ref aQ, .ref aC, .int (nI np), .long (iL tot), .int (nI rm)])), (aQ, .inl (ty 5, 6, .inr (.inr (.inr (.inr fQ))))), (aR 3, .inl (ty 0, rm, .inl (nF f3)))] _ := hP.sub [3, 4, 0, 1, 2] rfl
                have hD : va_D A [(hN, .inr (5, [.int (nI rN), .ref aW2])), (aW2, .inl (ty 0, ((rN + 1) * 101), .inl (nF fe3))), (hQ, .inr (6, [.ref aQ, .ref aC, .int (nI np), .long (iL tot), .int (nI rm)])), (aQ, .inl (ty 5, 6, .inr (.inr (.inr (.inr fQ))))), (aR 3, .inl (ty 0, rm, .inl (nF f3)))] := hD.sub [3, 4, 0, 1, 2] (by decide) rfl
                exact ih82 m_ fe3 _ _ _ (by omega) hA3 (by omega) hP hD hS (lv_sub hl [1, 2, 3, 0] rfl)
          exact L82 (np + 1) np fe2 _ _ _ (Nat.le_refl _) (fun j h1 h2 y hy => by rw [show j = np by omega, Nat.sub_self]; exact hA1 y (by omega)) (Nat.lt_succ_self _) hP hD hS (lv_sub hl [1, 2, 3, 0] rfl)
        · refine lv_aload_n hx hb d_PanelMaker_fillFewest_56 rfl (lv_at hl 0 rfl) ?_
          refine va_get (D := G) (ci := 5) (v := .ref aW2) (C := R_PanelMaker) (T := F_PanelMaker) (N := 2) hx hb hts in_PanelMaker hown hK hP 0 rfl rfl 1 (by decide) (hts _ fl_PanelMaker_9) (fun _ h9 => h9) rfl d_PanelMaker_fillFewest_57 ?_
          refine lv_iload_n hx hb d_PanelMaker_fillFewest_60 rfl (lv_at hl 3 rfl) ?_
          refine lv_iload hx hb d_PanelMaker_fillFewest_61 (lv_at hl 4 rfl) ?_
          refine n_iadd hx hb d_PanelMaker_fillFewest_63 ?_
          refine lv_sipush (v := (nI 1000)) hx hb d_PanelMaker_fillFewest_64 (by decide) ?_
          refine n_iast hx hb hK hP hD hS 1 0 rfl rfl (by omega) (by omega) d_PanelMaker_fillFewest_67 (fun H locs hP hD hS => ?_)
          rw [upd_nF] at hP hD
          have hP : va_P G vwCl [(hN, .inr (5, [.int (nI rN), .ref aW2])), (aW2, .inl (ty 0, (rN + 1) * 101, .inl (nF (va_up fe2 ((np * 101) + x) 1000)))), (hQ, .inr (6, [.ref aQ, .ref aC, .int (nI np), .long (iL tot), .int (nI rm)])), (aQ, .inl (ty 5, 6, .inr (.inr (.inr (.inr fQ))))), (aR 3, .inl (ty 0, rm, .inl (nF f3)))] _ := hP
          have hD : va_D A [(hN, .inr (5, [.int (nI rN), .ref aW2])), (aW2, .inl (ty 0, (rN + 1) * 101, .inl (nF (va_up fe2 ((np * 101) + x) 1000)))), (hQ, .inr (6, [.ref aQ, .ref aC, .int (nI np), .long (iL tot), .int (nI rm)])), (aQ, .inl (ty 5, 6, .inr (.inr (.inr (.inr fQ))))), (aR 3, .inl (ty 0, rm, .inl (nF f3)))] := hD
          refine lv_iinc (v := (nI (x + 1))) (lv' := [(4, .int (nI (x + 1))), (0, .ref hN), (1, .ref hQ), (2, .int (nI wz)), (3, .int (nI (np * 101)))]) hx hb d_PanelMaker_fillFewest_68 hl (k := 4) rfl (nI_inc _ _ _ (by omega)) (by decide) rfl (fun ls hl => ?_)
          refine lv_goto (tgt := 50) hx hb d_PanelMaker_fillFewest_71 (by decide) ?_
          exact ih50 (x + 1) (va_up fe2 ((np * 101) + x) 1000) _ _ _ (by omega) (fun y h => (Nat.lt_or_ge y x).elim (fun q => by rw [va_up_ne _ _ (by omega)]; exact hA1 y q) (fun q => by rw [show y = x by omega, va_up_self]; show 1000 = (if x = 0 then 0 else 1000); rw [if_neg (by omega)])) (by omega) hP hD hS (lv_sub hl [1, 2, 3, 4, 0] rfl)
    exact L50 (wz + 1 - 1 + 1) 1 (va_up (fun _ => 0) (np * 101) 0) _ _ _ (by omega) (fun y h => by rw [show y = 0 by omega, Nat.add_zero, va_up_self]; rfl) (Nat.lt_succ_self _) hP hD hS (lv_sub hl [2, 3, 4, 1, 0] rfl)

abbrev q_PanelMaker_pick (G : va_G) (ty : Nat → ClassId) (hN : Nat) (rN : Nat) (aW : Nat) (lN : Nat) (bN : Nat) (sN : Nat) (wz : Nat) (kz : Int) (fe : Nat → Nat) (hQ : Nat) (aQ : Nat) (aC : Nat) (np : Nat) (rm : Nat) (tot : Int) (fQ : Nat → Option Nat) (aR : Nat → Nat) (f3 : Nat → Nat) (A : Nat → Prop) : Array Value → State → Outcome → State → Prop := va_Qi (fun (r : Int32) => fun (uu : Nat × (Nat → Nat)) => r = (iI (pnl f3 np wz kz.toNat)) ∧ True) (at_W G (fun (uu : Nat × (Nat → Nat)) => [(hN, .inr (5, [.int (nI rN), .ref uu.1])), (uu.1, .inl (ty 0, (rN + 1) * 101, .inl (nF uu.2))), (hQ, .inr (6, [.ref aQ, .ref aC, .int (nI np), .long (iL tot), .int (nI rm)])), (aQ, .inl (ty 5, 6, .inr (.inr (.inr (.inr fQ))))), (aR 3, .inl (ty 0, rm, .inl (nF f3)))]) A) A
set_option maxRecDepth 100000 in
set_option maxHeartbeats 4000000 in
theorem c_PanelMaker_pick (l : Launch) (G : va_G) (ty : Nat → ClassId) (sz : Nat) (hN : Nat) (rN : Nat) (aW : Nat) (lN : Nat) (bN : Nat) (sN : Nat) (wz : Nat) (kz : Int) (fe : Nat → Nat) (hQ : Nat) (aQ : Nat) (aC : Nat) (np : Nat) (rm : Nat) (tot : Int) (fQ : Nat → Option Nat) (aR : Nat → Nat) (f3 : Nat → Nat) (gq : ∀ i, i < 6 → fQ i = some (aR i)) (g1 : wz ≤ 100) (gnp : np ≤ rN) (grN : rN ≤ 240) (grm : rm = rN) (gd : ∀ k, k < np → 1 ≤ f3 k ∧ f3 k ≤ 10) (hlN : (lN = (rN + 1) * 101 ∧ bN = 0 ∧ sN = 0) ∨ (lN = 0 ∧ bN = 1 ∧ sN = (rN + 1) * 101)) (gk : 0 ≤ kz ∧ kz ≤ 2147483647) : Met l y_PanelMaker_pick ws_PanelMaker_pick { frames := 3, cells := bN, slots := sN, locals := 73 } (va_Pc [.ref hN, .ref hQ, .int (nI wz), .int (iI kz)] (fun U => U.heap.size = sz ∧ va_P G vwCl [(hN, .inr (5, [.int (nI rN), .ref aW])), (aW, .inl (ty 0, lN, .inl (nF fe))), (hQ, .inr (6, [.ref aQ, .ref aC, .int (nI np), .long (iL tot), .int (nI rm)])), (aQ, .inl (ty 5, 6, .inr (.inr (.inr (.inr fQ))))), (aR 3, .inl (ty 0, rm, .inl (nF f3)))] U.heap ∧ KX G ty U ∧ va_D (fun _ => True) [(hN, .inr (5, [.int (nI rN), .ref aW])), (aW, .inl (ty 0, lN, .inl (nF fe))), (hQ, .inr (6, [.ref aQ, .ref aC, .int (nI np), .long (iL tot), .int (nI rm)])), (aQ, .inl (ty 5, 6, .inr (.inr (.inr (.inr fQ))))), (aR 3, .inl (ty 0, rm, .inl (nF f3)))])) (q_PanelMaker_pick G ty hN rN aW lN bN sN wz kz fe hQ aQ aC np rm tot fQ aR f3 (va_A [(hN, .inr (5, [.int (nI rN), .ref aW])), (aW, .inl (ty 0, lN, .inl (nF fe))), (hQ, .inr (6, [.ref aQ, .ref aC, .int (nI np), .long (iL tot), .int (nI rm)])), (aQ, .inl (ty 5, 6, .inr (.inr (.inr (.inr fQ))))), (aR 3, .inl (ty 0, rm, .inl (nF f3)))] sz)) bN sN (va_A [(hN, .inr (5, [.int (nI rN), .ref aW])), (aW, .inl (ty 0, lN, .inl (nF fe))), (hQ, .inr (6, [.ref aQ, .ref aC, .int (nI np), .long (iL tot), .int (nI rm)])), (aQ, .inl (ty 5, 6, .inr (.inr (.inr (.inr fQ))))), (aR 3, .inl (ty 0, rm, .inl (nF f3)))] sz) := by
  refine met_wr (y := y_PanelMaker_pick) (maxL := 8) (sz := sz) (G := G) (ty := ty) (mc := bN) (ms := sN) (av := [.ref hN, .ref hQ, .int (nI wz), .int (iI kz)]) (W0 := [(hN, .inr (5, [.int (nI rN), .ref aW])), (aW, .inl (ty 0, lN, .inl (nF fe))), (hQ, .inr (6, [.ref aQ, .ref aC, .int (nI np), .long (iL tot), .int (nI rm)])), (aQ, .inl (ty 5, 6, .inr (.inr (.inr (.inr fQ))))), (aR 3, .inl (ty 0, rm, .inl (nF f3)))]) (fun A => q_PanelMaker_pick G ty hN rN aW lN bN sN wz kz fe hQ aQ aC np rm tot fQ aR f3 A) R_PanelMaker (by decide) rfl rfl (Nat.le_of_ble_eq_true rfl) ?_
  intro p e s m below meth c ls A hx hb hr hml hown hts hlocks hin hA hP hX hD hS hl
  have hK := hX.1
  have hl : lv_has ls 8 [(0, .ref hN), (1, .ref hQ), (2, .int (nI wz)), (3, .int (iI kz))] := hl
  refine lv_iload_n hx hb d_PanelMaker_pick_0 rfl (lv_at hl 2 rfl) ?_
  refine n_if_lt (tgt := 21) hx hb (by omega) d_PanelMaker_pick_1 (by decide) (fun c1 => absurd c1 (by omega)) (fun c1 => ?_)
  refine lv_iload_n hx hb d_PanelMaker_pick_4 rfl (lv_at hl 2 rfl) ?_
  refine lv_bipush (v := (nI 101)) hx hb d_PanelMaker_pick_5 (by decide) ?_
  refine n_icmp_ge (tgt := 21) hx hb (by omega) (by omega) d_PanelMaker_pick_7 (by decide) (fun c7 => absurd c7 (by omega)) (fun c7 => ?_)
  refine lv_aload_n hx hb d_PanelMaker_pick_10 rfl (lv_at hl 1 rfl) ?_
  refine va_get (D := G) (ci := 6) (v := .int (nI np)) (C := R_Plan) (T := F_Plan) (N := 5) hx hb hts in_Plan hown hK hP 2 rfl rfl 2 (by decide) (hts _ fl_PanelMaker_19) (fun _ h9 => h9) rfl d_PanelMaker_pick_11 ?_
  refine lv_aload_n hx hb d_PanelMaker_pick_14 rfl (lv_at hl 0 rfl) ?_
  refine va_get (D := G) (ci := 5) (v := .int (nI rN)) (C := R_PanelMaker) (T := F_PanelMaker) (N := 2) hx hb hts in_PanelMaker hown hK hP 0 rfl rfl 0 (by decide) (hts _ fl_PanelMaker_15) (fun _ h9 => h9) rfl d_PanelMaker_pick_15 ?_
  refine n_icmp_le (tgt := 23) hx hb (by omega) (by omega) d_PanelMaker_pick_18 (by decide) (fun c18 => ?_) (fun c18 => absurd c18 (by omega))
  refine lv_aload_n hx hb d_PanelMaker_pick_23 rfl (lv_at hl 0 rfl) ?_
  refine lv_aload_n hx hb d_PanelMaker_pick_24 rfl (lv_at hl 1 rfl) ?_
  refine lv_iload_n hx hb d_PanelMaker_pick_25 rfl (lv_at hl 2 rfl) ?_
  refine call_wr_v (Wc := [(hN, .inr (5, [.int (nI rN), .ref aW])), (aW, .inl (ty 0, lN, .inl (nF fe))), (hQ, .inr (6, [.ref aQ, .ref aC, .int (nI np), .long (iL tot), .int (nI rm)])), (aQ, .inl (ty 5, 6, .inr (.inr (.inr (.inr fQ))))), (aR 3, .inl (ty 0, rm, .inl (nF f3)))]) (Wr := []) (va_runV (As := [.ref hQ, .int (nI wz)]) (rest := []) ⟨hx, hb, hml, hown, hts⟩ (c_PanelMaker_fillFewest l G ty _ hN rN aW lN bN sN wz fe hQ aQ aC np rm tot fQ aR f3 gq (by omega) (by omega) (by omega) grm gd hlN) ⟨callB_of 2 hts (gd_TB cd_PanelMaker_fillFewest) rfl rfl rfl (hts _ ini_PanelMaker) (hts _ lk_PanelMaker_24) hd_PanelMaker_fillFewest ⟨Nat.le_of_ble_eq_true rfl, Nat.le_of_ble_eq_true rfl⟩, hts _ im_PanelMaker_fillFewest, hts _ sl_PanelMaker_fillFewest⟩ (preV_wr (hP.sub (ws' := [(hN, .inr (5, [.int (nI rN), .ref aW])), (aW, .inl (ty 0, lN, .inl (nF fe))), (hQ, .inr (6, [.ref aQ, .ref aC, .int (nI np), .long (iL tot), .int (nI rm)])), (aQ, .inl (ty 5, 6, .inr (.inr (.inr (.inr fQ))))), (aR 3, .inl (ty 0, rm, .inl (nF f3)))]) [0, 1, 2, 3, 4] rfl) hX (hD.sub (ws' := [(hN, .inr (5, [.int (nI rN), .ref aW])), (aW, .inl (ty 0, lN, .inl (nF fe))), (hQ, .inr (6, [.ref aQ, .ref aC, .int (nI np), .long (iL tot), .int (nI rm)])), (aQ, .inl (ty 5, 6, .inr (.inr (.inr (.inr fQ))))), (aR 3, .inl (ty 0, rm, .inl (nF f3)))]) [0, 1, 2, 3, 4] (by decide) rfl) 0 rfl rfl) rfl rfl hl.1 rfl (lv_room (Nat.le_of_ble_eq_true rfl)) d_PanelMaker_pick_26 ⟨show 0 + bN ≤ bN by omega, show 0 + sN ≤ sN by omega⟩) hP hD hS hA [0, 1, 2, 3, 4] [] rfl rfl (by decide) (by decide) (fun u9 H locs hw3 hP hD hS => ?_)
  obtain ⟨aV, fe2⟩ := u9
  have hw3 : ∀ j, 0 ≤ j → j ≤ np → ∀ x, x ≤ wz → fe2 (j * 101 + x) = fwD f3 np (np - j) x := hw3
  have hP : va_P G vwCl [(hN, .inr (5, [.int (nI rN), .ref aV])), (aV, .inl (ty 0, (rN + 1) * 101, .inl (nF fe2))), (hQ, .inr (6, [.ref aQ, .ref aC, .int (nI np), .long (iL tot), .int (nI rm)])), (aQ, .inl (ty 5, 6, .inr (.inr (.inr (.inr fQ))))), (aR 3, .inl (ty 0, rm, .inl (nF f3)))] _ := hP
  have hD : va_D A [(hN, .inr (5, [.int (nI rN), .ref aV])), (aV, .inl (ty 0, (rN + 1) * 101, .inl (nF fe2))), (hQ, .inr (6, [.ref aQ, .ref aC, .int (nI np), .long (iL tot), .int (nI rm)])), (aQ, .inl (ty 5, 6, .inr (.inr (.inr (.inr fQ))))), (aR 3, .inl (ty 0, rm, .inl (nF f3)))] := hD
  have hA1 := hw3
  refine lv_iload_n hx hb d_PanelMaker_pick_29 rfl (lv_at hl 2 rfl) ?_
  refine lv_istore (lv' := [(4, .int (nI wz)), (0, .ref hN), (1, .ref hQ), (2, .int (nI wz)), (3, .int (iI kz))]) hx hb d_PanelMaker_pick_30 hl (by decide) rfl (fun ls hl => ?_)
  refine lv_iconst (v := (nI 0)) hx hb d_PanelMaker_pick_32 (by decide) ?_
  refine lv_istore (lv' := [(5, .int (nI 0)), (4, .int (nI wz)), (0, .ref hN), (1, .ref hQ), (2, .int (nI wz)), (3, .int (iI kz))]) hx hb d_PanelMaker_pick_33 hl (by decide) rfl (fun ls hl => ?_)
  refine lv_iconst (v := (nI 0)) hx hb d_PanelMaker_pick_35 (by decide) ?_
  refine lv_istore (lv' := [(6, .int (nI 0)), (5, .int (nI 0)), (4, .int (nI wz)), (0, .ref hN), (1, .ref hQ), (2, .int (nI wz)), (3, .int (iI kz))]) hx hb d_PanelMaker_pick_36 hl (by decide) rfl (fun ls hl => ?_)
  have L38 : ∀ (k9 : Nat) (i2 : Nat) (lf : Nat) (tk : Nat) (H : Heap) (locs : List Loc) (ls : Array Slot), (i2 ≤ np) → (lf ≤ wz) → (tk ≤ i2) → (pnl f3 np wz kz.toNat = (if 1000 ≤ fwD f3 np (np - i2) lf then -1 else pkD f3 np kz.toNat (np - i2) lf tk)) → np - i2 < k9 → va_P G vwCl [(hN, .inr (5, [.int (nI rN), .ref aV])), (aV, .inl (ty 0, (rN + 1) * 101, .inl (nF fe2))), (hQ, .inr (6, [.ref aQ, .ref aC, .int (nI np), .long (iL tot), .int (nI rm)])), (aQ, .inl (ty 5, 6, .inr (.inr (.inr (.inr fQ))))), (aR 3, .inl (ty 0, rm, .inl (nF f3)))] H → va_D A [(hN, .inr (5, [.int (nI rN), .ref aV])), (aV, .inl (ty 0, (rN + 1) * 101, .inl (nF fe2))), (hQ, .inr (6, [.ref aQ, .ref aC, .int (nI np), .long (iL tot), .int (nI rm)])), (aQ, .inl (ty 5, 6, .inr (.inr (.inr (.inr fQ))))), (aR 3, .inl (ty 0, rm, .inl (nF f3)))] → va_S A s.heap H locs → lv_has ls 8 [(0, .ref hN), (1, .ref hQ), (2, .int (nI wz)), (3, .int (iI kz)), (4, .int (nI lf)), (5, .int (nI tk)), (6, .int (nI i2))] → W p l e { frames := 3, cells := bN, slots := sN, locals := 73 } s m [.ref hN, .ref hQ, .int (nI wz), .int (iI kz)].toArray below meth c H locs (0 + bN) (0 + sN) (MQ below (q_PanelMaker_pick G ty hN rN aW lN bN sN wz kz fe hQ aQ aC np rm tot fQ aR f3 A) [.ref hN, .ref hQ, .int (nI wz), .int (iI kz)].toArray s bN sN A) (F0 m 38 ls []) := by
    intro k9
    induction k9 with
    | zero => intro i2 lf tk H locs ls hj1 hj2 hj3 hj4 hk9; exact absurd hk9 (Nat.not_lt_zero _)
    | succ k9 ih38 =>
      intro i2 lf tk H locs ls hj1 hj2 hj3 hj4 hk9 hP hD hS hl
      refine lv_iload hx hb d_PanelMaker_pick_38 (lv_at hl 6 rfl) ?_
      refine lv_aload_n hx hb d_PanelMaker_pick_40 rfl (lv_at hl 1 rfl) ?_
      refine va_get (D := G) (ci := 6) (v := .int (nI np)) (C := R_Plan) (T := F_Plan) (N := 5) hx hb hts in_Plan hown hK hP 2 rfl rfl 2 (by decide) (hts _ fl_PanelMaker_19) (fun _ h9 => h9) rfl d_PanelMaker_pick_41 ?_
      refine n_icmp_ge (tgt := 150) hx hb (by omega) (by omega) d_PanelMaker_pick_44 (by decide) (fun c44 => ?_) (fun c44 => ?_)
      · refine lv_iconst (v := (iI (-1))) hx hb d_PanelMaker_pick_150 (by decide) ?_
        refine W.widen (k := bN) (n := sN) (by omega) (by omega) ?_
        exact W.iret (v := (iI (-1))) hx hb hr (fun t9 ht hW => ⟨⟨_, (aV, fe2), rfl, ⟨by rw [hj4]; first | (rw [show np - i2 = 0 by omega]; by_cases z : lf = 0; exact (by rw [z]; rfl); exact (by rw [if_pos (by show 1000 ≤ (if lf = 0 then 0 else 1000); rw [if_neg z]; exact Nat.le_refl _)])) | (rw [show lf = 0 by omega, fwD_0, if_neg (by omega), pkD_0 (fun i hi => (gd i hi).1) _ _ (by omega)]) | (rw [ed1, if_pos (by omega)]), trivial⟩, by rw [ht]; exact hP, hD⟩, hS.F ht⟩) hS.2.2 d_PanelMaker_pick_151
      · have hp3 := gd i2 (by omega)
        obtain ⟨d, ed⟩ : ∃ d, d = np - (i2 + 1) := ⟨_, rfl⟩
        have ed1 : np - i2 = d + 1 := by omega
        have ei2 : np - (d + 1) = i2 := by omega
        have hr0 : fe2 (i2 * 101 + lf) = fwD f3 np (d + 1) lf := by rw [← ed1]; exact hA1 i2 (Nat.zero_le _) (by omega) lf (by omega)
        have hl0 := fwD_le f3 np (d + 1) lf
        refine lv_iload hx hb d_PanelMaker_pick_47 (lv_at hl 4 rfl) ?_
        refine n_if_le (tgt := 150) hx hb (by omega) d_PanelMaker_pick_49 (by decide) (fun c49 => ?_) (fun c49 => ?_)
        · refine lv_iconst (v := (iI (-1))) hx hb d_PanelMaker_pick_150 (by decide) ?_
          refine W.widen (k := bN) (n := sN) (by omega) (by omega) ?_
          exact W.iret (v := (iI (-1))) hx hb hr (fun t9 ht hW => ⟨⟨_, (aV, fe2), rfl, ⟨by rw [hj4]; first | (rw [show np - i2 = 0 by omega]; by_cases z : lf = 0; exact (by rw [z]; rfl); exact (by rw [if_pos (by show 1000 ≤ (if lf = 0 then 0 else 1000); rw [if_neg z]; exact Nat.le_refl _)])) | (rw [show lf = 0 by omega, fwD_0, if_neg (by omega), pkD_0 (fun i hi => (gd i hi).1) _ _ (by omega)]) | (rw [ed1, if_pos (by omega)]), trivial⟩, by rw [ht]; exact hP, hD⟩, hS.F ht⟩) hS.2.2 d_PanelMaker_pick_151
        · refine lv_aload_n hx hb d_PanelMaker_pick_52 rfl (lv_at hl 0 rfl) ?_
          refine va_get (D := G) (ci := 5) (v := .ref aV) (C := R_PanelMaker) (T := F_PanelMaker) (N := 2) hx hb hts in_PanelMaker hown hK hP 0 rfl rfl 1 (by decide) (hts _ fl_PanelMaker_9) (fun _ h9 => h9) rfl d_PanelMaker_pick_53 ?_
          refine lv_iload hx hb d_PanelMaker_pick_56 (lv_at hl 6 rfl) ?_
          refine lv_bipush (v := (nI 101)) hx hb d_PanelMaker_pick_58 (by decide) ?_
          refine n_imul hx hb d_PanelMaker_pick_60 ?_
          refine lv_iload hx hb d_PanelMaker_pick_61 (lv_at hl 4 rfl) ?_
          refine n_iadd hx hb d_PanelMaker_pick_63 ?_
          refine n_iald hx hb hK hP 1 0 rfl rfl (by omega) (by omega) d_PanelMaker_pick_64 ?_
          refine top_i (show (nI (fe2 ((i2 * 101) + lf))) = (nI (fwD f3 np (d + 1) lf)) from congrArg nI hr0) ?_
          refine lv_sipush (v := (nI 1000)) hx hb d_PanelMaker_pick_65 (by decide) ?_
          refine n_icmp_ge (tgt := 150) hx hb (by omega) (by omega) d_PanelMaker_pick_68 (by decide) (fun c68 => ?_) (fun c68 => ?_)
          · refine lv_iconst (v := (iI (-1))) hx hb d_PanelMaker_pick_150 (by decide) ?_
            refine W.widen (k := bN) (n := sN) (by omega) (by omega) ?_
            exact W.iret (v := (iI (-1))) hx hb hr (fun t9 ht hW => ⟨⟨_, (aV, fe2), rfl, ⟨by rw [hj4]; first | (rw [show np - i2 = 0 by omega]; by_cases z : lf = 0; exact (by rw [z]; rfl); exact (by rw [if_pos (by show 1000 ≤ (if lf = 0 then 0 else 1000); rw [if_neg z]; exact Nat.le_refl _)])) | (rw [show lf = 0 by omega, fwD_0, if_neg (by omega), pkD_0 (fun i hi => (gd i hi).1) _ _ (by omega)]) | (rw [ed1, if_pos (by omega)]), trivial⟩, by rw [ht]; exact hP, hD⟩, hS.F ht⟩) hS.2.2 d_PanelMaker_pick_151
          · have hstep := hj4
            rw [ed1, if_neg (by omega), pkD_s, ei2] at hstep
            refine lv_aload_n hx hb d_PanelMaker_pick_71 rfl (lv_at hl 1 rfl) ?_
            refine va_get (D := G) (ci := 6) (v := .ref aQ) (C := R_Plan) (T := F_Plan) (N := 5) hx hb hts in_Plan hown hK hP 2 rfl rfl 0 (by decide) (hts _ fl_PanelMaker_28) (fun _ h9 => h9) rfl d_PanelMaker_pick_72 ?_
            refine lv_iconst (v := (nI 3)) hx hb d_PanelMaker_pick_75 (by decide) ?_
            refine n_aaldA hx hb hK hP 3 5 rfl rfl (by omega) (by omega) (gq 3 (by omega)) d_PanelMaker_pick_76 ?_
            refine lv_iload hx hb d_PanelMaker_pick_77 (lv_at hl 6 rfl) ?_
            refine n_iald hx hb hK hP 4 0 rfl rfl (by omega) (by omega) d_PanelMaker_pick_79 ?_
            refine lv_istore (lv' := [(7, .int (nI (f3 i2))), (0, .ref hN), (1, .ref hQ), (2, .int (nI wz)), (3, .int (iI kz)), (4, .int (nI lf)), (5, .int (nI tk)), (6, .int (nI i2))]) hx hb d_PanelMaker_pick_80 hl (by decide) rfl (fun ls hl => ?_)
            refine lv_iload hx hb d_PanelMaker_pick_82 (lv_at hl 0 rfl) ?_
            refine lv_iload hx hb d_PanelMaker_pick_84 (lv_at hl 5 rfl) ?_
            refine n_icmp_gt (tgt := 144) hx hb (by omega) (by omega) d_PanelMaker_pick_86 (by decide) (fun c86 => ?_) (fun c86 => ?_)
            · have hj5 : pnl f3 np wz kz.toNat = (if 1000 ≤ fwD f3 np (np - (i2 + 1)) lf then -1 else pkD f3 np kz.toNat (np - (i2 + 1)) lf tk) := by rw [if_neg (by omega)] at hstep; rw [← ed, hstep, if_neg]; have h8 := fwD_keep (dy := f3) (n := np) (d := d) (w := lf) (by rw [ei2]; omega); omega
              refine lv_iinc (v := (nI (i2 + 1))) (lv' := [(6, .int (nI (i2 + 1))), (7, .int (nI (f3 i2))), (0, .ref hN), (1, .ref hQ), (2, .int (nI wz)), (3, .int (iI kz)), (4, .int (nI lf)), (5, .int (nI tk))]) hx hb d_PanelMaker_pick_144 hl (k := 7) rfl (nI_inc _ _ _ (by omega)) (by decide) rfl (fun ls hl => ?_)
              refine lv_goto (tgt := 38) hx hb d_PanelMaker_pick_147 (by decide) ?_
              exact ih38 (i2 + 1) lf tk _ _ _ (by omega) (by omega) (by omega) hj5 (by omega) hP hD hS (lv_sub hl [2, 3, 4, 5, 6, 7, 0] rfl)
            · have hr1 : fe2 ((i2 + 1) * 101 + (lf - f3 i2)) = fwD f3 np d (lf - f3 i2) := by rw [ed]; exact hA1 (i2 + 1) (Nat.zero_le _) (by omega) (lf - f3 i2) (by omega)
              have hl1 := fwD_le f3 np d (lf - f3 i2)
              refine lv_aload_n hx hb d_PanelMaker_pick_89 rfl (lv_at hl 1 rfl) ?_
              refine va_get (D := G) (ci := 5) (v := .ref aV) (C := R_PanelMaker) (T := F_PanelMaker) (N := 2) hx hb hts in_PanelMaker hown hK hP 0 rfl rfl 1 (by decide) (hts _ fl_PanelMaker_9) (fun _ h9 => h9) rfl d_PanelMaker_pick_90 ?_
              refine lv_iload hx hb d_PanelMaker_pick_93 (lv_at hl 7 rfl) ?_
              refine lv_iconst (v := (nI 1)) hx hb d_PanelMaker_pick_95 (by decide) ?_
              refine n_iadd hx hb d_PanelMaker_pick_96 ?_
              refine lv_bipush (v := (nI 101)) hx hb d_PanelMaker_pick_97 (by decide) ?_
              refine n_imul hx hb d_PanelMaker_pick_99 ?_
              refine lv_iload hx hb d_PanelMaker_pick_100 (lv_at hl 5 rfl) ?_
              refine n_iadd hx hb d_PanelMaker_pick_102 ?_
              refine lv_iload hx hb d_PanelMaker_pick_103 (lv_at hl 0 rfl) ?_
              refine n_isub hx hb (by omega) d_PanelMaker_pick_105 ?_
              refine top_i (show (nI ((((i2 + 1) * 101) + lf) - (f3 i2))) = (nI ((i2 + 1) * 101 + (lf - f3 i2))) from congrArg nI (by omega)) ?_
              refine n_iald hx hb hK hP 1 0 rfl rfl (by omega) (by omega) d_PanelMaker_pick_106 ?_
              refine top_i (show (nI (fe2 ((i2 + 1) * 101 + (lf - f3 i2)))) = (nI (fwD f3 np d (lf - f3 i2))) from congrArg nI hr1) ?_
              refine lv_iconst (v := (nI 1)) hx hb d_PanelMaker_pick_107 (by decide) ?_
              refine n_iadd hx hb d_PanelMaker_pick_108 ?_
              refine lv_aload_n hx hb d_PanelMaker_pick_109 rfl (lv_at hl 1 rfl) ?_
              refine va_get (D := G) (ci := 5) (v := .ref aV) (C := R_PanelMaker) (T := F_PanelMaker) (N := 2) hx hb hts in_PanelMaker hown hK hP 0 rfl rfl 1 (by decide) (hts _ fl_PanelMaker_9) (fun _ h9 => h9) rfl d_PanelMaker_pick_110 ?_
              refine lv_iload hx hb d_PanelMaker_pick_113 (lv_at hl 7 rfl) ?_
              refine lv_bipush (v := (nI 101)) hx hb d_PanelMaker_pick_115 (by decide) ?_
              refine n_imul hx hb d_PanelMaker_pick_117 ?_
              refine lv_iload hx hb d_PanelMaker_pick_118 (lv_at hl 5 rfl) ?_
              refine n_iadd hx hb d_PanelMaker_pick_120 ?_
              refine n_iald hx hb hK hP 1 0 rfl rfl (by omega) (by omega) d_PanelMaker_pick_121 ?_
              refine top_i (show (nI (fe2 ((i2 * 101) + lf))) = (nI (fwD f3 np (d + 1) lf)) from congrArg nI hr0) ?_
              refine n_icmp_ne (tgt := 144) hx hb (by omega) (by omega) d_PanelMaker_pick_122 (by decide) (fun c122 => ?_) (fun c122 => ?_)
              · have hj5 : pnl f3 np wz kz.toNat = (if 1000 ≤ fwD f3 np (np - (i2 + 1)) lf then -1 else pkD f3 np kz.toNat (np - (i2 + 1)) lf tk) := by rw [if_neg (by omega)] at hstep; rw [← ed, hstep, if_neg]; have h8 := fwD_keep (dy := f3) (n := np) (d := d) (w := lf) (by rw [ei2]; omega); omega
                refine lv_iinc (v := (nI (i2 + 1))) (lv' := [(6, .int (nI (i2 + 1))), (7, .int (nI (f3 i2))), (0, .ref hN), (1, .ref hQ), (2, .int (nI wz)), (3, .int (iI kz)), (4, .int (nI lf)), (5, .int (nI tk))]) hx hb d_PanelMaker_pick_144 hl (k := 7) rfl (nI_inc _ _ _ (by omega)) (by decide) rfl (fun ls hl => ?_)
                refine lv_goto (tgt := 38) hx hb d_PanelMaker_pick_147 (by decide) ?_
                exact ih38 (i2 + 1) lf tk _ _ _ (by omega) (by omega) (by omega) hj5 (by omega) hP hD hS (lv_sub hl [2, 3, 4, 5, 6, 7, 0] rfl)
              · rw [if_pos ⟨by omega, by omega⟩] at hstep
                refine lv_iload hx hb d_PanelMaker_pick_125 (lv_at hl 6 rfl) ?_
                refine lv_iload_n hx hb d_PanelMaker_pick_127 rfl (lv_at hl 4 rfl) ?_
                refine nz_icmp_ne (tgt := 134) hx hb (by omega) (by omega) d_PanelMaker_pick_128 (by decide) (fun c128 => ?_) (fun c128 => ?_)
                · refine lv_iinc (v := (nI (tk + 1))) (lv' := [(5, .int (nI (tk + 1))), (7, .int (nI (f3 i2))), (0, .ref hN), (1, .ref hQ), (2, .int (nI wz)), (3, .int (iI kz)), (4, .int (nI lf)), (6, .int (nI i2))]) hx hb d_PanelMaker_pick_134 hl (k := 6) rfl (nI_inc _ _ _ (by omega)) (by decide) rfl (fun ls hl => ?_)
                  refine lv_iload hx hb d_PanelMaker_pick_137 (lv_at hl 6 rfl) ?_
                  refine lv_iload hx hb d_PanelMaker_pick_139 (lv_at hl 1 rfl) ?_
                  refine n_isub hx hb (by omega) d_PanelMaker_pick_141 ?_
                  refine lv_istore (lv' := [(4, .int (nI (lf - (f3 i2)))), (5, .int (nI (tk + 1))), (7, .int (nI (f3 i2))), (0, .ref hN), (1, .ref hQ), (2, .int (nI wz)), (3, .int (iI kz)), (6, .int (nI i2))]) hx hb d_PanelMaker_pick_142 hl (by decide) rfl (fun ls hl => ?_)
                  have hj5 : pnl f3 np wz kz.toNat = (if 1000 ≤ fwD f3 np (np - (i2 + 1)) (lf - f3 i2) then -1 else pkD f3 np kz.toNat (np - (i2 + 1)) (lf - f3 i2) (tk + 1)) := by rw [if_neg (by omega)] at hstep; rw [← ed, hstep, if_neg (by omega)]
                  refine lv_iinc (v := (nI (i2 + 1))) (lv' := [(6, .int (nI (i2 + 1))), (4, .int (nI (lf - (f3 i2)))), (5, .int (nI (tk + 1))), (7, .int (nI (f3 i2))), (0, .ref hN), (1, .ref hQ), (2, .int (nI wz)), (3, .int (iI kz))]) hx hb d_PanelMaker_pick_144 hl (k := 7) rfl (nI_inc _ _ _ (by omega)) (by decide) rfl (fun ls hl => ?_)
                  refine lv_goto (tgt := 38) hx hb d_PanelMaker_pick_147 (by decide) ?_
                  exact ih38 (i2 + 1) (lf - (f3 i2)) (tk + 1) _ _ _ (by omega) (by omega) (by omega) hj5 (by omega) hP hD hS (lv_sub hl [4, 5, 6, 7, 1, 2, 0] rfl)
                · refine lv_iload hx hb d_PanelMaker_pick_131 (lv_at hl 7 rfl) ?_
                  refine W.widen (k := bN) (n := sN) (by omega) (by omega) ?_
                  exact W.iret (v := (nI i2)) hx hb hr (fun t9 ht hW => ⟨⟨_, (aV, fe2), rfl, ⟨by rw [hstep, if_pos (by omega), nI_iI], trivial⟩, by rw [ht]; exact hP, hD⟩, hS.F ht⟩) hS.2.2 d_PanelMaker_pick_133
  exact L38 (np - 0 + 1) 0 wz 0 _ _ _ (Nat.zero_le _) (Nat.le_refl _) (Nat.le_refl _) (by rw [Nat.sub_zero]; rfl) (Nat.lt_succ_self _) hP hD hS (lv_sub hl [3, 4, 5, 6, 2, 1, 0] rfl)
