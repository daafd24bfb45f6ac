theorem fl_Cutter_11 : Cond.fieldLink R_Cutter 11 "FaultRips$Cutter" "tables" "[[J" ∈ TB := mem_TB 140 (by decide +kernel) (by decide +kernel)
theorem fl_Cutter_16 : Cond.fieldLink R_Cutter 16 "FaultRips$Cutter" "rest" "[J" ∈ TB := mem_TB 141 (by decide +kernel) (by decide +kernel)
theorem lk_Cutter_154 : Cond.methodLink R_Cutter 154 y_Cutter_placeOf ∈ TB := mem_TB 661 (by decide +kernel) (by decide +kernel)
theorem lk_Cutter_158 : Cond.methodLink R_Cutter 158 y_Cutter_mayCut ∈ TB := mem_TB 665 (by decide +kernel) (by decide +kernel)
theorem nst_Cutter_104 : (R_Cutter, 104, y_Rips_spanOf) ∈ nests := by decide +kernel

/-- what a segment is worth by the table under it; which may be cut -/
def sg (u : Nat → Int) (sA ax ot : Nat) (b n : Nat) : Int := u (plc sA ax (n * (n - 1) / 2 + b) ot)
def okc (lv tp : Nat) (ob : Nat → Bool) (n : Nat) : Bool := decide (lv < tp) || ob n
theorem plc_step {sA ax ot b n : Nat} (h : 1 ≤ n) : plc sA ax (n * (n - 1) / 2 + b) ot + n * (if ax = 0 then sA else 1) = plc sA ax ((n + 1) * (n + 1 - 1) / 2 + b) ot := by
  have e : (n + 1) * (n + 1 - 1) / 2 = n * (n - 1) / 2 + n := by
    obtain ⟨k, rfl⟩ : ∃ k, n = k + 1 := ⟨n - 1, by omega⟩
    rw [Nat.add_sub_cancel, Nat.add_sub_cancel, show k + 1 + 1 = k + 2 from rfl, Nat.mul_comm (k + 2), Nat.mul_add (k + 1) k 2]
    omega
  unfold plc
  rw [e]
  have h2 : (n * (n - 1) / 2 + n + b) * (if ax = 0 then sA else 1) = (n * (n - 1) / 2 + b) * (if ax = 0 then sA else 1) + n * (if ax = 0 then sA else 1) := by
    rw [show n * (n - 1) / 2 + n + b = (n * (n - 1) / 2 + b) + n from by omega]
    exact Nat.add_mul _ _ _
  rw [h2]
  exact Nat.add_right_comm _ _ _
theorem plc_ne {sA ax ot s1 s2 : Nat} (h : 1 ≤ sA) (hn : s1 ≠ s2) : plc sA ax s1 ot ≠ plc sA ax s2 ot := by
  unfold plc
  intro q
  have q2 : s1 * (if ax = 0 then sA else 1) = s2 * (if ax = 0 then sA else 1) := by omega
  exact hn (Nat.eq_of_mul_eq_mul_right (by split <;> omega) q2)
theorem dpV_b {seg : Nat → Nat → Int} {ok : Nat → Bool} {e b : Nat} (hb : b ≤ e) (h : ∀ i j, i < j → j ≤ e → 0 ≤ seg i j ∧ seg i j ≤ 100000000000000) : 0 ≤ dpV seg ok b e ∧ dpV seg ok b e ≤ 100000000000000 * ((e - b : Nat) : Int) :=
  ⟨dpV_nonneg _ b rfl hb, dpV_le (by omega) _ b rfl hb (fun i j h1 h2 h3 => by have q := (h i j h2 h3).2; omega)⟩
theorem dpS_top {seg : Nat → Nat → Int} {ok : Nat → Bool} {re : Nat → Int} {e b : Nat} (hb : b < e) (hr : ∀ p, b + 1 ≤ p → p ≤ e → re p = dpV seg ok p e) : dpS seg ok re b (re (b + 1)) (e - b) = dpV seg ok b e := by
  rw [dpV_step hb, hr (b + 1) (Nat.le_refl _) hb]
  exact dpS_congr _ (fun _ _ => rfl) (fun j hj => hr _ (by omega) (by omega))
theorem dpS_bd {seg : Nat → Nat → Int} {ok : Nat → Bool} {re : Nat → Int} {e b n : Nat} (he : e ≤ 24) (hn : b + n ≤ e) (hbe : b < e) (hr : ∀ p, b + 1 ≤ p → p ≤ e → re p = dpV seg ok p e) (h : ∀ i j, i < j → j ≤ e → 0 ≤ seg i j ∧ seg i j ≤ 100000000000000) : 0 ≤ dpS seg ok re b (re (b + 1)) n ∧ dpS seg ok re b (re (b + 1)) n ≤ 2600000000000000 := by
  have h0 := hr (b + 1) (Nat.le_refl _) hbe
  have h1 := dpV_b (ok := ok) (show b + 1 ≤ e by omega) h
  refine ⟨Int.le_trans (by omega) (dpS_ge n), dpS_le n (by omega) (fun j hj => ?_)⟩
  have h2 := h b (b + 1 + j) (by omega) (by omega)
  have h3 := dpV_b (ok := ok) (show b + 1 + j ≤ e by omega) h
  rw [hr (b + 1 + j) (by omega) (by omega)]
  omega

abbrev q_fillTo1 (G : va_G) (ty : Nat → ClassId) (hC : Nat) (hB : Nat) (hT : Nat) (sA : Nat) (aZ : Nat) (aE : Nat) (tx : Nat) (tp : Nat) (tb : Int32) (ax : Nat) (ot : Nat) (en : Nat) (nT : Nat) (nb : Nat) (fZ : Nat → Option Nat) (aL : Nat → Nat) (u : Nat → Int) (t : Nat → Int) (re : Nat → Int) (ob : Nat → Bool) (A : Nat → Prop) : Array Value → State → Outcome → State → Prop := va_Qv (fun (uu : (Nat → Int) × (Nat → Int)) => (∀ p, p < en → uu.1 (plc sA ax (en * (en - 1) / 2 + p) ot) = dpV (sg u sA ax ot) (okc 1 tp ob) p en) ∧ (∀ q, (∀ p, p < en → q ≠ plc sA ax (en * (en - 1) / 2 + p) ot) → uu.1 q = t q)) (at_W G (fun (uu : (Nat → Int) × (Nat → Int)) => [(hC, .inr (1, [.ref hB, .ref hT, .int (nI sA), .ref aZ, .ref aE, .int (nI tx), .int (nI tp), .int tb])), (aZ, .inl (ty 6, 4, .inr (.inr (.inr (.inr fZ))))), (aL 0, .inl (ty 1, nT, .inr (.inl (lF u)))), (aL 1, .inl (ty 1, nT, .inr (.inl (lF uu.1)))), (aE, .inl (ty 1, 25, .inr (.inl (lF uu.2))))]) A) A
set_option maxRecDepth 100000 in
set_option maxHeartbeats 4000000 in
theorem c_fillTo1 (l : Launch) (G : va_G) (ty : Nat → ClassId) (sz : Nat) (hC : Nat) (hB : Nat) (hT : Nat) (sA : Nat) (aZ : Nat) (aE : Nat) (tx : Nat) (tp : Nat) (tb : Int32) (ax : Nat) (ot : Nat) (en : Nat) (nT : Nat) (nb : Nat) (fZ : Nat → Option Nat) (aL : Nat → Nat) (u : Nat → Int) (t : Nat → Int) (re : Nat → Int) (ob : Nat → Bool) (gl : ∀ i, i < 4 → fZ i = some (aL i)) (g1 : ax ≤ 1) (g2 : 1 ≤ en) (g3 : en ≤ 24) (g4 : nT ≤ 100000) (g5 : tp ≤ 3) (g6 : nb ≤ 25) (g7 : 1 ≤ tp) (g9 : 1 < tp ∨ en < nb) (gb : tb = Mk ob nb) (gA : 1 ≤ sA) (gP : ∀ b n, b < n → n ≤ en → plc sA ax (n * (n - 1) / 2 + b) ot < nT) (gu : ∀ b n, b < n → n ≤ en → 0 ≤ (sg u sA ax ot) b n ∧ (sg u sA ax ot) b n ≤ 100000000000000) : Met l y_Cutter_fillTo ws_Cutter_fillTo { frames := 2, cells := 0, slots := 0, locals := 44 } (va_Pc [.ref hC, .int (nI 1), .int (nI ax), .int (nI ot), .int (nI en)] (fun U => U.heap.size = sz ∧ va_P G vwCl [(hC, .inr (1, [.ref hB, .ref hT, .int (nI sA), .ref aZ, .ref aE, .int (nI tx), .int (nI tp), .int tb])), (aZ, .inl (ty 6, 4, .inr (.inr (.inr (.inr fZ))))), (aL 0, .inl (ty 1, nT, .inr (.inl (lF u)))), (aL 1, .inl (ty 1, nT, .inr (.inl (lF t)))), (aE, .inl (ty 1, 25, .inr (.inl (lF re))))] U.heap ∧ KX G ty U ∧ va_D (fun _ => True) [(hC, .inr (1, [.ref hB, .ref hT, .int (nI sA), .ref aZ, .ref aE, .int (nI tx), .int (nI tp), .int tb])), (aZ, .inl (ty 6, 4, .inr (.inr (.inr (.inr fZ))))), (aL 0, .inl (ty 1, nT, .inr (.inl (lF u)))), (aL 1, .inl (ty 1, nT, .inr (.inl (lF t)))), (aE, .inl (ty 1, 25, .inr (.inl (lF re))))])) (q_fillTo1 G ty hC hB hT sA aZ aE tx tp tb ax ot en nT nb fZ aL u t re ob (va_A [(hC, .inr (1, [.ref hB, .ref hT, .int (nI sA), .ref aZ, .ref aE, .int (nI tx), .int (nI tp), .int tb])), (aZ, .inl (ty 6, 4, .inr (.inr (.inr (.inr fZ))))), (aL 0, .inl (ty 1, nT, .inr (.inl (lF u)))), (aL 1, .inl (ty 1, nT, .inr (.inl (lF t)))), (aE, .inl (ty 1, 25, .inr (.inl (lF re))))] sz)) 0 0 (va_A [(hC, .inr (1, [.ref hB, .ref hT, .int (nI sA), .ref aZ, .ref aE, .int (nI tx), .int (nI tp), .int tb])), (aZ, .inl (ty 6, 4, .inr (.inr (.inr (.inr fZ))))), (aL 0, .inl (ty 1, nT, .inr (.inl (lF u)))), (aL 1, .inl (ty 1, nT, .inr (.inl (lF t)))), (aE, .inl (ty 1, 25, .inr (.inl (lF re))))] sz) := by
  refine met_wr (y := y_Cutter_fillTo) (maxL := 15) (sz := sz) (G := G) (ty := ty) (mc := 0) (ms := 0) (av := [.ref hC, .int (nI 1), .int (nI ax), .int (nI ot), .int (nI en)]) (W0 := [(hC, .inr (1, [.ref hB, .ref hT, .int (nI sA), .ref aZ, .ref aE, .int (nI tx), .int (nI tp), .int tb])), (aZ, .inl (ty 6, 4, .inr (.inr (.inr (.inr fZ))))), (aL 0, .inl (ty 1, nT, .inr (.inl (lF u)))), (aL 1, .inl (ty 1, nT, .inr (.inl (lF t)))), (aE, .inl (ty 1, 25, .inr (.inl (lF re))))]) (fun A => q_fillTo1 G ty hC hB hT sA aZ aE tx tp tb ax ot en nT nb fZ aL u t re ob A) R_Cutter (by decide) rfl rfl (Nat.le_of_ble_eq_true rfl) ?_
  intro p e s m below meth c ls A hx hb hr hml hown hts hlocks hin hA hP hX hD hS hl
  have hK := hX.1
  have hl : lv_has ls 15 [(0, .ref hC), (1, .int (nI 1)), (2, .int (nI ax)), (3, .int (nI ot)), (4, .int (nI en))] := hl
  obtain ⟨sd, esd⟩ : ∃ sd, sd = (if ax = 0 then sA else 1) := ⟨_, rfl⟩
  refine lv_aload_n hx hb d_Cutter_fillTo_0 rfl (lv_at hl 0 rfl) ?_
  refine va_get (D := G) (ci := 1) (v := .ref aZ) (C := R_Cutter) (T := F_Cutter) (N := 8) hx hb hts in_Cutter hown hK hP 0 rfl rfl 3 (by decide) (hts _ fl_Cutter_11) (fun _ h9 => h9) rfl d_Cutter_fillTo_1 ?_
  refine lv_iload_n hx hb d_Cutter_fillTo_4 rfl (lv_at hl 1 rfl) ?_
  refine lv_iconst (v := (nI 1)) hx hb d_Cutter_fillTo_5 (by decide) ?_
  refine n_isub hx hb (by omega) d_Cutter_fillTo_6 ?_
  refine top_i (show (nI (1 - 1)) = nI 0 from rfl) ?_
  refine n_aaldA hx hb hK hP 1 6 rfl rfl (by omega) (by omega) (gl 0 (by omega)) d_Cutter_fillTo_7 ?_
  refine lv_astore (lv' := [(5, .ref (aL 0)), (0, .ref hC), (1, .int (nI 1)), (2, .int (nI ax)), (3, .int (nI ot)), (4, .int (nI en))]) hx hb d_Cutter_fillTo_8 hl (by decide) rfl (fun ls hl => ?_)
  refine lv_aload_n hx hb d_Cutter_fillTo_10 rfl (lv_at hl 1 rfl) ?_
  refine va_get (D := G) (ci := 1) (v := .ref aZ) (C := R_Cutter) (T := F_Cutter) (N := 8) hx hb hts in_Cutter hown hK hP 0 rfl rfl 3 (by decide) (hts _ fl_Cutter_11) (fun _ h9 => h9) rfl d_Cutter_fillTo_11 ?_
  refine lv_iload_n hx hb d_Cutter_fillTo_14 rfl (lv_at hl 2 rfl) ?_
  refine n_aaldA hx hb hK hP 1 6 rfl rfl (by omega) (by omega) (gl 1 (by omega)) d_Cutter_fillTo_15 ?_
  refine lv_astore (lv' := [(6, .ref (aL 1)), (5, .ref (aL 0)), (0, .ref hC), (1, .int (nI 1)), (2, .int (nI ax)), (3, .int (nI ot)), (4, .int (nI en))]) hx hb d_Cutter_fillTo_16 hl (by decide) rfl (fun ls hl => ?_)
  refine lv_aload_n hx hb d_Cutter_fillTo_18 rfl (lv_at hl 2 rfl) ?_
  refine lv_iload_n hx hb d_Cutter_fillTo_19 rfl (lv_at hl 4 rfl) ?_
  refine vp_callSi (W.runV (As := [.int (nI ax)]) (rest := []) ⟨hx, hb, hml, hown, hts⟩ (c_Cutter_strideOf l G ty hC hB hT sA aZ aE tx tp tb ax (by omega)) ⟨callB_of 1 hts (gd_TB cd_Cutter_strideOf) rfl rfl rfl (hts _ ini_Cutter) (hts _ lk_Cutter_141) hd_Cutter_strideOf ⟨Nat.le_of_ble_eq_true rfl, Nat.le_of_ble_eq_true rfl⟩, hts _ im_Cutter_strideOf, hts _ sl_Cutter_strideOf⟩ (preV_ro (hP.sub (ws' := [(hC, .inr (1, [.ref hB, .ref hT, .int (nI sA), .ref aZ, .ref aE, .int (nI tx), .int (nI tp), .int tb]))]) [0] rfl) hX 0 rfl rfl) rfl rfl hl.1 rfl (lv_room (Nat.le_of_ble_eq_true rfl)) d_Cutter_fillTo_20 ⟨Nat.le_of_ble_eq_true rfl, Nat.le_of_ble_eq_true rfl⟩) (fun r9 er9 => ?_)
  subst er9
  refine top_i (show (nI (if ax = 0 then sA else 1)) = (nI sd) from congrArg nI esd.symm) ?_
  refine lv_istore (lv' := [(7, .int (nI sd)), (6, .ref (aL 1)), (5, .ref (aL 0)), (0, .ref hC), (1, .int (nI 1)), (2, .int (nI ax)), (3, .int (nI ot)), (4, .int (nI en))]) hx hb d_Cutter_fillTo_23 hl (by decide) rfl (fun ls hl => ?_)
  refine lv_aload_n hx hb d_Cutter_fillTo_25 rfl (lv_at hl 3 rfl) ?_
  refine va_get (D := G) (ci := 1) (v := .ref aE) (C := R_Cutter) (T := F_Cutter) (N := 8) hx hb hts in_Cutter hown hK hP 0 rfl rfl 4 (by decide) (hts _ fl_Cutter_16) (fun _ h9 => h9) rfl d_Cutter_fillTo_26 ?_
  refine lv_iload hx hb d_Cutter_fillTo_29 (lv_at hl 7 rfl) ?_
  refine lv_lconst (v := iL 0) hx hb d_Cutter_fillTo_31 (by decide) ?_
  refine n_last hx hb hK hP hD hS 4 1 rfl rfl (by omega) (by omega) d_Cutter_fillTo_32 (fun H locs hP hD hS => ?_)
  rw [upd_lF] at hP hD
  have hP : va_P G vwCl [(hC, .inr (1, [.ref hB, .ref hT, .int (nI sA), .ref aZ, .ref aE, .int (nI tx), .int (nI tp), .int tb])), (aZ, .inl (ty 6, 4, .inr (.inr (.inr (.inr fZ))))), (aL 0, .inl (ty 1, nT, .inr (.inl (lF u)))), (aL 1, .inl (ty 1, nT, .inr (.inl (lF t)))), (aE, .inl (ty 1, 25, .inr (.inl (lF (va_up re en 0)))))] _ := hP
  have hD : va_D A [(hC, .inr (1, [.ref hB, .ref hT, .int (nI sA), .ref aZ, .ref aE, .int (nI tx), .int (nI tp), .int tb])), (aZ, .inl (ty 6, 4, .inr (.inr (.inr (.inr fZ))))), (aL 0, .inl (ty 1, nT, .inr (.inl (lF u)))), (aL 1, .inl (ty 1, nT, .inr (.inl (lF t)))), (aE, .inl (ty 1, 25, .inr (.inl (lF (va_up re en 0)))))] := hD
  refine lv_iload hx hb d_Cutter_fillTo_33 (lv_at hl 7 rfl) ?_
  refine lv_iconst (v := (nI 1)) hx hb d_Cutter_fillTo_35 (by decide) ?_
  refine nzz_isub hx hb d_Cutter_fillTo_36 ?_
  refine lv_istore (lv' := [(8, .int (iI ((en : Nat) - ((1 : Nat) : Int)))), (7, .int (nI sd)), (6, .ref (aL 1)), (5, .ref (aL 0)), (0, .ref hC), (1, .int (nI 1)), (2, .int (nI ax)), (3, .int (nI ot)), (4, .int (nI en))]) hx hb d_Cutter_fillTo_37 hl (by decide) rfl (fun ls hl => ?_)
  have L39 : ∀ (k9 : Nat) (b : Nat) (t2 : Nat → Int) (re2 : Nat → Int) (H : Heap) (locs : List Loc) (ls : Array Slot), (b ≤ en) → (∀ p, b ≤ p → p ≤ en → re2 p = dpV (sg u sA ax ot) (okc 1 tp ob) p en) → (∀ p, b ≤ p → p < en → t2 (plc sA ax (en * (en - 1) / 2 + p) ot) = dpV (sg u sA ax ot) (okc 1 tp ob) p en) → (∀ q, (∀ p, p < en → q ≠ plc sA ax (en * (en - 1) / 2 + p) ot) → t2 q = t q) → b < k9 → va_P G vwCl [(hC, .inr (1, [.ref hB, .ref hT, .int (nI sA), .ref aZ, .ref aE, .int (nI tx), .int (nI tp), .int tb])), (aZ, .inl (ty 6, 4, .inr (.inr (.inr (.inr fZ))))), (aL 0, .inl (ty 1, nT, .inr (.inl (lF u)))), (aL 1, .inl (ty 1, nT, .inr (.inl (lF t2)))), (aE, .inl (ty 1, 25, .inr (.inl (lF re2))))] H → va_D A [(hC, .inr (1, [.ref hB, .ref hT, .int (nI sA), .ref aZ, .ref aE, .int (nI tx), .int (nI tp), .int tb])), (aZ, .inl (ty 6, 4, .inr (.inr (.inr (.inr fZ))))), (aL 0, .inl (ty 1, nT, .inr (.inl (lF u)))), (aL 1, .inl (ty 1, nT, .inr (.inl (lF t2)))), (aE, .inl (ty 1, 25, .inr (.inl (lF re2))))] → va_S A s.heap H locs → lv_has ls 15 [(0, .ref hC), (1, .int (nI 1)), (2, .int (nI ax)), (3, .int (nI ot)), (4, .int (nI en)), (5, .ref (aL 0)), (6, .ref (aL 1)), (7, .int (nI sd)), (8, .int (iI (((b : Nat) : Int) - ((1 : Nat) : Int))))] → W p l e { frames := 2, cells := 0, slots := 0, locals := 44 } s m [.ref hC, .int (nI 1), .int (nI ax), .int (nI ot), .int (nI en)].toArray below meth c H locs 0 0 (MQ below (q_fillTo1 G ty hC hB hT sA aZ aE tx tp tb ax ot en nT nb fZ aL u t re ob A) [.ref hC, .int (nI 1), .int (nI ax), .int (nI ot), .int (nI en)].toArray s 0 0 A) (F0 m 39 ls []) := by
    intro k9
    induction k9 with
    | zero => intro b t2 re2 H locs ls hb0 hR hTt hF hk9; exact absurd hk9 (Nat.not_lt_zero _)
    | succ k9 ih39 =>
      intro b t2 re2 H locs ls hb0 hR hTt hF hk9 hP hD hS hl
      refine lv_iload hx hb d_Cutter_fillTo_39 (lv_at hl 8 rfl) ?_
      refine z_if_lt (tgt := 189) hx hb (by omega) d_Cutter_fillTo_41 (by decide) (fun c41 => ?_) (fun c41 => ?_)
      · exact W.vret hx hb hr (fun t9 ht hW => ⟨⟨(t2, re2), rfl, ⟨fun p h => hTt p (by omega) h, hF⟩, by rw [ht]; exact hP, hD⟩, hS.F ht⟩) hS.2.2 d_Cutter_fillTo_189
      · obtain ⟨b1, rfl⟩ : ∃ b1, b = b1 + 1 := ⟨b - 1, by omega⟩
        have hl : lv_has ls 15 [(0, .ref hC), (1, .int (nI 1)), (2, .int (nI ax)), (3, .int (nI ot)), (4, .int (nI en)), (5, .ref (aL 0)), (6, .ref (aL 1)), (7, .int (nI sd)), (8, .int (nI b1))] := by rw [show (nI b1) = (iI (((b1 + 1 : Nat) : Int) - ((1 : Nat) : Int))) from by rw [nI_iI]; congr 1; omega]; exact hl
        have hbt := gP b1 en (by omega) (Nat.le_refl _)
        refine lv_aload_n hx hb d_Cutter_fillTo_44 rfl (lv_at hl 0 rfl) ?_
        refine va_get (D := G) (ci := 1) (v := .ref aE) (C := R_Cutter) (T := F_Cutter) (N := 8) hx hb hts in_Cutter hown hK hP 0 rfl rfl 4 (by decide) (hts _ fl_Cutter_16) (fun _ h9 => h9) rfl d_Cutter_fillTo_45 ?_
        refine lv_iload hx hb d_Cutter_fillTo_48 (lv_at hl 8 rfl) ?_
        refine lv_iconst (v := (nI 1)) hx hb d_Cutter_fillTo_50 (by decide) ?_
        refine n_iadd hx hb d_Cutter_fillTo_51 ?_
        refine n_lald hx hb hK hP 4 1 rfl rfl (by omega) (by omega) d_Cutter_fillTo_52 ?_
        refine lv_lstore (lv' := [(9, .long (iL (re2 (b1 + 1)))), (0, .ref hC), (1, .int (nI 1)), (2, .int (nI ax)), (3, .int (nI ot)), (4, .int (nI en)), (5, .ref (aL 0)), (6, .ref (aL 1)), (7, .int (nI sd)), (8, .int (nI b1))]) hx hb d_Cutter_fillTo_53 hl (by decide) rfl (fun ls hl => ?_)
        refine lv_aload_n hx hb d_Cutter_fillTo_55 rfl (lv_at hl 1 rfl) ?_
        refine lv_iload_n hx hb d_Cutter_fillTo_56 rfl (lv_at hl 3 rfl) ?_
        refine lv_iload hx hb d_Cutter_fillTo_57 (lv_at hl 9 rfl) ?_
        refine lv_iload hx hb d_Cutter_fillTo_59 (lv_at hl 9 rfl) ?_
        refine lv_iconst (v := (nI 1)) hx hb d_Cutter_fillTo_61 (by decide) ?_
        refine n_iadd hx hb d_Cutter_fillTo_62 ?_
        refine nest_Rips_spanOf (G := G) (ty := ty) hx hb hml hown hts hX nst_Cutter_104 hl.1 (by omega) (by omega) (by omega) (lv_room (Nat.le_of_ble_eq_true rfl)) ⟨Nat.le_of_ble_eq_true rfl, Nat.le_of_ble_eq_true rfl⟩ ⟨Nat.le_of_ble_eq_true rfl, Nat.le_of_ble_eq_true rfl⟩ d_Cutter_fillTo_63 ?_
        refine lv_iload_n hx hb d_Cutter_fillTo_66 rfl (lv_at hl 4 rfl) ?_
        refine vp_callSi (W.runV (As := [.int (nI ax), .int (nI ((b1 + 1) * ((b1 + 1) - 1) / 2 + b1)), .int (nI ot)]) (rest := []) ⟨hx, hb, hml, hown, hts⟩ (c_Cutter_placeOf l G ty hC hB hT sA aZ aE tx tp tb ax ((b1 + 1) * ((b1 + 1) - 1) / 2 + b1) ot (by omega)) ⟨callB_of 3 hts (gd_TB cd_Cutter_placeOf) rfl rfl rfl (hts _ ini_Cutter) (hts _ lk_Cutter_154) hd_Cutter_placeOf ⟨Nat.le_of_ble_eq_true rfl, Nat.le_of_ble_eq_true rfl⟩, hts _ im_Cutter_placeOf, hts _ sl_Cutter_placeOf⟩ (preV_ro (hP.sub (ws' := [(hC, .inr (1, [.ref hB, .ref hT, .int (nI sA), .ref aZ, .ref aE, .int (nI tx), .int (nI tp), .int tb]))]) [0] rfl) hX 0 rfl rfl) rfl rfl hl.1 rfl (lv_room (Nat.le_of_ble_eq_true rfl)) d_Cutter_fillTo_67 ⟨Nat.le_of_ble_eq_true rfl, Nat.le_of_ble_eq_true rfl⟩) (fun r9 er9 => ?_)
        subst er9
        refine lv_istore (lv' := [(11, .int (nI (plc sA ax ((b1 + 1) * ((b1 + 1) - 1) / 2 + b1) ot))), (9, .long (iL (re2 (b1 + 1)))), (0, .ref hC), (1, .int (nI 1)), (2, .int (nI ax)), (3, .int (nI ot)), (4, .int (nI en)), (5, .ref (aL 0)), (6, .ref (aL 1)), (7, .int (nI sd)), (8, .int (nI b1))]) hx hb d_Cutter_fillTo_70 hl (by decide) rfl (fun ls hl => ?_)
        refine lv_iload hx hb d_Cutter_fillTo_72 (lv_at hl 10 rfl) ?_
        refine lv_iconst (v := (nI 1)) hx hb d_Cutter_fillTo_74 (by decide) ?_
        refine n_iadd hx hb d_Cutter_fillTo_75 ?_
        refine lv_istore (lv' := [(12, .int (nI (b1 + 1))), (11, .int (nI (plc sA ax ((b1 + 1) * ((b1 + 1) - 1) / 2 + b1) ot))), (9, .long (iL (re2 (b1 + 1)))), (0, .ref hC), (1, .int (nI 1)), (2, .int (nI ax)), (3, .int (nI ot)), (4, .int (nI en)), (5, .ref (aL 0)), (6, .ref (aL 1)), (7, .int (nI sd)), (8, .int (nI b1))]) hx hb d_Cutter_fillTo_76 hl (by decide) rfl (fun ls hl => ?_)
        have L78 : ∀ (k9 : Nat) (n1 : Nat) (H : Heap) (locs : List Loc) (ls : Array Slot), (b1 + n1 ≤ en) → en + 1 - (b1 + n1) < k9 → va_P G vwCl [(hC, .inr (1, [.ref hB, .ref hT, .int (nI sA), .ref aZ, .ref aE, .int (nI tx), .int (nI tp), .int tb])), (aZ, .inl (ty 6, 4, .inr (.inr (.inr (.inr fZ))))), (aL 0, .inl (ty 1, nT, .inr (.inl (lF u)))), (aL 1, .inl (ty 1, nT, .inr (.inl (lF t2)))), (aE, .inl (ty 1, 25, .inr (.inl (lF re2))))] H → va_D A [(hC, .inr (1, [.ref hB, .ref hT, .int (nI sA), .ref aZ, .ref aE, .int (nI tx), .int (nI tp), .int tb])), (aZ, .inl (ty 6, 4, .inr (.inr (.inr (.inr fZ))))), (aL 0, .inl (ty 1, nT, .inr (.inl (lF u)))), (aL 1, .inl (ty 1, nT, .inr (.inl (lF t2)))), (aE, .inl (ty 1, 25, .inr (.inl (lF re2))))] → va_S A s.heap H locs → lv_has ls 15 [(0, .ref hC), (1, .int (nI 1)), (2, .int (nI ax)), (3, .int (nI ot)), (4, .int (nI en)), (5, .ref (aL 0)), (6, .ref (aL 1)), (7, .int (nI sd)), (8, .int (nI b1)), (9, .long (iL (dpS (sg u sA ax ot) (okc 1 tp ob) re2 b1 (re2 (b1 + 1)) n1))), (11, .int (nI (plc sA ax ((b1 + 1 + n1) * ((b1 + 1 + n1) - 1) / 2 + b1) ot))), (12, .int (nI (b1 + 1 + n1)))] → W p l e { frames := 2, cells := 0, slots := 0, locals := 44 } s m [.ref hC, .int (nI 1), .int (nI ax), .int (nI ot), .int (nI en)].toArray below meth c H locs 0 0 (MQ below (q_fillTo1 G ty hC hB hT sA aZ aE tx tp tb ax ot en nT nb fZ aL u t re ob A) [.ref hC, .int (nI 1), .int (nI ax), .int (nI ot), .int (nI en)].toArray s 0 0 A) (F0 m 78 ls []) := by
          intro k9
          induction k9 with
          | zero => intro n1 H locs ls hn1 hk9; exact absurd hk9 (Nat.not_lt_zero _)
          | succ k9 ih78 =>
            intro n1 H locs ls hn1 hk9 hP hD hS hl
            refine lv_iload hx hb d_Cutter_fillTo_78 (lv_at hl 11 rfl) ?_
            refine lv_iload hx hb d_Cutter_fillTo_80 (lv_at hl 4 rfl) ?_
            refine n_icmp_gt (tgt := 156) hx hb (by omega) (by omega) d_Cutter_fillTo_82 (by decide) (fun c82 => ?_) (fun c82 => ?_)
            · have en1 : n1 = en - b1 := by omega
              have hbst : dpS (sg u sA ax ot) (okc 1 tp ob) re2 b1 (re2 (b1 + 1)) n1 = dpV (sg u sA ax ot) (okc 1 tp ob) b1 en := by rw [en1]; exact dpS_top (by omega) (fun p h1 h2 => hR p h1 h2)
              have hl : lv_has ls 15 [(0, .ref hC), (1, .int (nI 1)), (2, .int (nI ax)), (3, .int (nI ot)), (4, .int (nI en)), (5, .ref (aL 0)), (6, .ref (aL 1)), (7, .int (nI sd)), (8, .int (nI b1)), (9, .long (iL (dpV (sg u sA ax ot) (okc 1 tp ob) b1 en))), (11, .int (nI (plc sA ax ((b1 + 1 + n1) * ((b1 + 1 + n1) - 1) / 2 + b1) ot))), (12, .int (nI (b1 + 1 + n1)))] := by rw [show (iL (dpV (sg u sA ax ot) (okc 1 tp ob) b1 en)) = (iL (dpS (sg u sA ax ot) (okc 1 tp ob) re2 b1 (re2 (b1 + 1)) n1)) from congrArg iL hbst.symm]; exact hl
              refine lv_aload_n hx hb d_Cutter_fillTo_156 rfl (lv_at hl 0 rfl) ?_
              refine va_get (D := G) (ci := 1) (v := .ref aE) (C := R_Cutter) (T := F_Cutter) (N := 8) hx hb hts in_Cutter hown hK hP 0 rfl rfl 4 (by decide) (hts _ fl_Cutter_16) (fun _ h9 => h9) rfl d_Cutter_fillTo_157 ?_
              refine lv_iload hx hb d_Cutter_fillTo_160 (lv_at hl 8 rfl) ?_
              refine lv_lload hx hb d_Cutter_fillTo_162 (lv_at hl 9 rfl) ?_
              refine n_last hx hb hK hP hD hS 4 1 rfl rfl (by omega) (by omega) d_Cutter_fillTo_164 (fun H locs hP hD hS => ?_)
              rw [upd_lF] at hP hD
              have hP : va_P G vwCl [(hC, .inr (1, [.ref hB, .ref hT, .int (nI sA), .ref aZ, .ref aE, .int (nI tx), .int (nI tp), .int tb])), (aZ, .inl (ty 6, 4, .inr (.inr (.inr (.inr fZ))))), (aL 0, .inl (ty 1, nT, .inr (.inl (lF u)))), (aL 1, .inl (ty 1, nT, .inr (.inl (lF t2)))), (aE, .inl (ty 1, 25, .inr (.inl (lF (va_up re2 b1 (dpV (sg u sA ax ot) (okc 1 tp ob) b1 en))))))] _ := hP
              have hD : va_D A [(hC, .inr (1, [.ref hB, .ref hT, .int (nI sA), .ref aZ, .ref aE, .int (nI tx), .int (nI tp), .int tb])), (aZ, .inl (ty 6, 4, .inr (.inr (.inr (.inr fZ))))), (aL 0, .inl (ty 1, nT, .inr (.inl (lF u)))), (aL 1, .inl (ty 1, nT, .inr (.inl (lF t2)))), (aE, .inl (ty 1, 25, .inr (.inl (lF (va_up re2 b1 (dpV (sg u sA ax ot) (okc 1 tp ob) b1 en))))))] := hD
              refine lv_aload hx hb d_Cutter_fillTo_165 (lv_at hl 6 rfl) ?_
              refine lv_aload_n hx hb d_Cutter_fillTo_167 rfl (lv_at hl 0 rfl) ?_
              refine lv_iload_n hx hb d_Cutter_fillTo_168 rfl (lv_at hl 2 rfl) ?_
              refine lv_iload hx hb d_Cutter_fillTo_169 (lv_at hl 8 rfl) ?_
              refine lv_iload hx hb d_Cutter_fillTo_171 (lv_at hl 4 rfl) ?_
              refine nest_Rips_spanOf (G := G) (ty := ty) hx hb hml hown hts hX nst_Cutter_104 hl.1 (by omega) (by omega) (by omega) (lv_room (Nat.le_of_ble_eq_true rfl)) ⟨Nat.le_of_ble_eq_true rfl, Nat.le_of_ble_eq_true rfl⟩ ⟨Nat.le_of_ble_eq_true rfl, Nat.le_of_ble_eq_true rfl⟩ d_Cutter_fillTo_173 ?_
              refine lv_iload_n hx hb d_Cutter_fillTo_176 rfl (lv_at hl 3 rfl) ?_
              refine vp_callSi (W.runV (As := [.int (nI ax), .int (nI (en * (en - 1) / 2 + b1)), .int (nI ot)]) (rest := [.ref (aL 1)]) ⟨hx, hb, hml, hown, hts⟩ (c_Cutter_placeOf l G ty hC hB hT sA aZ aE tx tp tb ax (en * (en - 1) / 2 + b1) ot (by omega)) ⟨callB_of 3 hts (gd_TB cd_Cutter_placeOf) rfl rfl rfl (hts _ ini_Cutter) (hts _ lk_Cutter_154) hd_Cutter_placeOf ⟨Nat.le_of_ble_eq_true rfl, Nat.le_of_ble_eq_true rfl⟩, hts _ im_Cutter_placeOf, hts _ sl_Cutter_placeOf⟩ (preV_ro (hP.sub (ws' := [(hC, .inr (1, [.ref hB, .ref hT, .int (nI sA), .ref aZ, .ref aE, .int (nI tx), .int (nI tp), .int tb]))]) [0] rfl) hX 0 rfl rfl) rfl rfl hl.1 rfl (lv_room (Nat.le_of_ble_eq_true rfl)) d_Cutter_fillTo_177 ⟨Nat.le_of_ble_eq_true rfl, Nat.le_of_ble_eq_true rfl⟩) (fun r9 er9 => ?_)
              subst er9
              refine lv_lload hx hb d_Cutter_fillTo_180 (lv_at hl 9 rfl) ?_
              refine n_last hx hb hK hP hD hS 3 1 rfl rfl (by omega) (by omega) d_Cutter_fillTo_182 (fun H locs hP hD hS => ?_)
              rw [upd_lF] at hP hD
              have hP : va_P G vwCl [(hC, .inr (1, [.ref hB, .ref hT, .int (nI sA), .ref aZ, .ref aE, .int (nI tx), .int (nI tp), .int tb])), (aZ, .inl (ty 6, 4, .inr (.inr (.inr (.inr fZ))))), (aL 0, .inl (ty 1, nT, .inr (.inl (lF u)))), (aL 1, .inl (ty 1, nT, .inr (.inl (lF (va_up t2 (plc sA ax (en * (en - 1) / 2 + b1) ot) (dpV (sg u sA ax ot) (okc 1 tp ob) b1 en)))))), (aE, .inl (ty 1, 25, .inr (.inl (lF (va_up re2 b1 (dpV (sg u sA ax ot) (okc 1 tp ob) b1 en))))))] _ := hP
              have hD : va_D A [(hC, .inr (1, [.ref hB, .ref hT, .int (nI sA), .ref aZ, .ref aE, .int (nI tx), .int (nI tp), .int tb])), (aZ, .inl (ty 6, 4, .inr (.inr (.inr (.inr fZ))))), (aL 0, .inl (ty 1, nT, .inr (.inl (lF u)))), (aL 1, .inl (ty 1, nT, .inr (.inl (lF (va_up t2 (plc sA ax (en * (en - 1) / 2 + b1) ot) (dpV (sg u sA ax ot) (okc 1 tp ob) b1 en)))))), (aE, .inl (ty 1, 25, .inr (.inl (lF (va_up re2 b1 (dpV (sg u sA ax ot) (okc 1 tp ob) b1 en))))))] := hD
              have hR3 : ∀ p, b1 ≤ p → p ≤ en → (va_up re2 b1 (dpV (sg u sA ax ot) (okc 1 tp ob) b1 en)) p = dpV (sg u sA ax ot) (okc 1 tp ob) p en := fun p h1 h2 => (Nat.lt_or_ge b1 p).elim (fun q => by rw [va_up_ne _ _ (by omega)]; exact hR p (by omega) h2) (fun q => by rw [show p = b1 from by omega, va_up_self])
              have hT3 : ∀ p, b1 ≤ p → p < en → (va_up t2 (plc sA ax (en * (en - 1) / 2 + b1) ot) (dpV (sg u sA ax ot) (okc 1 tp ob) b1 en)) (plc sA ax (en * (en - 1) / 2 + p) ot) = dpV (sg u sA ax ot) (okc 1 tp ob) p en := fun p h1 h2 => (Nat.lt_or_ge b1 p).elim (fun q => by rw [va_up_ne _ _ (plc_ne gA (by omega))]; exact hTt p (by omega) h2) (fun q => by rw [show p = b1 from by omega, va_up_self])
              have hF3 : ∀ q, (∀ p, p < en → q ≠ plc sA ax (en * (en - 1) / 2 + p) ot) → (va_up t2 (plc sA ax (en * (en - 1) / 2 + b1) ot) (dpV (sg u sA ax ot) (okc 1 tp ob) b1 en)) q = t q := fun q hq => by rw [va_up_ne _ _ (hq b1 (by omega))]; exact hF q hq
              refine lv_iinc (v := (iI (((b1 : Nat) : Int) - ((1 : Nat) : Int)))) (lv' := [(8, .int (iI (((b1 : Nat) : Int) - ((1 : Nat) : Int)))), (0, .ref hC), (1, .int (nI 1)), (2, .int (nI ax)), (3, .int (nI ot)), (4, .int (nI en)), (5, .ref (aL 0)), (6, .ref (aL 1)), (7, .int (nI sd)), (9, .long (iL (dpV (sg u sA ax ot) (okc 1 tp ob) b1 en))), (11, .int (nI (plc sA ax ((b1 + 1 + n1) * ((b1 + 1 + n1) - 1) / 2 + b1) ot))), (12, .int (nI (b1 + 1 + n1)))]) hx hb d_Cutter_fillTo_183 hl (k := 8) rfl (by rw [nI_iI]; exact iI_add _ _) (by decide) rfl (fun ls hl => ?_)
              refine lv_goto (tgt := 39) hx hb d_Cutter_fillTo_186 (by decide) ?_
              exact ih39 b1 (va_up t2 (plc sA ax (en * (en - 1) / 2 + b1) ot) (dpV (sg u sA ax ot) (okc 1 tp ob) b1 en)) (va_up re2 b1 (dpV (sg u sA ax ot) (okc 1 tp ob) b1 en)) _ _ _ (by omega) hR3 hT3 hF3 (by omega) hP hD hS (lv_sub hl [1, 2, 3, 4, 5, 6, 7, 8, 0] rfl)
            · have hseg := gu b1 (b1 + 1 + n1) (by omega) (by omega)
              have hpl := gP b1 (b1 + 1 + n1) (by omega) (by omega)
              have hrc := hR (b1 + 1 + n1) (by omega) (by omega)
              have hrb := dpV_b (ok := (okc 1 tp ob)) (show (b1 + 1 + n1) ≤ en by omega) gu
              have hbd := dpS_bd (ok := (okc 1 tp ob)) (n := n1) g3 hn1 (by omega) (fun p h1 h2 => hR p h1 h2) gu
              have esg : sg u sA ax ot b1 (b1 + 1 + n1) = u (plc sA ax ((b1 + 1 + n1) * ((b1 + 1 + n1) - 1) / 2 + b1) ot) := rfl
              rw [← hrc] at hrb
              refine lv_aload hx hb d_Cutter_fillTo_85 (lv_at hl 5 rfl) ?_
              refine lv_iload hx hb d_Cutter_fillTo_87 (lv_at hl 10 rfl) ?_
              refine n_lald hx hb hK hP 2 1 rfl rfl (by omega) (by omega) d_Cutter_fillTo_89 ?_
              refine lv_lstore (lv' := [(13, .long (iL (u (plc sA ax ((b1 + 1 + n1) * ((b1 + 1 + n1) - 1) / 2 + b1) ot)))), (0, .ref hC), (1, .int (nI 1)), (2, .int (nI ax)), (3, .int (nI ot)), (4, .int (nI en)), (5, .ref (aL 0)), (6, .ref (aL 1)), (7, .int (nI sd)), (8, .int (nI b1)), (9, .long (iL (dpS (sg u sA ax ot) (okc 1 tp ob) re2 b1 (re2 (b1 + 1)) n1))), (11, .int (nI (plc sA ax ((b1 + 1 + n1) * ((b1 + 1 + n1) - 1) / 2 + b1) ot))), (12, .int (nI (b1 + 1 + n1)))]) hx hb d_Cutter_fillTo_90 hl (by decide) rfl (fun ls hl => ?_)
              refine lv_lload hx hb d_Cutter_fillTo_92 (lv_at hl 0 rfl) ?_
              refine lv_lconst (v := iL 0) hx hb d_Cutter_fillTo_94 (by decide) ?_
              refine l_cmp_le (tgt := 140) hx hb (by omega) (by omega) d_Cutter_fillTo_95 d_Cutter_fillTo_96 (by decide) (fun c95 => ?_) (fun c95 => ?_)
              · have hl : lv_has ls 15 [(13, .long (iL (u (plc sA ax ((b1 + 1 + n1) * ((b1 + 1 + n1) - 1) / 2 + b1) ot)))), (0, .ref hC), (1, .int (nI 1)), (2, .int (nI ax)), (3, .int (nI ot)), (4, .int (nI en)), (5, .ref (aL 0)), (6, .ref (aL 1)), (7, .int (nI sd)), (8, .int (nI b1)), (9, .long (iL (dpS (sg u sA ax ot) (okc 1 tp ob) re2 b1 (re2 (b1 + 1)) (n1 + 1)))), (11, .int (nI (plc sA ax ((b1 + 1 + n1) * ((b1 + 1 + n1) - 1) / 2 + b1) ot))), (12, .int (nI (b1 + 1 + n1)))] := by rw [show (iL (dpS (sg u sA ax ot) (okc 1 tp ob) re2 b1 (re2 (b1 + 1)) (n1 + 1))) = (iL (dpS (sg u sA ax ot) (okc 1 tp ob) re2 b1 (re2 (b1 + 1)) n1)) from congrArg iL (by rw [dpS_s, if_neg]; intro hh; first | omega | exact absurd hh.2.2 (by rw [show okc 1 tp ob (n1 + 1) = false from tN_0 c125]; decide))]; exact hl
                refine lv_iload hx hb d_Cutter_fillTo_140 (lv_at hl 11 rfl) ?_
                refine lv_iload hx hb d_Cutter_fillTo_142 (lv_at hl 12 rfl) ?_
                refine lv_iload hx hb d_Cutter_fillTo_144 (lv_at hl 8 rfl) ?_
                refine n_imul hx hb d_Cutter_fillTo_146 ?_
                refine n_iadd hx hb d_Cutter_fillTo_147 ?_
                refine top_i (show (nI ((plc sA ax ((b1 + 1 + n1) * ((b1 + 1 + n1) - 1) / 2 + b1) ot) + ((b1 + 1 + n1) * sd))) = (nI (plc sA ax (((b1 + 1 + n1) + 1) * ((b1 + 1 + n1) + 1 - 1) / 2 + b1) ot)) from congrArg nI (by rw [esd]; exact plc_step (by omega))) ?_
                refine lv_istore (lv' := [(11, .int (nI (plc sA ax (((b1 + 1 + n1) + 1) * ((b1 + 1 + n1) + 1 - 1) / 2 + b1) ot))), (13, .long (iL (u (plc sA ax ((b1 + 1 + n1) * ((b1 + 1 + n1) - 1) / 2 + b1) ot)))), (0, .ref hC), (1, .int (nI 1)), (2, .int (nI ax)), (3, .int (nI ot)), (4, .int (nI en)), (5, .ref (aL 0)), (6, .ref (aL 1)), (7, .int (nI sd)), (8, .int (nI b1)), (9, .long (iL (dpS (sg u sA ax ot) (okc 1 tp ob) re2 b1 (re2 (b1 + 1)) (n1 + 1)))), (12, .int (nI (b1 + 1 + n1)))]) hx hb d_Cutter_fillTo_148 hl (by decide) rfl (fun ls hl => ?_)
                refine lv_iinc (v := (nI ((b1 + 1 + n1) + 1))) (lv' := [(12, .int (nI ((b1 + 1 + n1) + 1))), (11, .int (nI (plc sA ax (((b1 + 1 + n1) + 1) * ((b1 + 1 + n1) + 1 - 1) / 2 + b1) ot))), (13, .long (iL (u (plc sA ax ((b1 + 1 + n1) * ((b1 + 1 + n1) - 1) / 2 + b1) ot)))), (0, .ref hC), (1, .int (nI 1)), (2, .int (nI ax)), (3, .int (nI ot)), (4, .int (nI en)), (5, .ref (aL 0)), (6, .ref (aL 1)), (7, .int (nI sd)), (8, .int (nI b1)), (9, .long (iL (dpS (sg u sA ax ot) (okc 1 tp ob) re2 b1 (re2 (b1 + 1)) (n1 + 1))))]) hx hb d_Cutter_fillTo_150 hl (k := 12) rfl (nI_inc _ _ _ (by omega)) (by decide) rfl (fun ls hl => ?_)
                refine lv_goto (tgt := 78) hx hb d_Cutter_fillTo_153 (by decide) ?_
                exact ih78 (n1 + 1) _ _ _ (by omega) (by omega) hP hD hS (lv_sub hl [3, 4, 5, 6, 7, 8, 9, 10, 11, 12, 1, 0] rfl)
              · refine lv_lload hx hb d_Cutter_fillTo_99 (lv_at hl 0 rfl) ?_
                refine lv_aload_n hx hb d_Cutter_fillTo_101 rfl (lv_at hl 1 rfl) ?_
                refine va_get (D := G) (ci := 1) (v := .ref aE) (C := R_Cutter) (T := F_Cutter) (N := 8) hx hb hts in_Cutter hown hK hP 0 rfl rfl 4 (by decide) (hts _ fl_Cutter_16) (fun _ h9 => h9) rfl d_Cutter_fillTo_102 ?_
                refine lv_iload hx hb d_Cutter_fillTo_105 (lv_at hl 12 rfl) ?_
                refine n_lald hx hb hK hP 4 1 rfl rfl (by omega) (by omega) d_Cutter_fillTo_107 ?_
                refine z_ladd hx hb d_Cutter_fillTo_108 ?_
                refine lv_lload hx hb d_Cutter_fillTo_109 (lv_at hl 10 rfl) ?_
                refine l_cmp_le (tgt := 140) hx hb (by omega) (by omega) d_Cutter_fillTo_111 d_Cutter_fillTo_112 (by decide) (fun c111 => ?_) (fun c111 => ?_)
                · have hl : lv_has ls 15 [(13, .long (iL (u (plc sA ax ((b1 + 1 + n1) * ((b1 + 1 + n1) - 1) / 2 + b1) ot)))), (0, .ref hC), (1, .int (nI 1)), (2, .int (nI ax)), (3, .int (nI ot)), (4, .int (nI en)), (5, .ref (aL 0)), (6, .ref (aL 1)), (7, .int (nI sd)), (8, .int (nI b1)), (9, .long (iL (dpS (sg u sA ax ot) (okc 1 tp ob) re2 b1 (re2 (b1 + 1)) (n1 + 1)))), (11, .int (nI (plc sA ax ((b1 + 1 + n1) * ((b1 + 1 + n1) - 1) / 2 + b1) ot))), (12, .int (nI (b1 + 1 + n1)))] := by rw [show (iL (dpS (sg u sA ax ot) (okc 1 tp ob) re2 b1 (re2 (b1 + 1)) (n1 + 1))) = (iL (dpS (sg u sA ax ot) (okc 1 tp ob) re2 b1 (re2 (b1 + 1)) n1)) from congrArg iL (by rw [dpS_s, if_neg]; intro hh; first | omega | exact absurd hh.2.2 (by rw [show okc 1 tp ob (n1 + 1) = false from tN_0 c125]; decide))]; exact hl
                  refine lv_iload hx hb d_Cutter_fillTo_140 (lv_at hl 11 rfl) ?_
                  refine lv_iload hx hb d_Cutter_fillTo_142 (lv_at hl 12 rfl) ?_
                  refine lv_iload hx hb d_Cutter_fillTo_144 (lv_at hl 8 rfl) ?_
                  refine n_imul hx hb d_Cutter_fillTo_146 ?_
                  refine n_iadd hx hb d_Cutter_fillTo_147 ?_
                  refine top_i (show (nI ((plc sA ax ((b1 + 1 + n1) * ((b1 + 1 + n1) - 1) / 2 + b1) ot) + ((b1 + 1 + n1) * sd))) = (nI (plc sA ax (((b1 + 1 + n1) + 1) * ((b1 + 1 + n1) + 1 - 1) / 2 + b1) ot)) from congrArg nI (by rw [esd]; exact plc_step (by omega))) ?_
                  refine lv_istore (lv' := [(11, .int (nI (plc sA ax (((b1 + 1 + n1) + 1) * ((b1 + 1 + n1) + 1 - 1) / 2 + b1) ot))), (13, .long (iL (u (plc sA ax ((b1 + 1 + n1) * ((b1 + 1 + n1) - 1) / 2 + b1) ot)))), (0, .ref hC), (1, .int (nI 1)), (2, .int (nI ax)), (3, .int (nI ot)), (4, .int (nI en)), (5, .ref (aL 0)), (6, .ref (aL 1)), (7, .int (nI sd)), (8, .int (nI b1)), (9, .long (iL (dpS (sg u sA ax ot) (okc 1 tp ob) re2 b1 (re2 (b1 + 1)) (n1 + 1)))), (12, .int (nI (b1 + 1 + n1)))]) hx hb d_Cutter_fillTo_148 hl (by decide) rfl (fun ls hl => ?_)
                  refine lv_iinc (v := (nI ((b1 + 1 + n1) + 1))) (lv' := [(12, .int (nI ((b1 + 1 + n1) + 1))), (11, .int (nI (plc sA ax (((b1 + 1 + n1) + 1) * ((b1 + 1 + n1) + 1 - 1) / 2 + b1) ot))), (13, .long (iL (u (plc sA ax ((b1 + 1 + n1) * ((b1 + 1 + n1) - 1) / 2 + b1) ot)))), (0, .ref hC), (1, .int (nI 1)), (2, .int (nI ax)), (3, .int (nI ot)), (4, .int (nI en)), (5, .ref (aL 0)), (6, .ref (aL 1)), (7, .int (nI sd)), (8, .int (nI b1)), (9, .long (iL (dpS (sg u sA ax ot) (okc 1 tp ob) re2 b1 (re2 (b1 + 1)) (n1 + 1))))]) hx hb d_Cutter_fillTo_150 hl (k := 12) rfl (nI_inc _ _ _ (by omega)) (by decide) rfl (fun ls hl => ?_)
                  refine lv_goto (tgt := 78) hx hb d_Cutter_fillTo_153 (by decide) ?_
                  exact ih78 (n1 + 1) _ _ _ (by omega) (by omega) hP hD hS (lv_sub hl [3, 4, 5, 6, 7, 8, 9, 10, 11, 12, 1, 0] rfl)
                · refine lv_aload_n hx hb d_Cutter_fillTo_115 rfl (lv_at hl 1 rfl) ?_
                  refine lv_iload_n hx hb d_Cutter_fillTo_116 rfl (lv_at hl 2 rfl) ?_
                  refine lv_iload hx hb d_Cutter_fillTo_117 (lv_at hl 12 rfl) ?_
                  refine lv_iload hx hb d_Cutter_fillTo_119 (lv_at hl 9 rfl) ?_
                  refine n_isub hx hb (by omega) d_Cutter_fillTo_121 ?_
                  refine top_i (show (nI ((b1 + 1 + n1) - b1)) = (nI (n1 + 1)) from congrArg nI (by omega)) ?_
                  refine vp_callSi (W.runV (As := [.int (nI 1), .int (nI (n1 + 1))]) (rest := []) ⟨hx, hb, hml, hown, hts⟩ (c_Cutter_mayCut l G ty hC hB hT sA aZ aE tx tp tb 1 (n1 + 1) nb ob (by omega) (by omega) (by omega) (by omega) gb) ⟨callB_of 2 hts (gd_TB cd_Cutter_mayCut) rfl rfl rfl (hts _ ini_Cutter) (hts _ lk_Cutter_158) hd_Cutter_mayCut ⟨Nat.le_of_ble_eq_true rfl, Nat.le_of_ble_eq_true rfl⟩, hts _ im_Cutter_mayCut, hts _ sl_Cutter_mayCut⟩ (preV_ro (hP.sub (ws' := [(hC, .inr (1, [.ref hB, .ref hT, .int (nI sA), .ref aZ, .ref aE, .int (nI tx), .int (nI tp), .int tb]))]) [0] rfl) hX 0 rfl rfl) rfl rfl hl.1 rfl (lv_room (Nat.le_of_ble_eq_true rfl)) d_Cutter_fillTo_122 ⟨Nat.le_of_ble_eq_true rfl, Nat.le_of_ble_eq_true rfl⟩) (fun r9 er9 => ?_)
                  subst er9
                  refine n_if_eq (tgt := 140) hx hb (tN_lt _) d_Cutter_fillTo_125 (by decide) (fun c125 => ?_) (fun c125 => ?_)
                  · have hl : lv_has ls 15 [(13, .long (iL (u (plc sA ax ((b1 + 1 + n1) * ((b1 + 1 + n1) - 1) / 2 + b1) ot)))), (0, .ref hC), (1, .int (nI 1)), (2, .int (nI ax)), (3, .int (nI ot)), (4, .int (nI en)), (5, .ref (aL 0)), (6, .ref (aL 1)), (7, .int (nI sd)), (8, .int (nI b1)), (9, .long (iL (dpS (sg u sA ax ot) (okc 1 tp ob) re2 b1 (re2 (b1 + 1)) (n1 + 1)))), (11, .int (nI (plc sA ax ((b1 + 1 + n1) * ((b1 + 1 + n1) - 1) / 2 + b1) ot))), (12, .int (nI (b1 + 1 + n1)))] := by rw [show (iL (dpS (sg u sA ax ot) (okc 1 tp ob) re2 b1 (re2 (b1 + 1)) (n1 + 1))) = (iL (dpS (sg u sA ax ot) (okc 1 tp ob) re2 b1 (re2 (b1 + 1)) n1)) from congrArg iL (by rw [dpS_s, if_neg]; intro hh; first | omega | exact absurd hh.2.2 (by rw [show okc 1 tp ob (n1 + 1) = false from tN_0 c125]; decide))]; exact hl
                    refine lv_iload hx hb d_Cutter_fillTo_140 (lv_at hl 11 rfl) ?_
                    refine lv_iload hx hb d_Cutter_fillTo_142 (lv_at hl 12 rfl) ?_
                    refine lv_iload hx hb d_Cutter_fillTo_144 (lv_at hl 8 rfl) ?_
                    refine n_imul hx hb d_Cutter_fillTo_146 ?_
                    refine n_iadd hx hb d_Cutter_fillTo_147 ?_
                    refine top_i (show (nI ((plc sA ax ((b1 + 1 + n1) * ((b1 + 1 + n1) - 1) / 2 + b1) ot) + ((b1 + 1 + n1) * sd))) = (nI (plc sA ax (((b1 + 1 + n1) + 1) * ((b1 + 1 + n1) + 1 - 1) / 2 + b1) ot)) from congrArg nI (by rw [esd]; exact plc_step (by omega))) ?_
                    refine lv_istore (lv' := [(11, .int (nI (plc sA ax (((b1 + 1 + n1) + 1) * ((b1 + 1 + n1) + 1 - 1) / 2 + b1) ot))), (13, .long (iL (u (plc sA ax ((b1 + 1 + n1) * ((b1 + 1 + n1) - 1) / 2 + b1) ot)))), (0, .ref hC), (1, .int (nI 1)), (2, .int (nI ax)), (3, .int (nI ot)), (4, .int (nI en)), (5, .ref (aL 0)), (6, .ref (aL 1)), (7, .int (nI sd)), (8, .int (nI b1)), (9, .long (iL (dpS (sg u sA ax ot) (okc 1 tp ob) re2 b1 (re2 (b1 + 1)) (n1 + 1)))), (12, .int (nI (b1 + 1 + n1)))]) hx hb d_Cutter_fillTo_148 hl (by decide) rfl (fun ls hl => ?_)
                    refine lv_iinc (v := (nI ((b1 + 1 + n1) + 1))) (lv' := [(12, .int (nI ((b1 + 1 + n1) + 1))), (11, .int (nI (plc sA ax (((b1 + 1 + n1) + 1) * ((b1 + 1 + n1) + 1 - 1) / 2 + b1) ot))), (13, .long (iL (u (plc sA ax ((b1 + 1 + n1) * ((b1 + 1 + n1) - 1) / 2 + b1) ot)))), (0, .ref hC), (1, .int (nI 1)), (2, .int (nI ax)), (3, .int (nI ot)), (4, .int (nI en)), (5, .ref (aL 0)), (6, .ref (aL 1)), (7, .int (nI sd)), (8, .int (nI b1)), (9, .long (iL (dpS (sg u sA ax ot) (okc 1 tp ob) re2 b1 (re2 (b1 + 1)) (n1 + 1))))]) hx hb d_Cutter_fillTo_150 hl (k := 12) rfl (nI_inc _ _ _ (by omega)) (by decide) rfl (fun ls hl => ?_)
                    refine lv_goto (tgt := 78) hx hb d_Cutter_fillTo_153 (by decide) ?_
                    exact ih78 (n1 + 1) _ _ _ (by omega) (by omega) hP hD hS (lv_sub hl [3, 4, 5, 6, 7, 8, 9, 10, 11, 12, 1, 0] rfl)
                  · refine lv_lload hx hb d_Cutter_fillTo_128 (lv_at hl 0 rfl) ?_
                    refine lv_aload_n hx hb d_Cutter_fillTo_130 rfl (lv_at hl 1 rfl) ?_
                    refine va_get (D := G) (ci := 1) (v := .ref aE) (C := R_Cutter) (T := F_Cutter) (N := 8) hx hb hts in_Cutter hown hK hP 0 rfl rfl 4 (by decide) (hts _ fl_Cutter_16) (fun _ h9 => h9) rfl d_Cutter_fillTo_131 ?_
                    refine lv_iload hx hb d_Cutter_fillTo_134 (lv_at hl 12 rfl) ?_
                    refine n_lald hx hb hK hP 4 1 rfl rfl (by omega) (by omega) d_Cutter_fillTo_136 ?_
                    refine z_ladd hx hb d_Cutter_fillTo_137 ?_
                    refine top_l (show (iL ((u (plc sA ax ((b1 + 1 + n1) * ((b1 + 1 + n1) - 1) / 2 + b1) ot)) + (re2 (b1 + 1 + n1)))) = (iL (dpS (sg u sA ax ot) (okc 1 tp ob) re2 b1 (re2 (b1 + 1)) (n1 + 1))) from congrArg iL (by rw [dpS_s, if_pos ⟨by omega, by omega, tN_1 c125⟩]; rfl)) ?_
                    refine lv_lstore (lv' := [(9, .long (iL (dpS (sg u sA ax ot) (okc 1 tp ob) re2 b1 (re2 (b1 + 1)) (n1 + 1)))), (13, .long (iL (u (plc sA ax ((b1 + 1 + n1) * ((b1 + 1 + n1) - 1) / 2 + b1) ot)))), (0, .ref hC), (1, .int (nI 1)), (2, .int (nI ax)), (3, .int (nI ot)), (4, .int (nI en)), (5, .ref (aL 0)), (6, .ref (aL 1)), (7, .int (nI sd)), (8, .int (nI b1)), (11, .int (nI (plc sA ax ((b1 + 1 + n1) * ((b1 + 1 + n1) - 1) / 2 + b1) ot))), (12, .int (nI (b1 + 1 + n1)))]) hx hb d_Cutter_fillTo_138 hl (by decide) rfl (fun ls hl => ?_)
                    refine lv_iload hx hb d_Cutter_fillTo_140 (lv_at hl 11 rfl) ?_
                    refine lv_iload hx hb d_Cutter_fillTo_142 (lv_at hl 12 rfl) ?_
                    refine lv_iload hx hb d_Cutter_fillTo_144 (lv_at hl 9 rfl) ?_
                    refine n_imul hx hb d_Cutter_fillTo_146 ?_
                    refine n_iadd hx hb d_Cutter_fillTo_147 ?_
                    refine top_i (show (nI ((plc sA ax ((b1 + 1 + n1) * ((b1 + 1 + n1) - 1) / 2 + b1) ot) + ((b1 + 1 + n1) * sd))) = (nI (plc sA ax (((b1 + 1 + n1) + 1) * ((b1 + 1 + n1) + 1 - 1) / 2 + b1) ot)) from congrArg nI (by rw [esd]; exact plc_step (by omega))) ?_
                    refine lv_istore (lv' := [(11, .int (nI (plc sA ax (((b1 + 1 + n1) + 1) * ((b1 + 1 + n1) + 1 - 1) / 2 + b1) ot))), (9, .long (iL (dpS (sg u sA ax ot) (okc 1 tp ob) re2 b1 (re2 (b1 + 1)) (n1 + 1)))), (13, .long (iL (u (plc sA ax ((b1 + 1 + n1) * ((b1 + 1 + n1) - 1) / 2 + b1) ot)))), (0, .ref hC), (1, .int (nI 1)), (2, .int (nI ax)), (3, .int (nI ot)), (4, .int (nI en)), (5, .ref (aL 0)), (6, .ref (aL 1)), (7, .int (nI sd)), (8, .int (nI b1)), (12, .int (nI (b1 + 1 + n1)))]) hx hb d_Cutter_fillTo_148 hl (by decide) rfl (fun ls hl => ?_)
                    refine lv_iinc (v := (nI ((b1 + 1 + n1) + 1))) (lv' := [(12, .int (nI ((b1 + 1 + n1) + 1))), (11, .int (nI (plc sA ax (((b1 + 1 + n1) + 1) * ((b1 + 1 + n1) + 1 - 1) / 2 + b1) ot))), (9, .long (iL (dpS (sg u sA ax ot) (okc 1 tp ob) re2 b1 (re2 (b1 + 1)) (n1 + 1)))), (13, .long (iL (u (plc sA ax ((b1 + 1 + n1) * ((b1 + 1 + n1) - 1) / 2 + b1) ot)))), (0, .ref hC), (1, .int (nI 1)), (2, .int (nI ax)), (3, .int (nI ot)), (4, .int (nI en)), (5, .ref (aL 0)), (6, .ref (aL 1)), (7, .int (nI sd)), (8, .int (nI b1))]) hx hb d_Cutter_fillTo_150 hl (k := 12) rfl (nI_inc _ _ _ (by omega)) (by decide) rfl (fun ls hl => ?_)
                    refine lv_goto (tgt := 78) hx hb d_Cutter_fillTo_153 (by decide) ?_
                    exact ih78 (n1 + 1) _ _ _ (by omega) (by omega) hP hD hS (lv_sub hl [4, 5, 6, 7, 8, 9, 10, 11, 12, 2, 1, 0] rfl)
        exact L78 (en + 1 - (b1 + 0) + 1) 0 _ _ _ (by omega) (Nat.lt_succ_self _) hP hD hS (lv_sub hl [3, 4, 5, 6, 7, 8, 9, 10, 11, 2, 1, 0] rfl)
  exact L39 (en + 1) en t (va_up re en 0) _ _ _ (Nat.le_refl _) (fun p h1 h2 => by rw [show p = en from by omega, va_up_self, dpV_end]) (fun p h1 h2 => absurd h1 (by omega)) (fun q _ => rfl) (Nat.lt_succ_self _) hP hD hS (lv_sub hl [4, 5, 6, 7, 8, 3, 2, 1, 0] rfl)

abbrev q_fillTo2 (G : va_G) (ty : Nat → ClassId) (hC : Nat) (hB : Nat) (hT : Nat) (sA : Nat) (aZ : Nat) (aE : Nat) (tx : Nat) (tp : Nat) (tb : Int32) (ax : Nat) (ot : Nat) (en : Nat) (nT : Nat) (nb : Nat) (fZ : Nat → Option Nat) (aL : Nat → Nat) (u : Nat → Int) (t : Nat → Int) (re : Nat → Int) (ob : Nat → Bool) (A : Nat → Prop) : Array Value → State → Outcome → State → Prop := va_Qv (fun (uu : (Nat → Int) × (Nat → Int)) => (∀ p, p < en → uu.1 (plc sA ax (en * (en - 1) / 2 + p) ot) = dpV (sg u sA ax ot) (okc 2 tp ob) p en) ∧ (∀ q, (∀ p, p < en → q ≠ plc sA ax (en * (en - 1) / 2 + p) ot) → uu.1 q = t q)) (at_W G (fun (uu : (Nat → Int) × (Nat → Int)) => [(hC, .inr (1, [.ref hB, .ref hT, .int (nI sA), .ref aZ, .ref aE, .int (nI tx), .int (nI tp), .int tb])), (aZ, .inl (ty 6, 4, .inr (.inr (.inr (.inr fZ))))), (aL 1, .inl (ty 1, nT, .inr (.inl (lF u)))), (aL 2, .inl (ty 1, nT, .inr (.inl (lF uu.1)))), (aE, .inl (ty 1, 25, .inr (.inl (lF uu.2))))]) A) A
set_option maxRecDepth 100000 in
set_option maxHeartbeats 4000000 in
theorem c_fillTo2 (l : Launch) (G : va_G) (ty : Nat → ClassId) (sz : Nat) (hC : Nat) (hB : Nat) (hT : Nat) (sA : Nat) (aZ : Nat) (aE : Nat) (tx : Nat) (tp : Nat) (tb : Int32) (ax : Nat) (ot : Nat) (en : Nat) (nT : Nat) (nb : Nat) (fZ : Nat → Option Nat) (aL : Nat → Nat) (u : Nat → Int) (t : Nat → Int) (re : Nat → Int) (ob : Nat → Bool) (gl : ∀ i, i < 4 → fZ i = some (aL i)) (g1 : ax ≤ 1) (g2 : 1 ≤ en) (g3 : en ≤ 24) (g4 : nT ≤ 100000) (g5 : tp ≤ 3) (g6 : nb ≤ 25) (g7 : 2 ≤ tp) (g9 : 2 < tp ∨ en < nb) (gb : tb = Mk ob nb) (gA : 1 ≤ sA) (gP : ∀ b n, b < n → n ≤ en → plc sA ax (n * (n - 1) / 2 + b) ot < nT) (gu : ∀ b n, b < n → n ≤ en → 0 ≤ (sg u sA ax ot) b n ∧ (sg u sA ax ot) b n ≤ 100000000000000) : Met l y_Cutter_fillTo ws_Cutter_fillTo { frames := 2, cells := 0, slots := 0, locals := 44 } (va_Pc [.ref hC, .int (nI 2), .int (nI ax), .int (nI ot), .int (nI en)] (fun U => U.heap.size = sz ∧ va_P G vwCl [(hC, .inr (1, [.ref hB, .ref hT, .int (nI sA), .ref aZ, .ref aE, .int (nI tx), .int (nI tp), .int tb])), (aZ, .inl (ty 6, 4, .inr (.inr (.inr (.inr fZ))))), (aL 1, .inl (ty 1, nT, .inr (.inl (lF u)))), (aL 2, .inl (ty 1, nT, .inr (.inl (lF t)))), (aE, .inl (ty 1, 25, .inr (.inl (lF re))))] U.heap ∧ KX G ty U ∧ va_D (fun _ => True) [(hC, .inr (1, [.ref hB, .ref hT, .int (nI sA), .ref aZ, .ref aE, .int (nI tx), .int (nI tp), .int tb])), (aZ, .inl (ty 6, 4, .inr (.inr (.inr (.inr fZ))))), (aL 1, .inl (ty 1, nT, .inr (.inl (lF u)))), (aL 2, .inl (ty 1, nT, .inr (.inl (lF t)))), (aE, .inl (ty 1, 25, .inr (.inl (lF re))))])) (q_fillTo2 G ty hC hB hT sA aZ aE tx tp tb ax ot en nT nb fZ aL u t re ob (va_A [(hC, .inr (1, [.ref hB, .ref hT, .int (nI sA), .ref aZ, .ref aE, .int (nI tx), .int (nI tp), .int tb])), (aZ, .inl (ty 6, 4, .inr (.inr (.inr (.inr fZ))))), (aL 1, .inl (ty 1, nT, .inr (.inl (lF u)))), (aL 2, .inl (ty 1, nT, .inr (.inl (lF t)))), (aE, .inl (ty 1, 25, .inr (.inl (lF re))))] sz)) 0 0 (va_A [(hC, .inr (1, [.ref hB, .ref hT, .int (nI sA), .ref aZ, .ref aE, .int (nI tx), .int (nI tp), .int tb])), (aZ, .inl (ty 6, 4, .inr (.inr (.inr (.inr fZ))))), (aL 1, .inl (ty 1, nT, .inr (.inl (lF u)))), (aL 2, .inl (ty 1, nT, .inr (.inl (lF t)))), (aE, .inl (ty 1, 25, .inr (.inl (lF re))))] sz) := by
  refine met_wr (y := y_Cutter_fillTo) (maxL := 15) (sz := sz) (G := G) (ty := ty) (mc := 0) (ms := 0) (av := [.ref hC, .int (nI 2), .int (nI ax), .int (nI ot), .int (nI en)]) (W0 := [(hC, .inr (1, [.ref hB, .ref hT, .int (nI sA), .ref aZ, .ref aE, .int (nI tx), .int (nI tp), .int tb])), (aZ, .inl (ty 6, 4, .inr (.inr (.inr (.inr fZ))))), (aL 1, .inl (ty 1, nT, .inr (.inl (lF u)))), (aL 2, .inl (ty 1, nT, .inr (.inl (lF t)))), (aE, .inl (ty 1, 25, .inr (.inl (lF re))))]) (fun A => q_fillTo2 G ty hC hB hT sA aZ aE tx tp tb ax ot en nT nb fZ aL u t re ob A) R_Cutter (by decide) rfl rfl (Nat.le_of_ble_eq_true rfl) ?_
  intro p e s m below meth c ls A hx hb hr hml hown hts hlocks hin hA hP hX hD hS hl
  have hK := hX.1
  have hl : lv_has ls 15 [(0, .ref hC), (1, .int (nI 2)), (2, .int (nI ax)), (3, .int (nI ot)), (4, .int (nI en))] := hl
  obtain ⟨sd, esd⟩ : ∃ sd, sd = (if ax = 0 then sA else 1) := ⟨_, rfl⟩
  refine lv_aload_n hx hb d_Cutter_fillTo_0 rfl (lv_at hl 0 rfl) ?_
  refine va_get (D := G) (ci := 1) (v := .ref aZ) (C := R_Cutter) (T := F_Cutter) (N := 8) hx hb hts in_Cutter hown hK hP 0 rfl rfl 3 (by decide) (hts _ fl_Cutter_11) (fun _ h9 => h9) rfl d_Cutter_fillTo_1 ?_
  refine lv_iload_n hx hb d_Cutter_fillTo_4 rfl (lv_at hl 1 rfl) ?_
  refine lv_iconst (v := (nI 1)) hx hb d_Cutter_fillTo_5 (by decide) ?_
  refine n_isub hx hb (by omega) d_Cutter_fillTo_6 ?_
  refine top_i (show (nI (2 - 1)) = nI 1 from rfl) ?_
  refine n_aaldA hx hb hK hP 1 6 rfl rfl (by omega) (by omega) (gl 1 (by omega)) d_Cutter_fillTo_7 ?_
  refine lv_astore (lv' := [(5, .ref (aL 1)), (0, .ref hC), (1, .int (nI 2)), (2, .int (nI ax)), (3, .int (nI ot)), (4, .int (nI en))]) hx hb d_Cutter_fillTo_8 hl (by decide) rfl (fun ls hl => ?_)
  refine lv_aload_n hx hb d_Cutter_fillTo_10 rfl (lv_at hl 1 rfl) ?_
  refine va_get (D := G) (ci := 1) (v := .ref aZ) (C := R_Cutter) (T := F_Cutter) (N := 8) hx hb hts in_Cutter hown hK hP 0 rfl rfl 3 (by decide) (hts _ fl_Cutter_11) (fun _ h9 => h9) rfl d_Cutter_fillTo_11 ?_
  refine lv_iload_n hx hb d_Cutter_fillTo_14 rfl (lv_at hl 2 rfl) ?_
  refine n_aaldA hx hb hK hP 1 6 rfl rfl (by omega) (by omega) (gl 2 (by omega)) d_Cutter_fillTo_15 ?_
  refine lv_astore (lv' := [(6, .ref (aL 2)), (5, .ref (aL 1)), (0, .ref hC), (1, .int (nI 2)), (2, .int (nI ax)), (3, .int (nI ot)), (4, .int (nI en))]) hx hb d_Cutter_fillTo_16 hl (by decide) rfl (fun ls hl => ?_)
  refine lv_aload_n hx hb d_Cutter_fillTo_18 rfl (lv_at hl 2 rfl) ?_
  refine lv_iload_n hx hb d_Cutter_fillTo_19 rfl (lv_at hl 4 rfl) ?_
  refine vp_callSi (W.runV (As := [.int (nI ax)]) (rest := []) ⟨hx, hb, hml, hown, hts⟩ (c_Cutter_strideOf l G ty hC hB hT sA aZ aE tx tp tb ax (by omega)) ⟨callB_of 1 hts (gd_TB cd_Cutter_strideOf) rfl rfl rfl (hts _ ini_Cutter) (hts _ lk_Cutter_141) hd_Cutter_strideOf ⟨Nat.le_of_ble_eq_true rfl, Nat.le_of_ble_eq_true rfl⟩, hts _ im_Cutter_strideOf, hts _ sl_Cutter_strideOf⟩ (preV_ro (hP.sub (ws' := [(hC, .inr (1, [.ref hB, .ref hT, .int (nI sA), .ref aZ, .ref aE, .int (nI tx), .int (nI tp), .int tb]))]) [0] rfl) hX 0 rfl rfl) rfl rfl hl.1 rfl (lv_room (Nat.le_of_ble_eq_true rfl)) d_Cutter_fillTo_20 ⟨Nat.le_of_ble_eq_true rfl, Nat.le_of_ble_eq_true rfl⟩) (fun r9 er9 => ?_)
  subst er9
  refine top_i (show (nI (if ax = 0 then sA else 1)) = (nI sd) from congrArg nI esd.symm) ?_
  refine lv_istore (lv' := [(7, .int (nI sd)), (6, .ref (aL 2)), (5, .ref (aL 1)), (0, .ref hC), (1, .int (nI 2)), (2, .int (nI ax)), (3, .int (nI ot)), (4, .int (nI en))]) hx hb d_Cutter_fillTo_23 hl (by decide) rfl (fun ls hl => ?_)
  refine lv_aload_n hx hb d_Cutter_fillTo_25 rfl (lv_at hl 3 rfl) ?_
  refine va_get (D := G) (ci := 1) (v := .ref aE) (C := R_Cutter) (T := F_Cutter) (N := 8) hx hb hts in_Cutter hown hK hP 0 rfl rfl 4 (by decide) (hts _ fl_Cutter_16) (fun _ h9 => h9) rfl d_Cutter_fillTo_26 ?_
  refine lv_iload hx hb d_Cutter_fillTo_29 (lv_at hl 7 rfl) ?_
  refine lv_lconst (v := iL 0) hx hb d_Cutter_fillTo_31 (by decide) ?_
  refine n_last hx hb hK hP hD hS 4 1 rfl rfl (by omega) (by omega) d_Cutter_fillTo_32 (fun H locs hP hD hS => ?_)
  rw [upd_lF] at hP hD
  have hP : va_P G vwCl [(hC, .inr (1, [.ref hB, .ref hT, .int (nI sA), .ref aZ, .ref aE, .int (nI tx), .int (nI tp), .int tb])), (aZ, .inl (ty 6, 4, .inr (.inr (.inr (.inr fZ))))), (aL 1, .inl (ty 1, nT, .inr (.inl (lF u)))), (aL 2, .inl (ty 1, nT, .inr (.inl (lF t)))), (aE, .inl (ty 1, 25, .inr (.inl (lF (va_up re en 0)))))] _ := hP
  have hD : va_D A [(hC, .inr (1, [.ref hB, .ref hT, .int (nI sA), .ref aZ, .ref aE, .int (nI tx), .int (nI tp), .int tb])), (aZ, .inl (ty 6, 4, .inr (.inr (.inr (.inr fZ))))), (aL 1, .inl (ty 1, nT, .inr (.inl (lF u)))), (aL 2, .inl (ty 1, nT, .inr (.inl (lF t)))), (aE, .inl (ty 1, 25, .inr (.inl (lF (va_up re en 0)))))] := hD
  refine lv_iload hx hb d_Cutter_fillTo_33 (lv_at hl 7 rfl) ?_
  refine lv_iconst (v := (nI 1)) hx hb d_Cutter_fillTo_35 (by decide) ?_
  refine nzz_isub hx hb d_Cutter_fillTo_36 ?_
  refine lv_istore (lv' := [(8, .int (iI ((en : Nat) - ((1 : Nat) : Int)))), (7, .int (nI sd)), (6, .ref (aL 2)), (5, .ref (aL 1)), (0, .ref hC), (1, .int (nI 2)), (2, .int (nI ax)), (3, .int (nI ot)), (4, .int (nI en))]) hx hb d_Cutter_fillTo_37 hl (by decide) rfl (fun ls hl => ?_)
  have L39 : ∀ (k9 : Nat) (b : Nat) (t2 : Nat → Int) (re2 : Nat → Int) (H : Heap) (locs : List Loc) (ls : Array Slot), (b ≤ en) → (∀ p, b ≤ p → p ≤ en → re2 p = dpV (sg u sA ax ot) (okc 2 tp ob) p en) → (∀ p, b ≤ p → p < en → t2 (plc sA ax (en * (en - 1) / 2 + p) ot) = dpV (sg u sA ax ot) (okc 2 tp ob) p en) → (∀ q, (∀ p, p < en → q ≠ plc sA ax (en * (en - 1) / 2 + p) ot) → t2 q = t q) → b < k9 → va_P G vwCl [(hC, .inr (1, [.ref hB, .ref hT, .int (nI sA), .ref aZ, .ref aE, .int (nI tx), .int (nI tp), .int tb])), (aZ, .inl (ty 6, 4, .inr (.inr (.inr (.inr fZ))))), (aL 1, .inl (ty 1, nT, .inr (.inl (lF u)))), (aL 2, .inl (ty 1, nT, .inr (.inl (lF t2)))), (aE, .inl (ty 1, 25, .inr (.inl (lF re2))))] H → va_D A [(hC, .inr (1, [.ref hB, .ref hT, .int (nI sA), .ref aZ, .ref aE, .int (nI tx), .int (nI tp), .int tb])), (aZ, .inl (ty 6, 4, .inr (.inr (.inr (.inr fZ))))), (aL 1, .inl (ty 1, nT, .inr (.inl (lF u)))), (aL 2, .inl (ty 1, nT, .inr (.inl (lF t2)))), (aE, .inl (ty 1, 25, .inr (.inl (lF re2))))] → va_S A s.heap H locs → lv_has ls 15 [(0, .ref hC), (1, .int (nI 2)), (2, .int (nI ax)), (3, .int (nI ot)), (4, .int (nI en)), (5, .ref (aL 1)), (6, .ref (aL 2)), (7, .int (nI sd)), (8, .int (iI (((b : Nat) : Int) - ((1 : Nat) : Int))))] → W p l e { frames := 2, cells := 0, slots := 0, locals := 44 } s m [.ref hC, .int (nI 2), .int (nI ax), .int (nI ot), .int (nI en)].toArray below meth c H locs 0 0 (MQ below (q_fillTo2 G ty hC hB hT sA aZ aE tx tp tb ax ot en nT nb fZ aL u t re ob A) [.ref hC, .int (nI 2), .int (nI ax), .int (nI ot), .int (nI en)].toArray s 0 0 A) (F0 m 39 ls []) := by
    intro k9
    induction k9 with
    | zero => intro b t2 re2 H locs ls hb0 hR hTt hF hk9; exact absurd hk9 (Nat.not_lt_zero _)
    | succ k9 ih39 =>
      intro b t2 re2 H locs ls hb0 hR hTt hF hk9 hP hD hS hl
      refine lv_iload hx hb d_Cutter_fillTo_39 (lv_at hl 8 rfl) ?_
      refine z_if_lt (tgt := 189) hx hb (by omega) d_Cutter_fillTo_41 (by decide) (fun c41 => ?_) (fun c41 => ?_)
      · exact W.vret hx hb hr (fun t9 ht hW => ⟨⟨(t2, re2), rfl, ⟨fun p h => hTt p (by omega) h, hF⟩, by rw [ht]; exact hP, hD⟩, hS.F ht⟩) hS.2.2 d_Cutter_fillTo_189
      · obtain ⟨b1, rfl⟩ : ∃ b1, b = b1 + 1 := ⟨b - 1, by omega⟩
        have hl : lv_has ls 15 [(0, .ref hC), (1, .int (nI 2)), (2, .int (nI ax)), (3, .int (nI ot)), (4, .int (nI en)), (5, .ref (aL 1)), (6, .ref (aL 2)), (7, .int (nI sd)), (8, .int (nI b1))] := by rw [show (nI b1) = (iI (((b1 + 1 : Nat) : Int) - ((1 : Nat) : Int))) from by rw [nI_iI]; congr 1; omega]; exact hl
        have hbt := gP b1 en (by omega) (Nat.le_refl _)
        refine lv_aload_n hx hb d_Cutter_fillTo_44 rfl (lv_at hl 0 rfl) ?_
        refine va_get (D := G) (ci := 1) (v := .ref aE) (C := R_Cutter) (T := F_Cutter) (N := 8) hx hb hts in_Cutter hown hK hP 0 rfl rfl 4 (by decide) (hts _ fl_Cutter_16) (fun _ h9 => h9) rfl d_Cutter_fillTo_45 ?_
        refine lv_iload hx hb d_Cutter_fillTo_48 (lv_at hl 8 rfl) ?_
        refine lv_iconst (v := (nI 1)) hx hb d_Cutter_fillTo_50 (by decide) ?_
        refine n_iadd hx hb d_Cutter_fillTo_51 ?_
        refine n_lald hx hb hK hP 4 1 rfl rfl (by omega) (by omega) d_Cutter_fillTo_52 ?_
        refine lv_lstore (lv' := [(9, .long (iL (re2 (b1 + 1)))), (0, .ref hC), (1, .int (nI 2)), (2, .int (nI ax)), (3, .int (nI ot)), (4, .int (nI en)), (5, .ref (aL 1)), (6, .ref (aL 2)), (7, .int (nI sd)), (8, .int (nI b1))]) hx hb d_Cutter_fillTo_53 hl (by decide) rfl (fun ls hl => ?_)
        refine lv_aload_n hx hb d_Cutter_fillTo_55 rfl (lv_at hl 1 rfl) ?_
        refine lv_iload_n hx hb d_Cutter_fillTo_56 rfl (lv_at hl 3 rfl) ?_
        refine lv_iload hx hb d_Cutter_fillTo_57 (lv_at hl 9 rfl) ?_
        refine lv_iload hx hb d_Cutter_fillTo_59 (lv_at hl 9 rfl) ?_
        refine lv_iconst (v := (nI 1)) hx hb d_Cutter_fillTo_61 (by decide) ?_
        refine n_iadd hx hb d_Cutter_fillTo_62 ?_
        refine nest_Rips_spanOf (G := G) (ty := ty) hx hb hml hown hts hX nst_Cutter_104 hl.1 (by omega) (by omega) (by omega) (lv_room (Nat.le_of_ble_eq_true rfl)) ⟨Nat.le_of_ble_eq_true rfl, Nat.le_of_ble_eq_true rfl⟩ ⟨Nat.le_of_ble_eq_true rfl, Nat.le_of_ble_eq_true rfl⟩ d_Cutter_fillTo_63 ?_
        refine lv_iload_n hx hb d_Cutter_fillTo_66 rfl (lv_at hl 4 rfl) ?_
        refine vp_callSi (W.runV (As := [.int (nI ax), .int (nI ((b1 + 1) * ((b1 + 1) - 1) / 2 + b1)), .int (nI ot)]) (rest := []) ⟨hx, hb, hml, hown, hts⟩ (c_Cutter_placeOf l G ty hC hB hT sA aZ aE tx tp tb ax ((b1 + 1) * ((b1 + 1) - 1) / 2 + b1) ot (by omega)) ⟨callB_of 3 hts (gd_TB cd_Cutter_placeOf) rfl rfl rfl (hts _ ini_Cutter) (hts _ lk_Cutter_154) hd_Cutter_placeOf ⟨Nat.le_of_ble_eq_true rfl, Nat.le_of_ble_eq_true rfl⟩, hts _ im_Cutter_placeOf, hts _ sl_Cutter_placeOf⟩ (preV_ro (hP.sub (ws' := [(hC, .inr (1, [.ref hB, .ref hT, .int (nI sA), .ref aZ, .ref aE, .int (nI tx), .int (nI tp), .int tb]))]) [0] rfl) hX 0 rfl rfl) rfl rfl hl.1 rfl (lv_room (Nat.le_of_ble_eq_true rfl)) d_Cutter_fillTo_67 ⟨Nat.le_of_ble_eq_true rfl, Nat.le_of_ble_eq_true rfl⟩) (fun r9 er9 => ?_)
        subst er9
        refine lv_istore (lv' := [(11, .int (nI (plc sA ax ((b1 + 1) * ((b1 + 1) - 1) / 2 + b1) ot))), (9, .long (iL (re2 (b1 + 1)))), (0, .ref hC), (1, .int (nI 2)), (2, .int (nI ax)), (3, .int (nI ot)), (4, .int (nI en)), (5, .ref (aL 1)), (6, .ref (aL 2)), (7, .int (nI sd)), (8, .int (nI b1))]) hx hb d_Cutter_fillTo_70 hl (by decide) rfl (fun ls hl => ?_)
        refine lv_iload hx hb d_Cutter_fillTo_72 (lv_at hl 10 rfl) ?_
        refine lv_iconst (v := (nI 1)) hx hb d_Cutter_fillTo_74 (by decide) ?_
        refine n_iadd hx hb d_Cutter_fillTo_75 ?_
        refine lv_istore (lv' := [(12, .int (nI (b1 + 1))), (11, .int (nI (plc sA ax ((b1 + 1) * ((b1 + 1) - 1) / 2 + b1) ot))), (9, .long (iL (re2 (b1 + 1)))), (0, .ref hC), (1, .int (nI 2)), (2, .int (nI ax)), (3, .int (nI ot)), (4, .int (nI en)), (5, .ref (aL 1)), (6, .ref (aL 2)), (7, .int (nI sd)), (8, .int (nI b1))]) hx hb d_Cutter_fillTo_76 hl (by decide) rfl (fun ls hl => ?_)
        have L78 : ∀ (k9 : Nat) (n1 : Nat) (H : Heap) (locs : List Loc) (ls : Array Slot), (b1 + n1 ≤ en) → en + 1 - (b1 + n1) < k9 → va_P G vwCl [(hC, .inr (1, [.ref hB, .ref hT, .int (nI sA), .ref aZ, .ref aE, .int (nI tx), .int (nI tp), .int tb])), (aZ, .inl (ty 6, 4, .inr (.inr (.inr (.inr fZ))))), (aL 1, .inl (ty 1, nT, .inr (.inl (lF u)))), (aL 2, .inl (ty 1, nT, .inr (.inl (lF t2)))), (aE, .inl (ty 1, 25, .inr (.inl (lF re2))))] H → va_D A [(hC, .inr (1, [.ref hB, .ref hT, .int (nI sA), .ref aZ, .ref aE, .int (nI tx), .int (nI tp), .int tb])), (aZ, .inl (ty 6, 4, .inr (.inr (.inr (.inr fZ))))), (aL 1, .inl (ty 1, nT, .inr (.inl (lF u)))), (aL 2, .inl (ty 1, nT, .inr (.inl (lF t2)))), (aE, .inl (ty 1, 25, .inr (.inl (lF re2))))] → va_S A s.heap H locs → lv_has ls 15 [(0, .ref hC), (1, .int (nI 2)), (2, .int (nI ax)), (3, .int (nI ot)), (4, .int (nI en)), (5, .ref (aL 1)), (6, .ref (aL 2)), (7, .int (nI sd)), (8, .int (nI b1)), (9, .long (iL (dpS (sg u sA ax ot) (okc 2 tp ob) re2 b1 (re2 (b1 + 1)) n1))), (11, .int (nI (plc sA ax ((b1 + 1 + n1) * ((b1 + 1 + n1) - 1) / 2 + b1) ot))), (12, .int (nI (b1 + 1 + n1)))] → W p l e { frames := 2, cells := 0, slots := 0, locals := 44 } s m [.ref hC, .int (nI 2), .int (nI ax), .int (nI ot), .int (nI en)].toArray below meth c H locs 0 0 (MQ below (q_fillTo2 G ty hC hB hT sA aZ aE tx tp tb ax ot en nT nb fZ aL u t re ob A) [.ref hC, .int (nI 2), .int (nI ax), .int (nI ot), .int (nI en)].toArray s 0 0 A) (F0 m 78 ls []) := by
          intro k9
          induction k9 with
          | zero => intro n1 H locs ls hn1 hk9; exact absurd hk9 (Nat.not_lt_zero _)
          | succ k9 ih78 =>
            intro n1 H locs ls hn1 hk9 hP hD hS hl
            refine lv_iload hx hb d_Cutter_fillTo_78 (lv_at hl 11 rfl) ?_
            refine lv_iload hx hb d_Cutter_fillTo_80 (lv_at hl 4 rfl) ?_
            refine n_icmp_gt (tgt := 156) hx hb (by omega) (by omega) d_Cutter_fillTo_82 (by decide) (fun c82 => ?_) (fun c82 => ?_)
            · have en1 : n1 = en - b1 := by omega
              have hbst : dpS (sg u sA ax ot) (okc 2 tp ob) re2 b1 (re2 (b1 + 1)) n1 = dpV (sg u sA ax ot) (okc 2 tp ob) b1 en := by rw [en1]; exact dpS_top (by omega) (fun p h1 h2 => hR p h1 h2)
              have hl : lv_has ls 15 [(0, .ref hC), (1, .int (nI 2)), (2, .int (nI ax)), (3, .int (nI ot)), (4, .int (nI en)), (5, .ref (aL 1)), (6, .ref (aL 2)), (7, .int (nI sd)), (8, .int (nI b1)), (9, .long (iL (dpV (sg u sA ax ot) (okc 2 tp ob) b1 en))), (11, .int (nI (plc sA ax ((b1 + 1 + n1) * ((b1 + 1 + n1) - 1) / 2 + b1) ot))), (12, .int (nI (b1 + 1 + n1)))] := by rw [show (iL (dpV (sg u sA ax ot) (okc 2 tp ob) b1 en)) = (iL (dpS (sg u sA ax ot) (okc 2 tp ob) re2 b1 (re2 (b1 + 1)) n1)) from congrArg iL hbst.symm]; exact hl
              refine lv_aload_n hx hb d_Cutter_fillTo_156 rfl (lv_at hl 0 rfl) ?_
              refine va_get (D := G) (ci := 1) (v := .ref aE) (C := R_Cutter) (T := F_Cutter) (N := 8) hx hb hts in_Cutter hown hK hP 0 rfl rfl 4 (by decide) (hts _ fl_Cutter_16) (fun _ h9 => h9) rfl d_Cutter_fillTo_157 ?_
              refine lv_iload hx hb d_Cutter_fillTo_160 (lv_at hl 8 rfl) ?_
              refine lv_lload hx hb d_Cutter_fillTo_162 (lv_at hl 9 rfl) ?_
              refine n_last hx hb hK hP hD hS 4 1 rfl rfl (by omega) (by omega) d_Cutter_fillTo_164 (fun H locs hP hD hS => ?_)
              rw [upd_lF] at hP hD
              have hP : va_P G vwCl [(hC, .inr (1, [.ref hB, .ref hT, .int (nI sA), .ref aZ, .ref aE, .int (nI tx), .int (nI tp), .int tb])), (aZ, .inl (ty 6, 4, .inr (.inr (.inr (.inr fZ))))), (aL 1, .inl (ty 1, nT, .inr (.inl (lF u)))), (aL 2, .inl (ty 1, nT, .inr (.inl (lF t2)))), (aE, .inl (ty 1, 25, .inr (.inl (lF (va_up re2 b1 (dpV (sg u sA ax ot) (okc 2 tp ob) b1 en))))))] _ := hP
              have hD : va_D A [(hC, .inr (1, [.ref hB, .ref hT, .int (nI sA), .ref aZ, .ref aE, .int (nI tx), .int (nI tp), .int tb])), (aZ, .inl (ty 6, 4, .inr (.inr (.inr (.inr fZ))))), (aL 1, .inl (ty 1, nT, .inr (.inl (lF u)))), (aL 2, .inl (ty 1, nT, .inr (.inl (lF t2)))), (aE, .inl (ty 1, 25, .inr (.inl (lF (va_up re2 b1 (dpV (sg u sA ax ot) (okc 2 tp ob) b1 en))))))] := hD
              refine lv_aload hx hb d_Cutter_fillTo_165 (lv_at hl 6 rfl) ?_
              refine lv_aload_n hx hb d_Cutter_fillTo_167 rfl (lv_at hl 0 rfl) ?_
              refine lv_iload_n hx hb d_Cutter_fillTo_168 rfl (lv_at hl 2 rfl) ?_
              refine lv_iload hx hb d_Cutter_fillTo_169 (lv_at hl 8 rfl) ?_
              refine lv_iload hx hb d_Cutter_fillTo_171 (lv_at hl 4 rfl) ?_
              refine nest_Rips_spanOf (G := G) (ty := ty) hx hb hml hown hts hX nst_Cutter_104 hl.1 (by omega) (by omega) (by omega) (lv_room (Nat.le_of_ble_eq_true rfl)) ⟨Nat.le_of_ble_eq_true rfl, Nat.le_of_ble_eq_true rfl⟩ ⟨Nat.le_of_ble_eq_true rfl, Nat.le_of_ble_eq_true rfl⟩ d_Cutter_fillTo_173 ?_
              refine lv_iload_n hx hb d_Cutter_fillTo_176 rfl (lv_at hl 3 rfl) ?_
              refine vp_callSi (W.runV (As := [.int (nI ax), .int (nI (en * (en - 1) / 2 + b1)), .int (nI ot)]) (rest := [.ref (aL 2)]) ⟨hx, hb, hml, hown, hts⟩ (c_Cutter_placeOf l G ty hC hB hT sA aZ aE tx tp tb ax (en * (en - 1) / 2 + b1) ot (by omega)) ⟨callB_of 3 hts (gd_TB cd_Cutter_placeOf) rfl rfl rfl (hts _ ini_Cutter) (hts _ lk_Cutter_154) hd_Cutter_placeOf ⟨Nat.le_of_ble_eq_true rfl, Nat.le_of_ble_eq_true rfl⟩, hts _ im_Cutter_placeOf, hts _ sl_Cutter_placeOf⟩ (preV_ro (hP.sub (ws' := [(hC, .inr (1, [.ref hB, .ref hT, .int (nI sA), .ref aZ, .ref aE, .int (nI tx), .int (nI tp), .int tb]))]) [0] rfl) hX 0 rfl rfl) rfl rfl hl.1 rfl (lv_room (Nat.le_of_ble_eq_true rfl)) d_Cutter_fillTo_177 ⟨Nat.le_of_ble_eq_true rfl, Nat.le_of_ble_eq_true rfl⟩) (fun r9 er9 => ?_)
              subst er9
              refine lv_lload hx hb d_Cutter_fillTo_180 (lv_at hl 9 rfl) ?_
              refine n_last hx hb hK hP hD hS 3 1 rfl rfl (by omega) (by omega) d_Cutter_fillTo_182 (fun H locs hP hD hS => ?_)
              rw [upd_lF] at hP hD
              have hP : va_P G vwCl [(hC, .inr (1, [.ref hB, .ref hT, .int (nI sA), .ref aZ, .ref aE, .int (nI tx), .int (nI tp), .int tb])), (aZ, .inl (ty 6, 4, .inr (.inr (.inr (.inr fZ))))), (aL 1, .inl (ty 1, nT, .inr (.inl (lF u)))), (aL 2, .inl (ty 1, nT, .inr (.inl (lF (va_up t2 (plc sA ax (en * (en - 1) / 2 + b1) ot) (dpV (sg u sA ax ot) (okc 2 tp ob) b1 en)))))), (aE, .inl (ty 1, 25, .inr (.inl (lF (va_up re2 b1 (dpV (sg u sA ax ot) (okc 2 tp ob) b1 en))))))] _ := hP
              have hD : va_D A [(hC, .inr (1, [.ref hB, .ref hT, .int (nI sA), .ref aZ, .ref aE, .int (nI tx), .int (nI tp), .int tb])), (aZ, .inl (ty 6, 4, .inr (.inr (.inr (.inr fZ))))), (aL 1, .inl (ty 1, nT, .inr (.inl (lF u)))), (aL 2, .inl (ty 1, nT, .inr (.inl (lF (va_up t2 (plc sA ax (en * (en - 1) / 2 + b1) ot) (dpV (sg u sA ax ot) (okc 2 tp ob) b1 en)))))), (aE, .inl (ty 1, 25, .inr (.inl (lF (va_up re2 b1 (dpV (sg u sA ax ot) (okc 2 tp ob) b1 en))))))] := hD
              have hR3 : ∀ p, b1 ≤ p → p ≤ en → (va_up re2 b1 (dpV (sg u sA ax ot) (okc 2 tp ob) b1 en)) p = dpV (sg u sA ax ot) (okc 2 tp ob) p en := fun p h1 h2 => (Nat.lt_or_ge b1 p).elim (fun q => by rw [va_up_ne _ _ (by omega)]; exact hR p (by omega) h2) (fun q => by rw [show p = b1 from by omega, va_up_self])
              have hT3 : ∀ p, b1 ≤ p → p < en → (va_up t2 (plc sA ax (en * (en - 1) / 2 + b1) ot) (dpV (sg u sA ax ot) (okc 2 tp ob) b1 en)) (plc sA ax (en * (en - 1) / 2 + p) ot) = dpV (sg u sA ax ot) (okc 2 tp ob) p en := fun p h1 h2 => (Nat.lt_or_ge b1 p).elim (fun q => by rw [va_up_ne _ _ (plc_ne gA (by omega))]; exact hTt p (by omega) h2) (fun q => by rw [show p = b1 from by omega, va_up_self])
              have hF3 : ∀ q, (∀ p, p < en → q ≠ plc sA ax (en * (en - 1) / 2 + p) ot) → (va_up t2 (plc sA ax (en * (en - 1) / 2 + b1) ot) (dpV (sg u sA ax ot) (okc 2 tp ob) b1 en)) q = t q := fun q hq => by rw [va_up_ne _ _ (hq b1 (by omega))]; exact hF q hq
              refine lv_iinc (v := (iI (((b1 : Nat) : Int) - ((1 : Nat) : Int)))) (lv' := [(8, .int (iI (((b1 : Nat) : Int) - ((1 : Nat) : Int)))), (0, .ref hC), (1, .int (nI 2)), (2, .int (nI ax)), (3, .int (nI ot)), (4, .int (nI en)), (5, .ref (aL 1)), (6, .ref (aL 2)), (7, .int (nI sd)), (9, .long (iL (dpV (sg u sA ax ot) (okc 2 tp ob) b1 en))), (11, .int (nI (plc sA ax ((b1 + 1 + n1) * ((b1 + 1 + n1) - 1) / 2 + b1) ot))), (12, .int (nI (b1 + 1 + n1)))]) hx hb d_Cutter_fillTo_183 hl (k := 8) rfl (by rw [nI_iI]; exact iI_add _ _) (by decide) rfl (fun ls hl => ?_)
              refine lv_goto (tgt := 39) hx hb d_Cutter_fillTo_186 (by decide) ?_
              exact ih39 b1 (va_up t2 (plc sA ax (en * (en - 1) / 2 + b1) ot) (dpV (sg u sA ax ot) (okc 2 tp ob) b1 en)) (va_up re2 b1 (dpV (sg u sA ax ot) (okc 2 tp ob) b1 en)) _ _ _ (by omega) hR3 hT3 hF3 (by omega) hP hD hS (lv_sub hl [1, 2, 3, 4, 5, 6, 7, 8, 0] rfl)
            · have hseg := gu b1 (b1 + 1 + n1) (by omega) (by omega)
              have hpl := gP b1 (b1 + 1 + n1) (by omega) (by omega)
              have hrc := hR (b1 + 1 + n1) (by omega) (by omega)
              have hrb := dpV_b (ok := (okc 2 tp ob)) (show (b1 + 1 + n1) ≤ en by omega) gu
              have hbd := dpS_bd (ok := (okc 2 tp ob)) (n := n1) g3 hn1 (by omega) (fun p h1 h2 => hR p h1 h2) gu
              have esg : sg u sA ax ot b1 (b1 + 1 + n1) = u (plc sA ax ((b1 + 1 + n1) * ((b1 + 1 + n1) - 1) / 2 + b1) ot) := rfl
              rw [← hrc] at hrb
              refine lv_aload hx hb d_Cutter_fillTo_85 (lv_at hl 5 rfl) ?_
              refine lv_iload hx hb d_Cutter_fillTo_87 (lv_at hl 10 rfl) ?_
              refine n_lald hx hb hK hP 2 1 rfl rfl (by omega) (by omega) d_Cutter_fillTo_89 ?_
              refine lv_lstore (lv' := [(13, .long (iL (u (plc sA ax ((b1 + 1 + n1) * ((b1 + 1 + n1) - 1) / 2 + b1) ot)))), (0, .ref hC), (1, .int (nI 2)), (2, .int (nI ax)), (3, .int (nI ot)), (4, .int (nI en)), (5, .ref (aL 1)), (6, .ref (aL 2)), (7, .int (nI sd)), (8, .int (nI b1)), (9, .long (iL (dpS (sg u sA ax ot) (okc 2 tp ob) re2 b1 (re2 (b1 + 1)) n1))), (11, .int (nI (plc sA ax ((b1 + 1 + n1) * ((b1 + 1 + n1) - 1) / 2 + b1) ot))), (12, .int (nI (b1 + 1 + n1)))]) hx hb d_Cutter_fillTo_90 hl (by decide) rfl (fun ls hl => ?_)
              refine lv_lload hx hb d_Cutter_fillTo_92 (lv_at hl 0 rfl) ?_
              refine lv_lconst (v := iL 0) hx hb d_Cutter_fillTo_94 (by decide) ?_
              refine l_cmp_le (tgt := 140) hx hb (by omega) (by omega) d_Cutter_fillTo_95 d_Cutter_fillTo_96 (by decide) (fun c95 => ?_) (fun c95 => ?_)
              · have hl : lv_has ls 15 [(13, .long (iL (u (plc sA ax ((b1 + 1 + n1) * ((b1 + 1 + n1) - 1) / 2 + b1) ot)))), (0, .ref hC), (1, .int (nI 2)), (2, .int (nI ax)), (3, .int (nI ot)), (4, .int (nI en)), (5, .ref (aL 1)), (6, .ref (aL 2)), (7, .int (nI sd)), (8, .int (nI b1)), (9, .long (iL (dpS (sg u sA ax ot) (okc 2 tp ob) re2 b1 (re2 (b1 + 1)) (n1 + 1)))), (11, .int (nI (plc sA ax ((b1 + 1 + n1) * ((b1 + 1 + n1) - 1) / 2 + b1) ot))), (12, .int (nI (b1 + 1 + n1)))] := by rw [show (iL (dpS (sg u sA ax ot) (okc 2 tp ob) re2 b1 (re2 (b1 + 1)) (n1 + 1))) = (iL (dpS (sg u sA ax ot) (okc 2 tp ob) re2 b1 (re2 (b1 + 1)) n1)) from congrArg iL (by rw [dpS_s, if_neg]; intro hh; first | omega | exact absurd hh.2.2 (by rw [show okc 2 tp ob (n1 + 1) = false from tN_0 c125]; decide))]; exact hl
                refine lv_iload hx hb d_Cutter_fillTo_140 (lv_at hl 11 rfl) ?_
                refine lv_iload hx hb d_Cutter_fillTo_142 (lv_at hl 12 rfl) ?_
                refine lv_iload hx hb d_Cutter_fillTo_144 (lv_at hl 8 rfl) ?_
                refine n_imul hx hb d_Cutter_fillTo_146 ?_
                refine n_iadd hx hb d_Cutter_fillTo_147 ?_
                refine top_i (show (nI ((plc sA ax ((b1 + 1 + n1) * ((b1 + 1 + n1) - 1) / 2 + b1) ot) + ((b1 + 1 + n1) * sd))) = (nI (plc sA ax (((b1 + 1 + n1) + 1) * ((b1 + 1 + n1) + 1 - 1) / 2 + b1) ot)) from congrArg nI (by rw [esd]; exact plc_step (by omega))) ?_
                refine lv_istore (lv' := [(11, .int (nI (plc sA ax (((b1 + 1 + n1) + 1) * ((b1 + 1 + n1) + 1 - 1) / 2 + b1) ot))), (13, .long (iL (u (plc sA ax ((b1 + 1 + n1) * ((b1 + 1 + n1) - 1) / 2 + b1) ot)))), (0, .ref hC), (1, .int (nI 2)), (2, .int (nI ax)), (3, .int (nI ot)), (4, .int (nI en)), (5, .ref (aL 1)), (6, .ref (aL 2)), (7, .int (nI sd)), (8, .int (nI b1)), (9, .long (iL (dpS (sg u sA ax ot) (okc 2 tp ob) re2 b1 (re2 (b1 + 1)) (n1 + 1)))), (12, .int (nI (b1 + 1 + n1)))]) hx hb d_Cutter_fillTo_148 hl (by decide) rfl (fun ls hl => ?_)
                refine lv_iinc (v := (nI ((b1 + 1 + n1) + 1))) (lv' := [(12, .int (nI ((b1 + 1 + n1) + 1))), (11, .int (nI (plc sA ax (((b1 + 1 + n1) + 1) * ((b1 + 1 + n1) + 1 - 1) / 2 + b1) ot))), (13, .long (iL (u (plc sA ax ((b1 + 1 + n1) * ((b1 + 1 + n1) - 1) / 2 + b1) ot)))), (0, .ref hC), (1, .int (nI 2)), (2, .int (nI ax)), (3, .int (nI ot)), (4, .int (nI en)), (5, .ref (aL 1)), (6, .ref (aL 2)), (7, .int (nI sd)), (8, .int (nI b1)), (9, .long (iL (dpS (sg u sA ax ot) (okc 2 tp ob) re2 b1 (re2 (b1 + 1)) (n1 + 1))))]) hx hb d_Cutter_fillTo_150 hl (k := 12) rfl (nI_inc _ _ _ (by omega)) (by decide) rfl (fun ls hl => ?_)
                refine lv_goto (tgt := 78) hx hb d_Cutter_fillTo_153 (by decide) ?_
                exact ih78 (n1 + 1) _ _ _ (by omega) (by omega) hP hD hS (lv_sub hl [3, 4, 5, 6, 7, 8, 9, 10, 11, 12, 1, 0] rfl)
              · refine lv_lload hx hb d_Cutter_fillTo_99 (lv_at hl 0 rfl) ?_
                refine lv_aload_n hx hb d_Cutter_fillTo_101 rfl (lv_at hl 1 rfl) ?_
                refine va_get (D := G) (ci := 1) (v := .ref aE) (C := R_Cutter) (T := F_Cutter) (N := 8) hx hb hts in_Cutter hown hK hP 0 rfl rfl 4 (by decide) (hts _ fl_Cutter_16) (fun _ h9 => h9) rfl d_Cutter_fillTo_102 ?_
                refine lv_iload hx hb d_Cutter_fillTo_105 (lv_at hl 12 rfl) ?_
                refine n_lald hx hb hK hP 4 1 rfl rfl (by omega) (by omega) d_Cutter_fillTo_107 ?_
                refine z_ladd hx hb d_Cutter_fillTo_108 ?_
                refine lv_lload hx hb d_Cutter_fillTo_109 (lv_at hl 10 rfl) ?_
                refine l_cmp_le (tgt := 140) hx hb (by omega) (by omega) d_Cutter_fillTo_111 d_Cutter_fillTo_112 (by decide) (fun c111 => ?_) (fun c111 => ?_)
                · have hl : lv_has ls 15 [(13, .long (iL (u (plc sA ax ((b1 + 1 + n1) * ((b1 + 1 + n1) - 1) / 2 + b1) ot)))), (0, .ref hC), (1, .int (nI 2)), (2, .int (nI ax)), (3, .int (nI ot)), (4, .int (nI en)), (5, .ref (aL 1)), (6, .ref (aL 2)), (7, .int (nI sd)), (8, .int (nI b1)), (9, .long (iL (dpS (sg u sA ax ot) (okc 2 tp ob) re2 b1 (re2 (b1 + 1)) (n1 + 1)))), (11, .int (nI (plc sA ax ((b1 + 1 + n1) * ((b1 + 1 + n1) - 1) / 2 + b1) ot))), (12, .int (nI (b1 + 1 + n1)))] := by rw [show (iL (dpS (sg u sA ax ot) (okc 2 tp ob) re2 b1 (re2 (b1 + 1)) (n1 + 1))) = (iL (dpS (sg u sA ax ot) (okc 2 tp ob) re2 b1 (re2 (b1 + 1)) n1)) from congrArg iL (by rw [dpS_s, if_neg]; intro hh; first | omega | exact absurd hh.2.2 (by rw [show okc 2 tp ob (n1 + 1) = false from tN_0 c125]; decide))]; exact hl
                  refine lv_iload hx hb d_Cutter_fillTo_140 (lv_at hl 11 rfl) ?_
                  refine lv_iload hx hb d_Cutter_fillTo_142 (lv_at hl 12 rfl) ?_
                  refine lv_iload hx hb d_Cutter_fillTo_144 (lv_at hl 8 rfl) ?_
                  refine n_imul hx hb d_Cutter_fillTo_146 ?_
                  refine n_iadd hx hb d_Cutter_fillTo_147 ?_
                  refine top_i (show (nI ((plc sA ax ((b1 + 1 + n1) * ((b1 + 1 + n1) - 1) / 2 + b1) ot) + ((b1 + 1 + n1) * sd))) = (nI (plc sA ax (((b1 + 1 + n1) + 1) * ((b1 + 1 + n1) + 1 - 1) / 2 + b1) ot)) from congrArg nI (by rw [esd]; exact plc_step (by omega))) ?_
                  refine lv_istore (lv' := [(11, .int (nI (plc sA ax (((b1 + 1 + n1) + 1) * ((b1 + 1 + n1) + 1 - 1) / 2 + b1) ot))), (13, .long (iL (u (plc sA ax ((b1 + 1 + n1) * ((b1 + 1 + n1) - 1) / 2 + b1) ot)))), (0, .ref hC), (1, .int (nI 2)), (2, .int (nI ax)), (3, .int (nI ot)), (4, .int (nI en)), (5, .ref (aL 1)), (6, .ref (aL 2)), (7, .int (nI sd)), (8, .int (nI b1)), (9, .long (iL (dpS (sg u sA ax ot) (okc 2 tp ob) re2 b1 (re2 (b1 + 1)) (n1 + 1)))), (12, .int (nI (b1 + 1 + n1)))]) hx hb d_Cutter_fillTo_148 hl (by decide) rfl (fun ls hl => ?_)
                  refine lv_iinc (v := (nI ((b1 + 1 + n1) + 1))) (lv' := [(12, .int (nI ((b1 + 1 + n1) + 1))), (11, .int (nI (plc sA ax (((b1 + 1 + n1) + 1) * ((b1 + 1 + n1) + 1 - 1) / 2 + b1) ot))), (13, .long (iL (u (plc sA ax ((b1 + 1 + n1) * ((b1 + 1 + n1) - 1) / 2 + b1) ot)))), (0, .ref hC), (1, .int (nI 2)), (2, .int (nI ax)), (3, .int (nI ot)), (4, .int (nI en)), (5, .ref (aL 1)), (6, .ref (aL 2)), (7, .int (nI sd)), (8, .int (nI b1)), (9, .long (iL (dpS (sg u sA ax ot) (okc 2 tp ob) re2 b1 (re2 (b1 + 1)) (n1 + 1))))]) hx hb d_Cutter_fillTo_150 hl (k := 12) rfl (nI_inc _ _ _ (by omega)) (by decide) rfl (fun ls hl => ?_)
                  refine lv_goto (tgt := 78) hx hb d_Cutter_fillTo_153 (by decide) ?_
                  exact ih78 (n1 + 1) _ _ _ (by omega) (by omega) hP hD hS (lv_sub hl [3, 4, 5, 6, 7, 8, 9, 10, 11, 12, 1, 0] rfl)
                · refine lv_aload_n hx hb d_Cutter_fillTo_115 rfl (lv_at hl 1 rfl) ?_
                  refine lv_iload_n hx hb d_Cutter_fillTo_116 rfl (lv_at hl 2 rfl) ?_
                  refine lv_iload hx hb d_Cutter_fillTo_117 (lv_at hl 12 rfl) ?_
                  refine lv_iload hx hb d_Cutter_fillTo_119 (lv_at hl 9 rfl) ?_
                  refine n_isub hx hb (by omega) d_Cutter_fillTo_121 ?_
                  refine top_i (show (nI ((b1 + 1 + n1) - b1)) = (nI (n1 + 1)) from congrArg nI (by omega)) ?_
                  refine vp_callSi (W.runV (As := [.int (nI 2), .int (nI (n1 + 1))]) (rest := []) ⟨hx, hb, hml, hown, hts⟩ (c_Cutter_mayCut l G ty hC hB hT sA aZ aE tx tp tb 2 (n1 + 1) nb ob (by omega) (by omega) (by omega) (by omega) gb) ⟨callB_of 2 hts (gd_TB cd_Cutter_mayCut) rfl rfl rfl (hts _ ini_Cutter) (hts _ lk_Cutter_158) hd_Cutter_mayCut ⟨Nat.le_of_ble_eq_true rfl, Nat.le_of_ble_eq_true rfl⟩, hts _ im_Cutter_mayCut, hts _ sl_Cutter_mayCut⟩ (preV_ro (hP.sub (ws' := [(hC, .inr (1, [.ref hB, .ref hT, .int (nI sA), .ref aZ, .ref aE, .int (nI tx), .int (nI tp), .int tb]))]) [0] rfl) hX 0 rfl rfl) rfl rfl hl.1 rfl (lv_room (Nat.le_of_ble_eq_true rfl)) d_Cutter_fillTo_122 ⟨Nat.le_of_ble_eq_true rfl, Nat.le_of_ble_eq_true rfl⟩) (fun r9 er9 => ?_)
                  subst er9
                  refine n_if_eq (tgt := 140) hx hb (tN_lt _) d_Cutter_fillTo_125 (by decide) (fun c125 => ?_) (fun c125 => ?_)
                  · have hl : lv_has ls 15 [(13, .long (iL (u (plc sA ax ((b1 + 1 + n1) * ((b1 + 1 + n1) - 1) / 2 + b1) ot)))), (0, .ref hC), (1, .int (nI 2)), (2, .int (nI ax)), (3, .int (nI ot)), (4, .int (nI en)), (5, .ref (aL 1)), (6, .ref (aL 2)), (7, .int (nI sd)), (8, .int (nI b1)), (9, .long (iL (dpS (sg u sA ax ot) (okc 2 tp ob) re2 b1 (re2 (b1 + 1)) (n1 + 1)))), (11, .int (nI (plc sA ax ((b1 + 1 + n1) * ((b1 + 1 + n1) - 1) / 2 + b1) ot))), (12, .int (nI (b1 + 1 + n1)))] := by rw [show (iL (dpS (sg u sA ax ot) (okc 2 tp ob) re2 b1 (re2 (b1 + 1)) (n1 + 1))) = (iL (dpS (sg u sA ax ot) (okc 2 tp ob) re2 b1 (re2 (b1 + 1)) n1)) from congrArg iL (by rw [dpS_s, if_neg]; intro hh; first | omega | exact absurd hh.2.2 (by rw [show okc 2 tp ob (n1 + 1) = false from tN_0 c125]; decide))]; exact hl
                    refine lv_iload hx hb d_Cutter_fillTo_140 (lv_at hl 11 rfl) ?_
                    refine lv_iload hx hb d_Cutter_fillTo_142 (lv_at hl 12 rfl) ?_
                    refine lv_iload hx hb d_Cutter_fillTo_144 (lv_at hl 8 rfl) ?_
                    refine n_imul hx hb d_Cutter_fillTo_146 ?_
                    refine n_iadd hx hb d_Cutter_fillTo_147 ?_
                    refine top_i (show (nI ((plc sA ax ((b1 + 1 + n1) * ((b1 + 1 + n1) - 1) / 2 + b1) ot) + ((b1 + 1 + n1) * sd))) = (nI (plc sA ax (((b1 + 1 + n1) + 1) * ((b1 + 1 + n1) + 1 - 1) / 2 + b1) ot)) from congrArg nI (by rw [esd]; exact plc_step (by omega))) ?_
                    refine lv_istore (lv' := [(11, .int (nI (plc sA ax (((b1 + 1 + n1) + 1) * ((b1 + 1 + n1) + 1 - 1) / 2 + b1) ot))), (13, .long (iL (u (plc sA ax ((b1 + 1 + n1) * ((b1 + 1 + n1) - 1) / 2 + b1) ot)))), (0, .ref hC), (1, .int (nI 2)), (2, .int (nI ax)), (3, .int (nI ot)), (4, .int (nI en)), (5, .ref (aL 1)), (6, .ref (aL 2)), (7, .int (nI sd)), (8, .int (nI b1)), (9, .long (iL (dpS (sg u sA ax ot) (okc 2 tp ob) re2 b1 (re2 (b1 + 1)) (n1 + 1)))), (12, .int (nI (b1 + 1 + n1)))]) hx hb d_Cutter_fillTo_148 hl (by decide) rfl (fun ls hl => ?_)
                    refine lv_iinc (v := (nI ((b1 + 1 + n1) + 1))) (lv' := [(12, .int (nI ((b1 + 1 + n1) + 1))), (11, .int (nI (plc sA ax (((b1 + 1 + n1) + 1) * ((b1 + 1 + n1) + 1 - 1) / 2 + b1) ot))), (13, .long (iL (u (plc sA ax ((b1 + 1 + n1) * ((b1 + 1 + n1) - 1) / 2 + b1) ot)))), (0, .ref hC), (1, .int (nI 2)), (2, .int (nI ax)), (3, .int (nI ot)), (4, .int (nI en)), (5, .ref (aL 1)), (6, .ref (aL 2)), (7, .int (nI sd)), (8, .int (nI b1)), (9, .long (iL (dpS (sg u sA ax ot) (okc 2 tp ob) re2 b1 (re2 (b1 + 1)) (n1 + 1))))]) hx hb d_Cutter_fillTo_150 hl (k := 12) rfl (nI_inc _ _ _ (by omega)) (by decide) rfl (fun ls hl => ?_)
                    refine lv_goto (tgt := 78) hx hb d_Cutter_fillTo_153 (by decide) ?_
                    exact ih78 (n1 + 1) _ _ _ (by omega) (by omega) hP hD hS (lv_sub hl [3, 4, 5, 6, 7, 8, 9, 10, 11, 12, 1, 0] rfl)
                  · refine lv_lload hx hb d_Cutter_fillTo_128 (lv_at hl 0 rfl) ?_
                    refine lv_aload_n hx hb d_Cutter_fillTo_130 rfl (lv_at hl 1 rfl) ?_
                    refine va_get (D := G) (ci := 1) (v := .ref aE) (C := R_Cutter) (T := F_Cutter) (N := 8) hx hb hts in_Cutter hown hK hP 0 rfl rfl 4 (by decide) (hts _ fl_Cutter_16) (fun _ h9 => h9) rfl d_Cutter_fillTo_131 ?_
                    refine lv_iload hx hb d_Cutter_fillTo_134 (lv_at hl 12 rfl) ?_
                    refine n_lald hx hb hK hP 4 1 rfl rfl (by omega) (by omega) d_Cutter_fillTo_136 ?_
                    refine z_ladd hx hb d_Cutter_fillTo_137 ?_
                    refine top_l (show (iL ((u (plc sA ax ((b1 + 1 + n1) * ((b1 + 1 + n1) - 1) / 2 + b1) ot)) + (re2 (b1 + 1 + n1)))) = (iL (dpS (sg u sA ax ot) (okc 2 tp ob) re2 b1 (re2 (b1 + 1)) (n1 + 1))) from congrArg iL (by rw [dpS_s, if_pos ⟨by omega, by omega, tN_1 c125⟩]; rfl)) ?_
                    refine lv_lstore (lv' := [(9, .long (iL (dpS (sg u sA ax ot) (okc 2 tp ob) re2 b1 (re2 (b1 + 1)) (n1 + 1)))), (13, .long (iL (u (plc sA ax ((b1 + 1 + n1) * ((b1 + 1 + n1) - 1) / 2 + b1) ot)))), (0, .ref hC), (1, .int (nI 2)), (2, .int (nI ax)), (3, .int (nI ot)), (4, .int (nI en)), (5, .ref (aL 1)), (6, .ref (aL 2)), (7, .int (nI sd)), (8, .int (nI b1)), (11, .int (nI (plc sA ax ((b1 + 1 + n1) * ((b1 + 1 + n1) - 1) / 2 + b1) ot))), (12, .int (nI (b1 + 1 + n1)))]) hx hb d_Cutter_fillTo_138 hl (by decide) rfl (fun ls hl => ?_)
                    refine lv_iload hx hb d_Cutter_fillTo_140 (lv_at hl 11 rfl) ?_
                    refine lv_iload hx hb d_Cutter_fillTo_142 (lv_at hl 12 rfl) ?_
                    refine lv_iload hx hb d_Cutter_fillTo_144 (lv_at hl 9 rfl) ?_
                    refine n_imul hx hb d_Cutter_fillTo_146 ?_
                    refine n_iadd hx hb d_Cutter_fillTo_147 ?_
                    refine top_i (show (nI ((plc sA ax ((b1 + 1 + n1) * ((b1 + 1 + n1) - 1) / 2 + b1) ot) + ((b1 + 1 + n1) * sd))) = (nI (plc sA ax (((b1 + 1 + n1) + 1) * ((b1 + 1 + n1) + 1 - 1) / 2 + b1) ot)) from congrArg nI (by rw [esd]; exact plc_step (by omega))) ?_
                    refine lv_istore (lv' := [(11, .int (nI (plc sA ax (((b1 + 1 + n1) + 1) * ((b1 + 1 + n1) + 1 - 1) / 2 + b1) ot))), (9, .long (iL (dpS (sg u sA ax ot) (okc 2 tp ob) re2 b1 (re2 (b1 + 1)) (n1 + 1)))), (13, .long (iL (u (plc sA ax ((b1 + 1 + n1) * ((b1 + 1 + n1) - 1) / 2 + b1) ot)))), (0, .ref hC), (1, .int (nI 2)), (2, .int (nI ax)), (3, .int (nI ot)), (4, .int (nI en)), (5, .ref (aL 1)), (6, .ref (aL 2)), (7, .int (nI sd)), (8, .int (nI b1)), (12, .int (nI (b1 + 1 + n1)))]) hx hb d_Cutter_fillTo_148 hl (by decide) rfl (fun ls hl => ?_)
                    refine lv_iinc (v := (nI ((b1 + 1 + n1) + 1))) (lv' := [(12, .int (nI ((b1 + 1 + n1) + 1))), (11, .int (nI (plc sA ax (((b1 + 1 + n1) + 1) * ((b1 + 1 + n1) + 1 - 1) / 2 + b1) ot))), (9, .long (iL (dpS (sg u sA ax ot) (okc 2 tp ob) re2 b1 (re2 (b1 + 1)) (n1 + 1)))), (13, .long (iL (u (plc sA ax ((b1 + 1 + n1) * ((b1 + 1 + n1) - 1) / 2 + b1) ot)))), (0, .ref hC), (1, .int (nI 2)), (2, .int (nI ax)), (3, .int (nI ot)), (4, .int (nI en)), (5, .ref (aL 1)), (6, .ref (aL 2)), (7, .int (nI sd)), (8, .int (nI b1))]) hx hb d_Cutter_fillTo_150 hl (k := 12) rfl (nI_inc _ _ _ (by omega)) (by decide) rfl (fun ls hl => ?_)
                    refine lv_goto (tgt := 78) hx hb d_Cutter_fillTo_153 (by decide) ?_
                    exact ih78 (n1 + 1) _ _ _ (by omega) (by omega) hP hD hS (lv_sub hl [4, 5, 6, 7, 8, 9, 10, 11, 12, 2, 1, 0] rfl)
        exact L78 (en + 1 - (b1 + 0) + 1) 0 _ _ _ (by omega) (Nat.lt_succ_self _) hP hD hS (lv_sub hl [3, 4, 5, 6, 7, 8, 9, 10, 11, 2, 1, 0] rfl)
  exact L39 (en + 1) en t (va_up re en 0) _ _ _ (Nat.le_refl _) (fun p h1 h2 => by rw [show p = en from by omega, va_up_self, dpV_end]) (fun p h1 h2 => absurd h1 (by omega)) (fun q _ => rfl) (Nat.lt_succ_self _) hP hD hS (lv_sub hl [4, 5, 6, 7, 8, 3, 2, 1, 0] rfl)

abbrev q_fillTo3 (G : va_G) (ty : Nat → ClassId) (hC : Nat) (hB : Nat) (hT : Nat) (sA : Nat) (aZ : Nat) (aE : Nat) (tx : Nat) (tp : Nat) (tb : Int32) (ax : Nat) (ot : Nat) (en : Nat) (nT : Nat) (nb : Nat) (fZ : Nat → Option Nat) (aL : Nat → Nat) (u : Nat → Int) (t : Nat → Int) (re : Nat → Int) (ob : Nat → Bool) (A : Nat → Prop) : Array Value → State → Outcome → State → Prop := va_Qv (fun (uu : (Nat → Int) × (Nat → Int)) => (∀ p, p < en → uu.1 (plc sA ax (en * (en - 1) / 2 + p) ot) = dpV (sg u sA ax ot) (okc 3 tp ob) p en) ∧ (∀ q, (∀ p, p < en → q ≠ plc sA ax (en * (en - 1) / 2 + p) ot) → uu.1 q = t q)) (at_W G (fun (uu : (Nat → Int) × (Nat → Int)) => [(hC, .inr (1, [.ref hB, .ref hT, .int (nI sA), .ref aZ, .ref aE, .int (nI tx), .int (nI tp), .int tb])), (aZ, .inl (ty 6, 4, .inr (.inr (.inr (.inr fZ))))), (aL 2, .inl (ty 1, nT, .inr (.inl (lF u)))), (aL 3, .inl (ty 1, nT, .inr (.inl (lF uu.1)))), (aE, .inl (ty 1, 25, .inr (.inl (lF uu.2))))]) A) A
set_option maxRecDepth 100000 in
set_option maxHeartbeats 4000000 in
theorem c_fillTo3 (l : Launch) (G : va_G) (ty : Nat → ClassId) (sz : Nat) (hC : Nat) (hB : Nat) (hT : Nat) (sA : Nat) (aZ : Nat) (aE : Nat) (tx : Nat) (tp : Nat) (tb : Int32) (ax : Nat) (ot : Nat) (en : Nat) (nT : Nat) (nb : Nat) (fZ : Nat → Option Nat) (aL : Nat → Nat) (u : Nat → Int) (t : Nat → Int) (re : Nat → Int) (ob : Nat → Bool) (gl : ∀ i, i < 4 → fZ i = some (aL i)) (g1 : ax ≤ 1) (g2 : 1 ≤ en) (g3 : en ≤ 24) (g4 : nT ≤ 100000) (g5 : tp ≤ 3) (g6 : nb ≤ 25) (g7 : 3 ≤ tp) (g9 : 3 < tp ∨ en < nb) (gb : tb = Mk ob nb) (gA : 1 ≤ sA) (gP : ∀ b n, b < n → n ≤ en → plc sA ax (n * (n - 1) / 2 + b) ot < nT) (gu : ∀ b n, b < n → n ≤ en → 0 ≤ (sg u sA ax ot) b n ∧ (sg u sA ax ot) b n ≤ 100000000000000) : Met l y_Cutter_fillTo ws_Cutter_fillTo { frames := 2, cells := 0, slots := 0, locals := 44 } (va_Pc [.ref hC, .int (nI 3), .int (nI ax), .int (nI ot), .int (nI en)] (fun U => U.heap.size = sz ∧ va_P G vwCl [(hC, .inr (1, [.ref hB, .ref hT, .int (nI sA), .ref aZ, .ref aE, .int (nI tx), .int (nI tp), .int tb])), (aZ, .inl (ty 6, 4, .inr (.inr (.inr (.inr fZ))))), (aL 2, .inl (ty 1, nT, .inr (.inl (lF u)))), (aL 3, .inl (ty 1, nT, .inr (.inl (lF t)))), (aE, .inl (ty 1, 25, .inr (.inl (lF re))))] U.heap ∧ KX G ty U ∧ va_D (fun _ => True) [(hC, .inr (1, [.ref hB, .ref hT, .int (nI sA), .ref aZ, .ref aE, .int (nI tx), .int (nI tp), .int tb])), (aZ, .inl (ty 6, 4, .inr (.inr (.inr (.inr fZ))))), (aL 2, .inl (ty 1, nT, .inr (.inl (lF u)))), (aL 3, .inl (ty 1, nT, .inr (.inl (lF t)))), (aE, .inl (ty 1, 25, .inr (.inl (lF re))))])) (q_fillTo3 G ty hC hB hT sA aZ aE tx tp tb ax ot en nT nb fZ aL u t re ob (va_A [(hC, .inr (1, [.ref hB, .ref hT, .int (nI sA), .ref aZ, .ref aE, .int (nI tx), .int (nI tp), .int tb])), (aZ, .inl (ty 6, 4, .inr (.inr (.inr (.inr fZ))))), (aL 2, .inl (ty 1, nT, .inr (.inl (lF u)))), (aL 3, .inl (ty 1, nT, .inr (.inl (lF t)))), (aE, .inl (ty 1, 25, .inr (.inl (lF re))))] sz)) 0 0 (va_A [(hC, .inr (1, [.ref hB, .ref hT, .int (nI sA), .ref aZ, .ref aE, .int (nI tx), .int (nI tp), .int tb])), (aZ, .inl (ty 6, 4, .inr (.inr (.inr (.inr fZ))))), (aL 2, .inl (ty 1, nT, .inr (.inl (lF u)))), (aL 3, .inl (ty 1, nT, .inr (.inl (lF t)))), (aE, .inl (ty 1, 25, .inr (.inl (lF re))))] sz) := by
  refine met_wr (y := y_Cutter_fillTo) (maxL := 15) (sz := sz) (G := G) (ty := ty) (mc := 0) (ms := 0) (av := [.ref hC, .int (nI 3), .int (nI ax), .int (nI ot), .int (nI en)]) (W0 := [(hC, .inr (1, [.ref hB, .ref hT, .int (nI sA), .ref aZ, .ref aE, .int (nI tx), .int (nI tp), .int tb])), (aZ, .inl (ty 6, 4, .inr (.inr (.inr (.inr fZ))))), (aL 2, .inl (ty 1, nT, .inr (.inl (lF u)))), (aL 3, .inl (ty 1, nT, .inr (.inl (lF t)))), (aE, .inl (ty 1, 25, .inr (.inl (lF re))))]) (fun A => q_fillTo3 G ty hC hB hT sA aZ aE tx tp tb ax ot en nT nb fZ aL u t re ob A) R_Cutter (by decide) rfl rfl (Nat.le_of_ble_eq_true rfl) ?_
  intro p e s m below meth c ls A hx hb hr hml hown hts hlocks hin hA hP hX hD hS hl
  have hK := hX.1
  have hl : lv_has ls 15 [(0, .ref hC), (1, .int (nI 3)), (2, .int (nI ax)), (3, .int (nI ot)), (4, .int (nI en))] := hl
  obtain ⟨sd, esd⟩ : ∃ sd, sd = (if ax = 0 then sA else 1) := ⟨_, rfl⟩
  refine lv_aload_n hx hb d_Cutter_fillTo_0 rfl (lv_at hl 0 rfl) ?_
  refine va_get (D := G) (ci := 1) (v := .ref aZ) (C := R_Cutter) (T := F_Cutter) (N := 8) hx hb hts in_Cutter hown hK hP 0 rfl rfl 3 (by decide) (hts _ fl_Cutter_11) (fun _ h9 => h9) rfl d_Cutter_fillTo_1 ?_
  refine lv_iload_n hx hb d_Cutter_fillTo_4 rfl (lv_at hl 1 rfl) ?_
  refine lv_iconst (v := (nI 1)) hx hb d_Cutter_fillTo_5 (by decide) ?_
  refine n_isub hx hb (by omega) d_Cutter_fillTo_6 ?_
  refine top_i (show (nI (3 - 1)) = nI 2 from rfl) ?_
  refine n_aaldA hx hb hK hP 1 6 rfl rfl (by omega) (by omega) (gl 2 (by omega)) d_Cutter_fillTo_7 ?_
  refine lv_astore (lv' := [(5, .ref (aL 2)), (0, .ref hC), (1, .int (nI 3)), (2, .int (nI ax)), (3, .int (nI ot)), (4, .int (nI en))]) hx hb d_Cutter_fillTo_8 hl (by decide) rfl (fun ls hl => ?_)
  refine lv_aload_n hx hb d_Cutter_fillTo_10 rfl (lv_at hl 1 rfl) ?_
  refine va_get (D := G) (ci := 1) (v := .ref aZ) (C := R_Cutter) (T := F_Cutter) (N := 8) hx hb hts in_Cutter hown hK hP 0 rfl rfl 3 (by decide) (hts _ fl_Cutter_11) (fun _ h9 => h9) rfl d_Cutter_fillTo_11 ?_
  refine lv_iload_n hx hb d_Cutter_fillTo_14 rfl (lv_at hl 2 rfl) ?_
  refine n_aaldA hx hb hK hP 1 6 rfl rfl (by omega) (by omega) (gl 3 (by omega)) d_Cutter_fillTo_15 ?_
  refine lv_astore (lv' := [(6, .ref (aL 3)), (5, .ref (aL 2)), (0, .ref hC), (1, .int (nI 3)), (2, .int (nI ax)), (3, .int (nI ot)), (4, .int (nI en))]) hx hb d_Cutter_fillTo_16 hl (by decide) rfl (fun ls hl => ?_)
  refine lv_aload_n hx hb d_Cutter_fillTo_18 rfl (lv_at hl 2 rfl) ?_
  refine lv_iload_n hx hb d_Cutter_fillTo_19 rfl (lv_at hl 4 rfl) ?_
  refine vp_callSi (W.runV (As := [.int (nI ax)]) (rest := []) ⟨hx, hb, hml, hown, hts⟩ (c_Cutter_strideOf l G ty hC hB hT sA aZ aE tx tp tb ax (by omega)) ⟨callB_of 1 hts (gd_TB cd_Cutter_strideOf) rfl rfl rfl (hts _ ini_Cutter) (hts _ lk_Cutter_141) hd_Cutter_strideOf ⟨Nat.le_of_ble_eq_true rfl, Nat.le_of_ble_eq_true rfl⟩, hts _ im_Cutter_strideOf, hts _ sl_Cutter_strideOf⟩ (preV_ro (hP.sub (ws' := [(hC, .inr (1, [.ref hB, .ref hT, .int (nI sA), .ref aZ, .ref aE, .int (nI tx), .int (nI tp), .int tb]))]) [0] rfl) hX 0 rfl rfl) rfl rfl hl.1 rfl (lv_room (Nat.le_of_ble_eq_true rfl)) d_Cutter_fillTo_20 ⟨Nat.le_of_ble_eq_true rfl, Nat.le_of_ble_eq_true rfl⟩) (fun r9 er9 => ?_)
  subst er9
  refine top_i (show (nI (if ax = 0 then sA else 1)) = (nI sd) from congrArg nI esd.symm) ?_
  refine lv_istore (lv' := [(7, .int (nI sd)), (6, .ref (aL 3)), (5, .ref (aL 2)), (0, .ref hC), (1, .int (nI 3)), (2, .int (nI ax)), (3, .int (nI ot)), (4, .int (nI en))]) hx hb d_Cutter_fillTo_23 hl (by decide) rfl (fun ls hl => ?_)
  refine lv_aload_n hx hb d_Cutter_fillTo_25 rfl (lv_at hl 3 rfl) ?_
  refine va_get (D := G) (ci := 1) (v := .ref aE) (C := R_Cutter) (T := F_Cutter) (N := 8) hx hb hts in_Cutter hown hK hP 0 rfl rfl 4 (by decide) (hts _ fl_Cutter_16) (fun _ h9 => h9) rfl d_Cutter_fillTo_26 ?_
  refine lv_iload hx hb d_Cutter_fillTo_29 (lv_at hl 7 rfl) ?_
  refine lv_lconst (v := iL 0) hx hb d_Cutter_fillTo_31 (by decide) ?_
  refine n_last hx hb hK hP hD hS 4 1 rfl rfl (by omega) (by omega) d_Cutter_fillTo_32 (fun H locs hP hD hS => ?_)
  rw [upd_lF] at hP hD
  have hP : va_P G vwCl [(hC, .inr (1, [.ref hB, .ref hT, .int (nI sA), .ref aZ, .ref aE, .int (nI tx), .int (nI tp), .int tb])), (aZ, .inl (ty 6, 4, .inr (.inr (.inr (.inr fZ))))), (aL 2, .inl (ty 1, nT, .inr (.inl (lF u)))), (aL 3, .inl (ty 1, nT, .inr (.inl (lF t)))), (aE, .inl (ty 1, 25, .inr (.inl (lF (va_up re en 0)))))] _ := hP
  have hD : va_D A [(hC, .inr (1, [.ref hB, .ref hT, .int (nI sA), .ref aZ, .ref aE, .int (nI tx), .int (nI tp), .int tb])), (aZ, .inl (ty 6, 4, .inr (.inr (.inr (.inr fZ))))), (aL 2, .inl (ty 1, nT, .inr (.inl (lF u)))), (aL 3, .inl (ty 1, nT, .inr (.inl (lF t)))), (aE, .inl (ty 1, 25, .inr (.inl (lF (va_up re en 0)))))] := hD
  refine lv_iload hx hb d_Cutter_fillTo_33 (lv_at hl 7 rfl) ?_
  refine lv_iconst (v := (nI 1)) hx hb d_Cutter_fillTo_35 (by decide) ?_
  refine nzz_isub hx hb d_Cutter_fillTo_36 ?_
  refine lv_istore (lv' := [(8, .int (iI ((en : Nat) - ((1 : Nat) : Int)))), (7, .int (nI sd)), (6, .ref (aL 3)), (5, .ref (aL 2)), (0, .ref hC), (1, .int (nI 3)), (2, .int (nI ax)), (3, .int (nI ot)), (4, .int (nI en))]) hx hb d_Cutter_fillTo_37 hl (by decide) rfl (fun ls hl => ?_)
  have L39 : ∀ (k9 : Nat) (b : Nat) (t2 : Nat → Int) (re2 : Nat → Int) (H : Heap) (locs : List Loc) (ls : Array Slot), (b ≤ en) → (∀ p, b ≤ p → p ≤ en → re2 p = dpV (sg u sA ax ot) (okc 3 tp ob) p en) → (∀ p, b ≤ p → p < en → t2 (plc sA ax (en * (en - 1) / 2 + p) ot) = dpV (sg u sA ax ot) (okc 3 tp ob) p en) → (∀ q, (∀ p, p < en → q ≠ plc sA ax (en * (en - 1) / 2 + p) ot) → t2 q = t q) → b < k9 → va_P G vwCl [(hC, .inr (1, [.ref hB, .ref hT, .int (nI sA), .ref aZ, .ref aE, .int (nI tx), .int (nI tp), .int tb])), (aZ, .inl (ty 6, 4, .inr (.inr (.inr (.inr fZ))))), (aL 2, .inl (ty 1, nT, .inr (.inl (lF u)))), (aL 3, .inl (ty 1, nT, .inr (.inl (lF t2)))), (aE, .inl (ty 1, 25, .inr (.inl (lF re2))))] H → va_D A [(hC, .inr (1, [.ref hB, .ref hT, .int (nI sA), .ref aZ, .ref aE, .int (nI tx), .int (nI tp), .int tb])), (aZ, .inl (ty 6, 4, .inr (.inr (.inr (.inr fZ))))), (aL 2, .inl (ty 1, nT, .inr (.inl (lF u)))), (aL 3, .inl (ty 1, nT, .inr (.inl (lF t2)))), (aE, .inl (ty 1, 25, .inr (.inl (lF re2))))] → va_S A s.heap H locs → lv_has ls 15 [(0, .ref hC), (1, .int (nI 3)), (2, .int (nI ax)), (3, .int (nI ot)), (4, .int (nI en)), (5, .ref (aL 2)), (6, .ref (aL 3)), (7, .int (nI sd)), (8, .int (iI (((b : Nat) : Int) - ((1 : Nat) : Int))))] → W p l e { frames := 2, cells := 0, slots := 0, locals := 44 } s m [.ref hC, .int (nI 3), .int (nI ax), .int (nI ot), .int (nI en)].toArray below meth c H locs 0 0 (MQ below (q_fillTo3 G ty hC hB hT sA aZ aE tx tp tb ax ot en nT nb fZ aL u t re ob A) [.ref hC, .int (nI 3), .int (nI ax), .int (nI ot), .int (nI en)].toArray s 0 0 A) (F0 m 39 ls []) := by
    intro k9
    induction k9 with
    | zero => intro b t2 re2 H locs ls hb0 hR hTt hF hk9; exact absurd hk9 (Nat.not_lt_zero _)
    | succ k9 ih39 =>
      intro b t2 re2 H locs ls hb0 hR hTt hF hk9 hP hD hS hl
      refine lv_iload hx hb d_Cutter_fillTo_39 (lv_at hl 8 rfl) ?_
      refine z_if_lt (tgt := 189) hx hb (by omega) d_Cutter_fillTo_41 (by decide) (fun c41 => ?_) (fun c41 => ?_)
      · exact W.vret hx hb hr (fun t9 ht hW => ⟨⟨(t2, re2), rfl, ⟨fun p h => hTt p (by omega) h, hF⟩, by rw [ht]; exact hP, hD⟩, hS.F ht⟩) hS.2.2 d_Cutter_fillTo_189
      · obtain ⟨b1, rfl⟩ : ∃ b1, b = b1 + 1 := ⟨b - 1, by omega⟩
        have hl : lv_has ls 15 [(0, .ref hC), (1, .int (nI 3)), (2, .int (nI ax)), (3, .int (nI ot)), (4, .int (nI en)), (5, .ref (aL 2)), (6, .ref (aL 3)), (7, .int (nI sd)), (8, .int (nI b1))] := by rw [show (nI b1) = (iI (((b1 + 1 : Nat) : Int) - ((1 : Nat) : Int))) from by rw [nI_iI]; congr 1; omega]; exact hl
        have hbt := gP b1 en (by omega) (Nat.le_refl _)
        refine lv_aload_n hx hb d_Cutter_fillTo_44 rfl (lv_at hl 0 rfl) ?_
        refine va_get (D := G) (ci := 1) (v := .ref aE) (C := R_Cutter) (T := F_Cutter) (N := 8) hx hb hts in_Cutter hown hK hP 0 rfl rfl 4 (by decide) (hts _ fl_Cutter_16) (fun _ h9 => h9) rfl d_Cutter_fillTo_45 ?_
        refine lv_iload hx hb d_Cutter_fillTo_48 (lv_at hl 8 rfl) ?_
        refine lv_iconst (v := (nI 1)) hx hb d_Cutter_fillTo_50 (by decide) ?_
        refine n_iadd hx hb d_Cutter_fillTo_51 ?_
        refine n_lald hx hb hK hP 4 1 rfl rfl (by omega) (by omega) d_Cutter_fillTo_52 ?_
        refine lv_lstore (lv' := [(9, .long (iL (re2 (b1 + 1)))), (0, .ref hC), (1, .int (nI 3)), (2, .int (nI ax)), (3, .int (nI ot)), (4, .int (nI en)), (5, .ref (aL 2)), (6, .ref (aL 3)), (7, .int (nI sd)), (8, .int (nI b1))]) hx hb d_Cutter_fillTo_53 hl (by decide) rfl (fun ls hl => ?_)
        refine lv_aload_n hx hb d_Cutter_fillTo_55 rfl (lv_at hl 1 rfl) ?_
        refine lv_iload_n hx hb d_Cutter_fillTo_56 rfl (lv_at hl 3 rfl) ?_
        refine lv_iload hx hb d_Cutter_fillTo_57 (lv_at hl 9 rfl) ?_
        refine lv_iload hx hb d_Cutter_fillTo_59 (lv_at hl 9 rfl) ?_
        refine lv_iconst (v := (nI 1)) hx hb d_Cutter_fillTo_61 (by decide) ?_
        refine n_iadd hx hb d_Cutter_fillTo_62 ?_
        refine nest_Rips_spanOf (G := G) (ty := ty) hx hb hml hown hts hX nst_Cutter_104 hl.1 (by omega) (by omega) (by omega) (lv_room (Nat.le_of_ble_eq_true rfl)) ⟨Nat.le_of_ble_eq_true rfl, Nat.le_of_ble_eq_true rfl⟩ ⟨Nat.le_of_ble_eq_true rfl, Nat.le_of_ble_eq_true rfl⟩ d_Cutter_fillTo_63 ?_
        refine lv_iload_n hx hb d_Cutter_fillTo_66 rfl (lv_at hl 4 rfl) ?_
        refine vp_callSi (W.runV (As := [.int (nI ax), .int (nI ((b1 + 1) * ((b1 + 1) - 1) / 2 + b1)), .int (nI ot)]) (rest := []) ⟨hx, hb, hml, hown, hts⟩ (c_Cutter_placeOf l G ty hC hB hT sA aZ aE tx tp tb ax ((b1 + 1) * ((b1 + 1) - 1) / 2 + b1) ot (by omega)) ⟨callB_of 3 hts (gd_TB cd_Cutter_placeOf) rfl rfl rfl (hts _ ini_Cutter) (hts _ lk_Cutter_154) hd_Cutter_placeOf ⟨Nat.le_of_ble_eq_true rfl, Nat.le_of_ble_eq_true rfl⟩, hts _ im_Cutter_placeOf, hts _ sl_Cutter_placeOf⟩ (preV_ro (hP.sub (ws' := [(hC, .inr (1, [.ref hB, .ref hT, .int (nI sA), .ref aZ, .ref aE, .int (nI tx), .int (nI tp), .int tb]))]) [0] rfl) hX 0 rfl rfl) rfl rfl hl.1 rfl (lv_room (Nat.le_of_ble_eq_true rfl)) d_Cutter_fillTo_67 ⟨Nat.le_of_ble_eq_true rfl, Nat.le_of_ble_eq_true rfl⟩) (fun r9 er9 => ?_)
        subst er9
        refine lv_istore (lv' := [(11, .int (nI (plc sA ax ((b1 + 1) * ((b1 + 1) - 1) / 2 + b1) ot))), (9, .long (iL (re2 (b1 + 1)))), (0, .ref hC), (1, .int (nI 3)), (2, .int (nI ax)), (3, .int (nI ot)), (4, .int (nI en)), (5, .ref (aL 2)), (6, .ref (aL 3)), (7, .int (nI sd)), (8, .int (nI b1))]) hx hb d_Cutter_fillTo_70 hl (by decide) rfl (fun ls hl => ?_)
        refine lv_iload hx hb d_Cutter_fillTo_72 (lv_at hl 10 rfl) ?_
        refine lv_iconst (v := (nI 1)) hx hb d_Cutter_fillTo_74 (by decide) ?_
        refine n_iadd hx hb d_Cutter_fillTo_75 ?_
        refine lv_istore (lv' := [(12, .int (nI (b1 + 1))), (11, .int (nI (plc sA ax ((b1 + 1) * ((b1 + 1) - 1) / 2 + b1) ot))), (9, .long (iL (re2 (b1 + 1)))), (0, .ref hC), (1, .int (nI 3)), (2, .int (nI ax)), (3, .int (nI ot)), (4, .int (nI en)), (5, .ref (aL 2)), (6, .ref (aL 3)), (7, .int (nI sd)), (8, .int (nI b1))]) hx hb d_Cutter_fillTo_76 hl (by decide) rfl (fun ls hl => ?_)
        have L78 : ∀ (k9 : Nat) (n1 : Nat) (H : Heap) (locs : List Loc) (ls : Array Slot), (b1 + n1 ≤ en) → en + 1 - (b1 + n1) < k9 → va_P G vwCl [(hC, .inr (1, [.ref hB, .ref hT, .int (nI sA), .ref aZ, .ref aE, .int (nI tx), .int (nI tp), .int tb])), (aZ, .inl (ty 6, 4, .inr (.inr (.inr (.inr fZ))))), (aL 2, .inl (ty 1, nT, .inr (.inl (lF u)))), (aL 3, .inl (ty 1, nT, .inr (.inl (lF t2)))), (aE, .inl (ty 1, 25, .inr (.inl (lF re2))))] H → va_D A [(hC, .inr (1, [.ref hB, .ref hT, .int (nI sA), .ref aZ, .ref aE, .int (nI tx), .int (nI tp), .int tb])), (aZ, .inl (ty 6, 4, .inr (.inr (.inr (.inr fZ))))), (aL 2, .inl (ty 1, nT, .inr (.inl (lF u)))), (aL 3, .inl (ty 1, nT, .inr (.inl (lF t2)))), (aE, .inl (ty 1, 25, .inr (.inl (lF re2))))] → va_S A s.heap H locs → lv_has ls 15 [(0, .ref hC), (1, .int (nI 3)), (2, .int (nI ax)), (3, .int (nI ot)), (4, .int (nI en)), (5, .ref (aL 2)), (6, .ref (aL 3)), (7, .int (nI sd)), (8, .int (nI b1)), (9, .long (iL (dpS (sg u sA ax ot) (okc 3 tp ob) re2 b1 (re2 (b1 + 1)) n1))), (11, .int (nI (plc sA ax ((b1 + 1 + n1) * ((b1 + 1 + n1) - 1) / 2 + b1) ot))), (12, .int (nI (b1 + 1 + n1)))] → W p l e { frames := 2, cells := 0, slots := 0, locals := 44 } s m [.ref hC, .int (nI 3), .int (nI ax), .int (nI ot), .int (nI en)].toArray below meth c H locs 0 0 (MQ below (q_fillTo3 G ty hC hB hT sA aZ aE tx tp tb ax ot en nT nb fZ aL u t re ob A) [.ref hC, .int (nI 3), .int (nI ax), .int (nI ot), .int (nI en)].toArray s 0 0 A) (F0 m 78 ls []) := by
          intro k9
          induction k9 with
          | zero => intro n1 H locs ls hn1 hk9; exact absurd hk9 (Nat.not_lt_zero _)
          | succ k9 ih78 =>
            intro n1 H locs ls hn1 hk9 hP hD hS hl
            refine lv_iload hx hb d_Cutter_fillTo_78 (lv_at hl 11 rfl) ?_
            refine lv_iload hx hb d_Cutter_fillTo_80 (lv_at hl 4 rfl) ?_
            refine n_icmp_gt (tgt := 156) hx hb (by omega) (by omega) d_Cutter_fillTo_82 (by decide) (fun c82 => ?_) (fun c82 => ?_)
            · have en1 : n1 = en - b1 := by omega
              have hbst : dpS (sg u sA ax ot) (okc 3 tp ob) re2 b1 (re2 (b1 + 1)) n1 = dpV (sg u sA ax ot) (okc 3 tp ob) b1 en := by rw [en1]; exact dpS_top (by omega) (fun p h1 h2 => hR p h1 h2)
              have hl : lv_has ls 15 [(0, .ref hC), (1, .int (nI 3)), (2, .int (nI ax)), (3, .int (nI ot)), (4, .int (nI en)), (5, .ref (aL 2)), (6, .ref (aL 3)), (7, .int (nI sd)), (8, .int (nI b1)), (9, .long (iL (dpV (sg u sA ax ot) (okc 3 tp ob) b1 en))), (11, .int (nI (plc sA ax ((b1 + 1 + n1) * ((b1 + 1 + n1) - 1) / 2 + b1) ot))), (12, .int (nI (b1 + 1 + n1)))] := by rw [show (iL (dpV (sg u sA ax ot) (okc 3 tp ob) b1 en)) = (iL (dpS (sg u sA ax ot) (okc 3 tp ob) re2 b1 (re2 (b1 + 1)) n1)) from congrArg iL hbst.symm]; exact hl
              refine lv_aload_n hx hb d_Cutter_fillTo_156 rfl (lv_at hl 0 rfl) ?_
              refine va_get (D := G) (ci := 1) (v := .ref aE) (C := R_Cutter) (T := F_Cutter) (N := 8) hx hb hts in_Cutter hown hK hP 0 rfl rfl 4 (by decide) (hts _ fl_Cutter_16) (fun _ h9 => h9) rfl d_Cutter_fillTo_157 ?_
              refine lv_iload hx hb d_Cutter_fillTo_160 (lv_at hl 8 rfl) ?_
              refine lv_lload hx hb d_Cutter_fillTo_162 (lv_at hl 9 rfl) ?_
              refine n_last hx hb hK hP hD hS 4 1 rfl rfl (by omega) (by omega) d_Cutter_fillTo_164 (fun H locs hP hD hS => ?_)
              rw [upd_lF] at hP hD
              have hP : va_P G vwCl [(hC, .inr (1, [.ref hB, .ref hT, .int (nI sA), .ref aZ, .ref aE, .int (nI tx), .int (nI tp), .int tb])), (aZ, .inl (ty 6, 4, .inr (.inr (.inr (.inr fZ))))), (aL 2, .inl (ty 1, nT, .inr (.inl (lF u)))), (aL 3, .inl (ty 1, nT, .inr (.inl (lF t2)))), (aE, .inl (ty 1, 25, .inr (.inl (lF (va_up re2 b1 (dpV (sg u sA ax ot) (okc 3 tp ob) b1 en))))))] _ := hP
              have hD : va_D A [(hC, .inr (1, [.ref hB, .ref hT, .int (nI sA), .ref aZ, .ref aE, .int (nI tx), .int (nI tp), .int tb])), (aZ, .inl (ty 6, 4, .inr (.inr (.inr (.inr fZ))))), (aL 2, .inl (ty 1, nT, .inr (.inl (lF u)))), (aL 3, .inl (ty 1, nT, .inr (.inl (lF t2)))), (aE, .inl (ty 1, 25, .inr (.inl (lF (va_up re2 b1 (dpV (sg u sA ax ot) (okc 3 tp ob) b1 en))))))] := hD
              refine lv_aload hx hb d_Cutter_fillTo_165 (lv_at hl 6 rfl) ?_
              refine lv_aload_n hx hb d_Cutter_fillTo_167 rfl (lv_at hl 0 rfl) ?_
              refine lv_iload_n hx hb d_Cutter_fillTo_168 rfl (lv_at hl 2 rfl) ?_
              refine lv_iload hx hb d_Cutter_fillTo_169 (lv_at hl 8 rfl) ?_
              refine lv_iload hx hb d_Cutter_fillTo_171 (lv_at hl 4 rfl) ?_
              refine nest_Rips_spanOf (G := G) (ty := ty) hx hb hml hown hts hX nst_Cutter_104 hl.1 (by omega) (by omega) (by omega) (lv_room (Nat.le_of_ble_eq_true rfl)) ⟨Nat.le_of_ble_eq_true rfl, Nat.le_of_ble_eq_true rfl⟩ ⟨Nat.le_of_ble_eq_true rfl, Nat.le_of_ble_eq_true rfl⟩ d_Cutter_fillTo_173 ?_
              refine lv_iload_n hx hb d_Cutter_fillTo_176 rfl (lv_at hl 3 rfl) ?_
              refine vp_callSi (W.runV (As := [.int (nI ax), .int (nI (en * (en - 1) / 2 + b1)), .int (nI ot)]) (rest := [.ref (aL 3)]) ⟨hx, hb, hml, hown, hts⟩ (c_Cutter_placeOf l G ty hC hB hT sA aZ aE tx tp tb ax (en * (en - 1) / 2 + b1) ot (by omega)) ⟨callB_of 3 hts (gd_TB cd_Cutter_placeOf) rfl rfl rfl (hts _ ini_Cutter) (hts _ lk_Cutter_154) hd_Cutter_placeOf ⟨Nat.le_of_ble_eq_true rfl, Nat.le_of_ble_eq_true rfl⟩, hts _ im_Cutter_placeOf, hts _ sl_Cutter_placeOf⟩ (preV_ro (hP.sub (ws' := [(hC, .inr (1, [.ref hB, .ref hT, .int (nI sA), .ref aZ, .ref aE, .int (nI tx), .int (nI tp), .int tb]))]) [0] rfl) hX 0 rfl rfl) rfl rfl hl.1 rfl (lv_room (Nat.le_of_ble_eq_true rfl)) d_Cutter_fillTo_177 ⟨Nat.le_of_ble_eq_true rfl, Nat.le_of_ble_eq_true rfl⟩) (fun r9 er9 => ?_)
              subst er9
              refine lv_lload hx hb d_Cutter_fillTo_180 (lv_at hl 9 rfl) ?_
              refine n_last hx hb hK hP hD hS 3 1 rfl rfl (by omega) (by omega) d_Cutter_fillTo_182 (fun H locs hP hD hS => ?_)
              rw [upd_lF] at hP hD
              have hP : va_P G vwCl [(hC, .inr (1, [.ref hB, .ref hT, .int (nI sA), .ref aZ, .ref aE, .int (nI tx), .int (nI tp), .int tb])), (aZ, .inl (ty 6, 4, .inr (.inr (.inr (.inr fZ))))), (aL 2, .inl (ty 1, nT, .inr (.inl (lF u)))), (aL 3, .inl (ty 1, nT, .inr (.inl (lF (va_up t2 (plc sA ax (en * (en - 1) / 2 + b1) ot) (dpV (sg u sA ax ot) (okc 3 tp ob) b1 en)))))), (aE, .inl (ty 1, 25, .inr (.inl (lF (va_up re2 b1 (dpV (sg u sA ax ot) (okc 3 tp ob) b1 en))))))] _ := hP
              have hD : va_D A [(hC, .inr (1, [.ref hB, .ref hT, .int (nI sA), .ref aZ, .ref aE, .int (nI tx), .int (nI tp), .int tb])), (aZ, .inl (ty 6, 4, .inr (.inr (.inr (.inr fZ))))), (aL 2, .inl (ty 1, nT, .inr (.inl (lF u)))), (aL 3, .inl (ty 1, nT, .inr (.inl (lF (va_up t2 (plc sA ax (en * (en - 1) / 2 + b1) ot) (dpV (sg u sA ax ot) (okc 3 tp ob) b1 en)))))), (aE, .inl (ty 1, 25, .inr (.inl (lF (va_up re2 b1 (dpV (sg u sA ax ot) (okc 3 tp ob) b1 en))))))] := hD
              have hR3 : ∀ p, b1 ≤ p → p ≤ en → (va_up re2 b1 (dpV (sg u sA ax ot) (okc 3 tp ob) b1 en)) p = dpV (sg u sA ax ot) (okc 3 tp ob) p en := fun p h1 h2 => (Nat.lt_or_ge b1 p).elim (fun q => by rw [va_up_ne _ _ (by omega)]; exact hR p (by omega) h2) (fun q => by rw [show p = b1 from by omega, va_up_self])
              have hT3 : ∀ p, b1 ≤ p → p < en → (va_up t2 (plc sA ax (en * (en - 1) / 2 + b1) ot) (dpV (sg u sA ax ot) (okc 3 tp ob) b1 en)) (plc sA ax (en * (en - 1) / 2 + p) ot) = dpV (sg u sA ax ot) (okc 3 tp ob) p en := fun p h1 h2 => (Nat.lt_or_ge b1 p).elim (fun q => by rw [va_up_ne _ _ (plc_ne gA (by omega))]; exact hTt p (by omega) h2) (fun q => by rw [show p = b1 from by omega, va_up_self])
              have hF3 : ∀ q, (∀ p, p < en → q ≠ plc sA ax (en * (en - 1) / 2 + p) ot) → (va_up t2 (plc sA ax (en * (en - 1) / 2 + b1) ot) (dpV (sg u sA ax ot) (okc 3 tp ob) b1 en)) q = t q := fun q hq => by rw [va_up_ne _ _ (hq b1 (by omega))]; exact hF q hq
              refine lv_iinc (v := (iI (((b1 : Nat) : Int) - ((1 : Nat) : Int)))) (lv' := [(8, .int (iI (((b1 : Nat) : Int) - ((1 : Nat) : Int)))), (0, .ref hC), (1, .int (nI 3)), (2, .int (nI ax)), (3, .int (nI ot)), (4, .int (nI en)), (5, .ref (aL 2)), (6, .ref (aL 3)), (7, .int (nI sd)), (9, .long (iL (dpV (sg u sA ax ot) (okc 3 tp ob) b1 en))), (11, .int (nI (plc sA ax ((b1 + 1 + n1) * ((b1 + 1 + n1) - 1) / 2 + b1) ot))), (12, .int (nI (b1 + 1 + n1)))]) hx hb d_Cutter_fillTo_183 hl (k := 8) rfl (by rw [nI_iI]; exact iI_add _ _) (by decide) rfl (fun ls hl => ?_)
              refine lv_goto (tgt := 39) hx hb d_Cutter_fillTo_186 (by decide) ?_
              exact ih39 b1 (va_up t2 (plc sA ax (en * (en - 1) / 2 + b1) ot) (dpV (sg u sA ax ot) (okc 3 tp ob) b1 en)) (va_up re2 b1 (dpV (sg u sA ax ot) (okc 3 tp ob) b1 en)) _ _ _ (by omega) hR3 hT3 hF3 (by omega) hP hD hS (lv_sub hl [1, 2, 3, 4, 5, 6, 7, 8, 0] rfl)
            · have hseg := gu b1 (b1 + 1 + n1) (by omega) (by omega)
              have hpl := gP b1 (b1 + 1 + n1) (by omega) (by omega)
              have hrc := hR (b1 + 1 + n1) (by omega) (by omega)
              have hrb := dpV_b (ok := (okc 3 tp ob)) (show (b1 + 1 + n1) ≤ en by omega) gu
              have hbd := dpS_bd (ok := (okc 3 tp ob)) (n := n1) g3 hn1 (by omega) (fun p h1 h2 => hR p h1 h2) gu
              have esg : sg u sA ax ot b1 (b1 + 1 + n1) = u (plc sA ax ((b1 + 1 + n1) * ((b1 + 1 + n1) - 1) / 2 + b1) ot) := rfl
              rw [← hrc] at hrb
              refine lv_aload hx hb d_Cutter_fillTo_85 (lv_at hl 5 rfl) ?_
              refine lv_iload hx hb d_Cutter_fillTo_87 (lv_at hl 10 rfl) ?_
              refine n_lald hx hb hK hP 2 1 rfl rfl (by omega) (by omega) d_Cutter_fillTo_89 ?_
              refine lv_lstore (lv' := [(13, .long (iL (u (plc sA ax ((b1 + 1 + n1) * ((b1 + 1 + n1) - 1) / 2 + b1) ot)))), (0, .ref hC), (1, .int (nI 3)), (2, .int (nI ax)), (3, .int (nI ot)), (4, .int (nI en)), (5, .ref (aL 2)), (6, .ref (aL 3)), (7, .int (nI sd)), (8, .int (nI b1)), (9, .long (iL (dpS (sg u sA ax ot) (okc 3 tp ob) re2 b1 (re2 (b1 + 1)) n1))), (11, .int (nI (plc sA ax ((b1 + 1 + n1) * ((b1 + 1 + n1) - 1) / 2 + b1) ot))), (12, .int (nI (b1 + 1 + n1)))]) hx hb d_Cutter_fillTo_90 hl (by decide) rfl (fun ls hl => ?_)
              refine lv_lload hx hb d_Cutter_fillTo_92 (lv_at hl 0 rfl) ?_
              refine lv_lconst (v := iL 0) hx hb d_Cutter_fillTo_94 (by decide) ?_
              refine l_cmp_le (tgt := 140) hx hb (by omega) (by omega) d_Cutter_fillTo_95 d_Cutter_fillTo_96 (by decide) (fun c95 => ?_) (fun c95 => ?_)
              · have hl : lv_has ls 15 [(13, .long (iL (u (plc sA ax ((b1 + 1 + n1) * ((b1 + 1 + n1) - 1) / 2 + b1) ot)))), (0, .ref hC), (1, .int (nI 3)), (2, .int (nI ax)), (3, .int (nI ot)), (4, .int (nI en)), (5, .ref (aL 2)), (6, .ref (aL 3)), (7, .int (nI sd)), (8, .int (nI b1)), (9, .long (iL (dpS (sg u sA ax ot) (okc 3 tp ob) re2 b1 (re2 (b1 + 1)) (n1 + 1)))), (11, .int (nI (plc sA ax ((b1 + 1 + n1) * ((b1 + 1 + n1) - 1) / 2 + b1) ot))), (12, .int (nI (b1 + 1 + n1)))] := by rw [show (iL (dpS (sg u sA ax ot) (okc 3 tp ob) re2 b1 (re2 (b1 + 1)) (n1 + 1))) = (iL (dpS (sg u sA ax ot) (okc 3 tp ob) re2 b1 (re2 (b1 + 1)) n1)) from congrArg iL (by rw [dpS_s, if_neg]; intro hh; first | omega | exact absurd hh.2.2 (by rw [show okc 3 tp ob (n1 + 1) = false from tN_0 c125]; decide))]; exact hl
                refine lv_iload hx hb d_Cutter_fillTo_140 (lv_at hl 11 rfl) ?_
                refine lv_iload hx hb d_Cutter_fillTo_142 (lv_at hl 12 rfl) ?_
                refine lv_iload hx hb d_Cutter_fillTo_144 (lv_at hl 8 rfl) ?_
                refine n_imul hx hb d_Cutter_fillTo_146 ?_
                refine n_iadd hx hb d_Cutter_fillTo_147 ?_
                refine top_i (show (nI ((plc sA ax ((b1 + 1 + n1) * ((b1 + 1 + n1) - 1) / 2 + b1) ot) + ((b1 + 1 + n1) * sd))) = (nI (plc sA ax (((b1 + 1 + n1) + 1) * ((b1 + 1 + n1) + 1 - 1) / 2 + b1) ot)) from congrArg nI (by rw [esd]; exact plc_step (by omega))) ?_
                refine lv_istore (lv' := [(11, .int (nI (plc sA ax (((b1 + 1 + n1) + 1) * ((b1 + 1 + n1) + 1 - 1) / 2 + b1) ot))), (13, .long (iL (u (plc sA ax ((b1 + 1 + n1) * ((b1 + 1 + n1) - 1) / 2 + b1) ot)))), (0, .ref hC), (1, .int (nI 3)), (2, .int (nI ax)), (3, .int (nI ot)), (4, .int (nI en)), (5, .ref (aL 2)), (6, .ref (aL 3)), (7, .int (nI sd)), (8, .int (nI b1)), (9, .long (iL (dpS (sg u sA ax ot) (okc 3 tp ob) re2 b1 (re2 (b1 + 1)) (n1 + 1)))), (12, .int (nI (b1 + 1 + n1)))]) hx hb d_Cutter_fillTo_148 hl (by decide) rfl (fun ls hl => ?_)
                refine lv_iinc (v := (nI ((b1 + 1 + n1) + 1))) (lv' := [(12, .int (nI ((b1 + 1 + n1) + 1))), (11, .int (nI (plc sA ax (((b1 + 1 + n1) + 1) * ((b1 + 1 + n1) + 1 - 1) / 2 + b1) ot))), (13, .long (iL (u (plc sA ax ((b1 + 1 + n1) * ((b1 + 1 + n1) - 1) / 2 + b1) ot)))), (0, .ref hC), (1, .int (nI 3)), (2, .int (nI ax)), (3, .int (nI ot)), (4, .int (nI en)), (5, .ref (aL 2)), (6, .ref (aL 3)), (7, .int (nI sd)), (8, .int (nI b1)), (9, .long (iL (dpS (sg u sA ax ot) (okc 3 tp ob) re2 b1 (re2 (b1 + 1)) (n1 + 1))))]) hx hb d_Cutter_fillTo_150 hl (k := 12) rfl (nI_inc _ _ _ (by omega)) (by decide) rfl (fun ls hl => ?_)
                refine lv_goto (tgt := 78) hx hb d_Cutter_fillTo_153 (by decide) ?_
                exact ih78 (n1 + 1) _ _ _ (by omega) (by omega) hP hD hS (lv_sub hl [3, 4, 5, 6, 7, 8, 9, 10, 11, 12, 1, 0] rfl)
              · refine lv_lload hx hb d_Cutter_fillTo_99 (lv_at hl 0 rfl) ?_
                refine lv_aload_n hx hb d_Cutter_fillTo_101 rfl (lv_at hl 1 rfl) ?_
                refine va_get (D := G) (ci := 1) (v := .ref aE) (C := R_Cutter) (T := F_Cutter) (N := 8) hx hb hts in_Cutter hown hK hP 0 rfl rfl 4 (by decide) (hts _ fl_Cutter_16) (fun _ h9 => h9) rfl d_Cutter_fillTo_102 ?_
                refine lv_iload hx hb d_Cutter_fillTo_105 (lv_at hl 12 rfl) ?_
                refine n_lald hx hb hK hP 4 1 rfl rfl (by omega) (by omega) d_Cutter_fillTo_107 ?_
                refine z_ladd hx hb d_Cutter_fillTo_108 ?_
                refine lv_lload hx hb d_Cutter_fillTo_109 (lv_at hl 10 rfl) ?_
                refine l_cmp_le (tgt := 140) hx hb (by omega) (by omega) d_Cutter_fillTo_111 d_Cutter_fillTo_112 (by decide) (fun c111 => ?_) (fun c111 => ?_)
                · have hl : lv_has ls 15 [(13, .long (iL (u (plc sA ax ((b1 + 1 + n1) * ((b1 + 1 + n1) - 1) / 2 + b1) ot)))), (0, .ref hC), (1, .int (nI 3)), (2, .int (nI ax)), (3, .int (nI ot)), (4, .int (nI en)), (5, .ref (aL 2)), (6, .ref (aL 3)), (7, .int (nI sd)), (8, .int (nI b1)), (9, .long (iL (dpS (sg u sA ax ot) (okc 3 tp ob) re2 b1 (re2 (b1 + 1)) (n1 + 1)))), (11, .int (nI (plc sA ax ((b1 + 1 + n1) * ((b1 + 1 + n1) - 1) / 2 + b1) ot))), (12, .int (nI (b1 + 1 + n1)))] := by rw [show (iL (dpS (sg u sA ax ot) (okc 3 tp ob) re2 b1 (re2 (b1 + 1)) (n1 + 1))) = (iL (dpS (sg u sA ax ot) (okc 3 tp ob) re2 b1 (re2 (b1 + 1)) n1)) from congrArg iL (by rw [dpS_s, if_neg]; intro hh; first | omega | exact absurd hh.2.2 (by rw [show okc 3 tp ob (n1 + 1) = false from tN_0 c125]; decide))]; exact hl
                  refine lv_iload hx hb d_Cutter_fillTo_140 (lv_at hl 11 rfl) ?_
                  refine lv_iload hx hb d_Cutter_fillTo_142 (lv_at hl 12 rfl) ?_
                  refine lv_iload hx hb d_Cutter_fillTo_144 (lv_at hl 8 rfl) ?_
                  refine n_imul hx hb d_Cutter_fillTo_146 ?_
                  refine n_iadd hx hb d_Cutter_fillTo_147 ?_
                  refine top_i (show (nI ((plc sA ax ((b1 + 1 + n1) * ((b1 + 1 + n1) - 1) / 2 + b1) ot) + ((b1 + 1 + n1) * sd))) = (nI (plc sA ax (((b1 + 1 + n1) + 1) * ((b1 + 1 + n1) + 1 - 1) / 2 + b1) ot)) from congrArg nI (by rw [esd]; exact plc_step (by omega))) ?_
                  refine lv_istore (lv' := [(11, .int (nI (plc sA ax (((b1 + 1 + n1) + 1) * ((b1 + 1 + n1) + 1 - 1) / 2 + b1) ot))), (13, .long (iL (u (plc sA ax ((b1 + 1 + n1) * ((b1 + 1 + n1) - 1) / 2 + b1) ot)))), (0, .ref hC), (1, .int (nI 3)), (2, .int (nI ax)), (3, .int (nI ot)), (4, .int (nI en)), (5, .ref (aL 2)), (6, .ref (aL 3)), (7, .int (nI sd)), (8, .int (nI b1)), (9, .long (iL (dpS (sg u sA ax ot) (okc 3 tp ob) re2 b1 (re2 (b1 + 1)) (n1 + 1)))), (12, .int (nI (b1 + 1 + n1)))]) hx hb d_Cutter_fillTo_148 hl (by decide) rfl (fun ls hl => ?_)
                  refine lv_iinc (v := (nI ((b1 + 1 + n1) + 1))) (lv' := [(12, .int (nI ((b1 + 1 + n1) + 1))), (11, .int (nI (plc sA ax (((b1 + 1 + n1) + 1) * ((b1 + 1 + n1) + 1 - 1) / 2 + b1) ot))), (13, .long (iL (u (plc sA ax ((b1 + 1 + n1) * ((b1 + 1 + n1) - 1) / 2 + b1) ot)))), (0, .ref hC), (1, .int (nI 3)), (2, .int (nI ax)), (3, .int (nI ot)), (4, .int (nI en)), (5, .ref (aL 2)), (6, .ref (aL 3)), (7, .int (nI sd)), (8, .int (nI b1)), (9, .long (iL (dpS (sg u sA ax ot) (okc 3 tp ob) re2 b1 (re2 (b1 + 1)) (n1 + 1))))]) hx hb d_Cutter_fillTo_150 hl (k := 12) rfl (nI_inc _ _ _ (by omega)) (by decide) rfl (fun ls hl => ?_)
                  refine lv_goto (tgt := 78) hx hb d_Cutter_fillTo_153 (by decide) ?_
                  exact ih78 (n1 + 1) _ _ _ (by omega) (by omega) hP hD hS (lv_sub hl [3, 4, 5, 6, 7, 8, 9, 10, 11, 12, 1, 0] rfl)
                · refine lv_aload_n hx hb d_Cutter_fillTo_115 rfl (lv_at hl 1 rfl) ?_
                  refine lv_iload_n hx hb d_Cutter_fillTo_116 rfl (lv_at hl 2 rfl) ?_
                  refine lv_iload hx hb d_Cutter_fillTo_117 (lv_at hl 12 rfl) ?_
                  refine lv_iload hx hb d_Cutter_fillTo_119 (lv_at hl 9 rfl) ?_
                  refine n_isub hx hb (by omega) d_Cutter_fillTo_121 ?_
                  refine top_i (show (nI ((b1 + 1 + n1) - b1)) = (nI (n1 + 1)) from congrArg nI (by omega)) ?_
                  refine vp_callSi (W.runV (As := [.int (nI 3), .int (nI (n1 + 1))]) (rest := []) ⟨hx, hb, hml, hown, hts⟩ (c_Cutter_mayCut l G ty hC hB hT sA aZ aE tx tp tb 3 (n1 + 1) nb ob (by omega) (by omega) (by omega) (by omega) gb) ⟨callB_of 2 hts (gd_TB cd_Cutter_mayCut) rfl rfl rfl (hts _ ini_Cutter) (hts _ lk_Cutter_158) hd_Cutter_mayCut ⟨Nat.le_of_ble_eq_true rfl, Nat.le_of_ble_eq_true rfl⟩, hts _ im_Cutter_mayCut, hts _ sl_Cutter_mayCut⟩ (preV_ro (hP.sub (ws' := [(hC, .inr (1, [.ref hB, .ref hT, .int (nI sA), .ref aZ, .ref aE, .int (nI tx), .int (nI tp), .int tb]))]) [0] rfl) hX 0 rfl rfl) rfl rfl hl.1 rfl (lv_room (Nat.le_of_ble_eq_true rfl)) d_Cutter_fillTo_122 ⟨Nat.le_of_ble_eq_true rfl, Nat.le_of_ble_eq_true rfl⟩) (fun r9 er9 => ?_)
                  subst er9
                  refine n_if_eq (tgt := 140) hx hb (tN_lt _) d_Cutter_fillTo_125 (by decide) (fun c125 => ?_) (fun c125 => ?_)
                  · have hl : lv_has ls 15 [(13, .long (iL (u (plc sA ax ((b1 + 1 + n1) * ((b1 + 1 + n1) - 1) / 2 + b1) ot)))), (0, .ref hC), (1, .int (nI 3)), (2, .int (nI ax)), (3, .int (nI ot)), (4, .int (nI en)), (5, .ref (aL 2)), (6, .ref (aL 3)), (7, .int (nI sd)), (8, .int (nI b1)), (9, .long (iL (dpS (sg u sA ax ot) (okc 3 tp ob) re2 b1 (re2 (b1 + 1)) (n1 + 1)))), (11, .int (nI (plc sA ax ((b1 + 1 + n1) * ((b1 + 1 + n1) - 1) / 2 + b1) ot))), (12, .int (nI (b1 + 1 + n1)))] := by rw [show (iL (dpS (sg u sA ax ot) (okc 3 tp ob) re2 b1 (re2 (b1 + 1)) (n1 + 1))) = (iL (dpS (sg u sA ax ot) (okc 3 tp ob) re2 b1 (re2 (b1 + 1)) n1)) from congrArg iL (by rw [dpS_s, if_neg]; intro hh; first | omega | exact absurd hh.2.2 (by rw [show okc 3 tp ob (n1 + 1) = false from tN_0 c125]; decide))]; exact hl
                    refine lv_iload hx hb d_Cutter_fillTo_140 (lv_at hl 11 rfl) ?_
                    refine lv_iload hx hb d_Cutter_fillTo_142 (lv_at hl 12 rfl) ?_
                    refine lv_iload hx hb d_Cutter_fillTo_144 (lv_at hl 8 rfl) ?_
                    refine n_imul hx hb d_Cutter_fillTo_146 ?_
                    refine n_iadd hx hb d_Cutter_fillTo_147 ?_
                    refine top_i (show (nI ((plc sA ax ((b1 + 1 + n1) * ((b1 + 1 + n1) - 1) / 2 + b1) ot) + ((b1 + 1 + n1) * sd))) = (nI (plc sA ax (((b1 + 1 + n1) + 1) * ((b1 + 1 + n1) + 1 - 1) / 2 + b1) ot)) from congrArg nI (by rw [esd]; exact plc_step (by omega))) ?_
                    refine lv_istore (lv' := [(11, .int (nI (plc sA ax (((b1 + 1 + n1) + 1) * ((b1 + 1 + n1) + 1 - 1) / 2 + b1) ot))), (13, .long (iL (u (plc sA ax ((b1 + 1 + n1) * ((b1 + 1 + n1) - 1) / 2 + b1) ot)))), (0, .ref hC), (1, .int (nI 3)), (2, .int (nI ax)), (3, .int (nI ot)), (4, .int (nI en)), (5, .ref (aL 2)), (6, .ref (aL 3)), (7, .int (nI sd)), (8, .int (nI b1)), (9, .long (iL (dpS (sg u sA ax ot) (okc 3 tp ob) re2 b1 (re2 (b1 + 1)) (n1 + 1)))), (12, .int (nI (b1 + 1 + n1)))]) hx hb d_Cutter_fillTo_148 hl (by decide) rfl (fun ls hl => ?_)
                    refine lv_iinc (v := (nI ((b1 + 1 + n1) + 1))) (lv' := [(12, .int (nI ((b1 + 1 + n1) + 1))), (11, .int (nI (plc sA ax (((b1 + 1 + n1) + 1) * ((b1 + 1 + n1) + 1 - 1) / 2 + b1) ot))), (13, .long (iL (u (plc sA ax ((b1 + 1 + n1) * ((b1 + 1 + n1) - 1) / 2 + b1) ot)))), (0, .ref hC), (1, .int (nI 3)), (2, .int (nI ax)), (3, .int (nI ot)), (4, .int (nI en)), (5, .ref (aL 2)), (6, .ref (aL 3)), (7, .int (nI sd)), (8, .int (nI b1)), (9, .long (iL (dpS (sg u sA ax ot) (okc 3 tp ob) re2 b1 (re2 (b1 + 1)) (n1 + 1))))]) hx hb d_Cutter_fillTo_150 hl (k := 12) rfl (nI_inc _ _ _ (by omega)) (by decide) rfl (fun ls hl => ?_)
                    refine lv_goto (tgt := 78) hx hb d_Cutter_fillTo_153 (by decide) ?_
                    exact ih78 (n1 + 1) _ _ _ (by omega) (by omega) hP hD hS (lv_sub hl [3, 4, 5, 6, 7, 8, 9, 10, 11, 12, 1, 0] rfl)
                  · refine lv_lload hx hb d_Cutter_fillTo_128 (lv_at hl 0 rfl) ?_
                    refine lv_aload_n hx hb d_Cutter_fillTo_130 rfl (lv_at hl 1 rfl) ?_
                    refine va_get (D := G) (ci := 1) (v := .ref aE) (C := R_Cutter) (T := F_Cutter) (N := 8) hx hb hts in_Cutter hown hK hP 0 rfl rfl 4 (by decide) (hts _ fl_Cutter_16) (fun _ h9 => h9) rfl d_Cutter_fillTo_131 ?_
                    refine lv_iload hx hb d_Cutter_fillTo_134 (lv_at hl 12 rfl) ?_
                    refine n_lald hx hb hK hP 4 1 rfl rfl (by omega) (by omega) d_Cutter_fillTo_136 ?_
                    refine z_ladd hx hb d_Cutter_fillTo_137 ?_
                    refine top_l (show (iL ((u (plc sA ax ((b1 + 1 + n1) * ((b1 + 1 + n1) - 1) / 2 + b1) ot)) + (re2 (b1 + 1 + n1)))) = (iL (dpS (sg u sA ax ot) (okc 3 tp ob) re2 b1 (re2 (b1 + 1)) (n1 + 1))) from congrArg iL (by rw [dpS_s, if_pos ⟨by omega, by omega, tN_1 c125⟩]; rfl)) ?_
                    refine lv_lstore (lv' := [(9, .long (iL (dpS (sg u sA ax ot) (okc 3 tp ob) re2 b1 (re2 (b1 + 1)) (n1 + 1)))), (13, .long (iL (u (plc sA ax ((b1 + 1 + n1) * ((b1 + 1 + n1) - 1) / 2 + b1) ot)))), (0, .ref hC), (1, .int (nI 3)), (2, .int (nI ax)), (3, .int (nI ot)), (4, .int (nI en)), (5, .ref (aL 2)), (6, .ref (aL 3)), (7, .int (nI sd)), (8, .int (nI b1)), (11, .int (nI (plc sA ax ((b1 + 1 + n1) * ((b1 + 1 + n1) - 1) / 2 + b1) ot))), (12, .int (nI (b1 + 1 + n1)))]) hx hb d_Cutter_fillTo_138 hl (by decide) rfl (fun ls hl => ?_)
                    refine lv_iload hx hb d_Cutter_fillTo_140 (lv_at hl 11 rfl) ?_
                    refine lv_iload hx hb d_Cutter_fillTo_142 (lv_at hl 12 rfl) ?_
                    refine lv_iload hx hb d_Cutter_fillTo_144 (lv_at hl 9 rfl) ?_
                    refine n_imul hx hb d_Cutter_fillTo_146 ?_
                    refine n_iadd hx hb d_Cutter_fillTo_147 ?_
                    refine top_i (show (nI ((plc sA ax ((b1 + 1 + n1) * ((b1 + 1 + n1) - 1) / 2 + b1) ot) + ((b1 + 1 + n1) * sd))) = (nI (plc sA ax (((b1 + 1 + n1) + 1) * ((b1 + 1 + n1) + 1 - 1) / 2 + b1) ot)) from congrArg nI (by rw [esd]; exact plc_step (by omega))) ?_
                    refine lv_istore (lv' := [(11, .int (nI (plc sA ax (((b1 + 1 + n1) + 1) * ((b1 + 1 + n1) + 1 - 1) / 2 + b1) ot))), (9, .long (iL (dpS (sg u sA ax ot) (okc 3 tp ob) re2 b1 (re2 (b1 + 1)) (n1 + 1)))), (13, .long (iL (u (plc sA ax ((b1 + 1 + n1) * ((b1 + 1 + n1) - 1) / 2 + b1) ot)))), (0, .ref hC), (1, .int (nI 3)), (2, .int (nI ax)), (3, .int (nI ot)), (4, .int (nI en)), (5, .ref (aL 2)), (6, .ref (aL 3)), (7, .int (nI sd)), (8, .int (nI b1)), (12, .int (nI (b1 + 1 + n1)))]) hx hb d_Cutter_fillTo_148 hl (by decide) rfl (fun ls hl => ?_)
                    refine lv_iinc (v := (nI ((b1 + 1 + n1) + 1))) (lv' := [(12, .int (nI ((b1 + 1 + n1) + 1))), (11, .int (nI (plc sA ax (((b1 + 1 + n1) + 1) * ((b1 + 1 + n1) + 1 - 1) / 2 + b1) ot))), (9, .long (iL (dpS (sg u sA ax ot) (okc 3 tp ob) re2 b1 (re2 (b1 + 1)) (n1 + 1)))), (13, .long (iL (u (plc sA ax ((b1 + 1 + n1) * ((b1 + 1 + n1) - 1) / 2 + b1) ot)))), (0, .ref hC), (1, .int (nI 3)), (2, .int (nI ax)), (3, .int (nI ot)), (4, .int (nI en)), (5, .ref (aL 2)), (6, .ref (aL 3)), (7, .int (nI sd)), (8, .int (nI b1))]) hx hb d_Cutter_fillTo_150 hl (k := 12) rfl (nI_inc _ _ _ (by omega)) (by decide) rfl (fun ls hl => ?_)
                    refine lv_goto (tgt := 78) hx hb d_Cutter_fillTo_153 (by decide) ?_
                    exact ih78 (n1 + 1) _ _ _ (by omega) (by omega) hP hD hS (lv_sub hl [4, 5, 6, 7, 8, 9, 10, 11, 12, 2, 1, 0] rfl)
        exact L78 (en + 1 - (b1 + 0) + 1) 0 _ _ _ (by omega) (Nat.lt_succ_self _) hP hD hS (lv_sub hl [3, 4, 5, 6, 7, 8, 9, 10, 11, 2, 1, 0] rfl)
  exact L39 (en + 1) en t (va_up re en 0) _ _ _ (Nat.le_refl _) (fun p h1 h2 => by rw [show p = en from by omega, va_up_self, dpV_end]) (fun p h1 h2 => absurd h1 (by omega)) (fun q _ => rfl) (Nat.lt_succ_self _) hP hD hS (lv_sub hl [4, 5, 6, 7, 8, 3, 2, 1, 0] rfl)
