set_option maxRecDepth 100000 in
set_option maxHeartbeats 4000000 in
theorem c_Rips_spanOf (l : Launch) (G : va_G) (ty : Nat → ClassId) (b : Nat) (n : Nat) (h1 : b ≤ 1000) (h2 : 1 ≤ n) (h3 : n ≤ 1000) : Met l y_Rips_spanOf ws_Rips_spanOf { frames := 0, cells := 0, slots := 0, locals := 0 } (va_Pc [.int (nI b), .int (nI n)] (fun U => va_P G vwCl [] U.heap ∧ KX G ty U)) (vp_Si (fun r : Int32 => r = (nI (n * (n - 1) / 2 + b)))) 0 0 (fun _ => False) := by
  refine met_ro R_Rips (by decide) rfl rfl (Nat.le_of_ble_eq_true rfl) ?_
  intro p e s m below meth c ls hx hb hr hml hown hts hlocks hP hX hl
  have hK := hX.1
  have hl : lv_has ls 2 [(0, .int (nI b)), (1, .int (nI n))] := hl
  refine lv_iload_n hx hb d_Rips_spanOf_0 rfl (lv_at hl 1 rfl) ?_
  refine lv_iload_n hx hb d_Rips_spanOf_1 rfl (lv_at hl 1 rfl) ?_
  refine lv_iconst (v := (nI 1)) hx hb d_Rips_spanOf_2 (by decide) ?_
  refine n_isub hx hb (by omega) d_Rips_spanOf_3 ?_
  refine n_imul hx hb d_Rips_spanOf_4 ?_
  refine lv_iconst (v := (nI 2)) hx hb d_Rips_spanOf_5 (by decide) ?_
  refine n_idiv hx hb (by have := Nat.mul_le_mul h3 (show n - 1 ≤ 1000 by omega); omega) (by omega) (by omega) d_Rips_spanOf_6 ?_
  refine lv_iload_n hx hb d_Rips_spanOf_7 rfl (lv_at hl 0 rfl) ?_
  refine n_iadd hx hb d_Rips_spanOf_8 ?_
  exact W.iret (v := (nI (((n * (n - 1)) / 2) + b))) hx hb hr (fun t ht _ => ⟨_, rfl, rfl, ht⟩) (fun q h => by cases h) d_Rips_spanOf_9

set_option maxRecDepth 100000 in
set_option maxHeartbeats 4000000 in
theorem c_Rips_spansOf (l : Launch) (G : va_G) (ty : Nat → ClassId) (n : Nat) (h3 : n ≤ 1000) : Met l y_Rips_spansOf ws_Rips_spansOf { frames := 0, cells := 0, slots := 0, locals := 0 } (va_Pc [.int (nI n)] (fun U => va_P G vwCl [] U.heap ∧ KX G ty U)) (vp_Si (fun r : Int32 => r = (nI (n * (n + 1) / 2)))) 0 0 (fun _ => False) := by
  refine met_ro R_Rips (by decide) rfl rfl (Nat.le_of_ble_eq_true rfl) ?_
  intro p e s m below meth c ls hx hb hr hml hown hts hlocks hP hX hl
  have hK := hX.1
  have hl : lv_has ls 1 [(0, .int (nI n))] := hl
  refine lv_iload_n hx hb d_Rips_spansOf_0 rfl (lv_at hl 0 rfl) ?_
  refine lv_iload_n hx hb d_Rips_spansOf_1 rfl (lv_at hl 0 rfl) ?_
  refine lv_iconst (v := (nI 1)) hx hb d_Rips_spansOf_2 (by decide) ?_
  refine n_iadd hx hb d_Rips_spansOf_3 ?_
  refine n_imul hx hb d_Rips_spansOf_4 ?_
  refine lv_iconst (v := (nI 2)) hx hb d_Rips_spansOf_5 (by decide) ?_
  refine n_idiv hx hb (by have := Nat.mul_le_mul h3 (show n + 1 ≤ 1001 by omega); omega) (by omega) (by omega) d_Rips_spansOf_6 ?_
  exact W.iret (v := (nI ((n * (n + 1)) / 2))) hx hb hr (fun t ht _ => ⟨_, rfl, rfl, ht⟩) (fun q h => by cases h) d_Rips_spansOf_7

/-- whether a fault, grown by the margin, meets the span lo .. hi along an axis: 0 is y, 1 is x -/
def fMeets (ax : Nat) (x y w h : Int) (mg : Nat) (lo hi : Int) : Bool := decide (if ax = 0 then y - (mg : Int) < hi ∧ lo < y + h + (mg : Int) else x - (mg : Int) < hi ∧ lo < x + w + (mg : Int))
set_option maxRecDepth 100000 in
set_option maxHeartbeats 4000000 in
theorem c_Fault_meets (l : Launch) (G : va_G) (ty : Nat → ClassId) (h0 : Nat) (ax : Nat) (fc : Nat) (kd : Nat) (x : Int) (y : Int) (w : Int) (h : Int) (lo : Int) (hi : Int) (mg : Nat) (g0 : ax ≤ 1) (gx : -65536 ≤ x ∧ x ≤ 65536) (gy : -65536 ≤ y ∧ y ≤ 65536) (gw : 0 ≤ w ∧ w ≤ 65536) (gh : 0 ≤ h ∧ h ≤ 65536) (gl : 0 ≤ lo ∧ lo ≤ 2000000) (gi : 0 ≤ hi ∧ hi ≤ 2000000) (gm : mg ≤ 65536) : Met l y_Fault_meets ws_Fault_meets { frames := 0, cells := 0, slots := 0, locals := 0 } (va_Pc [.ref h0, .int (nI ax), .int (iI lo), .int (iI hi), .int (nI mg)] (fun U => va_P G vwCl [(h0, .inr (2, [.int (nI fc), .int (nI kd), .int (iI x), .int (iI y), .int (iI w), .int (iI h)]))] U.heap ∧ KX G ty U)) (vp_Si (fun r : Int32 => r = if fMeets ax x y w h mg lo hi = true then nI 1 else nI 0)) 0 0 (fun _ => False) := by
  refine met_ro R_Fault (by decide) rfl rfl (Nat.le_of_ble_eq_true rfl) ?_
  intro p e s m below meth c ls hx hb hr hml hown hts hlocks hP hX hl
  have hK := hX.1
  have hl : lv_has ls 7 [(0, .ref h0), (1, .int (nI ax)), (2, .int (iI lo)), (3, .int (iI hi)), (4, .int (nI mg))] := hl
  refine lv_iload_n hx hb d_Fault_meets_0 rfl (lv_at hl 1 rfl) ?_
  refine n_if_ne (tgt := 11) hx hb (by omega) d_Fault_meets_1 (by decide) (fun c1 => ?_) (fun c1 => ?_)
  · refine lv_aload_n hx hb d_Fault_meets_11 rfl (lv_at hl 0 rfl) ?_
    refine va_get (D := G) (ci := 2) (v := .int (iI x)) (C := R_Fault) (T := F_Fault) (N := 6) hx hb hts in_Fault hown hK hP 0 rfl rfl 2 (by decide) (hts _ fl_Fault_18) (fun _ h9 => h9) rfl d_Fault_meets_12 ?_
    refine lv_istore (lv' := [(5, .int (iI x)), (0, .ref h0), (1, .int (nI ax)), (2, .int (iI lo)), (3, .int (iI hi)), (4, .int (nI mg))]) hx hb d_Fault_meets_15 hl (by decide) rfl (fun ls hl => ?_)
    refine lv_iload_n hx hb d_Fault_meets_17 rfl (lv_at hl 2 rfl) ?_
    refine n_if_ne (tgt := 28) hx hb (by omega) d_Fault_meets_18 (by decide) (fun c18 => ?_) (fun c18 => ?_)
    · refine lv_aload_n hx hb d_Fault_meets_28 rfl (lv_at hl 1 rfl) ?_
      refine va_get (D := G) (ci := 2) (v := .int (iI w)) (C := R_Fault) (T := F_Fault) (N := 6) hx hb hts in_Fault hown hK hP 0 rfl rfl 4 (by decide) (hts _ fl_Fault_24) (fun _ h9 => h9) rfl d_Fault_meets_29 ?_
      refine lv_istore (lv' := [(6, .int (iI w)), (5, .int (iI x)), (0, .ref h0), (1, .int (nI ax)), (2, .int (iI lo)), (3, .int (iI hi)), (4, .int (nI mg))]) hx hb d_Fault_meets_32 hl (by decide) rfl (fun ls hl => ?_)
      refine lv_iload hx hb d_Fault_meets_34 (lv_at hl 1 rfl) ?_
      refine lv_iload hx hb d_Fault_meets_36 (lv_at hl 6 rfl) ?_
      refine zn_isub hx hb d_Fault_meets_38 ?_
      refine lv_iload_n hx hb d_Fault_meets_39 rfl (lv_at hl 5 rfl) ?_
      refine z_icmp_ge (tgt := 59) hx hb (by omega) (by omega) d_Fault_meets_40 (by decide) (fun c40 => ?_) (fun c40 => ?_)
      · refine lv_iconst (v := (nI 0)) hx hb d_Fault_meets_59 (by decide) ?_
        exact W.zret (v := (nI 0)) hx hb hr nar_b0 (fun t ht _ => ⟨_, rfl, by unfold fMeets; rw [if_neg]; simp only [decide_eq_true_eq]; split <;> omega, ht⟩) (fun q h => by cases h) d_Fault_meets_60
      · refine lv_iload hx hb d_Fault_meets_43 (lv_at hl 1 rfl) ?_
        refine lv_iload hx hb d_Fault_meets_45 (lv_at hl 0 rfl) ?_
        refine z_iadd hx hb d_Fault_meets_47 ?_
        refine lv_iload hx hb d_Fault_meets_48 (lv_at hl 6 rfl) ?_
        refine zn_iadd hx hb d_Fault_meets_50 ?_
        refine lv_iload_n hx hb d_Fault_meets_51 rfl (lv_at hl 4 rfl) ?_
        refine z_icmp_le (tgt := 59) hx hb (by omega) (by omega) d_Fault_meets_52 (by decide) (fun c52 => ?_) (fun c52 => ?_)
        · refine lv_iconst (v := (nI 0)) hx hb d_Fault_meets_59 (by decide) ?_
          exact W.zret (v := (nI 0)) hx hb hr nar_b0 (fun t ht _ => ⟨_, rfl, by unfold fMeets; rw [if_neg]; simp only [decide_eq_true_eq]; split <;> omega, ht⟩) (fun q h => by cases h) d_Fault_meets_60
        · refine lv_iconst (v := (nI 1)) hx hb d_Fault_meets_55 (by decide) ?_
          refine lv_goto (tgt := 60) hx hb d_Fault_meets_56 (by decide) ?_
          exact W.zret (v := (nI 1)) hx hb hr nar_b1 (fun t ht _ => ⟨_, rfl, by unfold fMeets; rw [if_pos]; simp only [decide_eq_true_eq]; split <;> omega, ht⟩) (fun q h => by cases h) d_Fault_meets_60
    · refine lv_aload_n hx hb d_Fault_meets_21 rfl (lv_at hl 1 rfl) ?_
      refine va_get (D := G) (ci := 2) (v := .int (iI h)) (C := R_Fault) (T := F_Fault) (N := 6) hx hb hts in_Fault hown hK hP 0 rfl rfl 5 (by decide) (hts _ fl_Fault_27) (fun _ h9 => h9) rfl d_Fault_meets_22 ?_
      refine lv_goto (tgt := 32) hx hb d_Fault_meets_25 (by decide) ?_
      refine lv_istore (lv' := [(6, .int (iI h)), (5, .int (iI x)), (0, .ref h0), (1, .int (nI ax)), (2, .int (iI lo)), (3, .int (iI hi)), (4, .int (nI mg))]) hx hb d_Fault_meets_32 hl (by decide) rfl (fun ls hl => ?_)
      refine lv_iload hx hb d_Fault_meets_34 (lv_at hl 1 rfl) ?_
      refine lv_iload hx hb d_Fault_meets_36 (lv_at hl 6 rfl) ?_
      refine zn_isub hx hb d_Fault_meets_38 ?_
      refine lv_iload_n hx hb d_Fault_meets_39 rfl (lv_at hl 5 rfl) ?_
      refine z_icmp_ge (tgt := 59) hx hb (by omega) (by omega) d_Fault_meets_40 (by decide) (fun c40 => ?_) (fun c40 => ?_)
      · refine lv_iconst (v := (nI 0)) hx hb d_Fault_meets_59 (by decide) ?_
        exact W.zret (v := (nI 0)) hx hb hr nar_b0 (fun t ht _ => ⟨_, rfl, by unfold fMeets; rw [if_neg]; simp only [decide_eq_true_eq]; split <;> omega, ht⟩) (fun q h => by cases h) d_Fault_meets_60
      · refine lv_iload hx hb d_Fault_meets_43 (lv_at hl 1 rfl) ?_
        refine lv_iload hx hb d_Fault_meets_45 (lv_at hl 0 rfl) ?_
        refine z_iadd hx hb d_Fault_meets_47 ?_
        refine lv_iload hx hb d_Fault_meets_48 (lv_at hl 6 rfl) ?_
        refine zn_iadd hx hb d_Fault_meets_50 ?_
        refine lv_iload_n hx hb d_Fault_meets_51 rfl (lv_at hl 4 rfl) ?_
        refine z_icmp_le (tgt := 59) hx hb (by omega) (by omega) d_Fault_meets_52 (by decide) (fun c52 => ?_) (fun c52 => ?_)
        · refine lv_iconst (v := (nI 0)) hx hb d_Fault_meets_59 (by decide) ?_
          exact W.zret (v := (nI 0)) hx hb hr nar_b0 (fun t ht _ => ⟨_, rfl, by unfold fMeets; rw [if_neg]; simp only [decide_eq_true_eq]; split <;> omega, ht⟩) (fun q h => by cases h) d_Fault_meets_60
        · refine lv_iconst (v := (nI 1)) hx hb d_Fault_meets_55 (by decide) ?_
          refine lv_goto (tgt := 60) hx hb d_Fault_meets_56 (by decide) ?_
          exact W.zret (v := (nI 1)) hx hb hr nar_b1 (fun t ht _ => ⟨_, rfl, by unfold fMeets; rw [if_pos]; simp only [decide_eq_true_eq]; split <;> omega, ht⟩) (fun q h => by cases h) d_Fault_meets_60
  · refine lv_aload_n hx hb d_Fault_meets_4 rfl (lv_at hl 0 rfl) ?_
    refine va_get (D := G) (ci := 2) (v := .int (iI y)) (C := R_Fault) (T := F_Fault) (N := 6) hx hb hts in_Fault hown hK hP 0 rfl rfl 3 (by decide) (hts _ fl_Fault_21) (fun _ h9 => h9) rfl d_Fault_meets_5 ?_
    refine lv_goto (tgt := 15) hx hb d_Fault_meets_8 (by decide) ?_
    refine lv_istore (lv' := [(5, .int (iI y)), (0, .ref h0), (1, .int (nI ax)), (2, .int (iI lo)), (3, .int (iI hi)), (4, .int (nI mg))]) hx hb d_Fault_meets_15 hl (by decide) rfl (fun ls hl => ?_)
    refine lv_iload_n hx hb d_Fault_meets_17 rfl (lv_at hl 2 rfl) ?_
    refine n_if_ne (tgt := 28) hx hb (by omega) d_Fault_meets_18 (by decide) (fun c18 => ?_) (fun c18 => ?_)
    · refine lv_aload_n hx hb d_Fault_meets_28 rfl (lv_at hl 1 rfl) ?_
      refine va_get (D := G) (ci := 2) (v := .int (iI w)) (C := R_Fault) (T := F_Fault) (N := 6) hx hb hts in_Fault hown hK hP 0 rfl rfl 4 (by decide) (hts _ fl_Fault_24) (fun _ h9 => h9) rfl d_Fault_meets_29 ?_
      refine lv_istore (lv' := [(6, .int (iI w)), (5, .int (iI y)), (0, .ref h0), (1, .int (nI ax)), (2, .int (iI lo)), (3, .int (iI hi)), (4, .int (nI mg))]) hx hb d_Fault_meets_32 hl (by decide) rfl (fun ls hl => ?_)
      refine lv_iload hx hb d_Fault_meets_34 (lv_at hl 1 rfl) ?_
      refine lv_iload hx hb d_Fault_meets_36 (lv_at hl 6 rfl) ?_
      refine zn_isub hx hb d_Fault_meets_38 ?_
      refine lv_iload_n hx hb d_Fault_meets_39 rfl (lv_at hl 5 rfl) ?_
      refine z_icmp_ge (tgt := 59) hx hb (by omega) (by omega) d_Fault_meets_40 (by decide) (fun c40 => ?_) (fun c40 => ?_)
      · refine lv_iconst (v := (nI 0)) hx hb d_Fault_meets_59 (by decide) ?_
        exact W.zret (v := (nI 0)) hx hb hr nar_b0 (fun t ht _ => ⟨_, rfl, by unfold fMeets; rw [if_neg]; simp only [decide_eq_true_eq]; split <;> omega, ht⟩) (fun q h => by cases h) d_Fault_meets_60
      · refine lv_iload hx hb d_Fault_meets_43 (lv_at hl 1 rfl) ?_
        refine lv_iload hx hb d_Fault_meets_45 (lv_at hl 0 rfl) ?_
        refine z_iadd hx hb d_Fault_meets_47 ?_
        refine lv_iload hx hb d_Fault_meets_48 (lv_at hl 6 rfl) ?_
        refine zn_iadd hx hb d_Fault_meets_50 ?_
        refine lv_iload_n hx hb d_Fault_meets_51 rfl (lv_at hl 4 rfl) ?_
        refine z_icmp_le (tgt := 59) hx hb (by omega) (by omega) d_Fault_meets_52 (by decide) (fun c52 => ?_) (fun c52 => ?_)
        · refine lv_iconst (v := (nI 0)) hx hb d_Fault_meets_59 (by decide) ?_
          exact W.zret (v := (nI 0)) hx hb hr nar_b0 (fun t ht _ => ⟨_, rfl, by unfold fMeets; rw [if_neg]; simp only [decide_eq_true_eq]; split <;> omega, ht⟩) (fun q h => by cases h) d_Fault_meets_60
        · refine lv_iconst (v := (nI 1)) hx hb d_Fault_meets_55 (by decide) ?_
          refine lv_goto (tgt := 60) hx hb d_Fault_meets_56 (by decide) ?_
          exact W.zret (v := (nI 1)) hx hb hr nar_b1 (fun t ht _ => ⟨_, rfl, by unfold fMeets; rw [if_pos]; simp only [decide_eq_true_eq]; split <;> omega, ht⟩) (fun q h => by cases h) d_Fault_meets_60
    · refine lv_aload_n hx hb d_Fault_meets_21 rfl (lv_at hl 1 rfl) ?_
      refine va_get (D := G) (ci := 2) (v := .int (iI h)) (C := R_Fault) (T := F_Fault) (N := 6) hx hb hts in_Fault hown hK hP 0 rfl rfl 5 (by decide) (hts _ fl_Fault_27) (fun _ h9 => h9) rfl d_Fault_meets_22 ?_
      refine lv_goto (tgt := 32) hx hb d_Fault_meets_25 (by decide) ?_
      refine lv_istore (lv' := [(6, .int (iI h)), (5, .int (iI y)), (0, .ref h0), (1, .int (nI ax)), (2, .int (iI lo)), (3, .int (iI hi)), (4, .int (nI mg))]) hx hb d_Fault_meets_32 hl (by decide) rfl (fun ls hl => ?_)
      refine lv_iload hx hb d_Fault_meets_34 (lv_at hl 1 rfl) ?_
      refine lv_iload hx hb d_Fault_meets_36 (lv_at hl 6 rfl) ?_
      refine zn_isub hx hb d_Fault_meets_38 ?_
      refine lv_iload_n hx hb d_Fault_meets_39 rfl (lv_at hl 5 rfl) ?_
      refine z_icmp_ge (tgt := 59) hx hb (by omega) (by omega) d_Fault_meets_40 (by decide) (fun c40 => ?_) (fun c40 => ?_)
      · refine lv_iconst (v := (nI 0)) hx hb d_Fault_meets_59 (by decide) ?_
        exact W.zret (v := (nI 0)) hx hb hr nar_b0 (fun t ht _ => ⟨_, rfl, by unfold fMeets; rw [if_neg]; simp only [decide_eq_true_eq]; split <;> omega, ht⟩) (fun q h => by cases h) d_Fault_meets_60
      · refine lv_iload hx hb d_Fault_meets_43 (lv_at hl 1 rfl) ?_
        refine lv_iload hx hb d_Fault_meets_45 (lv_at hl 0 rfl) ?_
        refine z_iadd hx hb d_Fault_meets_47 ?_
        refine lv_iload hx hb d_Fault_meets_48 (lv_at hl 6 rfl) ?_
        refine zn_iadd hx hb d_Fault_meets_50 ?_
        refine lv_iload_n hx hb d_Fault_meets_51 rfl (lv_at hl 4 rfl) ?_
        refine z_icmp_le (tgt := 59) hx hb (by omega) (by omega) d_Fault_meets_52 (by decide) (fun c52 => ?_) (fun c52 => ?_)
        · refine lv_iconst (v := (nI 0)) hx hb d_Fault_meets_59 (by decide) ?_
          exact W.zret (v := (nI 0)) hx hb hr nar_b0 (fun t ht _ => ⟨_, rfl, by unfold fMeets; rw [if_neg]; simp only [decide_eq_true_eq]; split <;> omega, ht⟩) (fun q h => by cases h) d_Fault_meets_60
        · refine lv_iconst (v := (nI 1)) hx hb d_Fault_meets_55 (by decide) ?_
          refine lv_goto (tgt := 60) hx hb d_Fault_meets_56 (by decide) ?_
          exact W.zret (v := (nI 1)) hx hb hr nar_b1 (fun t ht _ => ⟨_, rfl, by unfold fMeets; rw [if_pos]; simp only [decide_eq_true_eq]; split <;> omega, ht⟩) (fun q h => by cases h) d_Fault_meets_60
