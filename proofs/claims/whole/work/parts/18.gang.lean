theorem fl_Gang_11 : Cond.fieldLink R_Gang 11 "FaultRips$Gang" "widths" "[J" ∈ TB := mem_TB 120 (by decide +kernel) (by decide +kernel)
theorem fl_Gang_15 : Cond.fieldLink R_Gang 15 "FaultRips$Gang" "told" "Z" ∈ TB := mem_TB 121 (by decide +kernel) (by decide +kernel)
theorem lk_Gang_19 : Cond.methodLink R_Gang 19 y_Gang_holds ∈ TB := mem_TB 611 (by decide +kernel) (by decide +kernel)

def btL (x : Int64) (i : Nat) : Bool := x.toBitVec.getLsbD i
theorem bL_ext {x y : Int64} (h : ∀ i, i < 64 → btL x i = btL y i) : x = y := Int64.toBitVec_inj.mp (BitVec.eq_of_getLsbD_eq (fun i hi => h i hi))
theorem sL_l : ∀ n, n < 64 → (((nI n).toInt64 &&& 63).toBitVec.smod 64).toNat = n := by decide +kernel
theorem bL_or (x y : Int64) (i : Nat) : btL (x ||| y) i = (btL x i || btL y i) := by unfold btL; rw [Int64.toBitVec_or, BitVec.getLsbD_or]
theorem bL_and (x y : Int64) (i : Nat) : btL (x &&& y) i = (btL x i && btL y i) := by unfold btL; rw [Int64.toBitVec_and, BitVec.getLsbD_and]
theorem bL_one {i : Nat} (hi : i < 64) : btL (iL 1) i = decide (i = 0) := (by decide +kernel : ∀ i, i < 64 → btL (iL 1) i = decide (i = 0)) i hi
theorem bL_zero {i : Nat} (hi : i < 64) : btL (iL 0) i = false := (by decide +kernel : ∀ i, i < 64 → btL (iL 0) i = false) i hi
theorem bL_shr (n : Nat) (hn : n < 64) (x : Int64) {i : Nat} (hi : i < 64) : btL (x >>> ((nI n).toInt64 &&& 63)) i = if n + i < 64 then btL x (n + i) else btL x 63 := by
  unfold btL
  rw [Int64.toBitVec_shiftRight]
  show (x.toBitVec.sshiftRight (((nI n).toInt64 &&& 63).toBitVec.smod 64).toNat).getLsbD i = _
  rw [sL_l n hn, BitVec.getLsbD_sshiftRight, BitVec.msb_eq_getLsbD_last]
  simp [hi]
theorem bL_shl (n : Nat) (hn : n < 64) (x : Int64) {i : Nat} (hi : i < 64) : btL (x <<< ((nI n).toInt64 &&& 63)) i = (decide (n ≤ i) && btL x (i - n)) := by
  unfold btL
  rw [Int64.toBitVec_shiftLeft]
  show (x.toBitVec <<< (((nI n).toInt64 &&& 63).toBitVec.smod 64).toNat).getLsbD i = _
  rw [sL_l n hn, BitVec.getLsbD_shiftLeft]
  rcases Nat.lt_or_ge i n with h | h
  · simp [h, Nat.not_le.mpr h]
  · simp [hi, h, Nat.not_lt.mpr h]
theorem bL_test {x : Int64} {k : Nat} (hk : k < 64) : (x >>> ((nI k).toInt64 &&& 63)) &&& iL 1 = iL (((btL x k).toNat : Nat) : Int) := by
  apply bL_ext
  intro i hi
  rw [bL_and, bL_shr k hk x hi, bL_one hi]
  by_cases h0 : i = 0
  · subst h0
    rw [if_pos (by omega), Nat.add_zero]
    cases btL x k
    · rw [show iL (((false).toNat : Nat) : Int) = iL 0 from rfl, bL_zero hi]; rfl
    · rw [show iL (((true).toNat : Nat) : Int) = iL 1 from rfl, bL_one hi]; rfl
  · rw [decide_eq_false h0, Bool.and_false]
    cases btL x k
    · rw [show iL (((false).toNat : Nat) : Int) = iL 0 from rfl, bL_zero hi]
    · rw [show iL (((true).toNat : Nat) : Int) = iL 1 from rfl, bL_one hi, decide_eq_false h0]
/-- the gang's bits -/
def GB (wf : Nat → Int64) (gs : Nat → Bool) : Prop := ∀ w, w < 1025 → ∀ j, j < 64 → btL (wf w) j = gs (64 * w + j)
theorem GB_up {wf : Nat → Int64} {gs : Nat → Bool} {n : Nat} (h : GB wf gs) : GB (vp_updL wf (n / 64) (wf (n / 64) ||| (iL 1 <<< ((nI (n % 64)).toInt64 &&& 63)))) (va_up gs n true) := by
  intro w hw j hj
  by_cases q : w = n / 64
  · subst q
    rw [pk_uLs, bL_or, bL_shl _ (by omega) _ hj, h _ hw j hj]
    by_cases q2 : j = n % 64
    · subst q2
      rw [show 64 * (n / 64) + n % 64 = n from by omega, va_up_self, Nat.sub_self, bL_one (by omega)]
      simp
    · rw [va_up_ne _ _ (show 64 * (n / 64) + j ≠ n by omega)]
      by_cases q3 : n % 64 ≤ j
      · rw [bL_one (by omega)]; simp [show ¬ j - n % 64 = 0 by omega]
      · simp [q3]
  · rw [pk_uLn q, va_up_ne _ _ (show 64 * w + j ≠ n by omega)]
    exact h w hw j hj

abbrev q_Gang_holds (G : va_G) (ty : Nat → ClassId) (hG : Nat) (aG : Nat) (tl : Bool) (wf : Nat → Int64) (gs : Nat → Bool) (n : Nat) : Array Value → State → Outcome → State → Prop := vp_Si (fun r : Int32 => r = (nI ((gs n).toNat)))
set_option maxRecDepth 100000 in
set_option maxHeartbeats 4000000 in
theorem c_Gang_holds (l : Launch) (G : va_G) (ty : Nat → ClassId) (hG : Nat) (aG : Nat) (tl : Bool) (wf : Nat → Int64) (gs : Nat → Bool) (n : Nat) (g1 : n ≤ 65536) (gG : GB wf gs) : Met l y_Gang_holds ws_Gang_holds { frames := 0, cells := 0, slots := 0, locals := 0 } (va_Pc [.ref hG, .int (nI n)] (fun U => va_P G vwCl [(hG, .inr (3, [.ref aG, .int (nI tl.toNat)])), (aG, .inl (ty 1, 1025, .inr (.inl wf)))] U.heap ∧ KX G ty U)) (q_Gang_holds G ty hG aG tl wf gs n) 0 0 (fun _ => False) := by
  refine met_ro R_Gang (by decide) rfl rfl (Nat.le_of_ble_eq_true rfl) ?_
  intro p e s m below meth c ls hx hb hr hml hown hts hlocks hP hX hl
  have hK := hX.1
  have hl : lv_has ls 3 [(0, .ref hG), (1, .int (nI n))] := hl
  have hbit := gG (n / 64) (by omega) (n % 64) (by omega)
  rw [show 64 * (n / 64) + n % 64 = n from by omega] at hbit
  refine lv_iload_n hx hb d_Gang_holds_0 rfl (lv_at hl 1 rfl) ?_
  refine lv_bipush (v := (nI 64)) hx hb d_Gang_holds_1 (by decide) ?_
  refine n_idiv hx hb (by omega) (by omega) (by omega) d_Gang_holds_3 ?_
  refine lv_istore_n (lv' := [(2, .int (nI (n / 64))), (0, .ref hG), (1, .int (nI n))]) hx hb d_Gang_holds_4 rfl hl (by decide) rfl (fun ls hl => ?_)
  refine lv_iload_n hx hb d_Gang_holds_5 rfl (lv_at hl 2 rfl) ?_
  refine n_if_lt (tgt := 40) hx hb (by omega) d_Gang_holds_6 (by decide) (fun c6 => absurd c6 (by omega)) (fun c6 => ?_)
  refine lv_iload_n hx hb d_Gang_holds_9 rfl (lv_at hl 0 rfl) ?_
  refine lv_aload_n hx hb d_Gang_holds_10 rfl (lv_at hl 1 rfl) ?_
  refine va_get (D := G) (ci := 3) (v := .ref aG) (C := R_Gang) (T := F_Gang) (N := 2) hx hb hts in_Gang hown hK hP 0 rfl rfl 0 (by decide) (hts _ fl_Gang_11) (fun _ h9 => h9) rfl d_Gang_holds_11 ?_
  refine n_alen hx hb hK hP 1 1 rfl rfl d_Gang_holds_14 ?_
  refine n_icmp_ge (tgt := 40) hx hb (by omega) (by omega) d_Gang_holds_15 (by decide) (fun c15 => absurd c15 (by omega)) (fun c15 => ?_)
  refine lv_aload_n hx hb d_Gang_holds_18 rfl (lv_at hl 1 rfl) ?_
  refine va_get (D := G) (ci := 3) (v := .ref aG) (C := R_Gang) (T := F_Gang) (N := 2) hx hb hts in_Gang hown hK hP 0 rfl rfl 0 (by decide) (hts _ fl_Gang_11) (fun _ h9 => h9) rfl d_Gang_holds_19 ?_
  refine lv_iload_n hx hb d_Gang_holds_22 rfl (lv_at hl 0 rfl) ?_
  refine n_lald hx hb hK hP 1 1 rfl rfl (by omega) (by omega) d_Gang_holds_23 ?_
  refine lv_iload_n hx hb d_Gang_holds_24 rfl (lv_at hl 2 rfl) ?_
  refine lv_bipush (v := (nI 64)) hx hb d_Gang_holds_25 (by decide) ?_
  refine n_irem hx hb (by omega) (by omega) (by omega) d_Gang_holds_27 ?_
  refine lv_lshr (v := (wf (n / 64)) >>> ((nI (n % 64)).toInt64 &&& 63)) hx hb d_Gang_holds_28 rfl ?_
  refine lv_lconst (v := iL 1) hx hb d_Gang_holds_29 (by decide) ?_
  refine lv_land hx hb d_Gang_holds_30 ?_
  refine top_l (show (((wf (n / 64)) >>> ((nI (n % 64)).toInt64 &&& 63)) &&& (iL 1)) = (iL (((gs n).toNat : Nat) : Int)) from by rw [bL_test (by omega), hbit]) ?_
  refine lv_lconst (v := iL 1) hx hb d_Gang_holds_31 (by decide) ?_
  refine l_cmp_ne (tgt := 40) hx hb (by have := Bool.toNat_le (gs n); omega) (by omega) d_Gang_holds_32 d_Gang_holds_33 (by decide) (fun c32 => ?_) (fun c32 => ?_)
  · refine lv_iconst (v := (nI 0)) hx hb d_Gang_holds_40 (by decide) ?_
    exact W.zret (v := (nI 0)) hx hb hr nar_b0 (fun t9 ht _ => ⟨_, rfl, congrArg nI (by have := Bool.toNat_le (gs n); omega), ht⟩) (fun q h => by cases h) d_Gang_holds_41
  · refine lv_iconst (v := (nI 1)) hx hb d_Gang_holds_36 (by decide) ?_
    refine lv_goto (tgt := 41) hx hb d_Gang_holds_37 (by decide) ?_
    exact W.zret (v := (nI 1)) hx hb hr nar_b1 (fun t9 ht _ => ⟨_, rfl, congrArg nI (by have := Bool.toNat_le (gs n); omega), ht⟩) (fun q h => by cases h) d_Gang_holds_41

abbrev q_Gang_addWidth (G : va_G) (ty : Nat → ClassId) (hG : Nat) (aG : Nat) (tl : Bool) (wf : Nat → Int64) (gs : Nat → Bool) (n : Nat) (A : Nat → Prop) : Array Value → State → Outcome → State → Prop := va_Qv (fun (uu : (Nat → Int64)) => GB uu (va_up gs n true)) (at_W G (fun (uu : (Nat → Int64)) => [(hG, .inr (3, [.ref aG, .int (nI 1)])), (aG, .inl (ty 1, 1025, .inr (.inl uu)))]) A) A
set_option maxRecDepth 100000 in
set_option maxHeartbeats 4000000 in
theorem c_Gang_addWidth (l : Launch) (G : va_G) (ty : Nat → ClassId) (sz : Nat) (hG : Nat) (aG : Nat) (tl : Bool) (wf : Nat → Int64) (gs : Nat → Bool) (n : Nat) (g1 : n ≤ 65536) (gG : GB wf gs) : Met l y_Gang_addWidth ws_Gang_addWidth { frames := 0, cells := 0, slots := 0, locals := 0 } (va_Pc [.ref hG, .int (nI n)] (fun U => U.heap.size = sz ∧ va_P G vwCl [(hG, .inr (3, [.ref aG, .int (nI tl.toNat)])), (aG, .inl (ty 1, 1025, .inr (.inl wf)))] U.heap ∧ KX G ty U ∧ va_D (fun _ => True) [(hG, .inr (3, [.ref aG, .int (nI tl.toNat)])), (aG, .inl (ty 1, 1025, .inr (.inl wf)))])) (q_Gang_addWidth G ty hG aG tl wf gs n (va_A [(hG, .inr (3, [.ref aG, .int (nI tl.toNat)])), (aG, .inl (ty 1, 1025, .inr (.inl wf)))] sz)) 0 0 (va_A [(hG, .inr (3, [.ref aG, .int (nI tl.toNat)])), (aG, .inl (ty 1, 1025, .inr (.inl wf)))] sz) := by
  refine met_wr (y := y_Gang_addWidth) (maxL := 3) (sz := sz) (G := G) (ty := ty) (mc := 0) (ms := 0) (av := [.ref hG, .int (nI n)]) (W0 := [(hG, .inr (3, [.ref aG, .int (nI tl.toNat)])), (aG, .inl (ty 1, 1025, .inr (.inl wf)))]) (fun A => q_Gang_addWidth G ty hG aG tl wf gs n A) R_Gang (by decide) rfl rfl (Nat.le_of_ble_eq_true rfl) ?_
  intro p e s m below meth c ls A hx hb hr hml hown hts hlocks hin hA hP hX hD hS hl
  have hK := hX.1
  have hl : lv_has ls 3 [(0, .ref hG), (1, .int (nI n))] := hl
  refine lv_iload_n hx hb d_Gang_addWidth_0 rfl (lv_at hl 1 rfl) ?_
  refine lv_bipush (v := (nI 64)) hx hb d_Gang_addWidth_1 (by decide) ?_
  refine n_idiv hx hb (by omega) (by omega) (by omega) d_Gang_addWidth_3 ?_
  refine lv_istore_n (lv' := [(2, .int (nI (n / 64))), (0, .ref hG), (1, .int (nI n))]) hx hb d_Gang_addWidth_4 rfl hl (by decide) rfl (fun ls hl => ?_)
  refine lv_iload_n hx hb d_Gang_addWidth_5 rfl (lv_at hl 2 rfl) ?_
  refine n_if_lt (tgt := 38) hx hb (by omega) d_Gang_addWidth_6 (by decide) (fun c6 => absurd c6 (by omega)) (fun c6 => ?_)
  refine lv_iload_n hx hb d_Gang_addWidth_9 rfl (lv_at hl 0 rfl) ?_
  refine lv_aload_n hx hb d_Gang_addWidth_10 rfl (lv_at hl 1 rfl) ?_
  refine va_get (D := G) (ci := 3) (v := .ref aG) (C := R_Gang) (T := F_Gang) (N := 2) hx hb hts in_Gang hown hK hP 0 rfl rfl 0 (by decide) (hts _ fl_Gang_11) (fun _ h9 => h9) rfl d_Gang_addWidth_11 ?_
  refine n_alen hx hb hK hP 1 1 rfl rfl d_Gang_addWidth_14 ?_
  refine n_icmp_ge (tgt := 38) hx hb (by omega) (by omega) d_Gang_addWidth_15 (by decide) (fun c15 => absurd c15 (by omega)) (fun c15 => ?_)
  refine lv_aload_n hx hb d_Gang_addWidth_18 rfl (lv_at hl 1 rfl) ?_
  refine va_get (D := G) (ci := 3) (v := .ref aG) (C := R_Gang) (T := F_Gang) (N := 2) hx hb hts in_Gang hown hK hP 0 rfl rfl 0 (by decide) (hts _ fl_Gang_11) (fun _ h9 => h9) rfl d_Gang_addWidth_19 ?_
  refine lv_iload_n hx hb d_Gang_addWidth_22 rfl (lv_at hl 0 rfl) ?_
  refine lv_dup2_11 hx hb d_Gang_addWidth_23 rfl rfl ?_
  refine n_lald hx hb hK hP 1 1 rfl rfl (by omega) (by omega) d_Gang_addWidth_24 ?_
  refine lv_lconst (v := iL 1) hx hb d_Gang_addWidth_25 (by decide) ?_
  refine lv_iload_n hx hb d_Gang_addWidth_26 rfl (lv_at hl 2 rfl) ?_
  refine lv_bipush (v := (nI 64)) hx hb d_Gang_addWidth_27 (by decide) ?_
  refine n_irem hx hb (by omega) (by omega) (by omega) d_Gang_addWidth_29 ?_
  refine lv_lshl (v := (iL 1) <<< ((nI (n % 64)).toInt64 &&& 63)) hx hb d_Gang_addWidth_30 rfl ?_
  refine lv_lor hx hb d_Gang_addWidth_31 ?_
  refine n_last hx hb hK hP hD hS 1 1 rfl rfl (by omega) (by omega) d_Gang_addWidth_32 (fun H locs hP hD hS => ?_)
  have hP : va_P G vwCl [(hG, .inr (3, [.ref aG, .int (nI tl.toNat)])), (aG, .inl (ty 1, 1025, .inr (.inl (vp_updL wf (n / 64) ((wf (n / 64)) ||| ((iL 1) <<< ((nI (n % 64)).toInt64 &&& 63)))))))] _ := hP
  have hD : va_D A [(hG, .inr (3, [.ref aG, .int (nI tl.toNat)])), (aG, .inl (ty 1, 1025, .inr (.inl (vp_updL wf (n / 64) ((wf (n / 64)) ||| ((iL 1) <<< ((nI (n % 64)).toInt64 &&& 63)))))))] := hD
  refine lv_aload_n hx hb d_Gang_addWidth_33 rfl (lv_at hl 1 rfl) ?_
  refine lv_iconst (v := (nI 1)) hx hb d_Gang_addWidth_34 (by decide) ?_
  refine va_put (D := G) (ci := 3) (v := .int (nI 1)) (ty := .boolean) (C := R_Gang) (T := F_Gang) (N := 2) hx hb hts in_Gang t_Gang t_Gang_ok n_Gang hown hK hP hD hS 0 rfl rfl 1 (by decide) (hts _ fl_Gang_15) (fun _ h9 => h9) rfl (by decide +kernel) nar_b1 fit_b1 (Nat.le_of_ble_eq_true rfl) d_Gang_addWidth_35 (fun H locs hP hD hS => ?_)
  have hP : va_P G vwCl [(hG, .inr (3, [.ref aG, .int (nI 1)])), (aG, .inl (ty 1, 1025, .inr (.inl (vp_updL wf (n / 64) ((wf (n / 64)) ||| ((iL 1) <<< ((nI (n % 64)).toInt64 &&& 63)))))))] _ := hP
  have hD : va_D A [(hG, .inr (3, [.ref aG, .int (nI 1)])), (aG, .inl (ty 1, 1025, .inr (.inl (vp_updL wf (n / 64) ((wf (n / 64)) ||| ((iL 1) <<< ((nI (n % 64)).toInt64 &&& 63)))))))] := hD
  exact W.vret hx hb hr (fun t9 ht hW => ⟨⟨(vp_updL wf (n / 64) ((wf (n / 64)) ||| ((iL 1) <<< ((nI (n % 64)).toInt64 &&& 63)))), rfl, GB_up gG, by rw [ht]; exact hP, hD⟩, hS.F ht⟩) hS.2.2 d_Gang_addWidth_38

abbrev q_Gang_mayRip (G : va_G) (ty : Nat → ClassId) (hG : Nat) (aG : Nat) (tl : Bool) (wf : Nat → Int64) (gs : Nat → Bool) (n : Nat) : Array Value → State → Outcome → State → Prop := vp_Si (fun r : Int32 => r = (nI ((!tl || gs n).toNat)))
set_option maxRecDepth 100000 in
set_option maxHeartbeats 4000000 in
theorem c_Gang_mayRip (l : Launch) (G : va_G) (ty : Nat → ClassId) (hG : Nat) (aG : Nat) (tl : Bool) (wf : Nat → Int64) (gs : Nat → Bool) (n : Nat) (g1 : n ≤ 65536) (gG : GB wf gs) : Met l y_Gang_mayRip ws_Gang_mayRip { frames := 1, cells := 0, slots := 0, locals := 22 } (va_Pc [.ref hG, .int (nI n)] (fun U => va_P G vwCl [(hG, .inr (3, [.ref aG, .int (nI tl.toNat)])), (aG, .inl (ty 1, 1025, .inr (.inl wf)))] U.heap ∧ KX G ty U)) (q_Gang_mayRip G ty hG aG tl wf gs n) 0 0 (fun _ => False) := by
  refine met_ro R_Gang (by decide) rfl rfl (Nat.le_of_ble_eq_true rfl) ?_
  intro p e s m below meth c ls hx hb hr hml hown hts hlocks hP hX hl
  have hK := hX.1
  have hl : lv_has ls 2 [(0, .ref hG), (1, .int (nI n))] := hl
  refine lv_aload_n hx hb d_Gang_mayRip_0 rfl (lv_at hl 0 rfl) ?_
  refine va_get (D := G) (ci := 3) (v := .int (nI tl.toNat)) (C := R_Gang) (T := F_Gang) (N := 2) hx hb hts in_Gang hown hK hP 0 rfl rfl 1 (by decide) (hts _ fl_Gang_15) (fun _ h9 => h9) rfl d_Gang_mayRip_1 ?_
  refine n_if_eq (tgt := 15) hx hb (tN_lt _) d_Gang_mayRip_4 (by decide) (fun c4 => ?_) (fun c4 => ?_)
  · refine lv_iconst (v := (nI 1)) hx hb d_Gang_mayRip_15 (by decide) ?_
    refine lv_goto (tgt := 20) hx hb d_Gang_mayRip_16 (by decide) ?_
    exact W.zret (v := (nI 1)) hx hb hr nar_b1 (fun t9 ht _ => ⟨_, rfl, congrArg nI (by first | (rw [tN_0 c4]; rfl) | (rw [tN_1 c4, tN_1 c12]; rfl) | (rw [tN_1 c4, tN_0 c12]; rfl)), ht⟩) (fun q h => by cases h) d_Gang_mayRip_20
  · refine lv_aload_n hx hb d_Gang_mayRip_7 rfl (lv_at hl 0 rfl) ?_
    refine lv_iload_n hx hb d_Gang_mayRip_8 rfl (lv_at hl 1 rfl) ?_
    refine vp_callSi (W.runV (As := [.int (nI n)]) (rest := []) ⟨hx, hb, hml, hown, hts⟩ (c_Gang_holds l G ty hG aG tl wf gs n (by omega) gG) ⟨callB_of 1 hts (gd_TB cd_Gang_holds) rfl rfl rfl (hts _ ini_Gang) (hts _ lk_Gang_19) hd_Gang_holds ⟨Nat.le_of_ble_eq_true rfl, Nat.le_of_ble_eq_true rfl⟩, hts _ im_Gang_holds, hts _ sl_Gang_holds⟩ (preV_ro (hP.sub (ws' := [(hG, .inr (3, [.ref aG, .int (nI tl.toNat)])), (aG, .inl (ty 1, 1025, .inr (.inl wf)))]) [0, 1] rfl) hX 0 rfl rfl) rfl rfl hl.1 rfl (lv_room (Nat.le_of_ble_eq_true rfl)) d_Gang_mayRip_9 ⟨Nat.le_of_ble_eq_true rfl, Nat.le_of_ble_eq_true rfl⟩) (fun r9 er9 => ?_)
    subst er9
    refine n_if_eq (tgt := 19) hx hb (tN_lt _) d_Gang_mayRip_12 (by decide) (fun c12 => ?_) (fun c12 => ?_)
    · refine lv_iconst (v := (nI 0)) hx hb d_Gang_mayRip_19 (by decide) ?_
      exact W.zret (v := (nI 0)) hx hb hr nar_b0 (fun t9 ht _ => ⟨_, rfl, congrArg nI (by first | (rw [tN_0 c4]; rfl) | (rw [tN_1 c4, tN_1 c12]; rfl) | (rw [tN_1 c4, tN_0 c12]; rfl)), ht⟩) (fun q h => by cases h) d_Gang_mayRip_20
    · refine lv_iconst (v := (nI 1)) hx hb d_Gang_mayRip_15 (by decide) ?_
      refine lv_goto (tgt := 20) hx hb d_Gang_mayRip_16 (by decide) ?_
      exact W.zret (v := (nI 1)) hx hb hr nar_b1 (fun t9 ht _ => ⟨_, rfl, congrArg nI (by first | (rw [tN_0 c4]; rfl) | (rw [tN_1 c4, tN_1 c12]; rfl) | (rw [tN_1 c4, tN_0 c12]; rfl)), ht⟩) (fun q h => by cases h) d_Gang_mayRip_20
