theorem lk_Rips_92 : Cond.methodLink R_Rips 92 y_Rips_checkIndex ∈ TB := mem_TB 290 (by decide +kernel) (by decide +kernel)

abbrev q_Rips_checkIndex (G : va_G) (ty : Nat → ClassId) (i : Int) (n : Nat) : Array Value → State → Outcome → State → Prop := va_Sv (fun _ : Unit => True)
set_option maxRecDepth 100000 in
set_option maxHeartbeats 4000000 in
theorem c_Rips_checkIndex (l : Launch) (G : va_G) (ty : Nat → ClassId) (i : Int) (n : Nat) (g1 : 0 ≤ i ∧ i < (n : Int)) (g2 : n ≤ 100000) : Met l y_Rips_checkIndex ws_Rips_checkIndex { frames := 0, cells := 0, slots := 0, locals := 0 } (va_Pc [.int (iI i), .int (nI n)] (fun U => va_P G vwCl [] U.heap ∧ KX G ty U)) (q_Rips_checkIndex G ty i n) 0 0 (fun _ => False) := by
  refine met_ro R_Rips (by decide) rfl rfl (Nat.le_of_ble_eq_true rfl) ?_
  intro p e s m below meth c ls hx hb hr hml hown hts hlocks hP hX hl
  have hK := hX.1
  have hl : lv_has ls 2 [(0, .int (iI i)), (1, .int (nI n))] := hl
  refine lv_iload_n hx hb d_Rips_checkIndex_0 rfl (lv_at hl 0 rfl) ?_
  refine z_if_lt (tgt := 9) hx hb (by omega) d_Rips_checkIndex_1 (by decide) (fun c1 => absurd c1 (by omega)) (fun c1 => ?_)
  refine lv_iload_n hx hb d_Rips_checkIndex_4 rfl (lv_at hl 0 rfl) ?_
  refine lv_iload_n hx hb d_Rips_checkIndex_5 rfl (lv_at hl 1 rfl) ?_
  refine zn_icmp_lt (tgt := 20) hx hb (by omega) (by omega) d_Rips_checkIndex_6 (by decide) (fun c6 => ?_) (fun c6 => absurd c6 (by omega))
  exact W.vret hx hb hr (fun t9 ht _ => ⟨rfl, trivial, ht⟩) (fun q h => by cases h) d_Rips_checkIndex_20

abbrev q_Rips_checkIndexOrNone (G : va_G) (ty : Nat → ClassId) (i : Int) (n : Nat) : Array Value → State → Outcome → State → Prop := va_Sv (fun _ : Unit => True)
set_option maxRecDepth 100000 in
set_option maxHeartbeats 4000000 in
theorem c_Rips_checkIndexOrNone (l : Launch) (G : va_G) (ty : Nat → ClassId) (i : Int) (n : Nat) (g1 : -1 ≤ i ∧ i < (n : Int)) (g2 : n ≤ 100000) : Met l y_Rips_checkIndexOrNone ws_Rips_checkIndexOrNone { frames := 1, cells := 0, slots := 0, locals := 21 } (va_Pc [.int (iI i), .int (nI n)] (fun U => va_P G vwCl [] U.heap ∧ KX G ty U)) (q_Rips_checkIndexOrNone G ty i n) 0 0 (fun _ => False) := by
  refine met_ro R_Rips (by decide) rfl rfl (Nat.le_of_ble_eq_true rfl) ?_
  intro p e s m below meth c ls hx hb hr hml hown hts hlocks hP hX hl
  have hK := hX.1
  have hl : lv_has ls 2 [(0, .int (iI i)), (1, .int (nI n))] := hl
  refine lv_iload_n hx hb d_Rips_checkIndexOrNone_0 rfl (lv_at hl 0 rfl) ?_
  refine lv_iconst (v := (iI (-1))) hx hb d_Rips_checkIndexOrNone_1 (by decide) ?_
  refine z_icmp_eq (tgt := 10) hx hb (by omega) (by omega) d_Rips_checkIndexOrNone_2 (by decide) (fun c2 => ?_) (fun c2 => ?_)
  · exact W.vret hx hb hr (fun t9 ht _ => ⟨rfl, trivial, ht⟩) (fun q h => by cases h) d_Rips_checkIndexOrNone_10
  · refine lv_iload_n hx hb d_Rips_checkIndexOrNone_5 rfl (lv_at hl 0 rfl) ?_
    refine lv_iload_n hx hb d_Rips_checkIndexOrNone_6 rfl (lv_at hl 1 rfl) ?_
    refine va_csv (W.runS (As := [.int (iI i), .int (nI n)]) (rest := []) ⟨hx, hb, hml, hown, hts⟩ (c_Rips_checkIndex l G ty i n (by omega) (by omega)) ⟨callB_of 2 hts (gd_TB cd_Rips_checkIndex) rfl rfl rfl (hts _ ini_Rips) (hts _ lk_Rips_92) hd_Rips_checkIndex ⟨Nat.le_of_ble_eq_true rfl, Nat.le_of_ble_eq_true rfl⟩, hts _ st_Rips_checkIndex⟩ (preS_ro (hP.sub (ws' := []) [] rfl) hX) rfl rfl hl.1 rfl (lv_room (Nat.le_of_ble_eq_true rfl)) d_Rips_checkIndexOrNone_7 ⟨Nat.le_of_ble_eq_true rfl, Nat.le_of_ble_eq_true rfl⟩) (fun _ => ?_)
    exact W.vret hx hb hr (fun t9 ht _ => ⟨rfl, trivial, ht⟩) (fun q h => by cases h) d_Rips_checkIndexOrNone_10

abbrev q_Rips_checkRange (G : va_G) (ty : Nat → ClassId) (v : Int) (a : Int) (b : Int) : Array Value → State → Outcome → State → Prop := va_Sv (fun _ : Unit => True)
set_option maxRecDepth 100000 in
set_option maxHeartbeats 4000000 in
theorem c_Rips_checkRange (l : Launch) (G : va_G) (ty : Nat → ClassId) (v : Int) (a : Int) (b : Int) (g1 : a ≤ v ∧ v ≤ b) (ga : -9223372036854775808 ≤ a ∧ a ≤ 9223372036854775807) (gb : -9223372036854775808 ≤ b ∧ b ≤ 9223372036854775807) : Met l y_Rips_checkRange ws_Rips_checkRange { frames := 0, cells := 0, slots := 0, locals := 0 } (va_Pc [.long (iL v), .long (iL a), .long (iL b)] (fun U => va_P G vwCl [] U.heap ∧ KX G ty U)) (q_Rips_checkRange G ty v a b) 0 0 (fun _ => False) := by
  refine met_ro R_Rips (by decide) rfl rfl (Nat.le_of_ble_eq_true rfl) ?_
  intro p e s m below meth c ls hx hb hr hml hown hts hlocks hP hX hl
  have hK := hX.1
  have hl : lv_has ls 6 [(0, .long (iL v)), (2, .long (iL a)), (4, .long (iL b))] := hl
  refine lv_lload_n hx hb d_Rips_checkRange_0 rfl (lv_at hl 0 rfl) ?_
  refine lv_lload_n hx hb d_Rips_checkRange_1 rfl (lv_at hl 1 rfl) ?_
  refine l_cmp_lt (tgt := 13) hx hb (by omega) (by omega) d_Rips_checkRange_2 d_Rips_checkRange_3 (by decide) (fun c2 => absurd c2 (by omega)) (fun c2 => ?_)
  refine lv_lload_n hx hb d_Rips_checkRange_6 rfl (lv_at hl 0 rfl) ?_
  refine lv_lload hx hb d_Rips_checkRange_7 (lv_at hl 2 rfl) ?_
  refine l_cmp_le (tgt := 24) hx hb (by omega) (by omega) d_Rips_checkRange_9 d_Rips_checkRange_10 (by decide) (fun c9 => ?_) (fun c9 => absurd c9 (by omega))
  exact W.vret hx hb hr (fun t9 ht _ => ⟨rfl, trivial, ht⟩) (fun q h => by cases h) d_Rips_checkRange_24

abbrev q_Rips_checkPlanned (G : va_G) (ty : Nat → ClassId) (hF : Nat) (hB : Nat) (hT : Nat) (hG : Nat) (hC : Nat) (hQ : Nat) (hO : Nat) (hV : Nat) (hN : Nat) (wy : Nat) (sg_ : Nat) (md : Nat) (bd : Int) : Array Value → State → Outcome → State → Prop := va_Sv (fun _ : Unit => True)
set_option maxRecDepth 100000 in
set_option maxHeartbeats 4000000 in
theorem c_Rips_checkPlanned (l : Launch) (G : va_G) (ty : Nat → ClassId) (hF : Nat) (hB : Nat) (hT : Nat) (hG : Nat) (hC : Nat) (hQ : Nat) (hO : Nat) (hV : Nat) (hN : Nat) (wy : Nat) (sg_ : Nat) (md : Nat) (bd : Int) (g1 : md = 1) : Met l y_Rips_checkPlanned ws_Rips_checkPlanned { frames := 0, cells := 0, slots := 0, locals := 0 } (va_Pc [.ref hF] (fun U => va_P G vwCl [(hF, .inr (9, [.ref hB, .ref hT, .ref hG, .ref hC, .ref hQ, .ref hO, .ref hV, .ref hN, .int (nI wy), .int (nI sg_), .int (nI md), .long (iL bd)]))] U.heap ∧ KX G ty U)) (q_Rips_checkPlanned G ty hF hB hT hG hC hQ hO hV hN wy sg_ md bd) 0 0 (fun _ => False) := by
  refine met_ro R_Rips (by decide) rfl rfl (Nat.le_of_ble_eq_true rfl) ?_
  intro p e s m below meth c ls hx hb hr hml hown hts hlocks hP hX hl
  have hK := hX.1
  have hl : lv_has ls 1 [(0, .ref hF)] := hl
  refine lv_aload_n hx hb d_Rips_checkPlanned_0 rfl (lv_at hl 0 rfl) ?_
  refine va_get (D := G) (ci := 9) (v := .int (nI md)) (C := R_Rips) (T := F_Rips) (N := 12) hx hb hts in_Rips hown hK hP 0 rfl rfl 10 (by decide) (hts _ fl_Rips_16) (fun _ h9 => h9) rfl d_Rips_checkPlanned_1 ?_
  refine n_if_ne (tgt := 18) hx hb (by omega) d_Rips_checkPlanned_4 (by decide) (fun c4 => ?_) (fun c4 => absurd c4 (by omega))
  exact W.vret hx hb hr (fun t9 ht _ => ⟨rfl, trivial, ht⟩) (fun q h => by cases h) d_Rips_checkPlanned_18
