theorem cl_Rips_273 : Cond.classLink R_Rips 273 "java/lang/IndexOutOfBoundsException" ∈ TB := mem_TB 293 (by decide +kernel) (by decide +kernel)
theorem cl_Rips_278 : Cond.classLink R_Rips 278 "java/lang/IllegalArgumentException" ∈ TB := mem_TB 381 (by decide +kernel) (by decide +kernel)
theorem cl_Rips_99 : Cond.classLink R_Rips 99 "java/lang/IllegalStateException" ∈ TB := mem_TB 361 (by decide +kernel) (by decide +kernel)

set_option maxRecDepth 100000 in
set_option maxHeartbeats 4000000 in
theorem t_checkIndex (l : Launch) (hlt : l.stackTraces = false) (G : va_G) (ty : Nat → ClassId) (i : Int) (n : Nat) (gx : ¬ (0 ≤ i ∧ i < (n : Int))) (gi : -2147483648 ≤ i ∧ i ≤ 2147483647) (g2 : n ≤ 100000) : MetT l y_Rips_checkIndex ws_Rips_checkIndex { frames := 6, cells := 1, slots := 6, locals := 100 } (va_Pc [.int (iI i), .int (nI n)] (fun U => va_P G vwCl [] U.heap ∧ KX G ty U ∧ ZS U)) (QT xI) 1 6 (fun _ => False) := by
  refine met_th R_Rips (by decide) rfl rfl (Nat.le_of_ble_eq_true rfl) ?_
  intro p e s m below meth c ls hx hb hml hown hts hlocks hout hP hX hZ hl
  have hK := hX.1
  have hl : lv_has ls 2 [(0, .int (iI i)), (1, .int (nI n))] := hl
  refine lv_iload_n hx hb d_Rips_checkIndex_0 rfl (lv_at hl 0 rfl) ?_
  refine z_if_lt (tgt := 9) hx hb (by omega) d_Rips_checkIndex_1 (by decide) (fun c1 => ?_) (fun c1 => ?_)
  · exact thr_site (tx := "there is no such piece, face, part") hx hb hml hl.1 hown hts hX hZ hlt hlocks (hout 19) at_xI (by decide +kernel) cl_Rips_273 ini_xI (by decide) d_Rips_checkIndex_9 d_Rips_checkIndex_12 (Or.inr ⟨d_Rips_checkIndex_13, rfl⟩) d_Rips_checkIndex_16 d_Rips_checkIndex_19 ⟨Nat.le_of_ble_eq_true rfl, Nat.le_of_ble_eq_true rfl, Nat.le_of_ble_eq_true rfl, Nat.le_of_ble_eq_true rfl⟩
  · refine lv_iload_n hx hb d_Rips_checkIndex_4 rfl (lv_at hl 0 rfl) ?_
    refine lv_iload_n hx hb d_Rips_checkIndex_5 rfl (lv_at hl 1 rfl) ?_
    refine zn_icmp_lt (tgt := 20) hx hb (by omega) (by omega) d_Rips_checkIndex_6 (by decide) (fun c6 => ?_) (fun c6 => ?_)
    · exact absurd gx (by omega)
    · exact thr_site (tx := "there is no such piece, face, part") hx hb hml hl.1 hown hts hX hZ hlt hlocks (hout 19) at_xI (by decide +kernel) cl_Rips_273 ini_xI (by decide) d_Rips_checkIndex_9 d_Rips_checkIndex_12 (Or.inr ⟨d_Rips_checkIndex_13, rfl⟩) d_Rips_checkIndex_16 d_Rips_checkIndex_19 ⟨Nat.le_of_ble_eq_true rfl, Nat.le_of_ble_eq_true rfl, Nat.le_of_ble_eq_true rfl, Nat.le_of_ble_eq_true rfl⟩

set_option maxRecDepth 100000 in
set_option maxHeartbeats 4000000 in
theorem t_checkRange (l : Launch) (hlt : l.stackTraces = false) (G : va_G) (ty : Nat → ClassId) (v : Int) (a : Int) (b : Int) (gx : ¬ (a ≤ v ∧ v ≤ b)) (gv : -9223372036854775808 ≤ v ∧ v ≤ 9223372036854775807) (ga : -9223372036854775808 ≤ a ∧ a ≤ 9223372036854775807) (gb : -9223372036854775808 ≤ b ∧ b ≤ 9223372036854775807) : MetT l y_Rips_checkRange ws_Rips_checkRange { frames := 6, cells := 1, slots := 6, locals := 100 } (va_Pc [.long (iL v), .long (iL a), .long (iL b)] (fun U => va_P G vwCl [] U.heap ∧ KX G ty U ∧ ZS U)) (QT xA) 1 6 (fun _ => False) := by
  refine met_th R_Rips (by decide) rfl rfl (Nat.le_of_ble_eq_true rfl) ?_
  intro p e s m below meth c ls hx hb hml hown hts hlocks hout hP hX hZ hl
  have hK := hX.1
  have hl : lv_has ls 6 [(0, .long (iL v)), (2, .long (iL a)), (4, .long (iL b))] := hl
  refine lv_lload_n hx hb d_Rips_checkRange_0 rfl (lv_at hl 0 rfl) ?_
  refine lv_lload_n hx hb d_Rips_checkRange_1 rfl (lv_at hl 1 rfl) ?_
  refine l_cmp_lt (tgt := 13) hx hb (by omega) (by omega) d_Rips_checkRange_2 d_Rips_checkRange_3 (by decide) (fun c2 => ?_) (fun c2 => ?_)
  · exact thr_site (tx := "a number is not as said") hx hb hml hl.1 hown hts hX hZ hlt hlocks (hout 23) at_xA (by decide +kernel) cl_Rips_278 ini_xA (by decide) d_Rips_checkRange_13 d_Rips_checkRange_16 (Or.inr ⟨d_Rips_checkRange_17, rfl⟩) d_Rips_checkRange_20 d_Rips_checkRange_23 ⟨Nat.le_of_ble_eq_true rfl, Nat.le_of_ble_eq_true rfl, Nat.le_of_ble_eq_true rfl, Nat.le_of_ble_eq_true rfl⟩
  · refine lv_lload_n hx hb d_Rips_checkRange_6 rfl (lv_at hl 0 rfl) ?_
    refine lv_lload hx hb d_Rips_checkRange_7 (lv_at hl 2 rfl) ?_
    refine l_cmp_le (tgt := 24) hx hb (by omega) (by omega) d_Rips_checkRange_9 d_Rips_checkRange_10 (by decide) (fun c9 => ?_) (fun c9 => ?_)
    · exact absurd gx (by omega)
    · exact thr_site (tx := "a number is not as said") hx hb hml hl.1 hown hts hX hZ hlt hlocks (hout 23) at_xA (by decide +kernel) cl_Rips_278 ini_xA (by decide) d_Rips_checkRange_13 d_Rips_checkRange_16 (Or.inr ⟨d_Rips_checkRange_17, rfl⟩) d_Rips_checkRange_20 d_Rips_checkRange_23 ⟨Nat.le_of_ble_eq_true rfl, Nat.le_of_ble_eq_true rfl, Nat.le_of_ble_eq_true rfl, Nat.le_of_ble_eq_true rfl⟩

set_option maxRecDepth 100000 in
set_option maxHeartbeats 4000000 in
theorem t_checkPlanned (l : Launch) (hlt : l.stackTraces = false) (G : va_G) (ty : Nat → ClassId) (hF : Nat) (hB : Nat) (hT : Nat) (hG : Nat) (hC : Nat) (hQ : Nat) (hO : Nat) (hV : Nat) (hN : Nat) (wy : Nat) (sg_ : Nat) (md : Nat) (bd : Int) (gx : md = 0) : MetT l y_Rips_checkPlanned ws_Rips_checkPlanned { frames := 6, cells := 1, slots := 6, locals := 100 } (va_Pc [.ref hF] (fun U => va_P G vwCl [(hF, .inr (9, [.ref hB, .ref hT, .ref hG, .ref hC, .ref hQ, .ref hO, .ref hV, .ref hN, .int (nI wy), .int (nI sg_), .int (nI md), .long (iL bd)]))] U.heap ∧ KX G ty U ∧ ZS U)) (QT xS) 1 6 (fun _ => False) := by
  refine met_th R_Rips (by decide) rfl rfl (Nat.le_of_ble_eq_true rfl) ?_
  intro p e s m below meth c ls hx hb hml hown hts hlocks hout hP hX hZ hl
  have hK := hX.1
  have hl : lv_has ls 1 [(0, .ref hF)] := hl
  refine lv_aload_n hx hb d_Rips_checkPlanned_0 rfl (lv_at hl 0 rfl) ?_
  refine va_get (D := G) (ci := 9) (v := .int (nI md)) (C := R_Rips) (T := F_Rips) (N := 12) hx hb hts in_Rips hown hK hP 0 rfl rfl 10 (by decide) (hts _ fl_Rips_16) (fun _ h9 => h9) rfl d_Rips_checkPlanned_1 ?_
  refine n_if_ne (tgt := 18) hx hb (by omega) d_Rips_checkPlanned_4 (by decide) (fun c4 => ?_) (fun c4 => ?_)
  · exact absurd gx (by omega)
  · exact thr_site (tx := "no plan was made since something was told") hx hb hml hl.1 hown hts hX hZ hlt hlocks (hout 17) at_xS (by decide +kernel) cl_Rips_99 ini_xS (by decide) d_Rips_checkPlanned_7 d_Rips_checkPlanned_10 (Or.inr ⟨d_Rips_checkPlanned_11, rfl⟩) d_Rips_checkPlanned_14 d_Rips_checkPlanned_17 ⟨Nat.le_of_ble_eq_true rfl, Nat.le_of_ble_eq_true rfl, Nat.le_of_ble_eq_true rfl, Nat.le_of_ble_eq_true rfl⟩

set_option maxRecDepth 100000 in
set_option maxHeartbeats 4000000 in
theorem t_checkIndexOrNone (l : Launch) (hlt : l.stackTraces = false) (G : va_G) (ty : Nat → ClassId) (i : Int) (n : Nat) (gx : ¬ (-1 ≤ i ∧ i < (n : Int))) (gi : -2147483648 ≤ i ∧ i ≤ 2147483647) (g2 : n ≤ 100000) : MetT l y_Rips_checkIndexOrNone ws_Rips_checkIndexOrNone { frames := 7, cells := 1, slots := 6, locals := 121 } (va_Pc [.int (iI i), .int (nI n)] (fun U => va_P G vwCl [] U.heap ∧ KX G ty U ∧ ZS U)) (QT xI) 1 6 (fun _ => False) := by
  refine met_th R_Rips (by decide) rfl rfl (Nat.le_of_ble_eq_true rfl) ?_
  intro p e s m below meth c ls hx hb hml hown hts hlocks hout hP hX hZ hl
  have hK := hX.1
  have hl : lv_has ls 2 [(0, .int (iI i)), (1, .int (nI n))] := hl
  refine lv_iload_n hx hb d_Rips_checkIndexOrNone_0 rfl (lv_at hl 0 rfl) ?_
  refine lv_iconst (v := (iI (-1))) hx hb d_Rips_checkIndexOrNone_1 (by decide) ?_
  refine z_icmp_eq (tgt := 10) hx hb (by omega) (by omega) d_Rips_checkIndexOrNone_2 (by decide) (fun c2 => ?_) (fun c2 => ?_)
  · exact absurd gx (by omega)
  · refine lv_iload_n hx hb d_Rips_checkIndexOrNone_5 rfl (lv_at hl 0 rfl) ?_
    refine lv_iload_n hx hb d_Rips_checkIndexOrNone_6 rfl (lv_at hl 1 rfl) ?_
    exact W.outT (runST (As := [.int (iI i), .int (nI n)]) (rest := []) ⟨hx, hb, hml, hown, hts⟩ (t_checkIndex l hlt G ty i n (by omega) (by omega) (by omega)) ⟨callB_of 2 hts (gd_TB cd_Rips_checkIndex) rfl rfl rfl (hts _ ini_Rips) (hts _ lk_Rips_92) hd_Rips_checkIndex ⟨Nat.le_of_ble_eq_true rfl, Nat.le_of_ble_eq_true rfl⟩, hts _ st_Rips_checkIndex⟩ (preS_th P_nil hX hZ) rfl rfl hl.1 rfl (lv_room (Nat.le_of_ble_eq_true rfl)) d_Rips_checkIndexOrNone_7 ⟨Nat.le_of_ble_eq_true rfl, Nat.le_of_ble_eq_true rfl⟩) (hout 7) hlocks (fun x9 st9 t9 U9 h1 h2 h3 h4 _ => QT_out h1 h2 h3 h4) (fun q h => by cases h) (fun q h => h)
