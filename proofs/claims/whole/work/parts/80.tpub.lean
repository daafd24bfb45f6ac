

set_option maxRecDepth 100000 in
set_option maxHeartbeats 4000000 in
theorem t_marginA (l : Launch) (hlt : l.stackTraces = false) (G : va_G) (ty : Nat → ClassId) (hF : Nat) (hB : Nat) (hT : Nat) (hG : Nat) (hC : Nat) (hQ : Nat) (hO : Nat) (hV : Nat) (hN : Nat) (wy : Nat) (sg_ : Nat) (md : Nat) (bd : Int) (v : Int) (gv : -2147483648 ≤ v ∧ v ≤ 2147483647) (gx : ¬ (0 ≤ v ∧ v ≤ 65536)) : MetT l y_Rips_margin ws_Rips_margin { frames := 7, cells := 1, slots := 6, locals := 125 } (va_Pc [.ref hF, .int (iI v)] (fun U => va_P G vwCl [(hF, .inr (9, [.ref hB, .ref hT, .ref hG, .ref hC, .ref hQ, .ref hO, .ref hV, .ref hN, .int (nI wy), .int (nI sg_), .int (nI md), .long (iL bd)]))] U.heap ∧ KX G ty U ∧ ZS U)) (QT xA) 1 6 (fun _ => False) := by
  refine met_th R_Rips (by decide) rfl rfl (Nat.le_of_ble_eq_true rfl) ?_
  intro p e s m below meth c ls hx hb hml hown hts hlocks hout hP hX hZ hl
  have hK := hX.1
  have hl : lv_has ls 2 [(0, .ref hF), (1, .int (iI v))] := hl
  refine lv_iload_n hx hb d_Rips_margin_0 rfl (lv_at hl 1 rfl) ?_
  refine z_i2l hx hb (by omega) d_Rips_margin_1 ?_
  refine lv_lconst (v := iL 0) hx hb d_Rips_margin_2 (by decide) ?_
  refine lv_ldc2 (v := (iL 65536)) hx hb hown (hts _ kc_Rips_114) d_Rips_margin_3 ?_
  exact W.outT (runST (As := [.long (iL v), .long (iL 0), .long (iL 65536)]) (rest := []) ⟨hx, hb, hml, hown, hts⟩ (t_checkRange l hlt G ty v 0 65536 (by omega) (by omega) (by omega) (by omega)) ⟨callB_of 3 hts (gd_TB cd_Rips_checkRange) rfl rfl rfl (hts _ ini_Rips) (hts _ lk_Rips_108) hd_Rips_checkRange ⟨Nat.le_of_ble_eq_true rfl, Nat.le_of_ble_eq_true rfl⟩, hts _ st_Rips_checkRange⟩ (preS_th P_nil hX hZ) rfl rfl hl.1 rfl (lv_room (Nat.le_of_ble_eq_true rfl)) d_Rips_margin_6 ⟨Nat.le_of_ble_eq_true rfl, Nat.le_of_ble_eq_true rfl⟩) (hout 6) hlocks (fun x9 st9 t9 U9 h1 h2 h3 h4 _ => QT_out h1 h2 h3 h4) (fun q h => by cases h) (fun q h => h)

set_option maxRecDepth 100000 in
set_option maxHeartbeats 4000000 in
theorem t_bowA (l : Launch) (hlt : l.stackTraces = false) (G : va_G) (ty : Nat → ClassId) (hF : Nat) (hB : Nat) (hT : Nat) (hG : Nat) (hC : Nat) (hQ : Nat) (hO : Nat) (hV : Nat) (hN : Nat) (wy : Nat) (sg_ : Nat) (md : Nat) (bd : Int) (v : Int) (gv : -2147483648 ≤ v ∧ v ≤ 2147483647) (gx : ¬ (1 ≤ v ∧ v ≤ 16777216)) : MetT l y_Rips_bow ws_Rips_bow { frames := 7, cells := 1, slots := 6, locals := 125 } (va_Pc [.ref hF, .int (iI v)] (fun U => va_P G vwCl [(hF, .inr (9, [.ref hB, .ref hT, .ref hG, .ref hC, .ref hQ, .ref hO, .ref hV, .ref hN, .int (nI wy), .int (nI sg_), .int (nI md), .long (iL bd)]))] U.heap ∧ KX G ty U ∧ ZS U)) (QT xA) 1 6 (fun _ => False) := by
  refine met_th R_Rips (by decide) rfl rfl (Nat.le_of_ble_eq_true rfl) ?_
  intro p e s m below meth c ls hx hb hml hown hts hlocks hout hP hX hZ hl
  have hK := hX.1
  have hl : lv_has ls 2 [(0, .ref hF), (1, .int (iI v))] := hl
  refine lv_iload_n hx hb d_Rips_bow_0 rfl (lv_at hl 1 rfl) ?_
  refine z_i2l hx hb (by omega) d_Rips_bow_1 ?_
  refine lv_lconst (v := iL 1) hx hb d_Rips_bow_2 (by decide) ?_
  refine lv_ldc2 (v := (iL 16777216)) hx hb hown (hts _ kc_Rips_170) d_Rips_bow_3 ?_
  exact W.outT (runST (As := [.long (iL v), .long (iL 1), .long (iL 16777216)]) (rest := []) ⟨hx, hb, hml, hown, hts⟩ (t_checkRange l hlt G ty v 1 16777216 (by omega) (by omega) (by omega) (by omega)) ⟨callB_of 3 hts (gd_TB cd_Rips_checkRange) rfl rfl rfl (hts _ ini_Rips) (hts _ lk_Rips_108) hd_Rips_checkRange ⟨Nat.le_of_ble_eq_true rfl, Nat.le_of_ble_eq_true rfl⟩, hts _ st_Rips_checkRange⟩ (preS_th P_nil hX hZ) rfl rfl hl.1 rfl (lv_room (Nat.le_of_ble_eq_true rfl)) d_Rips_bow_6 ⟨Nat.le_of_ble_eq_true rfl, Nat.le_of_ble_eq_true rfl⟩) (hout 6) hlocks (fun x9 st9 t9 U9 h1 h2 h3 h4 _ => QT_out h1 h2 h3 h4) (fun q h => by cases h) (fun q h => h)

set_option maxRecDepth 100000 in
set_option maxHeartbeats 4000000 in
theorem t_gangA (l : Launch) (hlt : l.stackTraces = false) (G : va_G) (ty : Nat → ClassId) (hF : Nat) (hB : Nat) (hT : Nat) (hG : Nat) (hC : Nat) (hQ : Nat) (hO : Nat) (hV : Nat) (hN : Nat) (wy : Nat) (sg_ : Nat) (md : Nat) (bd : Int) (v : Int) (gv : -2147483648 ≤ v ∧ v ≤ 2147483647) (gx : ¬ (1 ≤ v ∧ v ≤ 65536)) : MetT l y_Rips_gang ws_Rips_gang { frames := 7, cells := 1, slots := 6, locals := 125 } (va_Pc [.ref hF, .int (iI v)] (fun U => va_P G vwCl [(hF, .inr (9, [.ref hB, .ref hT, .ref hG, .ref hC, .ref hQ, .ref hO, .ref hV, .ref hN, .int (nI wy), .int (nI sg_), .int (nI md), .long (iL bd)]))] U.heap ∧ KX G ty U ∧ ZS U)) (QT xA) 1 6 (fun _ => False) := by
  refine met_th R_Rips (by decide) rfl rfl (Nat.le_of_ble_eq_true rfl) ?_
  intro p e s m below meth c ls hx hb hml hown hts hlocks hout hP hX hZ hl
  have hK := hX.1
  have hl : lv_has ls 3 [(0, .ref hF), (1, .int (iI v))] := hl
  refine lv_iload_n hx hb d_Rips_gang_0 rfl (lv_at hl 1 rfl) ?_
  refine z_i2l hx hb (by omega) d_Rips_gang_1 ?_
  refine lv_lconst (v := iL 1) hx hb d_Rips_gang_2 (by decide) ?_
  refine lv_ldc2 (v := (iL 65536)) hx hb hown (hts _ kc_Rips_114) d_Rips_gang_3 ?_
  exact W.outT (runST (As := [.long (iL v), .long (iL 1), .long (iL 65536)]) (rest := []) ⟨hx, hb, hml, hown, hts⟩ (t_checkRange l hlt G ty v 1 65536 (by omega) (by omega) (by omega) (by omega)) ⟨callB_of 3 hts (gd_TB cd_Rips_checkRange) rfl rfl rfl (hts _ ini_Rips) (hts _ lk_Rips_108) hd_Rips_checkRange ⟨Nat.le_of_ble_eq_true rfl, Nat.le_of_ble_eq_true rfl⟩, hts _ st_Rips_checkRange⟩ (preS_th P_nil hX hZ) rfl rfl hl.1 rfl (lv_room (Nat.le_of_ble_eq_true rfl)) d_Rips_gang_6 ⟨Nat.le_of_ble_eq_true rfl, Nat.le_of_ble_eq_true rfl⟩) (hout 6) hlocks (fun x9 st9 t9 U9 h1 h2 h3 h4 _ => QT_out h1 h2 h3 h4) (fun q h => by cases h) (fun q h => h)

set_option maxRecDepth 100000 in
set_option maxHeartbeats 4000000 in
theorem t_needI (l : Launch) (hlt : l.stackTraces = false) (G : va_G) (ty : Nat → ClassId) (hF : Nat) (hB : Nat) (hT : Nat) (hG : Nat) (hC : Nat) (hQ : Nat) (hO : Nat) (hV : Nat) (hN : Nat) (wy : Nat) (sg_ : Nat) (md : Nat) (bd : Int) (aT : Nat) (ns : Nat) (bw : Nat) (pi : Int) (v : Int) (gi : -2147483648 ≤ pi ∧ pi ≤ 2147483647) (g8 : ns ≤ 8) (gx : ¬ (0 ≤ pi ∧ pi < (ns : Int))) : MetT l y_Rips_need ws_Rips_need { frames := 7, cells := 1, slots := 6, locals := 121 } (va_Pc [.ref hF, .int (iI pi), .int (iI v)] (fun U => va_P G vwCl [(hF, .inr (9, [.ref hB, .ref hT, .ref hG, .ref hC, .ref hQ, .ref hO, .ref hV, .ref hN, .int (nI wy), .int (nI sg_), .int (nI md), .long (iL bd)])), (hT, .inr (8, [.ref aT, .int (nI ns), .int (nI bw), .ref hB]))] U.heap ∧ KX G ty U ∧ ZS U)) (QT xI) 1 6 (fun _ => False) := by
  refine met_th R_Rips (by decide) rfl rfl (Nat.le_of_ble_eq_true rfl) ?_
  intro p e s m below meth c ls hx hb hml hown hts hlocks hout hP hX hZ hl
  have hK := hX.1
  have hl : lv_has ls 4 [(0, .ref hF), (1, .int (iI pi)), (2, .int (iI v))] := hl
  refine lv_iload_n hx hb d_Rips_need_0 rfl (lv_at hl 1 rfl) ?_
  refine lv_aload_n hx hb d_Rips_need_1 rfl (lv_at hl 0 rfl) ?_
  refine va_get (D := G) (ci := 9) (v := .ref hT) (C := R_Rips) (T := F_Rips) (N := 12) hx hb hts in_Rips hown hK hP 0 rfl rfl 1 (by decide) (hts _ fl_Rips_42) (fun _ h9 => h9) rfl d_Rips_need_2 ?_
  refine va_get (D := G) (ci := 8) (v := .int (nI ns)) (C := R_Sorts) (T := F_Sorts) (N := 4) hx hb hts in_Sorts hown hK hP 1 rfl rfl 1 (by decide) (hts _ fl_Rips_125) (fun _ h9 => h9) rfl d_Rips_need_5 ?_
  exact W.outT (runST (As := [.int (iI pi), .int (nI ns)]) (rest := []) ⟨hx, hb, hml, hown, hts⟩ (t_checkIndex l hlt G ty pi ns (by omega) (by omega) (by omega)) ⟨callB_of 2 hts (gd_TB cd_Rips_checkIndex) rfl rfl rfl (hts _ ini_Rips) (hts _ lk_Rips_92) hd_Rips_checkIndex ⟨Nat.le_of_ble_eq_true rfl, Nat.le_of_ble_eq_true rfl⟩, hts _ st_Rips_checkIndex⟩ (preS_th P_nil hX hZ) rfl rfl hl.1 rfl (lv_room (Nat.le_of_ble_eq_true rfl)) d_Rips_need_8 ⟨Nat.le_of_ble_eq_true rfl, Nat.le_of_ble_eq_true rfl⟩) (hout 8) hlocks (fun x9 st9 t9 U9 h1 h2 h3 h4 _ => QT_out h1 h2 h3 h4) (fun q h => by cases h) (fun q h => h)

set_option maxRecDepth 100000 in
set_option maxHeartbeats 4000000 in
theorem t_needA (l : Launch) (hlt : l.stackTraces = false) (G : va_G) (ty : Nat → ClassId) (hF : Nat) (hB : Nat) (hT : Nat) (hG : Nat) (hC : Nat) (hQ : Nat) (hO : Nat) (hV : Nat) (hN : Nat) (wy : Nat) (sg_ : Nat) (md : Nat) (bd : Int) (aT : Nat) (ns : Nat) (bw : Nat) (pi : Int) (v : Int) (gi : 0 ≤ pi ∧ pi < (ns : Int)) (g8 : ns ≤ 8) (gv : -2147483648 ≤ v ∧ v ≤ 2147483647) (gx : ¬ (0 ≤ v ∧ v ≤ 1000)) : MetT l y_Rips_need ws_Rips_need { frames := 7, cells := 1, slots := 6, locals := 125 } (va_Pc [.ref hF, .int (iI pi), .int (iI v)] (fun U => va_P G vwCl [(hF, .inr (9, [.ref hB, .ref hT, .ref hG, .ref hC, .ref hQ, .ref hO, .ref hV, .ref hN, .int (nI wy), .int (nI sg_), .int (nI md), .long (iL bd)])), (hT, .inr (8, [.ref aT, .int (nI ns), .int (nI bw), .ref hB]))] U.heap ∧ KX G ty U ∧ ZS U)) (QT xA) 1 6 (fun _ => False) := by
  refine met_th R_Rips (by decide) rfl rfl (Nat.le_of_ble_eq_true rfl) ?_
  intro p e s m below meth c ls hx hb hml hown hts hlocks hout hP hX hZ hl
  have hK := hX.1
  have hl : lv_has ls 4 [(0, .ref hF), (1, .int (iI pi)), (2, .int (iI v))] := hl
  refine lv_iload_n hx hb d_Rips_need_0 rfl (lv_at hl 1 rfl) ?_
  refine lv_aload_n hx hb d_Rips_need_1 rfl (lv_at hl 0 rfl) ?_
  refine va_get (D := G) (ci := 9) (v := .ref hT) (C := R_Rips) (T := F_Rips) (N := 12) hx hb hts in_Rips hown hK hP 0 rfl rfl 1 (by decide) (hts _ fl_Rips_42) (fun _ h9 => h9) rfl d_Rips_need_2 ?_
  refine va_get (D := G) (ci := 8) (v := .int (nI ns)) (C := R_Sorts) (T := F_Sorts) (N := 4) hx hb hts in_Sorts hown hK hP 1 rfl rfl 1 (by decide) (hts _ fl_Rips_125) (fun _ h9 => h9) rfl d_Rips_need_5 ?_
  refine va_csv (W.runS (As := [.int (iI pi), .int (nI ns)]) (rest := []) ⟨hx, hb, hml, hown, hts⟩ (c_Rips_checkIndex l G ty pi ns (by omega) (by omega)) ⟨callB_of 2 hts (gd_TB cd_Rips_checkIndex) rfl rfl rfl (hts _ ini_Rips) (hts _ lk_Rips_92) hd_Rips_checkIndex ⟨Nat.le_of_ble_eq_true rfl, Nat.le_of_ble_eq_true rfl⟩, hts _ st_Rips_checkIndex⟩ (preS_ro (hP.sub (ws' := []) [] rfl) hX) rfl rfl hl.1 rfl (lv_room (Nat.le_of_ble_eq_true rfl)) d_Rips_need_8 ⟨Nat.le_of_ble_eq_true rfl, Nat.le_of_ble_eq_true rfl⟩) (fun _ => ?_)
  refine lv_iload_n hx hb d_Rips_need_11 rfl (lv_at hl 2 rfl) ?_
  refine z_i2l hx hb (by omega) d_Rips_need_12 ?_
  refine lv_lconst (v := iL 0) hx hb d_Rips_need_13 (by decide) ?_
  refine lv_ldc2 (v := (iL 1000)) hx hb hown (hts _ kc_Rips_162) d_Rips_need_14 ?_
  exact W.outT (runST (As := [.long (iL v), .long (iL 0), .long (iL 1000)]) (rest := []) ⟨hx, hb, hml, hown, hts⟩ (t_checkRange l hlt G ty v 0 1000 (by omega) (by omega) (by omega) (by omega)) ⟨callB_of 3 hts (gd_TB cd_Rips_checkRange) rfl rfl rfl (hts _ ini_Rips) (hts _ lk_Rips_108) hd_Rips_checkRange ⟨Nat.le_of_ble_eq_true rfl, Nat.le_of_ble_eq_true rfl⟩, hts _ st_Rips_checkRange⟩ (preS_th P_nil hX hZ) rfl rfl hl.1 rfl (lv_room (Nat.le_of_ble_eq_true rfl)) d_Rips_need_17 ⟨Nat.le_of_ble_eq_true rfl, Nat.le_of_ble_eq_true rfl⟩) (hout 17) hlocks (fun x9 st9 t9 U9 h1 h2 h3 h4 _ => QT_out h1 h2 h3 h4) (fun q h => by cases h) (fun q h => h)

set_option maxRecDepth 100000 in
set_option maxHeartbeats 4000000 in
theorem t_allowsI (l : Launch) (hlt : l.stackTraces = false) (G : va_G) (ty : Nat → ClassId) (hF : Nat) (hB : Nat) (hT : Nat) (hG : Nat) (hC : Nat) (hQ : Nat) (hO : Nat) (hV : Nat) (hN : Nat) (wy : Nat) (sg_ : Nat) (md : Nat) (bd : Int) (aT : Nat) (ns : Nat) (bw : Nat) (pi : Int) (fc : Int) (kd : Int) (gi : -2147483648 ≤ pi ∧ pi ≤ 2147483647) (gfc : -2147483648 ≤ fc ∧ fc ≤ 2147483647) (g8 : ns ≤ 8) (gx : ¬ ((0 ≤ pi ∧ pi < (ns : Int)) ∧ (0 ≤ fc ∧ fc ≤ 1))) : MetT l y_Rips_allows ws_Rips_allows { frames := 7, cells := 1, slots := 6, locals := 121 } (va_Pc [.ref hF, .int (iI pi), .int (iI fc), .int (iI kd)] (fun U => va_P G vwCl [(hF, .inr (9, [.ref hB, .ref hT, .ref hG, .ref hC, .ref hQ, .ref hO, .ref hV, .ref hN, .int (nI wy), .int (nI sg_), .int (nI md), .long (iL bd)])), (hT, .inr (8, [.ref aT, .int (nI ns), .int (nI bw), .ref hB]))] U.heap ∧ KX G ty U ∧ ZS U)) (QT xI) 1 6 (fun _ => False) := by
  refine met_th R_Rips (by decide) rfl rfl (Nat.le_of_ble_eq_true rfl) ?_
  intro p e s m below meth c ls hx hb hml hown hts hlocks hout hP hX hZ hl
  have hK := hX.1
  have hl : lv_has ls 5 [(0, .ref hF), (1, .int (iI pi)), (2, .int (iI fc)), (3, .int (iI kd))] := hl
  refine lv_iload_n hx hb d_Rips_allows_0 rfl (lv_at hl 1 rfl) ?_
  refine lv_aload_n hx hb d_Rips_allows_1 rfl (lv_at hl 0 rfl) ?_
  refine va_get (D := G) (ci := 9) (v := .ref hT) (C := R_Rips) (T := F_Rips) (N := 12) hx hb hts in_Rips hown hK hP 0 rfl rfl 1 (by decide) (hts _ fl_Rips_42) (fun _ h9 => h9) rfl d_Rips_allows_2 ?_
  refine va_get (D := G) (ci := 8) (v := .int (nI ns)) (C := R_Sorts) (T := F_Sorts) (N := 4) hx hb hts in_Sorts hown hK hP 1 rfl rfl 1 (by decide) (hts _ fl_Rips_125) (fun _ h9 => h9) rfl d_Rips_allows_5 ?_
  by_cases q8 : 0 ≤ pi ∧ pi < ((ns : Nat) : Int)
  · refine va_csv (W.runS (As := [.int (iI pi), .int (nI ns)]) (rest := []) ⟨hx, hb, hml, hown, hts⟩ (c_Rips_checkIndex l G ty pi ns (by omega) (by omega)) ⟨callB_of 2 hts (gd_TB cd_Rips_checkIndex) rfl rfl rfl (hts _ ini_Rips) (hts _ lk_Rips_92) hd_Rips_checkIndex ⟨Nat.le_of_ble_eq_true rfl, Nat.le_of_ble_eq_true rfl⟩, hts _ st_Rips_checkIndex⟩ (preS_ro (hP.sub (ws' := []) [] rfl) hX) rfl rfl hl.1 rfl (lv_room (Nat.le_of_ble_eq_true rfl)) d_Rips_allows_8 ⟨Nat.le_of_ble_eq_true rfl, Nat.le_of_ble_eq_true rfl⟩) (fun _ => ?_)
    refine lv_iload_n hx hb d_Rips_allows_11 rfl (lv_at hl 2 rfl) ?_
    refine lv_iconst (v := (nI 2)) hx hb d_Rips_allows_12 (by decide) ?_
    exact W.outT (runST (As := [.int (iI fc), .int (nI 2)]) (rest := []) ⟨hx, hb, hml, hown, hts⟩ (t_checkIndex l hlt G ty fc 2 (by omega) (by omega) (by omega)) ⟨callB_of 2 hts (gd_TB cd_Rips_checkIndex) rfl rfl rfl (hts _ ini_Rips) (hts _ lk_Rips_92) hd_Rips_checkIndex ⟨Nat.le_of_ble_eq_true rfl, Nat.le_of_ble_eq_true rfl⟩, hts _ st_Rips_checkIndex⟩ (preS_th P_nil hX hZ) rfl rfl hl.1 rfl (lv_room (Nat.le_of_ble_eq_true rfl)) d_Rips_allows_13 ⟨Nat.le_of_ble_eq_true rfl, Nat.le_of_ble_eq_true rfl⟩) (hout 13) hlocks (fun x9 st9 t9 U9 h1 h2 h3 h4 _ => QT_out h1 h2 h3 h4) (fun q h => by cases h) (fun q h => h)
  · exact W.outT (runST (As := [.int (iI pi), .int (nI ns)]) (rest := []) ⟨hx, hb, hml, hown, hts⟩ (t_checkIndex l hlt G ty pi ns (by omega) (by omega) (by omega)) ⟨callB_of 2 hts (gd_TB cd_Rips_checkIndex) rfl rfl rfl (hts _ ini_Rips) (hts _ lk_Rips_92) hd_Rips_checkIndex ⟨Nat.le_of_ble_eq_true rfl, Nat.le_of_ble_eq_true rfl⟩, hts _ st_Rips_checkIndex⟩ (preS_th P_nil hX hZ) rfl rfl hl.1 rfl (lv_room (Nat.le_of_ble_eq_true rfl)) d_Rips_allows_8 ⟨Nat.le_of_ble_eq_true rfl, Nat.le_of_ble_eq_true rfl⟩) (hout 8) hlocks (fun x9 st9 t9 U9 h1 h2 h3 h4 _ => QT_out h1 h2 h3 h4) (fun q h => by cases h) (fun q h => h)

set_option maxRecDepth 100000 in
set_option maxHeartbeats 4000000 in
theorem t_allowsA (l : Launch) (hlt : l.stackTraces = false) (G : va_G) (ty : Nat → ClassId) (hF : Nat) (hB : Nat) (hT : Nat) (hG : Nat) (hC : Nat) (hQ : Nat) (hO : Nat) (hV : Nat) (hN : Nat) (wy : Nat) (sg_ : Nat) (md : Nat) (bd : Int) (aT : Nat) (ns : Nat) (bw : Nat) (pi : Int) (fc : Int) (kd : Int) (gi : 0 ≤ pi ∧ pi < (ns : Int)) (gfc : 0 ≤ fc ∧ fc ≤ 1) (g8 : ns ≤ 8) (gk : -2147483648 ≤ kd ∧ kd ≤ 2147483647) (gx : ¬ (0 ≤ kd ∧ kd ≤ 7)) : MetT l y_Rips_allows ws_Rips_allows { frames := 7, cells := 1, slots := 6, locals := 125 } (va_Pc [.ref hF, .int (iI pi), .int (iI fc), .int (iI kd)] (fun U => va_P G vwCl [(hF, .inr (9, [.ref hB, .ref hT, .ref hG, .ref hC, .ref hQ, .ref hO, .ref hV, .ref hN, .int (nI wy), .int (nI sg_), .int (nI md), .long (iL bd)])), (hT, .inr (8, [.ref aT, .int (nI ns), .int (nI bw), .ref hB]))] U.heap ∧ KX G ty U ∧ ZS U)) (QT xA) 1 6 (fun _ => False) := by
  refine met_th R_Rips (by decide) rfl rfl (Nat.le_of_ble_eq_true rfl) ?_
  intro p e s m below meth c ls hx hb hml hown hts hlocks hout hP hX hZ hl
  have hK := hX.1
  have hl : lv_has ls 5 [(0, .ref hF), (1, .int (iI pi)), (2, .int (iI fc)), (3, .int (iI kd))] := hl
  refine lv_iload_n hx hb d_Rips_allows_0 rfl (lv_at hl 1 rfl) ?_
  refine lv_aload_n hx hb d_Rips_allows_1 rfl (lv_at hl 0 rfl) ?_
  refine va_get (D := G) (ci := 9) (v := .ref hT) (C := R_Rips) (T := F_Rips) (N := 12) hx hb hts in_Rips hown hK hP 0 rfl rfl 1 (by decide) (hts _ fl_Rips_42) (fun _ h9 => h9) rfl d_Rips_allows_2 ?_
  refine va_get (D := G) (ci := 8) (v := .int (nI ns)) (C := R_Sorts) (T := F_Sorts) (N := 4) hx hb hts in_Sorts hown hK hP 1 rfl rfl 1 (by decide) (hts _ fl_Rips_125) (fun _ h9 => h9) rfl d_Rips_allows_5 ?_
  refine va_csv (W.runS (As := [.int (iI pi), .int (nI ns)]) (rest := []) ⟨hx, hb, hml, hown, hts⟩ (c_Rips_checkIndex l G ty pi ns (by omega) (by omega)) ⟨callB_of 2 hts (gd_TB cd_Rips_checkIndex) rfl rfl rfl (hts _ ini_Rips) (hts _ lk_Rips_92) hd_Rips_checkIndex ⟨Nat.le_of_ble_eq_true rfl, Nat.le_of_ble_eq_true rfl⟩, hts _ st_Rips_checkIndex⟩ (preS_ro (hP.sub (ws' := []) [] rfl) hX) rfl rfl hl.1 rfl (lv_room (Nat.le_of_ble_eq_true rfl)) d_Rips_allows_8 ⟨Nat.le_of_ble_eq_true rfl, Nat.le_of_ble_eq_true rfl⟩) (fun _ => ?_)
  refine lv_iload_n hx hb d_Rips_allows_11 rfl (lv_at hl 2 rfl) ?_
  refine lv_iconst (v := (nI 2)) hx hb d_Rips_allows_12 (by decide) ?_
  refine va_csv (W.runS (As := [.int (iI fc), .int (nI 2)]) (rest := []) ⟨hx, hb, hml, hown, hts⟩ (c_Rips_checkIndex l G ty fc 2 (by omega) (by omega)) ⟨callB_of 2 hts (gd_TB cd_Rips_checkIndex) rfl rfl rfl (hts _ ini_Rips) (hts _ lk_Rips_92) hd_Rips_checkIndex ⟨Nat.le_of_ble_eq_true rfl, Nat.le_of_ble_eq_true rfl⟩, hts _ st_Rips_checkIndex⟩ (preS_ro (hP.sub (ws' := []) [] rfl) hX) rfl rfl hl.1 rfl (lv_room (Nat.le_of_ble_eq_true rfl)) d_Rips_allows_13 ⟨Nat.le_of_ble_eq_true rfl, Nat.le_of_ble_eq_true rfl⟩) (fun _ => ?_)
  refine lv_iload_n hx hb d_Rips_allows_16 rfl (lv_at hl 3 rfl) ?_
  refine z_i2l hx hb (by omega) d_Rips_allows_17 ?_
  refine lv_lconst (v := iL 0) hx hb d_Rips_allows_18 (by decide) ?_
  refine lv_ldc2 (v := (iL 7)) hx hb hown (hts _ kc_Rips_106) d_Rips_allows_19 ?_
  exact W.outT (runST (As := [.long (iL kd), .long (iL 0), .long (iL 7)]) (rest := []) ⟨hx, hb, hml, hown, hts⟩ (t_checkRange l hlt G ty kd 0 7 (by omega) (by omega) (by omega) (by omega)) ⟨callB_of 3 hts (gd_TB cd_Rips_checkRange) rfl rfl rfl (hts _ ini_Rips) (hts _ lk_Rips_108) hd_Rips_checkRange ⟨Nat.le_of_ble_eq_true rfl, Nat.le_of_ble_eq_true rfl⟩, hts _ st_Rips_checkRange⟩ (preS_th P_nil hX hZ) rfl rfl hl.1 rfl (lv_room (Nat.le_of_ble_eq_true rfl)) d_Rips_allows_22 ⟨Nat.le_of_ble_eq_true rfl, Nat.le_of_ble_eq_true rfl⟩) (hout 22) hlocks (fun x9 st9 t9 U9 h1 h2 h3 h4 _ => QT_out h1 h2 h3 h4) (fun q h => by cases h) (fun q h => h)

set_option maxRecDepth 100000 in
set_option maxHeartbeats 4000000 in
theorem t_runA (l : Launch) (hlt : l.stackTraces = false) (G : va_G) (ty : Nat → ClassId) (hF : Nat) (hB : Nat) (hT : Nat) (hG : Nat) (hC : Nat) (hQ : Nat) (hO : Nat) (hV : Nat) (hN : Nat) (wy : Nat) (sg_ : Nat) (md : Nat) (bd : Int) (wz : Int) (tz : Int) (gw : -2147483648 ≤ wz ∧ wz ≤ 2147483647) (gt : -2147483648 ≤ tz ∧ tz ≤ 2147483647) (gx : ¬ ((0 ≤ wz ∧ wz ≤ 1) ∧ (1 ≤ tz ∧ tz ≤ 3))) : MetT l y_Rips_run ws_Rips_run { frames := 7, cells := 1, slots := 6, locals := 125 } (va_Pc [.ref hF, .int (iI wz), .int (iI tz)] (fun U => va_P G vwCl [(hF, .inr (9, [.ref hB, .ref hT, .ref hG, .ref hC, .ref hQ, .ref hO, .ref hV, .ref hN, .int (nI wy), .int (nI sg_), .int (nI md), .long (iL bd)]))] U.heap ∧ KX G ty U ∧ ZS U)) (QT xA) 1 6 (fun _ => False) := by
  refine met_th R_Rips (by decide) rfl rfl (Nat.le_of_ble_eq_true rfl) ?_
  intro p e s m below meth c ls hx hb hml hown hts hlocks hout hP hX hZ hl
  have hK := hX.1
  have hl : lv_has ls 3 [(0, .ref hF), (1, .int (iI wz)), (2, .int (iI tz))] := hl
  refine lv_iload_n hx hb d_Rips_run_0 rfl (lv_at hl 1 rfl) ?_
  refine z_i2l hx hb (by omega) d_Rips_run_1 ?_
  refine lv_lconst (v := iL 0) hx hb d_Rips_run_2 (by decide) ?_
  refine lv_lconst (v := iL 1) hx hb d_Rips_run_3 (by decide) ?_
  by_cases q4 : 0 ≤ wz ∧ wz ≤ 1
  · refine va_csv (W.runS (As := [.long (iL wz), .long (iL 0), .long (iL 1)]) (rest := []) ⟨hx, hb, hml, hown, hts⟩ (c_Rips_checkRange l G ty wz 0 1 (by omega) (by omega) (by omega)) ⟨callB_of 3 hts (gd_TB cd_Rips_checkRange) rfl rfl rfl (hts _ ini_Rips) (hts _ lk_Rips_108) hd_Rips_checkRange ⟨Nat.le_of_ble_eq_true rfl, Nat.le_of_ble_eq_true rfl⟩, hts _ st_Rips_checkRange⟩ (preS_ro (hP.sub (ws' := []) [] rfl) hX) rfl rfl hl.1 rfl (lv_room (Nat.le_of_ble_eq_true rfl)) d_Rips_run_4 ⟨Nat.le_of_ble_eq_true rfl, Nat.le_of_ble_eq_true rfl⟩) (fun _ => ?_)
    refine lv_iload_n hx hb d_Rips_run_7 rfl (lv_at hl 2 rfl) ?_
    refine z_i2l hx hb (by omega) d_Rips_run_8 ?_
    refine lv_lconst (v := iL 1) hx hb d_Rips_run_9 (by decide) ?_
    refine lv_ldc2 (v := (iL 3)) hx hb hown (hts _ kc_Rips_175) d_Rips_run_10 ?_
    exact W.outT (runST (As := [.long (iL tz), .long (iL 1), .long (iL 3)]) (rest := []) ⟨hx, hb, hml, hown, hts⟩ (t_checkRange l hlt G ty tz 1 3 (by omega) (by omega) (by omega) (by omega)) ⟨callB_of 3 hts (gd_TB cd_Rips_checkRange) rfl rfl rfl (hts _ ini_Rips) (hts _ lk_Rips_108) hd_Rips_checkRange ⟨Nat.le_of_ble_eq_true rfl, Nat.le_of_ble_eq_true rfl⟩, hts _ st_Rips_checkRange⟩ (preS_th P_nil hX hZ) rfl rfl hl.1 rfl (lv_room (Nat.le_of_ble_eq_true rfl)) d_Rips_run_13 ⟨Nat.le_of_ble_eq_true rfl, Nat.le_of_ble_eq_true rfl⟩) (hout 13) hlocks (fun x9 st9 t9 U9 h1 h2 h3 h4 _ => QT_out h1 h2 h3 h4) (fun q h => by cases h) (fun q h => h)
  · exact W.outT (runST (As := [.long (iL wz), .long (iL 0), .long (iL 1)]) (rest := []) ⟨hx, hb, hml, hown, hts⟩ (t_checkRange l hlt G ty wz 0 1 (by omega) (by omega) (by omega) (by omega)) ⟨callB_of 3 hts (gd_TB cd_Rips_checkRange) rfl rfl rfl (hts _ ini_Rips) (hts _ lk_Rips_108) hd_Rips_checkRange ⟨Nat.le_of_ble_eq_true rfl, Nat.le_of_ble_eq_true rfl⟩, hts _ st_Rips_checkRange⟩ (preS_th P_nil hX hZ) rfl rfl hl.1 rfl (lv_room (Nat.le_of_ble_eq_true rfl)) d_Rips_run_4 ⟨Nat.le_of_ble_eq_true rfl, Nat.le_of_ble_eq_true rfl⟩) (hout 4) hlocks (fun x9 st9 t9 U9 h1 h2 h3 h4 _ => QT_out h1 h2 h3 h4) (fun q h => by cases h) (fun q h => h)

set_option maxRecDepth 100000 in
set_option maxHeartbeats 4000000 in
theorem t_pricesA (l : Launch) (hlt : l.stackTraces = false) (G : va_G) (ty : Nat → ClassId) (hF : Nat) (hB : Nat) (hT : Nat) (hG : Nat) (hC : Nat) (hQ : Nat) (hO : Nat) (hV : Nat) (hN : Nat) (wy : Nat) (sg_ : Nat) (md : Nat) (bd : Int) (rz : Int) (gr : -2147483648 ≤ rz ∧ rz ≤ 2147483647) (gx : ¬ (1 ≤ rz ∧ rz ≤ 6)) : MetT l y_Rips_prices ws_Rips_prices { frames := 7, cells := 1, slots := 6, locals := 125 } (va_Pc [.ref hF, .int (iI rz)] (fun U => va_P G vwCl [(hF, .inr (9, [.ref hB, .ref hT, .ref hG, .ref hC, .ref hQ, .ref hO, .ref hV, .ref hN, .int (nI wy), .int (nI sg_), .int (nI md), .long (iL bd)]))] U.heap ∧ KX G ty U ∧ ZS U)) (QT xA) 1 6 (fun _ => False) := by
  refine met_th R_Rips (by decide) rfl rfl (Nat.le_of_ble_eq_true rfl) ?_
  intro p e s m below meth c ls hx hb hml hown hts hlocks hout hP hX hZ hl
  have hK := hX.1
  have hl : lv_has ls 7 [(0, .ref hF), (1, .int (iI rz))] := hl
  refine lv_iload_n hx hb d_Rips_prices_0 rfl (lv_at hl 1 rfl) ?_
  refine z_i2l hx hb (by omega) d_Rips_prices_1 ?_
  refine lv_lconst (v := iL 1) hx hb d_Rips_prices_2 (by decide) ?_
  refine lv_ldc2 (v := (iL 6)) hx hb hown (hts _ kc_Rips_190) d_Rips_prices_3 ?_
  exact W.outT (runST (As := [.long (iL rz), .long (iL 1), .long (iL 6)]) (rest := []) ⟨hx, hb, hml, hown, hts⟩ (t_checkRange l hlt G ty rz 1 6 (by omega) (by omega) (by omega) (by omega)) ⟨callB_of 3 hts (gd_TB cd_Rips_checkRange) rfl rfl rfl (hts _ ini_Rips) (hts _ lk_Rips_108) hd_Rips_checkRange ⟨Nat.le_of_ble_eq_true rfl, Nat.le_of_ble_eq_true rfl⟩, hts _ st_Rips_checkRange⟩ (preS_th P_nil hX hZ) rfl rfl hl.1 rfl (lv_room (Nat.le_of_ble_eq_true rfl)) d_Rips_prices_6 ⟨Nat.le_of_ble_eq_true rfl, Nat.le_of_ble_eq_true rfl⟩) (hout 6) hlocks (fun x9 st9 t9 U9 h1 h2 h3 h4 _ => QT_out h1 h2 h3 h4) (fun q h => by cases h) (fun q h => h)

set_option maxRecDepth 100000 in
set_option maxHeartbeats 4000000 in
theorem t_worthS (l : Launch) (hlt : l.stackTraces = false) (G : va_G) (ty : Nat → ClassId) (hF : Nat) (hB : Nat) (hT : Nat) (hG : Nat) (hC : Nat) (hQ : Nat) (hO : Nat) (hV : Nat) (hN : Nat) (wy : Nat) (sg_ : Nat) (md : Nat) (bd : Int) (gx : md = 0) : MetT l y_Rips_worth ws_Rips_worth { frames := 7, cells := 1, slots := 6, locals := 120 } (va_Pc [.ref hF] (fun U => va_P G vwCl [(hF, .inr (9, [.ref hB, .ref hT, .ref hG, .ref hC, .ref hQ, .ref hO, .ref hV, .ref hN, .int (nI wy), .int (nI sg_), .int (nI md), .long (iL bd)]))] U.heap ∧ KX G ty U ∧ ZS U)) (QT xS) 1 6 (fun _ => False) := by
  refine met_th R_Rips (by decide) rfl rfl (Nat.le_of_ble_eq_true rfl) ?_
  intro p e s m below meth c ls hx hb hml hown hts hlocks hout hP hX hZ hl
  have hK := hX.1
  have hl : lv_has ls 1 [(0, .ref hF)] := hl
  refine lv_aload_n hx hb d_Rips_worth_0 rfl (lv_at hl 0 rfl) ?_
  exact W.outT (runVT (As := []) (rest := []) ⟨hx, hb, hml, hown, hts⟩ (t_checkPlanned l hlt G ty hF hB hT hG hC hQ hO hV hN wy sg_ md bd (by omega)) ⟨callB_of 0 hts (gd_TB cd_Rips_checkPlanned) rfl rfl rfl (hts _ ini_Rips) (hts _ lk_Rips_225) hd_Rips_checkPlanned ⟨Nat.le_of_ble_eq_true rfl, Nat.le_of_ble_eq_true rfl⟩, hts _ im_Rips_checkPlanned, hts _ sl_Rips_checkPlanned⟩ (preV_th (hP.sub (ws' := [(hF, .inr (9, [.ref hB, .ref hT, .ref hG, .ref hC, .ref hQ, .ref hO, .ref hV, .ref hN, .int (nI wy), .int (nI sg_), .int (nI md), .long (iL bd)]))]) [0] rfl) hX hZ 0 rfl rfl) rfl rfl hl.1 rfl (lv_room (Nat.le_of_ble_eq_true rfl)) d_Rips_worth_1 ⟨Nat.le_of_ble_eq_true rfl, Nat.le_of_ble_eq_true rfl⟩) (hout 1) hlocks (fun x9 st9 t9 U9 h1 h2 h3 h4 _ => QT_out h1 h2 h3 h4) (fun q h => by cases h) (fun q h => h)

set_option maxRecDepth 100000 in
set_option maxHeartbeats 4000000 in
theorem t_boundS (l : Launch) (hlt : l.stackTraces = false) (G : va_G) (ty : Nat → ClassId) (hF : Nat) (hB : Nat) (hT : Nat) (hG : Nat) (hC : Nat) (hQ : Nat) (hO : Nat) (hV : Nat) (hN : Nat) (wy : Nat) (sg_ : Nat) (md : Nat) (bd : Int) (gx : md = 0) : MetT l y_Rips_bound ws_Rips_bound { frames := 7, cells := 1, slots := 6, locals := 120 } (va_Pc [.ref hF] (fun U => va_P G vwCl [(hF, .inr (9, [.ref hB, .ref hT, .ref hG, .ref hC, .ref hQ, .ref hO, .ref hV, .ref hN, .int (nI wy), .int (nI sg_), .int (nI md), .long (iL bd)]))] U.heap ∧ KX G ty U ∧ ZS U)) (QT xS) 1 6 (fun _ => False) := by
  refine met_th R_Rips (by decide) rfl rfl (Nat.le_of_ble_eq_true rfl) ?_
  intro p e s m below meth c ls hx hb hml hown hts hlocks hout hP hX hZ hl
  have hK := hX.1
  have hl : lv_has ls 1 [(0, .ref hF)] := hl
  refine lv_aload_n hx hb d_Rips_bound_0 rfl (lv_at hl 0 rfl) ?_
  exact W.outT (runVT (As := []) (rest := []) ⟨hx, hb, hml, hown, hts⟩ (t_checkPlanned l hlt G ty hF hB hT hG hC hQ hO hV hN wy sg_ md bd (by omega)) ⟨callB_of 0 hts (gd_TB cd_Rips_checkPlanned) rfl rfl rfl (hts _ ini_Rips) (hts _ lk_Rips_225) hd_Rips_checkPlanned ⟨Nat.le_of_ble_eq_true rfl, Nat.le_of_ble_eq_true rfl⟩, hts _ im_Rips_checkPlanned, hts _ sl_Rips_checkPlanned⟩ (preV_th (hP.sub (ws' := [(hF, .inr (9, [.ref hB, .ref hT, .ref hG, .ref hC, .ref hQ, .ref hO, .ref hV, .ref hN, .int (nI wy), .int (nI sg_), .int (nI md), .long (iL bd)]))]) [0] rfl) hX hZ 0 rfl rfl) rfl rfl hl.1 rfl (lv_room (Nat.le_of_ble_eq_true rfl)) d_Rips_bound_1 ⟨Nat.le_of_ble_eq_true rfl, Nat.le_of_ble_eq_true rfl⟩) (hout 1) hlocks (fun x9 st9 t9 U9 h1 h2 h3 h4 _ => QT_out h1 h2 h3 h4) (fun q h => by cases h) (fun q h => h)

set_option maxRecDepth 100000 in
set_option maxHeartbeats 4000000 in
theorem t_greatestS (l : Launch) (hlt : l.stackTraces = false) (G : va_G) (ty : Nat → ClassId) (hF : Nat) (hB : Nat) (hT : Nat) (hG : Nat) (hC : Nat) (hQ : Nat) (hO : Nat) (hV : Nat) (hN : Nat) (wy : Nat) (sg_ : Nat) (md : Nat) (bd : Int) (gx : md = 0) : MetT l y_Rips_greatest ws_Rips_greatest { frames := 7, cells := 1, slots := 6, locals := 120 } (va_Pc [.ref hF] (fun U => va_P G vwCl [(hF, .inr (9, [.ref hB, .ref hT, .ref hG, .ref hC, .ref hQ, .ref hO, .ref hV, .ref hN, .int (nI wy), .int (nI sg_), .int (nI md), .long (iL bd)]))] U.heap ∧ KX G ty U ∧ ZS U)) (QT xS) 1 6 (fun _ => False) := by
  refine met_th R_Rips (by decide) rfl rfl (Nat.le_of_ble_eq_true rfl) ?_
  intro p e s m below meth c ls hx hb hml hown hts hlocks hout hP hX hZ hl
  have hK := hX.1
  have hl : lv_has ls 1 [(0, .ref hF)] := hl
  refine lv_aload_n hx hb d_Rips_greatest_0 rfl (lv_at hl 0 rfl) ?_
  exact W.outT (runVT (As := []) (rest := []) ⟨hx, hb, hml, hown, hts⟩ (t_checkPlanned l hlt G ty hF hB hT hG hC hQ hO hV hN wy sg_ md bd (by omega)) ⟨callB_of 0 hts (gd_TB cd_Rips_checkPlanned) rfl rfl rfl (hts _ ini_Rips) (hts _ lk_Rips_225) hd_Rips_checkPlanned ⟨Nat.le_of_ble_eq_true rfl, Nat.le_of_ble_eq_true rfl⟩, hts _ im_Rips_checkPlanned, hts _ sl_Rips_checkPlanned⟩ (preV_th (hP.sub (ws' := [(hF, .inr (9, [.ref hB, .ref hT, .ref hG, .ref hC, .ref hQ, .ref hO, .ref hV, .ref hN, .int (nI wy), .int (nI sg_), .int (nI md), .long (iL bd)]))]) [0] rfl) hX hZ 0 rfl rfl) rfl rfl hl.1 rfl (lv_room (Nat.le_of_ble_eq_true rfl)) d_Rips_greatest_1 ⟨Nat.le_of_ble_eq_true rfl, Nat.le_of_ble_eq_true rfl⟩) (hout 1) hlocks (fun x9 st9 t9 U9 h1 h2 h3 h4 _ => QT_out h1 h2 h3 h4) (fun q h => by cases h) (fun q h => h)

set_option maxRecDepth 100000 in
set_option maxHeartbeats 4000000 in
theorem t_atS (l : Launch) (hlt : l.stackTraces = false) (G : va_G) (ty : Nat → ClassId) (hF : Nat) (hB : Nat) (hT : Nat) (hG : Nat) (hC : Nat) (hQ : Nat) (hO : Nat) (hV : Nat) (hN : Nat) (wy : Nat) (sg_ : Nat) (md : Nat) (bd : Int) (kz : Int) (wh : Int) (gx : md = 0) : MetT l y_Rips_at ws_Rips_at { frames := 7, cells := 1, slots := 6, locals := 120 } (va_Pc [.ref hF, .int (iI kz), .int (iI wh)] (fun U => va_P G vwCl [(hF, .inr (9, [.ref hB, .ref hT, .ref hG, .ref hC, .ref hQ, .ref hO, .ref hV, .ref hN, .int (nI wy), .int (nI sg_), .int (nI md), .long (iL bd)]))] U.heap ∧ KX G ty U ∧ ZS U)) (QT xS) 1 6 (fun _ => False) := by
  refine met_th R_Rips (by decide) rfl rfl (Nat.le_of_ble_eq_true rfl) ?_
  intro p e s m below meth c ls hx hb hml hown hts hlocks hout hP hX hZ hl
  have hK := hX.1
  have hl : lv_has ls 3 [(0, .ref hF), (1, .int (iI kz)), (2, .int (iI wh))] := hl
  refine lv_aload_n hx hb d_Rips_at_0 rfl (lv_at hl 0 rfl) ?_
  exact W.outT (runVT (As := []) (rest := []) ⟨hx, hb, hml, hown, hts⟩ (t_checkPlanned l hlt G ty hF hB hT hG hC hQ hO hV hN wy sg_ md bd (by omega)) ⟨callB_of 0 hts (gd_TB cd_Rips_checkPlanned) rfl rfl rfl (hts _ ini_Rips) (hts _ lk_Rips_225) hd_Rips_checkPlanned ⟨Nat.le_of_ble_eq_true rfl, Nat.le_of_ble_eq_true rfl⟩, hts _ im_Rips_checkPlanned, hts _ sl_Rips_checkPlanned⟩ (preV_th (hP.sub (ws' := [(hF, .inr (9, [.ref hB, .ref hT, .ref hG, .ref hC, .ref hQ, .ref hO, .ref hV, .ref hN, .int (nI wy), .int (nI sg_), .int (nI md), .long (iL bd)]))]) [0] rfl) hX hZ 0 rfl rfl) rfl rfl hl.1 rfl (lv_room (Nat.le_of_ble_eq_true rfl)) d_Rips_at_1 ⟨Nat.le_of_ble_eq_true rfl, Nat.le_of_ble_eq_true rfl⟩) (hout 1) hlocks (fun x9 st9 t9 U9 h1 h2 h3 h4 _ => QT_out h1 h2 h3 h4) (fun q h => by cases h) (fun q h => h)

set_option maxRecDepth 100000 in
set_option maxHeartbeats 4000000 in
theorem t_clear2S (l : Launch) (hlt : l.stackTraces = false) (G : va_G) (ty : Nat → ClassId) (hF : Nat) (hB : Nat) (hT : Nat) (hG : Nat) (hC : Nat) (hQ : Nat) (hO : Nat) (hV : Nat) (hN : Nat) (wy : Nat) (sg_ : Nat) (md : Nat) (bd : Int) (kz : Int) (gx : md = 0) : MetT l y_Rips_clear2 ws_Rips_clear2 { frames := 7, cells := 1, slots := 6, locals := 120 } (va_Pc [.ref hF, .int (iI kz)] (fun U => va_P G vwCl [(hF, .inr (9, [.ref hB, .ref hT, .ref hG, .ref hC, .ref hQ, .ref hO, .ref hV, .ref hN, .int (nI wy), .int (nI sg_), .int (nI md), .long (iL bd)]))] U.heap ∧ KX G ty U ∧ ZS U)) (QT xS) 1 6 (fun _ => False) := by
  refine met_th R_Rips (by decide) rfl rfl (Nat.le_of_ble_eq_true rfl) ?_
  intro p e s m below meth c ls hx hb hml hown hts hlocks hout hP hX hZ hl
  have hK := hX.1
  have hl : lv_has ls 6 [(0, .ref hF), (1, .int (iI kz))] := hl
  refine lv_aload_n hx hb d_Rips_clear2_0 rfl (lv_at hl 0 rfl) ?_
  exact W.outT (runVT (As := []) (rest := []) ⟨hx, hb, hml, hown, hts⟩ (t_checkPlanned l hlt G ty hF hB hT hG hC hQ hO hV hN wy sg_ md bd (by omega)) ⟨callB_of 0 hts (gd_TB cd_Rips_checkPlanned) rfl rfl rfl (hts _ ini_Rips) (hts _ lk_Rips_225) hd_Rips_checkPlanned ⟨Nat.le_of_ble_eq_true rfl, Nat.le_of_ble_eq_true rfl⟩, hts _ im_Rips_checkPlanned, hts _ sl_Rips_checkPlanned⟩ (preV_th (hP.sub (ws' := [(hF, .inr (9, [.ref hB, .ref hT, .ref hG, .ref hC, .ref hQ, .ref hO, .ref hV, .ref hN, .int (nI wy), .int (nI sg_), .int (nI md), .long (iL bd)]))]) [0] rfl) hX hZ 0 rfl rfl) rfl rfl hl.1 rfl (lv_room (Nat.le_of_ble_eq_true rfl)) d_Rips_clear2_1 ⟨Nat.le_of_ble_eq_true rfl, Nat.le_of_ble_eq_true rfl⟩) (hout 1) hlocks (fun x9 st9 t9 U9 h1 h2 h3 h4 _ => QT_out h1 h2 h3 h4) (fun q h => by cases h) (fun q h => h)

set_option maxRecDepth 100000 in
set_option maxHeartbeats 4000000 in
theorem t_priceS (l : Launch) (hlt : l.stackTraces = false) (G : va_G) (ty : Nat → ClassId) (hF : Nat) (hB : Nat) (hT : Nat) (hG : Nat) (hC : Nat) (hQ : Nat) (hO : Nat) (hV : Nat) (hN : Nat) (wy : Nat) (sg_ : Nat) (md : Nat) (bd : Int) (pi : Int) (pt : Int) (gx : md = 0) : MetT l y_Rips_price ws_Rips_price { frames := 7, cells := 1, slots := 6, locals := 120 } (va_Pc [.ref hF, .int (iI pi), .int (iI pt)] (fun U => va_P G vwCl [(hF, .inr (9, [.ref hB, .ref hT, .ref hG, .ref hC, .ref hQ, .ref hO, .ref hV, .ref hN, .int (nI wy), .int (nI sg_), .int (nI md), .long (iL bd)]))] U.heap ∧ KX G ty U ∧ ZS U)) (QT xS) 1 6 (fun _ => False) := by
  refine met_th R_Rips (by decide) rfl rfl (Nat.le_of_ble_eq_true rfl) ?_
  intro p e s m below meth c ls hx hb hml hown hts hlocks hout hP hX hZ hl
  have hK := hX.1
  have hl : lv_has ls 3 [(0, .ref hF), (1, .int (iI pi)), (2, .int (iI pt))] := hl
  refine lv_aload_n hx hb d_Rips_price_0 rfl (lv_at hl 0 rfl) ?_
  exact W.outT (runVT (As := []) (rest := []) ⟨hx, hb, hml, hown, hts⟩ (t_checkPlanned l hlt G ty hF hB hT hG hC hQ hO hV hN wy sg_ md bd (by omega)) ⟨callB_of 0 hts (gd_TB cd_Rips_checkPlanned) rfl rfl rfl (hts _ ini_Rips) (hts _ lk_Rips_225) hd_Rips_checkPlanned ⟨Nat.le_of_ble_eq_true rfl, Nat.le_of_ble_eq_true rfl⟩, hts _ im_Rips_checkPlanned, hts _ sl_Rips_checkPlanned⟩ (preV_th (hP.sub (ws' := [(hF, .inr (9, [.ref hB, .ref hT, .ref hG, .ref hC, .ref hQ, .ref hO, .ref hV, .ref hN, .int (nI wy), .int (nI sg_), .int (nI md), .long (iL bd)]))]) [0] rfl) hX hZ 0 rfl rfl) rfl rfl hl.1 rfl (lv_room (Nat.le_of_ble_eq_true rfl)) d_Rips_price_1 ⟨Nat.le_of_ble_eq_true rfl, Nat.le_of_ble_eq_true rfl⟩) (hout 1) hlocks (fun x9 st9 t9 U9 h1 h2 h3 h4 _ => QT_out h1 h2 h3 h4) (fun q h => by cases h) (fun q h => h)

set_option maxRecDepth 100000 in
set_option maxHeartbeats 4000000 in
theorem t_salvageS (l : Launch) (hlt : l.stackTraces = false) (G : va_G) (ty : Nat → ClassId) (hF : Nat) (hB : Nat) (hT : Nat) (hG : Nat) (hC : Nat) (hQ : Nat) (hO : Nat) (hV : Nat) (hN : Nat) (wy : Nat) (sg_ : Nat) (md : Nat) (bd : Int) (kz : Int) (wh : Int) (gx : md = 0) : MetT l y_Rips_salvage ws_Rips_salvage { frames := 7, cells := 1, slots := 6, locals := 120 } (va_Pc [.ref hF, .int (iI kz), .int (iI wh)] (fun U => va_P G vwCl [(hF, .inr (9, [.ref hB, .ref hT, .ref hG, .ref hC, .ref hQ, .ref hO, .ref hV, .ref hN, .int (nI wy), .int (nI sg_), .int (nI md), .long (iL bd)]))] U.heap ∧ KX G ty U ∧ ZS U)) (QT xS) 1 6 (fun _ => False) := by
  refine met_th R_Rips (by decide) rfl rfl (Nat.le_of_ble_eq_true rfl) ?_
  intro p e s m below meth c ls hx hb hml hown hts hlocks hout hP hX hZ hl
  have hK := hX.1
  have hl : lv_has ls 3 [(0, .ref hF), (1, .int (iI kz)), (2, .int (iI wh))] := hl
  refine lv_aload_n hx hb d_Rips_salvage_0 rfl (lv_at hl 0 rfl) ?_
  exact W.outT (runVT (As := []) (rest := []) ⟨hx, hb, hml, hown, hts⟩ (t_checkPlanned l hlt G ty hF hB hT hG hC hQ hO hV hN wy sg_ md bd (by omega)) ⟨callB_of 0 hts (gd_TB cd_Rips_checkPlanned) rfl rfl rfl (hts _ ini_Rips) (hts _ lk_Rips_225) hd_Rips_checkPlanned ⟨Nat.le_of_ble_eq_true rfl, Nat.le_of_ble_eq_true rfl⟩, hts _ im_Rips_checkPlanned, hts _ sl_Rips_checkPlanned⟩ (preV_th (hP.sub (ws' := [(hF, .inr (9, [.ref hB, .ref hT, .ref hG, .ref hC, .ref hQ, .ref hO, .ref hV, .ref hN, .int (nI wy), .int (nI sg_), .int (nI md), .long (iL bd)]))]) [0] rfl) hX hZ 0 rfl rfl) rfl rfl hl.1 rfl (lv_room (Nat.le_of_ble_eq_true rfl)) d_Rips_salvage_1 ⟨Nat.le_of_ble_eq_true rfl, Nat.le_of_ble_eq_true rfl⟩) (hout 1) hlocks (fun x9 st9 t9 U9 h1 h2 h3 h4 _ => QT_out h1 h2 h3 h4) (fun q h => by cases h) (fun q h => h)

set_option maxRecDepth 100000 in
set_option maxHeartbeats 4000000 in
theorem t_panelS (l : Launch) (hlt : l.stackTraces = false) (G : va_G) (ty : Nat → ClassId) (hF : Nat) (hB : Nat) (hT : Nat) (hG : Nat) (hC : Nat) (hQ : Nat) (hO : Nat) (hV : Nat) (hN : Nat) (wy : Nat) (sg_ : Nat) (md : Nat) (bd : Int) (wz : Int) (kz : Int) (gx : md = 0) : MetT l y_Rips_panel ws_Rips_panel { frames := 7, cells := 1, slots := 6, locals := 120 } (va_Pc [.ref hF, .int (iI wz), .int (iI kz)] (fun U => va_P G vwCl [(hF, .inr (9, [.ref hB, .ref hT, .ref hG, .ref hC, .ref hQ, .ref hO, .ref hV, .ref hN, .int (nI wy), .int (nI sg_), .int (nI md), .long (iL bd)]))] U.heap ∧ KX G ty U ∧ ZS U)) (QT xS) 1 6 (fun _ => False) := by
  refine met_th R_Rips (by decide) rfl rfl (Nat.le_of_ble_eq_true rfl) ?_
  intro p e s m below meth c ls hx hb hml hown hts hlocks hout hP hX hZ hl
  have hK := hX.1
  have hl : lv_has ls 3 [(0, .ref hF), (1, .int (iI wz)), (2, .int (iI kz))] := hl
  refine lv_aload_n hx hb d_Rips_panel_0 rfl (lv_at hl 0 rfl) ?_
  exact W.outT (runVT (As := []) (rest := []) ⟨hx, hb, hml, hown, hts⟩ (t_checkPlanned l hlt G ty hF hB hT hG hC hQ hO hV hN wy sg_ md bd (by omega)) ⟨callB_of 0 hts (gd_TB cd_Rips_checkPlanned) rfl rfl rfl (hts _ ini_Rips) (hts _ lk_Rips_225) hd_Rips_checkPlanned ⟨Nat.le_of_ble_eq_true rfl, Nat.le_of_ble_eq_true rfl⟩, hts _ im_Rips_checkPlanned, hts _ sl_Rips_checkPlanned⟩ (preV_th (hP.sub (ws' := [(hF, .inr (9, [.ref hB, .ref hT, .ref hG, .ref hC, .ref hQ, .ref hO, .ref hV, .ref hN, .int (nI wy), .int (nI sg_), .int (nI md), .long (iL bd)]))]) [0] rfl) hX hZ 0 rfl rfl) rfl rfl hl.1 rfl (lv_room (Nat.le_of_ble_eq_true rfl)) d_Rips_panel_1 ⟨Nat.le_of_ble_eq_true rfl, Nat.le_of_ble_eq_true rfl⟩) (hout 1) hlocks (fun x9 st9 t9 U9 h1 h2 h3 h4 _ => QT_out h1 h2 h3 h4) (fun q h => by cases h) (fun q h => h)

set_option maxRecDepth 100000 in
set_option maxHeartbeats 4000000 in
theorem t_atI (l : Launch) (hlt : l.stackTraces = false) (G : va_G) (ty : Nat → ClassId) (hF : Nat) (hB : Nat) (hT : Nat) (hG : Nat) (hC : Nat) (hQ : Nat) (hO : Nat) (hV : Nat) (hN : Nat) (wy : Nat) (sg_ : Nat) (md : Nat) (bd : Int) (aQ : Nat) (aC : Nat) (np : Nat) (rm : Nat) (tot : Int) (kz : Int) (wh : Int) (g1 : md = 1) (gk : -2147483648 ≤ kz ∧ kz ≤ 2147483647) (gn : np ≤ 240) (gx : ¬ (-1 ≤ kz ∧ kz < (np : Int))) : MetT l y_Rips_at ws_Rips_at { frames := 8, cells := 1, slots := 6, locals := 142 } (va_Pc [.ref hF, .int (iI kz), .int (iI wh)] (fun U => va_P G vwCl [(hF, .inr (9, [.ref hB, .ref hT, .ref hG, .ref hC, .ref hQ, .ref hO, .ref hV, .ref hN, .int (nI wy), .int (nI sg_), .int (nI md), .long (iL bd)])), (hQ, .inr (6, [.ref aQ, .ref aC, .int (nI np), .long (iL tot), .int (nI rm)]))] U.heap ∧ KX G ty U ∧ ZS U)) (QT xI) 1 6 (fun _ => False) := by
  refine met_th R_Rips (by decide) rfl rfl (Nat.le_of_ble_eq_true rfl) ?_
  intro p e s m below meth c ls hx hb hml hown hts hlocks hout hP hX hZ hl
  have hK := hX.1
  have hl : lv_has ls 3 [(0, .ref hF), (1, .int (iI kz)), (2, .int (iI wh))] := hl
  refine lv_aload_n hx hb d_Rips_at_0 rfl (lv_at hl 0 rfl) ?_
  refine va_csv (W.runV (As := []) (rest := []) ⟨hx, hb, hml, hown, hts⟩ (c_Rips_checkPlanned l G ty hF hB hT hG hC hQ hO hV hN wy sg_ md bd (by omega)) ⟨callB_of 0 hts (gd_TB cd_Rips_checkPlanned) rfl rfl rfl (hts _ ini_Rips) (hts _ lk_Rips_225) hd_Rips_checkPlanned ⟨Nat.le_of_ble_eq_true rfl, Nat.le_of_ble_eq_true rfl⟩, hts _ im_Rips_checkPlanned, hts _ sl_Rips_checkPlanned⟩ (preV_ro (hP.sub (ws' := [(hF, .inr (9, [.ref hB, .ref hT, .ref hG, .ref hC, .ref hQ, .ref hO, .ref hV, .ref hN, .int (nI wy), .int (nI sg_), .int (nI md), .long (iL bd)]))]) [0] rfl) hX 0 rfl rfl) rfl rfl hl.1 rfl (lv_room (Nat.le_of_ble_eq_true rfl)) d_Rips_at_1 ⟨Nat.le_of_ble_eq_true rfl, Nat.le_of_ble_eq_true rfl⟩) (fun _ => ?_)
  refine lv_iload_n hx hb d_Rips_at_4 rfl (lv_at hl 1 rfl) ?_
  refine lv_aload_n hx hb d_Rips_at_5 rfl (lv_at hl 0 rfl) ?_
  refine va_get (D := G) (ci := 9) (v := .ref hQ) (C := R_Rips) (T := F_Rips) (N := 12) hx hb hts in_Rips hown hK hP 0 rfl rfl 4 (by decide) (hts _ fl_Rips_71) (fun _ h9 => h9) rfl d_Rips_at_6 ?_
  refine va_get (D := G) (ci := 6) (v := .int (nI np)) (C := R_Plan) (T := F_Plan) (N := 5) hx hb hts in_Plan hown hK hP 1 rfl rfl 2 (by decide) (hts _ fl_Rips_187) (fun _ h9 => h9) rfl d_Rips_at_9 ?_
  exact W.outT (runST (As := [.int (iI kz), .int (nI np)]) (rest := []) ⟨hx, hb, hml, hown, hts⟩ (t_checkIndexOrNone l hlt G ty kz np (by omega) (by omega) (by omega)) ⟨callB_of 2 hts (gd_TB cd_Rips_checkIndexOrNone) rfl rfl rfl (hts _ ini_Rips) (hts _ lk_Rips_228) hd_Rips_checkIndexOrNone ⟨Nat.le_of_ble_eq_true rfl, Nat.le_of_ble_eq_true rfl⟩, hts _ st_Rips_checkIndexOrNone⟩ (preS_th P_nil hX hZ) rfl rfl hl.1 rfl (lv_room (Nat.le_of_ble_eq_true rfl)) d_Rips_at_12 ⟨Nat.le_of_ble_eq_true rfl, Nat.le_of_ble_eq_true rfl⟩) (hout 12) hlocks (fun x9 st9 t9 U9 h1 h2 h3 h4 _ => QT_out h1 h2 h3 h4) (fun q h => by cases h) (fun q h => h)

set_option maxRecDepth 100000 in
set_option maxHeartbeats 4000000 in
theorem t_atA (l : Launch) (hlt : l.stackTraces = false) (G : va_G) (ty : Nat → ClassId) (hF : Nat) (hB : Nat) (hT : Nat) (hG : Nat) (hC : Nat) (hQ : Nat) (hO : Nat) (hV : Nat) (hN : Nat) (wy : Nat) (sg_ : Nat) (md : Nat) (bd : Int) (aQ : Nat) (aC : Nat) (np : Nat) (rm : Nat) (tot : Int) (kz : Int) (wh : Int) (g1 : md = 1) (gk : -1 ≤ kz ∧ kz < (np : Int)) (gn : np ≤ 240) (gw : -2147483648 ≤ wh ∧ wh ≤ 2147483647) (gx : ¬ (0 ≤ wh ∧ wh ≤ 5)) : MetT l y_Rips_at ws_Rips_at { frames := 7, cells := 1, slots := 6, locals := 125 } (va_Pc [.ref hF, .int (iI kz), .int (iI wh)] (fun U => va_P G vwCl [(hF, .inr (9, [.ref hB, .ref hT, .ref hG, .ref hC, .ref hQ, .ref hO, .ref hV, .ref hN, .int (nI wy), .int (nI sg_), .int (nI md), .long (iL bd)])), (hQ, .inr (6, [.ref aQ, .ref aC, .int (nI np), .long (iL tot), .int (nI rm)]))] U.heap ∧ KX G ty U ∧ ZS U)) (QT xA) 1 6 (fun _ => False) := by
  refine met_th R_Rips (by decide) rfl rfl (Nat.le_of_ble_eq_true rfl) ?_
  intro p e s m below meth c ls hx hb hml hown hts hlocks hout hP hX hZ hl
  have hK := hX.1
  have hl : lv_has ls 3 [(0, .ref hF), (1, .int (iI kz)), (2, .int (iI wh))] := hl
  refine lv_aload_n hx hb d_Rips_at_0 rfl (lv_at hl 0 rfl) ?_
  refine va_csv (W.runV (As := []) (rest := []) ⟨hx, hb, hml, hown, hts⟩ (c_Rips_checkPlanned l G ty hF hB hT hG hC hQ hO hV hN wy sg_ md bd (by omega)) ⟨callB_of 0 hts (gd_TB cd_Rips_checkPlanned) rfl rfl rfl (hts _ ini_Rips) (hts _ lk_Rips_225) hd_Rips_checkPlanned ⟨Nat.le_of_ble_eq_true rfl, Nat.le_of_ble_eq_true rfl⟩, hts _ im_Rips_checkPlanned, hts _ sl_Rips_checkPlanned⟩ (preV_ro (hP.sub (ws' := [(hF, .inr (9, [.ref hB, .ref hT, .ref hG, .ref hC, .ref hQ, .ref hO, .ref hV, .ref hN, .int (nI wy), .int (nI sg_), .int (nI md), .long (iL bd)]))]) [0] rfl) hX 0 rfl rfl) rfl rfl hl.1 rfl (lv_room (Nat.le_of_ble_eq_true rfl)) d_Rips_at_1 ⟨Nat.le_of_ble_eq_true rfl, Nat.le_of_ble_eq_true rfl⟩) (fun _ => ?_)
  refine lv_iload_n hx hb d_Rips_at_4 rfl (lv_at hl 1 rfl) ?_
  refine lv_aload_n hx hb d_Rips_at_5 rfl (lv_at hl 0 rfl) ?_
  refine va_get (D := G) (ci := 9) (v := .ref hQ) (C := R_Rips) (T := F_Rips) (N := 12) hx hb hts in_Rips hown hK hP 0 rfl rfl 4 (by decide) (hts _ fl_Rips_71) (fun _ h9 => h9) rfl d_Rips_at_6 ?_
  refine va_get (D := G) (ci := 6) (v := .int (nI np)) (C := R_Plan) (T := F_Plan) (N := 5) hx hb hts in_Plan hown hK hP 1 rfl rfl 2 (by decide) (hts _ fl_Rips_187) (fun _ h9 => h9) rfl d_Rips_at_9 ?_
  refine va_csv (W.runS (As := [.int (iI kz), .int (nI np)]) (rest := []) ⟨hx, hb, hml, hown, hts⟩ (c_Rips_checkIndexOrNone l G ty kz np (by omega) (by omega)) ⟨callB_of 2 hts (gd_TB cd_Rips_checkIndexOrNone) rfl rfl rfl (hts _ ini_Rips) (hts _ lk_Rips_228) hd_Rips_checkIndexOrNone ⟨Nat.le_of_ble_eq_true rfl, Nat.le_of_ble_eq_true rfl⟩, hts _ st_Rips_checkIndexOrNone⟩ (preS_ro (hP.sub (ws' := []) [] rfl) hX) rfl rfl hl.1 rfl (lv_room (Nat.le_of_ble_eq_true rfl)) d_Rips_at_12 ⟨Nat.le_of_ble_eq_true rfl, Nat.le_of_ble_eq_true rfl⟩) (fun _ => ?_)
  refine lv_iload_n hx hb d_Rips_at_15 rfl (lv_at hl 2 rfl) ?_
  refine z_i2l hx hb (by omega) d_Rips_at_16 ?_
  refine lv_lconst (v := iL 0) hx hb d_Rips_at_17 (by decide) ?_
  refine lv_ldc2 (v := (iL 5)) hx hb hown (hts _ kc_Rips_231) d_Rips_at_18 ?_
  exact W.outT (runST (As := [.long (iL wh), .long (iL 0), .long (iL 5)]) (rest := []) ⟨hx, hb, hml, hown, hts⟩ (t_checkRange l hlt G ty wh 0 5 (by omega) (by omega) (by omega) (by omega)) ⟨callB_of 3 hts (gd_TB cd_Rips_checkRange) rfl rfl rfl (hts _ ini_Rips) (hts _ lk_Rips_108) hd_Rips_checkRange ⟨Nat.le_of_ble_eq_true rfl, Nat.le_of_ble_eq_true rfl⟩, hts _ st_Rips_checkRange⟩ (preS_th P_nil hX hZ) rfl rfl hl.1 rfl (lv_room (Nat.le_of_ble_eq_true rfl)) d_Rips_at_21 ⟨Nat.le_of_ble_eq_true rfl, Nat.le_of_ble_eq_true rfl⟩) (hout 21) hlocks (fun x9 st9 t9 U9 h1 h2 h3 h4 _ => QT_out h1 h2 h3 h4) (fun q h => by cases h) (fun q h => h)

set_option maxRecDepth 100000 in
set_option maxHeartbeats 4000000 in
theorem t_clear2I (l : Launch) (hlt : l.stackTraces = false) (G : va_G) (ty : Nat → ClassId) (hF : Nat) (hB : Nat) (hT : Nat) (hG : Nat) (hC : Nat) (hQ : Nat) (hO : Nat) (hV : Nat) (hN : Nat) (wy : Nat) (sg_ : Nat) (md : Nat) (bd : Int) (aQ : Nat) (aC : Nat) (np : Nat) (rm : Nat) (tot : Int) (kz : Int) (g1 : md = 1) (gk : -2147483648 ≤ kz ∧ kz ≤ 2147483647) (gn : np ≤ 240) (gx : ¬ (0 ≤ kz ∧ kz < (np : Int))) : MetT l y_Rips_clear2 ws_Rips_clear2 { frames := 7, cells := 1, slots := 6, locals := 121 } (va_Pc [.ref hF, .int (iI kz)] (fun U => va_P G vwCl [(hF, .inr (9, [.ref hB, .ref hT, .ref hG, .ref hC, .ref hQ, .ref hO, .ref hV, .ref hN, .int (nI wy), .int (nI sg_), .int (nI md), .long (iL bd)])), (hQ, .inr (6, [.ref aQ, .ref aC, .int (nI np), .long (iL tot), .int (nI rm)]))] U.heap ∧ KX G ty U ∧ ZS U)) (QT xI) 1 6 (fun _ => False) := by
  refine met_th R_Rips (by decide) rfl rfl (Nat.le_of_ble_eq_true rfl) ?_
  intro p e s m below meth c ls hx hb hml hown hts hlocks hout hP hX hZ hl
  have hK := hX.1
  have hl : lv_has ls 6 [(0, .ref hF), (1, .int (iI kz))] := hl
  refine lv_aload_n hx hb d_Rips_clear2_0 rfl (lv_at hl 0 rfl) ?_
  refine va_csv (W.runV (As := []) (rest := []) ⟨hx, hb, hml, hown, hts⟩ (c_Rips_checkPlanned l G ty hF hB hT hG hC hQ hO hV hN wy sg_ md bd (by omega)) ⟨callB_of 0 hts (gd_TB cd_Rips_checkPlanned) rfl rfl rfl (hts _ ini_Rips) (hts _ lk_Rips_225) hd_Rips_checkPlanned ⟨Nat.le_of_ble_eq_true rfl, Nat.le_of_ble_eq_true rfl⟩, hts _ im_Rips_checkPlanned, hts _ sl_Rips_checkPlanned⟩ (preV_ro (hP.sub (ws' := [(hF, .inr (9, [.ref hB, .ref hT, .ref hG, .ref hC, .ref hQ, .ref hO, .ref hV, .ref hN, .int (nI wy), .int (nI sg_), .int (nI md), .long (iL bd)]))]) [0] rfl) hX 0 rfl rfl) rfl rfl hl.1 rfl (lv_room (Nat.le_of_ble_eq_true rfl)) d_Rips_clear2_1 ⟨Nat.le_of_ble_eq_true rfl, Nat.le_of_ble_eq_true rfl⟩) (fun _ => ?_)
  refine lv_iload_n hx hb d_Rips_clear2_4 rfl (lv_at hl 1 rfl) ?_
  refine lv_aload_n hx hb d_Rips_clear2_5 rfl (lv_at hl 0 rfl) ?_
  refine va_get (D := G) (ci := 9) (v := .ref hQ) (C := R_Rips) (T := F_Rips) (N := 12) hx hb hts in_Rips hown hK hP 0 rfl rfl 4 (by decide) (hts _ fl_Rips_71) (fun _ h9 => h9) rfl d_Rips_clear2_6 ?_
  refine va_get (D := G) (ci := 6) (v := .int (nI np)) (C := R_Plan) (T := F_Plan) (N := 5) hx hb hts in_Plan hown hK hP 1 rfl rfl 2 (by decide) (hts _ fl_Rips_187) (fun _ h9 => h9) rfl d_Rips_clear2_9 ?_
  exact W.outT (runST (As := [.int (iI kz), .int (nI np)]) (rest := []) ⟨hx, hb, hml, hown, hts⟩ (t_checkIndex l hlt G ty kz np (by omega) (by omega) (by omega)) ⟨callB_of 2 hts (gd_TB cd_Rips_checkIndex) rfl rfl rfl (hts _ ini_Rips) (hts _ lk_Rips_92) hd_Rips_checkIndex ⟨Nat.le_of_ble_eq_true rfl, Nat.le_of_ble_eq_true rfl⟩, hts _ st_Rips_checkIndex⟩ (preS_th P_nil hX hZ) rfl rfl hl.1 rfl (lv_room (Nat.le_of_ble_eq_true rfl)) d_Rips_clear2_12 ⟨Nat.le_of_ble_eq_true rfl, Nat.le_of_ble_eq_true rfl⟩) (hout 12) hlocks (fun x9 st9 t9 U9 h1 h2 h3 h4 _ => QT_out h1 h2 h3 h4) (fun q h => by cases h) (fun q h => h)

set_option maxRecDepth 100000 in
set_option maxHeartbeats 4000000 in
theorem t_priceI (l : Launch) (hlt : l.stackTraces = false) (G : va_G) (ty : Nat → ClassId) (hF : Nat) (hB : Nat) (hT : Nat) (hG : Nat) (hC : Nat) (hQ : Nat) (hO : Nat) (hV : Nat) (hN : Nat) (wy : Nat) (sg_ : Nat) (md : Nat) (bd : Int) (aT : Nat) (ns : Nat) (bw : Nat) (pi : Int) (pt : Int) (g1 : md = 1) (gi : -2147483648 ≤ pi ∧ pi ≤ 2147483647) (gp : -2147483648 ≤ pt ∧ pt ≤ 2147483647) (g8 : ns ≤ 8) (gx : ¬ ((0 ≤ pi ∧ pi < (ns : Int)) ∧ (0 ≤ pt ∧ pt < 3))) : MetT l y_Rips_price ws_Rips_price { frames := 7, cells := 1, slots := 6, locals := 121 } (va_Pc [.ref hF, .int (iI pi), .int (iI pt)] (fun U => va_P G vwCl [(hF, .inr (9, [.ref hB, .ref hT, .ref hG, .ref hC, .ref hQ, .ref hO, .ref hV, .ref hN, .int (nI wy), .int (nI sg_), .int (nI md), .long (iL bd)])), (hT, .inr (8, [.ref aT, .int (nI ns), .int (nI bw), .ref hB]))] U.heap ∧ KX G ty U ∧ ZS U)) (QT xI) 1 6 (fun _ => False) := by
  refine met_th R_Rips (by decide) rfl rfl (Nat.le_of_ble_eq_true rfl) ?_
  intro p e s m below meth c ls hx hb hml hown hts hlocks hout hP hX hZ hl
  have hK := hX.1
  have hl : lv_has ls 3 [(0, .ref hF), (1, .int (iI pi)), (2, .int (iI pt))] := hl
  refine lv_aload_n hx hb d_Rips_price_0 rfl (lv_at hl 0 rfl) ?_
  refine va_csv (W.runV (As := []) (rest := []) ⟨hx, hb, hml, hown, hts⟩ (c_Rips_checkPlanned l G ty hF hB hT hG hC hQ hO hV hN wy sg_ md bd (by omega)) ⟨callB_of 0 hts (gd_TB cd_Rips_checkPlanned) rfl rfl rfl (hts _ ini_Rips) (hts _ lk_Rips_225) hd_Rips_checkPlanned ⟨Nat.le_of_ble_eq_true rfl, Nat.le_of_ble_eq_true rfl⟩, hts _ im_Rips_checkPlanned, hts _ sl_Rips_checkPlanned⟩ (preV_ro (hP.sub (ws' := [(hF, .inr (9, [.ref hB, .ref hT, .ref hG, .ref hC, .ref hQ, .ref hO, .ref hV, .ref hN, .int (nI wy), .int (nI sg_), .int (nI md), .long (iL bd)]))]) [0] rfl) hX 0 rfl rfl) rfl rfl hl.1 rfl (lv_room (Nat.le_of_ble_eq_true rfl)) d_Rips_price_1 ⟨Nat.le_of_ble_eq_true rfl, Nat.le_of_ble_eq_true rfl⟩) (fun _ => ?_)
  refine lv_iload_n hx hb d_Rips_price_4 rfl (lv_at hl 1 rfl) ?_
  refine lv_aload_n hx hb d_Rips_price_5 rfl (lv_at hl 0 rfl) ?_
  refine va_get (D := G) (ci := 9) (v := .ref hT) (C := R_Rips) (T := F_Rips) (N := 12) hx hb hts in_Rips hown hK hP 0 rfl rfl 1 (by decide) (hts _ fl_Rips_42) (fun _ h9 => h9) rfl d_Rips_price_6 ?_
  refine va_get (D := G) (ci := 8) (v := .int (nI ns)) (C := R_Sorts) (T := F_Sorts) (N := 4) hx hb hts in_Sorts hown hK hP 1 rfl rfl 1 (by decide) (hts _ fl_Rips_125) (fun _ h9 => h9) rfl d_Rips_price_9 ?_
  by_cases q12 : 0 ≤ pi ∧ pi < ((ns : Nat) : Int)
  · refine va_csv (W.runS (As := [.int (iI pi), .int (nI ns)]) (rest := []) ⟨hx, hb, hml, hown, hts⟩ (c_Rips_checkIndex l G ty pi ns (by omega) (by omega)) ⟨callB_of 2 hts (gd_TB cd_Rips_checkIndex) rfl rfl rfl (hts _ ini_Rips) (hts _ lk_Rips_92) hd_Rips_checkIndex ⟨Nat.le_of_ble_eq_true rfl, Nat.le_of_ble_eq_true rfl⟩, hts _ st_Rips_checkIndex⟩ (preS_ro (hP.sub (ws' := []) [] rfl) hX) rfl rfl hl.1 rfl (lv_room (Nat.le_of_ble_eq_true rfl)) d_Rips_price_12 ⟨Nat.le_of_ble_eq_true rfl, Nat.le_of_ble_eq_true rfl⟩) (fun _ => ?_)
    refine lv_iload_n hx hb d_Rips_price_15 rfl (lv_at hl 2 rfl) ?_
    refine lv_iconst (v := (nI 3)) hx hb d_Rips_price_16 (by decide) ?_
    exact W.outT (runST (As := [.int (iI pt), .int (nI 3)]) (rest := []) ⟨hx, hb, hml, hown, hts⟩ (t_checkIndex l hlt G ty pt 3 (by omega) (by omega) (by omega)) ⟨callB_of 2 hts (gd_TB cd_Rips_checkIndex) rfl rfl rfl (hts _ ini_Rips) (hts _ lk_Rips_92) hd_Rips_checkIndex ⟨Nat.le_of_ble_eq_true rfl, Nat.le_of_ble_eq_true rfl⟩, hts _ st_Rips_checkIndex⟩ (preS_th P_nil hX hZ) rfl rfl hl.1 rfl (lv_room (Nat.le_of_ble_eq_true rfl)) d_Rips_price_17 ⟨Nat.le_of_ble_eq_true rfl, Nat.le_of_ble_eq_true rfl⟩) (hout 17) hlocks (fun x9 st9 t9 U9 h1 h2 h3 h4 _ => QT_out h1 h2 h3 h4) (fun q h => by cases h) (fun q h => h)
  · exact W.outT (runST (As := [.int (iI pi), .int (nI ns)]) (rest := []) ⟨hx, hb, hml, hown, hts⟩ (t_checkIndex l hlt G ty pi ns (by omega) (by omega) (by omega)) ⟨callB_of 2 hts (gd_TB cd_Rips_checkIndex) rfl rfl rfl (hts _ ini_Rips) (hts _ lk_Rips_92) hd_Rips_checkIndex ⟨Nat.le_of_ble_eq_true rfl, Nat.le_of_ble_eq_true rfl⟩, hts _ st_Rips_checkIndex⟩ (preS_th P_nil hX hZ) rfl rfl hl.1 rfl (lv_room (Nat.le_of_ble_eq_true rfl)) d_Rips_price_12 ⟨Nat.le_of_ble_eq_true rfl, Nat.le_of_ble_eq_true rfl⟩) (hout 12) hlocks (fun x9 st9 t9 U9 h1 h2 h3 h4 _ => QT_out h1 h2 h3 h4) (fun q h => by cases h) (fun q h => h)

set_option maxRecDepth 100000 in
set_option maxHeartbeats 4000000 in
theorem t_panelA (l : Launch) (hlt : l.stackTraces = false) (G : va_G) (ty : Nat → ClassId) (hF : Nat) (hB : Nat) (hT : Nat) (hG : Nat) (hC : Nat) (hQ : Nat) (hO : Nat) (hV : Nat) (hN : Nat) (wy : Nat) (sg_ : Nat) (md : Nat) (bd : Int) (wz : Int) (kz : Int) (g1 : md = 1) (gw : -2147483648 ≤ wz ∧ wz ≤ 2147483647) (gk : -2147483648 ≤ kz ∧ kz ≤ 2147483647) (gx : ¬ ((1 ≤ wz ∧ wz ≤ 100) ∧ 0 ≤ kz)) : MetT l y_Rips_panel ws_Rips_panel { frames := 7, cells := 1, slots := 6, locals := 125 } (va_Pc [.ref hF, .int (iI wz), .int (iI kz)] (fun U => va_P G vwCl [(hF, .inr (9, [.ref hB, .ref hT, .ref hG, .ref hC, .ref hQ, .ref hO, .ref hV, .ref hN, .int (nI wy), .int (nI sg_), .int (nI md), .long (iL bd)]))] U.heap ∧ KX G ty U ∧ ZS U)) (QT xA) 1 6 (fun _ => False) := by
  refine met_th R_Rips (by decide) rfl rfl (Nat.le_of_ble_eq_true rfl) ?_
  intro p e s m below meth c ls hx hb hml hown hts hlocks hout hP hX hZ hl
  have hK := hX.1
  have hl : lv_has ls 3 [(0, .ref hF), (1, .int (iI wz)), (2, .int (iI kz))] := hl
  refine lv_aload_n hx hb d_Rips_panel_0 rfl (lv_at hl 0 rfl) ?_
  refine va_csv (W.runV (As := []) (rest := []) ⟨hx, hb, hml, hown, hts⟩ (c_Rips_checkPlanned l G ty hF hB hT hG hC hQ hO hV hN wy sg_ md bd (by omega)) ⟨callB_of 0 hts (gd_TB cd_Rips_checkPlanned) rfl rfl rfl (hts _ ini_Rips) (hts _ lk_Rips_225) hd_Rips_checkPlanned ⟨Nat.le_of_ble_eq_true rfl, Nat.le_of_ble_eq_true rfl⟩, hts _ im_Rips_checkPlanned, hts _ sl_Rips_checkPlanned⟩ (preV_ro (hP.sub (ws' := [(hF, .inr (9, [.ref hB, .ref hT, .ref hG, .ref hC, .ref hQ, .ref hO, .ref hV, .ref hN, .int (nI wy), .int (nI sg_), .int (nI md), .long (iL bd)]))]) [0] rfl) hX 0 rfl rfl) rfl rfl hl.1 rfl (lv_room (Nat.le_of_ble_eq_true rfl)) d_Rips_panel_1 ⟨Nat.le_of_ble_eq_true rfl, Nat.le_of_ble_eq_true rfl⟩) (fun _ => ?_)
  refine lv_iload_n hx hb d_Rips_panel_4 rfl (lv_at hl 1 rfl) ?_
  refine z_i2l hx hb (by omega) d_Rips_panel_5 ?_
  refine lv_lconst (v := iL 1) hx hb d_Rips_panel_6 (by decide) ?_
  refine lv_ldc2 (v := (iL 100)) hx hb hown (hts _ kc_Rips_257) d_Rips_panel_7 ?_
  by_cases q10 : 1 ≤ wz ∧ wz ≤ 100
  · refine va_csv (W.runS (As := [.long (iL wz), .long (iL 1), .long (iL 100)]) (rest := []) ⟨hx, hb, hml, hown, hts⟩ (c_Rips_checkRange l G ty wz 1 100 (by omega) (by omega) (by omega)) ⟨callB_of 3 hts (gd_TB cd_Rips_checkRange) rfl rfl rfl (hts _ ini_Rips) (hts _ lk_Rips_108) hd_Rips_checkRange ⟨Nat.le_of_ble_eq_true rfl, Nat.le_of_ble_eq_true rfl⟩, hts _ st_Rips_checkRange⟩ (preS_ro (hP.sub (ws' := []) [] rfl) hX) rfl rfl hl.1 rfl (lv_room (Nat.le_of_ble_eq_true rfl)) d_Rips_panel_10 ⟨Nat.le_of_ble_eq_true rfl, Nat.le_of_ble_eq_true rfl⟩) (fun _ => ?_)
    refine lv_iload_n hx hb d_Rips_panel_13 rfl (lv_at hl 2 rfl) ?_
    refine z_i2l hx hb (by omega) d_Rips_panel_14 ?_
    refine lv_lconst (v := iL 0) hx hb d_Rips_panel_15 (by decide) ?_
    refine lv_ldc2 (v := (iL 2147483647)) hx hb hown (hts _ kc_Rips_261) d_Rips_panel_16 ?_
    exact W.outT (runST (As := [.long (iL kz), .long (iL 0), .long (iL 2147483647)]) (rest := []) ⟨hx, hb, hml, hown, hts⟩ (t_checkRange l hlt G ty kz 0 2147483647 (by omega) (by omega) (by omega) (by omega)) ⟨callB_of 3 hts (gd_TB cd_Rips_checkRange) rfl rfl rfl (hts _ ini_Rips) (hts _ lk_Rips_108) hd_Rips_checkRange ⟨Nat.le_of_ble_eq_true rfl, Nat.le_of_ble_eq_true rfl⟩, hts _ st_Rips_checkRange⟩ (preS_th P_nil hX hZ) rfl rfl hl.1 rfl (lv_room (Nat.le_of_ble_eq_true rfl)) d_Rips_panel_19 ⟨Nat.le_of_ble_eq_true rfl, Nat.le_of_ble_eq_true rfl⟩) (hout 19) hlocks (fun x9 st9 t9 U9 h1 h2 h3 h4 _ => QT_out h1 h2 h3 h4) (fun q h => by cases h) (fun q h => h)
  · exact W.outT (runST (As := [.long (iL wz), .long (iL 1), .long (iL 100)]) (rest := []) ⟨hx, hb, hml, hown, hts⟩ (t_checkRange l hlt G ty wz 1 100 (by omega) (by omega) (by omega) (by omega)) ⟨callB_of 3 hts (gd_TB cd_Rips_checkRange) rfl rfl rfl (hts _ ini_Rips) (hts _ lk_Rips_108) hd_Rips_checkRange ⟨Nat.le_of_ble_eq_true rfl, Nat.le_of_ble_eq_true rfl⟩, hts _ st_Rips_checkRange⟩ (preS_th P_nil hX hZ) rfl rfl hl.1 rfl (lv_room (Nat.le_of_ble_eq_true rfl)) d_Rips_panel_10 ⟨Nat.le_of_ble_eq_true rfl, Nat.le_of_ble_eq_true rfl⟩) (hout 10) hlocks (fun x9 st9 t9 U9 h1 h2 h3 h4 _ => QT_out h1 h2 h3 h4) (fun q h => by cases h) (fun q h => h)

set_option maxRecDepth 100000 in
set_option maxHeartbeats 4000000 in
theorem t_faultI (l : Launch) (hlt : l.stackTraces = false) (G : va_G) (ty : Nat → ClassId) (hF : Nat) (hB : Nat) (hT : Nat) (hG : Nat) (hC : Nat) (hQ : Nat) (hO : Nat) (hV : Nat) (hN : Nat) (wy : Nat) (sg_ : Nat) (md : Nat) (bd : Int) (aF : Nat) (aX : Nat) (aY : Nat) (st : Nat) (wd : Nat) (al : Nat) (nf : Nat) (mg : Nat) (fc : Int) (kd : Int) (x : Int) (y : Int) (w : Int) (h : Int) (rfc : -2147483648 ≤ fc ∧ fc ≤ 2147483647) (rkd : -2147483648 ≤ kd ∧ kd ≤ 2147483647) (rx : -2147483648 ≤ x ∧ x ≤ 2147483647) (ry : -2147483648 ≤ y ∧ y ≤ 2147483647) (rw : -2147483648 ≤ w ∧ w ≤ 2147483647) (rh : -2147483648 ≤ h ∧ h ≤ 2147483647) (gx : ¬ (0 ≤ fc ∧ fc ≤ 1)) : MetT l y_Rips_fault ws_Rips_fault { frames := 7, cells := 1, slots := 6, locals := 121 } (va_Pc [.ref hF, .int (iI fc), .int (iI kd), .int (iI x), .int (iI y), .int (iI w), .int (iI h)] (fun U => va_P G vwCl [(hF, .inr (9, [.ref hB, .ref hT, .ref hG, .ref hC, .ref hQ, .ref hO, .ref hV, .ref hN, .int (nI wy), .int (nI sg_), .int (nI md), .long (iL bd)])), (hB, .inr (0, [.int (nI st), .int (nI wd), .int (nI al), .ref aF, .int (nI nf), .int (nI mg), .ref aX, .ref aY]))] U.heap ∧ KX G ty U ∧ ZS U)) (QT xI) 1 6 (fun _ => False) := by
  refine met_th R_Rips (by decide) rfl rfl (Nat.le_of_ble_eq_true rfl) ?_
  intro p e s m below meth c ls hx hb hml hown hts hlocks hout hP hX hZ hl
  have hK := hX.1
  have hl : lv_has ls 7 [(0, .ref hF), (1, .int (iI fc)), (2, .int (iI kd)), (3, .int (iI x)), (4, .int (iI y)), (5, .int (iI w)), (6, .int (iI h))] := hl
  refine lv_iload_n hx hb d_Rips_fault_0 rfl (lv_at hl 1 rfl) ?_
  refine lv_iconst (v := (nI 2)) hx hb d_Rips_fault_1 (by decide) ?_
  exact W.outT (runST (As := [.int (iI fc), .int (nI 2)]) (rest := []) ⟨hx, hb, hml, hown, hts⟩ (t_checkIndex l hlt G ty fc 2 (by omega) (by omega) (by omega)) ⟨callB_of 2 hts (gd_TB cd_Rips_checkIndex) rfl rfl rfl (hts _ ini_Rips) (hts _ lk_Rips_92) hd_Rips_checkIndex ⟨Nat.le_of_ble_eq_true rfl, Nat.le_of_ble_eq_true rfl⟩, hts _ st_Rips_checkIndex⟩ (preS_th P_nil hX hZ) rfl rfl hl.1 rfl (lv_room (Nat.le_of_ble_eq_true rfl)) d_Rips_fault_2 ⟨Nat.le_of_ble_eq_true rfl, Nat.le_of_ble_eq_true rfl⟩) (hout 2) hlocks (fun x9 st9 t9 U9 h1 h2 h3 h4 _ => QT_out h1 h2 h3 h4) (fun q h => by cases h) (fun q h => h)

set_option maxRecDepth 100000 in
set_option maxHeartbeats 4000000 in
theorem t_faultS (l : Launch) (hlt : l.stackTraces = false) (G : va_G) (ty : Nat → ClassId) (hF : Nat) (hB : Nat) (hT : Nat) (hG : Nat) (hC : Nat) (hQ : Nat) (hO : Nat) (hV : Nat) (hN : Nat) (wy : Nat) (sg_ : Nat) (md : Nat) (bd : Int) (aF : Nat) (aX : Nat) (aY : Nat) (st : Nat) (wd : Nat) (al : Nat) (nf : Nat) (mg : Nat) (fc : Int) (kd : Int) (x : Int) (y : Int) (w : Int) (h : Int) (rfc : -2147483648 ≤ fc ∧ fc ≤ 2147483647) (rkd : -2147483648 ≤ kd ∧ kd ≤ 2147483647) (rx : -2147483648 ≤ x ∧ x ≤ 2147483647) (ry : -2147483648 ≤ y ∧ y ≤ 2147483647) (rw : -2147483648 ≤ w ∧ w ≤ 2147483647) (rh : -2147483648 ≤ h ∧ h ≤ 2147483647) (gfc : 0 ≤ fc ∧ fc ≤ 1) (gn : nf ≤ 20) (gx : nf = 20) : MetT l y_Rips_fault ws_Rips_fault { frames := 6, cells := 1, slots := 6, locals := 100 } (va_Pc [.ref hF, .int (iI fc), .int (iI kd), .int (iI x), .int (iI y), .int (iI w), .int (iI h)] (fun U => va_P G vwCl [(hF, .inr (9, [.ref hB, .ref hT, .ref hG, .ref hC, .ref hQ, .ref hO, .ref hV, .ref hN, .int (nI wy), .int (nI sg_), .int (nI md), .long (iL bd)])), (hB, .inr (0, [.int (nI st), .int (nI wd), .int (nI al), .ref aF, .int (nI nf), .int (nI mg), .ref aX, .ref aY]))] U.heap ∧ KX G ty U ∧ ZS U)) (QT xS) 1 6 (fun _ => False) := by
  refine met_th R_Rips (by decide) rfl rfl (Nat.le_of_ble_eq_true rfl) ?_
  intro p e s m below meth c ls hx hb hml hown hts hlocks hout hP hX hZ hl
  have hK := hX.1
  have hl : lv_has ls 7 [(0, .ref hF), (1, .int (iI fc)), (2, .int (iI kd)), (3, .int (iI x)), (4, .int (iI y)), (5, .int (iI w)), (6, .int (iI h))] := hl
  refine lv_iload_n hx hb d_Rips_fault_0 rfl (lv_at hl 1 rfl) ?_
  refine lv_iconst (v := (nI 2)) hx hb d_Rips_fault_1 (by decide) ?_
  refine va_csv (W.runS (As := [.int (iI fc), .int (nI 2)]) (rest := []) ⟨hx, hb, hml, hown, hts⟩ (c_Rips_checkIndex l G ty fc 2 (by omega) (by omega)) ⟨callB_of 2 hts (gd_TB cd_Rips_checkIndex) rfl rfl rfl (hts _ ini_Rips) (hts _ lk_Rips_92) hd_Rips_checkIndex ⟨Nat.le_of_ble_eq_true rfl, Nat.le_of_ble_eq_true rfl⟩, hts _ st_Rips_checkIndex⟩ (preS_ro (hP.sub (ws' := []) [] rfl) hX) rfl rfl hl.1 rfl (lv_room (Nat.le_of_ble_eq_true rfl)) d_Rips_fault_2 ⟨Nat.le_of_ble_eq_true rfl, Nat.le_of_ble_eq_true rfl⟩) (fun _ => ?_)
  refine lv_aload_n hx hb d_Rips_fault_5 rfl (lv_at hl 0 rfl) ?_
  refine va_get (D := G) (ci := 9) (v := .ref hB) (C := R_Rips) (T := F_Rips) (N := 12) hx hb hts in_Rips hown hK hP 0 rfl rfl 0 (by decide) (hts _ fl_Rips_33) (fun _ h9 => h9) rfl d_Rips_fault_6 ?_
  refine va_get (D := G) (ci := 0) (v := .int (nI nf)) (C := R_Board) (T := F_Board) (N := 8) hx hb hts in_Board hown hK hP 1 rfl rfl 4 (by decide) (hts _ fl_Rips_96) (fun _ h9 => h9) rfl d_Rips_fault_9 ?_
  refine lv_bipush (v := (nI 20)) hx hb d_Rips_fault_12 (by decide) ?_
  refine n_icmp_lt (tgt := 27) hx hb (by omega) (by omega) d_Rips_fault_14 (by decide) (fun c14 => absurd c14 (by omega)) (fun c14 => ?_)
  exact thr_site (tx := "there are 20 faults") hx hb hml hl.1 hown hts hX hZ hlt hlocks (hout 26) at_xS (by decide +kernel) cl_Rips_99 ini_xS (by decide) d_Rips_fault_17 d_Rips_fault_20 (Or.inl ⟨d_Rips_fault_21, rfl⟩) d_Rips_fault_23 d_Rips_fault_26 ⟨Nat.le_of_ble_eq_true rfl, Nat.le_of_ble_eq_true rfl, Nat.le_of_ble_eq_true rfl, Nat.le_of_ble_eq_true rfl⟩

set_option maxRecDepth 100000 in
set_option maxHeartbeats 4000000 in
theorem t_faultA (l : Launch) (hlt : l.stackTraces = false) (G : va_G) (ty : Nat → ClassId) (hF : Nat) (hB : Nat) (hT : Nat) (hG : Nat) (hC : Nat) (hQ : Nat) (hO : Nat) (hV : Nat) (hN : Nat) (wy : Nat) (sg_ : Nat) (md : Nat) (bd : Int) (aF : Nat) (aX : Nat) (aY : Nat) (st : Nat) (wd : Nat) (al : Nat) (nf : Nat) (mg : Nat) (fc : Int) (kd : Int) (x : Int) (y : Int) (w : Int) (h : Int) (rfc : -2147483648 ≤ fc ∧ fc ≤ 2147483647) (rkd : -2147483648 ≤ kd ∧ kd ≤ 2147483647) (rx : -2147483648 ≤ x ∧ x ≤ 2147483647) (ry : -2147483648 ≤ y ∧ y ≤ 2147483647) (rw : -2147483648 ≤ w ∧ w ≤ 2147483647) (rh : -2147483648 ≤ h ∧ h ≤ 2147483647) (gfc : 0 ≤ fc ∧ fc ≤ 1) (gn : nf < 20) (gx : ¬ ((0 ≤ kd ∧ kd ≤ 7) ∧ (-65536 ≤ x ∧ x ≤ 65536) ∧ (-65536 ≤ y ∧ y ≤ 65536) ∧ (0 ≤ w ∧ w ≤ 65536) ∧ (0 ≤ h ∧ h ≤ 65536))) : MetT l y_Rips_fault ws_Rips_fault { frames := 7, cells := 1, slots := 6, locals := 125 } (va_Pc [.ref hF, .int (iI fc), .int (iI kd), .int (iI x), .int (iI y), .int (iI w), .int (iI h)] (fun U => va_P G vwCl [(hF, .inr (9, [.ref hB, .ref hT, .ref hG, .ref hC, .ref hQ, .ref hO, .ref hV, .ref hN, .int (nI wy), .int (nI sg_), .int (nI md), .long (iL bd)])), (hB, .inr (0, [.int (nI st), .int (nI wd), .int (nI al), .ref aF, .int (nI nf), .int (nI mg), .ref aX, .ref aY]))] U.heap ∧ KX G ty U ∧ ZS U)) (QT xA) 1 6 (fun _ => False) := by
  refine met_th R_Rips (by decide) rfl rfl (Nat.le_of_ble_eq_true rfl) ?_
  intro p e s m below meth c ls hx hb hml hown hts hlocks hout hP hX hZ hl
  have hK := hX.1
  have hl : lv_has ls 7 [(0, .ref hF), (1, .int (iI fc)), (2, .int (iI kd)), (3, .int (iI x)), (4, .int (iI y)), (5, .int (iI w)), (6, .int (iI h))] := hl
  refine lv_iload_n hx hb d_Rips_fault_0 rfl (lv_at hl 1 rfl) ?_
  refine lv_iconst (v := (nI 2)) hx hb d_Rips_fault_1 (by decide) ?_
  refine va_csv (W.runS (As := [.int (iI fc), .int (nI 2)]) (rest := []) ⟨hx, hb, hml, hown, hts⟩ (c_Rips_checkIndex l G ty fc 2 (by omega) (by omega)) ⟨callB_of 2 hts (gd_TB cd_Rips_checkIndex) rfl rfl rfl (hts _ ini_Rips) (hts _ lk_Rips_92) hd_Rips_checkIndex ⟨Nat.le_of_ble_eq_true rfl, Nat.le_of_ble_eq_true rfl⟩, hts _ st_Rips_checkIndex⟩ (preS_ro (hP.sub (ws' := []) [] rfl) hX) rfl rfl hl.1 rfl (lv_room (Nat.le_of_ble_eq_true rfl)) d_Rips_fault_2 ⟨Nat.le_of_ble_eq_true rfl, Nat.le_of_ble_eq_true rfl⟩) (fun _ => ?_)
  refine lv_aload_n hx hb d_Rips_fault_5 rfl (lv_at hl 0 rfl) ?_
  refine va_get (D := G) (ci := 9) (v := .ref hB) (C := R_Rips) (T := F_Rips) (N := 12) hx hb hts in_Rips hown hK hP 0 rfl rfl 0 (by decide) (hts _ fl_Rips_33) (fun _ h9 => h9) rfl d_Rips_fault_6 ?_
  refine va_get (D := G) (ci := 0) (v := .int (nI nf)) (C := R_Board) (T := F_Board) (N := 8) hx hb hts in_Board hown hK hP 1 rfl rfl 4 (by decide) (hts _ fl_Rips_96) (fun _ h9 => h9) rfl d_Rips_fault_9 ?_
  refine lv_bipush (v := (nI 20)) hx hb d_Rips_fault_12 (by decide) ?_
  refine n_icmp_lt (tgt := 27) hx hb (by omega) (by omega) d_Rips_fault_14 (by decide) (fun c14 => ?_) (fun c14 => absurd c14 (by omega))
  refine lv_iload_n hx hb d_Rips_fault_27 rfl (lv_at hl 2 rfl) ?_
  refine z_i2l hx hb (by omega) d_Rips_fault_28 ?_
  refine lv_lconst (v := iL 0) hx hb d_Rips_fault_29 (by decide) ?_
  refine lv_ldc2 (v := (iL 7)) hx hb hown (hts _ kc_Rips_106) d_Rips_fault_30 ?_
  by_cases q33 : 0 ≤ kd ∧ kd ≤ 7
  · refine va_csv (W.runS (As := [.long (iL kd), .long (iL 0), .long (iL 7)]) (rest := []) ⟨hx, hb, hml, hown, hts⟩ (c_Rips_checkRange l G ty kd 0 7 (by omega) (by omega) (by omega)) ⟨callB_of 3 hts (gd_TB cd_Rips_checkRange) rfl rfl rfl (hts _ ini_Rips) (hts _ lk_Rips_108) hd_Rips_checkRange ⟨Nat.le_of_ble_eq_true rfl, Nat.le_of_ble_eq_true rfl⟩, hts _ st_Rips_checkRange⟩ (preS_ro (hP.sub (ws' := []) [] rfl) hX) rfl rfl hl.1 rfl (lv_room (Nat.le_of_ble_eq_true rfl)) d_Rips_fault_33 ⟨Nat.le_of_ble_eq_true rfl, Nat.le_of_ble_eq_true rfl⟩) (fun _ => ?_)
    refine lv_iload_n hx hb d_Rips_fault_36 rfl (lv_at hl 3 rfl) ?_
    refine z_i2l hx hb (by omega) d_Rips_fault_37 ?_
    refine lv_ldc2 (v := (iL (-65536))) hx hb hown (hts _ kc_Rips_112) d_Rips_fault_38 ?_
    refine lv_ldc2 (v := (iL 65536)) hx hb hown (hts _ kc_Rips_114) d_Rips_fault_41 ?_
    by_cases q44 : (-65536) ≤ x ∧ x ≤ 65536
    · refine va_csv (W.runS (As := [.long (iL x), .long (iL (-65536)), .long (iL 65536)]) (rest := []) ⟨hx, hb, hml, hown, hts⟩ (c_Rips_checkRange l G ty x (-65536) 65536 (by omega) (by omega) (by omega)) ⟨callB_of 3 hts (gd_TB cd_Rips_checkRange) rfl rfl rfl (hts _ ini_Rips) (hts _ lk_Rips_108) hd_Rips_checkRange ⟨Nat.le_of_ble_eq_true rfl, Nat.le_of_ble_eq_true rfl⟩, hts _ st_Rips_checkRange⟩ (preS_ro (hP.sub (ws' := []) [] rfl) hX) rfl rfl hl.1 rfl (lv_room (Nat.le_of_ble_eq_true rfl)) d_Rips_fault_44 ⟨Nat.le_of_ble_eq_true rfl, Nat.le_of_ble_eq_true rfl⟩) (fun _ => ?_)
      refine lv_iload hx hb d_Rips_fault_47 (lv_at hl 4 rfl) ?_
      refine z_i2l hx hb (by omega) d_Rips_fault_49 ?_
      refine lv_ldc2 (v := (iL (-65536))) hx hb hown (hts _ kc_Rips_112) d_Rips_fault_50 ?_
      refine lv_ldc2 (v := (iL 65536)) hx hb hown (hts _ kc_Rips_114) d_Rips_fault_53 ?_
      by_cases q56 : (-65536) ≤ y ∧ y ≤ 65536
      · refine va_csv (W.runS (As := [.long (iL y), .long (iL (-65536)), .long (iL 65536)]) (rest := []) ⟨hx, hb, hml, hown, hts⟩ (c_Rips_checkRange l G ty y (-65536) 65536 (by omega) (by omega) (by omega)) ⟨callB_of 3 hts (gd_TB cd_Rips_checkRange) rfl rfl rfl (hts _ ini_Rips) (hts _ lk_Rips_108) hd_Rips_checkRange ⟨Nat.le_of_ble_eq_true rfl, Nat.le_of_ble_eq_true rfl⟩, hts _ st_Rips_checkRange⟩ (preS_ro (hP.sub (ws' := []) [] rfl) hX) rfl rfl hl.1 rfl (lv_room (Nat.le_of_ble_eq_true rfl)) d_Rips_fault_56 ⟨Nat.le_of_ble_eq_true rfl, Nat.le_of_ble_eq_true rfl⟩) (fun _ => ?_)
        refine lv_iload hx hb d_Rips_fault_59 (lv_at hl 5 rfl) ?_
        refine z_i2l hx hb (by omega) d_Rips_fault_61 ?_
        refine lv_lconst (v := iL 0) hx hb d_Rips_fault_62 (by decide) ?_
        refine lv_ldc2 (v := (iL 65536)) hx hb hown (hts _ kc_Rips_114) d_Rips_fault_63 ?_
        by_cases q66 : 0 ≤ w ∧ w ≤ 65536
        · refine va_csv (W.runS (As := [.long (iL w), .long (iL 0), .long (iL 65536)]) (rest := []) ⟨hx, hb, hml, hown, hts⟩ (c_Rips_checkRange l G ty w 0 65536 (by omega) (by omega) (by omega)) ⟨callB_of 3 hts (gd_TB cd_Rips_checkRange) rfl rfl rfl (hts _ ini_Rips) (hts _ lk_Rips_108) hd_Rips_checkRange ⟨Nat.le_of_ble_eq_true rfl, Nat.le_of_ble_eq_true rfl⟩, hts _ st_Rips_checkRange⟩ (preS_ro (hP.sub (ws' := []) [] rfl) hX) rfl rfl hl.1 rfl (lv_room (Nat.le_of_ble_eq_true rfl)) d_Rips_fault_66 ⟨Nat.le_of_ble_eq_true rfl, Nat.le_of_ble_eq_true rfl⟩) (fun _ => ?_)
          refine lv_iload hx hb d_Rips_fault_69 (lv_at hl 6 rfl) ?_
          refine z_i2l hx hb (by omega) d_Rips_fault_71 ?_
          refine lv_lconst (v := iL 0) hx hb d_Rips_fault_72 (by decide) ?_
          refine lv_ldc2 (v := (iL 65536)) hx hb hown (hts _ kc_Rips_114) d_Rips_fault_73 ?_
          exact W.outT (runST (As := [.long (iL h), .long (iL 0), .long (iL 65536)]) (rest := []) ⟨hx, hb, hml, hown, hts⟩ (t_checkRange l hlt G ty h 0 65536 (by omega) (by omega) (by omega) (by omega)) ⟨callB_of 3 hts (gd_TB cd_Rips_checkRange) rfl rfl rfl (hts _ ini_Rips) (hts _ lk_Rips_108) hd_Rips_checkRange ⟨Nat.le_of_ble_eq_true rfl, Nat.le_of_ble_eq_true rfl⟩, hts _ st_Rips_checkRange⟩ (preS_th P_nil hX hZ) rfl rfl hl.1 rfl (lv_room (Nat.le_of_ble_eq_true rfl)) d_Rips_fault_76 ⟨Nat.le_of_ble_eq_true rfl, Nat.le_of_ble_eq_true rfl⟩) (hout 76) hlocks (fun x9 st9 t9 U9 h1 h2 h3 h4 _ => QT_out h1 h2 h3 h4) (fun q h => by cases h) (fun q h => h)
        · exact W.outT (runST (As := [.long (iL w), .long (iL 0), .long (iL 65536)]) (rest := []) ⟨hx, hb, hml, hown, hts⟩ (t_checkRange l hlt G ty w 0 65536 (by omega) (by omega) (by omega) (by omega)) ⟨callB_of 3 hts (gd_TB cd_Rips_checkRange) rfl rfl rfl (hts _ ini_Rips) (hts _ lk_Rips_108) hd_Rips_checkRange ⟨Nat.le_of_ble_eq_true rfl, Nat.le_of_ble_eq_true rfl⟩, hts _ st_Rips_checkRange⟩ (preS_th P_nil hX hZ) rfl rfl hl.1 rfl (lv_room (Nat.le_of_ble_eq_true rfl)) d_Rips_fault_66 ⟨Nat.le_of_ble_eq_true rfl, Nat.le_of_ble_eq_true rfl⟩) (hout 66) hlocks (fun x9 st9 t9 U9 h1 h2 h3 h4 _ => QT_out h1 h2 h3 h4) (fun q h => by cases h) (fun q h => h)
      · exact W.outT (runST (As := [.long (iL y), .long (iL (-65536)), .long (iL 65536)]) (rest := []) ⟨hx, hb, hml, hown, hts⟩ (t_checkRange l hlt G ty y (-65536) 65536 (by omega) (by omega) (by omega) (by omega)) ⟨callB_of 3 hts (gd_TB cd_Rips_checkRange) rfl rfl rfl (hts _ ini_Rips) (hts _ lk_Rips_108) hd_Rips_checkRange ⟨Nat.le_of_ble_eq_true rfl, Nat.le_of_ble_eq_true rfl⟩, hts _ st_Rips_checkRange⟩ (preS_th P_nil hX hZ) rfl rfl hl.1 rfl (lv_room (Nat.le_of_ble_eq_true rfl)) d_Rips_fault_56 ⟨Nat.le_of_ble_eq_true rfl, Nat.le_of_ble_eq_true rfl⟩) (hout 56) hlocks (fun x9 st9 t9 U9 h1 h2 h3 h4 _ => QT_out h1 h2 h3 h4) (fun q h => by cases h) (fun q h => h)
    · exact W.outT (runST (As := [.long (iL x), .long (iL (-65536)), .long (iL 65536)]) (rest := []) ⟨hx, hb, hml, hown, hts⟩ (t_checkRange l hlt G ty x (-65536) 65536 (by omega) (by omega) (by omega) (by omega)) ⟨callB_of 3 hts (gd_TB cd_Rips_checkRange) rfl rfl rfl (hts _ ini_Rips) (hts _ lk_Rips_108) hd_Rips_checkRange ⟨Nat.le_of_ble_eq_true rfl, Nat.le_of_ble_eq_true rfl⟩, hts _ st_Rips_checkRange⟩ (preS_th P_nil hX hZ) rfl rfl hl.1 rfl (lv_room (Nat.le_of_ble_eq_true rfl)) d_Rips_fault_44 ⟨Nat.le_of_ble_eq_true rfl, Nat.le_of_ble_eq_true rfl⟩) (hout 44) hlocks (fun x9 st9 t9 U9 h1 h2 h3 h4 _ => QT_out h1 h2 h3 h4) (fun q h => by cases h) (fun q h => h)
  · exact W.outT (runST (As := [.long (iL kd), .long (iL 0), .long (iL 7)]) (rest := []) ⟨hx, hb, hml, hown, hts⟩ (t_checkRange l hlt G ty kd 0 7 (by omega) (by omega) (by omega) (by omega)) ⟨callB_of 3 hts (gd_TB cd_Rips_checkRange) rfl rfl rfl (hts _ ini_Rips) (hts _ lk_Rips_108) hd_Rips_checkRange ⟨Nat.le_of_ble_eq_true rfl, Nat.le_of_ble_eq_true rfl⟩, hts _ st_Rips_checkRange⟩ (preS_th P_nil hX hZ) rfl rfl hl.1 rfl (lv_room (Nat.le_of_ble_eq_true rfl)) d_Rips_fault_33 ⟨Nat.le_of_ble_eq_true rfl, Nat.le_of_ble_eq_true rfl⟩) (hout 33) hlocks (fun x9 st9 t9 U9 h1 h2 h3 h4 _ => QT_out h1 h2 h3 h4) (fun q h => by cases h) (fun q h => h)

set_option maxRecDepth 100000 in
set_option maxHeartbeats 4000000 in
theorem t_pieceS (l : Launch) (hlt : l.stackTraces = false) (G : va_G) (ty : Nat → ClassId) (hF : Nat) (hB : Nat) (hT : Nat) (hG : Nat) (hC : Nat) (hQ : Nat) (hO : Nat) (hV : Nat) (hN : Nat) (wy : Nat) (sg_ : Nat) (md : Nat) (bd : Int) (aT : Nat) (ns : Nat) (bw : Nat) (wi : Int) (lz : Int) (hz : Int) (wt : Int) (rwi : -2147483648 ≤ wi ∧ wi ≤ 2147483647) (rlz : -2147483648 ≤ lz ∧ lz ≤ 2147483647) (rhz : -2147483648 ≤ hz ∧ hz ≤ 2147483647) (rwt : -9223372036854775808 ≤ wt ∧ wt ≤ 9223372036854775807) (gx : ns = 8) : MetT l y_Rips_piece ws_Rips_piece { frames := 6, cells := 1, slots := 6, locals := 100 } (va_Pc [.ref hF, .int (iI wi), .int (iI lz), .int (iI hz), .long (iL wt)] (fun U => va_P G vwCl [(hF, .inr (9, [.ref hB, .ref hT, .ref hG, .ref hC, .ref hQ, .ref hO, .ref hV, .ref hN, .int (nI wy), .int (nI sg_), .int (nI md), .long (iL bd)])), (hT, .inr (8, [.ref aT, .int (nI ns), .int (nI bw), .ref hB]))] U.heap ∧ KX G ty U ∧ ZS U)) (QT xS) 1 6 (fun _ => False) := by
  refine met_th R_Rips (by decide) rfl rfl (Nat.le_of_ble_eq_true rfl) ?_
  intro p e s m below meth c ls hx hb hml hown hts hlocks hout hP hX hZ hl
  have hK := hX.1
  have hl : lv_has ls 6 [(0, .ref hF), (1, .int (iI wi)), (2, .int (iI lz)), (3, .int (iI hz)), (4, .long (iL wt))] := hl
  refine lv_aload_n hx hb d_Rips_piece_0 rfl (lv_at hl 0 rfl) ?_
  refine va_get (D := G) (ci := 9) (v := .ref hT) (C := R_Rips) (T := F_Rips) (N := 12) hx hb hts in_Rips hown hK hP 0 rfl rfl 1 (by decide) (hts _ fl_Rips_42) (fun _ h9 => h9) rfl d_Rips_piece_1 ?_
  refine va_get (D := G) (ci := 8) (v := .int (nI ns)) (C := R_Sorts) (T := F_Sorts) (N := 4) hx hb hts in_Sorts hown hK hP 1 rfl rfl 1 (by decide) (hts _ fl_Rips_125) (fun _ h9 => h9) rfl d_Rips_piece_4 ?_
  refine lv_bipush (v := (nI 8)) hx hb d_Rips_piece_7 (by decide) ?_
  refine n_icmp_lt (tgt := 22) hx hb (by omega) (by omega) d_Rips_piece_9 (by decide) (fun c9 => absurd c9 (by omega)) (fun c9 => ?_)
  exact thr_site (tx := "there are 8 pieces") hx hb hml hl.1 hown hts hX hZ hlt hlocks (hout 21) at_xS (by decide +kernel) cl_Rips_99 ini_xS (by decide) d_Rips_piece_12 d_Rips_piece_15 (Or.inl ⟨d_Rips_piece_16, rfl⟩) d_Rips_piece_18 d_Rips_piece_21 ⟨Nat.le_of_ble_eq_true rfl, Nat.le_of_ble_eq_true rfl, Nat.le_of_ble_eq_true rfl, Nat.le_of_ble_eq_true rfl⟩

set_option maxRecDepth 100000 in
set_option maxHeartbeats 4000000 in
theorem t_pieceA (l : Launch) (hlt : l.stackTraces = false) (G : va_G) (ty : Nat → ClassId) (hF : Nat) (hB : Nat) (hT : Nat) (hG : Nat) (hC : Nat) (hQ : Nat) (hO : Nat) (hV : Nat) (hN : Nat) (wy : Nat) (sg_ : Nat) (md : Nat) (bd : Int) (aT : Nat) (ns : Nat) (bw : Nat) (wi : Int) (lz : Int) (hz : Int) (wt : Int) (rwi : -2147483648 ≤ wi ∧ wi ≤ 2147483647) (rlz : -2147483648 ≤ lz ∧ lz ≤ 2147483647) (rhz : -2147483648 ≤ hz ∧ hz ≤ 2147483647) (rwt : -9223372036854775808 ≤ wt ∧ wt ≤ 9223372036854775807) (gn : ns < 8) (gx : ¬ ((1 ≤ wi ∧ wi ≤ 65536) ∧ (1 ≤ lz ∧ lz ≤ 65536) ∧ (lz ≤ hz ∧ hz ≤ 65536) ∧ (1 ≤ wt ∧ wt ≤ 100000))) : MetT l y_Rips_piece ws_Rips_piece { frames := 7, cells := 1, slots := 6, locals := 125 } (va_Pc [.ref hF, .int (iI wi), .int (iI lz), .int (iI hz), .long (iL wt)] (fun U => va_P G vwCl [(hF, .inr (9, [.ref hB, .ref hT, .ref hG, .ref hC, .ref hQ, .ref hO, .ref hV, .ref hN, .int (nI wy), .int (nI sg_), .int (nI md), .long (iL bd)])), (hT, .inr (8, [.ref aT, .int (nI ns), .int (nI bw), .ref hB]))] U.heap ∧ KX G ty U ∧ ZS U)) (QT xA) 1 6 (fun _ => False) := by
  refine met_th R_Rips (by decide) rfl rfl (Nat.le_of_ble_eq_true rfl) ?_
  intro p e s m below meth c ls hx hb hml hown hts hlocks hout hP hX hZ hl
  have hK := hX.1
  have hl : lv_has ls 6 [(0, .ref hF), (1, .int (iI wi)), (2, .int (iI lz)), (3, .int (iI hz)), (4, .long (iL wt))] := hl
  refine lv_aload_n hx hb d_Rips_piece_0 rfl (lv_at hl 0 rfl) ?_
  refine va_get (D := G) (ci := 9) (v := .ref hT) (C := R_Rips) (T := F_Rips) (N := 12) hx hb hts in_Rips hown hK hP 0 rfl rfl 1 (by decide) (hts _ fl_Rips_42) (fun _ h9 => h9) rfl d_Rips_piece_1 ?_
  refine va_get (D := G) (ci := 8) (v := .int (nI ns)) (C := R_Sorts) (T := F_Sorts) (N := 4) hx hb hts in_Sorts hown hK hP 1 rfl rfl 1 (by decide) (hts _ fl_Rips_125) (fun _ h9 => h9) rfl d_Rips_piece_4 ?_
  refine lv_bipush (v := (nI 8)) hx hb d_Rips_piece_7 (by decide) ?_
  refine n_icmp_lt (tgt := 22) hx hb (by omega) (by omega) d_Rips_piece_9 (by decide) (fun c9 => ?_) (fun c9 => absurd c9 (by omega))
  refine lv_iload_n hx hb d_Rips_piece_22 rfl (lv_at hl 1 rfl) ?_
  refine z_i2l hx hb (by omega) d_Rips_piece_23 ?_
  refine lv_lconst (v := iL 1) hx hb d_Rips_piece_24 (by decide) ?_
  refine lv_ldc2 (v := (iL 65536)) hx hb hown (hts _ kc_Rips_114) d_Rips_piece_25 ?_
  by_cases q28 : 1 ≤ wi ∧ wi ≤ 65536
  · refine va_csv (W.runS (As := [.long (iL wi), .long (iL 1), .long (iL 65536)]) (rest := []) ⟨hx, hb, hml, hown, hts⟩ (c_Rips_checkRange l G ty wi 1 65536 (by omega) (by omega) (by omega)) ⟨callB_of 3 hts (gd_TB cd_Rips_checkRange) rfl rfl rfl (hts _ ini_Rips) (hts _ lk_Rips_108) hd_Rips_checkRange ⟨Nat.le_of_ble_eq_true rfl, Nat.le_of_ble_eq_true rfl⟩, hts _ st_Rips_checkRange⟩ (preS_ro (hP.sub (ws' := []) [] rfl) hX) rfl rfl hl.1 rfl (lv_room (Nat.le_of_ble_eq_true rfl)) d_Rips_piece_28 ⟨Nat.le_of_ble_eq_true rfl, Nat.le_of_ble_eq_true rfl⟩) (fun _ => ?_)
    refine lv_iload_n hx hb d_Rips_piece_31 rfl (lv_at hl 2 rfl) ?_
    refine z_i2l hx hb (by omega) d_Rips_piece_32 ?_
    refine lv_lconst (v := iL 1) hx hb d_Rips_piece_33 (by decide) ?_
    refine lv_ldc2 (v := (iL 65536)) hx hb hown (hts _ kc_Rips_114) d_Rips_piece_34 ?_
    by_cases q37 : 1 ≤ lz ∧ lz ≤ 65536
    · refine va_csv (W.runS (As := [.long (iL lz), .long (iL 1), .long (iL 65536)]) (rest := []) ⟨hx, hb, hml, hown, hts⟩ (c_Rips_checkRange l G ty lz 1 65536 (by omega) (by omega) (by omega)) ⟨callB_of 3 hts (gd_TB cd_Rips_checkRange) rfl rfl rfl (hts _ ini_Rips) (hts _ lk_Rips_108) hd_Rips_checkRange ⟨Nat.le_of_ble_eq_true rfl, Nat.le_of_ble_eq_true rfl⟩, hts _ st_Rips_checkRange⟩ (preS_ro (hP.sub (ws' := []) [] rfl) hX) rfl rfl hl.1 rfl (lv_room (Nat.le_of_ble_eq_true rfl)) d_Rips_piece_37 ⟨Nat.le_of_ble_eq_true rfl, Nat.le_of_ble_eq_true rfl⟩) (fun _ => ?_)
      refine lv_iload_n hx hb d_Rips_piece_40 rfl (lv_at hl 3 rfl) ?_
      refine z_i2l hx hb (by omega) d_Rips_piece_41 ?_
      refine lv_iload_n hx hb d_Rips_piece_42 rfl (lv_at hl 2 rfl) ?_
      refine z_i2l hx hb (by omega) d_Rips_piece_43 ?_
      refine lv_ldc2 (v := (iL 65536)) hx hb hown (hts _ kc_Rips_114) d_Rips_piece_44 ?_
      by_cases q47 : lz ≤ hz ∧ hz ≤ 65536
      · refine va_csv (W.runS (As := [.long (iL hz), .long (iL lz), .long (iL 65536)]) (rest := []) ⟨hx, hb, hml, hown, hts⟩ (c_Rips_checkRange l G ty hz lz 65536 (by omega) (by omega) (by omega)) ⟨callB_of 3 hts (gd_TB cd_Rips_checkRange) rfl rfl rfl (hts _ ini_Rips) (hts _ lk_Rips_108) hd_Rips_checkRange ⟨Nat.le_of_ble_eq_true rfl, Nat.le_of_ble_eq_true rfl⟩, hts _ st_Rips_checkRange⟩ (preS_ro (hP.sub (ws' := []) [] rfl) hX) rfl rfl hl.1 rfl (lv_room (Nat.le_of_ble_eq_true rfl)) d_Rips_piece_47 ⟨Nat.le_of_ble_eq_true rfl, Nat.le_of_ble_eq_true rfl⟩) (fun _ => ?_)
        refine lv_lload hx hb d_Rips_piece_50 (lv_at hl 4 rfl) ?_
        refine lv_lconst (v := iL 1) hx hb d_Rips_piece_52 (by decide) ?_
        refine lv_ldc2 (v := (iL 100000)) hx hb hown (hts _ kc_Rips_130) d_Rips_piece_53 ?_
        exact W.outT (runST (As := [.long (iL wt), .long (iL 1), .long (iL 100000)]) (rest := []) ⟨hx, hb, hml, hown, hts⟩ (t_checkRange l hlt G ty wt 1 100000 (by omega) (by omega) (by omega) (by omega)) ⟨callB_of 3 hts (gd_TB cd_Rips_checkRange) rfl rfl rfl (hts _ ini_Rips) (hts _ lk_Rips_108) hd_Rips_checkRange ⟨Nat.le_of_ble_eq_true rfl, Nat.le_of_ble_eq_true rfl⟩, hts _ st_Rips_checkRange⟩ (preS_th P_nil hX hZ) rfl rfl hl.1 rfl (lv_room (Nat.le_of_ble_eq_true rfl)) d_Rips_piece_56 ⟨Nat.le_of_ble_eq_true rfl, Nat.le_of_ble_eq_true rfl⟩) (hout 56) hlocks (fun x9 st9 t9 U9 h1 h2 h3 h4 _ => QT_out h1 h2 h3 h4) (fun q h => by cases h) (fun q h => h)
      · exact W.outT (runST (As := [.long (iL hz), .long (iL lz), .long (iL 65536)]) (rest := []) ⟨hx, hb, hml, hown, hts⟩ (t_checkRange l hlt G ty hz lz 65536 (by omega) (by omega) (by omega) (by omega)) ⟨callB_of 3 hts (gd_TB cd_Rips_checkRange) rfl rfl rfl (hts _ ini_Rips) (hts _ lk_Rips_108) hd_Rips_checkRange ⟨Nat.le_of_ble_eq_true rfl, Nat.le_of_ble_eq_true rfl⟩, hts _ st_Rips_checkRange⟩ (preS_th P_nil hX hZ) rfl rfl hl.1 rfl (lv_room (Nat.le_of_ble_eq_true rfl)) d_Rips_piece_47 ⟨Nat.le_of_ble_eq_true rfl, Nat.le_of_ble_eq_true rfl⟩) (hout 47) hlocks (fun x9 st9 t9 U9 h1 h2 h3 h4 _ => QT_out h1 h2 h3 h4) (fun q h => by cases h) (fun q h => h)
    · exact W.outT (runST (As := [.long (iL lz), .long (iL 1), .long (iL 65536)]) (rest := []) ⟨hx, hb, hml, hown, hts⟩ (t_checkRange l hlt G ty lz 1 65536 (by omega) (by omega) (by omega) (by omega)) ⟨callB_of 3 hts (gd_TB cd_Rips_checkRange) rfl rfl rfl (hts _ ini_Rips) (hts _ lk_Rips_108) hd_Rips_checkRange ⟨Nat.le_of_ble_eq_true rfl, Nat.le_of_ble_eq_true rfl⟩, hts _ st_Rips_checkRange⟩ (preS_th P_nil hX hZ) rfl rfl hl.1 rfl (lv_room (Nat.le_of_ble_eq_true rfl)) d_Rips_piece_37 ⟨Nat.le_of_ble_eq_true rfl, Nat.le_of_ble_eq_true rfl⟩) (hout 37) hlocks (fun x9 st9 t9 U9 h1 h2 h3 h4 _ => QT_out h1 h2 h3 h4) (fun q h => by cases h) (fun q h => h)
  · exact W.outT (runST (As := [.long (iL wi), .long (iL 1), .long (iL 65536)]) (rest := []) ⟨hx, hb, hml, hown, hts⟩ (t_checkRange l hlt G ty wi 1 65536 (by omega) (by omega) (by omega) (by omega)) ⟨callB_of 3 hts (gd_TB cd_Rips_checkRange) rfl rfl rfl (hts _ ini_Rips) (hts _ lk_Rips_108) hd_Rips_checkRange ⟨Nat.le_of_ble_eq_true rfl, Nat.le_of_ble_eq_true rfl⟩, hts _ st_Rips_checkRange⟩ (preS_th P_nil hX hZ) rfl rfl hl.1 rfl (lv_room (Nat.le_of_ble_eq_true rfl)) d_Rips_piece_28 ⟨Nat.le_of_ble_eq_true rfl, Nat.le_of_ble_eq_true rfl⟩) (hout 28) hlocks (fun x9 st9 t9 U9 h1 h2 h3 h4 _ => QT_out h1 h2 h3 h4) (fun q h => by cases h) (fun q h => h)
