

/-- where the longest segment ends that the best can go on with; 0: none -/
def pck (seg : Nat → Nat → Int) (ok : Nat → Bool) (r : Nat → Int) (b : Nat) (best : Int) : Nat → Nat
  | 0 => 0
  | k + 1 => if 0 < seg b (b + 1 + k) ∧ seg b (b + 1 + k) + r (b + 1 + k) = best ∧ ok (k + 1) = true then b + 1 + k else pck seg ok r b best k
theorem pck_s (seg : Nat → Nat → Int) (ok : Nat → Bool) (r : Nat → Int) (b : Nat) (best : Int) (k : Nat) : pck seg ok r b best (k + 1) = if 0 < seg b (b + 1 + k) ∧ seg b (b + 1 + k) + r (b + 1 + k) = best ∧ ok (k + 1) = true then b + 1 + k else pck seg ok r b best k := rfl
def pkZ (k : Nat) : Int := if k = 0 then -1 else (k : Int)

abbrev q_segEnd1 (G : va_G) (ty : Nat → ClassId) (hC : Nat) (hB : Nat) (hT : Nat) (sA : Nat) (aZ : Nat) (aE : Nat) (tx : Nat) (tp : Nat) (tb : Int32) (ax : Nat) (ot : Nat) (b : Nat) (en : Nat) (nT : Nat) (nb : Nat) (fZ : Nat → Option Nat) (aL : Nat → Nat) (u : Nat → Int) (t : Nat → Int) (ob : Nat → Bool) : Array Value → State → Outcome → State → Prop := vp_Si (fun r : Int32 => r = (iI (pkZ (pck (sg u sA ax ot) (okc 1 tp ob) (fun z9 => dpV (sg u sA ax ot) (okc 1 tp ob) z9 en) b (dpV (sg u sA ax ot) (okc 1 tp ob) b en) (en - b)))))
set_option maxRecDepth 100000 in
set_option maxHeartbeats 4000000 in
theorem c_segEnd1 (l : Launch) (G : va_G) (ty : Nat → ClassId) (hC : Nat) (hB : Nat) (hT : Nat) (sA : Nat) (aZ : Nat) (aE : Nat) (tx : Nat) (tp : Nat) (tb : Int32) (ax : Nat) (ot : Nat) (b : Nat) (en : Nat) (nT : Nat) (nb : Nat) (fZ : Nat → Option Nat) (aL : Nat → Nat) (u : Nat → Int) (t : Nat → Int) (ob : Nat → Bool) (gl : ∀ i, i < 4 → fZ i = some (aL i)) (g1 : tx ≤ 1) (ga : ax = (if (tp - 1) % 2 = 0 then tx else 1 - tx)) (g2 : b < en) (g3 : en ≤ 24) (g4 : nT ≤ 100000) (g5 : tp ≤ 3) (g6 : nb ≤ 25) (g7 : 1 ≤ tp) (g9 : 1 < tp ∨ en < nb) (gb : tb = Mk ob nb) (gP : ∀ b n, b < n → n ≤ en → plc sA ax (n * (n - 1) / 2 + b) ot < nT) (gu : ∀ b n, b < n → n ≤ en → 0 ≤ (sg u sA ax ot) b n ∧ (sg u sA ax ot) b n ≤ 100000000000000) (gv : ∀ p, b ≤ p → p < en → t (plc sA ax (en * (en - 1) / 2 + p) ot) = dpV (sg u sA ax ot) (okc 1 tp ob) p en) : Met l y_Cutter_segmentEnd ws_Cutter_segmentEnd { frames := 2, cells := 0, slots := 0, locals := 44 } (va_Pc [.ref hC, .int (nI 1), .int (nI ot), .int (nI b), .int (nI en)] (fun U => va_P G vwCl [(hC, .inr (1, [.ref hB, .ref hT, .int (nI sA), .ref aZ, .ref aE, .int (nI tx), .int (nI tp), .int tb])), (aZ, .inl (ty 6, 4, .inr (.inr (.inr (.inr fZ))))), (aL 0, .inl (ty 1, nT, .inr (.inl (lF u)))), (aL 1, .inl (ty 1, nT, .inr (.inl (lF t))))] U.heap ∧ KX G ty U)) (q_segEnd1 G ty hC hB hT sA aZ aE tx tp tb ax ot b en nT nb fZ aL u t ob) 0 0 (fun _ => False) := by
  refine met_ro R_Cutter (by decide) rfl rfl (Nat.le_of_ble_eq_true rfl) ?_
  intro p e s m below meth c ls hx hb hr hml hown hts hlocks hP hX hl
  have hK := hX.1
  have hl : lv_has ls 15 [(0, .ref hC), (1, .int (nI 1)), (2, .int (nI ot)), (3, .int (nI b)), (4, .int (nI en))] := hl
  have hax : ax ≤ 1 := by rw [ga]; split <;> omega
  have hbt := gP b en g2 (Nat.le_refl _)
  have hvb := gv b (Nat.le_refl _) g2
  have hbb := dpV_b (ok := (okc 1 tp ob)) (Nat.le_of_lt g2) gu
  refine lv_aload_n hx hb d_Cutter_segmentEnd_0 rfl (lv_at hl 0 rfl) ?_
  refine lv_iload_n hx hb d_Cutter_segmentEnd_1 rfl (lv_at hl 1 rfl) ?_
  refine vp_callSi (W.runV (As := [.int (nI 1)]) (rest := []) ⟨hx, hb, hml, hown, hts⟩ (c_Cutter_axisOf l G ty hC hB hT sA aZ aE tx tp tb 1 (by omega) (by omega) (by omega)) ⟨callB_of 1 hts (gd_TB cd_Cutter_axisOf) rfl rfl rfl (hts _ ini_Cutter) (hts _ lk_Cutter_144) hd_Cutter_axisOf ⟨Nat.le_of_ble_eq_true rfl, Nat.le_of_ble_eq_true rfl⟩, hts _ im_Cutter_axisOf, hts _ sl_Cutter_axisOf⟩ (preV_ro (hP.sub (ws' := [(hC, .inr (1, [.ref hB, .ref hT, .int (nI sA), .ref aZ, .ref aE, .int (nI tx), .int (nI tp), .int tb]))]) [0] rfl) hX 0 rfl rfl) rfl rfl hl.1 rfl (lv_room (Nat.le_of_ble_eq_true rfl)) d_Cutter_segmentEnd_2 ⟨Nat.le_of_ble_eq_true rfl, Nat.le_of_ble_eq_true rfl⟩) (fun r9 er9 => ?_)
  subst er9
  refine top_i (show (nI (if (tp - 1) % 2 = 0 then tx else 1 - tx)) = (nI ax) from congrArg nI ga.symm) ?_
  refine lv_istore (lv' := [(5, .int (nI ax)), (0, .ref hC), (1, .int (nI 1)), (2, .int (nI ot)), (3, .int (nI b)), (4, .int (nI en))]) hx hb d_Cutter_segmentEnd_5 hl (by decide) rfl (fun ls hl => ?_)
  refine lv_aload_n hx hb d_Cutter_segmentEnd_7 rfl (lv_at hl 1 rfl) ?_
  refine va_get (D := G) (ci := 1) (v := .ref aZ) (C := R_Cutter) (T := F_Cutter) (N := 8) hx hb hts in_Cutter hown hK hP 0 rfl rfl 3 (by decide) (hts _ fl_Cutter_11) (fun _ h9 => h9) rfl d_Cutter_segmentEnd_8 ?_
  refine lv_iload_n hx hb d_Cutter_segmentEnd_11 rfl (lv_at hl 2 rfl) ?_
  refine lv_iconst (v := (nI 1)) hx hb d_Cutter_segmentEnd_12 (by decide) ?_
  refine n_isub hx hb (by omega) d_Cutter_segmentEnd_13 ?_
  refine top_i (show (nI (1 - 1)) = nI 0 from rfl) ?_
  refine n_aaldA hx hb hK hP 1 6 rfl rfl (by omega) (by omega) (gl 0 (by omega)) d_Cutter_segmentEnd_14 ?_
  refine lv_astore (lv' := [(6, .ref (aL 0)), (5, .int (nI ax)), (0, .ref hC), (1, .int (nI 1)), (2, .int (nI ot)), (3, .int (nI b)), (4, .int (nI en))]) hx hb d_Cutter_segmentEnd_15 hl (by decide) rfl (fun ls hl => ?_)
  refine lv_aload_n hx hb d_Cutter_segmentEnd_17 rfl (lv_at hl 2 rfl) ?_
  refine va_get (D := G) (ci := 1) (v := .ref aZ) (C := R_Cutter) (T := F_Cutter) (N := 8) hx hb hts in_Cutter hown hK hP 0 rfl rfl 3 (by decide) (hts _ fl_Cutter_11) (fun _ h9 => h9) rfl d_Cutter_segmentEnd_18 ?_
  refine lv_iload_n hx hb d_Cutter_segmentEnd_21 rfl (lv_at hl 3 rfl) ?_
  refine n_aaldA hx hb hK hP 1 6 rfl rfl (by omega) (by omega) (gl 1 (by omega)) d_Cutter_segmentEnd_22 ?_
  refine lv_astore (lv' := [(7, .ref (aL 1)), (6, .ref (aL 0)), (5, .int (nI ax)), (0, .ref hC), (1, .int (nI 1)), (2, .int (nI ot)), (3, .int (nI b)), (4, .int (nI en))]) hx hb d_Cutter_segmentEnd_23 hl (by decide) rfl (fun ls hl => ?_)
  refine lv_aload hx hb d_Cutter_segmentEnd_25 (lv_at hl 0 rfl) ?_
  refine lv_aload_n hx hb d_Cutter_segmentEnd_27 rfl (lv_at hl 3 rfl) ?_
  refine lv_iload hx hb d_Cutter_segmentEnd_28 (lv_at hl 2 rfl) ?_
  refine lv_iload_n hx hb d_Cutter_segmentEnd_30 rfl (lv_at hl 6 rfl) ?_
  refine lv_iload hx hb d_Cutter_segmentEnd_31 (lv_at hl 7 rfl) ?_
  refine nest_Rips_spanOf (G := G) (ty := ty) hx hb hml hown hts hX nst_Cutter_104 hl.1 (by omega) (by omega) (by omega) (lv_room (Nat.le_of_ble_eq_true rfl)) ⟨Nat.le_of_ble_eq_true rfl, Nat.le_of_ble_eq_true rfl⟩ ⟨Nat.le_of_ble_eq_true rfl, Nat.le_of_ble_eq_true rfl⟩ d_Cutter_segmentEnd_33 ?_
  refine lv_iload_n hx hb d_Cutter_segmentEnd_36 rfl (lv_at hl 5 rfl) ?_
  refine vp_callSi (W.runV (As := [.int (nI ax), .int (nI (en * (en - 1) / 2 + b)), .int (nI ot)]) (rest := [.ref (aL 1)]) ⟨hx, hb, hml, hown, hts⟩ (c_Cutter_placeOf l G ty hC hB hT sA aZ aE tx tp tb ax (en * (en - 1) / 2 + b) ot (by omega)) ⟨callB_of 3 hts (gd_TB cd_Cutter_placeOf) rfl rfl rfl (hts _ ini_Cutter) (hts _ lk_Cutter_154) hd_Cutter_placeOf ⟨Nat.le_of_ble_eq_true rfl, Nat.le_of_ble_eq_true rfl⟩, hts _ im_Cutter_placeOf, hts _ sl_Cutter_placeOf⟩ (preV_ro (hP.sub (ws' := [(hC, .inr (1, [.ref hB, .ref hT, .int (nI sA), .ref aZ, .ref aE, .int (nI tx), .int (nI tp), .int tb]))]) [0] rfl) hX 0 rfl rfl) rfl rfl hl.1 rfl (lv_room (Nat.le_of_ble_eq_true rfl)) d_Cutter_segmentEnd_37 ⟨Nat.le_of_ble_eq_true rfl, Nat.le_of_ble_eq_true rfl⟩) (fun r9 er9 => ?_)
  subst er9
  refine n_lald hx hb hK hP 3 1 rfl rfl (by omega) (by omega) d_Cutter_segmentEnd_40 ?_
  refine top_l (show (iL (t (plc sA ax (en * (en - 1) / 2 + b) ot))) = (iL (dpV (sg u sA ax ot) (okc 1 tp ob) b en)) from congrArg iL hvb) ?_
  refine lv_lstore (lv' := [(8, .long (iL (dpV (sg u sA ax ot) (okc 1 tp ob) b en))), (7, .ref (aL 1)), (6, .ref (aL 0)), (5, .int (nI ax)), (0, .ref hC), (1, .int (nI 1)), (2, .int (nI ot)), (3, .int (nI b)), (4, .int (nI en))]) hx hb d_Cutter_segmentEnd_41 hl (by decide) rfl (fun ls hl => ?_)
  refine lv_iload hx hb d_Cutter_segmentEnd_43 (lv_at hl 8 rfl) ?_
  refine top_i (show (nI en) = (nI (b + (en - b))) from congrArg nI (by omega)) ?_
  refine lv_istore (lv' := [(10, .int (nI (b + (en - b)))), (8, .long (iL (dpV (sg u sA ax ot) (okc 1 tp ob) b en))), (7, .ref (aL 1)), (6, .ref (aL 0)), (5, .int (nI ax)), (0, .ref hC), (1, .int (nI 1)), (2, .int (nI ot)), (3, .int (nI b)), (4, .int (nI en))]) hx hb d_Cutter_segmentEnd_45 hl (by decide) rfl (fun ls hl => ?_)
  have L47 : ∀ (k9 : Nat) (k : Nat) (ls : Array Slot), (b + k ≤ en) → (pck (sg u sA ax ot) (okc 1 tp ob) (fun z9 => dpV (sg u sA ax ot) (okc 1 tp ob) z9 en) b (dpV (sg u sA ax ot) (okc 1 tp ob) b en) (en - b) = pck (sg u sA ax ot) (okc 1 tp ob) (fun z9 => dpV (sg u sA ax ot) (okc 1 tp ob) z9 en) b (dpV (sg u sA ax ot) (okc 1 tp ob) b en) k) → k < k9 → lv_has ls 15 [(0, .ref hC), (1, .int (nI 1)), (2, .int (nI ot)), (3, .int (nI b)), (4, .int (nI en)), (5, .int (nI ax)), (6, .ref (aL 0)), (7, .ref (aL 1)), (8, .long (iL (dpV (sg u sA ax ot) (okc 1 tp ob) b en))), (10, .int (nI (b + k)))] → W p l e { frames := 2, cells := 0, slots := 0, locals := 44 } s m [.ref hC, .int (nI 1), .int (nI ot), .int (nI b), .int (nI en)].toArray below meth c s.heap [] 0 0 (MQ below (q_segEnd1 G ty hC hB hT sA aZ aE tx tp tb ax ot b en nT nb fZ aL u t ob) [.ref hC, .int (nI 1), .int (nI ot), .int (nI b), .int (nI en)].toArray s 0 0 (fun _ => False)) (F0 m 47 ls []) := by
    intro k9
    induction k9 with
    | zero => intro k ls hk0 hk1 hk9; exact absurd hk9 (Nat.not_lt_zero _)
    | succ k9 ih47 =>
      intro k ls hk0 hk1 hk9 hl
      refine lv_iload hx hb d_Cutter_segmentEnd_47 (lv_at hl 9 rfl) ?_
      refine lv_iload_n hx hb d_Cutter_segmentEnd_49 rfl (lv_at hl 3 rfl) ?_
      refine n_icmp_le (tgt := 140) hx hb (by omega) (by omega) d_Cutter_segmentEnd_50 (by decide) (fun c50 => ?_) (fun c50 => ?_)
      · refine lv_iconst (v := (iI (-1))) hx hb d_Cutter_segmentEnd_140 (by decide) ?_
        exact W.iret (v := (iI (-1))) hx hb hr (fun t9 ht _ => ⟨_, rfl, by rw [hk1, show k = 0 from by omega]; rfl, ht⟩) (fun q h => by cases h) d_Cutter_segmentEnd_141
      · obtain ⟨k1, rfl⟩ : ∃ k1, k = k1 + 1 := ⟨k - 1, by omega⟩
        have hl : lv_has ls 15 [(0, .ref hC), (1, .int (nI 1)), (2, .int (nI ot)), (3, .int (nI b)), (4, .int (nI en)), (5, .int (nI ax)), (6, .ref (aL 0)), (7, .ref (aL 1)), (8, .long (iL (dpV (sg u sA ax ot) (okc 1 tp ob) b en))), (10, .int (nI (b + 1 + k1)))] := by rw [show (nI (b + 1 + k1)) = (nI (b + (k1 + 1))) from congrArg nI (by omega)]; exact hl
        have hseg := gu b (b + 1 + k1) (by omega) (by omega)
        have hpl := gP b (b + 1 + k1) (by omega) (by omega)
        have esg : sg u sA ax ot b (b + 1 + k1) = u (plc sA ax ((b + 1 + k1) * ((b + 1 + k1) - 1) / 2 + b) ot) := rfl
        have hrb := dpV_b (ok := (okc 1 tp ob)) (show (b + 1 + k1) ≤ en by omega) gu
        refine lv_aload hx hb d_Cutter_segmentEnd_53 (lv_at hl 6 rfl) ?_
        refine lv_aload_n hx hb d_Cutter_segmentEnd_55 rfl (lv_at hl 0 rfl) ?_
        refine lv_iload hx hb d_Cutter_segmentEnd_56 (lv_at hl 5 rfl) ?_
        refine lv_iload_n hx hb d_Cutter_segmentEnd_58 rfl (lv_at hl 3 rfl) ?_
        refine lv_iload hx hb d_Cutter_segmentEnd_59 (lv_at hl 9 rfl) ?_
        refine nest_Rips_spanOf (G := G) (ty := ty) hx hb hml hown hts hX nst_Cutter_104 hl.1 (by omega) (by omega) (by omega) (lv_room (Nat.le_of_ble_eq_true rfl)) ⟨Nat.le_of_ble_eq_true rfl, Nat.le_of_ble_eq_true rfl⟩ ⟨Nat.le_of_ble_eq_true rfl, Nat.le_of_ble_eq_true rfl⟩ d_Cutter_segmentEnd_61 ?_
        refine lv_iload_n hx hb d_Cutter_segmentEnd_64 rfl (lv_at hl 2 rfl) ?_
        refine vp_callSi (W.runV (As := [.int (nI ax), .int (nI ((b + 1 + k1) * ((b + 1 + k1) - 1) / 2 + b)), .int (nI ot)]) (rest := [.ref (aL 0)]) ⟨hx, hb, hml, hown, hts⟩ (c_Cutter_placeOf l G ty hC hB hT sA aZ aE tx tp tb ax ((b + 1 + k1) * ((b + 1 + k1) - 1) / 2 + b) ot (by omega)) ⟨callB_of 3 hts (gd_TB cd_Cutter_placeOf) rfl rfl rfl (hts _ ini_Cutter) (hts _ lk_Cutter_154) hd_Cutter_placeOf ⟨Nat.le_of_ble_eq_true rfl, Nat.le_of_ble_eq_true rfl⟩, hts _ im_Cutter_placeOf, hts _ sl_Cutter_placeOf⟩ (preV_ro (hP.sub (ws' := [(hC, .inr (1, [.ref hB, .ref hT, .int (nI sA), .ref aZ, .ref aE, .int (nI tx), .int (nI tp), .int tb]))]) [0] rfl) hX 0 rfl rfl) rfl rfl hl.1 rfl (lv_room (Nat.le_of_ble_eq_true rfl)) d_Cutter_segmentEnd_65 ⟨Nat.le_of_ble_eq_true rfl, Nat.le_of_ble_eq_true rfl⟩) (fun r9 er9 => ?_)
        subst er9
        refine n_lald hx hb hK hP 2 1 rfl rfl (by omega) (by omega) d_Cutter_segmentEnd_68 ?_
        refine lv_lstore (lv' := [(11, .long (iL (u (plc sA ax ((b + 1 + k1) * ((b + 1 + k1) - 1) / 2 + b) ot)))), (0, .ref hC), (1, .int (nI 1)), (2, .int (nI ot)), (3, .int (nI b)), (4, .int (nI en)), (5, .int (nI ax)), (6, .ref (aL 0)), (7, .ref (aL 1)), (8, .long (iL (dpV (sg u sA ax ot) (okc 1 tp ob) b en))), (10, .int (nI (b + 1 + k1)))]) hx hb d_Cutter_segmentEnd_69 hl (by decide) rfl (fun ls hl => ?_)
        refine lv_iload hx hb d_Cutter_segmentEnd_71 (lv_at hl 10 rfl) ?_
        refine lv_iload hx hb d_Cutter_segmentEnd_73 (lv_at hl 5 rfl) ?_
        refine n_icmp_ne (tgt := 82) hx hb (by omega) (by omega) d_Cutter_segmentEnd_75 (by decide) (fun c75 => ?_) (fun c75 => ?_)
        · have hpl2 := gP (b + 1 + k1) en (by omega) (Nat.le_refl _)
          have hvc := gv (b + 1 + k1) (by omega) (by omega)
          refine lv_aload hx hb d_Cutter_segmentEnd_82 (lv_at hl 8 rfl) ?_
          refine lv_aload_n hx hb d_Cutter_segmentEnd_84 rfl (lv_at hl 1 rfl) ?_
          refine lv_iload hx hb d_Cutter_segmentEnd_85 (lv_at hl 6 rfl) ?_
          refine lv_iload hx hb d_Cutter_segmentEnd_87 (lv_at hl 10 rfl) ?_
          refine lv_iload hx hb d_Cutter_segmentEnd_89 (lv_at hl 5 rfl) ?_
          refine nest_Rips_spanOf (G := G) (ty := ty) hx hb hml hown hts hX nst_Cutter_104 hl.1 (by omega) (by omega) (by omega) (lv_room (Nat.le_of_ble_eq_true rfl)) ⟨Nat.le_of_ble_eq_true rfl, Nat.le_of_ble_eq_true rfl⟩ ⟨Nat.le_of_ble_eq_true rfl, Nat.le_of_ble_eq_true rfl⟩ d_Cutter_segmentEnd_91 ?_
          refine lv_iload_n hx hb d_Cutter_segmentEnd_94 rfl (lv_at hl 3 rfl) ?_
          refine vp_callSi (W.runV (As := [.int (nI ax), .int (nI (en * (en - 1) / 2 + (b + 1 + k1))), .int (nI ot)]) (rest := [.ref (aL 1)]) ⟨hx, hb, hml, hown, hts⟩ (c_Cutter_placeOf l G ty hC hB hT sA aZ aE tx tp tb ax (en * (en - 1) / 2 + (b + 1 + k1)) ot (by omega)) ⟨callB_of 3 hts (gd_TB cd_Cutter_placeOf) rfl rfl rfl (hts _ ini_Cutter) (hts _ lk_Cutter_154) hd_Cutter_placeOf ⟨Nat.le_of_ble_eq_true rfl, Nat.le_of_ble_eq_true rfl⟩, hts _ im_Cutter_placeOf, hts _ sl_Cutter_placeOf⟩ (preV_ro (hP.sub (ws' := [(hC, .inr (1, [.ref hB, .ref hT, .int (nI sA), .ref aZ, .ref aE, .int (nI tx), .int (nI tp), .int tb]))]) [0] rfl) hX 0 rfl rfl) rfl rfl hl.1 rfl (lv_room (Nat.le_of_ble_eq_true rfl)) d_Cutter_segmentEnd_95 ⟨Nat.le_of_ble_eq_true rfl, Nat.le_of_ble_eq_true rfl⟩) (fun r9 er9 => ?_)
          subst er9
          refine n_lald hx hb hK hP 3 1 rfl rfl (by omega) (by omega) d_Cutter_segmentEnd_98 ?_
          refine top_l (show (iL (t (plc sA ax (en * (en - 1) / 2 + (b + 1 + k1)) ot))) = (iL (dpV (sg u sA ax ot) (okc 1 tp ob) (b + 1 + k1) en)) from congrArg iL hvc) ?_
          refine lv_lstore (lv' := [(13, .long (iL (dpV (sg u sA ax ot) (okc 1 tp ob) (b + 1 + k1) en))), (11, .long (iL (u (plc sA ax ((b + 1 + k1) * ((b + 1 + k1) - 1) / 2 + b) ot)))), (0, .ref hC), (1, .int (nI 1)), (2, .int (nI ot)), (3, .int (nI b)), (4, .int (nI en)), (5, .int (nI ax)), (6, .ref (aL 0)), (7, .ref (aL 1)), (8, .long (iL (dpV (sg u sA ax ot) (okc 1 tp ob) b en))), (10, .int (nI (b + 1 + k1)))]) hx hb d_Cutter_segmentEnd_99 hl (by decide) rfl (fun ls hl => ?_)
          refine lv_lload hx hb d_Cutter_segmentEnd_101 (lv_at hl 1 rfl) ?_
          refine lv_lconst (v := iL 0) hx hb d_Cutter_segmentEnd_103 (by decide) ?_
          refine l_cmp_le (tgt := 134) hx hb (by omega) (by omega) d_Cutter_segmentEnd_104 d_Cutter_segmentEnd_105 (by decide) (fun c104 => ?_) (fun c104 => ?_)
          · have hk2 : pck (sg u sA ax ot) (okc 1 tp ob) (fun z9 => dpV (sg u sA ax ot) (okc 1 tp ob) z9 en) b (dpV (sg u sA ax ot) (okc 1 tp ob) b en) (en - b) = pck (sg u sA ax ot) (okc 1 tp ob) (fun z9 => dpV (sg u sA ax ot) (okc 1 tp ob) z9 en) b (dpV (sg u sA ax ot) (okc 1 tp ob) b en) k1 := by rw [hk1, pck_s, if_neg]; intro hh; first | omega | exact absurd hh.2.2 (by rw [show okc 1 tp ob (k1 + 1) = false from tN_0 c128]; decide)
            refine lv_iinc (v := (nI (b + k1))) (lv' := [(10, .int (nI (b + k1))), (13, .long (iL (dpV (sg u sA ax ot) (okc 1 tp ob) (b + 1 + k1) en))), (11, .long (iL (u (plc sA ax ((b + 1 + k1) * ((b + 1 + k1) - 1) / 2 + b) ot)))), (0, .ref hC), (1, .int (nI 1)), (2, .int (nI ot)), (3, .int (nI b)), (4, .int (nI en)), (5, .int (nI ax)), (6, .ref (aL 0)), (7, .ref (aL 1)), (8, .long (iL (dpV (sg u sA ax ot) (okc 1 tp ob) b en)))]) hx hb d_Cutter_segmentEnd_134 hl (k := 11) rfl (nI_inc _ _ _ (by omega)) (by decide) rfl (fun ls hl => ?_)
            refine lv_goto (tgt := 47) hx hb d_Cutter_segmentEnd_137 (by decide) ?_
            exact ih47 k1 _ (by omega) hk2 (by omega) (lv_sub hl [3, 4, 5, 6, 7, 8, 9, 10, 11, 0] rfl)
          · refine lv_lload hx hb d_Cutter_segmentEnd_108 (lv_at hl 1 rfl) ?_
            refine lv_lload hx hb d_Cutter_segmentEnd_110 (lv_at hl 0 rfl) ?_
            refine z_ladd hx hb d_Cutter_segmentEnd_112 ?_
            refine lv_lload hx hb d_Cutter_segmentEnd_113 (lv_at hl 10 rfl) ?_
            refine l_cmp_ne (tgt := 134) hx hb (by omega) (by omega) d_Cutter_segmentEnd_115 d_Cutter_segmentEnd_116 (by decide) (fun c115 => ?_) (fun c115 => ?_)
            · have hk2 : pck (sg u sA ax ot) (okc 1 tp ob) (fun z9 => dpV (sg u sA ax ot) (okc 1 tp ob) z9 en) b (dpV (sg u sA ax ot) (okc 1 tp ob) b en) (en - b) = pck (sg u sA ax ot) (okc 1 tp ob) (fun z9 => dpV (sg u sA ax ot) (okc 1 tp ob) z9 en) b (dpV (sg u sA ax ot) (okc 1 tp ob) b en) k1 := by rw [hk1, pck_s, if_neg]; intro hh; first | omega | exact absurd hh.2.2 (by rw [show okc 1 tp ob (k1 + 1) = false from tN_0 c128]; decide)
              refine lv_iinc (v := (nI (b + k1))) (lv' := [(10, .int (nI (b + k1))), (13, .long (iL (dpV (sg u sA ax ot) (okc 1 tp ob) (b + 1 + k1) en))), (11, .long (iL (u (plc sA ax ((b + 1 + k1) * ((b + 1 + k1) - 1) / 2 + b) ot)))), (0, .ref hC), (1, .int (nI 1)), (2, .int (nI ot)), (3, .int (nI b)), (4, .int (nI en)), (5, .int (nI ax)), (6, .ref (aL 0)), (7, .ref (aL 1)), (8, .long (iL (dpV (sg u sA ax ot) (okc 1 tp ob) b en)))]) hx hb d_Cutter_segmentEnd_134 hl (k := 11) rfl (nI_inc _ _ _ (by omega)) (by decide) rfl (fun ls hl => ?_)
              refine lv_goto (tgt := 47) hx hb d_Cutter_segmentEnd_137 (by decide) ?_
              exact ih47 k1 _ (by omega) hk2 (by omega) (lv_sub hl [3, 4, 5, 6, 7, 8, 9, 10, 11, 0] rfl)
            · refine lv_aload_n hx hb d_Cutter_segmentEnd_119 rfl (lv_at hl 2 rfl) ?_
              refine lv_iload_n hx hb d_Cutter_segmentEnd_120 rfl (lv_at hl 3 rfl) ?_
              refine lv_iload hx hb d_Cutter_segmentEnd_121 (lv_at hl 11 rfl) ?_
              refine lv_iload_n hx hb d_Cutter_segmentEnd_123 rfl (lv_at hl 5 rfl) ?_
              refine n_isub hx hb (by omega) d_Cutter_segmentEnd_124 ?_
              refine top_i (show (nI ((b + 1 + k1) - b)) = (nI (k1 + 1)) from congrArg nI (by omega)) ?_
              refine vp_callSi (W.runV (As := [.int (nI 1), .int (nI (k1 + 1))]) (rest := []) ⟨hx, hb, hml, hown, hts⟩ (c_Cutter_mayCut l G ty hC hB hT sA aZ aE tx tp tb 1 (k1 + 1) nb ob (by omega) (by omega) (by omega) (by omega) gb) ⟨callB_of 2 hts (gd_TB cd_Cutter_mayCut) rfl rfl rfl (hts _ ini_Cutter) (hts _ lk_Cutter_158) hd_Cutter_mayCut ⟨Nat.le_of_ble_eq_true rfl, Nat.le_of_ble_eq_true rfl⟩, hts _ im_Cutter_mayCut, hts _ sl_Cutter_mayCut⟩ (preV_ro (hP.sub (ws' := [(hC, .inr (1, [.ref hB, .ref hT, .int (nI sA), .ref aZ, .ref aE, .int (nI tx), .int (nI tp), .int tb]))]) [0] rfl) hX 0 rfl rfl) rfl rfl hl.1 rfl (lv_room (Nat.le_of_ble_eq_true rfl)) d_Cutter_segmentEnd_125 ⟨Nat.le_of_ble_eq_true rfl, Nat.le_of_ble_eq_true rfl⟩) (fun r9 er9 => ?_)
              subst er9
              refine n_if_eq (tgt := 134) hx hb (tN_lt _) d_Cutter_segmentEnd_128 (by decide) (fun c128 => ?_) (fun c128 => ?_)
              · have hk2 : pck (sg u sA ax ot) (okc 1 tp ob) (fun z9 => dpV (sg u sA ax ot) (okc 1 tp ob) z9 en) b (dpV (sg u sA ax ot) (okc 1 tp ob) b en) (en - b) = pck (sg u sA ax ot) (okc 1 tp ob) (fun z9 => dpV (sg u sA ax ot) (okc 1 tp ob) z9 en) b (dpV (sg u sA ax ot) (okc 1 tp ob) b en) k1 := by rw [hk1, pck_s, if_neg]; intro hh; first | omega | exact absurd hh.2.2 (by rw [show okc 1 tp ob (k1 + 1) = false from tN_0 c128]; decide)
                refine lv_iinc (v := (nI (b + k1))) (lv' := [(10, .int (nI (b + k1))), (13, .long (iL (dpV (sg u sA ax ot) (okc 1 tp ob) (b + 1 + k1) en))), (11, .long (iL (u (plc sA ax ((b + 1 + k1) * ((b + 1 + k1) - 1) / 2 + b) ot)))), (0, .ref hC), (1, .int (nI 1)), (2, .int (nI ot)), (3, .int (nI b)), (4, .int (nI en)), (5, .int (nI ax)), (6, .ref (aL 0)), (7, .ref (aL 1)), (8, .long (iL (dpV (sg u sA ax ot) (okc 1 tp ob) b en)))]) hx hb d_Cutter_segmentEnd_134 hl (k := 11) rfl (nI_inc _ _ _ (by omega)) (by decide) rfl (fun ls hl => ?_)
                refine lv_goto (tgt := 47) hx hb d_Cutter_segmentEnd_137 (by decide) ?_
                exact ih47 k1 _ (by omega) hk2 (by omega) (lv_sub hl [3, 4, 5, 6, 7, 8, 9, 10, 11, 0] rfl)
              · refine lv_iload hx hb d_Cutter_segmentEnd_131 (lv_at hl 11 rfl) ?_
                exact W.iret (v := (nI (b + 1 + k1))) hx hb hr (fun t9 ht _ => ⟨_, rfl, by rw [hk1, pck_s, if_pos ⟨by omega, by omega, tN_1 c128⟩]; unfold pkZ; rw [if_neg (by omega), nI_iI], ht⟩) (fun q h => by cases h) d_Cutter_segmentEnd_133
        · refine lv_lconst (v := iL 0) hx hb d_Cutter_segmentEnd_78 (by decide) ?_
          refine top_l (show (iL 0) = (iL (dpV (sg u sA ax ot) (okc 1 tp ob) (b + 1 + k1) en)) from congrArg iL (by rw [show (b + 1 + k1) = en from by omega, dpV_end])) ?_
          refine lv_goto (tgt := 99) hx hb d_Cutter_segmentEnd_79 (by decide) ?_
          refine lv_lstore (lv' := [(13, .long (iL (dpV (sg u sA ax ot) (okc 1 tp ob) (b + 1 + k1) en))), (11, .long (iL (u (plc sA ax ((b + 1 + k1) * ((b + 1 + k1) - 1) / 2 + b) ot)))), (0, .ref hC), (1, .int (nI 1)), (2, .int (nI ot)), (3, .int (nI b)), (4, .int (nI en)), (5, .int (nI ax)), (6, .ref (aL 0)), (7, .ref (aL 1)), (8, .long (iL (dpV (sg u sA ax ot) (okc 1 tp ob) b en))), (10, .int (nI (b + 1 + k1)))]) hx hb d_Cutter_segmentEnd_99 hl (by decide) rfl (fun ls hl => ?_)
          refine lv_lload hx hb d_Cutter_segmentEnd_101 (lv_at hl 1 rfl) ?_
          refine lv_lconst (v := iL 0) hx hb d_Cutter_segmentEnd_103 (by decide) ?_
          refine l_cmp_le (tgt := 134) hx hb (by omega) (by omega) d_Cutter_segmentEnd_104 d_Cutter_segmentEnd_105 (by decide) (fun c104 => ?_) (fun c104 => ?_)
          · have hk2 : pck (sg u sA ax ot) (okc 1 tp ob) (fun z9 => dpV (sg u sA ax ot) (okc 1 tp ob) z9 en) b (dpV (sg u sA ax ot) (okc 1 tp ob) b en) (en - b) = pck (sg u sA ax ot) (okc 1 tp ob) (fun z9 => dpV (sg u sA ax ot) (okc 1 tp ob) z9 en) b (dpV (sg u sA ax ot) (okc 1 tp ob) b en) k1 := by rw [hk1, pck_s, if_neg]; intro hh; first | omega | exact absurd hh.2.2 (by rw [show okc 1 tp ob (k1 + 1) = false from tN_0 c128]; decide)
            refine lv_iinc (v := (nI (b + k1))) (lv' := [(10, .int (nI (b + k1))), (13, .long (iL (dpV (sg u sA ax ot) (okc 1 tp ob) (b + 1 + k1) en))), (11, .long (iL (u (plc sA ax ((b + 1 + k1) * ((b + 1 + k1) - 1) / 2 + b) ot)))), (0, .ref hC), (1, .int (nI 1)), (2, .int (nI ot)), (3, .int (nI b)), (4, .int (nI en)), (5, .int (nI ax)), (6, .ref (aL 0)), (7, .ref (aL 1)), (8, .long (iL (dpV (sg u sA ax ot) (okc 1 tp ob) b en)))]) hx hb d_Cutter_segmentEnd_134 hl (k := 11) rfl (nI_inc _ _ _ (by omega)) (by decide) rfl (fun ls hl => ?_)
            refine lv_goto (tgt := 47) hx hb d_Cutter_segmentEnd_137 (by decide) ?_
            exact ih47 k1 _ (by omega) hk2 (by omega) (lv_sub hl [3, 4, 5, 6, 7, 8, 9, 10, 11, 0] rfl)
          · refine lv_lload hx hb d_Cutter_segmentEnd_108 (lv_at hl 1 rfl) ?_
            refine lv_lload hx hb d_Cutter_segmentEnd_110 (lv_at hl 0 rfl) ?_
            refine z_ladd hx hb d_Cutter_segmentEnd_112 ?_
            refine lv_lload hx hb d_Cutter_segmentEnd_113 (lv_at hl 10 rfl) ?_
            refine l_cmp_ne (tgt := 134) hx hb (by omega) (by omega) d_Cutter_segmentEnd_115 d_Cutter_segmentEnd_116 (by decide) (fun c115 => ?_) (fun c115 => ?_)
            · have hk2 : pck (sg u sA ax ot) (okc 1 tp ob) (fun z9 => dpV (sg u sA ax ot) (okc 1 tp ob) z9 en) b (dpV (sg u sA ax ot) (okc 1 tp ob) b en) (en - b) = pck (sg u sA ax ot) (okc 1 tp ob) (fun z9 => dpV (sg u sA ax ot) (okc 1 tp ob) z9 en) b (dpV (sg u sA ax ot) (okc 1 tp ob) b en) k1 := by rw [hk1, pck_s, if_neg]; intro hh; first | omega | exact absurd hh.2.2 (by rw [show okc 1 tp ob (k1 + 1) = false from tN_0 c128]; decide)
              refine lv_iinc (v := (nI (b + k1))) (lv' := [(10, .int (nI (b + k1))), (13, .long (iL (dpV (sg u sA ax ot) (okc 1 tp ob) (b + 1 + k1) en))), (11, .long (iL (u (plc sA ax ((b + 1 + k1) * ((b + 1 + k1) - 1) / 2 + b) ot)))), (0, .ref hC), (1, .int (nI 1)), (2, .int (nI ot)), (3, .int (nI b)), (4, .int (nI en)), (5, .int (nI ax)), (6, .ref (aL 0)), (7, .ref (aL 1)), (8, .long (iL (dpV (sg u sA ax ot) (okc 1 tp ob) b en)))]) hx hb d_Cutter_segmentEnd_134 hl (k := 11) rfl (nI_inc _ _ _ (by omega)) (by decide) rfl (fun ls hl => ?_)
              refine lv_goto (tgt := 47) hx hb d_Cutter_segmentEnd_137 (by decide) ?_
              exact ih47 k1 _ (by omega) hk2 (by omega) (lv_sub hl [3, 4, 5, 6, 7, 8, 9, 10, 11, 0] rfl)
            · refine lv_aload_n hx hb d_Cutter_segmentEnd_119 rfl (lv_at hl 2 rfl) ?_
              refine lv_iload_n hx hb d_Cutter_segmentEnd_120 rfl (lv_at hl 3 rfl) ?_
              refine lv_iload hx hb d_Cutter_segmentEnd_121 (lv_at hl 11 rfl) ?_
              refine lv_iload_n hx hb d_Cutter_segmentEnd_123 rfl (lv_at hl 5 rfl) ?_
              refine n_isub hx hb (by omega) d_Cutter_segmentEnd_124 ?_
              refine top_i (show (nI ((b + 1 + k1) - b)) = (nI (k1 + 1)) from congrArg nI (by omega)) ?_
              refine vp_callSi (W.runV (As := [.int (nI 1), .int (nI (k1 + 1))]) (rest := []) ⟨hx, hb, hml, hown, hts⟩ (c_Cutter_mayCut l G ty hC hB hT sA aZ aE tx tp tb 1 (k1 + 1) nb ob (by omega) (by omega) (by omega) (by omega) gb) ⟨callB_of 2 hts (gd_TB cd_Cutter_mayCut) rfl rfl rfl (hts _ ini_Cutter) (hts _ lk_Cutter_158) hd_Cutter_mayCut ⟨Nat.le_of_ble_eq_true rfl, Nat.le_of_ble_eq_true rfl⟩, hts _ im_Cutter_mayCut, hts _ sl_Cutter_mayCut⟩ (preV_ro (hP.sub (ws' := [(hC, .inr (1, [.ref hB, .ref hT, .int (nI sA), .ref aZ, .ref aE, .int (nI tx), .int (nI tp), .int tb]))]) [0] rfl) hX 0 rfl rfl) rfl rfl hl.1 rfl (lv_room (Nat.le_of_ble_eq_true rfl)) d_Cutter_segmentEnd_125 ⟨Nat.le_of_ble_eq_true rfl, Nat.le_of_ble_eq_true rfl⟩) (fun r9 er9 => ?_)
              subst er9
              refine n_if_eq (tgt := 134) hx hb (tN_lt _) d_Cutter_segmentEnd_128 (by decide) (fun c128 => ?_) (fun c128 => ?_)
              · have hk2 : pck (sg u sA ax ot) (okc 1 tp ob) (fun z9 => dpV (sg u sA ax ot) (okc 1 tp ob) z9 en) b (dpV (sg u sA ax ot) (okc 1 tp ob) b en) (en - b) = pck (sg u sA ax ot) (okc 1 tp ob) (fun z9 => dpV (sg u sA ax ot) (okc 1 tp ob) z9 en) b (dpV (sg u sA ax ot) (okc 1 tp ob) b en) k1 := by rw [hk1, pck_s, if_neg]; intro hh; first | omega | exact absurd hh.2.2 (by rw [show okc 1 tp ob (k1 + 1) = false from tN_0 c128]; decide)
                refine lv_iinc (v := (nI (b + k1))) (lv' := [(10, .int (nI (b + k1))), (13, .long (iL (dpV (sg u sA ax ot) (okc 1 tp ob) (b + 1 + k1) en))), (11, .long (iL (u (plc sA ax ((b + 1 + k1) * ((b + 1 + k1) - 1) / 2 + b) ot)))), (0, .ref hC), (1, .int (nI 1)), (2, .int (nI ot)), (3, .int (nI b)), (4, .int (nI en)), (5, .int (nI ax)), (6, .ref (aL 0)), (7, .ref (aL 1)), (8, .long (iL (dpV (sg u sA ax ot) (okc 1 tp ob) b en)))]) hx hb d_Cutter_segmentEnd_134 hl (k := 11) rfl (nI_inc _ _ _ (by omega)) (by decide) rfl (fun ls hl => ?_)
                refine lv_goto (tgt := 47) hx hb d_Cutter_segmentEnd_137 (by decide) ?_
                exact ih47 k1 _ (by omega) hk2 (by omega) (lv_sub hl [3, 4, 5, 6, 7, 8, 9, 10, 11, 0] rfl)
              · refine lv_iload hx hb d_Cutter_segmentEnd_131 (lv_at hl 11 rfl) ?_
                exact W.iret (v := (nI (b + 1 + k1))) hx hb hr (fun t9 ht _ => ⟨_, rfl, by rw [hk1, pck_s, if_pos ⟨by omega, by omega, tN_1 c128⟩]; unfold pkZ; rw [if_neg (by omega), nI_iI], ht⟩) (fun q h => by cases h) d_Cutter_segmentEnd_133
  exact L47 ((en - b) + 1) (en - b) _ (by omega) rfl (Nat.lt_succ_self _) (lv_sub hl [5, 6, 7, 8, 9, 4, 3, 2, 1, 0] rfl)

abbrev q_segEnd2 (G : va_G) (ty : Nat → ClassId) (hC : Nat) (hB : Nat) (hT : Nat) (sA : Nat) (aZ : Nat) (aE : Nat) (tx : Nat) (tp : Nat) (tb : Int32) (ax : Nat) (ot : Nat) (b : Nat) (en : Nat) (nT : Nat) (nb : Nat) (fZ : Nat → Option Nat) (aL : Nat → Nat) (u : Nat → Int) (t : Nat → Int) (ob : Nat → Bool) : Array Value → State → Outcome → State → Prop := vp_Si (fun r : Int32 => r = (iI (pkZ (pck (sg u sA ax ot) (okc 2 tp ob) (fun z9 => dpV (sg u sA ax ot) (okc 2 tp ob) z9 en) b (dpV (sg u sA ax ot) (okc 2 tp ob) b en) (en - b)))))
set_option maxRecDepth 100000 in
set_option maxHeartbeats 4000000 in
theorem c_segEnd2 (l : Launch) (G : va_G) (ty : Nat → ClassId) (hC : Nat) (hB : Nat) (hT : Nat) (sA : Nat) (aZ : Nat) (aE : Nat) (tx : Nat) (tp : Nat) (tb : Int32) (ax : Nat) (ot : Nat) (b : Nat) (en : Nat) (nT : Nat) (nb : Nat) (fZ : Nat → Option Nat) (aL : Nat → Nat) (u : Nat → Int) (t : Nat → Int) (ob : Nat → Bool) (gl : ∀ i, i < 4 → fZ i = some (aL i)) (g1 : tx ≤ 1) (ga : ax = (if (tp - 2) % 2 = 0 then tx else 1 - tx)) (g2 : b < en) (g3 : en ≤ 24) (g4 : nT ≤ 100000) (g5 : tp ≤ 3) (g6 : nb ≤ 25) (g7 : 2 ≤ tp) (g9 : 2 < tp ∨ en < nb) (gb : tb = Mk ob nb) (gP : ∀ b n, b < n → n ≤ en → plc sA ax (n * (n - 1) / 2 + b) ot < nT) (gu : ∀ b n, b < n → n ≤ en → 0 ≤ (sg u sA ax ot) b n ∧ (sg u sA ax ot) b n ≤ 100000000000000) (gv : ∀ p, b ≤ p → p < en → t (plc sA ax (en * (en - 1) / 2 + p) ot) = dpV (sg u sA ax ot) (okc 2 tp ob) p en) : Met l y_Cutter_segmentEnd ws_Cutter_segmentEnd { frames := 2, cells := 0, slots := 0, locals := 44 } (va_Pc [.ref hC, .int (nI 2), .int (nI ot), .int (nI b), .int (nI en)] (fun U => va_P G vwCl [(hC, .inr (1, [.ref hB, .ref hT, .int (nI sA), .ref aZ, .ref aE, .int (nI tx), .int (nI tp), .int tb])), (aZ, .inl (ty 6, 4, .inr (.inr (.inr (.inr fZ))))), (aL 1, .inl (ty 1, nT, .inr (.inl (lF u)))), (aL 2, .inl (ty 1, nT, .inr (.inl (lF t))))] U.heap ∧ KX G ty U)) (q_segEnd2 G ty hC hB hT sA aZ aE tx tp tb ax ot b en nT nb fZ aL u t ob) 0 0 (fun _ => False) := by
  refine met_ro R_Cutter (by decide) rfl rfl (Nat.le_of_ble_eq_true rfl) ?_
  intro p e s m below meth c ls hx hb hr hml hown hts hlocks hP hX hl
  have hK := hX.1
  have hl : lv_has ls 15 [(0, .ref hC), (1, .int (nI 2)), (2, .int (nI ot)), (3, .int (nI b)), (4, .int (nI en))] := hl
  have hax : ax ≤ 1 := by rw [ga]; split <;> omega
  have hbt := gP b en g2 (Nat.le_refl _)
  have hvb := gv b (Nat.le_refl _) g2
  have hbb := dpV_b (ok := (okc 2 tp ob)) (Nat.le_of_lt g2) gu
  refine lv_aload_n hx hb d_Cutter_segmentEnd_0 rfl (lv_at hl 0 rfl) ?_
  refine lv_iload_n hx hb d_Cutter_segmentEnd_1 rfl (lv_at hl 1 rfl) ?_
  refine vp_callSi (W.runV (As := [.int (nI 2)]) (rest := []) ⟨hx, hb, hml, hown, hts⟩ (c_Cutter_axisOf l G ty hC hB hT sA aZ aE tx tp tb 2 (by omega) (by omega) (by omega)) ⟨callB_of 1 hts (gd_TB cd_Cutter_axisOf) rfl rfl rfl (hts _ ini_Cutter) (hts _ lk_Cutter_144) hd_Cutter_axisOf ⟨Nat.le_of_ble_eq_true rfl, Nat.le_of_ble_eq_true rfl⟩, hts _ im_Cutter_axisOf, hts _ sl_Cutter_axisOf⟩ (preV_ro (hP.sub (ws' := [(hC, .inr (1, [.ref hB, .ref hT, .int (nI sA), .ref aZ, .ref aE, .int (nI tx), .int (nI tp), .int tb]))]) [0] rfl) hX 0 rfl rfl) rfl rfl hl.1 rfl (lv_room (Nat.le_of_ble_eq_true rfl)) d_Cutter_segmentEnd_2 ⟨Nat.le_of_ble_eq_true rfl, Nat.le_of_ble_eq_true rfl⟩) (fun r9 er9 => ?_)
  subst er9
  refine top_i (show (nI (if (tp - 2) % 2 = 0 then tx else 1 - tx)) = (nI ax) from congrArg nI ga.symm) ?_
  refine lv_istore (lv' := [(5, .int (nI ax)), (0, .ref hC), (1, .int (nI 2)), (2, .int (nI ot)), (3, .int (nI b)), (4, .int (nI en))]) hx hb d_Cutter_segmentEnd_5 hl (by decide) rfl (fun ls hl => ?_)
  refine lv_aload_n hx hb d_Cutter_segmentEnd_7 rfl (lv_at hl 1 rfl) ?_
  refine va_get (D := G) (ci := 1) (v := .ref aZ) (C := R_Cutter) (T := F_Cutter) (N := 8) hx hb hts in_Cutter hown hK hP 0 rfl rfl 3 (by decide) (hts _ fl_Cutter_11) (fun _ h9 => h9) rfl d_Cutter_segmentEnd_8 ?_
  refine lv_iload_n hx hb d_Cutter_segmentEnd_11 rfl (lv_at hl 2 rfl) ?_
  refine lv_iconst (v := (nI 1)) hx hb d_Cutter_segmentEnd_12 (by decide) ?_
  refine n_isub hx hb (by omega) d_Cutter_segmentEnd_13 ?_
  refine top_i (show (nI (2 - 1)) = nI 1 from rfl) ?_
  refine n_aaldA hx hb hK hP 1 6 rfl rfl (by omega) (by omega) (gl 1 (by omega)) d_Cutter_segmentEnd_14 ?_
  refine lv_astore (lv' := [(6, .ref (aL 1)), (5, .int (nI ax)), (0, .ref hC), (1, .int (nI 2)), (2, .int (nI ot)), (3, .int (nI b)), (4, .int (nI en))]) hx hb d_Cutter_segmentEnd_15 hl (by decide) rfl (fun ls hl => ?_)
  refine lv_aload_n hx hb d_Cutter_segmentEnd_17 rfl (lv_at hl 2 rfl) ?_
  refine va_get (D := G) (ci := 1) (v := .ref aZ) (C := R_Cutter) (T := F_Cutter) (N := 8) hx hb hts in_Cutter hown hK hP 0 rfl rfl 3 (by decide) (hts _ fl_Cutter_11) (fun _ h9 => h9) rfl d_Cutter_segmentEnd_18 ?_
  refine lv_iload_n hx hb d_Cutter_segmentEnd_21 rfl (lv_at hl 3 rfl) ?_
  refine n_aaldA hx hb hK hP 1 6 rfl rfl (by omega) (by omega) (gl 2 (by omega)) d_Cutter_segmentEnd_22 ?_
  refine lv_astore (lv' := [(7, .ref (aL 2)), (6, .ref (aL 1)), (5, .int (nI ax)), (0, .ref hC), (1, .int (nI 2)), (2, .int (nI ot)), (3, .int (nI b)), (4, .int (nI en))]) hx hb d_Cutter_segmentEnd_23 hl (by decide) rfl (fun ls hl => ?_)
  refine lv_aload hx hb d_Cutter_segmentEnd_25 (lv_at hl 0 rfl) ?_
  refine lv_aload_n hx hb d_Cutter_segmentEnd_27 rfl (lv_at hl 3 rfl) ?_
  refine lv_iload hx hb d_Cutter_segmentEnd_28 (lv_at hl 2 rfl) ?_
  refine lv_iload_n hx hb d_Cutter_segmentEnd_30 rfl (lv_at hl 6 rfl) ?_
  refine lv_iload hx hb d_Cutter_segmentEnd_31 (lv_at hl 7 rfl) ?_
  refine nest_Rips_spanOf (G := G) (ty := ty) hx hb hml hown hts hX nst_Cutter_104 hl.1 (by omega) (by omega) (by omega) (lv_room (Nat.le_of_ble_eq_true rfl)) ⟨Nat.le_of_ble_eq_true rfl, Nat.le_of_ble_eq_true rfl⟩ ⟨Nat.le_of_ble_eq_true rfl, Nat.le_of_ble_eq_true rfl⟩ d_Cutter_segmentEnd_33 ?_
  refine lv_iload_n hx hb d_Cutter_segmentEnd_36 rfl (lv_at hl 5 rfl) ?_
  refine vp_callSi (W.runV (As := [.int (nI ax), .int (nI (en * (en - 1) / 2 + b)), .int (nI ot)]) (rest := [.ref (aL 2)]) ⟨hx, hb, hml, hown, hts⟩ (c_Cutter_placeOf l G ty hC hB hT sA aZ aE tx tp tb ax (en * (en - 1) / 2 + b) ot (by omega)) ⟨callB_of 3 hts (gd_TB cd_Cutter_placeOf) rfl rfl rfl (hts _ ini_Cutter) (hts _ lk_Cutter_154) hd_Cutter_placeOf ⟨Nat.le_of_ble_eq_true rfl, Nat.le_of_ble_eq_true rfl⟩, hts _ im_Cutter_placeOf, hts _ sl_Cutter_placeOf⟩ (preV_ro (hP.sub (ws' := [(hC, .inr (1, [.ref hB, .ref hT, .int (nI sA), .ref aZ, .ref aE, .int (nI tx), .int (nI tp), .int tb]))]) [0] rfl) hX 0 rfl rfl) rfl rfl hl.1 rfl (lv_room (Nat.le_of_ble_eq_true rfl)) d_Cutter_segmentEnd_37 ⟨Nat.le_of_ble_eq_true rfl, Nat.le_of_ble_eq_true rfl⟩) (fun r9 er9 => ?_)
  subst er9
  refine n_lald hx hb hK hP 3 1 rfl rfl (by omega) (by omega) d_Cutter_segmentEnd_40 ?_
  refine top_l (show (iL (t (plc sA ax (en * (en - 1) / 2 + b) ot))) = (iL (dpV (sg u sA ax ot) (okc 2 tp ob) b en)) from congrArg iL hvb) ?_
  refine lv_lstore (lv' := [(8, .long (iL (dpV (sg u sA ax ot) (okc 2 tp ob) b en))), (7, .ref (aL 2)), (6, .ref (aL 1)), (5, .int (nI ax)), (0, .ref hC), (1, .int (nI 2)), (2, .int (nI ot)), (3, .int (nI b)), (4, .int (nI en))]) hx hb d_Cutter_segmentEnd_41 hl (by decide) rfl (fun ls hl => ?_)
  refine lv_iload hx hb d_Cutter_segmentEnd_43 (lv_at hl 8 rfl) ?_
  refine top_i (show (nI en) = (nI (b + (en - b))) from congrArg nI (by omega)) ?_
  refine lv_istore (lv' := [(10, .int (nI (b + (en - b)))), (8, .long (iL (dpV (sg u sA ax ot) (okc 2 tp ob) b en))), (7, .ref (aL 2)), (6, .ref (aL 1)), (5, .int (nI ax)), (0, .ref hC), (1, .int (nI 2)), (2, .int (nI ot)), (3, .int (nI b)), (4, .int (nI en))]) hx hb d_Cutter_segmentEnd_45 hl (by decide) rfl (fun ls hl => ?_)
  have L47 : ∀ (k9 : Nat) (k : Nat) (ls : Array Slot), (b + k ≤ en) → (pck (sg u sA ax ot) (okc 2 tp ob) (fun z9 => dpV (sg u sA ax ot) (okc 2 tp ob) z9 en) b (dpV (sg u sA ax ot) (okc 2 tp ob) b en) (en - b) = pck (sg u sA ax ot) (okc 2 tp ob) (fun z9 => dpV (sg u sA ax ot) (okc 2 tp ob) z9 en) b (dpV (sg u sA ax ot) (okc 2 tp ob) b en) k) → k < k9 → lv_has ls 15 [(0, .ref hC), (1, .int (nI 2)), (2, .int (nI ot)), (3, .int (nI b)), (4, .int (nI en)), (5, .int (nI ax)), (6, .ref (aL 1)), (7, .ref (aL 2)), (8, .long (iL (dpV (sg u sA ax ot) (okc 2 tp ob) b en))), (10, .int (nI (b + k)))] → W p l e { frames := 2, cells := 0, slots := 0, locals := 44 } s m [.ref hC, .int (nI 2), .int (nI ot), .int (nI b), .int (nI en)].toArray below meth c s.heap [] 0 0 (MQ below (q_segEnd2 G ty hC hB hT sA aZ aE tx tp tb ax ot b en nT nb fZ aL u t ob) [.ref hC, .int (nI 2), .int (nI ot), .int (nI b), .int (nI en)].toArray s 0 0 (fun _ => False)) (F0 m 47 ls []) := by
    intro k9
    induction k9 with
    | zero => intro k ls hk0 hk1 hk9; exact absurd hk9 (Nat.not_lt_zero _)
    | succ k9 ih47 =>
      intro k ls hk0 hk1 hk9 hl
      refine lv_iload hx hb d_Cutter_segmentEnd_47 (lv_at hl 9 rfl) ?_
      refine lv_iload_n hx hb d_Cutter_segmentEnd_49 rfl (lv_at hl 3 rfl) ?_
      refine n_icmp_le (tgt := 140) hx hb (by omega) (by omega) d_Cutter_segmentEnd_50 (by decide) (fun c50 => ?_) (fun c50 => ?_)
      · refine lv_iconst (v := (iI (-1))) hx hb d_Cutter_segmentEnd_140 (by decide) ?_
        exact W.iret (v := (iI (-1))) hx hb hr (fun t9 ht _ => ⟨_, rfl, by rw [hk1, show k = 0 from by omega]; rfl, ht⟩) (fun q h => by cases h) d_Cutter_segmentEnd_141
      · obtain ⟨k1, rfl⟩ : ∃ k1, k = k1 + 1 := ⟨k - 1, by omega⟩
        have hl : lv_has ls 15 [(0, .ref hC), (1, .int (nI 2)), (2, .int (nI ot)), (3, .int (nI b)), (4, .int (nI en)), (5, .int (nI ax)), (6, .ref (aL 1)), (7, .ref (aL 2)), (8, .long (iL (dpV (sg u sA ax ot) (okc 2 tp ob) b en))), (10, .int (nI (b + 1 + k1)))] := by rw [show (nI (b + 1 + k1)) = (nI (b + (k1 + 1))) from congrArg nI (by omega)]; exact hl
        have hseg := gu b (b + 1 + k1) (by omega) (by omega)
        have hpl := gP b (b + 1 + k1) (by omega) (by omega)
        have esg : sg u sA ax ot b (b + 1 + k1) = u (plc sA ax ((b + 1 + k1) * ((b + 1 + k1) - 1) / 2 + b) ot) := rfl
        have hrb := dpV_b (ok := (okc 2 tp ob)) (show (b + 1 + k1) ≤ en by omega) gu
        refine lv_aload hx hb d_Cutter_segmentEnd_53 (lv_at hl 6 rfl) ?_
        refine lv_aload_n hx hb d_Cutter_segmentEnd_55 rfl (lv_at hl 0 rfl) ?_
        refine lv_iload hx hb d_Cutter_segmentEnd_56 (lv_at hl 5 rfl) ?_
        refine lv_iload_n hx hb d_Cutter_segmentEnd_58 rfl (lv_at hl 3 rfl) ?_
        refine lv_iload hx hb d_Cutter_segmentEnd_59 (lv_at hl 9 rfl) ?_
        refine nest_Rips_spanOf (G := G) (ty := ty) hx hb hml hown hts hX nst_Cutter_104 hl.1 (by omega) (by omega) (by omega) (lv_room (Nat.le_of_ble_eq_true rfl)) ⟨Nat.le_of_ble_eq_true rfl, Nat.le_of_ble_eq_true rfl⟩ ⟨Nat.le_of_ble_eq_true rfl, Nat.le_of_ble_eq_true rfl⟩ d_Cutter_segmentEnd_61 ?_
        refine lv_iload_n hx hb d_Cutter_segmentEnd_64 rfl (lv_at hl 2 rfl) ?_
        refine vp_callSi (W.runV (As := [.int (nI ax), .int (nI ((b + 1 + k1) * ((b + 1 + k1) - 1) / 2 + b)), .int (nI ot)]) (rest := [.ref (aL 1)]) ⟨hx, hb, hml, hown, hts⟩ (c_Cutter_placeOf l G ty hC hB hT sA aZ aE tx tp tb ax ((b + 1 + k1) * ((b + 1 + k1) - 1) / 2 + b) ot (by omega)) ⟨callB_of 3 hts (gd_TB cd_Cutter_placeOf) rfl rfl rfl (hts _ ini_Cutter) (hts _ lk_Cutter_154) hd_Cutter_placeOf ⟨Nat.le_of_ble_eq_true rfl, Nat.le_of_ble_eq_true rfl⟩, hts _ im_Cutter_placeOf, hts _ sl_Cutter_placeOf⟩ (preV_ro (hP.sub (ws' := [(hC, .inr (1, [.ref hB, .ref hT, .int (nI sA), .ref aZ, .ref aE, .int (nI tx), .int (nI tp), .int tb]))]) [0] rfl) hX 0 rfl rfl) rfl rfl hl.1 rfl (lv_room (Nat.le_of_ble_eq_true rfl)) d_Cutter_segmentEnd_65 ⟨Nat.le_of_ble_eq_true rfl, Nat.le_of_ble_eq_true rfl⟩) (fun r9 er9 => ?_)
        subst er9
        refine n_lald hx hb hK hP 2 1 rfl rfl (by omega) (by omega) d_Cutter_segmentEnd_68 ?_
        refine lv_lstore (lv' := [(11, .long (iL (u (plc sA ax ((b + 1 + k1) * ((b + 1 + k1) - 1) / 2 + b) ot)))), (0, .ref hC), (1, .int (nI 2)), (2, .int (nI ot)), (3, .int (nI b)), (4, .int (nI en)), (5, .int (nI ax)), (6, .ref (aL 1)), (7, .ref (aL 2)), (8, .long (iL (dpV (sg u sA ax ot) (okc 2 tp ob) b en))), (10, .int (nI (b + 1 + k1)))]) hx hb d_Cutter_segmentEnd_69 hl (by decide) rfl (fun ls hl => ?_)
        refine lv_iload hx hb d_Cutter_segmentEnd_71 (lv_at hl 10 rfl) ?_
        refine lv_iload hx hb d_Cutter_segmentEnd_73 (lv_at hl 5 rfl) ?_
        refine n_icmp_ne (tgt := 82) hx hb (by omega) (by omega) d_Cutter_segmentEnd_75 (by decide) (fun c75 => ?_) (fun c75 => ?_)
        · have hpl2 := gP (b + 1 + k1) en (by omega) (Nat.le_refl _)
          have hvc := gv (b + 1 + k1) (by omega) (by omega)
          refine lv_aload hx hb d_Cutter_segmentEnd_82 (lv_at hl 8 rfl) ?_
          refine lv_aload_n hx hb d_Cutter_segmentEnd_84 rfl (lv_at hl 1 rfl) ?_
          refine lv_iload hx hb d_Cutter_segmentEnd_85 (lv_at hl 6 rfl) ?_
          refine lv_iload hx hb d_Cutter_segmentEnd_87 (lv_at hl 10 rfl) ?_
          refine lv_iload hx hb d_Cutter_segmentEnd_89 (lv_at hl 5 rfl) ?_
          refine nest_Rips_spanOf (G := G) (ty := ty) hx hb hml hown hts hX nst_Cutter_104 hl.1 (by omega) (by omega) (by omega) (lv_room (Nat.le_of_ble_eq_true rfl)) ⟨Nat.le_of_ble_eq_true rfl, Nat.le_of_ble_eq_true rfl⟩ ⟨Nat.le_of_ble_eq_true rfl, Nat.le_of_ble_eq_true rfl⟩ d_Cutter_segmentEnd_91 ?_
          refine lv_iload_n hx hb d_Cutter_segmentEnd_94 rfl (lv_at hl 3 rfl) ?_
          refine vp_callSi (W.runV (As := [.int (nI ax), .int (nI (en * (en - 1) / 2 + (b + 1 + k1))), .int (nI ot)]) (rest := [.ref (aL 2)]) ⟨hx, hb, hml, hown, hts⟩ (c_Cutter_placeOf l G ty hC hB hT sA aZ aE tx tp tb ax (en * (en - 1) / 2 + (b + 1 + k1)) ot (by omega)) ⟨callB_of 3 hts (gd_TB cd_Cutter_placeOf) rfl rfl rfl (hts _ ini_Cutter) (hts _ lk_Cutter_154) hd_Cutter_placeOf ⟨Nat.le_of_ble_eq_true rfl, Nat.le_of_ble_eq_true rfl⟩, hts _ im_Cutter_placeOf, hts _ sl_Cutter_placeOf⟩ (preV_ro (hP.sub (ws' := [(hC, .inr (1, [.ref hB, .ref hT, .int (nI sA), .ref aZ, .ref aE, .int (nI tx), .int (nI tp), .int tb]))]) [0] rfl) hX 0 rfl rfl) rfl rfl hl.1 rfl (lv_room (Nat.le_of_ble_eq_true rfl)) d_Cutter_segmentEnd_95 ⟨Nat.le_of_ble_eq_true rfl, Nat.le_of_ble_eq_true rfl⟩) (fun r9 er9 => ?_)
          subst er9
          refine n_lald hx hb hK hP 3 1 rfl rfl (by omega) (by omega) d_Cutter_segmentEnd_98 ?_
          refine top_l (show (iL (t (plc sA ax (en * (en - 1) / 2 + (b + 1 + k1)) ot))) = (iL (dpV (sg u sA ax ot) (okc 2 tp ob) (b + 1 + k1) en)) from congrArg iL hvc) ?_
          refine lv_lstore (lv' := [(13, .long (iL (dpV (sg u sA ax ot) (okc 2 tp ob) (b + 1 + k1) en))), (11, .long (iL (u (plc sA ax ((b + 1 + k1) * ((b + 1 + k1) - 1) / 2 + b) ot)))), (0, .ref hC), (1, .int (nI 2)), (2, .int (nI ot)), (3, .int (nI b)), (4, .int (nI en)), (5, .int (nI ax)), (6, .ref (aL 1)), (7, .ref (aL 2)), (8, .long (iL (dpV (sg u sA ax ot) (okc 2 tp ob) b en))), (10, .int (nI (b + 1 + k1)))]) hx hb d_Cutter_segmentEnd_99 hl (by decide) rfl (fun ls hl => ?_)
          refine lv_lload hx hb d_Cutter_segmentEnd_101 (lv_at hl 1 rfl) ?_
          refine lv_lconst (v := iL 0) hx hb d_Cutter_segmentEnd_103 (by decide) ?_
          refine l_cmp_le (tgt := 134) hx hb (by omega) (by omega) d_Cutter_segmentEnd_104 d_Cutter_segmentEnd_105 (by decide) (fun c104 => ?_) (fun c104 => ?_)
          · have hk2 : pck (sg u sA ax ot) (okc 2 tp ob) (fun z9 => dpV (sg u sA ax ot) (okc 2 tp ob) z9 en) b (dpV (sg u sA ax ot) (okc 2 tp ob) b en) (en - b) = pck (sg u sA ax ot) (okc 2 tp ob) (fun z9 => dpV (sg u sA ax ot) (okc 2 tp ob) z9 en) b (dpV (sg u sA ax ot) (okc 2 tp ob) b en) k1 := by rw [hk1, pck_s, if_neg]; intro hh; first | omega | exact absurd hh.2.2 (by rw [show okc 2 tp ob (k1 + 1) = false from tN_0 c128]; decide)
            refine lv_iinc (v := (nI (b + k1))) (lv' := [(10, .int (nI (b + k1))), (13, .long (iL (dpV (sg u sA ax ot) (okc 2 tp ob) (b + 1 + k1) en))), (11, .long (iL (u (plc sA ax ((b + 1 + k1) * ((b + 1 + k1) - 1) / 2 + b) ot)))), (0, .ref hC), (1, .int (nI 2)), (2, .int (nI ot)), (3, .int (nI b)), (4, .int (nI en)), (5, .int (nI ax)), (6, .ref (aL 1)), (7, .ref (aL 2)), (8, .long (iL (dpV (sg u sA ax ot) (okc 2 tp ob) b en)))]) hx hb d_Cutter_segmentEnd_134 hl (k := 11) rfl (nI_inc _ _ _ (by omega)) (by decide) rfl (fun ls hl => ?_)
            refine lv_goto (tgt := 47) hx hb d_Cutter_segmentEnd_137 (by decide) ?_
            exact ih47 k1 _ (by omega) hk2 (by omega) (lv_sub hl [3, 4, 5, 6, 7, 8, 9, 10, 11, 0] rfl)
          · refine lv_lload hx hb d_Cutter_segmentEnd_108 (lv_at hl 1 rfl) ?_
            refine lv_lload hx hb d_Cutter_segmentEnd_110 (lv_at hl 0 rfl) ?_
            refine z_ladd hx hb d_Cutter_segmentEnd_112 ?_
            refine lv_lload hx hb d_Cutter_segmentEnd_113 (lv_at hl 10 rfl) ?_
            refine l_cmp_ne (tgt := 134) hx hb (by omega) (by omega) d_Cutter_segmentEnd_115 d_Cutter_segmentEnd_116 (by decide) (fun c115 => ?_) (fun c115 => ?_)
            · have hk2 : pck (sg u sA ax ot) (okc 2 tp ob) (fun z9 => dpV (sg u sA ax ot) (okc 2 tp ob) z9 en) b (dpV (sg u sA ax ot) (okc 2 tp ob) b en) (en - b) = pck (sg u sA ax ot) (okc 2 tp ob) (fun z9 => dpV (sg u sA ax ot) (okc 2 tp ob) z9 en) b (dpV (sg u sA ax ot) (okc 2 tp ob) b en) k1 := by rw [hk1, pck_s, if_neg]; intro hh; first | omega | exact absurd hh.2.2 (by rw [show okc 2 tp ob (k1 + 1) = false from tN_0 c128]; decide)
              refine lv_iinc (v := (nI (b + k1))) (lv' := [(10, .int (nI (b + k1))), (13, .long (iL (dpV (sg u sA ax ot) (okc 2 tp ob) (b + 1 + k1) en))), (11, .long (iL (u (plc sA ax ((b + 1 + k1) * ((b + 1 + k1) - 1) / 2 + b) ot)))), (0, .ref hC), (1, .int (nI 2)), (2, .int (nI ot)), (3, .int (nI b)), (4, .int (nI en)), (5, .int (nI ax)), (6, .ref (aL 1)), (7, .ref (aL 2)), (8, .long (iL (dpV (sg u sA ax ot) (okc 2 tp ob) b en)))]) hx hb d_Cutter_segmentEnd_134 hl (k := 11) rfl (nI_inc _ _ _ (by omega)) (by decide) rfl (fun ls hl => ?_)
              refine lv_goto (tgt := 47) hx hb d_Cutter_segmentEnd_137 (by decide) ?_
              exact ih47 k1 _ (by omega) hk2 (by omega) (lv_sub hl [3, 4, 5, 6, 7, 8, 9, 10, 11, 0] rfl)
            · refine lv_aload_n hx hb d_Cutter_segmentEnd_119 rfl (lv_at hl 2 rfl) ?_
              refine lv_iload_n hx hb d_Cutter_segmentEnd_120 rfl (lv_at hl 3 rfl) ?_
              refine lv_iload hx hb d_Cutter_segmentEnd_121 (lv_at hl 11 rfl) ?_
              refine lv_iload_n hx hb d_Cutter_segmentEnd_123 rfl (lv_at hl 5 rfl) ?_
              refine n_isub hx hb (by omega) d_Cutter_segmentEnd_124 ?_
              refine top_i (show (nI ((b + 1 + k1) - b)) = (nI (k1 + 1)) from congrArg nI (by omega)) ?_
              refine vp_callSi (W.runV (As := [.int (nI 2), .int (nI (k1 + 1))]) (rest := []) ⟨hx, hb, hml, hown, hts⟩ (c_Cutter_mayCut l G ty hC hB hT sA aZ aE tx tp tb 2 (k1 + 1) nb ob (by omega) (by omega) (by omega) (by omega) gb) ⟨callB_of 2 hts (gd_TB cd_Cutter_mayCut) rfl rfl rfl (hts _ ini_Cutter) (hts _ lk_Cutter_158) hd_Cutter_mayCut ⟨Nat.le_of_ble_eq_true rfl, Nat.le_of_ble_eq_true rfl⟩, hts _ im_Cutter_mayCut, hts _ sl_Cutter_mayCut⟩ (preV_ro (hP.sub (ws' := [(hC, .inr (1, [.ref hB, .ref hT, .int (nI sA), .ref aZ, .ref aE, .int (nI tx), .int (nI tp), .int tb]))]) [0] rfl) hX 0 rfl rfl) rfl rfl hl.1 rfl (lv_room (Nat.le_of_ble_eq_true rfl)) d_Cutter_segmentEnd_125 ⟨Nat.le_of_ble_eq_true rfl, Nat.le_of_ble_eq_true rfl⟩) (fun r9 er9 => ?_)
              subst er9
              refine n_if_eq (tgt := 134) hx hb (tN_lt _) d_Cutter_segmentEnd_128 (by decide) (fun c128 => ?_) (fun c128 => ?_)
              · have hk2 : pck (sg u sA ax ot) (okc 2 tp ob) (fun z9 => dpV (sg u sA ax ot) (okc 2 tp ob) z9 en) b (dpV (sg u sA ax ot) (okc 2 tp ob) b en) (en - b) = pck (sg u sA ax ot) (okc 2 tp ob) (fun z9 => dpV (sg u sA ax ot) (okc 2 tp ob) z9 en) b (dpV (sg u sA ax ot) (okc 2 tp ob) b en) k1 := by rw [hk1, pck_s, if_neg]; intro hh; first | omega | exact absurd hh.2.2 (by rw [show okc 2 tp ob (k1 + 1) = false from tN_0 c128]; decide)
                refine lv_iinc (v := (nI (b + k1))) (lv' := [(10, .int (nI (b + k1))), (13, .long (iL (dpV (sg u sA ax ot) (okc 2 tp ob) (b + 1 + k1) en))), (11, .long (iL (u (plc sA ax ((b + 1 + k1) * ((b + 1 + k1) - 1) / 2 + b) ot)))), (0, .ref hC), (1, .int (nI 2)), (2, .int (nI ot)), (3, .int (nI b)), (4, .int (nI en)), (5, .int (nI ax)), (6, .ref (aL 1)), (7, .ref (aL 2)), (8, .long (iL (dpV (sg u sA ax ot) (okc 2 tp ob) b en)))]) hx hb d_Cutter_segmentEnd_134 hl (k := 11) rfl (nI_inc _ _ _ (by omega)) (by decide) rfl (fun ls hl => ?_)
                refine lv_goto (tgt := 47) hx hb d_Cutter_segmentEnd_137 (by decide) ?_
                exact ih47 k1 _ (by omega) hk2 (by omega) (lv_sub hl [3, 4, 5, 6, 7, 8, 9, 10, 11, 0] rfl)
              · refine lv_iload hx hb d_Cutter_segmentEnd_131 (lv_at hl 11 rfl) ?_
                exact W.iret (v := (nI (b + 1 + k1))) hx hb hr (fun t9 ht _ => ⟨_, rfl, by rw [hk1, pck_s, if_pos ⟨by omega, by omega, tN_1 c128⟩]; unfold pkZ; rw [if_neg (by omega), nI_iI], ht⟩) (fun q h => by cases h) d_Cutter_segmentEnd_133
        · refine lv_lconst (v := iL 0) hx hb d_Cutter_segmentEnd_78 (by decide) ?_
          refine top_l (show (iL 0) = (iL (dpV (sg u sA ax ot) (okc 2 tp ob) (b + 1 + k1) en)) from congrArg iL (by rw [show (b + 1 + k1) = en from by omega, dpV_end])) ?_
          refine lv_goto (tgt := 99) hx hb d_Cutter_segmentEnd_79 (by decide) ?_
          refine lv_lstore (lv' := [(13, .long (iL (dpV (sg u sA ax ot) (okc 2 tp ob) (b + 1 + k1) en))), (11, .long (iL (u (plc sA ax ((b + 1 + k1) * ((b + 1 + k1) - 1) / 2 + b) ot)))), (0, .ref hC), (1, .int (nI 2)), (2, .int (nI ot)), (3, .int (nI b)), (4, .int (nI en)), (5, .int (nI ax)), (6, .ref (aL 1)), (7, .ref (aL 2)), (8, .long (iL (dpV (sg u sA ax ot) (okc 2 tp ob) b en))), (10, .int (nI (b + 1 + k1)))]) hx hb d_Cutter_segmentEnd_99 hl (by decide) rfl (fun ls hl => ?_)
          refine lv_lload hx hb d_Cutter_segmentEnd_101 (lv_at hl 1 rfl) ?_
          refine lv_lconst (v := iL 0) hx hb d_Cutter_segmentEnd_103 (by decide) ?_
          refine l_cmp_le (tgt := 134) hx hb (by omega) (by omega) d_Cutter_segmentEnd_104 d_Cutter_segmentEnd_105 (by decide) (fun c104 => ?_) (fun c104 => ?_)
          · have hk2 : pck (sg u sA ax ot) (okc 2 tp ob) (fun z9 => dpV (sg u sA ax ot) (okc 2 tp ob) z9 en) b (dpV (sg u sA ax ot) (okc 2 tp ob) b en) (en - b) = pck (sg u sA ax ot) (okc 2 tp ob) (fun z9 => dpV (sg u sA ax ot) (okc 2 tp ob) z9 en) b (dpV (sg u sA ax ot) (okc 2 tp ob) b en) k1 := by rw [hk1, pck_s, if_neg]; intro hh; first | omega | exact absurd hh.2.2 (by rw [show okc 2 tp ob (k1 + 1) = false from tN_0 c128]; decide)
            refine lv_iinc (v := (nI (b + k1))) (lv' := [(10, .int (nI (b + k1))), (13, .long (iL (dpV (sg u sA ax ot) (okc 2 tp ob) (b + 1 + k1) en))), (11, .long (iL (u (plc sA ax ((b + 1 + k1) * ((b + 1 + k1) - 1) / 2 + b) ot)))), (0, .ref hC), (1, .int (nI 2)), (2, .int (nI ot)), (3, .int (nI b)), (4, .int (nI en)), (5, .int (nI ax)), (6, .ref (aL 1)), (7, .ref (aL 2)), (8, .long (iL (dpV (sg u sA ax ot) (okc 2 tp ob) b en)))]) hx hb d_Cutter_segmentEnd_134 hl (k := 11) rfl (nI_inc _ _ _ (by omega)) (by decide) rfl (fun ls hl => ?_)
            refine lv_goto (tgt := 47) hx hb d_Cutter_segmentEnd_137 (by decide) ?_
            exact ih47 k1 _ (by omega) hk2 (by omega) (lv_sub hl [3, 4, 5, 6, 7, 8, 9, 10, 11, 0] rfl)
          · refine lv_lload hx hb d_Cutter_segmentEnd_108 (lv_at hl 1 rfl) ?_
            refine lv_lload hx hb d_Cutter_segmentEnd_110 (lv_at hl 0 rfl) ?_
            refine z_ladd hx hb d_Cutter_segmentEnd_112 ?_
            refine lv_lload hx hb d_Cutter_segmentEnd_113 (lv_at hl 10 rfl) ?_
            refine l_cmp_ne (tgt := 134) hx hb (by omega) (by omega) d_Cutter_segmentEnd_115 d_Cutter_segmentEnd_116 (by decide) (fun c115 => ?_) (fun c115 => ?_)
            · have hk2 : pck (sg u sA ax ot) (okc 2 tp ob) (fun z9 => dpV (sg u sA ax ot) (okc 2 tp ob) z9 en) b (dpV (sg u sA ax ot) (okc 2 tp ob) b en) (en - b) = pck (sg u sA ax ot) (okc 2 tp ob) (fun z9 => dpV (sg u sA ax ot) (okc 2 tp ob) z9 en) b (dpV (sg u sA ax ot) (okc 2 tp ob) b en) k1 := by rw [hk1, pck_s, if_neg]; intro hh; first | omega | exact absurd hh.2.2 (by rw [show okc 2 tp ob (k1 + 1) = false from tN_0 c128]; decide)
              refine lv_iinc (v := (nI (b + k1))) (lv' := [(10, .int (nI (b + k1))), (13, .long (iL (dpV (sg u sA ax ot) (okc 2 tp ob) (b + 1 + k1) en))), (11, .long (iL (u (plc sA ax ((b + 1 + k1) * ((b + 1 + k1) - 1) / 2 + b) ot)))), (0, .ref hC), (1, .int (nI 2)), (2, .int (nI ot)), (3, .int (nI b)), (4, .int (nI en)), (5, .int (nI ax)), (6, .ref (aL 1)), (7, .ref (aL 2)), (8, .long (iL (dpV (sg u sA ax ot) (okc 2 tp ob) b en)))]) hx hb d_Cutter_segmentEnd_134 hl (k := 11) rfl (nI_inc _ _ _ (by omega)) (by decide) rfl (fun ls hl => ?_)
              refine lv_goto (tgt := 47) hx hb d_Cutter_segmentEnd_137 (by decide) ?_
              exact ih47 k1 _ (by omega) hk2 (by omega) (lv_sub hl [3, 4, 5, 6, 7, 8, 9, 10, 11, 0] rfl)
            · refine lv_aload_n hx hb d_Cutter_segmentEnd_119 rfl (lv_at hl 2 rfl) ?_
              refine lv_iload_n hx hb d_Cutter_segmentEnd_120 rfl (lv_at hl 3 rfl) ?_
              refine lv_iload hx hb d_Cutter_segmentEnd_121 (lv_at hl 11 rfl) ?_
              refine lv_iload_n hx hb d_Cutter_segmentEnd_123 rfl (lv_at hl 5 rfl) ?_
              refine n_isub hx hb (by omega) d_Cutter_segmentEnd_124 ?_
              refine top_i (show (nI ((b + 1 + k1) - b)) = (nI (k1 + 1)) from congrArg nI (by omega)) ?_
              refine vp_callSi (W.runV (As := [.int (nI 2), .int (nI (k1 + 1))]) (rest := []) ⟨hx, hb, hml, hown, hts⟩ (c_Cutter_mayCut l G ty hC hB hT sA aZ aE tx tp tb 2 (k1 + 1) nb ob (by omega) (by omega) (by omega) (by omega) gb) ⟨callB_of 2 hts (gd_TB cd_Cutter_mayCut) rfl rfl rfl (hts _ ini_Cutter) (hts _ lk_Cutter_158) hd_Cutter_mayCut ⟨Nat.le_of_ble_eq_true rfl, Nat.le_of_ble_eq_true rfl⟩, hts _ im_Cutter_mayCut, hts _ sl_Cutter_mayCut⟩ (preV_ro (hP.sub (ws' := [(hC, .inr (1, [.ref hB, .ref hT, .int (nI sA), .ref aZ, .ref aE, .int (nI tx), .int (nI tp), .int tb]))]) [0] rfl) hX 0 rfl rfl) rfl rfl hl.1 rfl (lv_room (Nat.le_of_ble_eq_true rfl)) d_Cutter_segmentEnd_125 ⟨Nat.le_of_ble_eq_true rfl, Nat.le_of_ble_eq_true rfl⟩) (fun r9 er9 => ?_)
              subst er9
              refine n_if_eq (tgt := 134) hx hb (tN_lt _) d_Cutter_segmentEnd_128 (by decide) (fun c128 => ?_) (fun c128 => ?_)
              · have hk2 : pck (sg u sA ax ot) (okc 2 tp ob) (fun z9 => dpV (sg u sA ax ot) (okc 2 tp ob) z9 en) b (dpV (sg u sA ax ot) (okc 2 tp ob) b en) (en - b) = pck (sg u sA ax ot) (okc 2 tp ob) (fun z9 => dpV (sg u sA ax ot) (okc 2 tp ob) z9 en) b (dpV (sg u sA ax ot) (okc 2 tp ob) b en) k1 := by rw [hk1, pck_s, if_neg]; intro hh; first | omega | exact absurd hh.2.2 (by rw [show okc 2 tp ob (k1 + 1) = false from tN_0 c128]; decide)
                refine lv_iinc (v := (nI (b + k1))) (lv' := [(10, .int (nI (b + k1))), (13, .long (iL (dpV (sg u sA ax ot) (okc 2 tp ob) (b + 1 + k1) en))), (11, .long (iL (u (plc sA ax ((b + 1 + k1) * ((b + 1 + k1) - 1) / 2 + b) ot)))), (0, .ref hC), (1, .int (nI 2)), (2, .int (nI ot)), (3, .int (nI b)), (4, .int (nI en)), (5, .int (nI ax)), (6, .ref (aL 1)), (7, .ref (aL 2)), (8, .long (iL (dpV (sg u sA ax ot) (okc 2 tp ob) b en)))]) hx hb d_Cutter_segmentEnd_134 hl (k := 11) rfl (nI_inc _ _ _ (by omega)) (by decide) rfl (fun ls hl => ?_)
                refine lv_goto (tgt := 47) hx hb d_Cutter_segmentEnd_137 (by decide) ?_
                exact ih47 k1 _ (by omega) hk2 (by omega) (lv_sub hl [3, 4, 5, 6, 7, 8, 9, 10, 11, 0] rfl)
              · refine lv_iload hx hb d_Cutter_segmentEnd_131 (lv_at hl 11 rfl) ?_
                exact W.iret (v := (nI (b + 1 + k1))) hx hb hr (fun t9 ht _ => ⟨_, rfl, by rw [hk1, pck_s, if_pos ⟨by omega, by omega, tN_1 c128⟩]; unfold pkZ; rw [if_neg (by omega), nI_iI], ht⟩) (fun q h => by cases h) d_Cutter_segmentEnd_133
  exact L47 ((en - b) + 1) (en - b) _ (by omega) rfl (Nat.lt_succ_self _) (lv_sub hl [5, 6, 7, 8, 9, 4, 3, 2, 1, 0] rfl)

abbrev q_segEnd3 (G : va_G) (ty : Nat → ClassId) (hC : Nat) (hB : Nat) (hT : Nat) (sA : Nat) (aZ : Nat) (aE : Nat) (tx : Nat) (tp : Nat) (tb : Int32) (ax : Nat) (ot : Nat) (b : Nat) (en : Nat) (nT : Nat) (nb : Nat) (fZ : Nat → Option Nat) (aL : Nat → Nat) (u : Nat → Int) (t : Nat → Int) (ob : Nat → Bool) : Array Value → State → Outcome → State → Prop := vp_Si (fun r : Int32 => r = (iI (pkZ (pck (sg u sA ax ot) (okc 3 tp ob) (fun z9 => dpV (sg u sA ax ot) (okc 3 tp ob) z9 en) b (dpV (sg u sA ax ot) (okc 3 tp ob) b en) (en - b)))))
set_option maxRecDepth 100000 in
set_option maxHeartbeats 4000000 in
theorem c_segEnd3 (l : Launch) (G : va_G) (ty : Nat → ClassId) (hC : Nat) (hB : Nat) (hT : Nat) (sA : Nat) (aZ : Nat) (aE : Nat) (tx : Nat) (tp : Nat) (tb : Int32) (ax : Nat) (ot : Nat) (b : Nat) (en : Nat) (nT : Nat) (nb : Nat) (fZ : Nat → Option Nat) (aL : Nat → Nat) (u : Nat → Int) (t : Nat → Int) (ob : Nat → Bool) (gl : ∀ i, i < 4 → fZ i = some (aL i)) (g1 : tx ≤ 1) (ga : ax = (if (tp - 3) % 2 = 0 then tx else 1 - tx)) (g2 : b < en) (g3 : en ≤ 24) (g4 : nT ≤ 100000) (g5 : tp ≤ 3) (g6 : nb ≤ 25) (g7 : 3 ≤ tp) (g9 : 3 < tp ∨ en < nb) (gb : tb = Mk ob nb) (gP : ∀ b n, b < n → n ≤ en → plc sA ax (n * (n - 1) / 2 + b) ot < nT) (gu : ∀ b n, b < n → n ≤ en → 0 ≤ (sg u sA ax ot) b n ∧ (sg u sA ax ot) b n ≤ 100000000000000) (gv : ∀ p, b ≤ p → p < en → t (plc sA ax (en * (en - 1) / 2 + p) ot) = dpV (sg u sA ax ot) (okc 3 tp ob) p en) : Met l y_Cutter_segmentEnd ws_Cutter_segmentEnd { frames := 2, cells := 0, slots := 0, locals := 44 } (va_Pc [.ref hC, .int (nI 3), .int (nI ot), .int (nI b), .int (nI en)] (fun U => va_P G vwCl [(hC, .inr (1, [.ref hB, .ref hT, .int (nI sA), .ref aZ, .ref aE, .int (nI tx), .int (nI tp), .int tb])), (aZ, .inl (ty 6, 4, .inr (.inr (.inr (.inr fZ))))), (aL 2, .inl (ty 1, nT, .inr (.inl (lF u)))), (aL 3, .inl (ty 1, nT, .inr (.inl (lF t))))] U.heap ∧ KX G ty U)) (q_segEnd3 G ty hC hB hT sA aZ aE tx tp tb ax ot b en nT nb fZ aL u t ob) 0 0 (fun _ => False) := by
  refine met_ro R_Cutter (by decide) rfl rfl (Nat.le_of_ble_eq_true rfl) ?_
  intro p e s m below meth c ls hx hb hr hml hown hts hlocks hP hX hl
  have hK := hX.1
  have hl : lv_has ls 15 [(0, .ref hC), (1, .int (nI 3)), (2, .int (nI ot)), (3, .int (nI b)), (4, .int (nI en))] := hl
  have hax : ax ≤ 1 := by rw [ga]; split <;> omega
  have hbt := gP b en g2 (Nat.le_refl _)
  have hvb := gv b (Nat.le_refl _) g2
  have hbb := dpV_b (ok := (okc 3 tp ob)) (Nat.le_of_lt g2) gu
  refine lv_aload_n hx hb d_Cutter_segmentEnd_0 rfl (lv_at hl 0 rfl) ?_
  refine lv_iload_n hx hb d_Cutter_segmentEnd_1 rfl (lv_at hl 1 rfl) ?_
  refine vp_callSi (W.runV (As := [.int (nI 3)]) (rest := []) ⟨hx, hb, hml, hown, hts⟩ (c_Cutter_axisOf l G ty hC hB hT sA aZ aE tx tp tb 3 (by omega) (by omega) (by omega)) ⟨callB_of 1 hts (gd_TB cd_Cutter_axisOf) rfl rfl rfl (hts _ ini_Cutter) (hts _ lk_Cutter_144) hd_Cutter_axisOf ⟨Nat.le_of_ble_eq_true rfl, Nat.le_of_ble_eq_true rfl⟩, hts _ im_Cutter_axisOf, hts _ sl_Cutter_axisOf⟩ (preV_ro (hP.sub (ws' := [(hC, .inr (1, [.ref hB, .ref hT, .int (nI sA), .ref aZ, .ref aE, .int (nI tx), .int (nI tp), .int tb]))]) [0] rfl) hX 0 rfl rfl) rfl rfl hl.1 rfl (lv_room (Nat.le_of_ble_eq_true rfl)) d_Cutter_segmentEnd_2 ⟨Nat.le_of_ble_eq_true rfl, Nat.le_of_ble_eq_true rfl⟩) (fun r9 er9 => ?_)
  subst er9
  refine top_i (show (nI (if (tp - 3) % 2 = 0 then tx else 1 - tx)) = (nI ax) from congrArg nI ga.symm) ?_
  refine lv_istore (lv' := [(5, .int (nI ax)), (0, .ref hC), (1, .int (nI 3)), (2, .int (nI ot)), (3, .int (nI b)), (4, .int (nI en))]) hx hb d_Cutter_segmentEnd_5 hl (by decide) rfl (fun ls hl => ?_)
  refine lv_aload_n hx hb d_Cutter_segmentEnd_7 rfl (lv_at hl 1 rfl) ?_
  refine va_get (D := G) (ci := 1) (v := .ref aZ) (C := R_Cutter) (T := F_Cutter) (N := 8) hx hb hts in_Cutter hown hK hP 0 rfl rfl 3 (by decide) (hts _ fl_Cutter_11) (fun _ h9 => h9) rfl d_Cutter_segmentEnd_8 ?_
  refine lv_iload_n hx hb d_Cutter_segmentEnd_11 rfl (lv_at hl 2 rfl) ?_
  refine lv_iconst (v := (nI 1)) hx hb d_Cutter_segmentEnd_12 (by decide) ?_
  refine n_isub hx hb (by omega) d_Cutter_segmentEnd_13 ?_
  refine top_i (show (nI (3 - 1)) = nI 2 from rfl) ?_
  refine n_aaldA hx hb hK hP 1 6 rfl rfl (by omega) (by omega) (gl 2 (by omega)) d_Cutter_segmentEnd_14 ?_
  refine lv_astore (lv' := [(6, .ref (aL 2)), (5, .int (nI ax)), (0, .ref hC), (1, .int (nI 3)), (2, .int (nI ot)), (3, .int (nI b)), (4, .int (nI en))]) hx hb d_Cutter_segmentEnd_15 hl (by decide) rfl (fun ls hl => ?_)
  refine lv_aload_n hx hb d_Cutter_segmentEnd_17 rfl (lv_at hl 2 rfl) ?_
  refine va_get (D := G) (ci := 1) (v := .ref aZ) (C := R_Cutter) (T := F_Cutter) (N := 8) hx hb hts in_Cutter hown hK hP 0 rfl rfl 3 (by decide) (hts _ fl_Cutter_11) (fun _ h9 => h9) rfl d_Cutter_segmentEnd_18 ?_
  refine lv_iload_n hx hb d_Cutter_segmentEnd_21 rfl (lv_at hl 3 rfl) ?_
  refine n_aaldA hx hb hK hP 1 6 rfl rfl (by omega) (by omega) (gl 3 (by omega)) d_Cutter_segmentEnd_22 ?_
  refine lv_astore (lv' := [(7, .ref (aL 3)), (6, .ref (aL 2)), (5, .int (nI ax)), (0, .ref hC), (1, .int (nI 3)), (2, .int (nI ot)), (3, .int (nI b)), (4, .int (nI en))]) hx hb d_Cutter_segmentEnd_23 hl (by decide) rfl (fun ls hl => ?_)
  refine lv_aload hx hb d_Cutter_segmentEnd_25 (lv_at hl 0 rfl) ?_
  refine lv_aload_n hx hb d_Cutter_segmentEnd_27 rfl (lv_at hl 3 rfl) ?_
  refine lv_iload hx hb d_Cutter_segmentEnd_28 (lv_at hl 2 rfl) ?_
  refine lv_iload_n hx hb d_Cutter_segmentEnd_30 rfl (lv_at hl 6 rfl) ?_
  refine lv_iload hx hb d_Cutter_segmentEnd_31 (lv_at hl 7 rfl) ?_
  refine nest_Rips_spanOf (G := G) (ty := ty) hx hb hml hown hts hX nst_Cutter_104 hl.1 (by omega) (by omega) (by omega) (lv_room (Nat.le_of_ble_eq_true rfl)) ⟨Nat.le_of_ble_eq_true rfl, Nat.le_of_ble_eq_true rfl⟩ ⟨Nat.le_of_ble_eq_true rfl, Nat.le_of_ble_eq_true rfl⟩ d_Cutter_segmentEnd_33 ?_
  refine lv_iload_n hx hb d_Cutter_segmentEnd_36 rfl (lv_at hl 5 rfl) ?_
  refine vp_callSi (W.runV (As := [.int (nI ax), .int (nI (en * (en - 1) / 2 + b)), .int (nI ot)]) (rest := [.ref (aL 3)]) ⟨hx, hb, hml, hown, hts⟩ (c_Cutter_placeOf l G ty hC hB hT sA aZ aE tx tp tb ax (en * (en - 1) / 2 + b) ot (by omega)) ⟨callB_of 3 hts (gd_TB cd_Cutter_placeOf) rfl rfl rfl (hts _ ini_Cutter) (hts _ lk_Cutter_154) hd_Cutter_placeOf ⟨Nat.le_of_ble_eq_true rfl, Nat.le_of_ble_eq_true rfl⟩, hts _ im_Cutter_placeOf, hts _ sl_Cutter_placeOf⟩ (preV_ro (hP.sub (ws' := [(hC, .inr (1, [.ref hB, .ref hT, .int (nI sA), .ref aZ, .ref aE, .int (nI tx), .int (nI tp), .int tb]))]) [0] rfl) hX 0 rfl rfl) rfl rfl hl.1 rfl (lv_room (Nat.le_of_ble_eq_true rfl)) d_Cutter_segmentEnd_37 ⟨Nat.le_of_ble_eq_true rfl, Nat.le_of_ble_eq_true rfl⟩) (fun r9 er9 => ?_)
  subst er9
  refine n_lald hx hb hK hP 3 1 rfl rfl (by omega) (by omega) d_Cutter_segmentEnd_40 ?_
  refine top_l (show (iL (t (plc sA ax (en * (en - 1) / 2 + b) ot))) = (iL (dpV (sg u sA ax ot) (okc 3 tp ob) b en)) from congrArg iL hvb) ?_
  refine lv_lstore (lv' := [(8, .long (iL (dpV (sg u sA ax ot) (okc 3 tp ob) b en))), (7, .ref (aL 3)), (6, .ref (aL 2)), (5, .int (nI ax)), (0, .ref hC), (1, .int (nI 3)), (2, .int (nI ot)), (3, .int (nI b)), (4, .int (nI en))]) hx hb d_Cutter_segmentEnd_41 hl (by decide) rfl (fun ls hl => ?_)
  refine lv_iload hx hb d_Cutter_segmentEnd_43 (lv_at hl 8 rfl) ?_
  refine top_i (show (nI en) = (nI (b + (en - b))) from congrArg nI (by omega)) ?_
  refine lv_istore (lv' := [(10, .int (nI (b + (en - b)))), (8, .long (iL (dpV (sg u sA ax ot) (okc 3 tp ob) b en))), (7, .ref (aL 3)), (6, .ref (aL 2)), (5, .int (nI ax)), (0, .ref hC), (1, .int (nI 3)), (2, .int (nI ot)), (3, .int (nI b)), (4, .int (nI en))]) hx hb d_Cutter_segmentEnd_45 hl (by decide) rfl (fun ls hl => ?_)
  have L47 : ∀ (k9 : Nat) (k : Nat) (ls : Array Slot), (b + k ≤ en) → (pck (sg u sA ax ot) (okc 3 tp ob) (fun z9 => dpV (sg u sA ax ot) (okc 3 tp ob) z9 en) b (dpV (sg u sA ax ot) (okc 3 tp ob) b en) (en - b) = pck (sg u sA ax ot) (okc 3 tp ob) (fun z9 => dpV (sg u sA ax ot) (okc 3 tp ob) z9 en) b (dpV (sg u sA ax ot) (okc 3 tp ob) b en) k) → k < k9 → lv_has ls 15 [(0, .ref hC), (1, .int (nI 3)), (2, .int (nI ot)), (3, .int (nI b)), (4, .int (nI en)), (5, .int (nI ax)), (6, .ref (aL 2)), (7, .ref (aL 3)), (8, .long (iL (dpV (sg u sA ax ot) (okc 3 tp ob) b en))), (10, .int (nI (b + k)))] → W p l e { frames := 2, cells := 0, slots := 0, locals := 44 } s m [.ref hC, .int (nI 3), .int (nI ot), .int (nI b), .int (nI en)].toArray below meth c s.heap [] 0 0 (MQ below (q_segEnd3 G ty hC hB hT sA aZ aE tx tp tb ax ot b en nT nb fZ aL u t ob) [.ref hC, .int (nI 3), .int (nI ot), .int (nI b), .int (nI en)].toArray s 0 0 (fun _ => False)) (F0 m 47 ls []) := by
    intro k9
    induction k9 with
    | zero => intro k ls hk0 hk1 hk9; exact absurd hk9 (Nat.not_lt_zero _)
    | succ k9 ih47 =>
      intro k ls hk0 hk1 hk9 hl
      refine lv_iload hx hb d_Cutter_segmentEnd_47 (lv_at hl 9 rfl) ?_
      refine lv_iload_n hx hb d_Cutter_segmentEnd_49 rfl (lv_at hl 3 rfl) ?_
      refine n_icmp_le (tgt := 140) hx hb (by omega) (by omega) d_Cutter_segmentEnd_50 (by decide) (fun c50 => ?_) (fun c50 => ?_)
      · refine lv_iconst (v := (iI (-1))) hx hb d_Cutter_segmentEnd_140 (by decide) ?_
        exact W.iret (v := (iI (-1))) hx hb hr (fun t9 ht _ => ⟨_, rfl, by rw [hk1, show k = 0 from by omega]; rfl, ht⟩) (fun q h => by cases h) d_Cutter_segmentEnd_141
      · obtain ⟨k1, rfl⟩ : ∃ k1, k = k1 + 1 := ⟨k - 1, by omega⟩
        have hl : lv_has ls 15 [(0, .ref hC), (1, .int (nI 3)), (2, .int (nI ot)), (3, .int (nI b)), (4, .int (nI en)), (5, .int (nI ax)), (6, .ref (aL 2)), (7, .ref (aL 3)), (8, .long (iL (dpV (sg u sA ax ot) (okc 3 tp ob) b en))), (10, .int (nI (b + 1 + k1)))] := by rw [show (nI (b + 1 + k1)) = (nI (b + (k1 + 1))) from congrArg nI (by omega)]; exact hl
        have hseg := gu b (b + 1 + k1) (by omega) (by omega)
        have hpl := gP b (b + 1 + k1) (by omega) (by omega)
        have esg : sg u sA ax ot b (b + 1 + k1) = u (plc sA ax ((b + 1 + k1) * ((b + 1 + k1) - 1) / 2 + b) ot) := rfl
        have hrb := dpV_b (ok := (okc 3 tp ob)) (show (b + 1 + k1) ≤ en by omega) gu
        refine lv_aload hx hb d_Cutter_segmentEnd_53 (lv_at hl 6 rfl) ?_
        refine lv_aload_n hx hb d_Cutter_segmentEnd_55 rfl (lv_at hl 0 rfl) ?_
        refine lv_iload hx hb d_Cutter_segmentEnd_56 (lv_at hl 5 rfl) ?_
        refine lv_iload_n hx hb d_Cutter_segmentEnd_58 rfl (lv_at hl 3 rfl) ?_
        refine lv_iload hx hb d_Cutter_segmentEnd_59 (lv_at hl 9 rfl) ?_
        refine nest_Rips_spanOf (G := G) (ty := ty) hx hb hml hown hts hX nst_Cutter_104 hl.1 (by omega) (by omega) (by omega) (lv_room (Nat.le_of_ble_eq_true rfl)) ⟨Nat.le_of_ble_eq_true rfl, Nat.le_of_ble_eq_true rfl⟩ ⟨Nat.le_of_ble_eq_true rfl, Nat.le_of_ble_eq_true rfl⟩ d_Cutter_segmentEnd_61 ?_
        refine lv_iload_n hx hb d_Cutter_segmentEnd_64 rfl (lv_at hl 2 rfl) ?_
        refine vp_callSi (W.runV (As := [.int (nI ax), .int (nI ((b + 1 + k1) * ((b + 1 + k1) - 1) / 2 + b)), .int (nI ot)]) (rest := [.ref (aL 2)]) ⟨hx, hb, hml, hown, hts⟩ (c_Cutter_placeOf l G ty hC hB hT sA aZ aE tx tp tb ax ((b + 1 + k1) * ((b + 1 + k1) - 1) / 2 + b) ot (by omega)) ⟨callB_of 3 hts (gd_TB cd_Cutter_placeOf) rfl rfl rfl (hts _ ini_Cutter) (hts _ lk_Cutter_154) hd_Cutter_placeOf ⟨Nat.le_of_ble_eq_true rfl, Nat.le_of_ble_eq_true rfl⟩, hts _ im_Cutter_placeOf, hts _ sl_Cutter_placeOf⟩ (preV_ro (hP.sub (ws' := [(hC, .inr (1, [.ref hB, .ref hT, .int (nI sA), .ref aZ, .ref aE, .int (nI tx), .int (nI tp), .int tb]))]) [0] rfl) hX 0 rfl rfl) rfl rfl hl.1 rfl (lv_room (Nat.le_of_ble_eq_true rfl)) d_Cutter_segmentEnd_65 ⟨Nat.le_of_ble_eq_true rfl, Nat.le_of_ble_eq_true rfl⟩) (fun r9 er9 => ?_)
        subst er9
        refine n_lald hx hb hK hP 2 1 rfl rfl (by omega) (by omega) d_Cutter_segmentEnd_68 ?_
        refine lv_lstore (lv' := [(11, .long (iL (u (plc sA ax ((b + 1 + k1) * ((b + 1 + k1) - 1) / 2 + b) ot)))), (0, .ref hC), (1, .int (nI 3)), (2, .int (nI ot)), (3, .int (nI b)), (4, .int (nI en)), (5, .int (nI ax)), (6, .ref (aL 2)), (7, .ref (aL 3)), (8, .long (iL (dpV (sg u sA ax ot) (okc 3 tp ob) b en))), (10, .int (nI (b + 1 + k1)))]) hx hb d_Cutter_segmentEnd_69 hl (by decide) rfl (fun ls hl => ?_)
        refine lv_iload hx hb d_Cutter_segmentEnd_71 (lv_at hl 10 rfl) ?_
        refine lv_iload hx hb d_Cutter_segmentEnd_73 (lv_at hl 5 rfl) ?_
        refine n_icmp_ne (tgt := 82) hx hb (by omega) (by omega) d_Cutter_segmentEnd_75 (by decide) (fun c75 => ?_) (fun c75 => ?_)
        · have hpl2 := gP (b + 1 + k1) en (by omega) (Nat.le_refl _)
          have hvc := gv (b + 1 + k1) (by omega) (by omega)
          refine lv_aload hx hb d_Cutter_segmentEnd_82 (lv_at hl 8 rfl) ?_
          refine lv_aload_n hx hb d_Cutter_segmentEnd_84 rfl (lv_at hl 1 rfl) ?_
          refine lv_iload hx hb d_Cutter_segmentEnd_85 (lv_at hl 6 rfl) ?_
          refine lv_iload hx hb d_Cutter_segmentEnd_87 (lv_at hl 10 rfl) ?_
          refine lv_iload hx hb d_Cutter_segmentEnd_89 (lv_at hl 5 rfl) ?_
          refine nest_Rips_spanOf (G := G) (ty := ty) hx hb hml hown hts hX nst_Cutter_104 hl.1 (by omega) (by omega) (by omega) (lv_room (Nat.le_of_ble_eq_true rfl)) ⟨Nat.le_of_ble_eq_true rfl, Nat.le_of_ble_eq_true rfl⟩ ⟨Nat.le_of_ble_eq_true rfl, Nat.le_of_ble_eq_true rfl⟩ d_Cutter_segmentEnd_91 ?_
          refine lv_iload_n hx hb d_Cutter_segmentEnd_94 rfl (lv_at hl 3 rfl) ?_
          refine vp_callSi (W.runV (As := [.int (nI ax), .int (nI (en * (en - 1) / 2 + (b + 1 + k1))), .int (nI ot)]) (rest := [.ref (aL 3)]) ⟨hx, hb, hml, hown, hts⟩ (c_Cutter_placeOf l G ty hC hB hT sA aZ aE tx tp tb ax (en * (en - 1) / 2 + (b + 1 + k1)) ot (by omega)) ⟨callB_of 3 hts (gd_TB cd_Cutter_placeOf) rfl rfl rfl (hts _ ini_Cutter) (hts _ lk_Cutter_154) hd_Cutter_placeOf ⟨Nat.le_of_ble_eq_true rfl, Nat.le_of_ble_eq_true rfl⟩, hts _ im_Cutter_placeOf, hts _ sl_Cutter_placeOf⟩ (preV_ro (hP.sub (ws' := [(hC, .inr (1, [.ref hB, .ref hT, .int (nI sA), .ref aZ, .ref aE, .int (nI tx), .int (nI tp), .int tb]))]) [0] rfl) hX 0 rfl rfl) rfl rfl hl.1 rfl (lv_room (Nat.le_of_ble_eq_true rfl)) d_Cutter_segmentEnd_95 ⟨Nat.le_of_ble_eq_true rfl, Nat.le_of_ble_eq_true rfl⟩) (fun r9 er9 => ?_)
          subst er9
          refine n_lald hx hb hK hP 3 1 rfl rfl (by omega) (by omega) d_Cutter_segmentEnd_98 ?_
          refine top_l (show (iL (t (plc sA ax (en * (en - 1) / 2 + (b + 1 + k1)) ot))) = (iL (dpV (sg u sA ax ot) (okc 3 tp ob) (b + 1 + k1) en)) from congrArg iL hvc) ?_
          refine lv_lstore (lv' := [(13, .long (iL (dpV (sg u sA ax ot) (okc 3 tp ob) (b + 1 + k1) en))), (11, .long (iL (u (plc sA ax ((b + 1 + k1) * ((b + 1 + k1) - 1) / 2 + b) ot)))), (0, .ref hC), (1, .int (nI 3)), (2, .int (nI ot)), (3, .int (nI b)), (4, .int (nI en)), (5, .int (nI ax)), (6, .ref (aL 2)), (7, .ref (aL 3)), (8, .long (iL (dpV (sg u sA ax ot) (okc 3 tp ob) b en))), (10, .int (nI (b + 1 + k1)))]) hx hb d_Cutter_segmentEnd_99 hl (by decide) rfl (fun ls hl => ?_)
          refine lv_lload hx hb d_Cutter_segmentEnd_101 (lv_at hl 1 rfl) ?_
          refine lv_lconst (v := iL 0) hx hb d_Cutter_segmentEnd_103 (by decide) ?_
          refine l_cmp_le (tgt := 134) hx hb (by omega) (by omega) d_Cutter_segmentEnd_104 d_Cutter_segmentEnd_105 (by decide) (fun c104 => ?_) (fun c104 => ?_)
          · have hk2 : pck (sg u sA ax ot) (okc 3 tp ob) (fun z9 => dpV (sg u sA ax ot) (okc 3 tp ob) z9 en) b (dpV (sg u sA ax ot) (okc 3 tp ob) b en) (en - b) = pck (sg u sA ax ot) (okc 3 tp ob) (fun z9 => dpV (sg u sA ax ot) (okc 3 tp ob) z9 en) b (dpV (sg u sA ax ot) (okc 3 tp ob) b en) k1 := by rw [hk1, pck_s, if_neg]; intro hh; first | omega | exact absurd hh.2.2 (by rw [show okc 3 tp ob (k1 + 1) = false from tN_0 c128]; decide)
            refine lv_iinc (v := (nI (b + k1))) (lv' := [(10, .int (nI (b + k1))), (13, .long (iL (dpV (sg u sA ax ot) (okc 3 tp ob) (b + 1 + k1) en))), (11, .long (iL (u (plc sA ax ((b + 1 + k1) * ((b + 1 + k1) - 1) / 2 + b) ot)))), (0, .ref hC), (1, .int (nI 3)), (2, .int (nI ot)), (3, .int (nI b)), (4, .int (nI en)), (5, .int (nI ax)), (6, .ref (aL 2)), (7, .ref (aL 3)), (8, .long (iL (dpV (sg u sA ax ot) (okc 3 tp ob) b en)))]) hx hb d_Cutter_segmentEnd_134 hl (k := 11) rfl (nI_inc _ _ _ (by omega)) (by decide) rfl (fun ls hl => ?_)
            refine lv_goto (tgt := 47) hx hb d_Cutter_segmentEnd_137 (by decide) ?_
            exact ih47 k1 _ (by omega) hk2 (by omega) (lv_sub hl [3, 4, 5, 6, 7, 8, 9, 10, 11, 0] rfl)
          · refine lv_lload hx hb d_Cutter_segmentEnd_108 (lv_at hl 1 rfl) ?_
            refine lv_lload hx hb d_Cutter_segmentEnd_110 (lv_at hl 0 rfl) ?_
            refine z_ladd hx hb d_Cutter_segmentEnd_112 ?_
            refine lv_lload hx hb d_Cutter_segmentEnd_113 (lv_at hl 10 rfl) ?_
            refine l_cmp_ne (tgt := 134) hx hb (by omega) (by omega) d_Cutter_segmentEnd_115 d_Cutter_segmentEnd_116 (by decide) (fun c115 => ?_) (fun c115 => ?_)
            · have hk2 : pck (sg u sA ax ot) (okc 3 tp ob) (fun z9 => dpV (sg u sA ax ot) (okc 3 tp ob) z9 en) b (dpV (sg u sA ax ot) (okc 3 tp ob) b en) (en - b) = pck (sg u sA ax ot) (okc 3 tp ob) (fun z9 => dpV (sg u sA ax ot) (okc 3 tp ob) z9 en) b (dpV (sg u sA ax ot) (okc 3 tp ob) b en) k1 := by rw [hk1, pck_s, if_neg]; intro hh; first | omega | exact absurd hh.2.2 (by rw [show okc 3 tp ob (k1 + 1) = false from tN_0 c128]; decide)
              refine lv_iinc (v := (nI (b + k1))) (lv' := [(10, .int (nI (b + k1))), (13, .long (iL (dpV (sg u sA ax ot) (okc 3 tp ob) (b + 1 + k1) en))), (11, .long (iL (u (plc sA ax ((b + 1 + k1) * ((b + 1 + k1) - 1) / 2 + b) ot)))), (0, .ref hC), (1, .int (nI 3)), (2, .int (nI ot)), (3, .int (nI b)), (4, .int (nI en)), (5, .int (nI ax)), (6, .ref (aL 2)), (7, .ref (aL 3)), (8, .long (iL (dpV (sg u sA ax ot) (okc 3 tp ob) b en)))]) hx hb d_Cutter_segmentEnd_134 hl (k := 11) rfl (nI_inc _ _ _ (by omega)) (by decide) rfl (fun ls hl => ?_)
              refine lv_goto (tgt := 47) hx hb d_Cutter_segmentEnd_137 (by decide) ?_
              exact ih47 k1 _ (by omega) hk2 (by omega) (lv_sub hl [3, 4, 5, 6, 7, 8, 9, 10, 11, 0] rfl)
            · refine lv_aload_n hx hb d_Cutter_segmentEnd_119 rfl (lv_at hl 2 rfl) ?_
              refine lv_iload_n hx hb d_Cutter_segmentEnd_120 rfl (lv_at hl 3 rfl) ?_
              refine lv_iload hx hb d_Cutter_segmentEnd_121 (lv_at hl 11 rfl) ?_
              refine lv_iload_n hx hb d_Cutter_segmentEnd_123 rfl (lv_at hl 5 rfl) ?_
              refine n_isub hx hb (by omega) d_Cutter_segmentEnd_124 ?_
              refine top_i (show (nI ((b + 1 + k1) - b)) = (nI (k1 + 1)) from congrArg nI (by omega)) ?_
              refine vp_callSi (W.runV (As := [.int (nI 3), .int (nI (k1 + 1))]) (rest := []) ⟨hx, hb, hml, hown, hts⟩ (c_Cutter_mayCut l G ty hC hB hT sA aZ aE tx tp tb 3 (k1 + 1) nb ob (by omega) (by omega) (by omega) (by omega) gb) ⟨callB_of 2 hts (gd_TB cd_Cutter_mayCut) rfl rfl rfl (hts _ ini_Cutter) (hts _ lk_Cutter_158) hd_Cutter_mayCut ⟨Nat.le_of_ble_eq_true rfl, Nat.le_of_ble_eq_true rfl⟩, hts _ im_Cutter_mayCut, hts _ sl_Cutter_mayCut⟩ (preV_ro (hP.sub (ws' := [(hC, .inr (1, [.ref hB, .ref hT, .int (nI sA), .ref aZ, .ref aE, .int (nI tx), .int (nI tp), .int tb]))]) [0] rfl) hX 0 rfl rfl) rfl rfl hl.1 rfl (lv_room (Nat.le_of_ble_eq_true rfl)) d_Cutter_segmentEnd_125 ⟨Nat.le_of_ble_eq_true rfl, Nat.le_of_ble_eq_true rfl⟩) (fun r9 er9 => ?_)
              subst er9
              refine n_if_eq (tgt := 134) hx hb (tN_lt _) d_Cutter_segmentEnd_128 (by decide) (fun c128 => ?_) (fun c128 => ?_)
              · have hk2 : pck (sg u sA ax ot) (okc 3 tp ob) (fun z9 => dpV (sg u sA ax ot) (okc 3 tp ob) z9 en) b (dpV (sg u sA ax ot) (okc 3 tp ob) b en) (en - b) = pck (sg u sA ax ot) (okc 3 tp ob) (fun z9 => dpV (sg u sA ax ot) (okc 3 tp ob) z9 en) b (dpV (sg u sA ax ot) (okc 3 tp ob) b en) k1 := by rw [hk1, pck_s, if_neg]; intro hh; first | omega | exact absurd hh.2.2 (by rw [show okc 3 tp ob (k1 + 1) = false from tN_0 c128]; decide)
                refine lv_iinc (v := (nI (b + k1))) (lv' := [(10, .int (nI (b + k1))), (13, .long (iL (dpV (sg u sA ax ot) (okc 3 tp ob) (b + 1 + k1) en))), (11, .long (iL (u (plc sA ax ((b + 1 + k1) * ((b + 1 + k1) - 1) / 2 + b) ot)))), (0, .ref hC), (1, .int (nI 3)), (2, .int (nI ot)), (3, .int (nI b)), (4, .int (nI en)), (5, .int (nI ax)), (6, .ref (aL 2)), (7, .ref (aL 3)), (8, .long (iL (dpV (sg u sA ax ot) (okc 3 tp ob) b en)))]) hx hb d_Cutter_segmentEnd_134 hl (k := 11) rfl (nI_inc _ _ _ (by omega)) (by decide) rfl (fun ls hl => ?_)
                refine lv_goto (tgt := 47) hx hb d_Cutter_segmentEnd_137 (by decide) ?_
                exact ih47 k1 _ (by omega) hk2 (by omega) (lv_sub hl [3, 4, 5, 6, 7, 8, 9, 10, 11, 0] rfl)
              · refine lv_iload hx hb d_Cutter_segmentEnd_131 (lv_at hl 11 rfl) ?_
                exact W.iret (v := (nI (b + 1 + k1))) hx hb hr (fun t9 ht _ => ⟨_, rfl, by rw [hk1, pck_s, if_pos ⟨by omega, by omega, tN_1 c128⟩]; unfold pkZ; rw [if_neg (by omega), nI_iI], ht⟩) (fun q h => by cases h) d_Cutter_segmentEnd_133
        · refine lv_lconst (v := iL 0) hx hb d_Cutter_segmentEnd_78 (by decide) ?_
          refine top_l (show (iL 0) = (iL (dpV (sg u sA ax ot) (okc 3 tp ob) (b + 1 + k1) en)) from congrArg iL (by rw [show (b + 1 + k1) = en from by omega, dpV_end])) ?_
          refine lv_goto (tgt := 99) hx hb d_Cutter_segmentEnd_79 (by decide) ?_
          refine lv_lstore (lv' := [(13, .long (iL (dpV (sg u sA ax ot) (okc 3 tp ob) (b + 1 + k1) en))), (11, .long (iL (u (plc sA ax ((b + 1 + k1) * ((b + 1 + k1) - 1) / 2 + b) ot)))), (0, .ref hC), (1, .int (nI 3)), (2, .int (nI ot)), (3, .int (nI b)), (4, .int (nI en)), (5, .int (nI ax)), (6, .ref (aL 2)), (7, .ref (aL 3)), (8, .long (iL (dpV (sg u sA ax ot) (okc 3 tp ob) b en))), (10, .int (nI (b + 1 + k1)))]) hx hb d_Cutter_segmentEnd_99 hl (by decide) rfl (fun ls hl => ?_)
          refine lv_lload hx hb d_Cutter_segmentEnd_101 (lv_at hl 1 rfl) ?_
          refine lv_lconst (v := iL 0) hx hb d_Cutter_segmentEnd_103 (by decide) ?_
          refine l_cmp_le (tgt := 134) hx hb (by omega) (by omega) d_Cutter_segmentEnd_104 d_Cutter_segmentEnd_105 (by decide) (fun c104 => ?_) (fun c104 => ?_)
          · have hk2 : pck (sg u sA ax ot) (okc 3 tp ob) (fun z9 => dpV (sg u sA ax ot) (okc 3 tp ob) z9 en) b (dpV (sg u sA ax ot) (okc 3 tp ob) b en) (en - b) = pck (sg u sA ax ot) (okc 3 tp ob) (fun z9 => dpV (sg u sA ax ot) (okc 3 tp ob) z9 en) b (dpV (sg u sA ax ot) (okc 3 tp ob) b en) k1 := by rw [hk1, pck_s, if_neg]; intro hh; first | omega | exact absurd hh.2.2 (by rw [show okc 3 tp ob (k1 + 1) = false from tN_0 c128]; decide)
            refine lv_iinc (v := (nI (b + k1))) (lv' := [(10, .int (nI (b + k1))), (13, .long (iL (dpV (sg u sA ax ot) (okc 3 tp ob) (b + 1 + k1) en))), (11, .long (iL (u (plc sA ax ((b + 1 + k1) * ((b + 1 + k1) - 1) / 2 + b) ot)))), (0, .ref hC), (1, .int (nI 3)), (2, .int (nI ot)), (3, .int (nI b)), (4, .int (nI en)), (5, .int (nI ax)), (6, .ref (aL 2)), (7, .ref (aL 3)), (8, .long (iL (dpV (sg u sA ax ot) (okc 3 tp ob) b en)))]) hx hb d_Cutter_segmentEnd_134 hl (k := 11) rfl (nI_inc _ _ _ (by omega)) (by decide) rfl (fun ls hl => ?_)
            refine lv_goto (tgt := 47) hx hb d_Cutter_segmentEnd_137 (by decide) ?_
            exact ih47 k1 _ (by omega) hk2 (by omega) (lv_sub hl [3, 4, 5, 6, 7, 8, 9, 10, 11, 0] rfl)
          · refine lv_lload hx hb d_Cutter_segmentEnd_108 (lv_at hl 1 rfl) ?_
            refine lv_lload hx hb d_Cutter_segmentEnd_110 (lv_at hl 0 rfl) ?_
            refine z_ladd hx hb d_Cutter_segmentEnd_112 ?_
            refine lv_lload hx hb d_Cutter_segmentEnd_113 (lv_at hl 10 rfl) ?_
            refine l_cmp_ne (tgt := 134) hx hb (by omega) (by omega) d_Cutter_segmentEnd_115 d_Cutter_segmentEnd_116 (by decide) (fun c115 => ?_) (fun c115 => ?_)
            · have hk2 : pck (sg u sA ax ot) (okc 3 tp ob) (fun z9 => dpV (sg u sA ax ot) (okc 3 tp ob) z9 en) b (dpV (sg u sA ax ot) (okc 3 tp ob) b en) (en - b) = pck (sg u sA ax ot) (okc 3 tp ob) (fun z9 => dpV (sg u sA ax ot) (okc 3 tp ob) z9 en) b (dpV (sg u sA ax ot) (okc 3 tp ob) b en) k1 := by rw [hk1, pck_s, if_neg]; intro hh; first | omega | exact absurd hh.2.2 (by rw [show okc 3 tp ob (k1 + 1) = false from tN_0 c128]; decide)
              refine lv_iinc (v := (nI (b + k1))) (lv' := [(10, .int (nI (b + k1))), (13, .long (iL (dpV (sg u sA ax ot) (okc 3 tp ob) (b + 1 + k1) en))), (11, .long (iL (u (plc sA ax ((b + 1 + k1) * ((b + 1 + k1) - 1) / 2 + b) ot)))), (0, .ref hC), (1, .int (nI 3)), (2, .int (nI ot)), (3, .int (nI b)), (4, .int (nI en)), (5, .int (nI ax)), (6, .ref (aL 2)), (7, .ref (aL 3)), (8, .long (iL (dpV (sg u sA ax ot) (okc 3 tp ob) b en)))]) hx hb d_Cutter_segmentEnd_134 hl (k := 11) rfl (nI_inc _ _ _ (by omega)) (by decide) rfl (fun ls hl => ?_)
              refine lv_goto (tgt := 47) hx hb d_Cutter_segmentEnd_137 (by decide) ?_
              exact ih47 k1 _ (by omega) hk2 (by omega) (lv_sub hl [3, 4, 5, 6, 7, 8, 9, 10, 11, 0] rfl)
            · refine lv_aload_n hx hb d_Cutter_segmentEnd_119 rfl (lv_at hl 2 rfl) ?_
              refine lv_iload_n hx hb d_Cutter_segmentEnd_120 rfl (lv_at hl 3 rfl) ?_
              refine lv_iload hx hb d_Cutter_segmentEnd_121 (lv_at hl 11 rfl) ?_
              refine lv_iload_n hx hb d_Cutter_segmentEnd_123 rfl (lv_at hl 5 rfl) ?_
              refine n_isub hx hb (by omega) d_Cutter_segmentEnd_124 ?_
              refine top_i (show (nI ((b + 1 + k1) - b)) = (nI (k1 + 1)) from congrArg nI (by omega)) ?_
              refine vp_callSi (W.runV (As := [.int (nI 3), .int (nI (k1 + 1))]) (rest := []) ⟨hx, hb, hml, hown, hts⟩ (c_Cutter_mayCut l G ty hC hB hT sA aZ aE tx tp tb 3 (k1 + 1) nb ob (by omega) (by omega) (by omega) (by omega) gb) ⟨callB_of 2 hts (gd_TB cd_Cutter_mayCut) rfl rfl rfl (hts _ ini_Cutter) (hts _ lk_Cutter_158) hd_Cutter_mayCut ⟨Nat.le_of_ble_eq_true rfl, Nat.le_of_ble_eq_true rfl⟩, hts _ im_Cutter_mayCut, hts _ sl_Cutter_mayCut⟩ (preV_ro (hP.sub (ws' := [(hC, .inr (1, [.ref hB, .ref hT, .int (nI sA), .ref aZ, .ref aE, .int (nI tx), .int (nI tp), .int tb]))]) [0] rfl) hX 0 rfl rfl) rfl rfl hl.1 rfl (lv_room (Nat.le_of_ble_eq_true rfl)) d_Cutter_segmentEnd_125 ⟨Nat.le_of_ble_eq_true rfl, Nat.le_of_ble_eq_true rfl⟩) (fun r9 er9 => ?_)
              subst er9
              refine n_if_eq (tgt := 134) hx hb (tN_lt _) d_Cutter_segmentEnd_128 (by decide) (fun c128 => ?_) (fun c128 => ?_)
              · have hk2 : pck (sg u sA ax ot) (okc 3 tp ob) (fun z9 => dpV (sg u sA ax ot) (okc 3 tp ob) z9 en) b (dpV (sg u sA ax ot) (okc 3 tp ob) b en) (en - b) = pck (sg u sA ax ot) (okc 3 tp ob) (fun z9 => dpV (sg u sA ax ot) (okc 3 tp ob) z9 en) b (dpV (sg u sA ax ot) (okc 3 tp ob) b en) k1 := by rw [hk1, pck_s, if_neg]; intro hh; first | omega | exact absurd hh.2.2 (by rw [show okc 3 tp ob (k1 + 1) = false from tN_0 c128]; decide)
                refine lv_iinc (v := (nI (b + k1))) (lv' := [(10, .int (nI (b + k1))), (13, .long (iL (dpV (sg u sA ax ot) (okc 3 tp ob) (b + 1 + k1) en))), (11, .long (iL (u (plc sA ax ((b + 1 + k1) * ((b + 1 + k1) - 1) / 2 + b) ot)))), (0, .ref hC), (1, .int (nI 3)), (2, .int (nI ot)), (3, .int (nI b)), (4, .int (nI en)), (5, .int (nI ax)), (6, .ref (aL 2)), (7, .ref (aL 3)), (8, .long (iL (dpV (sg u sA ax ot) (okc 3 tp ob) b en)))]) hx hb d_Cutter_segmentEnd_134 hl (k := 11) rfl (nI_inc _ _ _ (by omega)) (by decide) rfl (fun ls hl => ?_)
                refine lv_goto (tgt := 47) hx hb d_Cutter_segmentEnd_137 (by decide) ?_
                exact ih47 k1 _ (by omega) hk2 (by omega) (lv_sub hl [3, 4, 5, 6, 7, 8, 9, 10, 11, 0] rfl)
              · refine lv_iload hx hb d_Cutter_segmentEnd_131 (lv_at hl 11 rfl) ?_
                exact W.iret (v := (nI (b + 1 + k1))) hx hb hr (fun t9 ht _ => ⟨_, rfl, by rw [hk1, pck_s, if_pos ⟨by omega, by omega, tN_1 c128⟩]; unfold pkZ; rw [if_neg (by omega), nI_iI], ht⟩) (fun q h => by cases h) d_Cutter_segmentEnd_133
  exact L47 ((en - b) + 1) (en - b) _ (by omega) rfl (Nat.lt_succ_self _) (lv_sub hl [5, 6, 7, 8, 9, 4, 3, 2, 1, 0] rfl)
