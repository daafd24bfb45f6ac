

/-- where a segment ends, counted from the region's own begin; -1: none -/
def pkQ (k y : Nat) : Int := if k = 0 then -1 else (k : Int) - (y : Int)
/-- which piece, by regions -/
def wN (w : Nat → Nat) (x0 x1 y0 y1 : Nat) : Nat := w (((25 * x0 + x1) * 11 + y0) * 11 + y1)

abbrev q_segFrom10 (G : va_G) (ty : Nat → ClassId) (hM : Nat) (cd : Nat) (st : Nat) (al : Nat) (ac : Nat) (nf : Nat) (ns : Nat) (mg : Nat) (bw : Nat) (md : Nat) (wy : Nat) (sg_ : Nat) (sz_ : Nat) (ks : Nat) (bd : Int) (aM : Nat → Nat) (gs : Nat → Bool) (tl : Bool) (x0 : Nat) (x1 : Nat) (y0 : Nat) (y1 : Nat) (fr : Nat) (vu : Nat → Int) (cu : Nat → Nat) (re2 : Nat → Int) (rc2 : Nat → Nat) : Array Value → State → Outcome → State → Prop := vp_Si (fun r : Int32 => r = (iI (pkQ (pcK (mS vu cu x0 x1) (okc 1 sg_ (fun z9 => decide (1 ≤ z9) && (decide (wy ≠ 0) || (!tl || gs z9)))) (y0 + fr) y1) y0)))
set_option maxRecDepth 100000 in
set_option maxHeartbeats 4000000 in
theorem c_segFrom10 (l : Launch) (G : va_G) (ty : Nat → ClassId) (hM : Nat) (cd : Nat) (st : Nat) (al : Nat) (ac : Nat) (nf : Nat) (ns : Nat) (mg : Nat) (bw : Nat) (md : Nat) (wy : Nat) (sg_ : Nat) (sz_ : Nat) (ks : Nat) (bd : Int) (aM : Nat → Nat) (gs : Nat → Bool) (tl : Bool) (x0 : Nat) (x1 : Nat) (y0 : Nat) (y1 : Nat) (fr : Nat) (vu : Nat → Int) (cu : Nat → Nat) (re2 : Nat → Int) (rc2 : Nat → Nat) (gtp : 1 ≤ sg_ ∧ sg_ ≤ 3) (gwy : wy ≤ 1) (gax : 0 = (if (sg_ - 1) % 2 = 0 then wy else 1 - wy)) (k1 : x0 < x1) (k2 : x1 ≤ 24) (k3 : y0 < y1) (k4 : y1 ≤ 10) (gO : ∀ i j, y0 ≤ i → i < j → j ≤ y1 → mOK vu cu x0 x1 i j) (gR : ∀ p, p ≤ (y1 - y0) → rOKr re2 rc2 (fun p9 => dpV (mS vu cu x0 x1) (okc 1 sg_ (fun z9 => decide (1 ≤ z9) && (decide (wy ≠ 0) || (!tl || gs z9)))) (y0 + p9) y1) 32 (x1 - x0) (y1 - y0) p) (gf : fr < (y1 - y0)) : Met l y_Model_segmentFrom ws_Model_segmentFrom { frames := 2, cells := 0, slots := 0, locals := 50 } (va_Pc [.ref hM, .int (nI 1), .int (nI fr), .int (nI x0), .int (nI x1), .int (nI y0), .int (nI y1)] (fun U => va_P G vwCl [(hM, .inr (10, mO cd st al ac nf ns tl.toNat mg bw md wy sg_ sz_ ks bd aM)), (aM 24, .inl (ty 1, 75625, .inr (.inl (lF vu)))), (aM 25, .inl (ty 0, 75625, .inl (nF cu))), (aM 31, .inl (ty 1, 128, .inr (.inl (lF re2)))), (aM 32, .inl (ty 0, 128, .inl (nF rc2))), (aM 20, .inl (ty 2, 65537, .inl (bF gs)))] U.heap ∧ KX G ty U)) (q_segFrom10 G ty hM cd st al ac nf ns mg bw md wy sg_ sz_ ks bd aM gs tl x0 x1 y0 y1 fr vu cu re2 rc2) 0 0 (fun _ => False) := by
  refine met_ro R_Model (by decide) rfl rfl (Nat.le_of_ble_eq_true rfl) ?_
  intro p e s m below meth c ls hx hb hr hml hown hts hlocks hP hX hl
  have hK := hX.1
  have hl : lv_has ls 13 [(0, .ref hM), (1, .int (nI 1)), (2, .int (nI fr)), (3, .int (nI x0)), (4, .int (nI x1)), (5, .int (nI y0)), (6, .int (nI y1))] := hl
  have hKn : ∀ a9, a9 ≤ y1 - y0 → (x1 - x0) * a9 ≤ 240 := fun a9 h9 => Nat.le_trans (Nat.mul_le_mul (show x1 - x0 ≤ 24 by omega) (show a9 ≤ 10 by omega)) (by decide)
  have hdv : ∀ p, y0 ≤ p → p ≤ y1 → 0 ≤ dpV (mS vu cu x0 x1) (okc 1 sg_ (fun z9 => decide (1 ≤ z9) && (decide (wy ≠ 0) || (!tl || gs z9)))) p y1 ∧ dpV (mS vu cu x0 x1) (okc 1 sg_ (fun z9 => decide (1 ≤ z9) && (decide (wy ≠ 0) || (!tl || gs z9)))) p y1 ≤ 26400000000000000 := fun p h1 h2 => dpV_u (by omega) h2 (fun i j h3 h4 h5 => mS_le (gO i j (by omega) h4 h5))
  have hR : ∀ p, 0 ≤ p → p ≤ (y1 - y0) → rOKr re2 rc2 (fun p9 => dpV (mS vu cu x0 x1) (okc 1 sg_ (fun z9 => decide (1 ≤ z9) && (decide (wy ≠ 0) || (!tl || gs z9)))) (y0 + p9) y1) 32 (x1 - x0) (y1 - y0) p := fun p _ h => gR p h
  have hrF := gR fr (by omega)
  have hrF1 : 1024 * re2 (32 + fr) - (rc2 (32 + fr) : Int) = dpV (mS vu cu x0 x1) (okc 1 sg_ (fun z9 => decide (1 ≤ z9) && (decide (wy ≠ 0) || (!tl || gs z9)))) (y0 + fr) y1 := hrF.1
  have hrF2 := hrF.2.1
  have hbF := hdv (y0 + fr) (by omega) (by omega)
  have hkF := hKn (y1 - y0 - fr) (by omega)
  refine lv_aload_n hx hb d_Model_segmentFrom_0 rfl (lv_at hl 0 rfl) ?_
  refine lv_iload_n hx hb d_Model_segmentFrom_1 rfl (lv_at hl 1 rfl) ?_
  refine vp_callSi (W.runV (As := [.int (nI 1)]) (rest := []) ⟨hx, hb, hml, hown, hts⟩ (c_Model_isRipped l G ty hM cd st al ac nf ns tl.toNat mg bw md wy sg_ sz_ ks bd aM 1 (by omega) (by omega) (by omega)) ⟨callB_of 1 hts (gd_TB cd_Model_isRipped) rfl rfl rfl (hts _ ini_Model) (hts _ lk_Model_196) hd_Model_isRipped ⟨Nat.le_of_ble_eq_true rfl, Nat.le_of_ble_eq_true rfl⟩, hts _ im_Model_isRipped, hts _ sl_Model_isRipped⟩ (preV_ro (hP.sub (ws' := [(hM, .inr (10, mO cd st al ac nf ns tl.toNat mg bw md wy sg_ sz_ ks bd aM))]) [0] rfl) hX 0 rfl rfl) rfl rfl hl.1 rfl (lv_room (Nat.le_of_ble_eq_true rfl)) d_Model_segmentFrom_2 ⟨Nat.le_of_ble_eq_true rfl, Nat.le_of_ble_eq_true rfl⟩) (fun r9 er9 => ?_)
  subst er9
  refine top_i (show (nI (1 - (if (sg_ - 1) % 2 = 0 then wy else 1 - wy))) = (nI 1) from congrArg (fun z9 => nI (1 - z9)) gax.symm) ?_
  refine lv_istore (lv' := [(7, .int (nI 1)), (0, .ref hM), (1, .int (nI 1)), (2, .int (nI fr)), (3, .int (nI x0)), (4, .int (nI x1)), (5, .int (nI y0)), (6, .int (nI y1))]) hx hb d_Model_segmentFrom_5 hl (by decide) rfl (fun ls hl => ?_)
  refine lv_bipush (v := (nI 32)) hx hb d_Model_segmentFrom_7 (by decide) ?_
  refine lv_iload_n hx hb d_Model_segmentFrom_9 rfl (lv_at hl 2 rfl) ?_
  refine n_imul hx hb d_Model_segmentFrom_10 ?_
  refine top_i (show (nI (32 * 1)) = nI 32 from rfl) ?_
  refine lv_istore (lv' := [(8, .int (nI 32)), (7, .int (nI 1)), (0, .ref hM), (1, .int (nI 1)), (2, .int (nI fr)), (3, .int (nI x0)), (4, .int (nI x1)), (5, .int (nI y0)), (6, .int (nI y1))]) hx hb d_Model_segmentFrom_11 hl (by decide) rfl (fun ls hl => ?_)
  refine lv_iload hx hb d_Model_segmentFrom_13 (lv_at hl 1 rfl) ?_
  refine n_if_eq (tgt := 26) hx hb (by omega) d_Model_segmentFrom_15 (by decide) (fun c15 => absurd c15 (by omega)) (fun c15 => ?_)
  refine lv_iload hx hb d_Model_segmentFrom_18 (lv_at hl 8 rfl) ?_
  refine lv_iload hx hb d_Model_segmentFrom_20 (lv_at hl 7 rfl) ?_
  refine n_isub hx hb (by omega) d_Model_segmentFrom_22 ?_
  refine top_i (show (nI (y1 - y0)) = (nI (fr + (y1 - y0 - fr))) from congrArg nI (by omega)) ?_
  refine lv_goto (tgt := 30) hx hb d_Model_segmentFrom_23 (by decide) ?_
  refine lv_istore (lv' := [(9, .int (nI (fr + (y1 - y0 - fr)))), (8, .int (nI 32)), (7, .int (nI 1)), (0, .ref hM), (1, .int (nI 1)), (2, .int (nI fr)), (3, .int (nI x0)), (4, .int (nI x1)), (5, .int (nI y0)), (6, .int (nI y1))]) hx hb d_Model_segmentFrom_30 hl (by decide) rfl (fun ls hl => ?_)
  have L32 : ∀ (k9 : Nat) (n1 : Nat) (ls : Array Slot), (fr + n1 ≤ (y1 - y0)) → (pcK (mS vu cu x0 x1) (okc 1 sg_ (fun z9 => decide (1 ≤ z9) && (decide (wy ≠ 0) || (!tl || gs z9)))) (y0 + fr) y1 = pck (mS vu cu x0 x1) (okc 1 sg_ (fun z9 => decide (1 ≤ z9) && (decide (wy ≠ 0) || (!tl || gs z9)))) (fun z9 => dpV (mS vu cu x0 x1) (okc 1 sg_ (fun z9 => decide (1 ≤ z9) && (decide (wy ≠ 0) || (!tl || gs z9)))) z9 y1) (y0 + fr) (dpV (mS vu cu x0 x1) (okc 1 sg_ (fun z9 => decide (1 ≤ z9) && (decide (wy ≠ 0) || (!tl || gs z9)))) (y0 + fr) y1) n1) → n1 < k9 → lv_has ls 13 [(0, .ref hM), (1, .int (nI 1)), (2, .int (nI fr)), (3, .int (nI x0)), (4, .int (nI x1)), (5, .int (nI y0)), (6, .int (nI y1)), (7, .int (nI 1)), (8, .int (nI 32)), (9, .int (nI (fr + n1)))] → W p l e { frames := 2, cells := 0, slots := 0, locals := 50 } s m [.ref hM, .int (nI 1), .int (nI fr), .int (nI x0), .int (nI x1), .int (nI y0), .int (nI y1)].toArray below meth c s.heap [] 0 0 (MQ below (q_segFrom10 G ty hM cd st al ac nf ns mg bw md wy sg_ sz_ ks bd aM gs tl x0 x1 y0 y1 fr vu cu re2 rc2) [.ref hM, .int (nI 1), .int (nI fr), .int (nI x0), .int (nI x1), .int (nI y0), .int (nI y1)].toArray s 0 0 (fun _ => False)) (F0 m 32 ls []) := by
    intro k9
    induction k9 with
    | zero => intro n1 ls hn1 hI hk9; exact absurd hk9 (Nat.not_lt_zero _)
    | succ k9 ih32 =>
      intro n1 ls hn1 hI hk9 hl
      refine lv_iload hx hb d_Model_segmentFrom_32 (lv_at hl 9 rfl) ?_
      refine lv_iload_n hx hb d_Model_segmentFrom_34 rfl (lv_at hl 2 rfl) ?_
      refine n_icmp_le (tgt := 163) hx hb (by omega) (by omega) d_Model_segmentFrom_35 (by decide) (fun c35 => ?_) (fun c35 => ?_)
      · refine lv_iconst (v := (iI (-1))) hx hb d_Model_segmentFrom_163 (by decide) ?_
        exact W.iret (v := (iI (-1))) hx hb hr (fun t9 ht _ => ⟨_, rfl, by rw [hI, show n1 = 0 by omega]; rfl, ht⟩) (fun q h => by cases h) d_Model_segmentFrom_164
      · obtain ⟨n2, rfl⟩ : ∃ n2, n1 = n2 + 1 := ⟨n1 - 1, by omega⟩
        obtain ⟨at_, eat⟩ : ∃ at_, at_ = ((25 * x0 + x1) * 11 + (y0 + fr)) * 11 + (y0 + (fr + (n2 + 1))) := ⟨_, rfl⟩
        have e1 : y0 + (fr + (n2 + 1)) = y0 + fr + 1 + n2 := by omega
        have hO := gO (y0 + fr) (y0 + fr + 1 + n2) (by omega) (by omega) (by omega)
        unfold mOK at hO
        rw [← e1, ← eat] at hO
        have hO1 : cu at_ ≤ (x1 - x0) * (n2 + 1) := by have h9 := hO.1; rw [show y0 + (fr + (n2 + 1)) - (y0 + fr) = n2 + 1 by omega] at h9; exact h9
        have hO2 := hO.2.1
        have hO3 := hO.2.2
        clear hO
        have hvS : mS vu cu x0 x1 (y0 + fr) (y0 + fr + 1 + n2) = 1024 * vu at_ - (cu at_ : Int) := by rw [eat, e1]; try rfl
        have hrT := hR (fr + (n2 + 1)) (by omega) (by omega)
        have hrT1 : 1024 * re2 (32 + (fr + (n2 + 1))) - (rc2 (32 + (fr + (n2 + 1))) : Int) = dpV (mS vu cu x0 x1) (okc 1 sg_ (fun z9 => decide (1 ≤ z9) && (decide (wy ≠ 0) || (!tl || gs z9)))) (y0 + fr + 1 + n2) y1 := by have h9 := hrT.1; rw [← e1]; exact h9
        have hrT2 := hrT.2.1
        clear hrT
        have hka : (x1 - x0) * (y1 - y0 - (fr + (n2 + 1))) + (x1 - x0) * (n2 + 1) = (x1 - x0) * (y1 - y0 - fr) := K_add (by omega)
        have hkb := hKn (y1 - y0 - fr) (by omega)
        have hz0 := (hdv (y0 + fr + 1 + n2) (by omega) (by omega))
        have hat : at_ < 75625 := by rw [eat]; omega
        have hz : dpV (mS vu cu x0 x1) (okc 1 sg_ (fun z9 => decide (1 ≤ z9) && (decide (wy ≠ 0) || (!tl || gs z9)))) (y0 + fr + 1 + n2) y1 ≤ dpV (mS vu cu x0 x1) (okc 1 sg_ (fun z9 => decide (1 ≤ z9) && (decide (wy ≠ 0) || (!tl || gs z9)))) (y0 + fr) y1 := by have h9 := dpV_mono (seg := (mS vu cu x0 x1)) (ok := (okc 1 sg_ (fun z9 => decide (1 ≤ z9) && (decide (wy ≠ 0) || (!tl || gs z9))))) (e := y1) (n2 + 1) (y0 + fr) (by omega); rw [show y0 + fr + (n2 + 1) = y0 + fr + 1 + n2 by omega] at h9; exact h9
        refine lv_aload_n hx hb d_Model_segmentFrom_38 rfl (lv_at hl 0 rfl) ?_
        refine lv_iload hx hb d_Model_segmentFrom_39 (lv_at hl 7 rfl) ?_
        refine lv_iload_n hx hb d_Model_segmentFrom_41 rfl (lv_at hl 3 rfl) ?_
        refine lv_iload hx hb d_Model_segmentFrom_42 (lv_at hl 4 rfl) ?_
        refine lv_iload hx hb d_Model_segmentFrom_44 (lv_at hl 5 rfl) ?_
        refine lv_iload hx hb d_Model_segmentFrom_46 (lv_at hl 6 rfl) ?_
        refine lv_iload_n hx hb d_Model_segmentFrom_48 rfl (lv_at hl 2 rfl) ?_
        refine lv_iload hx hb d_Model_segmentFrom_49 (lv_at hl 9 rfl) ?_
        refine vp_callSi (W.runV (As := [.int (nI 1), .int (nI x0), .int (nI x1), .int (nI y0), .int (nI y1), .int (nI fr), .int (nI (fr + (n2 + 1)))]) (rest := []) ⟨hx, hb, hml, hown, hts⟩ (c_segment1 l G ty hM cd st al ac nf ns tl.toNat mg bw md wy sg_ sz_ ks bd aM x0 x1 y0 y1 fr (fr + (n2 + 1)) ) ⟨callB_of 7 hts (gd_TB cd_Model_segment) rfl rfl rfl (hts _ ini_Model) (hts _ lk_Model_199) hd_Model_segment ⟨Nat.le_of_ble_eq_true rfl, Nat.le_of_ble_eq_true rfl⟩, hts _ im_Model_segment, hts _ sl_Model_segment⟩ (preV_ro (hP.sub (ws' := [(hM, .inr (10, mO cd st al ac nf ns tl.toNat mg bw md wy sg_ sz_ ks bd aM))]) [0] rfl) hX 0 rfl rfl) rfl rfl hl.1 rfl (lv_room (Nat.le_of_ble_eq_true rfl)) d_Model_segmentFrom_51 ⟨Nat.le_of_ble_eq_true rfl, Nat.le_of_ble_eq_true rfl⟩) (fun r9 er9 => ?_)
        subst er9
        refine top_i (show (nI (((25 * x0 + x1) * 11 + (y0 + fr)) * 11 + (y0 + (fr + (n2 + 1))))) = (nI at_) from congrArg nI eat.symm) ?_
        refine lv_istore (lv' := [(10, .int (nI at_)), (0, .ref hM), (1, .int (nI 1)), (2, .int (nI fr)), (3, .int (nI x0)), (4, .int (nI x1)), (5, .int (nI y0)), (6, .int (nI y1)), (7, .int (nI 1)), (8, .int (nI 32)), (9, .int (nI (fr + (n2 + 1))))]) hx hb d_Model_segmentFrom_54 hl (by decide) rfl (fun ls hl => ?_)
        refine lv_aload_n hx hb d_Model_segmentFrom_56 rfl (lv_at hl 1 rfl) ?_
        refine lv_iload_n hx hb d_Model_segmentFrom_57 rfl (lv_at hl 2 rfl) ?_
        refine lv_iconst (v := (nI 1)) hx hb d_Model_segmentFrom_58 (by decide) ?_
        refine n_isub hx hb (by omega) d_Model_segmentFrom_59 ?_
        refine top_i (show (nI (1 - 1)) = nI 0 from rfl) ?_
        refine lv_iload hx hb d_Model_segmentFrom_60 (lv_at hl 0 rfl) ?_
        refine vp_callSi (W.runV (As := [.int (nI 0), .int (nI at_)]) (rest := []) ⟨hx, hb, hml, hown, hts⟩ (c_countBy0 l G ty hM cd st al ac nf ns tl.toNat mg bw md wy sg_ sz_ ks bd aM at_ cu (by omega)) ⟨callB_of 2 hts (gd_TB cd_Model_countBy) rfl rfl rfl (hts _ ini_Model) (hts _ lk_Model_203) hd_Model_countBy ⟨Nat.le_of_ble_eq_true rfl, Nat.le_of_ble_eq_true rfl⟩, hts _ im_Model_countBy, hts _ sl_Model_countBy⟩ (preV_ro (hP.sub (ws' := [(hM, .inr (10, mO cd st al ac nf ns tl.toNat mg bw md wy sg_ sz_ ks bd aM)), (aM 25, .inl (ty 0, 75625, .inl (nF cu)))]) [0, 2] rfl) hX 0 rfl rfl) rfl rfl hl.1 rfl (lv_room (Nat.le_of_ble_eq_true rfl)) d_Model_segmentFrom_62 ⟨Nat.le_of_ble_eq_true rfl, Nat.le_of_ble_eq_true rfl⟩) (fun r9 er9 => ?_)
        subst er9
        refine lv_istore (lv' := [(11, .int (nI (cu at_))), (10, .int (nI at_)), (0, .ref hM), (1, .int (nI 1)), (2, .int (nI fr)), (3, .int (nI x0)), (4, .int (nI x1)), (5, .int (nI y0)), (6, .int (nI y1)), (7, .int (nI 1)), (8, .int (nI 32)), (9, .int (nI (fr + (n2 + 1))))]) hx hb d_Model_segmentFrom_65 hl (by decide) rfl (fun ls hl => ?_)
        refine lv_aload_n hx hb d_Model_segmentFrom_67 rfl (lv_at hl 2 rfl) ?_
        refine va_get (D := G) (ci := 10) (v := .ref (aM 31)) (C := R_Model) (T := F_Model) (N := 47) hx hb hts in_Model hown hK hP 0 rfl rfl 31 (by decide) (hts _ fl_Model_85) (fun _ h9 => h9) rfl d_Model_segmentFrom_68 ?_
        refine lv_iload hx hb d_Model_segmentFrom_71 (lv_at hl 10 rfl) ?_
        refine lv_iload hx hb d_Model_segmentFrom_73 (lv_at hl 11 rfl) ?_
        refine n_iadd hx hb d_Model_segmentFrom_75 ?_
        refine n_lald hx hb hK hP 3 1 rfl rfl (by omega) (by omega) d_Model_segmentFrom_76 ?_
        refine lv_aload_n hx hb d_Model_segmentFrom_77 rfl (lv_at hl 2 rfl) ?_
        refine lv_iload_n hx hb d_Model_segmentFrom_78 rfl (lv_at hl 3 rfl) ?_
        refine lv_iconst (v := (nI 1)) hx hb d_Model_segmentFrom_79 (by decide) ?_
        refine n_isub hx hb (by omega) d_Model_segmentFrom_80 ?_
        refine top_i (show (nI (1 - 1)) = nI 0 from rfl) ?_
        refine lv_iload hx hb d_Model_segmentFrom_81 (lv_at hl 1 rfl) ?_
        refine vp_callSl (W.runV (As := [.int (nI 0), .int (nI at_)]) (rest := [.long (iL (re2 (32 + (fr + (n2 + 1)))))]) ⟨hx, hb, hml, hown, hts⟩ (c_valueBy0 l G ty hM cd st al ac nf ns tl.toNat mg bw md wy sg_ sz_ ks bd aM at_ vu (by omega)) ⟨callB_of 2 hts (gd_TB cd_Model_valueBy) rfl rfl rfl (hts _ ini_Model) (hts _ lk_Model_211) hd_Model_valueBy ⟨Nat.le_of_ble_eq_true rfl, Nat.le_of_ble_eq_true rfl⟩, hts _ im_Model_valueBy, hts _ sl_Model_valueBy⟩ (preV_ro (hP.sub (ws' := [(hM, .inr (10, mO cd st al ac nf ns tl.toNat mg bw md wy sg_ sz_ ks bd aM)), (aM 24, .inl (ty 1, 75625, .inr (.inl (lF vu))))]) [0, 1] rfl) hX 0 rfl rfl) rfl rfl hl.1 rfl (lv_room (Nat.le_of_ble_eq_true rfl)) d_Model_segmentFrom_83 ⟨Nat.le_of_ble_eq_true rfl, Nat.le_of_ble_eq_true rfl⟩) (fun r9 er9 => ?_)
        subst er9
        refine z_ladd hx hb d_Model_segmentFrom_86 ?_
        refine lv_aload_n hx hb d_Model_segmentFrom_87 rfl (lv_at hl 2 rfl) ?_
        refine va_get (D := G) (ci := 10) (v := .ref (aM 31)) (C := R_Model) (T := F_Model) (N := 47) hx hb hts in_Model hown hK hP 0 rfl rfl 31 (by decide) (hts _ fl_Model_85) (fun _ h9 => h9) rfl d_Model_segmentFrom_88 ?_
        refine lv_iload hx hb d_Model_segmentFrom_91 (lv_at hl 10 rfl) ?_
        refine lv_iload_n hx hb d_Model_segmentFrom_93 rfl (lv_at hl 4 rfl) ?_
        refine n_iadd hx hb d_Model_segmentFrom_94 ?_
        refine n_lald hx hb hK hP 3 1 rfl rfl (by omega) (by omega) d_Model_segmentFrom_95 ?_
        refine l_cmp_ne (tgt := 129) hx hb (by omega) (by omega) d_Model_segmentFrom_96 d_Model_segmentFrom_97 (by decide) (fun c96 => ?_) (fun c96 => ?_)
        · refine lv_iconst (v := (nI 0)) hx hb d_Model_segmentFrom_129 (by decide) ?_
          refine lv_istore (lv' := [(12, .int (nI 0)), (11, .int (nI (cu at_))), (10, .int (nI at_)), (0, .ref hM), (1, .int (nI 1)), (2, .int (nI fr)), (3, .int (nI x0)), (4, .int (nI x1)), (5, .int (nI y0)), (6, .int (nI y1)), (7, .int (nI 1)), (8, .int (nI 32)), (9, .int (nI (fr + (n2 + 1))))]) hx hb d_Model_segmentFrom_130 hl (by decide) rfl (fun ls hl => ?_)
          refine lv_iload hx hb d_Model_segmentFrom_132 (lv_at hl 1 rfl) ?_
          refine n_if_le (tgt := 157) hx hb (by omega) d_Model_segmentFrom_134 (by decide) (fun c134 => ?_) (fun c134 => ?_)
          · have hI2 : pcK (mS vu cu x0 x1) (okc 1 sg_ (fun z9 => decide (1 ≤ z9) && (decide (wy ≠ 0) || (!tl || gs z9)))) (y0 + fr) y1 = pck (mS vu cu x0 x1) (okc 1 sg_ (fun z9 => decide (1 ≤ z9) && (decide (wy ≠ 0) || (!tl || gs z9)))) (fun z9 => dpV (mS vu cu x0 x1) (okc 1 sg_ (fun z9 => decide (1 ≤ z9) && (decide (wy ≠ 0) || (!tl || gs z9)))) z9 y1) (y0 + fr) (dpV (mS vu cu x0 x1) (okc 1 sg_ (fun z9 => decide (1 ≤ z9) && (decide (wy ≠ 0) || (!tl || gs z9)))) (y0 + fr) y1) n2 := by rw [hI, pck_s, if_neg]; intro hh; first | omega | exact absurd hh.2.2 (by rw [show (okc 1 sg_ (fun z9 => decide (1 ≤ z9) && (decide (wy ≠ 0) || (!tl || gs z9)))) (n2 + 1) = false from tN_0 c151]; decide)
            refine lv_iinc (v := (nI (fr + n2))) (lv' := [(9, .int (nI (fr + n2))), (12, .int (nI 0)), (11, .int (nI (cu at_))), (10, .int (nI at_)), (0, .ref hM), (1, .int (nI 1)), (2, .int (nI fr)), (3, .int (nI x0)), (4, .int (nI x1)), (5, .int (nI y0)), (6, .int (nI y1)), (7, .int (nI 1)), (8, .int (nI 32))]) hx hb d_Model_segmentFrom_157 hl (k := 12) rfl (nI_inc _ _ _ (by omega)) (by decide) rfl (fun ls hl => ?_)
            refine lv_goto (tgt := 32) hx hb d_Model_segmentFrom_160 (by decide) ?_
            exact ih32 n2 _ (by omega) hI2 (by omega) (lv_sub hl [4, 5, 6, 7, 8, 9, 10, 11, 12, 0] rfl)
          · refine lv_iload hx hb d_Model_segmentFrom_137 (lv_at hl 0 rfl) ?_
            refine n_if_eq (tgt := 157) hx hb (by omega) d_Model_segmentFrom_139 (by decide) (fun c139 => ?_) (fun c139 => absurd c139 (by omega))
            have hI2 : pcK (mS vu cu x0 x1) (okc 1 sg_ (fun z9 => decide (1 ≤ z9) && (decide (wy ≠ 0) || (!tl || gs z9)))) (y0 + fr) y1 = pck (mS vu cu x0 x1) (okc 1 sg_ (fun z9 => decide (1 ≤ z9) && (decide (wy ≠ 0) || (!tl || gs z9)))) (fun z9 => dpV (mS vu cu x0 x1) (okc 1 sg_ (fun z9 => decide (1 ≤ z9) && (decide (wy ≠ 0) || (!tl || gs z9)))) z9 y1) (y0 + fr) (dpV (mS vu cu x0 x1) (okc 1 sg_ (fun z9 => decide (1 ≤ z9) && (decide (wy ≠ 0) || (!tl || gs z9)))) (y0 + fr) y1) n2 := by rw [hI, pck_s, if_neg]; intro hh; first | omega | exact absurd hh.2.2 (by rw [show (okc 1 sg_ (fun z9 => decide (1 ≤ z9) && (decide (wy ≠ 0) || (!tl || gs z9)))) (n2 + 1) = false from tN_0 c151]; decide)
            refine lv_iinc (v := (nI (fr + n2))) (lv' := [(9, .int (nI (fr + n2))), (12, .int (nI 0)), (11, .int (nI (cu at_))), (10, .int (nI at_)), (0, .ref hM), (1, .int (nI 1)), (2, .int (nI fr)), (3, .int (nI x0)), (4, .int (nI x1)), (5, .int (nI y0)), (6, .int (nI y1)), (7, .int (nI 1)), (8, .int (nI 32))]) hx hb d_Model_segmentFrom_157 hl (k := 12) rfl (nI_inc _ _ _ (by omega)) (by decide) rfl (fun ls hl => ?_)
            refine lv_goto (tgt := 32) hx hb d_Model_segmentFrom_160 (by decide) ?_
            exact ih32 n2 _ (by omega) hI2 (by omega) (lv_sub hl [4, 5, 6, 7, 8, 9, 10, 11, 12, 0] rfl)
        · refine lv_aload_n hx hb d_Model_segmentFrom_100 rfl (lv_at hl 2 rfl) ?_
          refine va_get (D := G) (ci := 10) (v := .ref (aM 32)) (C := R_Model) (T := F_Model) (N := 47) hx hb hts in_Model hown hK hP 0 rfl rfl 32 (by decide) (hts _ fl_Model_88) (fun _ h9 => h9) rfl d_Model_segmentFrom_101 ?_
          refine lv_iload hx hb d_Model_segmentFrom_104 (lv_at hl 10 rfl) ?_
          refine lv_iload hx hb d_Model_segmentFrom_106 (lv_at hl 11 rfl) ?_
          refine n_iadd hx hb d_Model_segmentFrom_108 ?_
          refine n_iald hx hb hK hP 4 0 rfl rfl (by omega) (by omega) d_Model_segmentFrom_109 ?_
          refine lv_iload hx hb d_Model_segmentFrom_110 (lv_at hl 0 rfl) ?_
          refine n_iadd hx hb d_Model_segmentFrom_112 ?_
          refine lv_aload_n hx hb d_Model_segmentFrom_113 rfl (lv_at hl 2 rfl) ?_
          refine va_get (D := G) (ci := 10) (v := .ref (aM 32)) (C := R_Model) (T := F_Model) (N := 47) hx hb hts in_Model hown hK hP 0 rfl rfl 32 (by decide) (hts _ fl_Model_88) (fun _ h9 => h9) rfl d_Model_segmentFrom_114 ?_
          refine lv_iload hx hb d_Model_segmentFrom_117 (lv_at hl 10 rfl) ?_
          refine lv_iload_n hx hb d_Model_segmentFrom_119 rfl (lv_at hl 4 rfl) ?_
          refine n_iadd hx hb d_Model_segmentFrom_120 ?_
          refine n_iald hx hb hK hP 4 0 rfl rfl (by omega) (by omega) d_Model_segmentFrom_121 ?_
          refine n_icmp_ne (tgt := 129) hx hb (by omega) (by omega) d_Model_segmentFrom_122 (by decide) (fun c122 => ?_) (fun c122 => ?_)
          · refine lv_iconst (v := (nI 0)) hx hb d_Model_segmentFrom_129 (by decide) ?_
            refine lv_istore (lv' := [(12, .int (nI 0)), (11, .int (nI (cu at_))), (10, .int (nI at_)), (0, .ref hM), (1, .int (nI 1)), (2, .int (nI fr)), (3, .int (nI x0)), (4, .int (nI x1)), (5, .int (nI y0)), (6, .int (nI y1)), (7, .int (nI 1)), (8, .int (nI 32)), (9, .int (nI (fr + (n2 + 1))))]) hx hb d_Model_segmentFrom_130 hl (by decide) rfl (fun ls hl => ?_)
            refine lv_iload hx hb d_Model_segmentFrom_132 (lv_at hl 1 rfl) ?_
            refine n_if_le (tgt := 157) hx hb (by omega) d_Model_segmentFrom_134 (by decide) (fun c134 => ?_) (fun c134 => ?_)
            · have hI2 : pcK (mS vu cu x0 x1) (okc 1 sg_ (fun z9 => decide (1 ≤ z9) && (decide (wy ≠ 0) || (!tl || gs z9)))) (y0 + fr) y1 = pck (mS vu cu x0 x1) (okc 1 sg_ (fun z9 => decide (1 ≤ z9) && (decide (wy ≠ 0) || (!tl || gs z9)))) (fun z9 => dpV (mS vu cu x0 x1) (okc 1 sg_ (fun z9 => decide (1 ≤ z9) && (decide (wy ≠ 0) || (!tl || gs z9)))) z9 y1) (y0 + fr) (dpV (mS vu cu x0 x1) (okc 1 sg_ (fun z9 => decide (1 ≤ z9) && (decide (wy ≠ 0) || (!tl || gs z9)))) (y0 + fr) y1) n2 := by rw [hI, pck_s, if_neg]; intro hh; first | omega | exact absurd hh.2.2 (by rw [show (okc 1 sg_ (fun z9 => decide (1 ≤ z9) && (decide (wy ≠ 0) || (!tl || gs z9)))) (n2 + 1) = false from tN_0 c151]; decide)
              refine lv_iinc (v := (nI (fr + n2))) (lv' := [(9, .int (nI (fr + n2))), (12, .int (nI 0)), (11, .int (nI (cu at_))), (10, .int (nI at_)), (0, .ref hM), (1, .int (nI 1)), (2, .int (nI fr)), (3, .int (nI x0)), (4, .int (nI x1)), (5, .int (nI y0)), (6, .int (nI y1)), (7, .int (nI 1)), (8, .int (nI 32))]) hx hb d_Model_segmentFrom_157 hl (k := 12) rfl (nI_inc _ _ _ (by omega)) (by decide) rfl (fun ls hl => ?_)
              refine lv_goto (tgt := 32) hx hb d_Model_segmentFrom_160 (by decide) ?_
              exact ih32 n2 _ (by omega) hI2 (by omega) (lv_sub hl [4, 5, 6, 7, 8, 9, 10, 11, 12, 0] rfl)
            · refine lv_iload hx hb d_Model_segmentFrom_137 (lv_at hl 0 rfl) ?_
              refine n_if_eq (tgt := 157) hx hb (by omega) d_Model_segmentFrom_139 (by decide) (fun c139 => ?_) (fun c139 => absurd c139 (by omega))
              have hI2 : pcK (mS vu cu x0 x1) (okc 1 sg_ (fun z9 => decide (1 ≤ z9) && (decide (wy ≠ 0) || (!tl || gs z9)))) (y0 + fr) y1 = pck (mS vu cu x0 x1) (okc 1 sg_ (fun z9 => decide (1 ≤ z9) && (decide (wy ≠ 0) || (!tl || gs z9)))) (fun z9 => dpV (mS vu cu x0 x1) (okc 1 sg_ (fun z9 => decide (1 ≤ z9) && (decide (wy ≠ 0) || (!tl || gs z9)))) z9 y1) (y0 + fr) (dpV (mS vu cu x0 x1) (okc 1 sg_ (fun z9 => decide (1 ≤ z9) && (decide (wy ≠ 0) || (!tl || gs z9)))) (y0 + fr) y1) n2 := by rw [hI, pck_s, if_neg]; intro hh; first | omega | exact absurd hh.2.2 (by rw [show (okc 1 sg_ (fun z9 => decide (1 ≤ z9) && (decide (wy ≠ 0) || (!tl || gs z9)))) (n2 + 1) = false from tN_0 c151]; decide)
              refine lv_iinc (v := (nI (fr + n2))) (lv' := [(9, .int (nI (fr + n2))), (12, .int (nI 0)), (11, .int (nI (cu at_))), (10, .int (nI at_)), (0, .ref hM), (1, .int (nI 1)), (2, .int (nI fr)), (3, .int (nI x0)), (4, .int (nI x1)), (5, .int (nI y0)), (6, .int (nI y1)), (7, .int (nI 1)), (8, .int (nI 32))]) hx hb d_Model_segmentFrom_157 hl (k := 12) rfl (nI_inc _ _ _ (by omega)) (by decide) rfl (fun ls hl => ?_)
              refine lv_goto (tgt := 32) hx hb d_Model_segmentFrom_160 (by decide) ?_
              exact ih32 n2 _ (by omega) hI2 (by omega) (lv_sub hl [4, 5, 6, 7, 8, 9, 10, 11, 12, 0] rfl)
          · refine lv_iconst (v := (nI 1)) hx hb d_Model_segmentFrom_125 (by decide) ?_
            refine lv_goto (tgt := 130) hx hb d_Model_segmentFrom_126 (by decide) ?_
            refine lv_istore (lv' := [(12, .int (nI 1)), (11, .int (nI (cu at_))), (10, .int (nI at_)), (0, .ref hM), (1, .int (nI 1)), (2, .int (nI fr)), (3, .int (nI x0)), (4, .int (nI x1)), (5, .int (nI y0)), (6, .int (nI y1)), (7, .int (nI 1)), (8, .int (nI 32)), (9, .int (nI (fr + (n2 + 1))))]) hx hb d_Model_segmentFrom_130 hl (by decide) rfl (fun ls hl => ?_)
            refine lv_iload hx hb d_Model_segmentFrom_132 (lv_at hl 1 rfl) ?_
            refine n_if_le (tgt := 157) hx hb (by omega) d_Model_segmentFrom_134 (by decide) (fun c134 => ?_) (fun c134 => ?_)
            · have hI2 : pcK (mS vu cu x0 x1) (okc 1 sg_ (fun z9 => decide (1 ≤ z9) && (decide (wy ≠ 0) || (!tl || gs z9)))) (y0 + fr) y1 = pck (mS vu cu x0 x1) (okc 1 sg_ (fun z9 => decide (1 ≤ z9) && (decide (wy ≠ 0) || (!tl || gs z9)))) (fun z9 => dpV (mS vu cu x0 x1) (okc 1 sg_ (fun z9 => decide (1 ≤ z9) && (decide (wy ≠ 0) || (!tl || gs z9)))) z9 y1) (y0 + fr) (dpV (mS vu cu x0 x1) (okc 1 sg_ (fun z9 => decide (1 ≤ z9) && (decide (wy ≠ 0) || (!tl || gs z9)))) (y0 + fr) y1) n2 := by rw [hI, pck_s, if_neg]; intro hh; first | omega | exact absurd hh.2.2 (by rw [show (okc 1 sg_ (fun z9 => decide (1 ≤ z9) && (decide (wy ≠ 0) || (!tl || gs z9)))) (n2 + 1) = false from tN_0 c151]; decide)
              refine lv_iinc (v := (nI (fr + n2))) (lv' := [(9, .int (nI (fr + n2))), (12, .int (nI 1)), (11, .int (nI (cu at_))), (10, .int (nI at_)), (0, .ref hM), (1, .int (nI 1)), (2, .int (nI fr)), (3, .int (nI x0)), (4, .int (nI x1)), (5, .int (nI y0)), (6, .int (nI y1)), (7, .int (nI 1)), (8, .int (nI 32))]) hx hb d_Model_segmentFrom_157 hl (k := 12) rfl (nI_inc _ _ _ (by omega)) (by decide) rfl (fun ls hl => ?_)
              refine lv_goto (tgt := 32) hx hb d_Model_segmentFrom_160 (by decide) ?_
              exact ih32 n2 _ (by omega) hI2 (by omega) (lv_sub hl [4, 5, 6, 7, 8, 9, 10, 11, 12, 0] rfl)
            · refine lv_iload hx hb d_Model_segmentFrom_137 (lv_at hl 0 rfl) ?_
              refine n_if_eq (tgt := 157) hx hb (by omega) d_Model_segmentFrom_139 (by decide) (fun c139 => absurd c139 (by omega)) (fun c139 => ?_)
              refine lv_aload_n hx hb d_Model_segmentFrom_142 rfl (lv_at hl 3 rfl) ?_
              refine lv_iload_n hx hb d_Model_segmentFrom_143 rfl (lv_at hl 4 rfl) ?_
              refine lv_iload hx hb d_Model_segmentFrom_144 (lv_at hl 12 rfl) ?_
              refine lv_iload_n hx hb d_Model_segmentFrom_146 rfl (lv_at hl 5 rfl) ?_
              refine n_isub hx hb (by omega) d_Model_segmentFrom_147 ?_
              refine top_i (show (nI ((fr + (n2 + 1)) - fr)) = (nI (n2 + 1)) from congrArg nI (by omega)) ?_
              refine vp_callSi (W.runV (As := [.int (nI 1), .int (nI (n2 + 1))]) (rest := []) ⟨hx, hb, hml, hown, hts⟩ (c_Model_isCut l G ty hM cd st al ac nf ns 0 mg bw md wy sg_ sz_ ks bd aM 1 (n2 + 1) gs tl (by omega) (by omega) (by omega) (by omega) (by omega)) ⟨callB_of 2 hts (gd_TB cd_Model_isCut) rfl rfl rfl (hts _ ini_Model) (hts _ lk_Model_207) hd_Model_isCut ⟨Nat.le_of_ble_eq_true rfl, Nat.le_of_ble_eq_true rfl⟩, hts _ im_Model_isCut, hts _ sl_Model_isCut⟩ (preV_ro (hP.sub (ws' := [(hM, .inr (10, mO cd st al ac nf ns tl.toNat mg bw md wy sg_ sz_ ks bd aM)), (aM 20, .inl (ty 2, 65537, .inl (bF gs)))]) [0, 5] rfl) hX 0 rfl rfl) rfl rfl hl.1 rfl (lv_room (Nat.le_of_ble_eq_true rfl)) d_Model_segmentFrom_148 ⟨Nat.le_of_ble_eq_true rfl, Nat.le_of_ble_eq_true rfl⟩) (fun r9 er9 => ?_)
              subst er9
              refine n_if_eq (tgt := 157) hx hb (tN_lt _) d_Model_segmentFrom_151 (by decide) (fun c151 => ?_) (fun c151 => ?_)
              · have hI2 : pcK (mS vu cu x0 x1) (okc 1 sg_ (fun z9 => decide (1 ≤ z9) && (decide (wy ≠ 0) || (!tl || gs z9)))) (y0 + fr) y1 = pck (mS vu cu x0 x1) (okc 1 sg_ (fun z9 => decide (1 ≤ z9) && (decide (wy ≠ 0) || (!tl || gs z9)))) (fun z9 => dpV (mS vu cu x0 x1) (okc 1 sg_ (fun z9 => decide (1 ≤ z9) && (decide (wy ≠ 0) || (!tl || gs z9)))) z9 y1) (y0 + fr) (dpV (mS vu cu x0 x1) (okc 1 sg_ (fun z9 => decide (1 ≤ z9) && (decide (wy ≠ 0) || (!tl || gs z9)))) (y0 + fr) y1) n2 := by rw [hI, pck_s, if_neg]; intro hh; first | omega | exact absurd hh.2.2 (by rw [show (okc 1 sg_ (fun z9 => decide (1 ≤ z9) && (decide (wy ≠ 0) || (!tl || gs z9)))) (n2 + 1) = false from tN_0 c151]; decide)
                refine lv_iinc (v := (nI (fr + n2))) (lv' := [(9, .int (nI (fr + n2))), (12, .int (nI 1)), (11, .int (nI (cu at_))), (10, .int (nI at_)), (0, .ref hM), (1, .int (nI 1)), (2, .int (nI fr)), (3, .int (nI x0)), (4, .int (nI x1)), (5, .int (nI y0)), (6, .int (nI y1)), (7, .int (nI 1)), (8, .int (nI 32))]) hx hb d_Model_segmentFrom_157 hl (k := 12) rfl (nI_inc _ _ _ (by omega)) (by decide) rfl (fun ls hl => ?_)
                refine lv_goto (tgt := 32) hx hb d_Model_segmentFrom_160 (by decide) ?_
                exact ih32 n2 _ (by omega) hI2 (by omega) (lv_sub hl [4, 5, 6, 7, 8, 9, 10, 11, 12, 0] rfl)
              · refine lv_iload hx hb d_Model_segmentFrom_154 (lv_at hl 12 rfl) ?_
                exact W.iret (v := (nI (fr + (n2 + 1)))) hx hb hr (fun t9 ht _ => ⟨_, rfl, by rw [hI, pck_s, if_pos ⟨by omega, by omega, tN_1 c151⟩]; unfold pkQ; rw [if_neg (by omega), nI_iI]; congr 1; omega, ht⟩) (fun q h => by cases h) d_Model_segmentFrom_156
  exact L32 ((y1 - y0 - fr) + 1) (y1 - y0 - fr) _ (by omega) (by unfold pcK; rw [show y1 - (y0 + fr) = y1 - y0 - fr by omega]) (Nat.lt_succ_self _) (lv_sub hl [3, 4, 5, 6, 7, 8, 9, 2, 1, 0] rfl)

abbrev q_segFrom11 (G : va_G) (ty : Nat → ClassId) (hM : Nat) (cd : Nat) (st : Nat) (al : Nat) (ac : Nat) (nf : Nat) (ns : Nat) (mg : Nat) (bw : Nat) (md : Nat) (wy : Nat) (sg_ : Nat) (sz_ : Nat) (ks : Nat) (bd : Int) (aM : Nat → Nat) (gs : Nat → Bool) (tl : Bool) (x0 : Nat) (x1 : Nat) (y0 : Nat) (y1 : Nat) (fr : Nat) (vu : Nat → Int) (cu : Nat → Nat) (re2 : Nat → Int) (rc2 : Nat → Nat) : Array Value → State → Outcome → State → Prop := vp_Si (fun r : Int32 => r = (iI (pkQ (pcK (fun b9 e9 => mS vu cu b9 e9 y0 y1) (okc 1 sg_ (fun z9 => decide (1 ≤ z9) && (decide (wy ≠ 0) || (!tl || gs z9)))) (x0 + fr) x1) x0)))
set_option maxRecDepth 100000 in
set_option maxHeartbeats 4000000 in
theorem c_segFrom11 (l : Launch) (G : va_G) (ty : Nat → ClassId) (hM : Nat) (cd : Nat) (st : Nat) (al : Nat) (ac : Nat) (nf : Nat) (ns : Nat) (mg : Nat) (bw : Nat) (md : Nat) (wy : Nat) (sg_ : Nat) (sz_ : Nat) (ks : Nat) (bd : Int) (aM : Nat → Nat) (gs : Nat → Bool) (tl : Bool) (x0 : Nat) (x1 : Nat) (y0 : Nat) (y1 : Nat) (fr : Nat) (vu : Nat → Int) (cu : Nat → Nat) (re2 : Nat → Int) (rc2 : Nat → Nat) (gtp : 1 ≤ sg_ ∧ sg_ ≤ 3) (gwy : wy ≤ 1) (gax : 1 = (if (sg_ - 1) % 2 = 0 then wy else 1 - wy)) (k1 : x0 < x1) (k2 : x1 ≤ 24) (k3 : y0 < y1) (k4 : y1 ≤ 10) (gO : ∀ i j, x0 ≤ i → i < j → j ≤ x1 → mOK vu cu i j y0 y1) (gR : ∀ p, p ≤ (x1 - x0) → rOKr re2 rc2 (fun p9 => dpV (fun b9 e9 => mS vu cu b9 e9 y0 y1) (okc 1 sg_ (fun z9 => decide (1 ≤ z9) && (decide (wy ≠ 0) || (!tl || gs z9)))) (x0 + p9) x1) 32 (y1 - y0) (x1 - x0) p) (gf : fr < (x1 - x0)) : Met l y_Model_segmentFrom ws_Model_segmentFrom { frames := 2, cells := 0, slots := 0, locals := 50 } (va_Pc [.ref hM, .int (nI 1), .int (nI fr), .int (nI x0), .int (nI x1), .int (nI y0), .int (nI y1)] (fun U => va_P G vwCl [(hM, .inr (10, mO cd st al ac nf ns tl.toNat mg bw md wy sg_ sz_ ks bd aM)), (aM 24, .inl (ty 1, 75625, .inr (.inl (lF vu)))), (aM 25, .inl (ty 0, 75625, .inl (nF cu))), (aM 31, .inl (ty 1, 128, .inr (.inl (lF re2)))), (aM 32, .inl (ty 0, 128, .inl (nF rc2))), (aM 20, .inl (ty 2, 65537, .inl (bF gs)))] U.heap ∧ KX G ty U)) (q_segFrom11 G ty hM cd st al ac nf ns mg bw md wy sg_ sz_ ks bd aM gs tl x0 x1 y0 y1 fr vu cu re2 rc2) 0 0 (fun _ => False) := by
  refine met_ro R_Model (by decide) rfl rfl (Nat.le_of_ble_eq_true rfl) ?_
  intro p e s m below meth c ls hx hb hr hml hown hts hlocks hP hX hl
  have hK := hX.1
  have hl : lv_has ls 13 [(0, .ref hM), (1, .int (nI 1)), (2, .int (nI fr)), (3, .int (nI x0)), (4, .int (nI x1)), (5, .int (nI y0)), (6, .int (nI y1))] := hl
  have hKn : ∀ a9, a9 ≤ x1 - x0 → (y1 - y0) * a9 ≤ 240 := fun a9 h9 => Nat.le_trans (Nat.mul_le_mul (show y1 - y0 ≤ 10 by omega) (show a9 ≤ 24 by omega)) (by decide)
  have hdv : ∀ p, x0 ≤ p → p ≤ x1 → 0 ≤ dpV (fun b9 e9 => mS vu cu b9 e9 y0 y1) (okc 1 sg_ (fun z9 => decide (1 ≤ z9) && (decide (wy ≠ 0) || (!tl || gs z9)))) p x1 ∧ dpV (fun b9 e9 => mS vu cu b9 e9 y0 y1) (okc 1 sg_ (fun z9 => decide (1 ≤ z9) && (decide (wy ≠ 0) || (!tl || gs z9)))) p x1 ≤ 26400000000000000 := fun p h1 h2 => dpV_u (by omega) h2 (fun i j h3 h4 h5 => mS_le (gO i j (by omega) h4 h5))
  have hR : ∀ p, 0 ≤ p → p ≤ (x1 - x0) → rOKr re2 rc2 (fun p9 => dpV (fun b9 e9 => mS vu cu b9 e9 y0 y1) (okc 1 sg_ (fun z9 => decide (1 ≤ z9) && (decide (wy ≠ 0) || (!tl || gs z9)))) (x0 + p9) x1) 32 (y1 - y0) (x1 - x0) p := fun p _ h => gR p h
  have hrF := gR fr (by omega)
  have hrF1 : 1024 * re2 (32 + fr) - (rc2 (32 + fr) : Int) = dpV (fun b9 e9 => mS vu cu b9 e9 y0 y1) (okc 1 sg_ (fun z9 => decide (1 ≤ z9) && (decide (wy ≠ 0) || (!tl || gs z9)))) (x0 + fr) x1 := hrF.1
  have hrF2 := hrF.2.1
  have hbF := hdv (x0 + fr) (by omega) (by omega)
  have hkF := hKn (x1 - x0 - fr) (by omega)
  refine lv_aload_n hx hb d_Model_segmentFrom_0 rfl (lv_at hl 0 rfl) ?_
  refine lv_iload_n hx hb d_Model_segmentFrom_1 rfl (lv_at hl 1 rfl) ?_
  refine vp_callSi (W.runV (As := [.int (nI 1)]) (rest := []) ⟨hx, hb, hml, hown, hts⟩ (c_Model_isRipped l G ty hM cd st al ac nf ns tl.toNat mg bw md wy sg_ sz_ ks bd aM 1 (by omega) (by omega) (by omega)) ⟨callB_of 1 hts (gd_TB cd_Model_isRipped) rfl rfl rfl (hts _ ini_Model) (hts _ lk_Model_196) hd_Model_isRipped ⟨Nat.le_of_ble_eq_true rfl, Nat.le_of_ble_eq_true rfl⟩, hts _ im_Model_isRipped, hts _ sl_Model_isRipped⟩ (preV_ro (hP.sub (ws' := [(hM, .inr (10, mO cd st al ac nf ns tl.toNat mg bw md wy sg_ sz_ ks bd aM))]) [0] rfl) hX 0 rfl rfl) rfl rfl hl.1 rfl (lv_room (Nat.le_of_ble_eq_true rfl)) d_Model_segmentFrom_2 ⟨Nat.le_of_ble_eq_true rfl, Nat.le_of_ble_eq_true rfl⟩) (fun r9 er9 => ?_)
  subst er9
  refine top_i (show (nI (1 - (if (sg_ - 1) % 2 = 0 then wy else 1 - wy))) = (nI 0) from congrArg (fun z9 => nI (1 - z9)) gax.symm) ?_
  refine lv_istore (lv' := [(7, .int (nI 0)), (0, .ref hM), (1, .int (nI 1)), (2, .int (nI fr)), (3, .int (nI x0)), (4, .int (nI x1)), (5, .int (nI y0)), (6, .int (nI y1))]) hx hb d_Model_segmentFrom_5 hl (by decide) rfl (fun ls hl => ?_)
  refine lv_bipush (v := (nI 32)) hx hb d_Model_segmentFrom_7 (by decide) ?_
  refine lv_iload_n hx hb d_Model_segmentFrom_9 rfl (lv_at hl 2 rfl) ?_
  refine n_imul hx hb d_Model_segmentFrom_10 ?_
  refine top_i (show (nI (32 * 1)) = nI 32 from rfl) ?_
  refine lv_istore (lv' := [(8, .int (nI 32)), (7, .int (nI 0)), (0, .ref hM), (1, .int (nI 1)), (2, .int (nI fr)), (3, .int (nI x0)), (4, .int (nI x1)), (5, .int (nI y0)), (6, .int (nI y1))]) hx hb d_Model_segmentFrom_11 hl (by decide) rfl (fun ls hl => ?_)
  refine lv_iload hx hb d_Model_segmentFrom_13 (lv_at hl 1 rfl) ?_
  refine n_if_eq (tgt := 26) hx hb (by omega) d_Model_segmentFrom_15 (by decide) (fun c15 => ?_) (fun c15 => absurd c15 (by omega))
  refine lv_iload hx hb d_Model_segmentFrom_26 (lv_at hl 6 rfl) ?_
  refine lv_iload_n hx hb d_Model_segmentFrom_28 rfl (lv_at hl 5 rfl) ?_
  refine n_isub hx hb (by omega) d_Model_segmentFrom_29 ?_
  refine top_i (show (nI (x1 - x0)) = (nI (fr + (x1 - x0 - fr))) from congrArg nI (by omega)) ?_
  refine lv_istore (lv' := [(9, .int (nI (fr + (x1 - x0 - fr)))), (8, .int (nI 32)), (7, .int (nI 0)), (0, .ref hM), (1, .int (nI 1)), (2, .int (nI fr)), (3, .int (nI x0)), (4, .int (nI x1)), (5, .int (nI y0)), (6, .int (nI y1))]) hx hb d_Model_segmentFrom_30 hl (by decide) rfl (fun ls hl => ?_)
  have L32 : ∀ (k9 : Nat) (n1 : Nat) (ls : Array Slot), (fr + n1 ≤ (x1 - x0)) → (pcK (fun b9 e9 => mS vu cu b9 e9 y0 y1) (okc 1 sg_ (fun z9 => decide (1 ≤ z9) && (decide (wy ≠ 0) || (!tl || gs z9)))) (x0 + fr) x1 = pck (fun b9 e9 => mS vu cu b9 e9 y0 y1) (okc 1 sg_ (fun z9 => decide (1 ≤ z9) && (decide (wy ≠ 0) || (!tl || gs z9)))) (fun z9 => dpV (fun b9 e9 => mS vu cu b9 e9 y0 y1) (okc 1 sg_ (fun z9 => decide (1 ≤ z9) && (decide (wy ≠ 0) || (!tl || gs z9)))) z9 x1) (x0 + fr) (dpV (fun b9 e9 => mS vu cu b9 e9 y0 y1) (okc 1 sg_ (fun z9 => decide (1 ≤ z9) && (decide (wy ≠ 0) || (!tl || gs z9)))) (x0 + fr) x1) n1) → n1 < k9 → lv_has ls 13 [(0, .ref hM), (1, .int (nI 1)), (2, .int (nI fr)), (3, .int (nI x0)), (4, .int (nI x1)), (5, .int (nI y0)), (6, .int (nI y1)), (7, .int (nI 0)), (8, .int (nI 32)), (9, .int (nI (fr + n1)))] → W p l e { frames := 2, cells := 0, slots := 0, locals := 50 } s m [.ref hM, .int (nI 1), .int (nI fr), .int (nI x0), .int (nI x1), .int (nI y0), .int (nI y1)].toArray below meth c s.heap [] 0 0 (MQ below (q_segFrom11 G ty hM cd st al ac nf ns mg bw md wy sg_ sz_ ks bd aM gs tl x0 x1 y0 y1 fr vu cu re2 rc2) [.ref hM, .int (nI 1), .int (nI fr), .int (nI x0), .int (nI x1), .int (nI y0), .int (nI y1)].toArray s 0 0 (fun _ => False)) (F0 m 32 ls []) := by
    intro k9
    induction k9 with
    | zero => intro n1 ls hn1 hI hk9; exact absurd hk9 (Nat.not_lt_zero _)
    | succ k9 ih32 =>
      intro n1 ls hn1 hI hk9 hl
      refine lv_iload hx hb d_Model_segmentFrom_32 (lv_at hl 9 rfl) ?_
      refine lv_iload_n hx hb d_Model_segmentFrom_34 rfl (lv_at hl 2 rfl) ?_
      refine n_icmp_le (tgt := 163) hx hb (by omega) (by omega) d_Model_segmentFrom_35 (by decide) (fun c35 => ?_) (fun c35 => ?_)
      · refine lv_iconst (v := (iI (-1))) hx hb d_Model_segmentFrom_163 (by decide) ?_
        exact W.iret (v := (iI (-1))) hx hb hr (fun t9 ht _ => ⟨_, rfl, by rw [hI, show n1 = 0 by omega]; rfl, ht⟩) (fun q h => by cases h) d_Model_segmentFrom_164
      · obtain ⟨n2, rfl⟩ : ∃ n2, n1 = n2 + 1 := ⟨n1 - 1, by omega⟩
        obtain ⟨at_, eat⟩ : ∃ at_, at_ = ((25 * (x0 + fr) + (x0 + (fr + (n2 + 1)))) * 11 + y0) * 11 + y1 := ⟨_, rfl⟩
        have e1 : x0 + (fr + (n2 + 1)) = x0 + fr + 1 + n2 := by omega
        have hO := gO (x0 + fr) (x0 + fr + 1 + n2) (by omega) (by omega) (by omega)
        unfold mOK at hO
        rw [← e1, ← eat] at hO
        have hO1 : cu at_ ≤ (y1 - y0) * (n2 + 1) := by have h9 := hO.1; rw [show x0 + (fr + (n2 + 1)) - (x0 + fr) = n2 + 1 by omega] at h9; rw [Nat.mul_comm]; exact h9
        have hO2 := hO.2.1
        have hO3 := hO.2.2
        clear hO
        have hvS : mS vu cu (x0 + fr) (x0 + fr + 1 + n2) y0 y1 = 1024 * vu at_ - (cu at_ : Int) := by rw [eat, e1]; try rfl
        have hrT := hR (fr + (n2 + 1)) (by omega) (by omega)
        have hrT1 : 1024 * re2 (32 + (fr + (n2 + 1))) - (rc2 (32 + (fr + (n2 + 1))) : Int) = dpV (fun b9 e9 => mS vu cu b9 e9 y0 y1) (okc 1 sg_ (fun z9 => decide (1 ≤ z9) && (decide (wy ≠ 0) || (!tl || gs z9)))) (x0 + fr + 1 + n2) x1 := by have h9 := hrT.1; rw [← e1]; exact h9
        have hrT2 := hrT.2.1
        clear hrT
        have hka : (y1 - y0) * (x1 - x0 - (fr + (n2 + 1))) + (y1 - y0) * (n2 + 1) = (y1 - y0) * (x1 - x0 - fr) := K_add (by omega)
        have hkb := hKn (x1 - x0 - fr) (by omega)
        have hz0 := (hdv (x0 + fr + 1 + n2) (by omega) (by omega))
        have hat : at_ < 75625 := by rw [eat]; omega
        have hz : dpV (fun b9 e9 => mS vu cu b9 e9 y0 y1) (okc 1 sg_ (fun z9 => decide (1 ≤ z9) && (decide (wy ≠ 0) || (!tl || gs z9)))) (x0 + fr + 1 + n2) x1 ≤ dpV (fun b9 e9 => mS vu cu b9 e9 y0 y1) (okc 1 sg_ (fun z9 => decide (1 ≤ z9) && (decide (wy ≠ 0) || (!tl || gs z9)))) (x0 + fr) x1 := by have h9 := dpV_mono (seg := (fun b9 e9 => mS vu cu b9 e9 y0 y1)) (ok := (okc 1 sg_ (fun z9 => decide (1 ≤ z9) && (decide (wy ≠ 0) || (!tl || gs z9))))) (e := x1) (n2 + 1) (x0 + fr) (by omega); rw [show x0 + fr + (n2 + 1) = x0 + fr + 1 + n2 by omega] at h9; exact h9
        refine lv_aload_n hx hb d_Model_segmentFrom_38 rfl (lv_at hl 0 rfl) ?_
        refine lv_iload hx hb d_Model_segmentFrom_39 (lv_at hl 7 rfl) ?_
        refine lv_iload_n hx hb d_Model_segmentFrom_41 rfl (lv_at hl 3 rfl) ?_
        refine lv_iload hx hb d_Model_segmentFrom_42 (lv_at hl 4 rfl) ?_
        refine lv_iload hx hb d_Model_segmentFrom_44 (lv_at hl 5 rfl) ?_
        refine lv_iload hx hb d_Model_segmentFrom_46 (lv_at hl 6 rfl) ?_
        refine lv_iload_n hx hb d_Model_segmentFrom_48 rfl (lv_at hl 2 rfl) ?_
        refine lv_iload hx hb d_Model_segmentFrom_49 (lv_at hl 9 rfl) ?_
        refine vp_callSi (W.runV (As := [.int (nI 0), .int (nI x0), .int (nI x1), .int (nI y0), .int (nI y1), .int (nI fr), .int (nI (fr + (n2 + 1)))]) (rest := []) ⟨hx, hb, hml, hown, hts⟩ (c_segment0 l G ty hM cd st al ac nf ns tl.toNat mg bw md wy sg_ sz_ ks bd aM x0 x1 y0 y1 fr (fr + (n2 + 1)) ) ⟨callB_of 7 hts (gd_TB cd_Model_segment) rfl rfl rfl (hts _ ini_Model) (hts _ lk_Model_199) hd_Model_segment ⟨Nat.le_of_ble_eq_true rfl, Nat.le_of_ble_eq_true rfl⟩, hts _ im_Model_segment, hts _ sl_Model_segment⟩ (preV_ro (hP.sub (ws' := [(hM, .inr (10, mO cd st al ac nf ns tl.toNat mg bw md wy sg_ sz_ ks bd aM))]) [0] rfl) hX 0 rfl rfl) rfl rfl hl.1 rfl (lv_room (Nat.le_of_ble_eq_true rfl)) d_Model_segmentFrom_51 ⟨Nat.le_of_ble_eq_true rfl, Nat.le_of_ble_eq_true rfl⟩) (fun r9 er9 => ?_)
        subst er9
        refine top_i (show (nI (((25 * (x0 + fr) + (x0 + (fr + (n2 + 1)))) * 11 + y0) * 11 + y1)) = (nI at_) from congrArg nI eat.symm) ?_
        refine lv_istore (lv' := [(10, .int (nI at_)), (0, .ref hM), (1, .int (nI 1)), (2, .int (nI fr)), (3, .int (nI x0)), (4, .int (nI x1)), (5, .int (nI y0)), (6, .int (nI y1)), (7, .int (nI 0)), (8, .int (nI 32)), (9, .int (nI (fr + (n2 + 1))))]) hx hb d_Model_segmentFrom_54 hl (by decide) rfl (fun ls hl => ?_)
        refine lv_aload_n hx hb d_Model_segmentFrom_56 rfl (lv_at hl 1 rfl) ?_
        refine lv_iload_n hx hb d_Model_segmentFrom_57 rfl (lv_at hl 2 rfl) ?_
        refine lv_iconst (v := (nI 1)) hx hb d_Model_segmentFrom_58 (by decide) ?_
        refine n_isub hx hb (by omega) d_Model_segmentFrom_59 ?_
        refine top_i (show (nI (1 - 1)) = nI 0 from rfl) ?_
        refine lv_iload hx hb d_Model_segmentFrom_60 (lv_at hl 0 rfl) ?_
        refine vp_callSi (W.runV (As := [.int (nI 0), .int (nI at_)]) (rest := []) ⟨hx, hb, hml, hown, hts⟩ (c_countBy0 l G ty hM cd st al ac nf ns tl.toNat mg bw md wy sg_ sz_ ks bd aM at_ cu (by omega)) ⟨callB_of 2 hts (gd_TB cd_Model_countBy) rfl rfl rfl (hts _ ini_Model) (hts _ lk_Model_203) hd_Model_countBy ⟨Nat.le_of_ble_eq_true rfl, Nat.le_of_ble_eq_true rfl⟩, hts _ im_Model_countBy, hts _ sl_Model_countBy⟩ (preV_ro (hP.sub (ws' := [(hM, .inr (10, mO cd st al ac nf ns tl.toNat mg bw md wy sg_ sz_ ks bd aM)), (aM 25, .inl (ty 0, 75625, .inl (nF cu)))]) [0, 2] rfl) hX 0 rfl rfl) rfl rfl hl.1 rfl (lv_room (Nat.le_of_ble_eq_true rfl)) d_Model_segmentFrom_62 ⟨Nat.le_of_ble_eq_true rfl, Nat.le_of_ble_eq_true rfl⟩) (fun r9 er9 => ?_)
        subst er9
        refine lv_istore (lv' := [(11, .int (nI (cu at_))), (10, .int (nI at_)), (0, .ref hM), (1, .int (nI 1)), (2, .int (nI fr)), (3, .int (nI x0)), (4, .int (nI x1)), (5, .int (nI y0)), (6, .int (nI y1)), (7, .int (nI 0)), (8, .int (nI 32)), (9, .int (nI (fr + (n2 + 1))))]) hx hb d_Model_segmentFrom_65 hl (by decide) rfl (fun ls hl => ?_)
        refine lv_aload_n hx hb d_Model_segmentFrom_67 rfl (lv_at hl 2 rfl) ?_
        refine va_get (D := G) (ci := 10) (v := .ref (aM 31)) (C := R_Model) (T := F_Model) (N := 47) hx hb hts in_Model hown hK hP 0 rfl rfl 31 (by decide) (hts _ fl_Model_85) (fun _ h9 => h9) rfl d_Model_segmentFrom_68 ?_
        refine lv_iload hx hb d_Model_segmentFrom_71 (lv_at hl 10 rfl) ?_
        refine lv_iload hx hb d_Model_segmentFrom_73 (lv_at hl 11 rfl) ?_
        refine n_iadd hx hb d_Model_segmentFrom_75 ?_
        refine n_lald hx hb hK hP 3 1 rfl rfl (by omega) (by omega) d_Model_segmentFrom_76 ?_
        refine lv_aload_n hx hb d_Model_segmentFrom_77 rfl (lv_at hl 2 rfl) ?_
        refine lv_iload_n hx hb d_Model_segmentFrom_78 rfl (lv_at hl 3 rfl) ?_
        refine lv_iconst (v := (nI 1)) hx hb d_Model_segmentFrom_79 (by decide) ?_
        refine n_isub hx hb (by omega) d_Model_segmentFrom_80 ?_
        refine top_i (show (nI (1 - 1)) = nI 0 from rfl) ?_
        refine lv_iload hx hb d_Model_segmentFrom_81 (lv_at hl 1 rfl) ?_
        refine vp_callSl (W.runV (As := [.int (nI 0), .int (nI at_)]) (rest := [.long (iL (re2 (32 + (fr + (n2 + 1)))))]) ⟨hx, hb, hml, hown, hts⟩ (c_valueBy0 l G ty hM cd st al ac nf ns tl.toNat mg bw md wy sg_ sz_ ks bd aM at_ vu (by omega)) ⟨callB_of 2 hts (gd_TB cd_Model_valueBy) rfl rfl rfl (hts _ ini_Model) (hts _ lk_Model_211) hd_Model_valueBy ⟨Nat.le_of_ble_eq_true rfl, Nat.le_of_ble_eq_true rfl⟩, hts _ im_Model_valueBy, hts _ sl_Model_valueBy⟩ (preV_ro (hP.sub (ws' := [(hM, .inr (10, mO cd st al ac nf ns tl.toNat mg bw md wy sg_ sz_ ks bd aM)), (aM 24, .inl (ty 1, 75625, .inr (.inl (lF vu))))]) [0, 1] rfl) hX 0 rfl rfl) rfl rfl hl.1 rfl (lv_room (Nat.le_of_ble_eq_true rfl)) d_Model_segmentFrom_83 ⟨Nat.le_of_ble_eq_true rfl, Nat.le_of_ble_eq_true rfl⟩) (fun r9 er9 => ?_)
        subst er9
        refine z_ladd hx hb d_Model_segmentFrom_86 ?_
        refine lv_aload_n hx hb d_Model_segmentFrom_87 rfl (lv_at hl 2 rfl) ?_
        refine va_get (D := G) (ci := 10) (v := .ref (aM 31)) (C := R_Model) (T := F_Model) (N := 47) hx hb hts in_Model hown hK hP 0 rfl rfl 31 (by decide) (hts _ fl_Model_85) (fun _ h9 => h9) rfl d_Model_segmentFrom_88 ?_
        refine lv_iload hx hb d_Model_segmentFrom_91 (lv_at hl 10 rfl) ?_
        refine lv_iload_n hx hb d_Model_segmentFrom_93 rfl (lv_at hl 4 rfl) ?_
        refine n_iadd hx hb d_Model_segmentFrom_94 ?_
        refine n_lald hx hb hK hP 3 1 rfl rfl (by omega) (by omega) d_Model_segmentFrom_95 ?_
        refine l_cmp_ne (tgt := 129) hx hb (by omega) (by omega) d_Model_segmentFrom_96 d_Model_segmentFrom_97 (by decide) (fun c96 => ?_) (fun c96 => ?_)
        · refine lv_iconst (v := (nI 0)) hx hb d_Model_segmentFrom_129 (by decide) ?_
          refine lv_istore (lv' := [(12, .int (nI 0)), (11, .int (nI (cu at_))), (10, .int (nI at_)), (0, .ref hM), (1, .int (nI 1)), (2, .int (nI fr)), (3, .int (nI x0)), (4, .int (nI x1)), (5, .int (nI y0)), (6, .int (nI y1)), (7, .int (nI 0)), (8, .int (nI 32)), (9, .int (nI (fr + (n2 + 1))))]) hx hb d_Model_segmentFrom_130 hl (by decide) rfl (fun ls hl => ?_)
          refine lv_iload hx hb d_Model_segmentFrom_132 (lv_at hl 1 rfl) ?_
          refine n_if_le (tgt := 157) hx hb (by omega) d_Model_segmentFrom_134 (by decide) (fun c134 => ?_) (fun c134 => ?_)
          · have hI2 : pcK (fun b9 e9 => mS vu cu b9 e9 y0 y1) (okc 1 sg_ (fun z9 => decide (1 ≤ z9) && (decide (wy ≠ 0) || (!tl || gs z9)))) (x0 + fr) x1 = pck (fun b9 e9 => mS vu cu b9 e9 y0 y1) (okc 1 sg_ (fun z9 => decide (1 ≤ z9) && (decide (wy ≠ 0) || (!tl || gs z9)))) (fun z9 => dpV (fun b9 e9 => mS vu cu b9 e9 y0 y1) (okc 1 sg_ (fun z9 => decide (1 ≤ z9) && (decide (wy ≠ 0) || (!tl || gs z9)))) z9 x1) (x0 + fr) (dpV (fun b9 e9 => mS vu cu b9 e9 y0 y1) (okc 1 sg_ (fun z9 => decide (1 ≤ z9) && (decide (wy ≠ 0) || (!tl || gs z9)))) (x0 + fr) x1) n2 := by rw [hI, pck_s, if_neg]; intro hh; first | omega | exact absurd hh.2.2 (by rw [show (okc 1 sg_ (fun z9 => decide (1 ≤ z9) && (decide (wy ≠ 0) || (!tl || gs z9)))) (n2 + 1) = false from tN_0 c151]; decide)
            refine lv_iinc (v := (nI (fr + n2))) (lv' := [(9, .int (nI (fr + n2))), (12, .int (nI 0)), (11, .int (nI (cu at_))), (10, .int (nI at_)), (0, .ref hM), (1, .int (nI 1)), (2, .int (nI fr)), (3, .int (nI x0)), (4, .int (nI x1)), (5, .int (nI y0)), (6, .int (nI y1)), (7, .int (nI 0)), (8, .int (nI 32))]) hx hb d_Model_segmentFrom_157 hl (k := 12) rfl (nI_inc _ _ _ (by omega)) (by decide) rfl (fun ls hl => ?_)
            refine lv_goto (tgt := 32) hx hb d_Model_segmentFrom_160 (by decide) ?_
            exact ih32 n2 _ (by omega) hI2 (by omega) (lv_sub hl [4, 5, 6, 7, 8, 9, 10, 11, 12, 0] rfl)
          · refine lv_iload hx hb d_Model_segmentFrom_137 (lv_at hl 0 rfl) ?_
            refine n_if_eq (tgt := 157) hx hb (by omega) d_Model_segmentFrom_139 (by decide) (fun c139 => ?_) (fun c139 => absurd c139 (by omega))
            have hI2 : pcK (fun b9 e9 => mS vu cu b9 e9 y0 y1) (okc 1 sg_ (fun z9 => decide (1 ≤ z9) && (decide (wy ≠ 0) || (!tl || gs z9)))) (x0 + fr) x1 = pck (fun b9 e9 => mS vu cu b9 e9 y0 y1) (okc 1 sg_ (fun z9 => decide (1 ≤ z9) && (decide (wy ≠ 0) || (!tl || gs z9)))) (fun z9 => dpV (fun b9 e9 => mS vu cu b9 e9 y0 y1) (okc 1 sg_ (fun z9 => decide (1 ≤ z9) && (decide (wy ≠ 0) || (!tl || gs z9)))) z9 x1) (x0 + fr) (dpV (fun b9 e9 => mS vu cu b9 e9 y0 y1) (okc 1 sg_ (fun z9 => decide (1 ≤ z9) && (decide (wy ≠ 0) || (!tl || gs z9)))) (x0 + fr) x1) n2 := by rw [hI, pck_s, if_neg]; intro hh; first | omega | exact absurd hh.2.2 (by rw [show (okc 1 sg_ (fun z9 => decide (1 ≤ z9) && (decide (wy ≠ 0) || (!tl || gs z9)))) (n2 + 1) = false from tN_0 c151]; decide)
            refine lv_iinc (v := (nI (fr + n2))) (lv' := [(9, .int (nI (fr + n2))), (12, .int (nI 0)), (11, .int (nI (cu at_))), (10, .int (nI at_)), (0, .ref hM), (1, .int (nI 1)), (2, .int (nI fr)), (3, .int (nI x0)), (4, .int (nI x1)), (5, .int (nI y0)), (6, .int (nI y1)), (7, .int (nI 0)), (8, .int (nI 32))]) hx hb d_Model_segmentFrom_157 hl (k := 12) rfl (nI_inc _ _ _ (by omega)) (by decide) rfl (fun ls hl => ?_)
            refine lv_goto (tgt := 32) hx hb d_Model_segmentFrom_160 (by decide) ?_
            exact ih32 n2 _ (by omega) hI2 (by omega) (lv_sub hl [4, 5, 6, 7, 8, 9, 10, 11, 12, 0] rfl)
        · refine lv_aload_n hx hb d_Model_segmentFrom_100 rfl (lv_at hl 2 rfl) ?_
          refine va_get (D := G) (ci := 10) (v := .ref (aM 32)) (C := R_Model) (T := F_Model) (N := 47) hx hb hts in_Model hown hK hP 0 rfl rfl 32 (by decide) (hts _ fl_Model_88) (fun _ h9 => h9) rfl d_Model_segmentFrom_101 ?_
          refine lv_iload hx hb d_Model_segmentFrom_104 (lv_at hl 10 rfl) ?_
          refine lv_iload hx hb d_Model_segmentFrom_106 (lv_at hl 11 rfl) ?_
          refine n_iadd hx hb d_Model_segmentFrom_108 ?_
          refine n_iald hx hb hK hP 4 0 rfl rfl (by omega) (by omega) d_Model_segmentFrom_109 ?_
          refine lv_iload hx hb d_Model_segmentFrom_110 (lv_at hl 0 rfl) ?_
          refine n_iadd hx hb d_Model_segmentFrom_112 ?_
          refine lv_aload_n hx hb d_Model_segmentFrom_113 rfl (lv_at hl 2 rfl) ?_
          refine va_get (D := G) (ci := 10) (v := .ref (aM 32)) (C := R_Model) (T := F_Model) (N := 47) hx hb hts in_Model hown hK hP 0 rfl rfl 32 (by decide) (hts _ fl_Model_88) (fun _ h9 => h9) rfl d_Model_segmentFrom_114 ?_
          refine lv_iload hx hb d_Model_segmentFrom_117 (lv_at hl 10 rfl) ?_
          refine lv_iload_n hx hb d_Model_segmentFrom_119 rfl (lv_at hl 4 rfl) ?_
          refine n_iadd hx hb d_Model_segmentFrom_120 ?_
          refine n_iald hx hb hK hP 4 0 rfl rfl (by omega) (by omega) d_Model_segmentFrom_121 ?_
          refine n_icmp_ne (tgt := 129) hx hb (by omega) (by omega) d_Model_segmentFrom_122 (by decide) (fun c122 => ?_) (fun c122 => ?_)
          · refine lv_iconst (v := (nI 0)) hx hb d_Model_segmentFrom_129 (by decide) ?_
            refine lv_istore (lv' := [(12, .int (nI 0)), (11, .int (nI (cu at_))), (10, .int (nI at_)), (0, .ref hM), (1, .int (nI 1)), (2, .int (nI fr)), (3, .int (nI x0)), (4, .int (nI x1)), (5, .int (nI y0)), (6, .int (nI y1)), (7, .int (nI 0)), (8, .int (nI 32)), (9, .int (nI (fr + (n2 + 1))))]) hx hb d_Model_segmentFrom_130 hl (by decide) rfl (fun ls hl => ?_)
            refine lv_iload hx hb d_Model_segmentFrom_132 (lv_at hl 1 rfl) ?_
            refine n_if_le (tgt := 157) hx hb (by omega) d_Model_segmentFrom_134 (by decide) (fun c134 => ?_) (fun c134 => ?_)
            · have hI2 : pcK (fun b9 e9 => mS vu cu b9 e9 y0 y1) (okc 1 sg_ (fun z9 => decide (1 ≤ z9) && (decide (wy ≠ 0) || (!tl || gs z9)))) (x0 + fr) x1 = pck (fun b9 e9 => mS vu cu b9 e9 y0 y1) (okc 1 sg_ (fun z9 => decide (1 ≤ z9) && (decide (wy ≠ 0) || (!tl || gs z9)))) (fun z9 => dpV (fun b9 e9 => mS vu cu b9 e9 y0 y1) (okc 1 sg_ (fun z9 => decide (1 ≤ z9) && (decide (wy ≠ 0) || (!tl || gs z9)))) z9 x1) (x0 + fr) (dpV (fun b9 e9 => mS vu cu b9 e9 y0 y1) (okc 1 sg_ (fun z9 => decide (1 ≤ z9) && (decide (wy ≠ 0) || (!tl || gs z9)))) (x0 + fr) x1) n2 := by rw [hI, pck_s, if_neg]; intro hh; first | omega | exact absurd hh.2.2 (by rw [show (okc 1 sg_ (fun z9 => decide (1 ≤ z9) && (decide (wy ≠ 0) || (!tl || gs z9)))) (n2 + 1) = false from tN_0 c151]; decide)
              refine lv_iinc (v := (nI (fr + n2))) (lv' := [(9, .int (nI (fr + n2))), (12, .int (nI 0)), (11, .int (nI (cu at_))), (10, .int (nI at_)), (0, .ref hM), (1, .int (nI 1)), (2, .int (nI fr)), (3, .int (nI x0)), (4, .int (nI x1)), (5, .int (nI y0)), (6, .int (nI y1)), (7, .int (nI 0)), (8, .int (nI 32))]) hx hb d_Model_segmentFrom_157 hl (k := 12) rfl (nI_inc _ _ _ (by omega)) (by decide) rfl (fun ls hl => ?_)
              refine lv_goto (tgt := 32) hx hb d_Model_segmentFrom_160 (by decide) ?_
              exact ih32 n2 _ (by omega) hI2 (by omega) (lv_sub hl [4, 5, 6, 7, 8, 9, 10, 11, 12, 0] rfl)
            · refine lv_iload hx hb d_Model_segmentFrom_137 (lv_at hl 0 rfl) ?_
              refine n_if_eq (tgt := 157) hx hb (by omega) d_Model_segmentFrom_139 (by decide) (fun c139 => ?_) (fun c139 => absurd c139 (by omega))
              have hI2 : pcK (fun b9 e9 => mS vu cu b9 e9 y0 y1) (okc 1 sg_ (fun z9 => decide (1 ≤ z9) && (decide (wy ≠ 0) || (!tl || gs z9)))) (x0 + fr) x1 = pck (fun b9 e9 => mS vu cu b9 e9 y0 y1) (okc 1 sg_ (fun z9 => decide (1 ≤ z9) && (decide (wy ≠ 0) || (!tl || gs z9)))) (fun z9 => dpV (fun b9 e9 => mS vu cu b9 e9 y0 y1) (okc 1 sg_ (fun z9 => decide (1 ≤ z9) && (decide (wy ≠ 0) || (!tl || gs z9)))) z9 x1) (x0 + fr) (dpV (fun b9 e9 => mS vu cu b9 e9 y0 y1) (okc 1 sg_ (fun z9 => decide (1 ≤ z9) && (decide (wy ≠ 0) || (!tl || gs z9)))) (x0 + fr) x1) n2 := by rw [hI, pck_s, if_neg]; intro hh; first | omega | exact absurd hh.2.2 (by rw [show (okc 1 sg_ (fun z9 => decide (1 ≤ z9) && (decide (wy ≠ 0) || (!tl || gs z9)))) (n2 + 1) = false from tN_0 c151]; decide)
              refine lv_iinc (v := (nI (fr + n2))) (lv' := [(9, .int (nI (fr + n2))), (12, .int (nI 0)), (11, .int (nI (cu at_))), (10, .int (nI at_)), (0, .ref hM), (1, .int (nI 1)), (2, .int (nI fr)), (3, .int (nI x0)), (4, .int (nI x1)), (5, .int (nI y0)), (6, .int (nI y1)), (7, .int (nI 0)), (8, .int (nI 32))]) hx hb d_Model_segmentFrom_157 hl (k := 12) rfl (nI_inc _ _ _ (by omega)) (by decide) rfl (fun ls hl => ?_)
              refine lv_goto (tgt := 32) hx hb d_Model_segmentFrom_160 (by decide) ?_
              exact ih32 n2 _ (by omega) hI2 (by omega) (lv_sub hl [4, 5, 6, 7, 8, 9, 10, 11, 12, 0] rfl)
          · refine lv_iconst (v := (nI 1)) hx hb d_Model_segmentFrom_125 (by decide) ?_
            refine lv_goto (tgt := 130) hx hb d_Model_segmentFrom_126 (by decide) ?_
            refine lv_istore (lv' := [(12, .int (nI 1)), (11, .int (nI (cu at_))), (10, .int (nI at_)), (0, .ref hM), (1, .int (nI 1)), (2, .int (nI fr)), (3, .int (nI x0)), (4, .int (nI x1)), (5, .int (nI y0)), (6, .int (nI y1)), (7, .int (nI 0)), (8, .int (nI 32)), (9, .int (nI (fr + (n2 + 1))))]) hx hb d_Model_segmentFrom_130 hl (by decide) rfl (fun ls hl => ?_)
            refine lv_iload hx hb d_Model_segmentFrom_132 (lv_at hl 1 rfl) ?_
            refine n_if_le (tgt := 157) hx hb (by omega) d_Model_segmentFrom_134 (by decide) (fun c134 => ?_) (fun c134 => ?_)
            · have hI2 : pcK (fun b9 e9 => mS vu cu b9 e9 y0 y1) (okc 1 sg_ (fun z9 => decide (1 ≤ z9) && (decide (wy ≠ 0) || (!tl || gs z9)))) (x0 + fr) x1 = pck (fun b9 e9 => mS vu cu b9 e9 y0 y1) (okc 1 sg_ (fun z9 => decide (1 ≤ z9) && (decide (wy ≠ 0) || (!tl || gs z9)))) (fun z9 => dpV (fun b9 e9 => mS vu cu b9 e9 y0 y1) (okc 1 sg_ (fun z9 => decide (1 ≤ z9) && (decide (wy ≠ 0) || (!tl || gs z9)))) z9 x1) (x0 + fr) (dpV (fun b9 e9 => mS vu cu b9 e9 y0 y1) (okc 1 sg_ (fun z9 => decide (1 ≤ z9) && (decide (wy ≠ 0) || (!tl || gs z9)))) (x0 + fr) x1) n2 := by rw [hI, pck_s, if_neg]; intro hh; first | omega | exact absurd hh.2.2 (by rw [show (okc 1 sg_ (fun z9 => decide (1 ≤ z9) && (decide (wy ≠ 0) || (!tl || gs z9)))) (n2 + 1) = false from tN_0 c151]; decide)
              refine lv_iinc (v := (nI (fr + n2))) (lv' := [(9, .int (nI (fr + n2))), (12, .int (nI 1)), (11, .int (nI (cu at_))), (10, .int (nI at_)), (0, .ref hM), (1, .int (nI 1)), (2, .int (nI fr)), (3, .int (nI x0)), (4, .int (nI x1)), (5, .int (nI y0)), (6, .int (nI y1)), (7, .int (nI 0)), (8, .int (nI 32))]) hx hb d_Model_segmentFrom_157 hl (k := 12) rfl (nI_inc _ _ _ (by omega)) (by decide) rfl (fun ls hl => ?_)
              refine lv_goto (tgt := 32) hx hb d_Model_segmentFrom_160 (by decide) ?_
              exact ih32 n2 _ (by omega) hI2 (by omega) (lv_sub hl [4, 5, 6, 7, 8, 9, 10, 11, 12, 0] rfl)
            · refine lv_iload hx hb d_Model_segmentFrom_137 (lv_at hl 0 rfl) ?_
              refine n_if_eq (tgt := 157) hx hb (by omega) d_Model_segmentFrom_139 (by decide) (fun c139 => absurd c139 (by omega)) (fun c139 => ?_)
              refine lv_aload_n hx hb d_Model_segmentFrom_142 rfl (lv_at hl 3 rfl) ?_
              refine lv_iload_n hx hb d_Model_segmentFrom_143 rfl (lv_at hl 4 rfl) ?_
              refine lv_iload hx hb d_Model_segmentFrom_144 (lv_at hl 12 rfl) ?_
              refine lv_iload_n hx hb d_Model_segmentFrom_146 rfl (lv_at hl 5 rfl) ?_
              refine n_isub hx hb (by omega) d_Model_segmentFrom_147 ?_
              refine top_i (show (nI ((fr + (n2 + 1)) - fr)) = (nI (n2 + 1)) from congrArg nI (by omega)) ?_
              refine vp_callSi (W.runV (As := [.int (nI 1), .int (nI (n2 + 1))]) (rest := []) ⟨hx, hb, hml, hown, hts⟩ (c_Model_isCut l G ty hM cd st al ac nf ns 0 mg bw md wy sg_ sz_ ks bd aM 1 (n2 + 1) gs tl (by omega) (by omega) (by omega) (by omega) (by omega)) ⟨callB_of 2 hts (gd_TB cd_Model_isCut) rfl rfl rfl (hts _ ini_Model) (hts _ lk_Model_207) hd_Model_isCut ⟨Nat.le_of_ble_eq_true rfl, Nat.le_of_ble_eq_true rfl⟩, hts _ im_Model_isCut, hts _ sl_Model_isCut⟩ (preV_ro (hP.sub (ws' := [(hM, .inr (10, mO cd st al ac nf ns tl.toNat mg bw md wy sg_ sz_ ks bd aM)), (aM 20, .inl (ty 2, 65537, .inl (bF gs)))]) [0, 5] rfl) hX 0 rfl rfl) rfl rfl hl.1 rfl (lv_room (Nat.le_of_ble_eq_true rfl)) d_Model_segmentFrom_148 ⟨Nat.le_of_ble_eq_true rfl, Nat.le_of_ble_eq_true rfl⟩) (fun r9 er9 => ?_)
              subst er9
              refine n_if_eq (tgt := 157) hx hb (tN_lt _) d_Model_segmentFrom_151 (by decide) (fun c151 => ?_) (fun c151 => ?_)
              · have hI2 : pcK (fun b9 e9 => mS vu cu b9 e9 y0 y1) (okc 1 sg_ (fun z9 => decide (1 ≤ z9) && (decide (wy ≠ 0) || (!tl || gs z9)))) (x0 + fr) x1 = pck (fun b9 e9 => mS vu cu b9 e9 y0 y1) (okc 1 sg_ (fun z9 => decide (1 ≤ z9) && (decide (wy ≠ 0) || (!tl || gs z9)))) (fun z9 => dpV (fun b9 e9 => mS vu cu b9 e9 y0 y1) (okc 1 sg_ (fun z9 => decide (1 ≤ z9) && (decide (wy ≠ 0) || (!tl || gs z9)))) z9 x1) (x0 + fr) (dpV (fun b9 e9 => mS vu cu b9 e9 y0 y1) (okc 1 sg_ (fun z9 => decide (1 ≤ z9) && (decide (wy ≠ 0) || (!tl || gs z9)))) (x0 + fr) x1) n2 := by rw [hI, pck_s, if_neg]; intro hh; first | omega | exact absurd hh.2.2 (by rw [show (okc 1 sg_ (fun z9 => decide (1 ≤ z9) && (decide (wy ≠ 0) || (!tl || gs z9)))) (n2 + 1) = false from tN_0 c151]; decide)
                refine lv_iinc (v := (nI (fr + n2))) (lv' := [(9, .int (nI (fr + n2))), (12, .int (nI 1)), (11, .int (nI (cu at_))), (10, .int (nI at_)), (0, .ref hM), (1, .int (nI 1)), (2, .int (nI fr)), (3, .int (nI x0)), (4, .int (nI x1)), (5, .int (nI y0)), (6, .int (nI y1)), (7, .int (nI 0)), (8, .int (nI 32))]) hx hb d_Model_segmentFrom_157 hl (k := 12) rfl (nI_inc _ _ _ (by omega)) (by decide) rfl (fun ls hl => ?_)
                refine lv_goto (tgt := 32) hx hb d_Model_segmentFrom_160 (by decide) ?_
                exact ih32 n2 _ (by omega) hI2 (by omega) (lv_sub hl [4, 5, 6, 7, 8, 9, 10, 11, 12, 0] rfl)
              · refine lv_iload hx hb d_Model_segmentFrom_154 (lv_at hl 12 rfl) ?_
                exact W.iret (v := (nI (fr + (n2 + 1)))) hx hb hr (fun t9 ht _ => ⟨_, rfl, by rw [hI, pck_s, if_pos ⟨by omega, by omega, tN_1 c151⟩]; unfold pkQ; rw [if_neg (by omega), nI_iI]; congr 1; omega, ht⟩) (fun q h => by cases h) d_Model_segmentFrom_156
  exact L32 ((x1 - x0 - fr) + 1) (x1 - x0 - fr) _ (by omega) (by unfold pcK; rw [show x1 - (x0 + fr) = x1 - x0 - fr by omega]) (Nat.lt_succ_self _) (lv_sub hl [3, 4, 5, 6, 7, 8, 9, 2, 1, 0] rfl)

abbrev q_segFrom20 (G : va_G) (ty : Nat → ClassId) (hM : Nat) (cd : Nat) (st : Nat) (al : Nat) (ac : Nat) (nf : Nat) (ns : Nat) (mg : Nat) (bw : Nat) (md : Nat) (wy : Nat) (sg_ : Nat) (sz_ : Nat) (ks : Nat) (bd : Int) (aM : Nat → Nat) (gs : Nat → Bool) (tl : Bool) (x0 : Nat) (x1 : Nat) (y0 : Nat) (y1 : Nat) (fr : Nat) (vu : Nat → Int) (cu : Nat → Nat) (re2 : Nat → Int) (rc2 : Nat → Nat) : Array Value → State → Outcome → State → Prop := vp_Si (fun r : Int32 => r = (iI (pkQ (pcK (mS vu cu x0 x1) (okc 2 sg_ (fun z9 => decide (1 ≤ z9) && (decide (wy ≠ 0) || (!tl || gs z9)))) (y0 + fr) y1) y0)))
set_option maxRecDepth 100000 in
set_option maxHeartbeats 4000000 in
theorem c_segFrom20 (l : Launch) (G : va_G) (ty : Nat → ClassId) (hM : Nat) (cd : Nat) (st : Nat) (al : Nat) (ac : Nat) (nf : Nat) (ns : Nat) (mg : Nat) (bw : Nat) (md : Nat) (wy : Nat) (sg_ : Nat) (sz_ : Nat) (ks : Nat) (bd : Int) (aM : Nat → Nat) (gs : Nat → Bool) (tl : Bool) (x0 : Nat) (x1 : Nat) (y0 : Nat) (y1 : Nat) (fr : Nat) (vu : Nat → Int) (cu : Nat → Nat) (re2 : Nat → Int) (rc2 : Nat → Nat) (gtp : 2 ≤ sg_ ∧ sg_ ≤ 3) (gwy : wy ≤ 1) (gax : 0 = (if (sg_ - 2) % 2 = 0 then wy else 1 - wy)) (k1 : x0 < x1) (k2 : x1 ≤ 24) (k3 : y0 < y1) (k4 : y1 ≤ 10) (gO : ∀ i j, y0 ≤ i → i < j → j ≤ y1 → mOK vu cu x0 x1 i j) (gR : ∀ p, p ≤ (y1 - y0) → rOKr re2 rc2 (fun p9 => dpV (mS vu cu x0 x1) (okc 2 sg_ (fun z9 => decide (1 ≤ z9) && (decide (wy ≠ 0) || (!tl || gs z9)))) (y0 + p9) y1) 64 (x1 - x0) (y1 - y0) p) (gf : fr < (y1 - y0)) : Met l y_Model_segmentFrom ws_Model_segmentFrom { frames := 2, cells := 0, slots := 0, locals := 50 } (va_Pc [.ref hM, .int (nI 2), .int (nI fr), .int (nI x0), .int (nI x1), .int (nI y0), .int (nI y1)] (fun U => va_P G vwCl [(hM, .inr (10, mO cd st al ac nf ns tl.toNat mg bw md wy sg_ sz_ ks bd aM)), (aM 27, .inl (ty 1, 75625, .inr (.inl (lF vu)))), (aM 28, .inl (ty 0, 75625, .inl (nF cu))), (aM 31, .inl (ty 1, 128, .inr (.inl (lF re2)))), (aM 32, .inl (ty 0, 128, .inl (nF rc2))), (aM 20, .inl (ty 2, 65537, .inl (bF gs)))] U.heap ∧ KX G ty U)) (q_segFrom20 G ty hM cd st al ac nf ns mg bw md wy sg_ sz_ ks bd aM gs tl x0 x1 y0 y1 fr vu cu re2 rc2) 0 0 (fun _ => False) := by
  refine met_ro R_Model (by decide) rfl rfl (Nat.le_of_ble_eq_true rfl) ?_
  intro p e s m below meth c ls hx hb hr hml hown hts hlocks hP hX hl
  have hK := hX.1
  have hl : lv_has ls 13 [(0, .ref hM), (1, .int (nI 2)), (2, .int (nI fr)), (3, .int (nI x0)), (4, .int (nI x1)), (5, .int (nI y0)), (6, .int (nI y1))] := hl
  have hKn : ∀ a9, a9 ≤ y1 - y0 → (x1 - x0) * a9 ≤ 240 := fun a9 h9 => Nat.le_trans (Nat.mul_le_mul (show x1 - x0 ≤ 24 by omega) (show a9 ≤ 10 by omega)) (by decide)
  have hdv : ∀ p, y0 ≤ p → p ≤ y1 → 0 ≤ dpV (mS vu cu x0 x1) (okc 2 sg_ (fun z9 => decide (1 ≤ z9) && (decide (wy ≠ 0) || (!tl || gs z9)))) p y1 ∧ dpV (mS vu cu x0 x1) (okc 2 sg_ (fun z9 => decide (1 ≤ z9) && (decide (wy ≠ 0) || (!tl || gs z9)))) p y1 ≤ 26400000000000000 := fun p h1 h2 => dpV_u (by omega) h2 (fun i j h3 h4 h5 => mS_le (gO i j (by omega) h4 h5))
  have hR : ∀ p, 0 ≤ p → p ≤ (y1 - y0) → rOKr re2 rc2 (fun p9 => dpV (mS vu cu x0 x1) (okc 2 sg_ (fun z9 => decide (1 ≤ z9) && (decide (wy ≠ 0) || (!tl || gs z9)))) (y0 + p9) y1) 64 (x1 - x0) (y1 - y0) p := fun p _ h => gR p h
  have hrF := gR fr (by omega)
  have hrF1 : 1024 * re2 (64 + fr) - (rc2 (64 + fr) : Int) = dpV (mS vu cu x0 x1) (okc 2 sg_ (fun z9 => decide (1 ≤ z9) && (decide (wy ≠ 0) || (!tl || gs z9)))) (y0 + fr) y1 := hrF.1
  have hrF2 := hrF.2.1
  have hbF := hdv (y0 + fr) (by omega) (by omega)
  have hkF := hKn (y1 - y0 - fr) (by omega)
  refine lv_aload_n hx hb d_Model_segmentFrom_0 rfl (lv_at hl 0 rfl) ?_
  refine lv_iload_n hx hb d_Model_segmentFrom_1 rfl (lv_at hl 1 rfl) ?_
  refine vp_callSi (W.runV (As := [.int (nI 2)]) (rest := []) ⟨hx, hb, hml, hown, hts⟩ (c_Model_isRipped l G ty hM cd st al ac nf ns tl.toNat mg bw md wy sg_ sz_ ks bd aM 2 (by omega) (by omega) (by omega)) ⟨callB_of 1 hts (gd_TB cd_Model_isRipped) rfl rfl rfl (hts _ ini_Model) (hts _ lk_Model_196) hd_Model_isRipped ⟨Nat.le_of_ble_eq_true rfl, Nat.le_of_ble_eq_true rfl⟩, hts _ im_Model_isRipped, hts _ sl_Model_isRipped⟩ (preV_ro (hP.sub (ws' := [(hM, .inr (10, mO cd st al ac nf ns tl.toNat mg bw md wy sg_ sz_ ks bd aM))]) [0] rfl) hX 0 rfl rfl) rfl rfl hl.1 rfl (lv_room (Nat.le_of_ble_eq_true rfl)) d_Model_segmentFrom_2 ⟨Nat.le_of_ble_eq_true rfl, Nat.le_of_ble_eq_true rfl⟩) (fun r9 er9 => ?_)
  subst er9
  refine top_i (show (nI (1 - (if (sg_ - 2) % 2 = 0 then wy else 1 - wy))) = (nI 1) from congrArg (fun z9 => nI (1 - z9)) gax.symm) ?_
  refine lv_istore (lv' := [(7, .int (nI 1)), (0, .ref hM), (1, .int (nI 2)), (2, .int (nI fr)), (3, .int (nI x0)), (4, .int (nI x1)), (5, .int (nI y0)), (6, .int (nI y1))]) hx hb d_Model_segmentFrom_5 hl (by decide) rfl (fun ls hl => ?_)
  refine lv_bipush (v := (nI 32)) hx hb d_Model_segmentFrom_7 (by decide) ?_
  refine lv_iload_n hx hb d_Model_segmentFrom_9 rfl (lv_at hl 2 rfl) ?_
  refine n_imul hx hb d_Model_segmentFrom_10 ?_
  refine top_i (show (nI (32 * 2)) = nI 64 from rfl) ?_
  refine lv_istore (lv' := [(8, .int (nI 64)), (7, .int (nI 1)), (0, .ref hM), (1, .int (nI 2)), (2, .int (nI fr)), (3, .int (nI x0)), (4, .int (nI x1)), (5, .int (nI y0)), (6, .int (nI y1))]) hx hb d_Model_segmentFrom_11 hl (by decide) rfl (fun ls hl => ?_)
  refine lv_iload hx hb d_Model_segmentFrom_13 (lv_at hl 1 rfl) ?_
  refine n_if_eq (tgt := 26) hx hb (by omega) d_Model_segmentFrom_15 (by decide) (fun c15 => absurd c15 (by omega)) (fun c15 => ?_)
  refine lv_iload hx hb d_Model_segmentFrom_18 (lv_at hl 8 rfl) ?_
  refine lv_iload hx hb d_Model_segmentFrom_20 (lv_at hl 7 rfl) ?_
  refine n_isub hx hb (by omega) d_Model_segmentFrom_22 ?_
  refine top_i (show (nI (y1 - y0)) = (nI (fr + (y1 - y0 - fr))) from congrArg nI (by omega)) ?_
  refine lv_goto (tgt := 30) hx hb d_Model_segmentFrom_23 (by decide) ?_
  refine lv_istore (lv' := [(9, .int (nI (fr + (y1 - y0 - fr)))), (8, .int (nI 64)), (7, .int (nI 1)), (0, .ref hM), (1, .int (nI 2)), (2, .int (nI fr)), (3, .int (nI x0)), (4, .int (nI x1)), (5, .int (nI y0)), (6, .int (nI y1))]) hx hb d_Model_segmentFrom_30 hl (by decide) rfl (fun ls hl => ?_)
  have L32 : ∀ (k9 : Nat) (n1 : Nat) (ls : Array Slot), (fr + n1 ≤ (y1 - y0)) → (pcK (mS vu cu x0 x1) (okc 2 sg_ (fun z9 => decide (1 ≤ z9) && (decide (wy ≠ 0) || (!tl || gs z9)))) (y0 + fr) y1 = pck (mS vu cu x0 x1) (okc 2 sg_ (fun z9 => decide (1 ≤ z9) && (decide (wy ≠ 0) || (!tl || gs z9)))) (fun z9 => dpV (mS vu cu x0 x1) (okc 2 sg_ (fun z9 => decide (1 ≤ z9) && (decide (wy ≠ 0) || (!tl || gs z9)))) z9 y1) (y0 + fr) (dpV (mS vu cu x0 x1) (okc 2 sg_ (fun z9 => decide (1 ≤ z9) && (decide (wy ≠ 0) || (!tl || gs z9)))) (y0 + fr) y1) n1) → n1 < k9 → lv_has ls 13 [(0, .ref hM), (1, .int (nI 2)), (2, .int (nI fr)), (3, .int (nI x0)), (4, .int (nI x1)), (5, .int (nI y0)), (6, .int (nI y1)), (7, .int (nI 1)), (8, .int (nI 64)), (9, .int (nI (fr + n1)))] → W p l e { frames := 2, cells := 0, slots := 0, locals := 50 } s m [.ref hM, .int (nI 2), .int (nI fr), .int (nI x0), .int (nI x1), .int (nI y0), .int (nI y1)].toArray below meth c s.heap [] 0 0 (MQ below (q_segFrom20 G ty hM cd st al ac nf ns mg bw md wy sg_ sz_ ks bd aM gs tl x0 x1 y0 y1 fr vu cu re2 rc2) [.ref hM, .int (nI 2), .int (nI fr), .int (nI x0), .int (nI x1), .int (nI y0), .int (nI y1)].toArray s 0 0 (fun _ => False)) (F0 m 32 ls []) := by
    intro k9
    induction k9 with
    | zero => intro n1 ls hn1 hI hk9; exact absurd hk9 (Nat.not_lt_zero _)
    | succ k9 ih32 =>
      intro n1 ls hn1 hI hk9 hl
      refine lv_iload hx hb d_Model_segmentFrom_32 (lv_at hl 9 rfl) ?_
      refine lv_iload_n hx hb d_Model_segmentFrom_34 rfl (lv_at hl 2 rfl) ?_
      refine n_icmp_le (tgt := 163) hx hb (by omega) (by omega) d_Model_segmentFrom_35 (by decide) (fun c35 => ?_) (fun c35 => ?_)
      · refine lv_iconst (v := (iI (-1))) hx hb d_Model_segmentFrom_163 (by decide) ?_
        exact W.iret (v := (iI (-1))) hx hb hr (fun t9 ht _ => ⟨_, rfl, by rw [hI, show n1 = 0 by omega]; rfl, ht⟩) (fun q h => by cases h) d_Model_segmentFrom_164
      · obtain ⟨n2, rfl⟩ : ∃ n2, n1 = n2 + 1 := ⟨n1 - 1, by omega⟩
        obtain ⟨at_, eat⟩ : ∃ at_, at_ = ((25 * x0 + x1) * 11 + (y0 + fr)) * 11 + (y0 + (fr + (n2 + 1))) := ⟨_, rfl⟩
        have e1 : y0 + (fr + (n2 + 1)) = y0 + fr + 1 + n2 := by omega
        have hO := gO (y0 + fr) (y0 + fr + 1 + n2) (by omega) (by omega) (by omega)
        unfold mOK at hO
        rw [← e1, ← eat] at hO
        have hO1 : cu at_ ≤ (x1 - x0) * (n2 + 1) := by have h9 := hO.1; rw [show y0 + (fr + (n2 + 1)) - (y0 + fr) = n2 + 1 by omega] at h9; exact h9
        have hO2 := hO.2.1
        have hO3 := hO.2.2
        clear hO
        have hvS : mS vu cu x0 x1 (y0 + fr) (y0 + fr + 1 + n2) = 1024 * vu at_ - (cu at_ : Int) := by rw [eat, e1]; try rfl
        have hrT := hR (fr + (n2 + 1)) (by omega) (by omega)
        have hrT1 : 1024 * re2 (64 + (fr + (n2 + 1))) - (rc2 (64 + (fr + (n2 + 1))) : Int) = dpV (mS vu cu x0 x1) (okc 2 sg_ (fun z9 => decide (1 ≤ z9) && (decide (wy ≠ 0) || (!tl || gs z9)))) (y0 + fr + 1 + n2) y1 := by have h9 := hrT.1; rw [← e1]; exact h9
        have hrT2 := hrT.2.1
        clear hrT
        have hka : (x1 - x0) * (y1 - y0 - (fr + (n2 + 1))) + (x1 - x0) * (n2 + 1) = (x1 - x0) * (y1 - y0 - fr) := K_add (by omega)
        have hkb := hKn (y1 - y0 - fr) (by omega)
        have hz0 := (hdv (y0 + fr + 1 + n2) (by omega) (by omega))
        have hat : at_ < 75625 := by rw [eat]; omega
        have hz : dpV (mS vu cu x0 x1) (okc 2 sg_ (fun z9 => decide (1 ≤ z9) && (decide (wy ≠ 0) || (!tl || gs z9)))) (y0 + fr + 1 + n2) y1 ≤ dpV (mS vu cu x0 x1) (okc 2 sg_ (fun z9 => decide (1 ≤ z9) && (decide (wy ≠ 0) || (!tl || gs z9)))) (y0 + fr) y1 := by have h9 := dpV_mono (seg := (mS vu cu x0 x1)) (ok := (okc 2 sg_ (fun z9 => decide (1 ≤ z9) && (decide (wy ≠ 0) || (!tl || gs z9))))) (e := y1) (n2 + 1) (y0 + fr) (by omega); rw [show y0 + fr + (n2 + 1) = y0 + fr + 1 + n2 by omega] at h9; exact h9
        refine lv_aload_n hx hb d_Model_segmentFrom_38 rfl (lv_at hl 0 rfl) ?_
        refine lv_iload hx hb d_Model_segmentFrom_39 (lv_at hl 7 rfl) ?_
        refine lv_iload_n hx hb d_Model_segmentFrom_41 rfl (lv_at hl 3 rfl) ?_
        refine lv_iload hx hb d_Model_segmentFrom_42 (lv_at hl 4 rfl) ?_
        refine lv_iload hx hb d_Model_segmentFrom_44 (lv_at hl 5 rfl) ?_
        refine lv_iload hx hb d_Model_segmentFrom_46 (lv_at hl 6 rfl) ?_
        refine lv_iload_n hx hb d_Model_segmentFrom_48 rfl (lv_at hl 2 rfl) ?_
        refine lv_iload hx hb d_Model_segmentFrom_49 (lv_at hl 9 rfl) ?_
        refine vp_callSi (W.runV (As := [.int (nI 1), .int (nI x0), .int (nI x1), .int (nI y0), .int (nI y1), .int (nI fr), .int (nI (fr + (n2 + 1)))]) (rest := []) ⟨hx, hb, hml, hown, hts⟩ (c_segment1 l G ty hM cd st al ac nf ns tl.toNat mg bw md wy sg_ sz_ ks bd aM x0 x1 y0 y1 fr (fr + (n2 + 1)) ) ⟨callB_of 7 hts (gd_TB cd_Model_segment) rfl rfl rfl (hts _ ini_Model) (hts _ lk_Model_199) hd_Model_segment ⟨Nat.le_of_ble_eq_true rfl, Nat.le_of_ble_eq_true rfl⟩, hts _ im_Model_segment, hts _ sl_Model_segment⟩ (preV_ro (hP.sub (ws' := [(hM, .inr (10, mO cd st al ac nf ns tl.toNat mg bw md wy sg_ sz_ ks bd aM))]) [0] rfl) hX 0 rfl rfl) rfl rfl hl.1 rfl (lv_room (Nat.le_of_ble_eq_true rfl)) d_Model_segmentFrom_51 ⟨Nat.le_of_ble_eq_true rfl, Nat.le_of_ble_eq_true rfl⟩) (fun r9 er9 => ?_)
        subst er9
        refine top_i (show (nI (((25 * x0 + x1) * 11 + (y0 + fr)) * 11 + (y0 + (fr + (n2 + 1))))) = (nI at_) from congrArg nI eat.symm) ?_
        refine lv_istore (lv' := [(10, .int (nI at_)), (0, .ref hM), (1, .int (nI 2)), (2, .int (nI fr)), (3, .int (nI x0)), (4, .int (nI x1)), (5, .int (nI y0)), (6, .int (nI y1)), (7, .int (nI 1)), (8, .int (nI 64)), (9, .int (nI (fr + (n2 + 1))))]) hx hb d_Model_segmentFrom_54 hl (by decide) rfl (fun ls hl => ?_)
        refine lv_aload_n hx hb d_Model_segmentFrom_56 rfl (lv_at hl 1 rfl) ?_
        refine lv_iload_n hx hb d_Model_segmentFrom_57 rfl (lv_at hl 2 rfl) ?_
        refine lv_iconst (v := (nI 1)) hx hb d_Model_segmentFrom_58 (by decide) ?_
        refine n_isub hx hb (by omega) d_Model_segmentFrom_59 ?_
        refine top_i (show (nI (2 - 1)) = nI 1 from rfl) ?_
        refine lv_iload hx hb d_Model_segmentFrom_60 (lv_at hl 0 rfl) ?_
        refine vp_callSi (W.runV (As := [.int (nI 1), .int (nI at_)]) (rest := []) ⟨hx, hb, hml, hown, hts⟩ (c_countBy1 l G ty hM cd st al ac nf ns tl.toNat mg bw md wy sg_ sz_ ks bd aM at_ cu (by omega)) ⟨callB_of 2 hts (gd_TB cd_Model_countBy) rfl rfl rfl (hts _ ini_Model) (hts _ lk_Model_203) hd_Model_countBy ⟨Nat.le_of_ble_eq_true rfl, Nat.le_of_ble_eq_true rfl⟩, hts _ im_Model_countBy, hts _ sl_Model_countBy⟩ (preV_ro (hP.sub (ws' := [(hM, .inr (10, mO cd st al ac nf ns tl.toNat mg bw md wy sg_ sz_ ks bd aM)), (aM 28, .inl (ty 0, 75625, .inl (nF cu)))]) [0, 2] rfl) hX 0 rfl rfl) rfl rfl hl.1 rfl (lv_room (Nat.le_of_ble_eq_true rfl)) d_Model_segmentFrom_62 ⟨Nat.le_of_ble_eq_true rfl, Nat.le_of_ble_eq_true rfl⟩) (fun r9 er9 => ?_)
        subst er9
        refine lv_istore (lv' := [(11, .int (nI (cu at_))), (10, .int (nI at_)), (0, .ref hM), (1, .int (nI 2)), (2, .int (nI fr)), (3, .int (nI x0)), (4, .int (nI x1)), (5, .int (nI y0)), (6, .int (nI y1)), (7, .int (nI 1)), (8, .int (nI 64)), (9, .int (nI (fr + (n2 + 1))))]) hx hb d_Model_segmentFrom_65 hl (by decide) rfl (fun ls hl => ?_)
        refine lv_aload_n hx hb d_Model_segmentFrom_67 rfl (lv_at hl 2 rfl) ?_
        refine va_get (D := G) (ci := 10) (v := .ref (aM 31)) (C := R_Model) (T := F_Model) (N := 47) hx hb hts in_Model hown hK hP 0 rfl rfl 31 (by decide) (hts _ fl_Model_85) (fun _ h9 => h9) rfl d_Model_segmentFrom_68 ?_
        refine lv_iload hx hb d_Model_segmentFrom_71 (lv_at hl 10 rfl) ?_
        refine lv_iload hx hb d_Model_segmentFrom_73 (lv_at hl 11 rfl) ?_
        refine n_iadd hx hb d_Model_segmentFrom_75 ?_
        refine n_lald hx hb hK hP 3 1 rfl rfl (by omega) (by omega) d_Model_segmentFrom_76 ?_
        refine lv_aload_n hx hb d_Model_segmentFrom_77 rfl (lv_at hl 2 rfl) ?_
        refine lv_iload_n hx hb d_Model_segmentFrom_78 rfl (lv_at hl 3 rfl) ?_
        refine lv_iconst (v := (nI 1)) hx hb d_Model_segmentFrom_79 (by decide) ?_
        refine n_isub hx hb (by omega) d_Model_segmentFrom_80 ?_
        refine top_i (show (nI (2 - 1)) = nI 1 from rfl) ?_
        refine lv_iload hx hb d_Model_segmentFrom_81 (lv_at hl 1 rfl) ?_
        refine vp_callSl (W.runV (As := [.int (nI 1), .int (nI at_)]) (rest := [.long (iL (re2 (64 + (fr + (n2 + 1)))))]) ⟨hx, hb, hml, hown, hts⟩ (c_valueBy1 l G ty hM cd st al ac nf ns tl.toNat mg bw md wy sg_ sz_ ks bd aM at_ vu (by omega)) ⟨callB_of 2 hts (gd_TB cd_Model_valueBy) rfl rfl rfl (hts _ ini_Model) (hts _ lk_Model_211) hd_Model_valueBy ⟨Nat.le_of_ble_eq_true rfl, Nat.le_of_ble_eq_true rfl⟩, hts _ im_Model_valueBy, hts _ sl_Model_valueBy⟩ (preV_ro (hP.sub (ws' := [(hM, .inr (10, mO cd st al ac nf ns tl.toNat mg bw md wy sg_ sz_ ks bd aM)), (aM 27, .inl (ty 1, 75625, .inr (.inl (lF vu))))]) [0, 1] rfl) hX 0 rfl rfl) rfl rfl hl.1 rfl (lv_room (Nat.le_of_ble_eq_true rfl)) d_Model_segmentFrom_83 ⟨Nat.le_of_ble_eq_true rfl, Nat.le_of_ble_eq_true rfl⟩) (fun r9 er9 => ?_)
        subst er9
        refine z_ladd hx hb d_Model_segmentFrom_86 ?_
        refine lv_aload_n hx hb d_Model_segmentFrom_87 rfl (lv_at hl 2 rfl) ?_
        refine va_get (D := G) (ci := 10) (v := .ref (aM 31)) (C := R_Model) (T := F_Model) (N := 47) hx hb hts in_Model hown hK hP 0 rfl rfl 31 (by decide) (hts _ fl_Model_85) (fun _ h9 => h9) rfl d_Model_segmentFrom_88 ?_
        refine lv_iload hx hb d_Model_segmentFrom_91 (lv_at hl 10 rfl) ?_
        refine lv_iload_n hx hb d_Model_segmentFrom_93 rfl (lv_at hl 4 rfl) ?_
        refine n_iadd hx hb d_Model_segmentFrom_94 ?_
        refine n_lald hx hb hK hP 3 1 rfl rfl (by omega) (by omega) d_Model_segmentFrom_95 ?_
        refine l_cmp_ne (tgt := 129) hx hb (by omega) (by omega) d_Model_segmentFrom_96 d_Model_segmentFrom_97 (by decide) (fun c96 => ?_) (fun c96 => ?_)
        · refine lv_iconst (v := (nI 0)) hx hb d_Model_segmentFrom_129 (by decide) ?_
          refine lv_istore (lv' := [(12, .int (nI 0)), (11, .int (nI (cu at_))), (10, .int (nI at_)), (0, .ref hM), (1, .int (nI 2)), (2, .int (nI fr)), (3, .int (nI x0)), (4, .int (nI x1)), (5, .int (nI y0)), (6, .int (nI y1)), (7, .int (nI 1)), (8, .int (nI 64)), (9, .int (nI (fr + (n2 + 1))))]) hx hb d_Model_segmentFrom_130 hl (by decide) rfl (fun ls hl => ?_)
          refine lv_iload hx hb d_Model_segmentFrom_132 (lv_at hl 1 rfl) ?_
          refine n_if_le (tgt := 157) hx hb (by omega) d_Model_segmentFrom_134 (by decide) (fun c134 => ?_) (fun c134 => ?_)
          · have hI2 : pcK (mS vu cu x0 x1) (okc 2 sg_ (fun z9 => decide (1 ≤ z9) && (decide (wy ≠ 0) || (!tl || gs z9)))) (y0 + fr) y1 = pck (mS vu cu x0 x1) (okc 2 sg_ (fun z9 => decide (1 ≤ z9) && (decide (wy ≠ 0) || (!tl || gs z9)))) (fun z9 => dpV (mS vu cu x0 x1) (okc 2 sg_ (fun z9 => decide (1 ≤ z9) && (decide (wy ≠ 0) || (!tl || gs z9)))) z9 y1) (y0 + fr) (dpV (mS vu cu x0 x1) (okc 2 sg_ (fun z9 => decide (1 ≤ z9) && (decide (wy ≠ 0) || (!tl || gs z9)))) (y0 + fr) y1) n2 := by rw [hI, pck_s, if_neg]; intro hh; first | omega | exact absurd hh.2.2 (by rw [show (okc 2 sg_ (fun z9 => decide (1 ≤ z9) && (decide (wy ≠ 0) || (!tl || gs z9)))) (n2 + 1) = false from tN_0 c151]; decide)
            refine lv_iinc (v := (nI (fr + n2))) (lv' := [(9, .int (nI (fr + n2))), (12, .int (nI 0)), (11, .int (nI (cu at_))), (10, .int (nI at_)), (0, .ref hM), (1, .int (nI 2)), (2, .int (nI fr)), (3, .int (nI x0)), (4, .int (nI x1)), (5, .int (nI y0)), (6, .int (nI y1)), (7, .int (nI 1)), (8, .int (nI 64))]) hx hb d_Model_segmentFrom_157 hl (k := 12) rfl (nI_inc _ _ _ (by omega)) (by decide) rfl (fun ls hl => ?_)
            refine lv_goto (tgt := 32) hx hb d_Model_segmentFrom_160 (by decide) ?_
            exact ih32 n2 _ (by omega) hI2 (by omega) (lv_sub hl [4, 5, 6, 7, 8, 9, 10, 11, 12, 0] rfl)
          · refine lv_iload hx hb d_Model_segmentFrom_137 (lv_at hl 0 rfl) ?_
            refine n_if_eq (tgt := 157) hx hb (by omega) d_Model_segmentFrom_139 (by decide) (fun c139 => ?_) (fun c139 => absurd c139 (by omega))
            have hI2 : pcK (mS vu cu x0 x1) (okc 2 sg_ (fun z9 => decide (1 ≤ z9) && (decide (wy ≠ 0) || (!tl || gs z9)))) (y0 + fr) y1 = pck (mS vu cu x0 x1) (okc 2 sg_ (fun z9 => decide (1 ≤ z9) && (decide (wy ≠ 0) || (!tl || gs z9)))) (fun z9 => dpV (mS vu cu x0 x1) (okc 2 sg_ (fun z9 => decide (1 ≤ z9) && (decide (wy ≠ 0) || (!tl || gs z9)))) z9 y1) (y0 + fr) (dpV (mS vu cu x0 x1) (okc 2 sg_ (fun z9 => decide (1 ≤ z9) && (decide (wy ≠ 0) || (!tl || gs z9)))) (y0 + fr) y1) n2 := by rw [hI, pck_s, if_neg]; intro hh; first | omega | exact absurd hh.2.2 (by rw [show (okc 2 sg_ (fun z9 => decide (1 ≤ z9) && (decide (wy ≠ 0) || (!tl || gs z9)))) (n2 + 1) = false from tN_0 c151]; decide)
            refine lv_iinc (v := (nI (fr + n2))) (lv' := [(9, .int (nI (fr + n2))), (12, .int (nI 0)), (11, .int (nI (cu at_))), (10, .int (nI at_)), (0, .ref hM), (1, .int (nI 2)), (2, .int (nI fr)), (3, .int (nI x0)), (4, .int (nI x1)), (5, .int (nI y0)), (6, .int (nI y1)), (7, .int (nI 1)), (8, .int (nI 64))]) hx hb d_Model_segmentFrom_157 hl (k := 12) rfl (nI_inc _ _ _ (by omega)) (by decide) rfl (fun ls hl => ?_)
            refine lv_goto (tgt := 32) hx hb d_Model_segmentFrom_160 (by decide) ?_
            exact ih32 n2 _ (by omega) hI2 (by omega) (lv_sub hl [4, 5, 6, 7, 8, 9, 10, 11, 12, 0] rfl)
        · refine lv_aload_n hx hb d_Model_segmentFrom_100 rfl (lv_at hl 2 rfl) ?_
          refine va_get (D := G) (ci := 10) (v := .ref (aM 32)) (C := R_Model) (T := F_Model) (N := 47) hx hb hts in_Model hown hK hP 0 rfl rfl 32 (by decide) (hts _ fl_Model_88) (fun _ h9 => h9) rfl d_Model_segmentFrom_101 ?_
          refine lv_iload hx hb d_Model_segmentFrom_104 (lv_at hl 10 rfl) ?_
          refine lv_iload hx hb d_Model_segmentFrom_106 (lv_at hl 11 rfl) ?_
          refine n_iadd hx hb d_Model_segmentFrom_108 ?_
          refine n_iald hx hb hK hP 4 0 rfl rfl (by omega) (by omega) d_Model_segmentFrom_109 ?_
          refine lv_iload hx hb d_Model_segmentFrom_110 (lv_at hl 0 rfl) ?_
          refine n_iadd hx hb d_Model_segmentFrom_112 ?_
          refine lv_aload_n hx hb d_Model_segmentFrom_113 rfl (lv_at hl 2 rfl) ?_
          refine va_get (D := G) (ci := 10) (v := .ref (aM 32)) (C := R_Model) (T := F_Model) (N := 47) hx hb hts in_Model hown hK hP 0 rfl rfl 32 (by decide) (hts _ fl_Model_88) (fun _ h9 => h9) rfl d_Model_segmentFrom_114 ?_
          refine lv_iload hx hb d_Model_segmentFrom_117 (lv_at hl 10 rfl) ?_
          refine lv_iload_n hx hb d_Model_segmentFrom_119 rfl (lv_at hl 4 rfl) ?_
          refine n_iadd hx hb d_Model_segmentFrom_120 ?_
          refine n_iald hx hb hK hP 4 0 rfl rfl (by omega) (by omega) d_Model_segmentFrom_121 ?_
          refine n_icmp_ne (tgt := 129) hx hb (by omega) (by omega) d_Model_segmentFrom_122 (by decide) (fun c122 => ?_) (fun c122 => ?_)
          · refine lv_iconst (v := (nI 0)) hx hb d_Model_segmentFrom_129 (by decide) ?_
            refine lv_istore (lv' := [(12, .int (nI 0)), (11, .int (nI (cu at_))), (10, .int (nI at_)), (0, .ref hM), (1, .int (nI 2)), (2, .int (nI fr)), (3, .int (nI x0)), (4, .int (nI x1)), (5, .int (nI y0)), (6, .int (nI y1)), (7, .int (nI 1)), (8, .int (nI 64)), (9, .int (nI (fr + (n2 + 1))))]) hx hb d_Model_segmentFrom_130 hl (by decide) rfl (fun ls hl => ?_)
            refine lv_iload hx hb d_Model_segmentFrom_132 (lv_at hl 1 rfl) ?_
            refine n_if_le (tgt := 157) hx hb (by omega) d_Model_segmentFrom_134 (by decide) (fun c134 => ?_) (fun c134 => ?_)
            · have hI2 : pcK (mS vu cu x0 x1) (okc 2 sg_ (fun z9 => decide (1 ≤ z9) && (decide (wy ≠ 0) || (!tl || gs z9)))) (y0 + fr) y1 = pck (mS vu cu x0 x1) (okc 2 sg_ (fun z9 => decide (1 ≤ z9) && (decide (wy ≠ 0) || (!tl || gs z9)))) (fun z9 => dpV (mS vu cu x0 x1) (okc 2 sg_ (fun z9 => decide (1 ≤ z9) && (decide (wy ≠ 0) || (!tl || gs z9)))) z9 y1) (y0 + fr) (dpV (mS vu cu x0 x1) (okc 2 sg_ (fun z9 => decide (1 ≤ z9) && (decide (wy ≠ 0) || (!tl || gs z9)))) (y0 + fr) y1) n2 := by rw [hI, pck_s, if_neg]; intro hh; first | omega | exact absurd hh.2.2 (by rw [show (okc 2 sg_ (fun z9 => decide (1 ≤ z9) && (decide (wy ≠ 0) || (!tl || gs z9)))) (n2 + 1) = false from tN_0 c151]; decide)
              refine lv_iinc (v := (nI (fr + n2))) (lv' := [(9, .int (nI (fr + n2))), (12, .int (nI 0)), (11, .int (nI (cu at_))), (10, .int (nI at_)), (0, .ref hM), (1, .int (nI 2)), (2, .int (nI fr)), (3, .int (nI x0)), (4, .int (nI x1)), (5, .int (nI y0)), (6, .int (nI y1)), (7, .int (nI 1)), (8, .int (nI 64))]) hx hb d_Model_segmentFrom_157 hl (k := 12) rfl (nI_inc _ _ _ (by omega)) (by decide) rfl (fun ls hl => ?_)
              refine lv_goto (tgt := 32) hx hb d_Model_segmentFrom_160 (by decide) ?_
              exact ih32 n2 _ (by omega) hI2 (by omega) (lv_sub hl [4, 5, 6, 7, 8, 9, 10, 11, 12, 0] rfl)
            · refine lv_iload hx hb d_Model_segmentFrom_137 (lv_at hl 0 rfl) ?_
              refine n_if_eq (tgt := 157) hx hb (by omega) d_Model_segmentFrom_139 (by decide) (fun c139 => ?_) (fun c139 => absurd c139 (by omega))
              have hI2 : pcK (mS vu cu x0 x1) (okc 2 sg_ (fun z9 => decide (1 ≤ z9) && (decide (wy ≠ 0) || (!tl || gs z9)))) (y0 + fr) y1 = pck (mS vu cu x0 x1) (okc 2 sg_ (fun z9 => decide (1 ≤ z9) && (decide (wy ≠ 0) || (!tl || gs z9)))) (fun z9 => dpV (mS vu cu x0 x1) (okc 2 sg_ (fun z9 => decide (1 ≤ z9) && (decide (wy ≠ 0) || (!tl || gs z9)))) z9 y1) (y0 + fr) (dpV (mS vu cu x0 x1) (okc 2 sg_ (fun z9 => decide (1 ≤ z9) && (decide (wy ≠ 0) || (!tl || gs z9)))) (y0 + fr) y1) n2 := by rw [hI, pck_s, if_neg]; intro hh; first | omega | exact absurd hh.2.2 (by rw [show (okc 2 sg_ (fun z9 => decide (1 ≤ z9) && (decide (wy ≠ 0) || (!tl || gs z9)))) (n2 + 1) = false from tN_0 c151]; decide)
              refine lv_iinc (v := (nI (fr + n2))) (lv' := [(9, .int (nI (fr + n2))), (12, .int (nI 0)), (11, .int (nI (cu at_))), (10, .int (nI at_)), (0, .ref hM), (1, .int (nI 2)), (2, .int (nI fr)), (3, .int (nI x0)), (4, .int (nI x1)), (5, .int (nI y0)), (6, .int (nI y1)), (7, .int (nI 1)), (8, .int (nI 64))]) hx hb d_Model_segmentFrom_157 hl (k := 12) rfl (nI_inc _ _ _ (by omega)) (by decide) rfl (fun ls hl => ?_)
              refine lv_goto (tgt := 32) hx hb d_Model_segmentFrom_160 (by decide) ?_
              exact ih32 n2 _ (by omega) hI2 (by omega) (lv_sub hl [4, 5, 6, 7, 8, 9, 10, 11, 12, 0] rfl)
          · refine lv_iconst (v := (nI 1)) hx hb d_Model_segmentFrom_125 (by decide) ?_
            refine lv_goto (tgt := 130) hx hb d_Model_segmentFrom_126 (by decide) ?_
            refine lv_istore (lv' := [(12, .int (nI 1)), (11, .int (nI (cu at_))), (10, .int (nI at_)), (0, .ref hM), (1, .int (nI 2)), (2, .int (nI fr)), (3, .int (nI x0)), (4, .int (nI x1)), (5, .int (nI y0)), (6, .int (nI y1)), (7, .int (nI 1)), (8, .int (nI 64)), (9, .int (nI (fr + (n2 + 1))))]) hx hb d_Model_segmentFrom_130 hl (by decide) rfl (fun ls hl => ?_)
            refine lv_iload hx hb d_Model_segmentFrom_132 (lv_at hl 1 rfl) ?_
            refine n_if_le (tgt := 157) hx hb (by omega) d_Model_segmentFrom_134 (by decide) (fun c134 => ?_) (fun c134 => ?_)
            · have hI2 : pcK (mS vu cu x0 x1) (okc 2 sg_ (fun z9 => decide (1 ≤ z9) && (decide (wy ≠ 0) || (!tl || gs z9)))) (y0 + fr) y1 = pck (mS vu cu x0 x1) (okc 2 sg_ (fun z9 => decide (1 ≤ z9) && (decide (wy ≠ 0) || (!tl || gs z9)))) (fun z9 => dpV (mS vu cu x0 x1) (okc 2 sg_ (fun z9 => decide (1 ≤ z9) && (decide (wy ≠ 0) || (!tl || gs z9)))) z9 y1) (y0 + fr) (dpV (mS vu cu x0 x1) (okc 2 sg_ (fun z9 => decide (1 ≤ z9) && (decide (wy ≠ 0) || (!tl || gs z9)))) (y0 + fr) y1) n2 := by rw [hI, pck_s, if_neg]; intro hh; first | omega | exact absurd hh.2.2 (by rw [show (okc 2 sg_ (fun z9 => decide (1 ≤ z9) && (decide (wy ≠ 0) || (!tl || gs z9)))) (n2 + 1) = false from tN_0 c151]; decide)
              refine lv_iinc (v := (nI (fr + n2))) (lv' := [(9, .int (nI (fr + n2))), (12, .int (nI 1)), (11, .int (nI (cu at_))), (10, .int (nI at_)), (0, .ref hM), (1, .int (nI 2)), (2, .int (nI fr)), (3, .int (nI x0)), (4, .int (nI x1)), (5, .int (nI y0)), (6, .int (nI y1)), (7, .int (nI 1)), (8, .int (nI 64))]) hx hb d_Model_segmentFrom_157 hl (k := 12) rfl (nI_inc _ _ _ (by omega)) (by decide) rfl (fun ls hl => ?_)
              refine lv_goto (tgt := 32) hx hb d_Model_segmentFrom_160 (by decide) ?_
              exact ih32 n2 _ (by omega) hI2 (by omega) (lv_sub hl [4, 5, 6, 7, 8, 9, 10, 11, 12, 0] rfl)
            · refine lv_iload hx hb d_Model_segmentFrom_137 (lv_at hl 0 rfl) ?_
              refine n_if_eq (tgt := 157) hx hb (by omega) d_Model_segmentFrom_139 (by decide) (fun c139 => absurd c139 (by omega)) (fun c139 => ?_)
              refine lv_aload_n hx hb d_Model_segmentFrom_142 rfl (lv_at hl 3 rfl) ?_
              refine lv_iload_n hx hb d_Model_segmentFrom_143 rfl (lv_at hl 4 rfl) ?_
              refine lv_iload hx hb d_Model_segmentFrom_144 (lv_at hl 12 rfl) ?_
              refine lv_iload_n hx hb d_Model_segmentFrom_146 rfl (lv_at hl 5 rfl) ?_
              refine n_isub hx hb (by omega) d_Model_segmentFrom_147 ?_
              refine top_i (show (nI ((fr + (n2 + 1)) - fr)) = (nI (n2 + 1)) from congrArg nI (by omega)) ?_
              refine vp_callSi (W.runV (As := [.int (nI 2), .int (nI (n2 + 1))]) (rest := []) ⟨hx, hb, hml, hown, hts⟩ (c_Model_isCut l G ty hM cd st al ac nf ns 0 mg bw md wy sg_ sz_ ks bd aM 2 (n2 + 1) gs tl (by omega) (by omega) (by omega) (by omega) (by omega)) ⟨callB_of 2 hts (gd_TB cd_Model_isCut) rfl rfl rfl (hts _ ini_Model) (hts _ lk_Model_207) hd_Model_isCut ⟨Nat.le_of_ble_eq_true rfl, Nat.le_of_ble_eq_true rfl⟩, hts _ im_Model_isCut, hts _ sl_Model_isCut⟩ (preV_ro (hP.sub (ws' := [(hM, .inr (10, mO cd st al ac nf ns tl.toNat mg bw md wy sg_ sz_ ks bd aM)), (aM 20, .inl (ty 2, 65537, .inl (bF gs)))]) [0, 5] rfl) hX 0 rfl rfl) rfl rfl hl.1 rfl (lv_room (Nat.le_of_ble_eq_true rfl)) d_Model_segmentFrom_148 ⟨Nat.le_of_ble_eq_true rfl, Nat.le_of_ble_eq_true rfl⟩) (fun r9 er9 => ?_)
              subst er9
              refine n_if_eq (tgt := 157) hx hb (tN_lt _) d_Model_segmentFrom_151 (by decide) (fun c151 => ?_) (fun c151 => ?_)
              · have hI2 : pcK (mS vu cu x0 x1) (okc 2 sg_ (fun z9 => decide (1 ≤ z9) && (decide (wy ≠ 0) || (!tl || gs z9)))) (y0 + fr) y1 = pck (mS vu cu x0 x1) (okc 2 sg_ (fun z9 => decide (1 ≤ z9) && (decide (wy ≠ 0) || (!tl || gs z9)))) (fun z9 => dpV (mS vu cu x0 x1) (okc 2 sg_ (fun z9 => decide (1 ≤ z9) && (decide (wy ≠ 0) || (!tl || gs z9)))) z9 y1) (y0 + fr) (dpV (mS vu cu x0 x1) (okc 2 sg_ (fun z9 => decide (1 ≤ z9) && (decide (wy ≠ 0) || (!tl || gs z9)))) (y0 + fr) y1) n2 := by rw [hI, pck_s, if_neg]; intro hh; first | omega | exact absurd hh.2.2 (by rw [show (okc 2 sg_ (fun z9 => decide (1 ≤ z9) && (decide (wy ≠ 0) || (!tl || gs z9)))) (n2 + 1) = false from tN_0 c151]; decide)
                refine lv_iinc (v := (nI (fr + n2))) (lv' := [(9, .int (nI (fr + n2))), (12, .int (nI 1)), (11, .int (nI (cu at_))), (10, .int (nI at_)), (0, .ref hM), (1, .int (nI 2)), (2, .int (nI fr)), (3, .int (nI x0)), (4, .int (nI x1)), (5, .int (nI y0)), (6, .int (nI y1)), (7, .int (nI 1)), (8, .int (nI 64))]) hx hb d_Model_segmentFrom_157 hl (k := 12) rfl (nI_inc _ _ _ (by omega)) (by decide) rfl (fun ls hl => ?_)
                refine lv_goto (tgt := 32) hx hb d_Model_segmentFrom_160 (by decide) ?_
                exact ih32 n2 _ (by omega) hI2 (by omega) (lv_sub hl [4, 5, 6, 7, 8, 9, 10, 11, 12, 0] rfl)
              · refine lv_iload hx hb d_Model_segmentFrom_154 (lv_at hl 12 rfl) ?_
                exact W.iret (v := (nI (fr + (n2 + 1)))) hx hb hr (fun t9 ht _ => ⟨_, rfl, by rw [hI, pck_s, if_pos ⟨by omega, by omega, tN_1 c151⟩]; unfold pkQ; rw [if_neg (by omega), nI_iI]; congr 1; omega, ht⟩) (fun q h => by cases h) d_Model_segmentFrom_156
  exact L32 ((y1 - y0 - fr) + 1) (y1 - y0 - fr) _ (by omega) (by unfold pcK; rw [show y1 - (y0 + fr) = y1 - y0 - fr by omega]) (Nat.lt_succ_self _) (lv_sub hl [3, 4, 5, 6, 7, 8, 9, 2, 1, 0] rfl)

abbrev q_segFrom21 (G : va_G) (ty : Nat → ClassId) (hM : Nat) (cd : Nat) (st : Nat) (al : Nat) (ac : Nat) (nf : Nat) (ns : Nat) (mg : Nat) (bw : Nat) (md : Nat) (wy : Nat) (sg_ : Nat) (sz_ : Nat) (ks : Nat) (bd : Int) (aM : Nat → Nat) (gs : Nat → Bool) (tl : Bool) (x0 : Nat) (x1 : Nat) (y0 : Nat) (y1 : Nat) (fr : Nat) (vu : Nat → Int) (cu : Nat → Nat) (re2 : Nat → Int) (rc2 : Nat → Nat) : Array Value → State → Outcome → State → Prop := vp_Si (fun r : Int32 => r = (iI (pkQ (pcK (fun b9 e9 => mS vu cu b9 e9 y0 y1) (okc 2 sg_ (fun z9 => decide (1 ≤ z9) && (decide (wy ≠ 0) || (!tl || gs z9)))) (x0 + fr) x1) x0)))
set_option maxRecDepth 100000 in
set_option maxHeartbeats 4000000 in
theorem c_segFrom21 (l : Launch) (G : va_G) (ty : Nat → ClassId) (hM : Nat) (cd : Nat) (st : Nat) (al : Nat) (ac : Nat) (nf : Nat) (ns : Nat) (mg : Nat) (bw : Nat) (md : Nat) (wy : Nat) (sg_ : Nat) (sz_ : Nat) (ks : Nat) (bd : Int) (aM : Nat → Nat) (gs : Nat → Bool) (tl : Bool) (x0 : Nat) (x1 : Nat) (y0 : Nat) (y1 : Nat) (fr : Nat) (vu : Nat → Int) (cu : Nat → Nat) (re2 : Nat → Int) (rc2 : Nat → Nat) (gtp : 2 ≤ sg_ ∧ sg_ ≤ 3) (gwy : wy ≤ 1) (gax : 1 = (if (sg_ - 2) % 2 = 0 then wy else 1 - wy)) (k1 : x0 < x1) (k2 : x1 ≤ 24) (k3 : y0 < y1) (k4 : y1 ≤ 10) (gO : ∀ i j, x0 ≤ i → i < j → j ≤ x1 → mOK vu cu i j y0 y1) (gR : ∀ p, p ≤ (x1 - x0) → rOKr re2 rc2 (fun p9 => dpV (fun b9 e9 => mS vu cu b9 e9 y0 y1) (okc 2 sg_ (fun z9 => decide (1 ≤ z9) && (decide (wy ≠ 0) || (!tl || gs z9)))) (x0 + p9) x1) 64 (y1 - y0) (x1 - x0) p) (gf : fr < (x1 - x0)) : Met l y_Model_segmentFrom ws_Model_segmentFrom { frames := 2, cells := 0, slots := 0, locals := 50 } (va_Pc [.ref hM, .int (nI 2), .int (nI fr), .int (nI x0), .int (nI x1), .int (nI y0), .int (nI y1)] (fun U => va_P G vwCl [(hM, .inr (10, mO cd st al ac nf ns tl.toNat mg bw md wy sg_ sz_ ks bd aM)), (aM 27, .inl (ty 1, 75625, .inr (.inl (lF vu)))), (aM 28, .inl (ty 0, 75625, .inl (nF cu))), (aM 31, .inl (ty 1, 128, .inr (.inl (lF re2)))), (aM 32, .inl (ty 0, 128, .inl (nF rc2))), (aM 20, .inl (ty 2, 65537, .inl (bF gs)))] U.heap ∧ KX G ty U)) (q_segFrom21 G ty hM cd st al ac nf ns mg bw md wy sg_ sz_ ks bd aM gs tl x0 x1 y0 y1 fr vu cu re2 rc2) 0 0 (fun _ => False) := by
  refine met_ro R_Model (by decide) rfl rfl (Nat.le_of_ble_eq_true rfl) ?_
  intro p e s m below meth c ls hx hb hr hml hown hts hlocks hP hX hl
  have hK := hX.1
  have hl : lv_has ls 13 [(0, .ref hM), (1, .int (nI 2)), (2, .int (nI fr)), (3, .int (nI x0)), (4, .int (nI x1)), (5, .int (nI y0)), (6, .int (nI y1))] := hl
  have hKn : ∀ a9, a9 ≤ x1 - x0 → (y1 - y0) * a9 ≤ 240 := fun a9 h9 => Nat.le_trans (Nat.mul_le_mul (show y1 - y0 ≤ 10 by omega) (show a9 ≤ 24 by omega)) (by decide)
  have hdv : ∀ p, x0 ≤ p → p ≤ x1 → 0 ≤ dpV (fun b9 e9 => mS vu cu b9 e9 y0 y1) (okc 2 sg_ (fun z9 => decide (1 ≤ z9) && (decide (wy ≠ 0) || (!tl || gs z9)))) p x1 ∧ dpV (fun b9 e9 => mS vu cu b9 e9 y0 y1) (okc 2 sg_ (fun z9 => decide (1 ≤ z9) && (decide (wy ≠ 0) || (!tl || gs z9)))) p x1 ≤ 26400000000000000 := fun p h1 h2 => dpV_u (by omega) h2 (fun i j h3 h4 h5 => mS_le (gO i j (by omega) h4 h5))
  have hR : ∀ p, 0 ≤ p → p ≤ (x1 - x0) → rOKr re2 rc2 (fun p9 => dpV (fun b9 e9 => mS vu cu b9 e9 y0 y1) (okc 2 sg_ (fun z9 => decide (1 ≤ z9) && (decide (wy ≠ 0) || (!tl || gs z9)))) (x0 + p9) x1) 64 (y1 - y0) (x1 - x0) p := fun p _ h => gR p h
  have hrF := gR fr (by omega)
  have hrF1 : 1024 * re2 (64 + fr) - (rc2 (64 + fr) : Int) = dpV (fun b9 e9 => mS vu cu b9 e9 y0 y1) (okc 2 sg_ (fun z9 => decide (1 ≤ z9) && (decide (wy ≠ 0) || (!tl || gs z9)))) (x0 + fr) x1 := hrF.1
  have hrF2 := hrF.2.1
  have hbF := hdv (x0 + fr) (by omega) (by omega)
  have hkF := hKn (x1 - x0 - fr) (by omega)
  refine lv_aload_n hx hb d_Model_segmentFrom_0 rfl (lv_at hl 0 rfl) ?_
  refine lv_iload_n hx hb d_Model_segmentFrom_1 rfl (lv_at hl 1 rfl) ?_
  refine vp_callSi (W.runV (As := [.int (nI 2)]) (rest := []) ⟨hx, hb, hml, hown, hts⟩ (c_Model_isRipped l G ty hM cd st al ac nf ns tl.toNat mg bw md wy sg_ sz_ ks bd aM 2 (by omega) (by omega) (by omega)) ⟨callB_of 1 hts (gd_TB cd_Model_isRipped) rfl rfl rfl (hts _ ini_Model) (hts _ lk_Model_196) hd_Model_isRipped ⟨Nat.le_of_ble_eq_true rfl, Nat.le_of_ble_eq_true rfl⟩, hts _ im_Model_isRipped, hts _ sl_Model_isRipped⟩ (preV_ro (hP.sub (ws' := [(hM, .inr (10, mO cd st al ac nf ns tl.toNat mg bw md wy sg_ sz_ ks bd aM))]) [0] rfl) hX 0 rfl rfl) rfl rfl hl.1 rfl (lv_room (Nat.le_of_ble_eq_true rfl)) d_Model_segmentFrom_2 ⟨Nat.le_of_ble_eq_true rfl, Nat.le_of_ble_eq_true rfl⟩) (fun r9 er9 => ?_)
  subst er9
  refine top_i (show (nI (1 - (if (sg_ - 2) % 2 = 0 then wy else 1 - wy))) = (nI 0) from congrArg (fun z9 => nI (1 - z9)) gax.symm) ?_
  refine lv_istore (lv' := [(7, .int (nI 0)), (0, .ref hM), (1, .int (nI 2)), (2, .int (nI fr)), (3, .int (nI x0)), (4, .int (nI x1)), (5, .int (nI y0)), (6, .int (nI y1))]) hx hb d_Model_segmentFrom_5 hl (by decide) rfl (fun ls hl => ?_)
  refine lv_bipush (v := (nI 32)) hx hb d_Model_segmentFrom_7 (by decide) ?_
  refine lv_iload_n hx hb d_Model_segmentFrom_9 rfl (lv_at hl 2 rfl) ?_
  refine n_imul hx hb d_Model_segmentFrom_10 ?_
  refine top_i (show (nI (32 * 2)) = nI 64 from rfl) ?_
  refine lv_istore (lv' := [(8, .int (nI 64)), (7, .int (nI 0)), (0, .ref hM), (1, .int (nI 2)), (2, .int (nI fr)), (3, .int (nI x0)), (4, .int (nI x1)), (5, .int (nI y0)), (6, .int (nI y1))]) hx hb d_Model_segmentFrom_11 hl (by decide) rfl (fun ls hl => ?_)
  refine lv_iload hx hb d_Model_segmentFrom_13 (lv_at hl 1 rfl) ?_
  refine n_if_eq (tgt := 26) hx hb (by omega) d_Model_segmentFrom_15 (by decide) (fun c15 => ?_) (fun c15 => absurd c15 (by omega))
  refine lv_iload hx hb d_Model_segmentFrom_26 (lv_at hl 6 rfl) ?_
  refine lv_iload_n hx hb d_Model_segmentFrom_28 rfl (lv_at hl 5 rfl) ?_
  refine n_isub hx hb (by omega) d_Model_segmentFrom_29 ?_
  refine top_i (show (nI (x1 - x0)) = (nI (fr + (x1 - x0 - fr))) from congrArg nI (by omega)) ?_
  refine lv_istore (lv' := [(9, .int (nI (fr + (x1 - x0 - fr)))), (8, .int (nI 64)), (7, .int (nI 0)), (0, .ref hM), (1, .int (nI 2)), (2, .int (nI fr)), (3, .int (nI x0)), (4, .int (nI x1)), (5, .int (nI y0)), (6, .int (nI y1))]) hx hb d_Model_segmentFrom_30 hl (by decide) rfl (fun ls hl => ?_)
  have L32 : ∀ (k9 : Nat) (n1 : Nat) (ls : Array Slot), (fr + n1 ≤ (x1 - x0)) → (pcK (fun b9 e9 => mS vu cu b9 e9 y0 y1) (okc 2 sg_ (fun z9 => decide (1 ≤ z9) && (decide (wy ≠ 0) || (!tl || gs z9)))) (x0 + fr) x1 = pck (fun b9 e9 => mS vu cu b9 e9 y0 y1) (okc 2 sg_ (fun z9 => decide (1 ≤ z9) && (decide (wy ≠ 0) || (!tl || gs z9)))) (fun z9 => dpV (fun b9 e9 => mS vu cu b9 e9 y0 y1) (okc 2 sg_ (fun z9 => decide (1 ≤ z9) && (decide (wy ≠ 0) || (!tl || gs z9)))) z9 x1) (x0 + fr) (dpV (fun b9 e9 => mS vu cu b9 e9 y0 y1) (okc 2 sg_ (fun z9 => decide (1 ≤ z9) && (decide (wy ≠ 0) || (!tl || gs z9)))) (x0 + fr) x1) n1) → n1 < k9 → lv_has ls 13 [(0, .ref hM), (1, .int (nI 2)), (2, .int (nI fr)), (3, .int (nI x0)), (4, .int (nI x1)), (5, .int (nI y0)), (6, .int (nI y1)), (7, .int (nI 0)), (8, .int (nI 64)), (9, .int (nI (fr + n1)))] → W p l e { frames := 2, cells := 0, slots := 0, locals := 50 } s m [.ref hM, .int (nI 2), .int (nI fr), .int (nI x0), .int (nI x1), .int (nI y0), .int (nI y1)].toArray below meth c s.heap [] 0 0 (MQ below (q_segFrom21 G ty hM cd st al ac nf ns mg bw md wy sg_ sz_ ks bd aM gs tl x0 x1 y0 y1 fr vu cu re2 rc2) [.ref hM, .int (nI 2), .int (nI fr), .int (nI x0), .int (nI x1), .int (nI y0), .int (nI y1)].toArray s 0 0 (fun _ => False)) (F0 m 32 ls []) := by
    intro k9
    induction k9 with
    | zero => intro n1 ls hn1 hI hk9; exact absurd hk9 (Nat.not_lt_zero _)
    | succ k9 ih32 =>
      intro n1 ls hn1 hI hk9 hl
      refine lv_iload hx hb d_Model_segmentFrom_32 (lv_at hl 9 rfl) ?_
      refine lv_iload_n hx hb d_Model_segmentFrom_34 rfl (lv_at hl 2 rfl) ?_
      refine n_icmp_le (tgt := 163) hx hb (by omega) (by omega) d_Model_segmentFrom_35 (by decide) (fun c35 => ?_) (fun c35 => ?_)
      · refine lv_iconst (v := (iI (-1))) hx hb d_Model_segmentFrom_163 (by decide) ?_
        exact W.iret (v := (iI (-1))) hx hb hr (fun t9 ht _ => ⟨_, rfl, by rw [hI, show n1 = 0 by omega]; rfl, ht⟩) (fun q h => by cases h) d_Model_segmentFrom_164
      · obtain ⟨n2, rfl⟩ : ∃ n2, n1 = n2 + 1 := ⟨n1 - 1, by omega⟩
        obtain ⟨at_, eat⟩ : ∃ at_, at_ = ((25 * (x0 + fr) + (x0 + (fr + (n2 + 1)))) * 11 + y0) * 11 + y1 := ⟨_, rfl⟩
        have e1 : x0 + (fr + (n2 + 1)) = x0 + fr + 1 + n2 := by omega
        have hO := gO (x0 + fr) (x0 + fr + 1 + n2) (by omega) (by omega) (by omega)
        unfold mOK at hO
        rw [← e1, ← eat] at hO
        have hO1 : cu at_ ≤ (y1 - y0) * (n2 + 1) := by have h9 := hO.1; rw [show x0 + (fr + (n2 + 1)) - (x0 + fr) = n2 + 1 by omega] at h9; rw [Nat.mul_comm]; exact h9
        have hO2 := hO.2.1
        have hO3 := hO.2.2
        clear hO
        have hvS : mS vu cu (x0 + fr) (x0 + fr + 1 + n2) y0 y1 = 1024 * vu at_ - (cu at_ : Int) := by rw [eat, e1]; try rfl
        have hrT := hR (fr + (n2 + 1)) (by omega) (by omega)
        have hrT1 : 1024 * re2 (64 + (fr + (n2 + 1))) - (rc2 (64 + (fr + (n2 + 1))) : Int) = dpV (fun b9 e9 => mS vu cu b9 e9 y0 y1) (okc 2 sg_ (fun z9 => decide (1 ≤ z9) && (decide (wy ≠ 0) || (!tl || gs z9)))) (x0 + fr + 1 + n2) x1 := by have h9 := hrT.1; rw [← e1]; exact h9
        have hrT2 := hrT.2.1
        clear hrT
        have hka : (y1 - y0) * (x1 - x0 - (fr + (n2 + 1))) + (y1 - y0) * (n2 + 1) = (y1 - y0) * (x1 - x0 - fr) := K_add (by omega)
        have hkb := hKn (x1 - x0 - fr) (by omega)
        have hz0 := (hdv (x0 + fr + 1 + n2) (by omega) (by omega))
        have hat : at_ < 75625 := by rw [eat]; omega
        have hz : dpV (fun b9 e9 => mS vu cu b9 e9 y0 y1) (okc 2 sg_ (fun z9 => decide (1 ≤ z9) && (decide (wy ≠ 0) || (!tl || gs z9)))) (x0 + fr + 1 + n2) x1 ≤ dpV (fun b9 e9 => mS vu cu b9 e9 y0 y1) (okc 2 sg_ (fun z9 => decide (1 ≤ z9) && (decide (wy ≠ 0) || (!tl || gs z9)))) (x0 + fr) x1 := by have h9 := dpV_mono (seg := (fun b9 e9 => mS vu cu b9 e9 y0 y1)) (ok := (okc 2 sg_ (fun z9 => decide (1 ≤ z9) && (decide (wy ≠ 0) || (!tl || gs z9))))) (e := x1) (n2 + 1) (x0 + fr) (by omega); rw [show x0 + fr + (n2 + 1) = x0 + fr + 1 + n2 by omega] at h9; exact h9
        refine lv_aload_n hx hb d_Model_segmentFrom_38 rfl (lv_at hl 0 rfl) ?_
        refine lv_iload hx hb d_Model_segmentFrom_39 (lv_at hl 7 rfl) ?_
        refine lv_iload_n hx hb d_Model_segmentFrom_41 rfl (lv_at hl 3 rfl) ?_
        refine lv_iload hx hb d_Model_segmentFrom_42 (lv_at hl 4 rfl) ?_
        refine lv_iload hx hb d_Model_segmentFrom_44 (lv_at hl 5 rfl) ?_
        refine lv_iload hx hb d_Model_segmentFrom_46 (lv_at hl 6 rfl) ?_
        refine lv_iload_n hx hb d_Model_segmentFrom_48 rfl (lv_at hl 2 rfl) ?_
        refine lv_iload hx hb d_Model_segmentFrom_49 (lv_at hl 9 rfl) ?_
        refine vp_callSi (W.runV (As := [.int (nI 0), .int (nI x0), .int (nI x1), .int (nI y0), .int (nI y1), .int (nI fr), .int (nI (fr + (n2 + 1)))]) (rest := []) ⟨hx, hb, hml, hown, hts⟩ (c_segment0 l G ty hM cd st al ac nf ns tl.toNat mg bw md wy sg_ sz_ ks bd aM x0 x1 y0 y1 fr (fr + (n2 + 1)) ) ⟨callB_of 7 hts (gd_TB cd_Model_segment) rfl rfl rfl (hts _ ini_Model) (hts _ lk_Model_199) hd_Model_segment ⟨Nat.le_of_ble_eq_true rfl, Nat.le_of_ble_eq_true rfl⟩, hts _ im_Model_segment, hts _ sl_Model_segment⟩ (preV_ro (hP.sub (ws' := [(hM, .inr (10, mO cd st al ac nf ns tl.toNat mg bw md wy sg_ sz_ ks bd aM))]) [0] rfl) hX 0 rfl rfl) rfl rfl hl.1 rfl (lv_room (Nat.le_of_ble_eq_true rfl)) d_Model_segmentFrom_51 ⟨Nat.le_of_ble_eq_true rfl, Nat.le_of_ble_eq_true rfl⟩) (fun r9 er9 => ?_)
        subst er9
        refine top_i (show (nI (((25 * (x0 + fr) + (x0 + (fr + (n2 + 1)))) * 11 + y0) * 11 + y1)) = (nI at_) from congrArg nI eat.symm) ?_
        refine lv_istore (lv' := [(10, .int (nI at_)), (0, .ref hM), (1, .int (nI 2)), (2, .int (nI fr)), (3, .int (nI x0)), (4, .int (nI x1)), (5, .int (nI y0)), (6, .int (nI y1)), (7, .int (nI 0)), (8, .int (nI 64)), (9, .int (nI (fr + (n2 + 1))))]) hx hb d_Model_segmentFrom_54 hl (by decide) rfl (fun ls hl => ?_)
        refine lv_aload_n hx hb d_Model_segmentFrom_56 rfl (lv_at hl 1 rfl) ?_
        refine lv_iload_n hx hb d_Model_segmentFrom_57 rfl (lv_at hl 2 rfl) ?_
        refine lv_iconst (v := (nI 1)) hx hb d_Model_segmentFrom_58 (by decide) ?_
        refine n_isub hx hb (by omega) d_Model_segmentFrom_59 ?_
        refine top_i (show (nI (2 - 1)) = nI 1 from rfl) ?_
        refine lv_iload hx hb d_Model_segmentFrom_60 (lv_at hl 0 rfl) ?_
        refine vp_callSi (W.runV (As := [.int (nI 1), .int (nI at_)]) (rest := []) ⟨hx, hb, hml, hown, hts⟩ (c_countBy1 l G ty hM cd st al ac nf ns tl.toNat mg bw md wy sg_ sz_ ks bd aM at_ cu (by omega)) ⟨callB_of 2 hts (gd_TB cd_Model_countBy) rfl rfl rfl (hts _ ini_Model) (hts _ lk_Model_203) hd_Model_countBy ⟨Nat.le_of_ble_eq_true rfl, Nat.le_of_ble_eq_true rfl⟩, hts _ im_Model_countBy, hts _ sl_Model_countBy⟩ (preV_ro (hP.sub (ws' := [(hM, .inr (10, mO cd st al ac nf ns tl.toNat mg bw md wy sg_ sz_ ks bd aM)), (aM 28, .inl (ty 0, 75625, .inl (nF cu)))]) [0, 2] rfl) hX 0 rfl rfl) rfl rfl hl.1 rfl (lv_room (Nat.le_of_ble_eq_true rfl)) d_Model_segmentFrom_62 ⟨Nat.le_of_ble_eq_true rfl, Nat.le_of_ble_eq_true rfl⟩) (fun r9 er9 => ?_)
        subst er9
        refine lv_istore (lv' := [(11, .int (nI (cu at_))), (10, .int (nI at_)), (0, .ref hM), (1, .int (nI 2)), (2, .int (nI fr)), (3, .int (nI x0)), (4, .int (nI x1)), (5, .int (nI y0)), (6, .int (nI y1)), (7, .int (nI 0)), (8, .int (nI 64)), (9, .int (nI (fr + (n2 + 1))))]) hx hb d_Model_segmentFrom_65 hl (by decide) rfl (fun ls hl => ?_)
        refine lv_aload_n hx hb d_Model_segmentFrom_67 rfl (lv_at hl 2 rfl) ?_
        refine va_get (D := G) (ci := 10) (v := .ref (aM 31)) (C := R_Model) (T := F_Model) (N := 47) hx hb hts in_Model hown hK hP 0 rfl rfl 31 (by decide) (hts _ fl_Model_85) (fun _ h9 => h9) rfl d_Model_segmentFrom_68 ?_
        refine lv_iload hx hb d_Model_segmentFrom_71 (lv_at hl 10 rfl) ?_
        refine lv_iload hx hb d_Model_segmentFrom_73 (lv_at hl 11 rfl) ?_
        refine n_iadd hx hb d_Model_segmentFrom_75 ?_
        refine n_lald hx hb hK hP 3 1 rfl rfl (by omega) (by omega) d_Model_segmentFrom_76 ?_
        refine lv_aload_n hx hb d_Model_segmentFrom_77 rfl (lv_at hl 2 rfl) ?_
        refine lv_iload_n hx hb d_Model_segmentFrom_78 rfl (lv_at hl 3 rfl) ?_
        refine lv_iconst (v := (nI 1)) hx hb d_Model_segmentFrom_79 (by decide) ?_
        refine n_isub hx hb (by omega) d_Model_segmentFrom_80 ?_
        refine top_i (show (nI (2 - 1)) = nI 1 from rfl) ?_
        refine lv_iload hx hb d_Model_segmentFrom_81 (lv_at hl 1 rfl) ?_
        refine vp_callSl (W.runV (As := [.int (nI 1), .int (nI at_)]) (rest := [.long (iL (re2 (64 + (fr + (n2 + 1)))))]) ⟨hx, hb, hml, hown, hts⟩ (c_valueBy1 l G ty hM cd st al ac nf ns tl.toNat mg bw md wy sg_ sz_ ks bd aM at_ vu (by omega)) ⟨callB_of 2 hts (gd_TB cd_Model_valueBy) rfl rfl rfl (hts _ ini_Model) (hts _ lk_Model_211) hd_Model_valueBy ⟨Nat.le_of_ble_eq_true rfl, Nat.le_of_ble_eq_true rfl⟩, hts _ im_Model_valueBy, hts _ sl_Model_valueBy⟩ (preV_ro (hP.sub (ws' := [(hM, .inr (10, mO cd st al ac nf ns tl.toNat mg bw md wy sg_ sz_ ks bd aM)), (aM 27, .inl (ty 1, 75625, .inr (.inl (lF vu))))]) [0, 1] rfl) hX 0 rfl rfl) rfl rfl hl.1 rfl (lv_room (Nat.le_of_ble_eq_true rfl)) d_Model_segmentFrom_83 ⟨Nat.le_of_ble_eq_true rfl, Nat.le_of_ble_eq_true rfl⟩) (fun r9 er9 => ?_)
        subst er9
        refine z_ladd hx hb d_Model_segmentFrom_86 ?_
        refine lv_aload_n hx hb d_Model_segmentFrom_87 rfl (lv_at hl 2 rfl) ?_
        refine va_get (D := G) (ci := 10) (v := .ref (aM 31)) (C := R_Model) (T := F_Model) (N := 47) hx hb hts in_Model hown hK hP 0 rfl rfl 31 (by decide) (hts _ fl_Model_85) (fun _ h9 => h9) rfl d_Model_segmentFrom_88 ?_
        refine lv_iload hx hb d_Model_segmentFrom_91 (lv_at hl 10 rfl) ?_
        refine lv_iload_n hx hb d_Model_segmentFrom_93 rfl (lv_at hl 4 rfl) ?_
        refine n_iadd hx hb d_Model_segmentFrom_94 ?_
        refine n_lald hx hb hK hP 3 1 rfl rfl (by omega) (by omega) d_Model_segmentFrom_95 ?_
        refine l_cmp_ne (tgt := 129) hx hb (by omega) (by omega) d_Model_segmentFrom_96 d_Model_segmentFrom_97 (by decide) (fun c96 => ?_) (fun c96 => ?_)
        · refine lv_iconst (v := (nI 0)) hx hb d_Model_segmentFrom_129 (by decide) ?_
          refine lv_istore (lv' := [(12, .int (nI 0)), (11, .int (nI (cu at_))), (10, .int (nI at_)), (0, .ref hM), (1, .int (nI 2)), (2, .int (nI fr)), (3, .int (nI x0)), (4, .int (nI x1)), (5, .int (nI y0)), (6, .int (nI y1)), (7, .int (nI 0)), (8, .int (nI 64)), (9, .int (nI (fr + (n2 + 1))))]) hx hb d_Model_segmentFrom_130 hl (by decide) rfl (fun ls hl => ?_)
          refine lv_iload hx hb d_Model_segmentFrom_132 (lv_at hl 1 rfl) ?_
          refine n_if_le (tgt := 157) hx hb (by omega) d_Model_segmentFrom_134 (by decide) (fun c134 => ?_) (fun c134 => ?_)
          · have hI2 : pcK (fun b9 e9 => mS vu cu b9 e9 y0 y1) (okc 2 sg_ (fun z9 => decide (1 ≤ z9) && (decide (wy ≠ 0) || (!tl || gs z9)))) (x0 + fr) x1 = pck (fun b9 e9 => mS vu cu b9 e9 y0 y1) (okc 2 sg_ (fun z9 => decide (1 ≤ z9) && (decide (wy ≠ 0) || (!tl || gs z9)))) (fun z9 => dpV (fun b9 e9 => mS vu cu b9 e9 y0 y1) (okc 2 sg_ (fun z9 => decide (1 ≤ z9) && (decide (wy ≠ 0) || (!tl || gs z9)))) z9 x1) (x0 + fr) (dpV (fun b9 e9 => mS vu cu b9 e9 y0 y1) (okc 2 sg_ (fun z9 => decide (1 ≤ z9) && (decide (wy ≠ 0) || (!tl || gs z9)))) (x0 + fr) x1) n2 := by rw [hI, pck_s, if_neg]; intro hh; first | omega | exact absurd hh.2.2 (by rw [show (okc 2 sg_ (fun z9 => decide (1 ≤ z9) && (decide (wy ≠ 0) || (!tl || gs z9)))) (n2 + 1) = false from tN_0 c151]; decide)
            refine lv_iinc (v := (nI (fr + n2))) (lv' := [(9, .int (nI (fr + n2))), (12, .int (nI 0)), (11, .int (nI (cu at_))), (10, .int (nI at_)), (0, .ref hM), (1, .int (nI 2)), (2, .int (nI fr)), (3, .int (nI x0)), (4, .int (nI x1)), (5, .int (nI y0)), (6, .int (nI y1)), (7, .int (nI 0)), (8, .int (nI 64))]) hx hb d_Model_segmentFrom_157 hl (k := 12) rfl (nI_inc _ _ _ (by omega)) (by decide) rfl (fun ls hl => ?_)
            refine lv_goto (tgt := 32) hx hb d_Model_segmentFrom_160 (by decide) ?_
            exact ih32 n2 _ (by omega) hI2 (by omega) (lv_sub hl [4, 5, 6, 7, 8, 9, 10, 11, 12, 0] rfl)
          · refine lv_iload hx hb d_Model_segmentFrom_137 (lv_at hl 0 rfl) ?_
            refine n_if_eq (tgt := 157) hx hb (by omega) d_Model_segmentFrom_139 (by decide) (fun c139 => ?_) (fun c139 => absurd c139 (by omega))
            have hI2 : pcK (fun b9 e9 => mS vu cu b9 e9 y0 y1) (okc 2 sg_ (fun z9 => decide (1 ≤ z9) && (decide (wy ≠ 0) || (!tl || gs z9)))) (x0 + fr) x1 = pck (fun b9 e9 => mS vu cu b9 e9 y0 y1) (okc 2 sg_ (fun z9 => decide (1 ≤ z9) && (decide (wy ≠ 0) || (!tl || gs z9)))) (fun z9 => dpV (fun b9 e9 => mS vu cu b9 e9 y0 y1) (okc 2 sg_ (fun z9 => decide (1 ≤ z9) && (decide (wy ≠ 0) || (!tl || gs z9)))) z9 x1) (x0 + fr) (dpV (fun b9 e9 => mS vu cu b9 e9 y0 y1) (okc 2 sg_ (fun z9 => decide (1 ≤ z9) && (decide (wy ≠ 0) || (!tl || gs z9)))) (x0 + fr) x1) n2 := by rw [hI, pck_s, if_neg]; intro hh; first | omega | exact absurd hh.2.2 (by rw [show (okc 2 sg_ (fun z9 => decide (1 ≤ z9) && (decide (wy ≠ 0) || (!tl || gs z9)))) (n2 + 1) = false from tN_0 c151]; decide)
            refine lv_iinc (v := (nI (fr + n2))) (lv' := [(9, .int (nI (fr + n2))), (12, .int (nI 0)), (11, .int (nI (cu at_))), (10, .int (nI at_)), (0, .ref hM), (1, .int (nI 2)), (2, .int (nI fr)), (3, .int (nI x0)), (4, .int (nI x1)), (5, .int (nI y0)), (6, .int (nI y1)), (7, .int (nI 0)), (8, .int (nI 64))]) hx hb d_Model_segmentFrom_157 hl (k := 12) rfl (nI_inc _ _ _ (by omega)) (by decide) rfl (fun ls hl => ?_)
            refine lv_goto (tgt := 32) hx hb d_Model_segmentFrom_160 (by decide) ?_
            exact ih32 n2 _ (by omega) hI2 (by omega) (lv_sub hl [4, 5, 6, 7, 8, 9, 10, 11, 12, 0] rfl)
        · refine lv_aload_n hx hb d_Model_segmentFrom_100 rfl (lv_at hl 2 rfl) ?_
          refine va_get (D := G) (ci := 10) (v := .ref (aM 32)) (C := R_Model) (T := F_Model) (N := 47) hx hb hts in_Model hown hK hP 0 rfl rfl 32 (by decide) (hts _ fl_Model_88) (fun _ h9 => h9) rfl d_Model_segmentFrom_101 ?_
          refine lv_iload hx hb d_Model_segmentFrom_104 (lv_at hl 10 rfl) ?_
          refine lv_iload hx hb d_Model_segmentFrom_106 (lv_at hl 11 rfl) ?_
          refine n_iadd hx hb d_Model_segmentFrom_108 ?_
          refine n_iald hx hb hK hP 4 0 rfl rfl (by omega) (by omega) d_Model_segmentFrom_109 ?_
          refine lv_iload hx hb d_Model_segmentFrom_110 (lv_at hl 0 rfl) ?_
          refine n_iadd hx hb d_Model_segmentFrom_112 ?_
          refine lv_aload_n hx hb d_Model_segmentFrom_113 rfl (lv_at hl 2 rfl) ?_
          refine va_get (D := G) (ci := 10) (v := .ref (aM 32)) (C := R_Model) (T := F_Model) (N := 47) hx hb hts in_Model hown hK hP 0 rfl rfl 32 (by decide) (hts _ fl_Model_88) (fun _ h9 => h9) rfl d_Model_segmentFrom_114 ?_
          refine lv_iload hx hb d_Model_segmentFrom_117 (lv_at hl 10 rfl) ?_
          refine lv_iload_n hx hb d_Model_segmentFrom_119 rfl (lv_at hl 4 rfl) ?_
          refine n_iadd hx hb d_Model_segmentFrom_120 ?_
          refine n_iald hx hb hK hP 4 0 rfl rfl (by omega) (by omega) d_Model_segmentFrom_121 ?_
          refine n_icmp_ne (tgt := 129) hx hb (by omega) (by omega) d_Model_segmentFrom_122 (by decide) (fun c122 => ?_) (fun c122 => ?_)
          · refine lv_iconst (v := (nI 0)) hx hb d_Model_segmentFrom_129 (by decide) ?_
            refine lv_istore (lv' := [(12, .int (nI 0)), (11, .int (nI (cu at_))), (10, .int (nI at_)), (0, .ref hM), (1, .int (nI 2)), (2, .int (nI fr)), (3, .int (nI x0)), (4, .int (nI x1)), (5, .int (nI y0)), (6, .int (nI y1)), (7, .int (nI 0)), (8, .int (nI 64)), (9, .int (nI (fr + (n2 + 1))))]) hx hb d_Model_segmentFrom_130 hl (by decide) rfl (fun ls hl => ?_)
            refine lv_iload hx hb d_Model_segmentFrom_132 (lv_at hl 1 rfl) ?_
            refine n_if_le (tgt := 157) hx hb (by omega) d_Model_segmentFrom_134 (by decide) (fun c134 => ?_) (fun c134 => ?_)
            · have hI2 : pcK (fun b9 e9 => mS vu cu b9 e9 y0 y1) (okc 2 sg_ (fun z9 => decide (1 ≤ z9) && (decide (wy ≠ 0) || (!tl || gs z9)))) (x0 + fr) x1 = pck (fun b9 e9 => mS vu cu b9 e9 y0 y1) (okc 2 sg_ (fun z9 => decide (1 ≤ z9) && (decide (wy ≠ 0) || (!tl || gs z9)))) (fun z9 => dpV (fun b9 e9 => mS vu cu b9 e9 y0 y1) (okc 2 sg_ (fun z9 => decide (1 ≤ z9) && (decide (wy ≠ 0) || (!tl || gs z9)))) z9 x1) (x0 + fr) (dpV (fun b9 e9 => mS vu cu b9 e9 y0 y1) (okc 2 sg_ (fun z9 => decide (1 ≤ z9) && (decide (wy ≠ 0) || (!tl || gs z9)))) (x0 + fr) x1) n2 := by rw [hI, pck_s, if_neg]; intro hh; first | omega | exact absurd hh.2.2 (by rw [show (okc 2 sg_ (fun z9 => decide (1 ≤ z9) && (decide (wy ≠ 0) || (!tl || gs z9)))) (n2 + 1) = false from tN_0 c151]; decide)
              refine lv_iinc (v := (nI (fr + n2))) (lv' := [(9, .int (nI (fr + n2))), (12, .int (nI 0)), (11, .int (nI (cu at_))), (10, .int (nI at_)), (0, .ref hM), (1, .int (nI 2)), (2, .int (nI fr)), (3, .int (nI x0)), (4, .int (nI x1)), (5, .int (nI y0)), (6, .int (nI y1)), (7, .int (nI 0)), (8, .int (nI 64))]) hx hb d_Model_segmentFrom_157 hl (k := 12) rfl (nI_inc _ _ _ (by omega)) (by decide) rfl (fun ls hl => ?_)
              refine lv_goto (tgt := 32) hx hb d_Model_segmentFrom_160 (by decide) ?_
              exact ih32 n2 _ (by omega) hI2 (by omega) (lv_sub hl [4, 5, 6, 7, 8, 9, 10, 11, 12, 0] rfl)
            · refine lv_iload hx hb d_Model_segmentFrom_137 (lv_at hl 0 rfl) ?_
              refine n_if_eq (tgt := 157) hx hb (by omega) d_Model_segmentFrom_139 (by decide) (fun c139 => ?_) (fun c139 => absurd c139 (by omega))
              have hI2 : pcK (fun b9 e9 => mS vu cu b9 e9 y0 y1) (okc 2 sg_ (fun z9 => decide (1 ≤ z9) && (decide (wy ≠ 0) || (!tl || gs z9)))) (x0 + fr) x1 = pck (fun b9 e9 => mS vu cu b9 e9 y0 y1) (okc 2 sg_ (fun z9 => decide (1 ≤ z9) && (decide (wy ≠ 0) || (!tl || gs z9)))) (fun z9 => dpV (fun b9 e9 => mS vu cu b9 e9 y0 y1) (okc 2 sg_ (fun z9 => decide (1 ≤ z9) && (decide (wy ≠ 0) || (!tl || gs z9)))) z9 x1) (x0 + fr) (dpV (fun b9 e9 => mS vu cu b9 e9 y0 y1) (okc 2 sg_ (fun z9 => decide (1 ≤ z9) && (decide (wy ≠ 0) || (!tl || gs z9)))) (x0 + fr) x1) n2 := by rw [hI, pck_s, if_neg]; intro hh; first | omega | exact absurd hh.2.2 (by rw [show (okc 2 sg_ (fun z9 => decide (1 ≤ z9) && (decide (wy ≠ 0) || (!tl || gs z9)))) (n2 + 1) = false from tN_0 c151]; decide)
              refine lv_iinc (v := (nI (fr + n2))) (lv' := [(9, .int (nI (fr + n2))), (12, .int (nI 0)), (11, .int (nI (cu at_))), (10, .int (nI at_)), (0, .ref hM), (1, .int (nI 2)), (2, .int (nI fr)), (3, .int (nI x0)), (4, .int (nI x1)), (5, .int (nI y0)), (6, .int (nI y1)), (7, .int (nI 0)), (8, .int (nI 64))]) hx hb d_Model_segmentFrom_157 hl (k := 12) rfl (nI_inc _ _ _ (by omega)) (by decide) rfl (fun ls hl => ?_)
              refine lv_goto (tgt := 32) hx hb d_Model_segmentFrom_160 (by decide) ?_
              exact ih32 n2 _ (by omega) hI2 (by omega) (lv_sub hl [4, 5, 6, 7, 8, 9, 10, 11, 12, 0] rfl)
          · refine lv_iconst (v := (nI 1)) hx hb d_Model_segmentFrom_125 (by decide) ?_
            refine lv_goto (tgt := 130) hx hb d_Model_segmentFrom_126 (by decide) ?_
            refine lv_istore (lv' := [(12, .int (nI 1)), (11, .int (nI (cu at_))), (10, .int (nI at_)), (0, .ref hM), (1, .int (nI 2)), (2, .int (nI fr)), (3, .int (nI x0)), (4, .int (nI x1)), (5, .int (nI y0)), (6, .int (nI y1)), (7, .int (nI 0)), (8, .int (nI 64)), (9, .int (nI (fr + (n2 + 1))))]) hx hb d_Model_segmentFrom_130 hl (by decide) rfl (fun ls hl => ?_)
            refine lv_iload hx hb d_Model_segmentFrom_132 (lv_at hl 1 rfl) ?_
            refine n_if_le (tgt := 157) hx hb (by omega) d_Model_segmentFrom_134 (by decide) (fun c134 => ?_) (fun c134 => ?_)
            · have hI2 : pcK (fun b9 e9 => mS vu cu b9 e9 y0 y1) (okc 2 sg_ (fun z9 => decide (1 ≤ z9) && (decide (wy ≠ 0) || (!tl || gs z9)))) (x0 + fr) x1 = pck (fun b9 e9 => mS vu cu b9 e9 y0 y1) (okc 2 sg_ (fun z9 => decide (1 ≤ z9) && (decide (wy ≠ 0) || (!tl || gs z9)))) (fun z9 => dpV (fun b9 e9 => mS vu cu b9 e9 y0 y1) (okc 2 sg_ (fun z9 => decide (1 ≤ z9) && (decide (wy ≠ 0) || (!tl || gs z9)))) z9 x1) (x0 + fr) (dpV (fun b9 e9 => mS vu cu b9 e9 y0 y1) (okc 2 sg_ (fun z9 => decide (1 ≤ z9) && (decide (wy ≠ 0) || (!tl || gs z9)))) (x0 + fr) x1) n2 := by rw [hI, pck_s, if_neg]; intro hh; first | omega | exact absurd hh.2.2 (by rw [show (okc 2 sg_ (fun z9 => decide (1 ≤ z9) && (decide (wy ≠ 0) || (!tl || gs z9)))) (n2 + 1) = false from tN_0 c151]; decide)
              refine lv_iinc (v := (nI (fr + n2))) (lv' := [(9, .int (nI (fr + n2))), (12, .int (nI 1)), (11, .int (nI (cu at_))), (10, .int (nI at_)), (0, .ref hM), (1, .int (nI 2)), (2, .int (nI fr)), (3, .int (nI x0)), (4, .int (nI x1)), (5, .int (nI y0)), (6, .int (nI y1)), (7, .int (nI 0)), (8, .int (nI 64))]) hx hb d_Model_segmentFrom_157 hl (k := 12) rfl (nI_inc _ _ _ (by omega)) (by decide) rfl (fun ls hl => ?_)
              refine lv_goto (tgt := 32) hx hb d_Model_segmentFrom_160 (by decide) ?_
              exact ih32 n2 _ (by omega) hI2 (by omega) (lv_sub hl [4, 5, 6, 7, 8, 9, 10, 11, 12, 0] rfl)
            · refine lv_iload hx hb d_Model_segmentFrom_137 (lv_at hl 0 rfl) ?_
              refine n_if_eq (tgt := 157) hx hb (by omega) d_Model_segmentFrom_139 (by decide) (fun c139 => absurd c139 (by omega)) (fun c139 => ?_)
              refine lv_aload_n hx hb d_Model_segmentFrom_142 rfl (lv_at hl 3 rfl) ?_
              refine lv_iload_n hx hb d_Model_segmentFrom_143 rfl (lv_at hl 4 rfl) ?_
              refine lv_iload hx hb d_Model_segmentFrom_144 (lv_at hl 12 rfl) ?_
              refine lv_iload_n hx hb d_Model_segmentFrom_146 rfl (lv_at hl 5 rfl) ?_
              refine n_isub hx hb (by omega) d_Model_segmentFrom_147 ?_
              refine top_i (show (nI ((fr + (n2 + 1)) - fr)) = (nI (n2 + 1)) from congrArg nI (by omega)) ?_
              refine vp_callSi (W.runV (As := [.int (nI 2), .int (nI (n2 + 1))]) (rest := []) ⟨hx, hb, hml, hown, hts⟩ (c_Model_isCut l G ty hM cd st al ac nf ns 0 mg bw md wy sg_ sz_ ks bd aM 2 (n2 + 1) gs tl (by omega) (by omega) (by omega) (by omega) (by omega)) ⟨callB_of 2 hts (gd_TB cd_Model_isCut) rfl rfl rfl (hts _ ini_Model) (hts _ lk_Model_207) hd_Model_isCut ⟨Nat.le_of_ble_eq_true rfl, Nat.le_of_ble_eq_true rfl⟩, hts _ im_Model_isCut, hts _ sl_Model_isCut⟩ (preV_ro (hP.sub (ws' := [(hM, .inr (10, mO cd st al ac nf ns tl.toNat mg bw md wy sg_ sz_ ks bd aM)), (aM 20, .inl (ty 2, 65537, .inl (bF gs)))]) [0, 5] rfl) hX 0 rfl rfl) rfl rfl hl.1 rfl (lv_room (Nat.le_of_ble_eq_true rfl)) d_Model_segmentFrom_148 ⟨Nat.le_of_ble_eq_true rfl, Nat.le_of_ble_eq_true rfl⟩) (fun r9 er9 => ?_)
              subst er9
              refine n_if_eq (tgt := 157) hx hb (tN_lt _) d_Model_segmentFrom_151 (by decide) (fun c151 => ?_) (fun c151 => ?_)
              · have hI2 : pcK (fun b9 e9 => mS vu cu b9 e9 y0 y1) (okc 2 sg_ (fun z9 => decide (1 ≤ z9) && (decide (wy ≠ 0) || (!tl || gs z9)))) (x0 + fr) x1 = pck (fun b9 e9 => mS vu cu b9 e9 y0 y1) (okc 2 sg_ (fun z9 => decide (1 ≤ z9) && (decide (wy ≠ 0) || (!tl || gs z9)))) (fun z9 => dpV (fun b9 e9 => mS vu cu b9 e9 y0 y1) (okc 2 sg_ (fun z9 => decide (1 ≤ z9) && (decide (wy ≠ 0) || (!tl || gs z9)))) z9 x1) (x0 + fr) (dpV (fun b9 e9 => mS vu cu b9 e9 y0 y1) (okc 2 sg_ (fun z9 => decide (1 ≤ z9) && (decide (wy ≠ 0) || (!tl || gs z9)))) (x0 + fr) x1) n2 := by rw [hI, pck_s, if_neg]; intro hh; first | omega | exact absurd hh.2.2 (by rw [show (okc 2 sg_ (fun z9 => decide (1 ≤ z9) && (decide (wy ≠ 0) || (!tl || gs z9)))) (n2 + 1) = false from tN_0 c151]; decide)
                refine lv_iinc (v := (nI (fr + n2))) (lv' := [(9, .int (nI (fr + n2))), (12, .int (nI 1)), (11, .int (nI (cu at_))), (10, .int (nI at_)), (0, .ref hM), (1, .int (nI 2)), (2, .int (nI fr)), (3, .int (nI x0)), (4, .int (nI x1)), (5, .int (nI y0)), (6, .int (nI y1)), (7, .int (nI 0)), (8, .int (nI 64))]) hx hb d_Model_segmentFrom_157 hl (k := 12) rfl (nI_inc _ _ _ (by omega)) (by decide) rfl (fun ls hl => ?_)
                refine lv_goto (tgt := 32) hx hb d_Model_segmentFrom_160 (by decide) ?_
                exact ih32 n2 _ (by omega) hI2 (by omega) (lv_sub hl [4, 5, 6, 7, 8, 9, 10, 11, 12, 0] rfl)
              · refine lv_iload hx hb d_Model_segmentFrom_154 (lv_at hl 12 rfl) ?_
                exact W.iret (v := (nI (fr + (n2 + 1)))) hx hb hr (fun t9 ht _ => ⟨_, rfl, by rw [hI, pck_s, if_pos ⟨by omega, by omega, tN_1 c151⟩]; unfold pkQ; rw [if_neg (by omega), nI_iI]; congr 1; omega, ht⟩) (fun q h => by cases h) d_Model_segmentFrom_156
  exact L32 ((x1 - x0 - fr) + 1) (x1 - x0 - fr) _ (by omega) (by unfold pcK; rw [show x1 - (x0 + fr) = x1 - x0 - fr by omega]) (Nat.lt_succ_self _) (lv_sub hl [3, 4, 5, 6, 7, 8, 9, 2, 1, 0] rfl)

abbrev q_segFrom30 (G : va_G) (ty : Nat → ClassId) (hM : Nat) (cd : Nat) (st : Nat) (al : Nat) (ac : Nat) (nf : Nat) (ns : Nat) (mg : Nat) (bw : Nat) (md : Nat) (wy : Nat) (sg_ : Nat) (sz_ : Nat) (ks : Nat) (bd : Int) (aM : Nat → Nat) (gs : Nat → Bool) (tl : Bool) (x0 : Nat) (x1 : Nat) (y0 : Nat) (y1 : Nat) (fr : Nat) (vu : Nat → Int) (cu : Nat → Nat) (re2 : Nat → Int) (rc2 : Nat → Nat) : Array Value → State → Outcome → State → Prop := vp_Si (fun r : Int32 => r = (iI (pkQ (pcK (mS vu cu x0 x1) (okc 3 sg_ (fun z9 => decide (1 ≤ z9) && (decide (wy ≠ 0) || (!tl || gs z9)))) (y0 + fr) y1) y0)))
set_option maxRecDepth 100000 in
set_option maxHeartbeats 4000000 in
theorem c_segFrom30 (l : Launch) (G : va_G) (ty : Nat → ClassId) (hM : Nat) (cd : Nat) (st : Nat) (al : Nat) (ac : Nat) (nf : Nat) (ns : Nat) (mg : Nat) (bw : Nat) (md : Nat) (wy : Nat) (sg_ : Nat) (sz_ : Nat) (ks : Nat) (bd : Int) (aM : Nat → Nat) (gs : Nat → Bool) (tl : Bool) (x0 : Nat) (x1 : Nat) (y0 : Nat) (y1 : Nat) (fr : Nat) (vu : Nat → Int) (cu : Nat → Nat) (re2 : Nat → Int) (rc2 : Nat → Nat) (gtp : 3 ≤ sg_ ∧ sg_ ≤ 3) (gwy : wy ≤ 1) (gax : 0 = (if (sg_ - 3) % 2 = 0 then wy else 1 - wy)) (k1 : x0 < x1) (k2 : x1 ≤ 24) (k3 : y0 < y1) (k4 : y1 ≤ 10) (gO : ∀ i j, y0 ≤ i → i < j → j ≤ y1 → mOK vu cu x0 x1 i j) (gR : ∀ p, p ≤ (y1 - y0) → rOKr re2 rc2 (fun p9 => dpV (mS vu cu x0 x1) (okc 3 sg_ (fun z9 => decide (1 ≤ z9) && (decide (wy ≠ 0) || (!tl || gs z9)))) (y0 + p9) y1) 96 (x1 - x0) (y1 - y0) p) (gf : fr < (y1 - y0)) : Met l y_Model_segmentFrom ws_Model_segmentFrom { frames := 2, cells := 0, slots := 0, locals := 50 } (va_Pc [.ref hM, .int (nI 3), .int (nI fr), .int (nI x0), .int (nI x1), .int (nI y0), .int (nI y1)] (fun U => va_P G vwCl [(hM, .inr (10, mO cd st al ac nf ns tl.toNat mg bw md wy sg_ sz_ ks bd aM)), (aM 29, .inl (ty 1, 75625, .inr (.inl (lF vu)))), (aM 30, .inl (ty 0, 75625, .inl (nF cu))), (aM 31, .inl (ty 1, 128, .inr (.inl (lF re2)))), (aM 32, .inl (ty 0, 128, .inl (nF rc2))), (aM 20, .inl (ty 2, 65537, .inl (bF gs)))] U.heap ∧ KX G ty U)) (q_segFrom30 G ty hM cd st al ac nf ns mg bw md wy sg_ sz_ ks bd aM gs tl x0 x1 y0 y1 fr vu cu re2 rc2) 0 0 (fun _ => False) := by
  refine met_ro R_Model (by decide) rfl rfl (Nat.le_of_ble_eq_true rfl) ?_
  intro p e s m below meth c ls hx hb hr hml hown hts hlocks hP hX hl
  have hK := hX.1
  have hl : lv_has ls 13 [(0, .ref hM), (1, .int (nI 3)), (2, .int (nI fr)), (3, .int (nI x0)), (4, .int (nI x1)), (5, .int (nI y0)), (6, .int (nI y1))] := hl
  have hKn : ∀ a9, a9 ≤ y1 - y0 → (x1 - x0) * a9 ≤ 240 := fun a9 h9 => Nat.le_trans (Nat.mul_le_mul (show x1 - x0 ≤ 24 by omega) (show a9 ≤ 10 by omega)) (by decide)
  have hdv : ∀ p, y0 ≤ p → p ≤ y1 → 0 ≤ dpV (mS vu cu x0 x1) (okc 3 sg_ (fun z9 => decide (1 ≤ z9) && (decide (wy ≠ 0) || (!tl || gs z9)))) p y1 ∧ dpV (mS vu cu x0 x1) (okc 3 sg_ (fun z9 => decide (1 ≤ z9) && (decide (wy ≠ 0) || (!tl || gs z9)))) p y1 ≤ 26400000000000000 := fun p h1 h2 => dpV_u (by omega) h2 (fun i j h3 h4 h5 => mS_le (gO i j (by omega) h4 h5))
  have hR : ∀ p, 0 ≤ p → p ≤ (y1 - y0) → rOKr re2 rc2 (fun p9 => dpV (mS vu cu x0 x1) (okc 3 sg_ (fun z9 => decide (1 ≤ z9) && (decide (wy ≠ 0) || (!tl || gs z9)))) (y0 + p9) y1) 96 (x1 - x0) (y1 - y0) p := fun p _ h => gR p h
  have hrF := gR fr (by omega)
  have hrF1 : 1024 * re2 (96 + fr) - (rc2 (96 + fr) : Int) = dpV (mS vu cu x0 x1) (okc 3 sg_ (fun z9 => decide (1 ≤ z9) && (decide (wy ≠ 0) || (!tl || gs z9)))) (y0 + fr) y1 := hrF.1
  have hrF2 := hrF.2.1
  have hbF := hdv (y0 + fr) (by omega) (by omega)
  have hkF := hKn (y1 - y0 - fr) (by omega)
  refine lv_aload_n hx hb d_Model_segmentFrom_0 rfl (lv_at hl 0 rfl) ?_
  refine lv_iload_n hx hb d_Model_segmentFrom_1 rfl (lv_at hl 1 rfl) ?_
  refine vp_callSi (W.runV (As := [.int (nI 3)]) (rest := []) ⟨hx, hb, hml, hown, hts⟩ (c_Model_isRipped l G ty hM cd st al ac nf ns tl.toNat mg bw md wy sg_ sz_ ks bd aM 3 (by omega) (by omega) (by omega)) ⟨callB_of 1 hts (gd_TB cd_Model_isRipped) rfl rfl rfl (hts _ ini_Model) (hts _ lk_Model_196) hd_Model_isRipped ⟨Nat.le_of_ble_eq_true rfl, Nat.le_of_ble_eq_true rfl⟩, hts _ im_Model_isRipped, hts _ sl_Model_isRipped⟩ (preV_ro (hP.sub (ws' := [(hM, .inr (10, mO cd st al ac nf ns tl.toNat mg bw md wy sg_ sz_ ks bd aM))]) [0] rfl) hX 0 rfl rfl) rfl rfl hl.1 rfl (lv_room (Nat.le_of_ble_eq_true rfl)) d_Model_segmentFrom_2 ⟨Nat.le_of_ble_eq_true rfl, Nat.le_of_ble_eq_true rfl⟩) (fun r9 er9 => ?_)
  subst er9
  refine top_i (show (nI (1 - (if (sg_ - 3) % 2 = 0 then wy else 1 - wy))) = (nI 1) from congrArg (fun z9 => nI (1 - z9)) gax.symm) ?_
  refine lv_istore (lv' := [(7, .int (nI 1)), (0, .ref hM), (1, .int (nI 3)), (2, .int (nI fr)), (3, .int (nI x0)), (4, .int (nI x1)), (5, .int (nI y0)), (6, .int (nI y1))]) hx hb d_Model_segmentFrom_5 hl (by decide) rfl (fun ls hl => ?_)
  refine lv_bipush (v := (nI 32)) hx hb d_Model_segmentFrom_7 (by decide) ?_
  refine lv_iload_n hx hb d_Model_segmentFrom_9 rfl (lv_at hl 2 rfl) ?_
  refine n_imul hx hb d_Model_segmentFrom_10 ?_
  refine top_i (show (nI (32 * 3)) = nI 96 from rfl) ?_
  refine lv_istore (lv' := [(8, .int (nI 96)), (7, .int (nI 1)), (0, .ref hM), (1, .int (nI 3)), (2, .int (nI fr)), (3, .int (nI x0)), (4, .int (nI x1)), (5, .int (nI y0)), (6, .int (nI y1))]) hx hb d_Model_segmentFrom_11 hl (by decide) rfl (fun ls hl => ?_)
  refine lv_iload hx hb d_Model_segmentFrom_13 (lv_at hl 1 rfl) ?_
  refine n_if_eq (tgt := 26) hx hb (by omega) d_Model_segmentFrom_15 (by decide) (fun c15 => absurd c15 (by omega)) (fun c15 => ?_)
  refine lv_iload hx hb d_Model_segmentFrom_18 (lv_at hl 8 rfl) ?_
  refine lv_iload hx hb d_Model_segmentFrom_20 (lv_at hl 7 rfl) ?_
  refine n_isub hx hb (by omega) d_Model_segmentFrom_22 ?_
  refine top_i (show (nI (y1 - y0)) = (nI (fr + (y1 - y0 - fr))) from congrArg nI (by omega)) ?_
  refine lv_goto (tgt := 30) hx hb d_Model_segmentFrom_23 (by decide) ?_
  refine lv_istore (lv' := [(9, .int (nI (fr + (y1 - y0 - fr)))), (8, .int (nI 96)), (7, .int (nI 1)), (0, .ref hM), (1, .int (nI 3)), (2, .int (nI fr)), (3, .int (nI x0)), (4, .int (nI x1)), (5, .int (nI y0)), (6, .int (nI y1))]) hx hb d_Model_segmentFrom_30 hl (by decide) rfl (fun ls hl => ?_)
  have L32 : ∀ (k9 : Nat) (n1 : Nat) (ls : Array Slot), (fr + n1 ≤ (y1 - y0)) → (pcK (mS vu cu x0 x1) (okc 3 sg_ (fun z9 => decide (1 ≤ z9) && (decide (wy ≠ 0) || (!tl || gs z9)))) (y0 + fr) y1 = pck (mS vu cu x0 x1) (okc 3 sg_ (fun z9 => decide (1 ≤ z9) && (decide (wy ≠ 0) || (!tl || gs z9)))) (fun z9 => dpV (mS vu cu x0 x1) (okc 3 sg_ (fun z9 => decide (1 ≤ z9) && (decide (wy ≠ 0) || (!tl || gs z9)))) z9 y1) (y0 + fr) (dpV (mS vu cu x0 x1) (okc 3 sg_ (fun z9 => decide (1 ≤ z9) && (decide (wy ≠ 0) || (!tl || gs z9)))) (y0 + fr) y1) n1) → n1 < k9 → lv_has ls 13 [(0, .ref hM), (1, .int (nI 3)), (2, .int (nI fr)), (3, .int (nI x0)), (4, .int (nI x1)), (5, .int (nI y0)), (6, .int (nI y1)), (7, .int (nI 1)), (8, .int (nI 96)), (9, .int (nI (fr + n1)))] → W p l e { frames := 2, cells := 0, slots := 0, locals := 50 } s m [.ref hM, .int (nI 3), .int (nI fr), .int (nI x0), .int (nI x1), .int (nI y0), .int (nI y1)].toArray below meth c s.heap [] 0 0 (MQ below (q_segFrom30 G ty hM cd st al ac nf ns mg bw md wy sg_ sz_ ks bd aM gs tl x0 x1 y0 y1 fr vu cu re2 rc2) [.ref hM, .int (nI 3), .int (nI fr), .int (nI x0), .int (nI x1), .int (nI y0), .int (nI y1)].toArray s 0 0 (fun _ => False)) (F0 m 32 ls []) := by
    intro k9
    induction k9 with
    | zero => intro n1 ls hn1 hI hk9; exact absurd hk9 (Nat.not_lt_zero _)
    | succ k9 ih32 =>
      intro n1 ls hn1 hI hk9 hl
      refine lv_iload hx hb d_Model_segmentFrom_32 (lv_at hl 9 rfl) ?_
      refine lv_iload_n hx hb d_Model_segmentFrom_34 rfl (lv_at hl 2 rfl) ?_
      refine n_icmp_le (tgt := 163) hx hb (by omega) (by omega) d_Model_segmentFrom_35 (by decide) (fun c35 => ?_) (fun c35 => ?_)
      · refine lv_iconst (v := (iI (-1))) hx hb d_Model_segmentFrom_163 (by decide) ?_
        exact W.iret (v := (iI (-1))) hx hb hr (fun t9 ht _ => ⟨_, rfl, by rw [hI, show n1 = 0 by omega]; rfl, ht⟩) (fun q h => by cases h) d_Model_segmentFrom_164
      · obtain ⟨n2, rfl⟩ : ∃ n2, n1 = n2 + 1 := ⟨n1 - 1, by omega⟩
        obtain ⟨at_, eat⟩ : ∃ at_, at_ = ((25 * x0 + x1) * 11 + (y0 + fr)) * 11 + (y0 + (fr + (n2 + 1))) := ⟨_, rfl⟩
        have e1 : y0 + (fr + (n2 + 1)) = y0 + fr + 1 + n2 := by omega
        have hO := gO (y0 + fr) (y0 + fr + 1 + n2) (by omega) (by omega) (by omega)
        unfold mOK at hO
        rw [← e1, ← eat] at hO
        have hO1 : cu at_ ≤ (x1 - x0) * (n2 + 1) := by have h9 := hO.1; rw [show y0 + (fr + (n2 + 1)) - (y0 + fr) = n2 + 1 by omega] at h9; exact h9
        have hO2 := hO.2.1
        have hO3 := hO.2.2
        clear hO
        have hvS : mS vu cu x0 x1 (y0 + fr) (y0 + fr + 1 + n2) = 1024 * vu at_ - (cu at_ : Int) := by rw [eat, e1]; try rfl
        have hrT := hR (fr + (n2 + 1)) (by omega) (by omega)
        have hrT1 : 1024 * re2 (96 + (fr + (n2 + 1))) - (rc2 (96 + (fr + (n2 + 1))) : Int) = dpV (mS vu cu x0 x1) (okc 3 sg_ (fun z9 => decide (1 ≤ z9) && (decide (wy ≠ 0) || (!tl || gs z9)))) (y0 + fr + 1 + n2) y1 := by have h9 := hrT.1; rw [← e1]; exact h9
        have hrT2 := hrT.2.1
        clear hrT
        have hka : (x1 - x0) * (y1 - y0 - (fr + (n2 + 1))) + (x1 - x0) * (n2 + 1) = (x1 - x0) * (y1 - y0 - fr) := K_add (by omega)
        have hkb := hKn (y1 - y0 - fr) (by omega)
        have hz0 := (hdv (y0 + fr + 1 + n2) (by omega) (by omega))
        have hat : at_ < 75625 := by rw [eat]; omega
        have hz : dpV (mS vu cu x0 x1) (okc 3 sg_ (fun z9 => decide (1 ≤ z9) && (decide (wy ≠ 0) || (!tl || gs z9)))) (y0 + fr + 1 + n2) y1 ≤ dpV (mS vu cu x0 x1) (okc 3 sg_ (fun z9 => decide (1 ≤ z9) && (decide (wy ≠ 0) || (!tl || gs z9)))) (y0 + fr) y1 := by have h9 := dpV_mono (seg := (mS vu cu x0 x1)) (ok := (okc 3 sg_ (fun z9 => decide (1 ≤ z9) && (decide (wy ≠ 0) || (!tl || gs z9))))) (e := y1) (n2 + 1) (y0 + fr) (by omega); rw [show y0 + fr + (n2 + 1) = y0 + fr + 1 + n2 by omega] at h9; exact h9
        refine lv_aload_n hx hb d_Model_segmentFrom_38 rfl (lv_at hl 0 rfl) ?_
        refine lv_iload hx hb d_Model_segmentFrom_39 (lv_at hl 7 rfl) ?_
        refine lv_iload_n hx hb d_Model_segmentFrom_41 rfl (lv_at hl 3 rfl) ?_
        refine lv_iload hx hb d_Model_segmentFrom_42 (lv_at hl 4 rfl) ?_
        refine lv_iload hx hb d_Model_segmentFrom_44 (lv_at hl 5 rfl) ?_
        refine lv_iload hx hb d_Model_segmentFrom_46 (lv_at hl 6 rfl) ?_
        refine lv_iload_n hx hb d_Model_segmentFrom_48 rfl (lv_at hl 2 rfl) ?_
        refine lv_iload hx hb d_Model_segmentFrom_49 (lv_at hl 9 rfl) ?_
        refine vp_callSi (W.runV (As := [.int (nI 1), .int (nI x0), .int (nI x1), .int (nI y0), .int (nI y1), .int (nI fr), .int (nI (fr + (n2 + 1)))]) (rest := []) ⟨hx, hb, hml, hown, hts⟩ (c_segment1 l G ty hM cd st al ac nf ns tl.toNat mg bw md wy sg_ sz_ ks bd aM x0 x1 y0 y1 fr (fr + (n2 + 1)) ) ⟨callB_of 7 hts (gd_TB cd_Model_segment) rfl rfl rfl (hts _ ini_Model) (hts _ lk_Model_199) hd_Model_segment ⟨Nat.le_of_ble_eq_true rfl, Nat.le_of_ble_eq_true rfl⟩, hts _ im_Model_segment, hts _ sl_Model_segment⟩ (preV_ro (hP.sub (ws' := [(hM, .inr (10, mO cd st al ac nf ns tl.toNat mg bw md wy sg_ sz_ ks bd aM))]) [0] rfl) hX 0 rfl rfl) rfl rfl hl.1 rfl (lv_room (Nat.le_of_ble_eq_true rfl)) d_Model_segmentFrom_51 ⟨Nat.le_of_ble_eq_true rfl, Nat.le_of_ble_eq_true rfl⟩) (fun r9 er9 => ?_)
        subst er9
        refine top_i (show (nI (((25 * x0 + x1) * 11 + (y0 + fr)) * 11 + (y0 + (fr + (n2 + 1))))) = (nI at_) from congrArg nI eat.symm) ?_
        refine lv_istore (lv' := [(10, .int (nI at_)), (0, .ref hM), (1, .int (nI 3)), (2, .int (nI fr)), (3, .int (nI x0)), (4, .int (nI x1)), (5, .int (nI y0)), (6, .int (nI y1)), (7, .int (nI 1)), (8, .int (nI 96)), (9, .int (nI (fr + (n2 + 1))))]) hx hb d_Model_segmentFrom_54 hl (by decide) rfl (fun ls hl => ?_)
        refine lv_aload_n hx hb d_Model_segmentFrom_56 rfl (lv_at hl 1 rfl) ?_
        refine lv_iload_n hx hb d_Model_segmentFrom_57 rfl (lv_at hl 2 rfl) ?_
        refine lv_iconst (v := (nI 1)) hx hb d_Model_segmentFrom_58 (by decide) ?_
        refine n_isub hx hb (by omega) d_Model_segmentFrom_59 ?_
        refine top_i (show (nI (3 - 1)) = nI 2 from rfl) ?_
        refine lv_iload hx hb d_Model_segmentFrom_60 (lv_at hl 0 rfl) ?_
        refine vp_callSi (W.runV (As := [.int (nI 2), .int (nI at_)]) (rest := []) ⟨hx, hb, hml, hown, hts⟩ (c_countBy2 l G ty hM cd st al ac nf ns tl.toNat mg bw md wy sg_ sz_ ks bd aM at_ cu (by omega)) ⟨callB_of 2 hts (gd_TB cd_Model_countBy) rfl rfl rfl (hts _ ini_Model) (hts _ lk_Model_203) hd_Model_countBy ⟨Nat.le_of_ble_eq_true rfl, Nat.le_of_ble_eq_true rfl⟩, hts _ im_Model_countBy, hts _ sl_Model_countBy⟩ (preV_ro (hP.sub (ws' := [(hM, .inr (10, mO cd st al ac nf ns tl.toNat mg bw md wy sg_ sz_ ks bd aM)), (aM 30, .inl (ty 0, 75625, .inl (nF cu)))]) [0, 2] rfl) hX 0 rfl rfl) rfl rfl hl.1 rfl (lv_room (Nat.le_of_ble_eq_true rfl)) d_Model_segmentFrom_62 ⟨Nat.le_of_ble_eq_true rfl, Nat.le_of_ble_eq_true rfl⟩) (fun r9 er9 => ?_)
        subst er9
        refine lv_istore (lv' := [(11, .int (nI (cu at_))), (10, .int (nI at_)), (0, .ref hM), (1, .int (nI 3)), (2, .int (nI fr)), (3, .int (nI x0)), (4, .int (nI x1)), (5, .int (nI y0)), (6, .int (nI y1)), (7, .int (nI 1)), (8, .int (nI 96)), (9, .int (nI (fr + (n2 + 1))))]) hx hb d_Model_segmentFrom_65 hl (by decide) rfl (fun ls hl => ?_)
        refine lv_aload_n hx hb d_Model_segmentFrom_67 rfl (lv_at hl 2 rfl) ?_
        refine va_get (D := G) (ci := 10) (v := .ref (aM 31)) (C := R_Model) (T := F_Model) (N := 47) hx hb hts in_Model hown hK hP 0 rfl rfl 31 (by decide) (hts _ fl_Model_85) (fun _ h9 => h9) rfl d_Model_segmentFrom_68 ?_
        refine lv_iload hx hb d_Model_segmentFrom_71 (lv_at hl 10 rfl) ?_
        refine lv_iload hx hb d_Model_segmentFrom_73 (lv_at hl 11 rfl) ?_
        refine n_iadd hx hb d_Model_segmentFrom_75 ?_
        refine n_lald hx hb hK hP 3 1 rfl rfl (by omega) (by omega) d_Model_segmentFrom_76 ?_
        refine lv_aload_n hx hb d_Model_segmentFrom_77 rfl (lv_at hl 2 rfl) ?_
        refine lv_iload_n hx hb d_Model_segmentFrom_78 rfl (lv_at hl 3 rfl) ?_
        refine lv_iconst (v := (nI 1)) hx hb d_Model_segmentFrom_79 (by decide) ?_
        refine n_isub hx hb (by omega) d_Model_segmentFrom_80 ?_
        refine top_i (show (nI (3 - 1)) = nI 2 from rfl) ?_
        refine lv_iload hx hb d_Model_segmentFrom_81 (lv_at hl 1 rfl) ?_
        refine vp_callSl (W.runV (As := [.int (nI 2), .int (nI at_)]) (rest := [.long (iL (re2 (96 + (fr + (n2 + 1)))))]) ⟨hx, hb, hml, hown, hts⟩ (c_valueBy2 l G ty hM cd st al ac nf ns tl.toNat mg bw md wy sg_ sz_ ks bd aM at_ vu (by omega)) ⟨callB_of 2 hts (gd_TB cd_Model_valueBy) rfl rfl rfl (hts _ ini_Model) (hts _ lk_Model_211) hd_Model_valueBy ⟨Nat.le_of_ble_eq_true rfl, Nat.le_of_ble_eq_true rfl⟩, hts _ im_Model_valueBy, hts _ sl_Model_valueBy⟩ (preV_ro (hP.sub (ws' := [(hM, .inr (10, mO cd st al ac nf ns tl.toNat mg bw md wy sg_ sz_ ks bd aM)), (aM 29, .inl (ty 1, 75625, .inr (.inl (lF vu))))]) [0, 1] rfl) hX 0 rfl rfl) rfl rfl hl.1 rfl (lv_room (Nat.le_of_ble_eq_true rfl)) d_Model_segmentFrom_83 ⟨Nat.le_of_ble_eq_true rfl, Nat.le_of_ble_eq_true rfl⟩) (fun r9 er9 => ?_)
        subst er9
        refine z_ladd hx hb d_Model_segmentFrom_86 ?_
        refine lv_aload_n hx hb d_Model_segmentFrom_87 rfl (lv_at hl 2 rfl) ?_
        refine va_get (D := G) (ci := 10) (v := .ref (aM 31)) (C := R_Model) (T := F_Model) (N := 47) hx hb hts in_Model hown hK hP 0 rfl rfl 31 (by decide) (hts _ fl_Model_85) (fun _ h9 => h9) rfl d_Model_segmentFrom_88 ?_
        refine lv_iload hx hb d_Model_segmentFrom_91 (lv_at hl 10 rfl) ?_
        refine lv_iload_n hx hb d_Model_segmentFrom_93 rfl (lv_at hl 4 rfl) ?_
        refine n_iadd hx hb d_Model_segmentFrom_94 ?_
        refine n_lald hx hb hK hP 3 1 rfl rfl (by omega) (by omega) d_Model_segmentFrom_95 ?_
        refine l_cmp_ne (tgt := 129) hx hb (by omega) (by omega) d_Model_segmentFrom_96 d_Model_segmentFrom_97 (by decide) (fun c96 => ?_) (fun c96 => ?_)
        · refine lv_iconst (v := (nI 0)) hx hb d_Model_segmentFrom_129 (by decide) ?_
          refine lv_istore (lv' := [(12, .int (nI 0)), (11, .int (nI (cu at_))), (10, .int (nI at_)), (0, .ref hM), (1, .int (nI 3)), (2, .int (nI fr)), (3, .int (nI x0)), (4, .int (nI x1)), (5, .int (nI y0)), (6, .int (nI y1)), (7, .int (nI 1)), (8, .int (nI 96)), (9, .int (nI (fr + (n2 + 1))))]) hx hb d_Model_segmentFrom_130 hl (by decide) rfl (fun ls hl => ?_)
          refine lv_iload hx hb d_Model_segmentFrom_132 (lv_at hl 1 rfl) ?_
          refine n_if_le (tgt := 157) hx hb (by omega) d_Model_segmentFrom_134 (by decide) (fun c134 => ?_) (fun c134 => ?_)
          · have hI2 : pcK (mS vu cu x0 x1) (okc 3 sg_ (fun z9 => decide (1 ≤ z9) && (decide (wy ≠ 0) || (!tl || gs z9)))) (y0 + fr) y1 = pck (mS vu cu x0 x1) (okc 3 sg_ (fun z9 => decide (1 ≤ z9) && (decide (wy ≠ 0) || (!tl || gs z9)))) (fun z9 => dpV (mS vu cu x0 x1) (okc 3 sg_ (fun z9 => decide (1 ≤ z9) && (decide (wy ≠ 0) || (!tl || gs z9)))) z9 y1) (y0 + fr) (dpV (mS vu cu x0 x1) (okc 3 sg_ (fun z9 => decide (1 ≤ z9) && (decide (wy ≠ 0) || (!tl || gs z9)))) (y0 + fr) y1) n2 := by rw [hI, pck_s, if_neg]; intro hh; first | omega | exact absurd hh.2.2 (by rw [show (okc 3 sg_ (fun z9 => decide (1 ≤ z9) && (decide (wy ≠ 0) || (!tl || gs z9)))) (n2 + 1) = false from tN_0 c151]; decide)
            refine lv_iinc (v := (nI (fr + n2))) (lv' := [(9, .int (nI (fr + n2))), (12, .int (nI 0)), (11, .int (nI (cu at_))), (10, .int (nI at_)), (0, .ref hM), (1, .int (nI 3)), (2, .int (nI fr)), (3, .int (nI x0)), (4, .int (nI x1)), (5, .int (nI y0)), (6, .int (nI y1)), (7, .int (nI 1)), (8, .int (nI 96))]) hx hb d_Model_segmentFrom_157 hl (k := 12) rfl (nI_inc _ _ _ (by omega)) (by decide) rfl (fun ls hl => ?_)
            refine lv_goto (tgt := 32) hx hb d_Model_segmentFrom_160 (by decide) ?_
            exact ih32 n2 _ (by omega) hI2 (by omega) (lv_sub hl [4, 5, 6, 7, 8, 9, 10, 11, 12, 0] rfl)
          · refine lv_iload hx hb d_Model_segmentFrom_137 (lv_at hl 0 rfl) ?_
            refine n_if_eq (tgt := 157) hx hb (by omega) d_Model_segmentFrom_139 (by decide) (fun c139 => ?_) (fun c139 => absurd c139 (by omega))
            have hI2 : pcK (mS vu cu x0 x1) (okc 3 sg_ (fun z9 => decide (1 ≤ z9) && (decide (wy ≠ 0) || (!tl || gs z9)))) (y0 + fr) y1 = pck (mS vu cu x0 x1) (okc 3 sg_ (fun z9 => decide (1 ≤ z9) && (decide (wy ≠ 0) || (!tl || gs z9)))) (fun z9 => dpV (mS vu cu x0 x1) (okc 3 sg_ (fun z9 => decide (1 ≤ z9) && (decide (wy ≠ 0) || (!tl || gs z9)))) z9 y1) (y0 + fr) (dpV (mS vu cu x0 x1) (okc 3 sg_ (fun z9 => decide (1 ≤ z9) && (decide (wy ≠ 0) || (!tl || gs z9)))) (y0 + fr) y1) n2 := by rw [hI, pck_s, if_neg]; intro hh; first | omega | exact absurd hh.2.2 (by rw [show (okc 3 sg_ (fun z9 => decide (1 ≤ z9) && (decide (wy ≠ 0) || (!tl || gs z9)))) (n2 + 1) = false from tN_0 c151]; decide)
            refine lv_iinc (v := (nI (fr + n2))) (lv' := [(9, .int (nI (fr + n2))), (12, .int (nI 0)), (11, .int (nI (cu at_))), (10, .int (nI at_)), (0, .ref hM), (1, .int (nI 3)), (2, .int (nI fr)), (3, .int (nI x0)), (4, .int (nI x1)), (5, .int (nI y0)), (6, .int (nI y1)), (7, .int (nI 1)), (8, .int (nI 96))]) hx hb d_Model_segmentFrom_157 hl (k := 12) rfl (nI_inc _ _ _ (by omega)) (by decide) rfl (fun ls hl => ?_)
            refine lv_goto (tgt := 32) hx hb d_Model_segmentFrom_160 (by decide) ?_
            exact ih32 n2 _ (by omega) hI2 (by omega) (lv_sub hl [4, 5, 6, 7, 8, 9, 10, 11, 12, 0] rfl)
        · refine lv_aload_n hx hb d_Model_segmentFrom_100 rfl (lv_at hl 2 rfl) ?_
          refine va_get (D := G) (ci := 10) (v := .ref (aM 32)) (C := R_Model) (T := F_Model) (N := 47) hx hb hts in_Model hown hK hP 0 rfl rfl 32 (by decide) (hts _ fl_Model_88) (fun _ h9 => h9) rfl d_Model_segmentFrom_101 ?_
          refine lv_iload hx hb d_Model_segmentFrom_104 (lv_at hl 10 rfl) ?_
          refine lv_iload hx hb d_Model_segmentFrom_106 (lv_at hl 11 rfl) ?_
          refine n_iadd hx hb d_Model_segmentFrom_108 ?_
          refine n_iald hx hb hK hP 4 0 rfl rfl (by omega) (by omega) d_Model_segmentFrom_109 ?_
          refine lv_iload hx hb d_Model_segmentFrom_110 (lv_at hl 0 rfl) ?_
          refine n_iadd hx hb d_Model_segmentFrom_112 ?_
          refine lv_aload_n hx hb d_Model_segmentFrom_113 rfl (lv_at hl 2 rfl) ?_
          refine va_get (D := G) (ci := 10) (v := .ref (aM 32)) (C := R_Model) (T := F_Model) (N := 47) hx hb hts in_Model hown hK hP 0 rfl rfl 32 (by decide) (hts _ fl_Model_88) (fun _ h9 => h9) rfl d_Model_segmentFrom_114 ?_
          refine lv_iload hx hb d_Model_segmentFrom_117 (lv_at hl 10 rfl) ?_
          refine lv_iload_n hx hb d_Model_segmentFrom_119 rfl (lv_at hl 4 rfl) ?_
          refine n_iadd hx hb d_Model_segmentFrom_120 ?_
          refine n_iald hx hb hK hP 4 0 rfl rfl (by omega) (by omega) d_Model_segmentFrom_121 ?_
          refine n_icmp_ne (tgt := 129) hx hb (by omega) (by omega) d_Model_segmentFrom_122 (by decide) (fun c122 => ?_) (fun c122 => ?_)
          · refine lv_iconst (v := (nI 0)) hx hb d_Model_segmentFrom_129 (by decide) ?_
            refine lv_istore (lv' := [(12, .int (nI 0)), (11, .int (nI (cu at_))), (10, .int (nI at_)), (0, .ref hM), (1, .int (nI 3)), (2, .int (nI fr)), (3, .int (nI x0)), (4, .int (nI x1)), (5, .int (nI y0)), (6, .int (nI y1)), (7, .int (nI 1)), (8, .int (nI 96)), (9, .int (nI (fr + (n2 + 1))))]) hx hb d_Model_segmentFrom_130 hl (by decide) rfl (fun ls hl => ?_)
            refine lv_iload hx hb d_Model_segmentFrom_132 (lv_at hl 1 rfl) ?_
            refine n_if_le (tgt := 157) hx hb (by omega) d_Model_segmentFrom_134 (by decide) (fun c134 => ?_) (fun c134 => ?_)
            · have hI2 : pcK (mS vu cu x0 x1) (okc 3 sg_ (fun z9 => decide (1 ≤ z9) && (decide (wy ≠ 0) || (!tl || gs z9)))) (y0 + fr) y1 = pck (mS vu cu x0 x1) (okc 3 sg_ (fun z9 => decide (1 ≤ z9) && (decide (wy ≠ 0) || (!tl || gs z9)))) (fun z9 => dpV (mS vu cu x0 x1) (okc 3 sg_ (fun z9 => decide (1 ≤ z9) && (decide (wy ≠ 0) || (!tl || gs z9)))) z9 y1) (y0 + fr) (dpV (mS vu cu x0 x1) (okc 3 sg_ (fun z9 => decide (1 ≤ z9) && (decide (wy ≠ 0) || (!tl || gs z9)))) (y0 + fr) y1) n2 := by rw [hI, pck_s, if_neg]; intro hh; first | omega | exact absurd hh.2.2 (by rw [show (okc 3 sg_ (fun z9 => decide (1 ≤ z9) && (decide (wy ≠ 0) || (!tl || gs z9)))) (n2 + 1) = false from tN_0 c151]; decide)
              refine lv_iinc (v := (nI (fr + n2))) (lv' := [(9, .int (nI (fr + n2))), (12, .int (nI 0)), (11, .int (nI (cu at_))), (10, .int (nI at_)), (0, .ref hM), (1, .int (nI 3)), (2, .int (nI fr)), (3, .int (nI x0)), (4, .int (nI x1)), (5, .int (nI y0)), (6, .int (nI y1)), (7, .int (nI 1)), (8, .int (nI 96))]) hx hb d_Model_segmentFrom_157 hl (k := 12) rfl (nI_inc _ _ _ (by omega)) (by decide) rfl (fun ls hl => ?_)
              refine lv_goto (tgt := 32) hx hb d_Model_segmentFrom_160 (by decide) ?_
              exact ih32 n2 _ (by omega) hI2 (by omega) (lv_sub hl [4, 5, 6, 7, 8, 9, 10, 11, 12, 0] rfl)
            · refine lv_iload hx hb d_Model_segmentFrom_137 (lv_at hl 0 rfl) ?_
              refine n_if_eq (tgt := 157) hx hb (by omega) d_Model_segmentFrom_139 (by decide) (fun c139 => ?_) (fun c139 => absurd c139 (by omega))
              have hI2 : pcK (mS vu cu x0 x1) (okc 3 sg_ (fun z9 => decide (1 ≤ z9) && (decide (wy ≠ 0) || (!tl || gs z9)))) (y0 + fr) y1 = pck (mS vu cu x0 x1) (okc 3 sg_ (fun z9 => decide (1 ≤ z9) && (decide (wy ≠ 0) || (!tl || gs z9)))) (fun z9 => dpV (mS vu cu x0 x1) (okc 3 sg_ (fun z9 => decide (1 ≤ z9) && (decide (wy ≠ 0) || (!tl || gs z9)))) z9 y1) (y0 + fr) (dpV (mS vu cu x0 x1) (okc 3 sg_ (fun z9 => decide (1 ≤ z9) && (decide (wy ≠ 0) || (!tl || gs z9)))) (y0 + fr) y1) n2 := by rw [hI, pck_s, if_neg]; intro hh; first | omega | exact absurd hh.2.2 (by rw [show (okc 3 sg_ (fun z9 => decide (1 ≤ z9) && (decide (wy ≠ 0) || (!tl || gs z9)))) (n2 + 1) = false from tN_0 c151]; decide)
              refine lv_iinc (v := (nI (fr + n2))) (lv' := [(9, .int (nI (fr + n2))), (12, .int (nI 0)), (11, .int (nI (cu at_))), (10, .int (nI at_)), (0, .ref hM), (1, .int (nI 3)), (2, .int (nI fr)), (3, .int (nI x0)), (4, .int (nI x1)), (5, .int (nI y0)), (6, .int (nI y1)), (7, .int (nI 1)), (8, .int (nI 96))]) hx hb d_Model_segmentFrom_157 hl (k := 12) rfl (nI_inc _ _ _ (by omega)) (by decide) rfl (fun ls hl => ?_)
              refine lv_goto (tgt := 32) hx hb d_Model_segmentFrom_160 (by decide) ?_
              exact ih32 n2 _ (by omega) hI2 (by omega) (lv_sub hl [4, 5, 6, 7, 8, 9, 10, 11, 12, 0] rfl)
          · refine lv_iconst (v := (nI 1)) hx hb d_Model_segmentFrom_125 (by decide) ?_
            refine lv_goto (tgt := 130) hx hb d_Model_segmentFrom_126 (by decide) ?_
            refine lv_istore (lv' := [(12, .int (nI 1)), (11, .int (nI (cu at_))), (10, .int (nI at_)), (0, .ref hM), (1, .int (nI 3)), (2, .int (nI fr)), (3, .int (nI x0)), (4, .int (nI x1)), (5, .int (nI y0)), (6, .int (nI y1)), (7, .int (nI 1)), (8, .int (nI 96)), (9, .int (nI (fr + (n2 + 1))))]) hx hb d_Model_segmentFrom_130 hl (by decide) rfl (fun ls hl => ?_)
            refine lv_iload hx hb d_Model_segmentFrom_132 (lv_at hl 1 rfl) ?_
            refine n_if_le (tgt := 157) hx hb (by omega) d_Model_segmentFrom_134 (by decide) (fun c134 => ?_) (fun c134 => ?_)
            · have hI2 : pcK (mS vu cu x0 x1) (okc 3 sg_ (fun z9 => decide (1 ≤ z9) && (decide (wy ≠ 0) || (!tl || gs z9)))) (y0 + fr) y1 = pck (mS vu cu x0 x1) (okc 3 sg_ (fun z9 => decide (1 ≤ z9) && (decide (wy ≠ 0) || (!tl || gs z9)))) (fun z9 => dpV (mS vu cu x0 x1) (okc 3 sg_ (fun z9 => decide (1 ≤ z9) && (decide (wy ≠ 0) || (!tl || gs z9)))) z9 y1) (y0 + fr) (dpV (mS vu cu x0 x1) (okc 3 sg_ (fun z9 => decide (1 ≤ z9) && (decide (wy ≠ 0) || (!tl || gs z9)))) (y0 + fr) y1) n2 := by rw [hI, pck_s, if_neg]; intro hh; first | omega | exact absurd hh.2.2 (by rw [show (okc 3 sg_ (fun z9 => decide (1 ≤ z9) && (decide (wy ≠ 0) || (!tl || gs z9)))) (n2 + 1) = false from tN_0 c151]; decide)
              refine lv_iinc (v := (nI (fr + n2))) (lv' := [(9, .int (nI (fr + n2))), (12, .int (nI 1)), (11, .int (nI (cu at_))), (10, .int (nI at_)), (0, .ref hM), (1, .int (nI 3)), (2, .int (nI fr)), (3, .int (nI x0)), (4, .int (nI x1)), (5, .int (nI y0)), (6, .int (nI y1)), (7, .int (nI 1)), (8, .int (nI 96))]) hx hb d_Model_segmentFrom_157 hl (k := 12) rfl (nI_inc _ _ _ (by omega)) (by decide) rfl (fun ls hl => ?_)
              refine lv_goto (tgt := 32) hx hb d_Model_segmentFrom_160 (by decide) ?_
              exact ih32 n2 _ (by omega) hI2 (by omega) (lv_sub hl [4, 5, 6, 7, 8, 9, 10, 11, 12, 0] rfl)
            · refine lv_iload hx hb d_Model_segmentFrom_137 (lv_at hl 0 rfl) ?_
              refine n_if_eq (tgt := 157) hx hb (by omega) d_Model_segmentFrom_139 (by decide) (fun c139 => absurd c139 (by omega)) (fun c139 => ?_)
              refine lv_aload_n hx hb d_Model_segmentFrom_142 rfl (lv_at hl 3 rfl) ?_
              refine lv_iload_n hx hb d_Model_segmentFrom_143 rfl (lv_at hl 4 rfl) ?_
              refine lv_iload hx hb d_Model_segmentFrom_144 (lv_at hl 12 rfl) ?_
              refine lv_iload_n hx hb d_Model_segmentFrom_146 rfl (lv_at hl 5 rfl) ?_
              refine n_isub hx hb (by omega) d_Model_segmentFrom_147 ?_
              refine top_i (show (nI ((fr + (n2 + 1)) - fr)) = (nI (n2 + 1)) from congrArg nI (by omega)) ?_
              refine vp_callSi (W.runV (As := [.int (nI 3), .int (nI (n2 + 1))]) (rest := []) ⟨hx, hb, hml, hown, hts⟩ (c_Model_isCut l G ty hM cd st al ac nf ns 0 mg bw md wy sg_ sz_ ks bd aM 3 (n2 + 1) gs tl (by omega) (by omega) (by omega) (by omega) (by omega)) ⟨callB_of 2 hts (gd_TB cd_Model_isCut) rfl rfl rfl (hts _ ini_Model) (hts _ lk_Model_207) hd_Model_isCut ⟨Nat.le_of_ble_eq_true rfl, Nat.le_of_ble_eq_true rfl⟩, hts _ im_Model_isCut, hts _ sl_Model_isCut⟩ (preV_ro (hP.sub (ws' := [(hM, .inr (10, mO cd st al ac nf ns tl.toNat mg bw md wy sg_ sz_ ks bd aM)), (aM 20, .inl (ty 2, 65537, .inl (bF gs)))]) [0, 5] rfl) hX 0 rfl rfl) rfl rfl hl.1 rfl (lv_room (Nat.le_of_ble_eq_true rfl)) d_Model_segmentFrom_148 ⟨Nat.le_of_ble_eq_true rfl, Nat.le_of_ble_eq_true rfl⟩) (fun r9 er9 => ?_)
              subst er9
              refine n_if_eq (tgt := 157) hx hb (tN_lt _) d_Model_segmentFrom_151 (by decide) (fun c151 => ?_) (fun c151 => ?_)
              · have hI2 : pcK (mS vu cu x0 x1) (okc 3 sg_ (fun z9 => decide (1 ≤ z9) && (decide (wy ≠ 0) || (!tl || gs z9)))) (y0 + fr) y1 = pck (mS vu cu x0 x1) (okc 3 sg_ (fun z9 => decide (1 ≤ z9) && (decide (wy ≠ 0) || (!tl || gs z9)))) (fun z9 => dpV (mS vu cu x0 x1) (okc 3 sg_ (fun z9 => decide (1 ≤ z9) && (decide (wy ≠ 0) || (!tl || gs z9)))) z9 y1) (y0 + fr) (dpV (mS vu cu x0 x1) (okc 3 sg_ (fun z9 => decide (1 ≤ z9) && (decide (wy ≠ 0) || (!tl || gs z9)))) (y0 + fr) y1) n2 := by rw [hI, pck_s, if_neg]; intro hh; first | omega | exact absurd hh.2.2 (by rw [show (okc 3 sg_ (fun z9 => decide (1 ≤ z9) && (decide (wy ≠ 0) || (!tl || gs z9)))) (n2 + 1) = false from tN_0 c151]; decide)
                refine lv_iinc (v := (nI (fr + n2))) (lv' := [(9, .int (nI (fr + n2))), (12, .int (nI 1)), (11, .int (nI (cu at_))), (10, .int (nI at_)), (0, .ref hM), (1, .int (nI 3)), (2, .int (nI fr)), (3, .int (nI x0)), (4, .int (nI x1)), (5, .int (nI y0)), (6, .int (nI y1)), (7, .int (nI 1)), (8, .int (nI 96))]) hx hb d_Model_segmentFrom_157 hl (k := 12) rfl (nI_inc _ _ _ (by omega)) (by decide) rfl (fun ls hl => ?_)
                refine lv_goto (tgt := 32) hx hb d_Model_segmentFrom_160 (by decide) ?_
                exact ih32 n2 _ (by omega) hI2 (by omega) (lv_sub hl [4, 5, 6, 7, 8, 9, 10, 11, 12, 0] rfl)
              · refine lv_iload hx hb d_Model_segmentFrom_154 (lv_at hl 12 rfl) ?_
                exact W.iret (v := (nI (fr + (n2 + 1)))) hx hb hr (fun t9 ht _ => ⟨_, rfl, by rw [hI, pck_s, if_pos ⟨by omega, by omega, tN_1 c151⟩]; unfold pkQ; rw [if_neg (by omega), nI_iI]; congr 1; omega, ht⟩) (fun q h => by cases h) d_Model_segmentFrom_156
  exact L32 ((y1 - y0 - fr) + 1) (y1 - y0 - fr) _ (by omega) (by unfold pcK; rw [show y1 - (y0 + fr) = y1 - y0 - fr by omega]) (Nat.lt_succ_self _) (lv_sub hl [3, 4, 5, 6, 7, 8, 9, 2, 1, 0] rfl)

abbrev q_segFrom31 (G : va_G) (ty : Nat → ClassId) (hM : Nat) (cd : Nat) (st : Nat) (al : Nat) (ac : Nat) (nf : Nat) (ns : Nat) (mg : Nat) (bw : Nat) (md : Nat) (wy : Nat) (sg_ : Nat) (sz_ : Nat) (ks : Nat) (bd : Int) (aM : Nat → Nat) (gs : Nat → Bool) (tl : Bool) (x0 : Nat) (x1 : Nat) (y0 : Nat) (y1 : Nat) (fr : Nat) (vu : Nat → Int) (cu : Nat → Nat) (re2 : Nat → Int) (rc2 : Nat → Nat) : Array Value → State → Outcome → State → Prop := vp_Si (fun r : Int32 => r = (iI (pkQ (pcK (fun b9 e9 => mS vu cu b9 e9 y0 y1) (okc 3 sg_ (fun z9 => decide (1 ≤ z9) && (decide (wy ≠ 0) || (!tl || gs z9)))) (x0 + fr) x1) x0)))
set_option maxRecDepth 100000 in
set_option maxHeartbeats 4000000 in
theorem c_segFrom31 (l : Launch) (G : va_G) (ty : Nat → ClassId) (hM : Nat) (cd : Nat) (st : Nat) (al : Nat) (ac : Nat) (nf : Nat) (ns : Nat) (mg : Nat) (bw : Nat) (md : Nat) (wy : Nat) (sg_ : Nat) (sz_ : Nat) (ks : Nat) (bd : Int) (aM : Nat → Nat) (gs : Nat → Bool) (tl : Bool) (x0 : Nat) (x1 : Nat) (y0 : Nat) (y1 : Nat) (fr : Nat) (vu : Nat → Int) (cu : Nat → Nat) (re2 : Nat → Int) (rc2 : Nat → Nat) (gtp : 3 ≤ sg_ ∧ sg_ ≤ 3) (gwy : wy ≤ 1) (gax : 1 = (if (sg_ - 3) % 2 = 0 then wy else 1 - wy)) (k1 : x0 < x1) (k2 : x1 ≤ 24) (k3 : y0 < y1) (k4 : y1 ≤ 10) (gO : ∀ i j, x0 ≤ i → i < j → j ≤ x1 → mOK vu cu i j y0 y1) (gR : ∀ p, p ≤ (x1 - x0) → rOKr re2 rc2 (fun p9 => dpV (fun b9 e9 => mS vu cu b9 e9 y0 y1) (okc 3 sg_ (fun z9 => decide (1 ≤ z9) && (decide (wy ≠ 0) || (!tl || gs z9)))) (x0 + p9) x1) 96 (y1 - y0) (x1 - x0) p) (gf : fr < (x1 - x0)) : Met l y_Model_segmentFrom ws_Model_segmentFrom { frames := 2, cells := 0, slots := 0, locals := 50 } (va_Pc [.ref hM, .int (nI 3), .int (nI fr), .int (nI x0), .int (nI x1), .int (nI y0), .int (nI y1)] (fun U => va_P G vwCl [(hM, .inr (10, mO cd st al ac nf ns tl.toNat mg bw md wy sg_ sz_ ks bd aM)), (aM 29, .inl (ty 1, 75625, .inr (.inl (lF vu)))), (aM 30, .inl (ty 0, 75625, .inl (nF cu))), (aM 31, .inl (ty 1, 128, .inr (.inl (lF re2)))), (aM 32, .inl (ty 0, 128, .inl (nF rc2))), (aM 20, .inl (ty 2, 65537, .inl (bF gs)))] U.heap ∧ KX G ty U)) (q_segFrom31 G ty hM cd st al ac nf ns mg bw md wy sg_ sz_ ks bd aM gs tl x0 x1 y0 y1 fr vu cu re2 rc2) 0 0 (fun _ => False) := by
  refine met_ro R_Model (by decide) rfl rfl (Nat.le_of_ble_eq_true rfl) ?_
  intro p e s m below meth c ls hx hb hr hml hown hts hlocks hP hX hl
  have hK := hX.1
  have hl : lv_has ls 13 [(0, .ref hM), (1, .int (nI 3)), (2, .int (nI fr)), (3, .int (nI x0)), (4, .int (nI x1)), (5, .int (nI y0)), (6, .int (nI y1))] := hl
  have hKn : ∀ a9, a9 ≤ x1 - x0 → (y1 - y0) * a9 ≤ 240 := fun a9 h9 => Nat.le_trans (Nat.mul_le_mul (show y1 - y0 ≤ 10 by omega) (show a9 ≤ 24 by omega)) (by decide)
  have hdv : ∀ p, x0 ≤ p → p ≤ x1 → 0 ≤ dpV (fun b9 e9 => mS vu cu b9 e9 y0 y1) (okc 3 sg_ (fun z9 => decide (1 ≤ z9) && (decide (wy ≠ 0) || (!tl || gs z9)))) p x1 ∧ dpV (fun b9 e9 => mS vu cu b9 e9 y0 y1) (okc 3 sg_ (fun z9 => decide (1 ≤ z9) && (decide (wy ≠ 0) || (!tl || gs z9)))) p x1 ≤ 26400000000000000 := fun p h1 h2 => dpV_u (by omega) h2 (fun i j h3 h4 h5 => mS_le (gO i j (by omega) h4 h5))
  have hR : ∀ p, 0 ≤ p → p ≤ (x1 - x0) → rOKr re2 rc2 (fun p9 => dpV (fun b9 e9 => mS vu cu b9 e9 y0 y1) (okc 3 sg_ (fun z9 => decide (1 ≤ z9) && (decide (wy ≠ 0) || (!tl || gs z9)))) (x0 + p9) x1) 96 (y1 - y0) (x1 - x0) p := fun p _ h => gR p h
  have hrF := gR fr (by omega)
  have hrF1 : 1024 * re2 (96 + fr) - (rc2 (96 + fr) : Int) = dpV (fun b9 e9 => mS vu cu b9 e9 y0 y1) (okc 3 sg_ (fun z9 => decide (1 ≤ z9) && (decide (wy ≠ 0) || (!tl || gs z9)))) (x0 + fr) x1 := hrF.1
  have hrF2 := hrF.2.1
  have hbF := hdv (x0 + fr) (by omega) (by omega)
  have hkF := hKn (x1 - x0 - fr) (by omega)
  refine lv_aload_n hx hb d_Model_segmentFrom_0 rfl (lv_at hl 0 rfl) ?_
  refine lv_iload_n hx hb d_Model_segmentFrom_1 rfl (lv_at hl 1 rfl) ?_
  refine vp_callSi (W.runV (As := [.int (nI 3)]) (rest := []) ⟨hx, hb, hml, hown, hts⟩ (c_Model_isRipped l G ty hM cd st al ac nf ns tl.toNat mg bw md wy sg_ sz_ ks bd aM 3 (by omega) (by omega) (by omega)) ⟨callB_of 1 hts (gd_TB cd_Model_isRipped) rfl rfl rfl (hts _ ini_Model) (hts _ lk_Model_196) hd_Model_isRipped ⟨Nat.le_of_ble_eq_true rfl, Nat.le_of_ble_eq_true rfl⟩, hts _ im_Model_isRipped, hts _ sl_Model_isRipped⟩ (preV_ro (hP.sub (ws' := [(hM, .inr (10, mO cd st al ac nf ns tl.toNat mg bw md wy sg_ sz_ ks bd aM))]) [0] rfl) hX 0 rfl rfl) rfl rfl hl.1 rfl (lv_room (Nat.le_of_ble_eq_true rfl)) d_Model_segmentFrom_2 ⟨Nat.le_of_ble_eq_true rfl, Nat.le_of_ble_eq_true rfl⟩) (fun r9 er9 => ?_)
  subst er9
  refine top_i (show (nI (1 - (if (sg_ - 3) % 2 = 0 then wy else 1 - wy))) = (nI 0) from congrArg (fun z9 => nI (1 - z9)) gax.symm) ?_
  refine lv_istore (lv' := [(7, .int (nI 0)), (0, .ref hM), (1, .int (nI 3)), (2, .int (nI fr)), (3, .int (nI x0)), (4, .int (nI x1)), (5, .int (nI y0)), (6, .int (nI y1))]) hx hb d_Model_segmentFrom_5 hl (by decide) rfl (fun ls hl => ?_)
  refine lv_bipush (v := (nI 32)) hx hb d_Model_segmentFrom_7 (by decide) ?_
  refine lv_iload_n hx hb d_Model_segmentFrom_9 rfl (lv_at hl 2 rfl) ?_
  refine n_imul hx hb d_Model_segmentFrom_10 ?_
  refine top_i (show (nI (32 * 3)) = nI 96 from rfl) ?_
  refine lv_istore (lv' := [(8, .int (nI 96)), (7, .int (nI 0)), (0, .ref hM), (1, .int (nI 3)), (2, .int (nI fr)), (3, .int (nI x0)), (4, .int (nI x1)), (5, .int (nI y0)), (6, .int (nI y1))]) hx hb d_Model_segmentFrom_11 hl (by decide) rfl (fun ls hl => ?_)
  refine lv_iload hx hb d_Model_segmentFrom_13 (lv_at hl 1 rfl) ?_
  refine n_if_eq (tgt := 26) hx hb (by omega) d_Model_segmentFrom_15 (by decide) (fun c15 => ?_) (fun c15 => absurd c15 (by omega))
  refine lv_iload hx hb d_Model_segmentFrom_26 (lv_at hl 6 rfl) ?_
  refine lv_iload_n hx hb d_Model_segmentFrom_28 rfl (lv_at hl 5 rfl) ?_
  refine n_isub hx hb (by omega) d_Model_segmentFrom_29 ?_
  refine top_i (show (nI (x1 - x0)) = (nI (fr + (x1 - x0 - fr))) from congrArg nI (by omega)) ?_
  refine lv_istore (lv' := [(9, .int (nI (fr + (x1 - x0 - fr)))), (8, .int (nI 96)), (7, .int (nI 0)), (0, .ref hM), (1, .int (nI 3)), (2, .int (nI fr)), (3, .int (nI x0)), (4, .int (nI x1)), (5, .int (nI y0)), (6, .int (nI y1))]) hx hb d_Model_segmentFrom_30 hl (by decide) rfl (fun ls hl => ?_)
  have L32 : ∀ (k9 : Nat) (n1 : Nat) (ls : Array Slot), (fr + n1 ≤ (x1 - x0)) → (pcK (fun b9 e9 => mS vu cu b9 e9 y0 y1) (okc 3 sg_ (fun z9 => decide (1 ≤ z9) && (decide (wy ≠ 0) || (!tl || gs z9)))) (x0 + fr) x1 = pck (fun b9 e9 => mS vu cu b9 e9 y0 y1) (okc 3 sg_ (fun z9 => decide (1 ≤ z9) && (decide (wy ≠ 0) || (!tl || gs z9)))) (fun z9 => dpV (fun b9 e9 => mS vu cu b9 e9 y0 y1) (okc 3 sg_ (fun z9 => decide (1 ≤ z9) && (decide (wy ≠ 0) || (!tl || gs z9)))) z9 x1) (x0 + fr) (dpV (fun b9 e9 => mS vu cu b9 e9 y0 y1) (okc 3 sg_ (fun z9 => decide (1 ≤ z9) && (decide (wy ≠ 0) || (!tl || gs z9)))) (x0 + fr) x1) n1) → n1 < k9 → lv_has ls 13 [(0, .ref hM), (1, .int (nI 3)), (2, .int (nI fr)), (3, .int (nI x0)), (4, .int (nI x1)), (5, .int (nI y0)), (6, .int (nI y1)), (7, .int (nI 0)), (8, .int (nI 96)), (9, .int (nI (fr + n1)))] → W p l e { frames := 2, cells := 0, slots := 0, locals := 50 } s m [.ref hM, .int (nI 3), .int (nI fr), .int (nI x0), .int (nI x1), .int (nI y0), .int (nI y1)].toArray below meth c s.heap [] 0 0 (MQ below (q_segFrom31 G ty hM cd st al ac nf ns mg bw md wy sg_ sz_ ks bd aM gs tl x0 x1 y0 y1 fr vu cu re2 rc2) [.ref hM, .int (nI 3), .int (nI fr), .int (nI x0), .int (nI x1), .int (nI y0), .int (nI y1)].toArray s 0 0 (fun _ => False)) (F0 m 32 ls []) := by
    intro k9
    induction k9 with
    | zero => intro n1 ls hn1 hI hk9; exact absurd hk9 (Nat.not_lt_zero _)
    | succ k9 ih32 =>
      intro n1 ls hn1 hI hk9 hl
      refine lv_iload hx hb d_Model_segmentFrom_32 (lv_at hl 9 rfl) ?_
      refine lv_iload_n hx hb d_Model_segmentFrom_34 rfl (lv_at hl 2 rfl) ?_
      refine n_icmp_le (tgt := 163) hx hb (by omega) (by omega) d_Model_segmentFrom_35 (by decide) (fun c35 => ?_) (fun c35 => ?_)
      · refine lv_iconst (v := (iI (-1))) hx hb d_Model_segmentFrom_163 (by decide) ?_
        exact W.iret (v := (iI (-1))) hx hb hr (fun t9 ht _ => ⟨_, rfl, by rw [hI, show n1 = 0 by omega]; rfl, ht⟩) (fun q h => by cases h) d_Model_segmentFrom_164
      · obtain ⟨n2, rfl⟩ : ∃ n2, n1 = n2 + 1 := ⟨n1 - 1, by omega⟩
        obtain ⟨at_, eat⟩ : ∃ at_, at_ = ((25 * (x0 + fr) + (x0 + (fr + (n2 + 1)))) * 11 + y0) * 11 + y1 := ⟨_, rfl⟩
        have e1 : x0 + (fr + (n2 + 1)) = x0 + fr + 1 + n2 := by omega
        have hO := gO (x0 + fr) (x0 + fr + 1 + n2) (by omega) (by omega) (by omega)
        unfold mOK at hO
        rw [← e1, ← eat] at hO
        have hO1 : cu at_ ≤ (y1 - y0) * (n2 + 1) := by have h9 := hO.1; rw [show x0 + (fr + (n2 + 1)) - (x0 + fr) = n2 + 1 by omega] at h9; rw [Nat.mul_comm]; exact h9
        have hO2 := hO.2.1
        have hO3 := hO.2.2
        clear hO
        have hvS : mS vu cu (x0 + fr) (x0 + fr + 1 + n2) y0 y1 = 1024 * vu at_ - (cu at_ : Int) := by rw [eat, e1]; try rfl
        have hrT := hR (fr + (n2 + 1)) (by omega) (by omega)
        have hrT1 : 1024 * re2 (96 + (fr + (n2 + 1))) - (rc2 (96 + (fr + (n2 + 1))) : Int) = dpV (fun b9 e9 => mS vu cu b9 e9 y0 y1) (okc 3 sg_ (fun z9 => decide (1 ≤ z9) && (decide (wy ≠ 0) || (!tl || gs z9)))) (x0 + fr + 1 + n2) x1 := by have h9 := hrT.1; rw [← e1]; exact h9
        have hrT2 := hrT.2.1
        clear hrT
        have hka : (y1 - y0) * (x1 - x0 - (fr + (n2 + 1))) + (y1 - y0) * (n2 + 1) = (y1 - y0) * (x1 - x0 - fr) := K_add (by omega)
        have hkb := hKn (x1 - x0 - fr) (by omega)
        have hz0 := (hdv (x0 + fr + 1 + n2) (by omega) (by omega))
        have hat : at_ < 75625 := by rw [eat]; omega
        have hz : dpV (fun b9 e9 => mS vu cu b9 e9 y0 y1) (okc 3 sg_ (fun z9 => decide (1 ≤ z9) && (decide (wy ≠ 0) || (!tl || gs z9)))) (x0 + fr + 1 + n2) x1 ≤ dpV (fun b9 e9 => mS vu cu b9 e9 y0 y1) (okc 3 sg_ (fun z9 => decide (1 ≤ z9) && (decide (wy ≠ 0) || (!tl || gs z9)))) (x0 + fr) x1 := by have h9 := dpV_mono (seg := (fun b9 e9 => mS vu cu b9 e9 y0 y1)) (ok := (okc 3 sg_ (fun z9 => decide (1 ≤ z9) && (decide (wy ≠ 0) || (!tl || gs z9))))) (e := x1) (n2 + 1) (x0 + fr) (by omega); rw [show x0 + fr + (n2 + 1) = x0 + fr + 1 + n2 by omega] at h9; exact h9
        refine lv_aload_n hx hb d_Model_segmentFrom_38 rfl (lv_at hl 0 rfl) ?_
        refine lv_iload hx hb d_Model_segmentFrom_39 (lv_at hl 7 rfl) ?_
        refine lv_iload_n hx hb d_Model_segmentFrom_41 rfl (lv_at hl 3 rfl) ?_
        refine lv_iload hx hb d_Model_segmentFrom_42 (lv_at hl 4 rfl) ?_
        refine lv_iload hx hb d_Model_segmentFrom_44 (lv_at hl 5 rfl) ?_
        refine lv_iload hx hb d_Model_segmentFrom_46 (lv_at hl 6 rfl) ?_
        refine lv_iload_n hx hb d_Model_segmentFrom_48 rfl (lv_at hl 2 rfl) ?_
        refine lv_iload hx hb d_Model_segmentFrom_49 (lv_at hl 9 rfl) ?_
        refine vp_callSi (W.runV (As := [.int (nI 0), .int (nI x0), .int (nI x1), .int (nI y0), .int (nI y1), .int (nI fr), .int (nI (fr + (n2 + 1)))]) (rest := []) ⟨hx, hb, hml, hown, hts⟩ (c_segment0 l G ty hM cd st al ac nf ns tl.toNat mg bw md wy sg_ sz_ ks bd aM x0 x1 y0 y1 fr (fr + (n2 + 1)) ) ⟨callB_of 7 hts (gd_TB cd_Model_segment) rfl rfl rfl (hts _ ini_Model) (hts _ lk_Model_199) hd_Model_segment ⟨Nat.le_of_ble_eq_true rfl, Nat.le_of_ble_eq_true rfl⟩, hts _ im_Model_segment, hts _ sl_Model_segment⟩ (preV_ro (hP.sub (ws' := [(hM, .inr (10, mO cd st al ac nf ns tl.toNat mg bw md wy sg_ sz_ ks bd aM))]) [0] rfl) hX 0 rfl rfl) rfl rfl hl.1 rfl (lv_room (Nat.le_of_ble_eq_true rfl)) d_Model_segmentFrom_51 ⟨Nat.le_of_ble_eq_true rfl, Nat.le_of_ble_eq_true rfl⟩) (fun r9 er9 => ?_)
        subst er9
        refine top_i (show (nI (((25 * (x0 + fr) + (x0 + (fr + (n2 + 1)))) * 11 + y0) * 11 + y1)) = (nI at_) from congrArg nI eat.symm) ?_
        refine lv_istore (lv' := [(10, .int (nI at_)), (0, .ref hM), (1, .int (nI 3)), (2, .int (nI fr)), (3, .int (nI x0)), (4, .int (nI x1)), (5, .int (nI y0)), (6, .int (nI y1)), (7, .int (nI 0)), (8, .int (nI 96)), (9, .int (nI (fr + (n2 + 1))))]) hx hb d_Model_segmentFrom_54 hl (by decide) rfl (fun ls hl => ?_)
        refine lv_aload_n hx hb d_Model_segmentFrom_56 rfl (lv_at hl 1 rfl) ?_
        refine lv_iload_n hx hb d_Model_segmentFrom_57 rfl (lv_at hl 2 rfl) ?_
        refine lv_iconst (v := (nI 1)) hx hb d_Model_segmentFrom_58 (by decide) ?_
        refine n_isub hx hb (by omega) d_Model_segmentFrom_59 ?_
        refine top_i (show (nI (3 - 1)) = nI 2 from rfl) ?_
        refine lv_iload hx hb d_Model_segmentFrom_60 (lv_at hl 0 rfl) ?_
        refine vp_callSi (W.runV (As := [.int (nI 2), .int (nI at_)]) (rest := []) ⟨hx, hb, hml, hown, hts⟩ (c_countBy2 l G ty hM cd st al ac nf ns tl.toNat mg bw md wy sg_ sz_ ks bd aM at_ cu (by omega)) ⟨callB_of 2 hts (gd_TB cd_Model_countBy) rfl rfl rfl (hts _ ini_Model) (hts _ lk_Model_203) hd_Model_countBy ⟨Nat.le_of_ble_eq_true rfl, Nat.le_of_ble_eq_true rfl⟩, hts _ im_Model_countBy, hts _ sl_Model_countBy⟩ (preV_ro (hP.sub (ws' := [(hM, .inr (10, mO cd st al ac nf ns tl.toNat mg bw md wy sg_ sz_ ks bd aM)), (aM 30, .inl (ty 0, 75625, .inl (nF cu)))]) [0, 2] rfl) hX 0 rfl rfl) rfl rfl hl.1 rfl (lv_room (Nat.le_of_ble_eq_true rfl)) d_Model_segmentFrom_62 ⟨Nat.le_of_ble_eq_true rfl, Nat.le_of_ble_eq_true rfl⟩) (fun r9 er9 => ?_)
        subst er9
        refine lv_istore (lv' := [(11, .int (nI (cu at_))), (10, .int (nI at_)), (0, .ref hM), (1, .int (nI 3)), (2, .int (nI fr)), (3, .int (nI x0)), (4, .int (nI x1)), (5, .int (nI y0)), (6, .int (nI y1)), (7, .int (nI 0)), (8, .int (nI 96)), (9, .int (nI (fr + (n2 + 1))))]) hx hb d_Model_segmentFrom_65 hl (by decide) rfl (fun ls hl => ?_)
        refine lv_aload_n hx hb d_Model_segmentFrom_67 rfl (lv_at hl 2 rfl) ?_
        refine va_get (D := G) (ci := 10) (v := .ref (aM 31)) (C := R_Model) (T := F_Model) (N := 47) hx hb hts in_Model hown hK hP 0 rfl rfl 31 (by decide) (hts _ fl_Model_85) (fun _ h9 => h9) rfl d_Model_segmentFrom_68 ?_
        refine lv_iload hx hb d_Model_segmentFrom_71 (lv_at hl 10 rfl) ?_
        refine lv_iload hx hb d_Model_segmentFrom_73 (lv_at hl 11 rfl) ?_
        refine n_iadd hx hb d_Model_segmentFrom_75 ?_
        refine n_lald hx hb hK hP 3 1 rfl rfl (by omega) (by omega) d_Model_segmentFrom_76 ?_
        refine lv_aload_n hx hb d_Model_segmentFrom_77 rfl (lv_at hl 2 rfl) ?_
        refine lv_iload_n hx hb d_Model_segmentFrom_78 rfl (lv_at hl 3 rfl) ?_
        refine lv_iconst (v := (nI 1)) hx hb d_Model_segmentFrom_79 (by decide) ?_
        refine n_isub hx hb (by omega) d_Model_segmentFrom_80 ?_
        refine top_i (show (nI (3 - 1)) = nI 2 from rfl) ?_
        refine lv_iload hx hb d_Model_segmentFrom_81 (lv_at hl 1 rfl) ?_
        refine vp_callSl (W.runV (As := [.int (nI 2), .int (nI at_)]) (rest := [.long (iL (re2 (96 + (fr + (n2 + 1)))))]) ⟨hx, hb, hml, hown, hts⟩ (c_valueBy2 l G ty hM cd st al ac nf ns tl.toNat mg bw md wy sg_ sz_ ks bd aM at_ vu (by omega)) ⟨callB_of 2 hts (gd_TB cd_Model_valueBy) rfl rfl rfl (hts _ ini_Model) (hts _ lk_Model_211) hd_Model_valueBy ⟨Nat.le_of_ble_eq_true rfl, Nat.le_of_ble_eq_true rfl⟩, hts _ im_Model_valueBy, hts _ sl_Model_valueBy⟩ (preV_ro (hP.sub (ws' := [(hM, .inr (10, mO cd st al ac nf ns tl.toNat mg bw md wy sg_ sz_ ks bd aM)), (aM 29, .inl (ty 1, 75625, .inr (.inl (lF vu))))]) [0, 1] rfl) hX 0 rfl rfl) rfl rfl hl.1 rfl (lv_room (Nat.le_of_ble_eq_true rfl)) d_Model_segmentFrom_83 ⟨Nat.le_of_ble_eq_true rfl, Nat.le_of_ble_eq_true rfl⟩) (fun r9 er9 => ?_)
        subst er9
        refine z_ladd hx hb d_Model_segmentFrom_86 ?_
        refine lv_aload_n hx hb d_Model_segmentFrom_87 rfl (lv_at hl 2 rfl) ?_
        refine va_get (D := G) (ci := 10) (v := .ref (aM 31)) (C := R_Model) (T := F_Model) (N := 47) hx hb hts in_Model hown hK hP 0 rfl rfl 31 (by decide) (hts _ fl_Model_85) (fun _ h9 => h9) rfl d_Model_segmentFrom_88 ?_
        refine lv_iload hx hb d_Model_segmentFrom_91 (lv_at hl 10 rfl) ?_
        refine lv_iload_n hx hb d_Model_segmentFrom_93 rfl (lv_at hl 4 rfl) ?_
        refine n_iadd hx hb d_Model_segmentFrom_94 ?_
        refine n_lald hx hb hK hP 3 1 rfl rfl (by omega) (by omega) d_Model_segmentFrom_95 ?_
        refine l_cmp_ne (tgt := 129) hx hb (by omega) (by omega) d_Model_segmentFrom_96 d_Model_segmentFrom_97 (by decide) (fun c96 => ?_) (fun c96 => ?_)
        · refine lv_iconst (v := (nI 0)) hx hb d_Model_segmentFrom_129 (by decide) ?_
          refine lv_istore (lv' := [(12, .int (nI 0)), (11, .int (nI (cu at_))), (10, .int (nI at_)), (0, .ref hM), (1, .int (nI 3)), (2, .int (nI fr)), (3, .int (nI x0)), (4, .int (nI x1)), (5, .int (nI y0)), (6, .int (nI y1)), (7, .int (nI 0)), (8, .int (nI 96)), (9, .int (nI (fr + (n2 + 1))))]) hx hb d_Model_segmentFrom_130 hl (by decide) rfl (fun ls hl => ?_)
          refine lv_iload hx hb d_Model_segmentFrom_132 (lv_at hl 1 rfl) ?_
          refine n_if_le (tgt := 157) hx hb (by omega) d_Model_segmentFrom_134 (by decide) (fun c134 => ?_) (fun c134 => ?_)
          · have hI2 : pcK (fun b9 e9 => mS vu cu b9 e9 y0 y1) (okc 3 sg_ (fun z9 => decide (1 ≤ z9) && (decide (wy ≠ 0) || (!tl || gs z9)))) (x0 + fr) x1 = pck (fun b9 e9 => mS vu cu b9 e9 y0 y1) (okc 3 sg_ (fun z9 => decide (1 ≤ z9) && (decide (wy ≠ 0) || (!tl || gs z9)))) (fun z9 => dpV (fun b9 e9 => mS vu cu b9 e9 y0 y1) (okc 3 sg_ (fun z9 => decide (1 ≤ z9) && (decide (wy ≠ 0) || (!tl || gs z9)))) z9 x1) (x0 + fr) (dpV (fun b9 e9 => mS vu cu b9 e9 y0 y1) (okc 3 sg_ (fun z9 => decide (1 ≤ z9) && (decide (wy ≠ 0) || (!tl || gs z9)))) (x0 + fr) x1) n2 := by rw [hI, pck_s, if_neg]; intro hh; first | omega | exact absurd hh.2.2 (by rw [show (okc 3 sg_ (fun z9 => decide (1 ≤ z9) && (decide (wy ≠ 0) || (!tl || gs z9)))) (n2 + 1) = false from tN_0 c151]; decide)
            refine lv_iinc (v := (nI (fr + n2))) (lv' := [(9, .int (nI (fr + n2))), (12, .int (nI 0)), (11, .int (nI (cu at_))), (10, .int (nI at_)), (0, .ref hM), (1, .int (nI 3)), (2, .int (nI fr)), (3, .int (nI x0)), (4, .int (nI x1)), (5, .int (nI y0)), (6, .int (nI y1)), (7, .int (nI 0)), (8, .int (nI 96))]) hx hb d_Model_segmentFrom_157 hl (k := 12) rfl (nI_inc _ _ _ (by omega)) (by decide) rfl (fun ls hl => ?_)
            refine lv_goto (tgt := 32) hx hb d_Model_segmentFrom_160 (by decide) ?_
            exact ih32 n2 _ (by omega) hI2 (by omega) (lv_sub hl [4, 5, 6, 7, 8, 9, 10, 11, 12, 0] rfl)
          · refine lv_iload hx hb d_Model_segmentFrom_137 (lv_at hl 0 rfl) ?_
            refine n_if_eq (tgt := 157) hx hb (by omega) d_Model_segmentFrom_139 (by decide) (fun c139 => ?_) (fun c139 => absurd c139 (by omega))
            have hI2 : pcK (fun b9 e9 => mS vu cu b9 e9 y0 y1) (okc 3 sg_ (fun z9 => decide (1 ≤ z9) && (decide (wy ≠ 0) || (!tl || gs z9)))) (x0 + fr) x1 = pck (fun b9 e9 => mS vu cu b9 e9 y0 y1) (okc 3 sg_ (fun z9 => decide (1 ≤ z9) && (decide (wy ≠ 0) || (!tl || gs z9)))) (fun z9 => dpV (fun b9 e9 => mS vu cu b9 e9 y0 y1) (okc 3 sg_ (fun z9 => decide (1 ≤ z9) && (decide (wy ≠ 0) || (!tl || gs z9)))) z9 x1) (x0 + fr) (dpV (fun b9 e9 => mS vu cu b9 e9 y0 y1) (okc 3 sg_ (fun z9 => decide (1 ≤ z9) && (decide (wy ≠ 0) || (!tl || gs z9)))) (x0 + fr) x1) n2 := by rw [hI, pck_s, if_neg]; intro hh; first | omega | exact absurd hh.2.2 (by rw [show (okc 3 sg_ (fun z9 => decide (1 ≤ z9) && (decide (wy ≠ 0) || (!tl || gs z9)))) (n2 + 1) = false from tN_0 c151]; decide)
            refine lv_iinc (v := (nI (fr + n2))) (lv' := [(9, .int (nI (fr + n2))), (12, .int (nI 0)), (11, .int (nI (cu at_))), (10, .int (nI at_)), (0, .ref hM), (1, .int (nI 3)), (2, .int (nI fr)), (3, .int (nI x0)), (4, .int (nI x1)), (5, .int (nI y0)), (6, .int (nI y1)), (7, .int (nI 0)), (8, .int (nI 96))]) hx hb d_Model_segmentFrom_157 hl (k := 12) rfl (nI_inc _ _ _ (by omega)) (by decide) rfl (fun ls hl => ?_)
            refine lv_goto (tgt := 32) hx hb d_Model_segmentFrom_160 (by decide) ?_
            exact ih32 n2 _ (by omega) hI2 (by omega) (lv_sub hl [4, 5, 6, 7, 8, 9, 10, 11, 12, 0] rfl)
        · refine lv_aload_n hx hb d_Model_segmentFrom_100 rfl (lv_at hl 2 rfl) ?_
          refine va_get (D := G) (ci := 10) (v := .ref (aM 32)) (C := R_Model) (T := F_Model) (N := 47) hx hb hts in_Model hown hK hP 0 rfl rfl 32 (by decide) (hts _ fl_Model_88) (fun _ h9 => h9) rfl d_Model_segmentFrom_101 ?_
          refine lv_iload hx hb d_Model_segmentFrom_104 (lv_at hl 10 rfl) ?_
          refine lv_iload hx hb d_Model_segmentFrom_106 (lv_at hl 11 rfl) ?_
          refine n_iadd hx hb d_Model_segmentFrom_108 ?_
          refine n_iald hx hb hK hP 4 0 rfl rfl (by omega) (by omega) d_Model_segmentFrom_109 ?_
          refine lv_iload hx hb d_Model_segmentFrom_110 (lv_at hl 0 rfl) ?_
          refine n_iadd hx hb d_Model_segmentFrom_112 ?_
          refine lv_aload_n hx hb d_Model_segmentFrom_113 rfl (lv_at hl 2 rfl) ?_
          refine va_get (D := G) (ci := 10) (v := .ref (aM 32)) (C := R_Model) (T := F_Model) (N := 47) hx hb hts in_Model hown hK hP 0 rfl rfl 32 (by decide) (hts _ fl_Model_88) (fun _ h9 => h9) rfl d_Model_segmentFrom_114 ?_
          refine lv_iload hx hb d_Model_segmentFrom_117 (lv_at hl 10 rfl) ?_
          refine lv_iload_n hx hb d_Model_segmentFrom_119 rfl (lv_at hl 4 rfl) ?_
          refine n_iadd hx hb d_Model_segmentFrom_120 ?_
          refine n_iald hx hb hK hP 4 0 rfl rfl (by omega) (by omega) d_Model_segmentFrom_121 ?_
          refine n_icmp_ne (tgt := 129) hx hb (by omega) (by omega) d_Model_segmentFrom_122 (by decide) (fun c122 => ?_) (fun c122 => ?_)
          · refine lv_iconst (v := (nI 0)) hx hb d_Model_segmentFrom_129 (by decide) ?_
            refine lv_istore (lv' := [(12, .int (nI 0)), (11, .int (nI (cu at_))), (10, .int (nI at_)), (0, .ref hM), (1, .int (nI 3)), (2, .int (nI fr)), (3, .int (nI x0)), (4, .int (nI x1)), (5, .int (nI y0)), (6, .int (nI y1)), (7, .int (nI 0)), (8, .int (nI 96)), (9, .int (nI (fr + (n2 + 1))))]) hx hb d_Model_segmentFrom_130 hl (by decide) rfl (fun ls hl => ?_)
            refine lv_iload hx hb d_Model_segmentFrom_132 (lv_at hl 1 rfl) ?_
            refine n_if_le (tgt := 157) hx hb (by omega) d_Model_segmentFrom_134 (by decide) (fun c134 => ?_) (fun c134 => ?_)
            · have hI2 : pcK (fun b9 e9 => mS vu cu b9 e9 y0 y1) (okc 3 sg_ (fun z9 => decide (1 ≤ z9) && (decide (wy ≠ 0) || (!tl || gs z9)))) (x0 + fr) x1 = pck (fun b9 e9 => mS vu cu b9 e9 y0 y1) (okc 3 sg_ (fun z9 => decide (1 ≤ z9) && (decide (wy ≠ 0) || (!tl || gs z9)))) (fun z9 => dpV (fun b9 e9 => mS vu cu b9 e9 y0 y1) (okc 3 sg_ (fun z9 => decide (1 ≤ z9) && (decide (wy ≠ 0) || (!tl || gs z9)))) z9 x1) (x0 + fr) (dpV (fun b9 e9 => mS vu cu b9 e9 y0 y1) (okc 3 sg_ (fun z9 => decide (1 ≤ z9) && (decide (wy ≠ 0) || (!tl || gs z9)))) (x0 + fr) x1) n2 := by rw [hI, pck_s, if_neg]; intro hh; first | omega | exact absurd hh.2.2 (by rw [show (okc 3 sg_ (fun z9 => decide (1 ≤ z9) && (decide (wy ≠ 0) || (!tl || gs z9)))) (n2 + 1) = false from tN_0 c151]; decide)
              refine lv_iinc (v := (nI (fr + n2))) (lv' := [(9, .int (nI (fr + n2))), (12, .int (nI 0)), (11, .int (nI (cu at_))), (10, .int (nI at_)), (0, .ref hM), (1, .int (nI 3)), (2, .int (nI fr)), (3, .int (nI x0)), (4, .int (nI x1)), (5, .int (nI y0)), (6, .int (nI y1)), (7, .int (nI 0)), (8, .int (nI 96))]) hx hb d_Model_segmentFrom_157 hl (k := 12) rfl (nI_inc _ _ _ (by omega)) (by decide) rfl (fun ls hl => ?_)
              refine lv_goto (tgt := 32) hx hb d_Model_segmentFrom_160 (by decide) ?_
              exact ih32 n2 _ (by omega) hI2 (by omega) (lv_sub hl [4, 5, 6, 7, 8, 9, 10, 11, 12, 0] rfl)
            · refine lv_iload hx hb d_Model_segmentFrom_137 (lv_at hl 0 rfl) ?_
              refine n_if_eq (tgt := 157) hx hb (by omega) d_Model_segmentFrom_139 (by decide) (fun c139 => ?_) (fun c139 => absurd c139 (by omega))
              have hI2 : pcK (fun b9 e9 => mS vu cu b9 e9 y0 y1) (okc 3 sg_ (fun z9 => decide (1 ≤ z9) && (decide (wy ≠ 0) || (!tl || gs z9)))) (x0 + fr) x1 = pck (fun b9 e9 => mS vu cu b9 e9 y0 y1) (okc 3 sg_ (fun z9 => decide (1 ≤ z9) && (decide (wy ≠ 0) || (!tl || gs z9)))) (fun z9 => dpV (fun b9 e9 => mS vu cu b9 e9 y0 y1) (okc 3 sg_ (fun z9 => decide (1 ≤ z9) && (decide (wy ≠ 0) || (!tl || gs z9)))) z9 x1) (x0 + fr) (dpV (fun b9 e9 => mS vu cu b9 e9 y0 y1) (okc 3 sg_ (fun z9 => decide (1 ≤ z9) && (decide (wy ≠ 0) || (!tl || gs z9)))) (x0 + fr) x1) n2 := by rw [hI, pck_s, if_neg]; intro hh; first | omega | exact absurd hh.2.2 (by rw [show (okc 3 sg_ (fun z9 => decide (1 ≤ z9) && (decide (wy ≠ 0) || (!tl || gs z9)))) (n2 + 1) = false from tN_0 c151]; decide)
              refine lv_iinc (v := (nI (fr + n2))) (lv' := [(9, .int (nI (fr + n2))), (12, .int (nI 0)), (11, .int (nI (cu at_))), (10, .int (nI at_)), (0, .ref hM), (1, .int (nI 3)), (2, .int (nI fr)), (3, .int (nI x0)), (4, .int (nI x1)), (5, .int (nI y0)), (6, .int (nI y1)), (7, .int (nI 0)), (8, .int (nI 96))]) hx hb d_Model_segmentFrom_157 hl (k := 12) rfl (nI_inc _ _ _ (by omega)) (by decide) rfl (fun ls hl => ?_)
              refine lv_goto (tgt := 32) hx hb d_Model_segmentFrom_160 (by decide) ?_
              exact ih32 n2 _ (by omega) hI2 (by omega) (lv_sub hl [4, 5, 6, 7, 8, 9, 10, 11, 12, 0] rfl)
          · refine lv_iconst (v := (nI 1)) hx hb d_Model_segmentFrom_125 (by decide) ?_
            refine lv_goto (tgt := 130) hx hb d_Model_segmentFrom_126 (by decide) ?_
            refine lv_istore (lv' := [(12, .int (nI 1)), (11, .int (nI (cu at_))), (10, .int (nI at_)), (0, .ref hM), (1, .int (nI 3)), (2, .int (nI fr)), (3, .int (nI x0)), (4, .int (nI x1)), (5, .int (nI y0)), (6, .int (nI y1)), (7, .int (nI 0)), (8, .int (nI 96)), (9, .int (nI (fr + (n2 + 1))))]) hx hb d_Model_segmentFrom_130 hl (by decide) rfl (fun ls hl => ?_)
            refine lv_iload hx hb d_Model_segmentFrom_132 (lv_at hl 1 rfl) ?_
            refine n_if_le (tgt := 157) hx hb (by omega) d_Model_segmentFrom_134 (by decide) (fun c134 => ?_) (fun c134 => ?_)
            · have hI2 : pcK (fun b9 e9 => mS vu cu b9 e9 y0 y1) (okc 3 sg_ (fun z9 => decide (1 ≤ z9) && (decide (wy ≠ 0) || (!tl || gs z9)))) (x0 + fr) x1 = pck (fun b9 e9 => mS vu cu b9 e9 y0 y1) (okc 3 sg_ (fun z9 => decide (1 ≤ z9) && (decide (wy ≠ 0) || (!tl || gs z9)))) (fun z9 => dpV (fun b9 e9 => mS vu cu b9 e9 y0 y1) (okc 3 sg_ (fun z9 => decide (1 ≤ z9) && (decide (wy ≠ 0) || (!tl || gs z9)))) z9 x1) (x0 + fr) (dpV (fun b9 e9 => mS vu cu b9 e9 y0 y1) (okc 3 sg_ (fun z9 => decide (1 ≤ z9) && (decide (wy ≠ 0) || (!tl || gs z9)))) (x0 + fr) x1) n2 := by rw [hI, pck_s, if_neg]; intro hh; first | omega | exact absurd hh.2.2 (by rw [show (okc 3 sg_ (fun z9 => decide (1 ≤ z9) && (decide (wy ≠ 0) || (!tl || gs z9)))) (n2 + 1) = false from tN_0 c151]; decide)
              refine lv_iinc (v := (nI (fr + n2))) (lv' := [(9, .int (nI (fr + n2))), (12, .int (nI 1)), (11, .int (nI (cu at_))), (10, .int (nI at_)), (0, .ref hM), (1, .int (nI 3)), (2, .int (nI fr)), (3, .int (nI x0)), (4, .int (nI x1)), (5, .int (nI y0)), (6, .int (nI y1)), (7, .int (nI 0)), (8, .int (nI 96))]) hx hb d_Model_segmentFrom_157 hl (k := 12) rfl (nI_inc _ _ _ (by omega)) (by decide) rfl (fun ls hl => ?_)
              refine lv_goto (tgt := 32) hx hb d_Model_segmentFrom_160 (by decide) ?_
              exact ih32 n2 _ (by omega) hI2 (by omega) (lv_sub hl [4, 5, 6, 7, 8, 9, 10, 11, 12, 0] rfl)
            · refine lv_iload hx hb d_Model_segmentFrom_137 (lv_at hl 0 rfl) ?_
              refine n_if_eq (tgt := 157) hx hb (by omega) d_Model_segmentFrom_139 (by decide) (fun c139 => absurd c139 (by omega)) (fun c139 => ?_)
              refine lv_aload_n hx hb d_Model_segmentFrom_142 rfl (lv_at hl 3 rfl) ?_
              refine lv_iload_n hx hb d_Model_segmentFrom_143 rfl (lv_at hl 4 rfl) ?_
              refine lv_iload hx hb d_Model_segmentFrom_144 (lv_at hl 12 rfl) ?_
              refine lv_iload_n hx hb d_Model_segmentFrom_146 rfl (lv_at hl 5 rfl) ?_
              refine n_isub hx hb (by omega) d_Model_segmentFrom_147 ?_
              refine top_i (show (nI ((fr + (n2 + 1)) - fr)) = (nI (n2 + 1)) from congrArg nI (by omega)) ?_
              refine vp_callSi (W.runV (As := [.int (nI 3), .int (nI (n2 + 1))]) (rest := []) ⟨hx, hb, hml, hown, hts⟩ (c_Model_isCut l G ty hM cd st al ac nf ns 0 mg bw md wy sg_ sz_ ks bd aM 3 (n2 + 1) gs tl (by omega) (by omega) (by omega) (by omega) (by omega)) ⟨callB_of 2 hts (gd_TB cd_Model_isCut) rfl rfl rfl (hts _ ini_Model) (hts _ lk_Model_207) hd_Model_isCut ⟨Nat.le_of_ble_eq_true rfl, Nat.le_of_ble_eq_true rfl⟩, hts _ im_Model_isCut, hts _ sl_Model_isCut⟩ (preV_ro (hP.sub (ws' := [(hM, .inr (10, mO cd st al ac nf ns tl.toNat mg bw md wy sg_ sz_ ks bd aM)), (aM 20, .inl (ty 2, 65537, .inl (bF gs)))]) [0, 5] rfl) hX 0 rfl rfl) rfl rfl hl.1 rfl (lv_room (Nat.le_of_ble_eq_true rfl)) d_Model_segmentFrom_148 ⟨Nat.le_of_ble_eq_true rfl, Nat.le_of_ble_eq_true rfl⟩) (fun r9 er9 => ?_)
              subst er9
              refine n_if_eq (tgt := 157) hx hb (tN_lt _) d_Model_segmentFrom_151 (by decide) (fun c151 => ?_) (fun c151 => ?_)
              · have hI2 : pcK (fun b9 e9 => mS vu cu b9 e9 y0 y1) (okc 3 sg_ (fun z9 => decide (1 ≤ z9) && (decide (wy ≠ 0) || (!tl || gs z9)))) (x0 + fr) x1 = pck (fun b9 e9 => mS vu cu b9 e9 y0 y1) (okc 3 sg_ (fun z9 => decide (1 ≤ z9) && (decide (wy ≠ 0) || (!tl || gs z9)))) (fun z9 => dpV (fun b9 e9 => mS vu cu b9 e9 y0 y1) (okc 3 sg_ (fun z9 => decide (1 ≤ z9) && (decide (wy ≠ 0) || (!tl || gs z9)))) z9 x1) (x0 + fr) (dpV (fun b9 e9 => mS vu cu b9 e9 y0 y1) (okc 3 sg_ (fun z9 => decide (1 ≤ z9) && (decide (wy ≠ 0) || (!tl || gs z9)))) (x0 + fr) x1) n2 := by rw [hI, pck_s, if_neg]; intro hh; first | omega | exact absurd hh.2.2 (by rw [show (okc 3 sg_ (fun z9 => decide (1 ≤ z9) && (decide (wy ≠ 0) || (!tl || gs z9)))) (n2 + 1) = false from tN_0 c151]; decide)
                refine lv_iinc (v := (nI (fr + n2))) (lv' := [(9, .int (nI (fr + n2))), (12, .int (nI 1)), (11, .int (nI (cu at_))), (10, .int (nI at_)), (0, .ref hM), (1, .int (nI 3)), (2, .int (nI fr)), (3, .int (nI x0)), (4, .int (nI x1)), (5, .int (nI y0)), (6, .int (nI y1)), (7, .int (nI 0)), (8, .int (nI 96))]) hx hb d_Model_segmentFrom_157 hl (k := 12) rfl (nI_inc _ _ _ (by omega)) (by decide) rfl (fun ls hl => ?_)
                refine lv_goto (tgt := 32) hx hb d_Model_segmentFrom_160 (by decide) ?_
                exact ih32 n2 _ (by omega) hI2 (by omega) (lv_sub hl [4, 5, 6, 7, 8, 9, 10, 11, 12, 0] rfl)
              · refine lv_iload hx hb d_Model_segmentFrom_154 (lv_at hl 12 rfl) ?_
                exact W.iret (v := (nI (fr + (n2 + 1)))) hx hb hr (fun t9 ht _ => ⟨_, rfl, by rw [hI, pck_s, if_pos ⟨by omega, by omega, tN_1 c151⟩]; unfold pkQ; rw [if_neg (by omega), nI_iI]; congr 1; omega, ht⟩) (fun q h => by cases h) d_Model_segmentFrom_156
  exact L32 ((x1 - x0 - fr) + 1) (x1 - x0 - fr) _ (by omega) (by unfold pcK; rw [show x1 - (x0 + fr) = x1 - x0 - fr by omega]) (Nat.lt_succ_self _) (lv_sub hl [3, 4, 5, 6, 7, 8, 9, 2, 1, 0] rfl)
