theorem fl_Model_13 : Cond.fieldLink R_Model 13 "FaultRipsModel" "kinds" "[I" ∈ TB := mem_TB 858 (by decide +kernel) (by decide +kernel)
theorem fl_Model_149 : Cond.fieldLink R_Model 149 "FaultRipsModel" "faults" "I" ∈ TB := mem_TB 856 (by decide +kernel) (by decide +kernel)
theorem fl_Model_28 : Cond.fieldLink R_Model 28 "FaultRipsModel" "widths" "[I" ∈ TB := mem_TB 864 (by decide +kernel) (by decide +kernel)
theorem fl_Model_31 : Cond.fieldLink R_Model 31 "FaultRipsModel" "lows" "[I" ∈ TB := mem_TB 865 (by decide +kernel) (by decide +kernel)
theorem fl_Model_34 : Cond.fieldLink R_Model 34 "FaultRipsModel" "highs" "[I" ∈ TB := mem_TB 866 (by decide +kernel) (by decide +kernel)
theorem fl_Model_41 : Cond.fieldLink R_Model 41 "FaultRipsModel" "allowed" "[Z" ∈ TB := mem_TB 868 (by decide +kernel) (by decide +kernel)
theorem fl_Model_59 : Cond.fieldLink R_Model 59 "FaultRipsModel" "bow" "I" ∈ TB := mem_TB 875 (by decide +kernel) (by decide +kernel)
theorem fl_Model_7 : Cond.fieldLink R_Model 7 "FaultRipsModel" "faces" "[I" ∈ TB := mem_TB 857 (by decide +kernel) (by decide +kernel)
theorem lk_Model_178 : Cond.methodLink R_Model 178 y_Model_isOver ∈ TB := mem_TB 1071 (by decide +kernel) (by decide +kernel)

theorem nar_tN (b : Bool) : narrow .boolean (.int (nI b.toNat)) = .int (nI b.toNat) := by cases b <;> decide +kernel
theorem fit_tN (b : Bool) : fits .boolean (.int (nI b.toNat)) = true := by cases b <;> decide +kernel
def allB (P : Nat → Bool) : Nat → Bool
  | 0 => true
  | n + 1 => allB P n && P n
theorem allB_s (P : Nat → Bool) (n : Nat) : allB P (n + 1) = (allB P n && P n) := rfl
theorem allB_f {P : Nat → Bool} {i n : Nat} (h : i ≤ n) (hf : allB P i = false) : allB P n = false := by
  induction n with
  | zero => rw [show i = 0 from by omega] at hf; exact hf
  | succ n ih =>
    rcases Nat.lt_or_ge i (n + 1) with q | q
    · rw [allB_s, ih (by omega)]; rfl
    · rw [show i = n + 1 from by omega] at hf; exact hf
theorem allB_iff {P : Nat → Bool} : ∀ n : Nat, allB P n = true ↔ ∀ i, i < n → P i = true := by
  intro n
  induction n with
  | zero => exact ⟨fun _ i h => absurd h (by omega), fun _ => rfl⟩
  | succ n ih =>
    rw [allB_s, Bool.and_eq_true, ih]
    exact ⟨fun h i hi => (Nat.lt_or_ge i n).elim (h.1 i) (fun q => by rw [show i = n from by omega]; exact h.2), fun h => ⟨fun i hi => h i (by omega), h n (by omega)⟩⟩
/-- fault f does not hinder sort j in the rectangle -/
def mP (ag : Nat → Bool) (fd : Nat → Nat → Int) (mg st x mm y d j : Nat) (f : Nat) : Bool := ag (((((16 * j : Nat) : Int) + ((8 : Nat) : Int) * col fd 0 f) + col fd 1 f).toNat) || !(fM fd mg 1 (x * st) ((x + mm) * st) f && fM fd mg 0 (y * st) ((y + d) * st) f)
/-- sort j may be the rectangle -/
def mB (ag : Nat → Bool) (fd : Nat → Nat → Int) (mg st bw nf : Nat) (sw lo hi : Nat → Nat) (x mm y d j : Nat) : Bool := decide (d = sw j ∧ lo j ≤ mm * st ∧ mm * st ≤ hi j ∧ mm * st ≤ bw) && allB (mP ag fd mg st x mm y d j) nf

abbrev q_Model_may (G : va_G) (ty : Nat → ClassId) (hM : Nat) (cd : Nat) (st : Nat) (al : Nat) (ac : Nat) (nf : Nat) (ns : Nat) (gg : Nat) (mg : Nat) (bw : Nat) (md : Nat) (wy : Nat) (sg_ : Nat) (sz_ : Nat) (ks : Nat) (bd : Int) (aM : Nat → Nat) (j : Nat) (x : Nat) (mm : Nat) (y : Nat) (d : Nat) (fd : Nat → Nat → Int) (sw : Nat → Nat) (lo : Nat → Nat) (hi : Nat → Nat) (ag : Nat → Bool) : Array Value → State → Outcome → State → Prop := vp_Si (fun r : Int32 => r = (nI ((mB ag fd mg st bw nf sw lo hi x mm y d j).toNat)))
set_option maxRecDepth 100000 in
set_option maxHeartbeats 4000000 in
theorem c_Model_may (l : Launch) (G : va_G) (ty : Nat → ClassId) (hM : Nat) (cd : Nat) (st : Nat) (al : Nat) (ac : Nat) (nf : Nat) (ns : Nat) (gg : Nat) (mg : Nat) (bw : Nat) (md : Nat) (wy : Nat) (sg_ : Nat) (sz_ : Nat) (ks : Nat) (bd : Int) (aM : Nat → Nat) (j : Nat) (x : Nat) (mm : Nat) (y : Nat) (d : Nat) (fd : Nat → Nat → Int) (sw : Nat → Nat) (lo : Nat → Nat) (hi : Nat → Nat) (ag : Nat → Bool) (gF : FOK nf fd) (g2 : 1 ≤ st ∧ st ≤ 65536) (g7 : mg ≤ 65536) (gS : ∀ j, j < ns → sw j ≤ 65536 ∧ lo j ≤ 65536 ∧ hi j ≤ 65536) (g8 : ns ≤ 8) (gw : bw ≤ 16777216) (gj : j < ns) (k1 : 1 ≤ d) (k2 : y + d ≤ 10) (k3 : 1 ≤ mm) (k4 : x + mm ≤ 24) : Met l y_Model_may ws_Model_may { frames := 1, cells := 0, slots := 0, locals := 27 } (va_Pc [.ref hM, .int (nI j), .int (nI x), .int (nI (x + mm)), .int (nI y), .int (nI (y + d))] (fun U => va_P G vwCl [(hM, .inr (10, mO cd st al ac nf ns gg mg bw md wy sg_ sz_ ks bd aM)), (aM 7, .inl (ty 0, 20, .inl (zF (col fd 2)))), (aM 8, .inl (ty 0, 20, .inl (zF (col fd 3)))), (aM 9, .inl (ty 0, 20, .inl (zF (col fd 4)))), (aM 10, .inl (ty 0, 20, .inl (zF (col fd 5)))), (aM 5, .inl (ty 0, 20, .inl (zF (col fd 0)))), (aM 6, .inl (ty 0, 20, .inl (zF (col fd 1)))), (aM 12, .inl (ty 0, 8, .inl (nF sw))), (aM 13, .inl (ty 0, 8, .inl (nF lo))), (aM 14, .inl (ty 0, 8, .inl (nF hi))), (aM 16, .inl (ty 2, 128, .inl (bF ag)))] U.heap ∧ KX G ty U)) (q_Model_may G ty hM cd st al ac nf ns gg mg bw md wy sg_ sz_ ks bd aM j x mm y d fd sw lo hi ag) 0 0 (fun _ => False) := by
  refine met_ro R_Model (by decide) rfl rfl (Nat.le_of_ble_eq_true rfl) ?_
  intro p e s m below meth c ls hx hb hr hml hown hts hlocks hP hX hl
  have hK := hX.1
  have hl : lv_has ls 9 [(0, .ref hM), (1, .int (nI j)), (2, .int (nI x)), (3, .int (nI (x + mm))), (4, .int (nI y)), (5, .int (nI (y + d)))] := hl
  have hn := gF.1
  have hS := gS j gj
  have b0 := Nat.mul_le_mul (show mm ≤ 24 by omega) g2.2
  refine lv_iload_n hx hb d_Model_may_0 rfl (lv_at hl 3 rfl) ?_
  refine lv_iload_n hx hb d_Model_may_1 rfl (lv_at hl 2 rfl) ?_
  refine n_isub hx hb (by omega) d_Model_may_2 ?_
  refine top_i (show (nI ((x + mm) - x)) = (nI mm) from congrArg nI (by omega)) ?_
  refine lv_aload_n hx hb d_Model_may_3 rfl (lv_at hl 0 rfl) ?_
  refine va_get (D := G) (ci := 10) (v := .int (nI st)) (C := R_Model) (T := F_Model) (N := 47) hx hb hts in_Model hown hK hP 0 rfl rfl 1 (by decide) (hts _ fl_Model_122) (fun _ h9 => h9) rfl d_Model_may_4 ?_
  refine n_imul hx hb d_Model_may_7 ?_
  refine lv_istore (lv' := [(6, .int (nI (mm * st))), (0, .ref hM), (1, .int (nI j)), (2, .int (nI x)), (3, .int (nI (x + mm))), (4, .int (nI y)), (5, .int (nI (y + d)))]) hx hb d_Model_may_8 hl (by decide) rfl (fun ls hl => ?_)
  refine lv_iload hx hb d_Model_may_10 (lv_at hl 6 rfl) ?_
  refine lv_iload hx hb d_Model_may_12 (lv_at hl 5 rfl) ?_
  refine n_isub hx hb (by omega) d_Model_may_14 ?_
  refine top_i (show (nI ((y + d) - y)) = (nI d) from congrArg nI (by omega)) ?_
  refine lv_aload_n hx hb d_Model_may_15 rfl (lv_at hl 1 rfl) ?_
  refine va_get (D := G) (ci := 10) (v := .ref (aM 12)) (C := R_Model) (T := F_Model) (N := 47) hx hb hts in_Model hown hK hP 0 rfl rfl 12 (by decide) (hts _ fl_Model_28) (fun _ h9 => h9) rfl d_Model_may_16 ?_
  refine lv_iload_n hx hb d_Model_may_19 rfl (lv_at hl 2 rfl) ?_
  refine n_iald hx hb hK hP 7 0 rfl rfl (by omega) (by omega) d_Model_may_20 ?_
  refine n_icmp_ne (tgt := 59) hx hb (by omega) (by omega) d_Model_may_21 (by decide) (fun c21 => ?_) (fun c21 => ?_)
  · refine lv_iconst (v := (nI 0)) hx hb d_Model_may_59 (by decide) ?_
    refine top_i (show (nI 0) = nI (decide (d = sw j ∧ lo j ≤ mm * st ∧ mm * st ≤ hi j ∧ mm * st ≤ bw) && allB (mP ag fd mg st x mm y d j) 0).toNat from congrArg nI (by rw [decide_eq_false (by omega)]; rfl)) ?_
    refine lv_istore (lv' := [(7, .int (nI ((decide (d = sw j ∧ lo j ≤ mm * st ∧ mm * st ≤ hi j ∧ mm * st ≤ bw) && allB (mP ag fd mg st x mm y d j) 0).toNat))), (6, .int (nI (mm * st))), (0, .ref hM), (1, .int (nI j)), (2, .int (nI x)), (3, .int (nI (x + mm))), (4, .int (nI y)), (5, .int (nI (y + d)))]) hx hb d_Model_may_60 hl (by decide) rfl (fun ls hl => ?_)
    refine lv_iconst (v := (nI 0)) hx hb d_Model_may_62 (by decide) ?_
    refine lv_istore (lv' := [(8, .int (nI 0)), (7, .int (nI ((decide (d = sw j ∧ lo j ≤ mm * st ∧ mm * st ≤ hi j ∧ mm * st ≤ bw) && allB (mP ag fd mg st x mm y d j) 0).toNat))), (6, .int (nI (mm * st))), (0, .ref hM), (1, .int (nI j)), (2, .int (nI x)), (3, .int (nI (x + mm))), (4, .int (nI y)), (5, .int (nI (y + d)))]) hx hb d_Model_may_63 hl (by decide) rfl (fun ls hl => ?_)
    have L65 : ∀ (k9 : Nat) (i : Nat) (ls : Array Slot), (i ≤ nf) → nf - i < k9 → lv_has ls 9 [(0, .ref hM), (1, .int (nI j)), (2, .int (nI x)), (3, .int (nI (x + mm))), (4, .int (nI y)), (5, .int (nI (y + d))), (7, .int (nI ((decide (d = sw j ∧ lo j ≤ mm * st ∧ mm * st ≤ hi j ∧ mm * st ≤ bw) && allB (mP ag fd mg st x mm y d j) i).toNat))), (8, .int (nI i))] → W p l e { frames := 1, cells := 0, slots := 0, locals := 27 } s m [.ref hM, .int (nI j), .int (nI x), .int (nI (x + mm)), .int (nI y), .int (nI (y + d))].toArray below meth c s.heap [] 0 0 (MQ below (q_Model_may G ty hM cd st al ac nf ns gg mg bw md wy sg_ sz_ ks bd aM j x mm y d fd sw lo hi ag) [.ref hM, .int (nI j), .int (nI x), .int (nI (x + mm)), .int (nI y), .int (nI (y + d))].toArray s 0 0 (fun _ => False)) (F0 m 65 ls []) := by
      intro k9
      induction k9 with
      | zero => intro i ls hi1 hk9; exact absurd hk9 (Nat.not_lt_zero _)
      | succ k9 ih65 =>
        intro i ls hi1 hk9 hl
        refine lv_iload hx hb d_Model_may_65 (lv_at hl 7 rfl) ?_
        refine lv_aload_n hx hb d_Model_may_67 rfl (lv_at hl 0 rfl) ?_
        refine va_get (D := G) (ci := 10) (v := .int (nI nf)) (C := R_Model) (T := F_Model) (N := 47) hx hb hts in_Model hown hK hP 0 rfl rfl 4 (by decide) (hts _ fl_Model_149) (fun _ h9 => h9) rfl d_Model_may_68 ?_
        refine n_icmp_ge (tgt := 138) hx hb (by omega) (by omega) d_Model_may_71 (by decide) (fun c71 => ?_) (fun c71 => ?_)
        · refine lv_iload hx hb d_Model_may_138 (lv_at hl 6 rfl) ?_
          exact W.zret (v := (nI ((decide (d = sw j ∧ lo j ≤ mm * st ∧ mm * st ≤ hi j ∧ mm * st ≤ bw) && allB (mP ag fd mg st x mm y d j) i).toNat))) hx hb hr (nar_tN _) (fun t9 ht _ => ⟨_, rfl, congrArg nI (by unfold mB; first | (rw [show i = nf from by omega]) | (have hh := tN_0 c76; rw [hh]; rcases Bool.and_eq_false_iff.mp hh with q | q; exact (by rw [q]; rfl); exact (by rw [allB_f hi1 q, Bool.and_false]))), ht⟩) (fun q h => by cases h) d_Model_may_140
        · refine lv_iload hx hb d_Model_may_74 (lv_at hl 6 rfl) ?_
          refine n_if_eq (tgt := 138) hx hb (tN_lt _) d_Model_may_76 (by decide) (fun c76 => ?_) (fun c76 => ?_)
          · refine lv_iload hx hb d_Model_may_138 (lv_at hl 6 rfl) ?_
            exact W.zret (v := (nI ((decide (d = sw j ∧ lo j ≤ mm * st ∧ mm * st ≤ hi j ∧ mm * st ≤ bw) && allB (mP ag fd mg st x mm y d j) i).toNat))) hx hb hr (nar_tN _) (fun t9 ht _ => ⟨_, rfl, congrArg nI (by unfold mB; first | (rw [show i = nf from by omega]) | (have hh := tN_0 c76; rw [hh]; rcases Bool.and_eq_false_iff.mp hh with q | q; exact (by rw [q]; rfl); exact (by rw [allB_f hi1 q, Bool.and_false]))), ht⟩) (fun q h => by cases h) d_Model_may_140
          · have hF : (0 ≤ col fd 0 i ∧ col fd 0 i ≤ 1) ∧ (0 ≤ col fd 1 i ∧ col fd 1 i ≤ 7) := ⟨(gF.2 i (by omega)).1, (gF.2 i (by omega)).2.1⟩
            refine lv_aload_n hx hb d_Model_may_79 rfl (lv_at hl 0 rfl) ?_
            refine va_get (D := G) (ci := 10) (v := .ref (aM 16)) (C := R_Model) (T := F_Model) (N := 47) hx hb hts in_Model hown hK hP 0 rfl rfl 16 (by decide) (hts _ fl_Model_41) (fun _ h9 => h9) rfl d_Model_may_80 ?_
            refine lv_bipush (v := (nI 16)) hx hb d_Model_may_83 (by decide) ?_
            refine lv_iload_n hx hb d_Model_may_85 rfl (lv_at hl 1 rfl) ?_
            refine n_imul hx hb d_Model_may_86 ?_
            refine lv_bipush (v := (nI 8)) hx hb d_Model_may_87 (by decide) ?_
            refine lv_aload_n hx hb d_Model_may_89 rfl (lv_at hl 0 rfl) ?_
            refine va_get (D := G) (ci := 10) (v := .ref (aM 5)) (C := R_Model) (T := F_Model) (N := 47) hx hb hts in_Model hown hK hP 0 rfl rfl 5 (by decide) (hts _ fl_Model_7) (fun _ h9 => h9) rfl d_Model_may_90 ?_
            refine lv_iload hx hb d_Model_may_93 (lv_at hl 7 rfl) ?_
            refine n_iald hx hb hK hP 5 0 rfl rfl (by omega) (by omega) d_Model_may_95 ?_
            refine nz_imul hx hb d_Model_may_96 ?_
            refine nz_iadd hx hb d_Model_may_97 ?_
            refine lv_aload_n hx hb d_Model_may_98 rfl (lv_at hl 0 rfl) ?_
            refine va_get (D := G) (ci := 10) (v := .ref (aM 6)) (C := R_Model) (T := F_Model) (N := 47) hx hb hts in_Model hown hK hP 0 rfl rfl 6 (by decide) (hts _ fl_Model_13) (fun _ h9 => h9) rfl d_Model_may_99 ?_
            refine lv_iload hx hb d_Model_may_102 (lv_at hl 7 rfl) ?_
            refine n_iald hx hb hK hP 6 0 rfl rfl (by omega) (by omega) d_Model_may_104 ?_
            refine z_iadd hx hb d_Model_may_105 ?_
            refine top_i (show (iI ((((16 * j : Nat) : Int) + (((8 : Nat) : Int) * ((col fd 0) i))) + ((col fd 1) i))) = (nI (((((16 * j : Nat) : Int) + ((8 : Nat) : Int) * col fd 0 i) + col fd 1 i).toNat)) from iI_nI (by omega)) ?_
            refine n_zald hx hb hK hP 10 2 rfl rfl (by omega) (by omega) d_Model_may_106 ?_
            refine n_if_ne (tgt := 125) hx hb (tN_lt _) d_Model_may_107 (by decide) (fun c107 => ?_) (fun c107 => ?_)
            · refine lv_iconst (v := (nI 1)) hx hb d_Model_may_125 (by decide) ?_
              refine lv_goto (tgt := 130) hx hb d_Model_may_126 (by decide) ?_
              refine top_i (show (nI 1) = nI (decide (d = sw j ∧ lo j ≤ mm * st ∧ mm * st ≤ hi j ∧ mm * st ≤ bw) && allB (mP ag fd mg st x mm y d j) (i + 1)).toNat from congrArg nI (by have hh := tN_1 c76; rw [allB_s, ← Bool.and_assoc, hh, Bool.true_and]; unfold mP; first | (rw [tN_1 c107]; rfl) | (rw [tN_0 c107, tN_0 c122]; rfl) | (rw [tN_0 c107, tN_1 c122]; rfl))) ?_
              refine lv_istore (lv' := [(7, .int (nI ((decide (d = sw j ∧ lo j ≤ mm * st ∧ mm * st ≤ hi j ∧ mm * st ≤ bw) && allB (mP ag fd mg st x mm y d j) (i + 1)).toNat))), (0, .ref hM), (1, .int (nI j)), (2, .int (nI x)), (3, .int (nI (x + mm))), (4, .int (nI y)), (5, .int (nI (y + d))), (8, .int (nI i))]) hx hb d_Model_may_130 hl (by decide) rfl (fun ls hl => ?_)
              refine lv_iinc (v := (nI (i + 1))) (lv' := [(8, .int (nI (i + 1))), (7, .int (nI ((decide (d = sw j ∧ lo j ≤ mm * st ∧ mm * st ≤ hi j ∧ mm * st ≤ bw) && allB (mP ag fd mg st x mm y d j) (i + 1)).toNat))), (0, .ref hM), (1, .int (nI j)), (2, .int (nI x)), (3, .int (nI (x + mm))), (4, .int (nI y)), (5, .int (nI (y + d)))]) hx hb d_Model_may_132 hl (k := 7) rfl (nI_inc _ _ _ (by omega)) (by decide) rfl (fun ls hl => ?_)
              refine lv_goto (tgt := 65) hx hb d_Model_may_135 (by decide) ?_
              exact ih65 (i + 1) _ (by omega) (by omega) (lv_sub hl [2, 3, 4, 5, 6, 7, 1, 0] rfl)
            · refine lv_aload_n hx hb d_Model_may_110 rfl (lv_at hl 0 rfl) ?_
              refine lv_iload hx hb d_Model_may_111 (lv_at hl 7 rfl) ?_
              refine lv_iload_n hx hb d_Model_may_113 rfl (lv_at hl 2 rfl) ?_
              refine lv_iload_n hx hb d_Model_may_114 rfl (lv_at hl 3 rfl) ?_
              refine lv_iload hx hb d_Model_may_115 (lv_at hl 4 rfl) ?_
              refine lv_iload hx hb d_Model_may_117 (lv_at hl 5 rfl) ?_
              refine vp_callSi (W.runV (As := [.int (nI i), .int (nI x), .int (nI (x + mm)), .int (nI y), .int (nI (y + d))]) (rest := []) ⟨hx, hb, hml, hown, hts⟩ (c_Model_isOver l G ty hM cd st al ac nf ns gg mg bw md wy sg_ sz_ ks bd aM i x (x + mm) y (y + d) fd (by omega) gF (by omega) (by omega) (by omega) (by omega) (by omega) (by omega)) ⟨callB_of 5 hts (gd_TB cd_Model_isOver) rfl rfl rfl (hts _ ini_Model) (hts _ lk_Model_178) hd_Model_isOver ⟨Nat.le_of_ble_eq_true rfl, Nat.le_of_ble_eq_true rfl⟩, hts _ im_Model_isOver, hts _ sl_Model_isOver⟩ (preV_ro (hP.sub (ws' := [(hM, .inr (10, mO cd st al ac nf ns gg mg bw md wy sg_ sz_ ks bd aM)), (aM 7, .inl (ty 0, 20, .inl (zF (col fd 2)))), (aM 8, .inl (ty 0, 20, .inl (zF (col fd 3)))), (aM 9, .inl (ty 0, 20, .inl (zF (col fd 4)))), (aM 10, .inl (ty 0, 20, .inl (zF (col fd 5))))]) [0, 1, 2, 3, 4] rfl) hX 0 rfl rfl) rfl rfl hl.1 rfl (lv_room (Nat.le_of_ble_eq_true rfl)) d_Model_may_119 ⟨Nat.le_of_ble_eq_true rfl, Nat.le_of_ble_eq_true rfl⟩) (fun r9 er9 => ?_)
              subst er9
              refine n_if_ne (tgt := 129) hx hb (tN_lt _) d_Model_may_122 (by decide) (fun c122 => ?_) (fun c122 => ?_)
              · refine lv_iconst (v := (nI 0)) hx hb d_Model_may_129 (by decide) ?_
                refine top_i (show (nI 0) = nI (decide (d = sw j ∧ lo j ≤ mm * st ∧ mm * st ≤ hi j ∧ mm * st ≤ bw) && allB (mP ag fd mg st x mm y d j) (i + 1)).toNat from congrArg nI (by have hh := tN_1 c76; rw [allB_s, ← Bool.and_assoc, hh, Bool.true_and]; unfold mP; first | (rw [tN_1 c107]; rfl) | (rw [tN_0 c107, tN_0 c122]; rfl) | (rw [tN_0 c107, tN_1 c122]; rfl))) ?_
                refine lv_istore (lv' := [(7, .int (nI ((decide (d = sw j ∧ lo j ≤ mm * st ∧ mm * st ≤ hi j ∧ mm * st ≤ bw) && allB (mP ag fd mg st x mm y d j) (i + 1)).toNat))), (0, .ref hM), (1, .int (nI j)), (2, .int (nI x)), (3, .int (nI (x + mm))), (4, .int (nI y)), (5, .int (nI (y + d))), (8, .int (nI i))]) hx hb d_Model_may_130 hl (by decide) rfl (fun ls hl => ?_)
                refine lv_iinc (v := (nI (i + 1))) (lv' := [(8, .int (nI (i + 1))), (7, .int (nI ((decide (d = sw j ∧ lo j ≤ mm * st ∧ mm * st ≤ hi j ∧ mm * st ≤ bw) && allB (mP ag fd mg st x mm y d j) (i + 1)).toNat))), (0, .ref hM), (1, .int (nI j)), (2, .int (nI x)), (3, .int (nI (x + mm))), (4, .int (nI y)), (5, .int (nI (y + d)))]) hx hb d_Model_may_132 hl (k := 7) rfl (nI_inc _ _ _ (by omega)) (by decide) rfl (fun ls hl => ?_)
                refine lv_goto (tgt := 65) hx hb d_Model_may_135 (by decide) ?_
                exact ih65 (i + 1) _ (by omega) (by omega) (lv_sub hl [2, 3, 4, 5, 6, 7, 1, 0] rfl)
              · refine lv_iconst (v := (nI 1)) hx hb d_Model_may_125 (by decide) ?_
                refine lv_goto (tgt := 130) hx hb d_Model_may_126 (by decide) ?_
                refine top_i (show (nI 1) = nI (decide (d = sw j ∧ lo j ≤ mm * st ∧ mm * st ≤ hi j ∧ mm * st ≤ bw) && allB (mP ag fd mg st x mm y d j) (i + 1)).toNat from congrArg nI (by have hh := tN_1 c76; rw [allB_s, ← Bool.and_assoc, hh, Bool.true_and]; unfold mP; first | (rw [tN_1 c107]; rfl) | (rw [tN_0 c107, tN_0 c122]; rfl) | (rw [tN_0 c107, tN_1 c122]; rfl))) ?_
                refine lv_istore (lv' := [(7, .int (nI ((decide (d = sw j ∧ lo j ≤ mm * st ∧ mm * st ≤ hi j ∧ mm * st ≤ bw) && allB (mP ag fd mg st x mm y d j) (i + 1)).toNat))), (0, .ref hM), (1, .int (nI j)), (2, .int (nI x)), (3, .int (nI (x + mm))), (4, .int (nI y)), (5, .int (nI (y + d))), (8, .int (nI i))]) hx hb d_Model_may_130 hl (by decide) rfl (fun ls hl => ?_)
                refine lv_iinc (v := (nI (i + 1))) (lv' := [(8, .int (nI (i + 1))), (7, .int (nI ((decide (d = sw j ∧ lo j ≤ mm * st ∧ mm * st ≤ hi j ∧ mm * st ≤ bw) && allB (mP ag fd mg st x mm y d j) (i + 1)).toNat))), (0, .ref hM), (1, .int (nI j)), (2, .int (nI x)), (3, .int (nI (x + mm))), (4, .int (nI y)), (5, .int (nI (y + d)))]) hx hb d_Model_may_132 hl (k := 7) rfl (nI_inc _ _ _ (by omega)) (by decide) rfl (fun ls hl => ?_)
                refine lv_goto (tgt := 65) hx hb d_Model_may_135 (by decide) ?_
                exact ih65 (i + 1) _ (by omega) (by omega) (lv_sub hl [2, 3, 4, 5, 6, 7, 1, 0] rfl)
    exact L65 (nf - 0 + 1) 0 _ (Nat.zero_le _) (Nat.lt_succ_self _) (lv_sub hl [3, 4, 5, 6, 7, 8, 1, 0] rfl)
  · refine lv_iload hx hb d_Model_may_24 (lv_at hl 0 rfl) ?_
    refine lv_aload_n hx hb d_Model_may_26 rfl (lv_at hl 1 rfl) ?_
    refine va_get (D := G) (ci := 10) (v := .ref (aM 13)) (C := R_Model) (T := F_Model) (N := 47) hx hb hts in_Model hown hK hP 0 rfl rfl 13 (by decide) (hts _ fl_Model_31) (fun _ h9 => h9) rfl d_Model_may_27 ?_
    refine lv_iload_n hx hb d_Model_may_30 rfl (lv_at hl 2 rfl) ?_
    refine n_iald hx hb hK hP 8 0 rfl rfl (by omega) (by omega) d_Model_may_31 ?_
    refine n_icmp_lt (tgt := 59) hx hb (by omega) (by omega) d_Model_may_32 (by decide) (fun c32 => ?_) (fun c32 => ?_)
    · refine lv_iconst (v := (nI 0)) hx hb d_Model_may_59 (by decide) ?_
      refine top_i (show (nI 0) = nI (decide (d = sw j ∧ lo j ≤ mm * st ∧ mm * st ≤ hi j ∧ mm * st ≤ bw) && allB (mP ag fd mg st x mm y d j) 0).toNat from congrArg nI (by rw [decide_eq_false (by omega)]; rfl)) ?_
      refine lv_istore (lv' := [(7, .int (nI ((decide (d = sw j ∧ lo j ≤ mm * st ∧ mm * st ≤ hi j ∧ mm * st ≤ bw) && allB (mP ag fd mg st x mm y d j) 0).toNat))), (6, .int (nI (mm * st))), (0, .ref hM), (1, .int (nI j)), (2, .int (nI x)), (3, .int (nI (x + mm))), (4, .int (nI y)), (5, .int (nI (y + d)))]) hx hb d_Model_may_60 hl (by decide) rfl (fun ls hl => ?_)
      refine lv_iconst (v := (nI 0)) hx hb d_Model_may_62 (by decide) ?_
      refine lv_istore (lv' := [(8, .int (nI 0)), (7, .int (nI ((decide (d = sw j ∧ lo j ≤ mm * st ∧ mm * st ≤ hi j ∧ mm * st ≤ bw) && allB (mP ag fd mg st x mm y d j) 0).toNat))), (6, .int (nI (mm * st))), (0, .ref hM), (1, .int (nI j)), (2, .int (nI x)), (3, .int (nI (x + mm))), (4, .int (nI y)), (5, .int (nI (y + d)))]) hx hb d_Model_may_63 hl (by decide) rfl (fun ls hl => ?_)
      have L65 : ∀ (k9 : Nat) (i : Nat) (ls : Array Slot), (i ≤ nf) → nf - i < k9 → lv_has ls 9 [(0, .ref hM), (1, .int (nI j)), (2, .int (nI x)), (3, .int (nI (x + mm))), (4, .int (nI y)), (5, .int (nI (y + d))), (7, .int (nI ((decide (d = sw j ∧ lo j ≤ mm * st ∧ mm * st ≤ hi j ∧ mm * st ≤ bw) && allB (mP ag fd mg st x mm y d j) i).toNat))), (8, .int (nI i))] → W p l e { frames := 1, cells := 0, slots := 0, locals := 27 } s m [.ref hM, .int (nI j), .int (nI x), .int (nI (x + mm)), .int (nI y), .int (nI (y + d))].toArray below meth c s.heap [] 0 0 (MQ below (q_Model_may G ty hM cd st al ac nf ns gg mg bw md wy sg_ sz_ ks bd aM j x mm y d fd sw lo hi ag) [.ref hM, .int (nI j), .int (nI x), .int (nI (x + mm)), .int (nI y), .int (nI (y + d))].toArray s 0 0 (fun _ => False)) (F0 m 65 ls []) := by
        intro k9
        induction k9 with
        | zero => intro i ls hi1 hk9; exact absurd hk9 (Nat.not_lt_zero _)
        | succ k9 ih65 =>
          intro i ls hi1 hk9 hl
          refine lv_iload hx hb d_Model_may_65 (lv_at hl 7 rfl) ?_
          refine lv_aload_n hx hb d_Model_may_67 rfl (lv_at hl 0 rfl) ?_
          refine va_get (D := G) (ci := 10) (v := .int (nI nf)) (C := R_Model) (T := F_Model) (N := 47) hx hb hts in_Model hown hK hP 0 rfl rfl 4 (by decide) (hts _ fl_Model_149) (fun _ h9 => h9) rfl d_Model_may_68 ?_
          refine n_icmp_ge (tgt := 138) hx hb (by omega) (by omega) d_Model_may_71 (by decide) (fun c71 => ?_) (fun c71 => ?_)
          · refine lv_iload hx hb d_Model_may_138 (lv_at hl 6 rfl) ?_
            exact W.zret (v := (nI ((decide (d = sw j ∧ lo j ≤ mm * st ∧ mm * st ≤ hi j ∧ mm * st ≤ bw) && allB (mP ag fd mg st x mm y d j) i).toNat))) hx hb hr (nar_tN _) (fun t9 ht _ => ⟨_, rfl, congrArg nI (by unfold mB; first | (rw [show i = nf from by omega]) | (have hh := tN_0 c76; rw [hh]; rcases Bool.and_eq_false_iff.mp hh with q | q; exact (by rw [q]; rfl); exact (by rw [allB_f hi1 q, Bool.and_false]))), ht⟩) (fun q h => by cases h) d_Model_may_140
          · refine lv_iload hx hb d_Model_may_74 (lv_at hl 6 rfl) ?_
            refine n_if_eq (tgt := 138) hx hb (tN_lt _) d_Model_may_76 (by decide) (fun c76 => ?_) (fun c76 => ?_)
            · refine lv_iload hx hb d_Model_may_138 (lv_at hl 6 rfl) ?_
              exact W.zret (v := (nI ((decide (d = sw j ∧ lo j ≤ mm * st ∧ mm * st ≤ hi j ∧ mm * st ≤ bw) && allB (mP ag fd mg st x mm y d j) i).toNat))) hx hb hr (nar_tN _) (fun t9 ht _ => ⟨_, rfl, congrArg nI (by unfold mB; first | (rw [show i = nf from by omega]) | (have hh := tN_0 c76; rw [hh]; rcases Bool.and_eq_false_iff.mp hh with q | q; exact (by rw [q]; rfl); exact (by rw [allB_f hi1 q, Bool.and_false]))), ht⟩) (fun q h => by cases h) d_Model_may_140
            · have hF : (0 ≤ col fd 0 i ∧ col fd 0 i ≤ 1) ∧ (0 ≤ col fd 1 i ∧ col fd 1 i ≤ 7) := ⟨(gF.2 i (by omega)).1, (gF.2 i (by omega)).2.1⟩
              refine lv_aload_n hx hb d_Model_may_79 rfl (lv_at hl 0 rfl) ?_
              refine va_get (D := G) (ci := 10) (v := .ref (aM 16)) (C := R_Model) (T := F_Model) (N := 47) hx hb hts in_Model hown hK hP 0 rfl rfl 16 (by decide) (hts _ fl_Model_41) (fun _ h9 => h9) rfl d_Model_may_80 ?_
              refine lv_bipush (v := (nI 16)) hx hb d_Model_may_83 (by decide) ?_
              refine lv_iload_n hx hb d_Model_may_85 rfl (lv_at hl 1 rfl) ?_
              refine n_imul hx hb d_Model_may_86 ?_
              refine lv_bipush (v := (nI 8)) hx hb d_Model_may_87 (by decide) ?_
              refine lv_aload_n hx hb d_Model_may_89 rfl (lv_at hl 0 rfl) ?_
              refine va_get (D := G) (ci := 10) (v := .ref (aM 5)) (C := R_Model) (T := F_Model) (N := 47) hx hb hts in_Model hown hK hP 0 rfl rfl 5 (by decide) (hts _ fl_Model_7) (fun _ h9 => h9) rfl d_Model_may_90 ?_
              refine lv_iload hx hb d_Model_may_93 (lv_at hl 7 rfl) ?_
              refine n_iald hx hb hK hP 5 0 rfl rfl (by omega) (by omega) d_Model_may_95 ?_
              refine nz_imul hx hb d_Model_may_96 ?_
              refine nz_iadd hx hb d_Model_may_97 ?_
              refine lv_aload_n hx hb d_Model_may_98 rfl (lv_at hl 0 rfl) ?_
              refine va_get (D := G) (ci := 10) (v := .ref (aM 6)) (C := R_Model) (T := F_Model) (N := 47) hx hb hts in_Model hown hK hP 0 rfl rfl 6 (by decide) (hts _ fl_Model_13) (fun _ h9 => h9) rfl d_Model_may_99 ?_
              refine lv_iload hx hb d_Model_may_102 (lv_at hl 7 rfl) ?_
              refine n_iald hx hb hK hP 6 0 rfl rfl (by omega) (by omega) d_Model_may_104 ?_
              refine z_iadd hx hb d_Model_may_105 ?_
              refine top_i (show (iI ((((16 * j : Nat) : Int) + (((8 : Nat) : Int) * ((col fd 0) i))) + ((col fd 1) i))) = (nI (((((16 * j : Nat) : Int) + ((8 : Nat) : Int) * col fd 0 i) + col fd 1 i).toNat)) from iI_nI (by omega)) ?_
              refine n_zald hx hb hK hP 10 2 rfl rfl (by omega) (by omega) d_Model_may_106 ?_
              refine n_if_ne (tgt := 125) hx hb (tN_lt _) d_Model_may_107 (by decide) (fun c107 => ?_) (fun c107 => ?_)
              · refine lv_iconst (v := (nI 1)) hx hb d_Model_may_125 (by decide) ?_
                refine lv_goto (tgt := 130) hx hb d_Model_may_126 (by decide) ?_
                refine top_i (show (nI 1) = nI (decide (d = sw j ∧ lo j ≤ mm * st ∧ mm * st ≤ hi j ∧ mm * st ≤ bw) && allB (mP ag fd mg st x mm y d j) (i + 1)).toNat from congrArg nI (by have hh := tN_1 c76; rw [allB_s, ← Bool.and_assoc, hh, Bool.true_and]; unfold mP; first | (rw [tN_1 c107]; rfl) | (rw [tN_0 c107, tN_0 c122]; rfl) | (rw [tN_0 c107, tN_1 c122]; rfl))) ?_
                refine lv_istore (lv' := [(7, .int (nI ((decide (d = sw j ∧ lo j ≤ mm * st ∧ mm * st ≤ hi j ∧ mm * st ≤ bw) && allB (mP ag fd mg st x mm y d j) (i + 1)).toNat))), (0, .ref hM), (1, .int (nI j)), (2, .int (nI x)), (3, .int (nI (x + mm))), (4, .int (nI y)), (5, .int (nI (y + d))), (8, .int (nI i))]) hx hb d_Model_may_130 hl (by decide) rfl (fun ls hl => ?_)
                refine lv_iinc (v := (nI (i + 1))) (lv' := [(8, .int (nI (i + 1))), (7, .int (nI ((decide (d = sw j ∧ lo j ≤ mm * st ∧ mm * st ≤ hi j ∧ mm * st ≤ bw) && allB (mP ag fd mg st x mm y d j) (i + 1)).toNat))), (0, .ref hM), (1, .int (nI j)), (2, .int (nI x)), (3, .int (nI (x + mm))), (4, .int (nI y)), (5, .int (nI (y + d)))]) hx hb d_Model_may_132 hl (k := 7) rfl (nI_inc _ _ _ (by omega)) (by decide) rfl (fun ls hl => ?_)
                refine lv_goto (tgt := 65) hx hb d_Model_may_135 (by decide) ?_
                exact ih65 (i + 1) _ (by omega) (by omega) (lv_sub hl [2, 3, 4, 5, 6, 7, 1, 0] rfl)
              · refine lv_aload_n hx hb d_Model_may_110 rfl (lv_at hl 0 rfl) ?_
                refine lv_iload hx hb d_Model_may_111 (lv_at hl 7 rfl) ?_
                refine lv_iload_n hx hb d_Model_may_113 rfl (lv_at hl 2 rfl) ?_
                refine lv_iload_n hx hb d_Model_may_114 rfl (lv_at hl 3 rfl) ?_
                refine lv_iload hx hb d_Model_may_115 (lv_at hl 4 rfl) ?_
                refine lv_iload hx hb d_Model_may_117 (lv_at hl 5 rfl) ?_
                refine vp_callSi (W.runV (As := [.int (nI i), .int (nI x), .int (nI (x + mm)), .int (nI y), .int (nI (y + d))]) (rest := []) ⟨hx, hb, hml, hown, hts⟩ (c_Model_isOver l G ty hM cd st al ac nf ns gg mg bw md wy sg_ sz_ ks bd aM i x (x + mm) y (y + d) fd (by omega) gF (by omega) (by omega) (by omega) (by omega) (by omega) (by omega)) ⟨callB_of 5 hts (gd_TB cd_Model_isOver) rfl rfl rfl (hts _ ini_Model) (hts _ lk_Model_178) hd_Model_isOver ⟨Nat.le_of_ble_eq_true rfl, Nat.le_of_ble_eq_true rfl⟩, hts _ im_Model_isOver, hts _ sl_Model_isOver⟩ (preV_ro (hP.sub (ws' := [(hM, .inr (10, mO cd st al ac nf ns gg mg bw md wy sg_ sz_ ks bd aM)), (aM 7, .inl (ty 0, 20, .inl (zF (col fd 2)))), (aM 8, .inl (ty 0, 20, .inl (zF (col fd 3)))), (aM 9, .inl (ty 0, 20, .inl (zF (col fd 4)))), (aM 10, .inl (ty 0, 20, .inl (zF (col fd 5))))]) [0, 1, 2, 3, 4] rfl) hX 0 rfl rfl) rfl rfl hl.1 rfl (lv_room (Nat.le_of_ble_eq_true rfl)) d_Model_may_119 ⟨Nat.le_of_ble_eq_true rfl, Nat.le_of_ble_eq_true rfl⟩) (fun r9 er9 => ?_)
                subst er9
                refine n_if_ne (tgt := 129) hx hb (tN_lt _) d_Model_may_122 (by decide) (fun c122 => ?_) (fun c122 => ?_)
                · refine lv_iconst (v := (nI 0)) hx hb d_Model_may_129 (by decide) ?_
                  refine top_i (show (nI 0) = nI (decide (d = sw j ∧ lo j ≤ mm * st ∧ mm * st ≤ hi j ∧ mm * st ≤ bw) && allB (mP ag fd mg st x mm y d j) (i + 1)).toNat from congrArg nI (by have hh := tN_1 c76; rw [allB_s, ← Bool.and_assoc, hh, Bool.true_and]; unfold mP; first | (rw [tN_1 c107]; rfl) | (rw [tN_0 c107, tN_0 c122]; rfl) | (rw [tN_0 c107, tN_1 c122]; rfl))) ?_
                  refine lv_istore (lv' := [(7, .int (nI ((decide (d = sw j ∧ lo j ≤ mm * st ∧ mm * st ≤ hi j ∧ mm * st ≤ bw) && allB (mP ag fd mg st x mm y d j) (i + 1)).toNat))), (0, .ref hM), (1, .int (nI j)), (2, .int (nI x)), (3, .int (nI (x + mm))), (4, .int (nI y)), (5, .int (nI (y + d))), (8, .int (nI i))]) hx hb d_Model_may_130 hl (by decide) rfl (fun ls hl => ?_)
                  refine lv_iinc (v := (nI (i + 1))) (lv' := [(8, .int (nI (i + 1))), (7, .int (nI ((decide (d = sw j ∧ lo j ≤ mm * st ∧ mm * st ≤ hi j ∧ mm * st ≤ bw) && allB (mP ag fd mg st x mm y d j) (i + 1)).toNat))), (0, .ref hM), (1, .int (nI j)), (2, .int (nI x)), (3, .int (nI (x + mm))), (4, .int (nI y)), (5, .int (nI (y + d)))]) hx hb d_Model_may_132 hl (k := 7) rfl (nI_inc _ _ _ (by omega)) (by decide) rfl (fun ls hl => ?_)
                  refine lv_goto (tgt := 65) hx hb d_Model_may_135 (by decide) ?_
                  exact ih65 (i + 1) _ (by omega) (by omega) (lv_sub hl [2, 3, 4, 5, 6, 7, 1, 0] rfl)
                · refine lv_iconst (v := (nI 1)) hx hb d_Model_may_125 (by decide) ?_
                  refine lv_goto (tgt := 130) hx hb d_Model_may_126 (by decide) ?_
                  refine top_i (show (nI 1) = nI (decide (d = sw j ∧ lo j ≤ mm * st ∧ mm * st ≤ hi j ∧ mm * st ≤ bw) && allB (mP ag fd mg st x mm y d j) (i + 1)).toNat from congrArg nI (by have hh := tN_1 c76; rw [allB_s, ← Bool.and_assoc, hh, Bool.true_and]; unfold mP; first | (rw [tN_1 c107]; rfl) | (rw [tN_0 c107, tN_0 c122]; rfl) | (rw [tN_0 c107, tN_1 c122]; rfl))) ?_
                  refine lv_istore (lv' := [(7, .int (nI ((decide (d = sw j ∧ lo j ≤ mm * st ∧ mm * st ≤ hi j ∧ mm * st ≤ bw) && allB (mP ag fd mg st x mm y d j) (i + 1)).toNat))), (0, .ref hM), (1, .int (nI j)), (2, .int (nI x)), (3, .int (nI (x + mm))), (4, .int (nI y)), (5, .int (nI (y + d))), (8, .int (nI i))]) hx hb d_Model_may_130 hl (by decide) rfl (fun ls hl => ?_)
                  refine lv_iinc (v := (nI (i + 1))) (lv' := [(8, .int (nI (i + 1))), (7, .int (nI ((decide (d = sw j ∧ lo j ≤ mm * st ∧ mm * st ≤ hi j ∧ mm * st ≤ bw) && allB (mP ag fd mg st x mm y d j) (i + 1)).toNat))), (0, .ref hM), (1, .int (nI j)), (2, .int (nI x)), (3, .int (nI (x + mm))), (4, .int (nI y)), (5, .int (nI (y + d)))]) hx hb d_Model_may_132 hl (k := 7) rfl (nI_inc _ _ _ (by omega)) (by decide) rfl (fun ls hl => ?_)
                  refine lv_goto (tgt := 65) hx hb d_Model_may_135 (by decide) ?_
                  exact ih65 (i + 1) _ (by omega) (by omega) (lv_sub hl [2, 3, 4, 5, 6, 7, 1, 0] rfl)
      exact L65 (nf - 0 + 1) 0 _ (Nat.zero_le _) (Nat.lt_succ_self _) (lv_sub hl [3, 4, 5, 6, 7, 8, 1, 0] rfl)
    · refine lv_iload hx hb d_Model_may_35 (lv_at hl 0 rfl) ?_
      refine lv_aload_n hx hb d_Model_may_37 rfl (lv_at hl 1 rfl) ?_
      refine va_get (D := G) (ci := 10) (v := .ref (aM 14)) (C := R_Model) (T := F_Model) (N := 47) hx hb hts in_Model hown hK hP 0 rfl rfl 14 (by decide) (hts _ fl_Model_34) (fun _ h9 => h9) rfl d_Model_may_38 ?_
      refine lv_iload_n hx hb d_Model_may_41 rfl (lv_at hl 2 rfl) ?_
      refine n_iald hx hb hK hP 9 0 rfl rfl (by omega) (by omega) d_Model_may_42 ?_
      refine n_icmp_gt (tgt := 59) hx hb (by omega) (by omega) d_Model_may_43 (by decide) (fun c43 => ?_) (fun c43 => ?_)
      · refine lv_iconst (v := (nI 0)) hx hb d_Model_may_59 (by decide) ?_
        refine top_i (show (nI 0) = nI (decide (d = sw j ∧ lo j ≤ mm * st ∧ mm * st ≤ hi j ∧ mm * st ≤ bw) && allB (mP ag fd mg st x mm y d j) 0).toNat from congrArg nI (by rw [decide_eq_false (by omega)]; rfl)) ?_
        refine lv_istore (lv' := [(7, .int (nI ((decide (d = sw j ∧ lo j ≤ mm * st ∧ mm * st ≤ hi j ∧ mm * st ≤ bw) && allB (mP ag fd mg st x mm y d j) 0).toNat))), (6, .int (nI (mm * st))), (0, .ref hM), (1, .int (nI j)), (2, .int (nI x)), (3, .int (nI (x + mm))), (4, .int (nI y)), (5, .int (nI (y + d)))]) hx hb d_Model_may_60 hl (by decide) rfl (fun ls hl => ?_)
        refine lv_iconst (v := (nI 0)) hx hb d_Model_may_62 (by decide) ?_
        refine lv_istore (lv' := [(8, .int (nI 0)), (7, .int (nI ((decide (d = sw j ∧ lo j ≤ mm * st ∧ mm * st ≤ hi j ∧ mm * st ≤ bw) && allB (mP ag fd mg st x mm y d j) 0).toNat))), (6, .int (nI (mm * st))), (0, .ref hM), (1, .int (nI j)), (2, .int (nI x)), (3, .int (nI (x + mm))), (4, .int (nI y)), (5, .int (nI (y + d)))]) hx hb d_Model_may_63 hl (by decide) rfl (fun ls hl => ?_)
        have L65 : ∀ (k9 : Nat) (i : Nat) (ls : Array Slot), (i ≤ nf) → nf - i < k9 → lv_has ls 9 [(0, .ref hM), (1, .int (nI j)), (2, .int (nI x)), (3, .int (nI (x + mm))), (4, .int (nI y)), (5, .int (nI (y + d))), (7, .int (nI ((decide (d = sw j ∧ lo j ≤ mm * st ∧ mm * st ≤ hi j ∧ mm * st ≤ bw) && allB (mP ag fd mg st x mm y d j) i).toNat))), (8, .int (nI i))] → W p l e { frames := 1, cells := 0, slots := 0, locals := 27 } s m [.ref hM, .int (nI j), .int (nI x), .int (nI (x + mm)), .int (nI y), .int (nI (y + d))].toArray below meth c s.heap [] 0 0 (MQ below (q_Model_may G ty hM cd st al ac nf ns gg mg bw md wy sg_ sz_ ks bd aM j x mm y d fd sw lo hi ag) [.ref hM, .int (nI j), .int (nI x), .int (nI (x + mm)), .int (nI y), .int (nI (y + d))].toArray s 0 0 (fun _ => False)) (F0 m 65 ls []) := by
          intro k9
          induction k9 with
          | zero => intro i ls hi1 hk9; exact absurd hk9 (Nat.not_lt_zero _)
          | succ k9 ih65 =>
            intro i ls hi1 hk9 hl
            refine lv_iload hx hb d_Model_may_65 (lv_at hl 7 rfl) ?_
            refine lv_aload_n hx hb d_Model_may_67 rfl (lv_at hl 0 rfl) ?_
            refine va_get (D := G) (ci := 10) (v := .int (nI nf)) (C := R_Model) (T := F_Model) (N := 47) hx hb hts in_Model hown hK hP 0 rfl rfl 4 (by decide) (hts _ fl_Model_149) (fun _ h9 => h9) rfl d_Model_may_68 ?_
            refine n_icmp_ge (tgt := 138) hx hb (by omega) (by omega) d_Model_may_71 (by decide) (fun c71 => ?_) (fun c71 => ?_)
            · refine lv_iload hx hb d_Model_may_138 (lv_at hl 6 rfl) ?_
              exact W.zret (v := (nI ((decide (d = sw j ∧ lo j ≤ mm * st ∧ mm * st ≤ hi j ∧ mm * st ≤ bw) && allB (mP ag fd mg st x mm y d j) i).toNat))) hx hb hr (nar_tN _) (fun t9 ht _ => ⟨_, rfl, congrArg nI (by unfold mB; first | (rw [show i = nf from by omega]) | (have hh := tN_0 c76; rw [hh]; rcases Bool.and_eq_false_iff.mp hh with q | q; exact (by rw [q]; rfl); exact (by rw [allB_f hi1 q, Bool.and_false]))), ht⟩) (fun q h => by cases h) d_Model_may_140
            · refine lv_iload hx hb d_Model_may_74 (lv_at hl 6 rfl) ?_
              refine n_if_eq (tgt := 138) hx hb (tN_lt _) d_Model_may_76 (by decide) (fun c76 => ?_) (fun c76 => ?_)
              · refine lv_iload hx hb d_Model_may_138 (lv_at hl 6 rfl) ?_
                exact W.zret (v := (nI ((decide (d = sw j ∧ lo j ≤ mm * st ∧ mm * st ≤ hi j ∧ mm * st ≤ bw) && allB (mP ag fd mg st x mm y d j) i).toNat))) hx hb hr (nar_tN _) (fun t9 ht _ => ⟨_, rfl, congrArg nI (by unfold mB; first | (rw [show i = nf from by omega]) | (have hh := tN_0 c76; rw [hh]; rcases Bool.and_eq_false_iff.mp hh with q | q; exact (by rw [q]; rfl); exact (by rw [allB_f hi1 q, Bool.and_false]))), ht⟩) (fun q h => by cases h) d_Model_may_140
              · have hF : (0 ≤ col fd 0 i ∧ col fd 0 i ≤ 1) ∧ (0 ≤ col fd 1 i ∧ col fd 1 i ≤ 7) := ⟨(gF.2 i (by omega)).1, (gF.2 i (by omega)).2.1⟩
                refine lv_aload_n hx hb d_Model_may_79 rfl (lv_at hl 0 rfl) ?_
                refine va_get (D := G) (ci := 10) (v := .ref (aM 16)) (C := R_Model) (T := F_Model) (N := 47) hx hb hts in_Model hown hK hP 0 rfl rfl 16 (by decide) (hts _ fl_Model_41) (fun _ h9 => h9) rfl d_Model_may_80 ?_
                refine lv_bipush (v := (nI 16)) hx hb d_Model_may_83 (by decide) ?_
                refine lv_iload_n hx hb d_Model_may_85 rfl (lv_at hl 1 rfl) ?_
                refine n_imul hx hb d_Model_may_86 ?_
                refine lv_bipush (v := (nI 8)) hx hb d_Model_may_87 (by decide) ?_
                refine lv_aload_n hx hb d_Model_may_89 rfl (lv_at hl 0 rfl) ?_
                refine va_get (D := G) (ci := 10) (v := .ref (aM 5)) (C := R_Model) (T := F_Model) (N := 47) hx hb hts in_Model hown hK hP 0 rfl rfl 5 (by decide) (hts _ fl_Model_7) (fun _ h9 => h9) rfl d_Model_may_90 ?_
                refine lv_iload hx hb d_Model_may_93 (lv_at hl 7 rfl) ?_
                refine n_iald hx hb hK hP 5 0 rfl rfl (by omega) (by omega) d_Model_may_95 ?_
                refine nz_imul hx hb d_Model_may_96 ?_
                refine nz_iadd hx hb d_Model_may_97 ?_
                refine lv_aload_n hx hb d_Model_may_98 rfl (lv_at hl 0 rfl) ?_
                refine va_get (D := G) (ci := 10) (v := .ref (aM 6)) (C := R_Model) (T := F_Model) (N := 47) hx hb hts in_Model hown hK hP 0 rfl rfl 6 (by decide) (hts _ fl_Model_13) (fun _ h9 => h9) rfl d_Model_may_99 ?_
                refine lv_iload hx hb d_Model_may_102 (lv_at hl 7 rfl) ?_
                refine n_iald hx hb hK hP 6 0 rfl rfl (by omega) (by omega) d_Model_may_104 ?_
                refine z_iadd hx hb d_Model_may_105 ?_
                refine top_i (show (iI ((((16 * j : Nat) : Int) + (((8 : Nat) : Int) * ((col fd 0) i))) + ((col fd 1) i))) = (nI (((((16 * j : Nat) : Int) + ((8 : Nat) : Int) * col fd 0 i) + col fd 1 i).toNat)) from iI_nI (by omega)) ?_
                refine n_zald hx hb hK hP 10 2 rfl rfl (by omega) (by omega) d_Model_may_106 ?_
                refine n_if_ne (tgt := 125) hx hb (tN_lt _) d_Model_may_107 (by decide) (fun c107 => ?_) (fun c107 => ?_)
                · refine lv_iconst (v := (nI 1)) hx hb d_Model_may_125 (by decide) ?_
                  refine lv_goto (tgt := 130) hx hb d_Model_may_126 (by decide) ?_
                  refine top_i (show (nI 1) = nI (decide (d = sw j ∧ lo j ≤ mm * st ∧ mm * st ≤ hi j ∧ mm * st ≤ bw) && allB (mP ag fd mg st x mm y d j) (i + 1)).toNat from congrArg nI (by have hh := tN_1 c76; rw [allB_s, ← Bool.and_assoc, hh, Bool.true_and]; unfold mP; first | (rw [tN_1 c107]; rfl) | (rw [tN_0 c107, tN_0 c122]; rfl) | (rw [tN_0 c107, tN_1 c122]; rfl))) ?_
                  refine lv_istore (lv' := [(7, .int (nI ((decide (d = sw j ∧ lo j ≤ mm * st ∧ mm * st ≤ hi j ∧ mm * st ≤ bw) && allB (mP ag fd mg st x mm y d j) (i + 1)).toNat))), (0, .ref hM), (1, .int (nI j)), (2, .int (nI x)), (3, .int (nI (x + mm))), (4, .int (nI y)), (5, .int (nI (y + d))), (8, .int (nI i))]) hx hb d_Model_may_130 hl (by decide) rfl (fun ls hl => ?_)
                  refine lv_iinc (v := (nI (i + 1))) (lv' := [(8, .int (nI (i + 1))), (7, .int (nI ((decide (d = sw j ∧ lo j ≤ mm * st ∧ mm * st ≤ hi j ∧ mm * st ≤ bw) && allB (mP ag fd mg st x mm y d j) (i + 1)).toNat))), (0, .ref hM), (1, .int (nI j)), (2, .int (nI x)), (3, .int (nI (x + mm))), (4, .int (nI y)), (5, .int (nI (y + d)))]) hx hb d_Model_may_132 hl (k := 7) rfl (nI_inc _ _ _ (by omega)) (by decide) rfl (fun ls hl => ?_)
                  refine lv_goto (tgt := 65) hx hb d_Model_may_135 (by decide) ?_
                  exact ih65 (i + 1) _ (by omega) (by omega) (lv_sub hl [2, 3, 4, 5, 6, 7, 1, 0] rfl)
                · refine lv_aload_n hx hb d_Model_may_110 rfl (lv_at hl 0 rfl) ?_
                  refine lv_iload hx hb d_Model_may_111 (lv_at hl 7 rfl) ?_
                  refine lv_iload_n hx hb d_Model_may_113 rfl (lv_at hl 2 rfl) ?_
                  refine lv_iload_n hx hb d_Model_may_114 rfl (lv_at hl 3 rfl) ?_
                  refine lv_iload hx hb d_Model_may_115 (lv_at hl 4 rfl) ?_
                  refine lv_iload hx hb d_Model_may_117 (lv_at hl 5 rfl) ?_
                  refine vp_callSi (W.runV (As := [.int (nI i), .int (nI x), .int (nI (x + mm)), .int (nI y), .int (nI (y + d))]) (rest := []) ⟨hx, hb, hml, hown, hts⟩ (c_Model_isOver l G ty hM cd st al ac nf ns gg mg bw md wy sg_ sz_ ks bd aM i x (x + mm) y (y + d) fd (by omega) gF (by omega) (by omega) (by omega) (by omega) (by omega) (by omega)) ⟨callB_of 5 hts (gd_TB cd_Model_isOver) rfl rfl rfl (hts _ ini_Model) (hts _ lk_Model_178) hd_Model_isOver ⟨Nat.le_of_ble_eq_true rfl, Nat.le_of_ble_eq_true rfl⟩, hts _ im_Model_isOver, hts _ sl_Model_isOver⟩ (preV_ro (hP.sub (ws' := [(hM, .inr (10, mO cd st al ac nf ns gg mg bw md wy sg_ sz_ ks bd aM)), (aM 7, .inl (ty 0, 20, .inl (zF (col fd 2)))), (aM 8, .inl (ty 0, 20, .inl (zF (col fd 3)))), (aM 9, .inl (ty 0, 20, .inl (zF (col fd 4)))), (aM 10, .inl (ty 0, 20, .inl (zF (col fd 5))))]) [0, 1, 2, 3, 4] rfl) hX 0 rfl rfl) rfl rfl hl.1 rfl (lv_room (Nat.le_of_ble_eq_true rfl)) d_Model_may_119 ⟨Nat.le_of_ble_eq_true rfl, Nat.le_of_ble_eq_true rfl⟩) (fun r9 er9 => ?_)
                  subst er9
                  refine n_if_ne (tgt := 129) hx hb (tN_lt _) d_Model_may_122 (by decide) (fun c122 => ?_) (fun c122 => ?_)
                  · refine lv_iconst (v := (nI 0)) hx hb d_Model_may_129 (by decide) ?_
                    refine top_i (show (nI 0) = nI (decide (d = sw j ∧ lo j ≤ mm * st ∧ mm * st ≤ hi j ∧ mm * st ≤ bw) && allB (mP ag fd mg st x mm y d j) (i + 1)).toNat from congrArg nI (by have hh := tN_1 c76; rw [allB_s, ← Bool.and_assoc, hh, Bool.true_and]; unfold mP; first | (rw [tN_1 c107]; rfl) | (rw [tN_0 c107, tN_0 c122]; rfl) | (rw [tN_0 c107, tN_1 c122]; rfl))) ?_
                    refine lv_istore (lv' := [(7, .int (nI ((decide (d = sw j ∧ lo j ≤ mm * st ∧ mm * st ≤ hi j ∧ mm * st ≤ bw) && allB (mP ag fd mg st x mm y d j) (i + 1)).toNat))), (0, .ref hM), (1, .int (nI j)), (2, .int (nI x)), (3, .int (nI (x + mm))), (4, .int (nI y)), (5, .int (nI (y + d))), (8, .int (nI i))]) hx hb d_Model_may_130 hl (by decide) rfl (fun ls hl => ?_)
                    refine lv_iinc (v := (nI (i + 1))) (lv' := [(8, .int (nI (i + 1))), (7, .int (nI ((decide (d = sw j ∧ lo j ≤ mm * st ∧ mm * st ≤ hi j ∧ mm * st ≤ bw) && allB (mP ag fd mg st x mm y d j) (i + 1)).toNat))), (0, .ref hM), (1, .int (nI j)), (2, .int (nI x)), (3, .int (nI (x + mm))), (4, .int (nI y)), (5, .int (nI (y + d)))]) hx hb d_Model_may_132 hl (k := 7) rfl (nI_inc _ _ _ (by omega)) (by decide) rfl (fun ls hl => ?_)
                    refine lv_goto (tgt := 65) hx hb d_Model_may_135 (by decide) ?_
                    exact ih65 (i + 1) _ (by omega) (by omega) (lv_sub hl [2, 3, 4, 5, 6, 7, 1, 0] rfl)
                  · refine lv_iconst (v := (nI 1)) hx hb d_Model_may_125 (by decide) ?_
                    refine lv_goto (tgt := 130) hx hb d_Model_may_126 (by decide) ?_
                    refine top_i (show (nI 1) = nI (decide (d = sw j ∧ lo j ≤ mm * st ∧ mm * st ≤ hi j ∧ mm * st ≤ bw) && allB (mP ag fd mg st x mm y d j) (i + 1)).toNat from congrArg nI (by have hh := tN_1 c76; rw [allB_s, ← Bool.and_assoc, hh, Bool.true_and]; unfold mP; first | (rw [tN_1 c107]; rfl) | (rw [tN_0 c107, tN_0 c122]; rfl) | (rw [tN_0 c107, tN_1 c122]; rfl))) ?_
                    refine lv_istore (lv' := [(7, .int (nI ((decide (d = sw j ∧ lo j ≤ mm * st ∧ mm * st ≤ hi j ∧ mm * st ≤ bw) && allB (mP ag fd mg st x mm y d j) (i + 1)).toNat))), (0, .ref hM), (1, .int (nI j)), (2, .int (nI x)), (3, .int (nI (x + mm))), (4, .int (nI y)), (5, .int (nI (y + d))), (8, .int (nI i))]) hx hb d_Model_may_130 hl (by decide) rfl (fun ls hl => ?_)
                    refine lv_iinc (v := (nI (i + 1))) (lv' := [(8, .int (nI (i + 1))), (7, .int (nI ((decide (d = sw j ∧ lo j ≤ mm * st ∧ mm * st ≤ hi j ∧ mm * st ≤ bw) && allB (mP ag fd mg st x mm y d j) (i + 1)).toNat))), (0, .ref hM), (1, .int (nI j)), (2, .int (nI x)), (3, .int (nI (x + mm))), (4, .int (nI y)), (5, .int (nI (y + d)))]) hx hb d_Model_may_132 hl (k := 7) rfl (nI_inc _ _ _ (by omega)) (by decide) rfl (fun ls hl => ?_)
                    refine lv_goto (tgt := 65) hx hb d_Model_may_135 (by decide) ?_
                    exact ih65 (i + 1) _ (by omega) (by omega) (lv_sub hl [2, 3, 4, 5, 6, 7, 1, 0] rfl)
        exact L65 (nf - 0 + 1) 0 _ (Nat.zero_le _) (Nat.lt_succ_self _) (lv_sub hl [3, 4, 5, 6, 7, 8, 1, 0] rfl)
      · refine lv_iload hx hb d_Model_may_46 (lv_at hl 0 rfl) ?_
        refine lv_aload_n hx hb d_Model_may_48 rfl (lv_at hl 1 rfl) ?_
        refine va_get (D := G) (ci := 10) (v := .int (nI bw)) (C := R_Model) (T := F_Model) (N := 47) hx hb hts in_Model hown hK hP 0 rfl rfl 23 (by decide) (hts _ fl_Model_59) (fun _ h9 => h9) rfl d_Model_may_49 ?_
        refine n_icmp_gt (tgt := 59) hx hb (by omega) (by omega) d_Model_may_52 (by decide) (fun c52 => ?_) (fun c52 => ?_)
        · refine lv_iconst (v := (nI 0)) hx hb d_Model_may_59 (by decide) ?_
          refine top_i (show (nI 0) = nI (decide (d = sw j ∧ lo j ≤ mm * st ∧ mm * st ≤ hi j ∧ mm * st ≤ bw) && allB (mP ag fd mg st x mm y d j) 0).toNat from congrArg nI (by rw [decide_eq_false (by omega)]; rfl)) ?_
          refine lv_istore (lv' := [(7, .int (nI ((decide (d = sw j ∧ lo j ≤ mm * st ∧ mm * st ≤ hi j ∧ mm * st ≤ bw) && allB (mP ag fd mg st x mm y d j) 0).toNat))), (6, .int (nI (mm * st))), (0, .ref hM), (1, .int (nI j)), (2, .int (nI x)), (3, .int (nI (x + mm))), (4, .int (nI y)), (5, .int (nI (y + d)))]) hx hb d_Model_may_60 hl (by decide) rfl (fun ls hl => ?_)
          refine lv_iconst (v := (nI 0)) hx hb d_Model_may_62 (by decide) ?_
          refine lv_istore (lv' := [(8, .int (nI 0)), (7, .int (nI ((decide (d = sw j ∧ lo j ≤ mm * st ∧ mm * st ≤ hi j ∧ mm * st ≤ bw) && allB (mP ag fd mg st x mm y d j) 0).toNat))), (6, .int (nI (mm * st))), (0, .ref hM), (1, .int (nI j)), (2, .int (nI x)), (3, .int (nI (x + mm))), (4, .int (nI y)), (5, .int (nI (y + d)))]) hx hb d_Model_may_63 hl (by decide) rfl (fun ls hl => ?_)
          have L65 : ∀ (k9 : Nat) (i : Nat) (ls : Array Slot), (i ≤ nf) → nf - i < k9 → lv_has ls 9 [(0, .ref hM), (1, .int (nI j)), (2, .int (nI x)), (3, .int (nI (x + mm))), (4, .int (nI y)), (5, .int (nI (y + d))), (7, .int (nI ((decide (d = sw j ∧ lo j ≤ mm * st ∧ mm * st ≤ hi j ∧ mm * st ≤ bw) && allB (mP ag fd mg st x mm y d j) i).toNat))), (8, .int (nI i))] → W p l e { frames := 1, cells := 0, slots := 0, locals := 27 } s m [.ref hM, .int (nI j), .int (nI x), .int (nI (x + mm)), .int (nI y), .int (nI (y + d))].toArray below meth c s.heap [] 0 0 (MQ below (q_Model_may G ty hM cd st al ac nf ns gg mg bw md wy sg_ sz_ ks bd aM j x mm y d fd sw lo hi ag) [.ref hM, .int (nI j), .int (nI x), .int (nI (x + mm)), .int (nI y), .int (nI (y + d))].toArray s 0 0 (fun _ => False)) (F0 m 65 ls []) := by
            intro k9
            induction k9 with
            | zero => intro i ls hi1 hk9; exact absurd hk9 (Nat.not_lt_zero _)
            | succ k9 ih65 =>
              intro i ls hi1 hk9 hl
              refine lv_iload hx hb d_Model_may_65 (lv_at hl 7 rfl) ?_
              refine lv_aload_n hx hb d_Model_may_67 rfl (lv_at hl 0 rfl) ?_
              refine va_get (D := G) (ci := 10) (v := .int (nI nf)) (C := R_Model) (T := F_Model) (N := 47) hx hb hts in_Model hown hK hP 0 rfl rfl 4 (by decide) (hts _ fl_Model_149) (fun _ h9 => h9) rfl d_Model_may_68 ?_
              refine n_icmp_ge (tgt := 138) hx hb (by omega) (by omega) d_Model_may_71 (by decide) (fun c71 => ?_) (fun c71 => ?_)
              · refine lv_iload hx hb d_Model_may_138 (lv_at hl 6 rfl) ?_
                exact W.zret (v := (nI ((decide (d = sw j ∧ lo j ≤ mm * st ∧ mm * st ≤ hi j ∧ mm * st ≤ bw) && allB (mP ag fd mg st x mm y d j) i).toNat))) hx hb hr (nar_tN _) (fun t9 ht _ => ⟨_, rfl, congrArg nI (by unfold mB; first | (rw [show i = nf from by omega]) | (have hh := tN_0 c76; rw [hh]; rcases Bool.and_eq_false_iff.mp hh with q | q; exact (by rw [q]; rfl); exact (by rw [allB_f hi1 q, Bool.and_false]))), ht⟩) (fun q h => by cases h) d_Model_may_140
              · refine lv_iload hx hb d_Model_may_74 (lv_at hl 6 rfl) ?_
                refine n_if_eq (tgt := 138) hx hb (tN_lt _) d_Model_may_76 (by decide) (fun c76 => ?_) (fun c76 => ?_)
                · refine lv_iload hx hb d_Model_may_138 (lv_at hl 6 rfl) ?_
                  exact W.zret (v := (nI ((decide (d = sw j ∧ lo j ≤ mm * st ∧ mm * st ≤ hi j ∧ mm * st ≤ bw) && allB (mP ag fd mg st x mm y d j) i).toNat))) hx hb hr (nar_tN _) (fun t9 ht _ => ⟨_, rfl, congrArg nI (by unfold mB; first | (rw [show i = nf from by omega]) | (have hh := tN_0 c76; rw [hh]; rcases Bool.and_eq_false_iff.mp hh with q | q; exact (by rw [q]; rfl); exact (by rw [allB_f hi1 q, Bool.and_false]))), ht⟩) (fun q h => by cases h) d_Model_may_140
                · have hF : (0 ≤ col fd 0 i ∧ col fd 0 i ≤ 1) ∧ (0 ≤ col fd 1 i ∧ col fd 1 i ≤ 7) := ⟨(gF.2 i (by omega)).1, (gF.2 i (by omega)).2.1⟩
                  refine lv_aload_n hx hb d_Model_may_79 rfl (lv_at hl 0 rfl) ?_
                  refine va_get (D := G) (ci := 10) (v := .ref (aM 16)) (C := R_Model) (T := F_Model) (N := 47) hx hb hts in_Model hown hK hP 0 rfl rfl 16 (by decide) (hts _ fl_Model_41) (fun _ h9 => h9) rfl d_Model_may_80 ?_
                  refine lv_bipush (v := (nI 16)) hx hb d_Model_may_83 (by decide) ?_
                  refine lv_iload_n hx hb d_Model_may_85 rfl (lv_at hl 1 rfl) ?_
                  refine n_imul hx hb d_Model_may_86 ?_
                  refine lv_bipush (v := (nI 8)) hx hb d_Model_may_87 (by decide) ?_
                  refine lv_aload_n hx hb d_Model_may_89 rfl (lv_at hl 0 rfl) ?_
                  refine va_get (D := G) (ci := 10) (v := .ref (aM 5)) (C := R_Model) (T := F_Model) (N := 47) hx hb hts in_Model hown hK hP 0 rfl rfl 5 (by decide) (hts _ fl_Model_7) (fun _ h9 => h9) rfl d_Model_may_90 ?_
                  refine lv_iload hx hb d_Model_may_93 (lv_at hl 7 rfl) ?_
                  refine n_iald hx hb hK hP 5 0 rfl rfl (by omega) (by omega) d_Model_may_95 ?_
                  refine nz_imul hx hb d_Model_may_96 ?_
                  refine nz_iadd hx hb d_Model_may_97 ?_
                  refine lv_aload_n hx hb d_Model_may_98 rfl (lv_at hl 0 rfl) ?_
                  refine va_get (D := G) (ci := 10) (v := .ref (aM 6)) (C := R_Model) (T := F_Model) (N := 47) hx hb hts in_Model hown hK hP 0 rfl rfl 6 (by decide) (hts _ fl_Model_13) (fun _ h9 => h9) rfl d_Model_may_99 ?_
                  refine lv_iload hx hb d_Model_may_102 (lv_at hl 7 rfl) ?_
                  refine n_iald hx hb hK hP 6 0 rfl rfl (by omega) (by omega) d_Model_may_104 ?_
                  refine z_iadd hx hb d_Model_may_105 ?_
                  refine top_i (show (iI ((((16 * j : Nat) : Int) + (((8 : Nat) : Int) * ((col fd 0) i))) + ((col fd 1) i))) = (nI (((((16 * j : Nat) : Int) + ((8 : Nat) : Int) * col fd 0 i) + col fd 1 i).toNat)) from iI_nI (by omega)) ?_
                  refine n_zald hx hb hK hP 10 2 rfl rfl (by omega) (by omega) d_Model_may_106 ?_
                  refine n_if_ne (tgt := 125) hx hb (tN_lt _) d_Model_may_107 (by decide) (fun c107 => ?_) (fun c107 => ?_)
                  · refine lv_iconst (v := (nI 1)) hx hb d_Model_may_125 (by decide) ?_
                    refine lv_goto (tgt := 130) hx hb d_Model_may_126 (by decide) ?_
                    refine top_i (show (nI 1) = nI (decide (d = sw j ∧ lo j ≤ mm * st ∧ mm * st ≤ hi j ∧ mm * st ≤ bw) && allB (mP ag fd mg st x mm y d j) (i + 1)).toNat from congrArg nI (by have hh := tN_1 c76; rw [allB_s, ← Bool.and_assoc, hh, Bool.true_and]; unfold mP; first | (rw [tN_1 c107]; rfl) | (rw [tN_0 c107, tN_0 c122]; rfl) | (rw [tN_0 c107, tN_1 c122]; rfl))) ?_
                    refine lv_istore (lv' := [(7, .int (nI ((decide (d = sw j ∧ lo j ≤ mm * st ∧ mm * st ≤ hi j ∧ mm * st ≤ bw) && allB (mP ag fd mg st x mm y d j) (i + 1)).toNat))), (0, .ref hM), (1, .int (nI j)), (2, .int (nI x)), (3, .int (nI (x + mm))), (4, .int (nI y)), (5, .int (nI (y + d))), (8, .int (nI i))]) hx hb d_Model_may_130 hl (by decide) rfl (fun ls hl => ?_)
                    refine lv_iinc (v := (nI (i + 1))) (lv' := [(8, .int (nI (i + 1))), (7, .int (nI ((decide (d = sw j ∧ lo j ≤ mm * st ∧ mm * st ≤ hi j ∧ mm * st ≤ bw) && allB (mP ag fd mg st x mm y d j) (i + 1)).toNat))), (0, .ref hM), (1, .int (nI j)), (2, .int (nI x)), (3, .int (nI (x + mm))), (4, .int (nI y)), (5, .int (nI (y + d)))]) hx hb d_Model_may_132 hl (k := 7) rfl (nI_inc _ _ _ (by omega)) (by decide) rfl (fun ls hl => ?_)
                    refine lv_goto (tgt := 65) hx hb d_Model_may_135 (by decide) ?_
                    exact ih65 (i + 1) _ (by omega) (by omega) (lv_sub hl [2, 3, 4, 5, 6, 7, 1, 0] rfl)
                  · refine lv_aload_n hx hb d_Model_may_110 rfl (lv_at hl 0 rfl) ?_
                    refine lv_iload hx hb d_Model_may_111 (lv_at hl 7 rfl) ?_
                    refine lv_iload_n hx hb d_Model_may_113 rfl (lv_at hl 2 rfl) ?_
                    refine lv_iload_n hx hb d_Model_may_114 rfl (lv_at hl 3 rfl) ?_
                    refine lv_iload hx hb d_Model_may_115 (lv_at hl 4 rfl) ?_
                    refine lv_iload hx hb d_Model_may_117 (lv_at hl 5 rfl) ?_
                    refine vp_callSi (W.runV (As := [.int (nI i), .int (nI x), .int (nI (x + mm)), .int (nI y), .int (nI (y + d))]) (rest := []) ⟨hx, hb, hml, hown, hts⟩ (c_Model_isOver l G ty hM cd st al ac nf ns gg mg bw md wy sg_ sz_ ks bd aM i x (x + mm) y (y + d) fd (by omega) gF (by omega) (by omega) (by omega) (by omega) (by omega) (by omega)) ⟨callB_of 5 hts (gd_TB cd_Model_isOver) rfl rfl rfl (hts _ ini_Model) (hts _ lk_Model_178) hd_Model_isOver ⟨Nat.le_of_ble_eq_true rfl, Nat.le_of_ble_eq_true rfl⟩, hts _ im_Model_isOver, hts _ sl_Model_isOver⟩ (preV_ro (hP.sub (ws' := [(hM, .inr (10, mO cd st al ac nf ns gg mg bw md wy sg_ sz_ ks bd aM)), (aM 7, .inl (ty 0, 20, .inl (zF (col fd 2)))), (aM 8, .inl (ty 0, 20, .inl (zF (col fd 3)))), (aM 9, .inl (ty 0, 20, .inl (zF (col fd 4)))), (aM 10, .inl (ty 0, 20, .inl (zF (col fd 5))))]) [0, 1, 2, 3, 4] rfl) hX 0 rfl rfl) rfl rfl hl.1 rfl (lv_room (Nat.le_of_ble_eq_true rfl)) d_Model_may_119 ⟨Nat.le_of_ble_eq_true rfl, Nat.le_of_ble_eq_true rfl⟩) (fun r9 er9 => ?_)
                    subst er9
                    refine n_if_ne (tgt := 129) hx hb (tN_lt _) d_Model_may_122 (by decide) (fun c122 => ?_) (fun c122 => ?_)
                    · refine lv_iconst (v := (nI 0)) hx hb d_Model_may_129 (by decide) ?_
                      refine top_i (show (nI 0) = nI (decide (d = sw j ∧ lo j ≤ mm * st ∧ mm * st ≤ hi j ∧ mm * st ≤ bw) && allB (mP ag fd mg st x mm y d j) (i + 1)).toNat from congrArg nI (by have hh := tN_1 c76; rw [allB_s, ← Bool.and_assoc, hh, Bool.true_and]; unfold mP; first | (rw [tN_1 c107]; rfl) | (rw [tN_0 c107, tN_0 c122]; rfl) | (rw [tN_0 c107, tN_1 c122]; rfl))) ?_
                      refine lv_istore (lv' := [(7, .int (nI ((decide (d = sw j ∧ lo j ≤ mm * st ∧ mm * st ≤ hi j ∧ mm * st ≤ bw) && allB (mP ag fd mg st x mm y d j) (i + 1)).toNat))), (0, .ref hM), (1, .int (nI j)), (2, .int (nI x)), (3, .int (nI (x + mm))), (4, .int (nI y)), (5, .int (nI (y + d))), (8, .int (nI i))]) hx hb d_Model_may_130 hl (by decide) rfl (fun ls hl => ?_)
                      refine lv_iinc (v := (nI (i + 1))) (lv' := [(8, .int (nI (i + 1))), (7, .int (nI ((decide (d = sw j ∧ lo j ≤ mm * st ∧ mm * st ≤ hi j ∧ mm * st ≤ bw) && allB (mP ag fd mg st x mm y d j) (i + 1)).toNat))), (0, .ref hM), (1, .int (nI j)), (2, .int (nI x)), (3, .int (nI (x + mm))), (4, .int (nI y)), (5, .int (nI (y + d)))]) hx hb d_Model_may_132 hl (k := 7) rfl (nI_inc _ _ _ (by omega)) (by decide) rfl (fun ls hl => ?_)
                      refine lv_goto (tgt := 65) hx hb d_Model_may_135 (by decide) ?_
                      exact ih65 (i + 1) _ (by omega) (by omega) (lv_sub hl [2, 3, 4, 5, 6, 7, 1, 0] rfl)
                    · refine lv_iconst (v := (nI 1)) hx hb d_Model_may_125 (by decide) ?_
                      refine lv_goto (tgt := 130) hx hb d_Model_may_126 (by decide) ?_
                      refine top_i (show (nI 1) = nI (decide (d = sw j ∧ lo j ≤ mm * st ∧ mm * st ≤ hi j ∧ mm * st ≤ bw) && allB (mP ag fd mg st x mm y d j) (i + 1)).toNat from congrArg nI (by have hh := tN_1 c76; rw [allB_s, ← Bool.and_assoc, hh, Bool.true_and]; unfold mP; first | (rw [tN_1 c107]; rfl) | (rw [tN_0 c107, tN_0 c122]; rfl) | (rw [tN_0 c107, tN_1 c122]; rfl))) ?_
                      refine lv_istore (lv' := [(7, .int (nI ((decide (d = sw j ∧ lo j ≤ mm * st ∧ mm * st ≤ hi j ∧ mm * st ≤ bw) && allB (mP ag fd mg st x mm y d j) (i + 1)).toNat))), (0, .ref hM), (1, .int (nI j)), (2, .int (nI x)), (3, .int (nI (x + mm))), (4, .int (nI y)), (5, .int (nI (y + d))), (8, .int (nI i))]) hx hb d_Model_may_130 hl (by decide) rfl (fun ls hl => ?_)
                      refine lv_iinc (v := (nI (i + 1))) (lv' := [(8, .int (nI (i + 1))), (7, .int (nI ((decide (d = sw j ∧ lo j ≤ mm * st ∧ mm * st ≤ hi j ∧ mm * st ≤ bw) && allB (mP ag fd mg st x mm y d j) (i + 1)).toNat))), (0, .ref hM), (1, .int (nI j)), (2, .int (nI x)), (3, .int (nI (x + mm))), (4, .int (nI y)), (5, .int (nI (y + d)))]) hx hb d_Model_may_132 hl (k := 7) rfl (nI_inc _ _ _ (by omega)) (by decide) rfl (fun ls hl => ?_)
                      refine lv_goto (tgt := 65) hx hb d_Model_may_135 (by decide) ?_
                      exact ih65 (i + 1) _ (by omega) (by omega) (lv_sub hl [2, 3, 4, 5, 6, 7, 1, 0] rfl)
          exact L65 (nf - 0 + 1) 0 _ (Nat.zero_le _) (Nat.lt_succ_self _) (lv_sub hl [3, 4, 5, 6, 7, 8, 1, 0] rfl)
        · refine lv_iconst (v := (nI 1)) hx hb d_Model_may_55 (by decide) ?_
          refine lv_goto (tgt := 60) hx hb d_Model_may_56 (by decide) ?_
          refine top_i (show (nI 1) = nI (decide (d = sw j ∧ lo j ≤ mm * st ∧ mm * st ≤ hi j ∧ mm * st ≤ bw) && allB (mP ag fd mg st x mm y d j) 0).toNat from congrArg nI (by rw [decide_eq_true (by omega)]; rfl)) ?_
          refine lv_istore (lv' := [(7, .int (nI ((decide (d = sw j ∧ lo j ≤ mm * st ∧ mm * st ≤ hi j ∧ mm * st ≤ bw) && allB (mP ag fd mg st x mm y d j) 0).toNat))), (6, .int (nI (mm * st))), (0, .ref hM), (1, .int (nI j)), (2, .int (nI x)), (3, .int (nI (x + mm))), (4, .int (nI y)), (5, .int (nI (y + d)))]) hx hb d_Model_may_60 hl (by decide) rfl (fun ls hl => ?_)
          refine lv_iconst (v := (nI 0)) hx hb d_Model_may_62 (by decide) ?_
          refine lv_istore (lv' := [(8, .int (nI 0)), (7, .int (nI ((decide (d = sw j ∧ lo j ≤ mm * st ∧ mm * st ≤ hi j ∧ mm * st ≤ bw) && allB (mP ag fd mg st x mm y d j) 0).toNat))), (6, .int (nI (mm * st))), (0, .ref hM), (1, .int (nI j)), (2, .int (nI x)), (3, .int (nI (x + mm))), (4, .int (nI y)), (5, .int (nI (y + d)))]) hx hb d_Model_may_63 hl (by decide) rfl (fun ls hl => ?_)
          have L65 : ∀ (k9 : Nat) (i : Nat) (ls : Array Slot), (i ≤ nf) → nf - i < k9 → lv_has ls 9 [(0, .ref hM), (1, .int (nI j)), (2, .int (nI x)), (3, .int (nI (x + mm))), (4, .int (nI y)), (5, .int (nI (y + d))), (7, .int (nI ((decide (d = sw j ∧ lo j ≤ mm * st ∧ mm * st ≤ hi j ∧ mm * st ≤ bw) && allB (mP ag fd mg st x mm y d j) i).toNat))), (8, .int (nI i))] → W p l e { frames := 1, cells := 0, slots := 0, locals := 27 } s m [.ref hM, .int (nI j), .int (nI x), .int (nI (x + mm)), .int (nI y), .int (nI (y + d))].toArray below meth c s.heap [] 0 0 (MQ below (q_Model_may G ty hM cd st al ac nf ns gg mg bw md wy sg_ sz_ ks bd aM j x mm y d fd sw lo hi ag) [.ref hM, .int (nI j), .int (nI x), .int (nI (x + mm)), .int (nI y), .int (nI (y + d))].toArray s 0 0 (fun _ => False)) (F0 m 65 ls []) := by
            intro k9
            induction k9 with
            | zero => intro i ls hi1 hk9; exact absurd hk9 (Nat.not_lt_zero _)
            | succ k9 ih65 =>
              intro i ls hi1 hk9 hl
              refine lv_iload hx hb d_Model_may_65 (lv_at hl 7 rfl) ?_
              refine lv_aload_n hx hb d_Model_may_67 rfl (lv_at hl 0 rfl) ?_
              refine va_get (D := G) (ci := 10) (v := .int (nI nf)) (C := R_Model) (T := F_Model) (N := 47) hx hb hts in_Model hown hK hP 0 rfl rfl 4 (by decide) (hts _ fl_Model_149) (fun _ h9 => h9) rfl d_Model_may_68 ?_
              refine n_icmp_ge (tgt := 138) hx hb (by omega) (by omega) d_Model_may_71 (by decide) (fun c71 => ?_) (fun c71 => ?_)
              · refine lv_iload hx hb d_Model_may_138 (lv_at hl 6 rfl) ?_
                exact W.zret (v := (nI ((decide (d = sw j ∧ lo j ≤ mm * st ∧ mm * st ≤ hi j ∧ mm * st ≤ bw) && allB (mP ag fd mg st x mm y d j) i).toNat))) hx hb hr (nar_tN _) (fun t9 ht _ => ⟨_, rfl, congrArg nI (by unfold mB; first | (rw [show i = nf from by omega]) | (have hh := tN_0 c76; rw [hh]; rcases Bool.and_eq_false_iff.mp hh with q | q; exact (by rw [q]; rfl); exact (by rw [allB_f hi1 q, Bool.and_false]))), ht⟩) (fun q h => by cases h) d_Model_may_140
              · refine lv_iload hx hb d_Model_may_74 (lv_at hl 6 rfl) ?_
                refine n_if_eq (tgt := 138) hx hb (tN_lt _) d_Model_may_76 (by decide) (fun c76 => ?_) (fun c76 => ?_)
                · refine lv_iload hx hb d_Model_may_138 (lv_at hl 6 rfl) ?_
                  exact W.zret (v := (nI ((decide (d = sw j ∧ lo j ≤ mm * st ∧ mm * st ≤ hi j ∧ mm * st ≤ bw) && allB (mP ag fd mg st x mm y d j) i).toNat))) hx hb hr (nar_tN _) (fun t9 ht _ => ⟨_, rfl, congrArg nI (by unfold mB; first | (rw [show i = nf from by omega]) | (have hh := tN_0 c76; rw [hh]; rcases Bool.and_eq_false_iff.mp hh with q | q; exact (by rw [q]; rfl); exact (by rw [allB_f hi1 q, Bool.and_false]))), ht⟩) (fun q h => by cases h) d_Model_may_140
                · have hF : (0 ≤ col fd 0 i ∧ col fd 0 i ≤ 1) ∧ (0 ≤ col fd 1 i ∧ col fd 1 i ≤ 7) := ⟨(gF.2 i (by omega)).1, (gF.2 i (by omega)).2.1⟩
                  refine lv_aload_n hx hb d_Model_may_79 rfl (lv_at hl 0 rfl) ?_
                  refine va_get (D := G) (ci := 10) (v := .ref (aM 16)) (C := R_Model) (T := F_Model) (N := 47) hx hb hts in_Model hown hK hP 0 rfl rfl 16 (by decide) (hts _ fl_Model_41) (fun _ h9 => h9) rfl d_Model_may_80 ?_
                  refine lv_bipush (v := (nI 16)) hx hb d_Model_may_83 (by decide) ?_
                  refine lv_iload_n hx hb d_Model_may_85 rfl (lv_at hl 1 rfl) ?_
                  refine n_imul hx hb d_Model_may_86 ?_
                  refine lv_bipush (v := (nI 8)) hx hb d_Model_may_87 (by decide) ?_
                  refine lv_aload_n hx hb d_Model_may_89 rfl (lv_at hl 0 rfl) ?_
                  refine va_get (D := G) (ci := 10) (v := .ref (aM 5)) (C := R_Model) (T := F_Model) (N := 47) hx hb hts in_Model hown hK hP 0 rfl rfl 5 (by decide) (hts _ fl_Model_7) (fun _ h9 => h9) rfl d_Model_may_90 ?_
                  refine lv_iload hx hb d_Model_may_93 (lv_at hl 7 rfl) ?_
                  refine n_iald hx hb hK hP 5 0 rfl rfl (by omega) (by omega) d_Model_may_95 ?_
                  refine nz_imul hx hb d_Model_may_96 ?_
                  refine nz_iadd hx hb d_Model_may_97 ?_
                  refine lv_aload_n hx hb d_Model_may_98 rfl (lv_at hl 0 rfl) ?_
                  refine va_get (D := G) (ci := 10) (v := .ref (aM 6)) (C := R_Model) (T := F_Model) (N := 47) hx hb hts in_Model hown hK hP 0 rfl rfl 6 (by decide) (hts _ fl_Model_13) (fun _ h9 => h9) rfl d_Model_may_99 ?_
                  refine lv_iload hx hb d_Model_may_102 (lv_at hl 7 rfl) ?_
                  refine n_iald hx hb hK hP 6 0 rfl rfl (by omega) (by omega) d_Model_may_104 ?_
                  refine z_iadd hx hb d_Model_may_105 ?_
                  refine top_i (show (iI ((((16 * j : Nat) : Int) + (((8 : Nat) : Int) * ((col fd 0) i))) + ((col fd 1) i))) = (nI (((((16 * j : Nat) : Int) + ((8 : Nat) : Int) * col fd 0 i) + col fd 1 i).toNat)) from iI_nI (by omega)) ?_
                  refine n_zald hx hb hK hP 10 2 rfl rfl (by omega) (by omega) d_Model_may_106 ?_
                  refine n_if_ne (tgt := 125) hx hb (tN_lt _) d_Model_may_107 (by decide) (fun c107 => ?_) (fun c107 => ?_)
                  · refine lv_iconst (v := (nI 1)) hx hb d_Model_may_125 (by decide) ?_
                    refine lv_goto (tgt := 130) hx hb d_Model_may_126 (by decide) ?_
                    refine top_i (show (nI 1) = nI (decide (d = sw j ∧ lo j ≤ mm * st ∧ mm * st ≤ hi j ∧ mm * st ≤ bw) && allB (mP ag fd mg st x mm y d j) (i + 1)).toNat from congrArg nI (by have hh := tN_1 c76; rw [allB_s, ← Bool.and_assoc, hh, Bool.true_and]; unfold mP; first | (rw [tN_1 c107]; rfl) | (rw [tN_0 c107, tN_0 c122]; rfl) | (rw [tN_0 c107, tN_1 c122]; rfl))) ?_
                    refine lv_istore (lv' := [(7, .int (nI ((decide (d = sw j ∧ lo j ≤ mm * st ∧ mm * st ≤ hi j ∧ mm * st ≤ bw) && allB (mP ag fd mg st x mm y d j) (i + 1)).toNat))), (0, .ref hM), (1, .int (nI j)), (2, .int (nI x)), (3, .int (nI (x + mm))), (4, .int (nI y)), (5, .int (nI (y + d))), (8, .int (nI i))]) hx hb d_Model_may_130 hl (by decide) rfl (fun ls hl => ?_)
                    refine lv_iinc (v := (nI (i + 1))) (lv' := [(8, .int (nI (i + 1))), (7, .int (nI ((decide (d = sw j ∧ lo j ≤ mm * st ∧ mm * st ≤ hi j ∧ mm * st ≤ bw) && allB (mP ag fd mg st x mm y d j) (i + 1)).toNat))), (0, .ref hM), (1, .int (nI j)), (2, .int (nI x)), (3, .int (nI (x + mm))), (4, .int (nI y)), (5, .int (nI (y + d)))]) hx hb d_Model_may_132 hl (k := 7) rfl (nI_inc _ _ _ (by omega)) (by decide) rfl (fun ls hl => ?_)
                    refine lv_goto (tgt := 65) hx hb d_Model_may_135 (by decide) ?_
                    exact ih65 (i + 1) _ (by omega) (by omega) (lv_sub hl [2, 3, 4, 5, 6, 7, 1, 0] rfl)
                  · refine lv_aload_n hx hb d_Model_may_110 rfl (lv_at hl 0 rfl) ?_
                    refine lv_iload hx hb d_Model_may_111 (lv_at hl 7 rfl) ?_
                    refine lv_iload_n hx hb d_Model_may_113 rfl (lv_at hl 2 rfl) ?_
                    refine lv_iload_n hx hb d_Model_may_114 rfl (lv_at hl 3 rfl) ?_
                    refine lv_iload hx hb d_Model_may_115 (lv_at hl 4 rfl) ?_
                    refine lv_iload hx hb d_Model_may_117 (lv_at hl 5 rfl) ?_
                    refine vp_callSi (W.runV (As := [.int (nI i), .int (nI x), .int (nI (x + mm)), .int (nI y), .int (nI (y + d))]) (rest := []) ⟨hx, hb, hml, hown, hts⟩ (c_Model_isOver l G ty hM cd st al ac nf ns gg mg bw md wy sg_ sz_ ks bd aM i x (x + mm) y (y + d) fd (by omega) gF (by omega) (by omega) (by omega) (by omega) (by omega) (by omega)) ⟨callB_of 5 hts (gd_TB cd_Model_isOver) rfl rfl rfl (hts _ ini_Model) (hts _ lk_Model_178) hd_Model_isOver ⟨Nat.le_of_ble_eq_true rfl, Nat.le_of_ble_eq_true rfl⟩, hts _ im_Model_isOver, hts _ sl_Model_isOver⟩ (preV_ro (hP.sub (ws' := [(hM, .inr (10, mO cd st al ac nf ns gg mg bw md wy sg_ sz_ ks bd aM)), (aM 7, .inl (ty 0, 20, .inl (zF (col fd 2)))), (aM 8, .inl (ty 0, 20, .inl (zF (col fd 3)))), (aM 9, .inl (ty 0, 20, .inl (zF (col fd 4)))), (aM 10, .inl (ty 0, 20, .inl (zF (col fd 5))))]) [0, 1, 2, 3, 4] rfl) hX 0 rfl rfl) rfl rfl hl.1 rfl (lv_room (Nat.le_of_ble_eq_true rfl)) d_Model_may_119 ⟨Nat.le_of_ble_eq_true rfl, Nat.le_of_ble_eq_true rfl⟩) (fun r9 er9 => ?_)
                    subst er9
                    refine n_if_ne (tgt := 129) hx hb (tN_lt _) d_Model_may_122 (by decide) (fun c122 => ?_) (fun c122 => ?_)
                    · refine lv_iconst (v := (nI 0)) hx hb d_Model_may_129 (by decide) ?_
                      refine top_i (show (nI 0) = nI (decide (d = sw j ∧ lo j ≤ mm * st ∧ mm * st ≤ hi j ∧ mm * st ≤ bw) && allB (mP ag fd mg st x mm y d j) (i + 1)).toNat from congrArg nI (by have hh := tN_1 c76; rw [allB_s, ← Bool.and_assoc, hh, Bool.true_and]; unfold mP; first | (rw [tN_1 c107]; rfl) | (rw [tN_0 c107, tN_0 c122]; rfl) | (rw [tN_0 c107, tN_1 c122]; rfl))) ?_
                      refine lv_istore (lv' := [(7, .int (nI ((decide (d = sw j ∧ lo j ≤ mm * st ∧ mm * st ≤ hi j ∧ mm * st ≤ bw) && allB (mP ag fd mg st x mm y d j) (i + 1)).toNat))), (0, .ref hM), (1, .int (nI j)), (2, .int (nI x)), (3, .int (nI (x + mm))), (4, .int (nI y)), (5, .int (nI (y + d))), (8, .int (nI i))]) hx hb d_Model_may_130 hl (by decide) rfl (fun ls hl => ?_)
                      refine lv_iinc (v := (nI (i + 1))) (lv' := [(8, .int (nI (i + 1))), (7, .int (nI ((decide (d = sw j ∧ lo j ≤ mm * st ∧ mm * st ≤ hi j ∧ mm * st ≤ bw) && allB (mP ag fd mg st x mm y d j) (i + 1)).toNat))), (0, .ref hM), (1, .int (nI j)), (2, .int (nI x)), (3, .int (nI (x + mm))), (4, .int (nI y)), (5, .int (nI (y + d)))]) hx hb d_Model_may_132 hl (k := 7) rfl (nI_inc _ _ _ (by omega)) (by decide) rfl (fun ls hl => ?_)
                      refine lv_goto (tgt := 65) hx hb d_Model_may_135 (by decide) ?_
                      exact ih65 (i + 1) _ (by omega) (by omega) (lv_sub hl [2, 3, 4, 5, 6, 7, 1, 0] rfl)
                    · refine lv_iconst (v := (nI 1)) hx hb d_Model_may_125 (by decide) ?_
                      refine lv_goto (tgt := 130) hx hb d_Model_may_126 (by decide) ?_
                      refine top_i (show (nI 1) = nI (decide (d = sw j ∧ lo j ≤ mm * st ∧ mm * st ≤ hi j ∧ mm * st ≤ bw) && allB (mP ag fd mg st x mm y d j) (i + 1)).toNat from congrArg nI (by have hh := tN_1 c76; rw [allB_s, ← Bool.and_assoc, hh, Bool.true_and]; unfold mP; first | (rw [tN_1 c107]; rfl) | (rw [tN_0 c107, tN_0 c122]; rfl) | (rw [tN_0 c107, tN_1 c122]; rfl))) ?_
                      refine lv_istore (lv' := [(7, .int (nI ((decide (d = sw j ∧ lo j ≤ mm * st ∧ mm * st ≤ hi j ∧ mm * st ≤ bw) && allB (mP ag fd mg st x mm y d j) (i + 1)).toNat))), (0, .ref hM), (1, .int (nI j)), (2, .int (nI x)), (3, .int (nI (x + mm))), (4, .int (nI y)), (5, .int (nI (y + d))), (8, .int (nI i))]) hx hb d_Model_may_130 hl (by decide) rfl (fun ls hl => ?_)
                      refine lv_iinc (v := (nI (i + 1))) (lv' := [(8, .int (nI (i + 1))), (7, .int (nI ((decide (d = sw j ∧ lo j ≤ mm * st ∧ mm * st ≤ hi j ∧ mm * st ≤ bw) && allB (mP ag fd mg st x mm y d j) (i + 1)).toNat))), (0, .ref hM), (1, .int (nI j)), (2, .int (nI x)), (3, .int (nI (x + mm))), (4, .int (nI y)), (5, .int (nI (y + d)))]) hx hb d_Model_may_132 hl (k := 7) rfl (nI_inc _ _ _ (by omega)) (by decide) rfl (fun ls hl => ?_)
                      refine lv_goto (tgt := 65) hx hb d_Model_may_135 (by decide) ?_
                      exact ih65 (i + 1) _ (by omega) (by omega) (lv_sub hl [2, 3, 4, 5, 6, 7, 1, 0] rfl)
          exact L65 (nf - 0 + 1) 0 _ (Nat.zero_le _) (Nat.lt_succ_self _) (lv_sub hl [3, 4, 5, 6, 7, 8, 1, 0] rfl)
