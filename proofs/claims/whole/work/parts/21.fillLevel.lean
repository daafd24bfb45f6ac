theorem lk_Cutter_144 : Cond.methodLink R_Cutter 144 y_Cutter_axisOf ∈ TB := mem_TB 648 (by decide +kernel) (by decide +kernel)
theorem lk_Cutter_147 : Cond.methodLink R_Cutter 147 y_Board_stepsOf ∈ TB := mem_TB 652 (by decide +kernel) (by decide +kernel)
theorem lk_Cutter_150 : Cond.methodLink R_Cutter 150 y_Cutter_fillTo ∈ TB := mem_TB 653 (by decide +kernel) (by decide +kernel)

theorem dpV_bM {seg : Nat → Nat → Int} {ok : Nat → Bool} {e b : Nat} {M : Int} (hM : 0 ≤ M) (he : e ≤ 24) (hb : b ≤ e) (h : ∀ i j, i < j → j ≤ e → 0 ≤ seg i j ∧ seg i j ≤ M) : 0 ≤ dpV seg ok b e ∧ dpV seg ok b e ≤ 24 * M := by
  refine ⟨dpV_nonneg _ b rfl hb, ?_⟩
  have h1 := dpV_le (seg := seg) (ok := ok) hM _ b rfl hb (fun i j h1 h2 h3 => by
    have q := (h i j h2 h3).2
    have q2 : M * 1 ≤ M * ((j - i : Nat) : Int) := Int.mul_le_mul_of_nonneg_left (by omega) hM
    omega)
  have h2 : M * ((e - b : Nat) : Int) ≤ M * 24 := Int.mul_le_mul_of_nonneg_left (by omega) hM
  omega
/-- the places of a table: spans along an axis, spans along the other -/
theorem plc_lt {wd al ax s1 s2 : Nat} (h : ax ≤ 1) (h1 : s1 < (if ax = 0 then wd * (wd + 1) / 2 else al * (al + 1) / 2)) (h2 : s2 < (if ax = 0 then al * (al + 1) / 2 else wd * (wd + 1) / 2)) : plc (al * (al + 1) / 2) ax s1 s2 < wd * (wd + 1) / 2 * (al * (al + 1) / 2) := by
  generalize wd * (wd + 1) / 2 = x at *
  generalize al * (al + 1) / 2 = y at *
  unfold plc
  rcases (show ax = 0 ∨ ax = 1 by omega) with rfl | rfl
  · simp only [if_true, Nat.sub_zero, if_neg (show ¬ (1 = 0) by omega)] at *
    have h3 : (s1 + 1) * y ≤ x * y := Nat.mul_le_mul_right _ h1
    rw [Nat.add_mul] at h3
    omega
  · simp only [if_neg (show ¬ (1 = 0) by omega), Nat.sub_self, if_true] at *
    have h3 : (s2 + 1) * y ≤ x * y := Nat.mul_le_mul_right _ h2
    rw [Nat.add_mul] at h3
    omega
theorem plc_inj {sA ax s1 s2 o1 o2 : Nat} (h : ax ≤ 1) (h1 : if ax = 0 then o1 < sA ∧ o2 < sA else s1 < sA ∧ s2 < sA) (he : plc sA ax s1 o1 = plc sA ax s2 o2) : s1 = s2 ∧ o1 = o2 := by
  unfold plc at he
  have key : ∀ a b c d : Nat, b < sA → d < sA → a * sA + b = c * sA + d → a = c ∧ b = d := by
    intro a b c d hb hd e
    rcases Nat.lt_trichotomy a c with q | q | q
    · have : (a + 1) * sA ≤ c * sA := Nat.mul_le_mul_right _ q
      rw [Nat.add_mul] at this
      omega
    · subst q; omega
    · have : (c + 1) * sA ≤ a * sA := Nat.mul_le_mul_right _ q
      rw [Nat.add_mul] at this
      omega
  rcases (show ax = 0 ∨ ax = 1 by omega) with rfl | rfl
  · simp only [if_true, Nat.sub_zero, if_neg (show ¬ (1 = 0) by omega)] at *
    have := key s1 o1 s2 o2 h1.1 h1.2 (by omega)
    exact this
  · simp only [if_neg (show ¬ (1 = 0) by omega), Nat.sub_self, if_true] at *
    have := key o1 s1 o2 s2 h1.1 h1.2 (by omega)
    exact ⟨this.2, this.1⟩
theorem sp_inj {b1 n1 b2 n2 : Nat} (h1 : b1 < n1) (h2 : b2 < n2) (h : n1 * (n1 - 1) / 2 + b1 = n2 * (n2 - 1) / 2 + b2) : n1 = n2 ∧ b1 = b2 := by
  rcases Nat.lt_trichotomy n1 n2 with q | q | q
  · exact absurd h (spne (by omega) (by omega) h1 h2 (Or.inl q))
  · subst q; exact ⟨rfl, by omega⟩
  · exact absurd h (spne (by omega) (by omega) h1 h2 (Or.inr (Or.inl q)))

theorem pl_ne {sA ax e1 p1 o1 e2 p2 o2 : Nat} (hax : ax ≤ 1) (h1 : p1 < e1) (h2 : p2 < e2) (r1 : if ax = 0 then o1 < sA else e1 * (e1 - 1) / 2 + p1 < sA) (r2 : if ax = 0 then o2 < sA else e2 * (e2 - 1) / 2 + p2 < sA) (hd : e1 ≠ e2 ∨ o1 ≠ o2) : plc sA ax (e1 * (e1 - 1) / 2 + p1) o1 ≠ plc sA ax (e2 * (e2 - 1) / 2 + p2) o2 := fun q => by
  obtain ⟨a, b⟩ := plc_inj hax (by
    rcases (show ax = 0 ∨ ax = 1 by omega) with rfl | rfl
    · simp only [if_true] at *; exact ⟨r1, r2⟩
    · simp only [if_neg (show ¬ (1 = 0) by omega)] at *; exact ⟨r1, r2⟩) q
  obtain ⟨c, d⟩ := sp_inj h1 h2 a
  omega
/-- the spans of the other axis, and of this one, are in the table's range -/
theorem rg_o {wd al ax nO o : Nat} (hax : ax ≤ 1) (hO : nO = if 1 - ax = 0 then wd else al) (h1 : 1 ≤ nO) (ho : o ≤ nO * (nO - 1) / 2 + (nO - 1)) : o < (if ax = 0 then al * (al + 1) / 2 else wd * (wd + 1) / 2) := by
  have h := sp_lt (b := nO - 1) (n := nO) (N := nO) (by omega) h1 (Nat.le_refl _)
  rcases (show ax = 0 ∨ ax = 1 by omega) with rfl | rfl
  · simp only [Nat.sub_zero, if_neg (show ¬ (1 = 0) by omega)] at hO
    subst hO
    rw [if_pos rfl]; omega
  · simp only [Nat.sub_self, if_true] at hO
    subst hO
    rw [if_neg (by omega)]; omega
theorem rg_s {wd al ax nS e p : Nat} (hax : ax ≤ 1) (hS : nS = if ax = 0 then wd else al) (he : e ≤ nS) (hp : p < e) : e * (e - 1) / 2 + p < (if ax = 0 then wd * (wd + 1) / 2 else al * (al + 1) / 2) := by
  have h := sp_lt (b := p) (n := e) (N := nS) hp (by omega) he
  rcases (show ax = 0 ∨ ax = 1 by omega) with rfl | rfl
  · simp only [if_true] at hS
    subst hS
    rw [if_pos rfl]; exact h
  · simp only [if_neg (show ¬ (1 = 0) by omega)] at hS
    subst hS
    rw [if_neg (by omega)]; exact h
theorem rg_x {wd al ax nS nO o e p : Nat} (hax : ax ≤ 1) (hS : nS = if ax = 0 then wd else al) (hO : nO = if 1 - ax = 0 then wd else al) (h1 : 1 ≤ nO) (ho : o ≤ nO * (nO - 1) / 2 + (nO - 1)) (he : e ≤ nS) (hp : p < e) : if ax = 0 then o < al * (al + 1) / 2 else e * (e - 1) / 2 + p < al * (al + 1) / 2 := by
  have a := rg_o hax hO h1 ho
  have b := rg_s hax hS he hp
  rcases (show ax = 0 ∨ ax = 1 by omega) with rfl | rfl
  · simp only [if_true] at a ⊢; exact a
  · simp only [if_neg (show ¬ (1 = 0) by omega)] at b ⊢; exact b

abbrev q_fillLevel11 (G : va_G) (ty : Nat → ClassId) (hC : Nat) (hB : Nat) (hT : Nat) (sA : Nat) (aZ : Nat) (aE : Nat) (tx : Nat) (tb : Int32) (aF : Nat) (aX : Nat) (aY : Nat) (st : Nat) (wd : Nat) (al : Nat) (nf : Nat) (mg : Nat) (nT : Nat) (nb : Nat) (fZ : Nat → Option Nat) (aL : Nat → Nat) (u : Nat → Int) (t : Nat → Int) (re : Nat → Int) (ob : Nat → Bool) (Bd : Int) (A : Nat → Prop) : Array Value → State → Outcome → State → Prop := va_Qv (fun (uu : (Nat → Int) × (Nat → Int)) => (∀ ot e p, (if 1 - tx = 0 then wd else al) * ((if 1 - tx = 0 then wd else al) - 1) / 2 + 0 ≤ ot → ot ≤ (if 1 - tx = 0 then wd else al) * ((if 1 - tx = 0 then wd else al) - 1) / 2 + 0 → (if tx = 0 then wd else al) ≤ e → e ≤ (if tx = 0 then wd else al) → p < e → uu.1 (plc sA tx (e * (e - 1) / 2 + p) ot) = dpV (sg u sA tx ot) (okc 1 1 ob) p e) ∧ (∀ q, q < nT → 0 ≤ uu.1 q ∧ uu.1 q ≤ 24 * Bd)) (at_W G (fun (uu : (Nat → Int) × (Nat → Int)) => [(hC, .inr (1, [.ref hB, .ref hT, .int (nI sA), .ref aZ, .ref aE, .int (nI tx), .int (nI 1), .int tb])), (hB, .inr (0, [.int (nI st), .int (nI wd), .int (nI al), .ref aF, .int (nI nf), .int (nI mg), .ref aX, .ref aY])), (aZ, .inl (ty 6, 4, .inr (.inr (.inr (.inr fZ))))), (aL 0, .inl (ty 1, nT, .inr (.inl (lF u)))), (aL 1, .inl (ty 1, nT, .inr (.inl (lF uu.1)))), (aE, .inl (ty 1, 25, .inr (.inl (lF uu.2))))]) A) A
set_option maxRecDepth 100000 in
set_option maxHeartbeats 4000000 in
theorem c_fillLevel11 (l : Launch) (G : va_G) (ty : Nat → ClassId) (sz : Nat) (hC : Nat) (hB : Nat) (hT : Nat) (sA : Nat) (aZ : Nat) (aE : Nat) (tx : Nat) (tb : Int32) (aF : Nat) (aX : Nat) (aY : Nat) (st : Nat) (wd : Nat) (al : Nat) (nf : Nat) (mg : Nat) (nT : Nat) (nb : Nat) (fZ : Nat → Option Nat) (aL : Nat → Nat) (u : Nat → Int) (t : Nat → Int) (re : Nat → Int) (ob : Nat → Bool) (Bd : Int) (gl : ∀ i, i < 4 → fZ i = some (aL i)) (g1 : tx ≤ 1) (g2 : 1 ≤ wd) (g3 : wd ≤ 10) (g4 : 1 ≤ al) (g5 : al ≤ 24) (gA : sA = al * (al + 1) / 2) (gT : nT = wd * (wd + 1) / 2 * sA) (g6 : nb ≤ 25) (g7 : (if tx = 0 then wd else al) < nb) (gb : tb = Mk ob nb) (gB : 0 ≤ Bd ∧ Bd ≤ 4000000000000) (gu : ∀ q, q < nT → 0 ≤ u q ∧ u q ≤ Bd) (gt0 : ∀ q, q < nT → 0 ≤ t q ∧ t q ≤ 24 * Bd) : Met l y_Cutter_fillLevel ws_Cutter_fillLevel { frames := 3, cells := 0, slots := 0, locals := 78 } (va_Pc [.ref hC, .int (nI 1)] (fun U => U.heap.size = sz ∧ va_P G vwCl [(hC, .inr (1, [.ref hB, .ref hT, .int (nI sA), .ref aZ, .ref aE, .int (nI tx), .int (nI 1), .int tb])), (hB, .inr (0, [.int (nI st), .int (nI wd), .int (nI al), .ref aF, .int (nI nf), .int (nI mg), .ref aX, .ref aY])), (aZ, .inl (ty 6, 4, .inr (.inr (.inr (.inr fZ))))), (aL 0, .inl (ty 1, nT, .inr (.inl (lF u)))), (aL 1, .inl (ty 1, nT, .inr (.inl (lF t)))), (aE, .inl (ty 1, 25, .inr (.inl (lF re))))] U.heap ∧ KX G ty U ∧ va_D (fun _ => True) [(hC, .inr (1, [.ref hB, .ref hT, .int (nI sA), .ref aZ, .ref aE, .int (nI tx), .int (nI 1), .int tb])), (hB, .inr (0, [.int (nI st), .int (nI wd), .int (nI al), .ref aF, .int (nI nf), .int (nI mg), .ref aX, .ref aY])), (aZ, .inl (ty 6, 4, .inr (.inr (.inr (.inr fZ))))), (aL 0, .inl (ty 1, nT, .inr (.inl (lF u)))), (aL 1, .inl (ty 1, nT, .inr (.inl (lF t)))), (aE, .inl (ty 1, 25, .inr (.inl (lF re))))])) (q_fillLevel11 G ty hC hB hT sA aZ aE tx tb aF aX aY st wd al nf mg nT nb fZ aL u t re ob Bd (va_A [(hC, .inr (1, [.ref hB, .ref hT, .int (nI sA), .ref aZ, .ref aE, .int (nI tx), .int (nI 1), .int tb])), (hB, .inr (0, [.int (nI st), .int (nI wd), .int (nI al), .ref aF, .int (nI nf), .int (nI mg), .ref aX, .ref aY])), (aZ, .inl (ty 6, 4, .inr (.inr (.inr (.inr fZ))))), (aL 0, .inl (ty 1, nT, .inr (.inl (lF u)))), (aL 1, .inl (ty 1, nT, .inr (.inl (lF t)))), (aE, .inl (ty 1, 25, .inr (.inl (lF re))))] sz)) 0 0 (va_A [(hC, .inr (1, [.ref hB, .ref hT, .int (nI sA), .ref aZ, .ref aE, .int (nI tx), .int (nI 1), .int tb])), (hB, .inr (0, [.int (nI st), .int (nI wd), .int (nI al), .ref aF, .int (nI nf), .int (nI mg), .ref aX, .ref aY])), (aZ, .inl (ty 6, 4, .inr (.inr (.inr (.inr fZ))))), (aL 0, .inl (ty 1, nT, .inr (.inl (lF u)))), (aL 1, .inl (ty 1, nT, .inr (.inl (lF t)))), (aE, .inl (ty 1, 25, .inr (.inl (lF re))))] sz) := by
  refine met_wr (y := y_Cutter_fillLevel) (maxL := 10) (sz := sz) (G := G) (ty := ty) (mc := 0) (ms := 0) (av := [.ref hC, .int (nI 1)]) (W0 := [(hC, .inr (1, [.ref hB, .ref hT, .int (nI sA), .ref aZ, .ref aE, .int (nI tx), .int (nI 1), .int tb])), (hB, .inr (0, [.int (nI st), .int (nI wd), .int (nI al), .ref aF, .int (nI nf), .int (nI mg), .ref aX, .ref aY])), (aZ, .inl (ty 6, 4, .inr (.inr (.inr (.inr fZ))))), (aL 0, .inl (ty 1, nT, .inr (.inl (lF u)))), (aL 1, .inl (ty 1, nT, .inr (.inl (lF t)))), (aE, .inl (ty 1, 25, .inr (.inl (lF re))))]) (fun A => q_fillLevel11 G ty hC hB hT sA aZ aE tx tb aF aX aY st wd al nf mg nT nb fZ aL u t re ob Bd A) R_Cutter (by decide) rfl rfl (Nat.le_of_ble_eq_true rfl) ?_
  intro p e s m below meth c ls A hx hb hr hml hown hts hlocks hin hA hP hX hD hS hl
  have hK := hX.1
  have hl : lv_has ls 10 [(0, .ref hC), (1, .int (nI 1))] := hl
  obtain ⟨ax, eax⟩ : ∃ ax, ax = tx := ⟨_, rfl⟩
  have hax : ax ≤ 1 := by omega
  obtain ⟨nS, eS⟩ : ∃ nS, nS = (if ax = 0 then wd else al) := ⟨_, rfl⟩
  obtain ⟨nO, eO⟩ : ∃ nO, nO = (if 1 - ax = 0 then wd else al) := ⟨_, rfl⟩
  have hS1 : 1 ≤ nS ∧ nS ≤ 24 := by rw [eS]; split <;> omega
  have hO1 : 1 ≤ nO ∧ nO ≤ 24 := by rw [eO]; split <;> omega
  have hO2 : nO * (nO - 1) / 2 ≤ 300 := by have := Nat.mul_le_mul hO1.2 (show nO - 1 ≤ 24 by omega); omega
  have hnT : nT ≤ 100000 := by rw [gT, gA]; have a1 : wd * (wd + 1) ≤ 10 * 11 := Nat.mul_le_mul g3 (by omega); have a2 : al * (al + 1) ≤ 24 * 25 := Nat.mul_le_mul g5 (by omega); exact Nat.le_trans (Nat.mul_le_mul (show wd * (wd + 1) / 2 ≤ 55 by omega) (show al * (al + 1) / 2 ≤ 300 by omega)) (by omega)
  have hsA : 1 ≤ sA := by rw [gA]; have := sp_lt (b := 0) (n := al) (N := al) (by omega) g4 (Nat.le_refl _); omega
  have hnb : 1 < 1 ∨ nS < nb := Or.inr (by rw [eS, eax]; exact g7)
  refine lv_aload_n hx hb d_Cutter_fillLevel_0 rfl (lv_at hl 0 rfl) ?_
  refine lv_iload_n hx hb d_Cutter_fillLevel_1 rfl (lv_at hl 1 rfl) ?_
  refine vp_callSi (W.runV (As := [.int (nI 1)]) (rest := []) ⟨hx, hb, hml, hown, hts⟩ (c_Cutter_axisOf l G ty hC hB hT sA aZ aE tx 1 tb 1 (by omega) (by omega) (by omega)) ⟨callB_of 1 hts (gd_TB cd_Cutter_axisOf) rfl rfl rfl (hts _ ini_Cutter) (hts _ lk_Cutter_144) hd_Cutter_axisOf ⟨Nat.le_of_ble_eq_true rfl, Nat.le_of_ble_eq_true rfl⟩, hts _ im_Cutter_axisOf, hts _ sl_Cutter_axisOf⟩ (preV_ro (hP.sub (ws' := [(hC, .inr (1, [.ref hB, .ref hT, .int (nI sA), .ref aZ, .ref aE, .int (nI tx), .int (nI 1), .int tb]))]) [0] rfl) hX 0 rfl rfl) rfl rfl hl.1 rfl (lv_room (Nat.le_of_ble_eq_true rfl)) d_Cutter_fillLevel_2 ⟨Nat.le_of_ble_eq_true rfl, Nat.le_of_ble_eq_true rfl⟩) (fun r9 er9 => ?_)
  subst er9
  refine top_i (show (nI (if (1 - 1) % 2 = 0 then tx else 1 - tx)) = (nI ax) from congrArg nI (by rw [eax]; rfl)) ?_
  refine lv_istore_n (lv' := [(2, .int (nI ax)), (0, .ref hC), (1, .int (nI 1))]) hx hb d_Cutter_fillLevel_5 rfl hl (by decide) rfl (fun ls hl => ?_)
  refine lv_aload_n hx hb d_Cutter_fillLevel_6 rfl (lv_at hl 1 rfl) ?_
  refine va_get (D := G) (ci := 1) (v := .ref hB) (C := R_Cutter) (T := F_Cutter) (N := 8) hx hb hts in_Cutter hown hK hP 0 rfl rfl 0 (by decide) (hts _ fl_Cutter_30) (fun _ h9 => h9) rfl d_Cutter_fillLevel_7 ?_
  refine lv_iload_n hx hb d_Cutter_fillLevel_10 rfl (lv_at hl 0 rfl) ?_
  refine vp_callSi (W.runV (As := [.int (nI ax)]) (rest := []) ⟨hx, hb, hml, hown, hts⟩ (c_Board_stepsOf l G ty hB aF aX aY st wd al nf mg ax (by omega)) ⟨callB_of 1 hts (gd_TB cd_Board_stepsOf) rfl rfl rfl (hts _ ini_Board) (hts _ lk_Cutter_147) hd_Board_stepsOf ⟨Nat.le_of_ble_eq_true rfl, Nat.le_of_ble_eq_true rfl⟩, hts _ im_Board_stepsOf, hts _ sl_Board_stepsOf⟩ (preV_ro (hP.sub (ws' := [(hB, .inr (0, [.int (nI st), .int (nI wd), .int (nI al), .ref aF, .int (nI nf), .int (nI mg), .ref aX, .ref aY]))]) [1] rfl) hX 0 rfl rfl) rfl rfl hl.1 rfl (lv_room (Nat.le_of_ble_eq_true rfl)) d_Cutter_fillLevel_11 ⟨Nat.le_of_ble_eq_true rfl, Nat.le_of_ble_eq_true rfl⟩) (fun r9 er9 => ?_)
  subst er9
  refine top_i (show (nI (if ax = 0 then wd else al)) = (nI nS) from congrArg nI eS.symm) ?_
  refine lv_istore_n (lv' := [(3, .int (nI nS)), (2, .int (nI ax)), (0, .ref hC), (1, .int (nI 1))]) hx hb d_Cutter_fillLevel_14 rfl hl (by decide) rfl (fun ls hl => ?_)
  refine lv_aload_n hx hb d_Cutter_fillLevel_15 rfl (lv_at hl 2 rfl) ?_
  refine va_get (D := G) (ci := 1) (v := .ref hB) (C := R_Cutter) (T := F_Cutter) (N := 8) hx hb hts in_Cutter hown hK hP 0 rfl rfl 0 (by decide) (hts _ fl_Cutter_30) (fun _ h9 => h9) rfl d_Cutter_fillLevel_16 ?_
  refine lv_iconst (v := (nI 1)) hx hb d_Cutter_fillLevel_19 (by decide) ?_
  refine lv_iload_n hx hb d_Cutter_fillLevel_20 rfl (lv_at hl 1 rfl) ?_
  refine n_isub hx hb (by omega) d_Cutter_fillLevel_21 ?_
  refine vp_callSi (W.runV (As := [.int (nI (1 - ax))]) (rest := []) ⟨hx, hb, hml, hown, hts⟩ (c_Board_stepsOf l G ty hB aF aX aY st wd al nf mg (1 - ax) (by omega)) ⟨callB_of 1 hts (gd_TB cd_Board_stepsOf) rfl rfl rfl (hts _ ini_Board) (hts _ lk_Cutter_147) hd_Board_stepsOf ⟨Nat.le_of_ble_eq_true rfl, Nat.le_of_ble_eq_true rfl⟩, hts _ im_Board_stepsOf, hts _ sl_Board_stepsOf⟩ (preV_ro (hP.sub (ws' := [(hB, .inr (0, [.int (nI st), .int (nI wd), .int (nI al), .ref aF, .int (nI nf), .int (nI mg), .ref aX, .ref aY]))]) [1] rfl) hX 0 rfl rfl) rfl rfl hl.1 rfl (lv_room (Nat.le_of_ble_eq_true rfl)) d_Cutter_fillLevel_22 ⟨Nat.le_of_ble_eq_true rfl, Nat.le_of_ble_eq_true rfl⟩) (fun r9 er9 => ?_)
  subst er9
  refine top_i (show (nI (if (1 - ax) = 0 then wd else al)) = (nI nO) from congrArg nI eO.symm) ?_
  refine lv_istore (lv' := [(4, .int (nI nO)), (3, .int (nI nS)), (2, .int (nI ax)), (0, .ref hC), (1, .int (nI 1))]) hx hb d_Cutter_fillLevel_25 hl (by decide) rfl (fun ls hl => ?_)
  refine lv_iload_n hx hb d_Cutter_fillLevel_27 rfl (lv_at hl 4 rfl) ?_
  refine lv_aload_n hx hb d_Cutter_fillLevel_28 rfl (lv_at hl 3 rfl) ?_
  refine va_get (D := G) (ci := 1) (v := .int (nI 1)) (C := R_Cutter) (T := F_Cutter) (N := 8) hx hb hts in_Cutter hown hK hP 0 rfl rfl 6 (by decide) (hts _ fl_Cutter_24) (fun _ h9 => h9) rfl d_Cutter_fillLevel_29 ?_
  refine n_icmp_ne (tgt := 44) hx hb (by omega) (by omega) d_Cutter_fillLevel_32 (by decide) (fun c32 => absurd c32 (by omega)) (fun c32 => ?_)
  refine lv_iconst (v := (nI 0)) hx hb d_Cutter_fillLevel_35 (by decide) ?_
  refine lv_iload hx hb d_Cutter_fillLevel_36 (lv_at hl 0 rfl) ?_
  refine nest_Rips_spanOf (G := G) (ty := ty) hx hb hml hown hts hX nst_Cutter_104 hl.1 (by omega) (by omega) (by omega) (lv_room (Nat.le_of_ble_eq_true rfl)) ⟨Nat.le_of_ble_eq_true rfl, Nat.le_of_ble_eq_true rfl⟩ ⟨Nat.le_of_ble_eq_true rfl, Nat.le_of_ble_eq_true rfl⟩ d_Cutter_fillLevel_38 ?_
  refine lv_goto (tgt := 45) hx hb d_Cutter_fillLevel_41 (by decide) ?_
  refine lv_istore (lv' := [(5, .int (nI (nO * (nO - 1) / 2 + 0))), (4, .int (nI nO)), (3, .int (nI nS)), (2, .int (nI ax)), (0, .ref hC), (1, .int (nI 1))]) hx hb d_Cutter_fillLevel_45 hl (by decide) rfl (fun ls hl => ?_)
  refine lv_iload_n hx hb d_Cutter_fillLevel_47 rfl (lv_at hl 5 rfl) ?_
  refine lv_aload_n hx hb d_Cutter_fillLevel_48 rfl (lv_at hl 4 rfl) ?_
  refine va_get (D := G) (ci := 1) (v := .int (nI 1)) (C := R_Cutter) (T := F_Cutter) (N := 8) hx hb hts in_Cutter hown hK hP 0 rfl rfl 6 (by decide) (hts _ fl_Cutter_24) (fun _ h9 => h9) rfl d_Cutter_fillLevel_49 ?_
  refine n_icmp_ne (tgt := 59) hx hb (by omega) (by omega) d_Cutter_fillLevel_52 (by decide) (fun c52 => absurd c52 (by omega)) (fun c52 => ?_)
  refine lv_iconst (v := (nI 0)) hx hb d_Cutter_fillLevel_55 (by decide) ?_
  refine lv_goto (tgt := 63) hx hb d_Cutter_fillLevel_56 (by decide) ?_
  refine lv_iload hx hb d_Cutter_fillLevel_63 (lv_at hl 1 rfl) ?_
  refine nest_Rips_spanOf (G := G) (ty := ty) hx hb hml hown hts hX nst_Cutter_104 hl.1 (by omega) (by omega) (by omega) (lv_room (Nat.le_of_ble_eq_true rfl)) ⟨Nat.le_of_ble_eq_true rfl, Nat.le_of_ble_eq_true rfl⟩ ⟨Nat.le_of_ble_eq_true rfl, Nat.le_of_ble_eq_true rfl⟩ d_Cutter_fillLevel_65 ?_
  refine lv_istore (lv' := [(6, .int (nI (nO * (nO - 1) / 2 + 0))), (5, .int (nI (nO * (nO - 1) / 2 + 0))), (4, .int (nI nO)), (3, .int (nI nS)), (2, .int (nI ax)), (0, .ref hC), (1, .int (nI 1))]) hx hb d_Cutter_fillLevel_68 hl (by decide) rfl (fun ls hl => ?_)
  refine lv_iload_n hx hb d_Cutter_fillLevel_70 rfl (lv_at hl 6 rfl) ?_
  refine lv_aload_n hx hb d_Cutter_fillLevel_71 rfl (lv_at hl 5 rfl) ?_
  refine va_get (D := G) (ci := 1) (v := .int (nI 1)) (C := R_Cutter) (T := F_Cutter) (N := 8) hx hb hts in_Cutter hown hK hP 0 rfl rfl 6 (by decide) (hts _ fl_Cutter_24) (fun _ h9 => h9) rfl d_Cutter_fillLevel_72 ?_
  refine lv_iconst (v := (nI 1)) hx hb d_Cutter_fillLevel_75 (by decide) ?_
  refine n_isub hx hb (by omega) d_Cutter_fillLevel_76 ?_
  refine top_i (show (nI (1 - 1)) = nI 0 from rfl) ?_
  refine n_icmp_lt (tgt := 84) hx hb (by omega) (by omega) d_Cutter_fillLevel_77 (by decide) (fun c77 => absurd c77 (by omega)) (fun c77 => ?_)
  refine lv_iload_n hx hb d_Cutter_fillLevel_80 rfl (lv_at hl 3 rfl) ?_
  refine lv_goto (tgt := 85) hx hb d_Cutter_fillLevel_81 (by decide) ?_
  refine lv_istore (lv' := [(7, .int (nI nS)), (6, .int (nI (nO * (nO - 1) / 2 + 0))), (5, .int (nI (nO * (nO - 1) / 2 + 0))), (4, .int (nI nO)), (3, .int (nI nS)), (2, .int (nI ax)), (0, .ref hC), (1, .int (nI 1))]) hx hb d_Cutter_fillLevel_85 hl (by decide) rfl (fun ls hl => ?_)
  refine lv_iload hx hb d_Cutter_fillLevel_87 (lv_at hl 2 rfl) ?_
  refine lv_istore (lv' := [(8, .int (nI (nO * (nO - 1) / 2 + 0))), (7, .int (nI nS)), (6, .int (nI (nO * (nO - 1) / 2 + 0))), (5, .int (nI (nO * (nO - 1) / 2 + 0))), (4, .int (nI nO)), (3, .int (nI nS)), (2, .int (nI ax)), (0, .ref hC), (1, .int (nI 1))]) hx hb d_Cutter_fillLevel_89 hl (by decide) rfl (fun ls hl => ?_)
  have L91 : ∀ (k9 : Nat) (o : Nat) (t2 : Nat → Int) (re2 : Nat → Int) (H : Heap) (locs : List Loc) (ls : Array Slot), (nO * (nO - 1) / 2 + 0 ≤ o) → (o ≤ nO * (nO - 1) / 2 + 0 + 1) → (∀ ot e p, nO * (nO - 1) / 2 + 0 ≤ ot → ot < o → nS ≤ e → e ≤ nS → p < e → t2 (plc sA ax (e * (e - 1) / 2 + p) ot) = dpV (sg u sA ax ot) (okc 1 1 ob) p e) → (∀ q, q < nT → 0 ≤ t2 q ∧ t2 q ≤ 24 * Bd) → nO * (nO - 1) / 2 + 0 + 1 - o < k9 → va_P G vwCl [(hC, .inr (1, [.ref hB, .ref hT, .int (nI sA), .ref aZ, .ref aE, .int (nI tx), .int (nI 1), .int tb])), (hB, .inr (0, [.int (nI st), .int (nI wd), .int (nI al), .ref aF, .int (nI nf), .int (nI mg), .ref aX, .ref aY])), (aZ, .inl (ty 6, 4, .inr (.inr (.inr (.inr fZ))))), (aL 0, .inl (ty 1, nT, .inr (.inl (lF u)))), (aL 1, .inl (ty 1, nT, .inr (.inl (lF t2)))), (aE, .inl (ty 1, 25, .inr (.inl (lF re2))))] H → va_D A [(hC, .inr (1, [.ref hB, .ref hT, .int (nI sA), .ref aZ, .ref aE, .int (nI tx), .int (nI 1), .int tb])), (hB, .inr (0, [.int (nI st), .int (nI wd), .int (nI al), .ref aF, .int (nI nf), .int (nI mg), .ref aX, .ref aY])), (aZ, .inl (ty 6, 4, .inr (.inr (.inr (.inr fZ))))), (aL 0, .inl (ty 1, nT, .inr (.inl (lF u)))), (aL 1, .inl (ty 1, nT, .inr (.inl (lF t2)))), (aE, .inl (ty 1, 25, .inr (.inl (lF re2))))] → va_S A s.heap H locs → lv_has ls 10 [(0, .ref hC), (1, .int (nI 1)), (2, .int (nI ax)), (3, .int (nI nS)), (4, .int (nI nO)), (5, .int (nI (nO * (nO - 1) / 2 + 0))), (6, .int (nI (nO * (nO - 1) / 2 + 0))), (7, .int (nI nS)), (8, .int (nI o))] → W p l e { frames := 3, cells := 0, slots := 0, locals := 78 } s m [.ref hC, .int (nI 1)].toArray below meth c H locs 0 0 (MQ below (q_fillLevel11 G ty hC hB hT sA aZ aE tx tb aF aX aY st wd al nf mg nT nb fZ aL u t re ob Bd A) [.ref hC, .int (nI 1)].toArray s 0 0 A) (F0 m 91 ls []) := by
    intro k9
    induction k9 with
    | zero => intro o t2 re2 H locs ls ho0 ho hI hBt hk9; exact absurd hk9 (Nat.not_lt_zero _)
    | succ k9 ih91 =>
      intro o t2 re2 H locs ls ho0 ho hI hBt hk9 hP hD hS hl
      refine lv_iload hx hb d_Cutter_fillLevel_91 (lv_at hl 8 rfl) ?_
      refine lv_iload hx hb d_Cutter_fillLevel_93 (lv_at hl 6 rfl) ?_
      refine n_icmp_gt (tgt := 130) hx hb (by omega) (by omega) d_Cutter_fillLevel_95 (by decide) (fun c95 => ?_) (fun c95 => ?_)
      · exact W.vret hx hb hr (fun t9 ht hW => ⟨⟨(t2, re2), rfl, by rw [← eax, ← eS, ← eO]; exact ⟨fun ot e p h1 h2 h3 h4 h5 => hI ot e p h1 (by omega) h3 h4 h5, hBt⟩, by rw [ht]; exact hP, hD⟩, hS.F ht⟩) hS.2.2 d_Cutter_fillLevel_130
      · refine lv_iload hx hb d_Cutter_fillLevel_98 (lv_at hl 7 rfl) ?_
        refine lv_istore (lv' := [(9, .int (nI nS)), (0, .ref hC), (1, .int (nI 1)), (2, .int (nI ax)), (3, .int (nI nS)), (4, .int (nI nO)), (5, .int (nI (nO * (nO - 1) / 2 + 0))), (6, .int (nI (nO * (nO - 1) / 2 + 0))), (7, .int (nI nS)), (8, .int (nI o))]) hx hb d_Cutter_fillLevel_100 hl (by decide) rfl (fun ls hl => ?_)
        have L102 : ∀ (k9 : Nat) (n : Nat) (t2 : Nat → Int) (re2 : Nat → Int) (H : Heap) (locs : List Loc) (ls : Array Slot), (nS ≤ n) → (n ≤ nS + 1) → (∀ ot e p, nO * (nO - 1) / 2 + 0 ≤ ot → ot < o → nS ≤ e → e ≤ nS → p < e → t2 (plc sA ax (e * (e - 1) / 2 + p) ot) = dpV (sg u sA ax ot) (okc 1 1 ob) p e) → (∀ e p, nS ≤ e → e < n → p < e → t2 (plc sA ax (e * (e - 1) / 2 + p) o) = dpV (sg u sA ax o) (okc 1 1 ob) p e) → (∀ q, q < nT → 0 ≤ t2 q ∧ t2 q ≤ 24 * Bd) → nS + 1 - n < k9 → va_P G vwCl [(hC, .inr (1, [.ref hB, .ref hT, .int (nI sA), .ref aZ, .ref aE, .int (nI tx), .int (nI 1), .int tb])), (hB, .inr (0, [.int (nI st), .int (nI wd), .int (nI al), .ref aF, .int (nI nf), .int (nI mg), .ref aX, .ref aY])), (aZ, .inl (ty 6, 4, .inr (.inr (.inr (.inr fZ))))), (aL 0, .inl (ty 1, nT, .inr (.inl (lF u)))), (aL 1, .inl (ty 1, nT, .inr (.inl (lF t2)))), (aE, .inl (ty 1, 25, .inr (.inl (lF re2))))] H → va_D A [(hC, .inr (1, [.ref hB, .ref hT, .int (nI sA), .ref aZ, .ref aE, .int (nI tx), .int (nI 1), .int tb])), (hB, .inr (0, [.int (nI st), .int (nI wd), .int (nI al), .ref aF, .int (nI nf), .int (nI mg), .ref aX, .ref aY])), (aZ, .inl (ty 6, 4, .inr (.inr (.inr (.inr fZ))))), (aL 0, .inl (ty 1, nT, .inr (.inl (lF u)))), (aL 1, .inl (ty 1, nT, .inr (.inl (lF t2)))), (aE, .inl (ty 1, 25, .inr (.inl (lF re2))))] → va_S A s.heap H locs → lv_has ls 10 [(0, .ref hC), (1, .int (nI 1)), (2, .int (nI ax)), (3, .int (nI nS)), (4, .int (nI nO)), (5, .int (nI (nO * (nO - 1) / 2 + 0))), (6, .int (nI (nO * (nO - 1) / 2 + 0))), (7, .int (nI nS)), (8, .int (nI o)), (9, .int (nI n))] → W p l e { frames := 3, cells := 0, slots := 0, locals := 78 } s m [.ref hC, .int (nI 1)].toArray below meth c H locs 0 0 (MQ below (q_fillLevel11 G ty hC hB hT sA aZ aE tx tb aF aX aY st wd al nf mg nT nb fZ aL u t re ob Bd A) [.ref hC, .int (nI 1)].toArray s 0 0 A) (F0 m 102 ls []) := by
          intro k9
          induction k9 with
          | zero => intro n t2 re2 H locs ls hn0 hn hI1 hJ hB1 hk9; exact absurd hk9 (Nat.not_lt_zero _)
          | succ k9 ih102 =>
            intro n t2 re2 H locs ls hn0 hn hI1 hJ hB1 hk9 hP hD hS hl
            refine lv_iload hx hb d_Cutter_fillLevel_102 (lv_at hl 9 rfl) ?_
            refine lv_iload_n hx hb d_Cutter_fillLevel_104 rfl (lv_at hl 3 rfl) ?_
            refine n_icmp_gt (tgt := 124) hx hb (by omega) (by omega) d_Cutter_fillLevel_105 (by decide) (fun c105 => ?_) (fun c105 => ?_)
            · refine lv_iinc (v := (nI (o + 1))) (lv' := [(8, .int (nI (o + 1))), (0, .ref hC), (1, .int (nI 1)), (2, .int (nI ax)), (3, .int (nI nS)), (4, .int (nI nO)), (5, .int (nI (nO * (nO - 1) / 2 + 0))), (6, .int (nI (nO * (nO - 1) / 2 + 0))), (7, .int (nI nS)), (9, .int (nI n))]) hx hb d_Cutter_fillLevel_124 hl (k := 8) rfl (nI_inc _ _ _ (by omega)) (by decide) rfl (fun ls hl => ?_)
              refine lv_goto (tgt := 91) hx hb d_Cutter_fillLevel_127 (by decide) ?_
              exact ih91 (o + 1) t2 re2 _ _ _ (by omega) (by omega) (fun ot e p h1 h2 h3 h4 h5 => (Nat.lt_or_ge ot o).elim (fun q => hI1 ot e p h1 q h3 h4 h5) (fun q => by rw [show ot = o from by omega]; exact hJ e p h3 (by omega) h5)) hB1 (by omega) hP hD hS (lv_sub hl [1, 2, 3, 4, 5, 6, 7, 8, 0] rfl)
            · have hro : o ≤ nO * (nO - 1) / 2 + (nO - 1) := by omega
              have hPl : ∀ b1 n1, b1 < n1 → n1 ≤ n → plc sA ax (n1 * (n1 - 1) / 2 + b1) o < nT := fun b1 n1 h1 h2 => by rw [gT, gA]; exact plc_lt hax (rg_s hax eS (by omega) h1) (rg_o hax eO hO1.1 hro)
              have hsg : ∀ b1 n1, b1 < n1 → n1 ≤ n → 0 ≤ sg u sA ax o b1 n1 ∧ sg u sA ax o b1 n1 ≤ Bd := fun b1 n1 h1 h2 => gu _ (hPl b1 n1 h1 h2)
              refine lv_aload_n hx hb d_Cutter_fillLevel_108 rfl (lv_at hl 0 rfl) ?_
              refine lv_iload_n hx hb d_Cutter_fillLevel_109 rfl (lv_at hl 1 rfl) ?_
              refine lv_iload_n hx hb d_Cutter_fillLevel_110 rfl (lv_at hl 2 rfl) ?_
              refine lv_iload hx hb d_Cutter_fillLevel_111 (lv_at hl 8 rfl) ?_
              refine lv_iload hx hb d_Cutter_fillLevel_113 (lv_at hl 9 rfl) ?_
              refine call_wr_v (Wc := [(hC, .inr (1, [.ref hB, .ref hT, .int (nI sA), .ref aZ, .ref aE, .int (nI tx), .int (nI 1), .int tb])), (aZ, .inl (ty 6, 4, .inr (.inr (.inr (.inr fZ))))), (aL 0, .inl (ty 1, nT, .inr (.inl (lF u)))), (aL 1, .inl (ty 1, nT, .inr (.inl (lF t2)))), (aE, .inl (ty 1, 25, .inr (.inl (lF re2))))]) (Wr := [(hB, .inr (0, [.int (nI st), .int (nI wd), .int (nI al), .ref aF, .int (nI nf), .int (nI mg), .ref aX, .ref aY]))]) (va_runV (As := [.int (nI 1), .int (nI ax), .int (nI o), .int (nI n)]) (rest := []) ⟨hx, hb, hml, hown, hts⟩ (c_fillTo1 l G ty _ hC hB hT sA aZ aE tx 1 tb ax o n nT nb fZ aL u t2 re2 ob gl (by omega) (by omega) (by omega) (by omega) (by omega) (by omega) (by omega) (by omega) gb (by omega) hPl (fun b1 n1 h1 h2 => by have := hsg b1 n1 h1 h2; omega)) ⟨callB_of 4 hts (gd_TB cd_Cutter_fillTo) rfl rfl rfl (hts _ ini_Cutter) (hts _ lk_Cutter_150) hd_Cutter_fillTo ⟨Nat.le_of_ble_eq_true rfl, Nat.le_of_ble_eq_true rfl⟩, hts _ im_Cutter_fillTo, hts _ sl_Cutter_fillTo⟩ (preV_wr (hP.sub (ws' := [(hC, .inr (1, [.ref hB, .ref hT, .int (nI sA), .ref aZ, .ref aE, .int (nI tx), .int (nI 1), .int tb])), (aZ, .inl (ty 6, 4, .inr (.inr (.inr (.inr fZ))))), (aL 0, .inl (ty 1, nT, .inr (.inl (lF u)))), (aL 1, .inl (ty 1, nT, .inr (.inl (lF t2)))), (aE, .inl (ty 1, 25, .inr (.inl (lF re2))))]) [0, 2, 3, 4, 5] rfl) hX (hD.sub (ws' := [(hC, .inr (1, [.ref hB, .ref hT, .int (nI sA), .ref aZ, .ref aE, .int (nI tx), .int (nI 1), .int tb])), (aZ, .inl (ty 6, 4, .inr (.inr (.inr (.inr fZ))))), (aL 0, .inl (ty 1, nT, .inr (.inl (lF u)))), (aL 1, .inl (ty 1, nT, .inr (.inl (lF t2)))), (aE, .inl (ty 1, 25, .inr (.inl (lF re2))))]) [0, 2, 3, 4, 5] (by decide) rfl) 0 rfl rfl) rfl rfl hl.1 rfl (lv_room (Nat.le_of_ble_eq_true rfl)) d_Cutter_fillLevel_115 ⟨Nat.le_of_ble_eq_true rfl, Nat.le_of_ble_eq_true rfl⟩) hP hD hS hA [0, 2, 3, 4, 5] [1] rfl rfl (by decide) (by decide) (fun u9 H locs hw3 hP hD hS => ?_)
              obtain ⟨t3, re3⟩ := u9
              have hw3 : (∀ p, p < n → t3 (plc sA ax (n * (n - 1) / 2 + p) o) = dpV (sg u sA ax o) (okc 1 1 ob) p n) ∧ (∀ q, (∀ p, p < n → q ≠ plc sA ax (n * (n - 1) / 2 + p) o) → t3 q = t2 q) := hw3
              have hP : va_P G vwCl [(hB, .inr (0, [.int (nI st), .int (nI wd), .int (nI al), .ref aF, .int (nI nf), .int (nI mg), .ref aX, .ref aY])), (hC, .inr (1, [.ref hB, .ref hT, .int (nI sA), .ref aZ, .ref aE, .int (nI tx), .int (nI 1), .int tb])), (aZ, .inl (ty 6, 4, .inr (.inr (.inr (.inr fZ))))), (aL 0, .inl (ty 1, nT, .inr (.inl (lF u)))), (aL 1, .inl (ty 1, nT, .inr (.inl (lF t3)))), (aE, .inl (ty 1, 25, .inr (.inl (lF re3))))] _ := hP
              have hD : va_D A [(hB, .inr (0, [.int (nI st), .int (nI wd), .int (nI al), .ref aF, .int (nI nf), .int (nI mg), .ref aX, .ref aY])), (hC, .inr (1, [.ref hB, .ref hT, .int (nI sA), .ref aZ, .ref aE, .int (nI tx), .int (nI 1), .int tb])), (aZ, .inl (ty 6, 4, .inr (.inr (.inr (.inr fZ))))), (aL 0, .inl (ty 1, nT, .inr (.inl (lF u)))), (aL 1, .inl (ty 1, nT, .inr (.inl (lF t3)))), (aE, .inl (ty 1, 25, .inr (.inl (lF re3))))] := hD
              obtain ⟨hA3, hF3⟩ := hw3
              have hrx : ∀ e p, e ≤ nS → p < e → if ax = 0 then o < sA else e * (e - 1) / 2 + p < sA := fun e p h1 h2 => by rw [gA]; exact rg_x hax eS eO hO1.1 hro h1 h2
              have hI3 : ∀ ot e p, nO * (nO - 1) / 2 + 0 ≤ ot → ot < o → nS ≤ e → e ≤ nS → p < e → t3 (plc sA ax (e * (e - 1) / 2 + p) ot) = dpV (sg u sA ax ot) (okc 1 1 ob) p e := fun ot e p h1 h2 h3 h4 h5 => by rw [hF3 _ (fun p2 h6 => pl_ne hax h5 h6 (by rw [gA]; exact rg_x hax eS eO hO1.1 (by omega) h4 h5) (hrx n p2 (by omega) h6) (Or.inr (by omega)))]; exact hI1 ot e p h1 h2 h3 h4 h5
              have hJ3 : ∀ e p, nS ≤ e → e < n + 1 → p < e → t3 (plc sA ax (e * (e - 1) / 2 + p) o) = dpV (sg u sA ax o) (okc 1 1 ob) p e := fun e p h1 h2 h3 => (Nat.lt_or_ge e n).elim (fun q => by rw [hF3 _ (fun p2 h6 => pl_ne hax h3 h6 (hrx e p (by omega) h3) (hrx n p2 (by omega) h6) (Or.inl (by omega)))]; exact hJ e p h1 q h3) (fun q => by rw [show e = n from by omega]; exact hA3 p (by omega))
              have hB3 : ∀ q, q < nT → 0 ≤ t3 q ∧ t3 q ≤ 24 * Bd := fun q hq => by rcases Classical.em (∃ p2, p2 < n ∧ q = plc sA ax (n * (n - 1) / 2 + p2) o) with ⟨p2, h6, rfl⟩ | h6; exact (by rw [hA3 p2 h6]; exact dpV_bM gB.1 (by omega) (by omega) hsg); exact (by rw [hF3 q (fun p2 h7 h8 => h6 ⟨p2, h7, h8⟩)]; exact hB1 q hq)
              refine lv_iinc (v := (nI (n + 1))) (lv' := [(9, .int (nI (n + 1))), (0, .ref hC), (1, .int (nI 1)), (2, .int (nI ax)), (3, .int (nI nS)), (4, .int (nI nO)), (5, .int (nI (nO * (nO - 1) / 2 + 0))), (6, .int (nI (nO * (nO - 1) / 2 + 0))), (7, .int (nI nS)), (8, .int (nI o))]) hx hb d_Cutter_fillLevel_118 hl (k := 9) rfl (nI_inc _ _ _ (by omega)) (by decide) rfl (fun ls hl => ?_)
              refine lv_goto (tgt := 102) hx hb d_Cutter_fillLevel_121 (by decide) ?_
              have hP : va_P G vwCl [(hC, .inr (1, [.ref hB, .ref hT, .int (nI sA), .ref aZ, .ref aE, .int (nI tx), .int (nI 1), .int tb])), (hB, .inr (0, [.int (nI st), .int (nI wd), .int (nI al), .ref aF, .int (nI nf), .int (nI mg), .ref aX, .ref aY])), (aZ, .inl (ty 6, 4, .inr (.inr (.inr (.inr fZ))))), (aL 0, .inl (ty 1, nT, .inr (.inl (lF u)))), (aL 1, .inl (ty 1, nT, .inr (.inl (lF t3)))), (aE, .inl (ty 1, 25, .inr (.inl (lF re3))))] _ := hP.sub [1, 0, 2, 3, 4, 5] rfl
              have hD : va_D A [(hC, .inr (1, [.ref hB, .ref hT, .int (nI sA), .ref aZ, .ref aE, .int (nI tx), .int (nI 1), .int tb])), (hB, .inr (0, [.int (nI st), .int (nI wd), .int (nI al), .ref aF, .int (nI nf), .int (nI mg), .ref aX, .ref aY])), (aZ, .inl (ty 6, 4, .inr (.inr (.inr (.inr fZ))))), (aL 0, .inl (ty 1, nT, .inr (.inl (lF u)))), (aL 1, .inl (ty 1, nT, .inr (.inl (lF t3)))), (aE, .inl (ty 1, 25, .inr (.inl (lF re3))))] := hD.sub [1, 0, 2, 3, 4, 5] (by decide) rfl
              exact ih102 (n + 1) t3 re3 _ _ _ (by omega) (by omega) hI3 hJ3 hB3 (by omega) hP hD hS (lv_sub hl [1, 2, 3, 4, 5, 6, 7, 8, 9, 0] rfl)
        exact L102 (nS + 1 - nS + 1) nS t2 re2 _ _ _ (Nat.le_refl _) (by omega) hI (fun e p h1 h2 => absurd h1 (by omega)) hBt (Nat.lt_succ_self _) hP hD hS (lv_sub hl [1, 2, 3, 4, 5, 6, 7, 8, 9, 0] rfl)
  exact L91 (nO * (nO - 1) / 2 + 0 + 1 - (nO * (nO - 1) / 2 + 0) + 1) (nO * (nO - 1) / 2 + 0) t re _ _ _ (Nat.le_refl _) (by omega) (fun ot e p h1 h2 => absurd h1 (by omega)) gt0 (Nat.lt_succ_self _) hP hD hS (lv_sub hl [7, 8, 6, 5, 4, 3, 2, 1, 0] rfl)
