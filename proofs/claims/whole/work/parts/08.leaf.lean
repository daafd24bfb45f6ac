theorem fl_Board_30 : Cond.fieldLink R_Board 30 "FaultRips$Board" "step" "I" ∈ TB := mem_TB 51 (by decide +kernel) (by decide +kernel)
theorem fl_Board_36 : Cond.fieldLink R_Board 36 "FaultRips$Board" "wide" "I" ∈ TB := mem_TB 54 (by decide +kernel) (by decide +kernel)
theorem fl_Board_39 : Cond.fieldLink R_Board 39 "FaultRips$Board" "along" "I" ∈ TB := mem_TB 58 (by decide +kernel) (by decide +kernel)
theorem fl_Board_46 : Cond.fieldLink R_Board 46 "FaultRips$Board" "metAlongX" "[I" ∈ TB := mem_TB 67 (by decide +kernel) (by decide +kernel)
theorem fl_Board_50 : Cond.fieldLink R_Board 50 "FaultRips$Board" "metAlongY" "[I" ∈ TB := mem_TB 68 (by decide +kernel) (by decide +kernel)
theorem fl_Fault_18 : Cond.fieldLink R_Fault 18 "FaultRips$Fault" "x" "I" ∈ TB := mem_TB 409 (by decide +kernel) (by decide +kernel)
theorem fl_Fault_21 : Cond.fieldLink R_Fault 21 "FaultRips$Fault" "y" "I" ∈ TB := mem_TB 410 (by decide +kernel) (by decide +kernel)
theorem fl_Fault_24 : Cond.fieldLink R_Fault 24 "FaultRips$Fault" "w" "I" ∈ TB := mem_TB 411 (by decide +kernel) (by decide +kernel)
theorem fl_Fault_27 : Cond.fieldLink R_Fault 27 "FaultRips$Fault" "h" "I" ∈ TB := mem_TB 412 (by decide +kernel) (by decide +kernel)

abbrev q_Rips_spanOf (G : va_G) (ty : Nat → ClassId) (b : Nat) (n : Nat) : Array Value → State → Outcome → State → Prop := vp_Si (fun r : Int32 => r = (nI (n * (n - 1) / 2 + b)))
set_option maxRecDepth 100000 in
set_option maxHeartbeats 4000000 in
theorem c_Rips_spanOf (l : Launch) (G : va_G) (ty : Nat → ClassId) (b : Nat) (n : Nat) (h1 : b ≤ 1000) (h2 : 1 ≤ n) (h3 : n ≤ 1000) : Met l y_Rips_spanOf ws_Rips_spanOf { frames := 0, cells := 0, slots := 0, locals := 0 } (va_Pc [.int (nI b), .int (nI n)] (fun U => va_P G vwCl [] U.heap ∧ KX G ty U)) (q_Rips_spanOf G ty b n) 0 0 (fun _ => False) := by
  refine met_ro R_Rips (by decide) rfl rfl (Nat.le_of_ble_eq_true rfl) ?_
  intro p e s m below meth c ls hx hb hr hml hown hts hlocks hP hX hl
  have hK := hX.1
  have hl : lv_has ls 2 [(0, .int (nI b)), (1, .int (nI n))] := hl
  refine lv_iload_n hx hb d_Rips_spanOf_0 rfl (lv_at hl 1 rfl) ?_
  refine lv_iload_n hx hb d_Rips_spanOf_1 rfl (lv_at hl 1 rfl) ?_
  refine lv_iconst (v := (nI 1)) hx hb d_Rips_spanOf_2 (by decide) ?_
  refine n_isub hx hb (by omega) d_Rips_spanOf_3 ?_
  refine n_imul hx hb d_Rips_spanOf_4 ?_
  refine lv_iconst (v := (nI 2)) hx hb d_Rips_spanOf_5 (by decide) ?_
  refine n_idiv hx hb (by have := Nat.mul_le_mul h3 (show n - 1 ≤ 1000 by omega); omega) (by omega) (by omega) d_Rips_spanOf_6 ?_
  refine lv_iload_n hx hb d_Rips_spanOf_7 rfl (lv_at hl 0 rfl) ?_
  refine n_iadd hx hb d_Rips_spanOf_8 ?_
  exact W.iret (v := (nI (((n * (n - 1)) / 2) + b))) hx hb hr (fun t9 ht _ => ⟨_, rfl, rfl, ht⟩) (fun q h => by cases h) d_Rips_spanOf_9

abbrev q_Rips_spansOf (G : va_G) (ty : Nat → ClassId) (n : Nat) : Array Value → State → Outcome → State → Prop := vp_Si (fun r : Int32 => r = (nI (n * (n + 1) / 2)))
set_option maxRecDepth 100000 in
set_option maxHeartbeats 4000000 in
theorem c_Rips_spansOf (l : Launch) (G : va_G) (ty : Nat → ClassId) (n : Nat) (h3 : n ≤ 1000) : Met l y_Rips_spansOf ws_Rips_spansOf { frames := 0, cells := 0, slots := 0, locals := 0 } (va_Pc [.int (nI n)] (fun U => va_P G vwCl [] U.heap ∧ KX G ty U)) (q_Rips_spansOf G ty n) 0 0 (fun _ => False) := by
  refine met_ro R_Rips (by decide) rfl rfl (Nat.le_of_ble_eq_true rfl) ?_
  intro p e s m below meth c ls hx hb hr hml hown hts hlocks hP hX hl
  have hK := hX.1
  have hl : lv_has ls 1 [(0, .int (nI n))] := hl
  refine lv_iload_n hx hb d_Rips_spansOf_0 rfl (lv_at hl 0 rfl) ?_
  refine lv_iload_n hx hb d_Rips_spansOf_1 rfl (lv_at hl 0 rfl) ?_
  refine lv_iconst (v := (nI 1)) hx hb d_Rips_spansOf_2 (by decide) ?_
  refine n_iadd hx hb d_Rips_spansOf_3 ?_
  refine n_imul hx hb d_Rips_spansOf_4 ?_
  refine lv_iconst (v := (nI 2)) hx hb d_Rips_spansOf_5 (by decide) ?_
  refine n_idiv hx hb (by have := Nat.mul_le_mul h3 (show n + 1 ≤ 1001 by omega); omega) (by omega) (by omega) d_Rips_spansOf_6 ?_
  exact W.iret (v := (nI ((n * (n + 1)) / 2))) hx hb hr (fun t9 ht _ => ⟨_, rfl, rfl, ht⟩) (fun q h => by cases h) d_Rips_spansOf_7

theorem nest_Rips_spanOf {p : Program} {l : Launch} {e : Env} {R : Room} {s : State} {m : MethodId} {args : Array Value} {below : List Frame} {meth : Method} {c : Code} {H : Heap} {locs : List Loc} {cells slots : Nat} {Q : State → Prop} {cc : ByteArray} {pc nL index : Nat} {ls : Array Slot} {rest : List Value} {G : va_G} {ty : Nat → ClassId} {own : String} (hx : p.tables.exec = Jvm.exec) (hb : c.code = cc) (hml : c.maxLocals = nL) (hown : s.vm.findClass own = some m.cls) (hts : ∀ w ∈ TB, w.before args s = true) (hX : KX G ty s) (hq : (own, index, y_Rips_spanOf) ∈ nests) (hl : ls.size = nL) {b n : Nat} (h1 : b ≤ 1000) (h2 : 1 ≤ n) (h3 : n ≤ 1000) (hW : 2 * (F0 m pc ls rest).monitorRoom + (rest.map fun v => v.category).sum ≤ 8) (hR : 1 ≤ R.frames ∧ 21 ≤ R.locals) (hf : cells + 0 ≤ R.cells ∧ slots + 0 ≤ R.slots) (hdg : decode cc pc = .ok (.invokestatic index, 3)) (kk : W p l e R s m args below meth c H locs cells slots Q (F0 m (pc + 3) ls (.int (nI (n * (n - 1) / 2 + b)) :: rest))) : W p l e R s m args below meth c H locs cells slots Q (F0 m pc ls (.int (nI n) :: .int (nI b) :: rest)) :=
  vp_callSi (va_Run.run (va_runSN (Ts := TB) (As := [.int (nI b), .int (nI n)]) (rest := rest) (own := own) (index := index) (host := "FaultRips") ⟨hx, hb, hml, hown, hts⟩ (c_Rips_spanOf l G ty b n h1 h2 h3) ⟨va_cnB 2 hts (gd_TB cd_Rips_spanOf) rfl rfl rfl (hX.2.1 (own, index, y_Rips_spanOf) hq) (hts _ ini_Rips) hd_Rips_spanOf ⟨hR.1, hR.2⟩, hts _ st_Rips_spanOf, trivial⟩ (preS_ro P_nil hX) rfl rfl hl rfl hW hdg hf)) (fun r er => by subst er; exact kk)

theorem nest_Rips_spansOf {p : Program} {l : Launch} {e : Env} {R : Room} {s : State} {m : MethodId} {args : Array Value} {below : List Frame} {meth : Method} {c : Code} {H : Heap} {locs : List Loc} {cells slots : Nat} {Q : State → Prop} {cc : ByteArray} {pc nL index : Nat} {ls : Array Slot} {rest : List Value} {G : va_G} {ty : Nat → ClassId} {own : String} (hx : p.tables.exec = Jvm.exec) (hb : c.code = cc) (hml : c.maxLocals = nL) (hown : s.vm.findClass own = some m.cls) (hts : ∀ w ∈ TB, w.before args s = true) (hX : KX G ty s) (hq : (own, index, y_Rips_spansOf) ∈ nests) (hl : ls.size = nL) {n : Nat} (h3 : n ≤ 1000) (hW : 2 * (F0 m pc ls rest).monitorRoom + (rest.map fun v => v.category).sum ≤ 8) (hR : 1 ≤ R.frames ∧ 20 ≤ R.locals) (hf : cells + 0 ≤ R.cells ∧ slots + 0 ≤ R.slots) (hdg : decode cc pc = .ok (.invokestatic index, 3)) (kk : W p l e R s m args below meth c H locs cells slots Q (F0 m (pc + 3) ls (.int (nI (n * (n + 1) / 2)) :: rest))) : W p l e R s m args below meth c H locs cells slots Q (F0 m pc ls (.int (nI n) :: rest)) :=
  vp_callSi (va_Run.run (va_runSN (Ts := TB) (As := [.int (nI n)]) (rest := rest) (own := own) (index := index) (host := "FaultRips") ⟨hx, hb, hml, hown, hts⟩ (c_Rips_spansOf l G ty n h3) ⟨va_cnB 1 hts (gd_TB cd_Rips_spansOf) rfl rfl rfl (hX.2.1 (own, index, y_Rips_spansOf) hq) (hts _ ini_Rips) hd_Rips_spansOf ⟨hR.1, hR.2⟩, hts _ st_Rips_spansOf, trivial⟩ (preS_ro P_nil hX) rfl rfl hl rfl hW hdg hf)) (fun r er => by subst er; exact kk)

/-- whether a fault, grown by the margin, meets the span lo .. hi along an axis: 0 is y, 1 is x -/
def fMeets (ax : Nat) (x y w h : Int) (mg lo hi : Nat) : Bool := decide (if ax = 0 then y - (mg : Int) < (hi : Int) ∧ (lo : Int) < y + h + (mg : Int) else x - (mg : Int) < (hi : Int) ∧ (lo : Int) < x + w + (mg : Int))
/-- the faults' numbers are as told -/
def FOK (nf : Nat) (fd : Nat → Nat → Int) : Prop := nf ≤ 20 ∧ ∀ i, i < nf → (0 ≤ fd i 0 ∧ fd i 0 ≤ 1) ∧ (0 ≤ fd i 1 ∧ fd i 1 ≤ 7) ∧ (-65536 ≤ fd i 2 ∧ fd i 2 ≤ 65536) ∧ (-65536 ≤ fd i 3 ∧ fd i 3 ≤ 65536) ∧ (0 ≤ fd i 4 ∧ fd i 4 ≤ 65536) ∧ (0 ≤ fd i 5 ∧ fd i 5 ≤ 65536)
/-- fault i meets the span lo .. hi along an axis -/
def fM (fd : Nat → Nat → Int) (mg ax lo hi : Nat) (i : Nat) : Bool := fMeets ax (fd i 2) (fd i 3) (fd i 4) (fd i 5) mg lo hi
abbrev q_Fault_meets (G : va_G) (ty : Nat → ClassId) (h0 : Nat) (ax : Nat) (fc : Int) (kd : Int) (x : Int) (y : Int) (w : Int) (h : Int) (lo : Nat) (hi : Nat) (mg : Nat) : Array Value → State → Outcome → State → Prop := vp_Si (fun r : Int32 => r = (nI ((fMeets ax x y w h mg lo hi).toNat)))
set_option maxRecDepth 100000 in
set_option maxHeartbeats 4000000 in
theorem c_Fault_meets (l : Launch) (G : va_G) (ty : Nat → ClassId) (h0 : Nat) (ax : Nat) (fc : Int) (kd : Int) (x : Int) (y : Int) (w : Int) (h : Int) (lo : Nat) (hi : Nat) (mg : Nat) (g0 : ax ≤ 1) (gx : -65536 ≤ x ∧ x ≤ 65536) (gy : -65536 ≤ y ∧ y ≤ 65536) (gw : 0 ≤ w ∧ w ≤ 65536) (gh : 0 ≤ h ∧ h ≤ 65536) (gl : lo ≤ 2000000) (gi : hi ≤ 2000000) (gm : mg ≤ 65536) : Met l y_Fault_meets ws_Fault_meets { frames := 0, cells := 0, slots := 0, locals := 0 } (va_Pc [.ref h0, .int (nI ax), .int (nI lo), .int (nI hi), .int (nI mg)] (fun U => va_P G vwCl [(h0, .inr (2, [.int (iI fc), .int (iI kd), .int (iI x), .int (iI y), .int (iI w), .int (iI h)]))] U.heap ∧ KX G ty U)) (q_Fault_meets G ty h0 ax fc kd x y w h lo hi mg) 0 0 (fun _ => False) := by
  refine met_ro R_Fault (by decide) rfl rfl (Nat.le_of_ble_eq_true rfl) ?_
  intro p e s m below meth c ls hx hb hr hml hown hts hlocks hP hX hl
  have hK := hX.1
  have hl : lv_has ls 7 [(0, .ref h0), (1, .int (nI ax)), (2, .int (nI lo)), (3, .int (nI hi)), (4, .int (nI mg))] := hl
  refine lv_iload_n hx hb d_Fault_meets_0 rfl (lv_at hl 1 rfl) ?_
  refine n_if_ne (tgt := 11) hx hb (by omega) d_Fault_meets_1 (by decide) (fun c1 => ?_) (fun c1 => ?_)
  · refine lv_aload_n hx hb d_Fault_meets_11 rfl (lv_at hl 0 rfl) ?_
    refine va_get (D := G) (ci := 2) (v := .int (iI x)) (C := R_Fault) (T := F_Fault) (N := 6) hx hb hts in_Fault hown hK hP 0 rfl rfl 2 (by decide) (hts _ fl_Fault_18) (fun _ h9 => h9) rfl d_Fault_meets_12 ?_
    refine lv_istore (lv' := [(5, .int (iI x)), (0, .ref h0), (1, .int (nI ax)), (2, .int (nI lo)), (3, .int (nI hi)), (4, .int (nI mg))]) hx hb d_Fault_meets_15 hl (by decide) rfl (fun ls hl => ?_)
    refine lv_iload_n hx hb d_Fault_meets_17 rfl (lv_at hl 2 rfl) ?_
    refine n_if_ne (tgt := 28) hx hb (by omega) d_Fault_meets_18 (by decide) (fun c18 => ?_) (fun c18 => ?_)
    · refine lv_aload_n hx hb d_Fault_meets_28 rfl (lv_at hl 1 rfl) ?_
      refine va_get (D := G) (ci := 2) (v := .int (iI w)) (C := R_Fault) (T := F_Fault) (N := 6) hx hb hts in_Fault hown hK hP 0 rfl rfl 4 (by decide) (hts _ fl_Fault_24) (fun _ h9 => h9) rfl d_Fault_meets_29 ?_
      refine lv_istore (lv' := [(6, .int (iI w)), (5, .int (iI x)), (0, .ref h0), (1, .int (nI ax)), (2, .int (nI lo)), (3, .int (nI hi)), (4, .int (nI mg))]) hx hb d_Fault_meets_32 hl (by decide) rfl (fun ls hl => ?_)
      refine lv_iload hx hb d_Fault_meets_34 (lv_at hl 1 rfl) ?_
      refine lv_iload hx hb d_Fault_meets_36 (lv_at hl 6 rfl) ?_
      refine zn_isub hx hb d_Fault_meets_38 ?_
      refine lv_iload_n hx hb d_Fault_meets_39 rfl (lv_at hl 5 rfl) ?_
      refine zn_icmp_ge (tgt := 59) hx hb (by omega) (by omega) d_Fault_meets_40 (by decide) (fun c40 => ?_) (fun c40 => ?_)
      · refine lv_iconst (v := (nI 0)) hx hb d_Fault_meets_59 (by decide) ?_
        exact W.zret (v := (nI 0)) hx hb hr nar_b0 (fun t9 ht _ => ⟨_, rfl, congrArg nI (show 0 = (fMeets ax x y w h mg lo hi).toNat by unfold fMeets; rw [decide_eq_false (by split <;> omega)]; rfl), ht⟩) (fun q h => by cases h) d_Fault_meets_60
      · refine lv_iload hx hb d_Fault_meets_43 (lv_at hl 1 rfl) ?_
        refine lv_iload hx hb d_Fault_meets_45 (lv_at hl 0 rfl) ?_
        refine z_iadd hx hb d_Fault_meets_47 ?_
        refine lv_iload hx hb d_Fault_meets_48 (lv_at hl 6 rfl) ?_
        refine zn_iadd hx hb d_Fault_meets_50 ?_
        refine lv_iload_n hx hb d_Fault_meets_51 rfl (lv_at hl 4 rfl) ?_
        refine zn_icmp_le (tgt := 59) hx hb (by omega) (by omega) d_Fault_meets_52 (by decide) (fun c52 => ?_) (fun c52 => ?_)
        · refine lv_iconst (v := (nI 0)) hx hb d_Fault_meets_59 (by decide) ?_
          exact W.zret (v := (nI 0)) hx hb hr nar_b0 (fun t9 ht _ => ⟨_, rfl, congrArg nI (show 0 = (fMeets ax x y w h mg lo hi).toNat by unfold fMeets; rw [decide_eq_false (by split <;> omega)]; rfl), ht⟩) (fun q h => by cases h) d_Fault_meets_60
        · refine lv_iconst (v := (nI 1)) hx hb d_Fault_meets_55 (by decide) ?_
          refine lv_goto (tgt := 60) hx hb d_Fault_meets_56 (by decide) ?_
          exact W.zret (v := (nI 1)) hx hb hr nar_b1 (fun t9 ht _ => ⟨_, rfl, congrArg nI (show 1 = (fMeets ax x y w h mg lo hi).toNat by unfold fMeets; rw [decide_eq_true (by split <;> omega)]; rfl), ht⟩) (fun q h => by cases h) d_Fault_meets_60
    · refine lv_aload_n hx hb d_Fault_meets_21 rfl (lv_at hl 1 rfl) ?_
      refine va_get (D := G) (ci := 2) (v := .int (iI h)) (C := R_Fault) (T := F_Fault) (N := 6) hx hb hts in_Fault hown hK hP 0 rfl rfl 5 (by decide) (hts _ fl_Fault_27) (fun _ h9 => h9) rfl d_Fault_meets_22 ?_
      refine lv_goto (tgt := 32) hx hb d_Fault_meets_25 (by decide) ?_
      refine lv_istore (lv' := [(6, .int (iI h)), (5, .int (iI x)), (0, .ref h0), (1, .int (nI ax)), (2, .int (nI lo)), (3, .int (nI hi)), (4, .int (nI mg))]) hx hb d_Fault_meets_32 hl (by decide) rfl (fun ls hl => ?_)
      refine lv_iload hx hb d_Fault_meets_34 (lv_at hl 1 rfl) ?_
      refine lv_iload hx hb d_Fault_meets_36 (lv_at hl 6 rfl) ?_
      refine zn_isub hx hb d_Fault_meets_38 ?_
      refine lv_iload_n hx hb d_Fault_meets_39 rfl (lv_at hl 5 rfl) ?_
      refine zn_icmp_ge (tgt := 59) hx hb (by omega) (by omega) d_Fault_meets_40 (by decide) (fun c40 => ?_) (fun c40 => ?_)
      · refine lv_iconst (v := (nI 0)) hx hb d_Fault_meets_59 (by decide) ?_
        exact W.zret (v := (nI 0)) hx hb hr nar_b0 (fun t9 ht _ => ⟨_, rfl, congrArg nI (show 0 = (fMeets ax x y w h mg lo hi).toNat by unfold fMeets; rw [decide_eq_false (by split <;> omega)]; rfl), ht⟩) (fun q h => by cases h) d_Fault_meets_60
      · refine lv_iload hx hb d_Fault_meets_43 (lv_at hl 1 rfl) ?_
        refine lv_iload hx hb d_Fault_meets_45 (lv_at hl 0 rfl) ?_
        refine z_iadd hx hb d_Fault_meets_47 ?_
        refine lv_iload hx hb d_Fault_meets_48 (lv_at hl 6 rfl) ?_
        refine zn_iadd hx hb d_Fault_meets_50 ?_
        refine lv_iload_n hx hb d_Fault_meets_51 rfl (lv_at hl 4 rfl) ?_
        refine zn_icmp_le (tgt := 59) hx hb (by omega) (by omega) d_Fault_meets_52 (by decide) (fun c52 => ?_) (fun c52 => ?_)
        · refine lv_iconst (v := (nI 0)) hx hb d_Fault_meets_59 (by decide) ?_
          exact W.zret (v := (nI 0)) hx hb hr nar_b0 (fun t9 ht _ => ⟨_, rfl, congrArg nI (show 0 = (fMeets ax x y w h mg lo hi).toNat by unfold fMeets; rw [decide_eq_false (by split <;> omega)]; rfl), ht⟩) (fun q h => by cases h) d_Fault_meets_60
        · refine lv_iconst (v := (nI 1)) hx hb d_Fault_meets_55 (by decide) ?_
          refine lv_goto (tgt := 60) hx hb d_Fault_meets_56 (by decide) ?_
          exact W.zret (v := (nI 1)) hx hb hr nar_b1 (fun t9 ht _ => ⟨_, rfl, congrArg nI (show 1 = (fMeets ax x y w h mg lo hi).toNat by unfold fMeets; rw [decide_eq_true (by split <;> omega)]; rfl), ht⟩) (fun q h => by cases h) d_Fault_meets_60
  · refine lv_aload_n hx hb d_Fault_meets_4 rfl (lv_at hl 0 rfl) ?_
    refine va_get (D := G) (ci := 2) (v := .int (iI y)) (C := R_Fault) (T := F_Fault) (N := 6) hx hb hts in_Fault hown hK hP 0 rfl rfl 3 (by decide) (hts _ fl_Fault_21) (fun _ h9 => h9) rfl d_Fault_meets_5 ?_
    refine lv_goto (tgt := 15) hx hb d_Fault_meets_8 (by decide) ?_
    refine lv_istore (lv' := [(5, .int (iI y)), (0, .ref h0), (1, .int (nI ax)), (2, .int (nI lo)), (3, .int (nI hi)), (4, .int (nI mg))]) hx hb d_Fault_meets_15 hl (by decide) rfl (fun ls hl => ?_)
    refine lv_iload_n hx hb d_Fault_meets_17 rfl (lv_at hl 2 rfl) ?_
    refine n_if_ne (tgt := 28) hx hb (by omega) d_Fault_meets_18 (by decide) (fun c18 => ?_) (fun c18 => ?_)
    · refine lv_aload_n hx hb d_Fault_meets_28 rfl (lv_at hl 1 rfl) ?_
      refine va_get (D := G) (ci := 2) (v := .int (iI w)) (C := R_Fault) (T := F_Fault) (N := 6) hx hb hts in_Fault hown hK hP 0 rfl rfl 4 (by decide) (hts _ fl_Fault_24) (fun _ h9 => h9) rfl d_Fault_meets_29 ?_
      refine lv_istore (lv' := [(6, .int (iI w)), (5, .int (iI y)), (0, .ref h0), (1, .int (nI ax)), (2, .int (nI lo)), (3, .int (nI hi)), (4, .int (nI mg))]) hx hb d_Fault_meets_32 hl (by decide) rfl (fun ls hl => ?_)
      refine lv_iload hx hb d_Fault_meets_34 (lv_at hl 1 rfl) ?_
      refine lv_iload hx hb d_Fault_meets_36 (lv_at hl 6 rfl) ?_
      refine zn_isub hx hb d_Fault_meets_38 ?_
      refine lv_iload_n hx hb d_Fault_meets_39 rfl (lv_at hl 5 rfl) ?_
      refine zn_icmp_ge (tgt := 59) hx hb (by omega) (by omega) d_Fault_meets_40 (by decide) (fun c40 => ?_) (fun c40 => ?_)
      · refine lv_iconst (v := (nI 0)) hx hb d_Fault_meets_59 (by decide) ?_
        exact W.zret (v := (nI 0)) hx hb hr nar_b0 (fun t9 ht _ => ⟨_, rfl, congrArg nI (show 0 = (fMeets ax x y w h mg lo hi).toNat by unfold fMeets; rw [decide_eq_false (by split <;> omega)]; rfl), ht⟩) (fun q h => by cases h) d_Fault_meets_60
      · refine lv_iload hx hb d_Fault_meets_43 (lv_at hl 1 rfl) ?_
        refine lv_iload hx hb d_Fault_meets_45 (lv_at hl 0 rfl) ?_
        refine z_iadd hx hb d_Fault_meets_47 ?_
        refine lv_iload hx hb d_Fault_meets_48 (lv_at hl 6 rfl) ?_
        refine zn_iadd hx hb d_Fault_meets_50 ?_
        refine lv_iload_n hx hb d_Fault_meets_51 rfl (lv_at hl 4 rfl) ?_
        refine zn_icmp_le (tgt := 59) hx hb (by omega) (by omega) d_Fault_meets_52 (by decide) (fun c52 => ?_) (fun c52 => ?_)
        · refine lv_iconst (v := (nI 0)) hx hb d_Fault_meets_59 (by decide) ?_
          exact W.zret (v := (nI 0)) hx hb hr nar_b0 (fun t9 ht _ => ⟨_, rfl, congrArg nI (show 0 = (fMeets ax x y w h mg lo hi).toNat by unfold fMeets; rw [decide_eq_false (by split <;> omega)]; rfl), ht⟩) (fun q h => by cases h) d_Fault_meets_60
        · refine lv_iconst (v := (nI 1)) hx hb d_Fault_meets_55 (by decide) ?_
          refine lv_goto (tgt := 60) hx hb d_Fault_meets_56 (by decide) ?_
          exact W.zret (v := (nI 1)) hx hb hr nar_b1 (fun t9 ht _ => ⟨_, rfl, congrArg nI (show 1 = (fMeets ax x y w h mg lo hi).toNat by unfold fMeets; rw [decide_eq_true (by split <;> omega)]; rfl), ht⟩) (fun q h => by cases h) d_Fault_meets_60
    · refine lv_aload_n hx hb d_Fault_meets_21 rfl (lv_at hl 1 rfl) ?_
      refine va_get (D := G) (ci := 2) (v := .int (iI h)) (C := R_Fault) (T := F_Fault) (N := 6) hx hb hts in_Fault hown hK hP 0 rfl rfl 5 (by decide) (hts _ fl_Fault_27) (fun _ h9 => h9) rfl d_Fault_meets_22 ?_
      refine lv_goto (tgt := 32) hx hb d_Fault_meets_25 (by decide) ?_
      refine lv_istore (lv' := [(6, .int (iI h)), (5, .int (iI y)), (0, .ref h0), (1, .int (nI ax)), (2, .int (nI lo)), (3, .int (nI hi)), (4, .int (nI mg))]) hx hb d_Fault_meets_32 hl (by decide) rfl (fun ls hl => ?_)
      refine lv_iload hx hb d_Fault_meets_34 (lv_at hl 1 rfl) ?_
      refine lv_iload hx hb d_Fault_meets_36 (lv_at hl 6 rfl) ?_
      refine zn_isub hx hb d_Fault_meets_38 ?_
      refine lv_iload_n hx hb d_Fault_meets_39 rfl (lv_at hl 5 rfl) ?_
      refine zn_icmp_ge (tgt := 59) hx hb (by omega) (by omega) d_Fault_meets_40 (by decide) (fun c40 => ?_) (fun c40 => ?_)
      · refine lv_iconst (v := (nI 0)) hx hb d_Fault_meets_59 (by decide) ?_
        exact W.zret (v := (nI 0)) hx hb hr nar_b0 (fun t9 ht _ => ⟨_, rfl, congrArg nI (show 0 = (fMeets ax x y w h mg lo hi).toNat by unfold fMeets; rw [decide_eq_false (by split <;> omega)]; rfl), ht⟩) (fun q h => by cases h) d_Fault_meets_60
      · refine lv_iload hx hb d_Fault_meets_43 (lv_at hl 1 rfl) ?_
        refine lv_iload hx hb d_Fault_meets_45 (lv_at hl 0 rfl) ?_
        refine z_iadd hx hb d_Fault_meets_47 ?_
        refine lv_iload hx hb d_Fault_meets_48 (lv_at hl 6 rfl) ?_
        refine zn_iadd hx hb d_Fault_meets_50 ?_
        refine lv_iload_n hx hb d_Fault_meets_51 rfl (lv_at hl 4 rfl) ?_
        refine zn_icmp_le (tgt := 59) hx hb (by omega) (by omega) d_Fault_meets_52 (by decide) (fun c52 => ?_) (fun c52 => ?_)
        · refine lv_iconst (v := (nI 0)) hx hb d_Fault_meets_59 (by decide) ?_
          exact W.zret (v := (nI 0)) hx hb hr nar_b0 (fun t9 ht _ => ⟨_, rfl, congrArg nI (show 0 = (fMeets ax x y w h mg lo hi).toNat by unfold fMeets; rw [decide_eq_false (by split <;> omega)]; rfl), ht⟩) (fun q h => by cases h) d_Fault_meets_60
        · refine lv_iconst (v := (nI 1)) hx hb d_Fault_meets_55 (by decide) ?_
          refine lv_goto (tgt := 60) hx hb d_Fault_meets_56 (by decide) ?_
          exact W.zret (v := (nI 1)) hx hb hr nar_b1 (fun t9 ht _ => ⟨_, rfl, congrArg nI (show 1 = (fMeets ax x y w h mg lo hi).toNat by unfold fMeets; rw [decide_eq_true (by split <;> omega)]; rfl), ht⟩) (fun q h => by cases h) d_Fault_meets_60

abbrev q_Board_cells (G : va_G) (ty : Nat → ClassId) (hB : Nat) (aF : Nat) (aX : Nat) (aY : Nat) (st : Nat) (wd : Nat) (al : Nat) (nf : Nat) (mg : Nat) : Array Value → State → Outcome → State → Prop := vp_Si (fun r : Int32 => r = (nI (wd * al)))
set_option maxRecDepth 100000 in
set_option maxHeartbeats 4000000 in
theorem c_Board_cells (l : Launch) (G : va_G) (ty : Nat → ClassId) (hB : Nat) (aF : Nat) (aX : Nat) (aY : Nat) (st : Nat) (wd : Nat) (al : Nat) (nf : Nat) (mg : Nat) : Met l y_Board_cells ws_Board_cells { frames := 0, cells := 0, slots := 0, locals := 0 } (va_Pc [.ref hB] (fun U => va_P G vwCl [(hB, .inr (0, [.int (nI st), .int (nI wd), .int (nI al), .ref aF, .int (nI nf), .int (nI mg), .ref aX, .ref aY]))] U.heap ∧ KX G ty U)) (q_Board_cells G ty hB aF aX aY st wd al nf mg) 0 0 (fun _ => False) := by
  refine met_ro R_Board (by decide) rfl rfl (Nat.le_of_ble_eq_true rfl) ?_
  intro p e s m below meth c ls hx hb hr hml hown hts hlocks hP hX hl
  have hK := hX.1
  have hl : lv_has ls 1 [(0, .ref hB)] := hl
  refine lv_aload_n hx hb d_Board_cells_0 rfl (lv_at hl 0 rfl) ?_
  refine va_get (D := G) (ci := 0) (v := .int (nI wd)) (C := R_Board) (T := F_Board) (N := 8) hx hb hts in_Board hown hK hP 0 rfl rfl 1 (by decide) (hts _ fl_Board_36) (fun _ h9 => h9) rfl d_Board_cells_1 ?_
  refine lv_aload_n hx hb d_Board_cells_4 rfl (lv_at hl 0 rfl) ?_
  refine va_get (D := G) (ci := 0) (v := .int (nI al)) (C := R_Board) (T := F_Board) (N := 8) hx hb hts in_Board hown hK hP 0 rfl rfl 2 (by decide) (hts _ fl_Board_39) (fun _ h9 => h9) rfl d_Board_cells_5 ?_
  refine n_imul hx hb d_Board_cells_8 ?_
  exact W.iret (v := (nI (wd * al))) hx hb hr (fun t9 ht _ => ⟨_, rfl, rfl, ht⟩) (fun q h => by cases h) d_Board_cells_9

abbrev q_Board_stepsOf (G : va_G) (ty : Nat → ClassId) (hB : Nat) (aF : Nat) (aX : Nat) (aY : Nat) (st : Nat) (wd : Nat) (al : Nat) (nf : Nat) (mg : Nat) (ax : Nat) : Array Value → State → Outcome → State → Prop := vp_Si (fun r : Int32 => r = (nI (if ax = 0 then wd else al)))
set_option maxRecDepth 100000 in
set_option maxHeartbeats 4000000 in
theorem c_Board_stepsOf (l : Launch) (G : va_G) (ty : Nat → ClassId) (hB : Nat) (aF : Nat) (aX : Nat) (aY : Nat) (st : Nat) (wd : Nat) (al : Nat) (nf : Nat) (mg : Nat) (ax : Nat) (g0 : ax ≤ 1) : Met l y_Board_stepsOf ws_Board_stepsOf { frames := 0, cells := 0, slots := 0, locals := 0 } (va_Pc [.ref hB, .int (nI ax)] (fun U => va_P G vwCl [(hB, .inr (0, [.int (nI st), .int (nI wd), .int (nI al), .ref aF, .int (nI nf), .int (nI mg), .ref aX, .ref aY]))] U.heap ∧ KX G ty U)) (q_Board_stepsOf G ty hB aF aX aY st wd al nf mg ax) 0 0 (fun _ => False) := by
  refine met_ro R_Board (by decide) rfl rfl (Nat.le_of_ble_eq_true rfl) ?_
  intro p e s m below meth c ls hx hb hr hml hown hts hlocks hP hX hl
  have hK := hX.1
  have hl : lv_has ls 2 [(0, .ref hB), (1, .int (nI ax))] := hl
  refine lv_iload_n hx hb d_Board_stepsOf_0 rfl (lv_at hl 1 rfl) ?_
  refine n_if_ne (tgt := 11) hx hb (by omega) d_Board_stepsOf_1 (by decide) (fun c1 => ?_) (fun c1 => ?_)
  · refine lv_aload_n hx hb d_Board_stepsOf_11 rfl (lv_at hl 0 rfl) ?_
    refine va_get (D := G) (ci := 0) (v := .int (nI al)) (C := R_Board) (T := F_Board) (N := 8) hx hb hts in_Board hown hK hP 0 rfl rfl 2 (by decide) (hts _ fl_Board_39) (fun _ h9 => h9) rfl d_Board_stepsOf_12 ?_
    exact W.iret (v := (nI al)) hx hb hr (fun t9 ht _ => ⟨_, rfl, congrArg nI (by split <;> omega), ht⟩) (fun q h => by cases h) d_Board_stepsOf_15
  · refine lv_aload_n hx hb d_Board_stepsOf_4 rfl (lv_at hl 0 rfl) ?_
    refine va_get (D := G) (ci := 0) (v := .int (nI wd)) (C := R_Board) (T := F_Board) (N := 8) hx hb hts in_Board hown hK hP 0 rfl rfl 1 (by decide) (hts _ fl_Board_36) (fun _ h9 => h9) rfl d_Board_stepsOf_5 ?_
    refine lv_goto (tgt := 15) hx hb d_Board_stepsOf_8 (by decide) ?_
    exact W.iret (v := (nI wd)) hx hb hr (fun t9 ht _ => ⟨_, rfl, congrArg nI (by split <;> omega), ht⟩) (fun q h => by cases h) d_Board_stepsOf_15

abbrev q_Board_stepsHolding (G : va_G) (ty : Nat → ClassId) (hB : Nat) (aF : Nat) (aX : Nat) (aY : Nat) (st : Nat) (wd : Nat) (al : Nat) (nf : Nat) (mg : Nat) (pt : Nat) : Array Value → State → Outcome → State → Prop := vp_Si (fun r : Int32 => r = (nI ((pt + st - 1) / st)))
set_option maxRecDepth 100000 in
set_option maxHeartbeats 4000000 in
theorem c_Board_stepsHolding (l : Launch) (G : va_G) (ty : Nat → ClassId) (hB : Nat) (aF : Nat) (aX : Nat) (aY : Nat) (st : Nat) (wd : Nat) (al : Nat) (nf : Nat) (mg : Nat) (pt : Nat) (g1 : 1 ≤ st) (g2 : st ≤ 65536) (g3 : pt ≤ 65536) : Met l y_Board_stepsHolding ws_Board_stepsHolding { frames := 0, cells := 0, slots := 0, locals := 0 } (va_Pc [.ref hB, .int (nI pt)] (fun U => va_P G vwCl [(hB, .inr (0, [.int (nI st), .int (nI wd), .int (nI al), .ref aF, .int (nI nf), .int (nI mg), .ref aX, .ref aY]))] U.heap ∧ KX G ty U)) (q_Board_stepsHolding G ty hB aF aX aY st wd al nf mg pt) 0 0 (fun _ => False) := by
  refine met_ro R_Board (by decide) rfl rfl (Nat.le_of_ble_eq_true rfl) ?_
  intro p e s m below meth c ls hx hb hr hml hown hts hlocks hP hX hl
  have hK := hX.1
  have hl : lv_has ls 2 [(0, .ref hB), (1, .int (nI pt))] := hl
  refine lv_iload_n hx hb d_Board_stepsHolding_0 rfl (lv_at hl 1 rfl) ?_
  refine lv_aload_n hx hb d_Board_stepsHolding_1 rfl (lv_at hl 0 rfl) ?_
  refine va_get (D := G) (ci := 0) (v := .int (nI st)) (C := R_Board) (T := F_Board) (N := 8) hx hb hts in_Board hown hK hP 0 rfl rfl 0 (by decide) (hts _ fl_Board_30) (fun _ h9 => h9) rfl d_Board_stepsHolding_2 ?_
  refine n_iadd hx hb d_Board_stepsHolding_5 ?_
  refine lv_iconst (v := (nI 1)) hx hb d_Board_stepsHolding_6 (by decide) ?_
  refine n_isub hx hb (by omega) d_Board_stepsHolding_7 ?_
  refine lv_aload_n hx hb d_Board_stepsHolding_8 rfl (lv_at hl 0 rfl) ?_
  refine va_get (D := G) (ci := 0) (v := .int (nI st)) (C := R_Board) (T := F_Board) (N := 8) hx hb hts in_Board hown hK hP 0 rfl rfl 0 (by decide) (hts _ fl_Board_30) (fun _ h9 => h9) rfl d_Board_stepsHolding_9 ?_
  refine n_idiv hx hb (by omega) (by omega) (by omega) d_Board_stepsHolding_12 ?_
  exact W.iret (v := (nI (((pt + st) - 1) / st))) hx hb hr (fun t9 ht _ => ⟨_, rfl, rfl, ht⟩) (fun q h => by cases h) d_Board_stepsHolding_13

abbrev q_Board_faultsIn (G : va_G) (ty : Nat → ClassId) (hB : Nat) (aF : Nat) (aX : Nat) (aY : Nat) (st : Nat) (wd : Nat) (al : Nat) (nf : Nat) (mg : Nat) (nX : Nat) (nY : Nat) (x : Nat) (y : Nat) (fX : Nat → Int32) (fY : Nat → Int32) : Array Value → State → Outcome → State → Prop := vp_Si (fun r : Int32 => r = (fX x &&& fY y))
set_option maxRecDepth 100000 in
set_option maxHeartbeats 4000000 in
theorem c_Board_faultsIn (l : Launch) (G : va_G) (ty : Nat → ClassId) (hB : Nat) (aF : Nat) (aX : Nat) (aY : Nat) (st : Nat) (wd : Nat) (al : Nat) (nf : Nat) (mg : Nat) (nX : Nat) (nY : Nat) (x : Nat) (y : Nat) (fX : Nat → Int32) (fY : Nat → Int32) (g1 : x < nX) (g2 : y < nY) (g3 : nX ≤ 1000) (g4 : nY ≤ 1000) : Met l y_Board_faultsIn ws_Board_faultsIn { frames := 0, cells := 0, slots := 0, locals := 0 } (va_Pc [.ref hB, .int (nI x), .int (nI y)] (fun U => va_P G vwCl [(hB, .inr (0, [.int (nI st), .int (nI wd), .int (nI al), .ref aF, .int (nI nf), .int (nI mg), .ref aX, .ref aY])), (aX, .inl (ty 0, nX, .inl fX)), (aY, .inl (ty 0, nY, .inl fY))] U.heap ∧ KX G ty U)) (q_Board_faultsIn G ty hB aF aX aY st wd al nf mg nX nY x y fX fY) 0 0 (fun _ => False) := by
  refine met_ro R_Board (by decide) rfl rfl (Nat.le_of_ble_eq_true rfl) ?_
  intro p e s m below meth c ls hx hb hr hml hown hts hlocks hP hX hl
  have hK := hX.1
  have hl : lv_has ls 3 [(0, .ref hB), (1, .int (nI x)), (2, .int (nI y))] := hl
  refine lv_aload_n hx hb d_Board_faultsIn_0 rfl (lv_at hl 0 rfl) ?_
  refine va_get (D := G) (ci := 0) (v := .ref aX) (C := R_Board) (T := F_Board) (N := 8) hx hb hts in_Board hown hK hP 0 rfl rfl 6 (by decide) (hts _ fl_Board_46) (fun _ h9 => h9) rfl d_Board_faultsIn_1 ?_
  refine lv_iload_n hx hb d_Board_faultsIn_4 rfl (lv_at hl 1 rfl) ?_
  refine n_iald hx hb hK hP 1 0 rfl rfl (by omega) (by omega) d_Board_faultsIn_5 ?_
  refine lv_aload_n hx hb d_Board_faultsIn_6 rfl (lv_at hl 0 rfl) ?_
  refine va_get (D := G) (ci := 0) (v := .ref aY) (C := R_Board) (T := F_Board) (N := 8) hx hb hts in_Board hown hK hP 0 rfl rfl 7 (by decide) (hts _ fl_Board_50) (fun _ h9 => h9) rfl d_Board_faultsIn_7 ?_
  refine lv_iload_n hx hb d_Board_faultsIn_10 rfl (lv_at hl 2 rfl) ?_
  refine n_iald hx hb hK hP 2 0 rfl rfl (by omega) (by omega) d_Board_faultsIn_11 ?_
  refine lv_iand hx hb d_Board_faultsIn_12 ?_
  exact W.iret (v := ((fX x) &&& (fY y))) hx hb hr (fun t9 ht _ => ⟨_, rfl, rfl, ht⟩) (fun q h => by cases h) d_Board_faultsIn_13
