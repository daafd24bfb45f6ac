theorem fl_Board_11 : Cond.fieldLink R_Board 11 "FaultRips$Board" "faults" "[LFaultRips$Fault;" ∈ TB := mem_TB 60 (by decide +kernel) (by decide +kernel)
theorem fl_Board_17 : Cond.fieldLink R_Board 17 "FaultRips$Board" "faultCount" "I" ∈ TB := mem_TB 62 (by decide +kernel) (by decide +kernel)
theorem fl_Board_21 : Cond.fieldLink R_Board 21 "FaultRips$Board" "margin" "I" ∈ TB := mem_TB 65 (by decide +kernel) (by decide +kernel)
theorem lk_Board_67 : Cond.methodLink R_Board 67 y_Fault_meets ∈ TB := mem_TB 577 (by decide +kernel) (by decide +kernel)

abbrev q_Board_meeting (G : va_G) (ty : Nat → ClassId) (hB : Nat) (aF : Nat) (aX : Nat) (aY : Nat) (st : Nat) (wd : Nat) (al : Nat) (mg : Nat) (fF : Nat → Option Nat) (ax : Nat) (a : Nat) (b : Nat) (nf : Nat) (adF : Nat → Nat) (fd : Nat → Nat → Int) (ns : Nat) (adS : Nat → Nat) (sw : Nat → Nat) (sp : Nat → Nat) (sn : Nat → Int) (pr : Nat → Int) (sl : Nat → Nat) (sm : Nat → Nat) (sb : Nat → Int32) (lo : Nat → Nat) (hi : Nat → Nat) (sa : Nat → Int32) : Array Value → State → Outcome → State → Prop := vp_Si (fun r : Int32 => r = (Mk (fM fd mg ax a b) nf))
set_option maxRecDepth 100000 in
set_option maxHeartbeats 4000000 in
theorem c_Board_meeting (l : Launch) (G : va_G) (ty : Nat → ClassId) (hB : Nat) (aF : Nat) (aX : Nat) (aY : Nat) (st : Nat) (wd : Nat) (al : Nat) (mg : Nat) (fF : Nat → Option Nat) (ax : Nat) (a : Nat) (b : Nat) (nf : Nat) (adF : Nat → Nat) (fd : Nat → Nat → Int) (ns : Nat) (adS : Nat → Nat) (sw : Nat → Nat) (sp : Nat → Nat) (sn : Nat → Int) (pr : Nat → Int) (sl : Nat → Nat) (sm : Nat → Nat) (sb : Nat → Int32) (lo : Nat → Nat) (hi : Nat → Nat) (sa : Nat → Int32) (g0 : ax ≤ 1) (ga : a ≤ 2000000) (gb : b ≤ 2000000) (gm : mg ≤ 65536) (gF : FOK nf fd) (gf : ∀ i, i < nf → fF i = some (adF i)) : Met l y_Board_meeting ws_Board_meeting { frames := 1, cells := 0, slots := 0, locals := 26 } (va_Pc [.ref hB, .int (nI ax), .int (nI a), .int (nI b)] (fun U => va_P G vwCl (WP [(hB, .inr (0, [.int (nI st), .int (nI wd), .int (nI al), .ref aF, .int (nI nf), .int (nI mg), .ref aX, .ref aY])), (aF, .inl (ty 3, 20, .inr (.inr (.inr (.inr fF)))))] (PLd nf adF fd ns adS sw sp sn pr sl sm sb lo hi sa)) U.heap ∧ KX G ty U)) (q_Board_meeting G ty hB aF aX aY st wd al mg fF ax a b nf adF fd ns adS sw sp sn pr sl sm sb lo hi sa) 0 0 (fun _ => False) := by
  refine met_ro R_Board (by decide) rfl rfl (Nat.le_of_ble_eq_true rfl) ?_
  intro p e s m below meth c ls hx hb hr hml hown hts hlocks hP hX hl
  have hK := hX.1
  have hl : lv_has ls 6 [(0, .ref hB), (1, .int (nI ax)), (2, .int (nI a)), (3, .int (nI b))] := hl
  refine lv_iconst (v := (nI 0)) hx hb d_Board_meeting_0 (by decide) ?_
  refine lv_istore (lv' := [(4, .int (nI 0)), (0, .ref hB), (1, .int (nI ax)), (2, .int (nI a)), (3, .int (nI b))]) hx hb d_Board_meeting_1 hl (by decide) rfl (fun ls hl => ?_)
  refine lv_iconst (v := (nI 0)) hx hb d_Board_meeting_3 (by decide) ?_
  refine lv_istore (lv' := [(5, .int (nI 0)), (4, .int (nI 0)), (0, .ref hB), (1, .int (nI ax)), (2, .int (nI a)), (3, .int (nI b))]) hx hb d_Board_meeting_4 hl (by decide) rfl (fun ls hl => ?_)
  have L6 : ∀ (k9 : Nat) (i : Nat) (ls : Array Slot), (i ≤ nf) → nf - i < k9 → lv_has ls 6 [(0, .ref hB), (1, .int (nI ax)), (2, .int (nI a)), (3, .int (nI b)), (4, .int (Mk (fM fd mg ax a b) i)), (5, .int (nI i))] → W p l e { frames := 1, cells := 0, slots := 0, locals := 26 } s m [.ref hB, .int (nI ax), .int (nI a), .int (nI b)].toArray below meth c s.heap [] 0 0 (MQ below (q_Board_meeting G ty hB aF aX aY st wd al mg fF ax a b nf adF fd ns adS sw sp sn pr sl sm sb lo hi sa) [.ref hB, .int (nI ax), .int (nI a), .int (nI b)].toArray s 0 0 (fun _ => False)) (F0 m 6 ls []) := by
    intro k9
    induction k9 with
    | zero => intro i ls hi hk9; exact absurd hk9 (Nat.not_lt_zero _)
    | succ k9 ih6 =>
      intro i ls hi hk9 hl
      have hn := gF.1
      refine lv_iload hx hb d_Board_meeting_6 (lv_at hl 5 rfl) ?_
      refine lv_aload_n hx hb d_Board_meeting_8 rfl (lv_at hl 0 rfl) ?_
      refine va_get (D := G) (ci := 0) (v := .int (nI nf)) (C := R_Board) (T := F_Board) (N := 8) hx hb hts in_Board hown hK hP 0 rfl rfl 4 (by decide) (hts _ fl_Board_17) (fun _ h9 => h9) rfl d_Board_meeting_9 ?_
      refine n_icmp_ge (tgt := 50) hx hb (by omega) (by omega) d_Board_meeting_12 (by decide) (fun c12 => ?_) (fun c12 => ?_)
      · refine lv_iload hx hb d_Board_meeting_50 (lv_at hl 4 rfl) ?_
        exact W.iret (v := (Mk (fM fd mg ax a b) i)) hx hb hr (fun t9 ht _ => ⟨_, rfl, by rw [show i = nf by omega], ht⟩) (fun q h => by cases h) d_Board_meeting_52
      · refine lv_aload_n hx hb d_Board_meeting_15 rfl (lv_at hl 0 rfl) ?_
        refine va_get (D := G) (ci := 0) (v := .ref aF) (C := R_Board) (T := F_Board) (N := 8) hx hb hts in_Board hown hK hP 0 rfl rfl 3 (by decide) (hts _ fl_Board_11) (fun _ h9 => h9) rfl d_Board_meeting_16 ?_
        refine lv_iload hx hb d_Board_meeting_19 (lv_at hl 5 rfl) ?_
        refine n_aald hx hb hK hP 1 3 rfl rfl (by omega) (by omega) (gf i (by omega)) d_Board_meeting_21 ?_
        have hF := gF.2 i (by omega)
        refine lv_iload_n hx hb d_Board_meeting_22 rfl (lv_at hl 1 rfl) ?_
        refine lv_iload_n hx hb d_Board_meeting_23 rfl (lv_at hl 2 rfl) ?_
        refine lv_iload_n hx hb d_Board_meeting_24 rfl (lv_at hl 3 rfl) ?_
        refine lv_aload_n hx hb d_Board_meeting_25 rfl (lv_at hl 0 rfl) ?_
        refine va_get (D := G) (ci := 0) (v := .int (nI mg)) (C := R_Board) (T := F_Board) (N := 8) hx hb hts in_Board hown hK hP 0 rfl rfl 5 (by decide) (hts _ fl_Board_21) (fun _ h9 => h9) rfl d_Board_meeting_26 ?_
        refine vp_callSi (W.runV (As := [.int (nI ax), .int (nI a), .int (nI b), .int (nI mg)]) (rest := []) ⟨hx, hb, hml, hown, hts⟩ (c_Fault_meets l G ty (adF i) ax (fd i 0) (fd i 1) (fd i 2) (fd i 3) (fd i 4) (fd i 5) a b mg (by omega) (by omega) (by omega) (by omega) (by omega) (by omega) (by omega) (by omega)) ⟨callB_of 4 hts (gd_TB cd_Fault_meets) rfl rfl rfl (hts _ ini_Fault) (hts _ lk_Board_67) hd_Fault_meets ⟨Nat.le_of_ble_eq_true rfl, Nat.le_of_ble_eq_true rfl⟩, hts _ im_Fault_meets, hts _ sl_Fault_meets⟩ (preV_ro (show va_P G vwCl [((adF i), .inr (2, [.int (iI (fd i 0)), .int (iI (fd i 1)), .int (iI (fd i 2)), .int (iI (fd i 3)), .int (iI (fd i 4)), .int (iI (fd i 5))]))] _ from (P_cons (hP (2 + i) _ (pool_1 2 rfl (by omega))) P_nil)) hX 0 rfl rfl) rfl rfl hl.1 rfl (lv_room (Nat.le_of_ble_eq_true rfl)) d_Board_meeting_29 ⟨Nat.le_of_ble_eq_true rfl, Nat.le_of_ble_eq_true rfl⟩) (fun r9 er9 => ?_)
        subst er9
        refine n_if_eq (tgt := 44) hx hb (by have := Bool.toNat_le (fM fd mg ax a b i); unfold fM at this; omega) d_Board_meeting_32 (by decide) (fun c32 => ?_) (fun c32 => ?_)
        · have hl : lv_has ls 6 [(0, .ref hB), (1, .int (nI ax)), (2, .int (nI a)), (3, .int (nI b)), (4, .int (Mk (fM fd mg ax a b) (i + 1))), (5, .int (nI i))] := by rw [show (Mk (fM fd mg ax a b) (i + 1)) = (Mk (fM fd mg ax a b) i) from by rw [Mk_s, if_neg]; have q : (fM fd mg ax a b i).toNat = 0 := c32; intro h; rw [h] at q; exact absurd q (by decide)]; exact hl
          refine lv_iinc (v := (nI (i + 1))) (lv' := [(5, .int (nI (i + 1))), (0, .ref hB), (1, .int (nI ax)), (2, .int (nI a)), (3, .int (nI b)), (4, .int (Mk (fM fd mg ax a b) (i + 1)))]) hx hb d_Board_meeting_44 hl (k := 5) rfl (nI_inc _ _ _ (by omega)) (by decide) rfl (fun ls hl => ?_)
          refine lv_goto (tgt := 6) hx hb d_Board_meeting_47 (by decide) ?_
          exact ih6 (i + 1) _ (by omega) (by omega) (lv_sub hl [1, 2, 3, 4, 5, 0] rfl)
        · refine lv_iload hx hb d_Board_meeting_35 (lv_at hl 4 rfl) ?_
          refine lv_iconst (v := (nI 1)) hx hb d_Board_meeting_37 (by decide) ?_
          refine lv_iload hx hb d_Board_meeting_38 (lv_at hl 5 rfl) ?_
          refine lv_ishl hx hb d_Board_meeting_40 ?_
          refine lv_ior hx hb d_Board_meeting_41 ?_
          refine top_i (show ((Mk (fM fd mg ax a b) i) ||| ((nI 1) <<< ((nI i) &&& 31))) = (Mk (fM fd mg ax a b) (i + 1)) from by rw [Mk_s, if_pos (by have q : ¬ (fM fd mg ax a b i).toNat = 0 := c32; revert q; cases fM fd mg ax a b i <;> simp)]; rfl) ?_
          refine lv_istore (lv' := [(4, .int (Mk (fM fd mg ax a b) (i + 1))), (0, .ref hB), (1, .int (nI ax)), (2, .int (nI a)), (3, .int (nI b)), (5, .int (nI i))]) hx hb d_Board_meeting_42 hl (by decide) rfl (fun ls hl => ?_)
          refine lv_iinc (v := (nI (i + 1))) (lv' := [(5, .int (nI (i + 1))), (4, .int (Mk (fM fd mg ax a b) (i + 1))), (0, .ref hB), (1, .int (nI ax)), (2, .int (nI a)), (3, .int (nI b))]) hx hb d_Board_meeting_44 hl (k := 5) rfl (nI_inc _ _ _ (by omega)) (by decide) rfl (fun ls hl => ?_)
          refine lv_goto (tgt := 6) hx hb d_Board_meeting_47 (by decide) ?_
          exact ih6 (i + 1) _ (by omega) (by omega) (lv_sub hl [2, 3, 4, 5, 1, 0] rfl)
  exact L6 (nf - 0 + 1) 0 _ (Nat.zero_le _) (Nat.lt_succ_self _) (lv_sub hl [2, 3, 4, 5, 1, 0] rfl)
