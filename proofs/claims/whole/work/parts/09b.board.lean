theorem lk_Board_57 : Cond.methodLink R_Board 57 y_Board_stepsOf ∈ TB := mem_TB 566 (by decide +kernel) (by decide +kernel)
theorem lk_Board_63 : Cond.methodLink R_Board 63 y_Board_meeting ∈ TB := mem_TB 573 (by decide +kernel) (by decide +kernel)
theorem nst_Board_60 : (R_Board, 60, y_Rips_spanOf) ∈ nests := by decide +kernel

theorem sp_lt {b n N : Nat} (h : b < n) (h1 : 1 ≤ n) (h2 : n ≤ N) : n * (n - 1) / 2 + b < N * (N + 1) / 2 := by
  have e1 : n * (n - 1) + 2 * n = n * (n + 1) := by
    obtain ⟨k, rfl⟩ : ∃ k, n = k + 1 := ⟨n - 1, by omega⟩
    rw [Nat.add_sub_cancel, show k + 1 + 1 = k + 2 from rfl, Nat.mul_add (k + 1) k 2]
    omega
  have e2 : n * (n + 1) ≤ N * (N + 1) := Nat.mul_le_mul h2 (by omega)
  omega
theorem sp_le {N : Nat} (h : N ≤ 24) : N * (N + 1) / 2 ≤ 1000 := by
  have : N * (N + 1) ≤ 24 * 25 := Nat.mul_le_mul h (by omega)
  omega
/-- spans that end elsewhere, or begin elsewhere, have other numbers -/
theorem spne {n1 b1 n b : Nat} (h1 : 1 ≤ n1) (h2 : 1 ≤ n) (h3 : b1 < n1) (h4 : b < n) (h : n1 < n ∨ n < n1 ∨ b1 ≠ b) : n1 * (n1 - 1) / 2 + b1 ≠ n * (n - 1) / 2 + b := by
  have key : ∀ x y z w : Nat, 1 ≤ x → x < y → z < x → x * (x - 1) / 2 + z < y * (y - 1) / 2 + w := by
    intro x y z w hx hxy hz
    have := sp_lt (b := z) (n := x) (N := y - 1) hz hx (by omega)
    have e : (y - 1) * (y - 1 + 1) = y * (y - 1) := by rw [show y - 1 + 1 = y by omega, Nat.mul_comm]
    rw [e] at this
    omega
  rcases Nat.lt_trichotomy n1 n with q | q | q
  · have := key n1 n b1 b h1 q h3; omega
  · subst q; omega
  · have := key n n1 b b1 h2 q h4; omega
abbrev q_Board_findAlong (G : va_G) (ty : Nat → ClassId) (hB : Nat) (aF : Nat) (aX : Nat) (aY : Nat) (st : Nat) (wd : Nat) (al : Nat) (mg : Nat) (fF : Nat → Option Nat) (ax : Nat) (aM : Nat) (nM : Nat) (fM0 : Nat → Int32) (nf : Nat) (adF : Nat → Nat) (fd : Nat → Nat → Int) (ns : Nat) (adS : Nat → Nat) (sw : Nat → Nat) (sp : Nat → Nat) (sn : Nat → Int) (pr : Nat → Int) (sl : Nat → Nat) (sm : Nat → Nat) (sb : Nat → Int32) (lo : Nat → Nat) (hi : Nat → Nat) (sa : Nat → Int32) (A : Nat → Prop) : Array Value → State → Outcome → State → Prop := va_Qv (fun (uu : (Nat → Int32)) => ∀ n b, 1 ≤ n → n ≤ (if ax = 0 then wd else al) → b < n → uu (n * (n - 1) / 2 + b) = Mk (fM fd mg ax (b * st) (n * st)) nf) (at_W G (fun (uu : (Nat → Int32)) => (WP [(hB, .inr (0, [.int (nI st), .int (nI wd), .int (nI al), .ref aF, .int (nI nf), .int (nI mg), .ref aX, .ref aY])), (aF, .inl (ty 3, 20, .inr (.inr (.inr (.inr fF))))), (aM, .inl (ty 0, nM, .inl uu))] (PLd nf adF fd ns adS sw sp sn pr sl sm sb lo hi sa))) A) A
set_option maxRecDepth 100000 in
set_option maxHeartbeats 4000000 in
theorem c_Board_findAlong (l : Launch) (G : va_G) (ty : Nat → ClassId) (sz : Nat) (hB : Nat) (aF : Nat) (aX : Nat) (aY : Nat) (st : Nat) (wd : Nat) (al : Nat) (mg : Nat) (fF : Nat → Option Nat) (ax : Nat) (aM : Nat) (nM : Nat) (fM0 : Nat → Int32) (nf : Nat) (adF : Nat → Nat) (fd : Nat → Nat → Int) (ns : Nat) (adS : Nat → Nat) (sw : Nat → Nat) (sp : Nat → Nat) (sn : Nat → Int) (pr : Nat → Int) (sl : Nat → Nat) (sm : Nat → Nat) (sb : Nat → Int32) (lo : Nat → Nat) (hi : Nat → Nat) (sa : Nat → Int32) (q1 : 1 ≤ st) (q2 : st ≤ 65536) (q3 : wd ≤ 10) (q4 : al ≤ 24) (gm : mg ≤ 65536) (gF : FOK nf fd) (gf : ∀ i, i < nf → fF i = some (adF i)) (g0 : ax ≤ 1) (gN : (if ax = 0 then wd else al) * ((if ax = 0 then wd else al) + 1) / 2 = nM) : Met l y_Board_findAlong ws_Board_findAlong { frames := 2, cells := 0, slots := 0, locals := 51 } (va_Pc [.ref hB, .int (nI ax), .ref aM] (fun U => U.heap.size = sz ∧ va_P G vwCl (WP [(hB, .inr (0, [.int (nI st), .int (nI wd), .int (nI al), .ref aF, .int (nI nf), .int (nI mg), .ref aX, .ref aY])), (aF, .inl (ty 3, 20, .inr (.inr (.inr (.inr fF))))), (aM, .inl (ty 0, nM, .inl fM0))] (PLd nf adF fd ns adS sw sp sn pr sl sm sb lo hi sa)) U.heap ∧ KX G ty U ∧ va_D (fun _ => True) (WP [(hB, .inr (0, [.int (nI st), .int (nI wd), .int (nI al), .ref aF, .int (nI nf), .int (nI mg), .ref aX, .ref aY])), (aF, .inl (ty 3, 20, .inr (.inr (.inr (.inr fF))))), (aM, .inl (ty 0, nM, .inl fM0))] (PLd nf adF fd ns adS sw sp sn pr sl sm sb lo hi sa)))) (q_Board_findAlong G ty hB aF aX aY st wd al mg fF ax aM nM fM0 nf adF fd ns adS sw sp sn pr sl sm sb lo hi sa (va_A (WP [(hB, .inr (0, [.int (nI st), .int (nI wd), .int (nI al), .ref aF, .int (nI nf), .int (nI mg), .ref aX, .ref aY])), (aF, .inl (ty 3, 20, .inr (.inr (.inr (.inr fF))))), (aM, .inl (ty 0, nM, .inl fM0))] (PLd nf adF fd ns adS sw sp sn pr sl sm sb lo hi sa)) sz)) 0 0 (va_A (WP [(hB, .inr (0, [.int (nI st), .int (nI wd), .int (nI al), .ref aF, .int (nI nf), .int (nI mg), .ref aX, .ref aY])), (aF, .inl (ty 3, 20, .inr (.inr (.inr (.inr fF))))), (aM, .inl (ty 0, nM, .inl fM0))] (PLd nf adF fd ns adS sw sp sn pr sl sm sb lo hi sa)) sz) := by
  refine met_wr (y := y_Board_findAlong) (maxL := 6) (sz := sz) (G := G) (ty := ty) (mc := 0) (ms := 0) (av := [.ref hB, .int (nI ax), .ref aM]) (W0 := (WP [(hB, .inr (0, [.int (nI st), .int (nI wd), .int (nI al), .ref aF, .int (nI nf), .int (nI mg), .ref aX, .ref aY])), (aF, .inl (ty 3, 20, .inr (.inr (.inr (.inr fF))))), (aM, .inl (ty 0, nM, .inl fM0))] (PLd nf adF fd ns adS sw sp sn pr sl sm sb lo hi sa))) (fun A => q_Board_findAlong G ty hB aF aX aY st wd al mg fF ax aM nM fM0 nf adF fd ns adS sw sp sn pr sl sm sb lo hi sa A) R_Board (by decide) rfl rfl (Nat.le_of_ble_eq_true rfl) ?_
  intro p e s m below meth c ls A hx hb hr hml hown hts hlocks hin hA hP hX hD hS hl
  have hK := hX.1
  have hl : lv_has ls 6 [(0, .ref hB), (1, .int (nI ax)), (2, .ref aM)] := hl
  obtain ⟨nn, enn⟩ : ∃ nn, nn = (if ax = 0 then wd else al) := ⟨_, rfl⟩
  have hN : nn ≤ 24 := by rw [enn]; split <;> omega
  rw [← enn] at gN
  refine lv_aload_n hx hb d_Board_findAlong_0 rfl (lv_at hl 0 rfl) ?_
  refine lv_iload_n hx hb d_Board_findAlong_1 rfl (lv_at hl 1 rfl) ?_
  refine vp_callSi (W.runV (As := [.int (nI ax)]) (rest := []) ⟨hx, hb, hml, hown, hts⟩ (c_Board_stepsOf l G ty hB aF aX aY st wd al nf mg ax (by omega)) ⟨callB_of 1 hts (gd_TB cd_Board_stepsOf) rfl rfl rfl (hts _ ini_Board) (hts _ lk_Board_57) hd_Board_stepsOf ⟨Nat.le_of_ble_eq_true rfl, Nat.le_of_ble_eq_true rfl⟩, hts _ im_Board_stepsOf, hts _ sl_Board_stepsOf⟩ (preV_ro (pre_of (hP.part (cx := [(hB, .inr (0, [.int (nI st), .int (nI wd), .int (nI al), .ref aF, .int (nI nf), .int (nI mg), .ref aX, .ref aY]))]) [0] rfl)) hX 0 rfl rfl) rfl rfl hl.1 rfl (lv_room (Nat.le_of_ble_eq_true rfl)) d_Board_findAlong_2 ⟨Nat.le_of_ble_eq_true rfl, Nat.le_of_ble_eq_true rfl⟩) (fun r9 er9 => ?_)
  subst er9
  refine top_i (show (nI (if ax = 0 then wd else al)) = (nI nn) from congrArg nI enn.symm) ?_
  refine lv_istore_n (lv' := [(3, .int (nI nn)), (0, .ref hB), (1, .int (nI ax)), (2, .ref aM)]) hx hb d_Board_findAlong_5 rfl hl (by decide) rfl (fun ls hl => ?_)
  refine lv_iconst (v := (nI 1)) hx hb d_Board_findAlong_6 (by decide) ?_
  refine lv_istore (lv' := [(4, .int (nI 1)), (3, .int (nI nn)), (0, .ref hB), (1, .int (nI ax)), (2, .ref aM)]) hx hb d_Board_findAlong_7 hl (by decide) rfl (fun ls hl => ?_)
  have L9 : ∀ (k9 : Nat) (n : Nat) (f : Nat → Int32) (H : Heap) (locs : List Loc) (ls : Array Slot), (1 ≤ n) → (n ≤ nn + 1) → (∀ n1 b1, 1 ≤ n1 → n1 < n → b1 < n1 → f (n1 * (n1 - 1) / 2 + b1) = Mk (fM fd mg ax (b1 * st) (n1 * st)) nf) → nn + 1 - n < k9 → va_P G vwCl (WP [(hB, .inr (0, [.int (nI st), .int (nI wd), .int (nI al), .ref aF, .int (nI nf), .int (nI mg), .ref aX, .ref aY])), (aF, .inl (ty 3, 20, .inr (.inr (.inr (.inr fF))))), (aM, .inl (ty 0, nM, .inl f))] (PLd nf adF fd ns adS sw sp sn pr sl sm sb lo hi sa)) H → va_D A (WP [(hB, .inr (0, [.int (nI st), .int (nI wd), .int (nI al), .ref aF, .int (nI nf), .int (nI mg), .ref aX, .ref aY])), (aF, .inl (ty 3, 20, .inr (.inr (.inr (.inr fF))))), (aM, .inl (ty 0, nM, .inl f))] (PLd nf adF fd ns adS sw sp sn pr sl sm sb lo hi sa)) → va_S A s.heap H locs → lv_has ls 6 [(0, .ref hB), (1, .int (nI ax)), (2, .ref aM), (3, .int (nI nn)), (4, .int (nI n))] → W p l e { frames := 2, cells := 0, slots := 0, locals := 51 } s m [.ref hB, .int (nI ax), .ref aM].toArray below meth c H locs 0 0 (MQ below (q_Board_findAlong G ty hB aF aX aY st wd al mg fF ax aM nM fM0 nf adF fd ns adS sw sp sn pr sl sm sb lo hi sa A) [.ref hB, .int (nI ax), .ref aM].toArray s 0 0 A) (F0 m 9 ls []) := by
    intro k9
    induction k9 with
    | zero => intro n f H locs ls hn hn2 hI hk9; exact absurd hk9 (Nat.not_lt_zero _)
    | succ k9 ih9 =>
      intro n f H locs ls hn hn2 hI hk9 hP hD hS hl
      refine lv_iload hx hb d_Board_findAlong_9 (lv_at hl 4 rfl) ?_
      refine lv_iload_n hx hb d_Board_findAlong_11 rfl (lv_at hl 3 rfl) ?_
      refine n_icmp_gt (tgt := 65) hx hb (by omega) (by omega) d_Board_findAlong_12 (by decide) (fun c12 => ?_) (fun c12 => ?_)
      · exact W.vret hx hb hr (fun t9 ht hW => ⟨⟨(f), rfl, fun n1 b1 h1 h2 h3 => hI n1 b1 h1 (by rw [← enn] at h2; omega) h3, by rw [ht]; exact hP, hD⟩, hS.F ht⟩) hS.2.2 d_Board_findAlong_65
      · refine lv_iconst (v := (nI 0)) hx hb d_Board_findAlong_15 (by decide) ?_
        refine lv_istore (lv' := [(5, .int (nI 0)), (0, .ref hB), (1, .int (nI ax)), (2, .ref aM), (3, .int (nI nn)), (4, .int (nI n))]) hx hb d_Board_findAlong_16 hl (by decide) rfl (fun ls hl => ?_)
        have L18 : ∀ (k9 : Nat) (b : Nat) (f : Nat → Int32) (H : Heap) (locs : List Loc) (ls : Array Slot), (b ≤ n) → (∀ n1 b1, 1 ≤ n1 → n1 < n → b1 < n1 → f (n1 * (n1 - 1) / 2 + b1) = Mk (fM fd mg ax (b1 * st) (n1 * st)) nf) → (∀ b1, b1 < b → f (n * (n - 1) / 2 + b1) = Mk (fM fd mg ax (b1 * st) (n * st)) nf) → n - b < k9 → va_P G vwCl (WP [(hB, .inr (0, [.int (nI st), .int (nI wd), .int (nI al), .ref aF, .int (nI nf), .int (nI mg), .ref aX, .ref aY])), (aF, .inl (ty 3, 20, .inr (.inr (.inr (.inr fF))))), (aM, .inl (ty 0, nM, .inl f))] (PLd nf adF fd ns adS sw sp sn pr sl sm sb lo hi sa)) H → va_D A (WP [(hB, .inr (0, [.int (nI st), .int (nI wd), .int (nI al), .ref aF, .int (nI nf), .int (nI mg), .ref aX, .ref aY])), (aF, .inl (ty 3, 20, .inr (.inr (.inr (.inr fF))))), (aM, .inl (ty 0, nM, .inl f))] (PLd nf adF fd ns adS sw sp sn pr sl sm sb lo hi sa)) → va_S A s.heap H locs → lv_has ls 6 [(0, .ref hB), (1, .int (nI ax)), (2, .ref aM), (3, .int (nI nn)), (4, .int (nI n)), (5, .int (nI b))] → W p l e { frames := 2, cells := 0, slots := 0, locals := 51 } s m [.ref hB, .int (nI ax), .ref aM].toArray below meth c H locs 0 0 (MQ below (q_Board_findAlong G ty hB aF aX aY st wd al mg fF ax aM nM fM0 nf adF fd ns adS sw sp sn pr sl sm sb lo hi sa A) [.ref hB, .int (nI ax), .ref aM].toArray s 0 0 A) (F0 m 18 ls []) := by
          intro k9
          induction k9 with
          | zero => intro b f H locs ls hb1 hI1 hJ hk9; exact absurd hk9 (Nat.not_lt_zero _)
          | succ k9 ih18 =>
            intro b f H locs ls hb1 hI1 hJ hk9 hP hD hS hl
            refine lv_iload hx hb d_Board_findAlong_18 (lv_at hl 5 rfl) ?_
            refine lv_iload hx hb d_Board_findAlong_20 (lv_at hl 4 rfl) ?_
            refine n_icmp_ge (tgt := 59) hx hb (by omega) (by omega) d_Board_findAlong_22 (by decide) (fun c22 => ?_) (fun c22 => ?_)
            · refine lv_iinc (v := (nI (n + 1))) (lv' := [(4, .int (nI (n + 1))), (0, .ref hB), (1, .int (nI ax)), (2, .ref aM), (3, .int (nI nn)), (5, .int (nI b))]) hx hb d_Board_findAlong_59 hl (k := 4) rfl (nI_inc _ _ _ (by omega)) (by decide) rfl (fun ls hl => ?_)
              refine lv_goto (tgt := 9) hx hb d_Board_findAlong_62 (by decide) ?_
              exact ih9 (n + 1) f _ _ _ (by omega) (by omega) (fun n1 b1 h1 h2 h3 => (Nat.lt_or_ge n1 n).elim (fun h => hI1 n1 b1 h1 h h3) (fun h => by rw [show n1 = n from by omega]; exact hJ b1 (by omega))) (by omega) hP hD hS (lv_sub hl [1, 2, 3, 4, 0] rfl)
            · have hb3 : b < n := by omega
              have hst1 : b * st ≤ 24 * 65536 := Nat.mul_le_mul (by omega) (by omega)
              have hst2 : n * st ≤ 24 * 65536 := Nat.mul_le_mul (by omega) (by omega)
              have hsp : n * (n - 1) / 2 + b < nM := by rw [← gN]; exact sp_lt (by omega) (by omega) (by omega)
              have hnM : nM ≤ 1000 := by rw [← gN]; exact sp_le (by omega)
              refine lv_aload_n hx hb d_Board_findAlong_25 rfl (lv_at hl 2 rfl) ?_
              refine lv_iload hx hb d_Board_findAlong_26 (lv_at hl 5 rfl) ?_
              refine lv_iload hx hb d_Board_findAlong_28 (lv_at hl 4 rfl) ?_
              refine nest_Rips_spanOf (G := G) (ty := ty) hx hb hml hown hts hX nst_Board_60 hl.1 (by omega) (by omega) (by omega) (lv_room (Nat.le_of_ble_eq_true rfl)) ⟨Nat.le_of_ble_eq_true rfl, Nat.le_of_ble_eq_true rfl⟩ ⟨Nat.le_of_ble_eq_true rfl, Nat.le_of_ble_eq_true rfl⟩ d_Board_findAlong_30 ?_
              refine lv_aload_n hx hb d_Board_findAlong_33 rfl (lv_at hl 0 rfl) ?_
              refine lv_iload_n hx hb d_Board_findAlong_34 rfl (lv_at hl 1 rfl) ?_
              refine lv_iload hx hb d_Board_findAlong_35 (lv_at hl 5 rfl) ?_
              refine lv_aload_n hx hb d_Board_findAlong_37 rfl (lv_at hl 0 rfl) ?_
              refine va_get (D := G) (ci := 0) (v := .int (nI st)) (C := R_Board) (T := F_Board) (N := 8) hx hb hts in_Board hown hK hP 0 rfl rfl 0 (by decide) (hts _ fl_Board_30) (fun _ h9 => h9) rfl d_Board_findAlong_38 ?_
              refine n_imul hx hb d_Board_findAlong_41 ?_
              refine lv_iload hx hb d_Board_findAlong_42 (lv_at hl 4 rfl) ?_
              refine lv_aload_n hx hb d_Board_findAlong_44 rfl (lv_at hl 0 rfl) ?_
              refine va_get (D := G) (ci := 0) (v := .int (nI st)) (C := R_Board) (T := F_Board) (N := 8) hx hb hts in_Board hown hK hP 0 rfl rfl 0 (by decide) (hts _ fl_Board_30) (fun _ h9 => h9) rfl d_Board_findAlong_45 ?_
              refine n_imul hx hb d_Board_findAlong_48 ?_
              refine vp_callSi (W.runV (As := [.int (nI ax), .int (nI (b * st)), .int (nI (n * st))]) (rest := [.int (nI (n * (n - 1) / 2 + b)), .ref aM]) ⟨hx, hb, hml, hown, hts⟩ (c_Board_meeting l G ty hB aF aX aY st wd al mg fF ax (b * st) (n * st) nf adF fd ns adS sw sp sn pr sl sm sb lo hi sa (by omega) (by omega) (by omega) (by omega) gF gf) ⟨callB_of 3 hts (gd_TB cd_Board_meeting) rfl rfl rfl (hts _ ini_Board) (hts _ lk_Board_63) hd_Board_meeting ⟨Nat.le_of_ble_eq_true rfl, Nat.le_of_ble_eq_true rfl⟩, hts _ im_Board_meeting, hts _ sl_Board_meeting⟩ (preV_ro (hP.part (cx := [(hB, .inr (0, [.int (nI st), .int (nI wd), .int (nI al), .ref aF, .int (nI nf), .int (nI mg), .ref aX, .ref aY])), (aF, .inl (ty 3, 20, .inr (.inr (.inr (.inr fF)))))]) [0, 1] rfl) hX 0 rfl rfl) rfl rfl hl.1 rfl (lv_room (Nat.le_of_ble_eq_true rfl)) d_Board_findAlong_49 ⟨Nat.le_of_ble_eq_true rfl, Nat.le_of_ble_eq_true rfl⟩) (fun r9 er9 => ?_)
              subst er9
              refine n_iast hx hb hK hP hD hS 2 0 rfl rfl (by omega) (by omega) d_Board_findAlong_52 (fun H locs hP hD hS => ?_)
              have hP : va_P G vwCl (WP [(hB, .inr (0, [.int (nI st), .int (nI wd), .int (nI al), .ref aF, .int (nI nf), .int (nI mg), .ref aX, .ref aY])), (aF, .inl (ty 3, 20, .inr (.inr (.inr (.inr fF))))), (aM, .inl (ty 0, nM, .inl (upd f (n * (n - 1) / 2 + b) (Mk (fM fd mg ax (b * st) (n * st)) nf))))] (PLd nf adF fd ns adS sw sp sn pr sl sm sb lo hi sa)) _ := hP
              have hD : va_D A (WP [(hB, .inr (0, [.int (nI st), .int (nI wd), .int (nI al), .ref aF, .int (nI nf), .int (nI mg), .ref aX, .ref aY])), (aF, .inl (ty 3, 20, .inr (.inr (.inr (.inr fF))))), (aM, .inl (ty 0, nM, .inl (upd f (n * (n - 1) / 2 + b) (Mk (fM fd mg ax (b * st) (n * st)) nf))))] (PLd nf adF fd ns adS sw sp sn pr sl sm sb lo hi sa)) := hD
              refine lv_iinc (v := (nI (b + 1))) (lv' := [(5, .int (nI (b + 1))), (0, .ref hB), (1, .int (nI ax)), (2, .ref aM), (3, .int (nI nn)), (4, .int (nI n))]) hx hb d_Board_findAlong_53 hl (k := 5) rfl (nI_inc _ _ _ (by omega)) (by decide) rfl (fun ls hl => ?_)
              refine lv_goto (tgt := 18) hx hb d_Board_findAlong_56 (by decide) ?_
              exact ih18 (b + 1) (upd f (n * (n - 1) / 2 + b) (Mk (fM fd mg ax (b * st) (n * st)) nf)) _ _ _ (by omega) (fun n1 b1 h1 h2 h3 => by rw [pk_un (spne h1 (by omega) h3 (by omega) (Or.inl h2))]; exact hI1 n1 b1 h1 h2 h3) (fun b1 h => (Nat.lt_or_ge b1 b).elim (fun q => by rw [pk_un (by omega)]; exact hJ b1 q) (fun q => by rw [show b1 = b by omega, pk_us])) (by omega) hP hD hS (lv_sub hl [1, 2, 3, 4, 5, 0] rfl)
        exact L18 (n - 0 + 1) 0 f _ _ _ (Nat.zero_le _) hI (fun b1 h => absurd h (by omega)) (Nat.lt_succ_self _) hP hD hS (lv_sub hl [1, 2, 3, 4, 5, 0] rfl)
  exact L9 (nn + 1 - 1 + 1) 1 fM0 _ _ _ (Nat.le_refl 1) (by omega) (fun n1 b1 h1 h2 h3 => absurd h2 (by omega)) (Nat.lt_succ_self _) hP hD hS (lv_sub hl [2, 3, 4, 1, 0] rfl)
