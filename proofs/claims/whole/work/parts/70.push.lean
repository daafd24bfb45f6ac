

-- a world's cells in another order; one more in a pool
theorem push_perm1 {α : Type} (X P Q : List α) (c : α) : (X ++ ((P ++ [c]) ++ Q)).Perm ((X ++ [c]) ++ (P ++ Q)) := by
  rw [List.append_assoc P [c] Q, List.append_assoc X [c] (P ++ Q)]
  exact List.Perm.append_left X List.perm_middle
theorem push_perm2 {α : Type} (X P Q : List α) (c : α) : (X ++ (P ++ (Q ++ [c]))).Perm ((X ++ [c]) ++ (P ++ Q)) := by
  rw [← List.append_assoc P Q [c], List.append_assoc X [c] (P ++ Q)]
  refine List.Perm.append_left X ?_
  have := @List.perm_middle α c (P ++ Q) []
  rw [List.append_nil] at this
  exact this
theorem va_D_perm {A : Nat → Prop} {ws ws' : va_W} (hp : ws'.Perm ws) (h : va_D A ws) : va_D A ws' := by
  have h1 : (ws.map Prod.fst).Nodup := by
    unfold List.Nodup
    rw [List.pairwise_iff_getElem]
    intro i j hi hj hij e
    rw [List.length_map] at hi hj
    rw [List.getElem_map, List.getElem_map] at e
    have := h.1 i j _ _ (List.getElem?_eq_getElem hi) (List.getElem?_eq_getElem hj) e
    omega
  have h2 : (ws'.map Prod.fst).Nodup := (hp.map Prod.fst).nodup_iff.mpr h1
  unfold List.Nodup at h2
  rw [List.pairwise_iff_getElem] at h2
  refine ⟨?_, fun k q hk => ?_⟩
  · intro i j p q hi hj e
    obtain ⟨li, ei⟩ := List.getElem?_eq_some_iff.mp hi
    obtain ⟨lj, ej⟩ := List.getElem?_eq_some_iff.mp hj
    rcases Nat.lt_trichotomy i j with z | z | z
    · exact absurd (by rw [List.getElem_map, List.getElem_map, ei, ej]; exact e) (h2 i j (by rw [List.length_map]; exact li) (by rw [List.length_map]; exact lj) z)
    · exact z
    · exact absurd (by rw [List.getElem_map, List.getElem_map, ei, ej]; exact e.symm) (h2 j i (by rw [List.length_map]; exact lj) (by rw [List.length_map]; exact li) z)
  · obtain ⟨i, hi⟩ := List.mem_iff_getElem?.mp (hp.mem_iff.mp (List.mem_of_getElem? hk))
    exact h.2 i q hi
theorem va_P_perm {D : va_G} {ws ws' : va_W} {H : Heap} (hp : ws'.Perm ws) (h : va_P D vwCl ws H) : va_P D vwCl ws' H := by
  intro k q hk
  obtain ⟨i, hi⟩ := List.mem_iff_getElem?.mp (hp.mem_iff.mp (List.mem_of_getElem? hk))
  exact h i q hi
theorem pool_succ (n : Nat) (F : Nat → Nat × va_E) : pool (n + 1) F = pool n F ++ [F n] := by
  unfold pool
  rw [List.range_succ, List.map_append]
  rfl
section PU
variable {X : va_W} {nf : Nat} {adF : Nat → Nat} {fd : Nat → Nat → Int} {ns : Nat} {adS : Nat → Nat} {sw sp : Nat → Nat} {sn pr : Nat → Int} {sl sm : Nat → Nat} {sb : Nat → Int32} {lo hi : Nat → Nat} {sa : Nat → Int32} {q : Nat}
theorem pushF_perm {row : Nat → Int} : (X ++ PLd (nf + 1) (va_up adF nf q) (va_up fd nf row) ns adS sw sp sn pr sl sm sb lo hi sa).Perm ((X ++ [(q, .inr (2, [.int (iI (row 0)), .int (iI (row 1)), .int (iI (row 2)), .int (iI (row 3)), .int (iI (row 4)), .int (iI (row 5))]))]) ++ PLd nf adF fd ns adS sw sp sn pr sl sm sb lo hi sa) := by
  unfold PLd
  rw [pool_succ, pool_congr (F' := fun i => (adF i, .inr (2, [.int (iI (fd i 0)), .int (iI (fd i 1)), .int (iI (fd i 2)), .int (iI (fd i 3)), .int (iI (fd i 4)), .int (iI (fd i 5))]))) (fun i hi => by simp only [va_up_ne _ _ (show i ≠ nf by omega)])]
  simp only [va_up_self]
  exact push_perm1 _ _ _ _
theorem pushS_perm {a b : Nat} {d : Int} {e : Int} {f g : Nat} {h : Int32} {i j : Nat} {k : Int32} : (X ++ PLd nf adF fd (ns + 1) (va_up adS ns q) (va_up sw ns a) (va_up sp ns b) (va_up sn ns d) (va_up pr ns e) (va_up sl ns f) (va_up sm ns g) (va_up sb ns h) (va_up lo ns i) (va_up hi ns j) (va_up sa ns k)).Perm ((X ++ [(q, .inr (7, [.int (nI a), .int (nI b), .int (iI d), .long (iL e), .int (nI f), .int (nI g), .int h, .int (nI i), .int (nI j), .int k]))]) ++ PLd nf adF fd ns adS sw sp sn pr sl sm sb lo hi sa) := by
  unfold PLd
  rw [pool_succ, pool_congr (n := ns) (F' := fun i => (adS i, .inr (7, [.int (nI (sw i)), .int (nI (sp i)), .int (iI (sn i)), .long (iL (pr i)), .int (nI (sl i)), .int (nI (sm i)), .int (sb i), .int (nI (lo i)), .int (nI (hi i)), .int (sa i)]))) (fun i hi => by simp only [va_up_ne _ _ (show i ≠ ns by omega)])]
  simp only [va_up_self]
  exact push_perm2 _ _ _ _
end PU

abbrev q_Board_addFault (G : va_G) (ty : Nat → ClassId) (hB : Nat) (aF : Nat) (aX : Nat) (aY : Nat) (st : Nat) (wd : Nat) (al : Nat) (mg : Nat) (fF : Nat → Option Nat) (h0 : Nat) (fc : Int) (kd : Int) (x : Int) (y : Int) (w : Int) (h : Int) (nf : Nat) (adF : Nat → Nat) (fd : Nat → Nat → Int) (ns : Nat) (adS : Nat → Nat) (sw : Nat → Nat) (sp : Nat → Nat) (sn : Nat → Int) (pr : Nat → Int) (sl : Nat → Nat) (sm : Nat → Nat) (sb : Nat → Int32) (lo : Nat → Nat) (hi : Nat → Nat) (sa : Nat → Int32) (A : Nat → Prop) : Array Value → State → Outcome → State → Prop := va_Qv (fun (uu : Unit) => True) (at_W G (fun (uu : Unit) => (WP [(hB, .inr (0, [.int (nI st), .int (nI wd), .int (nI al), .ref aF, .int (nI (nf + 1)), .int (nI mg), .ref aX, .ref aY])), (aF, .inl (ty 3, 20, .inr (.inr (.inr (.inr (va_up fF nf (some h0)))))))] (PLd (nf + 1) (va_up adF nf h0) (va_up fd nf (fun j => [fc, kd, x, y, w, h].getD j 0)) ns adS sw sp sn pr sl sm sb lo hi sa))) A) A
set_option maxRecDepth 100000 in
set_option maxHeartbeats 4000000 in
theorem c_Board_addFault (l : Launch) (G : va_G) (ty : Nat → ClassId) (sz : Nat) (hB : Nat) (aF : Nat) (aX : Nat) (aY : Nat) (st : Nat) (wd : Nat) (al : Nat) (mg : Nat) (fF : Nat → Option Nat) (h0 : Nat) (fc : Int) (kd : Int) (x : Int) (y : Int) (w : Int) (h : Int) (nf : Nat) (adF : Nat → Nat) (fd : Nat → Nat → Int) (ns : Nat) (adS : Nat → Nat) (sw : Nat → Nat) (sp : Nat → Nat) (sn : Nat → Int) (pr : Nat → Int) (sl : Nat → Nat) (sm : Nat → Nat) (sb : Nat → Int32) (lo : Nat → Nat) (hi : Nat → Nat) (sa : Nat → Int32) (g1 : nf < 20) : Met l y_Board_addFault ws_Board_addFault { frames := 0, cells := 0, slots := 0, locals := 0 } (va_Pc [.ref hB, .ref h0] (fun U => U.heap.size = sz ∧ va_P G vwCl (WP [(hB, .inr (0, [.int (nI st), .int (nI wd), .int (nI al), .ref aF, .int (nI nf), .int (nI mg), .ref aX, .ref aY])), (aF, .inl (ty 3, 20, .inr (.inr (.inr (.inr fF))))), (h0, .inr (2, [.int (iI fc), .int (iI kd), .int (iI x), .int (iI y), .int (iI w), .int (iI h)]))] (PLd nf adF fd ns adS sw sp sn pr sl sm sb lo hi sa)) U.heap ∧ KX G ty U ∧ va_D (fun _ => True) (WP [(hB, .inr (0, [.int (nI st), .int (nI wd), .int (nI al), .ref aF, .int (nI nf), .int (nI mg), .ref aX, .ref aY])), (aF, .inl (ty 3, 20, .inr (.inr (.inr (.inr fF))))), (h0, .inr (2, [.int (iI fc), .int (iI kd), .int (iI x), .int (iI y), .int (iI w), .int (iI h)]))] (PLd nf adF fd ns adS sw sp sn pr sl sm sb lo hi sa)))) (q_Board_addFault G ty hB aF aX aY st wd al mg fF h0 fc kd x y w h nf adF fd ns adS sw sp sn pr sl sm sb lo hi sa (va_A (WP [(hB, .inr (0, [.int (nI st), .int (nI wd), .int (nI al), .ref aF, .int (nI nf), .int (nI mg), .ref aX, .ref aY])), (aF, .inl (ty 3, 20, .inr (.inr (.inr (.inr fF))))), (h0, .inr (2, [.int (iI fc), .int (iI kd), .int (iI x), .int (iI y), .int (iI w), .int (iI h)]))] (PLd nf adF fd ns adS sw sp sn pr sl sm sb lo hi sa)) sz)) 0 0 (va_A (WP [(hB, .inr (0, [.int (nI st), .int (nI wd), .int (nI al), .ref aF, .int (nI nf), .int (nI mg), .ref aX, .ref aY])), (aF, .inl (ty 3, 20, .inr (.inr (.inr (.inr fF))))), (h0, .inr (2, [.int (iI fc), .int (iI kd), .int (iI x), .int (iI y), .int (iI w), .int (iI h)]))] (PLd nf adF fd ns adS sw sp sn pr sl sm sb lo hi sa)) sz) := by
  refine met_wr (y := y_Board_addFault) (maxL := 2) (sz := sz) (G := G) (ty := ty) (mc := 0) (ms := 0) (av := [.ref hB, .ref h0]) (W0 := (WP [(hB, .inr (0, [.int (nI st), .int (nI wd), .int (nI al), .ref aF, .int (nI nf), .int (nI mg), .ref aX, .ref aY])), (aF, .inl (ty 3, 20, .inr (.inr (.inr (.inr fF))))), (h0, .inr (2, [.int (iI fc), .int (iI kd), .int (iI x), .int (iI y), .int (iI w), .int (iI h)]))] (PLd nf adF fd ns adS sw sp sn pr sl sm sb lo hi sa))) (fun A => q_Board_addFault G ty hB aF aX aY st wd al mg fF h0 fc kd x y w h nf adF fd ns adS sw sp sn pr sl sm sb lo hi sa A) R_Board (by decide) rfl rfl (Nat.le_of_ble_eq_true rfl) ?_
  intro p e s m below meth c ls A hx hb hr hml hown hts hlocks hin hA hP hX hD hS hl
  have hK := hX.1
  have hl : lv_has ls 2 [(0, .ref hB), (1, .ref h0)] := hl
  refine lv_aload_n hx hb d_Board_addFault_0 rfl (lv_at hl 0 rfl) ?_
  refine va_get (D := G) (ci := 0) (v := .int (nI nf)) (C := R_Board) (T := F_Board) (N := 8) hx hb hts in_Board hown hK hP 0 rfl rfl 4 (by decide) (hts _ fl_Board_17) (fun _ h9 => h9) rfl d_Board_addFault_1 ?_
  refine lv_bipush (v := (nI 20)) hx hb d_Board_addFault_4 (by decide) ?_
  refine n_icmp_ge (tgt := 29) hx hb (by omega) (by omega) d_Board_addFault_6 (by decide) (fun c6 => absurd c6 (by omega)) (fun c6 => ?_)
  refine lv_aload_n hx hb d_Board_addFault_9 rfl (lv_at hl 0 rfl) ?_
  refine va_get (D := G) (ci := 0) (v := .ref aF) (C := R_Board) (T := F_Board) (N := 8) hx hb hts in_Board hown hK hP 0 rfl rfl 3 (by decide) (hts _ fl_Board_11) (fun _ h9 => h9) rfl d_Board_addFault_10 ?_
  refine lv_aload_n hx hb d_Board_addFault_13 rfl (lv_at hl 0 rfl) ?_
  refine va_get (D := G) (ci := 0) (v := .int (nI nf)) (C := R_Board) (T := F_Board) (N := 8) hx hb hts in_Board hown hK hP 0 rfl rfl 4 (by decide) (hts _ fl_Board_17) (fun _ h9 => h9) rfl d_Board_addFault_14 ?_
  refine lv_aload_n hx hb d_Board_addFault_17 rfl (lv_at hl 1 rfl) ?_
  refine n_aast (r := (R_Fault, F_Fault, 6)) hx hb hK hP hD hS 1 3 2 2 rfl rfl rfl rfl (by omega) (by omega) d_Board_addFault_18 (fun H locs hP hD hS => ?_)
  have hP : va_P G vwCl (WP [(hB, .inr (0, [.int (nI st), .int (nI wd), .int (nI al), .ref aF, .int (nI nf), .int (nI mg), .ref aX, .ref aY])), (aF, .inl (ty 3, 20, .inr (.inr (.inr (.inr (va_up fF nf (some h0))))))), (h0, .inr (2, [.int (iI fc), .int (iI kd), .int (iI x), .int (iI y), .int (iI w), .int (iI h)]))] (PLd nf adF fd ns adS sw sp sn pr sl sm sb lo hi sa)) _ := hP
  have hD : va_D A (WP [(hB, .inr (0, [.int (nI st), .int (nI wd), .int (nI al), .ref aF, .int (nI nf), .int (nI mg), .ref aX, .ref aY])), (aF, .inl (ty 3, 20, .inr (.inr (.inr (.inr (va_up fF nf (some h0))))))), (h0, .inr (2, [.int (iI fc), .int (iI kd), .int (iI x), .int (iI y), .int (iI w), .int (iI h)]))] (PLd nf adF fd ns adS sw sp sn pr sl sm sb lo hi sa)) := hD
  refine lv_aload_n hx hb d_Board_addFault_19 rfl (lv_at hl 0 rfl) ?_
  refine lv_dup hx hb d_Board_addFault_20 rfl ?_
  refine va_get (D := G) (ci := 0) (v := .int (nI nf)) (C := R_Board) (T := F_Board) (N := 8) hx hb hts in_Board hown hK hP 0 rfl rfl 4 (by decide) (hts _ fl_Board_17) (fun _ h9 => h9) rfl d_Board_addFault_21 ?_
  refine lv_iconst (v := (nI 1)) hx hb d_Board_addFault_24 (by decide) ?_
  refine n_iadd hx hb d_Board_addFault_25 ?_
  refine va_put (D := G) (ci := 0) (v := .int (nI (nf + 1))) (ty := .int) (C := R_Board) (T := F_Board) (N := 8) hx hb hts in_Board t_Board t_Board_ok n_Board hown hK hP hD hS 0 rfl rfl 4 (by decide) (hts _ fl_Board_17) (fun _ h9 => h9) rfl (by decide +kernel) rfl rfl (Nat.le_of_ble_eq_true rfl) d_Board_addFault_26 (fun H locs hP hD hS => ?_)
  have hP : va_P G vwCl (WP [(hB, .inr (0, [.int (nI st), .int (nI wd), .int (nI al), .ref aF, .int (nI (nf + 1)), .int (nI mg), .ref aX, .ref aY])), (aF, .inl (ty 3, 20, .inr (.inr (.inr (.inr (va_up fF nf (some h0))))))), (h0, .inr (2, [.int (iI fc), .int (iI kd), .int (iI x), .int (iI y), .int (iI w), .int (iI h)]))] (PLd nf adF fd ns adS sw sp sn pr sl sm sb lo hi sa)) _ := hP
  have hD : va_D A (WP [(hB, .inr (0, [.int (nI st), .int (nI wd), .int (nI al), .ref aF, .int (nI (nf + 1)), .int (nI mg), .ref aX, .ref aY])), (aF, .inl (ty 3, 20, .inr (.inr (.inr (.inr (va_up fF nf (some h0))))))), (h0, .inr (2, [.int (iI fc), .int (iI kd), .int (iI x), .int (iI y), .int (iI w), .int (iI h)]))] (PLd nf adF fd ns adS sw sp sn pr sl sm sb lo hi sa)) := hD
  have hP : va_P G vwCl (WP [(hB, .inr (0, [.int (nI st), .int (nI wd), .int (nI al), .ref aF, .int (nI (nf + 1)), .int (nI mg), .ref aX, .ref aY])), (aF, .inl (ty 3, 20, .inr (.inr (.inr (.inr (va_up fF nf (some h0)))))))] (PLd (nf + 1) (va_up adF nf h0) (va_up fd nf (fun j => [fc, kd, x, y, w, h].getD j 0)) ns adS sw sp sn pr sl sm sb lo hi sa)) H := va_P_perm (pushF_perm (X := [(hB, .inr (0, [.int (nI st), .int (nI wd), .int (nI al), .ref aF, .int (nI (nf + 1)), .int (nI mg), .ref aX, .ref aY])), (aF, .inl (ty 3, 20, .inr (.inr (.inr (.inr (va_up fF nf (some h0)))))))]) (q := h0) (row := (fun j => [fc, kd, x, y, w, h].getD j 0))) hP
  have hD : va_D A (WP [(hB, .inr (0, [.int (nI st), .int (nI wd), .int (nI al), .ref aF, .int (nI (nf + 1)), .int (nI mg), .ref aX, .ref aY])), (aF, .inl (ty 3, 20, .inr (.inr (.inr (.inr (va_up fF nf (some h0)))))))] (PLd (nf + 1) (va_up adF nf h0) (va_up fd nf (fun j => [fc, kd, x, y, w, h].getD j 0)) ns adS sw sp sn pr sl sm sb lo hi sa)) := va_D_perm (pushF_perm (X := [(hB, .inr (0, [.int (nI st), .int (nI wd), .int (nI al), .ref aF, .int (nI (nf + 1)), .int (nI mg), .ref aX, .ref aY])), (aF, .inl (ty 3, 20, .inr (.inr (.inr (.inr (va_up fF nf (some h0)))))))]) (q := h0) (row := (fun j => [fc, kd, x, y, w, h].getD j 0))) hD
  exact W.vret hx hb hr (fun t9 ht hW => ⟨⟨(), rfl, trivial, by rw [ht]; exact hP, hD⟩, hS.F ht⟩) hS.2.2 d_Board_addFault_29

abbrev q_Sorts_addSort (G : va_G) (ty : Nat → ClassId) (hT : Nat) (aT : Nat) (hB : Nat) (bw : Nat) (fT : Nat → Option Nat) (h0 : Nat) (w_ : Nat) (ps : Nat) (lo_ : Nat) (hi_ : Nat) (nf : Nat) (adF : Nat → Nat) (fd : Nat → Nat → Int) (ns : Nat) (adS : Nat → Nat) (sw : Nat → Nat) (sp : Nat → Nat) (sn : Nat → Int) (pr : Nat → Int) (sl : Nat → Nat) (sm : Nat → Nat) (sb : Nat → Int32) (lo : Nat → Nat) (hi : Nat → Nat) (sa : Nat → Int32) (A : Nat → Prop) : Array Value → State → Outcome → State → Prop := va_Qi (fun (r : Int32) => fun (uu : Unit) => r = (nI ns)) (at_W G (fun (uu : Unit) => (WP [(hT, .inr (8, [.ref aT, .int (nI (ns + 1)), .int (nI bw), .ref hB])), (aT, .inl (ty 4, 8, .inr (.inr (.inr (.inr (va_up fT ns (some h0)))))))] (PLd nf adF fd (ns + 1) (va_up adS ns h0) (va_up sw ns w_) (va_up sp ns ps) (va_up sn ns (-1)) (va_up pr ns 0) (va_up sl ns 1) (va_up sm ns 0) (va_up sb ns (nI 0)) (va_up lo ns lo_) (va_up hi ns hi_) (va_up sa ns (nI 0))))) A) A
set_option maxRecDepth 100000 in
set_option maxHeartbeats 4000000 in
theorem c_Sorts_addSort (l : Launch) (G : va_G) (ty : Nat → ClassId) (sz : Nat) (hT : Nat) (aT : Nat) (hB : Nat) (bw : Nat) (fT : Nat → Option Nat) (h0 : Nat) (w_ : Nat) (ps : Nat) (lo_ : Nat) (hi_ : Nat) (nf : Nat) (adF : Nat → Nat) (fd : Nat → Nat → Int) (ns : Nat) (adS : Nat → Nat) (sw : Nat → Nat) (sp : Nat → Nat) (sn : Nat → Int) (pr : Nat → Int) (sl : Nat → Nat) (sm : Nat → Nat) (sb : Nat → Int32) (lo : Nat → Nat) (hi : Nat → Nat) (sa : Nat → Int32) (g1 : ns < 8) : Met l y_Sorts_addSort ws_Sorts_addSort { frames := 0, cells := 0, slots := 0, locals := 0 } (va_Pc [.ref hT, .ref h0] (fun U => U.heap.size = sz ∧ va_P G vwCl (WP [(hT, .inr (8, [.ref aT, .int (nI ns), .int (nI bw), .ref hB])), (aT, .inl (ty 4, 8, .inr (.inr (.inr (.inr fT))))), (h0, .inr (7, [.int (nI w_), .int (nI ps), .int (iI (-1)), .long (iL 0), .int (nI 1), .int (nI 0), .int (nI 0), .int (nI lo_), .int (nI hi_), .int (nI 0)]))] (PLd nf adF fd ns adS sw sp sn pr sl sm sb lo hi sa)) U.heap ∧ KX G ty U ∧ va_D (fun _ => True) (WP [(hT, .inr (8, [.ref aT, .int (nI ns), .int (nI bw), .ref hB])), (aT, .inl (ty 4, 8, .inr (.inr (.inr (.inr fT))))), (h0, .inr (7, [.int (nI w_), .int (nI ps), .int (iI (-1)), .long (iL 0), .int (nI 1), .int (nI 0), .int (nI 0), .int (nI lo_), .int (nI hi_), .int (nI 0)]))] (PLd nf adF fd ns adS sw sp sn pr sl sm sb lo hi sa)))) (q_Sorts_addSort G ty hT aT hB bw fT h0 w_ ps lo_ hi_ nf adF fd ns adS sw sp sn pr sl sm sb lo hi sa (va_A (WP [(hT, .inr (8, [.ref aT, .int (nI ns), .int (nI bw), .ref hB])), (aT, .inl (ty 4, 8, .inr (.inr (.inr (.inr fT))))), (h0, .inr (7, [.int (nI w_), .int (nI ps), .int (iI (-1)), .long (iL 0), .int (nI 1), .int (nI 0), .int (nI 0), .int (nI lo_), .int (nI hi_), .int (nI 0)]))] (PLd nf adF fd ns adS sw sp sn pr sl sm sb lo hi sa)) sz)) 0 0 (va_A (WP [(hT, .inr (8, [.ref aT, .int (nI ns), .int (nI bw), .ref hB])), (aT, .inl (ty 4, 8, .inr (.inr (.inr (.inr fT))))), (h0, .inr (7, [.int (nI w_), .int (nI ps), .int (iI (-1)), .long (iL 0), .int (nI 1), .int (nI 0), .int (nI 0), .int (nI lo_), .int (nI hi_), .int (nI 0)]))] (PLd nf adF fd ns adS sw sp sn pr sl sm sb lo hi sa)) sz) := by
  refine met_wr (y := y_Sorts_addSort) (maxL := 2) (sz := sz) (G := G) (ty := ty) (mc := 0) (ms := 0) (av := [.ref hT, .ref h0]) (W0 := (WP [(hT, .inr (8, [.ref aT, .int (nI ns), .int (nI bw), .ref hB])), (aT, .inl (ty 4, 8, .inr (.inr (.inr (.inr fT))))), (h0, .inr (7, [.int (nI w_), .int (nI ps), .int (iI (-1)), .long (iL 0), .int (nI 1), .int (nI 0), .int (nI 0), .int (nI lo_), .int (nI hi_), .int (nI 0)]))] (PLd nf adF fd ns adS sw sp sn pr sl sm sb lo hi sa))) (fun A => q_Sorts_addSort G ty hT aT hB bw fT h0 w_ ps lo_ hi_ nf adF fd ns adS sw sp sn pr sl sm sb lo hi sa A) R_Sorts (by decide) rfl rfl (Nat.le_of_ble_eq_true rfl) ?_
  intro p e s m below meth c ls A hx hb hr hml hown hts hlocks hin hA hP hX hD hS hl
  have hK := hX.1
  have hl : lv_has ls 2 [(0, .ref hT), (1, .ref h0)] := hl
  refine lv_aload_n hx hb d_Sorts_addSort_0 rfl (lv_at hl 0 rfl) ?_
  refine va_get (D := G) (ci := 8) (v := .int (nI ns)) (C := R_Sorts) (T := F_Sorts) (N := 4) hx hb hts in_Sorts hown hK hP 0 rfl rfl 1 (by decide) (hts _ fl_Sorts_17) (fun _ h9 => h9) rfl d_Sorts_addSort_1 ?_
  refine lv_bipush (v := (nI 8)) hx hb d_Sorts_addSort_4 (by decide) ?_
  refine n_icmp_lt (tgt := 11) hx hb (by omega) (by omega) d_Sorts_addSort_6 (by decide) (fun c6 => ?_) (fun c6 => absurd c6 (by omega))
  refine lv_aload_n hx hb d_Sorts_addSort_11 rfl (lv_at hl 0 rfl) ?_
  refine va_get (D := G) (ci := 8) (v := .ref aT) (C := R_Sorts) (T := F_Sorts) (N := 4) hx hb hts in_Sorts hown hK hP 0 rfl rfl 0 (by decide) (hts _ fl_Sorts_11) (fun _ h9 => h9) rfl d_Sorts_addSort_12 ?_
  refine lv_aload_n hx hb d_Sorts_addSort_15 rfl (lv_at hl 0 rfl) ?_
  refine va_get (D := G) (ci := 8) (v := .int (nI ns)) (C := R_Sorts) (T := F_Sorts) (N := 4) hx hb hts in_Sorts hown hK hP 0 rfl rfl 1 (by decide) (hts _ fl_Sorts_17) (fun _ h9 => h9) rfl d_Sorts_addSort_16 ?_
  refine lv_aload_n hx hb d_Sorts_addSort_19 rfl (lv_at hl 1 rfl) ?_
  refine n_aast (r := (R_Sort, F_Sort, 10)) hx hb hK hP hD hS 1 4 2 7 rfl rfl rfl rfl (by omega) (by omega) d_Sorts_addSort_20 (fun H locs hP hD hS => ?_)
  have hP : va_P G vwCl (WP [(hT, .inr (8, [.ref aT, .int (nI ns), .int (nI bw), .ref hB])), (aT, .inl (ty 4, 8, .inr (.inr (.inr (.inr (va_up fT ns (some h0))))))), (h0, .inr (7, [.int (nI w_), .int (nI ps), .int (iI (-1)), .long (iL 0), .int (nI 1), .int (nI 0), .int (nI 0), .int (nI lo_), .int (nI hi_), .int (nI 0)]))] (PLd nf adF fd ns adS sw sp sn pr sl sm sb lo hi sa)) _ := hP
  have hD : va_D A (WP [(hT, .inr (8, [.ref aT, .int (nI ns), .int (nI bw), .ref hB])), (aT, .inl (ty 4, 8, .inr (.inr (.inr (.inr (va_up fT ns (some h0))))))), (h0, .inr (7, [.int (nI w_), .int (nI ps), .int (iI (-1)), .long (iL 0), .int (nI 1), .int (nI 0), .int (nI 0), .int (nI lo_), .int (nI hi_), .int (nI 0)]))] (PLd nf adF fd ns adS sw sp sn pr sl sm sb lo hi sa)) := hD
  refine lv_aload_n hx hb d_Sorts_addSort_21 rfl (lv_at hl 0 rfl) ?_
  refine lv_dup hx hb d_Sorts_addSort_22 rfl ?_
  refine va_get (D := G) (ci := 8) (v := .int (nI ns)) (C := R_Sorts) (T := F_Sorts) (N := 4) hx hb hts in_Sorts hown hK hP 0 rfl rfl 1 (by decide) (hts _ fl_Sorts_17) (fun _ h9 => h9) rfl d_Sorts_addSort_23 ?_
  refine lv_iconst (v := (nI 1)) hx hb d_Sorts_addSort_26 (by decide) ?_
  refine n_iadd hx hb d_Sorts_addSort_27 ?_
  refine va_put (D := G) (ci := 8) (v := .int (nI (ns + 1))) (ty := .int) (C := R_Sorts) (T := F_Sorts) (N := 4) hx hb hts in_Sorts t_Sorts t_Sorts_ok n_Sorts hown hK hP hD hS 0 rfl rfl 1 (by decide) (hts _ fl_Sorts_17) (fun _ h9 => h9) rfl (by decide +kernel) rfl rfl (Nat.le_of_ble_eq_true rfl) d_Sorts_addSort_28 (fun H locs hP hD hS => ?_)
  have hP : va_P G vwCl (WP [(hT, .inr (8, [.ref aT, .int (nI (ns + 1)), .int (nI bw), .ref hB])), (aT, .inl (ty 4, 8, .inr (.inr (.inr (.inr (va_up fT ns (some h0))))))), (h0, .inr (7, [.int (nI w_), .int (nI ps), .int (iI (-1)), .long (iL 0), .int (nI 1), .int (nI 0), .int (nI 0), .int (nI lo_), .int (nI hi_), .int (nI 0)]))] (PLd nf adF fd ns adS sw sp sn pr sl sm sb lo hi sa)) _ := hP
  have hD : va_D A (WP [(hT, .inr (8, [.ref aT, .int (nI (ns + 1)), .int (nI bw), .ref hB])), (aT, .inl (ty 4, 8, .inr (.inr (.inr (.inr (va_up fT ns (some h0))))))), (h0, .inr (7, [.int (nI w_), .int (nI ps), .int (iI (-1)), .long (iL 0), .int (nI 1), .int (nI 0), .int (nI 0), .int (nI lo_), .int (nI hi_), .int (nI 0)]))] (PLd nf adF fd ns adS sw sp sn pr sl sm sb lo hi sa)) := hD
  refine lv_aload_n hx hb d_Sorts_addSort_31 rfl (lv_at hl 0 rfl) ?_
  refine va_get (D := G) (ci := 8) (v := .int (nI (ns + 1))) (C := R_Sorts) (T := F_Sorts) (N := 4) hx hb hts in_Sorts hown hK hP 0 rfl rfl 1 (by decide) (hts _ fl_Sorts_17) (fun _ h9 => h9) rfl d_Sorts_addSort_32 ?_
  refine lv_iconst (v := (nI 1)) hx hb d_Sorts_addSort_35 (by decide) ?_
  refine n_isub hx hb (by omega) d_Sorts_addSort_36 ?_
  refine top_i (show (nI ((ns + 1) - 1)) = (nI ns) from congrArg nI (by omega)) ?_
  have hP : va_P G vwCl (WP [(hT, .inr (8, [.ref aT, .int (nI (ns + 1)), .int (nI bw), .ref hB])), (aT, .inl (ty 4, 8, .inr (.inr (.inr (.inr (va_up fT ns (some h0)))))))] (PLd nf adF fd (ns + 1) (va_up adS ns h0) (va_up sw ns w_) (va_up sp ns ps) (va_up sn ns (-1)) (va_up pr ns 0) (va_up sl ns 1) (va_up sm ns 0) (va_up sb ns (nI 0)) (va_up lo ns lo_) (va_up hi ns hi_) (va_up sa ns (nI 0)))) H := va_P_perm (pushS_perm (X := [(hT, .inr (8, [.ref aT, .int (nI (ns + 1)), .int (nI bw), .ref hB])), (aT, .inl (ty 4, 8, .inr (.inr (.inr (.inr (va_up fT ns (some h0)))))))]) (q := h0)) hP
  have hD : va_D A (WP [(hT, .inr (8, [.ref aT, .int (nI (ns + 1)), .int (nI bw), .ref hB])), (aT, .inl (ty 4, 8, .inr (.inr (.inr (.inr (va_up fT ns (some h0)))))))] (PLd nf adF fd (ns + 1) (va_up adS ns h0) (va_up sw ns w_) (va_up sp ns ps) (va_up sn ns (-1)) (va_up pr ns 0) (va_up sl ns 1) (va_up sm ns 0) (va_up sb ns (nI 0)) (va_up lo ns lo_) (va_up hi ns hi_) (va_up sa ns (nI 0)))) := va_D_perm (pushS_perm (X := [(hT, .inr (8, [.ref aT, .int (nI (ns + 1)), .int (nI bw), .ref hB])), (aT, .inl (ty 4, 8, .inr (.inr (.inr (.inr (va_up fT ns (some h0)))))))]) (q := h0)) hD
  exact W.iret (v := (nI ns)) hx hb hr (fun t9 ht hW => ⟨⟨_, (), rfl, rfl, by rw [ht]; exact hP, hD⟩, hS.F ht⟩) hS.2.2 d_Sorts_addSort_37
