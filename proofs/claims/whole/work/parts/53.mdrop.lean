theorem lk_Model_263 : Cond.methodLink R_Model 263 y_Model_drop ∈ TB := mem_TB 1160 (by decide +kernel) (by decide +kernel)

-- taking off from the end
theorem nK_s (sn : Nat → Int) (g : Nat → Nat) (k : Nat) : nK sn g (k + 1) = nK sn g k + (keepK sn g k).toNat := rfl
theorem cntK_s (sn : Nat → Int) (g : Nat → Nat) (k i : Nat) : cntK sn g (k + 1) i = cntK sn g k i + (if tooM sn (g k) (cntK sn g k (g k) + 1) = false ∧ g k = i then 1 else 0) := rfl
theorem cntF_s (g : Nat → Nat) (k i : Nat) : cntF g (k + 1) i = cntF g k i + (if g k = i then 1 else 0) := rfl
theorem cntK_min {sn : Nat → Int} {g : Nat → Nat} {i : Nat} (h : 0 ≤ sn i) : ∀ k : Nat, ((cntK sn g k i : Nat) : Int) = min ((cntF g k i : Nat) : Int) (sn i) := by
  intro k
  induction k with
  | zero => show ((0 : Nat) : Int) = min ((0 : Nat) : Int) (sn i); omega
  | succ k ih =>
    rw [cntK_s, cntF_s]
    by_cases q : g k = i
    · subst q
      rw [if_pos rfl]
      by_cases t : tooM sn (g k) (cntK sn g k (g k) + 1) = false
      · rw [if_pos ⟨t, rfl⟩]
        unfold tooM at t
        have := of_decide_eq_false t
        omega
      · rw [if_neg (fun z => t z.1)]
        have t2 : tooM sn (g k) (cntK sn g k (g k) + 1) = true := by simpa using t
        unfold tooM at t2
        have := of_decide_eq_true t2
        omega
    · rw [if_neg q, if_neg (fun z => q z.2)]
      exact ih
theorem cntF_mono {g : Nat → Nat} {i : Nat} : ∀ n k : Nat, cntF g k i ≤ cntF g (k + n) i := by
  intro n
  induction n with
  | zero => intro k; exact Nat.le_refl _
  | succ n ih => intro k; rw [← Nat.add_assoc, cntF_s]; have := ih k; omega
/-- taking off from the end takes off what the other way does not keep -/
theorem dtm {sn : Nat → Int} {g : Nat → Nat} {m n cnt : Nat} (hm : m < n) (hn : -1 ≤ sn (g m)) (hc : cnt + cntK sn g (m + 1) (g m) = cntF g (m + 1) (g m) + cntK sn g n (g m)) : (0 ≤ sn (g m) ∧ sn (g m) < (cnt : Int)) ↔ keepK sn g m = false := by
  have hk : keepK sn g m = !(tooM sn (g m) (cntK sn g m (g m) + 1)) := rfl
  by_cases q : 0 ≤ sn (g m)
  · have a1 := cntK_min (g := g) q m
    have a2 := cntK_min (g := g) q (m + 1)
    have a3 := cntK_min (g := g) q n
    have a4 := cntF_mono (g := g) (i := g m) (n - (m + 1)) (m + 1)
    rw [show m + 1 + (n - (m + 1)) = n by omega] at a4
    have a5 := cntF_s g m (g m)
    rw [if_pos rfl] at a5
    by_cases t : tooM sn (g m) (cntK sn g m (g m) + 1) = true
    · rw [hk, t]
      unfold tooM at t
      have := of_decide_eq_true t
      exact ⟨fun _ => rfl, fun _ => ⟨q, by omega⟩⟩
    · have t2 : tooM sn (g m) (cntK sn g m (g m) + 1) = false := by simpa using t
      rw [hk, t2]
      unfold tooM at t2
      have := of_decide_eq_false t2
      exact ⟨fun z => by omega, fun z => absurd z (by decide)⟩
  · have t2 : tooM sn (g m) (cntK sn g m (g m) + 1) = false := by
      unfold tooM
      exact decide_eq_false (by omega)
    rw [hk, t2]
    exact ⟨fun z => absurd z.1 q, fun z => absurd z (by decide)⟩
theorem cntF_drop {g h : Nat → Nat} {m i : Nat} : ∀ n : Nat, m < n → (∀ j, j < m → h j = g j) → (∀ j, m ≤ j → j + 1 < n → h j = g (j + 1)) → cntF h (n - 1) i + (if g m = i then 1 else 0) = cntF g n i := by
  intro n
  induction n with
  | zero => intro h1; exact absurd h1 (by omega)
  | succ n ih =>
    intro h1 h2 h3
    rw [Nat.add_sub_cancel]
    rcases Nat.lt_or_ge m n with q | q
    · have := ih q h2 (fun j a b => h3 j a (by omega))
      obtain ⟨n', rfl⟩ : ∃ n', n = n' + 1 := ⟨n - 1, by omega⟩
      rw [Nat.add_sub_cancel] at this
      rw [cntF_s g (n' + 1), cntF_s h n', h3 n' (by omega) (by omega), ← this]
      omega
    · have e : m = n := by omega
      subst e
      rw [cntF_s]
      have : ∀ k, k ≤ m → cntF h k i = cntF g k i := by
        intro k
        induction k with
        | zero => intro _; rfl
        | succ k ik => intro hk; rw [cntF_s, cntF_s, ik (by omega), h2 k (by omega)]
      rw [this m (Nat.le_refl _)]
theorem cntF_congr {g h : Nat → Nat} {i : Nat} : ∀ n : Nat, (∀ j, j < n → h j = g j) → cntF h n i = cntF g n i := by
  intro n
  induction n with
  | zero => intro _; rfl
  | succ n ih => intro h1; rw [cntF_s, cntF_s, ih (fun j hj => h1 j (by omega)), h1 n (by omega)]
theorem dtm_step {sn : Nat → Int} {g : Nat → Nat} {m i : Nat} : cntK sn g (m + 1) i = cntK sn g m i + (if keepK sn g m = true ∧ g m = i then 1 else 0) := by
  rw [cntK_s]
  unfold keepK
  by_cases q : tooM sn (g m) (cntK sn g m (g m) + 1) = true
  · rw [q]; simp
  · have : tooM sn (g m) (cntK sn g m (g m) + 1) = false := by simpa using q
    rw [this]; simp

abbrev q_Model_dropTooMany (G : va_G) (ty : Nat → ClassId) (hM : Nat) (cd : Nat) (st : Nat) (al : Nat) (ac : Nat) (nf : Nat) (ns : Nat) (gg : Nat) (mg : Nat) (bw : Nat) (md : Nat) (wy : Nat) (sg_ : Nat) (sz_ : Nat) (ks : Nat) (bd : Int) (aM : Nat → Nat) (sn : Nat → Int) (p0 : Nat → Nat) (p1 : Nat → Nat) (p2 : Nat → Nat) (p3 : Nat → Nat) (p4 : Nat → Nat) (A : Nat → Prop) : Array Value → State → Outcome → State → Prop := va_Qv (fun (uu : (Nat → Nat) × (Nat → Nat) × (Nat → Nat) × (Nat → Nat) × (Nat → Nat)) => ∀ k, k < sz_ → keepK sn p4 k = true → uu.1 (nK sn p4 k) = p0 k ∧ uu.2.1 (nK sn p4 k) = p1 k ∧ uu.2.2.1 (nK sn p4 k) = p2 k ∧ uu.2.2.2.1 (nK sn p4 k) = p3 k ∧ uu.2.2.2.2 (nK sn p4 k) = p4 k) (at_W G (fun (uu : (Nat → Nat) × (Nat → Nat) × (Nat → Nat) × (Nat → Nat) × (Nat → Nat)) => [(hM, .inr (10, mO cd st al ac nf ns gg mg bw md wy sg_ (nK sn p4 sz_) ks bd aM)), (aM 17, .inl (ty 0, 8, .inl (zF sn))), (aM 37, .inl (ty 0, 240, .inl (nF uu.1))), (aM 38, .inl (ty 0, 240, .inl (nF uu.2.1))), (aM 39, .inl (ty 0, 240, .inl (nF uu.2.2.1))), (aM 40, .inl (ty 0, 240, .inl (nF uu.2.2.2.1))), (aM 41, .inl (ty 0, 240, .inl (nF uu.2.2.2.2)))]) A) A
set_option maxRecDepth 100000 in
set_option maxHeartbeats 4000000 in
theorem c_Model_dropTooMany (l : Launch) (G : va_G) (ty : Nat → ClassId) (sz : Nat) (hM : Nat) (cd : Nat) (st : Nat) (al : Nat) (ac : Nat) (nf : Nat) (ns : Nat) (gg : Nat) (mg : Nat) (bw : Nat) (md : Nat) (wy : Nat) (sg_ : Nat) (sz_ : Nat) (ks : Nat) (bd : Int) (aM : Nat → Nat) (sn : Nat → Int) (p0 : Nat → Nat) (p1 : Nat → Nat) (p2 : Nat → Nat) (p3 : Nat → Nat) (p4 : Nat → Nat) (g1 : sz_ ≤ 240) (g4 : ∀ k, k < sz_ → p4 k < ns) (g8 : ns ≤ 8) (gn : ∀ i, i < ns → -1 ≤ sn i ∧ sn i ≤ 1000) : Met l y_Model_dropTooMany ws_Model_dropTooMany { frames := 1, cells := 0, slots := 0, locals := 23 } (va_Pc [.ref hM] (fun U => U.heap.size = sz ∧ va_P G vwCl [(hM, .inr (10, mO cd st al ac nf ns gg mg bw md wy sg_ sz_ ks bd aM)), (aM 17, .inl (ty 0, 8, .inl (zF sn))), (aM 37, .inl (ty 0, 240, .inl (nF p0))), (aM 38, .inl (ty 0, 240, .inl (nF p1))), (aM 39, .inl (ty 0, 240, .inl (nF p2))), (aM 40, .inl (ty 0, 240, .inl (nF p3))), (aM 41, .inl (ty 0, 240, .inl (nF p4)))] U.heap ∧ KX G ty U ∧ va_D (fun _ => True) [(hM, .inr (10, mO cd st al ac nf ns gg mg bw md wy sg_ sz_ ks bd aM)), (aM 17, .inl (ty 0, 8, .inl (zF sn))), (aM 37, .inl (ty 0, 240, .inl (nF p0))), (aM 38, .inl (ty 0, 240, .inl (nF p1))), (aM 39, .inl (ty 0, 240, .inl (nF p2))), (aM 40, .inl (ty 0, 240, .inl (nF p3))), (aM 41, .inl (ty 0, 240, .inl (nF p4)))])) (q_Model_dropTooMany G ty hM cd st al ac nf ns gg mg bw md wy sg_ sz_ ks bd aM sn p0 p1 p2 p3 p4 (va_A [(hM, .inr (10, mO cd st al ac nf ns gg mg bw md wy sg_ sz_ ks bd aM)), (aM 17, .inl (ty 0, 8, .inl (zF sn))), (aM 37, .inl (ty 0, 240, .inl (nF p0))), (aM 38, .inl (ty 0, 240, .inl (nF p1))), (aM 39, .inl (ty 0, 240, .inl (nF p2))), (aM 40, .inl (ty 0, 240, .inl (nF p3))), (aM 41, .inl (ty 0, 240, .inl (nF p4)))] sz)) 0 0 (va_A [(hM, .inr (10, mO cd st al ac nf ns gg mg bw md wy sg_ sz_ ks bd aM)), (aM 17, .inl (ty 0, 8, .inl (zF sn))), (aM 37, .inl (ty 0, 240, .inl (nF p0))), (aM 38, .inl (ty 0, 240, .inl (nF p1))), (aM 39, .inl (ty 0, 240, .inl (nF p2))), (aM 40, .inl (ty 0, 240, .inl (nF p3))), (aM 41, .inl (ty 0, 240, .inl (nF p4)))] sz) := by
  refine met_wr (y := y_Model_dropTooMany) (maxL := 3) (sz := sz) (G := G) (ty := ty) (mc := 0) (ms := 0) (av := [.ref hM]) (W0 := [(hM, .inr (10, mO cd st al ac nf ns gg mg bw md wy sg_ sz_ ks bd aM)), (aM 17, .inl (ty 0, 8, .inl (zF sn))), (aM 37, .inl (ty 0, 240, .inl (nF p0))), (aM 38, .inl (ty 0, 240, .inl (nF p1))), (aM 39, .inl (ty 0, 240, .inl (nF p2))), (aM 40, .inl (ty 0, 240, .inl (nF p3))), (aM 41, .inl (ty 0, 240, .inl (nF p4)))]) (fun A => q_Model_dropTooMany G ty hM cd st al ac nf ns gg mg bw md wy sg_ sz_ ks bd aM sn p0 p1 p2 p3 p4 A) R_Model (by decide) rfl rfl (Nat.le_of_ble_eq_true rfl) ?_
  intro p e s m below meth c ls A hx hb hr hml hown hts hlocks hin hA hP hX hD hS hl
  have hK := hX.1
  have hl : lv_has ls 3 [(0, .ref hM)] := hl
  refine lv_aload_n hx hb d_Model_dropTooMany_0 rfl (lv_at hl 0 rfl) ?_
  refine va_get (D := G) (ci := 10) (v := .int (nI sz_)) (C := R_Model) (T := F_Model) (N := 47) hx hb hts in_Model hown hK hP 0 rfl rfl 36 (by decide) (hts _ fl_Model_219) (fun _ h9 => h9) rfl d_Model_dropTooMany_1 ?_
  refine lv_iconst (v := (nI 1)) hx hb d_Model_dropTooMany_4 (by decide) ?_
  refine nzz_isub hx hb d_Model_dropTooMany_5 ?_
  refine lv_istore_n (lv' := [(1, .int (iI ((sz_ : Nat) - ((1 : Nat) : Int)))), (0, .ref hM)]) hx hb d_Model_dropTooMany_6 rfl hl (by decide) rfl (fun ls hl => ?_)
  have L7 : ∀ (k9 : Nat) (k : Nat) (n2 : Nat) (q0 : Nat → Nat) (q1 : Nat → Nat) (q2 : Nat → Nat) (q3 : Nat → Nat) (q4 : Nat → Nat) (H : Heap) (locs : List Loc) (ls : Array Slot), (k ≤ sz_) → (n2 + nK sn p4 k = k + nK sn p4 sz_) → (∀ j, j < k → q0 j = p0 j ∧ q1 j = p1 j ∧ q2 j = p2 j ∧ q3 j = p3 j ∧ q4 j = p4 j) → (∀ j, k ≤ j → j < sz_ → keepK sn p4 j = true → q0 (k + nK sn p4 j - nK sn p4 k) = p0 j ∧ q1 (k + nK sn p4 j - nK sn p4 k) = p1 j ∧ q2 (k + nK sn p4 j - nK sn p4 k) = p2 j ∧ q3 (k + nK sn p4 j - nK sn p4 k) = p3 j ∧ q4 (k + nK sn p4 j - nK sn p4 k) = p4 j) → (∀ i, cntF q4 n2 i + cntK sn p4 k i = cntF p4 k i + cntK sn p4 sz_ i) → (∀ t, t < n2 → q4 t < 8) → (n2 ≤ 240) → k < k9 → va_P G vwCl [(hM, .inr (10, mO cd st al ac nf ns gg mg bw md wy sg_ n2 ks bd aM)), (aM 17, .inl (ty 0, 8, .inl (zF sn))), (aM 37, .inl (ty 0, 240, .inl (nF q0))), (aM 38, .inl (ty 0, 240, .inl (nF q1))), (aM 39, .inl (ty 0, 240, .inl (nF q2))), (aM 40, .inl (ty 0, 240, .inl (nF q3))), (aM 41, .inl (ty 0, 240, .inl (nF q4)))] H → va_D A [(hM, .inr (10, mO cd st al ac nf ns gg mg bw md wy sg_ n2 ks bd aM)), (aM 17, .inl (ty 0, 8, .inl (zF sn))), (aM 37, .inl (ty 0, 240, .inl (nF q0))), (aM 38, .inl (ty 0, 240, .inl (nF q1))), (aM 39, .inl (ty 0, 240, .inl (nF q2))), (aM 40, .inl (ty 0, 240, .inl (nF q3))), (aM 41, .inl (ty 0, 240, .inl (nF q4)))] → va_S A s.heap H locs → lv_has ls 3 [(0, .ref hM), (1, .int (iI (((k : Nat) : Int) - ((1 : Nat) : Int))))] → W p l e { frames := 1, cells := 0, slots := 0, locals := 23 } s m [.ref hM].toArray below meth c H locs 0 0 (MQ below (q_Model_dropTooMany G ty hM cd st al ac nf ns gg mg bw md wy sg_ sz_ ks bd aM sn p0 p1 p2 p3 p4 A) [.ref hM].toArray s 0 0 A) (F0 m 7 ls []) := by
    intro k9
    induction k9 with
    | zero => intro k n2 q0 q1 q2 q3 q4 H locs ls hk hn hA1 hB1 hC1 hD1 hn5 hk9; exact absurd hk9 (Nat.not_lt_zero _)
    | succ k9 ih7 =>
      intro k n2 q0 q1 q2 q3 q4 H locs ls hk hn hA1 hB1 hC1 hD1 hn5 hk9 hP hD hS hl
      refine lv_iload_n hx hb d_Model_dropTooMany_7 rfl (lv_at hl 1 rfl) ?_
      refine z_if_lt (tgt := 52) hx hb (by omega) d_Model_dropTooMany_8 (by decide) (fun c8 => ?_) (fun c8 => ?_)
      · have ek : k = 0 := by omega
        have en2 : n2 = nK sn p4 sz_ := by rw [ek] at hn; have hz : nK sn p4 0 = 0 := rfl; omega
        have hP : va_P G vwCl [(hM, .inr (10, mO cd st al ac nf ns gg mg bw md wy sg_ (nK sn p4 sz_) ks bd aM)), (aM 17, .inl (ty 0, 8, .inl (zF sn))), (aM 37, .inl (ty 0, 240, .inl (nF q0))), (aM 38, .inl (ty 0, 240, .inl (nF q1))), (aM 39, .inl (ty 0, 240, .inl (nF q2))), (aM 40, .inl (ty 0, 240, .inl (nF q3))), (aM 41, .inl (ty 0, 240, .inl (nF q4)))] H := by rw [← en2]; exact hP
        have hD : va_D A [(hM, .inr (10, mO cd st al ac nf ns gg mg bw md wy sg_ (nK sn p4 sz_) ks bd aM)), (aM 17, .inl (ty 0, 8, .inl (zF sn))), (aM 37, .inl (ty 0, 240, .inl (nF q0))), (aM 38, .inl (ty 0, 240, .inl (nF q1))), (aM 39, .inl (ty 0, 240, .inl (nF q2))), (aM 40, .inl (ty 0, 240, .inl (nF q3))), (aM 41, .inl (ty 0, 240, .inl (nF q4)))] := by rw [← en2]; exact hD
        exact W.vret hx hb hr (fun t9 ht hW => ⟨⟨(q0, q1, q2, q3, q4), rfl, fun k9 h1 h2 => by have h9 := hB1 k9 (by omega) h1 h2; rw [ek, Nat.zero_add, show nK sn p4 0 = 0 from rfl, Nat.sub_zero] at h9; exact h9, by rw [ht]; exact hP, hD⟩, hS.F ht⟩) hS.2.2 d_Model_dropTooMany_52
      · obtain ⟨m_, rfl⟩ : ∃ m_, k = m_ + 1 := ⟨k - 1, by omega⟩
        have hl : lv_has ls 3 [(0, .ref hM), (1, .int (nI m_))] := by rw [show (nI m_) = (iI (((m_ + 1 : Nat) : Int) - ((1 : Nat) : Int))) from by rw [nI_iI]; congr 1; omega]; exact hl
        have hm1 := nK_mono (sn := sn) (g := p4) (show m_ + 1 ≤ sz_ by omega)
        have hnl := nK_le sn p4 sz_
        have hks := nK_s sn p4 m_
        have hkt := Bool.toNat_le (keepK sn p4 m_)
        have hq4 := (hA1 m_ (by omega)).2.2.2.2
        have hg4 := g4 m_ (by omega)
        have hgn := gn (p4 m_) hg4
        have hdt := dtm (cnt := cntF q4 n2 (p4 m_)) (show m_ < sz_ by omega) hgn.1 (hC1 (p4 m_))
        have hcl := cntF_le q4 n2 (p4 m_)
        have hnl2 := nK_le sn p4 m_
        refine lv_aload_n hx hb d_Model_dropTooMany_11 rfl (lv_at hl 0 rfl) ?_
        refine va_get (D := G) (ci := 10) (v := .ref (aM 41)) (C := R_Model) (T := F_Model) (N := 47) hx hb hts in_Model hown hK hP 0 rfl rfl 41 (by decide) (hts _ fl_Model_106) (fun _ h9 => h9) rfl d_Model_dropTooMany_12 ?_
        refine lv_iload_n hx hb d_Model_dropTooMany_15 rfl (lv_at hl 1 rfl) ?_
        refine n_iald hx hb hK hP 6 0 rfl rfl (by omega) (by omega) d_Model_dropTooMany_16 ?_
        refine top_i (show (nI (q4 m_)) = (nI (p4 m_)) from congrArg nI hq4) ?_
        refine lv_istore_n (lv' := [(2, .int (nI (p4 m_))), (0, .ref hM), (1, .int (nI m_))]) hx hb d_Model_dropTooMany_17 rfl hl (by decide) rfl (fun ls hl => ?_)
        refine lv_aload_n hx hb d_Model_dropTooMany_18 rfl (lv_at hl 1 rfl) ?_
        refine va_get (D := G) (ci := 10) (v := .ref (aM 17)) (C := R_Model) (T := F_Model) (N := 47) hx hb hts in_Model hown hK hP 0 rfl rfl 17 (by decide) (hts _ fl_Model_45) (fun _ h9 => h9) rfl d_Model_dropTooMany_19 ?_
        refine lv_iload_n hx hb d_Model_dropTooMany_22 rfl (lv_at hl 0 rfl) ?_
        refine n_iald hx hb hK hP 1 0 rfl rfl (by omega) (by omega) d_Model_dropTooMany_23 ?_
        refine z_if_lt (tgt := 46) hx hb (by omega) d_Model_dropTooMany_24 (by decide) (fun c24 => ?_) (fun c24 => ?_)
        · have hkf : keepK sn p4 m_ = true := by rcases Bool.eq_false_or_eq_true (keepK sn p4 m_) with q | q; exact q; exact absurd (hdt.mpr q) (by omega)
          rw [hkf] at hks
          have hf0 : true.toNat = 1 := rfl
          have hn3 : n2 + nK sn p4 m_ = m_ + nK sn p4 sz_ := by omega
          have hA3 : ∀ j, j < m_ → q0 j = p0 j ∧ q1 j = p1 j ∧ q2 j = p2 j ∧ q3 j = p3 j ∧ q4 j = p4 j := fun j h => hA1 j (by omega)
          have hB3 : ∀ j, m_ ≤ j → j < sz_ → keepK sn p4 j = true → q0 (m_ + nK sn p4 j - nK sn p4 m_) = p0 j ∧ q1 (m_ + nK sn p4 j - nK sn p4 m_) = p1 j ∧ q2 (m_ + nK sn p4 j - nK sn p4 m_) = p2 j ∧ q3 (m_ + nK sn p4 j - nK sn p4 m_) = p3 j ∧ q4 (m_ + nK sn p4 j - nK sn p4 m_) = p4 j := fun j h1 h2 h3 => by rcases Nat.lt_or_ge m_ j with q | q; exact (by have hj2 := nK_mono (sn := sn) (g := p4) (show m_ + 1 ≤ j from q); rw [show m_ + nK sn p4 j - nK sn p4 m_ = m_ + 1 + nK sn p4 j - nK sn p4 (m_ + 1) by omega]; exact hB1 j q h2 h3); exact (by rw [show j = m_ by omega, Nat.add_sub_cancel]; exact hA1 m_ (by omega))
          have hC3 : ∀ i, cntF q4 n2 i + cntK sn p4 m_ i = cntF p4 m_ i + cntK sn p4 sz_ i := fun i => by have h9 := hC1 i; have h7 := dtm_step (sn := sn) (g := p4) (m := m_) (i := i); have h6 := cntF_s p4 m_ i; by_cases q : p4 m_ = i; exact (by rw [if_pos ⟨hkf, q⟩] at h7; rw [if_pos q] at h6; omega); exact (by rw [if_neg (fun z => q z.2)] at h7; rw [if_neg q] at h6; omega)
          have hD3 := hD1
          refine lv_iinc (v := (iI (((m_ : Nat) : Int) - ((1 : Nat) : Int)))) (lv' := [(1, .int (iI (((m_ : Nat) : Int) - ((1 : Nat) : Int)))), (2, .int (nI (p4 m_))), (0, .ref hM)]) hx hb d_Model_dropTooMany_46 hl (k := 2) rfl (by rw [nI_iI]; exact iI_add _ _) (by decide) rfl (fun ls hl => ?_)
          refine lv_goto (tgt := 7) hx hb d_Model_dropTooMany_49 (by decide) ?_
          exact ih7 m_ n2 q0 q1 q2 q3 q4 _ _ _ (by omega) hn3 hA3 hB3 hC3 hD3 (by omega) (by omega) hP hD hS (lv_sub hl [2, 0] rfl)
        · refine lv_aload_n hx hb d_Model_dropTooMany_27 rfl (lv_at hl 1 rfl) ?_
          refine lv_iload_n hx hb d_Model_dropTooMany_28 rfl (lv_at hl 0 rfl) ?_
          refine vp_callSi (W.runV (As := [.int (nI (p4 m_))]) (rest := []) ⟨hx, hb, hml, hown, hts⟩ (c_Model_countOf l G ty hM cd st al ac nf ns gg mg bw md wy sg_ n2 ks bd aM (p4 m_) q4 (by omega) hD1 (by omega)) ⟨callB_of 1 hts (gd_TB cd_Model_countOf) rfl rfl rfl (hts _ ini_Model) (hts _ lk_Model_257) hd_Model_countOf ⟨Nat.le_of_ble_eq_true rfl, Nat.le_of_ble_eq_true rfl⟩, hts _ im_Model_countOf, hts _ sl_Model_countOf⟩ (preV_ro (hP.sub (ws' := [(hM, .inr (10, mO cd st al ac nf ns gg mg bw md wy sg_ n2 ks bd aM)), (aM 41, .inl (ty 0, 240, .inl (nF q4)))]) [0, 6] rfl) hX 0 rfl rfl) rfl rfl hl.1 rfl (lv_room (Nat.le_of_ble_eq_true rfl)) d_Model_dropTooMany_29 ⟨Nat.le_of_ble_eq_true rfl, Nat.le_of_ble_eq_true rfl⟩) (fun r9 er9 => ?_)
          subst er9
          refine lv_aload_n hx hb d_Model_dropTooMany_32 rfl (lv_at hl 1 rfl) ?_
          refine va_get (D := G) (ci := 10) (v := .ref (aM 17)) (C := R_Model) (T := F_Model) (N := 47) hx hb hts in_Model hown hK hP 0 rfl rfl 17 (by decide) (hts _ fl_Model_45) (fun _ h9 => h9) rfl d_Model_dropTooMany_33 ?_
          refine lv_iload_n hx hb d_Model_dropTooMany_36 rfl (lv_at hl 0 rfl) ?_
          refine n_iald hx hb hK hP 1 0 rfl rfl (by omega) (by omega) d_Model_dropTooMany_37 ?_
          refine nz_icmp_le (tgt := 46) hx hb (by omega) (by omega) d_Model_dropTooMany_38 (by decide) (fun c38 => ?_) (fun c38 => ?_)
          · have hkf : keepK sn p4 m_ = true := by rcases Bool.eq_false_or_eq_true (keepK sn p4 m_) with q | q; exact q; exact absurd (hdt.mpr q) (by omega)
            rw [hkf] at hks
            have hf0 : true.toNat = 1 := rfl
            have hn3 : n2 + nK sn p4 m_ = m_ + nK sn p4 sz_ := by omega
            have hA3 : ∀ j, j < m_ → q0 j = p0 j ∧ q1 j = p1 j ∧ q2 j = p2 j ∧ q3 j = p3 j ∧ q4 j = p4 j := fun j h => hA1 j (by omega)
            have hB3 : ∀ j, m_ ≤ j → j < sz_ → keepK sn p4 j = true → q0 (m_ + nK sn p4 j - nK sn p4 m_) = p0 j ∧ q1 (m_ + nK sn p4 j - nK sn p4 m_) = p1 j ∧ q2 (m_ + nK sn p4 j - nK sn p4 m_) = p2 j ∧ q3 (m_ + nK sn p4 j - nK sn p4 m_) = p3 j ∧ q4 (m_ + nK sn p4 j - nK sn p4 m_) = p4 j := fun j h1 h2 h3 => by rcases Nat.lt_or_ge m_ j with q | q; exact (by have hj2 := nK_mono (sn := sn) (g := p4) (show m_ + 1 ≤ j from q); rw [show m_ + nK sn p4 j - nK sn p4 m_ = m_ + 1 + nK sn p4 j - nK sn p4 (m_ + 1) by omega]; exact hB1 j q h2 h3); exact (by rw [show j = m_ by omega, Nat.add_sub_cancel]; exact hA1 m_ (by omega))
            have hC3 : ∀ i, cntF q4 n2 i + cntK sn p4 m_ i = cntF p4 m_ i + cntK sn p4 sz_ i := fun i => by have h9 := hC1 i; have h7 := dtm_step (sn := sn) (g := p4) (m := m_) (i := i); have h6 := cntF_s p4 m_ i; by_cases q : p4 m_ = i; exact (by rw [if_pos ⟨hkf, q⟩] at h7; rw [if_pos q] at h6; omega); exact (by rw [if_neg (fun z => q z.2)] at h7; rw [if_neg q] at h6; omega)
            have hD3 := hD1
            refine lv_iinc (v := (iI (((m_ : Nat) : Int) - ((1 : Nat) : Int)))) (lv' := [(1, .int (iI (((m_ : Nat) : Int) - ((1 : Nat) : Int)))), (2, .int (nI (p4 m_))), (0, .ref hM)]) hx hb d_Model_dropTooMany_46 hl (k := 2) rfl (by rw [nI_iI]; exact iI_add _ _) (by decide) rfl (fun ls hl => ?_)
            refine lv_goto (tgt := 7) hx hb d_Model_dropTooMany_49 (by decide) ?_
            exact ih7 m_ n2 q0 q1 q2 q3 q4 _ _ _ (by omega) hn3 hA3 hB3 hC3 hD3 (by omega) (by omega) hP hD hS (lv_sub hl [2, 0] rfl)
          · refine lv_aload_n hx hb d_Model_dropTooMany_41 rfl (lv_at hl 1 rfl) ?_
            refine lv_iload_n hx hb d_Model_dropTooMany_42 rfl (lv_at hl 2 rfl) ?_
            refine call_wr_v (Wc := [(hM, .inr (10, mO cd st al ac nf ns gg mg bw md wy sg_ n2 ks bd aM)), (aM 37, .inl (ty 0, 240, .inl (nF q0))), (aM 38, .inl (ty 0, 240, .inl (nF q1))), (aM 39, .inl (ty 0, 240, .inl (nF q2))), (aM 40, .inl (ty 0, 240, .inl (nF q3))), (aM 41, .inl (ty 0, 240, .inl (nF q4)))]) (Wr := [(aM 17, .inl (ty 0, 8, .inl (zF sn)))]) (va_runV (As := [.int (nI m_)]) (rest := []) ⟨hx, hb, hml, hown, hts⟩ (c_Model_drop l G ty _ hM cd st al ac nf ns gg mg bw md wy sg_ n2 ks bd aM m_ q0 q1 q2 q3 q4 (by omega) (by omega)) ⟨callB_of 1 hts (gd_TB cd_Model_drop) rfl rfl rfl (hts _ ini_Model) (hts _ lk_Model_263) hd_Model_drop ⟨Nat.le_of_ble_eq_true rfl, Nat.le_of_ble_eq_true rfl⟩, hts _ im_Model_drop, hts _ sl_Model_drop⟩ (preV_wr (hP.sub (ws' := [(hM, .inr (10, mO cd st al ac nf ns gg mg bw md wy sg_ n2 ks bd aM)), (aM 37, .inl (ty 0, 240, .inl (nF q0))), (aM 38, .inl (ty 0, 240, .inl (nF q1))), (aM 39, .inl (ty 0, 240, .inl (nF q2))), (aM 40, .inl (ty 0, 240, .inl (nF q3))), (aM 41, .inl (ty 0, 240, .inl (nF q4)))]) [0, 2, 3, 4, 5, 6] rfl) hX (hD.sub (ws' := [(hM, .inr (10, mO cd st al ac nf ns gg mg bw md wy sg_ n2 ks bd aM)), (aM 37, .inl (ty 0, 240, .inl (nF q0))), (aM 38, .inl (ty 0, 240, .inl (nF q1))), (aM 39, .inl (ty 0, 240, .inl (nF q2))), (aM 40, .inl (ty 0, 240, .inl (nF q3))), (aM 41, .inl (ty 0, 240, .inl (nF q4)))]) [0, 2, 3, 4, 5, 6] (by decide) rfl) 0 rfl rfl) rfl rfl hl.1 rfl (lv_room (Nat.le_of_ble_eq_true rfl)) d_Model_dropTooMany_43 ⟨Nat.le_of_ble_eq_true rfl, Nat.le_of_ble_eq_true rfl⟩) hP hD hS hA [0, 2, 3, 4, 5, 6] [1] rfl rfl (by decide) (by decide) (fun u9 H locs hw6 hP hD hS => ?_)
            obtain ⟨r0, r1, r2, r3, r4⟩ := u9
            have hw6 : ∀ j, ((j < m_ → r0 j = q0 j) ∧ (m_ ≤ j → j + 1 < n2 → r0 j = q0 (j + 1))) ∧ ((j < m_ → r1 j = q1 j) ∧ (m_ ≤ j → j + 1 < n2 → r1 j = q1 (j + 1))) ∧ ((j < m_ → r2 j = q2 j) ∧ (m_ ≤ j → j + 1 < n2 → r2 j = q2 (j + 1))) ∧ ((j < m_ → r3 j = q3 j) ∧ (m_ ≤ j → j + 1 < n2 → r3 j = q3 (j + 1))) ∧ ((j < m_ → r4 j = q4 j) ∧ (m_ ≤ j → j + 1 < n2 → r4 j = q4 (j + 1))) := hw6
            have hP : va_P G vwCl [(aM 17, .inl (ty 0, 8, .inl (zF sn))), (hM, .inr (10, mO cd st al ac nf ns gg mg bw md wy sg_ (n2 - 1) ks bd aM)), (aM 37, .inl (ty 0, 240, .inl (nF r0))), (aM 38, .inl (ty 0, 240, .inl (nF r1))), (aM 39, .inl (ty 0, 240, .inl (nF r2))), (aM 40, .inl (ty 0, 240, .inl (nF r3))), (aM 41, .inl (ty 0, 240, .inl (nF r4)))] _ := hP
            have hD : va_D A [(aM 17, .inl (ty 0, 8, .inl (zF sn))), (hM, .inr (10, mO cd st al ac nf ns gg mg bw md wy sg_ (n2 - 1) ks bd aM)), (aM 37, .inl (ty 0, 240, .inl (nF r0))), (aM 38, .inl (ty 0, 240, .inl (nF r1))), (aM 39, .inl (ty 0, 240, .inl (nF r2))), (aM 40, .inl (ty 0, 240, .inl (nF r3))), (aM 41, .inl (ty 0, 240, .inl (nF r4)))] := hD
            have hw4 := hw6
            have hkf : keepK sn p4 m_ = false := hdt.mp (by omega)
            rw [hkf] at hks
            have hf0 : false.toNat = 0 := rfl
            have hn3 : n2 - 1 + nK sn p4 m_ = m_ + nK sn p4 sz_ := by omega
            have hA3 : ∀ j, j < m_ → r0 j = p0 j ∧ r1 j = p1 j ∧ r2 j = p2 j ∧ r3 j = p3 j ∧ r4 j = p4 j := fun j h => ⟨by rw [(hw4 j).1.1 h]; exact (hA1 j (by omega)).1, by rw [(hw4 j).2.1.1 h]; exact (hA1 j (by omega)).2.1, by rw [(hw4 j).2.2.1.1 h]; exact (hA1 j (by omega)).2.2.1, by rw [(hw4 j).2.2.2.1.1 h]; exact (hA1 j (by omega)).2.2.2.1, by rw [(hw4 j).2.2.2.2.1 h]; exact (hA1 j (by omega)).2.2.2.2⟩
            have hB3 : ∀ j, m_ ≤ j → j < sz_ → keepK sn p4 j = true → r0 (m_ + nK sn p4 j - nK sn p4 m_) = p0 j ∧ r1 (m_ + nK sn p4 j - nK sn p4 m_) = p1 j ∧ r2 (m_ + nK sn p4 j - nK sn p4 m_) = p2 j ∧ r3 (m_ + nK sn p4 j - nK sn p4 m_) = p3 j ∧ r4 (m_ + nK sn p4 j - nK sn p4 m_) = p4 j := fun j h1 h2 h3 => by have hj1 : m_ + 1 ≤ j := (by rcases Nat.lt_or_ge m_ j with q | q; exact q; exact (by rw [show j = m_ by omega, hkf] at h3; exact absurd h3 (by decide))); have hj2 := nK_mono (sn := sn) (g := p4) (show m_ + 1 ≤ j from hj1); have hj3 := nK_lt h2 h3; exact ⟨by rw [(hw4 (m_ + nK sn p4 j - nK sn p4 m_)).1.2 (by omega) (by omega), show m_ + nK sn p4 j - nK sn p4 m_ + 1 = m_ + 1 + nK sn p4 j - nK sn p4 (m_ + 1) by omega]; exact (hB1 j hj1 h2 h3).1, by rw [(hw4 (m_ + nK sn p4 j - nK sn p4 m_)).2.1.2 (by omega) (by omega), show m_ + nK sn p4 j - nK sn p4 m_ + 1 = m_ + 1 + nK sn p4 j - nK sn p4 (m_ + 1) by omega]; exact (hB1 j hj1 h2 h3).2.1, by rw [(hw4 (m_ + nK sn p4 j - nK sn p4 m_)).2.2.1.2 (by omega) (by omega), show m_ + nK sn p4 j - nK sn p4 m_ + 1 = m_ + 1 + nK sn p4 j - nK sn p4 (m_ + 1) by omega]; exact (hB1 j hj1 h2 h3).2.2.1, by rw [(hw4 (m_ + nK sn p4 j - nK sn p4 m_)).2.2.2.1.2 (by omega) (by omega), show m_ + nK sn p4 j - nK sn p4 m_ + 1 = m_ + 1 + nK sn p4 j - nK sn p4 (m_ + 1) by omega]; exact (hB1 j hj1 h2 h3).2.2.2.1, by rw [(hw4 (m_ + nK sn p4 j - nK sn p4 m_)).2.2.2.2.2 (by omega) (by omega), show m_ + nK sn p4 j - nK sn p4 m_ + 1 = m_ + 1 + nK sn p4 j - nK sn p4 (m_ + 1) by omega]; exact (hB1 j hj1 h2 h3).2.2.2.2⟩
            have hC3 : ∀ i, cntF r4 (n2 - 1) i + cntK sn p4 m_ i = cntF p4 m_ i + cntK sn p4 sz_ i := fun i => by have h9 := hC1 i; have h8 := cntF_drop (g := q4) (h := r4) (m := m_) (i := i) n2 (by omega) (fun j h => (hw4 j).2.2.2.2.1 h) (fun j h h7 => (hw4 j).2.2.2.2.2 h h7); have h7 := dtm_step (sn := sn) (g := p4) (m := m_) (i := i); rw [hkf, if_neg (fun z => absurd z.1 (by decide))] at h7; have h6 := cntF_s p4 m_ i; rw [hq4] at h8; omega
            have hD3 : ∀ t, t < n2 - 1 → r4 t < 8 := fun t h => by rcases Nat.lt_or_ge t m_ with q | q; exact (by rw [(hw4 t).2.2.2.2.1 q]; exact hD1 t (by omega)); exact (by rw [(hw4 t).2.2.2.2.2 q (by omega)]; exact hD1 (t + 1) (by omega))
            refine lv_iinc (v := (iI (((m_ : Nat) : Int) - ((1 : Nat) : Int)))) (lv' := [(1, .int (iI (((m_ : Nat) : Int) - ((1 : Nat) : Int)))), (2, .int (nI (p4 m_))), (0, .ref hM)]) hx hb d_Model_dropTooMany_46 hl (k := 2) rfl (by rw [nI_iI]; exact iI_add _ _) (by decide) rfl (fun ls hl => ?_)
            refine lv_goto (tgt := 7) hx hb d_Model_dropTooMany_49 (by decide) ?_
            have hP : va_P G vwCl [(hM, .inr (10, mO cd st al ac nf ns gg mg bw md wy sg_ (n2 - 1) ks bd aM)), (aM 17, .inl (ty 0, 8, .inl (zF sn))), (aM 37, .inl (ty 0, 240, .inl (nF r0))), (aM 38, .inl (ty 0, 240, .inl (nF r1))), (aM 39, .inl (ty 0, 240, .inl (nF r2))), (aM 40, .inl (ty 0, 240, .inl (nF r3))), (aM 41, .inl (ty 0, 240, .inl (nF r4)))] _ := hP.sub [1, 0, 2, 3, 4, 5, 6] rfl
            have hD : va_D A [(hM, .inr (10, mO cd st al ac nf ns gg mg bw md wy sg_ (n2 - 1) ks bd aM)), (aM 17, .inl (ty 0, 8, .inl (zF sn))), (aM 37, .inl (ty 0, 240, .inl (nF r0))), (aM 38, .inl (ty 0, 240, .inl (nF r1))), (aM 39, .inl (ty 0, 240, .inl (nF r2))), (aM 40, .inl (ty 0, 240, .inl (nF r3))), (aM 41, .inl (ty 0, 240, .inl (nF r4)))] := hD.sub [1, 0, 2, 3, 4, 5, 6] (by decide) rfl
            exact ih7 m_ (n2 - 1) r0 r1 r2 r3 r4 _ _ _ (by omega) hn3 hA3 hB3 hC3 hD3 (by omega) (by omega) hP hD hS (lv_sub hl [2, 0] rfl)
  exact L7 (sz_ + 1) sz_ sz_ p0 p1 p2 p3 p4 _ _ _ (Nat.le_refl _) rfl (fun j h => ⟨rfl, rfl, rfl, rfl, rfl⟩) (fun j h1 h2 => absurd h1 (by omega)) (fun i => rfl) (fun t h => by have := g4 t h; omega) (by omega) (Nat.lt_succ_self _) hP hD hS (lv_sub hl [1, 0] rfl)
