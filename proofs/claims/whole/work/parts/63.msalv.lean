theorem fl_Model_112 : Cond.fieldLink R_Model 112 "FaultRipsModel" "covered" "[Z" ∈ TB := mem_TB 897 (by decide +kernel) (by decide +kernel)
theorem kc_Model_299 : Cond.constantLong R_Model 299 (iL 2) ∈ TB := mem_TB 1201 (by decide +kernel) (by decide +kernel)
theorem lk_Model_293 : Cond.methodLink R_Model 293 y_Model_cover ∈ TB := mem_TB 1193 (by decide +kernel) (by decide +kernel)
theorem lk_Model_296 : Cond.methodLink R_Model 296 y_Model_begins ∈ TB := mem_TB 1197 (by decide +kernel) (by decide +kernel)

/-- what the first n pieces cover -/
def cvN (p0 p1 p2 p3 : Nat → Nat) : Nat → Nat → Nat → Bool
  | 0, _, _ => false
  | n + 1, x, y => cvN p0 p1 p2 p3 n x y || decide (p0 n ≤ x ∧ x < p0 n + p2 n ∧ p1 n ≤ y ∧ y < p1 n + p3 n)
theorem cvN_s (p0 p1 p2 p3 : Nat → Nat) (n x y : Nat) : cvN p0 p1 p2 p3 (n + 1) x y = (cvN p0 p1 p2 p3 n x y || decide (p0 n ≤ x ∧ x < p0 n + p2 n ∧ p1 n ≤ y ∧ y < p1 n + p3 n)) := rfl
theorem cvN_congr {p0 p1 p2 p3 q0 q1 q2 q3 : Nat → Nat} {x y : Nat} : ∀ n : Nat, (∀ k, k < n → p0 k = q0 k ∧ p1 k = q1 k ∧ p2 k = q2 k ∧ p3 k = q3 k) → cvN p0 p1 p2 p3 n x y = cvN q0 q1 q2 q3 n x y := by
  intro n
  induction n with
  | zero => intro _; rfl
  | succ n ih =>
    intro h
    have := h n (by omega)
    rw [cvN_s, cvN_s, ih (fun k hk => h k (by omega)), this.1, this.2.1, this.2.2.1, this.2.2.2]
/-- a row of what is left begins at x -/
def bgC (c : Nat → Nat → Bool) (x y : Nat) : Bool := !c x y && (decide (x = 0) || c (x - 1) y)
/-- how many begin ahead of x in row y; in the rows ahead of y -/
def nbR (c : Nat → Nat → Bool) (y : Nat) : Nat → Nat
  | 0 => 0
  | x + 1 => nbR c y x + (bgC c x y).toNat
def nbA (c : Nat → Nat → Bool) (al : Nat) : Nat → Nat
  | 0 => 0
  | y + 1 => nbA c al y + nbR c y al
theorem nbR_s (c : Nat → Nat → Bool) (y x : Nat) : nbR c y (x + 1) = nbR c y x + (bgC c x y).toNat := rfl
theorem nbA_s (c : Nat → Nat → Bool) (al y : Nat) : nbA c al (y + 1) = nbA c al y + nbR c y al := rfl
theorem nbR_le (c : Nat → Nat → Bool) (y x : Nat) : nbR c y x ≤ x := by
  induction x with
  | zero => exact Nat.le_refl _
  | succ x ih => rw [nbR_s]; have := Bool.toNat_le (bgC c x y); omega
theorem nbA_le (c : Nat → Nat → Bool) (al y : Nat) : nbA c al y ≤ al * y := by
  induction y with
  | zero => exact Nat.zero_le _
  | succ y ih => rw [nbA_s, Nat.mul_succ]; have := nbR_le c y al; omega
theorem nbR_mono {c : Nat → Nat → Bool} {y a b : Nat} (h : a ≤ b) : nbR c y a ≤ nbR c y b := by
  induction b with
  | zero => rw [show a = 0 by omega]; exact Nat.le_refl _
  | succ b ih =>
    rcases Nat.lt_or_ge a (b + 1) with q | q
    · have := ih (by omega); rw [nbR_s]; omega
    · rw [show a = b + 1 by omega]; exact Nat.le_refl _
theorem nbA_mono {c : Nat → Nat → Bool} {al a b : Nat} (h : a ≤ b) : nbA c al a ≤ nbA c al b := by
  induction b with
  | zero => rw [show a = 0 by omega]; exact Nat.le_refl _
  | succ b ih =>
    rcases Nat.lt_or_ge a (b + 1) with q | q
    · have := ih (by omega); rw [nbA_s]; omega
    · rw [show a = b + 1 by omega]; exact Nat.le_refl _
/-- the k-th row of what is left begins at x, y -/
def fdC (c : Nat → Nat → Bool) (al wd k x y : Nat) : Prop := x < al ∧ y < wd ∧ bgC c x y = true ∧ nbA c al y + nbR c y x = k
/-- and ends at e -/
def edC (c : Nat → Nat → Bool) (al y x e : Nat) : Prop := x ≤ e ∧ e ≤ al ∧ (∀ i, x ≤ i → i < e → c i y = false) ∧ (e = al ∨ c e y = true)
theorem edC_uniq {c : Nat → Nat → Bool} {al y x e e' : Nat} (h : edC c al y x e) (h' : edC c al y x e') : e = e' := by
  obtain ⟨a1, a2, a3, a4⟩ := h
  obtain ⟨b1, b2, b3, b4⟩ := h'
  rcases Nat.lt_trichotomy e e' with q | q | q
  · rcases a4 with z | z
    · omega
    · rw [b3 e a1 q] at z; cases z
  · exact q
  · rcases b4 with z | z
    · omega
    · rw [a3 e' b1 q] at z; cases z
theorem fdC_uniq {c : Nat → Nat → Bool} {al wd k x y x' y' : Nat} (h : fdC c al wd k x y) (h' : fdC c al wd k x' y') : x = x' ∧ y = y' := by
  obtain ⟨a1, a2, a3, a4⟩ := h
  obtain ⟨b1, b2, b3, b4⟩ := h'
  have row : ∀ u v : Nat, u < al → bgC c u y = true → v ≤ y → True := fun _ _ _ _ _ => trivial
  have lt_of : ∀ {x y x' y' : Nat}, x < al → bgC c x y = true → y < y' → nbA c al y + nbR c y x < nbA c al y' + nbR c y' x' := by
    intro x y x' y' h1 h2 h3
    have m1 := nbA_mono (c := c) (al := al) (show y + 1 ≤ y' from h3)
    have m2 := nbR_mono (c := c) (y := y) (show x + 1 ≤ al from h1)
    rw [nbA_s] at m1
    rw [nbR_s, h2] at m2
    have : true.toNat = 1 := rfl
    omega
  have lt_in : ∀ {x x' y : Nat}, bgC c x y = true → x < x' → nbR c y x < nbR c y x' := by
    intro x x' y h1 h2
    have m2 := nbR_mono (c := c) (y := y) (show x + 1 ≤ x' from h2)
    rw [nbR_s, h1] at m2
    have : true.toNat = 1 := rfl
    omega
  rcases Nat.lt_trichotomy y y' with q | q | q
  · have := lt_of (x' := x') a1 a3 q; omega
  · subst q
    rcases Nat.lt_trichotomy x x' with z | z | z
    · have := lt_in a3 z; omega
    · exact ⟨z, rfl⟩
    · have := lt_in b3 z; omega
  · have := lt_of (x' := x) b1 b3 q; omega
theorem nbR_congr {c c' : Nat → Nat → Bool} {y : Nat} : ∀ x : Nat, (∀ i, i < x → c i y = c' i y) → nbR c y x = nbR c' y x := by
  intro x
  induction x with
  | zero => intro _; rfl
  | succ x ih =>
    intro h
    rw [nbR_s, nbR_s, ih (fun i hi => h i (by omega))]
    unfold bgC
    rw [h x (by omega)]
    cases x with
    | zero => rfl
    | succ x => rw [Nat.add_sub_cancel, h x (by omega)]
theorem nbA_congr {c c' : Nat → Nat → Bool} {al : Nat} : ∀ y : Nat, (∀ j, j < y → ∀ i, i < al → c i j = c' i j) → nbA c al y = nbA c' al y := by
  intro y
  induction y with
  | zero => intro _; rfl
  | succ y ih => intro h; rw [nbA_s, nbA_s, ih (fun j hj => h j (by omega)), nbR_congr al (h y (by omega))]

/-- the array of what is covered, as it is asked -/
def cvQ (cv : Nat → Bool) (x y : Nat) : Bool := cv (24 * y + x)
theorem bgC_q {cv : Nat → Bool} {x y : Nat} : bgC (cvQ cv) x y = (!cv (24 * y + x) && (decide (x = 0) || cv (24 * y + x - 1))) := by
  unfold bgC cvQ
  cases x with
  | zero => rfl
  | succ x => rw [Nat.add_sub_cancel, show 24 * y + (x + 1) - 1 = 24 * y + x by omega]

abbrev q_Model_cover (G : va_G) (ty : Nat → ClassId) (hM : Nat) (cd : Nat) (st : Nat) (al : Nat) (ac : Nat) (nf : Nat) (ns : Nat) (gg : Nat) (mg : Nat) (bw : Nat) (md : Nat) (wy : Nat) (sg_ : Nat) (sz_ : Nat) (ks : Nat) (bd : Int) (aM : Nat → Nat) (p0 : Nat → Nat) (p1 : Nat → Nat) (p2 : Nat → Nat) (p3 : Nat → Nat) (cv : Nat → Bool) (A : Nat → Prop) : Array Value → State → Outcome → State → Prop := va_Qv (fun (uu : (Nat → Bool)) => ∀ x y, x < 24 → y < 10 → uu (24 * y + x) = cvN p0 p1 p2 p3 sz_ x y) (at_W G (fun (uu : (Nat → Bool)) => [(hM, .inr (10, mO cd st al ac nf ns gg mg bw md wy sg_ sz_ ks bd aM)), (aM 37, .inl (ty 0, 240, .inl (nF p0))), (aM 38, .inl (ty 0, 240, .inl (nF p1))), (aM 39, .inl (ty 0, 240, .inl (nF p2))), (aM 40, .inl (ty 0, 240, .inl (nF p3))), (aM 45, .inl (ty 2, 240, .inl (bF uu)))]) A) A
set_option maxRecDepth 100000 in
set_option maxHeartbeats 4000000 in
theorem c_Model_cover (l : Launch) (G : va_G) (ty : Nat → ClassId) (sz : Nat) (hM : Nat) (cd : Nat) (st : Nat) (al : Nat) (ac : Nat) (nf : Nat) (ns : Nat) (gg : Nat) (mg : Nat) (bw : Nat) (md : Nat) (wy : Nat) (sg_ : Nat) (sz_ : Nat) (ks : Nat) (bd : Int) (aM : Nat → Nat) (p0 : Nat → Nat) (p1 : Nat → Nat) (p2 : Nat → Nat) (p3 : Nat → Nat) (cv : Nat → Bool) (g1 : sz_ ≤ 240) (g3 : ∀ k, k < sz_ → p0 k + p2 k ≤ 24 ∧ p1 k + p3 k ≤ 10) : Met l y_Model_cover ws_Model_cover { frames := 0, cells := 0, slots := 0, locals := 0 } (va_Pc [.ref hM] (fun U => U.heap.size = sz ∧ va_P G vwCl [(hM, .inr (10, mO cd st al ac nf ns gg mg bw md wy sg_ sz_ ks bd aM)), (aM 37, .inl (ty 0, 240, .inl (nF p0))), (aM 38, .inl (ty 0, 240, .inl (nF p1))), (aM 39, .inl (ty 0, 240, .inl (nF p2))), (aM 40, .inl (ty 0, 240, .inl (nF p3))), (aM 45, .inl (ty 2, 240, .inl (bF cv)))] U.heap ∧ KX G ty U ∧ va_D (fun _ => True) [(hM, .inr (10, mO cd st al ac nf ns gg mg bw md wy sg_ sz_ ks bd aM)), (aM 37, .inl (ty 0, 240, .inl (nF p0))), (aM 38, .inl (ty 0, 240, .inl (nF p1))), (aM 39, .inl (ty 0, 240, .inl (nF p2))), (aM 40, .inl (ty 0, 240, .inl (nF p3))), (aM 45, .inl (ty 2, 240, .inl (bF cv)))])) (q_Model_cover G ty hM cd st al ac nf ns gg mg bw md wy sg_ sz_ ks bd aM p0 p1 p2 p3 cv (va_A [(hM, .inr (10, mO cd st al ac nf ns gg mg bw md wy sg_ sz_ ks bd aM)), (aM 37, .inl (ty 0, 240, .inl (nF p0))), (aM 38, .inl (ty 0, 240, .inl (nF p1))), (aM 39, .inl (ty 0, 240, .inl (nF p2))), (aM 40, .inl (ty 0, 240, .inl (nF p3))), (aM 45, .inl (ty 2, 240, .inl (bF cv)))] sz)) 0 0 (va_A [(hM, .inr (10, mO cd st al ac nf ns gg mg bw md wy sg_ sz_ ks bd aM)), (aM 37, .inl (ty 0, 240, .inl (nF p0))), (aM 38, .inl (ty 0, 240, .inl (nF p1))), (aM 39, .inl (ty 0, 240, .inl (nF p2))), (aM 40, .inl (ty 0, 240, .inl (nF p3))), (aM 45, .inl (ty 2, 240, .inl (bF cv)))] sz) := by
  refine met_wr (y := y_Model_cover) (maxL := 4) (sz := sz) (G := G) (ty := ty) (mc := 0) (ms := 0) (av := [.ref hM]) (W0 := [(hM, .inr (10, mO cd st al ac nf ns gg mg bw md wy sg_ sz_ ks bd aM)), (aM 37, .inl (ty 0, 240, .inl (nF p0))), (aM 38, .inl (ty 0, 240, .inl (nF p1))), (aM 39, .inl (ty 0, 240, .inl (nF p2))), (aM 40, .inl (ty 0, 240, .inl (nF p3))), (aM 45, .inl (ty 2, 240, .inl (bF cv)))]) (fun A => q_Model_cover G ty hM cd st al ac nf ns gg mg bw md wy sg_ sz_ ks bd aM p0 p1 p2 p3 cv A) R_Model (by decide) rfl rfl (Nat.le_of_ble_eq_true rfl) ?_
  intro p e s m below meth c ls A hx hb hr hml hown hts hlocks hin hA hP hX hD hS hl
  have hK := hX.1
  have hl : lv_has ls 4 [(0, .ref hM)] := hl
  refine lv_iconst (v := (nI 0)) hx hb d_Model_cover_0 (by decide) ?_
  refine lv_istore_n (lv' := [(1, .int (nI 0)), (0, .ref hM)]) hx hb d_Model_cover_1 rfl hl (by decide) rfl (fun ls hl => ?_)
  have L2 : ∀ (k9 : Nat) (k : Nat) (cv2 : Nat → Bool) (H : Heap) (locs : List Loc) (ls : Array Slot), (k ≤ 240) → (∀ j, j < k → cv2 j = false) → 240 - k < k9 → va_P G vwCl [(hM, .inr (10, mO cd st al ac nf ns gg mg bw md wy sg_ sz_ ks bd aM)), (aM 37, .inl (ty 0, 240, .inl (nF p0))), (aM 38, .inl (ty 0, 240, .inl (nF p1))), (aM 39, .inl (ty 0, 240, .inl (nF p2))), (aM 40, .inl (ty 0, 240, .inl (nF p3))), (aM 45, .inl (ty 2, 240, .inl (bF cv2)))] H → va_D A [(hM, .inr (10, mO cd st al ac nf ns gg mg bw md wy sg_ sz_ ks bd aM)), (aM 37, .inl (ty 0, 240, .inl (nF p0))), (aM 38, .inl (ty 0, 240, .inl (nF p1))), (aM 39, .inl (ty 0, 240, .inl (nF p2))), (aM 40, .inl (ty 0, 240, .inl (nF p3))), (aM 45, .inl (ty 2, 240, .inl (bF cv2)))] → va_S A s.heap H locs → lv_has ls 4 [(0, .ref hM), (1, .int (nI k))] → W p l e { frames := 0, cells := 0, slots := 0, locals := 0 } s m [.ref hM].toArray below meth c H locs 0 0 (MQ below (q_Model_cover G ty hM cd st al ac nf ns gg mg bw md wy sg_ sz_ ks bd aM p0 p1 p2 p3 cv A) [.ref hM].toArray s 0 0 A) (F0 m 2 ls []) := by
    intro k9
    induction k9 with
    | zero => intro k cv2 H locs ls hk hA1 hk9; exact absurd hk9 (Nat.not_lt_zero _)
    | succ k9 ih2 =>
      intro k cv2 H locs ls hk hA1 hk9 hP hD hS hl
      refine lv_iload_n hx hb d_Model_cover_2 rfl (lv_at hl 1 rfl) ?_
      refine lv_sipush (v := (nI 240)) hx hb d_Model_cover_3 (by decide) ?_
      refine n_icmp_ge (tgt := 22) hx hb (by omega) (by omega) d_Model_cover_6 (by decide) (fun c6 => ?_) (fun c6 => ?_)
      · refine lv_iconst (v := (nI 0)) hx hb d_Model_cover_22 (by decide) ?_
        refine lv_istore_n (lv' := [(1, .int (nI 0)), (0, .ref hM)]) hx hb d_Model_cover_23 rfl hl (by decide) rfl (fun ls hl => ?_)
        have L24 : ∀ (k9 : Nat) (k : Nat) (cv2 : Nat → Bool) (H : Heap) (locs : List Loc) (ls : Array Slot), (k ≤ sz_) → (∀ x y, x < 24 → y < 10 → cv2 (24 * y + x) = cvN p0 p1 p2 p3 k x y) → sz_ - k < k9 → va_P G vwCl [(hM, .inr (10, mO cd st al ac nf ns gg mg bw md wy sg_ sz_ ks bd aM)), (aM 37, .inl (ty 0, 240, .inl (nF p0))), (aM 38, .inl (ty 0, 240, .inl (nF p1))), (aM 39, .inl (ty 0, 240, .inl (nF p2))), (aM 40, .inl (ty 0, 240, .inl (nF p3))), (aM 45, .inl (ty 2, 240, .inl (bF cv2)))] H → va_D A [(hM, .inr (10, mO cd st al ac nf ns gg mg bw md wy sg_ sz_ ks bd aM)), (aM 37, .inl (ty 0, 240, .inl (nF p0))), (aM 38, .inl (ty 0, 240, .inl (nF p1))), (aM 39, .inl (ty 0, 240, .inl (nF p2))), (aM 40, .inl (ty 0, 240, .inl (nF p3))), (aM 45, .inl (ty 2, 240, .inl (bF cv2)))] → va_S A s.heap H locs → lv_has ls 4 [(0, .ref hM), (1, .int (nI k))] → W p l e { frames := 0, cells := 0, slots := 0, locals := 0 } s m [.ref hM].toArray below meth c H locs 0 0 (MQ below (q_Model_cover G ty hM cd st al ac nf ns gg mg bw md wy sg_ sz_ ks bd aM p0 p1 p2 p3 cv A) [.ref hM].toArray s 0 0 A) (F0 m 24 ls []) := by
          intro k9
          induction k9 with
          | zero => intro k cv2 H locs ls hk1 hA2 hk9; exact absurd hk9 (Nat.not_lt_zero _)
          | succ k9 ih24 =>
            intro k cv2 H locs ls hk1 hA2 hk9 hP hD hS hl
            refine lv_iload_n hx hb d_Model_cover_24 rfl (lv_at hl 1 rfl) ?_
            refine lv_aload_n hx hb d_Model_cover_25 rfl (lv_at hl 0 rfl) ?_
            refine va_get (D := G) (ci := 10) (v := .int (nI sz_)) (C := R_Model) (T := F_Model) (N := 47) hx hb hts in_Model hown hK hP 0 rfl rfl 36 (by decide) (hts _ fl_Model_219) (fun _ h9 => h9) rfl d_Model_cover_26 ?_
            refine n_icmp_ge (tgt := 110) hx hb (by omega) (by omega) d_Model_cover_29 (by decide) (fun c29 => ?_) (fun c29 => ?_)
            · exact W.vret hx hb hr (fun t9 ht hW => ⟨⟨(cv2), rfl, fun x y h1 h2 => by rw [← show k = sz_ by omega]; exact hA2 x y h1 h2, by rw [ht]; exact hP, hD⟩, hS.F ht⟩) hS.2.2 d_Model_cover_110
            · have hbk := g3 k (by omega)
              refine lv_aload_n hx hb d_Model_cover_32 rfl (lv_at hl 0 rfl) ?_
              refine va_get (D := G) (ci := 10) (v := .ref (aM 37)) (C := R_Model) (T := F_Model) (N := 47) hx hb hts in_Model hown hK hP 0 rfl rfl 37 (by decide) (hts _ fl_Model_94) (fun _ h9 => h9) rfl d_Model_cover_33 ?_
              refine lv_iload_n hx hb d_Model_cover_36 rfl (lv_at hl 1 rfl) ?_
              refine n_iald hx hb hK hP 1 0 rfl rfl (by omega) (by omega) d_Model_cover_37 ?_
              refine lv_istore_n (lv' := [(2, .int (nI (p0 k))), (0, .ref hM), (1, .int (nI k))]) hx hb d_Model_cover_38 rfl hl (by decide) rfl (fun ls hl => ?_)
              have L39 : ∀ (k9 : Nat) (X : Nat) (cv2 : Nat → Bool) (H : Heap) (locs : List Loc) (ls : Array Slot), (p0 k ≤ X ∧ X ≤ p0 k + p2 k) → (∀ x y, x < 24 → y < 10 → cv2 (24 * y + x) = (cvN p0 p1 p2 p3 k x y || decide ((p0 k ≤ x ∧ x < p0 k + p2 k ∧ p1 k ≤ y ∧ y < p1 k + p3 k) ∧ x < X))) → p0 k + p2 k - X < k9 → va_P G vwCl [(hM, .inr (10, mO cd st al ac nf ns gg mg bw md wy sg_ sz_ ks bd aM)), (aM 37, .inl (ty 0, 240, .inl (nF p0))), (aM 38, .inl (ty 0, 240, .inl (nF p1))), (aM 39, .inl (ty 0, 240, .inl (nF p2))), (aM 40, .inl (ty 0, 240, .inl (nF p3))), (aM 45, .inl (ty 2, 240, .inl (bF cv2)))] H → va_D A [(hM, .inr (10, mO cd st al ac nf ns gg mg bw md wy sg_ sz_ ks bd aM)), (aM 37, .inl (ty 0, 240, .inl (nF p0))), (aM 38, .inl (ty 0, 240, .inl (nF p1))), (aM 39, .inl (ty 0, 240, .inl (nF p2))), (aM 40, .inl (ty 0, 240, .inl (nF p3))), (aM 45, .inl (ty 2, 240, .inl (bF cv2)))] → va_S A s.heap H locs → lv_has ls 4 [(0, .ref hM), (1, .int (nI k)), (2, .int (nI X))] → W p l e { frames := 0, cells := 0, slots := 0, locals := 0 } s m [.ref hM].toArray below meth c H locs 0 0 (MQ below (q_Model_cover G ty hM cd st al ac nf ns gg mg bw md wy sg_ sz_ ks bd aM p0 p1 p2 p3 cv A) [.ref hM].toArray s 0 0 A) (F0 m 39 ls []) := by
                intro k9
                induction k9 with
                | zero => intro X cv2 H locs ls hXx hA3 hk9; exact absurd hk9 (Nat.not_lt_zero _)
                | succ k9 ih39 =>
                  intro X cv2 H locs ls hXx hA3 hk9 hP hD hS hl
                  refine lv_iload_n hx hb d_Model_cover_39 rfl (lv_at hl 2 rfl) ?_
                  refine lv_aload_n hx hb d_Model_cover_40 rfl (lv_at hl 0 rfl) ?_
                  refine va_get (D := G) (ci := 10) (v := .ref (aM 37)) (C := R_Model) (T := F_Model) (N := 47) hx hb hts in_Model hown hK hP 0 rfl rfl 37 (by decide) (hts _ fl_Model_94) (fun _ h9 => h9) rfl d_Model_cover_41 ?_
                  refine lv_iload_n hx hb d_Model_cover_44 rfl (lv_at hl 1 rfl) ?_
                  refine n_iald hx hb hK hP 1 0 rfl rfl (by omega) (by omega) d_Model_cover_45 ?_
                  refine lv_aload_n hx hb d_Model_cover_46 rfl (lv_at hl 0 rfl) ?_
                  refine va_get (D := G) (ci := 10) (v := .ref (aM 39)) (C := R_Model) (T := F_Model) (N := 47) hx hb hts in_Model hown hK hP 0 rfl rfl 39 (by decide) (hts _ fl_Model_100) (fun _ h9 => h9) rfl d_Model_cover_47 ?_
                  refine lv_iload_n hx hb d_Model_cover_50 rfl (lv_at hl 1 rfl) ?_
                  refine n_iald hx hb hK hP 3 0 rfl rfl (by omega) (by omega) d_Model_cover_51 ?_
                  refine n_iadd hx hb d_Model_cover_52 ?_
                  refine n_icmp_ge (tgt := 104) hx hb (by omega) (by omega) d_Model_cover_53 (by decide) (fun c53 => ?_) (fun c53 => ?_)
                  · refine lv_iinc (v := (nI (k + 1))) (lv' := [(1, .int (nI (k + 1))), (0, .ref hM), (2, .int (nI X))]) hx hb d_Model_cover_104 hl (k := 1) rfl (nI_inc _ _ _ (by omega)) (by decide) rfl (fun ls hl => ?_)
                    refine lv_goto (tgt := 24) hx hb d_Model_cover_107 (by decide) ?_
                    exact ih24 (k + 1) cv2 _ _ _ (by omega) (fun x y h1 h2 => by rw [hA3 x y h1 h2, cvN_s]; congr 1; exact decide_eq_decide.mpr (by omega)) (by omega) hP hD hS (lv_sub hl [1, 0] rfl)
                  · refine lv_aload_n hx hb d_Model_cover_56 rfl (lv_at hl 0 rfl) ?_
                    refine va_get (D := G) (ci := 10) (v := .ref (aM 38)) (C := R_Model) (T := F_Model) (N := 47) hx hb hts in_Model hown hK hP 0 rfl rfl 38 (by decide) (hts _ fl_Model_97) (fun _ h9 => h9) rfl d_Model_cover_57 ?_
                    refine lv_iload_n hx hb d_Model_cover_60 rfl (lv_at hl 1 rfl) ?_
                    refine n_iald hx hb hK hP 2 0 rfl rfl (by omega) (by omega) d_Model_cover_61 ?_
                    refine lv_istore_n (lv' := [(3, .int (nI (p1 k))), (0, .ref hM), (1, .int (nI k)), (2, .int (nI X))]) hx hb d_Model_cover_62 rfl hl (by decide) rfl (fun ls hl => ?_)
                    have L63 : ∀ (k9 : Nat) (Y : Nat) (cv2 : Nat → Bool) (H : Heap) (locs : List Loc) (ls : Array Slot), (p1 k ≤ Y ∧ Y ≤ p1 k + p3 k) → (∀ x y, x < 24 → y < 10 → cv2 (24 * y + x) = (cvN p0 p1 p2 p3 k x y || decide ((p0 k ≤ x ∧ x < p0 k + p2 k ∧ p1 k ≤ y ∧ y < p1 k + p3 k) ∧ (x < X ∨ (x = X ∧ y < Y))))) → p1 k + p3 k - Y < k9 → va_P G vwCl [(hM, .inr (10, mO cd st al ac nf ns gg mg bw md wy sg_ sz_ ks bd aM)), (aM 37, .inl (ty 0, 240, .inl (nF p0))), (aM 38, .inl (ty 0, 240, .inl (nF p1))), (aM 39, .inl (ty 0, 240, .inl (nF p2))), (aM 40, .inl (ty 0, 240, .inl (nF p3))), (aM 45, .inl (ty 2, 240, .inl (bF cv2)))] H → va_D A [(hM, .inr (10, mO cd st al ac nf ns gg mg bw md wy sg_ sz_ ks bd aM)), (aM 37, .inl (ty 0, 240, .inl (nF p0))), (aM 38, .inl (ty 0, 240, .inl (nF p1))), (aM 39, .inl (ty 0, 240, .inl (nF p2))), (aM 40, .inl (ty 0, 240, .inl (nF p3))), (aM 45, .inl (ty 2, 240, .inl (bF cv2)))] → va_S A s.heap H locs → lv_has ls 4 [(0, .ref hM), (1, .int (nI k)), (2, .int (nI X)), (3, .int (nI Y))] → W p l e { frames := 0, cells := 0, slots := 0, locals := 0 } s m [.ref hM].toArray below meth c H locs 0 0 (MQ below (q_Model_cover G ty hM cd st al ac nf ns gg mg bw md wy sg_ sz_ ks bd aM p0 p1 p2 p3 cv A) [.ref hM].toArray s 0 0 A) (F0 m 63 ls []) := by
                      intro k9
                      induction k9 with
                      | zero => intro Y cv2 H locs ls hY hA4 hk9; exact absurd hk9 (Nat.not_lt_zero _)
                      | succ k9 ih63 =>
                        intro Y cv2 H locs ls hY hA4 hk9 hP hD hS hl
                        refine lv_iload_n hx hb d_Model_cover_63 rfl (lv_at hl 3 rfl) ?_
                        refine lv_aload_n hx hb d_Model_cover_64 rfl (lv_at hl 0 rfl) ?_
                        refine va_get (D := G) (ci := 10) (v := .ref (aM 38)) (C := R_Model) (T := F_Model) (N := 47) hx hb hts in_Model hown hK hP 0 rfl rfl 38 (by decide) (hts _ fl_Model_97) (fun _ h9 => h9) rfl d_Model_cover_65 ?_
                        refine lv_iload_n hx hb d_Model_cover_68 rfl (lv_at hl 1 rfl) ?_
                        refine n_iald hx hb hK hP 2 0 rfl rfl (by omega) (by omega) d_Model_cover_69 ?_
                        refine lv_aload_n hx hb d_Model_cover_70 rfl (lv_at hl 0 rfl) ?_
                        refine va_get (D := G) (ci := 10) (v := .ref (aM 40)) (C := R_Model) (T := F_Model) (N := 47) hx hb hts in_Model hown hK hP 0 rfl rfl 40 (by decide) (hts _ fl_Model_103) (fun _ h9 => h9) rfl d_Model_cover_71 ?_
                        refine lv_iload_n hx hb d_Model_cover_74 rfl (lv_at hl 1 rfl) ?_
                        refine n_iald hx hb hK hP 4 0 rfl rfl (by omega) (by omega) d_Model_cover_75 ?_
                        refine n_iadd hx hb d_Model_cover_76 ?_
                        refine n_icmp_ge (tgt := 98) hx hb (by omega) (by omega) d_Model_cover_77 (by decide) (fun c77 => ?_) (fun c77 => ?_)
                        · refine lv_iinc (v := (nI (X + 1))) (lv' := [(2, .int (nI (X + 1))), (0, .ref hM), (1, .int (nI k)), (3, .int (nI Y))]) hx hb d_Model_cover_98 hl (k := 2) rfl (nI_inc _ _ _ (by omega)) (by decide) rfl (fun ls hl => ?_)
                          refine lv_goto (tgt := 39) hx hb d_Model_cover_101 (by decide) ?_
                          exact ih39 (X + 1) cv2 _ _ _ (by omega) (fun x y h1 h2 => by rw [hA4 x y h1 h2]; congr 1; exact decide_eq_decide.mpr (by omega)) (by omega) hP hD hS (lv_sub hl [1, 2, 0] rfl)
                        · refine lv_aload_n hx hb d_Model_cover_80 rfl (lv_at hl 0 rfl) ?_
                          refine va_get (D := G) (ci := 10) (v := .ref (aM 45)) (C := R_Model) (T := F_Model) (N := 47) hx hb hts in_Model hown hK hP 0 rfl rfl 45 (by decide) (hts _ fl_Model_112) (fun _ h9 => h9) rfl d_Model_cover_81 ?_
                          refine lv_bipush (v := (nI 24)) hx hb d_Model_cover_84 (by decide) ?_
                          refine lv_iload_n hx hb d_Model_cover_86 rfl (lv_at hl 3 rfl) ?_
                          refine n_imul hx hb d_Model_cover_87 ?_
                          refine lv_iload_n hx hb d_Model_cover_88 rfl (lv_at hl 2 rfl) ?_
                          refine n_iadd hx hb d_Model_cover_89 ?_
                          refine lv_iconst (v := (nI 1)) hx hb d_Model_cover_90 (by decide) ?_
                          refine n_zast hx hb hK hP hD hS 5 2 rfl rfl nar_z1 (by omega) (by omega) d_Model_cover_91 (fun H locs hP hD hS => ?_)
                          rw [upd_b1] at hP hD
                          have hP : va_P G vwCl [(hM, .inr (10, mO cd st al ac nf ns gg mg bw md wy sg_ sz_ ks bd aM)), (aM 37, .inl (ty 0, 240, .inl (nF p0))), (aM 38, .inl (ty 0, 240, .inl (nF p1))), (aM 39, .inl (ty 0, 240, .inl (nF p2))), (aM 40, .inl (ty 0, 240, .inl (nF p3))), (aM 45, .inl (ty 2, 240, .inl (bF (va_up cv2 ((24 * Y) + X) true))))] _ := hP
                          have hD : va_D A [(hM, .inr (10, mO cd st al ac nf ns gg mg bw md wy sg_ sz_ ks bd aM)), (aM 37, .inl (ty 0, 240, .inl (nF p0))), (aM 38, .inl (ty 0, 240, .inl (nF p1))), (aM 39, .inl (ty 0, 240, .inl (nF p2))), (aM 40, .inl (ty 0, 240, .inl (nF p3))), (aM 45, .inl (ty 2, 240, .inl (bF (va_up cv2 ((24 * Y) + X) true))))] := hD
                          have hA5 : ∀ x y, x < 24 → y < 10 → (va_up cv2 ((24 * Y) + X) true) (24 * y + x) = (cvN p0 p1 p2 p3 k x y || decide ((p0 k ≤ x ∧ x < p0 k + p2 k ∧ p1 k ≤ y ∧ y < p1 k + p3 k) ∧ (x < X ∨ (x = X ∧ y < Y + 1)))) := fun x y h1 h2 => by by_cases q : x = X ∧ y = Y; exact (by rw [q.1, q.2, va_up_self, decide_eq_true (by omega), Bool.or_true]); exact (by rw [va_up_ne _ _ (by omega), hA4 x y h1 h2]; congr 1; exact decide_eq_decide.mpr (by omega))
                          refine lv_iinc (v := (nI (Y + 1))) (lv' := [(3, .int (nI (Y + 1))), (0, .ref hM), (1, .int (nI k)), (2, .int (nI X))]) hx hb d_Model_cover_92 hl (k := 3) rfl (nI_inc _ _ _ (by omega)) (by decide) rfl (fun ls hl => ?_)
                          refine lv_goto (tgt := 63) hx hb d_Model_cover_95 (by decide) ?_
                          exact ih63 (Y + 1) (va_up cv2 ((24 * Y) + X) true) _ _ _ (by omega) hA5 (by omega) hP hD hS (lv_sub hl [1, 2, 3, 0] rfl)
                    exact L63 (p1 k + p3 k - (p1 k) + 1) (p1 k) cv2 _ _ _ (by omega) (fun x y h1 h2 => by rw [hA3 x y h1 h2]; congr 1; exact decide_eq_decide.mpr (by omega)) (Nat.lt_succ_self _) hP hD hS (lv_sub hl [1, 2, 3, 0] rfl)
              exact L39 (p0 k + p2 k - (p0 k) + 1) (p0 k) cv2 _ _ _ (by omega) (fun x y h1 h2 => by rw [hA2 x y h1 h2, decide_eq_false (by omega), Bool.or_false]) (Nat.lt_succ_self _) hP hD hS (lv_sub hl [1, 2, 0] rfl)
        exact L24 (sz_ - 0 + 1) 0 cv2 _ _ _ (Nat.zero_le _) (fun x y h1 h2 => hA1 _ (by omega)) (Nat.lt_succ_self _) hP hD hS (lv_sub hl [1, 0] rfl)
      · refine lv_aload_n hx hb d_Model_cover_9 rfl (lv_at hl 0 rfl) ?_
        refine va_get (D := G) (ci := 10) (v := .ref (aM 45)) (C := R_Model) (T := F_Model) (N := 47) hx hb hts in_Model hown hK hP 0 rfl rfl 45 (by decide) (hts _ fl_Model_112) (fun _ h9 => h9) rfl d_Model_cover_10 ?_
        refine lv_iload_n hx hb d_Model_cover_13 rfl (lv_at hl 1 rfl) ?_
        refine lv_iconst (v := (nI 0)) hx hb d_Model_cover_14 (by decide) ?_
        refine n_zast hx hb hK hP hD hS 5 2 rfl rfl nar_z0 (by omega) (by omega) d_Model_cover_15 (fun H locs hP hD hS => ?_)
        rw [upd_b0] at hP hD
        have hP : va_P G vwCl [(hM, .inr (10, mO cd st al ac nf ns gg mg bw md wy sg_ sz_ ks bd aM)), (aM 37, .inl (ty 0, 240, .inl (nF p0))), (aM 38, .inl (ty 0, 240, .inl (nF p1))), (aM 39, .inl (ty 0, 240, .inl (nF p2))), (aM 40, .inl (ty 0, 240, .inl (nF p3))), (aM 45, .inl (ty 2, 240, .inl (bF (va_up cv2 k false))))] _ := hP
        have hD : va_D A [(hM, .inr (10, mO cd st al ac nf ns gg mg bw md wy sg_ sz_ ks bd aM)), (aM 37, .inl (ty 0, 240, .inl (nF p0))), (aM 38, .inl (ty 0, 240, .inl (nF p1))), (aM 39, .inl (ty 0, 240, .inl (nF p2))), (aM 40, .inl (ty 0, 240, .inl (nF p3))), (aM 45, .inl (ty 2, 240, .inl (bF (va_up cv2 k false))))] := hD
        refine lv_iinc (v := (nI (k + 1))) (lv' := [(1, .int (nI (k + 1))), (0, .ref hM)]) hx hb d_Model_cover_16 hl (k := 1) rfl (nI_inc _ _ _ (by omega)) (by decide) rfl (fun ls hl => ?_)
        refine lv_goto (tgt := 2) hx hb d_Model_cover_19 (by decide) ?_
        exact ih2 (k + 1) (va_up cv2 k false) _ _ _ (by omega) (fun j h => (Nat.lt_or_ge j k).elim (fun q => by rw [va_up_ne _ _ (by omega)]; exact hA1 j q) (fun q => by rw [show j = k by omega, va_up_self])) (by omega) hP hD hS (lv_sub hl [1, 0] rfl)
  exact L2 (240 - 0 + 1) 0 cv _ _ _ (Nat.zero_le _) (fun j h => absurd h (by omega)) (Nat.lt_succ_self _) hP hD hS (lv_sub hl [1, 0] rfl)

abbrev q_Model_begins (G : va_G) (ty : Nat → ClassId) (hM : Nat) (cd : Nat) (st : Nat) (al : Nat) (ac : Nat) (nf : Nat) (ns : Nat) (gg : Nat) (mg : Nat) (bw : Nat) (md : Nat) (wy : Nat) (sg_ : Nat) (sz_ : Nat) (ks : Nat) (bd : Int) (aM : Nat → Nat) (x : Nat) (y : Nat) (cv : Nat → Bool) : Array Value → State → Outcome → State → Prop := vp_Si (fun r : Int32 => r = (nI ((bgC (cvQ cv) x y).toNat)))
set_option maxRecDepth 100000 in
set_option maxHeartbeats 4000000 in
theorem c_Model_begins (l : Launch) (G : va_G) (ty : Nat → ClassId) (hM : Nat) (cd : Nat) (st : Nat) (al : Nat) (ac : Nat) (nf : Nat) (ns : Nat) (gg : Nat) (mg : Nat) (bw : Nat) (md : Nat) (wy : Nat) (sg_ : Nat) (sz_ : Nat) (ks : Nat) (bd : Int) (aM : Nat → Nat) (x : Nat) (y : Nat) (cv : Nat → Bool) (g1 : x < 24) (g2 : y < 10) : Met l y_Model_begins ws_Model_begins { frames := 0, cells := 0, slots := 0, locals := 0 } (va_Pc [.ref hM, .int (nI x), .int (nI y)] (fun U => va_P G vwCl [(hM, .inr (10, mO cd st al ac nf ns gg mg bw md wy sg_ sz_ ks bd aM)), (aM 45, .inl (ty 2, 240, .inl (bF cv)))] U.heap ∧ KX G ty U)) (q_Model_begins G ty hM cd st al ac nf ns gg mg bw md wy sg_ sz_ ks bd aM x y cv) 0 0 (fun _ => False) := by
  refine met_ro R_Model (by decide) rfl rfl (Nat.le_of_ble_eq_true rfl) ?_
  intro p e s m below meth c ls hx hb hr hml hown hts hlocks hP hX hl
  have hK := hX.1
  have hl : lv_has ls 3 [(0, .ref hM), (1, .int (nI x)), (2, .int (nI y))] := hl
  refine lv_aload_n hx hb d_Model_begins_0 rfl (lv_at hl 0 rfl) ?_
  refine va_get (D := G) (ci := 10) (v := .ref (aM 45)) (C := R_Model) (T := F_Model) (N := 47) hx hb hts in_Model hown hK hP 0 rfl rfl 45 (by decide) (hts _ fl_Model_112) (fun _ h9 => h9) rfl d_Model_begins_1 ?_
  refine lv_bipush (v := (nI 24)) hx hb d_Model_begins_4 (by decide) ?_
  refine lv_iload_n hx hb d_Model_begins_6 rfl (lv_at hl 2 rfl) ?_
  refine n_imul hx hb d_Model_begins_7 ?_
  refine lv_iload_n hx hb d_Model_begins_8 rfl (lv_at hl 1 rfl) ?_
  refine n_iadd hx hb d_Model_begins_9 ?_
  refine n_zald hx hb hK hP 1 2 rfl rfl (by omega) (by omega) d_Model_begins_10 ?_
  refine n_if_ne (tgt := 38) hx hb (tN_lt _) d_Model_begins_11 (by decide) (fun c11 => ?_) (fun c11 => ?_)
  · refine lv_iconst (v := (nI 0)) hx hb d_Model_begins_38 (by decide) ?_
    exact W.zret (v := (nI 0)) hx hb hr nar_b0 (fun t9 ht _ => ⟨_, rfl, congrArg nI (by rw [bgC_q]; first | (rw [tN_1 c11]; rfl) | (rw [tN_0 c11, decide_eq_true (show x = 0 by omega)]; rfl) | (rw [tN_0 c11, decide_eq_false (show ¬ x = 0 by omega), tN_1 c31]; rfl) | (rw [tN_0 c11, decide_eq_false (show ¬ x = 0 by omega), tN_0 c31]; rfl)), ht⟩) (fun q h => by cases h) d_Model_begins_39
  · refine lv_iload_n hx hb d_Model_begins_14 rfl (lv_at hl 1 rfl) ?_
    refine n_if_eq (tgt := 34) hx hb (by omega) d_Model_begins_15 (by decide) (fun c15 => ?_) (fun c15 => ?_)
    · refine lv_iconst (v := (nI 1)) hx hb d_Model_begins_34 (by decide) ?_
      refine lv_goto (tgt := 39) hx hb d_Model_begins_35 (by decide) ?_
      exact W.zret (v := (nI 1)) hx hb hr nar_b1 (fun t9 ht _ => ⟨_, rfl, congrArg nI (by rw [bgC_q]; first | (rw [tN_1 c11]; rfl) | (rw [tN_0 c11, decide_eq_true (show x = 0 by omega)]; rfl) | (rw [tN_0 c11, decide_eq_false (show ¬ x = 0 by omega), tN_1 c31]; rfl) | (rw [tN_0 c11, decide_eq_false (show ¬ x = 0 by omega), tN_0 c31]; rfl)), ht⟩) (fun q h => by cases h) d_Model_begins_39
    · refine lv_aload_n hx hb d_Model_begins_18 rfl (lv_at hl 0 rfl) ?_
      refine va_get (D := G) (ci := 10) (v := .ref (aM 45)) (C := R_Model) (T := F_Model) (N := 47) hx hb hts in_Model hown hK hP 0 rfl rfl 45 (by decide) (hts _ fl_Model_112) (fun _ h9 => h9) rfl d_Model_begins_19 ?_
      refine lv_bipush (v := (nI 24)) hx hb d_Model_begins_22 (by decide) ?_
      refine lv_iload_n hx hb d_Model_begins_24 rfl (lv_at hl 2 rfl) ?_
      refine n_imul hx hb d_Model_begins_25 ?_
      refine lv_iload_n hx hb d_Model_begins_26 rfl (lv_at hl 1 rfl) ?_
      refine n_iadd hx hb d_Model_begins_27 ?_
      refine lv_iconst (v := (nI 1)) hx hb d_Model_begins_28 (by decide) ?_
      refine n_isub hx hb (by omega) d_Model_begins_29 ?_
      refine n_zald hx hb hK hP 1 2 rfl rfl (by omega) (by omega) d_Model_begins_30 ?_
      refine n_if_eq (tgt := 38) hx hb (tN_lt _) d_Model_begins_31 (by decide) (fun c31 => ?_) (fun c31 => ?_)
      · refine lv_iconst (v := (nI 0)) hx hb d_Model_begins_38 (by decide) ?_
        exact W.zret (v := (nI 0)) hx hb hr nar_b0 (fun t9 ht _ => ⟨_, rfl, congrArg nI (by rw [bgC_q]; first | (rw [tN_1 c11]; rfl) | (rw [tN_0 c11, decide_eq_true (show x = 0 by omega)]; rfl) | (rw [tN_0 c11, decide_eq_false (show ¬ x = 0 by omega), tN_1 c31]; rfl) | (rw [tN_0 c11, decide_eq_false (show ¬ x = 0 by omega), tN_0 c31]; rfl)), ht⟩) (fun q h => by cases h) d_Model_begins_39
      · refine lv_iconst (v := (nI 1)) hx hb d_Model_begins_34 (by decide) ?_
        refine lv_goto (tgt := 39) hx hb d_Model_begins_35 (by decide) ?_
        exact W.zret (v := (nI 1)) hx hb hr nar_b1 (fun t9 ht _ => ⟨_, rfl, congrArg nI (by rw [bgC_q]; first | (rw [tN_1 c11]; rfl) | (rw [tN_0 c11, decide_eq_true (show x = 0 by omega)]; rfl) | (rw [tN_0 c11, decide_eq_false (show ¬ x = 0 by omega), tN_1 c31]; rfl) | (rw [tN_0 c11, decide_eq_false (show ¬ x = 0 by omega), tN_0 c31]; rfl)), ht⟩) (fun q h => by cases h) d_Model_begins_39

abbrev q_Model_salvage (G : va_G) (ty : Nat → ClassId) (hM : Nat) (cd : Nat) (st : Nat) (al : Nat) (ac : Nat) (nf : Nat) (ns : Nat) (gg : Nat) (mg : Nat) (bw : Nat) (md : Nat) (wy : Nat) (sg_ : Nat) (sz_ : Nat) (ks : Nat) (bd : Int) (aM : Nat → Nat) (kz : Int) (wh : Int) (p0 : Nat → Nat) (p1 : Nat → Nat) (p2 : Nat → Nat) (p3 : Nat → Nat) (cv : Nat → Bool) (A : Nat → Prop) : Array Value → State → Outcome → State → Prop := va_Qi (fun (r : Int32) => fun (uu : Int × Nat × Nat × Nat × Nat × (Nat → Bool)) => r = (iI uu.1) ∧ ((kz < -1 ∨ ((nbA (cvN p0 p1 p2 p3 sz_) al ac : Nat) : Int) ≤ kz) → uu.2.1 = 2 ∧ uu.1 = 0) ∧ (¬ (kz < -1 ∨ ((nbA (cvN p0 p1 p2 p3 sz_) al ac : Nat) : Int) ≤ kz) → ((wh < 0 ∨ 2 < wh) → uu.2.1 = 3 ∧ uu.1 = 0) ∧ (¬ (wh < 0 ∨ 2 < wh) → uu.2.1 = 0 ∧ (kz = -1 → uu.1 = ((nbA (cvN p0 p1 p2 p3 sz_) al ac : Nat) : Int)) ∧ (kz ≠ -1 → fdC (cvN p0 p1 p2 p3 sz_) al ac kz.toNat uu.2.2.1 uu.2.2.2.1 ∧ edC (cvN p0 p1 p2 p3 sz_) al uu.2.2.2.1 uu.2.2.1 uu.2.2.2.2.1 ∧ (wh = 0 → uu.1 = (uu.2.2.1 : Int)) ∧ (wh = 1 → uu.1 = (uu.2.2.2.1 : Int)) ∧ (wh = 2 → uu.1 = ((uu.2.2.2.2.1 - uu.2.2.1 : Nat) : Int)))))) (at_W G (fun (uu : Int × Nat × Nat × Nat × Nat × (Nat → Bool)) => [(hM, .inr (10, mO uu.2.1 st al ac nf ns gg mg bw md wy sg_ sz_ ks bd aM)), (aM 37, .inl (ty 0, 240, .inl (nF p0))), (aM 38, .inl (ty 0, 240, .inl (nF p1))), (aM 39, .inl (ty 0, 240, .inl (nF p2))), (aM 40, .inl (ty 0, 240, .inl (nF p3))), (aM 45, .inl (ty 2, 240, .inl (bF uu.2.2.2.2.2)))]) A) A
set_option maxRecDepth 100000 in
set_option maxHeartbeats 4000000 in
theorem c_Model_salvage (l : Launch) (G : va_G) (ty : Nat → ClassId) (sz : Nat) (hM : Nat) (cd : Nat) (st : Nat) (al : Nat) (ac : Nat) (nf : Nat) (ns : Nat) (gg : Nat) (mg : Nat) (bw : Nat) (md : Nat) (wy : Nat) (sg_ : Nat) (sz_ : Nat) (ks : Nat) (bd : Int) (aM : Nat → Nat) (kz : Int) (wh : Int) (p0 : Nat → Nat) (p1 : Nat → Nat) (p2 : Nat → Nat) (p3 : Nat → Nat) (cv : Nat → Bool) (gmd : md = 1) (g1 : sz_ ≤ 240) (g3 : ∀ k, k < sz_ → p0 k + p2 k ≤ 24 ∧ p1 k + p3 k ≤ 10) (ga : al ≤ 24) (gc : ac ≤ 10) (gk : -2147483648 ≤ kz ∧ kz ≤ 2147483647) (gw : -2147483648 ≤ wh ∧ wh ≤ 2147483647) : Met l y_Model_salvage ws_Model_salvage { frames := 1, cells := 0, slots := 0, locals := 25 } (va_Pc [.ref hM, .int (iI kz), .int (iI wh)] (fun U => U.heap.size = sz ∧ va_P G vwCl [(hM, .inr (10, mO cd st al ac nf ns gg mg bw md wy sg_ sz_ ks bd aM)), (aM 37, .inl (ty 0, 240, .inl (nF p0))), (aM 38, .inl (ty 0, 240, .inl (nF p1))), (aM 39, .inl (ty 0, 240, .inl (nF p2))), (aM 40, .inl (ty 0, 240, .inl (nF p3))), (aM 45, .inl (ty 2, 240, .inl (bF cv)))] U.heap ∧ KX G ty U ∧ va_D (fun _ => True) [(hM, .inr (10, mO cd st al ac nf ns gg mg bw md wy sg_ sz_ ks bd aM)), (aM 37, .inl (ty 0, 240, .inl (nF p0))), (aM 38, .inl (ty 0, 240, .inl (nF p1))), (aM 39, .inl (ty 0, 240, .inl (nF p2))), (aM 40, .inl (ty 0, 240, .inl (nF p3))), (aM 45, .inl (ty 2, 240, .inl (bF cv)))])) (q_Model_salvage G ty hM cd st al ac nf ns gg mg bw md wy sg_ sz_ ks bd aM kz wh p0 p1 p2 p3 cv (va_A [(hM, .inr (10, mO cd st al ac nf ns gg mg bw md wy sg_ sz_ ks bd aM)), (aM 37, .inl (ty 0, 240, .inl (nF p0))), (aM 38, .inl (ty 0, 240, .inl (nF p1))), (aM 39, .inl (ty 0, 240, .inl (nF p2))), (aM 40, .inl (ty 0, 240, .inl (nF p3))), (aM 45, .inl (ty 2, 240, .inl (bF cv)))] sz)) 0 0 (va_A [(hM, .inr (10, mO cd st al ac nf ns gg mg bw md wy sg_ sz_ ks bd aM)), (aM 37, .inl (ty 0, 240, .inl (nF p0))), (aM 38, .inl (ty 0, 240, .inl (nF p1))), (aM 39, .inl (ty 0, 240, .inl (nF p2))), (aM 40, .inl (ty 0, 240, .inl (nF p3))), (aM 45, .inl (ty 2, 240, .inl (bF cv)))] sz) := by
  refine met_wr (y := y_Model_salvage) (maxL := 8) (sz := sz) (G := G) (ty := ty) (mc := 0) (ms := 0) (av := [.ref hM, .int (iI kz), .int (iI wh)]) (W0 := [(hM, .inr (10, mO cd st al ac nf ns gg mg bw md wy sg_ sz_ ks bd aM)), (aM 37, .inl (ty 0, 240, .inl (nF p0))), (aM 38, .inl (ty 0, 240, .inl (nF p1))), (aM 39, .inl (ty 0, 240, .inl (nF p2))), (aM 40, .inl (ty 0, 240, .inl (nF p3))), (aM 45, .inl (ty 2, 240, .inl (bF cv)))]) (fun A => q_Model_salvage G ty hM cd st al ac nf ns gg mg bw md wy sg_ sz_ ks bd aM kz wh p0 p1 p2 p3 cv A) R_Model (by decide) rfl rfl (Nat.le_of_ble_eq_true rfl) ?_
  intro p e s m below meth c ls A hx hb hr hml hown hts hlocks hin hA hP hX hD hS hl
  have hK := hX.1
  have hl : lv_has ls 8 [(0, .ref hM), (1, .int (iI kz)), (2, .int (iI wh))] := hl
  refine lv_aload_n hx hb d_Model_salvage_0 rfl (lv_at hl 0 rfl) ?_
  refine call_wr_i (Wc := [(hM, .inr (10, mO cd st al ac nf ns gg mg bw md wy sg_ sz_ ks bd aM))]) (Wr := [(aM 37, .inl (ty 0, 240, .inl (nF p0))), (aM 38, .inl (ty 0, 240, .inl (nF p1))), (aM 39, .inl (ty 0, 240, .inl (nF p2))), (aM 40, .inl (ty 0, 240, .inl (nF p3))), (aM 45, .inl (ty 2, 240, .inl (bF cv)))]) (va_runV (As := []) (rest := []) ⟨hx, hb, hml, hown, hts⟩ (c_Model_none l G ty _ hM cd st al ac nf ns gg mg bw md wy sg_ sz_ ks bd aM (by omega)) ⟨callB_of 0 hts (gd_TB cd_Model_none) rfl rfl rfl (hts _ ini_Model) (hts _ lk_Model_287) hd_Model_none ⟨Nat.le_of_ble_eq_true rfl, Nat.le_of_ble_eq_true rfl⟩, hts _ im_Model_none, hts _ sl_Model_none⟩ (preV_wr (hP.sub (ws' := [(hM, .inr (10, mO cd st al ac nf ns gg mg bw md wy sg_ sz_ ks bd aM))]) [0] rfl) hX (hD.sub (ws' := [(hM, .inr (10, mO cd st al ac nf ns gg mg bw md wy sg_ sz_ ks bd aM))]) [0] (by decide) rfl) 0 rfl rfl) rfl rfl hl.1 rfl (lv_room (Nat.le_of_ble_eq_true rfl)) d_Model_salvage_1 ⟨Nat.le_of_ble_eq_true rfl, Nat.le_of_ble_eq_true rfl⟩) hP hD hS hA [0] [1, 2, 3, 4, 5] rfl rfl (by decide) (by decide) (fun r2 u9 H locs hw1 hP hD hS => ?_)
  have hw1 : r2 = (nI (1 - md)) := hw1
  have hP : va_P G vwCl [(aM 37, .inl (ty 0, 240, .inl (nF p0))), (aM 38, .inl (ty 0, 240, .inl (nF p1))), (aM 39, .inl (ty 0, 240, .inl (nF p2))), (aM 40, .inl (ty 0, 240, .inl (nF p3))), (aM 45, .inl (ty 2, 240, .inl (bF cv))), (hM, .inr (10, mO (1 - md) st al ac nf ns gg mg bw md wy sg_ sz_ ks bd aM))] _ := hP
  have hD : va_D A [(aM 37, .inl (ty 0, 240, .inl (nF p0))), (aM 38, .inl (ty 0, 240, .inl (nF p1))), (aM 39, .inl (ty 0, 240, .inl (nF p2))), (aM 40, .inl (ty 0, 240, .inl (nF p3))), (aM 45, .inl (ty 2, 240, .inl (bF cv))), (hM, .inr (10, mO (1 - md) st al ac nf ns gg mg bw md wy sg_ sz_ ks bd aM))] := hD
  subst hw1
  refine top_i (show (nI (1 - md)) = (nI 0) from congrArg nI (by omega)) ?_
  refine n_if_eq (tgt := 9) hx hb (by omega) d_Model_salvage_4 (by decide) (fun c4 => ?_) (fun c4 => absurd c4 (by omega))
  refine lv_aload_n hx hb d_Model_salvage_9 rfl (lv_at hl 0 rfl) ?_
  refine call_wr_v (Wc := [(hM, .inr (10, mO (1 - md) st al ac nf ns gg mg bw md wy sg_ sz_ ks bd aM)), (aM 37, .inl (ty 0, 240, .inl (nF p0))), (aM 38, .inl (ty 0, 240, .inl (nF p1))), (aM 39, .inl (ty 0, 240, .inl (nF p2))), (aM 40, .inl (ty 0, 240, .inl (nF p3))), (aM 45, .inl (ty 2, 240, .inl (bF cv)))]) (Wr := []) (va_runV (As := []) (rest := []) ⟨hx, hb, hml, hown, hts⟩ (c_Model_cover l G ty _ hM (1 - md) st al ac nf ns gg mg bw md wy sg_ sz_ ks bd aM p0 p1 p2 p3 cv (by omega) g3) ⟨callB_of 0 hts (gd_TB cd_Model_cover) rfl rfl rfl (hts _ ini_Model) (hts _ lk_Model_293) hd_Model_cover ⟨Nat.le_of_ble_eq_true rfl, Nat.le_of_ble_eq_true rfl⟩, hts _ im_Model_cover, hts _ sl_Model_cover⟩ (preV_wr (hP.sub (ws' := [(hM, .inr (10, mO (1 - md) st al ac nf ns gg mg bw md wy sg_ sz_ ks bd aM)), (aM 37, .inl (ty 0, 240, .inl (nF p0))), (aM 38, .inl (ty 0, 240, .inl (nF p1))), (aM 39, .inl (ty 0, 240, .inl (nF p2))), (aM 40, .inl (ty 0, 240, .inl (nF p3))), (aM 45, .inl (ty 2, 240, .inl (bF cv)))]) [5, 0, 1, 2, 3, 4] rfl) hX (hD.sub (ws' := [(hM, .inr (10, mO (1 - md) st al ac nf ns gg mg bw md wy sg_ sz_ ks bd aM)), (aM 37, .inl (ty 0, 240, .inl (nF p0))), (aM 38, .inl (ty 0, 240, .inl (nF p1))), (aM 39, .inl (ty 0, 240, .inl (nF p2))), (aM 40, .inl (ty 0, 240, .inl (nF p3))), (aM 45, .inl (ty 2, 240, .inl (bF cv)))]) [5, 0, 1, 2, 3, 4] (by decide) rfl) 0 rfl rfl) rfl rfl hl.1 rfl (lv_room (Nat.le_of_ble_eq_true rfl)) d_Model_salvage_10 ⟨Nat.le_of_ble_eq_true rfl, Nat.le_of_ble_eq_true rfl⟩) hP hD hS hA [5, 0, 1, 2, 3, 4] [] rfl rfl (by decide) (by decide) (fun u9 H locs hw4 hP hD hS => ?_)
  obtain ⟨cv1, rfl⟩ : ∃ z, z = u9 := ⟨_, rfl⟩
  have hw4 : ∀ x y, x < 24 → y < 10 → cv1 (24 * y + x) = cvN p0 p1 p2 p3 sz_ x y := hw4
  have hP : va_P G vwCl [(hM, .inr (10, mO (1 - md) st al ac nf ns gg mg bw md wy sg_ sz_ ks bd aM)), (aM 37, .inl (ty 0, 240, .inl (nF p0))), (aM 38, .inl (ty 0, 240, .inl (nF p1))), (aM 39, .inl (ty 0, 240, .inl (nF p2))), (aM 40, .inl (ty 0, 240, .inl (nF p3))), (aM 45, .inl (ty 2, 240, .inl (bF cv1)))] _ := hP
  have hD : va_D A [(hM, .inr (10, mO (1 - md) st al ac nf ns gg mg bw md wy sg_ sz_ ks bd aM)), (aM 37, .inl (ty 0, 240, .inl (nF p0))), (aM 38, .inl (ty 0, 240, .inl (nF p1))), (aM 39, .inl (ty 0, 240, .inl (nF p2))), (aM 40, .inl (ty 0, 240, .inl (nF p3))), (aM 45, .inl (ty 2, 240, .inl (bF cv1)))] := hD
  have hcv := hw4
  have hcq : ∀ x y, x < 24 → y < 10 → cvQ cv1 x y = (cvN p0 p1 p2 p3 sz_) x y := hcv
  have hbq : ∀ x y, x < 24 → y < 10 → bgC (cvQ cv1) x y = bgC (cvN p0 p1 p2 p3 sz_) x y := fun x y h1 h2 => by unfold bgC; rw [hcq x y h1 h2]; cases x with | zero => exact rfl | succ x => exact (by rw [Nat.add_sub_cancel, hcq x y (by omega) h2])
  have hnl := nbA_le (cvN p0 p1 p2 p3 sz_) al ac
  have hac := Nat.mul_le_mul ga gc
  refine lv_iconst (v := (nI 0)) hx hb d_Model_salvage_13 (by decide) ?_
  refine lv_istore_n (lv' := [(3, .int (nI 0)), (0, .ref hM), (1, .int (iI kz)), (2, .int (iI wh))]) hx hb d_Model_salvage_14 rfl hl (by decide) rfl (fun ls hl => ?_)
  refine lv_iconst (v := (nI 0)) hx hb d_Model_salvage_15 (by decide) ?_
  refine lv_istore (lv' := [(4, .int (nI 0)), (3, .int (nI 0)), (0, .ref hM), (1, .int (iI kz)), (2, .int (iI wh))]) hx hb d_Model_salvage_16 hl (by decide) rfl (fun ls hl => ?_)
  refine lv_iconst (v := (nI 0)) hx hb d_Model_salvage_18 (by decide) ?_
  refine lv_istore (lv' := [(5, .int (nI 0)), (4, .int (nI 0)), (3, .int (nI 0)), (0, .ref hM), (1, .int (iI kz)), (2, .int (iI wh))]) hx hb d_Model_salvage_19 hl (by decide) rfl (fun ls hl => ?_)
  refine lv_iconst (v := (nI 0)) hx hb d_Model_salvage_21 (by decide) ?_
  refine lv_istore (lv' := [(6, .int (nI 0)), (5, .int (nI 0)), (4, .int (nI 0)), (3, .int (nI 0)), (0, .ref hM), (1, .int (iI kz)), (2, .int (iI wh))]) hx hb d_Model_salvage_22 hl (by decide) rfl (fun ls hl => ?_)
  have L24 : ∀ (k9 : Nat) (Y : Nat) (rw_ : Nat) (fX : Nat) (fY : Nat) (H : Heap) (locs : List Loc) (ls : Array Slot), (Y ≤ ac) → (rw_ = nbA (cvN p0 p1 p2 p3 sz_) al Y) → ((kz : Int) < (rw_ : Int) → 0 ≤ kz → fdC (cvN p0 p1 p2 p3 sz_) al ac kz.toNat fX fY) → (fX ≤ al ∧ fY ≤ ac) → ac - Y < k9 → va_P G vwCl [(hM, .inr (10, mO (1 - md) st al ac nf ns gg mg bw md wy sg_ sz_ ks bd aM)), (aM 37, .inl (ty 0, 240, .inl (nF p0))), (aM 38, .inl (ty 0, 240, .inl (nF p1))), (aM 39, .inl (ty 0, 240, .inl (nF p2))), (aM 40, .inl (ty 0, 240, .inl (nF p3))), (aM 45, .inl (ty 2, 240, .inl (bF cv1)))] H → va_D A [(hM, .inr (10, mO (1 - md) st al ac nf ns gg mg bw md wy sg_ sz_ ks bd aM)), (aM 37, .inl (ty 0, 240, .inl (nF p0))), (aM 38, .inl (ty 0, 240, .inl (nF p1))), (aM 39, .inl (ty 0, 240, .inl (nF p2))), (aM 40, .inl (ty 0, 240, .inl (nF p3))), (aM 45, .inl (ty 2, 240, .inl (bF cv1)))] → va_S A s.heap H locs → lv_has ls 8 [(0, .ref hM), (1, .int (iI kz)), (2, .int (iI wh)), (3, .int (nI rw_)), (4, .int (nI fX)), (5, .int (nI fY)), (6, .int (nI Y))] → W p l e { frames := 1, cells := 0, slots := 0, locals := 25 } s m [.ref hM, .int (iI kz), .int (iI wh)].toArray below meth c H locs 0 0 (MQ below (q_Model_salvage G ty hM cd st al ac nf ns gg mg bw md wy sg_ sz_ ks bd aM kz wh p0 p1 p2 p3 cv A) [.ref hM, .int (iI kz), .int (iI wh)].toArray s 0 0 A) (F0 m 24 ls []) := by
    intro k9
    induction k9 with
    | zero => intro Y rw_ fX fY H locs ls hY hr1 hf1 hfb hk9; exact absurd hk9 (Nat.not_lt_zero _)
    | succ k9 ih24 =>
      intro Y rw_ fX fY H locs ls hY hr1 hf1 hfb hk9 hP hD hS hl
      refine lv_iload hx hb d_Model_salvage_24 (lv_at hl 6 rfl) ?_
      refine lv_aload_n hx hb d_Model_salvage_26 rfl (lv_at hl 0 rfl) ?_
      refine va_get (D := G) (ci := 10) (v := .int (nI ac)) (C := R_Model) (T := F_Model) (N := 47) hx hb hts in_Model hown hK hP 0 rfl rfl 3 (by decide) (hts _ fl_Model_128) (fun _ h9 => h9) rfl d_Model_salvage_27 ?_
      refine n_icmp_ge (tgt := 99) hx hb (by omega) (by omega) d_Model_salvage_30 (by decide) (fun c30 => ?_) (fun c30 => ?_)
      · have hYe : Y = ac := by omega
        rw [hYe] at hr1
        obtain ⟨NT, eNT⟩ : ∃ NT, NT = nbA (cvN p0 p1 p2 p3 sz_) al ac := ⟨_, rfl⟩
        rw [← eNT] at hr1 hnl
        have hrN : rw_ = NT := hr1
        refine lv_aload_n hx hb d_Model_salvage_99 rfl (lv_at hl 0 rfl) ?_
        refine lv_iload_n hx hb d_Model_salvage_100 rfl (lv_at hl 1 rfl) ?_
        refine lv_iconst (v := (iI (-1))) hx hb d_Model_salvage_101 (by decide) ?_
        refine z_icmp_lt (tgt := 110) hx hb (by omega) (by omega) d_Model_salvage_102 (by decide) (fun c102 => ?_) (fun c102 => ?_)
        · refine lv_iconst (v := (nI 2)) hx hb d_Model_salvage_110 (by decide) ?_
          refine lv_goto (tgt := 131) hx hb d_Model_salvage_111 (by decide) ?_
          refine va_put (D := G) (ci := 10) (v := .int (nI 2)) (ty := .int) (C := R_Model) (T := F_Model) (N := 47) hx hb hts in_Model t_Model t_Model_ok n_Model hown hK hP hD hS 0 rfl rfl 0 (by decide) (hts _ fl_Model_132) (fun _ h9 => h9) rfl (by decide +kernel) rfl rfl (Nat.le_of_ble_eq_true rfl) d_Model_salvage_131 (fun H locs hP hD hS => ?_)
          have hP : va_P G vwCl [(hM, .inr (10, mO 2 st al ac nf ns gg mg bw md wy sg_ sz_ ks bd aM)), (aM 37, .inl (ty 0, 240, .inl (nF p0))), (aM 38, .inl (ty 0, 240, .inl (nF p1))), (aM 39, .inl (ty 0, 240, .inl (nF p2))), (aM 40, .inl (ty 0, 240, .inl (nF p3))), (aM 45, .inl (ty 2, 240, .inl (bF cv1)))] _ := hP
          have hD : va_D A [(hM, .inr (10, mO 2 st al ac nf ns gg mg bw md wy sg_ sz_ ks bd aM)), (aM 37, .inl (ty 0, 240, .inl (nF p0))), (aM 38, .inl (ty 0, 240, .inl (nF p1))), (aM 39, .inl (ty 0, 240, .inl (nF p2))), (aM 40, .inl (ty 0, 240, .inl (nF p3))), (aM 45, .inl (ty 2, 240, .inl (bF cv1)))] := hD
          refine lv_aload_n hx hb d_Model_salvage_134 rfl (lv_at hl 0 rfl) ?_
          refine va_get (D := G) (ci := 10) (v := .int (nI 2)) (C := R_Model) (T := F_Model) (N := 47) hx hb hts in_Model hown hK hP 0 rfl rfl 0 (by decide) (hts _ fl_Model_132) (fun _ h9 => h9) rfl d_Model_salvage_135 ?_
          refine n_if_gt (tgt := 146) hx hb (by omega) d_Model_salvage_138 (by decide) (fun c138 => ?_) (fun c138 => absurd c138 (by omega))
          refine lv_aload_n hx hb d_Model_salvage_146 rfl (lv_at hl 0 rfl) ?_
          refine va_get (D := G) (ci := 10) (v := .int (nI 2)) (C := R_Model) (T := F_Model) (N := 47) hx hb hts in_Model hown hK hP 0 rfl rfl 0 (by decide) (hts _ fl_Model_132) (fun _ h9 => h9) rfl d_Model_salvage_147 ?_
          refine n_if_le (tgt := 157) hx hb (by omega) d_Model_salvage_150 (by decide) (fun c150 => absurd c150 (by omega)) (fun c150 => ?_)
          refine lv_iconst (v := (nI 0)) hx hb d_Model_salvage_153 (by decide) ?_
          refine lv_goto (tgt := 158) hx hb d_Model_salvage_154 (by decide) ?_
          exact W.iret (v := (nI 0)) hx hb hr (fun t9 ht hW => ⟨⟨_, (((0 : Nat) : Int), 2, fX, fY, 0, cv1), rfl, ⟨nI_iI _, by rw [← eNT]; first | exact ⟨fun _ => ⟨rfl, rfl⟩, fun h => absurd h (by omega)⟩ | exact ⟨fun h => absurd h (by omega), fun _ => ⟨fun _ => ⟨rfl, rfl⟩, fun h => absurd h (by omega)⟩⟩ | exact ⟨fun h => absurd h (by omega), fun _ => ⟨fun h => absurd h (by omega), fun _ => ⟨rfl, fun _ => by omega, fun h => absurd h (by omega)⟩⟩⟩⟩, by rw [ht]; exact hP, hD⟩, hS.F ht⟩) hS.2.2 d_Model_salvage_158
        · refine lv_iload_n hx hb d_Model_salvage_105 rfl (lv_at hl 1 rfl) ?_
          refine lv_iload_n hx hb d_Model_salvage_106 rfl (lv_at hl 3 rfl) ?_
          refine zn_icmp_lt (tgt := 114) hx hb (by omega) (by omega) d_Model_salvage_107 (by decide) (fun c107 => ?_) (fun c107 => ?_)
          · refine lv_iload_n hx hb d_Model_salvage_114 rfl (lv_at hl 2 rfl) ?_
            refine z_i2l hx hb (by omega) d_Model_salvage_115 ?_
            refine lv_lconst (v := iL 0) hx hb d_Model_salvage_116 (by decide) ?_
            refine lv_ldc2 (v := (iL 2)) hx hb hown (hts _ kc_Model_299) d_Model_salvage_117 ?_
            refine vp_callSi (W.runS (As := [.long (iL wh), .long (iL 0), .long (iL 2)]) (rest := [.ref hM]) ⟨hx, hb, hml, hown, hts⟩ (c_Model_isIn l G ty wh 0 2 (by omega) (by omega) (by omega)) ⟨callB_of 3 hts (gd_TB cd_Model_isIn) rfl rfl rfl (hts _ ini_Model) (hts _ lk_Model_141) hd_Model_isIn ⟨Nat.le_of_ble_eq_true rfl, Nat.le_of_ble_eq_true rfl⟩, hts _ st_Model_isIn⟩ (preS_ro (hP.sub (ws' := []) [] rfl) hX) rfl rfl hl.1 rfl (lv_room (Nat.le_of_ble_eq_true rfl)) d_Model_salvage_120 ⟨Nat.le_of_ble_eq_true rfl, Nat.le_of_ble_eq_true rfl⟩) (fun r9 er9 => ?_)
            subst er9
            refine n_if_eq (tgt := 130) hx hb (tN_lt _) d_Model_salvage_123 (by decide) (fun c123 => ?_) (fun c123 => ?_)
            · have d123 := of_decide_eq_false (tN_0 c123)
              refine lv_iconst (v := (nI 3)) hx hb d_Model_salvage_130 (by decide) ?_
              refine va_put (D := G) (ci := 10) (v := .int (nI 3)) (ty := .int) (C := R_Model) (T := F_Model) (N := 47) hx hb hts in_Model t_Model t_Model_ok n_Model hown hK hP hD hS 0 rfl rfl 0 (by decide) (hts _ fl_Model_132) (fun _ h9 => h9) rfl (by decide +kernel) rfl rfl (Nat.le_of_ble_eq_true rfl) d_Model_salvage_131 (fun H locs hP hD hS => ?_)
              have hP : va_P G vwCl [(hM, .inr (10, mO 3 st al ac nf ns gg mg bw md wy sg_ sz_ ks bd aM)), (aM 37, .inl (ty 0, 240, .inl (nF p0))), (aM 38, .inl (ty 0, 240, .inl (nF p1))), (aM 39, .inl (ty 0, 240, .inl (nF p2))), (aM 40, .inl (ty 0, 240, .inl (nF p3))), (aM 45, .inl (ty 2, 240, .inl (bF cv1)))] _ := hP
              have hD : va_D A [(hM, .inr (10, mO 3 st al ac nf ns gg mg bw md wy sg_ sz_ ks bd aM)), (aM 37, .inl (ty 0, 240, .inl (nF p0))), (aM 38, .inl (ty 0, 240, .inl (nF p1))), (aM 39, .inl (ty 0, 240, .inl (nF p2))), (aM 40, .inl (ty 0, 240, .inl (nF p3))), (aM 45, .inl (ty 2, 240, .inl (bF cv1)))] := hD
              refine lv_aload_n hx hb d_Model_salvage_134 rfl (lv_at hl 0 rfl) ?_
              refine va_get (D := G) (ci := 10) (v := .int (nI 3)) (C := R_Model) (T := F_Model) (N := 47) hx hb hts in_Model hown hK hP 0 rfl rfl 0 (by decide) (hts _ fl_Model_132) (fun _ h9 => h9) rfl d_Model_salvage_135 ?_
              refine n_if_gt (tgt := 146) hx hb (by omega) d_Model_salvage_138 (by decide) (fun c138 => ?_) (fun c138 => absurd c138 (by omega))
              refine lv_aload_n hx hb d_Model_salvage_146 rfl (lv_at hl 0 rfl) ?_
              refine va_get (D := G) (ci := 10) (v := .int (nI 3)) (C := R_Model) (T := F_Model) (N := 47) hx hb hts in_Model hown hK hP 0 rfl rfl 0 (by decide) (hts _ fl_Model_132) (fun _ h9 => h9) rfl d_Model_salvage_147 ?_
              refine n_if_le (tgt := 157) hx hb (by omega) d_Model_salvage_150 (by decide) (fun c150 => absurd c150 (by omega)) (fun c150 => ?_)
              refine lv_iconst (v := (nI 0)) hx hb d_Model_salvage_153 (by decide) ?_
              refine lv_goto (tgt := 158) hx hb d_Model_salvage_154 (by decide) ?_
              exact W.iret (v := (nI 0)) hx hb hr (fun t9 ht hW => ⟨⟨_, (((0 : Nat) : Int), 3, fX, fY, 0, cv1), rfl, ⟨nI_iI _, by rw [← eNT]; first | exact ⟨fun _ => ⟨rfl, rfl⟩, fun h => absurd h (by omega)⟩ | exact ⟨fun h => absurd h (by omega), fun _ => ⟨fun _ => ⟨rfl, rfl⟩, fun h => absurd h (by omega)⟩⟩ | exact ⟨fun h => absurd h (by omega), fun _ => ⟨fun h => absurd h (by omega), fun _ => ⟨rfl, fun _ => by omega, fun h => absurd h (by omega)⟩⟩⟩⟩, by rw [ht]; exact hP, hD⟩, hS.F ht⟩) hS.2.2 d_Model_salvage_158
            · have d123 := of_decide_eq_true (tN_1 c123)
              refine lv_iconst (v := (nI 0)) hx hb d_Model_salvage_126 (by decide) ?_
              refine lv_goto (tgt := 131) hx hb d_Model_salvage_127 (by decide) ?_
              refine va_put (D := G) (ci := 10) (v := .int (nI 0)) (ty := .int) (C := R_Model) (T := F_Model) (N := 47) hx hb hts in_Model t_Model t_Model_ok n_Model hown hK hP hD hS 0 rfl rfl 0 (by decide) (hts _ fl_Model_132) (fun _ h9 => h9) rfl (by decide +kernel) rfl rfl (Nat.le_of_ble_eq_true rfl) d_Model_salvage_131 (fun H locs hP hD hS => ?_)
              have hP : va_P G vwCl [(hM, .inr (10, mO 0 st al ac nf ns gg mg bw md wy sg_ sz_ ks bd aM)), (aM 37, .inl (ty 0, 240, .inl (nF p0))), (aM 38, .inl (ty 0, 240, .inl (nF p1))), (aM 39, .inl (ty 0, 240, .inl (nF p2))), (aM 40, .inl (ty 0, 240, .inl (nF p3))), (aM 45, .inl (ty 2, 240, .inl (bF cv1)))] _ := hP
              have hD : va_D A [(hM, .inr (10, mO 0 st al ac nf ns gg mg bw md wy sg_ sz_ ks bd aM)), (aM 37, .inl (ty 0, 240, .inl (nF p0))), (aM 38, .inl (ty 0, 240, .inl (nF p1))), (aM 39, .inl (ty 0, 240, .inl (nF p2))), (aM 40, .inl (ty 0, 240, .inl (nF p3))), (aM 45, .inl (ty 2, 240, .inl (bF cv1)))] := hD
              refine lv_aload_n hx hb d_Model_salvage_134 rfl (lv_at hl 0 rfl) ?_
              refine va_get (D := G) (ci := 10) (v := .int (nI 0)) (C := R_Model) (T := F_Model) (N := 47) hx hb hts in_Model hown hK hP 0 rfl rfl 0 (by decide) (hts _ fl_Model_132) (fun _ h9 => h9) rfl d_Model_salvage_135 ?_
              refine n_if_gt (tgt := 146) hx hb (by omega) d_Model_salvage_138 (by decide) (fun c138 => absurd c138 (by omega)) (fun c138 => ?_)
              refine lv_iload_n hx hb d_Model_salvage_141 rfl (lv_at hl 1 rfl) ?_
              refine lv_iconst (v := (iI (-1))) hx hb d_Model_salvage_142 (by decide) ?_
              refine z_icmp_ne (tgt := 159) hx hb (by omega) (by omega) d_Model_salvage_143 (by decide) (fun c143 => ?_) (fun c143 => ?_)
              · have hfd := hf1 (by omega) (by omega)
                have hfa := hfd.1
                have hfc := hfd.2.1
                refine lv_iload hx hb d_Model_salvage_159 (lv_at hl 4 rfl) ?_
                refine lv_istore (lv' := [(6, .int (nI fX)), (0, .ref hM), (1, .int (iI kz)), (2, .int (iI wh)), (3, .int (nI rw_)), (4, .int (nI fX)), (5, .int (nI fY))]) hx hb d_Model_salvage_161 hl (by decide) rfl (fun ls hl => ?_)
                have L163 : ∀ (k9 : Nat) (E_ : Nat) (H : Heap) (locs : List Loc) (ls : Array Slot), (fX ≤ E_ ∧ E_ ≤ al) → (∀ i, fX ≤ i → i < E_ → (cvN p0 p1 p2 p3 sz_) i fY = false) → al - E_ < k9 → va_P G vwCl [(hM, .inr (10, mO 0 st al ac nf ns gg mg bw md wy sg_ sz_ ks bd aM)), (aM 37, .inl (ty 0, 240, .inl (nF p0))), (aM 38, .inl (ty 0, 240, .inl (nF p1))), (aM 39, .inl (ty 0, 240, .inl (nF p2))), (aM 40, .inl (ty 0, 240, .inl (nF p3))), (aM 45, .inl (ty 2, 240, .inl (bF cv1)))] H → va_D A [(hM, .inr (10, mO 0 st al ac nf ns gg mg bw md wy sg_ sz_ ks bd aM)), (aM 37, .inl (ty 0, 240, .inl (nF p0))), (aM 38, .inl (ty 0, 240, .inl (nF p1))), (aM 39, .inl (ty 0, 240, .inl (nF p2))), (aM 40, .inl (ty 0, 240, .inl (nF p3))), (aM 45, .inl (ty 2, 240, .inl (bF cv1)))] → va_S A s.heap H locs → lv_has ls 8 [(0, .ref hM), (1, .int (iI kz)), (2, .int (iI wh)), (3, .int (nI rw_)), (4, .int (nI fX)), (5, .int (nI fY)), (6, .int (nI E_))] → W p l e { frames := 1, cells := 0, slots := 0, locals := 25 } s m [.ref hM, .int (iI kz), .int (iI wh)].toArray below meth c H locs 0 0 (MQ below (q_Model_salvage G ty hM cd st al ac nf ns gg mg bw md wy sg_ sz_ ks bd aM kz wh p0 p1 p2 p3 cv A) [.ref hM, .int (iI kz), .int (iI wh)].toArray s 0 0 A) (F0 m 163 ls []) := by
                  intro k9
                  induction k9 with
                  | zero => intro E_ H locs ls hE1 hE2 hk9; exact absurd hk9 (Nat.not_lt_zero _)
                  | succ k9 ih163 =>
                    intro E_ H locs ls hE1 hE2 hk9 hP hD hS hl
                    refine lv_iload hx hb d_Model_salvage_163 (lv_at hl 6 rfl) ?_
                    refine lv_aload_n hx hb d_Model_salvage_165 rfl (lv_at hl 0 rfl) ?_
                    refine va_get (D := G) (ci := 10) (v := .int (nI al)) (C := R_Model) (T := F_Model) (N := 47) hx hb hts in_Model hown hK hP 0 rfl rfl 2 (by decide) (hts _ fl_Model_125) (fun _ h9 => h9) rfl d_Model_salvage_166 ?_
                    refine n_icmp_ge (tgt := 194) hx hb (by omega) (by omega) d_Model_salvage_169 (by decide) (fun c169 => ?_) (fun c169 => ?_)
                    · have hed : edC (cvN p0 p1 p2 p3 sz_) al fY fX E_ := ⟨hE1.1, hE1.2, hE2, by first | exact Or.inl (by omega) | exact Or.inr (by rw [← hcq E_ fY (by omega) (by omega)]; exact tN_1 c185)⟩
                      refine lv_iload_n hx hb d_Model_salvage_194 rfl (lv_at hl 2 rfl) ?_
                      refine z_if_ne (tgt := 203) hx hb (by omega) d_Model_salvage_195 (by decide) (fun c195 => ?_) (fun c195 => ?_)
                      · refine lv_iload_n hx hb d_Model_salvage_203 rfl (lv_at hl 2 rfl) ?_
                        refine lv_iconst (v := (nI 1)) hx hb d_Model_salvage_204 (by decide) ?_
                        refine zn_icmp_ne (tgt := 213) hx hb (by omega) (by omega) d_Model_salvage_205 (by decide) (fun c205 => ?_) (fun c205 => ?_)
                        · refine lv_iload hx hb d_Model_salvage_213 (lv_at hl 6 rfl) ?_
                          refine lv_iload hx hb d_Model_salvage_215 (lv_at hl 4 rfl) ?_
                          refine n_isub hx hb (by omega) d_Model_salvage_217 ?_
                          exact W.iret (v := (nI (E_ - fX))) hx hb hr (fun t9 ht hW => ⟨⟨_, (((E_ - fX : Nat) : Int), 0, fX, fY, E_, cv1), rfl, ⟨nI_iI _, by rw [← eNT]; exact ⟨fun h => absurd h (by omega), fun _ => ⟨fun h => absurd h (by omega), fun _ => ⟨rfl, fun h => absurd h (by omega), fun _ => ⟨hfd, hed, by first | exact ⟨fun _ => rfl, fun h => absurd h (by omega), fun h => absurd h (by omega)⟩ | exact ⟨fun h => absurd h (by omega), fun _ => rfl, fun h => absurd h (by omega)⟩ | exact ⟨fun h => absurd h (by omega), fun h => absurd h (by omega), fun _ => rfl⟩⟩⟩⟩⟩⟩, by rw [ht]; exact hP, hD⟩, hS.F ht⟩) hS.2.2 d_Model_salvage_218
                        · refine lv_iload hx hb d_Model_salvage_208 (lv_at hl 5 rfl) ?_
                          refine lv_goto (tgt := 218) hx hb d_Model_salvage_210 (by decide) ?_
                          exact W.iret (v := (nI fY)) hx hb hr (fun t9 ht hW => ⟨⟨_, (((fY : Nat) : Int), 0, fX, fY, E_, cv1), rfl, ⟨nI_iI _, by rw [← eNT]; exact ⟨fun h => absurd h (by omega), fun _ => ⟨fun h => absurd h (by omega), fun _ => ⟨rfl, fun h => absurd h (by omega), fun _ => ⟨hfd, hed, by first | exact ⟨fun _ => rfl, fun h => absurd h (by omega), fun h => absurd h (by omega)⟩ | exact ⟨fun h => absurd h (by omega), fun _ => rfl, fun h => absurd h (by omega)⟩ | exact ⟨fun h => absurd h (by omega), fun h => absurd h (by omega), fun _ => rfl⟩⟩⟩⟩⟩⟩, by rw [ht]; exact hP, hD⟩, hS.F ht⟩) hS.2.2 d_Model_salvage_218
                      · refine lv_iload hx hb d_Model_salvage_198 (lv_at hl 4 rfl) ?_
                        refine lv_goto (tgt := 218) hx hb d_Model_salvage_200 (by decide) ?_
                        exact W.iret (v := (nI fX)) hx hb hr (fun t9 ht hW => ⟨⟨_, (((fX : Nat) : Int), 0, fX, fY, E_, cv1), rfl, ⟨nI_iI _, by rw [← eNT]; exact ⟨fun h => absurd h (by omega), fun _ => ⟨fun h => absurd h (by omega), fun _ => ⟨rfl, fun h => absurd h (by omega), fun _ => ⟨hfd, hed, by first | exact ⟨fun _ => rfl, fun h => absurd h (by omega), fun h => absurd h (by omega)⟩ | exact ⟨fun h => absurd h (by omega), fun _ => rfl, fun h => absurd h (by omega)⟩ | exact ⟨fun h => absurd h (by omega), fun h => absurd h (by omega), fun _ => rfl⟩⟩⟩⟩⟩⟩, by rw [ht]; exact hP, hD⟩, hS.F ht⟩) hS.2.2 d_Model_salvage_218
                    · refine lv_aload_n hx hb d_Model_salvage_172 rfl (lv_at hl 0 rfl) ?_
                      refine va_get (D := G) (ci := 10) (v := .ref (aM 45)) (C := R_Model) (T := F_Model) (N := 47) hx hb hts in_Model hown hK hP 0 rfl rfl 45 (by decide) (hts _ fl_Model_112) (fun _ h9 => h9) rfl d_Model_salvage_173 ?_
                      refine lv_bipush (v := (nI 24)) hx hb d_Model_salvage_176 (by decide) ?_
                      refine lv_iload hx hb d_Model_salvage_178 (lv_at hl 5 rfl) ?_
                      refine n_imul hx hb d_Model_salvage_180 ?_
                      refine lv_iload hx hb d_Model_salvage_181 (lv_at hl 6 rfl) ?_
                      refine n_iadd hx hb d_Model_salvage_183 ?_
                      refine n_zald hx hb hK hP 5 2 rfl rfl (by omega) (by omega) d_Model_salvage_184 ?_
                      refine n_if_ne (tgt := 194) hx hb (tN_lt _) d_Model_salvage_185 (by decide) (fun c185 => ?_) (fun c185 => ?_)
                      · have hed : edC (cvN p0 p1 p2 p3 sz_) al fY fX E_ := ⟨hE1.1, hE1.2, hE2, by first | exact Or.inl (by omega) | exact Or.inr (by rw [← hcq E_ fY (by omega) (by omega)]; exact tN_1 c185)⟩
                        refine lv_iload_n hx hb d_Model_salvage_194 rfl (lv_at hl 2 rfl) ?_
                        refine z_if_ne (tgt := 203) hx hb (by omega) d_Model_salvage_195 (by decide) (fun c195 => ?_) (fun c195 => ?_)
                        · refine lv_iload_n hx hb d_Model_salvage_203 rfl (lv_at hl 2 rfl) ?_
                          refine lv_iconst (v := (nI 1)) hx hb d_Model_salvage_204 (by decide) ?_
                          refine zn_icmp_ne (tgt := 213) hx hb (by omega) (by omega) d_Model_salvage_205 (by decide) (fun c205 => ?_) (fun c205 => ?_)
                          · refine lv_iload hx hb d_Model_salvage_213 (lv_at hl 6 rfl) ?_
                            refine lv_iload hx hb d_Model_salvage_215 (lv_at hl 4 rfl) ?_
                            refine n_isub hx hb (by omega) d_Model_salvage_217 ?_
                            exact W.iret (v := (nI (E_ - fX))) hx hb hr (fun t9 ht hW => ⟨⟨_, (((E_ - fX : Nat) : Int), 0, fX, fY, E_, cv1), rfl, ⟨nI_iI _, by rw [← eNT]; exact ⟨fun h => absurd h (by omega), fun _ => ⟨fun h => absurd h (by omega), fun _ => ⟨rfl, fun h => absurd h (by omega), fun _ => ⟨hfd, hed, by first | exact ⟨fun _ => rfl, fun h => absurd h (by omega), fun h => absurd h (by omega)⟩ | exact ⟨fun h => absurd h (by omega), fun _ => rfl, fun h => absurd h (by omega)⟩ | exact ⟨fun h => absurd h (by omega), fun h => absurd h (by omega), fun _ => rfl⟩⟩⟩⟩⟩⟩, by rw [ht]; exact hP, hD⟩, hS.F ht⟩) hS.2.2 d_Model_salvage_218
                          · refine lv_iload hx hb d_Model_salvage_208 (lv_at hl 5 rfl) ?_
                            refine lv_goto (tgt := 218) hx hb d_Model_salvage_210 (by decide) ?_
                            exact W.iret (v := (nI fY)) hx hb hr (fun t9 ht hW => ⟨⟨_, (((fY : Nat) : Int), 0, fX, fY, E_, cv1), rfl, ⟨nI_iI _, by rw [← eNT]; exact ⟨fun h => absurd h (by omega), fun _ => ⟨fun h => absurd h (by omega), fun _ => ⟨rfl, fun h => absurd h (by omega), fun _ => ⟨hfd, hed, by first | exact ⟨fun _ => rfl, fun h => absurd h (by omega), fun h => absurd h (by omega)⟩ | exact ⟨fun h => absurd h (by omega), fun _ => rfl, fun h => absurd h (by omega)⟩ | exact ⟨fun h => absurd h (by omega), fun h => absurd h (by omega), fun _ => rfl⟩⟩⟩⟩⟩⟩, by rw [ht]; exact hP, hD⟩, hS.F ht⟩) hS.2.2 d_Model_salvage_218
                        · refine lv_iload hx hb d_Model_salvage_198 (lv_at hl 4 rfl) ?_
                          refine lv_goto (tgt := 218) hx hb d_Model_salvage_200 (by decide) ?_
                          exact W.iret (v := (nI fX)) hx hb hr (fun t9 ht hW => ⟨⟨_, (((fX : Nat) : Int), 0, fX, fY, E_, cv1), rfl, ⟨nI_iI _, by rw [← eNT]; exact ⟨fun h => absurd h (by omega), fun _ => ⟨fun h => absurd h (by omega), fun _ => ⟨rfl, fun h => absurd h (by omega), fun _ => ⟨hfd, hed, by first | exact ⟨fun _ => rfl, fun h => absurd h (by omega), fun h => absurd h (by omega)⟩ | exact ⟨fun h => absurd h (by omega), fun _ => rfl, fun h => absurd h (by omega)⟩ | exact ⟨fun h => absurd h (by omega), fun h => absurd h (by omega), fun _ => rfl⟩⟩⟩⟩⟩⟩, by rw [ht]; exact hP, hD⟩, hS.F ht⟩) hS.2.2 d_Model_salvage_218
                      · refine lv_iinc (v := (nI (E_ + 1))) (lv' := [(6, .int (nI (E_ + 1))), (0, .ref hM), (1, .int (iI kz)), (2, .int (iI wh)), (3, .int (nI rw_)), (4, .int (nI fX)), (5, .int (nI fY))]) hx hb d_Model_salvage_188 hl (k := 6) rfl (nI_inc _ _ _ (by omega)) (by decide) rfl (fun ls hl => ?_)
                        refine lv_goto (tgt := 163) hx hb d_Model_salvage_191 (by decide) ?_
                        exact ih163 (E_ + 1) _ _ _ (by omega) (fun i h1 h2 => (Nat.lt_or_ge i E_).elim (hE2 i h1) (fun q => by rw [show i = E_ by omega, ← hcq E_ fY (by omega) (by omega)]; exact tN_0 c185)) (by omega) hP hD hS (lv_sub hl [1, 2, 3, 4, 5, 6, 0] rfl)
                exact L163 (al - fX + 1) fX _ _ _ (by omega) (fun i h1 h2 => absurd h2 (by omega)) (Nat.lt_succ_self _) hP hD hS (lv_sub hl [1, 2, 3, 4, 5, 6, 0] rfl)
              · refine lv_aload_n hx hb d_Model_salvage_146 rfl (lv_at hl 0 rfl) ?_
                refine va_get (D := G) (ci := 10) (v := .int (nI 0)) (C := R_Model) (T := F_Model) (N := 47) hx hb hts in_Model hown hK hP 0 rfl rfl 0 (by decide) (hts _ fl_Model_132) (fun _ h9 => h9) rfl d_Model_salvage_147 ?_
                refine n_if_le (tgt := 157) hx hb (by omega) d_Model_salvage_150 (by decide) (fun c150 => ?_) (fun c150 => absurd c150 (by omega))
                refine lv_iload_n hx hb d_Model_salvage_157 rfl (lv_at hl 3 rfl) ?_
                exact W.iret (v := (nI rw_)) hx hb hr (fun t9 ht hW => ⟨⟨_, (((rw_ : Nat) : Int), 0, fX, fY, 0, cv1), rfl, ⟨nI_iI _, by rw [← eNT]; first | exact ⟨fun _ => ⟨rfl, rfl⟩, fun h => absurd h (by omega)⟩ | exact ⟨fun h => absurd h (by omega), fun _ => ⟨fun _ => ⟨rfl, rfl⟩, fun h => absurd h (by omega)⟩⟩ | exact ⟨fun h => absurd h (by omega), fun _ => ⟨fun h => absurd h (by omega), fun _ => ⟨rfl, fun _ => by omega, fun h => absurd h (by omega)⟩⟩⟩⟩, by rw [ht]; exact hP, hD⟩, hS.F ht⟩) hS.2.2 d_Model_salvage_158
          · refine lv_iconst (v := (nI 2)) hx hb d_Model_salvage_110 (by decide) ?_
            refine lv_goto (tgt := 131) hx hb d_Model_salvage_111 (by decide) ?_
            refine va_put (D := G) (ci := 10) (v := .int (nI 2)) (ty := .int) (C := R_Model) (T := F_Model) (N := 47) hx hb hts in_Model t_Model t_Model_ok n_Model hown hK hP hD hS 0 rfl rfl 0 (by decide) (hts _ fl_Model_132) (fun _ h9 => h9) rfl (by decide +kernel) rfl rfl (Nat.le_of_ble_eq_true rfl) d_Model_salvage_131 (fun H locs hP hD hS => ?_)
            have hP : va_P G vwCl [(hM, .inr (10, mO 2 st al ac nf ns gg mg bw md wy sg_ sz_ ks bd aM)), (aM 37, .inl (ty 0, 240, .inl (nF p0))), (aM 38, .inl (ty 0, 240, .inl (nF p1))), (aM 39, .inl (ty 0, 240, .inl (nF p2))), (aM 40, .inl (ty 0, 240, .inl (nF p3))), (aM 45, .inl (ty 2, 240, .inl (bF cv1)))] _ := hP
            have hD : va_D A [(hM, .inr (10, mO 2 st al ac nf ns gg mg bw md wy sg_ sz_ ks bd aM)), (aM 37, .inl (ty 0, 240, .inl (nF p0))), (aM 38, .inl (ty 0, 240, .inl (nF p1))), (aM 39, .inl (ty 0, 240, .inl (nF p2))), (aM 40, .inl (ty 0, 240, .inl (nF p3))), (aM 45, .inl (ty 2, 240, .inl (bF cv1)))] := hD
            refine lv_aload_n hx hb d_Model_salvage_134 rfl (lv_at hl 0 rfl) ?_
            refine va_get (D := G) (ci := 10) (v := .int (nI 2)) (C := R_Model) (T := F_Model) (N := 47) hx hb hts in_Model hown hK hP 0 rfl rfl 0 (by decide) (hts _ fl_Model_132) (fun _ h9 => h9) rfl d_Model_salvage_135 ?_
            refine n_if_gt (tgt := 146) hx hb (by omega) d_Model_salvage_138 (by decide) (fun c138 => ?_) (fun c138 => absurd c138 (by omega))
            refine lv_aload_n hx hb d_Model_salvage_146 rfl (lv_at hl 0 rfl) ?_
            refine va_get (D := G) (ci := 10) (v := .int (nI 2)) (C := R_Model) (T := F_Model) (N := 47) hx hb hts in_Model hown hK hP 0 rfl rfl 0 (by decide) (hts _ fl_Model_132) (fun _ h9 => h9) rfl d_Model_salvage_147 ?_
            refine n_if_le (tgt := 157) hx hb (by omega) d_Model_salvage_150 (by decide) (fun c150 => absurd c150 (by omega)) (fun c150 => ?_)
            refine lv_iconst (v := (nI 0)) hx hb d_Model_salvage_153 (by decide) ?_
            refine lv_goto (tgt := 158) hx hb d_Model_salvage_154 (by decide) ?_
            exact W.iret (v := (nI 0)) hx hb hr (fun t9 ht hW => ⟨⟨_, (((0 : Nat) : Int), 2, fX, fY, 0, cv1), rfl, ⟨nI_iI _, by rw [← eNT]; first | exact ⟨fun _ => ⟨rfl, rfl⟩, fun h => absurd h (by omega)⟩ | exact ⟨fun h => absurd h (by omega), fun _ => ⟨fun _ => ⟨rfl, rfl⟩, fun h => absurd h (by omega)⟩⟩ | exact ⟨fun h => absurd h (by omega), fun _ => ⟨fun h => absurd h (by omega), fun _ => ⟨rfl, fun _ => by omega, fun h => absurd h (by omega)⟩⟩⟩⟩, by rw [ht]; exact hP, hD⟩, hS.F ht⟩) hS.2.2 d_Model_salvage_158
      · refine lv_iconst (v := (nI 0)) hx hb d_Model_salvage_33 (by decide) ?_
        refine lv_istore (lv' := [(7, .int (nI 0)), (0, .ref hM), (1, .int (iI kz)), (2, .int (iI wh)), (3, .int (nI rw_)), (4, .int (nI fX)), (5, .int (nI fY)), (6, .int (nI Y))]) hx hb d_Model_salvage_34 hl (by decide) rfl (fun ls hl => ?_)
        have L36 : ∀ (k9 : Nat) (X : Nat) (rw_ : Nat) (fX : Nat) (fY : Nat) (H : Heap) (locs : List Loc) (ls : Array Slot), (X ≤ al) → (rw_ = nbA (cvN p0 p1 p2 p3 sz_) al Y + nbR (cvN p0 p1 p2 p3 sz_) Y X) → ((kz : Int) < (rw_ : Int) → 0 ≤ kz → fdC (cvN p0 p1 p2 p3 sz_) al ac kz.toNat fX fY) → (fX ≤ al ∧ fY ≤ ac) → al - X < k9 → va_P G vwCl [(hM, .inr (10, mO (1 - md) st al ac nf ns gg mg bw md wy sg_ sz_ ks bd aM)), (aM 37, .inl (ty 0, 240, .inl (nF p0))), (aM 38, .inl (ty 0, 240, .inl (nF p1))), (aM 39, .inl (ty 0, 240, .inl (nF p2))), (aM 40, .inl (ty 0, 240, .inl (nF p3))), (aM 45, .inl (ty 2, 240, .inl (bF cv1)))] H → va_D A [(hM, .inr (10, mO (1 - md) st al ac nf ns gg mg bw md wy sg_ sz_ ks bd aM)), (aM 37, .inl (ty 0, 240, .inl (nF p0))), (aM 38, .inl (ty 0, 240, .inl (nF p1))), (aM 39, .inl (ty 0, 240, .inl (nF p2))), (aM 40, .inl (ty 0, 240, .inl (nF p3))), (aM 45, .inl (ty 2, 240, .inl (bF cv1)))] → va_S A s.heap H locs → lv_has ls 8 [(0, .ref hM), (1, .int (iI kz)), (2, .int (iI wh)), (3, .int (nI rw_)), (4, .int (nI fX)), (5, .int (nI fY)), (6, .int (nI Y)), (7, .int (nI X))] → W p l e { frames := 1, cells := 0, slots := 0, locals := 25 } s m [.ref hM, .int (iI kz), .int (iI wh)].toArray below meth c H locs 0 0 (MQ below (q_Model_salvage G ty hM cd st al ac nf ns gg mg bw md wy sg_ sz_ ks bd aM kz wh p0 p1 p2 p3 cv A) [.ref hM, .int (iI kz), .int (iI wh)].toArray s 0 0 A) (F0 m 36 ls []) := by
          intro k9
          induction k9 with
          | zero => intro X rw_ fX fY H locs ls hXx hr2 hf2 hfb2 hk9; exact absurd hk9 (Nat.not_lt_zero _)
          | succ k9 ih36 =>
            intro X rw_ fX fY H locs ls hXx hr2 hf2 hfb2 hk9 hP hD hS hl
            refine lv_iload hx hb d_Model_salvage_36 (lv_at hl 7 rfl) ?_
            refine lv_aload_n hx hb d_Model_salvage_38 rfl (lv_at hl 0 rfl) ?_
            refine va_get (D := G) (ci := 10) (v := .int (nI al)) (C := R_Model) (T := F_Model) (N := 47) hx hb hts in_Model hown hK hP 0 rfl rfl 2 (by decide) (hts _ fl_Model_125) (fun _ h9 => h9) rfl d_Model_salvage_39 ?_
            refine n_icmp_ge (tgt := 93) hx hb (by omega) (by omega) d_Model_salvage_42 (by decide) (fun c42 => ?_) (fun c42 => ?_)
            · refine lv_iinc (v := (nI (Y + 1))) (lv' := [(6, .int (nI (Y + 1))), (0, .ref hM), (1, .int (iI kz)), (2, .int (iI wh)), (3, .int (nI rw_)), (4, .int (nI fX)), (5, .int (nI fY)), (7, .int (nI X))]) hx hb d_Model_salvage_93 hl (k := 6) rfl (nI_inc _ _ _ (by omega)) (by decide) rfl (fun ls hl => ?_)
              refine lv_goto (tgt := 24) hx hb d_Model_salvage_96 (by decide) ?_
              exact ih24 (Y + 1) rw_ fX fY _ _ _ (by omega) (by rw [nbA_s, hr2, show X = al by omega]) hf2 hfb2 (by omega) hP hD hS (lv_sub hl [1, 2, 3, 4, 5, 6, 0] rfl)
            · have hm1 := nbA_mono (c := (cvN p0 p1 p2 p3 sz_)) (al := al) (show Y + 1 ≤ ac by omega)
              have hm2 := nbR_mono (c := (cvN p0 p1 p2 p3 sz_)) (y := Y) (show X + 1 ≤ al by omega)
              have hns := nbA_s (cvN p0 p1 p2 p3 sz_) al Y
              have hrs := nbR_s (cvN p0 p1 p2 p3 sz_) Y X
              have hbx := hbq X Y (by omega) (by omega)
              refine lv_aload_n hx hb d_Model_salvage_45 rfl (lv_at hl 0 rfl) ?_
              refine lv_iload hx hb d_Model_salvage_46 (lv_at hl 7 rfl) ?_
              refine lv_iload hx hb d_Model_salvage_48 (lv_at hl 6 rfl) ?_
              refine vp_callSi (W.runV (As := [.int (nI X), .int (nI Y)]) (rest := []) ⟨hx, hb, hml, hown, hts⟩ (c_Model_begins l G ty hM (1 - md) st al ac nf ns gg mg bw md wy sg_ sz_ ks bd aM X Y cv1 (by omega) (by omega)) ⟨callB_of 2 hts (gd_TB cd_Model_begins) rfl rfl rfl (hts _ ini_Model) (hts _ lk_Model_296) hd_Model_begins ⟨Nat.le_of_ble_eq_true rfl, Nat.le_of_ble_eq_true rfl⟩, hts _ im_Model_begins, hts _ sl_Model_begins⟩ (preV_ro (hP.sub (ws' := [(hM, .inr (10, mO (1 - md) st al ac nf ns gg mg bw md wy sg_ sz_ ks bd aM)), (aM 45, .inl (ty 2, 240, .inl (bF cv1)))]) [0, 5] rfl) hX 0 rfl rfl) rfl rfl hl.1 rfl (lv_room (Nat.le_of_ble_eq_true rfl)) d_Model_salvage_50 ⟨Nat.le_of_ble_eq_true rfl, Nat.le_of_ble_eq_true rfl⟩) (fun r9 er9 => ?_)
              subst er9
              refine n_if_eq (tgt := 87) hx hb (tN_lt _) d_Model_salvage_53 (by decide) (fun c53 => ?_) (fun c53 => ?_)
              · have hr3 : rw_ = nbA (cvN p0 p1 p2 p3 sz_) al Y + nbR (cvN p0 p1 p2 p3 sz_) Y (X + 1) := by rw [hrs, ← hbx, tN_0 c53]; exact hr2
                have hf3 := hf2
                refine lv_iinc (v := (nI (X + 1))) (lv' := [(7, .int (nI (X + 1))), (0, .ref hM), (1, .int (iI kz)), (2, .int (iI wh)), (3, .int (nI rw_)), (4, .int (nI fX)), (5, .int (nI fY)), (6, .int (nI Y))]) hx hb d_Model_salvage_87 hl (k := 7) rfl (nI_inc _ _ _ (by omega)) (by decide) rfl (fun ls hl => ?_)
                refine lv_goto (tgt := 36) hx hb d_Model_salvage_90 (by decide) ?_
                exact ih36 (X + 1) rw_ fX fY _ _ _ (by omega) hr3 hf3 (by omega) (by omega) hP hD hS (lv_sub hl [1, 2, 3, 4, 5, 6, 7, 0] rfl)
              · refine lv_iload_n hx hb d_Model_salvage_56 rfl (lv_at hl 3 rfl) ?_
                refine lv_iload_n hx hb d_Model_salvage_57 rfl (lv_at hl 1 rfl) ?_
                refine nz_icmp_ne (tgt := 66) hx hb (by omega) (by omega) d_Model_salvage_58 (by decide) (fun c58 => ?_) (fun c58 => ?_)
                · refine lv_iload hx hb d_Model_salvage_66 (lv_at hl 4 rfl) ?_
                  refine lv_istore (lv' := [(4, .int (nI fX)), (0, .ref hM), (1, .int (iI kz)), (2, .int (iI wh)), (3, .int (nI rw_)), (5, .int (nI fY)), (6, .int (nI Y)), (7, .int (nI X))]) hx hb d_Model_salvage_68 hl (by decide) rfl (fun ls hl => ?_)
                  refine lv_iload_n hx hb d_Model_salvage_70 rfl (lv_at hl 4 rfl) ?_
                  refine lv_iload_n hx hb d_Model_salvage_71 rfl (lv_at hl 2 rfl) ?_
                  refine nz_icmp_ne (tgt := 80) hx hb (by omega) (by omega) d_Model_salvage_72 (by decide) (fun c72 => ?_) (fun c72 => absurd c72 (by omega))
                  refine lv_iload hx hb d_Model_salvage_80 (lv_at hl 5 rfl) ?_
                  refine lv_istore (lv' := [(5, .int (nI fY)), (4, .int (nI fX)), (0, .ref hM), (1, .int (iI kz)), (2, .int (iI wh)), (3, .int (nI rw_)), (6, .int (nI Y)), (7, .int (nI X))]) hx hb d_Model_salvage_82 hl (by decide) rfl (fun ls hl => ?_)
                  refine lv_iinc (v := (nI (rw_ + 1))) (lv' := [(3, .int (nI (rw_ + 1))), (5, .int (nI fY)), (4, .int (nI fX)), (0, .ref hM), (1, .int (iI kz)), (2, .int (iI wh)), (6, .int (nI Y)), (7, .int (nI X))]) hx hb d_Model_salvage_84 hl (k := 5) rfl (nI_inc _ _ _ (by omega)) (by decide) rfl (fun ls hl => ?_)
                  have hr3 : rw_ + 1 = nbA (cvN p0 p1 p2 p3 sz_) al Y + nbR (cvN p0 p1 p2 p3 sz_) Y (X + 1) := by rw [hrs, ← hbx, tN_1 c53, hr2]; rfl
                  have hf3 : (kz : Int) < ((rw_ + 1 : Nat) : Int) → 0 ≤ kz → fdC (cvN p0 p1 p2 p3 sz_) al ac kz.toNat fX fY := fun h1 h2 => by first | exact hf2 (by omega) h2 | exact ⟨by omega, by omega, by rw [← hbx]; exact tN_1 c53, by rw [← hr2]; omega⟩
                  refine lv_iinc (v := (nI (X + 1))) (lv' := [(7, .int (nI (X + 1))), (3, .int (nI (rw_ + 1))), (5, .int (nI fY)), (4, .int (nI fX)), (0, .ref hM), (1, .int (iI kz)), (2, .int (iI wh)), (6, .int (nI Y))]) hx hb d_Model_salvage_87 hl (k := 7) rfl (nI_inc _ _ _ (by omega)) (by decide) rfl (fun ls hl => ?_)
                  refine lv_goto (tgt := 36) hx hb d_Model_salvage_90 (by decide) ?_
                  exact ih36 (X + 1) (rw_ + 1) fX fY _ _ _ (by omega) hr3 hf3 (by omega) (by omega) hP hD hS (lv_sub hl [4, 5, 6, 1, 3, 2, 7, 0] rfl)
                · refine lv_iload hx hb d_Model_salvage_61 (lv_at hl 7 rfl) ?_
                  refine lv_goto (tgt := 68) hx hb d_Model_salvage_63 (by decide) ?_
                  refine lv_istore (lv' := [(4, .int (nI X)), (0, .ref hM), (1, .int (iI kz)), (2, .int (iI wh)), (3, .int (nI rw_)), (5, .int (nI fY)), (6, .int (nI Y)), (7, .int (nI X))]) hx hb d_Model_salvage_68 hl (by decide) rfl (fun ls hl => ?_)
                  refine lv_iload_n hx hb d_Model_salvage_70 rfl (lv_at hl 4 rfl) ?_
                  refine lv_iload_n hx hb d_Model_salvage_71 rfl (lv_at hl 2 rfl) ?_
                  refine nz_icmp_ne (tgt := 80) hx hb (by omega) (by omega) d_Model_salvage_72 (by decide) (fun c72 => absurd c72 (by omega)) (fun c72 => ?_)
                  refine lv_iload hx hb d_Model_salvage_75 (lv_at hl 6 rfl) ?_
                  refine lv_goto (tgt := 82) hx hb d_Model_salvage_77 (by decide) ?_
                  refine lv_istore (lv' := [(5, .int (nI Y)), (4, .int (nI X)), (0, .ref hM), (1, .int (iI kz)), (2, .int (iI wh)), (3, .int (nI rw_)), (6, .int (nI Y)), (7, .int (nI X))]) hx hb d_Model_salvage_82 hl (by decide) rfl (fun ls hl => ?_)
                  refine lv_iinc (v := (nI (rw_ + 1))) (lv' := [(3, .int (nI (rw_ + 1))), (5, .int (nI Y)), (4, .int (nI X)), (0, .ref hM), (1, .int (iI kz)), (2, .int (iI wh)), (6, .int (nI Y)), (7, .int (nI X))]) hx hb d_Model_salvage_84 hl (k := 5) rfl (nI_inc _ _ _ (by omega)) (by decide) rfl (fun ls hl => ?_)
                  have hr3 : rw_ + 1 = nbA (cvN p0 p1 p2 p3 sz_) al Y + nbR (cvN p0 p1 p2 p3 sz_) Y (X + 1) := by rw [hrs, ← hbx, tN_1 c53, hr2]; rfl
                  have hf3 : (kz : Int) < ((rw_ + 1 : Nat) : Int) → 0 ≤ kz → fdC (cvN p0 p1 p2 p3 sz_) al ac kz.toNat X Y := fun h1 h2 => by first | exact hf2 (by omega) h2 | exact ⟨by omega, by omega, by rw [← hbx]; exact tN_1 c53, by rw [← hr2]; omega⟩
                  refine lv_iinc (v := (nI (X + 1))) (lv' := [(7, .int (nI (X + 1))), (3, .int (nI (rw_ + 1))), (5, .int (nI Y)), (4, .int (nI X)), (0, .ref hM), (1, .int (iI kz)), (2, .int (iI wh)), (6, .int (nI Y))]) hx hb d_Model_salvage_87 hl (k := 7) rfl (nI_inc _ _ _ (by omega)) (by decide) rfl (fun ls hl => ?_)
                  refine lv_goto (tgt := 36) hx hb d_Model_salvage_90 (by decide) ?_
                  exact ih36 (X + 1) (rw_ + 1) X Y _ _ _ (by omega) hr3 hf3 (by omega) (by omega) hP hD hS (lv_sub hl [4, 5, 6, 1, 3, 2, 7, 0] rfl)
        exact L36 (al - 0 + 1) 0 rw_ fX fY _ _ _ (Nat.zero_le _) (by rw [hr1]; rfl) hf1 hfb (Nat.lt_succ_self _) hP hD hS (lv_sub hl [1, 2, 3, 4, 5, 6, 7, 0] rfl)
  exact L24 (ac - 0 + 1) 0 0 0 0 _ _ _ (Nat.zero_le _) rfl (fun h1 h2 => absurd h1 (by omega)) (by omega) (Nat.lt_succ_self _) hP hD hS (lv_sub hl [4, 5, 6, 3, 2, 1, 0] rfl)

abbrev q_msalvX (G : va_G) (ty : Nat → ClassId) (hM : Nat) (cd : Nat) (st : Nat) (al : Nat) (ac : Nat) (nf : Nat) (ns : Nat) (gg : Nat) (mg : Nat) (bw : Nat) (md : Nat) (wy : Nat) (sg_ : Nat) (sz_ : Nat) (ks : Nat) (bd : Int) (aM : Nat → Nat) (kz : Int) (wh : Int) (A : Nat → Prop) : Array Value → State → Outcome → State → Prop := va_Qi (fun (r : Int32) => fun (uu : Unit) => r = (nI 0)) (at_W G (fun (uu : Unit) => [(hM, .inr (10, mO 1 st al ac nf ns gg mg bw md wy sg_ sz_ ks bd aM))]) A) A
set_option maxRecDepth 100000 in
set_option maxHeartbeats 4000000 in
theorem c_msalvX (l : Launch) (G : va_G) (ty : Nat → ClassId) (sz : Nat) (hM : Nat) (cd : Nat) (st : Nat) (al : Nat) (ac : Nat) (nf : Nat) (ns : Nat) (gg : Nat) (mg : Nat) (bw : Nat) (md : Nat) (wy : Nat) (sg_ : Nat) (sz_ : Nat) (ks : Nat) (bd : Int) (aM : Nat → Nat) (kz : Int) (wh : Int) (gmd : md = 0) : Met l y_Model_salvage ws_Model_salvage { frames := 1, cells := 0, slots := 0, locals := 20 } (va_Pc [.ref hM, .int (iI kz), .int (iI wh)] (fun U => U.heap.size = sz ∧ va_P G vwCl [(hM, .inr (10, mO cd st al ac nf ns gg mg bw md wy sg_ sz_ ks bd aM))] U.heap ∧ KX G ty U ∧ va_D (fun _ => True) [(hM, .inr (10, mO cd st al ac nf ns gg mg bw md wy sg_ sz_ ks bd aM))])) (q_msalvX G ty hM cd st al ac nf ns gg mg bw md wy sg_ sz_ ks bd aM kz wh (va_A [(hM, .inr (10, mO cd st al ac nf ns gg mg bw md wy sg_ sz_ ks bd aM))] sz)) 0 0 (va_A [(hM, .inr (10, mO cd st al ac nf ns gg mg bw md wy sg_ sz_ ks bd aM))] sz) := by
  refine met_wr (y := y_Model_salvage) (maxL := 8) (sz := sz) (G := G) (ty := ty) (mc := 0) (ms := 0) (av := [.ref hM, .int (iI kz), .int (iI wh)]) (W0 := [(hM, .inr (10, mO cd st al ac nf ns gg mg bw md wy sg_ sz_ ks bd aM))]) (fun A => q_msalvX G ty hM cd st al ac nf ns gg mg bw md wy sg_ sz_ ks bd aM kz wh A) R_Model (by decide) rfl rfl (Nat.le_of_ble_eq_true rfl) ?_
  intro p e s m below meth c ls A hx hb hr hml hown hts hlocks hin hA hP hX hD hS hl
  have hK := hX.1
  have hl : lv_has ls 8 [(0, .ref hM), (1, .int (iI kz)), (2, .int (iI wh))] := hl
  refine lv_aload_n hx hb d_Model_salvage_0 rfl (lv_at hl 0 rfl) ?_
  refine call_wr_i (Wc := [(hM, .inr (10, mO cd st al ac nf ns gg mg bw md wy sg_ sz_ ks bd aM))]) (Wr := []) (va_runV (As := []) (rest := []) ⟨hx, hb, hml, hown, hts⟩ (c_Model_none l G ty _ hM cd st al ac nf ns gg mg bw md wy sg_ sz_ ks bd aM (by omega)) ⟨callB_of 0 hts (gd_TB cd_Model_none) rfl rfl rfl (hts _ ini_Model) (hts _ lk_Model_287) hd_Model_none ⟨Nat.le_of_ble_eq_true rfl, Nat.le_of_ble_eq_true rfl⟩, hts _ im_Model_none, hts _ sl_Model_none⟩ (preV_wr (hP.sub (ws' := [(hM, .inr (10, mO cd st al ac nf ns gg mg bw md wy sg_ sz_ ks bd aM))]) [0] rfl) hX (hD.sub (ws' := [(hM, .inr (10, mO cd st al ac nf ns gg mg bw md wy sg_ sz_ ks bd aM))]) [0] (by decide) rfl) 0 rfl rfl) rfl rfl hl.1 rfl (lv_room (Nat.le_of_ble_eq_true rfl)) d_Model_salvage_1 ⟨Nat.le_of_ble_eq_true rfl, Nat.le_of_ble_eq_true rfl⟩) hP hD hS hA [0] [] rfl rfl (by decide) (by decide) (fun r2 u9 H locs hw1 hP hD hS => ?_)
  have hw1 : r2 = (nI (1 - md)) := hw1
  have hP : va_P G vwCl [(hM, .inr (10, mO (1 - md) st al ac nf ns gg mg bw md wy sg_ sz_ ks bd aM))] _ := hP
  have hD : va_D A [(hM, .inr (10, mO (1 - md) st al ac nf ns gg mg bw md wy sg_ sz_ ks bd aM))] := hD
  subst hw1
  refine top_i (show (nI (1 - md)) = (nI 1) from congrArg nI (by omega)) ?_
  refine n_if_eq (tgt := 9) hx hb (by omega) d_Model_salvage_4 (by decide) (fun c4 => absurd c4 (by omega)) (fun c4 => ?_)
  refine lv_iconst (v := (nI 0)) hx hb d_Model_salvage_7 (by decide) ?_
  have e1 : 1 - md = 1 := by omega
  have hP : va_P G vwCl [(hM, .inr (10, mO 1 st al ac nf ns gg mg bw md wy sg_ sz_ ks bd aM))] H := by rw [← e1]; exact hP
  have hD : va_D A [(hM, .inr (10, mO 1 st al ac nf ns gg mg bw md wy sg_ sz_ ks bd aM))] := by rw [← e1]; exact hD
  exact W.iret (v := (nI 0)) hx hb hr (fun t9 ht hW => ⟨⟨_, (), rfl, rfl, by rw [ht]; exact hP, hD⟩, hS.F ht⟩) hS.2.2 d_Model_salvage_8
