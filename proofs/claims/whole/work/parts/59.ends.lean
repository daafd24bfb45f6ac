/-- when the rounds end -/
def prD (PL : (Nat → Int) → List Pc) (sn : Nat → Int) (ns R r : Nat) : Prop := 1 ≤ r ∧ r ≤ R ∧ (∀ t, t + 1 < r → h1P (qP PL sn t) sn ns (PL (qP PL sn t)) = false) ∧ (r = R ∨ h1P (qP PL sn (r - 1)) sn ns (PL (qP PL sn (r - 1))) = true)
theorem prD_uniq {PL : (Nat → Int) → List Pc} {sn : Nat → Int} {ns R r r' : Nat} (h : prD PL sn ns R r) (h' : prD PL sn ns R r') : r = r' := by
  obtain ⟨a1, a2, a3, a4⟩ := h
  obtain ⟨b1, b2, b3, b4⟩ := h'
  rcases Nat.lt_trichotomy r r' with q | q | q
  · rcases a4 with e | e
    · omega
    · rw [b3 (r - 1) (by omega)] at e; cases e
  · exact q
  · rcases b4 with e | e
    · omega
    · rw [a3 (r' - 1) (by omega)] at e; cases e
/-- the plan that the rounds end with -/
def finL (PL : (Nat → Int) → List Pc) (wo sn : Nat → Int) (ns r : Nat) : List Pc := match kP PL wo sn ns r with
  | some K => K
  | none => kpL sn (PL (qP PL sn (r - 1))) (PL (qP PL sn (r - 1))).length
/-- what lies in the array of the plan that is kept -/
def kpI (k : Option (List Pc)) (wo : Nat → Int) (sm ks : Nat) (mo : Int) (kp : Nat → Nat) : Prop := match k with
  | none => sm = 0
  | some K => sm = 1 ∧ mo = wL wo K ∧ ks = K.length ∧ ∀ j, j < K.length → kp (5 * j) = (K.getD j pcD).1 ∧ kp (5 * j + 1) = (K.getD j pcD).2.1 ∧ kp (5 * j + 2) = (K.getD j pcD).2.2.1 ∧ kp (5 * j + 3) = (K.getD j pcD).2.2.2.1 ∧ kp (5 * j + 4) = (K.getD j pcD).2.2.2.2
theorem kpI_le {k : Option (List Pc)} {wo : Nat → Int} {sm ks : Nat} {mo : Int} {kp : Nat → Nat} (h : kpI k wo sm ks mo kp) : sm ≤ 1 := by
  cases k with
  | none => have : sm = 0 := h; omega
  | some K => have := h.1; omega
theorem btP_t {k : Option (List Pc)} {wo : Nat → Int} {sm ks : Nat} {mo : Int} {kp : Nat → Nat} {L : List Pc} (h : kpI k wo sm ks mo kp) (hc : sm = 0 ∨ mo < wL wo L) : btP wo k L = true := by
  cases k with
  | none => rfl
  | some K =>
    have h1 := h.1
    have h2 := h.2.1
    exact decide_eq_true (by omega)
theorem btP_f {k : Option (List Pc)} {wo : Nat → Int} {sm ks : Nat} {mo : Int} {kp : Nat → Nat} {L : List Pc} (h : kpI k wo sm ks mo kp) (h1 : sm ≠ 0) (h2 : wL wo L ≤ mo) : btP wo k L = false := by
  cases k with
  | none => exact absurd h h1
  | some K => have h3 := h.2.1; exact decide_eq_false (by omega)
theorem kpI_n {k : Option (List Pc)} {wo : Nat → Int} {sm ks : Nat} {mo : Int} {kp : Nat → Nat} (h : kpI k wo sm ks mo kp) (h0 : sm = 0) : k = none := by
  cases k with
  | none => rfl
  | some K => have := h.1; omega
theorem kpI_s {k : Option (List Pc)} {wo : Nat → Int} {sm ks : Nat} {mo : Int} {kp : Nat → Nat} (h : kpI k wo sm ks mo kp) (h0 : sm ≠ 0) : ∃ K, k = some K ∧ kpI (some K) wo sm ks mo kp := by
  cases k with
  | none => exact absurd h h0
  | some K => exact ⟨K, rfl, h⟩
theorem hB_0 {p0 p1 p2 p3 p4 : Nat → Nat} {pr sn : Nat → Int} {L : List Pc} (h : isPL p0 p1 p2 p3 p4 L) (ns : Nat) : allB (hB 0 pr sn p4 L.length) ns = h0P sn ns L := by
  unfold h0P
  congr 1
  funext i
  unfold hB
  rw [isPL_cnt h]
  exact decide_eq_decide.mpr ⟨fun z => z.2, fun z => ⟨Or.inl rfl, z⟩⟩
theorem allB_congr {P P' : Nat → Bool} : ∀ n : Nat, (∀ i, i < n → P i = P' i) → allB P n = allB P' n := by
  intro n
  induction n with
  | zero => intro _; rfl
  | succ n ih => intro h; rw [allB_s, allB_s, ih (fun i hi => h i (by omega)), h n (by omega)]
theorem hB_1 {p0 p1 p2 p3 p4 : Nat → Nat} {pr q sn : Nat → Int} {L : List Pc} (h : isPL p0 p1 p2 p3 p4 L) {ns : Nat} (hq : ∀ i, i < ns → pr i = q i) : allB (hB 1 pr sn p4 L.length) ns = h1P q sn ns L := by
  unfold h1P
  refine allB_congr ns (fun i hi => ?_)
  unfold hB
  rw [isPL_cnt h, hq i hi]
  exact decide_eq_decide.mpr ⟨fun z => ⟨z.1.elim (fun y => absurd y (by decide)) id, z.2⟩, fun z => ⟨Or.inr z.1, z.2⟩⟩
theorem nxP_q {p0 p1 p2 p3 p4 : Nat → Nat} {PL : (Nat → Int) → List Pc} {pr sn : Nat → Int} {r i : Nat} (h : isPL p0 p1 p2 p3 p4 (PL (qP PL sn r))) (hq : pr i = qP PL sn r i) : nxP sn pr p4 (PL (qP PL sn r)).length (max 1 (256 / (r + 1))) i = qP PL sn (r + 1) i := by
  unfold nxP
  rw [isPL_cnt h, qP_s, hq]
  by_cases a : sn i < 0
  · rw [if_pos (Or.inl a), if_pos a]
  · rw [if_neg a]
    generalize qP PL sn r i + (((cntL i (PL (qP PL sn r)) : Nat) : Int) - sn i) * ((max 1 (256 / (r + 1)) : Nat) : Int) = z
    by_cases b : z < 0
    · rw [if_pos (Or.inr b)]; omega
    · rw [if_neg (fun y => y.elim a b)]; omega
theorem wL_b {wo : Nat → Int} {al ac ns : Nat} : ∀ L : List Pc, (∀ j, j < ns → 1 ≤ wo j ∧ wo j ≤ 100000) → al ≤ 24 → (∀ p, p ∈ L → pcOK al ac ns p) → 0 ≤ wL wo L ∧ wL wo L ≤ 2400000 * (L.length : Int) := by
  intro L hw ha
  unfold wL
  induction L with
  | nil => intro _; show (0 : Int) ≤ 0 ∧ (0 : Int) ≤ 2400000 * ((0 : Nat) : Int); omega
  | cons p L ih =>
    intro h
    have h1 := ih (fun x hx => h x (List.mem_cons_of_mem _ hx))
    have h2 := h p (List.mem_cons_self)
    have h3 := hw _ h2.2.2.2.2
    have h4 : p.2.2.1 ≤ 24 := by have := h2.1; omega
    have h5 : 0 ≤ wo p.2.2.2.2 * ((p.2.2.1 : Nat) : Int) := Int.mul_nonneg (by omega) (by omega)
    have h6 : wo p.2.2.2.2 * ((p.2.2.1 : Nat) : Int) ≤ 100000 * 24 := Int.le_trans (Int.mul_le_mul_of_nonneg_right h3.2 (by omega)) (Int.mul_le_mul_of_nonneg_left (by omega) (by omega))
    show 0 ≤ wo p.2.2.2.2 * ((p.2.2.1 : Nat) : Int) + sumG _ L ∧ wo p.2.2.2.2 * ((p.2.2.1 : Nat) : Int) + sumG _ L ≤ 2400000 * ((L.length + 1 : Nat) : Int)
    omega
theorem vP_b {wo sn q : Nat → Int} {ns : Nat} {L : List Pc} (hw : 0 ≤ wL wo L ∧ wL wo L ≤ 2400000 * (L.length : Int)) (hl : L.length ≤ 240) (gn : ∀ i, i < ns → -1 ≤ sn i ∧ sn i ≤ 1000) (h8 : ns ≤ 8) (hq : ∀ i, i < ns → 0 ≤ q i ∧ q i ≤ 1000000000) (M : List Pc) (hM : M.length ≤ 240 := by first | omega | assumption) : -1000000000000000 ≤ wL wo L + sumA (fun i => if sn i < 0 then 0 else q i * (sn i - ((cntL i M : Nat) : Int))) ns ∧ wL wo L + sumA (fun i => if sn i < 0 then 0 else q i * (sn i - ((cntL i M : Nat) : Int))) ns ≤ 1000000000000000 := by
  have h := sumA_b (g := fun i => if sn i < 0 then 0 else q i * (sn i - ((cntL i M : Nat) : Int))) (a := -1001000000000) (b := 1001000000000) ns (fun i hi => by
    have h1 := gn i hi
    have h2 := hq i hi
    have h3 := cntL_le i M
    show -1001000000000 ≤ (if sn i < 0 then 0 else q i * (sn i - ((cntL i M : Nat) : Int))) ∧ (if sn i < 0 then 0 else q i * (sn i - ((cntL i M : Nat) : Int))) ≤ 1001000000000
    split
    · omega
    · have h4 : q i * (sn i - ((cntL i M : Nat) : Int)) ≤ 1000000000 * 1001 := Int.le_trans (Int.mul_le_mul_of_nonneg_left (show sn i - ((cntL i M : Nat) : Int) ≤ 1001 by omega) h2.1) (Int.mul_le_mul_of_nonneg_right h2.2 (by omega))
      have h6 : q i * (((cntL i M : Nat) : Int) - sn i) ≤ 1000000000 * 1001 := Int.le_trans (Int.mul_le_mul_of_nonneg_left (show ((cntL i M : Nat) : Int) - sn i ≤ 1001 by omega) h2.1) (Int.mul_le_mul_of_nonneg_right h2.2 (by omega))
      have h7 : q i * (((cntL i M : Nat) : Int) - sn i) = -(q i * (sn i - ((cntL i M : Nat) : Int))) := by rw [← Int.mul_neg]; congr 1; omega
      omega)
  have h9 : (ns : Int) ≤ 8 := by omega
  omega
theorem bP_b {PL : (Nat → Int) → List Pc} {wo sn : Nat → Int} {ns : Nat} (gn : ∀ i, i < ns → -1 ≤ sn i ∧ sn i ≤ 1000) (h8 : ns ≤ 8) (hl : ∀ q, (PL q).length ≤ 240) (hw : ∀ q, 0 ≤ wL wo (PL q) ∧ wL wo (PL q) ≤ 2400000 * ((PL q).length : Int)) : ∀ r : Nat, r ≤ 6 → -1000000000000000 ≤ bP PL wo sn ns r ∧ bP PL wo sn ns r ≤ 1000000000000000 := by
  intro r
  induction r with
  | zero => intro _; show (-1000000000000000 : Int) ≤ 0 ∧ (0 : Int) ≤ 1000000000000000; omega
  | succ r ih =>
    intro hr
    have h1 := ih (by omega)
    have h2 := vP_b (q := qP PL sn r) (hw (qP PL sn r)) (hl _) gn h8 (fun i hi => by have := qP_b (PL := PL) (sn := sn) hl r i; omega) (PL (qP PL sn r)) (hl _)
    have h3 : vP wo sn (qP PL sn r) ns (PL (qP PL sn r)) = wL wo (PL (qP PL sn r)) + sumA (fun i => if sn i < 0 then 0 else qP PL sn r i * (sn i - ((cntL i (PL (qP PL sn r)) : Nat) : Int))) ns := rfl
    show -1000000000000000 ≤ (if r = 0 then vP wo sn (qP PL sn r) ns (PL (qP PL sn r)) else min (bP PL wo sn ns r) (vP wo sn (qP PL sn r) ns (PL (qP PL sn r)))) ∧ (if r = 0 then vP wo sn (qP PL sn r) ns (PL (qP PL sn r)) else min (bP PL wo sn ns r) (vP wo sn (qP PL sn r) ns (PL (qP PL sn r)))) ≤ 1000000000000000
    rw [h3]
    split <;> omega
