theorem qP_neg {PL : (Nat → Int) → List Pc} {sn : Nat → Int} {r i : Nat} (h : sn i < 0) : qP PL sn r i = 0 := by
  cases r with
  | zero => rfl
  | succ r => rw [qP_s, if_pos h]
theorem vSum_P {wo sn pr q : Nat → Int} {cn : Nat → Nat} {tot : Int} {L : List Pc} (ht : tot = wL wo L) : ∀ n : Nat, n ≤ 8 → (∀ i, i < n → -1 ≤ sn i) → (∀ i, i < n → pr i = q i) → (∀ i, i < 8 → cn i = cntL i L) → vSum sn pr cn tot n = vP wo sn q n L := by
  intro n
  induction n with
  | zero => intro _ _ _ _; show tot = wL wo L + 0; omega
  | succ n ih =>
    intro h8 hn hp hc
    have h1 := ih (by omega) (fun i hi => hn i (by omega)) (fun i hi => hp i (by omega)) hc
    have h2 := hn n (by omega)
    unfold vP at h1 ⊢
    rw [sumA_s]
    show (if sn n = -1 then vSum sn pr cn tot n else vSum sn pr cn tot n + pr n * (sn n - (cn n : Int))) = wL wo L + (sumA _ n + (if sn n < 0 then 0 else q n * (sn n - ((cntL n L : Nat) : Int))))
    rw [h1, hp n (by omega), hc n (by omega)]
    by_cases z : sn n = -1
    · rw [if_pos z, if_pos (by omega)]; omega
    · rw [if_neg z, if_neg (by omega)]; omega
theorem any_h0 {sn : Nat → Int} {cn : Nat → Nat} {L : List Pc} {ns : Nat} (h8 : ns ≤ 8) (hn : ∀ i, i < ns → -1 ≤ sn i) (hc : ∀ i, i < 8 → cn i = cntL i L) : (List.range ns).any (fun i => tooM sn i (cn i)) = !(h0P sn ns L) := by
  rcases Bool.eq_false_or_eq_true (h0P sn ns L) with q | q
  · rw [q]
    unfold h0P at q
    rw [allB_iff] at q
    exact List.any_eq_false.mpr (fun i hi => by
      have hi := List.mem_range.mp hi
      have h1 := of_decide_eq_true (q i hi)
      have h2 := hn i hi
      unfold tooM
      rw [hc i (by omega), decide_eq_false (by omega)]
      decide)
  · rw [q]
    have h3 : ∃ i, i < ns ∧ decide (sn i < 0 ∨ ((cntL i L : Nat) : Int) ≤ sn i) = false := by
      apply Decidable.byContradiction
      intro h
      have : h0P sn ns L = true := by
        unfold h0P
        rw [allB_iff]
        intro i hi
        rcases Bool.eq_false_or_eq_true (decide (sn i < 0 ∨ ((cntL i L : Nat) : Int) ≤ sn i)) with z | z
        · exact z
        · exact absurd ⟨i, hi, z⟩ h
      rw [this] at q
      cases q
    obtain ⟨i, hi, h4⟩ := h3
    have h5 := of_decide_eq_false h4
    exact List.any_eq_true.mpr ⟨i, List.mem_range.mpr hi, by unfold tooM; rw [hc i (by omega)]; exact decide_eq_true (by omega)⟩
theorem all_h1 {sn pr q : Nat → Int} {cn : Nat → Nat} {L : List Pc} {ns : Nat} (h8 : ns ≤ 8) (hn : ∀ i, i < ns → -1 ≤ sn i) (hp : ∀ i, i < ns → pr i = q i ∧ 0 ≤ q i) (hc : ∀ i, i < 8 → cn i = cntL i L) : (List.range ns).all (fun i => !(decide (0 < pr i ∧ ((cn i : Int) ≠ sn i))) && !(tooM sn i (cn i))) = h1P q sn ns L := by
  have key : ∀ i, i < ns → (!(decide (0 < pr i ∧ ((cn i : Int) ≠ sn i))) && !(tooM sn i (cn i))) = decide ((q i = 0 ∨ ((cntL i L : Nat) : Int) = sn i) ∧ (sn i < 0 ∨ ((cntL i L : Nat) : Int) ≤ sn i)) := by
    intro i hi
    have h1 := hn i hi
    have h2 := hp i hi
    unfold tooM
    rw [hc i (by omega), h2.1, Bool.eq_iff_iff, Bool.and_eq_true, decide_eq_true_eq, Bool.not_eq_true', Bool.not_eq_true', decide_eq_false_iff_not, decide_eq_false_iff_not]
    omega
  unfold h1P
  rw [Bool.eq_iff_iff, allB_iff, List.all_eq_true]
  exact ⟨fun h i hi => by rw [← key i hi]; exact h i (List.mem_range.mpr hi), fun h i hi => by have hi := List.mem_range.mp hi; rw [key i hi]; exact h i hi⟩
theorem mvP_q {PL : (Nat → Int) → List Pc} {sn pr : Nat → Int} {cn : Nat → Nat} {r i : Nat} (hn : -1 ≤ sn i) (hp : pr i = qP PL sn r i) (hc : cn i = cntL i (PL (qP PL sn r))) : mvP sn pr cn (max 1 (256 / (r + 1))) i = qP PL sn (r + 1) i := by
  unfold mvP
  rw [qP_s, hp, hc]
  by_cases z : sn i = -1
  · rw [if_pos z, if_pos (by omega), qP_neg (by omega)]
  · rw [if_neg z, if_neg (by omega)]
/-- what lies in the class's plan while it is the one kept -/
def kpC (k : Option (List Pc)) (wo : Nat → Int) (sp : Nat → Nat) (sm np : Nat) (tot : Int) (cn k0 k1 k2 k3 k4 k5 : Nat → Nat) : Prop := match k with
  | none => sm = 0
  | some K => sm = 1 ∧ np = K.length ∧ tot = wL wo K ∧ (∀ i, i < 8 → cn i = cntL i K) ∧ isPL k0 k1 k2 k3 k4 K ∧ ∀ j, j < K.length → k5 j = sp (k4 j) * k2 j
theorem kpC_le {k : Option (List Pc)} {wo : Nat → Int} {sp : Nat → Nat} {sm np : Nat} {tot : Int} {cn k0 k1 k2 k3 k4 k5 : Nat → Nat} (h : kpC k wo sp sm np tot cn k0 k1 k2 k3 k4 k5) : sm ≤ 1 := by
  cases k with
  | none => have : sm = 0 := h; omega
  | some K => have := h.1; omega
theorem btC_t {k : Option (List Pc)} {wo : Nat → Int} {sp : Nat → Nat} {sm np : Nat} {tot : Int} {cn k0 k1 k2 k3 k4 k5 : Nat → Nat} {L : List Pc} (h : kpC k wo sp sm np tot cn k0 k1 k2 k3 k4 k5) (hc : sm = 0 ∨ tot < wL wo L) : btP wo k L = true := by
  cases k with
  | none => rfl
  | some K =>
    have h1 := h.1
    have h2 := h.2.2.1
    exact decide_eq_true (by omega)
theorem btC_f {k : Option (List Pc)} {wo : Nat → Int} {sp : Nat → Nat} {sm np : Nat} {tot : Int} {cn k0 k1 k2 k3 k4 k5 : Nat → Nat} {L : List Pc} (h : kpC k wo sp sm np tot cn k0 k1 k2 k3 k4 k5) (h1 : sm ≠ 0) (h2 : wL wo L ≤ tot) : btP wo k L = false := by
  cases k with
  | none => exact absurd h h1
  | some K => have h3 := h.2.2.1; exact decide_eq_false (by omega)
theorem kpC_n {k : Option (List Pc)} {wo : Nat → Int} {sp : Nat → Nat} {sm np : Nat} {tot : Int} {cn k0 k1 k2 k3 k4 k5 : Nat → Nat} (h : kpC k wo sp sm np tot cn k0 k1 k2 k3 k4 k5) (h0 : sm = 0) : k = none := by
  cases k with
  | none => rfl
  | some K => have := h.1; omega
theorem kpC_s {k : Option (List Pc)} {wo : Nat → Int} {sp : Nat → Nat} {sm np : Nat} {tot : Int} {cn k0 k1 k2 k3 k4 k5 : Nat → Nat} (h : kpC k wo sp sm np tot cn k0 k1 k2 k3 k4 k5) (h0 : sm ≠ 0) : ∃ K, k = some K ∧ kpC (some K) wo sp sm np tot cn k0 k1 k2 k3 k4 k5 := by
  cases k with
  | none => exact absurd h h0
  | some K => exact ⟨K, rfl, h⟩
theorem sumF_w {sp : Nat → Nat} {g2 g4 g5 : Nat → Nat} {L : List Pc} (h2 : ∀ k, k < L.length → g2 k = (L.getD k pcD).2.2.1) (h4 : ∀ k, k < L.length → g4 k = (L.getD k pcD).2.2.2.2) (h5 : ∀ k, k < L.length → g5 k = sp (g4 k) * g2 k) : sumF g5 L.length = wL (fun j => ((sp j : Nat) : Int)) L := by
  have key : ∀ n, n ≤ L.length → sumF g5 n = sumA (fun i => (fun j => ((sp j : Nat) : Int)) (L.getD i pcD).2.2.2.2 * (((L.getD i pcD).2.2.1 : Nat) : Int)) n := by
    intro n
    induction n with
    | zero => intro _; rfl
    | succ n ih =>
      intro hn
      show sumF g5 n + ((g5 n : Nat) : Int) = _
      rw [sumA_s, ih (by omega), h5 n (by omega), h4 n (by omega), h2 n (by omega), Int.natCast_mul]
  rw [key _ (Nat.le_refl _)]
  exact sumA_list (fun p => (fun j => ((sp j : Nat) : Int)) p.2.2.2.2 * ((p.2.2.1 : Nat) : Int)) L
theorem cntL_app (i : Nat) (A B : List Pc) : cntL i (A ++ B) = cntL i A + cntL i B := by
  induction A with
  | nil => show cntL i B = 0 + cntL i B; omega
  | cons p A ih => show (if p.2.2.2.2 = i then 1 else 0) + cntL i (A ++ B) = (if p.2.2.2.2 = i then 1 else 0) + cntL i A + cntL i B; rw [ih]; omega
theorem sumG_app (g : Pc → Int) (A B : List Pc) : sumG g (A ++ B) = sumG g A + sumG g B := by
  induction A with
  | nil => show sumG g B = 0 + sumG g B; omega
  | cons p A ih => show g p + sumG g (A ++ B) = g p + sumG g A + sumG g B; rw [ih]; omega
theorem cntK_L {sn : Nat → Int} {L : List Pc} {i : Nat} : ∀ n : Nat, cntK sn (wLs L) n i = cntL i (kpL sn L n) := by
  intro n
  induction n with
  | zero => rfl
  | succ n ih =>
    rw [dtm_step, kpL_s, ih]
    by_cases q : keepK sn (wLs L) n = true
    · rw [if_pos q, cntL_app]
      show _ = _ + ((if (L.getD n pcD).2.2.2.2 = i then 1 else 0) + 0)
      by_cases z : wLs L n = i
      · rw [if_pos ⟨q, z⟩, if_pos (show (L.getD n pcD).2.2.2.2 = i from z)]
      · rw [if_neg (fun y => z y.2), if_neg (show ¬ (L.getD n pcD).2.2.2.2 = i from z)]
    · rw [if_neg q, if_neg (fun y => q y.1)]; omega
theorem sumK_L {sn : Nat → Int} {sp : Nat → Nat} {g v : Nat → Nat} {L : List Pc} (hg : ∀ k, k < L.length → g k = wLs L k) (hv : ∀ k, k < L.length → v k = sp (L.getD k pcD).2.2.2.2 * (L.getD k pcD).2.2.1) : ∀ n : Nat, n ≤ L.length → sumK sn g v n = wL (fun j => ((sp j : Nat) : Int)) (kpL sn L n) := by
  intro n
  induction n with
  | zero => intro _; rfl
  | succ n ih =>
    intro hn
    have hk := (keepK_congr (sn := sn) (n := L.length) hg).2.1 n (by omega)
    have h1 := ih (by omega)
    rw [kpL_s, ← hk]
    by_cases q : keepK sn g n = true
    · rw [if_pos q]
      unfold wL at h1 ⊢
      rw [sumG_app, ← h1]
      have h2 : sumK sn g v (n + 1) = sumK sn g v n + ((v n : Nat) : Int) := by first | (show sumK sn g v n + (if keepK sn g n = true then ((v n : Nat) : Int) else 0) = _; rw [if_pos q]) | (unfold sumK; simp [q])
      rw [h2, hv n (by omega), Int.natCast_mul]
      show _ = _ + (_ + 0)
      rw [Int.add_zero]
    · rw [if_neg q, ← h1]
      have q' : keepK sn g n = false := by simpa using q
      first | (show sumK sn g v n + (if keepK sn g n = true then ((v n : Nat) : Int) else 0) = _; rw [if_neg q]; omega) | (unfold sumK; simp [q'])
