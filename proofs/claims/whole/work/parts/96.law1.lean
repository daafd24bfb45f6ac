

theorem pnl_congr {dy dy' : Nat → Nat} {n w k : Nat} (e : ∀ i, i < n → dy i = dy' i) : pnl dy n w k = pnl dy' n w k := by
  unfold pnl
  rw [fwD_congr n w (Nat.le_refl _) e, pkD_congr n w 0 (Nat.le_refl _) e]
theorem pnl_b (dy : Nat → Nat) (n w k : Nat) : -1 ≤ pnl dy n w k ∧ pnl dy n w k ≤ (n : Int) := by
  unfold pnl
  have h := pkD_b dy n k n w 0 (Nat.le_refl _)
  split
  · omega
  · exact h
theorem clr_eq {P Q : Nat → Bool} {n : Nat} (hn : n ≤ 32) : decide (Mk P n &&& Mk Q n = 0) = allB (fun z9 => !(P z9 && Q z9)) n := by
  rw [Bool.eq_iff_iff, decide_eq_true_iff, Mk_and2 hn, allB_iff]
  exact ⟨fun h i hi => by rw [h i hi]; rfl, fun h i hi => by have := h i hi; revert this; cases (P i && Q i) <;> simp⟩
theorem edC_ex {c : Nat → Nat → Bool} {al y x : Nat} (hx : x ≤ al) : ∃ e, edC c al y x e := by
  have h : ∀ d x, x + d = al → ∃ e, edC c al y x e := by
    intro d
    induction d with
    | zero => intro x h; exact ⟨x, Nat.le_refl _, by omega, fun i h1 h2 => absurd h2 (by omega), Or.inl (by omega)⟩
    | succ d ih =>
      intro x h
      by_cases q : c x y = true
      · exact ⟨x, Nat.le_refl _, by omega, fun i h1 h2 => absurd h2 (by omega), Or.inr q⟩
      · obtain ⟨e, a1, a2, a3, a4⟩ := ih (x + 1) (by omega)
        refine ⟨e, by omega, a2, fun i h1 h2 => ?_, a4⟩
        by_cases z : i = x
        · rw [z]; exact Bool.eq_false_iff.mpr q
        · exact a3 i (by omega) h2
  exact h (al - x) x (by omega)
theorem fdR_ex {c : Nat → Nat → Bool} {y : Nat} : ∀ n k : Nat, k < nbR c y n → ∃ x, x < n ∧ bgC c x y = true ∧ nbR c y x = k := by
  intro n
  induction n with
  | zero => intro k h; exact absurd h (by show ¬ k < 0; omega)
  | succ n ih =>
    intro k h
    by_cases q : k < nbR c y n
    · obtain ⟨x, a, b, d⟩ := ih k q
      exact ⟨x, by omega, b, d⟩
    · rw [nbR_s] at h
      by_cases z : bgC c n y = true
      · rw [z] at h
        have : true.toNat = 1 := rfl
        exact ⟨n, by omega, z, by omega⟩
      · rw [Bool.eq_false_iff.mpr z] at h
        have : false.toNat = 0 := rfl
        omega
theorem fdC_ex {c : Nat → Nat → Bool} {al : Nat} : ∀ wd k : Nat, k < nbA c al wd → ∃ x y, fdC c al wd k x y := by
  intro wd
  induction wd with
  | zero => intro k h; exact absurd h (by show ¬ k < 0; omega)
  | succ wd ih =>
    intro k h
    by_cases q : k < nbA c al wd
    · obtain ⟨x, y, a, b, d, e⟩ := ih k q
      exact ⟨x, y, a, by omega, d, e⟩
    · rw [nbA_s] at h
      obtain ⟨x, a, b, d⟩ := fdR_ex (c := c) (y := wd) al (k - nbA c al wd) (by omega)
      exact ⟨x, wd, a, by omega, b, by omega⟩
theorem finL_of {PL : (Nat → Int) → List Pc} {wo sn : Nat → Int} {ns r : Nat} : ∃ q, (∀ p, p ∈ finL PL wo sn ns r → p ∈ PL q) ∧ (finL PL wo sn ns r).length ≤ (PL q).length := by
  unfold finL
  split
  · rename_i K h
    obtain ⟨t, -, b⟩ := kP_is r K h
    exact ⟨qP PL sn t, fun p hp => by rw [← b]; exact hp, by rw [← b]; exact Nat.le_refl _⟩
  · refine ⟨qP PL sn (r - 1), fun p hp => kpL_mem _ (Nat.le_refl _) p hp, ?_⟩
    rw [kpL_len]
    exact nK_le _ _ _
theorem FOK_up {nf : Nat} {fd : Nat → Nat → Int} {g : Nat → Int} (h : FOK nf fd) (hn : nf < 20) (hg : (0 ≤ g 0 ∧ g 0 ≤ 1) ∧ (0 ≤ g 1 ∧ g 1 ≤ 7) ∧ (-65536 ≤ g 2 ∧ g 2 ≤ 65536) ∧ (-65536 ≤ g 3 ∧ g 3 ≤ 65536) ∧ (0 ≤ g 4 ∧ g 4 ≤ 65536) ∧ (0 ≤ g 5 ∧ g 5 ≤ 65536)) : FOK (nf + 1) (va_up fd nf g) := by
  refine ⟨by omega, fun i hi => ?_⟩
  by_cases q : i = nf
  · rw [q, va_up_self]; exact hg
  · rw [va_up_ne _ _ q]; exact h.2 i (by omega)
theorem some_up {n q : Nat} {f : Nat → Option Nat} {a : Nat → Nat} (h : ∀ i, i < n → f i = some (a i)) : ∀ i, i < n + 1 → va_up f n (some q) i = some (va_up a n q i) := fun i hi => by
  by_cases e : i = n
  · rw [e, va_up_self, va_up_self]
  · rw [va_up_ne _ _ e, va_up_ne _ _ e]; exact h i (by omega)
theorem wo_up {sp : Nat → Nat} {n : Nat} {w : Int} (hw : 0 ≤ w) (q : Nat) : va_up (fun j9 => ((sp j9 : Nat) : Int)) n w q = ((va_up sp n w.toNat q : Nat) : Int) := by
  by_cases e : q = n
  · rw [e, va_up_self, va_up_self]; omega
  · rw [va_up_ne _ _ e, va_up_ne _ _ e]
theorem up_same {f : Nat → Int} {n : Nat} {v : Int} (h : f n = v) : va_up f n v = f := by
  funext q
  by_cases e : q = n
  · rw [e, va_up_self]; exact h.symm
  · rw [va_up_ne _ _ e]
theorem pcOK_up {al wd ns : Nat} {p : Pc} (h : pcOK al wd ns p) : pcOK al wd (ns + 1) p := by
  obtain ⟨a, b, c, d, e⟩ := h
  exact ⟨a, b, c, d, by omega⟩
theorem kst_b {a st : Nat} (h1 : 1 ≤ a) (h2 : a ≤ 65536) (h3 : 1 ≤ st) : 1 ≤ (a + st - 1) / st ∧ (a + st - 1) / st ≤ 65536 := by
  refine ⟨(Nat.le_div_iff_mul_le (by omega)).mpr (by omega), Nat.le_trans (Nat.div_le_of_le_mul (m := a + st - 1) (n := a) ?_) h2⟩
  obtain ⟨b, rfl⟩ : ∃ b, a = b + 1 := ⟨a - 1, by omega⟩
  obtain ⟨t, rfl⟩ : ∃ t, st = t + 1 := ⟨st - 1, by omega⟩
  rw [Nat.add_mul, Nat.mul_add]
  have := Nat.zero_le (t * b)
  omega
theorem Mk_none (n : Nat) : Mk (fun _ => false) n = nI 0 := by
  induction n with
  | zero => rfl
  | succ n ih => rw [Mk_s, if_neg (by decide)]; exact ih
theorem put5 {sp : Nat → Nat} {f2 f4 f5 : Nat → Nat} {L : List Pc} {k : Nat} (hk : k < L.length) : putP sp 5 f5 0 L k = sp (putP sp 4 f4 0 L k) * putP sp 2 f2 0 L k := by
  rw [putP_0 hk, putP_0 hk, putP_0 hk]
  rfl

theorem IP.pb {wd : Nat} {al : Nat} {ns : Nat} {np : Nat} {cn : Nat → Nat} {f0 : Nat → Nat} {f1 : Nat → Nat} {f2 : Nat → Nat} {f3 : Nat → Nat} {f4 : Nat → Nat} {p0 : Nat → Nat} {p1 : Nat → Nat} {p2 : Nat → Nat} {p3 : Nat → Nat} {p4 : Nat → Nat} {bd : Int} {Pl : List Pc} (h : IP wd al ns np cn f0 f1 f2 f3 f4 p0 p1 p2 p3 p4 bd Pl) : ∀ k, k < np → (1 ≤ p2 k ∧ p0 k + p2 k ≤ al) ∧ (1 ≤ p3 k ∧ p1 k + p3 k ≤ wd) ∧ p4 k < ns := fun k hk => by
  obtain ⟨hnp, -, hPa, -, hpp, -⟩ := h
  have hk2 : k < Pl.length := by omega
  obtain ⟨a, b, c, d, e⟩ := hpp k hk2
  obtain ⟨r1, r2, r3, r4, r5⟩ := hPa _ (mem_getD hk2)
  rw [a, b, c, d, e]
  exact ⟨⟨r3, r1⟩, ⟨r4, r2⟩, r5⟩
theorem IP.fp {wd : Nat} {al : Nat} {ns : Nat} {np : Nat} {cn : Nat → Nat} {f0 : Nat → Nat} {f1 : Nat → Nat} {f2 : Nat → Nat} {f3 : Nat → Nat} {f4 : Nat → Nat} {p0 : Nat → Nat} {p1 : Nat → Nat} {p2 : Nat → Nat} {p3 : Nat → Nat} {p4 : Nat → Nat} {bd : Int} {Pl : List Pc} (h : IP wd al ns np cn f0 f1 f2 f3 f4 p0 p1 p2 p3 p4 bd Pl) : ∀ k, k < np → f0 k = p0 k ∧ f1 k = p1 k ∧ f2 k = p2 k ∧ f3 k = p3 k ∧ f4 k = p4 k := fun k hk => by
  obtain ⟨hnp, -, -, hpf, hpp, -⟩ := h
  have hk2 : k < Pl.length := by omega
  obtain ⟨a, b, c, d, e⟩ := hpp k hk2
  obtain ⟨a2, b2, c2, d2, e2⟩ := hpf k hk2
  rw [a, b, c, d, e, a2, b2, c2, d2, e2]
  exact ⟨rfl, rfl, rfl, rfl, rfl⟩
theorem IM.off {md : Nat} {al : Nat} {wd : Nat} {st : Nat} {nf : Nat} {mg : Nat} {fd : Nat → Nat → Int} {fX : Nat → Int32} {fY : Nat → Int32} {np : Nat} {f2 : Nat → Nat} {f4 : Nat → Nat} {f5 : Nat → Nat} {sp : Nat → Nat} {tot : Int} {ns : Nat} {pr : Nat → Int} {lp : Nat → Int} {Pl : List Pc} (q : md = 0) : IM md al wd st nf mg fd fX fY np f2 f4 f5 sp tot ns pr lp Pl := by
  have h : ∀ {P : Prop}, md = 1 → P := fun e => absurd (q.symm.trans e) (by decide)
  exact IM_of ⟨h, h, h, h, h⟩

theorem IM.on {md : Nat} {al : Nat} {wd : Nat} {st : Nat} {nf : Nat} {mg : Nat} {fd : Nat → Nat → Int} {fX : Nat → Int32} {fY : Nat → Int32} {np : Nat} {f2 : Nat → Nat} {f4 : Nat → Nat} {f5 : Nat → Nat} {sp : Nat → Nat} {tot : Int} {ns : Nat} {pr : Nat → Int} {lp : Nat → Int} {Pl : List Pc} (h : IM md al wd st nf mg fd fX fY np f2 f4 f5 sp tot ns pr lp Pl) (q : md = 1) : (∀ n b, 1 ≤ n → n ≤ al → b < n → fX (n * (n - 1) / 2 + b) = Mk (fM fd mg 1 (b * st) (n * st)) nf) ∧ (∀ n b, 1 ≤ n → n ≤ wd → b < n → fY (n * (n - 1) / 2 + b) = Mk (fM fd mg 0 (b * st) (n * st)) nf) ∧ (∀ k, k < np → f5 k = sp (f4 k) * f2 k) ∧ (tot = wL (fun j9 => ((sp j9 : Nat) : Int)) Pl) ∧ (∀ j, j < ns → pr j = lp j ∧ (-1000000000000 ≤ pr j ∧ pr j ≤ 1000000000000)) := by
  obtain ⟨a, b, c, d, e⟩ := h
  exact ⟨a q, b q, c q, d q, e q⟩

theorem ag_up {sal : Nat → Nat → Bool} {a i j : Nat} (h1 : a / 16 = i) (h2 : a % 16 = j) (q : Nat) : va_up (fun i9 => sal (i9 / 16) (i9 % 16)) a true q = va_up sal i (va_up (sal i) j true) (q / 16) (q % 16) := by
  by_cases e : q = a
  · rw [e, va_up_self, h1, h2, va_up_self, va_up_self]
  · rw [va_up_ne _ _ e]
    by_cases e1 : q / 16 = i
    · rw [e1, va_up_self, va_up_ne _ _ (show q % 16 ≠ j by omega)]
    · rw [va_up_ne _ _ e1]
