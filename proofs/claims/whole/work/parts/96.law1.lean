

theorem IP.pb {wd : Nat} {al : Nat} {np : Nat} {cn : Nat → Nat} {f0 : Nat → Nat} {f1 : Nat → Nat} {f2 : Nat → Nat} {f3 : Nat → Nat} {f4 : Nat → Nat} {p0 : Nat → Nat} {p1 : Nat → Nat} {p2 : Nat → Nat} {p3 : Nat → Nat} {p4 : Nat → Nat} {bd : Int} {Pl : List Pc} (h : IP wd al np cn f0 f1 f2 f3 f4 p0 p1 p2 p3 p4 bd Pl) : ∀ k, k < np → (1 ≤ p2 k ∧ p0 k + p2 k ≤ al) ∧ (1 ≤ p3 k ∧ p1 k + p3 k ≤ wd) ∧ p4 k < 8 := fun k hk => by
  obtain ⟨hnp, -, hPa, -, hpp, -⟩ := h
  have hk2 : k < Pl.length := by omega
  obtain ⟨a, b, c, d, e⟩ := hpp k hk2
  obtain ⟨r1, r2, r3, r4, r5⟩ := hPa _ (mem_getD hk2)
  rw [a, b, c, d, e]
  exact ⟨⟨r3, r1⟩, ⟨r4, r2⟩, r5⟩
theorem IP.fp {wd : Nat} {al : Nat} {np : Nat} {cn : Nat → Nat} {f0 : Nat → Nat} {f1 : Nat → Nat} {f2 : Nat → Nat} {f3 : Nat → Nat} {f4 : Nat → Nat} {p0 : Nat → Nat} {p1 : Nat → Nat} {p2 : Nat → Nat} {p3 : Nat → Nat} {p4 : Nat → Nat} {bd : Int} {Pl : List Pc} (h : IP wd al np cn f0 f1 f2 f3 f4 p0 p1 p2 p3 p4 bd Pl) : ∀ k, k < np → f0 k = p0 k ∧ f1 k = p1 k ∧ f2 k = p2 k ∧ f3 k = p3 k ∧ f4 k = p4 k := fun k hk => by
  obtain ⟨hnp, -, -, hpf, hpp, -⟩ := h
  have hk2 : k < Pl.length := by omega
  obtain ⟨a, b, c, d, e⟩ := hpp k hk2
  obtain ⟨a2, b2, c2, d2, e2⟩ := hpf k hk2
  rw [a, b, c, d, e, a2, b2, c2, d2, e2]
  exact ⟨rfl, rfl, rfl, rfl, rfl⟩
theorem IM.off {md : Nat} {al : Nat} {wd : Nat} {st : Nat} {nf : Nat} {mg : Nat} {fd : Nat → Nat → Int} {fX : Nat → Int32} {fY : Nat → Int32} {np : Nat} {f2 : Nat → Nat} {f4 : Nat → Nat} {f5 : Nat → Nat} {sp : Nat → Nat} {tot : Int} {ns : Nat} {pr : Nat → Int} {lp : Nat → Int} {Pl : List Pc} (q : md = 0) : IM md al wd st nf mg fd fX fY np f2 f4 f5 sp tot ns pr lp Pl := by
  have h : ∀ {P : Prop}, md = 1 → P := fun e => absurd (q.symm.trans e) (by decide)
  exact ⟨h, h, h, h, h, h⟩

theorem ag_up {sal : Nat → Nat → Bool} {a i j : Nat} (h1 : a / 16 = i) (h2 : a % 16 = j) (q : Nat) : va_up (fun i9 => sal (i9 / 16) (i9 % 16)) a true q = va_up sal i (va_up (sal i) j true) (q / 16) (q % 16) := by
  by_cases e : q = a
  · rw [e, va_up_self, h1, h2, va_up_self, va_up_self]
  · rw [va_up_ne _ _ e]
    by_cases e1 : q / 16 = i
    · rw [e1, va_up_self, va_up_ne _ _ (show q % 16 ≠ j by omega)]
    · rw [va_up_ne _ _ e1]
