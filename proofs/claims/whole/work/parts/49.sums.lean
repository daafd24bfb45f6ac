-- sums and numbers of lists of pieces
/-- what holds of all pieces of a line of segments -/
theorem sgA_all {Q : Pc → Prop} {seg : Nat → Nat → Int} {ok : Nat → Bool} {go : Nat → Nat → List Pc} {e : Nat} : ∀ n b : Nat, e - b = n → (∀ i j, b ≤ i → i < j → j ≤ e → 0 < seg i j → ∀ p, p ∈ go i j → Q p) → ∀ p, p ∈ sgA seg ok go b e → Q p := by
  intro n
  induction n using Nat.strongRecOn with
  | ind n ih =>
    intro b hn h p hp
    rcases Nat.lt_or_ge b e with hl | hg
    · by_cases q : pcK seg ok b e = 0
      · rw [sgA_0 hl q] at hp
        exact ih (n - 1) (by omega) (b + 1) (by omega) (fun i j h1 h2 h3 => h i j (by omega) h2 h3) p hp
      · have hk := pcK_b (by omega) q
        rw [sgA_1 hl q] at hp
        rcases List.mem_append.mp hp with a | a
        · exact h b _ (Nat.le_refl _) hk.1 hk.2.1 hk.2.2 p a
        · exact ih (e - pcK seg ok b e) (by omega) _ rfl (fun i j h1 h2 h3 => h i j (by omega) h2 h3) p a
    · rw [sgA_end hg] at hp
      exact absurd hp (List.not_mem_nil)
theorem FL_all {Q : Pc → Prop} {F0 : Rg} {wh : Nat → Nat → Nat → Nat → Nat} {ok : Nat → Nat → Bool} {al wd : Nat} (h : ∀ x0 x1 y0 y1, x0 < x1 → x1 ≤ al → y0 < y1 → y1 ≤ wd → 0 < F0 x0 x1 y0 y1 → Q (x0, y0, x1 - x0, y1 - y0, wh x0 x1 y0 y1)) : ∀ n ax x0 x1 y0 y1 : Nat, x0 < x1 → x1 ≤ al → y0 < y1 → y1 ≤ wd → 0 < FV F0 ok n ax x0 x1 y0 y1 ∨ 1 ≤ n → ∀ p, p ∈ FL F0 (pc0 wh) ok n ax x0 x1 y0 y1 → Q p := by
  intro n
  induction n with
  | zero =>
    intro ax x0 x1 y0 y1 h1 h2 h3 h4 h5 p hp
    rcases h5 with h5 | h5
    · rw [List.mem_singleton.mp hp]
      exact h x0 x1 y0 y1 h1 h2 h3 h4 h5
    · omega
  | succ n ih =>
    intro ax x0 x1 y0 y1 h1 h2 h3 h4 _ p hp
    unfold FL at hp
    by_cases q : ax = 0
    · rw [if_pos q] at hp
      exact sgA_all _ y0 rfl (fun i j a b c d => ih _ x0 x1 i j h1 h2 b (by omega) (Or.inl d)) p hp
    · rw [if_neg q] at hp
      exact sgA_all _ x0 rfl (fun i j a b c d => ih _ i j y0 y1 b (by omega) h3 h4 (Or.inl d)) p hp
abbrev pcD : Pc := (0, 0, 0, 0, 0)
theorem putP_lt {sp : Nat → Nat} {j i : Nat} : ∀ (L : List Pc) (f : Nat → Nat) (k : Nat), i < k → putP sp j f k L i = f i := by
  intro L
  induction L with
  | nil => intro f k _; rfl
  | cons p L ih =>
    intro f k h
    show putP sp j (va_up f k (pj sp j p)) (k + 1) L i = f i
    rw [ih _ _ (by omega), va_up_ne _ _ (by omega)]
theorem putP_at {sp : Nat → Nat} {j i : Nat} : ∀ (L : List Pc) (f : Nat → Nat) (k : Nat), i < L.length → putP sp j f k L (k + i) = pj sp j (L.getD i pcD) := by
  intro L
  induction L generalizing i with
  | nil => intro f k h; exact absurd h (Nat.not_lt_zero _)
  | cons p L ih =>
    intro f k h
    show putP sp j (va_up f k (pj sp j p)) (k + 1) L (k + i) = pj sp j ((p :: L).getD i pcD)
    cases i with
    | zero =>
      rw [putP_lt _ _ _ (by omega)]
      exact va_up_self _ _ _
    | succ i =>
      rw [show k + (i + 1) = k + 1 + i by omega, ih _ _ (by simpa using h)]
      rfl
theorem putP_0 {sp : Nat → Nat} {j i : Nat} {L : List Pc} {f : Nat → Nat} (h : i < L.length) : putP sp j f 0 L i = pj sp j (L.getD i pcD) := by
  have := putP_at (sp := sp) (j := j) L f 0 h
  rwa [Nat.zero_add] at this
theorem mem_getD {L : List Pc} {i : Nat} (h : i < L.length) : L.getD i pcD ∈ L := by
  rw [List.getD_eq_getElem?_getD, List.getElem?_eq_getElem h, Option.getD_some]
  exact List.getElem_mem h
/-- sums of the first n -/
def sumA (g : Nat → Int) : Nat → Int
  | 0 => 0
  | n + 1 => sumA g n + g n
theorem sumA_s (g : Nat → Int) (n : Nat) : sumA g (n + 1) = sumA g n + g n := rfl
theorem sumA_congr {g g' : Nat → Int} : ∀ n : Nat, (∀ i, i < n → g i = g' i) → sumA g n = sumA g' n := by
  intro n
  induction n with
  | zero => intro _; rfl
  | succ n ih => intro h; rw [sumA_s, sumA_s, ih (fun i hi => h i (by omega)), h n (by omega)]
theorem sumA_b {g : Nat → Int} {a b : Int} : ∀ n : Nat, (∀ i, i < n → a ≤ g i ∧ g i ≤ b) → a * n ≤ sumA g n ∧ sumA g n ≤ b * n := by
  intro n
  induction n with
  | zero => intro _; show a * ((0 : Nat) : Int) ≤ 0 ∧ (0 : Int) ≤ b * ((0 : Nat) : Int); simp
  | succ n ih =>
    intro h
    have h1 := ih (fun i hi => h i (by omega))
    have h2 := h n (by omega)
    rw [sumA_s, show ((n + 1 : Nat) : Int) = (n : Int) + 1 by omega, Int.mul_add, Int.mul_add, Int.mul_one, Int.mul_one]
    omega
theorem sumA_add (g h : Nat → Int) : ∀ n : Nat, sumA (fun i => g i + h i) n = sumA g n + sumA h n := by
  intro n
  induction n with
  | zero => rfl
  | succ n ih => rw [sumA_s, sumA_s, sumA_s, ih]; omega
theorem sumA_sub (g h : Nat → Int) : ∀ n : Nat, sumA (fun i => g i - h i) n = sumA g n - sumA h n := by
  intro n
  induction n with
  | zero => rfl
  | succ n ih => rw [sumA_s, sumA_s, sumA_s, ih]; omega
theorem sumA_0 (n : Nat) : sumA (fun _ => 0) n = 0 := by
  induction n with
  | zero => rfl
  | succ n ih => rw [sumA_s, ih]; rfl
/-- of a list -/
def sumG (g : Pc → Int) : List Pc → Int
  | [] => 0
  | p :: L => g p + sumG g L
theorem sumA_list (g : Pc → Int) : ∀ L : List Pc, sumA (fun i => g (L.getD i pcD)) L.length = sumG g L := by
  intro L
  have key : ∀ (L : List Pc) (k : Nat), k ≤ L.length → sumA (fun i => g (L.getD i pcD)) k + sumG g (L.drop k) = sumG g L := by
    intro L k
    induction k with
    | zero => intro _; rw [List.drop_zero]; show 0 + _ = _; omega
    | succ k ih =>
      intro hk
      have h1 := ih (by omega)
      rw [List.drop_eq_getElem_cons (by omega)] at h1
      rw [sumA_s, ← h1]
      show _ = sumA (fun i => g (L.getD i pcD)) k + (g L[k] + sumG g (List.drop (k + 1) L))
      rw [show L.getD k pcD = L[k] from by rw [List.getD_eq_getElem?_getD, List.getElem?_eq_getElem (by omega), Option.getD_some]]
      omega
  have := key L L.length (Nat.le_refl _)
  rw [List.drop_length] at this
  show _ = sumG g L
  have h0 : sumG g [] = 0 := rfl
  omega
theorem sumP_G (sp : Nat → Nat) : ∀ (L : List Pc) (t : Int), sumP sp t L = t + sumG (fun p => ((sp p.2.2.2.2 * p.2.2.1 : Nat) : Int)) L := by
  intro L
  induction L with
  | nil => intro t; show t = t + 0; omega
  | cons p L ih =>
    intro t
    show sumP sp (t + ((sp p.2.2.2.2 * p.2.2.1 : Nat) : Int)) L = t + (((sp p.2.2.2.2 * p.2.2.1 : Nat) : Int) + sumG _ L)
    rw [ih, Int.add_assoc]
/-- how many of a sort -/
def cntL (i : Nat) : List Pc → Nat
  | [] => 0
  | p :: L => (if p.2.2.2.2 = i then 1 else 0) + cntL i L
theorem cntP_L : ∀ (L : List Pc) (cn : Nat → Nat) (i : Nat), cntP cn L i = cn i + cntL i L := by
  intro L
  induction L with
  | nil => intro cn i; rfl
  | cons p L ih =>
    intro cn i
    show cntP (va_up cn p.2.2.2.2 (cn p.2.2.2.2 + 1)) L i = cn i + ((if p.2.2.2.2 = i then 1 else 0) + cntL i L)
    rw [ih]
    by_cases q : p.2.2.2.2 = i
    · rw [if_pos q, q, va_up_self]; omega
    · rw [if_neg q, va_up_ne _ _ (fun z => q z.symm)]; omega
theorem cntL_le (i : Nat) (L : List Pc) : cntL i L ≤ L.length := by
  induction L with
  | nil => exact Nat.le_refl _
  | cons p L ih => show (if p.2.2.2.2 = i then 1 else 0) + cntL i L ≤ L.length + 1; split <;> omega
theorem FVY {G F0 : Rg} {ok : Nat → Nat → Bool} {n x0 x1 y0 y1 : Nat} (hy : y0 ≤ y1) (hG : ∀ i j, y0 ≤ i → i < j → j ≤ y1 → G x0 x1 i j = FV F0 ok n 1 x0 x1 i j) : vY G (ok (n + 1)) x0 x1 y0 y1 = FV F0 ok (n + 1) 0 x0 x1 y0 y1 := dpV_congr _ y0 rfl hG hy
theorem FVX {G F0 : Rg} {ok : Nat → Nat → Bool} {n x0 x1 y0 y1 : Nat} (hx : x0 ≤ x1) (hG : ∀ i j, x0 ≤ i → i < j → j ≤ x1 → G i j y0 y1 = FV F0 ok n 0 i j y0 y1) : vX G (ok (n + 1)) x0 x1 y0 y1 = FV F0 ok (n + 1) 1 x0 x1 y0 y1 := dpV_congr _ x0 rfl hG hx
theorem FLY {G F0 : Rg} {H P : Lg} {ok : Nat → Nat → Bool} {n x0 x1 y0 y1 : Nat} (hG : ∀ i j, y0 ≤ i → i < j → j ≤ y1 → G x0 x1 i j = FV F0 ok n 1 x0 x1 i j) (hH : ∀ i j, y0 ≤ i → i < j → j ≤ y1 → H x0 x1 i j = FL F0 P ok n 1 x0 x1 i j) : lY G (ok (n + 1)) H x0 x1 y0 y1 = FL F0 P ok (n + 1) 0 x0 x1 y0 y1 := sgA_pos _ y0 rfl (fun i j a b c => same_eq (hG i j a b c)) (fun i j a b c _ => hH i j a b c)
theorem FLX {G F0 : Rg} {H P : Lg} {ok : Nat → Nat → Bool} {n x0 x1 y0 y1 : Nat} (hG : ∀ i j, x0 ≤ i → i < j → j ≤ x1 → G i j y0 y1 = FV F0 ok n 0 i j y0 y1) (hH : ∀ i j, x0 ≤ i → i < j → j ≤ x1 → H i j y0 y1 = FL F0 P ok n 0 i j y0 y1) : lX G (ok (n + 1)) H x0 x1 y0 y1 = FL F0 P ok (n + 1) 1 x0 x1 y0 y1 := sgA_pos _ x0 rfl (fun i j a b c => same_eq (hG i j a b c)) (fun i j a b c _ => hH i j a b c)
theorem bp_u {ok : Nat → Bool} {v : Nat → Int} {B : Int} (hB : 0 ≤ B) : ∀ n : Nat, (∀ j, j < n → v j ≤ B) → (bp ok v n).1 ≤ B := by
  intro n
  induction n with
  | zero => intro _; exact hB
  | succ n ih =>
    intro h
    rw [bp_s]
    split
    · exact h n (by omega)
    · exact ih (fun j hj => h j (by omega))
theorem bp_w {ok : Nat → Bool} {v : Nat → Int} : ∀ n : Nat, ((bp ok v n).2.1 = 0 → (bp ok v n).1 = 0) ∧ ((bp ok v n).2.1 ≠ 0 → (bp ok v n).2.2 < n ∧ ok (bp ok v n).2.2 = true ∧ (bp ok v n).1 = v (bp ok v n).2.2) := by
  intro n
  induction n with
  | zero => exact ⟨fun _ => rfl, fun h => absurd rfl h⟩
  | succ n ih =>
    rw [bp_s]
    split
    · rename_i h
      exact ⟨fun z => absurd z (by show ¬ (1 = 0); omega), fun _ => ⟨by show n < n + 1; omega, h.2, rfl⟩⟩
    · exact ⟨ih.1, fun z => ⟨by have := (ih.2 z).1; omega, (ih.2 z).2⟩⟩
/-- the reference's best piece by regions -/
def mBp (ag : Nat → Bool) (fd : Nat → Nat → Int) (mg st bw nf : Nat) (sw lo hi : Nat → Nat) (wo pr : Nat → Int) (ns x0 x1 y0 y1 : Nat) : Int × Nat × Nat := bp (mB ag fd mg st bw nf sw lo hi x0 (x1 - x0) y0 (y1 - y0)) (fun z9 => wo z9 * ((x1 - x0 : Nat) : Int) - pr z9) ns
def mE (ag : Nat → Bool) (fd : Nat → Nat → Int) (mg st bw nf : Nat) (sw lo hi : Nat → Nat) (wo pr : Nat → Int) (ns : Nat) : Rg := fun x0 x1 y0 y1 => 1024 * (mBp ag fd mg st bw nf sw lo hi wo pr ns x0 x1 y0 y1).1 - ((mBp ag fd mg st bw nf sw lo hi wo pr ns x0 x1 y0 y1).2.1 : Int)
def mW (ag : Nat → Bool) (fd : Nat → Nat → Int) (mg st bw nf : Nat) (sw lo hi : Nat → Nat) (wo pr : Nat → Int) (ns x0 x1 y0 y1 : Nat) : Nat := (mBp ag fd mg st bw nf sw lo hi wo pr ns x0 x1 y0 y1).2.2
theorem wo_b {wo pr : Nat → Int} {ns m : Nat} (h : ∀ j, j < ns → (1 ≤ wo j ∧ wo j ≤ 100000) ∧ 0 ≤ pr j ∧ pr j ≤ 1000000000) (hm : m ≤ 24) : ∀ j, j < ns → -2000000000 ≤ wo j * (m : Int) - pr j ∧ wo j * (m : Int) - pr j ≤ 2400000 := by
  intro j hj
  have q := h j hj
  have q1 : 0 ≤ wo j * (m : Int) := Int.mul_nonneg (by omega) (by omega)
  have q2 : wo j * (m : Int) ≤ 100000 * 24 := Int.le_trans (Int.mul_le_mul_of_nonneg_right q.1.2 (by omega)) (Int.mul_le_mul_of_nonneg_left (by omega) (by omega))
  omega
theorem mBp_ok {ag : Nat → Bool} {fd : Nat → Nat → Int} {mg st bw nf : Nat} {sw lo hi : Nat → Nat} {wo pr : Nat → Int} {ns x0 x1 y0 y1 : Nat} (hp : ∀ j, j < ns → (1 ≤ wo j ∧ wo j ≤ 100000) ∧ 0 ≤ pr j ∧ pr j ≤ 1000000000) (h1 : x1 ≤ 24) {v : Nat → Int} {c : Nat → Nat} (hx : x0 < x1) (hy : y0 < y1) (hv : v (((25 * x0 + x1) * 11 + y0) * 11 + y1) = (mBp ag fd mg st bw nf sw lo hi wo pr ns x0 x1 y0 y1).1) (hc : c (((25 * x0 + x1) * 11 + y0) * 11 + y1) = (mBp ag fd mg st bw nf sw lo hi wo pr ns x0 x1 y0 y1).2.1) : mOK v c x0 x1 y0 y1 ∧ v (((25 * x0 + x1) * 11 + y0) * 11 + y1) ≤ 2400000 := by
  unfold mOK
  rw [hv, hc]
  have hb := wo_b (m := x1 - x0) hp (by omega)
  have b1 := bp_b (ok := mB ag fd mg st bw nf sw lo hi x0 (x1 - x0) y0 (y1 - y0)) (v := fun z9 => wo z9 * ((x1 - x0 : Nat) : Int) - pr z9) (B := 2000000000) (by omega) ns (fun j hj => by have := hb j hj; show -2000000000 ≤ wo j * ((x1 - x0 : Nat) : Int) - pr j ∧ wo j * ((x1 - x0 : Nat) : Int) - pr j ≤ 2000000000; omega)
  have b2 := bp_u (ok := mB ag fd mg st bw nf sw lo hi x0 (x1 - x0) y0 (y1 - y0)) (v := fun z9 => wo z9 * ((x1 - x0 : Nat) : Int) - pr z9) (B := 2400000) (by omega) ns (fun j hj => (hb j hj).2)
  have b3 := bp_c (mB ag fd mg st bw nf sw lo hi x0 (x1 - x0) y0 (y1 - y0)) (fun z9 => wo z9 * ((x1 - x0 : Nat) : Int) - pr z9) ns
  have b4 := (bp_w (ok := mB ag fd mg st bw nf sw lo hi x0 (x1 - x0) y0 (y1 - y0)) (v := fun z9 => wo z9 * ((x1 - x0 : Nat) : Int) - pr z9) ns).1
  have b5 : 1 ≤ (x1 - x0) * (y1 - y0) := Nat.mul_pos (by omega) (by omega)
  unfold mBp
  exact ⟨⟨by omega, b4, b1.1, by omega⟩, b2⟩
/-- a piece that lies on the board -/
def pcOK (al ac ns : Nat) (p : Pc) : Prop := p.1 + p.2.2.1 ≤ al ∧ p.2.1 + p.2.2.2.1 ≤ ac ∧ 1 ≤ p.2.2.1 ∧ 1 ≤ p.2.2.2.1 ∧ p.2.2.2.2 < ns
theorem mE_all {ag : Nat → Bool} {fd : Nat → Nat → Int} {mg st bw nf : Nat} {sw lo hi : Nat → Nat} {wo pr : Nat → Int} {ns al ac : Nat} {ok : Nat → Nat → Bool} (ha : 1 ≤ al) (hc : 1 ≤ ac) {tp ax : Nat} (ht : 1 ≤ tp) : ∀ p, p ∈ FL (mE ag fd mg st bw nf sw lo hi wo pr ns) (pc0 (mW ag fd mg st bw nf sw lo hi wo pr ns)) ok tp ax 0 al 0 ac → pcOK al ac ns p := by
  refine FL_all (al := al) (wd := ac) (fun x0 x1 y0 y1 h1 h2 h3 h4 h5 => ?_) tp ax 0 al 0 ac (by omega) (Nat.le_refl _) (by omega) (Nat.le_refl _) (Or.inr ht)
  have hw := bp_w (ok := mB ag fd mg st bw nf sw lo hi x0 (x1 - x0) y0 (y1 - y0)) (v := fun z9 => wo z9 * ((x1 - x0 : Nat) : Int) - pr z9) ns
  refine ⟨by show x0 + (x1 - x0) ≤ al; omega, by show y0 + (y1 - y0) ≤ ac; omega, by show 1 ≤ x1 - x0; omega, by show 1 ≤ y1 - y0; omega, ?_⟩
  refine (hw.2 (fun z => ?_)).1
  unfold mE mBp at h5
  rw [z, hw.1 z] at h5
  exact absurd h5 (by decide)
theorem mE_len {F0 : Rg} {wh : Nat → Nat → Nat → Nat → Nat} {ok : Nat → Nat → Bool} {tp ax al ac : Nat} (ha : 1 ≤ al ∧ al ≤ 24) (hc : 1 ≤ ac ∧ ac ≤ 10) : (FL F0 (pc0 wh) ok tp ax 0 al 0 ac).length ≤ 240 := Nat.le_trans (FL_len tp ax 0 al 0 ac (by omega) (by omega)) (Nat.mul_le_mul (show al - 0 ≤ 24 by omega) (show ac - 0 ≤ 10 by omega))
-- the two sides' plans: the same pieces
/-- the levels' worths and pieces are the same where the lowest's are, above 0 -/
theorem FV_pos {F0 F0' : Rg} {ok : Nat → Nat → Bool} {al wd : Nat} (h : ∀ x0 x1 y0 y1, x0 < x1 → x1 ≤ al → y0 < y1 → y1 ≤ wd → sameP (F0 x0 x1 y0 y1) (F0' x0 x1 y0 y1)) : ∀ n ax x0 x1 y0 y1 : Nat, x0 < x1 → x1 ≤ al → y0 < y1 → y1 ≤ wd → sameP (FV F0 ok n ax x0 x1 y0 y1) (FV F0' ok n ax x0 x1 y0 y1) := by
  intro n
  induction n with
  | zero => intro ax; exact h
  | succ n ih =>
    intro ax x0 x1 y0 y1 h1 h2 h3 h4
    unfold FV
    by_cases q : ax = 0
    · rw [if_pos q, if_pos q]
      exact same_eq (dpV_pos _ y0 rfl (fun i j a b c => ih _ x0 x1 i j h1 h2 b (by omega)) (by omega))
    · rw [if_neg q, if_neg q]
      exact same_eq (dpV_pos _ x0 rfl (fun i j a b c => ih _ i j y0 y1 b (by omega) h3 h4) (by omega))
theorem FL_pos {F0 F0' : Rg} {wh wh' : Nat → Nat → Nat → Nat → Nat} {ok : Nat → Nat → Bool} {al wd : Nat} (h : ∀ x0 x1 y0 y1, x0 < x1 → x1 ≤ al → y0 < y1 → y1 ≤ wd → sameP (F0 x0 x1 y0 y1) (F0' x0 x1 y0 y1)) (hw : ∀ x0 x1 y0 y1, x0 < x1 → x1 ≤ al → y0 < y1 → y1 ≤ wd → 0 < F0 x0 x1 y0 y1 → wh x0 x1 y0 y1 = wh' x0 x1 y0 y1) : ∀ n ax x0 x1 y0 y1 : Nat, x0 < x1 → x1 ≤ al → y0 < y1 → y1 ≤ wd → 0 < FV F0 ok n ax x0 x1 y0 y1 ∨ 1 ≤ n → FL F0 (pc0 wh) ok n ax x0 x1 y0 y1 = FL F0' (pc0 wh') ok n ax x0 x1 y0 y1 := by
  intro n
  induction n with
  | zero =>
    intro ax x0 x1 y0 y1 h1 h2 h3 h4 h5
    show [(x0, y0, x1 - x0, y1 - y0, wh x0 x1 y0 y1)] = [(x0, y0, x1 - x0, y1 - y0, wh' x0 x1 y0 y1)]
    rw [hw x0 x1 y0 y1 h1 h2 h3 h4 (h5.elim id (fun z => absurd z (by omega)))]
  | succ n ih =>
    intro ax x0 x1 y0 y1 h1 h2 h3 h4 _
    unfold FL
    by_cases q : ax = 0
    · rw [if_pos q, if_pos q]
      exact sgA_pos _ y0 rfl (fun i j a b c => FV_pos h n _ x0 x1 i j h1 h2 b (by omega)) (fun i j a b c d => ih _ x0 x1 i j h1 h2 b (by omega) (Or.inl d))
    · rw [if_neg q, if_neg q]
      exact sgA_pos _ x0 rfl (fun i j a b c => FV_pos h n _ i j y0 y1 b (by omega) h3 h4) (fun i j a b c d => ih _ i j y0 y1 b (by omega) h3 h4 (Or.inl d))
/-- the class's lowest table and the reference's best piece -/
theorem bse_bp {ok : Nat → Bool} {v ev : Nat → Int} (hev : ∀ j, ev j = 1024 * v j - 1) : ∀ n : Nat, (bp ok v n).2.1 ≤ 1 ∧ ((bp ok v n).2.1 = 0 → (bp ok v n).1 = 0 ∧ bse ok ev n = 0) ∧ ((bp ok v n).2.1 = 1 → (0 < 1024 * (bp ok v n).1 - 1 → bse ok ev n = 1024 * (bp ok v n).1 - 1 ∧ whi ok ev n = (bp ok v n).2.2) ∧ (1024 * (bp ok v n).1 - 1 ≤ 0 → bse ok ev n = 0)) := by
  intro n
  induction n with
  | zero => exact ⟨Nat.zero_le _, fun _ => ⟨rfl, rfl⟩, fun h => absurd h (by show ¬ (0 = 1); omega)⟩
  | succ n ih =>
    obtain ⟨i1, i2, i3⟩ := ih
    rw [bp_s, bse_s]
    unfold lsV
    rw [show whi ok ev (n + 1) = if ok n = true ∧ bse ok ev n < ev n then n else whi ok ev n from rfl]
    have he := hev n
    by_cases ho : ok n = true
    · rcases Nat.lt_or_ge (bp ok v n).2.1 1 with q | q
      · have q0 : (bp ok v n).2.1 = 0 := by omega
        have := i2 q0
        rw [if_pos ⟨Or.inl q0, ho⟩, this.2]
        refine ⟨Nat.le_refl _, fun h => absurd h (by show ¬ (1 = 0); omega), fun _ => ⟨fun h => ?_, fun h => ?_⟩⟩
        · have h' : 0 < 1024 * v n - 1 := h
          rw [if_pos ⟨ho, by omega⟩, if_pos ⟨ho, by omega⟩]
          exact ⟨he, rfl⟩
        · have h' : 1024 * v n - 1 ≤ 0 := h
          rw [if_neg (fun z => by omega)]
      · have q1 : (bp ok v n).2.1 = 1 := by omega
        have h3 := i3 q1
        by_cases hb : (bp ok v n).1 < v n
        · rw [if_pos ⟨Or.inr hb, ho⟩]
          refine ⟨Nat.le_refl _, fun h => absurd h (by show ¬ (1 = 0); omega), fun _ => ⟨fun h => ?_, fun h => ?_⟩⟩
          · have h' : 0 < 1024 * v n - 1 := h
            have hlt : bse ok ev n < ev n := by
              rcases Int.lt_or_le 0 (1024 * (bp ok v n).1 - 1) with z | z
              · have := (h3.1 z).1; omega
              · have := h3.2 z; omega
            rw [if_pos ⟨ho, hlt⟩, if_pos ⟨ho, hlt⟩]
            exact ⟨he, rfl⟩
          · have h' : 1024 * v n - 1 ≤ 0 := h
            have := h3.2 (by omega)
            rw [if_neg (fun z => by omega)]
            exact this
        · rw [if_neg (fun z => z.1.elim (fun a => by omega) hb)]
          have hnlt : ¬ (ok n = true ∧ bse ok ev n < ev n) := by
            intro z
            rcases Int.lt_or_le 0 (1024 * (bp ok v n).1 - 1) with y | y
            · have := (h3.1 y).1; omega
            · have := h3.2 y; omega
          rw [if_neg hnlt, if_neg hnlt]
          exact ⟨i1, i2, i3⟩
    · rw [if_neg (fun z => ho z.2), if_neg (fun z => ho z.1), if_neg (fun z => ho z.1)]
      exact ⟨i1, i2, i3⟩
theorem bse_congr {ok ok' : Nat → Bool} {ev ev' : Nat → Int} : ∀ n : Nat, (∀ j, j < n → ok j = ok' j) → (∀ j, j < n → ev j = ev' j) → bse ok ev n = bse ok' ev' n ∧ whi ok ev n = whi ok' ev' n := by
  intro n
  induction n with
  | zero => intro _ _; exact ⟨rfl, rfl⟩
  | succ n ih =>
    intro h1 h2
    have := ih (fun j hj => h1 j (by omega)) (fun j hj => h2 j (by omega))
    rw [bse_s, bse_s]
    unfold lsV
    rw [show whi ok ev (n + 1) = if ok n = true ∧ bse ok ev n < ev n then n else whi ok ev n from rfl, show whi ok' ev' (n + 1) = if ok' n = true ∧ bse ok' ev' n < ev' n then n else whi ok' ev' n from rfl]
    rw [this.1, this.2, h1 n (by omega), h2 n (by omega)]
    exact ⟨rfl, rfl⟩
/-- the two lowest levels by regions -/
theorem low_same {ok : Nat → Bool} {v ev : Nat → Int} {n : Nat} (hev : ∀ j, ev j = 1024 * v j - 1) : sameP (bse ok ev n) (1024 * (bp ok v n).1 - ((bp ok v n).2.1 : Int)) ∧ (0 < bse ok ev n → whi ok ev n = (bp ok v n).2.2 ∧ (bp ok v n).2.1 ≠ 0) := by
  obtain ⟨i1, i2, i3⟩ := bse_bp (ok := ok) hev n
  rcases Nat.lt_or_ge (bp ok v n).2.1 1 with q | q
  · have q0 : (bp ok v n).2.1 = 0 := by omega
    have h := i2 q0
    rw [q0, h.1, h.2]
    exact ⟨fun z => by omega, fun z => absurd z (by omega)⟩
  · have q1 : (bp ok v n).2.1 = 1 := by omega
    have h := i3 q1
    rcases Int.lt_or_le 0 (1024 * (bp ok v n).1 - 1) with z | z
    · have := h.1 z
      rw [q1]
      exact ⟨fun _ => this.1, fun _ => ⟨this.2, by omega⟩⟩
    · have := h.2 z
      rw [q1, this]
      exact ⟨fun y => by omega, fun y => absurd y (by omega)⟩
theorem ceil_le {a b c : Nat} (h : 1 ≤ b) : (a + b - 1) / b ≤ c ↔ a ≤ c * b := by
  rw [Nat.div_le_iff_le_mul_add_pred (by omega), Nat.mul_comm c b]
  omega
theorem rOK_mB {sA nf st al bw mg : Nat} {sw sl sm lo hi : Nat → Nat} {sb fX fY : Nat → Int32} {fd : Nat → Nat → Int} {sal : Nat → Nat → Bool} {ag : Nat → Bool} {x mm y d j : Nat} (hn : nf ≤ 32) (hst : 1 ≤ st) (hX : fX ((x + mm) * (x + mm - 1) / 2 + x) = Mk (fM fd mg 1 (x * st) ((x + mm) * st)) nf) (hY : fY ((y + d) * (y + d - 1) / 2 + y) = Mk (fM fd mg 0 (y * st) ((y + d) * st)) nf) (hsl : sl j = (lo j + st - 1) / st) (hsm : sm j = min al (min (hi j) bw / st)) (hsb : sb j = Mk (fun z9 => !(sal j (fd z9 0 * 8 + fd z9 1).toNat)) nf) (hag : ∀ i, i < nf → ag ((((16 * j : Nat) : Int) + ((8 : Nat) : Int) * fd i 0) + fd i 1).toNat = sal j (fd i 0 * 8 + fd i 1).toNat) (hmm : x + mm ≤ al) (hal : al ≤ 24) : rOK sA sw sl sm sb fX fY y d x mm j = mB ag fd mg st bw nf sw lo hi x mm y d j := by
  rw [Bool.eq_iff_iff]
  unfold rOK mB
  rw [Bool.and_eq_true, Bool.and_eq_true, Bool.and_eq_true, decide_eq_true_eq, decide_eq_true_eq, decide_eq_true_eq, decide_eq_true_eq, allB_iff, hX, hY, hsb, Mk_and3 hn, hsl, hsm, ceil_le hst]
  have h1 : mm ≤ min al (min (hi j) bw / st) ↔ mm ≤ al ∧ mm * st ≤ hi j ∧ mm * st ≤ bw := by
    rw [Nat.le_min, Nat.le_div_iff_mul_le (by omega), Nat.le_min]
  rw [h1]
  have h2 : (∀ i, i < nf → (fM fd mg 1 (x * st) ((x + mm) * st) i && fM fd mg 0 (y * st) ((y + d) * st) i && !(sal j (fd i 0 * 8 + fd i 1).toNat)) = false) ↔ ∀ i, i < nf → mP ag fd mg st x mm y d j i = true := by
    constructor
    · intro h i hi
      have := h i hi
      unfold mP col
      rw [hag i hi]
      revert this
      cases sal j (fd i 0 * 8 + fd i 1).toNat <;> cases fM fd mg 1 (x * st) ((x + mm) * st) i <;> cases fM fd mg 0 (y * st) ((y + d) * st) i <;> simp
    · intro h i hi
      have := h i hi
      unfold mP col at this
      rw [hag i hi] at this
      revert this
      cases sal j (fd i 0 * 8 + fd i 1).toNat <;> cases fM fd mg 1 (x * st) ((x + mm) * st) i <;> cases fM fd mg 0 (y * st) ((y + d) * st) i <;> simp
  rw [h2]
  constructor
  · rintro ⟨a, b, c⟩
    exact ⟨⟨a.symm, b.1, b.2.2.2.1, b.2.2.2.2⟩, c⟩
  · rintro ⟨⟨a, b1, b2, b3⟩, c⟩
    exact ⟨a.symm, ⟨b1, by omega, by omega, b2, b3⟩, c⟩
