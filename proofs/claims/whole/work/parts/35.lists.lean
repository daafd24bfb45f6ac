-- plans as lists of pieces: x, y, along, wide, which
abbrev Pc := Nat × Nat × Nat × Nat × Nat
abbrev Rg := Nat → Nat → Nat → Nat → Int
def pj (sp : Nat → Nat) : Nat → Pc → Nat
  | 0, p => p.1
  | 1, p => p.2.1
  | 2, p => p.2.2.1
  | 3, p => p.2.2.2.1
  | 4, p => p.2.2.2.2
  | _, p => sp p.2.2.2.2 * p.2.2.1
/-- an array with a list laid from place k on -/
def putP (sp : Nat → Nat) (j : Nat) : (Nat → Nat) → Nat → List Pc → Nat → Nat
  | f, _, [] => f
  | f, k, p :: L => putP sp j (va_up f k (pj sp j p)) (k + 1) L
def cntP : (Nat → Nat) → List Pc → Nat → Nat
  | cn, [] => cn
  | cn, p :: L => cntP (va_up cn p.2.2.2.2 (cn p.2.2.2.2 + 1)) L
def sumP (sp : Nat → Nat) : Int → List Pc → Int
  | t, [] => t
  | t, p :: L => sumP sp (t + ((sp p.2.2.2.2 * p.2.2.1 : Nat) : Int)) L
theorem putP_app (sp : Nat → Nat) (j : Nat) (f : Nat → Nat) (k : Nat) (L M : List Pc) : putP sp j f k (L ++ M) = putP sp j (putP sp j f k L) (k + L.length) M := by
  induction L generalizing f k with
  | nil => rfl
  | cons p L ih =>
    show putP sp j (va_up f k (pj sp j p)) (k + 1) (L ++ M) = putP sp j (putP sp j (va_up f k (pj sp j p)) (k + 1) L) (k + (L.length + 1)) M
    rw [ih, show k + 1 + L.length = k + (L.length + 1) by omega]
theorem cntP_app (cn : Nat → Nat) (L M : List Pc) : cntP cn (L ++ M) = cntP (cntP cn L) M := by
  induction L generalizing cn with
  | nil => rfl
  | cons p L ih => exact ih _
theorem sumP_app (sp : Nat → Nat) (t : Int) (L M : List Pc) : sumP sp t (L ++ M) = sumP sp (sumP sp t L) M := by
  induction L generalizing t with
  | nil => rfl
  | cons p L ih => exact ih _
theorem lenP_app (n : Nat) (L M : List Pc) : n + (L ++ M).length = n + L.length + M.length := by
  rw [List.length_append]; omega
/-- where the longest segment ends that the best goes on with; 0: none -/
def pcK (seg : Nat → Nat → Int) (ok : Nat → Bool) (b e : Nat) : Nat := pck seg ok (fun z9 => dpV seg ok z9 e) b (dpV seg ok b e) (e - b)
theorem pck_b {seg : Nat → Nat → Int} {ok : Nat → Bool} {r : Nat → Int} {b : Nat} {best : Int} : ∀ n : Nat, pck seg ok r b best n ≠ 0 → b < pck seg ok r b best n ∧ pck seg ok r b best n ≤ b + n ∧ 0 < seg b (pck seg ok r b best n) := by
  intro n
  induction n with
  | zero => intro h; exact absurd rfl h
  | succ n ih =>
    intro h
    rw [pck_s] at h ⊢
    by_cases q : 0 < seg b (b + 1 + n) ∧ seg b (b + 1 + n) + r (b + 1 + n) = best ∧ ok (n + 1) = true
    · rw [if_pos q]
      exact ⟨by omega, by omega, q.1⟩
    · rw [if_neg q] at h ⊢
      have := ih h
      exact ⟨this.1, by omega, this.2.2⟩
theorem pcK_b {seg : Nat → Nat → Int} {ok : Nat → Bool} {b e : Nat} (hb : b ≤ e) (h : pcK seg ok b e ≠ 0) : b < pcK seg ok b e ∧ pcK seg ok b e ≤ e ∧ 0 < seg b (pcK seg ok b e) := by
  have := pck_b _ h
  unfold pcK
  exact ⟨this.1, by omega, this.2.2⟩
/-- two worths that are the same where one is above 0 -/
def sameP (x y : Int) : Prop := 0 < x ∨ 0 < y → x = y
theorem sameP_pos {x y : Int} (h : sameP x y) : 0 < x ↔ 0 < y := ⟨fun q => by rw [← h (Or.inl q)]; exact q, fun q => by rw [h (Or.inr q)]; exact q⟩
theorem dpS_pos {seg seg' : Nat → Nat → Int} {ok : Nat → Bool} {r r' : Nat → Int} {b : Nat} {z : Int} : ∀ n : Nat, (∀ j, j < n → sameP (seg b (b + 1 + j)) (seg' b (b + 1 + j))) → (∀ j, j < n → r (b + 1 + j) = r' (b + 1 + j)) → dpS seg ok r b z n = dpS seg' ok r' b z n := by
  intro n
  induction n with
  | zero => intro _ _; rfl
  | succ n ih =>
    intro h1 h2
    have hs := h1 n (by omega)
    rw [dpS_s, dpS_s, ih (fun j hj => h1 j (by omega)) (fun j hj => h2 j (by omega)), h2 n (by omega)]
    by_cases q : 0 < seg b (b + 1 + n)
    · rw [hs (Or.inl q)]
    · have q2 : ¬ 0 < seg' b (b + 1 + n) := fun z => q ((sameP_pos hs).mpr z)
      rw [if_neg (fun z => q z.1), if_neg (fun z => q2 z.1)]
theorem dpV_pos {seg seg' : Nat → Nat → Int} {ok : Nat → Bool} {e : Nat} : ∀ n b : Nat, e - b = n → (∀ i j, b ≤ i → i < j → j ≤ e → sameP (seg i j) (seg' i j)) → b ≤ e → dpV seg ok b e = dpV seg' ok b e := by
  intro n
  induction n using Nat.strongRecOn with
  | ind n ih =>
    intro b hn h hb
    rcases Nat.lt_or_ge b e with hl | hg
    · rw [dpV_step hl, dpV_step hl, ih (n - 1) (by omega) (b + 1) (by omega) (fun i j h1 h2 h3 => h i j (by omega) h2 h3) hl]
      refine dpS_pos (e - b) (fun j hj => h _ _ (by omega) (by omega) (by omega)) (fun j hj => ?_)
      exact ih (e - (b + 1 + j)) (by omega) (b + 1 + j) rfl (fun i k h1 h2 h3 => h i k (by omega) h2 h3) (by omega)
    · have : b = e := by omega
      subst this
      rw [dpV_end, dpV_end]
theorem pck_pos {seg seg' : Nat → Nat → Int} {ok : Nat → Bool} {r r' : Nat → Int} {b : Nat} {best : Int} : ∀ n : Nat, (∀ j, j < n → sameP (seg b (b + 1 + j)) (seg' b (b + 1 + j))) → (∀ j, j < n → r (b + 1 + j) = r' (b + 1 + j)) → pck seg ok r b best n = pck seg' ok r' b best n := by
  intro n
  induction n with
  | zero => intro _ _; rfl
  | succ n ih =>
    intro h1 h2
    have hs := h1 n (by omega)
    rw [pck_s, pck_s, ih (fun j hj => h1 j (by omega)) (fun j hj => h2 j (by omega)), h2 n (by omega)]
    by_cases q : 0 < seg b (b + 1 + n)
    · rw [hs (Or.inl q)]
    · have q2 : ¬ 0 < seg' b (b + 1 + n) := fun z => q ((sameP_pos hs).mpr z)
      rw [if_neg (fun z => q z.1), if_neg (fun z => q2 z.1)]
theorem pcK_pos {seg seg' : Nat → Nat → Int} {ok : Nat → Bool} {b e : Nat} (hb : b ≤ e) (h : ∀ i j, b ≤ i → i < j → j ≤ e → sameP (seg i j) (seg' i j)) : pcK seg ok b e = pcK seg' ok b e := by
  unfold pcK
  rw [dpV_pos (seg' := seg') _ b rfl h hb]
  exact pck_pos _ (fun j hj => h _ _ (by omega) (by omega) (by omega)) (fun j hj => dpV_pos _ _ rfl (fun i k h1 h2 h3 => h i k (by omega) h2 h3) (by omega))
theorem same_eq {x y : Int} (h : x = y) : sameP x y := fun _ => h
/-- the pieces of the segments from b on to e -/
def sgL (seg : Nat → Nat → Int) (ok : Nat → Bool) (go : Nat → Nat → List Pc) (e : Nat) : Nat → Nat → List Pc
  | 0, _ => []
  | n + 1, b => if e ≤ b then [] else if pcK seg ok b e = 0 then sgL seg ok go e n (b + 1) else go b (pcK seg ok b e) ++ sgL seg ok go e n (pcK seg ok b e)
theorem sgL_s (seg : Nat → Nat → Int) (ok : Nat → Bool) (go : Nat → Nat → List Pc) (e n b : Nat) : sgL seg ok go e (n + 1) b = if e ≤ b then [] else if pcK seg ok b e = 0 then sgL seg ok go e n (b + 1) else go b (pcK seg ok b e) ++ sgL seg ok go e n (pcK seg ok b e) := rfl
theorem sgL_n {seg : Nat → Nat → Int} {ok : Nat → Bool} {go : Nat → Nat → List Pc} {e : Nat} : ∀ n m b : Nat, e - b ≤ n → e - b ≤ m → sgL seg ok go e n b = sgL seg ok go e m b := by
  intro n
  induction n with
  | zero =>
    intro m b h1 h2
    cases m with
    | zero => rfl
    | succ m => rw [sgL_s, if_pos (by omega)]; rfl
  | succ n ih =>
    intro m b h1 h2
    cases m with
    | zero => rw [sgL_s, if_pos (by omega)]; rfl
    | succ m =>
      rw [sgL_s, sgL_s]
      by_cases q : e ≤ b
      · rw [if_pos q, if_pos q]
      · rw [if_neg q, if_neg q]
        by_cases q2 : pcK seg ok b e = 0
        · rw [if_pos q2, if_pos q2]
          exact ih m (b + 1) (by omega) (by omega)
        · rw [if_neg q2, if_neg q2]
          have := pcK_b (by omega) q2
          rw [ih m _ (by omega) (by omega)]
def sgA (seg : Nat → Nat → Int) (ok : Nat → Bool) (go : Nat → Nat → List Pc) (b e : Nat) : List Pc := sgL seg ok go e (e - b) b
theorem sgA_end {seg : Nat → Nat → Int} {ok : Nat → Bool} {go : Nat → Nat → List Pc} {b e : Nat} (h : e ≤ b) : sgA seg ok go b e = [] := by
  unfold sgA
  rw [show e - b = 0 by omega]
  rfl
theorem sgA_0 {seg : Nat → Nat → Int} {ok : Nat → Bool} {go : Nat → Nat → List Pc} {b e : Nat} (h : b < e) (hk : pcK seg ok b e = 0) : sgA seg ok go b e = sgA seg ok go (b + 1) e := by
  unfold sgA
  rw [show e - b = (e - (b + 1)) + 1 by omega, sgL_s, if_neg (by omega), if_pos hk]
theorem sgA_1 {seg : Nat → Nat → Int} {ok : Nat → Bool} {go : Nat → Nat → List Pc} {b e : Nat} (h : b < e) (hk : pcK seg ok b e ≠ 0) : sgA seg ok go b e = go b (pcK seg ok b e) ++ sgA seg ok go (pcK seg ok b e) e := by
  have := pcK_b (by omega) hk
  unfold sgA
  rw [show e - b = (e - (b + 1)) + 1 by omega, sgL_s, if_neg (by omega), if_neg hk, sgL_n _ (e - pcK seg ok b e) _ (by omega) (by omega)]
theorem sgA_len {seg : Nat → Nat → Int} {ok : Nat → Bool} {go : Nat → Nat → List Pc} {e K : Nat} : ∀ n b : Nat, e - b = n → (∀ i j, b ≤ i → i < j → j ≤ e → (go i j).length ≤ K * (j - i)) → (sgA seg ok go b e).length ≤ K * (e - b) := by
  intro n
  induction n using Nat.strongRecOn with
  | ind n ih =>
    intro b hn h
    rcases Nat.lt_or_ge b e with hl | hg
    · by_cases q : pcK seg ok b e = 0
      · rw [sgA_0 hl q]
        exact Nat.le_trans (ih (n - 1) (by omega) (b + 1) (by omega) (fun i j h1 h2 h3 => h i j (by omega) h2 h3)) (Nat.mul_le_mul_left _ (by omega))
      · have hk := pcK_b (by omega) q
        rw [sgA_1 hl q, List.length_append]
        have h1 := h b _ (Nat.le_refl _) hk.1 hk.2.1
        have h2 := ih (e - pcK seg ok b e) (by omega) _ rfl (fun i j h1 h2 h3 => h i j (by omega) h2 h3)
        have h3 : K * (pcK seg ok b e - b) + K * (e - pcK seg ok b e) = K * (e - b) := by
          rw [← Nat.mul_add]
          congr 1
          omega
        omega
    · rw [sgA_end hg]
      exact Nat.zero_le _
theorem sgA_pos {seg seg' : Nat → Nat → Int} {ok : Nat → Bool} {go go' : Nat → Nat → List Pc} {e : Nat} : ∀ n b : Nat, e - b = n → (∀ i j, b ≤ i → i < j → j ≤ e → sameP (seg i j) (seg' i j)) → (∀ i j, b ≤ i → i < j → j ≤ e → 0 < seg i j → go i j = go' i j) → sgA seg ok go b e = sgA seg' ok go' b e := by
  intro n
  induction n using Nat.strongRecOn with
  | ind n ih =>
    intro b hn h hg
    rcases Nat.lt_or_ge b e with hl | hge
    · have he := pcK_pos (ok := ok) (Nat.le_of_lt hl) h
      by_cases q : pcK seg ok b e = 0
      · rw [sgA_0 hl q, sgA_0 hl (by rw [← he]; exact q)]
        exact ih (n - 1) (by omega) (b + 1) (by omega) (fun i j h1 h2 h3 => h i j (by omega) h2 h3) (fun i j h1 h2 h3 => hg i j (by omega) h2 h3)
      · have hk := pcK_b (by omega) q
        rw [sgA_1 hl q, sgA_1 hl (by rw [← he]; exact q), ← he, hg b _ (Nat.le_refl _) hk.1 hk.2.1 hk.2.2]
        rw [ih (e - pcK seg ok b e) (by omega) _ rfl (fun i j h1 h2 h3 => h i j (by omega) h2 h3) (fun i j h1 h2 h3 => hg i j (by omega) h2 h3)]
    · rw [sgA_end hge, sgA_end hge]
/-- regions: what a level is worth, ripped or crosscut, and its pieces -/
def vY (f : Rg) (ok : Nat → Bool) : Rg := fun x0 x1 y0 y1 => dpV (f x0 x1) ok y0 y1
def vX (f : Rg) (ok : Nat → Bool) : Rg := fun x0 x1 y0 y1 => dpV (fun b e => f b e y0 y1) ok x0 x1
abbrev Lg := Nat → Nat → Nat → Nat → List Pc
def lY (f : Rg) (ok : Nat → Bool) (go : Lg) : Lg := fun x0 x1 y0 y1 => sgA (f x0 x1) ok (go x0 x1) y0 y1
def lX (f : Rg) (ok : Nat → Bool) (go : Lg) : Lg := fun x0 x1 y0 y1 => sgA (fun b e => f b e y0 y1) ok (fun b e => go b e y0 y1) x0 x1
def pc0 (wh : Nat → Nat → Nat → Nat → Nat) : Lg := fun x0 x1 y0 y1 => [(x0, y0, x1 - x0, y1 - y0, wh x0 x1 y0 y1)]
/-- the place of a region in a table -/
def rp (sA x0 x1 y0 y1 : Nat) : Nat := (y1 * (y1 - 1) / 2 + y0) * sA + (x1 * (x1 - 1) / 2 + x0)
def TR (sA : Nat) (t : Nat → Int) (F : Rg) (x0 x1 y0 y1 : Nat) : Prop := t (rp sA x0 x1 y0 y1) = F x0 x1 y0 y1
def TA (sA al wd : Nat) (t : Nat → Int) (F : Rg) : Prop := ∀ x0 x1 y0 y1, x0 < x1 → x1 ≤ al → y0 < y1 → y1 ≤ wd → TR sA t F x0 x1 y0 y1
theorem plc_Y {sA b n x0 x1 : Nat} : plc sA 0 (n * (n - 1) / 2 + b) (x1 * (x1 - 1) / 2 + x0) = rp sA x0 x1 b n := by
  unfold plc rp
  rw [if_pos rfl, if_neg (by decide), Nat.mul_one]
theorem plc_X {sA b n y0 y1 : Nat} : plc sA 1 (n * (n - 1) / 2 + b) (y1 * (y1 - 1) / 2 + y0) = rp sA b n y0 y1 := by
  unfold plc rp
  rw [if_neg (by decide), if_pos rfl, Nat.mul_one, Nat.add_comm]
theorem sg_Y {u : Nat → Int} {sA b n x0 x1 : Nat} : sg u sA 0 (x1 * (x1 - 1) / 2 + x0) b n = u (rp sA x0 x1 b n) := by unfold sg; rw [plc_Y]
theorem sg_X {u : Nat → Int} {sA b n y0 y1 : Nat} : sg u sA 1 (y1 * (y1 - 1) / 2 + y0) b n = u (rp sA b n y0 y1) := by unfold sg; rw [plc_X]
theorem rp_lt {al wd x0 x1 y0 y1 : Nat} (h1 : x0 < x1) (h2 : x1 ≤ al) (h3 : y0 < y1) (h4 : y1 ≤ wd) : rp (al * (al + 1) / 2) x0 x1 y0 y1 < wd * (wd + 1) / 2 * (al * (al + 1) / 2) := by
  have a1 := sp_lt (b := x0) (n := x1) (N := al) h1 (by omega) h2
  have a2 := sp_lt (b := y0) (n := y1) (N := wd) h3 (by omega) h4
  have a3 := Nat.mul_le_mul_right (al * (al + 1) / 2) (show (y1 * (y1 - 1) / 2 + y0) + 1 ≤ wd * (wd + 1) / 2 from a2)
  rw [Nat.add_mul] at a3
  unfold rp
  omega
/-- the lowest table by regions, and which sort it is -/
def cE (sA : Nat) (sw sl sm : Nat → Nat) (sb fX fY : Nat → Int32) (sp : Nat → Nat) (pr : Nat → Int) (ns : Nat) : Rg := fun x0 x1 y0 y1 => bse (rOK sA sw sl sm sb fX fY y0 (y1 - y0) x0 (x1 - x0)) (rEV sp pr (x1 - x0)) ns
def cW (sA : Nat) (sw sl sm : Nat → Nat) (sb fX fY : Nat → Int32) (sp : Nat → Nat) (pr : Nat → Int) (ns : Nat) (x0 x1 y0 y1 : Nat) : Nat := whi (rOK sA sw sl sm sb fX fY y0 (y1 - y0) x0 (x1 - x0)) (rEV sp pr (x1 - x0)) ns
theorem pkZ_b {k n : Nat} (h : k ≤ n) (hn : n ≤ 1000) : -1 ≤ pkZ k ∧ pkZ k ≤ 1000 := by unfold pkZ; split <;> omega
theorem bse_n {ok : Nat → Bool} {ev : Nat → Int} : ∀ n : Nat, 0 ≤ bse ok ev n := by
  intro n
  induction n with
  | zero => exact Int.le_refl _
  | succ n ih => rw [bse_s]; unfold lsV; split <;> omega
