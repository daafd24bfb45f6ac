-- the tables' values: a line of segments from b to e, the rest behind each place known
/-- the best of n cuts behind b: at b + 1 .. b + n -/
def dpS (seg : Nat → Nat → Int) (ok : Nat → Bool) (r : Nat → Int) (b : Nat) (z : Int) : Nat → Int
  | 0 => z
  | n + 1 => if 0 < seg b (b + 1 + n) ∧ dpS seg ok r b z n < seg b (b + 1 + n) + r (b + 1 + n) ∧ ok (n + 1) = true then seg b (b + 1 + n) + r (b + 1 + n) else dpS seg ok r b z n
theorem dpS_s (seg : Nat → Nat → Int) (ok : Nat → Bool) (r : Nat → Int) (b : Nat) (z : Int) (n : Nat) : dpS seg ok r b z (n + 1) = if 0 < seg b (b + 1 + n) ∧ dpS seg ok r b z n < seg b (b + 1 + n) + r (b + 1 + n) ∧ ok (n + 1) = true then seg b (b + 1 + n) + r (b + 1 + n) else dpS seg ok r b z n := rfl
theorem dpS_congr {seg seg' : Nat → Nat → Int} {ok : Nat → Bool} {r r' : Nat → Int} {b : Nat} {z : Int} : ∀ n : Nat, (∀ j, j < n → seg b (b + 1 + j) = seg' b (b + 1 + j)) → (∀ j, j < n → r (b + 1 + j) = r' (b + 1 + j)) → dpS seg ok r b z n = dpS seg' ok r' b z n := by
  intro n
  induction n with
  | zero => intro _ _; rfl
  | succ n ih =>
    intro h1 h2
    rw [dpS_s, dpS_s, ih (fun j hj => h1 j (by omega)) (fun j hj => h2 j (by omega)), h1 n (by omega), h2 n (by omega)]
/-- behind k steps from the end e: the rest at each place -/
def dpR (seg : Nat → Nat → Int) (ok : Nat → Bool) (e : Nat) : Nat → Nat → Int
  | 0 => fun _ => 0
  | k + 1 => fun p => if p + (k + 1) = e then dpS seg ok (dpR seg ok e k) p (dpR seg ok e k (p + 1)) (k + 1) else dpR seg ok e k p
theorem dpR_s (seg : Nat → Nat → Int) (ok : Nat → Bool) (e k p : Nat) : dpR seg ok e (k + 1) p = if p + (k + 1) = e then dpS seg ok (dpR seg ok e k) p (dpR seg ok e k (p + 1)) (k + 1) else dpR seg ok e k p := rfl
/-- what the segments from b to e are worth at best -/
def dpV (seg : Nat → Nat → Int) (ok : Nat → Bool) (b e : Nat) : Int := dpR seg ok e (e - b) b
theorem dpR_le {seg : Nat → Nat → Int} {ok : Nat → Bool} {e : Nat} : ∀ k p : Nat, p ≤ e → e ≤ p + k → dpR seg ok e k p = dpV seg ok p e := by
  intro k
  induction k with
  | zero =>
    intro p h1 h2
    have : e - p = 0 := by omega
    unfold dpV
    rw [this]
  | succ k ih =>
    intro p h1 h2
    by_cases h : p + (k + 1) = e
    · unfold dpV
      rw [show e - p = k + 1 by omega]
    · rw [dpR_s, if_neg h]
      exact ih p h1 (by omega)
theorem dpV_end (seg : Nat → Nat → Int) (ok : Nat → Bool) (e : Nat) : dpV seg ok e e = 0 := by
  unfold dpV
  rw [Nat.sub_self]
  rfl
theorem dpV_step {seg : Nat → Nat → Int} {ok : Nat → Bool} {b e : Nat} (h : b < e) : dpV seg ok b e = dpS seg ok (fun p => dpV seg ok p e) b (dpV seg ok (b + 1) e) (e - b) := by
  have hk : e - b = (e - b - 1) + 1 := by omega
  unfold dpV
  rw [hk, dpR_s, if_pos (by omega)]
  rw [dpR_le (e - b - 1) (b + 1) (by omega) (by omega)]
  exact dpS_congr (r' := fun p => dpR seg ok e (e - p) p) (e - b - 1 + 1) (fun _ _ => rfl) (fun j hj => dpR_le _ _ (by omega) (by omega))
theorem dpV_congr {seg seg' : Nat → Nat → Int} {ok : Nat → Bool} {e : Nat} : ∀ n b : Nat, e - b = n → (∀ i j, b ≤ i → i < j → j ≤ e → seg i j = seg' i j) → b ≤ e → dpV seg ok b e = dpV seg' ok b e := by
  intro n
  induction n using Nat.strongRecOn with
  | ind n ih =>
    intro b hn h hb
    rcases Nat.lt_or_ge b e with hl | hg
    · rw [dpV_step hl, dpV_step hl, ih (n - 1) (by omega) (b + 1) (by omega) (fun i j h1 h2 h3 => h i j (by omega) h2 h3) hl]
      refine dpS_congr (e - b) (fun j hj => h _ _ (by omega) (by omega) (by omega)) (fun j hj => ?_)
      exact ih (e - (b + 1 + j)) (by omega) (b + 1 + j) rfl (fun i k h1 h2 h3 => h i k (by omega) h2 h3) (by omega)
    · have : b = e := by omega
      subst this
      rw [dpV_end, dpV_end]
theorem dpS_ge {seg : Nat → Nat → Int} {ok : Nat → Bool} {r : Nat → Int} {b : Nat} {z : Int} : ∀ n : Nat, z ≤ dpS seg ok r b z n := by
  intro n
  induction n with
  | zero => exact Int.le_refl _
  | succ n ih =>
    rw [dpS_s]
    split
    · rename_i h
      omega
    · exact ih
theorem dpS_le {seg : Nat → Nat → Int} {ok : Nat → Bool} {r : Nat → Int} {b : Nat} {z M : Int} : ∀ n : Nat, z ≤ M → (∀ j, j < n → seg b (b + 1 + j) + r (b + 1 + j) ≤ M) → dpS seg ok r b z n ≤ M := by
  intro n
  induction n with
  | zero => intro h _; exact h
  | succ n ih =>
    intro h h2
    rw [dpS_s]
    split
    · exact h2 n (by omega)
    · exact ih h (fun j hj => h2 j (by omega))
theorem dpV_nonneg {seg : Nat → Nat → Int} {ok : Nat → Bool} {e : Nat} : ∀ n b : Nat, e - b = n → b ≤ e → 0 ≤ dpV seg ok b e := by
  intro n
  induction n with
  | zero =>
    intro b h1 h2
    have : b = e := by omega
    subst this
    rw [dpV_end]
    exact Int.le_refl _
  | succ n ih =>
    intro b h1 h2
    rw [dpV_step (by omega)]
    exact Int.le_trans (ih (b + 1) (by omega) (by omega)) (dpS_ge _)
theorem dpV_le {seg : Nat → Nat → Int} {ok : Nat → Bool} {e : Nat} {M : Int} (hM : 0 ≤ M) : ∀ n b : Nat, e - b = n → b ≤ e → (∀ i j, b ≤ i → i < j → j ≤ e → seg i j ≤ M * (j - i : Nat)) → dpV seg ok b e ≤ M * (e - b : Nat) := by
  intro n
  induction n using Nat.strongRecOn with
  | ind n ih =>
    intro b hn hb h
    rcases Nat.lt_or_ge b e with hl | hg
    · rw [dpV_step hl]
      refine dpS_le _ ?_ (fun j hj => ?_)
      · refine Int.le_trans (ih (n - 1) (by omega) (b + 1) (by omega) hl (fun i j h1 h2 h3 => h i j (by omega) h2 h3)) ?_
        exact Int.mul_le_mul_of_nonneg_left (by omega) hM
      · have h1 := h b (b + 1 + j) (by omega) (by omega) (by omega)
        have h2 := ih (e - (b + 1 + j)) (by omega) (b + 1 + j) rfl (by omega) (fun i k h1 h2 h3 => h i k (by omega) h2 h3)
        have h3 : M * ((b + 1 + j - b : Nat) : Int) + M * ((e - (b + 1 + j) : Nat) : Int) = M * ((e - b : Nat) : Int) := by
          rw [← Int.mul_add]
          congr 1
          omega
        omega
    · have : b = e := by omega
      subst this
      rw [dpV_end]
      simp
