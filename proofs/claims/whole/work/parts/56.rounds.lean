/-- how many of sort i, by an array and by its list -/
theorem cntF_L {g : Nat → Nat} {i : Nat} : ∀ (L : List Pc), (∀ k, k < L.length → g k = (L.getD k pcD).2.2.2.2) → cntF g L.length i = cntL i L := by
  intro L h
  have key : ∀ k, k ≤ L.length → cntF g k i + cntL i (L.drop k) = cntL i L := by
    intro k
    induction k with
    | zero => intro _; rw [List.drop_zero]; show 0 + _ = _; omega
    | succ k ih =>
      intro hk
      have h1 := ih (by omega)
      rw [List.drop_eq_getElem_cons (by omega)] at h1
      have h2 := h k (by omega)
      rw [show L.getD k pcD = L[k] from by rw [List.getD_eq_getElem?_getD, List.getElem?_eq_getElem (by omega), Option.getD_some]] at h2
      show cntF g k i + (if g k = i then 1 else 0) + _ = _
      rw [h2]
      have h3 : cntL i (L[k] :: List.drop (k + 1) L) = (if L[k].2.2.2.2 = i then 1 else 0) + cntL i (List.drop (k + 1) L) := rfl
      omega
  have := key L.length (Nat.le_refl _)
  rw [List.drop_length] at this
  have h0 : cntL i [] = 0 := rfl
  omega
/-- a plan's worth -/
def wL (wo : Nat → Int) (L : List Pc) : Int := sumG (fun p => wo p.2.2.2.2 * ((p.2.2.1 : Nat) : Int)) L
/-- the prices of the rounds -/
def qP (PL : (Nat → Int) → List Pc) (sn : Nat → Int) : Nat → Nat → Int
  | 0 => fun _ => 0
  | r + 1 => fun i => if sn i < 0 then 0 else max 0 (qP PL sn r i + (((cntL i (PL (qP PL sn r)) : Nat) : Int) - sn i) * ((max 1 (256 / (r + 1)) : Nat) : Int))
theorem qP_s (PL : (Nat → Int) → List Pc) (sn : Nat → Int) (r i : Nat) : qP PL sn (r + 1) i = if sn i < 0 then 0 else max 0 (qP PL sn r i + (((cntL i (PL (qP PL sn r)) : Nat) : Int) - sn i) * ((max 1 (256 / (r + 1)) : Nat) : Int)) := rfl
/-- what a round's plan is worth with the prices -/
def vP (wo sn q : Nat → Int) (ns : Nat) (L : List Pc) : Int := wL wo L + sumA (fun i => if sn i < 0 then 0 else q i * (sn i - ((cntL i L : Nat) : Int))) ns
/-- the bound behind the first r rounds -/
def bP (PL : (Nat → Int) → List Pc) (wo sn : Nat → Int) (ns : Nat) : Nat → Int
  | 0 => 0
  | r + 1 => if r = 0 then vP wo sn (qP PL sn r) ns (PL (qP PL sn r)) else min (bP PL wo sn ns r) (vP wo sn (qP PL sn r) ns (PL (qP PL sn r)))
/-- none of its sorts are too many -/
def h0P (sn : Nat → Int) (ns : Nat) (L : List Pc) : Bool := allB (fun i => decide (sn i < 0 ∨ ((cntL i L : Nat) : Int) ≤ sn i)) ns
/-- and the priced ones are just as many as needed -/
def h1P (q sn : Nat → Int) (ns : Nat) (L : List Pc) : Bool := allB (fun i => decide ((q i = 0 ∨ ((cntL i L : Nat) : Int) = sn i) ∧ (sn i < 0 ∨ ((cntL i L : Nat) : Int) ≤ sn i))) ns
/-- whether a plan is better than the one kept -/
def btP (wo : Nat → Int) (k : Option (List Pc)) (L : List Pc) : Bool := match k with
  | none => true
  | some K => decide (wL wo K < wL wo L)
/-- the best plan behind the first r rounds -/
def kP (PL : (Nat → Int) → List Pc) (wo sn : Nat → Int) (ns : Nat) : Nat → Option (List Pc)
  | 0 => none
  | r + 1 => if (h0P sn ns (PL (qP PL sn r)) && btP wo (kP PL wo sn ns r) (PL (qP PL sn r))) = true then some (PL (qP PL sn r)) else kP PL wo sn ns r
theorem kP_s (PL : (Nat → Int) → List Pc) (wo sn : Nat → Int) (ns r : Nat) : kP PL wo sn ns (r + 1) = if (h0P sn ns (PL (qP PL sn r)) && btP wo (kP PL wo sn ns r) (PL (qP PL sn r))) = true then some (PL (qP PL sn r)) else kP PL wo sn ns r := rfl
theorem kP_is {PL : (Nat → Int) → List Pc} {wo sn : Nat → Int} {ns : Nat} : ∀ (r : Nat) (K : List Pc), kP PL wo sn ns r = some K → ∃ t, t < r ∧ K = PL (qP PL sn t) := by
  intro r
  induction r with
  | zero => intro K h; cases h
  | succ r ih =>
    intro K h
    rw [kP_s] at h
    split at h
    · exact ⟨r, by omega, (Option.some.inj h).symm⟩
    · obtain ⟨t, a, b⟩ := ih K h
      exact ⟨t, by omega, b⟩
/-- the prices stay small -/
theorem qP_b {PL : (Nat → Int) → List Pc} {sn : Nat → Int} (hL : ∀ q, (PL q).length ≤ 240) : ∀ r i : Nat, 0 ≤ qP PL sn r i ∧ qP PL sn r i ≤ 61440 * (r : Int) := by
  intro r
  induction r with
  | zero => intro i; show (0 : Int) ≤ 0 ∧ (0 : Int) ≤ 61440 * ((0 : Nat) : Int); omega
  | succ r ih =>
    intro i
    rw [qP_s]
    have h1 := ih i
    split
    · omega
    · rename_i hs
      have h2 := Nat.le_trans (cntL_le i (PL (qP PL sn r))) (hL _)
      have h3 : (256 / (r + 1)) ≤ 256 := Nat.div_le_self _ _
      obtain ⟨sd, esd⟩ : ∃ sd, sd = max 1 (256 / (r + 1)) := ⟨_, rfl⟩
      rw [← esd]
      have h4 : sd ≤ 256 := by omega
      obtain ⟨a, ea⟩ : ∃ a : Int, a = ((cntL i (PL (qP PL sn r)) : Nat) : Int) - sn i := ⟨_, rfl⟩
      rw [← ea]
      have h5 : a ≤ 240 := by omega
      have h6 : a * (sd : Int) ≤ 240 * 256 := by
        rcases Int.lt_or_le 0 a with q | q
        · exact Int.le_trans (Int.mul_le_mul_of_nonneg_left (by omega) (by omega)) (Int.mul_le_mul_of_nonneg_right h5 (by omega))
        · exact Int.le_trans (Int.mul_nonpos_of_nonpos_of_nonneg q (by omega)) (by decide)
      omega
/-- two ways to plan that agree -/
theorem qP_eq {PL PL' : (Nat → Int) → List Pc} {sn : Nat → Int} : ∀ r : Nat, (∀ t, t < r → PL (qP PL sn t) = PL' (qP PL sn t)) → qP PL sn r = qP PL' sn r := by
  intro r
  induction r with
  | zero => intro _; rfl
  | succ r ih =>
    intro h
    funext i
    rw [qP_s, qP_s, ← ih (fun t ht => h t (by omega)), h r (by omega)]
theorem sumA_delta {n j : Nat} (q : Nat → Int) (hj : j < n) : sumA (fun i => q i * (if j = i then 1 else 0)) n = q j := by
  have key : ∀ m, sumA (fun i => q i * (if j = i then 1 else 0)) m = if j < m then q j else 0 := by
    intro m
    induction m with
    | zero => rfl
    | succ m ih =>
      rw [sumA_s, ih]
      by_cases e : j = m
      · subst e; simp
      · by_cases l : j < m
        · rw [if_pos l, if_pos (show j < m + 1 by omega), if_neg e]; omega
        · rw [if_neg l, if_neg (show ¬ j < m + 1 by omega), if_neg e]; omega
  rw [key, if_pos hj]
/-- the prices of a plan's pieces, by sorts -/
theorem sum_cnt {q : Nat → Int} {ns : Nat} : ∀ L : List Pc, (∀ p, p ∈ L → p.2.2.2.2 < ns) → sumG (fun p => q p.2.2.2.2) L = sumA (fun i => q i * ((cntL i L : Nat) : Int)) ns := by
  intro L
  induction L with
  | nil => intro _; show 0 = _; rw [← sumA_0 ns]; exact sumA_congr _ (fun i _ => by show 0 = q i * ((0 : Nat) : Int); simp)
  | cons p L ih =>
    intro h
    show q p.2.2.2.2 + sumG _ L = _
    rw [ih (fun x hx => h x (List.mem_cons_of_mem _ hx)), ← sumA_delta q (h p (List.mem_cons_self)), ← sumA_add]
    refine sumA_congr _ (fun i _ => ?_)
    show q i * (if p.2.2.2.2 = i then 1 else 0) + q i * ((cntL i L : Nat) : Int) = q i * (((if p.2.2.2.2 = i then 1 else 0) + cntL i L : Nat) : Int)
    rw [← Int.mul_add]
    congr 1
    split <;> simp
theorem sumG_sub (g h : Pc → Int) : ∀ L : List Pc, sumG (fun p => g p - h p) L = sumG g L - sumG h L := by
  intro L
  induction L with
  | nil => rfl
  | cons p L ih => show g p - h p + sumG _ L = g p + sumG g L - (h p + sumG h L); rw [ih]; omega
/-- the reference's way to the same worth -/
theorem vP_m {wo sn q : Nat → Int} {ns : Nat} {L : List Pc} (hL : ∀ p, p ∈ L → p.2.2.2.2 < ns) (hq : ∀ i, i < ns → sn i < 0 → q i = 0) : sumG (fun p => wo p.2.2.2.2 * ((p.2.2.1 : Nat) : Int) - q p.2.2.2.2) L + sumA (fun i => if sn i < 0 then 0 else q i * sn i) ns = vP wo sn q ns L := by
  unfold vP wL
  rw [sumG_sub (fun p => wo p.2.2.2.2 * ((p.2.2.1 : Nat) : Int)) (fun p => q p.2.2.2.2), sum_cnt L hL]
  have : sumA (fun i => if sn i < 0 then 0 else q i * (sn i - ((cntL i L : Nat) : Int))) ns = sumA (fun i => if sn i < 0 then 0 else q i * sn i) ns - sumA (fun i => q i * ((cntL i L : Nat) : Int)) ns := by
    rw [← sumA_sub]
    refine sumA_congr _ (fun i hi => ?_)
    by_cases z : sn i < 0
    · rw [if_pos z, if_pos z, hq i hi z]; simp
    · rw [if_neg z, if_neg z, Int.mul_sub]
  omega
/-- which sort, by place -/
def wLs (L : List Pc) (k : Nat) : Nat := (L.getD k pcD).2.2.2.2
/-- what is kept of the first k -/
def kpL (sn : Nat → Int) (L : List Pc) : Nat → List Pc
  | 0 => []
  | k + 1 => if keepK sn (wLs L) k = true then kpL sn L k ++ [L.getD k pcD] else kpL sn L k
theorem kpL_s (sn : Nat → Int) (L : List Pc) (k : Nat) : kpL sn L (k + 1) = if keepK sn (wLs L) k = true then kpL sn L k ++ [L.getD k pcD] else kpL sn L k := rfl
theorem kpL_len (sn : Nat → Int) (L : List Pc) : ∀ k : Nat, (kpL sn L k).length = nK sn (wLs L) k := by
  intro k
  induction k with
  | zero => rfl
  | succ k ih =>
    rw [kpL_s]
    show _ = nK sn (wLs L) k + (keepK sn (wLs L) k).toNat
    split
    · rename_i h
      rw [List.length_append, ih, h]; rfl
    · rename_i h
      have : keepK sn (wLs L) k = false := by simpa using h
      rw [ih, this]; rfl
theorem kpL_mem {sn : Nat → Int} {L : List Pc} : ∀ k : Nat, k ≤ L.length → ∀ p, p ∈ kpL sn L k → p ∈ L := by
  intro k
  induction k with
  | zero => intro _ p h; exact absurd h (List.not_mem_nil)
  | succ k ih =>
    intro hk p h
    rw [kpL_s] at h
    split at h
    · rcases List.mem_append.mp h with a | a
      · exact ih (by omega) p a
      · rw [List.mem_singleton.mp a]; exact mem_getD (by omega)
    · exact ih (by omega) p h
theorem getD_app1 {A B : List Pc} {i : Nat} (h : i < A.length) : (A ++ B).getD i pcD = A.getD i pcD := by
  rw [List.getD_eq_getElem?_getD, List.getD_eq_getElem?_getD, List.getElem?_append_left h]
theorem getD_app2 {A : List Pc} {p : Pc} : (A ++ [p]).getD A.length pcD = p := by
  rw [List.getD_eq_getElem?_getD, List.getElem?_append_right (Nat.le_refl _), Nat.sub_self]; rfl
/-- places that hold the kept ones hold their list -/
theorem kpL_arr {sn : Nat → Int} {L : List Pc} {q g : Nat → Nat} {pr : Pc → Nat} (hg : ∀ k, k < L.length → g k = wLs L k) : ∀ n : Nat, n ≤ L.length → (∀ k, k < n → keepK sn (wLs L) k = true → q (nK sn (wLs L) k) = pr (L.getD k pcD)) → ∀ t, t < (kpL sn L n).length → q t = pr ((kpL sn L n).getD t pcD) := by
  intro n
  induction n with
  | zero => intro _ _ t h; exact absurd h (Nat.not_lt_zero _)
  | succ n ih =>
    intro hn h t ht
    have ih' := ih (by omega) (fun k hk => h k (by omega))
    rw [kpL_s] at ht ⊢
    split at ht
    · rename_i hk
      rw [if_pos hk]
      rw [List.length_append] at ht
      rcases Nat.lt_or_ge t (kpL sn L n).length with a | a
      · rw [getD_app1 a]; exact ih' t a
      · have e : t = (kpL sn L n).length := by have : [L.getD n pcD].length = 1 := rfl; omega
        rw [e, getD_app2, kpL_len]
        exact h n (by omega) hk
    · rename_i hk
      rw [if_neg hk]
      exact ih' t ht
theorem keepK_congr {sn : Nat → Int} {g h : Nat → Nat} {n : Nat} (e : ∀ k, k < n → g k = h k) : (∀ k, k ≤ n → ∀ i, cntK sn g k i = cntK sn h k i) ∧ (∀ k, k < n → keepK sn g k = keepK sn h k) ∧ (∀ k, k ≤ n → nK sn g k = nK sn h k) := by
  have h1 : ∀ k, k ≤ n → ∀ i, cntK sn g k i = cntK sn h k i := by
    intro k
    induction k with
    | zero => intro _ i; rfl
    | succ k ih =>
      intro hk i
      rw [cntK_s, cntK_s, e k (by omega), ih (by omega) i, ih (by omega) (h k)]
  have h2 : ∀ k, k < n → keepK sn g k = keepK sn h k := by
    intro k hk
    unfold keepK
    rw [e k hk, h1 k (by omega) (h k)]
  refine ⟨h1, h2, ?_⟩
  intro k
  induction k with
  | zero => intro _; rfl
  | succ k ih => intro hk; show nK sn g k + (keepK sn g k).toNat = nK sn h k + (keepK sn h k).toNat; rw [ih (by omega), h2 k (by omega)]
theorem bp_congr {ok : Nat → Bool} {v v' : Nat → Int} : ∀ n : Nat, (∀ j, j < n → v j = v' j) → bp ok v n = bp ok v' n := by
  intro n
  induction n with
  | zero => intro _; rfl
  | succ n ih => intro h; rw [bp_s, bp_s, ih (fun j hj => h j (by omega)), h n (by omega)]
theorem mBp_congr {ag : Nat → Bool} {fd : Nat → Nat → Int} {mg st bw nf : Nat} {sw lo hi : Nat → Nat} {wo pr pr' : Nat → Int} {ns : Nat} (h : ∀ j, j < ns → pr j = pr' j) : mBp ag fd mg st bw nf sw lo hi wo pr ns = mBp ag fd mg st bw nf sw lo hi wo pr' ns := by
  funext x0 x1 y0 y1
  exact bp_congr ns (fun j hj => by show wo j * _ - pr j = wo j * _ - pr' j; rw [h j hj])
theorem mE_congr {ag : Nat → Bool} {fd : Nat → Nat → Int} {mg st bw nf : Nat} {sw lo hi : Nat → Nat} {wo pr pr' : Nat → Int} {ns : Nat} (h : ∀ j, j < ns → pr j = pr' j) : mE ag fd mg st bw nf sw lo hi wo pr ns = mE ag fd mg st bw nf sw lo hi wo pr' ns := by
  unfold mE
  rw [mBp_congr h]
theorem mW_congr {ag : Nat → Bool} {fd : Nat → Nat → Int} {mg st bw nf : Nat} {sw lo hi : Nat → Nat} {wo pr pr' : Nat → Int} {ns : Nat} (h : ∀ j, j < ns → pr j = pr' j) : mW ag fd mg st bw nf sw lo hi wo pr ns = mW ag fd mg st bw nf sw lo hi wo pr' ns := by
  funext x0 x1 y0 y1
  unfold mW
  rw [mBp_congr h]
theorem sumG_congr {g h : Pc → Int} : ∀ L : List Pc, (∀ p, p ∈ L → g p = h p) → sumG g L = sumG h L := by
  intro L
  induction L with
  | nil => intro _; rfl
  | cons p L ih => intro e; show g p + sumG g L = h p + sumG h L; rw [e p (List.mem_cons_self), ih (fun x hx => e x (List.mem_cons_of_mem _ hx))]
/-- a plan as it lies in five arrays -/
def isPL (p0 p1 p2 p3 p4 : Nat → Nat) (L : List Pc) : Prop := ∀ k, k < L.length → p0 k = (L.getD k pcD).1 ∧ p1 k = (L.getD k pcD).2.1 ∧ p2 k = (L.getD k pcD).2.2.1 ∧ p3 k = (L.getD k pcD).2.2.2.1 ∧ p4 k = (L.getD k pcD).2.2.2.2
theorem isPL_put {p0 p1 p2 p3 p4 : Nat → Nat} {sp : Nat → Nat} {L : List Pc} : isPL (putP sp 0 p0 0 L) (putP sp 1 p1 0 L) (putP sp 2 p2 0 L) (putP sp 3 p3 0 L) (putP sp 4 p4 0 L) L := fun k hk => ⟨putP_0 hk, putP_0 hk, putP_0 hk, putP_0 hk, putP_0 hk⟩
theorem isPL_cnt {p0 p1 p2 p3 p4 : Nat → Nat} {L : List Pc} (h : isPL p0 p1 p2 p3 p4 L) (i : Nat) : cntF p4 L.length i = cntL i L := cntF_L L (fun k hk => (h k hk).2.2.2.2)
theorem isPL_w {p0 p1 p2 p3 p4 : Nat → Nat} {wo : Nat → Int} {L : List Pc} (h : isPL p0 p1 p2 p3 p4 L) : sumA (fun z9 => wo (p4 z9) * ((p2 z9 : Nat) : Int)) L.length = wL wo L := (sumA_congr _ (fun i hi => by show wo (p4 i) * ((p2 i : Nat) : Int) = _; rw [(h i hi).2.2.2.2, (h i hi).2.2.1])).trans (sumA_list (fun p => wo p.2.2.2.2 * ((p.2.2.1 : Nat) : Int)) L)
