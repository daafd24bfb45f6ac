-- bits: a family of the kit to paste (BITS), first
def bt (x : Int32) (i : Nat) : Bool := x.toBitVec.getLsbD i
theorem b_ext {x y : Int32} (h : ∀ i, i < 32 → bt x i = bt y i) : x = y := Int32.toBitVec_inj.mp (BitVec.eq_of_getLsbD_eq (fun i hi => h i hi))
theorem b_or (x y : Int32) (i : Nat) : bt (x ||| y) i = (bt x i || bt y i) := by unfold bt; rw [Int32.toBitVec_or, BitVec.getLsbD_or]
theorem b_and (x y : Int32) (i : Nat) : bt (x &&& y) i = (bt x i && bt y i) := by unfold bt; rw [Int32.toBitVec_and, BitVec.getLsbD_and]
theorem b_xor (x y : Int32) (i : Nat) : bt (x ^^^ y) i = (bt x i ^^ bt y i) := by unfold bt; rw [Int32.toBitVec_xor, BitVec.getLsbD_xor]
theorem b_big {x : Int32} {i : Nat} (h : 32 ≤ i) : bt x i = false := BitVec.getLsbD_of_ge _ _ h
theorem b_255 (i : Nat) : bt 255 i = decide (i < 8) := by
  rcases Nat.lt_or_ge i 32 with h | h
  · exact (by decide +kernel : ∀ i, i < 32 → bt 255 i = decide (i < 8)) i h
  · rw [b_big h, decide_eq_false (by omega)]
theorem b_65535 (i : Nat) : bt 65535 i = decide (i < 16) := by
  rcases Nat.lt_or_ge i 32 with h | h
  · exact (by decide +kernel : ∀ i, i < 32 → bt 65535 i = decide (i < 16)) i h
  · rw [b_big h, decide_eq_false (by omega)]
theorem b_m1 : ∀ i, i < 32 → bt (-1) i = true := by decide +kernel
theorem b_0 (i : Nat) : bt 0 i = false := BitVec.getLsbD_zero
theorem s_l : ∀ n, n < 32 → ((nI n &&& 31).toBitVec.smod 32).toNat = n := by decide +kernel
theorem s_u : ∀ n, n < 32 → (((nI n).toUInt32 &&& Int32.toUInt32 31).toBitVec % 32).toNat = n := by decide +kernel
theorem b_shl (n : Nat) (hn : n < 32) (x : Int32) {i : Nat} (hi : i < 32) : bt (x <<< (nI n &&& 31)) i = (decide (n ≤ i) && bt x (i - n)) := by
  unfold bt
  rw [Int32.toBitVec_shiftLeft]
  show (x.toBitVec <<< ((nI n &&& 31).toBitVec.smod 32).toNat).getLsbD i = _
  rw [s_l n hn, BitVec.getLsbD_shiftLeft]
  rcases Nat.lt_or_ge i n with h | h
  · simp [h, Nat.not_le.mpr h]
  · simp [hi, h, Nat.not_lt.mpr h]
theorem b_ushr (n : Nat) (hn : n < 32) (x : Int32) (i : Nat) : bt ((x.toUInt32 >>> ((nI n).toUInt32 &&& Int32.toUInt32 31)).toInt32) i = bt x (n + i) := by
  show (x.toUInt32 >>> ((nI n).toUInt32 &&& Int32.toUInt32 31)).toBitVec.getLsbD i = x.toUInt32.toBitVec.getLsbD (n + i)
  rw [UInt32.toBitVec_shiftRight]
  show (x.toUInt32.toBitVec >>> (((nI n).toUInt32 &&& Int32.toUInt32 31).toBitVec % 32).toNat).getLsbD i = _
  rw [s_u n hn, BitVec.getLsbD_ushiftRight]
theorem b_sshr (n : Nat) (hn : n < 32) (x : Int32) {i : Nat} (hi : i < 32) : bt (x >>> (nI n &&& 31)) i = if n + i < 32 then bt x (n + i) else bt x 31 := by
  unfold bt
  rw [Int32.toBitVec_shiftRight]
  show (x.toBitVec.sshiftRight ((nI n &&& 31).toBitVec.smod 32).toNat).getLsbD i = _
  rw [s_l n hn, BitVec.getLsbD_sshiftRight, BitVec.msb_eq_getLsbD_last]
  simp [hi]
theorem b_shl8 (x : Int32) {i : Nat} (hi : i < 32) : bt (x <<< ((8 : Int32) &&& 31)) i = (decide (8 ≤ i) && bt x (i - 8)) := b_shl 8 (by omega) x hi
theorem b_shl16 (x : Int32) {i : Nat} (hi : i < 32) : bt (x <<< ((16 : Int32) &&& 31)) i = (decide (16 ≤ i) && bt x (i - 16)) := b_shl 16 (by omega) x hi
theorem b_shl24 (x : Int32) {i : Nat} (hi : i < 32) : bt (x <<< ((24 : Int32) &&& 31)) i = (decide (24 ≤ i) && bt x (i - 24)) := b_shl 24 (by omega) x hi
theorem b_sshr8 (x : Int32) {i : Nat} (hi : i < 32) : bt (x >>> ((8 : Int32) &&& 31)) i = if 8 + i < 32 then bt x (8 + i) else bt x 31 := b_sshr 8 (by omega) x hi
-- masks: an int's bits out of a predicate
def Mk (P : Nat → Bool) : Nat → Int32
  | 0 => 0
  | n + 1 => if P n = true then Mk P n ||| ((1 : Int32) <<< (nI n &&& 31)) else Mk P n
theorem Mk_s (P : Nat → Bool) (n : Nat) : Mk P (n + 1) = if P n = true then Mk P n ||| ((1 : Int32) <<< (nI n &&& 31)) else Mk P n := rfl
theorem bt_one {i : Nat} (hi : i < 32) : bt 1 i = decide (i = 0) := (by decide +kernel : ∀ i, i < 32 → bt 1 i = decide (i = 0)) i hi
theorem Mk_bt (P : Nat → Bool) (n : Nat) (hn : n ≤ 32) {i : Nat} (hi : i < 32) : bt (Mk P n) i = (decide (i < n) && P i) := by
  induction n with
  | zero => rw [show Mk P 0 = 0 from rfl, b_0]; simp
  | succ n ih =>
    have ih := ih (by omega)
    rw [Mk_s]
    split
    · rename_i h
      rw [b_or, ih, b_shl n (by omega) _ hi]
      by_cases h1 : i < n
      · simp [h1, show ¬ n ≤ i by omega, show i < n + 1 by omega]
      · by_cases h2 : i = n
        · subst h2
          rw [Nat.sub_self, bt_one (by omega)]
          simp [h]
        · rw [bt_one (by omega)]
          simp [h1, show ¬ i < n + 1 by omega, show ¬ i - n = 0 by omega]
    · rename_i h
      rw [ih]
      by_cases h2 : i = n
      · subst h2
        simp at h
        simp [h]
      · by_cases h1 : i < n
        · simp [h1, show i < n + 1 by omega]
        · simp [h1, show ¬ i < n + 1 by omega]
theorem b_zero {x : Int32} : x = 0 ↔ ∀ i, i < 32 → bt x i = false := ⟨fun h i _ => by rw [h, b_0], fun h => b_ext (fun i hi => by rw [h i hi, b_0])⟩
theorem Mk_and3 {P Q B : Nat → Bool} {n : Nat} (hn : n ≤ 32) : (Mk P n &&& Mk Q n) &&& Mk B n = 0 ↔ ∀ i, i < n → (P i && Q i && B i) = false := by
  rw [b_zero]
  constructor
  · intro h i hi
    have h2 := h i (by omega)
    rw [b_and, b_and, Mk_bt _ _ hn (by omega), Mk_bt _ _ hn (by omega), Mk_bt _ _ hn (by omega)] at h2
    simpa [hi] using h2
  · intro h i hi
    rw [b_and, b_and, Mk_bt _ _ hn hi, Mk_bt _ _ hn hi, Mk_bt _ _ hn hi]
    by_cases h1 : i < n
    · simpa [h1] using h i h1
    · simp [h1]
theorem Mk_and2 {P Q : Nat → Bool} {n : Nat} (hn : n ≤ 32) : Mk P n &&& Mk Q n = 0 ↔ ∀ i, i < n → (P i && Q i) = false := by
  rw [b_zero]
  constructor
  · intro h i hi
    have h2 := h i (by omega)
    rw [b_and, Mk_bt _ _ hn (by omega), Mk_bt _ _ hn (by omega)] at h2
    simpa [hi] using h2
  · intro h i hi
    rw [b_and, Mk_bt _ _ hn hi, Mk_bt _ _ hn hi]
    by_cases h1 : i < n
    · simpa [h1] using h i h1
    · simp [h1]
theorem Mk_test {P : Nat → Bool} {n k : Nat} (hn : n ≤ 32) (hk : k < n) : (Mk P n >>> (nI k &&& 31)) &&& (nI 1) = if P k = true then nI 1 else nI 0 := by
  apply b_ext
  intro i hi
  rw [b_and, b_sshr k (by omega) _ hi, show nI 1 = 1 from rfl, bt_one hi]
  by_cases h0 : i = 0
  · subst h0
    rw [if_pos (by omega), Nat.add_zero, Mk_bt _ _ hn (by omega)]
    by_cases hp : P k = true
    · simp [hk, hp, bt_one]
    · simp at hp
      simp [hk, hp, show nI 0 = 0 from rfl, b_0]
  · simp only [h0, decide_false, Bool.and_false]
    by_cases hp : P k = true
    · simp [hp, bt_one hi, h0]
    · simp at hp
      simp [hp, show nI 0 = 0 from rfl, b_0]
