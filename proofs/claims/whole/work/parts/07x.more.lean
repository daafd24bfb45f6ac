-- arrays by what they hold
def nF (g : Nat → Nat) : Nat → Int32 := fun i => nI (g i)
def zF (g : Nat → Int) : Nat → Int32 := fun i => iI (g i)
def lF (g : Nat → Int) : Nat → Int64 := fun i => iL (g i)
def bF (g : Nat → Bool) : Nat → Int32 := fun i => nI (g i).toNat
theorem upd_nF (g : Nat → Nat) (i v : Nat) : upd (nF g) i (nI v) = nF (va_up g i v) := by
  funext j; unfold upd nF va_up; split <;> rfl
theorem upd_zF (g : Nat → Int) (i : Nat) (v : Int) : upd (zF g) i (iI v) = zF (va_up g i v) := by
  funext j; unfold upd zF va_up; split <;> rfl
theorem upd_zFn (g : Nat → Int) (i : Nat) (v : Nat) : upd (zF g) i (nI v) = zF (va_up g i (v : Int)) := by
  rw [nI_iI]; exact upd_zF g i v
theorem upd_lF (g : Nat → Int) (i : Nat) (v : Int) : vp_updL (lF g) i (iL v) = lF (va_up g i v) := by
  funext j; unfold vp_updL lF va_up; split <;> rfl
theorem upd_b0 (g : Nat → Bool) (i : Nat) : upd (bF g) i (nI 0) = bF (va_up g i false) := by
  funext j; unfold upd bF va_up; split <;> rfl
theorem upd_b1 (g : Nat → Bool) (i : Nat) : upd (bF g) i (nI 1) = bF (va_up g i true) := by
  funext j; unfold upd bF va_up; split <;> rfl
theorem iI_nI {z : Int} (h : 0 ≤ z) : iI z = nI z.toNat := by rw [nI_iI, Int.toNat_of_nonneg h]
theorem va_up_up {α : Type} (f : Nat → α) (k : Nat) (a b : α) : va_up (va_up f k a) k b = va_up f k b := by
  funext j
  unfold va_up
  split <;> rfl
theorem Mk_testN {P : Nat → Bool} {n k : Nat} (hn : n ≤ 32) (hk : k < n) : (Mk P n >>> (nI k &&& 31)) &&& (nI 1) = nI (P k).toNat := by
  rw [Mk_test hn hk]
  cases P k <;> rfl
theorem tN_lt (b : Bool) : b.toNat < 2147483648 := by cases b <;> decide
theorem tN_0 {b : Bool} (h : b.toNat = 0) : b = false := by cases b <;> simp_all
theorem tN_1 {b : Bool} (h : ¬ b.toNat = 0) : b = true := by cases b <;> simp_all
theorem Mk_or {P P' : Nat → Bool} {n k : Nat} (hn : n ≤ 32) (hk : k < n) (h : P' k = true) (h2 : ∀ j, j ≠ k → P' j = P j) : Mk P n ||| ((nI 1) <<< (nI k &&& 31)) = Mk P' n := by
  apply b_ext
  intro i hi
  rw [b_or, b_shl k (by omega) _ hi, Mk_bt _ _ hn hi, Mk_bt _ _ hn hi, show nI 1 = 1 from rfl]
  by_cases h0 : i = k
  · subst h0
    rw [Nat.sub_self, bt_one (by omega)]
    simp [h, hk]
  · rw [h2 i h0]
    by_cases h1 : k ≤ i
    · rw [bt_one (by omega)]
      simp [show ¬ i - k = 0 by omega]
    · simp [h1]
section MM
variable {p : Program} {l : Launch} {e : Env} {R : Room} {s : State} {m : MethodId} {args : Array Value} {below : List Frame} {meth : Method} {c : Code} {H : Heap} {locs : List Loc} {cells slots : Nat} {Q : State → Prop}
variable {cc : ByteArray} {pc nL : Nat} {ls : Array Slot} {rest : List Value} {own : String} {index : Nat}
theorem md_min : Cond.static Lib.Math.min.name ∈ TB := mem_TB 35 (by decide +kernel) (by decide +kernel)
theorem md_max : Cond.static Lib.Math.max.name ∈ TB := mem_TB 38 (by decide +kernel) (by decide +kernel)
theorem mi_math : Cond.initialized "java/lang/Math" ∈ TB := mem_TB 3 (by decide +kernel) (by decide +kernel)
set_option maxRecDepth 50000 in
theorem mc_min : Cond.code Lib.Math.min.name Lib.Math.min.code 2 (some .int) ∈ TB := mem_TB 36 rfl rfl
set_option maxRecDepth 50000 in
theorem mc_max : Cond.code Lib.Math.max.name Lib.Math.max.code 2 (some .int) ∈ TB := mem_TB 39 rfl rfl
theorem n_mmin (hx : p.tables.exec = Jvm.exec) (hb : c.code = cc) (hml : c.maxLocals = nL) (hls : ls.size = nL) (hown : s.vm.findClass own = some m.cls) (hts : ∀ w ∈ TB, w.before args s = true) (hlk : Cond.methodLink own index Lib.Math.min.name ∈ TB) (hR : 1 ≤ R.frames ∧ 21 ≤ R.locals) (hW : (rest.map fun v => v.category).sum ≤ 8) (hf : cells ≤ R.cells ∧ slots ≤ R.slots) {a b : Nat} (ha : a < 2147483648) (hb2 : b < 2147483648) (hdg : decode cc pc = .ok (.invokestatic index, 3)) (kk : W p l e R s m args below meth c H locs cells slots Q (F0 m (pc + 3) ls (.int (nI (min a b)) :: rest))) : W p l e R s m args below meth c H locs cells slots Q (F0 m pc ls (.int (nI b) :: .int (nI a) :: rest)) :=
  va_mmin hx hb (by rw [hml, hls]) hown (hts _ hlk) (hts _ md_min) (hts _ mi_math) (hts _ mc_min) hR.1 (by omega) hf.1 hf.2 hdg (by
    have q := nI_lt_ hb2 ha
    by_cases h : b < a
    · rw [if_pos (q.mpr h)]; rw [Nat.min_eq_right (by omega)] at kk; exact kk
    · rw [if_neg (fun z => h (q.mp z))]; rw [Nat.min_eq_left (by omega)] at kk; exact kk)
theorem z_mmax (hx : p.tables.exec = Jvm.exec) (hb : c.code = cc) (hml : c.maxLocals = nL) (hls : ls.size = nL) (hown : s.vm.findClass own = some m.cls) (hts : ∀ w ∈ TB, w.before args s = true) (hlk : Cond.methodLink own index Lib.Math.max.name ∈ TB) (hR : 1 ≤ R.frames ∧ 21 ≤ R.locals) (hW : (rest.map fun v => v.category).sum ≤ 8) (hf : cells ≤ R.cells ∧ slots ≤ R.slots) {a b : Int} (ha : -2147483648 ≤ a ∧ a ≤ 2147483647) (hb2 : -2147483648 ≤ b ∧ b ≤ 2147483647) (hdg : decode cc pc = .ok (.invokestatic index, 3)) (kk : W p l e R s m args below meth c H locs cells slots Q (F0 m (pc + 3) ls (.int (iI (max a b)) :: rest))) : W p l e R s m args below meth c H locs cells slots Q (F0 m pc ls (.int (iI b) :: .int (iI a) :: rest)) :=
  va_mmax hx hb (by rw [hml, hls]) hown (hts _ hlk) (hts _ md_max) (hts _ mi_math) (hts _ mc_max) hR.1 (by omega) hf.1 hf.2 hdg (by
    have q := iI_lt ha hb2
    by_cases h : a < b
    · rw [if_pos (q.mpr h)]; rw [Int.max_eq_right (by omega)] at kk; exact kk
    · rw [if_neg (fun z => h (q.mp z))]; rw [Int.max_eq_left (by omega)] at kk; exact kk)
theorem z_mmin (hx : p.tables.exec = Jvm.exec) (hb : c.code = cc) (hml : c.maxLocals = nL) (hls : ls.size = nL) (hown : s.vm.findClass own = some m.cls) (hts : ∀ w ∈ TB, w.before args s = true) (hlk : Cond.methodLink own index Lib.Math.min.name ∈ TB) (hR : 1 ≤ R.frames ∧ 21 ≤ R.locals) (hW : (rest.map fun v => v.category).sum ≤ 8) (hf : cells ≤ R.cells ∧ slots ≤ R.slots) {a b : Int} (ha : -2147483648 ≤ a ∧ a ≤ 2147483647) (hb2 : -2147483648 ≤ b ∧ b ≤ 2147483647) (hdg : decode cc pc = .ok (.invokestatic index, 3)) (kk : W p l e R s m args below meth c H locs cells slots Q (F0 m (pc + 3) ls (.int (iI (min a b)) :: rest))) : W p l e R s m args below meth c H locs cells slots Q (F0 m pc ls (.int (iI b) :: .int (iI a) :: rest)) :=
  va_mmin hx hb (by rw [hml, hls]) hown (hts _ hlk) (hts _ md_min) (hts _ mi_math) (hts _ mc_min) hR.1 (by omega) hf.1 hf.2 hdg (by
    have q := iI_lt hb2 ha
    by_cases h : b < a
    · rw [if_pos (q.mpr h)]; rw [Int.min_eq_right (by omega)] at kk; exact kk
    · rw [if_neg (fun z => h (q.mp z))]; rw [Int.min_eq_left (by omega)] at kk; exact kk)
theorem md_maxl : Cond.static Lib.MathLoose.max_long.x ∈ TB := mem_TB 703 (by decide +kernel) (by decide +kernel)
set_option maxRecDepth 50000 in
theorem mc_maxl : Cond.code Lib.MathLoose.max_long.x Lib.MathLoose.max_long.code 4 (some .long) ∈ TB := mem_TB 704 rfl rfl
theorem z_mmaxl (hx : p.tables.exec = Jvm.exec) (hb : c.code = cc) (hml : c.maxLocals = nL) (hls : ls.size = nL) (hown : s.vm.findClass own = some m.cls) (hts : ∀ w ∈ TB, w.before args s = true) (hlk : Cond.methodLink own index Lib.MathLoose.max_long.x ∈ TB) (hR : 1 ≤ R.frames ∧ 23 ≤ R.locals) (hW : (rest.map fun v => v.category).sum ≤ 8) (hf : cells ≤ R.cells ∧ slots ≤ R.slots) {a b : Int} (ha : -9223372036854775808 ≤ a ∧ a ≤ 9223372036854775807) (hb2 : -9223372036854775808 ≤ b ∧ b ≤ 9223372036854775807) (hdg : decode cc pc = .ok (.invokestatic index, 3)) (kk : W p l e R s m args below meth c H locs cells slots Q (F0 m (pc + 3) ls (.long (iL (max a b)) :: rest))) : W p l e R s m args below meth c H locs cells slots Q (F0 m pc ls (.long (iL b) :: .long (iL a) :: rest)) :=
  va_mmax_long hx hb (by rw [hml, hls]) hown (hts _ hlk) (hts _ md_maxl) (hts _ mi_math) (hts _ mc_maxl) hR.1 (by omega) hf.1 hf.2 hdg (by
    have q := iL_lt hb2 ha
    by_cases h : b < a
    · rw [if_pos (q.mpr h)]; rw [Int.max_eq_left (by omega)] at kk; exact kk
    · rw [if_neg (fun z => h (q.mp z))]; rw [Int.max_eq_right (by omega)] at kk; exact kk)
theorem md_minl : Cond.static Lib.MathLoose.min_long.x ∈ TB := mem_TB 710 (by decide +kernel) (by decide +kernel)
set_option maxRecDepth 50000 in
theorem mc_minl : Cond.code Lib.MathLoose.min_long.x Lib.MathLoose.min_long.code 4 (some .long) ∈ TB := mem_TB 711 rfl rfl
theorem z_mminl (hx : p.tables.exec = Jvm.exec) (hb : c.code = cc) (hml : c.maxLocals = nL) (hls : ls.size = nL) (hown : s.vm.findClass own = some m.cls) (hts : ∀ w ∈ TB, w.before args s = true) (hlk : Cond.methodLink own index Lib.MathLoose.min_long.x ∈ TB) (hR : 1 ≤ R.frames ∧ 23 ≤ R.locals) (hW : (rest.map fun v => v.category).sum ≤ 8) (hf : cells ≤ R.cells ∧ slots ≤ R.slots) {a b : Int} (ha : -9223372036854775808 ≤ a ∧ a ≤ 9223372036854775807) (hb2 : -9223372036854775808 ≤ b ∧ b ≤ 9223372036854775807) (hdg : decode cc pc = .ok (.invokestatic index, 3)) (kk : W p l e R s m args below meth c H locs cells slots Q (F0 m (pc + 3) ls (.long (iL (min a b)) :: rest))) : W p l e R s m args below meth c H locs cells slots Q (F0 m pc ls (.long (iL b) :: .long (iL a) :: rest)) :=
  va_mmin_long hx hb (by rw [hml, hls]) hown (hts _ hlk) (hts _ md_minl) (hts _ mi_math) (hts _ mc_minl) hR.1 (by omega) hf.1 hf.2 hdg (by
    have q := iL_lt hb2 ha
    by_cases h : b < a
    · rw [if_pos (q.mpr h)]; rw [Int.min_eq_right (by omega)] at kk; exact kk
    · rw [if_neg (fun z => h (q.mp z))]; rw [Int.min_eq_left (by omega)] at kk; exact kk)
end MM
