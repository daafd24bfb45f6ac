-- making: arrays and objects
theorem ra_inj {s : State} {cA cB : ClassId} {T : FieldType} (h1 : va_RA s cA T) (h2 : va_RA s cB T) : cA = cB := by
  cases T with
  | object C =>
    obtain ⟨_, _, _, _, _, q1⟩ := h1
    obtain ⟨_, _, _, _, _, q2⟩ := h2
    exact Option.some.inj (q1.symm.trans q2)
  | _ => exact Option.some.inj (Eq.trans (Eq.symm h1) h2)
theorem nI_nn {n : Nat} (h : n < 2147483648) : ¬ nI n < 0 := by
  rw [nI_zero_, nI_lt_ h (by omega)]; omega
theorem as_self (vm : Vm) (c : ClassId) : vm.assignable c c = true := by
  show (c == c || _) = true
  rw [beq_self_eq_true, Bool.true_or]
section MK
variable {p : Program} {l : Launch} {e : Env} {R : Room} {s : State} {m : MethodId} {args : Array Value} {below : List Frame} {meth : Method} {c : Code} {H : Heap} {locs : List Loc} {cells slots : Nat} {Q : State → Prop}
variable {cc : ByteArray} {pc : Nat} {ls : Array Slot} {rest : List Value} {G : va_G} {ty : Nat → ClassId} {A : Nat → Prop} {a : Nat} {ws : va_W} {H0 : Heap}
theorem n_newp (hx : p.tables.exec = Jvm.exec) (hb : c.code = cc) {atype : ArrayType} {T : FieldType} (hty : newarray.typeOf atype = T) (hts : ∀ w ∈ TB, w.before args s = true) (harr : Cond.arrayClass T ∈ TB) (hX : KX G ty s) (t0 : Nat) (ht : (TY ty)[t0]? = some (ty t0, T)) (hP : va_P G vwCl ws H) (hD : va_D A ws) (hS : va_S A H0 H locs) (hA : ∀ q, H0.size ≤ q → A q) {N' : Nat} {a0 : vp_A} (ha : ∀ cA : ClassId, vp_cell cA a0 = arrV cA N' (fun _ => defaultValue T)) (hN : N' < 1000000) (hbytes : N' * componentBytes T ≤ 536870912) (hcells : cells + 1 ≤ R.cells) (hslots : slots + N' ≤ R.slots) (hdg : decode cc pc = .ok (.newarray atype, 2))
    (kk : ∀ (q : Nat) (H1 : Heap), va_P G vwCl (ws ++ [(q, .inl (ty t0, a0))]) H1 → va_D A (ws ++ [(q, .inl (ty t0, a0))]) → va_S A H0 H1 locs → W p l e R s m args below meth c H1 locs (cells + 1) (slots + N') Q (F0 m (pc + 2) ls (.ref q :: rest))) : W p l e R s m args below meth c H locs cells slots Q (F0 m pc ls (.int (nI N') :: rest)) := by
  refine va_newa hx hb (by rw [hty]; exact hts _ harr) hty hX.1 hP hD hS hA ha (nI_nn (by omega)) (nI_clamp (by omega)) hbytes hcells hslots hdg (fun q cA H1 hK1 hP1 hD1 hS1 => ?_)
  have e : cA = ty t0 := ra_inj (hK1.2 7 (cA, T) rfl).2 (hX.1.2 t0 _ ht).2
  subst e
  exact kk q H1 hP1 hD1 hS1
theorem ac_int : Cond.arrayClass .int ∈ TB := mem_TB 86 (by decide +kernel) (by decide +kernel)
theorem ac_long : Cond.arrayClass .long ∈ TB := mem_TB 127 (by decide +kernel) (by decide +kernel)
theorem ac_boolean : Cond.arrayClass .boolean ∈ TB := mem_TB 226 (by decide +kernel) (by decide +kernel)
theorem n_newI (hx : p.tables.exec = Jvm.exec) (hb : c.code = cc) (hts : ∀ w ∈ TB, w.before args s = true) (hX : KX G ty s) (hP : va_P G vwCl ws H) (hD : va_D A ws) (hS : va_S A H0 H locs) (hA : ∀ q, H0.size ≤ q → A q) {N' : Nat} (hN : N' < 1000000) (hcells : cells + 1 ≤ R.cells) (hslots : slots + N' ≤ R.slots) (hdg : decode cc pc = .ok (.newarray .int, 2))
    (kk : ∀ (q : Nat) (H1 : Heap), va_P G vwCl (ws ++ [(q, .inl (ty 0, N', .inl (nF (fun _ => 0))))]) H1 → va_D A (ws ++ [(q, .inl (ty 0, N', .inl (nF (fun _ => 0))))]) → va_S A H0 H1 locs → W p l e R s m args below meth c H1 locs (cells + 1) (slots + N') Q (F0 m (pc + 2) ls (.ref q :: rest))) : W p l e R s m args below meth c H locs cells slots Q (F0 m pc ls (.int (nI N') :: rest)) :=
  n_newp hx hb (T := .int) rfl hts ac_int hX 0 rfl hP hD hS hA (fun _ => rfl) hN (by show N' * 4 ≤ _; omega) hcells hslots hdg kk
theorem n_newJ (hx : p.tables.exec = Jvm.exec) (hb : c.code = cc) (hts : ∀ w ∈ TB, w.before args s = true) (hX : KX G ty s) (hP : va_P G vwCl ws H) (hD : va_D A ws) (hS : va_S A H0 H locs) (hA : ∀ q, H0.size ≤ q → A q) {N' : Nat} (hN : N' < 1000000) (hcells : cells + 1 ≤ R.cells) (hslots : slots + N' ≤ R.slots) (hdg : decode cc pc = .ok (.newarray .long, 2))
    (kk : ∀ (q : Nat) (H1 : Heap), va_P G vwCl (ws ++ [(q, .inl (ty 1, N', .inr (.inl (lF (fun _ => 0)))))]) H1 → va_D A (ws ++ [(q, .inl (ty 1, N', .inr (.inl (lF (fun _ => 0)))))]) → va_S A H0 H1 locs → W p l e R s m args below meth c H1 locs (cells + 1) (slots + N') Q (F0 m (pc + 2) ls (.ref q :: rest))) : W p l e R s m args below meth c H locs cells slots Q (F0 m pc ls (.int (nI N') :: rest)) :=
  n_newp hx hb (T := .long) rfl hts ac_long hX 1 rfl hP hD hS hA (fun _ => rfl) hN (by show N' * 8 ≤ _; omega) hcells hslots hdg kk
theorem n_newZ (hx : p.tables.exec = Jvm.exec) (hb : c.code = cc) (hts : ∀ w ∈ TB, w.before args s = true) (hX : KX G ty s) (hP : va_P G vwCl ws H) (hD : va_D A ws) (hS : va_S A H0 H locs) (hA : ∀ q, H0.size ≤ q → A q) {N' : Nat} (hN : N' < 1000000) (hcells : cells + 1 ≤ R.cells) (hslots : slots + N' ≤ R.slots) (hdg : decode cc pc = .ok (.newarray .boolean, 2))
    (kk : ∀ (q : Nat) (H1 : Heap), va_P G vwCl (ws ++ [(q, .inl (ty 2, N', .inl (bF (fun _ => false))))]) H1 → va_D A (ws ++ [(q, .inl (ty 2, N', .inl (bF (fun _ => false))))]) → va_S A H0 H1 locs → W p l e R s m args below meth c H1 locs (cells + 1) (slots + N') Q (F0 m (pc + 2) ls (.ref q :: rest))) : W p l e R s m args below meth c H locs cells slots Q (F0 m pc ls (.int (nI N') :: rest)) :=
  n_newp hx hb (T := .boolean) rfl hts ac_boolean hX 2 rfl hP hD hS hA (fun _ => rfl) hN (by show N' * 1 ≤ _; omega) hcells hslots hdg kk
theorem n_newq (hx : p.tables.exec = Jvm.exec) (hb : c.code = cc) {own C : String} {index : Nat} (hown : s.vm.findClass own = some m.cls) (hcl : (Cond.classLink own index C).before args s = true) (hao : va_AO C s) (hX : KX G ty s) (t0 : Nat) (ht : (TY ty)[t0]? = some (ty t0, .object C)) (hP : va_P G vwCl ws H) (hD : va_D A ws) (hS : va_S A H0 H locs) (hA : ∀ q, H0.size ≤ q → A q) {N' : Nat} (hN : N' < 1000000) (hcells : cells + 1 ≤ R.cells) (hslots : slots + N' ≤ R.slots) (hdg : decode cc pc = .ok (.anewarray index, 3))
    (kk : ∀ (q : Nat) (H1 : Heap), va_P G vwCl (ws ++ [(q, .inl (ty t0, N', .inr (.inr (.inr (.inr (fun _ => none))))))]) H1 → va_D A (ws ++ [(q, .inl (ty t0, N', .inr (.inr (.inr (.inr (fun _ => none))))))]) → va_S A H0 H1 locs → W p l e R s m args below meth c H1 locs (cells + 1) (slots + N') Q (F0 m (pc + 3) ls (.ref q :: rest))) : W p l e R s m args below meth c H locs cells slots Q (F0 m pc ls (.int (nI N') :: rest)) := by
  refine va_newq hx hb hown hcl hao hX.1 hP hD hS hA (nI_nn (by omega)) (nI_clamp (by omega)) (by omega) hcells hslots hdg (fun q cA H1 hK1 hP1 hD1 hS1 => ?_)
  have e : cA = ty t0 := ra_inj (hK1.2 7 (cA, .object C) rfl).2 (hX.1.2 t0 _ ht).2
  subst e
  exact kk q H1 hP1 hD1 hS1
theorem n_aast (hx : p.tables.exec = Jvm.exec) (hb : c.code = cc) {cl : List vw_C} {D : va_G} {tys : List (ClassId × FieldType)} (hK : va_K D cl tys s) (hP : va_P D cl ws H) (hD : va_D A ws) (hS : va_S A H0 H locs) (q0 t0 qk ci : Nat) {cA : ClassId} {r : vw_C} {n v : Nat} {vs : List Value} {f : Nat → Option Nat} (ha : ws[q0]? = some (a, .inl (cA, n, .inr (.inr (.inr (.inr f)))))) (ht : tys[t0]? = some (cA, .object r.1)) (hv : ws[qk]? = some (v, .inr (ci, vs))) (hc : cl[ci]? = some r) {i : Nat} (hi : i < n) (hn : n < 2147483648) (hdg : decode cc pc = .ok (.aastore, 1))
    (kk : ∀ (H1 : Heap) (locs1 : List Loc), va_P D cl (ws.set q0 (a, .inl (cA, n, .inr (.inr (.inr (.inr (va_up f i (some v)))))))) H1 → va_D A (ws.set q0 (a, .inl (cA, n, .inr (.inr (.inr (.inr (va_up f i (some v)))))))) → va_S A H0 H1 locs1 → W p l e R s m args below meth c H1 locs1 cells slots Q (F0 m (pc + 1) ls rest)) : W p l e R s m args below meth c H locs cells slots Q (F0 m pc ls (.ref v :: .int (nI i) :: .ref a :: rest)) :=
  va_astq hx hb hK hP hD hS q0 t0 qk ci ha ht hv hc (vp_in_nI hi hn) hdg (by rw [nI_clamp (by omega)]; exact kk)
/-- an array of longs into an array of such -/
theorem n_aastJ (hx : p.tables.exec = Jvm.exec) (hb : c.code = cc) (hX : KX G ty s) (hP : va_P G vwCl ws H) (hD : va_D A ws) (hS : va_S A H0 H locs) (q0 qk : Nat) {n v : Nat} {y : vp_A} {f : Nat → Option Nat} (ha : ws[q0]? = some (a, .inl (ty 6, n, .inr (.inr (.inr (.inr f)))))) (hv : ws[qk]? = some (v, .inl (ty 1, y))) {i : Nat} (hi : i < n) (hn : n < 2147483648) (hdg : decode cc pc = .ok (.aastore, 1))
    (kk : ∀ (H1 : Heap) (locs1 : List Loc), va_P G vwCl (ws.set q0 (a, .inl (ty 6, n, .inr (.inr (.inr (.inr (va_up f i (some v)))))))) H1 → va_D A (ws.set q0 (a, .inl (ty 6, n, .inr (.inr (.inr (.inr (va_up f i (some v)))))))) → va_S A H0 H1 locs1 → W p l e R s m args below meth c H1 locs1 cells slots Q (F0 m (pc + 1) ls rest)) : W p l e R s m args below meth c H locs cells slots Q (F0 m pc ls (.ref v :: .int (nI i) :: .ref a :: rest)) := by
  obtain ⟨comp, cO, kO, hcomp, -, hkO, hkind, hname⟩ := arrayOver_specB hX.2.2.1.2.2.2
  have e1 : cO = ty 6 := Option.some.inj (hname.symm.trans (hX.1.2 6 _ rfl).2)
  have e2 : comp = ty 1 := Option.some.inj (hcomp.symm.trans (hX.1.2 1 _ rfl).2)
  subst e1; subst e2
  obtain ⟨kC, hkC, -⟩ := Vm.findClass_spec hcomp
  have g1 : H[v]? = some (vp_cell (ty 1) y) := hP qk _ hv
  have hvn : (vp_cell (ty 1) y).vm = .none := by
    obtain ⟨k9, y9⟩ := y
    rcases y9 with y9 | y9 | y9 | y9 | y9 <;> rfl
  have hvc : (vp_cell (ty 1) y).cls = ty 1 := by
    obtain ⟨k9, y9⟩ := y
    rcases y9 with y9 | y9 | y9 | y9 | y9 <;> rfl
  have hcl : (nI i).toNatClampNeg = i := nI_clamp (by omega)
  refine W.aast hx hb (hP q0 _ ha) (fun q h => by cases h) (fun h => by cases h) hkO hkind rfl hkC ⟨nI_nn (by omega), by show _ < (arrV _ _ _).slots.size; rw [arrV_size, hcl]; exact hi⟩ g1 (fun q h => by rw [hvn] at h; cases h) (by rw [hvc]; exact hkC) (by rw [hvc]; exact as_self _ _) rfl rfl hdg fun H1 e9 z oq => ?_
  refine kk H1 _ (hP.set hD ha ?_ oq) (hD.set ha) (hS.put z oq (hD.2 q0 _ ha))
  show H1[a]? = some (vp_cell _ _)
  rw [e9]
  rw [vp_cell_q, vp_cell_q, arrV_store, hcl]
  congr 2
  funext q
  by_cases hq : q = i
  · subst hq
    simp [updV, va_up, va_rf]
  · simp [updV, va_up, hq]
theorem mk_outer (c : ClassId) (N h0 : Nat) : ∀ i : Nat, Jvm.Free.Multi.outerC c N h0 i = arrV c N (fun j => va_rf (if j < i then some (h0 + 1 + j) else none))
  | 0 => by
    show ({ cls := c, slots := Array.replicate N .null, vm := .none } : Cell) = _
    rw [arrV_new]
    refine congrArg (arrV c N) (funext fun j => ?_)
    simp [va_rf]
  | i + 1 => by
    show (Jvm.Free.Multi.outerC c N h0 i).setSlot i (.ref (h0 + 1 + i)) = _
    rw [mk_outer c N h0 i, arrV_store]
    refine congrArg (arrV c N) (funext fun j => ?_)
    by_cases e : j = i
    · subst e
      simp [updV, va_rf]
    · by_cases h : j < i
      · simp [updV, e, h, Nat.lt_succ_of_lt h]
      · simp [updV, e, h, show ¬ j < i + 1 by omega]
/-- new T[n][k]: the outer array and its rows -/
theorem n_mna (hx : p.tables.exec = Jvm.exec) (hb : c.code = cc) {own : String} {index : Nat} {T : FieldType} {cO cy : ClassId} (hown : s.vm.findClass own = some m.cls) (hclink : (Cond.classLink own index ("[" ++ (FieldType.array T).toString)).before args s = true) (hover : (Cond.arrayOver (.array T)).before args s = true) (harr : (Cond.arrayClass T).before args s = true) (hcy : s.vm.findClass (FieldType.array T).toString = some cy) (hcO : s.vm.findClass ("[" ++ (FieldType.array T).toString) = some cO)
    (hP : va_P G vwCl ws H) (hD : va_D A ws) (hS : va_S A H0 H locs) (hA : ∀ q, H0.size ≤ q → A q) {N' K' : Nat} {z : vp_A} (hN : N' < 1000000) (hM : K' < 1000000)
    (hb2 : K' * componentBytes T ≤ 536870912) (hdf : fits T (defaultValue T) = true) (hdd : (defaultValue T).isDefault = true) (hcells : cells + (1 + N') ≤ R.cells) (hslots : slots + (N' + N' * K') ≤ R.slots) (hz : ∀ c : ClassId, Jvm.Free.Multi.innerC c K' (defaultValue T) = vp_cell c z) (hdg : decode cc pc = .ok (.multianewarray index 2, 4))
    (kk : ∀ (q : Nat) (r : Nat → Nat) (H1 : Heap), va_P G vwCl ((ws ++ [(q, .inl (cO, N', .inr (.inr (.inr (.inr (fun i => if i < N' then some (r i) else none))))))]) ++ (List.range N').map (fun i => (r i, .inl (cy, z)))) H1 → va_D A ((ws ++ [(q, .inl (cO, N', .inr (.inr (.inr (.inr (fun i => if i < N' then some (r i) else none))))))]) ++ (List.range N').map (fun i => (r i, .inl (cy, z)))) → va_S A H0 H1 locs →
      W p l e R s m args below meth c H1 locs (cells + 1 + N') (slots + N' + N' * K') Q (F0 m (pc + 4) ls (.ref q :: rest))) : W p l e R s m args below meth c H locs cells slots Q (F0 m pc ls (.int (nI K') :: .int (nI N') :: rest)) := by
  have hNc : (nI N').toNatClampNeg = N' := nI_clamp (by omega)
  have hKc : (nI K').toNatClampNeg = K' := nI_clamp (by omega)
  intro T0 hT Xs
  obtain ⟨vm₁, cA, comp, -, fA, fC, -, -, X', step⟩ := Xs.multianewarray2F hx hown hclink hover harr (g := F0 m pc ls (.int (nI K') :: .int (nI N') :: rest)) rfl (by rw [hb]; exact hdg) rfl (nI_nn (by omega)) (nI_nn (by omega)) (by rw [hNc]; omega) (by rw [hKc]; exact hb2) (by rw [hKc]; omega) hdf hdd (by rw [hNc]; exact hcells) (by rw [hNc, hKc]; exact hslots)
  rw [hNc, hKc] at X' step
  have ec : some cy = some comp := hcy.symm.trans fC
  cases ec
  have eo : some cO = some cA := hcO.symm.trans fA
  cases eo
  generalize hF : Jvm.Free.Multi.fill (T0.setVm vm₁) cO cy N' K' (defaultValue T) N' = F at X' step
  have hTh : (T0.setVm vm₁).heap = H := hT
  obtain ⟨f1, f2, -, -⟩ := Jvm.Free.Multi.fill_facts (T0.setVm vm₁) cO cy N' K' (defaultValue T) N'
  rw [hF, hTh] at f1 f2
  have hold : ∀ x : Nat, x < H.size → F.heap[x]? = H[x]? := fun x hx9 => by
    have := Jvm.Free.Multi.fill_old (T0.setVm vm₁) cO cy N' K' (defaultValue T) (a := x) (by rw [hTh]; exact hx9) N'
    rw [hF, hTh] at this
    exact this
  have hrow : ∀ j : Nat, j < N' → F.heap[H.size + 1 + j]? = some (vp_cell cy z) := fun j hj => by
    have := Jvm.Free.Multi.fill_inner (T0.setVm vm₁) cO cy N' K' (defaultValue T) N' j hj
    rw [hF, hTh, hz] at this
    exact this
  have hout : Jvm.Free.Multi.outerC cO N' H.size N' = vp_cell cO (N', .inr (.inr (.inr (.inr (fun i => if i < N' then some (H.size + 1 + i) else none))))) := by
    rw [vp_cell_q]
    exact mk_outer cO N' H.size N'
  rw [hout] at f2
  have hP0 : va_P G vwCl ws F.heap := hP.kept (fun k9 x hx9 => hold x.1 ((hP k9 x hx9).lt))
  have hP1 : va_P G vwCl (ws ++ [(H.size, .inl (cO, N', .inr (.inr (.inr (.inr (fun i => if i < N' then some (H.size + 1 + i) else none))))))]) F.heap := hP0.app (fun k9 x hx9 => by
    have h0 : k9 < 1 := (List.getElem?_eq_some_iff.mp hx9).1
    rw [show k9 = 0 by omega] at hx9
    cases hx9
    exact f2)
  have hP2 : va_P G vwCl ((ws ++ [(H.size, .inl (cO, N', .inr (.inr (.inr (.inr (fun i => if i < N' then some (H.size + 1 + i) else none))))))]) ++ (List.range N').map (fun i => (H.size + 1 + i, .inl (cy, z)))) F.heap := hP1.app (fun k9 x hx9 => by
    obtain ⟨i, hi, rfl⟩ := List.mem_map.mp (List.mem_of_getElem? hx9)
    exact hrow i (List.mem_range.mp hi))
  have hD2 : va_D A ((ws ++ [(H.size, .inl (cO, N', .inr (.inr (.inr (.inr (fun i => if i < N' then some (H.size + 1 + i) else none))))))]) ++ (List.range N').map (fun i => (H.size + 1 + i, .inl (cy, z)))) := by
    have hD1 := hD.push (e := .inl (cO, N', .inr (.inr (.inr (.inr (fun i => if i < N' then some (H.size + 1 + i) else none)))))) hP rfl (hA _ hS.1)
    generalize hW1 : ws ++ [(H.size, .inl (cO, N', .inr (.inr (.inr (.inr (fun i => if i < N' then some (H.size + 1 + i) else none))))))] = W1 at hD1 hP1 ⊢
    have hle : ∀ (k9 : Nat) (x : Nat × va_E), W1[k9]? = some x → x.1 ≤ H.size := fun k9 x hx9 => by
      rw [← hW1] at hx9
      by_cases hl : k9 < ws.length
      · rw [List.getElem?_append_left hl] at hx9
        exact Nat.le_of_lt ((hP k9 x hx9).lt)
      · rw [List.getElem?_append_right (by omega)] at hx9
        have h0 : k9 - ws.length < 1 := (List.getElem?_eq_some_iff.mp hx9).1
        rw [show k9 - ws.length = 0 by omega] at hx9
        cases hx9
        exact Nat.le_refl _
    have hr : ∀ (k9 : Nat) (x : Nat × va_E), ((List.range N').map (fun i => ((H.size + 1 + i, .inl (cy, z)) : Nat × va_E)))[k9]? = some x → x.1 = H.size + 1 + k9 := fun k9 x hx9 => by
      rw [List.getElem?_map] at hx9
      by_cases h9 : k9 < N'
      · rw [List.getElem?_range h9] at hx9
        cases hx9
        rfl
      · have hn0 : (List.range N')[k9]? = none := List.getElem?_eq_none (by rw [List.length_range]; omega)
        rw [hn0] at hx9
        cases hx9
    refine ⟨fun i j x y hi hj hxy => ?_, fun k9 x hx9 => ?_⟩
    · by_cases h1 : i < W1.length <;> by_cases h2 : j < W1.length
      · rw [List.getElem?_append_left h1] at hi
        rw [List.getElem?_append_left h2] at hj
        exact hD1.1 i j x y hi hj hxy
      · rw [List.getElem?_append_left h1] at hi
        rw [List.getElem?_append_right (by omega)] at hj
        have := hle _ _ hi
        have := hr _ _ hj
        omega
      · rw [List.getElem?_append_right (by omega)] at hi
        rw [List.getElem?_append_left h2] at hj
        have := hle _ _ hj
        have := hr _ _ hi
        omega
      · rw [List.getElem?_append_right (by omega)] at hi hj
        have := hr _ _ hi
        have := hr _ _ hj
        omega
    · by_cases h1 : k9 < W1.length
      · rw [List.getElem?_append_left h1] at hx9
        exact hD1.2 k9 x hx9
      · rw [List.getElem?_append_right (by omega)] at hx9
        have := hr _ _ hx9
        exact hA _ (by have := hS.1; omega)
  obtain ⟨t, a1, b1⟩ := kk H.size (fun i => H.size + 1 + i) F.heap hP2 hD2 ⟨by rw [f1]; have := hS.1; omega, fun x h1 h2 => (hold x (Nat.lt_of_lt_of_le h1 hS.1)).trans (hS.2.1 x h1 h2), hS.2.2⟩ F rfl X'
  refine ⟨t, step t ?_, b1⟩
  have e9 : T0.heap.size = H.size := by rw [hT]
  rw [e9]
  exact a1
end MK
theorem im_obj : Cond.instanceMethod objectInit ∈ TB := mem_TB 26 (by decide +kernel) (by decide +kernel)
theorem cd_obj : Cond.code objectInit ⟨#[0xb1]⟩ 1 none ∈ TB := mem_TB 27 (by decide +kernel) (by decide +kernel)
theorem mk_rowI (c : ClassId) (k : Nat) : Jvm.Free.Multi.innerC c k (defaultValue .int) = vp_cell c (k, .inl (nF (fun _ => 0))) := by
  show ({ cls := c, slots := Array.replicate k (defaultValue .int), vm := .none } : Cell) = arrV c k (fun _ => defaultValue .int)
  rw [← arrV_new]
theorem mk_rowJ (c : ClassId) (k : Nat) : Jvm.Free.Multi.innerC c k (defaultValue .long) = vp_cell c (k, .inr (.inl (lF (fun _ => 0)))) := by
  show ({ cls := c, slots := Array.replicate k (defaultValue .long), vm := .none } : Cell) = arrV c k (fun _ => defaultValue .long)
  rw [← arrV_new]
/-- the rows of an array of arrays -/
abbrev rf (n : Nat) (r : Nat → Nat) : Nat → Option Nat := fun i => if i < n then some (r i) else none
