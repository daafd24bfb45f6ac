/-- words of the tables that are no words that keep, but stay where tables warm -/
def faceW : List Cond := tables_1.filter (fun w => !goodWord w && (w.onTables && w.keepsFace))
theorem mem_FW {w : Cond} (i : Nat) (h : tables_1[i]? = some w) (hg : (!goodWord w && (w.onTables && w.keepsFace)) = true) : w ∈ faceW := List.mem_filter.mpr ⟨List.mem_of_getElem? h, hg⟩
theorem va_Nw.face {w : Cond} {s U : State} (hw : (w.onTables && w.keepsFace) = true) (hW : s.WarmedH U.vm) (h : va_Nw w s) : va_Nw w U :=
  va_tabs (Bool.and_eq_true_iff.mp hw).1 (rfl : (s.setVm U.vm).vm = U.vm) (Cond.before_shiftedFace (State.Shifted.of_warmed hW) w (Bool.and_eq_true_iff.mp hw).2 h)
def xI : String := "java/lang/IndexOutOfBoundsException"
def xS : String := "java/lang/IllegalStateException"
def xA : String := "java/lang/IllegalArgumentException"
def strs : List (Nat × String) := [(275, "there is no such piece, face, part"), (101, "there are 20 faults"), (280, "a number is not as said"), (128, "there are 8 pieces"), (271, "no plan was made since something was told")]
def apart : List (String × String) := [(xS, xI), (xA, xI), (xI, xS), (xA, xS), (xI, xA), (xS, xA)]
/-- what else is known of the classes: arrays of references, the exceptions, the constants' strings -/
def VX (U : State) : Prop := (va_AO R_Fault U ∧ va_AO R_Sort U ∧ va_Nw (.arrayOver (.array .int)) U ∧ va_Nw (.arrayOver (.array .long)) U) ∧ (∀ w ∈ faceW, va_Nw w U) ∧ (∀ q ∈ strs, ∃ a, vk_R R_Rips q.1 q.2 a U) ∧ ∀ q ∈ apart, ∃ c t, U.vm.findClass q.1 = some c ∧ U.vm.findClass q.2 = some t ∧ U.vm.assignable c t = false
theorem VX.warm {s U : State} (hW : s.WarmedH U.vm) (h : VX s) : VX U :=
  ⟨⟨h.1.1.moved hW.alike, h.1.2.1.moved hW.alike, arrayOver_alikeB hW.alike h.1.2.2.1, arrayOver_alikeB hW.alike h.1.2.2.2⟩, fun w hw => va_Nw.face (Bool.and_eq_true_iff.mp (List.mem_filter.mp hw).2).2 hW (h.2.1 w hw), fun q hq => (h.2.2.1 q hq).imp fun _ z => z.warm hW, fun q hq => by
    obtain ⟨c, t, h1, h2, h3⟩ := h.2.2.2 q hq
    exact ⟨c, t, by rw [hW.alike.findClass]; exact h1, by rw [hW.alike.findClass]; exact h2, by rw [hW.alike.assignable]; exact h3⟩⟩
theorem VX.same {s U : State} (hv : s.vm = U.vm) (h : VX s) : VX U :=
  ⟨⟨h.1.1.moved (hv ▸ Vm.Alike.refl s.vm), h.1.2.1.moved (hv ▸ Vm.Alike.refl s.vm), arrayOver_alikeB (hv ▸ Vm.Alike.refl s.vm) h.1.2.2.1, arrayOver_alikeB (hv ▸ Vm.Alike.refl s.vm) h.1.2.2.2⟩, fun w hw => va_Nw.same (Bool.and_eq_true_iff.mp (Bool.and_eq_true_iff.mp (List.mem_filter.mp hw).2).2).1 hv (h.2.1 w hw), fun q hq => (h.2.2.1 q hq).imp fun _ z => vk_R.same hv.symm z, fun q hq => by rw [← hv]; exact h.2.2.2 q hq⟩
/-- the nest's links: they are no words that keep, so they go along with what is known of the classes -/
def KX (G : va_G) (ty : Nat → ClassId) (U : State) : Prop := va_K G vwCl (TY ty) U ∧ (∀ q ∈ nests, va_Nw (.methodLinkNest q.1 q.2.1 q.2.2 "FaultRips") U) ∧ VX U
theorem KX.warm {G : va_G} {ty : Nat → ClassId} {s U : State} (hW : s.WarmedH U.vm) (h : KX G ty s) : KX G ty U := ⟨va_K.moved hW.alike h.1, fun q hq => va_Nw.warmM hW (h.2.1 q hq), h.2.2.warm hW⟩
theorem KX.calling {G : va_G} {ty : Nat → ClassId} {U : State} {g : JFrame} {mk : MethodId} {a : Array Value} (h : KX G ty U) : KX G ty (U.calling g mk a) := ⟨va_K.moved (u := U) (U := U.calling g mk a) (Vm.Alike.refl U.vm) h.1, fun q hq => va_Nw.same rfl rfl (h.2.1 q hq), VX.same (s := U) (U := U.calling g mk a) rfl h.2.2⟩
/-- a method that only reads: its walk from the entry -/
theorem met_ro {l : Launch} {y : MethodName} {ws : List Cond} {rm : Room} {cc : ByteArray} {maxL : Nat} {ret : Option FieldType} {G : va_G} {ty : Nat → ClassId} {W0 : va_W} {av : List Value} {Qc : Array Value → State → Outcome → State → Prop} (own : String)
    (hy : plainName y.cls = true) (hw : ws = Cond.code y cc maxL ret :: TB) (ho : y.cls = own) (hn : (lg_sl av).length ≤ maxL)
    (body : ∀ (p : Program) (e : Env) (s : State) (m : MethodId) (below : List Frame) (meth : Method) (c : Code) (ls : Array Slot), p.tables.exec = Jvm.exec → c.code = cc → meth.sig.returnType = ret → c.maxLocals = maxL → s.vm.findClass own = some m.cls → (∀ w ∈ TB, w.before av.toArray s = true) → meth.locks = false → va_P G vwCl W0 s.heap → KX G ty s → lv_has ls maxL (lv_args 0 av) →
      W p l e rm s m av.toArray below meth c s.heap [] 0 0 (MQ below Qc av.toArray s 0 0 (fun _ => False)) (F0 m 0 ls [])) :
    Met l y ws rm (va_Pc av (fun U => va_P G vwCl W0 U.heap ∧ KX G ty U)) Qc 0 0 (fun _ => False) := by
  refine Met.ofW (cc := cc) (maxL := maxL) (ret := ret) hy hw ?_
  intro p e s m args below meth c s₁ B hml hv
  obtain ⟨rfl, hP, hK⟩ := hv
  have hl := lv_entry av (n := maxL) hn
  rw [lg_entry_eq]
  have hown : s.vm.findClass y.cls = some m.cls := findClass_of_methodNamed B.named
  exact body p e s m below meth c _ B.exec B.bytes B.returns hml (by rw [← ho]; exact hown) (fun w h => atoms_spec (ws := ws) B.pre w (by rw [hw]; exact List.mem_cons_of_mem _ h)) B.notSynchronized hP hK hl
/-- a method that writes: its walk from the entry; A: what it may write -/
theorem met_wr {l : Launch} {y : MethodName} {ws : List Cond} {rm : Room} {cc : ByteArray} {maxL mc ms sz : Nat} {ret : Option FieldType} {G : va_G} {ty : Nat → ClassId} {W0 : va_W} {av : List Value} (Qf : (Nat → Prop) → Array Value → State → Outcome → State → Prop) (own : String)
    (hy : plainName y.cls = true) (hw : ws = Cond.code y cc maxL ret :: TB) (ho : y.cls = own) (hn : (lg_sl av).length ≤ maxL)
    (body : ∀ (p : Program) (e : Env) (s : State) (m : MethodId) (below : List Frame) (meth : Method) (c : Code) (ls : Array Slot) (A : Nat → Prop), p.tables.exec = Jvm.exec → c.code = cc → meth.sig.returnType = ret → c.maxLocals = maxL → s.vm.findClass own = some m.cls → (∀ w ∈ TB, w.before av.toArray s = true) → meth.locks = false → meth.name = y.name → (∀ q : Nat, s.heap.size ≤ q → A q) → va_P G vwCl W0 s.heap → KX G ty s → va_D A W0 → va_S A s.heap s.heap [] → lv_has ls maxL (lv_args 0 av) →
      W p l e rm s m av.toArray below meth c s.heap [] 0 0 (MQ below (Qf A) av.toArray s mc ms A) (F0 m 0 ls [])) :
    Met l y ws rm (va_Pc av (fun U => U.heap.size = sz ∧ va_P G vwCl W0 U.heap ∧ KX G ty U ∧ va_D (fun _ => True) W0)) (Qf (va_A W0 sz)) mc ms (va_A W0 sz) := by
  refine Met.ofW (cc := cc) (maxL := maxL) (ret := ret) hy hw ?_
  intro p e s m args below meth c s₁ B hml hv
  obtain ⟨rfl, hsz, hP, hK, hD0⟩ := hv
  subst hsz
  have hl := lv_entry av (n := maxL) hn
  rw [lg_entry_eq]
  have hown : s.vm.findClass y.cls = some m.cls := findClass_of_methodNamed B.named
  exact body p e s m below meth c _ (va_A W0 s.heap.size) B.exec B.bytes B.returns hml (by rw [← ho]; exact hown) (fun w h => atoms_spec (ws := ws) B.pre w (by rw [hw]; exact List.mem_cons_of_mem _ h)) B.notSynchronized (name_of_methodNamed B.named B.method).1 (fun q h => Or.inr h) hP hK (hD0.self) va_S.rf hl
/-- a reader's start holds where the caller's world has its cells -/
theorem fb_ro {G : va_G} {ty : Nat → ClassId} {W0 : va_W} {av : List Value} : FrameBlind (va_Pc av (fun U => va_P G vwCl W0 U.heap ∧ KX G ty U)) :=
  fun a U g mk q => ⟨q.1, q.2.1, q.2.2.calling⟩
theorem preS_ro {s : State} {H : Heap} {G : va_G} {ty : Nat → ClassId} {W0 : va_W} {av : List Value} (hP : va_P G vwCl W0 H) (hX : KX G ty s) : PreS s H (va_Pc av (fun U => va_P G vwCl W0 U.heap ∧ KX G ty U)) av :=
  ⟨fb_ro, fun U hU hW => ⟨rfl, by rw [hU]; exact hP, hX.warm hW⟩⟩
theorem preV_ro {s : State} {H : Heap} {G : va_G} {ty : Nat → ClassId} {W0 : va_W} {a : Nat} {As : List Value} {ci : Nat} {q : vw_C} {fs : List Value} (hP : va_P G vwCl W0 H) (hX : KX G ty s) (q0 : Nat) (he : W0[q0]? = some (a, .inr (ci, fs))) (hc : vwCl[ci]? = some q) : PreV s H q.1 a (va_Pc (.ref a :: As) (fun U => va_P G vwCl W0 U.heap ∧ KX G ty U)) As :=
  ⟨fb_ro, va_recv hX.1 hP hc he, fun U hU hW => ⟨rfl, by rw [hU]; exact hP, hX.warm hW⟩⟩
theorem fb_wr {G : va_G} {ty : Nat → ClassId} {W0 : va_W} {av : List Value} {sz : Nat} {A : Nat → Prop} : FrameBlind (va_Pc av (fun U => U.heap.size = sz ∧ va_P G vwCl W0 U.heap ∧ KX G ty U ∧ va_D A W0)) :=
  fun a U g mk q => ⟨q.1, q.2.1, q.2.2.1, q.2.2.2.1.calling, q.2.2.2.2⟩
theorem preS_wr {s : State} {H : Heap} {G : va_G} {ty : Nat → ClassId} {W0 : va_W} {av : List Value} {A : Nat → Prop} (hP : va_P G vwCl W0 H) (hX : KX G ty s) (hD : va_D A W0) : PreS s H (va_Pc av (fun U => U.heap.size = H.size ∧ va_P G vwCl W0 U.heap ∧ KX G ty U ∧ va_D (fun _ => True) W0)) av :=
  ⟨fb_wr, fun U hU hW => ⟨rfl, by rw [hU], by rw [hU]; exact hP, hX.warm hW, hD.weaken (fun _ _ _ _ => trivial)⟩⟩
theorem preV_wr {s : State} {H : Heap} {G : va_G} {ty : Nat → ClassId} {W0 : va_W} {a : Nat} {As : List Value} {A : Nat → Prop} {ci : Nat} {q : vw_C} {fs : List Value} (hP : va_P G vwCl W0 H) (hX : KX G ty s) (hD : va_D A W0) (q0 : Nat) (he : W0[q0]? = some (a, .inr (ci, fs))) (hc : vwCl[ci]? = some q) : PreV s H q.1 a (va_Pc (.ref a :: As) (fun U => U.heap.size = H.size ∧ va_P G vwCl W0 U.heap ∧ KX G ty U ∧ va_D (fun _ => True) W0)) As :=
  ⟨fb_wr, va_recv hX.1 hP hc he, fun U hU hW => ⟨rfl, by rw [hU], by rw [hU]; exact hP, hX.warm hW, hD.weaken (fun _ _ _ _ => trivial)⟩⟩
/-- what a writer leaves: its new world -/
abbrev at_W {S : Type} (G : va_G) (W1 : S → va_W) (A : Nat → Prop) (u : S) (t : State) : Prop := va_P G vwCl (W1 u) t.heap ∧ va_D A (W1 u)
section CW
variable {p : Program} {l : Launch} {e : Env} {R : Room} {s : State} {m : MethodId} {args : Array Value} {below : List Frame} {meth : Method} {c : Code} {H : Heap} {locs : List Loc} {cells slots mc ms : Nat} {Q : State → Prop}
variable {pc : Nat} {ls : Array Slot} {rest st0 : List Value} {G : va_G} {A : Nat → Prop} {ws Wc Wr : va_W} {H0 : Heap} {a : Array Value}
theorem call_wr_v {S : Type} {post : S → Prop} {W1 : S → va_W} (hr : va_Run p l e R s m args below meth c H locs cells slots mc ms (F0 m pc ls st0) rest (va_Qv post (at_W G W1 (va_A Wc H.size)) (va_A Wc H.size) a) (va_A Wc H.size)) (hP : va_P G vwCl ws H) (hD : va_D A ws) (hS : va_S A H0 H locs) (hA : ∀ q, H0.size ≤ q → A q) (isC isR : List Nat) (hC : isC.map (fun i => ws[i]?) = Wc.map some) (hR : isR.map (fun i => ws[i]?) = Wr.map some) (hn : va_nd isR = true) (hdis : ∀ i ∈ isR, i ∉ isC)
    (kk : ∀ (u : S) (H1 : Heap) (locs1 : List Loc), post u → va_P G vwCl (Wr ++ W1 u) H1 → va_D A (Wr ++ W1 u) → va_S A H0 H1 locs1 → W p l e R s m args below meth c H1 locs1 (cells + mc) (slots + ms) Q (F0 m (pc + 3) ls rest)) : W p l e R s m args below meth c H locs cells slots Q (F0 m pc ls st0) := by
  have hFc := va_free (wc := Wc) hD hS hA isC hC
  refine va_callv hr hS (fun q _ h => hFc q h) hFc (fun u t H1 locs1 ht hvm hw hB hz1 hk1 hS1 => ?_)
  obtain ⟨hP1, hD1⟩ := hB
  rw [ht] at hP1
  obtain ⟨hP2, hD2⟩ := va_join (wr := Wr) (w1 := W1 u) hP hD isC isR hC hR hn hdis hk1 hFc hP1 hD1
  exact kk u H1 locs1 hw hP2 hD2 hS1
theorem call_wr_i {S : Type} {post : Int32 → S → Prop} {W1 : S → va_W} (hr : va_Run p l e R s m args below meth c H locs cells slots mc ms (F0 m pc ls st0) rest (va_Qi post (at_W G W1 (va_A Wc H.size)) (va_A Wc H.size) a) (va_A Wc H.size)) (hP : va_P G vwCl ws H) (hD : va_D A ws) (hS : va_S A H0 H locs) (hA : ∀ q, H0.size ≤ q → A q) (isC isR : List Nat) (hC : isC.map (fun i => ws[i]?) = Wc.map some) (hR : isR.map (fun i => ws[i]?) = Wr.map some) (hn : va_nd isR = true) (hdis : ∀ i ∈ isR, i ∉ isC)
    (kk : ∀ (r : Int32) (u : S) (H1 : Heap) (locs1 : List Loc), post r u → va_P G vwCl (Wr ++ W1 u) H1 → va_D A (Wr ++ W1 u) → va_S A H0 H1 locs1 → W p l e R s m args below meth c H1 locs1 (cells + mc) (slots + ms) Q (F0 m (pc + 3) ls (.int r :: rest))) : W p l e R s m args below meth c H locs cells slots Q (F0 m pc ls st0) := by
  have hFc := va_free (wc := Wc) hD hS hA isC hC
  refine va_calli hr hS (fun q _ h => hFc q h) hFc (fun r u t H1 locs1 ht hvm hw hB hz1 hk1 hS1 => ?_)
  obtain ⟨hP1, hD1⟩ := hB
  rw [ht] at hP1
  obtain ⟨hP2, hD2⟩ := va_join (wr := Wr) (w1 := W1 u) hP hD isC isR hC hR hn hdis hk1 hFc hP1 hD1
  exact kk r u H1 locs1 hw hP2 hD2 hS1
theorem call_wr_l {S : Type} {post : Int64 → S → Prop} {W1 : S → va_W} (hr : va_Run p l e R s m args below meth c H locs cells slots mc ms (F0 m pc ls st0) rest (va_Ql post (at_W G W1 (va_A Wc H.size)) (va_A Wc H.size) a) (va_A Wc H.size)) (hP : va_P G vwCl ws H) (hD : va_D A ws) (hS : va_S A H0 H locs) (hA : ∀ q, H0.size ≤ q → A q) (isC isR : List Nat) (hC : isC.map (fun i => ws[i]?) = Wc.map some) (hR : isR.map (fun i => ws[i]?) = Wr.map some) (hn : va_nd isR = true) (hdis : ∀ i ∈ isR, i ∉ isC)
    (kk : ∀ (r : Int64) (u : S) (H1 : Heap) (locs1 : List Loc), post r u → va_P G vwCl (Wr ++ W1 u) H1 → va_D A (Wr ++ W1 u) → va_S A H0 H1 locs1 → W p l e R s m args below meth c H1 locs1 (cells + mc) (slots + ms) Q (F0 m (pc + 3) ls (.long r :: rest))) : W p l e R s m args below meth c H locs cells slots Q (F0 m pc ls st0) := by
  have hFc := va_free (wc := Wc) hD hS hA isC hC
  refine va_calll hr hS (fun q _ h => hFc q h) hFc (fun r u t H1 locs1 ht hvm hw hB hz1 hk1 hS1 => ?_)
  obtain ⟨hP1, hD1⟩ := hB
  rw [ht] at hP1
  obtain ⟨hP2, hD2⟩ := va_join (wr := Wr) (w1 := W1 u) hP hD isC isR hC hR hn hdis hk1 hFc hP1 hD1
  exact kk r u H1 locs1 hw hP2 hD2 hS1
end CW
theorem nar_b0 : narrow .boolean (.int (nI 0)) = .int (nI 0) := by decide +kernel
theorem nar_b1 : narrow .boolean (.int (nI 1)) = .int (nI 1) := by decide +kernel
theorem fit_b0 : fits .boolean (.int (nI 0)) = true := by decide +kernel
theorem fit_b1 : fits .boolean (.int (nI 1)) = true := by decide +kernel
/-- a world and the pools behind it -/
abbrev WP (X pl : va_W) : va_W := X ++ pl
/-- a pool: n objects, by number -/
def pool (n : Nat) (F : Nat → Nat × va_E) : va_W := (List.range n).map F
theorem pool_at {n i : Nat} {F : Nat → Nat × va_E} (h : i < n) : (pool n F)[i]? = some (F i) := by
  unfold pool
  rw [List.getElem?_map, List.getElem?_range h]
  rfl
theorem pool_len (n : Nat) (F : Nat → Nat × va_E) : (pool n F).length = n := by simp [pool]
theorem pool_1 {X : va_W} {n m i : Nat} {F K : Nat → Nat × va_E} (k : Nat) (hk : X.length = k) (h : i < n) : (X ++ (pool n F ++ pool m K))[k + i]? = some (F i) := by
  rw [List.getElem?_append_right (by omega), List.getElem?_append_left (by rw [pool_len]; omega), hk, Nat.add_sub_cancel_left, pool_at h]
theorem pool_2 {X : va_W} {n m i : Nat} {F K : Nat → Nat × va_E} (k : Nat) (hk : X.length = k) (h : i < m) : (X ++ (pool n F ++ pool m K))[k + (n + i)]? = some (K i) := by
  rw [List.getElem?_append_right (by omega), hk, Nat.add_sub_cancel_left, List.getElem?_append_right (by rw [pool_len]; omega), pool_len, Nat.add_sub_cancel_left, pool_at h]
theorem pool_set {n i : Nat} {F F' : Nat → Nat × va_E} {x : Nat × va_E} (h1 : F' i = x) (h2 : ∀ j, j ≠ i → F' j = F j) : (pool n F).set i x = pool n F' := by
  apply List.ext_getElem?
  intro j
  by_cases hj : j < n
  · by_cases hi : i = j
    · subst hi
      rw [List.getElem?_set_self (by rw [pool_len]; exact hj), pool_at hj, h1]
    · rw [List.getElem?_set_ne hi, pool_at hj, pool_at hj, h2 j (fun q => hi q.symm)]
  · rw [List.getElem?_eq_none (by rw [List.length_set, pool_len]; omega), List.getElem?_eq_none (by rw [pool_len]; omega)]
theorem pool_set2 {X : va_W} {n m i : Nat} {F K K' : Nat → Nat × va_E} {x : Nat × va_E} (k : Nat) (hk : X.length = k) (h1 : K' i = x) (h2 : ∀ j, j ≠ i → K' j = K j) : (X ++ (pool n F ++ pool m K)).set (k + (n + i)) x = X ++ (pool n F ++ pool m K') := by
  rw [List.set_append_right _ _ (by omega), List.set_append_right _ _ (by rw [pool_len]; omega), hk, pool_len, Nat.add_sub_cancel_left, Nat.add_sub_cancel_left, pool_set h1 h2]
theorem pool_congr {n : Nat} {F F' : Nat → Nat × va_E} (h : ∀ i, i < n → F i = F' i) : pool n F = pool n F' := by
  unfold pool
  exact List.map_congr_left (fun i hi => h i (List.mem_range.mp hi))
theorem pre_of {D : va_G} {X pl : va_W} {H : Heap} (h : va_P D vwCl (X ++ pl) H) : va_P D vwCl X H := fun k q hk => h k q (by rw [List.getElem?_append_left (List.getElem?_eq_some_iff.mp hk).1]; exact hk)
theorem pre_ofD {A : Nat → Prop} {X pl : va_W} (h : va_D A (X ++ pl)) : va_D A X := by
  have key : ∀ (k : Nat) (q : Nat × va_E), X[k]? = some q → (X ++ pl)[k]? = some q := fun k q hk => by rw [List.getElem?_append_left (List.getElem?_eq_some_iff.mp hk).1]; exact hk
  exact ⟨fun i j p q hp hq => h.1 i j p q (key i p hp) (key j q hq), fun k q hk => h.2 k q (key k q hk)⟩
section CP
variable {p : Program} {l : Launch} {e : Env} {R : Room} {s : State} {m : MethodId} {args : Array Value} {below : List Frame} {meth : Method} {c : Code} {H : Heap} {locs : List Loc} {cells slots mc ms : Nat} {Q : State → Prop}
variable {pc : Nat} {ls : Array Slot} {rest st0 : List Value} {G : va_G} {A : Nat → Prop} {X Wc Wr pl : va_W} {H0 : Heap} {a : Array Value}
theorem call_wrP_v {S : Type} {post : S → Prop} {W1 : S → va_W} {pl1 : S → va_W} (hr : va_Run p l e R s m args below meth c H locs cells slots mc ms (F0 m pc ls st0) rest (va_Qv post (at_W G (fun u => W1 u ++ pl1 u) (va_A (Wc ++ pl) H.size)) (va_A (Wc ++ pl) H.size) a) (va_A (Wc ++ pl) H.size)) (hP : va_P G vwCl (X ++ pl) H) (hD : va_D A (X ++ pl)) (hS : va_S A H0 H locs) (hA : ∀ q, H0.size ≤ q → A q) (isC isR : List Nat) (hC : isC.map (fun i => X[i]?) = Wc.map some) (hR : isR.map (fun i => X[i]?) = Wr.map some) (hn : va_nd isR = true) (hdis : ∀ i ∈ isR, i ∉ isC)
    (kk : ∀ (u : S) (H1 : Heap) (locs1 : List Loc), post u → va_P G vwCl ((Wr ++ W1 u) ++ pl1 u) H1 → va_D A ((Wr ++ W1 u) ++ pl1 u) → va_S A H0 H1 locs1 → W p l e R s m args below meth c H1 locs1 (cells + mc) (slots + ms) Q (F0 m (pc + 3) ls rest)) : W p l e R s m args below meth c H locs cells slots Q (F0 m pc ls st0) := by
  have hFc := va_freeP hD hS hA isC hC
  refine va_callv hr hS (fun q _ h => hFc q h) hFc (fun u t H1 locs1 ht hvm hw hB hz1 hk1 hS1 => ?_)
  obtain ⟨hP1, hD1⟩ := hB
  rw [ht] at hP1
  obtain ⟨hP2, hD2⟩ := va_joinP (wr := Wr) hP hD isC isR hC hR hn hdis hk1 hFc hP1 hD1
  exact kk u H1 locs1 hw hP2 hD2 hS1
theorem call_wrQ_v {S : Type} {post : S → Prop} {W1 : S → va_W} (hr : va_Run p l e R s m args below meth c H locs cells slots mc ms (F0 m pc ls st0) rest (va_Qv post (at_W G W1 (va_A Wc H.size)) (va_A Wc H.size) a) (va_A Wc H.size)) (hP : va_P G vwCl (X ++ pl) H) (hD : va_D A (X ++ pl)) (hS : va_S A H0 H locs) (hA : ∀ q, H0.size ≤ q → A q) (isC isR : List Nat) (hC : isC.map (fun i => X[i]?) = Wc.map some) (hR : isR.map (fun i => X[i]?) = Wr.map some) (hn : va_nd isR = true) (hdis : ∀ i ∈ isR, i ∉ isC)
    (kk : ∀ (u : S) (H1 : Heap) (locs1 : List Loc), post u → va_P G vwCl ((Wr ++ W1 u) ++ pl) H1 → va_D A ((Wr ++ W1 u) ++ pl) → va_S A H0 H1 locs1 → W p l e R s m args below meth c H1 locs1 (cells + mc) (slots + ms) Q (F0 m (pc + 3) ls rest)) : W p l e R s m args below meth c H locs cells slots Q (F0 m pc ls st0) := by
  have hFc := va_free (wc := Wc) (pre_ofD hD) hS hA isC hC
  refine va_callv hr hS (fun q _ h => hFc q h) hFc (fun u t H1 locs1 ht hvm hw hB hz1 hk1 hS1 => ?_)
  obtain ⟨hP1, hD1⟩ := hB
  rw [ht] at hP1
  obtain ⟨hP2, hD2⟩ := va_joinQ (wr := Wr) (w1 := W1 u) hP hD isC isR hC hR hn hdis hk1 hFc hP1 hD1
  exact kk u H1 locs1 hw hP2 hD2 hS1
theorem call_wrP_i {S : Type} {post : Int32 → S → Prop} {W1 : S → va_W} {pl1 : S → va_W} (hr : va_Run p l e R s m args below meth c H locs cells slots mc ms (F0 m pc ls st0) rest (va_Qi post (at_W G (fun u => W1 u ++ pl1 u) (va_A (Wc ++ pl) H.size)) (va_A (Wc ++ pl) H.size) a) (va_A (Wc ++ pl) H.size)) (hP : va_P G vwCl (X ++ pl) H) (hD : va_D A (X ++ pl)) (hS : va_S A H0 H locs) (hA : ∀ q, H0.size ≤ q → A q) (isC isR : List Nat) (hC : isC.map (fun i => X[i]?) = Wc.map some) (hR : isR.map (fun i => X[i]?) = Wr.map some) (hn : va_nd isR = true) (hdis : ∀ i ∈ isR, i ∉ isC)
    (kk : ∀ (r : Int32) (u : S) (H1 : Heap) (locs1 : List Loc), post r u → va_P G vwCl ((Wr ++ W1 u) ++ pl1 u) H1 → va_D A ((Wr ++ W1 u) ++ pl1 u) → va_S A H0 H1 locs1 → W p l e R s m args below meth c H1 locs1 (cells + mc) (slots + ms) Q (F0 m (pc + 3) ls (.int r :: rest))) : W p l e R s m args below meth c H locs cells slots Q (F0 m pc ls st0) := by
  have hFc := va_freeP hD hS hA isC hC
  refine va_calli hr hS (fun q _ h => hFc q h) hFc (fun r u t H1 locs1 ht hvm hw hB hz1 hk1 hS1 => ?_)
  obtain ⟨hP1, hD1⟩ := hB
  rw [ht] at hP1
  obtain ⟨hP2, hD2⟩ := va_joinP (wr := Wr) hP hD isC isR hC hR hn hdis hk1 hFc hP1 hD1
  exact kk r u H1 locs1 hw hP2 hD2 hS1
theorem call_wrQ_i {S : Type} {post : Int32 → S → Prop} {W1 : S → va_W} (hr : va_Run p l e R s m args below meth c H locs cells slots mc ms (F0 m pc ls st0) rest (va_Qi post (at_W G W1 (va_A Wc H.size)) (va_A Wc H.size) a) (va_A Wc H.size)) (hP : va_P G vwCl (X ++ pl) H) (hD : va_D A (X ++ pl)) (hS : va_S A H0 H locs) (hA : ∀ q, H0.size ≤ q → A q) (isC isR : List Nat) (hC : isC.map (fun i => X[i]?) = Wc.map some) (hR : isR.map (fun i => X[i]?) = Wr.map some) (hn : va_nd isR = true) (hdis : ∀ i ∈ isR, i ∉ isC)
    (kk : ∀ (r : Int32) (u : S) (H1 : Heap) (locs1 : List Loc), post r u → va_P G vwCl ((Wr ++ W1 u) ++ pl) H1 → va_D A ((Wr ++ W1 u) ++ pl) → va_S A H0 H1 locs1 → W p l e R s m args below meth c H1 locs1 (cells + mc) (slots + ms) Q (F0 m (pc + 3) ls (.int r :: rest))) : W p l e R s m args below meth c H locs cells slots Q (F0 m pc ls st0) := by
  have hFc := va_free (wc := Wc) (pre_ofD hD) hS hA isC hC
  refine va_calli hr hS (fun q _ h => hFc q h) hFc (fun r u t H1 locs1 ht hvm hw hB hz1 hk1 hS1 => ?_)
  obtain ⟨hP1, hD1⟩ := hB
  rw [ht] at hP1
  obtain ⟨hP2, hD2⟩ := va_joinQ (wr := Wr) (w1 := W1 u) hP hD isC isR hC hR hn hdis hk1 hFc hP1 hD1
  exact kk r u H1 locs1 hw hP2 hD2 hS1
theorem call_wrP_l {S : Type} {post : Int64 → S → Prop} {W1 : S → va_W} {pl1 : S → va_W} (hr : va_Run p l e R s m args below meth c H locs cells slots mc ms (F0 m pc ls st0) rest (va_Ql post (at_W G (fun u => W1 u ++ pl1 u) (va_A (Wc ++ pl) H.size)) (va_A (Wc ++ pl) H.size) a) (va_A (Wc ++ pl) H.size)) (hP : va_P G vwCl (X ++ pl) H) (hD : va_D A (X ++ pl)) (hS : va_S A H0 H locs) (hA : ∀ q, H0.size ≤ q → A q) (isC isR : List Nat) (hC : isC.map (fun i => X[i]?) = Wc.map some) (hR : isR.map (fun i => X[i]?) = Wr.map some) (hn : va_nd isR = true) (hdis : ∀ i ∈ isR, i ∉ isC)
    (kk : ∀ (r : Int64) (u : S) (H1 : Heap) (locs1 : List Loc), post r u → va_P G vwCl ((Wr ++ W1 u) ++ pl1 u) H1 → va_D A ((Wr ++ W1 u) ++ pl1 u) → va_S A H0 H1 locs1 → W p l e R s m args below meth c H1 locs1 (cells + mc) (slots + ms) Q (F0 m (pc + 3) ls (.long r :: rest))) : W p l e R s m args below meth c H locs cells slots Q (F0 m pc ls st0) := by
  have hFc := va_freeP hD hS hA isC hC
  refine va_calll hr hS (fun q _ h => hFc q h) hFc (fun r u t H1 locs1 ht hvm hw hB hz1 hk1 hS1 => ?_)
  obtain ⟨hP1, hD1⟩ := hB
  rw [ht] at hP1
  obtain ⟨hP2, hD2⟩ := va_joinP (wr := Wr) hP hD isC isR hC hR hn hdis hk1 hFc hP1 hD1
  exact kk r u H1 locs1 hw hP2 hD2 hS1
theorem call_wrQ_l {S : Type} {post : Int64 → S → Prop} {W1 : S → va_W} (hr : va_Run p l e R s m args below meth c H locs cells slots mc ms (F0 m pc ls st0) rest (va_Ql post (at_W G W1 (va_A Wc H.size)) (va_A Wc H.size) a) (va_A Wc H.size)) (hP : va_P G vwCl (X ++ pl) H) (hD : va_D A (X ++ pl)) (hS : va_S A H0 H locs) (hA : ∀ q, H0.size ≤ q → A q) (isC isR : List Nat) (hC : isC.map (fun i => X[i]?) = Wc.map some) (hR : isR.map (fun i => X[i]?) = Wr.map some) (hn : va_nd isR = true) (hdis : ∀ i ∈ isR, i ∉ isC)
    (kk : ∀ (r : Int64) (u : S) (H1 : Heap) (locs1 : List Loc), post r u → va_P G vwCl ((Wr ++ W1 u) ++ pl) H1 → va_D A ((Wr ++ W1 u) ++ pl) → va_S A H0 H1 locs1 → W p l e R s m args below meth c H1 locs1 (cells + mc) (slots + ms) Q (F0 m (pc + 3) ls (.long r :: rest))) : W p l e R s m args below meth c H locs cells slots Q (F0 m pc ls st0) := by
  have hFc := va_free (wc := Wc) (pre_ofD hD) hS hA isC hC
  refine va_calll hr hS (fun q _ h => hFc q h) hFc (fun r u t H1 locs1 ht hvm hw hB hz1 hk1 hS1 => ?_)
  obtain ⟨hP1, hD1⟩ := hB
  rw [ht] at hP1
  obtain ⟨hP2, hD2⟩ := va_joinQ (wr := Wr) (w1 := W1 u) hP hD isC isR hC hR hn hdis hk1 hFc hP1 hD1
  exact kk r u H1 locs1 hw hP2 hD2 hS1
end CP
theorem P_nil {G : va_G} {H : Heap} : va_P G vwCl [] H := fun k q h => by simp at h
theorem P_cons {G : va_G} {H : Heap} {q : Nat × va_E} {ws : va_W} (h : va_at G vwCl q H) (ht : va_P G vwCl ws H) : va_P G vwCl (q :: ws) H := by
  intro k x hk
  cases k with
  | zero => simp at hk; subst hk; exact h
  | succ k => exact ht k x (by simpa using hk)
/-- the two pools: the faults, the sorts -/
def PLd (nf : Nat) (adF : Nat → Nat) (fd : Nat → Nat → Int) (ns : Nat) (adS : Nat → Nat) (sw sp : Nat → Nat) (sn pr : Nat → Int) (sl sm : Nat → Nat) (sb : Nat → Int32) (lo hi : Nat → Nat) (sa : Nat → Int32) : va_W :=
  pool nf (fun i => (adF i, .inr (2, [.int (iI (fd i 0)), .int (iI (fd i 1)), .int (iI (fd i 2)), .int (iI (fd i 3)), .int (iI (fd i 4)), .int (iI (fd i 5))]))) ++
  pool ns (fun i => (adS i, .inr (7, [.int (nI (sw i)), .int (nI (sp i)), .int (iI (sn i)), .long (iL (pr i)), .int (nI (sl i)), .int (nI (sm i)), .int (sb i), .int (nI (lo i)), .int (nI (hi i)), .int (sa i)])))
