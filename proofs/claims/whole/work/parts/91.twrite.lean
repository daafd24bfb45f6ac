

-- a method that throws after it has written
def QTW {S : Type} (X : String) (G : va_G) (W1 : S → va_W) (A : Nat → Prop) : Array Value → State → Outcome → State → Prop := fun _ st o t => (∃ (x : Addr) (ce : Cell) (u : S), o = .threw x ∧ t.heap[x]? = some ce ∧ st.vm.findClass X = some ce.cls ∧ ce.vm = .none ∧ va_P G vwCl (W1 u) t.heap ∧ va_D A (W1 u)) ∧ va_F A st t
theorem preS_thH {s : State} {H : Heap} {G : va_G} {ty : Nat → ClassId} {W0 : va_W} {av : List Value} (hP : va_P G vwCl W0 H) (hX : KX G ty s) (hZ : ZH s H) : PreS s H (va_Pc av (fun U => va_P G vwCl W0 U.heap ∧ KX G ty U ∧ ZS U)) av :=
  ⟨fb_th, fun U hU hW => ⟨rfl, by rw [hU]; exact hP, hX.warm hW, hZ U hU hW⟩⟩
theorem preV_hx {s : State} {H : Heap} {G : va_G} {ty : Nat → ClassId} {W0 : va_W} {a : Nat} {As : List Value} {A : Nat → Prop} {ci : Nat} {q : vw_C} {fs : List Value} (hP : va_P G vwCl W0 H) (hX : KX G ty s) (hD : va_D A W0) (hZ : ZH s H) (q0 : Nat) (he : W0[q0]? = some (a, .inr (ci, fs))) (hc : vwCl[ci]? = some q) : PreV s H q.1 a (va_Pc (.ref a :: As) (fun U => U.heap.size = H.size ∧ va_P G vwCl W0 U.heap ∧ KX G ty U ∧ va_D (fun _ => True) W0 ∧ ZS U)) As :=
  ⟨fb_hx, va_recv hX.1 hP hc he, fun U hU hW => ⟨rfl, by rw [hU], by rw [hU]; exact hP, hX.warm hW, hD.weaken (fun _ _ _ _ => trivial), hZ U hU hW⟩⟩
theorem QTW_out {S : Type} {X : String} {G : va_G} {W1 : S → va_W} {A : Nat → Prop} {A0 A' : Array Value} {s st₀ t U : State} {H : Heap} {locs : List Loc} {x : Addr} (u : S) (h0 : st₀.heap = H) (hW : s.WarmedH st₀.vm) (h : QT X A0 st₀ (.threw x) t) (hU : U.heap = t.heap) (hP : va_P G vwCl (W1 u) H) (hD : va_D A (W1 u)) (hS : va_S A s.heap H locs) : QTW X G W1 A A' s (.threw x) U := by
  obtain ⟨x', ce, e1, h1, h2, h3, h4, h5, h6⟩ := h
  rw [h0] at h2 h5 h6
  refine ⟨⟨x', ce, u, e1, by rw [hU]; exact h1, by rw [← hW.alike.findClass]; exact h3, h4, fun k q hk => by have h9 := (hP k q hk).lt; exact (hP k q hk).kept (by rw [hU]; exact h6 q.1 h9), hD⟩, by rw [hU]; exact Nat.le_trans hS.1 h5, fun q z1 z2 => ?_⟩
  rw [hU, h6 q (Nat.lt_of_lt_of_le z1 hS.1)]
  exact hS.2.1 q z1 z2
theorem met_thw {l : Launch} {y : MethodName} {ws : List Cond} {rm : Room} {cc : ByteArray} {maxL mc ms sz : Nat} {ret : Option FieldType} {G : va_G} {ty : Nat → ClassId} {W0 : va_W} {av : List Value} (Qf : (Nat → Prop) → Array Value → State → Outcome → State → Prop) (own : String)
    (hy : plainName y.cls = true) (hw : ws = Cond.code y cc maxL ret :: TB) (ho : y.cls = own) (hn : (lg_sl av).length ≤ maxL)
    (body : ∀ (p : Program) (e : Env) (s : State) (m : MethodId) (below : List Frame) (meth : Method) (c : Code) (ls : Array Slot) (A : Nat → Prop), p.tables.exec = Jvm.exec → c.code = cc → c.maxLocals = maxL → s.vm.findClass own = some m.cls → (∀ w ∈ TB, w.before av.toArray s = true) → meth.locks = false → (∀ (pc : Nat), ∀ x ∈ c.exceptionTable.toList, covers x pc = false) → (∀ q : Nat, s.heap.size ≤ q → A q) → va_P G vwCl W0 s.heap → KX G ty s → va_D A W0 → va_S A s.heap s.heap [] → ZS s → (∀ (q : Nat) (c : Cell), s.heap[q]? = some c → c.vm.isStatics = true → ¬ A q) → lv_has ls maxL (lv_args 0 av) →
      W p l e rm s m av.toArray below meth c s.heap [] 0 0 (MQT below (Qf A) av.toArray s mc ms A) (F0 m 0 ls [])) :
    MetT l y ws rm (va_Pc av (fun U => U.heap.size = sz ∧ va_P G vwCl W0 U.heap ∧ KX G ty U ∧ va_D (fun _ => True) W0 ∧ ZS U)) (Qf (va_A W0 sz)) mc ms (va_A W0 sz) := by
  refine MetT.ofW (cc := cc) (maxL := maxL) (ret := ret) hy hw ?_
  intro p e s m args below meth c s₁ B hml hv
  obtain ⟨rfl, hsz, hP, hK, hD0, hZ⟩ := hv
  subst hsz
  have hl := lv_entry av (n := maxL) hn
  rw [lg_entry_eq]
  have hown : s.vm.findClass y.cls = some m.cls := findClass_of_methodNamed B.named
  have hcodeV : (Cond.code y cc maxL ret).before av.toArray s = true := atoms_spec (ws := ws) B.pre _ (by rw [hw]; exact List.mem_cons_self)
  exact body p e s m below meth c _ (va_A W0 s.heap.size) B.exec B.bytes hml (by rw [← ho]; exact hown) (fun w h => atoms_spec (ws := ws) B.pre w (by rw [hw]; exact List.mem_cons_of_mem _ h)) B.notSynchronized (fun pc => covers_of_empty (B.noHandlers hcodeV) pc) (fun q h => Or.inr h) hP hK (hD0.self) va_S.rf hZ (va_A.plain hP) hl
/-- what was thrown after writing is caught -/
theorem W.caughtTW {p : Program} {l : Launch} {e : Env} {R : Room} {s : State} {m : MethodId} {args : Array Value} {below : List Frame} {meth : Method} {c : Code} {H : Heap} {locs : List Loc} {cells slots : Nat} {Q : State → Prop} {G : va_G} {ty : Nat → ClassId} {ws Wc Wr : va_W} {A : Nat → Prop} {H0 : Heap} {pc : Nat} {ls : Array Slot} {st0 rest : List Value} {X own : String} {A' : Array Value} {S : Type} {W1 : S → va_W}
    (hr : TRun p l e R s m args below meth c H locs cells slots 1 6 (F0 m pc ls st0) rest (QTW X G W1 (va_A Wc H.size) A') (va_A Wc H.size)) (hown : s.vm.findClass own = some m.cls) (hX : KX G ty s)
    (pre : List ExceptionTableEntry) (x : ExceptionTableEntry) (post : List ExceptionTableEntry) (hsplit : c.exceptionTable.toList = pre ++ x :: post)
    (hpass : ∀ y ∈ pre, y.catchType ≠ 0 ∧ ∃ Y : String, (Cond.classLink own y.catchType Y).before args s = true ∧ (X, Y) ∈ apart) (hcov : covers x pc = true) (h0 : x.catchType ≠ 0) (hlink : (Cond.classLink own x.catchType X).before args s = true) (hcast : Cond.castable X X ∈ faceW)
    (hP : va_P G vwCl ws H) (hD : va_D A ws) (hS : va_S A H0 H locs) (hA : ∀ q, H0.size ≤ q → A q) (isC isR : List Nat) (hC : isC.map (fun i => ws[i]?) = Wc.map some) (hR : isR.map (fun i => ws[i]?) = Wr.map some) (hn : va_nd isR = true) (hdis : ∀ i ∈ isR, i ∉ isC)
    (kk : ∀ (a : Nat) (u : S) (H1 : Heap) (locs1 : List Loc), va_P G vwCl (Wr ++ W1 u) H1 → va_D A (Wr ++ W1 u) → va_S A H0 H1 locs1 → W p l e R s m args below meth c H1 locs1 (cells + 1) (slots + 6) Q (F0 m x.handlerPc ls [.ref a])) : W p l e R s m args below meth c H locs cells slots Q (F0 m pc ls st0) := by
  intro T hT S
  obtain ⟨a, st₀, t, T', L, h1, hW, S', hL, e1, e2, hq, st⟩ := hr T hT S
  obtain ⟨⟨a', ce, u, ea, hce, hcl, hvm, hP1, hD1⟩, hz, hk⟩ := hq
  cases ea
  rw [h1] at hz hk
  rw [hW.alike.findClass] at hcl
  have hpl : e.platform.magicAccessors = ({} : Platform).magicAccessors := by rw [S.admits.platform]
  obtain ⟨c3, cT, q3, qT, hfit⟩ := Cond.castable_spec (show (Cond.castable X X).before args s = true from va_tabs rfl rfl (hX.2.2.2.1 _ hcast))
  cases hcl.symm.trans q3
  obtain ⟨hend, hk0⟩ := S'.catches_of_link hown h0 hlink qT hfit
  obtain ⟨vm', S3, st3⟩ := S'.thenCaughtThrough a (g := { (F0 m pc ls st0 : JFrame) with stack := rest }) rfl st (cell := ce) (by rw [e1]; exact hce) (by rw [hvm]; rfl) hk0 pre x post hsplit (fun y hy => by
    obtain ⟨y0, Y, hl, hap⟩ := hpass y hy
    obtain ⟨c', hc', hcl'⟩ := Cond.classLink_spec hown hl e.platform hpl
    obtain ⟨c4, t4, r1, r2, r3⟩ := hX.2.2.2.2.2 _ hap
    cases hcl.symm.trans r1
    cases hc'.symm.trans r2
    exact Or.inr ⟨y0, c', hcl', r3⟩) hcov hend
  have hFc := va_free (wc := Wc) hD hS hA isC hC
  obtain ⟨hP2, hD2⟩ := va_join (wr := Wr) (w1 := W1 u) hP hD isC isR hC hR hn hdis hk hFc hP1 hD1
  obtain ⟨t2, a1, b1⟩ := kk a u t.heap (locs ++ L) hP2 hD2 ⟨Nat.le_trans hS.1 hz, fun q z1 z2 => by rw [hk q (Nat.lt_of_lt_of_le z1 hS.1) (fun z => z2 (hFc q z))]; exact hS.2.1 q z1 z2, fun q hq => by
      rcases List.mem_append.mp hq with h | h
      · exact hS.2.2 q h
      · exact hFc _ (hL q h)⟩ (T'.setVm vm') e1 S3
  exact ⟨t2, st3.trans a1, b1⟩
