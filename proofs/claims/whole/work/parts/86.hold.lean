

-- methods with handlers: what a callee throws is caught; how such a method is called
/-- what a throw asks, at this heap -/
def ZH (s : State) (H : Heap) : Prop := ∀ U : State, U.heap = H → s.WarmedH U.vm → ZS U
theorem ZH.of {s : State} {H : Heap} {A : Nat → Prop} {locs : List Loc} (hZ : ZS s) (hS : va_S A s.heap H locs) (hZA : ∀ (q : Nat) (c : Cell), s.heap[q]? = some c → c.vm.isStatics = true → ¬ A q) : ZH s H :=
  fun U hU hW => hZ.to hW (fun q c hq hs => by rw [hU, hS.2.1 q (Array.getElem?_eq_some_iff.mp hq).1 (hZA q c hq hs)]; exact hq)
theorem ZH.here {s : State} (hZ : ZS s) : ZH s s.heap := fun U hU hW => hZ.to hW (fun q c hq _ => by rw [hU]; exact hq)
theorem at_plain {D : va_G} {cl : List vw_C} {q : Nat × va_E} {H : Heap} (h : va_at D cl q H) : ∃ c : Cell, H[q.1]? = some c ∧ c.vm.isStatics = false := by
  obtain ⟨a, x⟩ := q
  cases x with
  | inl y =>
    refine ⟨_, h, ?_⟩
    obtain ⟨t, n, f | f | f | f | f⟩ := y <;> rfl
  | inr o =>
    obtain ⟨r, h1, cell, h2, h3, h4, -⟩ := h
    exact ⟨cell, h2, by rw [h4]; rfl⟩
theorem va_A.plain {D : va_G} {cl : List vw_C} {ws : va_W} {s : State} (hP : va_P D cl ws s.heap) : ∀ (q : Nat) (c : Cell), s.heap[q]? = some c → c.vm.isStatics = true → ¬ va_A ws s.heap.size q := by
  intro q c hq hs h
  rcases h with ⟨k, x, h⟩ | h
  · obtain ⟨c2, h2, h3⟩ := at_plain (hP k _ h)
    cases hq.symm.trans h2
    rw [h3] at hs; cases hs
  · have := (Array.getElem?_eq_some_iff.mp hq).1
    omega
section HX
variable {p : Program} {l : Launch} {e : Env} {R : Room} {s : State} {m : MethodId} {args : Array Value} {below : List Frame} {meth : Method} {c : Code} {H : Heap} {locs : List Loc} {cells slots : Nat} {Q : State → Prop}
  {Ts ws ws' : List Cond} {cc bytes : ByteArray} {nL maxL index n mc ms : Nat} {own : String} {y : MethodName} {ret : Option FieldType} {rm : Room} {Pc : Array Value → State → Prop} {Qc : Array Value → State → Outcome → State → Prop} {free : Addr → Prop}
  {As rest : List Value} {g : JFrame} {hh : List (Nat × Nat × Nat × Nat)}
abbrev CallX (R : Room) (s : State) (args : Array Value) (own : String) (index : Nat) (y : MethodName) (bytes : ByteArray) (maxL : Nat) (ret : Option FieldType) (hh : List (Nat × Nat × Nat × Nat)) (ws : List Cond) (rm : Room) (mc ms n : Nat) : Prop :=
  (rm.cells = mc ∧ rm.slots = ms ∧ rm.frames + 1 ≤ R.frames ∧ 8 + (maxL + 11) + rm.locals ≤ R.locals) ∧ (∀ w ∈ ws, ∀ (a' : Array Value) (U : State), s.WarmedH U.vm → w.before a' U = true) ∧ Cond.codeWith y bytes maxL ret hh ∈ ws ∧ (Cond.codeWith y bytes maxL ret hh).before args s = true ∧ (Cond.initialized y.cls).before args s = true ∧
  (y.cls ≠ "java/lang/invoke/MethodHandle" ∧ y.cls ≠ "java/lang/invoke/VarHandle") ∧ (∀ sig, parseMethodDescriptor y.desc = some sig → n = sig.parameters.length) ∧ (Cond.methodLink own index y).before args s = true ∧ (Cond.static y).before args s = true
theorem callX_of (n : Nat) (ht : ∀ w ∈ Ts, w.before args s = true) (hG : GoodIn Ts ws) (hw : ws = Cond.codeWith y bytes maxL ret hh :: ws') (hrc : rm.cells = mc) (hrs : rm.slots = ms) (hini : (Cond.initialized y.cls).before args s = true) (hl : (Cond.methodLink own index y).before args s = true) (hst : (Cond.static y).before args s = true)
    (hd : y.cls ≠ "java/lang/invoke/MethodHandle" ∧ y.cls ≠ "java/lang/invoke/VarHandle" ∧ (parseMethodDescriptor y.desc).map (fun d => d.parameters.length) = some n) (hR : rm.frames + 1 ≤ R.frames ∧ 8 + (maxL + 11) + rm.locals ≤ R.locals) : CallX R s args own index y bytes maxL ret hh ws rm mc ms n := by
  have hc : Cond.codeWith y bytes maxL ret hh ∈ ws := by rw [hw]; exact List.mem_cons_self
  refine ⟨⟨hrc, hrs, hR.1, hR.2⟩, pay_in ht hG, hc, ht _ (hG _ hc).1, hini, ⟨hd.1, hd.2.1⟩, fun sig h => ?_, hl, hst⟩
  have h2 := hd.2.2
  rw [h] at h2
  exact (Option.some.inj h2).symm
theorem va_runSX (S : CallFix p m c cc nL s args Ts own) (hM : Met l y ws rm Pc Qc mc ms free) (cw : CallX R s args own index y bytes maxL ret hh ws rm mc ms n) (hp : PreS s H Pc As)
    (hg : g.method = m) (hn : As.length = n) (hsize : g.locals.size = nL) (hstack : g.stack = As.reverse ++ rest) (hW : 2 * g.monitorRoom + (rest.map fun v => v.category).sum ≤ 8) (hdg : decode cc g.pc = .ok (.invokestatic index, 3)) (hf : cells + mc ≤ R.cells ∧ slots + ms ≤ R.slots) :
    va_Run p l e R s m args below meth c H locs cells slots mc ms g rest (Qc As.toArray) (free) := by
  obtain ⟨⟨hrc, hrs, hfr, hlo⟩, hws, hcw, hcode, hini, hy, hlen, hl, hstt⟩ := cw
  have hK : Back l R p e below s args y 3 8 (PreOf R mc ms Pc) (PostOf Qc mc ms free) := va_backW (hh := hh) (bytes := bytes) (maxL := maxL) (ret := ret) hM hp.1 hrc hrs hfr hlo hws hcw (fun a' U hW => word_at hW (Or.inl (by first | rfl | simp [Cond.onTables, Cond.keeps, Cond.steady])) hini)
  obtain ⟨hx, hb, hml, ho, -⟩ := S
  subst hb
  intro T hT X
  obtain ⟨mk, methM, cM, hnamed, hmethM, -, -, -, -, -, -, hsigM⟩ := Cond.codeWith_spec hcode
  have hstatic : methM.isStatic = true := Cond.static_spec hnamed hmethM hstt
  obtain ⟨kP, hkP, -⟩ := className_of_methodNamed hnamed
  have hinitP : kP.init = .initialized := Cond.initialized_spec (findClass_of_methodNamed hnamed) hkP hini
  obtain ⟨vm₁, X₁, hstep₁⟩ := X.invokestatic hx ho hl hnamed hmethM hstatic hkP hinitP hy (g := g) hg (argsL := As) (rest := rest) (hn.trans (hlen _ hsigM)) hstack hdg
  obtain ⟨v, B, X', ⟨g', mk', t, L, e1, e2, hq, h1, hL, h2, h3⟩, hsteps⟩ := hK m meth c ⟨T.setVm vm₁, locs, cells, slots⟩ { g with stack := rest } (.invokestatic index) mk As.toArray X₁ hg (hsize.trans hml.symm) hdg hW (X₁.named hnamed) ⟨hf.1, hf.2, hp.2 (T.setVm vm₁) hT X₁.warmed⟩
  obtain ⟨U', l2, c2, s2⟩ := B
  dsimp only [Pt.U, Pt.locs, Pt.cells, Pt.slots] at X' e1 e2 h1 h2 h3 hsteps
  subst h1; subst h2; subst h3
  exact ⟨v, (T.setVm vm₁).calling g' mk' As.toArray, t, U', L, hT, X', hL, e1, e2, hq, fun target h => hstep₁ _ fun acts => by rw [doInvoke_state]; exact hsteps.trans h⟩
end HX
/-- what was thrown is caught: its row's handler goes on, nothing that was there has changed -/
theorem W.caughtT {p : Program} {l : Launch} {e : Env} {R : Room} {s : State} {m : MethodId} {args : Array Value} {below : List Frame} {meth : Method} {c : Code} {H : Heap} {locs : List Loc} {cells slots : Nat} {Q : State → Prop} {G : va_G} {ty : Nat → ClassId} {ws : va_W} {A : Nat → Prop} {H0 : Heap} {pc : Nat} {ls : Array Slot} {st0 rest : List Value} {X own : String} {A' : Array Value}
    (hr : TRun p l e R s m args below meth c H locs cells slots 1 6 (F0 m pc ls st0) rest (QT X A') (fun _ => False)) (hown : s.vm.findClass own = some m.cls) (hX : KX G ty s)
    (pre : List ExceptionTableEntry) (x : ExceptionTableEntry) (post : List ExceptionTableEntry) (hsplit : c.exceptionTable.toList = pre ++ x :: post)
    (hpass : ∀ y ∈ pre, y.catchType ≠ 0 ∧ ∃ Y : String, (Cond.classLink own y.catchType Y).before args s = true ∧ (X, Y) ∈ apart) (hcov : covers x pc = true) (h0 : x.catchType ≠ 0) (hlink : (Cond.classLink own x.catchType X).before args s = true) (hcast : Cond.castable X X ∈ faceW)
    (hP : va_P G vwCl ws H) (hS : va_S A H0 H locs)
    (kk : ∀ (a : Nat) (H1 : Heap), va_P G vwCl ws H1 → va_S A H0 H1 locs → W p l e R s m args below meth c H1 locs (cells + 1) (slots + 6) Q (F0 m x.handlerPc ls [.ref a])) : W p l e R s m args below meth c H locs cells slots Q (F0 m pc ls st0) := by
  intro T hT S
  obtain ⟨a, st₀, t, T', L, h1, hW, S', hL, e1, e2, hq, st⟩ := hr T hT S
  obtain ⟨a', ce, ea, hce, hsz, hcl, hvm, hle, hold⟩ := hq
  cases ea
  rw [h1] at hsz hle hold
  rw [hW.alike.findClass] at hcl
  have S2 := Stand.forget S' (fun q h => (hL q h).elim)
  have hpl : e.platform.magicAccessors = ({} : Platform).magicAccessors := by rw [S.admits.platform]
  obtain ⟨c3, cT, q3, qT, hfit⟩ := Cond.castable_spec (show (Cond.castable X X).before args s = true from va_tabs rfl rfl (hX.2.2.2.1 _ hcast))
  cases hcl.symm.trans q3
  obtain ⟨hend, hk0⟩ := S2.catches_of_link hown h0 hlink qT hfit
  obtain ⟨vm', S3, st3⟩ := S2.thenCaughtThrough a (g := { (F0 m pc ls st0 : JFrame) with stack := rest }) rfl st (cell := ce) (by rw [e1]; exact hce) (by rw [hvm]; rfl) hk0 pre x post hsplit (fun y hy => by
    obtain ⟨y0, Y, hl, hap⟩ := hpass y hy
    obtain ⟨c', hc', hcl'⟩ := Cond.classLink_spec hown hl e.platform hpl
    obtain ⟨c4, t4, r1, r2, r3⟩ := hX.2.2.2.2.2 _ hap
    cases hcl.symm.trans r1
    cases hc'.symm.trans r2
    exact Or.inr ⟨y0, c', hcl', r3⟩) hcov hend
  have hH : (T'.setVm vm').heap = t.heap := e1
  obtain ⟨t2, a1, b1⟩ := kk a t.heap (fun k q hk => by have h9 := (hP k q hk).lt; exact (hP k q hk).kept (hold q.1 h9)) ⟨Nat.le_trans hS.1 hle, fun q z1 z2 => by rw [hold q (Nat.lt_of_lt_of_le z1 hS.1)]; exact hS.2.1 q z1 z2, hS.2.2⟩ (T'.setVm vm') hH S3
  exact ⟨t2, st3.trans a1, b1⟩
theorem fb_hx {G : va_G} {ty : Nat → ClassId} {W0 : va_W} {av : List Value} {sz : Nat} {A : Nat → Prop} : FrameBlind (va_Pc av (fun U => U.heap.size = sz ∧ va_P G vwCl W0 U.heap ∧ KX G ty U ∧ va_D A W0 ∧ ZS U)) :=
  fun a U g mk q => ⟨q.1, q.2.1, q.2.2.1, q.2.2.2.1.calling, q.2.2.2.2.1, q.2.2.2.2.2.calling⟩
theorem preS_hx {s : State} {H : Heap} {G : va_G} {ty : Nat → ClassId} {W0 : va_W} {av : List Value} {A : Nat → Prop} (hP : va_P G vwCl W0 H) (hX : KX G ty s) (hD : va_D A W0) (hZ : ZH s H) : PreS s H (va_Pc av (fun U => U.heap.size = H.size ∧ va_P G vwCl W0 U.heap ∧ KX G ty U ∧ va_D (fun _ => True) W0 ∧ ZS U)) av :=
  ⟨fb_hx, fun U hU hW => ⟨rfl, by rw [hU], by rw [hU]; exact hP, hX.warm hW, hD.weaken (fun _ _ _ _ => trivial), hZ U hU hW⟩⟩
/-- a method with handlers: its walk from the entry -/
theorem met_hx {l : Launch} {y : MethodName} {ws : List Cond} {rm : Room} {cc : ByteArray} {maxL mc ms sz : Nat} {ret : Option FieldType} {hh : List (Nat × Nat × Nat × Nat)} {G : va_G} {ty : Nat → ClassId} {W0 : va_W} {av : List Value} (Qf : (Nat → Prop) → Array Value → State → Outcome → State → Prop) (own : String)
    (hy : plainName y.cls = true) (hw : ws = Cond.codeWith y cc maxL ret hh :: TB) (ho : y.cls = own) (hn : (lg_sl av).length ≤ maxL)
    (body : ∀ (p : Program) (e : Env) (s : State) (m : MethodId) (below : List Frame) (meth : Method) (c : Code) (ls : Array Slot) (A : Nat → Prop), p.tables.exec = Jvm.exec → c.code = cc → meth.sig.returnType = ret → c.maxLocals = maxL → s.vm.findClass own = some m.cls → (∀ w ∈ TB, w.before av.toArray s = true) → meth.locks = false → c.exceptionTable.toList = tableOf hh → (∀ q : Nat, s.heap.size ≤ q → A q) → va_P G vwCl W0 s.heap → KX G ty s → va_D A W0 → va_S A s.heap s.heap [] → ZS s → lv_has ls maxL (lv_args 0 av) →
      W p l e rm s m av.toArray below meth c s.heap [] 0 0 (MQ below (Qf A) av.toArray s mc ms A) (F0 m 0 ls [])) :
    Met l y ws rm (va_Pc av (fun U => U.heap.size = sz ∧ va_P G vwCl W0 U.heap ∧ KX G ty U ∧ va_D (fun _ => True) W0 ∧ ZS U)) (Qf (va_A W0 sz)) mc ms (va_A W0 sz) := by
  refine va_MetW (hh := hh) (cc := cc) (maxL := maxL) (ret := ret) hy hw ?_
  intro p e s m args below meth c s₁ B hml hv
  obtain ⟨rfl, hsz, hP, hK, hD0, hZ⟩ := hv
  subst hsz
  have hl := lv_entry av (n := maxL) hn
  rw [lg_entry_eq]
  have hown : s.vm.findClass y.cls = some m.cls := findClass_of_methodNamed B.named
  have htab : c.exceptionTable.toList = tableOf hh := by
    obtain ⟨m', meth', c', hname', hmeth, hcode, -, -, htable, -, -, -⟩ := Cond.codeWith_spec (atoms_spec (ws := ws) B.pre _ (by rw [hw]; exact List.mem_cons_self))
    cases B.named.symm.trans hname'
    cases B.method.symm.trans hmeth
    cases (Stand.of_body B).code.symm.trans hcode
    rw [← htable, table_eq]
  exact body p e s m below meth c _ (va_A W0 s.heap.size) B.exec B.bytes B.returns hml (by rw [← ho]; exact hown) (fun w h => atoms_spec (ws := ws) B.pre w (by rw [hw]; exact List.mem_cons_of_mem _ h)) B.notSynchronized htab (fun q h => Or.inr h) hP hK (hD0.self) va_S.rf hZ hl
theorem gd_TX {y : MethodName} {b : ByteArray} {n : Nat} {r : Option FieldType} {hh : List (Nat × Nat × Nat × Nat)} (h : Cond.codeWith y b n r hh ∈ TB) : GoodIn TB (.codeWith y b n r hh :: TB) := fun w hw => (List.mem_cons.mp hw).elim (fun e => ⟨e ▸ h, good_of_word (e ▸ (List.mem_filter.mp h).2)⟩) (fun hw => ⟨hw, good_of_word (List.mem_filter.mp hw).2⟩)
theorem ca_xI : Cond.castable xI xI ∈ faceW := mem_FW 295 (by decide +kernel) (by decide +kernel)
theorem ca_xS : Cond.castable xS xS ∈ faceW := mem_FW 363 (by decide +kernel) (by decide +kernel)
theorem ca_xA : Cond.castable xA xA ∈ faceW := mem_FW 383 (by decide +kernel) (by decide +kernel)

def R_Law : String := "FaultRipsLaw"
theorem ini_Law : Cond.initialized R_Law ∈ TB := mem_TB 0 (by decide +kernel) (by decide +kernel)
def y_Law_cell : MethodName := ⟨R_Law, "cell", "([II)I"⟩
abbrev ws_Law_cell : List Cond := .code y_Law_cell method_2_code 2 (some .int) :: TB
theorem d_Law_cell_0 : decode method_2_code 0 = .ok (.iload_n 1, 1) := by decide +kernel
theorem d_Law_cell_1 : decode method_2_code 1 = .ok (.aload_n 0, 1) := by decide +kernel
theorem d_Law_cell_2 : decode method_2_code 2 = .ok (.arraylength, 1) := by decide +kernel
theorem d_Law_cell_3 : decode method_2_code 3 = .ok (.if_icmp .ge 9, 3) := by decide +kernel
theorem d_Law_cell_6 : decode method_2_code 6 = .ok (.aload_n 0, 1) := by decide +kernel
theorem d_Law_cell_7 : decode method_2_code 7 = .ok (.iload_n 1, 1) := by decide +kernel
theorem d_Law_cell_8 : decode method_2_code 8 = .ok (.iaload, 1) := by decide +kernel
theorem d_Law_cell_9 : decode method_2_code 9 = .ok (.goto 4, 3) := by decide +kernel
theorem d_Law_cell_12 : decode method_2_code 12 = .ok (.iconst 0, 1) := by decide +kernel
theorem d_Law_cell_13 : decode method_2_code 13 = .ok (.ireturn, 1) := by decide +kernel
set_option maxRecDepth 50000 in
theorem cd_Law_cell : Cond.code y_Law_cell method_2_code 2 (some .int) ∈ TB := mem_TB 279 rfl rfl
theorem st_Law_cell : Cond.static y_Law_cell ∈ TB := mem_TB 278 (by decide +kernel) (by decide +kernel)
theorem hd_Law_cell : y_Law_cell.cls ≠ "java/lang/invoke/MethodHandle" ∧ y_Law_cell.cls ≠ "java/lang/invoke/VarHandle" ∧ (parseMethodDescriptor y_Law_cell.desc).map (fun d => d.parameters.length) = some 2 := by decide +kernel
def y_Law_fault : MethodName := ⟨R_Law, "fault", "(LFaultRips;IIIIII[J)I"⟩
abbrev ws_Law_fault : List Cond := .codeWith y_Law_fault method_3_code 9 (some .int) [(0, 25, 28, 13), (0, 25, 32, 15), (0, 25, 36, 17)] :: TB
theorem d_Law_fault_0 : decode method_3_code 0 = .ok (.aload 7, 2) := by decide +kernel
theorem d_Law_fault_2 : decode method_3_code 2 = .ok (.iconst 0, 1) := by decide +kernel
theorem d_Law_fault_3 : decode method_3_code 3 = .ok (.aload_n 0, 1) := by decide +kernel
theorem d_Law_fault_4 : decode method_3_code 4 = .ok (.iload_n 1, 1) := by decide +kernel
theorem d_Law_fault_5 : decode method_3_code 5 = .ok (.iload_n 2, 1) := by decide +kernel
theorem d_Law_fault_6 : decode method_3_code 6 = .ok (.iload_n 3, 1) := by decide +kernel
theorem d_Law_fault_7 : decode method_3_code 7 = .ok (.iload 4, 2) := by decide +kernel
theorem d_Law_fault_9 : decode method_3_code 9 = .ok (.iload 5, 2) := by decide +kernel
theorem d_Law_fault_11 : decode method_3_code 11 = .ok (.iload 6, 2) := by decide +kernel
theorem d_Law_fault_13 : decode method_3_code 13 = .ok (.invokevirtual 7, 3) := by decide +kernel
theorem d_Law_fault_16 : decode method_3_code 16 = .ok (.ifCond .eq 7, 3) := by decide +kernel
theorem d_Law_fault_19 : decode method_3_code 19 = .ok (.lconst 1, 1) := by decide +kernel
theorem d_Law_fault_20 : decode method_3_code 20 = .ok (.goto 4, 3) := by decide +kernel
theorem d_Law_fault_23 : decode method_3_code 23 = .ok (.lconst 0, 1) := by decide +kernel
theorem d_Law_fault_24 : decode method_3_code 24 = .ok (.lastore, 1) := by decide +kernel
theorem d_Law_fault_25 : decode method_3_code 25 = .ok (.goto 15, 3) := by decide +kernel
theorem d_Law_fault_28 : decode method_3_code 28 = .ok (.astore 8, 2) := by decide +kernel
theorem d_Law_fault_30 : decode method_3_code 30 = .ok (.iconst 1, 1) := by decide +kernel
theorem d_Law_fault_31 : decode method_3_code 31 = .ok (.ireturn, 1) := by decide +kernel
theorem d_Law_fault_32 : decode method_3_code 32 = .ok (.astore 8, 2) := by decide +kernel
theorem d_Law_fault_34 : decode method_3_code 34 = .ok (.iconst 2, 1) := by decide +kernel
theorem d_Law_fault_35 : decode method_3_code 35 = .ok (.ireturn, 1) := by decide +kernel
theorem d_Law_fault_36 : decode method_3_code 36 = .ok (.astore 8, 2) := by decide +kernel
theorem d_Law_fault_38 : decode method_3_code 38 = .ok (.iconst 3, 1) := by decide +kernel
theorem d_Law_fault_39 : decode method_3_code 39 = .ok (.ireturn, 1) := by decide +kernel
theorem d_Law_fault_40 : decode method_3_code 40 = .ok (.iconst 0, 1) := by decide +kernel
theorem d_Law_fault_41 : decode method_3_code 41 = .ok (.ireturn, 1) := by decide +kernel
set_option maxRecDepth 50000 in
theorem cdx_Law_fault : Cond.codeWith y_Law_fault method_3_code 9 (some .int) [(0, 25, 28, 13), (0, 25, 32, 15), (0, 25, 36, 17)] ∈ TB := mem_TB 282 rfl rfl
theorem st_Law_fault : Cond.static y_Law_fault ∈ TB := mem_TB 281 (by decide +kernel) (by decide +kernel)
theorem hd_Law_fault : y_Law_fault.cls ≠ "java/lang/invoke/MethodHandle" ∧ y_Law_fault.cls ≠ "java/lang/invoke/VarHandle" ∧ (parseMethodDescriptor y_Law_fault.desc).map (fun d => d.parameters.length) = some 8 := by decide +kernel
def y_Law_piece : MethodName := ⟨R_Law, "piece", "(LFaultRips;IIIJ[J)I"⟩
abbrev ws_Law_piece : List Cond := .codeWith y_Law_piece method_4_code 8 (some .int) [(0, 14, 17, 15), (0, 14, 21, 17)] :: TB
theorem d_Law_piece_0 : decode method_4_code 0 = .ok (.aload 6, 2) := by decide +kernel
theorem d_Law_piece_2 : decode method_4_code 2 = .ok (.iconst 0, 1) := by decide +kernel
theorem d_Law_piece_3 : decode method_4_code 3 = .ok (.aload_n 0, 1) := by decide +kernel
theorem d_Law_piece_4 : decode method_4_code 4 = .ok (.iload_n 1, 1) := by decide +kernel
theorem d_Law_piece_5 : decode method_4_code 5 = .ok (.iload_n 2, 1) := by decide +kernel
theorem d_Law_piece_6 : decode method_4_code 6 = .ok (.iload_n 3, 1) := by decide +kernel
theorem d_Law_piece_7 : decode method_4_code 7 = .ok (.lload 4, 2) := by decide +kernel
theorem d_Law_piece_9 : decode method_4_code 9 = .ok (.invokevirtual 19, 3) := by decide +kernel
theorem d_Law_piece_12 : decode method_4_code 12 = .ok (.i2l, 1) := by decide +kernel
theorem d_Law_piece_13 : decode method_4_code 13 = .ok (.lastore, 1) := by decide +kernel
theorem d_Law_piece_14 : decode method_4_code 14 = .ok (.goto 11, 3) := by decide +kernel
theorem d_Law_piece_17 : decode method_4_code 17 = .ok (.astore 7, 2) := by decide +kernel
theorem d_Law_piece_19 : decode method_4_code 19 = .ok (.iconst 1, 1) := by decide +kernel
theorem d_Law_piece_20 : decode method_4_code 20 = .ok (.ireturn, 1) := by decide +kernel
theorem d_Law_piece_21 : decode method_4_code 21 = .ok (.astore 7, 2) := by decide +kernel
theorem d_Law_piece_23 : decode method_4_code 23 = .ok (.iconst 2, 1) := by decide +kernel
theorem d_Law_piece_24 : decode method_4_code 24 = .ok (.ireturn, 1) := by decide +kernel
theorem d_Law_piece_25 : decode method_4_code 25 = .ok (.iconst 0, 1) := by decide +kernel
theorem d_Law_piece_26 : decode method_4_code 26 = .ok (.ireturn, 1) := by decide +kernel
set_option maxRecDepth 50000 in
theorem cdx_Law_piece : Cond.codeWith y_Law_piece method_4_code 8 (some .int) [(0, 14, 17, 15), (0, 14, 21, 17)] ∈ TB := mem_TB 432 rfl rfl
theorem st_Law_piece : Cond.static y_Law_piece ∈ TB := mem_TB 431 (by decide +kernel) (by decide +kernel)
theorem hd_Law_piece : y_Law_piece.cls ≠ "java/lang/invoke/MethodHandle" ∧ y_Law_piece.cls ≠ "java/lang/invoke/VarHandle" ∧ (parseMethodDescriptor y_Law_piece.desc).map (fun d => d.parameters.length) = some 6 := by decide +kernel
def y_Law_allows : MethodName := ⟨R_Law, "allows", "(LFaultRips;III[J)I"⟩
abbrev ws_Law_allows : List Cond := .codeWith y_Law_allows method_5_code 6 (some .int) [(0, 19, 22, 13), (0, 19, 26, 17)] :: TB
theorem d_Law_allows_0 : decode method_5_code 0 = .ok (.aload 4, 2) := by decide +kernel
theorem d_Law_allows_2 : decode method_5_code 2 = .ok (.iconst 0, 1) := by decide +kernel
theorem d_Law_allows_3 : decode method_5_code 3 = .ok (.aload_n 0, 1) := by decide +kernel
theorem d_Law_allows_4 : decode method_5_code 4 = .ok (.iload_n 1, 1) := by decide +kernel
theorem d_Law_allows_5 : decode method_5_code 5 = .ok (.iload_n 2, 1) := by decide +kernel
theorem d_Law_allows_6 : decode method_5_code 6 = .ok (.iload_n 3, 1) := by decide +kernel
theorem d_Law_allows_7 : decode method_5_code 7 = .ok (.invokevirtual 23, 3) := by decide +kernel
theorem d_Law_allows_10 : decode method_5_code 10 = .ok (.ifCond .eq 7, 3) := by decide +kernel
theorem d_Law_allows_13 : decode method_5_code 13 = .ok (.lconst 1, 1) := by decide +kernel
theorem d_Law_allows_14 : decode method_5_code 14 = .ok (.goto 4, 3) := by decide +kernel
theorem d_Law_allows_17 : decode method_5_code 17 = .ok (.lconst 0, 1) := by decide +kernel
theorem d_Law_allows_18 : decode method_5_code 18 = .ok (.lastore, 1) := by decide +kernel
theorem d_Law_allows_19 : decode method_5_code 19 = .ok (.goto 11, 3) := by decide +kernel
theorem d_Law_allows_22 : decode method_5_code 22 = .ok (.astore 5, 2) := by decide +kernel
theorem d_Law_allows_24 : decode method_5_code 24 = .ok (.iconst 1, 1) := by decide +kernel
theorem d_Law_allows_25 : decode method_5_code 25 = .ok (.ireturn, 1) := by decide +kernel
theorem d_Law_allows_26 : decode method_5_code 26 = .ok (.astore 5, 2) := by decide +kernel
theorem d_Law_allows_28 : decode method_5_code 28 = .ok (.iconst 2, 1) := by decide +kernel
theorem d_Law_allows_29 : decode method_5_code 29 = .ok (.ireturn, 1) := by decide +kernel
theorem d_Law_allows_30 : decode method_5_code 30 = .ok (.iconst 0, 1) := by decide +kernel
theorem d_Law_allows_31 : decode method_5_code 31 = .ok (.ireturn, 1) := by decide +kernel
set_option maxRecDepth 50000 in
theorem cdx_Law_allows : Cond.codeWith y_Law_allows method_5_code 6 (some .int) [(0, 19, 22, 13), (0, 19, 26, 17)] ∈ TB := mem_TB 495 rfl rfl
theorem st_Law_allows : Cond.static y_Law_allows ∈ TB := mem_TB 494 (by decide +kernel) (by decide +kernel)
theorem hd_Law_allows : y_Law_allows.cls ≠ "java/lang/invoke/MethodHandle" ∧ y_Law_allows.cls ≠ "java/lang/invoke/VarHandle" ∧ (parseMethodDescriptor y_Law_allows.desc).map (fun d => d.parameters.length) = some 5 := by decide +kernel
def y_Law_gang : MethodName := ⟨R_Law, "gang", "(LFaultRips;I[J)I"⟩
abbrev ws_Law_gang : List Cond := .codeWith y_Law_gang method_6_code 4 (some .int) [(0, 16, 19, 17)] :: TB
theorem d_Law_gang_0 : decode method_6_code 0 = .ok (.aload_n 2, 1) := by decide +kernel
theorem d_Law_gang_1 : decode method_6_code 1 = .ok (.iconst 0, 1) := by decide +kernel
theorem d_Law_gang_2 : decode method_6_code 2 = .ok (.aload_n 0, 1) := by decide +kernel
theorem d_Law_gang_3 : decode method_6_code 3 = .ok (.iload_n 1, 1) := by decide +kernel
theorem d_Law_gang_4 : decode method_6_code 4 = .ok (.invokevirtual 27, 3) := by decide +kernel
theorem d_Law_gang_7 : decode method_6_code 7 = .ok (.ifCond .eq 7, 3) := by decide +kernel
theorem d_Law_gang_10 : decode method_6_code 10 = .ok (.lconst 1, 1) := by decide +kernel
theorem d_Law_gang_11 : decode method_6_code 11 = .ok (.goto 4, 3) := by decide +kernel
theorem d_Law_gang_14 : decode method_6_code 14 = .ok (.lconst 0, 1) := by decide +kernel
theorem d_Law_gang_15 : decode method_6_code 15 = .ok (.lastore, 1) := by decide +kernel
theorem d_Law_gang_16 : decode method_6_code 16 = .ok (.goto 6, 3) := by decide +kernel
theorem d_Law_gang_19 : decode method_6_code 19 = .ok (.astore_n 3, 1) := by decide +kernel
theorem d_Law_gang_20 : decode method_6_code 20 = .ok (.iconst 1, 1) := by decide +kernel
theorem d_Law_gang_21 : decode method_6_code 21 = .ok (.ireturn, 1) := by decide +kernel
theorem d_Law_gang_22 : decode method_6_code 22 = .ok (.iconst 0, 1) := by decide +kernel
theorem d_Law_gang_23 : decode method_6_code 23 = .ok (.ireturn, 1) := by decide +kernel
set_option maxRecDepth 50000 in
theorem cdx_Law_gang : Cond.codeWith y_Law_gang method_6_code 4 (some .int) [(0, 16, 19, 17)] ∈ TB := mem_TB 510 rfl rfl
theorem st_Law_gang : Cond.static y_Law_gang ∈ TB := mem_TB 509 (by decide +kernel) (by decide +kernel)
theorem hd_Law_gang : y_Law_gang.cls ≠ "java/lang/invoke/MethodHandle" ∧ y_Law_gang.cls ≠ "java/lang/invoke/VarHandle" ∧ (parseMethodDescriptor y_Law_gang.desc).map (fun d => d.parameters.length) = some 3 := by decide +kernel
def y_Law_need : MethodName := ⟨R_Law, "need", "(LFaultRips;II[J)I"⟩
abbrev ws_Law_need : List Cond := .codeWith y_Law_need method_7_code 5 (some .int) [(0, 17, 20, 13), (0, 17, 24, 17)] :: TB
theorem d_Law_need_0 : decode method_7_code 0 = .ok (.aload_n 3, 1) := by decide +kernel
theorem d_Law_need_1 : decode method_7_code 1 = .ok (.iconst 0, 1) := by decide +kernel
theorem d_Law_need_2 : decode method_7_code 2 = .ok (.aload_n 0, 1) := by decide +kernel
theorem d_Law_need_3 : decode method_7_code 3 = .ok (.iload_n 1, 1) := by decide +kernel
theorem d_Law_need_4 : decode method_7_code 4 = .ok (.iload_n 2, 1) := by decide +kernel
theorem d_Law_need_5 : decode method_7_code 5 = .ok (.invokevirtual 31, 3) := by decide +kernel
theorem d_Law_need_8 : decode method_7_code 8 = .ok (.ifCond .eq 7, 3) := by decide +kernel
theorem d_Law_need_11 : decode method_7_code 11 = .ok (.lconst 1, 1) := by decide +kernel
theorem d_Law_need_12 : decode method_7_code 12 = .ok (.goto 4, 3) := by decide +kernel
theorem d_Law_need_15 : decode method_7_code 15 = .ok (.lconst 0, 1) := by decide +kernel
theorem d_Law_need_16 : decode method_7_code 16 = .ok (.lastore, 1) := by decide +kernel
theorem d_Law_need_17 : decode method_7_code 17 = .ok (.goto 11, 3) := by decide +kernel
theorem d_Law_need_20 : decode method_7_code 20 = .ok (.astore 4, 2) := by decide +kernel
theorem d_Law_need_22 : decode method_7_code 22 = .ok (.iconst 1, 1) := by decide +kernel
theorem d_Law_need_23 : decode method_7_code 23 = .ok (.ireturn, 1) := by decide +kernel
theorem d_Law_need_24 : decode method_7_code 24 = .ok (.astore 4, 2) := by decide +kernel
theorem d_Law_need_26 : decode method_7_code 26 = .ok (.iconst 2, 1) := by decide +kernel
theorem d_Law_need_27 : decode method_7_code 27 = .ok (.ireturn, 1) := by decide +kernel
theorem d_Law_need_28 : decode method_7_code 28 = .ok (.iconst 0, 1) := by decide +kernel
theorem d_Law_need_29 : decode method_7_code 29 = .ok (.ireturn, 1) := by decide +kernel
set_option maxRecDepth 50000 in
theorem cdx_Law_need : Cond.codeWith y_Law_need method_7_code 5 (some .int) [(0, 17, 20, 13), (0, 17, 24, 17)] ∈ TB := mem_TB 525 rfl rfl
theorem st_Law_need : Cond.static y_Law_need ∈ TB := mem_TB 524 (by decide +kernel) (by decide +kernel)
theorem hd_Law_need : y_Law_need.cls ≠ "java/lang/invoke/MethodHandle" ∧ y_Law_need.cls ≠ "java/lang/invoke/VarHandle" ∧ (parseMethodDescriptor y_Law_need.desc).map (fun d => d.parameters.length) = some 4 := by decide +kernel
def y_Law_margin : MethodName := ⟨R_Law, "margin", "(LFaultRips;I[J)I"⟩
abbrev ws_Law_margin : List Cond := .codeWith y_Law_margin method_8_code 4 (some .int) [(0, 16, 19, 17)] :: TB
theorem d_Law_margin_0 : decode method_8_code 0 = .ok (.aload_n 2, 1) := by decide +kernel
theorem d_Law_margin_1 : decode method_8_code 1 = .ok (.iconst 0, 1) := by decide +kernel
theorem d_Law_margin_2 : decode method_8_code 2 = .ok (.aload_n 0, 1) := by decide +kernel
theorem d_Law_margin_3 : decode method_8_code 3 = .ok (.iload_n 1, 1) := by decide +kernel
theorem d_Law_margin_4 : decode method_8_code 4 = .ok (.invokevirtual 35, 3) := by decide +kernel
theorem d_Law_margin_7 : decode method_8_code 7 = .ok (.ifCond .eq 7, 3) := by decide +kernel
theorem d_Law_margin_10 : decode method_8_code 10 = .ok (.lconst 1, 1) := by decide +kernel
theorem d_Law_margin_11 : decode method_8_code 11 = .ok (.goto 4, 3) := by decide +kernel
theorem d_Law_margin_14 : decode method_8_code 14 = .ok (.lconst 0, 1) := by decide +kernel
theorem d_Law_margin_15 : decode method_8_code 15 = .ok (.lastore, 1) := by decide +kernel
theorem d_Law_margin_16 : decode method_8_code 16 = .ok (.goto 6, 3) := by decide +kernel
theorem d_Law_margin_19 : decode method_8_code 19 = .ok (.astore_n 3, 1) := by decide +kernel
theorem d_Law_margin_20 : decode method_8_code 20 = .ok (.iconst 1, 1) := by decide +kernel
theorem d_Law_margin_21 : decode method_8_code 21 = .ok (.ireturn, 1) := by decide +kernel
theorem d_Law_margin_22 : decode method_8_code 22 = .ok (.iconst 0, 1) := by decide +kernel
theorem d_Law_margin_23 : decode method_8_code 23 = .ok (.ireturn, 1) := by decide +kernel
set_option maxRecDepth 50000 in
theorem cdx_Law_margin : Cond.codeWith y_Law_margin method_8_code 4 (some .int) [(0, 16, 19, 17)] ∈ TB := mem_TB 533 rfl rfl
theorem st_Law_margin : Cond.static y_Law_margin ∈ TB := mem_TB 532 (by decide +kernel) (by decide +kernel)
theorem hd_Law_margin : y_Law_margin.cls ≠ "java/lang/invoke/MethodHandle" ∧ y_Law_margin.cls ≠ "java/lang/invoke/VarHandle" ∧ (parseMethodDescriptor y_Law_margin.desc).map (fun d => d.parameters.length) = some 3 := by decide +kernel
def y_Law_bow : MethodName := ⟨R_Law, "bow", "(LFaultRips;I[J)I"⟩
abbrev ws_Law_bow : List Cond := .codeWith y_Law_bow method_9_code 4 (some .int) [(0, 16, 19, 17)] :: TB
theorem d_Law_bow_0 : decode method_9_code 0 = .ok (.aload_n 2, 1) := by decide +kernel
theorem d_Law_bow_1 : decode method_9_code 1 = .ok (.iconst 0, 1) := by decide +kernel
theorem d_Law_bow_2 : decode method_9_code 2 = .ok (.aload_n 0, 1) := by decide +kernel
theorem d_Law_bow_3 : decode method_9_code 3 = .ok (.iload_n 1, 1) := by decide +kernel
theorem d_Law_bow_4 : decode method_9_code 4 = .ok (.invokevirtual 38, 3) := by decide +kernel
theorem d_Law_bow_7 : decode method_9_code 7 = .ok (.ifCond .eq 7, 3) := by decide +kernel
theorem d_Law_bow_10 : decode method_9_code 10 = .ok (.lconst 1, 1) := by decide +kernel
theorem d_Law_bow_11 : decode method_9_code 11 = .ok (.goto 4, 3) := by decide +kernel
theorem d_Law_bow_14 : decode method_9_code 14 = .ok (.lconst 0, 1) := by decide +kernel
theorem d_Law_bow_15 : decode method_9_code 15 = .ok (.lastore, 1) := by decide +kernel
theorem d_Law_bow_16 : decode method_9_code 16 = .ok (.goto 6, 3) := by decide +kernel
theorem d_Law_bow_19 : decode method_9_code 19 = .ok (.astore_n 3, 1) := by decide +kernel
theorem d_Law_bow_20 : decode method_9_code 20 = .ok (.iconst 1, 1) := by decide +kernel
theorem d_Law_bow_21 : decode method_9_code 21 = .ok (.ireturn, 1) := by decide +kernel
theorem d_Law_bow_22 : decode method_9_code 22 = .ok (.iconst 0, 1) := by decide +kernel
theorem d_Law_bow_23 : decode method_9_code 23 = .ok (.ireturn, 1) := by decide +kernel
set_option maxRecDepth 50000 in
theorem cdx_Law_bow : Cond.codeWith y_Law_bow method_9_code 4 (some .int) [(0, 16, 19, 17)] ∈ TB := mem_TB 540 rfl rfl
theorem st_Law_bow : Cond.static y_Law_bow ∈ TB := mem_TB 539 (by decide +kernel) (by decide +kernel)
theorem hd_Law_bow : y_Law_bow.cls ≠ "java/lang/invoke/MethodHandle" ∧ y_Law_bow.cls ≠ "java/lang/invoke/VarHandle" ∧ (parseMethodDescriptor y_Law_bow.desc).map (fun d => d.parameters.length) = some 3 := by decide +kernel
def y_Law_run : MethodName := ⟨R_Law, "run", "(LFaultRips;II[J)I"⟩
abbrev ws_Law_run : List Cond := .codeWith y_Law_run method_10_code 5 (some .int) [(0, 10, 13, 17)] :: TB
theorem d_Law_run_0 : decode method_10_code 0 = .ok (.aload_n 3, 1) := by decide +kernel
theorem d_Law_run_1 : decode method_10_code 1 = .ok (.iconst 0, 1) := by decide +kernel
theorem d_Law_run_2 : decode method_10_code 2 = .ok (.aload_n 0, 1) := by decide +kernel
theorem d_Law_run_3 : decode method_10_code 3 = .ok (.iload_n 1, 1) := by decide +kernel
theorem d_Law_run_4 : decode method_10_code 4 = .ok (.iload_n 2, 1) := by decide +kernel
theorem d_Law_run_5 : decode method_10_code 5 = .ok (.invokevirtual 41, 3) := by decide +kernel
theorem d_Law_run_8 : decode method_10_code 8 = .ok (.i2l, 1) := by decide +kernel
theorem d_Law_run_9 : decode method_10_code 9 = .ok (.lastore, 1) := by decide +kernel
theorem d_Law_run_10 : decode method_10_code 10 = .ok (.goto 7, 3) := by decide +kernel
theorem d_Law_run_13 : decode method_10_code 13 = .ok (.astore 4, 2) := by decide +kernel
theorem d_Law_run_15 : decode method_10_code 15 = .ok (.iconst 1, 1) := by decide +kernel
theorem d_Law_run_16 : decode method_10_code 16 = .ok (.ireturn, 1) := by decide +kernel
theorem d_Law_run_17 : decode method_10_code 17 = .ok (.iconst 0, 1) := by decide +kernel
theorem d_Law_run_18 : decode method_10_code 18 = .ok (.ireturn, 1) := by decide +kernel
set_option maxRecDepth 50000 in
theorem cdx_Law_run : Cond.codeWith y_Law_run method_10_code 5 (some .int) [(0, 10, 13, 17)] ∈ TB := mem_TB 548 rfl rfl
theorem st_Law_run : Cond.static y_Law_run ∈ TB := mem_TB 547 (by decide +kernel) (by decide +kernel)
theorem hd_Law_run : y_Law_run.cls ≠ "java/lang/invoke/MethodHandle" ∧ y_Law_run.cls ≠ "java/lang/invoke/VarHandle" ∧ (parseMethodDescriptor y_Law_run.desc).map (fun d => d.parameters.length) = some 4 := by decide +kernel
def y_Law_prices : MethodName := ⟨R_Law, "prices", "(LFaultRips;I[J)I"⟩
abbrev ws_Law_prices : List Cond := .codeWith y_Law_prices method_11_code 4 (some .int) [(0, 9, 12, 17)] :: TB
theorem d_Law_prices_0 : decode method_11_code 0 = .ok (.aload_n 2, 1) := by decide +kernel
theorem d_Law_prices_1 : decode method_11_code 1 = .ok (.iconst 0, 1) := by decide +kernel
theorem d_Law_prices_2 : decode method_11_code 2 = .ok (.aload_n 0, 1) := by decide +kernel
theorem d_Law_prices_3 : decode method_11_code 3 = .ok (.iload_n 1, 1) := by decide +kernel
theorem d_Law_prices_4 : decode method_11_code 4 = .ok (.invokevirtual 45, 3) := by decide +kernel
theorem d_Law_prices_7 : decode method_11_code 7 = .ok (.i2l, 1) := by decide +kernel
theorem d_Law_prices_8 : decode method_11_code 8 = .ok (.lastore, 1) := by decide +kernel
theorem d_Law_prices_9 : decode method_11_code 9 = .ok (.goto 6, 3) := by decide +kernel
theorem d_Law_prices_12 : decode method_11_code 12 = .ok (.astore_n 3, 1) := by decide +kernel
theorem d_Law_prices_13 : decode method_11_code 13 = .ok (.iconst 1, 1) := by decide +kernel
theorem d_Law_prices_14 : decode method_11_code 14 = .ok (.ireturn, 1) := by decide +kernel
theorem d_Law_prices_15 : decode method_11_code 15 = .ok (.iconst 0, 1) := by decide +kernel
theorem d_Law_prices_16 : decode method_11_code 16 = .ok (.ireturn, 1) := by decide +kernel
set_option maxRecDepth 50000 in
theorem cdx_Law_prices : Cond.codeWith y_Law_prices method_11_code 4 (some .int) [(0, 9, 12, 17)] ∈ TB := mem_TB 692 rfl rfl
theorem st_Law_prices : Cond.static y_Law_prices ∈ TB := mem_TB 691 (by decide +kernel) (by decide +kernel)
theorem hd_Law_prices : y_Law_prices.cls ≠ "java/lang/invoke/MethodHandle" ∧ y_Law_prices.cls ≠ "java/lang/invoke/VarHandle" ∧ (parseMethodDescriptor y_Law_prices.desc).map (fun d => d.parameters.length) = some 3 := by decide +kernel
def y_Law_worth : MethodName := ⟨R_Law, "worth", "(LFaultRips;[J)I"⟩
abbrev ws_Law_worth : List Cond := .codeWith y_Law_worth method_12_code 3 (some .int) [(0, 7, 10, 15)] :: TB
theorem d_Law_worth_0 : decode method_12_code 0 = .ok (.aload_n 1, 1) := by decide +kernel
theorem d_Law_worth_1 : decode method_12_code 1 = .ok (.iconst 0, 1) := by decide +kernel
theorem d_Law_worth_2 : decode method_12_code 2 = .ok (.aload_n 0, 1) := by decide +kernel
theorem d_Law_worth_3 : decode method_12_code 3 = .ok (.invokevirtual 49, 3) := by decide +kernel
theorem d_Law_worth_6 : decode method_12_code 6 = .ok (.lastore, 1) := by decide +kernel
theorem d_Law_worth_7 : decode method_12_code 7 = .ok (.goto 6, 3) := by decide +kernel
theorem d_Law_worth_10 : decode method_12_code 10 = .ok (.astore_n 2, 1) := by decide +kernel
theorem d_Law_worth_11 : decode method_12_code 11 = .ok (.iconst 1, 1) := by decide +kernel
theorem d_Law_worth_12 : decode method_12_code 12 = .ok (.ireturn, 1) := by decide +kernel
theorem d_Law_worth_13 : decode method_12_code 13 = .ok (.iconst 0, 1) := by decide +kernel
theorem d_Law_worth_14 : decode method_12_code 14 = .ok (.ireturn, 1) := by decide +kernel
set_option maxRecDepth 50000 in
theorem cdx_Law_worth : Cond.codeWith y_Law_worth method_12_code 3 (some .int) [(0, 7, 10, 15)] ∈ TB := mem_TB 741 rfl rfl
theorem st_Law_worth : Cond.static y_Law_worth ∈ TB := mem_TB 740 (by decide +kernel) (by decide +kernel)
theorem hd_Law_worth : y_Law_worth.cls ≠ "java/lang/invoke/MethodHandle" ∧ y_Law_worth.cls ≠ "java/lang/invoke/VarHandle" ∧ (parseMethodDescriptor y_Law_worth.desc).map (fun d => d.parameters.length) = some 2 := by decide +kernel
def y_Law_at : MethodName := ⟨R_Law, "at", "(LFaultRips;II[J)I"⟩
abbrev ws_Law_at : List Cond := .codeWith y_Law_at method_13_code 5 (some .int) [(0, 10, 13, 15), (0, 10, 17, 13), (0, 10, 21, 17)] :: TB
theorem d_Law_at_0 : decode method_13_code 0 = .ok (.aload_n 3, 1) := by decide +kernel
theorem d_Law_at_1 : decode method_13_code 1 = .ok (.iconst 0, 1) := by decide +kernel
theorem d_Law_at_2 : decode method_13_code 2 = .ok (.aload_n 0, 1) := by decide +kernel
theorem d_Law_at_3 : decode method_13_code 3 = .ok (.iload_n 1, 1) := by decide +kernel
theorem d_Law_at_4 : decode method_13_code 4 = .ok (.iload_n 2, 1) := by decide +kernel
theorem d_Law_at_5 : decode method_13_code 5 = .ok (.invokevirtual 53, 3) := by decide +kernel
theorem d_Law_at_8 : decode method_13_code 8 = .ok (.i2l, 1) := by decide +kernel
theorem d_Law_at_9 : decode method_13_code 9 = .ok (.lastore, 1) := by decide +kernel
theorem d_Law_at_10 : decode method_13_code 10 = .ok (.goto 15, 3) := by decide +kernel
theorem d_Law_at_13 : decode method_13_code 13 = .ok (.astore 4, 2) := by decide +kernel
theorem d_Law_at_15 : decode method_13_code 15 = .ok (.iconst 1, 1) := by decide +kernel
theorem d_Law_at_16 : decode method_13_code 16 = .ok (.ireturn, 1) := by decide +kernel
theorem d_Law_at_17 : decode method_13_code 17 = .ok (.astore 4, 2) := by decide +kernel
theorem d_Law_at_19 : decode method_13_code 19 = .ok (.iconst 2, 1) := by decide +kernel
theorem d_Law_at_20 : decode method_13_code 20 = .ok (.ireturn, 1) := by decide +kernel
theorem d_Law_at_21 : decode method_13_code 21 = .ok (.astore 4, 2) := by decide +kernel
theorem d_Law_at_23 : decode method_13_code 23 = .ok (.iconst 3, 1) := by decide +kernel
theorem d_Law_at_24 : decode method_13_code 24 = .ok (.ireturn, 1) := by decide +kernel
theorem d_Law_at_25 : decode method_13_code 25 = .ok (.iconst 0, 1) := by decide +kernel
theorem d_Law_at_26 : decode method_13_code 26 = .ok (.ireturn, 1) := by decide +kernel
set_option maxRecDepth 50000 in
theorem cdx_Law_at : Cond.codeWith y_Law_at method_13_code 5 (some .int) [(0, 10, 13, 15), (0, 10, 17, 13), (0, 10, 21, 17)] ∈ TB := mem_TB 753 rfl rfl
theorem st_Law_at : Cond.static y_Law_at ∈ TB := mem_TB 752 (by decide +kernel) (by decide +kernel)
theorem hd_Law_at : y_Law_at.cls ≠ "java/lang/invoke/MethodHandle" ∧ y_Law_at.cls ≠ "java/lang/invoke/VarHandle" ∧ (parseMethodDescriptor y_Law_at.desc).map (fun d => d.parameters.length) = some 4 := by decide +kernel
def y_Law_clear2 : MethodName := ⟨R_Law, "clear2", "(LFaultRips;I[J)I"⟩
abbrev ws_Law_clear2 : List Cond := .codeWith y_Law_clear2 method_14_code 4 (some .int) [(0, 16, 19, 15), (0, 16, 22, 13)] :: TB
theorem d_Law_clear2_0 : decode method_14_code 0 = .ok (.aload_n 2, 1) := by decide +kernel
theorem d_Law_clear2_1 : decode method_14_code 1 = .ok (.iconst 0, 1) := by decide +kernel
theorem d_Law_clear2_2 : decode method_14_code 2 = .ok (.aload_n 0, 1) := by decide +kernel
theorem d_Law_clear2_3 : decode method_14_code 3 = .ok (.iload_n 1, 1) := by decide +kernel
theorem d_Law_clear2_4 : decode method_14_code 4 = .ok (.invokevirtual 56, 3) := by decide +kernel
theorem d_Law_clear2_7 : decode method_14_code 7 = .ok (.ifCond .eq 7, 3) := by decide +kernel
theorem d_Law_clear2_10 : decode method_14_code 10 = .ok (.lconst 1, 1) := by decide +kernel
theorem d_Law_clear2_11 : decode method_14_code 11 = .ok (.goto 4, 3) := by decide +kernel
theorem d_Law_clear2_14 : decode method_14_code 14 = .ok (.lconst 0, 1) := by decide +kernel
theorem d_Law_clear2_15 : decode method_14_code 15 = .ok (.lastore, 1) := by decide +kernel
theorem d_Law_clear2_16 : decode method_14_code 16 = .ok (.goto 9, 3) := by decide +kernel
theorem d_Law_clear2_19 : decode method_14_code 19 = .ok (.astore_n 3, 1) := by decide +kernel
theorem d_Law_clear2_20 : decode method_14_code 20 = .ok (.iconst 1, 1) := by decide +kernel
theorem d_Law_clear2_21 : decode method_14_code 21 = .ok (.ireturn, 1) := by decide +kernel
theorem d_Law_clear2_22 : decode method_14_code 22 = .ok (.astore_n 3, 1) := by decide +kernel
theorem d_Law_clear2_23 : decode method_14_code 23 = .ok (.iconst 2, 1) := by decide +kernel
theorem d_Law_clear2_24 : decode method_14_code 24 = .ok (.ireturn, 1) := by decide +kernel
theorem d_Law_clear2_25 : decode method_14_code 25 = .ok (.iconst 0, 1) := by decide +kernel
theorem d_Law_clear2_26 : decode method_14_code 26 = .ok (.ireturn, 1) := by decide +kernel
set_option maxRecDepth 50000 in
theorem cdx_Law_clear2 : Cond.codeWith y_Law_clear2 method_14_code 4 (some .int) [(0, 16, 19, 15), (0, 16, 22, 13)] ∈ TB := mem_TB 764 rfl rfl
theorem st_Law_clear2 : Cond.static y_Law_clear2 ∈ TB := mem_TB 763 (by decide +kernel) (by decide +kernel)
theorem hd_Law_clear2 : y_Law_clear2.cls ≠ "java/lang/invoke/MethodHandle" ∧ y_Law_clear2.cls ≠ "java/lang/invoke/VarHandle" ∧ (parseMethodDescriptor y_Law_clear2.desc).map (fun d => d.parameters.length) = some 3 := by decide +kernel
def y_Law_bound : MethodName := ⟨R_Law, "bound", "(LFaultRips;[J)I"⟩
abbrev ws_Law_bound : List Cond := .codeWith y_Law_bound method_15_code 3 (some .int) [(0, 7, 10, 15)] :: TB
theorem d_Law_bound_0 : decode method_15_code 0 = .ok (.aload_n 1, 1) := by decide +kernel
theorem d_Law_bound_1 : decode method_15_code 1 = .ok (.iconst 0, 1) := by decide +kernel
theorem d_Law_bound_2 : decode method_15_code 2 = .ok (.aload_n 0, 1) := by decide +kernel
theorem d_Law_bound_3 : decode method_15_code 3 = .ok (.invokevirtual 59, 3) := by decide +kernel
theorem d_Law_bound_6 : decode method_15_code 6 = .ok (.lastore, 1) := by decide +kernel
theorem d_Law_bound_7 : decode method_15_code 7 = .ok (.goto 6, 3) := by decide +kernel
theorem d_Law_bound_10 : decode method_15_code 10 = .ok (.astore_n 2, 1) := by decide +kernel
theorem d_Law_bound_11 : decode method_15_code 11 = .ok (.iconst 1, 1) := by decide +kernel
theorem d_Law_bound_12 : decode method_15_code 12 = .ok (.ireturn, 1) := by decide +kernel
theorem d_Law_bound_13 : decode method_15_code 13 = .ok (.iconst 0, 1) := by decide +kernel
theorem d_Law_bound_14 : decode method_15_code 14 = .ok (.ireturn, 1) := by decide +kernel
set_option maxRecDepth 50000 in
theorem cdx_Law_bound : Cond.codeWith y_Law_bound method_15_code 3 (some .int) [(0, 7, 10, 15)] ∈ TB := mem_TB 773 rfl rfl
theorem st_Law_bound : Cond.static y_Law_bound ∈ TB := mem_TB 772 (by decide +kernel) (by decide +kernel)
theorem hd_Law_bound : y_Law_bound.cls ≠ "java/lang/invoke/MethodHandle" ∧ y_Law_bound.cls ≠ "java/lang/invoke/VarHandle" ∧ (parseMethodDescriptor y_Law_bound.desc).map (fun d => d.parameters.length) = some 2 := by decide +kernel
def y_Law_price : MethodName := ⟨R_Law, "price", "(LFaultRips;II[J)I"⟩
abbrev ws_Law_price : List Cond := .codeWith y_Law_price method_16_code 5 (some .int) [(0, 9, 12, 15), (0, 9, 16, 13)] :: TB
theorem d_Law_price_0 : decode method_16_code 0 = .ok (.aload_n 3, 1) := by decide +kernel
theorem d_Law_price_1 : decode method_16_code 1 = .ok (.iconst 0, 1) := by decide +kernel
theorem d_Law_price_2 : decode method_16_code 2 = .ok (.aload_n 0, 1) := by decide +kernel
theorem d_Law_price_3 : decode method_16_code 3 = .ok (.iload_n 1, 1) := by decide +kernel
theorem d_Law_price_4 : decode method_16_code 4 = .ok (.iload_n 2, 1) := by decide +kernel
theorem d_Law_price_5 : decode method_16_code 5 = .ok (.invokevirtual 62, 3) := by decide +kernel
theorem d_Law_price_8 : decode method_16_code 8 = .ok (.lastore, 1) := by decide +kernel
theorem d_Law_price_9 : decode method_16_code 9 = .ok (.goto 11, 3) := by decide +kernel
theorem d_Law_price_12 : decode method_16_code 12 = .ok (.astore 4, 2) := by decide +kernel
theorem d_Law_price_14 : decode method_16_code 14 = .ok (.iconst 1, 1) := by decide +kernel
theorem d_Law_price_15 : decode method_16_code 15 = .ok (.ireturn, 1) := by decide +kernel
theorem d_Law_price_16 : decode method_16_code 16 = .ok (.astore 4, 2) := by decide +kernel
theorem d_Law_price_18 : decode method_16_code 18 = .ok (.iconst 2, 1) := by decide +kernel
theorem d_Law_price_19 : decode method_16_code 19 = .ok (.ireturn, 1) := by decide +kernel
theorem d_Law_price_20 : decode method_16_code 20 = .ok (.iconst 0, 1) := by decide +kernel
theorem d_Law_price_21 : decode method_16_code 21 = .ok (.ireturn, 1) := by decide +kernel
set_option maxRecDepth 50000 in
theorem cdx_Law_price : Cond.codeWith y_Law_price method_16_code 5 (some .int) [(0, 9, 12, 15), (0, 9, 16, 13)] ∈ TB := mem_TB 780 rfl rfl
theorem st_Law_price : Cond.static y_Law_price ∈ TB := mem_TB 779 (by decide +kernel) (by decide +kernel)
theorem hd_Law_price : y_Law_price.cls ≠ "java/lang/invoke/MethodHandle" ∧ y_Law_price.cls ≠ "java/lang/invoke/VarHandle" ∧ (parseMethodDescriptor y_Law_price.desc).map (fun d => d.parameters.length) = some 4 := by decide +kernel
def y_Law_salvage : MethodName := ⟨R_Law, "salvage", "(LFaultRips;II[J)I"⟩
abbrev ws_Law_salvage : List Cond := .codeWith y_Law_salvage method_17_code 5 (some .int) [(0, 10, 13, 15), (0, 10, 17, 13), (0, 10, 21, 17)] :: TB
theorem d_Law_salvage_0 : decode method_17_code 0 = .ok (.aload_n 3, 1) := by decide +kernel
theorem d_Law_salvage_1 : decode method_17_code 1 = .ok (.iconst 0, 1) := by decide +kernel
theorem d_Law_salvage_2 : decode method_17_code 2 = .ok (.aload_n 0, 1) := by decide +kernel
theorem d_Law_salvage_3 : decode method_17_code 3 = .ok (.iload_n 1, 1) := by decide +kernel
theorem d_Law_salvage_4 : decode method_17_code 4 = .ok (.iload_n 2, 1) := by decide +kernel
theorem d_Law_salvage_5 : decode method_17_code 5 = .ok (.invokevirtual 66, 3) := by decide +kernel
theorem d_Law_salvage_8 : decode method_17_code 8 = .ok (.i2l, 1) := by decide +kernel
theorem d_Law_salvage_9 : decode method_17_code 9 = .ok (.lastore, 1) := by decide +kernel
theorem d_Law_salvage_10 : decode method_17_code 10 = .ok (.goto 15, 3) := by decide +kernel
theorem d_Law_salvage_13 : decode method_17_code 13 = .ok (.astore 4, 2) := by decide +kernel
theorem d_Law_salvage_15 : decode method_17_code 15 = .ok (.iconst 1, 1) := by decide +kernel
theorem d_Law_salvage_16 : decode method_17_code 16 = .ok (.ireturn, 1) := by decide +kernel
theorem d_Law_salvage_17 : decode method_17_code 17 = .ok (.astore 4, 2) := by decide +kernel
theorem d_Law_salvage_19 : decode method_17_code 19 = .ok (.iconst 2, 1) := by decide +kernel
theorem d_Law_salvage_20 : decode method_17_code 20 = .ok (.ireturn, 1) := by decide +kernel
theorem d_Law_salvage_21 : decode method_17_code 21 = .ok (.astore 4, 2) := by decide +kernel
theorem d_Law_salvage_23 : decode method_17_code 23 = .ok (.iconst 3, 1) := by decide +kernel
theorem d_Law_salvage_24 : decode method_17_code 24 = .ok (.ireturn, 1) := by decide +kernel
theorem d_Law_salvage_25 : decode method_17_code 25 = .ok (.iconst 0, 1) := by decide +kernel
theorem d_Law_salvage_26 : decode method_17_code 26 = .ok (.ireturn, 1) := by decide +kernel
set_option maxRecDepth 50000 in
theorem cdx_Law_salvage : Cond.codeWith y_Law_salvage method_17_code 5 (some .int) [(0, 10, 13, 15), (0, 10, 17, 13), (0, 10, 21, 17)] ∈ TB := mem_TB 787 rfl rfl
theorem st_Law_salvage : Cond.static y_Law_salvage ∈ TB := mem_TB 786 (by decide +kernel) (by decide +kernel)
theorem hd_Law_salvage : y_Law_salvage.cls ≠ "java/lang/invoke/MethodHandle" ∧ y_Law_salvage.cls ≠ "java/lang/invoke/VarHandle" ∧ (parseMethodDescriptor y_Law_salvage.desc).map (fun d => d.parameters.length) = some 4 := by decide +kernel
def y_Law_panel : MethodName := ⟨R_Law, "panel", "(LFaultRips;II[J)I"⟩
abbrev ws_Law_panel : List Cond := .codeWith y_Law_panel method_18_code 5 (some .int) [(0, 10, 13, 15), (0, 10, 17, 17)] :: TB
theorem d_Law_panel_0 : decode method_18_code 0 = .ok (.aload_n 3, 1) := by decide +kernel
theorem d_Law_panel_1 : decode method_18_code 1 = .ok (.iconst 0, 1) := by decide +kernel
theorem d_Law_panel_2 : decode method_18_code 2 = .ok (.aload_n 0, 1) := by decide +kernel
theorem d_Law_panel_3 : decode method_18_code 3 = .ok (.iload_n 1, 1) := by decide +kernel
theorem d_Law_panel_4 : decode method_18_code 4 = .ok (.iload_n 2, 1) := by decide +kernel
theorem d_Law_panel_5 : decode method_18_code 5 = .ok (.invokevirtual 69, 3) := by decide +kernel
theorem d_Law_panel_8 : decode method_18_code 8 = .ok (.i2l, 1) := by decide +kernel
theorem d_Law_panel_9 : decode method_18_code 9 = .ok (.lastore, 1) := by decide +kernel
theorem d_Law_panel_10 : decode method_18_code 10 = .ok (.goto 11, 3) := by decide +kernel
theorem d_Law_panel_13 : decode method_18_code 13 = .ok (.astore 4, 2) := by decide +kernel
theorem d_Law_panel_15 : decode method_18_code 15 = .ok (.iconst 1, 1) := by decide +kernel
theorem d_Law_panel_16 : decode method_18_code 16 = .ok (.ireturn, 1) := by decide +kernel
theorem d_Law_panel_17 : decode method_18_code 17 = .ok (.astore 4, 2) := by decide +kernel
theorem d_Law_panel_19 : decode method_18_code 19 = .ok (.iconst 2, 1) := by decide +kernel
theorem d_Law_panel_20 : decode method_18_code 20 = .ok (.ireturn, 1) := by decide +kernel
theorem d_Law_panel_21 : decode method_18_code 21 = .ok (.iconst 0, 1) := by decide +kernel
theorem d_Law_panel_22 : decode method_18_code 22 = .ok (.ireturn, 1) := by decide +kernel
set_option maxRecDepth 50000 in
theorem cdx_Law_panel : Cond.codeWith y_Law_panel method_18_code 5 (some .int) [(0, 10, 13, 15), (0, 10, 17, 17)] ∈ TB := mem_TB 812 rfl rfl
theorem st_Law_panel : Cond.static y_Law_panel ∈ TB := mem_TB 811 (by decide +kernel) (by decide +kernel)
theorem hd_Law_panel : y_Law_panel.cls ≠ "java/lang/invoke/MethodHandle" ∧ y_Law_panel.cls ≠ "java/lang/invoke/VarHandle" ∧ (parseMethodDescriptor y_Law_panel.desc).map (fun d => d.parameters.length) = some 4 := by decide +kernel
def y_Law_greatest : MethodName := ⟨R_Law, "greatest", "(LFaultRips;[J)I"⟩
abbrev ws_Law_greatest : List Cond := .codeWith y_Law_greatest method_19_code 3 (some .int) [(0, 15, 18, 15)] :: TB
theorem d_Law_greatest_0 : decode method_19_code 0 = .ok (.aload_n 1, 1) := by decide +kernel
theorem d_Law_greatest_1 : decode method_19_code 1 = .ok (.iconst 0, 1) := by decide +kernel
theorem d_Law_greatest_2 : decode method_19_code 2 = .ok (.aload_n 0, 1) := by decide +kernel
theorem d_Law_greatest_3 : decode method_19_code 3 = .ok (.invokevirtual 72, 3) := by decide +kernel
theorem d_Law_greatest_6 : decode method_19_code 6 = .ok (.ifCond .eq 7, 3) := by decide +kernel
theorem d_Law_greatest_9 : decode method_19_code 9 = .ok (.lconst 1, 1) := by decide +kernel
theorem d_Law_greatest_10 : decode method_19_code 10 = .ok (.goto 4, 3) := by decide +kernel
theorem d_Law_greatest_13 : decode method_19_code 13 = .ok (.lconst 0, 1) := by decide +kernel
theorem d_Law_greatest_14 : decode method_19_code 14 = .ok (.lastore, 1) := by decide +kernel
theorem d_Law_greatest_15 : decode method_19_code 15 = .ok (.goto 6, 3) := by decide +kernel
theorem d_Law_greatest_18 : decode method_19_code 18 = .ok (.astore_n 2, 1) := by decide +kernel
theorem d_Law_greatest_19 : decode method_19_code 19 = .ok (.iconst 1, 1) := by decide +kernel
theorem d_Law_greatest_20 : decode method_19_code 20 = .ok (.ireturn, 1) := by decide +kernel
theorem d_Law_greatest_21 : decode method_19_code 21 = .ok (.iconst 0, 1) := by decide +kernel
theorem d_Law_greatest_22 : decode method_19_code 22 = .ok (.ireturn, 1) := by decide +kernel
set_option maxRecDepth 50000 in
theorem cdx_Law_greatest : Cond.codeWith y_Law_greatest method_19_code 3 (some .int) [(0, 15, 18, 15)] ∈ TB := mem_TB 834 rfl rfl
theorem st_Law_greatest : Cond.static y_Law_greatest ∈ TB := mem_TB 833 (by decide +kernel) (by decide +kernel)
theorem hd_Law_greatest : y_Law_greatest.cls ≠ "java/lang/invoke/MethodHandle" ∧ y_Law_greatest.cls ≠ "java/lang/invoke/VarHandle" ∧ (parseMethodDescriptor y_Law_greatest.desc).map (fun d => d.parameters.length) = some 2 := by decide +kernel
