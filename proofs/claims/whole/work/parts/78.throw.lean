-- methods that throw: how they end, how a call of one goes on
/-- how a method that throws ends -/
def MQT (below : List Frame) (Qc : Array Value → State → Outcome → State → Prop) (a : Array Value) (s : State) (mc ms : Nat) (free : Addr → Prop) : State → Prop := fun t =>
  ∃ o, t.status = .running ∧ Ended t below o ∧ Qc a s o t ∧ ∃ L, FrameEndT s o t L mc ms ∧ ∀ q ∈ L, free q.base
def MetT (l : Launch) (y : MethodName) (ws : List Cond) (rm : Room) (Pc : Array Value → State → Prop) (Qc : Array Value → State → Outcome → State → Prop) (mc ms : Nat) (free : Addr → Prop) : Prop :=
  MetFree l y (headSpec ws rm) Pc (fun _ _ _ _ _ => True) (fun a st o t => Qc a st o t ∧ ∃ L, FrameEndT st o t L mc ms ∧ ∀ q ∈ L, free q.base)
theorem MetT.ofW {l : Launch} {y : MethodName} {ws ws' : List Cond} {rm : Room} {Pc : Array Value → State → Prop} {Qc : Array Value → State → Outcome → State → Prop} {mc ms : Nat} {free : Addr → Prop} {cc : ByteArray} {maxL : Nat} {ret : Option FieldType}
    (hy : plainName y.cls = true) (hw : ws = Cond.code y cc maxL ret :: ws')
    (body : ∀ p e s m args below meth c s₁, BodyLoose p l y (headSpec ws rm) cc maxL ret e s m args below meth c s₁ → c.maxLocals = maxL → Pc args s →
      W p l e (headSpec ws rm).room s m args below meth c s.heap [] 0 0 (MQT below Qc args s mc ms free) (entryFrame m args maxL)) : MetT l y ws rm Pc Qc mc ms free := by
  refine MetFree.of_bodyS (code := cc) (maxLocals := maxL) (ret := ret) hy ?_ ?_
  · intro args s m h hn
    obtain ⟨meth, c, h1, h2, h3, h4, h5, h6, -, -⟩ := Cond.code_spec hn (atoms_spec (ws := ws) h _ (by rw [hw]; exact List.mem_cons_self))
    exact ⟨meth, c, h1, h2, h3, h4, h5, h6⟩
  · intro p e s m args below meth c s₁ B hml hP _
    obtain ⟨t, a1, o, b1, b2, b3⟩ := body p e s m args below meth c s₁ B hml hP s₁ (by rw [B.state]; rfl) (Stand.of_body B)
    exact ⟨t, o, a1, b1, b2, ⟨b3.1, b3.2⟩⟩
def PostT (Qc : Array Value → State → Outcome → State → Prop) (mc ms : Nat) (free : Addr → Prop) : Pt → Array Value → Addr → Pt → Prop := fun A a x B =>
  ∃ (g : JFrame) (mk : MethodId) (t : State) (L : List Loc), B.U.heap = t.heap ∧ B.U.vm = t.vm ∧ Qc a (A.U.calling g mk a) (.threw x) t ∧ B.locs = A.locs ++ L ∧ (∀ q ∈ L, free q.base) ∧ B.cells = A.cells + mc ∧ B.slots = A.slots + ms
section TH
variable {p : Program} {l : Launch} {e : Env} {R : Room} {s : State} {m : MethodId} {args : Array Value} {below : List Frame} {meth : Method} {c : Code} {H : Heap} {locs : List Loc} {cells slots : Nat} {Q : State → Prop}
  {Ts ws ws' : List Cond} {cc bytes : ByteArray} {nL maxL index n mc ms len Wd : Nat} {own C : String} {y : MethodName} {ret : Option FieldType} {rm : Room} {Pc : Array Value → State → Prop} {Qc : Array Value → State → Outcome → State → Prop} {free : Addr → Prop}
  {b : Addr} {As rest : List Value} {g : JFrame} {a : Array Value} {T : State}
theorem backT_of (hM : MetT l y ws rm Pc Qc mc ms free) (hblind : FrameBlind Pc) (hrc : rm.cells = mc) (hrs : rm.slots = ms)
    (hframes : rm.frames + 1 ≤ R.frames) (hlocals : Wd + (maxL + 11) + rm.locals ≤ R.locals)
    (hws : ∀ w ∈ ws, ∀ a' U, s.WarmedH U.vm → w.before a' U = true) (hcode : Cond.code y bytes maxL ret ∈ ws) (hinit : ∀ a' U, s.WarmedH U.vm → (Cond.initialized y.cls).before a' U = true) :
    BackT l R p e below s args y len Wd (PreOf R mc ms Pc) (PostT Qc mc ms free) := by
  refine BackT.of_free (S := headSpec ws rm) (P := Pc) (K := fun _ _ _ _ _ => True) (Q := fun a st o t => Qc a st o t ∧ ∃ L, FrameEndT st o t L mc ms ∧ ∀ q ∈ L, free q.base) (bytes := bytes) (maxL := maxL) (ret := ret)
    (E := fun a st o t L k n => k = mc ∧ n = ms ∧ ∀ q ∈ L, free q.base) hM hframes hlocals ?_ ?_ (fun _ _ _ _ _ _ _ _ _ => trivial) ?_ ?_
  · intro m meth c A a X hp
    exact ⟨atoms_intro fun w hw => hws w hw _ _ X.warmed, hws _ hcode _ _ X.warmed, hinit _ _ X.warmed, by rw [show (headSpec ws rm).room.cells = mc from hrc]; exact hp.1, by rw [show (headSpec ws rm).room.slots = ms from hrs]; exact hp.2.1⟩
  · intro m meth c A a g mk X hp
    exact hblind _ _ _ _ hp.2.2
  · intro a st o t ⟨hq, L, hF, hL⟩
    exact ⟨L, mc, ms, hF, rfl, rfl, hL⟩
  · intro m meth c A a g mk v t L k n X hp hq hF ⟨e1, e2, hL⟩
    subst e1; subst e2
    exact ⟨g, mk, t, L, rfl, rfl, hq.1, rfl, hL, rfl, rfl⟩
theorem callBackT (cb : CallB R s args own index y bytes maxL ret ws rm mc ms n) (hM : MetT l y ws rm Pc Qc mc ms free) (hbl : FrameBlind Pc) : BackT l R p e below s args y 3 8 (PreOf R mc ms Pc) (PostT Qc mc ms free) := by
  obtain ⟨hrc, hrs, hfr, hlo, hws, hcw, -, hini, -⟩ := cb
  exact backT_of (bytes := bytes) (maxL := maxL) (ret := ret) hM hbl hrc hrs hfr hlo hws hcw (fun a' U hW => word_at hW (Or.inl (by first | rfl | simp [Cond.onTables, Cond.keeps, Cond.steady])) hini)
/-- a call that throws: what stands then -/
def TRun (p : Program) (l : Launch) (e : Env) (R : Room) (s : State) (m : MethodId) (args : Array Value) (below : List Frame) (meth : Method) (c : Code) (H : Heap) (locs : List Loc) (cells slots mc ms : Nat) (g : JFrame) (rest : List Value) (Qa : State → Outcome → State → Prop) (free : Addr → Prop) : Prop :=
  ∀ T : State, T.heap = H → Stand p l e R s m args below meth c T locs cells slots → ∃ (x : Addr) (st₀ t T' : State) (L : List Loc), st₀.heap = H ∧ s.WarmedH st₀.vm ∧ Stand p l e R s m args below meth c T' (locs ++ L) (cells + mc) (slots + ms) ∧ (∀ q ∈ L, free q.base) ∧ T'.heap = t.heap ∧ T'.vm = t.vm ∧ Qa st₀ (.threw x) t ∧
    Steps p.tables e below (T.setTop g) ((T'.setTop { g with stack := rest }).pushFrame (.throwing x))
theorem runVT (S : CallFix p m c cc nL s args Ts own) (hM : MetT l y ws rm Pc Qc mc ms free) (cw : CallW R s args own C index y bytes maxL ret ws rm mc ms n) (hp : PreV s H C b Pc As)
    (hg : g.method = m) (hn : As.length = n) (hsize : g.locals.size = nL) (hstack : g.stack = As.reverse ++ .ref b :: rest) (hW : 2 * g.monitorRoom + (rest.map fun v => v.category).sum ≤ 8) (hdg : decode cc g.pc = .ok (.invokevirtual index, 3)) (hf : cells + mc ≤ R.cells ∧ slots + ms ≤ R.slots) :
    TRun p l e R s m args below meth c H locs cells slots mc ms g rest (Qc (Value.ref b :: As).toArray) free := by
  have hK : BackT l R p e below s args y 3 8 (PreOf R mc ms Pc) (PostT Qc mc ms free) := callBackT cw.1 hM hp.1
  obtain ⟨⟨-, -, -, -, -, -, hcode, -, hy, hlen, hl⟩, hin, hse⟩ := cw
  obtain ⟨hx, hb, hml, ho, -⟩ := S
  obtain ⟨-, ⟨cellB, hcB, hoB, hclB⟩, hPc⟩ := hp
  intro T hT X
  subst hb
  obtain ⟨mk, methM, hnamed, hmethM, hstM, habM⟩ := Cond.instanceMethod_spec hin
  obtain ⟨methM', cM, hmethM', -, -, -, -, -, -, hsigM⟩ := Cond.code_spec hnamed hcode
  cases hmethM.symm.trans hmethM'
  obtain ⟨c2, r2, m2, q1, q2, q3, q4, kP, hkP, hkPi⟩ := Cond.selects_spec hse
  cases hclB.symm.trans q1
  cases (State.methodFound?_of_named hnamed hy).symm.trans q2
  cases hnamed.symm.trans q3
  have hselP : selectMethod e.platform s.vm cellB.cls mk = .method mk := by rw [Launch.admits_selectMethod X.admits]; exact q4
  obtain ⟨vm₁, X₁, hstep₁⟩ := X.invokevirtual hx ho hl hnamed hmethM hstM hkP hkPi hy (a := b) (cell := cellB) (by rw [hT]; exact hcB)
    (fun z h => by rw [h] at hoB; cases hoB) hselP hmethM habM hkP hkPi (g := g) hg (argsL := As) (rest := rest) (hn.trans (hlen _ hsigM)) hstack hdg
  obtain ⟨v, B, X', ⟨g', mk', t, L, e1, e2, hq, h1, hL, h2, h3⟩, hsteps⟩ := hK m meth c ⟨T.setVm vm₁, locs, cells, slots⟩ { g with stack := rest } (.invokevirtual index) mk (Value.ref b :: As).toArray X₁ hg (hsize.trans hml.symm) hdg hW (X₁.named hnamed) ⟨hf.1, hf.2, hPc (T.setVm vm₁) hT X₁.warmed⟩
  obtain ⟨U', l2, c2, s2⟩ := B
  dsimp only [Pt.U, Pt.locs, Pt.cells, Pt.slots] at X' e1 e2 h1 h2 h3 hsteps
  subst h1; subst h2; subst h3
  exact ⟨v, (T.setVm vm₁).calling g' mk' (Value.ref b :: As).toArray, t, U', L, hT, X₁.warmed, X', hL, e1, e2, hq, hstep₁ _ fun acts => by rw [doInvoke_state]; exact hsteps⟩
theorem runST (S : CallFix p m c cc nL s args Ts own) (hM : MetT l y ws rm Pc Qc mc ms free) (cw : CallB R s args own index y bytes maxL ret ws rm mc ms n ∧ (Cond.static y).before args s = true) (hp : PreS s H Pc As)
    (hg : g.method = m) (hn : As.length = n) (hsize : g.locals.size = nL) (hstack : g.stack = As.reverse ++ rest) (hW : 2 * g.monitorRoom + (rest.map fun v => v.category).sum ≤ 8) (hdg : decode cc g.pc = .ok (.invokestatic index, 3)) (hf : cells + mc ≤ R.cells ∧ slots + ms ≤ R.slots) :
    TRun p l e R s m args below meth c H locs cells slots mc ms g rest (Qc As.toArray) free := by
  have hK : BackT l R p e below s args y 3 8 (PreOf R mc ms Pc) (PostT Qc mc ms free) := callBackT cw.1 hM hp.1
  obtain ⟨⟨-, -, -, -, -, -, hcode, hini, hy, hlen, hl⟩, hstt⟩ := cw
  obtain ⟨hx, hb, hml, ho, -⟩ := S
  intro T hT X
  subst hb
  obtain ⟨mk, hnamed⟩ := Cond.code_named hcode
  obtain ⟨methM, cM, hmethM, -, -, -, -, -, -, hsigM⟩ := Cond.code_spec hnamed hcode
  have hstatic : methM.isStatic = true := Cond.static_spec hnamed hmethM hstt
  obtain ⟨kP, hkP, -⟩ := className_of_methodNamed hnamed
  have hinitP : kP.init = .initialized := Cond.initialized_spec (findClass_of_methodNamed hnamed) hkP hini
  obtain ⟨vm₁, X₁, hstep₁⟩ := X.invokestatic hx ho hl hnamed hmethM hstatic hkP hinitP hy (g := g) hg (argsL := As) (rest := rest) (hn.trans (hlen _ hsigM)) hstack hdg
  obtain ⟨v, B, X', ⟨g', mk', t, L, e1, e2, hq, h1, hL, h2, h3⟩, hsteps⟩ := hK m meth c ⟨T.setVm vm₁, locs, cells, slots⟩ { g with stack := rest } (.invokestatic index) mk As.toArray X₁ hg (hsize.trans hml.symm) hdg hW (X₁.named hnamed) ⟨hf.1, hf.2, hp.2 (T.setVm vm₁) hT X₁.warmed⟩
  obtain ⟨U', l2, c2, s2⟩ := B
  dsimp only [Pt.U, Pt.locs, Pt.cells, Pt.slots] at X' e1 e2 h1 h2 h3 hsteps
  subst h1; subst h2; subst h3
  exact ⟨v, (T.setVm vm₁).calling g' mk' As.toArray, t, U', L, hT, X₁.warmed, X', hL, e1, e2, hq, hstep₁ _ fun acts => by rw [doInvoke_state]; exact hsteps⟩
/-- it goes through: the caller throws it on -/
theorem W.outT {ls0 : Array Slot} {st0 : List Value} {Qa : State → Outcome → State → Prop} {free' : Addr → Prop} (hr : TRun p l e R s m args below meth c H locs cells slots mc ms (F0 m n ls0 st0) rest Qa free) (hout : ∀ x ∈ c.exceptionTable.toList, covers x n = false) (hlocks : meth.locks = false)
    (hq : ∀ (x : Addr) (st₀ t U : State), st₀.heap = H → s.WarmedH st₀.vm → Qa st₀ (.threw x) t → U.heap = t.heap → s.WarmedH U.vm → Qc args s (.threw x) U) (hf : ∀ q ∈ locs, free' q.base) (hf2 : ∀ q, free q → free' q) : W p l e R s m args below meth c H locs cells slots (MQT below Qc args s (cells + mc) (slots + ms) free') (F0 m n ls0 st0) := by
  intro T hT X
  obtain ⟨x, st₀, t, T', L, h0, h1, X', hL, e1, e2, hqa, st⟩ := hr T hT X
  obtain ⟨s1, s2, s3, s4, s5⟩ := X'.leaveThrown x (g := { (F0 m n ls0 st0 : JFrame) with stack := rest }) rfl rfl rfl hout hlocks
  exact ⟨_, st.trans s1, .threw x, s2, s3, hq x st₀ t _ h0 h1 hqa e1 s4, locs ++ L, ⟨⟨x, rfl⟩, s4, s5⟩, fun q hq => (List.mem_append.mp hq).elim (hf q) (fun z => hf2 _ (hL q z))⟩
end TH
/-- what a throw asks of the heap: Throwable's statics -/
def zsW : List Cond := [.laysStatic Bundle.tN "UNASSIGNED_STACK" Bundle.steD, .laysStatic Bundle.tN "SUPPRESSED_SENTINEL" Bundle.listD, .isRef (.static Bundle.tN "UNASSIGNED_STACK" Bundle.steD), .isRef (.static Bundle.tN "SUPPRESSED_SENTINEL" Bundle.listD)]
def upX : List String := ["java/lang/RuntimeException", "java/lang/Exception"]
def atomIn (w : Cond) : Bool := (tables_1.contains w && (goodWord w || (w.onTables && w.keepsFace))) || zsW.contains w
theorem at_xI : (Bundle.ownAtoms R_Rips 277 xI upX).all atomIn = true := by decide +kernel
theorem at_xA : (Bundle.ownAtoms R_Rips 282 xA upX).all atomIn = true := by decide +kernel
theorem at_xS : (Bundle.ownAtoms R_Rips 103 xS upX).all atomIn = true := by decide +kernel
def ZS (U : State) : Prop := ∀ (a : Array Value), ∀ w ∈ zsW, w.before a U = true
theorem lays_cell {own name desc : String} {a : Array Value} {s : State} (h : (Cond.laysStatic own name desc).before a s = true) : ∃ (c c' : ClassId) (k : Class) (i : Nat) (f : Field) (aS : Addr) (cell : Cell), s.vm.findClass own = some c ∧ s.fieldFound? own name desc = some (c', k, i, f) ∧ k.statics = some aS ∧ s.heap[aS]? = some cell ∧ cell.vm.isStatics = true := by
  unfold Cond.before Cond.holds Cond.value at h
  cases h1 : s.vm.findClass own with
  | none => rw [h1] at h; simp at h
  | some c =>
    cases h2 : s.fieldFound? own name desc with
    | none => rw [h1, h2] at h; simp at h
    | some q =>
      obtain ⟨c', k, i, f⟩ := q
      rw [h1, h2] at h
      cases h3 : k.statics with
      | none => simp [h3] at h
      | some aS =>
        cases h4 : s.heap[aS]? with
        | none => simp [h3, h4] at h
        | some cell =>
          simp [h3, h4] at h
          exact ⟨c, c', k, i, f, aS, cell, rfl, rfl, h3, h4, by simp_all⟩
theorem fieldFound_vm {s U : State} (hv : U.vm = s.vm) (o n d : String) : U.fieldFound? o n d = s.fieldFound? o n d := by unfold State.fieldFound?; rw [hv]
theorem lays_heap {own name desc : String} {a : Array Value} {s U : State} (hv : U.vm = s.vm) (hh : ∀ (q : Nat) (c : Cell), s.heap[q]? = some c → c.vm.isStatics = true → U.heap[q]? = some c) (h : (Cond.laysStatic own name desc).before a s = true) : (Cond.laysStatic own name desc).before a U = true ∧ ((Cond.isRef (.static own name desc)).before a s = true → (Cond.isRef (.static own name desc)).before a U = true) := by
  obtain ⟨c, c', k, i, f, aS, cell, h1, h2, h3, h4, h5⟩ := lays_cell h
  have h6 := hh aS cell h4 h5
  have h7 : U.fieldFound? own name desc = some (c', k, i, f) := (fieldFound_vm hv _ _ _).trans h2
  constructor
  · rw [← h]
    unfold Cond.before Cond.holds Cond.value
    rw [hv, h1, h7, h2]
    simp [h3, h4, h6]
  · intro h8
    rw [← h8]
    unfold Cond.before Cond.holds Cond.value Term.eval State.fieldNamed?
    rw [h7, h2]
    by_cases hs : f.isStatic = true <;> simp [hs, h3, h4, h6]
theorem ZS.heap {s U : State} (hZ : ZS s) (hv : U.vm = s.vm) (hh : ∀ (q : Nat) (c : Cell), s.heap[q]? = some c → c.vm.isStatics = true → U.heap[q]? = some c) : ZS U := by
  intro a w hw
  have z0 := hZ a (.laysStatic Bundle.tN "UNASSIGNED_STACK" Bundle.steD) (by simp [zsW])
  have z1 := hZ a (.laysStatic Bundle.tN "SUPPRESSED_SENTINEL" Bundle.listD) (by simp [zsW])
  have z2 := hZ a (.isRef (.static Bundle.tN "UNASSIGNED_STACK" Bundle.steD)) (by simp [zsW])
  have z3 := hZ a (.isRef (.static Bundle.tN "SUPPRESSED_SENTINEL" Bundle.listD)) (by simp [zsW])
  unfold zsW at hw
  rcases List.mem_cons.mp hw with rfl | hw
  · exact (lays_heap hv hh z0).1
  rcases List.mem_cons.mp hw with rfl | hw
  · exact (lays_heap hv hh z1).1
  rcases List.mem_cons.mp hw with rfl | hw
  · exact (lays_heap hv hh z0).2 z2
  rcases List.mem_cons.mp hw with rfl | hw
  · exact (lays_heap hv hh z1).2 z3
  · exact absurd hw (List.not_mem_nil)
theorem zs_face : ∀ w ∈ zsW, w.keepsFace = true := by decide +kernel
theorem ZS.to {s U : State} (hZ : ZS s) (hW : s.WarmedH U.vm) (hh : ∀ (q : Nat) (c : Cell), s.heap[q]? = some c → c.vm.isStatics = true → U.heap[q]? = some c) : ZS U :=
  ZS.heap (s := s.setVm U.vm) (fun a w hw => Cond.before_shiftedFace (State.Shifted.of_warmed hW) w (zs_face w hw) (hZ a w hw)) rfl hh
theorem ZS.calling {U : State} {g : JFrame} {mk : MethodId} {a : Array Value} (h : ZS U) : ZS (U.calling g mk a) := ZS.heap (s := U) h rfl (fun q c hq _ => hq)
theorem own_ok {args : Array Value} {s : State} {G : va_G} {ty : Nat → ClassId} {ic : Nat} {X : String} (hA : (Bundle.ownAtoms R_Rips ic X upX).all atomIn = true) (hts : ∀ w ∈ TB, w.before args s = true) (hX : KX G ty s) (hZ : ZS s) : ∀ w ∈ Bundle.ownAtoms R_Rips ic X upX, w.before args s = true := by
  intro w hw
  have h := List.all_eq_true.mp hA w hw
  unfold atomIn at h
  rcases Bool.or_eq_true_iff.mp h with h | h
  · obtain ⟨h1, h2⟩ := Bool.and_eq_true_iff.mp h
    have hm : w ∈ tables_1 := by simpa using h1
    by_cases hg : goodWord w = true
    · exact hts w (List.mem_filter.mpr ⟨List.mem_append_right _ hm, hg⟩)
    · have hg' : goodWord w = false := by simpa using hg
      have hf : (w.onTables && w.keepsFace) = true := by rcases Bool.or_eq_true_iff.mp h2 with z | z; exact absurd z hg; exact z
      exact va_tabs (Bool.and_eq_true_iff.mp hf).1 rfl (hX.2.2.2.1 w (List.mem_filter.mpr ⟨hm, by rw [hg', hf]; rfl⟩))
  · exact hZ args w (by simpa using h)
/-- a throw's end: nothing that was there has changed; the exception is an object of its class -/
def QT (X : String) : Array Value → State → Outcome → State → Prop := fun _ st o t => ∃ (x : Addr) (ce : Cell), o = .threw x ∧ t.heap[x]? = some ce ∧ st.heap.size ≤ x ∧ st.vm.findClass X = some ce.cls ∧ ce.vm = .none ∧ st.heap.size ≤ t.heap.size ∧ ∀ q : Nat, q < st.heap.size → t.heap[q]? = st.heap[q]?
section TS
variable {p : Program} {l : Launch} {e : Env} {R : Room} {s : State} {m : MethodId} {args : Array Value} {below : List Frame} {meth : Method} {c : Code} {G : va_G} {ty : Nat → ClassId} {cc : ByteArray} {pc nL i0 i1 ic : Nat} {ls : Array Slot} {X tx : String}
theorem same_heap {t : State} {cells slots : Nat} (h : s.sameButNew ({ t with vm := s.vm } : State) [] cells slots) : s.heap.size ≤ t.heap.size ∧ ∀ q : Nat, q < s.heap.size → t.heap[q]? = s.heap[q]? := by
  have key : ∀ q : Nat, q < s.heap.size → t.heap[q]? = s.heap[q]? := fun q hq => by
    have h1 : s.heap[q]? = some s.heap[q] := Array.getElem?_eq_getElem hq
    rw [h1]
    exact h.old_cell h1
  refine ⟨?_, key⟩
  rcases Nat.eq_zero_or_pos s.heap.size with z | z
  · omega
  · have h2 := key (s.heap.size - 1) (by omega)
    rw [Array.getElem?_eq_getElem (show s.heap.size - 1 < s.heap.size by omega)] at h2
    have := (Array.getElem?_eq_some_iff.mp h2).1
    omega
/-- new X; dup; ldc; X.<init>(String); athrow, where nothing was written before -/
theorem thr_site {len : Nat} {free : Addr → Prop} (hx : p.tables.exec = Jvm.exec) (hb : c.code = cc) (hml : c.maxLocals = nL) (hl : ls.size = nL) (hown : s.vm.findClass R_Rips = some m.cls) (hts : ∀ w ∈ TB, w.before args s = true) (hX : KX G ty s) (hZ : ZS s) (hlt : l.stackTraces = false) (hlocks : meth.locks = false) (hout : ∀ x ∈ c.exceptionTable.toList, covers x (pc + 3 + 1 + len + 3) = false)
    (hA : (Bundle.ownAtoms R_Rips ic X upX).all atomIn = true) (hfit : Bundle.fit X = true) (hcl : Cond.classLink R_Rips i0 X ∈ TB) (hini : Cond.initialized X ∈ TB) (hst : (i1, tx) ∈ strs)
    (hd0 : decode cc pc = .ok (.new i0, 3)) (hd1 : decode cc (pc + 3) = .ok (.dup, 1)) (hd2 : (decode cc (pc + 3 + 1) = .ok (.ldc i1, 2) ∧ len = 2) ∨ (decode cc (pc + 3 + 1) = .ok (.ldc_w i1, 3) ∧ len = 3)) (hd3 : decode cc (pc + 3 + 1 + len) = .ok (.invokespecial ic, 3)) (hd4 : decode cc (pc + 3 + 1 + len + 3) = .ok (.athrow, 1))
    (hR : 6 ≤ R.frames ∧ 100 ≤ R.locals ∧ 1 ≤ R.cells ∧ 6 ≤ R.slots) : W p l e R s m args below meth c s.heap [] 0 0 (MQT below (QT X) args s 1 6 free) (F0 m pc ls []) := by
  have hat := own_ok hA hts hX hZ
  intro T hT S
  have htr : e.platform.stackTraces = false := by rw [Jvm.Example.NoTraceControls.admits_follows S.admits]; exact hlt
  subst hb
  obtain ⟨vm₁, cX, kX, hfX, hkX, hord, hn6, S1, st1⟩ := S.newCold hx (own := R_Rips) (C := X) (index := i0) (n := 6) hown (hts _ hcl) (hat (.instantiable X 6) (by simp [Bundle.ownAtoms])) (hts _ hini) (g := F0 m pc ls []) rfl hd0 (by omega) (by omega)
  obtain ⟨T1, eT1⟩ : ∃ T1, T1 = (T.setVm vm₁).pushCell { cls := cX, slots := kX.instanceTypes.map defaultValue, vm := .none } := ⟨_, rfl⟩
  rw [← eT1] at S1 st1
  have hcell : T1.heap[T.heap.size]? = some (freshCell cX kX) := by rw [eT1]; exact State.heap_pushCell_size _ _
  obtain ⟨sa, hsa⟩ := hX.2.2.2.2.1 (i1, tx) hst
  have hc1 : (Cond.stringRef R_Rips i1 tx).before args s = true := hsa.1
  have hc2 : (Term.string R_Rips i1).eval args s none [] s = some (.ref sa) := hsa.2
  obtain ⟨U, hsteps, hrun, hend, hW, hsame, ce, hce, K⟩ := S1.ctorThrowS hx htr (own := R_Rips) (cls := X) (names := upX) (ic := ic) hown hfit (by decide +kernel) hat (fun y hy => by cases hy) hfX hkX hcell (by rw [hT]; exact Nat.le_refl _) (msg := .ref sa) rfl
    (g := F0 m (pc + 3 + 1 + len) ls [.ref sa, .ref T.heap.size, .ref T.heap.size]) rfl (hl.trans hml.symm) rfl rfl (rest := []) rfl hd3 hd4 hout (by show 2 + 3 < R.frames; omega) (by show 2 * (F0 m (pc + 3 + 1 + len) ls [.ref sa, .ref T.heap.size, .ref T.heap.size]).monitorRoom + _ + _ ≤ R.locals; simp [upX, Value.category, JFrame.monitorRoom]; omega) hlocks
  refine ⟨U, st1 _ ?_, .threw T.heap.size, hrun, hend, ⟨T.heap.size, ce, rfl, hce, by rw [hT]; exact Nat.le_refl _, K.cls, K.vm, same_heap hsame⟩, [], ⟨⟨_, rfl⟩, hW, hsame⟩, fun q hq => by cases hq⟩
  show Steps p.tables e below (T1.setTop (F0 m (pc + 3) ls [.ref T.heap.size])) U
  jvm_step S1.here [S1.here.top, hx, hd1, Value.category]
  rcases hd2 with ⟨hd2, el⟩ | ⟨hd2, el⟩
  · subst el
    exact S1.ldcString hx hown hc1 hc2 (g := F0 m (pc + 3 + 1) ls [.ref T.heap.size, .ref T.heap.size]) rfl hd2 _ hsteps
  · subst el
    exact S1.ldcStringW hx hown hc1 hc2 (g := F0 m (pc + 3 + 1) ls [.ref T.heap.size, .ref T.heap.size]) rfl hd2 _ hsteps
end TS
theorem fb_th {G : va_G} {ty : Nat → ClassId} {W0 : va_W} {av : List Value} : FrameBlind (va_Pc av (fun U => va_P G vwCl W0 U.heap ∧ KX G ty U ∧ ZS U)) :=
  fun a U g mk q => ⟨q.1, q.2.1, q.2.2.1.calling, q.2.2.2.calling⟩
theorem preS_th {s : State} {G : va_G} {ty : Nat → ClassId} {W0 : va_W} {av : List Value} (hP : va_P G vwCl W0 s.heap) (hX : KX G ty s) (hZ : ZS s) : PreS s s.heap (va_Pc av (fun U => va_P G vwCl W0 U.heap ∧ KX G ty U ∧ ZS U)) av :=
  ⟨fb_th, fun U hU hW => ⟨rfl, by rw [hU]; exact hP, hX.warm hW, hZ.to hW (fun q c hq _ => by rw [hU]; exact hq)⟩⟩
theorem preV_th {s : State} {G : va_G} {ty : Nat → ClassId} {W0 : va_W} {a : Nat} {As : List Value} {ci : Nat} {q : vw_C} {fs : List Value} (hP : va_P G vwCl W0 s.heap) (hX : KX G ty s) (hZ : ZS s) (q0 : Nat) (he : W0[q0]? = some (a, .inr (ci, fs))) (hc : vwCl[ci]? = some q) : PreV s s.heap q.1 a (va_Pc (.ref a :: As) (fun U => va_P G vwCl W0 U.heap ∧ KX G ty U ∧ ZS U)) As :=
  ⟨fb_th, va_recv hX.1 hP hc he, fun U hU hW => ⟨rfl, by rw [hU]; exact hP, hX.warm hW, hZ.to hW (fun q c hq _ => by rw [hU]; exact hq)⟩⟩
theorem QT_out {X : String} {A A' : Array Value} {s st₀ t U : State} {x : Addr} (h0 : st₀.heap = s.heap) (hW : s.WarmedH st₀.vm) (h : QT X A st₀ (.threw x) t) (hU : U.heap = t.heap) : QT X A' s (.threw x) U := by
  obtain ⟨x', ce, e1, h1, h2, h3, h4, h5, h6⟩ := h
  refine ⟨x', ce, e1, by rw [hU]; exact h1, by rw [← h0]; exact h2, by rw [← hW.alike.findClass]; exact h3, h4, by rw [hU, ← h0]; exact h5, fun q hq => ?_⟩
  rw [hU, h6 q (by rw [h0]; exact hq), h0]
/-- a method that throws before it has written: its walk from the entry -/
theorem met_th {l : Launch} {y : MethodName} {ws : List Cond} {rm : Room} {cc : ByteArray} {maxL mc ms : Nat} {ret : Option FieldType} {G : va_G} {ty : Nat → ClassId} {W0 : va_W} {av : List Value} {Qc : Array Value → State → Outcome → State → Prop} (own : String)
    (hy : plainName y.cls = true) (hw : ws = Cond.code y cc maxL ret :: TB) (ho : y.cls = own) (hn : (lg_sl av).length ≤ maxL)
    (body : ∀ (p : Program) (e : Env) (s : State) (m : MethodId) (below : List Frame) (meth : Method) (c : Code) (ls : Array Slot), p.tables.exec = Jvm.exec → c.code = cc → c.maxLocals = maxL → s.vm.findClass own = some m.cls → (∀ w ∈ TB, w.before av.toArray s = true) → meth.locks = false → (∀ (pc : Nat), ∀ x ∈ c.exceptionTable.toList, covers x pc = false) → va_P G vwCl W0 s.heap → KX G ty s → ZS s → lv_has ls maxL (lv_args 0 av) →
      W p l e rm s m av.toArray below meth c s.heap [] 0 0 (MQT below Qc av.toArray s mc ms (fun _ => False)) (F0 m 0 ls [])) :
    MetT l y ws rm (va_Pc av (fun U => va_P G vwCl W0 U.heap ∧ KX G ty U ∧ ZS U)) Qc mc ms (fun _ => False) := by
  refine MetT.ofW (cc := cc) (maxL := maxL) (ret := ret) hy hw ?_
  intro p e s m args below meth c s₁ B hml hv
  obtain ⟨rfl, hP, hK, hZ⟩ := hv
  have hl := lv_entry av (n := maxL) hn
  rw [lg_entry_eq]
  have hown : s.vm.findClass y.cls = some m.cls := findClass_of_methodNamed B.named
  have hcodeV : (Cond.code y cc maxL ret).before av.toArray s = true := atoms_spec (ws := ws) B.pre _ (by rw [hw]; exact List.mem_cons_self)
  exact body p e s m below meth c _ B.exec B.bytes hml (by rw [← ho]; exact hown) (fun w h => atoms_spec (ws := ws) B.pre w (by rw [hw]; exact List.mem_cons_of_mem _ h)) B.notSynchronized (fun pc => covers_of_empty (B.noHandlers hcodeV) pc) hP hK hZ hl
theorem ini_xI : Cond.initialized xI ∈ TB := mem_TB 14 (by decide +kernel) (by decide +kernel)
theorem ini_xS : Cond.initialized xS ∈ TB := mem_TB 15 (by decide +kernel) (by decide +kernel)
theorem ini_xA : Cond.initialized xA ∈ TB := mem_TB 16 (by decide +kernel) (by decide +kernel)
