

-- the law's start: its script is no cell of the world; what is known of the classes
theorem met_sx {l : Launch} {y : MethodName} {ws : List Cond} {rm : Room} {cc : ByteArray} {maxL : Nat} {ret : Option FieldType} {b L : Nat} {xs : Nat → Int32} {av : List Value} {Qc : Array Value → State → Outcome → State → Prop} (own : String)
    (hy : plainName y.cls = true) (hw : ws = Cond.code y cc maxL ret :: TB) (ho : y.cls = own) (hn : (lg_sl av).length ≤ maxL)
    (body : ∀ (p : Program) (e : Env) (s : State) (m : MethodId) (below : List Frame) (meth : Method) (c : Code) (ls : Array Slot), p.tables.exec = Jvm.exec → c.code = cc → meth.sig.returnType = ret → c.maxLocals = maxL → s.vm.findClass own = some m.cls → (∀ w ∈ TB, w.before av.toArray s = true) → meth.locks = false → va_X b L xs s s.heap → lv_has ls maxL (lv_args 0 av) →
      W p l e rm s m av.toArray below meth c s.heap [] 0 0 (MQ below Qc av.toArray s 0 0 (fun _ => False)) (F0 m 0 ls [])) :
    Met l y ws rm (va_Pc av (fun U => va_X b L xs U U.heap)) Qc 0 0 (fun _ => False) := by
  refine Met.ofW (cc := cc) (maxL := maxL) (ret := ret) hy hw ?_
  intro p e s m args below meth c s₁ B hml hv
  obtain ⟨rfl, hP⟩ := hv
  have hl := lv_entry av (n := maxL) hn
  rw [lg_entry_eq]
  have hown : s.vm.findClass y.cls = some m.cls := findClass_of_methodNamed B.named
  exact body p e s m below meth c _ B.exec B.bytes B.returns hml (by rw [← ho]; exact hown) (fun w h => atoms_spec (ws := ws) B.pre w (by rw [hw]; exact List.mem_cons_of_mem _ h)) B.notSynchronized hP hl
theorem preS_sx {s : State} {H : Heap} {b L : Nat} {xs : Nat → Int32} {av : List Value} (h : va_X b L xs s H) : PreS s H (va_Pc av (fun U => va_X b L xs U U.heap)) av :=
  ⟨fun a U g mk q => ⟨q.1, va_X.moved (u := U) (U := U.calling g mk a) (Vm.Alike.refl U.vm) q.2⟩, fun U hU hW => ⟨rfl, by show va_X b L xs U U.heap; rw [hU]; exact va_X.moved hW.alike h⟩⟩
theorem c_cellX (l : Launch) (b L k : Nat) (xs : Nat → Int32) (gL : L ≤ 100000) (gk : k ≤ 10) : Met l y_Law_cell ws_Law_cell { frames := 0, cells := 0, slots := 0, locals := 0 } (va_Pc [.ref b, .int (nI k)] (fun U => va_X b L xs U U.heap)) (vp_Si (fun r : Int32 => r = (if k < L then xs k else 0))) 0 0 (fun _ => False) := by
  refine met_sx R_Law (by decide) rfl rfl (Nat.le_of_ble_eq_true rfl) ?_
  intro p e s m below meth c ls hx hb hr hml hown hts hlocks hsx hl
  have hl : lv_has ls 2 [(0, .ref b), (1, .int (nI k))] := hl
  have hbl : b < s.heap.size := by
    obtain ⟨scr, h1, -⟩ := hsx
    exact (Array.getElem?_eq_some_iff.mp h1).1
  have hS : va_S (fun _ => False) s.heap s.heap [] := ⟨Nat.le_refl _, fun _ _ _ => rfl, fun _ h => by cases h⟩
  have hbA : ¬ (fun _ : Nat => False) b := fun h => h
  refine lv_iload_n hx hb d_Law_cell_0 rfl (lv_at hl 1 rfl) ?_
  refine lv_aload_n hx hb d_Law_cell_1 rfl (lv_at hl 0 rfl) ?_
  refine va_slen hx hb hsx hbl hbA hS d_Law_cell_2 ?_
  refine n_icmp_ge (tgt := 12) hx hb (by omega) (by omega) d_Law_cell_3 (by decide) (fun c3 => ?_) (fun c3 => ?_)
  · refine lv_iconst (v := (nI 0)) hx hb d_Law_cell_12 (by decide) ?_
    exact W.iret (v := (nI 0)) hx hb hr (fun t9 ht _ => ⟨_, rfl, by rw [if_neg (by omega)]; rfl, ht⟩) (fun q h => by cases h) d_Law_cell_13
  · refine lv_aload_n hx hb d_Law_cell_6 rfl (lv_at hl 0 rfl) ?_
    refine lv_iload_n hx hb d_Law_cell_7 rfl (lv_at hl 1 rfl) ?_
    refine va_sld hx hb hsx hbl hbA hS (nI_in (by omega) (by omega)) d_Law_cell_8 ?_
    refine top_i (show xs (nI k).toNatClampNeg = xs k from by rw [nI_clamp (by omega)]) ?_
    refine lv_goto (tgt := 13) hx hb d_Law_cell_9 (by decide) ?_
    exact W.iret (v := (xs k)) hx hb hr (fun t9 ht _ => ⟨_, rfl, by rw [if_pos (by omega)], ht⟩) (fun q h => by cases h) d_Law_cell_13
theorem G_ex {s : State} (h : ∀ (c : Nat) (q : vw_C), vwCl[c]? = some q → ∃ (cC : ClassId) (iS : Nat → Nat), u_Kn s q.1 q.2.1 q.2.2 cC iS) : ∃ G : va_G, ∀ (c : Nat) (q : vw_C), vwCl[c]? = some q → u_Kn s q.1 q.2.1 q.2.2 (G.1 c) (G.2 c) := by
  have h2 : ∀ c : Nat, ∃ z : ClassId × (Nat → Nat), ∀ q : vw_C, vwCl[c]? = some q → u_Kn s q.1 q.2.1 q.2.2 z.1 z.2 := by
    intro c
    cases e : vwCl[c]? with
    | none => exact ⟨(0, fun _ => 0), fun q h => by cases h⟩
    | some q =>
      obtain ⟨cC, iS, hk⟩ := h c q e
      exact ⟨(cC, iS), fun q' h' => by cases h'; exact hk⟩
  exact ⟨(fun c => (Classical.choose (h2 c)).1, fun c => (Classical.choose (h2 c)).2), fun c q hq => Classical.choose_spec (h2 c) q hq⟩
theorem arr_of {s : State} {cA : ClassId} {k : Class} {comp : ClassId} {ty : FieldType} (h2 : s.vm.classes[cA]? = some k) (h3 : k.kind = .array comp ty) : ArrOfT s cA ty := fun n z => ⟨fun k h => (by cases h), k, h2, comp, h3⟩
theorem ty_prim {s : State} {a : Array Value} {t : FieldType} (h : (Cond.arrayClass t).before a s = true) : ∃ cA : ClassId, ArrOfT s cA t ∧ s.vm.findClass ("[" ++ t.toString) = some cA := by
  obtain ⟨cA, k, comp, h1, h2, h3⟩ := Cond.arrayClass_spec h
  exact ⟨cA, arr_of h2 h3, h1⟩
theorem ty_obj {s : State} {a : Array Value} {C : String} (h : (Cond.arrayOver (.object C)).before a s = true) : ∃ cA : ClassId, ArrOfT s cA (.object C) ∧ va_RA s cA (.object C) := by
  obtain ⟨comp, cA, k, h1, -, h3, h4, h5⟩ := Cond.arrayOver_spec h
  exact ⟨cA, arr_of h3 h4, k, comp, h3, h4, h1, h5⟩
theorem ty_arr {s : State} {a : Array Value} {t : FieldType} (h : (Cond.arrayOver (.array t)).before a s = true) : ∃ cA : ClassId, ArrOfT s cA (.array t) ∧ s.vm.findClass ("[" ++ (FieldType.array t).toString) = some cA := by
  obtain ⟨comp, cA, k, -, -, h3, h4, h5⟩ := arrayOver_specB h
  exact ⟨cA, arr_of h3 h4, h5⟩
