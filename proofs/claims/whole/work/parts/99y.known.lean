

theorem mem_lt {w : Cond} (i : Nat) (h : tables_1[i]? = some w) : w ∈ lw_tbl := List.mem_append_right _ (List.mem_of_getElem? h)
theorem not_cast {x y : String} {A : Array Value} {s : State} (h : (Cond.not (.castable x y)).before A s = true) : ∃ c t, s.vm.findClass x = some c ∧ s.vm.findClass y = some t ∧ s.vm.assignable c t = false := by
  have hv := Cond.holds_not_iff.mp h
  simp only [Cond.value] at hv
  cases h1 : s.vm.findClass x with
  | none => simp [h1] at hv
  | some c =>
    cases h2 : s.vm.findClass y with
    | none => simp [h1, h2] at hv
    | some t =>
      simp [h1, h2] at hv
      exact ⟨c, t, rfl, rfl, hv⟩
theorem str_ex {k : Nat} {tx : String} {A : Array Value} {s : State} (h : (Cond.stringRef R_Rips k tx).before A s = true) (hc : ∃ c, s.vm.findClass R_Rips = some c) : ∃ a, vk_R R_Rips k tx a s := by
  obtain ⟨c, hc⟩ := hc
  obtain ⟨-, -, -, a, -, -, -, -, -, hev⟩ := Cond.stringRef_spec hc h
  exact ⟨a, vk_R.of h hev⟩

theorem kx_ex {s : State} {b : Nat} (hts : ∀ w ∈ lw_tbl, w.before #[Value.ref b] s = true) (hgv : (Jvm.Cond.and given_1 narrow_1).before #[Value.ref b] s = true) : ∃ (G : va_G) (ty : Nat → ClassId), KX G ty s := by
  have hs := flat_of_before _ hgv
  have htb : ∀ w ∈ TB, w.before #[Value.ref b] s = true := fun w hw => hts w (List.mem_filter.mp hw).1
  obtain ⟨G, hG⟩ := G_ex (s := s) (fun c q h => match c, h with
    | 0, h => by obtain rfl := Option.some.inj h; exact u_known htb in_Board (htb _ inst_Board)
    | 1, h => by obtain rfl := Option.some.inj h; exact u_known htb in_Cutter (htb _ inst_Cutter)
    | 2, h => by obtain rfl := Option.some.inj h; exact u_known htb in_Fault (htb _ inst_Fault)
    | 3, h => by obtain rfl := Option.some.inj h; exact u_known htb in_Gang (htb _ inst_Gang)
    | 4, h => by obtain rfl := Option.some.inj h; exact u_known htb in_Leftover (htb _ inst_Leftover)
    | 5, h => by obtain rfl := Option.some.inj h; exact u_known htb in_PanelMaker (htb _ inst_PanelMaker)
    | 6, h => by obtain rfl := Option.some.inj h; exact u_known htb in_Plan (htb _ inst_Plan)
    | 7, h => by obtain rfl := Option.some.inj h; exact u_known htb in_Sort (htb _ inst_Sort)
    | 8, h => by obtain rfl := Option.some.inj h; exact u_known htb in_Sorts (htb _ inst_Sorts)
    | 9, h => by obtain rfl := Option.some.inj h; exact u_known htb in_Rips (htb _ inst_Rips)
    | 10, h => by obtain rfl := Option.some.inj h; exact u_known htb in_Model (htb _ inst_Model)
    | n + 11, h => by simp at h)
  obtain ⟨y0, a0, r0⟩ := ty_prim (htb _ ac_int)
  obtain ⟨y1, a1, r1⟩ := ty_prim (htb _ ac_long)
  obtain ⟨y2, a2, r2⟩ := ty_prim (htb _ ac_boolean)
  obtain ⟨y3, a3, r3⟩ := ty_obj (C := "FaultRips$Fault") (hts _ (mem_lt 45 (by decide +kernel)))
  obtain ⟨y4, a4, r4⟩ := ty_obj (C := "FaultRips$Sort") (hts _ (mem_lt 94 (by decide +kernel)))
  obtain ⟨y5, a5, r5⟩ := ty_arr (t := .int) (hts _ (mem_lt 173 (by decide +kernel)))
  obtain ⟨y6, a6, r6⟩ := ty_arr (t := .long) (hts _ (mem_lt 135 (by decide +kernel)))
  have hcR : ∃ c, s.vm.findClass R_Rips = some c := by
    obtain ⟨c, k, h1, -⟩ := Cond.instantiable_spec (htb _ inst_Rips)
    exact ⟨c, h1⟩
  refine ⟨G, fun k => ([y0, y1, y2, y3, y4, y5, y6] : List ClassId).getD k 0, ⟨hG, fun k q h => ?_⟩, ?_, ⟨?_, ?_, ?_, ?_⟩, ?_, ?_, ?_⟩
  · match k, h with
    | 0, h => obtain rfl := Option.some.inj h; exact ⟨a0, r0⟩
    | 1, h => obtain rfl := Option.some.inj h; exact ⟨a1, r1⟩
    | 2, h => obtain rfl := Option.some.inj h; exact ⟨a2, r2⟩
    | 3, h => obtain rfl := Option.some.inj h; exact ⟨a3, r3⟩
    | 4, h => obtain rfl := Option.some.inj h; exact ⟨a4, r4⟩
    | 5, h => obtain rfl := Option.some.inj h; exact ⟨a5, r5⟩
    | 6, h => obtain rfl := Option.some.inj h; exact ⟨a6, r6⟩
    | n + 7, h => simp at h
  · exact List.forall_mem_cons.mpr ⟨va_tabs rfl rfl (hts _ (mem_lt 48 (by decide +kernel))), List.forall_mem_cons.mpr ⟨va_tabs rfl rfl (hts _ (mem_lt 116 (by decide +kernel))), List.forall_mem_cons.mpr ⟨va_tabs rfl rfl (hts _ (mem_lt 136 (by decide +kernel))), List.forall_mem_cons.mpr ⟨va_tabs rfl rfl (hts _ (mem_lt 570 (by decide +kernel))), List.forall_mem_cons.mpr ⟨va_tabs rfl rfl (hts _ (mem_lt 623 (by decide +kernel))), fun _ h9 => absurd h9 List.not_mem_nil⟩⟩⟩⟩⟩
  · exact hts (.arrayOver (.object R_Fault)) (mem_lt 45 (by decide +kernel))
  · exact hts (.arrayOver (.object R_Sort)) (mem_lt 94 (by decide +kernel))
  · exact hts (.arrayOver (.array .int)) (mem_lt 173 (by decide +kernel))
  · exact hts (.arrayOver (.array .long)) (mem_lt 135 (by decide +kernel))
  · exact fun w hw => va_tabs (Bool.and_eq_true_iff.mp (Bool.and_eq_true_iff.mp (List.mem_filter.mp hw).2).2).1 rfl (hts w (List.mem_append_right _ (List.mem_filter.mp hw).1))
  · exact List.forall_mem_cons.mpr ⟨str_ex (hts _ (mem_lt 334 (by decide +kernel))) hcR, List.forall_mem_cons.mpr ⟨str_ex (hts _ (mem_lt 370 (by decide +kernel))) hcR, List.forall_mem_cons.mpr ⟨str_ex (hts _ (mem_lt 390 (by decide +kernel))) hcR, List.forall_mem_cons.mpr ⟨str_ex (hts _ (mem_lt 437 (by decide +kernel))) hcR, List.forall_mem_cons.mpr ⟨str_ex (hts _ (mem_lt 750 (by decide +kernel))) hcR, fun _ h9 => absurd h9 List.not_mem_nil⟩⟩⟩⟩⟩
  · exact List.forall_mem_cons.mpr ⟨not_cast (x := xS) (y := xI) (hs (.not (.castable xS xI)) (by decide +kernel)), List.forall_mem_cons.mpr ⟨not_cast (x := xA) (y := xI) (hs (.not (.castable xA xI)) (by decide +kernel)), List.forall_mem_cons.mpr ⟨not_cast (x := xI) (y := xS) (hs (.not (.castable xI xS)) (by decide +kernel)), List.forall_mem_cons.mpr ⟨not_cast (x := xA) (y := xS) (hs (.not (.castable xA xS)) (by decide +kernel)), List.forall_mem_cons.mpr ⟨not_cast (x := xI) (y := xA) (hs (.not (.castable xI xA)) (by decide +kernel)), List.forall_mem_cons.mpr ⟨not_cast (x := xS) (y := xA) (hs (.not (.castable xS xA)) (by decide +kernel)), fun _ h9 => absurd h9 List.not_mem_nil⟩⟩⟩⟩⟩⟩

theorem zs_ex {s : State} {b : Nat} (hts : ∀ w ∈ lw_tbl, w.before #[Value.ref b] s = true) (hgv : (Jvm.Cond.and given_1 narrow_1).before #[Value.ref b] s = true) : ZS s := by
  have hs := flat_of_before _ hgv
  intro a
  exact List.forall_mem_cons.mpr ⟨hts (.laysStatic Bundle.tN "UNASSIGNED_STACK" Bundle.steD) (mem_lt 320 (by decide +kernel)), List.forall_mem_cons.mpr ⟨hts (.laysStatic Bundle.tN "SUPPRESSED_SENTINEL" Bundle.listD) (mem_lt 322 (by decide +kernel)), List.forall_mem_cons.mpr ⟨hs (.isRef (.static Bundle.tN "UNASSIGNED_STACK" Bundle.steD)) (by decide +kernel), List.forall_mem_cons.mpr ⟨hs (.isRef (.static Bundle.tN "SUPPRESSED_SENTINEL" Bundle.listD)) (by decide +kernel), fun _ h9 => absurd h9 List.not_mem_nil⟩⟩⟩⟩
