/-- the tables' words that keep -/
def TB : List Cond := lw_tbl.filter goodWord
theorem mem_TB {w : Cond} (i : Nat) (h : tables_1[i]? = some w) (hg : goodWord w = true) : w ∈ TB := List.mem_filter.mpr ⟨List.mem_append_right _ (List.mem_of_getElem? h), hg⟩
theorem mem_TBs {w : Cond} (h : w ∈ k2_sels lw_privs) (hg : goodWord w = true) : w ∈ TB := List.mem_filter.mpr ⟨List.mem_append_left _ h, hg⟩
theorem gd_TB {y : MethodName} {b : ByteArray} {n : Nat} {r : Option FieldType} (h : Cond.code y b n r ∈ TB) : GoodIn TB (.code y b n r :: TB) := fun w hw => (List.mem_cons.mp hw).elim (fun e => ⟨e ▸ h, good_of_word (e ▸ (List.mem_filter.mp h).2)⟩) (fun hw => ⟨hw, good_of_word (List.mem_filter.mp hw).2⟩)
def R_Board : String := "FaultRips$Board"
def F_Board : u_T := fun k => match k with
  | 0 => ("FaultRips$Board", "step", "I", true)
  | 1 => ("FaultRips$Board", "wide", "I", true)
  | 2 => ("FaultRips$Board", "along", "I", true)
  | 3 => ("FaultRips$Board", "faults", "[LFaultRips$Fault;", true)
  | 4 => ("FaultRips$Board", "faultCount", "I", false)
  | 5 => ("FaultRips$Board", "margin", "I", false)
  | 6 => ("FaultRips$Board", "metAlongX", "[I", true)
  | _ => ("FaultRips$Board", "metAlongY", "[I", true)
def t_Board : Nat → FieldType := fun k => match k with
  | 0 => .int
  | 1 => .int
  | 2 => .int
  | 3 => .array (.object "FaultRips$Fault")
  | 4 => .int
  | 5 => .int
  | 6 => .array .int
  | _ => .array .int
theorem n_Board : ∀ a, a < 8 → ∀ b, b < 8 → a ≠ b → (F_Board a).2.1 ≠ (F_Board b).2.1 := by decide +kernel
theorem t_Board_ok : ∀ k, k < 8 → parseFieldDescriptor (F_Board k).2.2.1 = some (t_Board k) := by decide +kernel
theorem in_Board : ∀ w ∈ u_ws R_Board F_Board 8, w ∈ TB := by
  intro w h
  obtain ⟨k, hk, rfl⟩ := List.mem_map.mp h
  have hk := List.mem_range.mp hk
  exact mem_TB (([69, 71, 73, 75, 77, 79, 81, 83] : List Nat).getD k 0) ((by decide +kernel : ∀ k, k < 8 → tables_1[([69, 71, 73, 75, 77, 79, 81, 83] : List Nat).getD k 0]? = some (u_lay R_Board F_Board k)) k hk) ((by decide +kernel : ∀ k, k < 8 → goodWord (u_lay R_Board F_Board k) = true) k hk)
theorem ini_Board : Cond.initialized R_Board ∈ TB := mem_TB 2 (by decide +kernel) (by decide +kernel)
def R_Cutter : String := "FaultRips$Cutter"
def F_Cutter : u_T := fun k => match k with
  | 0 => ("FaultRips$Cutter", "board", "LFaultRips$Board;", true)
  | 1 => ("FaultRips$Cutter", "sorts", "LFaultRips$Sorts;", true)
  | 2 => ("FaultRips$Cutter", "spansAlong", "I", true)
  | 3 => ("FaultRips$Cutter", "tables", "[[J", true)
  | 4 => ("FaultRips$Cutter", "rest", "[J", true)
  | 5 => ("FaultRips$Cutter", "topAxis", "I", false)
  | 6 => ("FaultRips$Cutter", "top", "I", false)
  | _ => ("FaultRips$Cutter", "topSteps", "I", false)
def t_Cutter : Nat → FieldType := fun k => match k with
  | 0 => .object "FaultRips$Board"
  | 1 => .object "FaultRips$Sorts"
  | 2 => .int
  | 3 => .array (.array .long)
  | 4 => .array .long
  | 5 => .int
  | 6 => .int
  | _ => .int
theorem n_Cutter : ∀ a, a < 8 → ∀ b, b < 8 → a ≠ b → (F_Cutter a).2.1 ≠ (F_Cutter b).2.1 := by decide +kernel
theorem t_Cutter_ok : ∀ k, k < 8 → parseFieldDescriptor (F_Cutter k).2.2.1 = some (t_Cutter k) := by decide +kernel
theorem in_Cutter : ∀ w ∈ u_ws R_Cutter F_Cutter 8, w ∈ TB := by
  intro w h
  obtain ⟨k, hk, rfl⟩ := List.mem_map.mp h
  have hk := List.mem_range.mp hk
  exact mem_TB (([145, 147, 149, 151, 153, 155, 157, 159] : List Nat).getD k 0) ((by decide +kernel : ∀ k, k < 8 → tables_1[([145, 147, 149, 151, 153, 155, 157, 159] : List Nat).getD k 0]? = some (u_lay R_Cutter F_Cutter k)) k hk) ((by decide +kernel : ∀ k, k < 8 → goodWord (u_lay R_Cutter F_Cutter k) = true) k hk)
theorem ini_Cutter : Cond.initialized R_Cutter ∈ TB := mem_TB 6 (by decide +kernel) (by decide +kernel)
def R_Fault : String := "FaultRips$Fault"
def F_Fault : u_T := fun k => match k with
  | 0 => ("FaultRips$Fault", "face", "I", true)
  | 1 => ("FaultRips$Fault", "kind", "I", true)
  | 2 => ("FaultRips$Fault", "x", "I", true)
  | 3 => ("FaultRips$Fault", "y", "I", true)
  | 4 => ("FaultRips$Fault", "w", "I", true)
  | _ => ("FaultRips$Fault", "h", "I", true)
def t_Fault : Nat → FieldType := fun k => match k with
  | 0 => .int
  | 1 => .int
  | 2 => .int
  | 3 => .int
  | 4 => .int
  | _ => .int
theorem n_Fault : ∀ a, a < 6 → ∀ b, b < 6 → a ≠ b → (F_Fault a).2.1 ≠ (F_Fault b).2.1 := by decide +kernel
theorem t_Fault_ok : ∀ k, k < 6 → parseFieldDescriptor (F_Fault k).2.2.1 = some (t_Fault k) := by decide +kernel
theorem in_Fault : ∀ w ∈ u_ws R_Fault F_Fault 6, w ∈ TB := by
  intro w h
  obtain ⟨k, hk, rfl⟩ := List.mem_map.mp h
  have hk := List.mem_range.mp hk
  exact mem_TB (([413, 415, 417, 419, 421, 423] : List Nat).getD k 0) ((by decide +kernel : ∀ k, k < 6 → tables_1[([413, 415, 417, 419, 421, 423] : List Nat).getD k 0]? = some (u_lay R_Fault F_Fault k)) k hk) ((by decide +kernel : ∀ k, k < 6 → goodWord (u_lay R_Fault F_Fault k) = true) k hk)
theorem ini_Fault : Cond.initialized R_Fault ∈ TB := mem_TB 17 (by decide +kernel) (by decide +kernel)
def R_Gang : String := "FaultRips$Gang"
def F_Gang : u_T := fun k => match k with
  | 0 => ("FaultRips$Gang", "widths", "[J", true)
  | _ => ("FaultRips$Gang", "told", "Z", false)
def t_Gang : Nat → FieldType := fun k => match k with
  | 0 => .array .long
  | _ => .boolean
theorem n_Gang : ∀ a, a < 2 → ∀ b, b < 2 → a ≠ b → (F_Gang a).2.1 ≠ (F_Gang b).2.1 := by decide +kernel
theorem t_Gang_ok : ∀ k, k < 2 → parseFieldDescriptor (F_Gang k).2.2.1 = some (t_Gang k) := by decide +kernel
theorem in_Gang : ∀ w ∈ u_ws R_Gang F_Gang 2, w ∈ TB := by
  intro w h
  obtain ⟨k, hk, rfl⟩ := List.mem_map.mp h
  have hk := List.mem_range.mp hk
  exact mem_TB (([122, 124] : List Nat).getD k 0) ((by decide +kernel : ∀ k, k < 2 → tables_1[([122, 124] : List Nat).getD k 0]? = some (u_lay R_Gang F_Gang k)) k hk) ((by decide +kernel : ∀ k, k < 2 → goodWord (u_lay R_Gang F_Gang k) = true) k hk)
theorem ini_Gang : Cond.initialized R_Gang ∈ TB := mem_TB 5 (by decide +kernel) (by decide +kernel)
def R_Leftover : String := "FaultRips$Leftover"
def F_Leftover : u_T := fun k => match k with
  | 0 => ("FaultRips$Leftover", "facts", "[[I", true)
  | 1 => ("FaultRips$Leftover", "size", "I", false)
  | 2 => ("FaultRips$Leftover", "wide", "I", true)
  | 3 => ("FaultRips$Leftover", "along", "I", true)
  | _ => ("FaultRips$Leftover", "covered", "[Z", true)
def t_Leftover : Nat → FieldType := fun k => match k with
  | 0 => .array (.array .int)
  | 1 => .int
  | 2 => .int
  | 3 => .int
  | _ => .array .boolean
theorem n_Leftover : ∀ a, a < 5 → ∀ b, b < 5 → a ≠ b → (F_Leftover a).2.1 ≠ (F_Leftover b).2.1 := by decide +kernel
theorem t_Leftover_ok : ∀ k, k < 5 → parseFieldDescriptor (F_Leftover k).2.2.1 = some (t_Leftover k) := by decide +kernel
theorem in_Leftover : ∀ w ∈ u_ws R_Leftover F_Leftover 5, w ∈ TB := by
  intro w h
  obtain ⟨k, hk, rfl⟩ := List.mem_map.mp h
  have hk := List.mem_range.mp hk
  exact mem_TB (([215, 217, 219, 221, 223] : List Nat).getD k 0) ((by decide +kernel : ∀ k, k < 5 → tables_1[([215, 217, 219, 221, 223] : List Nat).getD k 0]? = some (u_lay R_Leftover F_Leftover k)) k hk) ((by decide +kernel : ∀ k, k < 5 → goodWord (u_lay R_Leftover F_Leftover k) = true) k hk)
theorem ini_Leftover : Cond.initialized R_Leftover ∈ TB := mem_TB 8 (by decide +kernel) (by decide +kernel)
def R_PanelMaker : String := "FaultRips$PanelMaker"
def F_PanelMaker : u_T := fun k => match k with
  | 0 => ("FaultRips$PanelMaker", "room", "I", true)
  | _ => ("FaultRips$PanelMaker", "fewest", "[I", false)
def t_PanelMaker : Nat → FieldType := fun k => match k with
  | 0 => .int
  | _ => .array .int
theorem n_PanelMaker : ∀ a, a < 2 → ∀ b, b < 2 → a ≠ b → (F_PanelMaker a).2.1 ≠ (F_PanelMaker b).2.1 := by decide +kernel
theorem t_PanelMaker_ok : ∀ k, k < 2 → parseFieldDescriptor (F_PanelMaker k).2.2.1 = some (t_PanelMaker k) := by decide +kernel
theorem in_PanelMaker : ∀ w ∈ u_ws R_PanelMaker F_PanelMaker 2, w ∈ TB := by
  intro w h
  obtain ⟨k, hk, rfl⟩ := List.mem_map.mp h
  have hk := List.mem_range.mp hk
  exact mem_TB (([235, 237] : List Nat).getD k 0) ((by decide +kernel : ∀ k, k < 2 → tables_1[([235, 237] : List Nat).getD k 0]? = some (u_lay R_PanelMaker F_PanelMaker k)) k hk) ((by decide +kernel : ∀ k, k < 2 → goodWord (u_lay R_PanelMaker F_PanelMaker k) = true) k hk)
theorem ini_PanelMaker : Cond.initialized R_PanelMaker ∈ TB := mem_TB 9 (by decide +kernel) (by decide +kernel)
def R_Plan : String := "FaultRips$Plan"
def F_Plan : u_T := fun k => match k with
  | 0 => ("FaultRips$Plan", "facts", "[[I", true)
  | 1 => ("FaultRips$Plan", "counts", "[I", true)
  | 2 => ("FaultRips$Plan", "size", "I", false)
  | 3 => ("FaultRips$Plan", "total", "J", false)
  | _ => ("FaultRips$Plan", "room", "I", true)
def t_Plan : Nat → FieldType := fun k => match k with
  | 0 => .array (.array .int)
  | 1 => .array .int
  | 2 => .int
  | 3 => .long
  | _ => .int
theorem n_Plan : ∀ a, a < 5 → ∀ b, b < 5 → a ≠ b → (F_Plan a).2.1 ≠ (F_Plan b).2.1 := by decide +kernel
theorem t_Plan_ok : ∀ k, k < 5 → parseFieldDescriptor (F_Plan k).2.2.1 = some (t_Plan k) := by decide +kernel
theorem in_Plan : ∀ w ∈ u_ws R_Plan F_Plan 5, w ∈ TB := by
  intro w h
  obtain ⟨k, hk, rfl⟩ := List.mem_map.mp h
  have hk := List.mem_range.mp hk
  exact mem_TB (([189, 191, 193, 195, 197] : List Nat).getD k 0) ((by decide +kernel : ∀ k, k < 5 → tables_1[([189, 191, 193, 195, 197] : List Nat).getD k 0]? = some (u_lay R_Plan F_Plan k)) k hk) ((by decide +kernel : ∀ k, k < 5 → goodWord (u_lay R_Plan F_Plan k) = true) k hk)
theorem ini_Plan : Cond.initialized R_Plan ∈ TB := mem_TB 7 (by decide +kernel) (by decide +kernel)
def R_Sort : String := "FaultRips$Sort"
def F_Sort : u_T := fun k => match k with
  | 0 => ("FaultRips$Sort", "wide", "I", true)
  | 1 => ("FaultRips$Sort", "perStep", "I", true)
  | 2 => ("FaultRips$Sort", "need", "I", false)
  | 3 => ("FaultRips$Sort", "price", "J", false)
  | 4 => ("FaultRips$Sort", "leastSteps", "I", false)
  | 5 => ("FaultRips$Sort", "mostSteps", "I", false)
  | 6 => ("FaultRips$Sort", "barred", "I", false)
  | 7 => ("FaultRips$Sort", "low", "I", true)
  | 8 => ("FaultRips$Sort", "high", "I", true)
  | _ => ("FaultRips$Sort", "allowed", "I", false)
def t_Sort : Nat → FieldType := fun k => match k with
  | 0 => .int
  | 1 => .int
  | 2 => .int
  | 3 => .long
  | 4 => .int
  | 5 => .int
  | 6 => .int
  | 7 => .int
  | 8 => .int
  | _ => .int
theorem n_Sort : ∀ a, a < 10 → ∀ b, b < 10 → a ≠ b → (F_Sort a).2.1 ≠ (F_Sort b).2.1 := by decide +kernel
theorem t_Sort_ok : ∀ k, k < 10 → parseFieldDescriptor (F_Sort k).2.2.1 = some (t_Sort k) := by decide +kernel
theorem in_Sort : ∀ w ∈ u_ws R_Sort F_Sort 10, w ∈ TB := by
  intro w h
  obtain ⟨k, hk, rfl⟩ := List.mem_map.mp h
  have hk := List.mem_range.mp hk
  exact mem_TB (([468, 470, 472, 474, 476, 478, 480, 482, 484, 486] : List Nat).getD k 0) ((by decide +kernel : ∀ k, k < 10 → tables_1[([468, 470, 472, 474, 476, 478, 480, 482, 484, 486] : List Nat).getD k 0]? = some (u_lay R_Sort F_Sort k)) k hk) ((by decide +kernel : ∀ k, k < 10 → goodWord (u_lay R_Sort F_Sort k) = true) k hk)
theorem ini_Sort : Cond.initialized R_Sort ∈ TB := mem_TB 18 (by decide +kernel) (by decide +kernel)
def R_Sorts : String := "FaultRips$Sorts"
def F_Sorts : u_T := fun k => match k with
  | 0 => ("FaultRips$Sorts", "told", "[LFaultRips$Sort;", true)
  | 1 => ("FaultRips$Sorts", "count", "I", false)
  | 2 => ("FaultRips$Sorts", "bow", "I", false)
  | _ => ("FaultRips$Sorts", "board", "LFaultRips$Board;", true)
def t_Sorts : Nat → FieldType := fun k => match k with
  | 0 => .array (.object "FaultRips$Sort")
  | 1 => .int
  | 2 => .int
  | _ => .object "FaultRips$Board"
theorem n_Sorts : ∀ a, a < 4 → ∀ b, b < 4 → a ≠ b → (F_Sorts a).2.1 ≠ (F_Sorts b).2.1 := by decide +kernel
theorem t_Sorts_ok : ∀ k, k < 4 → parseFieldDescriptor (F_Sorts k).2.2.1 = some (t_Sorts k) := by decide +kernel
theorem in_Sorts : ∀ w ∈ u_ws R_Sorts F_Sorts 4, w ∈ TB := by
  intro w h
  obtain ⟨k, hk, rfl⟩ := List.mem_map.mp h
  have hk := List.mem_range.mp hk
  exact mem_TB (([105, 107, 109, 111] : List Nat).getD k 0) ((by decide +kernel : ∀ k, k < 4 → tables_1[([105, 107, 109, 111] : List Nat).getD k 0]? = some (u_lay R_Sorts F_Sorts k)) k hk) ((by decide +kernel : ∀ k, k < 4 → goodWord (u_lay R_Sorts F_Sorts k) = true) k hk)
theorem ini_Sorts : Cond.initialized R_Sorts ∈ TB := mem_TB 4 (by decide +kernel) (by decide +kernel)
def R_Rips : String := "FaultRips"
def F_Rips : u_T := fun k => match k with
  | 0 => ("FaultRips", "board", "LFaultRips$Board;", true)
  | 1 => ("FaultRips", "sorts", "LFaultRips$Sorts;", true)
  | 2 => ("FaultRips", "saws", "LFaultRips$Gang;", true)
  | 3 => ("FaultRips", "cutter", "LFaultRips$Cutter;", true)
  | 4 => ("FaultRips", "plan", "LFaultRips$Plan;", true)
  | 5 => ("FaultRips", "trial", "LFaultRips$Plan;", true)
  | 6 => ("FaultRips", "leftover", "LFaultRips$Leftover;", true)
  | 7 => ("FaultRips", "panels", "LFaultRips$PanelMaker;", true)
  | 8 => ("FaultRips", "latestWay", "I", false)
  | 9 => ("FaultRips", "latestStages", "I", false)
  | 10 => ("FaultRips", "planned", "Z", false)
  | _ => ("FaultRips", "boundNow", "J", false)
def t_Rips : Nat → FieldType := fun k => match k with
  | 0 => .object "FaultRips$Board"
  | 1 => .object "FaultRips$Sorts"
  | 2 => .object "FaultRips$Gang"
  | 3 => .object "FaultRips$Cutter"
  | 4 => .object "FaultRips$Plan"
  | 5 => .object "FaultRips$Plan"
  | 6 => .object "FaultRips$Leftover"
  | 7 => .object "FaultRips$PanelMaker"
  | 8 => .int
  | 9 => .int
  | 10 => .boolean
  | _ => .long
theorem n_Rips : ∀ a, a < 12 → ∀ b, b < 12 → a ≠ b → (F_Rips a).2.1 ≠ (F_Rips b).2.1 := by decide +kernel
theorem t_Rips_ok : ∀ k, k < 12 → parseFieldDescriptor (F_Rips k).2.2.1 = some (t_Rips k) := by decide +kernel
theorem in_Rips : ∀ w ∈ u_ws R_Rips F_Rips 12, w ∈ TB := by
  intro w h
  obtain ⟨k, hk, rfl⟩ := List.mem_map.mp h
  have hk := List.mem_range.mp hk
  exact mem_TB (([252, 254, 256, 258, 260, 262, 264, 266, 268, 270, 272, 274] : List Nat).getD k 0) ((by decide +kernel : ∀ k, k < 12 → tables_1[([252, 254, 256, 258, 260, 262, 264, 266, 268, 270, 272, 274] : List Nat).getD k 0]? = some (u_lay R_Rips F_Rips k)) k hk) ((by decide +kernel : ∀ k, k < 12 → goodWord (u_lay R_Rips F_Rips k) = true) k hk)
theorem ini_Rips : Cond.initialized R_Rips ∈ TB := mem_TB 1 (by decide +kernel) (by decide +kernel)
def R_Model : String := "FaultRipsModel"
def F_Model : u_T := fun k => match k with
  | 0 => ("FaultRipsModel", "code", "I", false)
  | 1 => ("FaultRipsModel", "step", "I", true)
  | 2 => ("FaultRipsModel", "along", "I", true)
  | 3 => ("FaultRipsModel", "across", "I", true)
  | 4 => ("FaultRipsModel", "faults", "I", false)
  | 5 => ("FaultRipsModel", "faces", "[I", true)
  | 6 => ("FaultRipsModel", "kinds", "[I", true)
  | 7 => ("FaultRipsModel", "fx", "[I", true)
  | 8 => ("FaultRipsModel", "fy", "[I", true)
  | 9 => ("FaultRipsModel", "fw", "[I", true)
  | 10 => ("FaultRipsModel", "fh", "[I", true)
  | 11 => ("FaultRipsModel", "pieces", "I", false)
  | 12 => ("FaultRipsModel", "widths", "[I", true)
  | 13 => ("FaultRipsModel", "lows", "[I", true)
  | 14 => ("FaultRipsModel", "highs", "[I", true)
  | 15 => ("FaultRipsModel", "worths", "[J", true)
  | 16 => ("FaultRipsModel", "allowed", "[Z", true)
  | 17 => ("FaultRipsModel", "needs", "[I", true)
  | 18 => ("FaultRipsModel", "prices", "[J", true)
  | 19 => ("FaultRipsModel", "lastPrices", "[J", true)
  | 20 => ("FaultRipsModel", "gangs", "[Z", true)
  | 21 => ("FaultRipsModel", "ganged", "Z", false)
  | 22 => ("FaultRipsModel", "margin", "I", false)
  | 23 => ("FaultRipsModel", "bow", "I", false)
  | 24 => ("FaultRipsModel", "value0", "[J", true)
  | 25 => ("FaultRipsModel", "count0", "[I", true)
  | 26 => ("FaultRipsModel", "which0", "[I", true)
  | 27 => ("FaultRipsModel", "value1", "[J", true)
  | 28 => ("FaultRipsModel", "count1", "[I", true)
  | 29 => ("FaultRipsModel", "value2", "[J", true)
  | 30 => ("FaultRipsModel", "count2", "[I", true)
  | 31 => ("FaultRipsModel", "rest", "[J", true)
  | 32 => ("FaultRipsModel", "restCount", "[I", true)
  | 33 => ("FaultRipsModel", "made", "Z", false)
  | 34 => ("FaultRipsModel", "way", "I", false)
  | 35 => ("FaultRipsModel", "stages", "I", false)
  | 36 => ("FaultRipsModel", "size", "I", false)
  | 37 => ("FaultRipsModel", "px", "[I", true)
  | 38 => ("FaultRipsModel", "py", "[I", true)
  | 39 => ("FaultRipsModel", "pdx", "[I", true)
  | 40 => ("FaultRipsModel", "pdy", "[I", true)
  | 41 => ("FaultRipsModel", "pwhich", "[I", true)
  | 42 => ("FaultRipsModel", "keptSize", "I", false)
  | 43 => ("FaultRipsModel", "kept", "[I", true)
  | 44 => ("FaultRipsModel", "bound", "J", false)
  | 45 => ("FaultRipsModel", "covered", "[Z", true)
  | _ => ("FaultRipsModel", "fewest", "[I", true)
def t_Model : Nat → FieldType := fun k => match k with
  | 0 => .int
  | 1 => .int
  | 2 => .int
  | 3 => .int
  | 4 => .int
  | 5 => .array .int
  | 6 => .array .int
  | 7 => .array .int
  | 8 => .array .int
  | 9 => .array .int
  | 10 => .array .int
  | 11 => .int
  | 12 => .array .int
  | 13 => .array .int
  | 14 => .array .int
  | 15 => .array .long
  | 16 => .array .boolean
  | 17 => .array .int
  | 18 => .array .long
  | 19 => .array .long
  | 20 => .array .boolean
  | 21 => .boolean
  | 22 => .int
  | 23 => .int
  | 24 => .array .long
  | 25 => .array .int
  | 26 => .array .int
  | 27 => .array .long
  | 28 => .array .int
  | 29 => .array .long
  | 30 => .array .int
  | 31 => .array .long
  | 32 => .array .int
  | 33 => .boolean
  | 34 => .int
  | 35 => .int
  | 36 => .int
  | 37 => .array .int
  | 38 => .array .int
  | 39 => .array .int
  | 40 => .array .int
  | 41 => .array .int
  | 42 => .int
  | 43 => .array .int
  | 44 => .long
  | 45 => .array .boolean
  | _ => .array .int
theorem n_Model : ∀ a, a < 47 → ∀ b, b < 47 → a ≠ b → (F_Model a).2.1 ≠ (F_Model b).2.1 := by decide +kernel
theorem t_Model_ok : ∀ k, k < 47 → parseFieldDescriptor (F_Model k).2.2.1 = some (t_Model k) := by decide +kernel
theorem in_Model : ∀ w ∈ u_ws R_Model F_Model 47, w ∈ TB := by
  intro w h
  obtain ⟨k, hk, rfl⟩ := List.mem_map.mp h
  have hk := List.mem_range.mp hk
  exact mem_TB (([899, 901, 903, 905, 907, 909, 911, 913, 915, 917, 919, 921, 923, 925, 927, 929, 931, 933, 935, 937, 939, 941, 943, 945, 947, 949, 951, 953, 955, 957, 959, 961, 963, 965, 967, 969, 971, 973, 975, 977, 979, 981, 983, 985, 987, 989, 991] : List Nat).getD k 0) ((by decide +kernel : ∀ k, k < 47 → tables_1[([899, 901, 903, 905, 907, 909, 911, 913, 915, 917, 919, 921, 923, 925, 927, 929, 931, 933, 935, 937, 939, 941, 943, 945, 947, 949, 951, 953, 955, 957, 959, 961, 963, 965, 967, 969, 971, 973, 975, 977, 979, 981, 983, 985, 987, 989, 991] : List Nat).getD k 0]? = some (u_lay R_Model F_Model k)) k hk) ((by decide +kernel : ∀ k, k < 47 → goodWord (u_lay R_Model F_Model k) = true) k hk)
theorem ini_Model : Cond.initialized R_Model ∈ TB := mem_TB 10 (by decide +kernel) (by decide +kernel)
def R_Arrays : String := "java/util/Arrays"
theorem ini_Arrays : Cond.initialized R_Arrays ∈ TB := mem_TB 19 (by decide +kernel) (by decide +kernel)
abbrev vwCl : List vw_C := [(R_Board, F_Board, 8), (R_Cutter, F_Cutter, 8), (R_Fault, F_Fault, 6), (R_Gang, F_Gang, 2), (R_Leftover, F_Leftover, 5), (R_PanelMaker, F_PanelMaker, 2), (R_Plan, F_Plan, 5), (R_Sort, F_Sort, 10), (R_Sorts, F_Sorts, 4), (R_Rips, F_Rips, 12), (R_Model, F_Model, 47)]
abbrev TY (ty : Nat → ClassId) : List (ClassId × FieldType) := [(ty 0, .int), (ty 1, .long), (ty 2, .boolean), (ty 3, .object "FaultRips$Fault"), (ty 4, .object "FaultRips$Sort"), (ty 5, .array .int), (ty 6, .array .long)]
def nests : List (String × Nat × MethodName) := [(R_Board, 42, ⟨R_Rips, "spansOf", "(I)I"⟩), (R_Rips, 48, ⟨R_Gang, "<init>", "()V"⟩), (R_Cutter, 43, ⟨R_Rips, "spansOf", "(I)I"⟩), (R_Board, 60, ⟨R_Rips, "spanOf", "(II)I"⟩), (R_Cutter, 104, ⟨R_Rips, "spanOf", "(II)I"⟩)]
