def y_Board_init : MethodName := ⟨R_Board, "<init>", "(III)V"⟩
abbrev ws_Board_init : List Cond := .code y_Board_init prog_2_method_1_code 4 none :: TB
theorem d_Board_init_0 : decode prog_2_method_1_code 0 = .ok (.aload_n 0, 1) := by decide +kernel
theorem d_Board_init_1 : decode prog_2_method_1_code 1 = .ok (.invokespecial 3, 3) := by decide +kernel
theorem d_Board_init_4 : decode prog_2_method_1_code 4 = .ok (.aload_n 0, 1) := by decide +kernel
theorem d_Board_init_5 : decode prog_2_method_1_code 5 = .ok (.bipush 20, 2) := by decide +kernel
theorem d_Board_init_7 : decode prog_2_method_1_code 7 = .ok (.anewarray 9, 3) := by decide +kernel
theorem d_Board_init_10 : decode prog_2_method_1_code 10 = .ok (.putfield 11, 3) := by decide +kernel
theorem d_Board_init_13 : decode prog_2_method_1_code 13 = .ok (.aload_n 0, 1) := by decide +kernel
theorem d_Board_init_14 : decode prog_2_method_1_code 14 = .ok (.iconst 0, 1) := by decide +kernel
theorem d_Board_init_15 : decode prog_2_method_1_code 15 = .ok (.putfield 17, 3) := by decide +kernel
theorem d_Board_init_18 : decode prog_2_method_1_code 18 = .ok (.aload_n 0, 1) := by decide +kernel
theorem d_Board_init_19 : decode prog_2_method_1_code 19 = .ok (.iconst 0, 1) := by decide +kernel
theorem d_Board_init_20 : decode prog_2_method_1_code 20 = .ok (.putfield 21, 3) := by decide +kernel
theorem d_Board_init_23 : decode prog_2_method_1_code 23 = .ok (.aload_n 0, 1) := by decide +kernel
theorem d_Board_init_24 : decode prog_2_method_1_code 24 = .ok (.iconst 1, 1) := by decide +kernel
theorem d_Board_init_25 : decode prog_2_method_1_code 25 = .ok (.iload_n 3, 1) := by decide +kernel
theorem d_Board_init_26 : decode prog_2_method_1_code 26 = .ok (.invokestatic 24, 3) := by decide +kernel
theorem d_Board_init_29 : decode prog_2_method_1_code 29 = .ok (.putfield 30, 3) := by decide +kernel
theorem d_Board_init_32 : decode prog_2_method_1_code 32 = .ok (.aload_n 0, 1) := by decide +kernel
theorem d_Board_init_33 : decode prog_2_method_1_code 33 = .ok (.bipush 10, 2) := by decide +kernel
theorem d_Board_init_35 : decode prog_2_method_1_code 35 = .ok (.iload_n 1, 1) := by decide +kernel
theorem d_Board_init_36 : decode prog_2_method_1_code 36 = .ok (.aload_n 0, 1) := by decide +kernel
theorem d_Board_init_37 : decode prog_2_method_1_code 37 = .ok (.getfield 30, 3) := by decide +kernel
theorem d_Board_init_40 : decode prog_2_method_1_code 40 = .ok (.idiv, 1) := by decide +kernel
theorem d_Board_init_41 : decode prog_2_method_1_code 41 = .ok (.invokestatic 33, 3) := by decide +kernel
theorem d_Board_init_44 : decode prog_2_method_1_code 44 = .ok (.putfield 36, 3) := by decide +kernel
theorem d_Board_init_47 : decode prog_2_method_1_code 47 = .ok (.aload_n 0, 1) := by decide +kernel
theorem d_Board_init_48 : decode prog_2_method_1_code 48 = .ok (.bipush 24, 2) := by decide +kernel
theorem d_Board_init_50 : decode prog_2_method_1_code 50 = .ok (.iload_n 2, 1) := by decide +kernel
theorem d_Board_init_51 : decode prog_2_method_1_code 51 = .ok (.aload_n 0, 1) := by decide +kernel
theorem d_Board_init_52 : decode prog_2_method_1_code 52 = .ok (.getfield 30, 3) := by decide +kernel
theorem d_Board_init_55 : decode prog_2_method_1_code 55 = .ok (.idiv, 1) := by decide +kernel
theorem d_Board_init_56 : decode prog_2_method_1_code 56 = .ok (.invokestatic 33, 3) := by decide +kernel
theorem d_Board_init_59 : decode prog_2_method_1_code 59 = .ok (.putfield 39, 3) := by decide +kernel
theorem d_Board_init_62 : decode prog_2_method_1_code 62 = .ok (.aload_n 0, 1) := by decide +kernel
theorem d_Board_init_63 : decode prog_2_method_1_code 63 = .ok (.aload_n 0, 1) := by decide +kernel
theorem d_Board_init_64 : decode prog_2_method_1_code 64 = .ok (.getfield 39, 3) := by decide +kernel
theorem d_Board_init_67 : decode prog_2_method_1_code 67 = .ok (.invokestatic 42, 3) := by decide +kernel
theorem d_Board_init_70 : decode prog_2_method_1_code 70 = .ok (.newarray .int, 2) := by decide +kernel
theorem d_Board_init_72 : decode prog_2_method_1_code 72 = .ok (.putfield 46, 3) := by decide +kernel
theorem d_Board_init_75 : decode prog_2_method_1_code 75 = .ok (.aload_n 0, 1) := by decide +kernel
theorem d_Board_init_76 : decode prog_2_method_1_code 76 = .ok (.aload_n 0, 1) := by decide +kernel
theorem d_Board_init_77 : decode prog_2_method_1_code 77 = .ok (.getfield 36, 3) := by decide +kernel
theorem d_Board_init_80 : decode prog_2_method_1_code 80 = .ok (.invokestatic 42, 3) := by decide +kernel
theorem d_Board_init_83 : decode prog_2_method_1_code 83 = .ok (.newarray .int, 2) := by decide +kernel
theorem d_Board_init_85 : decode prog_2_method_1_code 85 = .ok (.putfield 50, 3) := by decide +kernel
theorem d_Board_init_88 : decode prog_2_method_1_code 88 = .ok (.return_, 1) := by decide +kernel
set_option maxRecDepth 50000 in
theorem cd_Board_init : Cond.code y_Board_init prog_2_method_1_code 4 none ∈ TB := mem_TB 42 rfl rfl
theorem im_Board_init : Cond.instanceMethod y_Board_init ∈ TB := mem_TB 41 (by decide +kernel) (by decide +kernel)
theorem hd_Board_init : y_Board_init.cls ≠ "java/lang/invoke/MethodHandle" ∧ y_Board_init.cls ≠ "java/lang/invoke/VarHandle" ∧ (parseMethodDescriptor y_Board_init.desc).map (fun d => d.parameters.length) = some 3 := by decide +kernel
def y_Board_cells : MethodName := ⟨R_Board, "cells", "()I"⟩
abbrev ws_Board_cells : List Cond := .code y_Board_cells prog_2_method_2_code 1 (some .int) :: TB
theorem d_Board_cells_0 : decode prog_2_method_2_code 0 = .ok (.aload_n 0, 1) := by decide +kernel
theorem d_Board_cells_1 : decode prog_2_method_2_code 1 = .ok (.getfield 36, 3) := by decide +kernel
theorem d_Board_cells_4 : decode prog_2_method_2_code 4 = .ok (.aload_n 0, 1) := by decide +kernel
theorem d_Board_cells_5 : decode prog_2_method_2_code 5 = .ok (.getfield 39, 3) := by decide +kernel
theorem d_Board_cells_8 : decode prog_2_method_2_code 8 = .ok (.imul, 1) := by decide +kernel
theorem d_Board_cells_9 : decode prog_2_method_2_code 9 = .ok (.ireturn, 1) := by decide +kernel
set_option maxRecDepth 50000 in
theorem cd_Board_cells : Cond.code y_Board_cells prog_2_method_2_code 1 (some .int) ∈ TB := mem_TB 167 rfl rfl
theorem im_Board_cells : Cond.instanceMethod y_Board_cells ∈ TB := mem_TB 165 (by decide +kernel) (by decide +kernel)
theorem sl_Board_cells : Cond.selects R_Board y_Board_cells y_Board_cells ∈ TB := mem_TB 166 (by decide +kernel) (by decide +kernel)
theorem hd_Board_cells : y_Board_cells.cls ≠ "java/lang/invoke/MethodHandle" ∧ y_Board_cells.cls ≠ "java/lang/invoke/VarHandle" ∧ (parseMethodDescriptor y_Board_cells.desc).map (fun d => d.parameters.length) = some 0 := by decide +kernel
def y_Board_stepsOf : MethodName := ⟨R_Board, "stepsOf", "(I)I"⟩
abbrev ws_Board_stepsOf : List Cond := .code y_Board_stepsOf prog_2_method_3_code 2 (some .int) :: TB
theorem d_Board_stepsOf_0 : decode prog_2_method_3_code 0 = .ok (.iload_n 1, 1) := by decide +kernel
theorem d_Board_stepsOf_1 : decode prog_2_method_3_code 1 = .ok (.ifCond .ne 10, 3) := by decide +kernel
theorem d_Board_stepsOf_4 : decode prog_2_method_3_code 4 = .ok (.aload_n 0, 1) := by decide +kernel
theorem d_Board_stepsOf_5 : decode prog_2_method_3_code 5 = .ok (.getfield 36, 3) := by decide +kernel
theorem d_Board_stepsOf_8 : decode prog_2_method_3_code 8 = .ok (.goto 7, 3) := by decide +kernel
theorem d_Board_stepsOf_11 : decode prog_2_method_3_code 11 = .ok (.aload_n 0, 1) := by decide +kernel
theorem d_Board_stepsOf_12 : decode prog_2_method_3_code 12 = .ok (.getfield 39, 3) := by decide +kernel
theorem d_Board_stepsOf_15 : decode prog_2_method_3_code 15 = .ok (.ireturn, 1) := by decide +kernel
set_option maxRecDepth 50000 in
theorem cd_Board_stepsOf : Cond.code y_Board_stepsOf prog_2_method_3_code 2 (some .int) ∈ TB := mem_TB 569 rfl rfl
theorem im_Board_stepsOf : Cond.instanceMethod y_Board_stepsOf ∈ TB := mem_TB 567 (by decide +kernel) (by decide +kernel)
theorem sl_Board_stepsOf : Cond.selects R_Board y_Board_stepsOf y_Board_stepsOf ∈ TB := mem_TB 568 (by decide +kernel) (by decide +kernel)
theorem hd_Board_stepsOf : y_Board_stepsOf.cls ≠ "java/lang/invoke/MethodHandle" ∧ y_Board_stepsOf.cls ≠ "java/lang/invoke/VarHandle" ∧ (parseMethodDescriptor y_Board_stepsOf.desc).map (fun d => d.parameters.length) = some 1 := by decide +kernel
def y_Board_stepsHolding : MethodName := ⟨R_Board, "stepsHolding", "(I)I"⟩
abbrev ws_Board_stepsHolding : List Cond := .code y_Board_stepsHolding prog_2_method_4_code 2 (some .int) :: TB
theorem d_Board_stepsHolding_0 : decode prog_2_method_4_code 0 = .ok (.iload_n 1, 1) := by decide +kernel
theorem d_Board_stepsHolding_1 : decode prog_2_method_4_code 1 = .ok (.aload_n 0, 1) := by decide +kernel
theorem d_Board_stepsHolding_2 : decode prog_2_method_4_code 2 = .ok (.getfield 30, 3) := by decide +kernel
theorem d_Board_stepsHolding_5 : decode prog_2_method_4_code 5 = .ok (.iadd, 1) := by decide +kernel
theorem d_Board_stepsHolding_6 : decode prog_2_method_4_code 6 = .ok (.iconst 1, 1) := by decide +kernel
theorem d_Board_stepsHolding_7 : decode prog_2_method_4_code 7 = .ok (.isub, 1) := by decide +kernel
theorem d_Board_stepsHolding_8 : decode prog_2_method_4_code 8 = .ok (.aload_n 0, 1) := by decide +kernel
theorem d_Board_stepsHolding_9 : decode prog_2_method_4_code 9 = .ok (.getfield 30, 3) := by decide +kernel
theorem d_Board_stepsHolding_12 : decode prog_2_method_4_code 12 = .ok (.idiv, 1) := by decide +kernel
theorem d_Board_stepsHolding_13 : decode prog_2_method_4_code 13 = .ok (.ireturn, 1) := by decide +kernel
set_option maxRecDepth 50000 in
theorem cd_Board_stepsHolding : Cond.code y_Board_stepsHolding prog_2_method_4_code 2 (some .int) ∈ TB := mem_TB 444 rfl rfl
theorem im_Board_stepsHolding : Cond.instanceMethod y_Board_stepsHolding ∈ TB := mem_TB 442 (by decide +kernel) (by decide +kernel)
theorem sl_Board_stepsHolding : Cond.selects R_Board y_Board_stepsHolding y_Board_stepsHolding ∈ TB := mem_TB 443 (by decide +kernel) (by decide +kernel)
theorem hd_Board_stepsHolding : y_Board_stepsHolding.cls ≠ "java/lang/invoke/MethodHandle" ∧ y_Board_stepsHolding.cls ≠ "java/lang/invoke/VarHandle" ∧ (parseMethodDescriptor y_Board_stepsHolding.desc).map (fun d => d.parameters.length) = some 1 := by decide +kernel
def y_Board_addFault : MethodName := ⟨R_Board, "addFault", "(LFaultRips$Fault;)V"⟩
abbrev ws_Board_addFault : List Cond := .code y_Board_addFault prog_2_method_5_code 2 none :: TB
theorem d_Board_addFault_0 : decode prog_2_method_5_code 0 = .ok (.aload_n 0, 1) := by decide +kernel
theorem d_Board_addFault_1 : decode prog_2_method_5_code 1 = .ok (.getfield 17, 3) := by decide +kernel
theorem d_Board_addFault_4 : decode prog_2_method_5_code 4 = .ok (.bipush 20, 2) := by decide +kernel
theorem d_Board_addFault_6 : decode prog_2_method_5_code 6 = .ok (.if_icmp .ge 23, 3) := by decide +kernel
theorem d_Board_addFault_9 : decode prog_2_method_5_code 9 = .ok (.aload_n 0, 1) := by decide +kernel
theorem d_Board_addFault_10 : decode prog_2_method_5_code 10 = .ok (.getfield 11, 3) := by decide +kernel
theorem d_Board_addFault_13 : decode prog_2_method_5_code 13 = .ok (.aload_n 0, 1) := by decide +kernel
theorem d_Board_addFault_14 : decode prog_2_method_5_code 14 = .ok (.getfield 17, 3) := by decide +kernel
theorem d_Board_addFault_17 : decode prog_2_method_5_code 17 = .ok (.aload_n 1, 1) := by decide +kernel
theorem d_Board_addFault_18 : decode prog_2_method_5_code 18 = .ok (.aastore, 1) := by decide +kernel
theorem d_Board_addFault_19 : decode prog_2_method_5_code 19 = .ok (.aload_n 0, 1) := by decide +kernel
theorem d_Board_addFault_20 : decode prog_2_method_5_code 20 = .ok (.dup, 1) := by decide +kernel
theorem d_Board_addFault_21 : decode prog_2_method_5_code 21 = .ok (.getfield 17, 3) := by decide +kernel
theorem d_Board_addFault_24 : decode prog_2_method_5_code 24 = .ok (.iconst 1, 1) := by decide +kernel
theorem d_Board_addFault_25 : decode prog_2_method_5_code 25 = .ok (.iadd, 1) := by decide +kernel
theorem d_Board_addFault_26 : decode prog_2_method_5_code 26 = .ok (.putfield 17, 3) := by decide +kernel
theorem d_Board_addFault_29 : decode prog_2_method_5_code 29 = .ok (.return_, 1) := by decide +kernel
set_option maxRecDepth 50000 in
theorem cd_Board_addFault : Cond.code y_Board_addFault prog_2_method_5_code 2 none ∈ TB := mem_TB 429 rfl rfl
theorem im_Board_addFault : Cond.instanceMethod y_Board_addFault ∈ TB := mem_TB 427 (by decide +kernel) (by decide +kernel)
theorem sl_Board_addFault : Cond.selects R_Board y_Board_addFault y_Board_addFault ∈ TB := mem_TB 428 (by decide +kernel) (by decide +kernel)
theorem hd_Board_addFault : y_Board_addFault.cls ≠ "java/lang/invoke/MethodHandle" ∧ y_Board_addFault.cls ≠ "java/lang/invoke/VarHandle" ∧ (parseMethodDescriptor y_Board_addFault.desc).map (fun d => d.parameters.length) = some 1 := by decide +kernel
def y_Board_findMeetings : MethodName := ⟨R_Board, "findMeetings", "()V"⟩
abbrev ws_Board_findMeetings : List Cond := .code y_Board_findMeetings prog_2_method_6_code 1 none :: TB
theorem d_Board_findMeetings_0 : decode prog_2_method_6_code 0 = .ok (.aload_n 0, 1) := by decide +kernel
theorem d_Board_findMeetings_1 : decode prog_2_method_6_code 1 = .ok (.iconst 1, 1) := by decide +kernel
theorem d_Board_findMeetings_2 : decode prog_2_method_6_code 2 = .ok (.aload_n 0, 1) := by decide +kernel
theorem d_Board_findMeetings_3 : decode prog_2_method_6_code 3 = .ok (.getfield 46, 3) := by decide +kernel
theorem d_Board_findMeetings_6 : decode prog_2_method_6_code 6 = .ok (.invokevirtual 53, 3) := by decide +kernel
theorem d_Board_findMeetings_9 : decode prog_2_method_6_code 9 = .ok (.aload_n 0, 1) := by decide +kernel
theorem d_Board_findMeetings_10 : decode prog_2_method_6_code 10 = .ok (.iconst 0, 1) := by decide +kernel
theorem d_Board_findMeetings_11 : decode prog_2_method_6_code 11 = .ok (.aload_n 0, 1) := by decide +kernel
theorem d_Board_findMeetings_12 : decode prog_2_method_6_code 12 = .ok (.getfield 50, 3) := by decide +kernel
theorem d_Board_findMeetings_15 : decode prog_2_method_6_code 15 = .ok (.invokevirtual 53, 3) := by decide +kernel
theorem d_Board_findMeetings_18 : decode prog_2_method_6_code 18 = .ok (.return_, 1) := by decide +kernel
set_option maxRecDepth 50000 in
theorem cd_Board_findMeetings : Cond.code y_Board_findMeetings prog_2_method_6_code 1 none ∈ TB := mem_TB 561 rfl rfl
theorem im_Board_findMeetings : Cond.instanceMethod y_Board_findMeetings ∈ TB := mem_TB 559 (by decide +kernel) (by decide +kernel)
theorem sl_Board_findMeetings : Cond.selects R_Board y_Board_findMeetings y_Board_findMeetings ∈ TB := mem_TB 560 (by decide +kernel) (by decide +kernel)
theorem hd_Board_findMeetings : y_Board_findMeetings.cls ≠ "java/lang/invoke/MethodHandle" ∧ y_Board_findMeetings.cls ≠ "java/lang/invoke/VarHandle" ∧ (parseMethodDescriptor y_Board_findMeetings.desc).map (fun d => d.parameters.length) = some 0 := by decide +kernel
def y_Board_findAlong : MethodName := ⟨R_Board, "findAlong", "(I[I)V"⟩
abbrev ws_Board_findAlong : List Cond := .code y_Board_findAlong prog_2_method_7_code 6 none :: TB
theorem d_Board_findAlong_0 : decode prog_2_method_7_code 0 = .ok (.aload_n 0, 1) := by decide +kernel
theorem d_Board_findAlong_1 : decode prog_2_method_7_code 1 = .ok (.iload_n 1, 1) := by decide +kernel
theorem d_Board_findAlong_2 : decode prog_2_method_7_code 2 = .ok (.invokevirtual 57, 3) := by decide +kernel
theorem d_Board_findAlong_5 : decode prog_2_method_7_code 5 = .ok (.istore_n 3, 1) := by decide +kernel
theorem d_Board_findAlong_6 : decode prog_2_method_7_code 6 = .ok (.iconst 1, 1) := by decide +kernel
theorem d_Board_findAlong_7 : decode prog_2_method_7_code 7 = .ok (.istore 4, 2) := by decide +kernel
theorem d_Board_findAlong_9 : decode prog_2_method_7_code 9 = .ok (.iload 4, 2) := by decide +kernel
theorem d_Board_findAlong_11 : decode prog_2_method_7_code 11 = .ok (.iload_n 3, 1) := by decide +kernel
theorem d_Board_findAlong_12 : decode prog_2_method_7_code 12 = .ok (.if_icmp .gt 53, 3) := by decide +kernel
theorem d_Board_findAlong_15 : decode prog_2_method_7_code 15 = .ok (.iconst 0, 1) := by decide +kernel
theorem d_Board_findAlong_16 : decode prog_2_method_7_code 16 = .ok (.istore 5, 2) := by decide +kernel
theorem d_Board_findAlong_18 : decode prog_2_method_7_code 18 = .ok (.iload 5, 2) := by decide +kernel
theorem d_Board_findAlong_20 : decode prog_2_method_7_code 20 = .ok (.iload 4, 2) := by decide +kernel
theorem d_Board_findAlong_22 : decode prog_2_method_7_code 22 = .ok (.if_icmp .ge 37, 3) := by decide +kernel
theorem d_Board_findAlong_25 : decode prog_2_method_7_code 25 = .ok (.aload_n 2, 1) := by decide +kernel
theorem d_Board_findAlong_26 : decode prog_2_method_7_code 26 = .ok (.iload 5, 2) := by decide +kernel
theorem d_Board_findAlong_28 : decode prog_2_method_7_code 28 = .ok (.iload 4, 2) := by decide +kernel
theorem d_Board_findAlong_30 : decode prog_2_method_7_code 30 = .ok (.invokestatic 60, 3) := by decide +kernel
theorem d_Board_findAlong_33 : decode prog_2_method_7_code 33 = .ok (.aload_n 0, 1) := by decide +kernel
theorem d_Board_findAlong_34 : decode prog_2_method_7_code 34 = .ok (.iload_n 1, 1) := by decide +kernel
theorem d_Board_findAlong_35 : decode prog_2_method_7_code 35 = .ok (.iload 5, 2) := by decide +kernel
theorem d_Board_findAlong_37 : decode prog_2_method_7_code 37 = .ok (.aload_n 0, 1) := by decide +kernel
theorem d_Board_findAlong_38 : decode prog_2_method_7_code 38 = .ok (.getfield 30, 3) := by decide +kernel
theorem d_Board_findAlong_41 : decode prog_2_method_7_code 41 = .ok (.imul, 1) := by decide +kernel
theorem d_Board_findAlong_42 : decode prog_2_method_7_code 42 = .ok (.iload 4, 2) := by decide +kernel
theorem d_Board_findAlong_44 : decode prog_2_method_7_code 44 = .ok (.aload_n 0, 1) := by decide +kernel
theorem d_Board_findAlong_45 : decode prog_2_method_7_code 45 = .ok (.getfield 30, 3) := by decide +kernel
theorem d_Board_findAlong_48 : decode prog_2_method_7_code 48 = .ok (.imul, 1) := by decide +kernel
theorem d_Board_findAlong_49 : decode prog_2_method_7_code 49 = .ok (.invokevirtual 63, 3) := by decide +kernel
theorem d_Board_findAlong_52 : decode prog_2_method_7_code 52 = .ok (.iastore, 1) := by decide +kernel
theorem d_Board_findAlong_53 : decode prog_2_method_7_code 53 = .ok (.iinc 5 1, 3) := by decide +kernel
theorem d_Board_findAlong_56 : decode prog_2_method_7_code 56 = .ok (.goto (-38), 3) := by decide +kernel
theorem d_Board_findAlong_59 : decode prog_2_method_7_code 59 = .ok (.iinc 4 1, 3) := by decide +kernel
theorem d_Board_findAlong_62 : decode prog_2_method_7_code 62 = .ok (.goto (-53), 3) := by decide +kernel
theorem d_Board_findAlong_65 : decode prog_2_method_7_code 65 = .ok (.return_, 1) := by decide +kernel
set_option maxRecDepth 50000 in
theorem cd_Board_findAlong : Cond.code y_Board_findAlong prog_2_method_7_code 6 none ∈ TB := mem_TB 565 rfl rfl
theorem im_Board_findAlong : Cond.instanceMethod y_Board_findAlong ∈ TB := mem_TB 564 (by decide +kernel) (by decide +kernel)
theorem sl_Board_findAlong : Cond.selects R_Board y_Board_findAlong y_Board_findAlong ∈ TB := mem_TBs (by decide +kernel) (by decide +kernel)
theorem hd_Board_findAlong : y_Board_findAlong.cls ≠ "java/lang/invoke/MethodHandle" ∧ y_Board_findAlong.cls ≠ "java/lang/invoke/VarHandle" ∧ (parseMethodDescriptor y_Board_findAlong.desc).map (fun d => d.parameters.length) = some 2 := by decide +kernel
def y_Board_meeting : MethodName := ⟨R_Board, "meeting", "(III)I"⟩
abbrev ws_Board_meeting : List Cond := .code y_Board_meeting prog_2_method_8_code 6 (some .int) :: TB
theorem d_Board_meeting_0 : decode prog_2_method_8_code 0 = .ok (.iconst 0, 1) := by decide +kernel
theorem d_Board_meeting_1 : decode prog_2_method_8_code 1 = .ok (.istore 4, 2) := by decide +kernel
theorem d_Board_meeting_3 : decode prog_2_method_8_code 3 = .ok (.iconst 0, 1) := by decide +kernel
theorem d_Board_meeting_4 : decode prog_2_method_8_code 4 = .ok (.istore 5, 2) := by decide +kernel
theorem d_Board_meeting_6 : decode prog_2_method_8_code 6 = .ok (.iload 5, 2) := by decide +kernel
theorem d_Board_meeting_8 : decode prog_2_method_8_code 8 = .ok (.aload_n 0, 1) := by decide +kernel
theorem d_Board_meeting_9 : decode prog_2_method_8_code 9 = .ok (.getfield 17, 3) := by decide +kernel
theorem d_Board_meeting_12 : decode prog_2_method_8_code 12 = .ok (.if_icmp .ge 38, 3) := by decide +kernel
theorem d_Board_meeting_15 : decode prog_2_method_8_code 15 = .ok (.aload_n 0, 1) := by decide +kernel
theorem d_Board_meeting_16 : decode prog_2_method_8_code 16 = .ok (.getfield 11, 3) := by decide +kernel
theorem d_Board_meeting_19 : decode prog_2_method_8_code 19 = .ok (.iload 5, 2) := by decide +kernel
theorem d_Board_meeting_21 : decode prog_2_method_8_code 21 = .ok (.aaload, 1) := by decide +kernel
theorem d_Board_meeting_22 : decode prog_2_method_8_code 22 = .ok (.iload_n 1, 1) := by decide +kernel
theorem d_Board_meeting_23 : decode prog_2_method_8_code 23 = .ok (.iload_n 2, 1) := by decide +kernel
theorem d_Board_meeting_24 : decode prog_2_method_8_code 24 = .ok (.iload_n 3, 1) := by decide +kernel
theorem d_Board_meeting_25 : decode prog_2_method_8_code 25 = .ok (.aload_n 0, 1) := by decide +kernel
theorem d_Board_meeting_26 : decode prog_2_method_8_code 26 = .ok (.getfield 21, 3) := by decide +kernel
theorem d_Board_meeting_29 : decode prog_2_method_8_code 29 = .ok (.invokevirtual 67, 3) := by decide +kernel
theorem d_Board_meeting_32 : decode prog_2_method_8_code 32 = .ok (.ifCond .eq 12, 3) := by decide +kernel
theorem d_Board_meeting_35 : decode prog_2_method_8_code 35 = .ok (.iload 4, 2) := by decide +kernel
theorem d_Board_meeting_37 : decode prog_2_method_8_code 37 = .ok (.iconst 1, 1) := by decide +kernel
theorem d_Board_meeting_38 : decode prog_2_method_8_code 38 = .ok (.iload 5, 2) := by decide +kernel
theorem d_Board_meeting_40 : decode prog_2_method_8_code 40 = .ok (.ishl, 1) := by decide +kernel
theorem d_Board_meeting_41 : decode prog_2_method_8_code 41 = .ok (.ior, 1) := by decide +kernel
theorem d_Board_meeting_42 : decode prog_2_method_8_code 42 = .ok (.istore 4, 2) := by decide +kernel
theorem d_Board_meeting_44 : decode prog_2_method_8_code 44 = .ok (.iinc 5 1, 3) := by decide +kernel
theorem d_Board_meeting_47 : decode prog_2_method_8_code 47 = .ok (.goto (-41), 3) := by decide +kernel
theorem d_Board_meeting_50 : decode prog_2_method_8_code 50 = .ok (.iload 4, 2) := by decide +kernel
theorem d_Board_meeting_52 : decode prog_2_method_8_code 52 = .ok (.ireturn, 1) := by decide +kernel
set_option maxRecDepth 50000 in
theorem cd_Board_meeting : Cond.code y_Board_meeting prog_2_method_8_code 6 (some .int) ∈ TB := mem_TB 576 rfl rfl
theorem im_Board_meeting : Cond.instanceMethod y_Board_meeting ∈ TB := mem_TB 575 (by decide +kernel) (by decide +kernel)
theorem sl_Board_meeting : Cond.selects R_Board y_Board_meeting y_Board_meeting ∈ TB := mem_TBs (by decide +kernel) (by decide +kernel)
theorem hd_Board_meeting : y_Board_meeting.cls ≠ "java/lang/invoke/MethodHandle" ∧ y_Board_meeting.cls ≠ "java/lang/invoke/VarHandle" ∧ (parseMethodDescriptor y_Board_meeting.desc).map (fun d => d.parameters.length) = some 3 := by decide +kernel
def y_Board_faultsIn : MethodName := ⟨R_Board, "faultsIn", "(II)I"⟩
abbrev ws_Board_faultsIn : List Cond := .code y_Board_faultsIn prog_2_method_9_code 3 (some .int) :: TB
theorem d_Board_faultsIn_0 : decode prog_2_method_9_code 0 = .ok (.aload_n 0, 1) := by decide +kernel
theorem d_Board_faultsIn_1 : decode prog_2_method_9_code 1 = .ok (.getfield 46, 3) := by decide +kernel
theorem d_Board_faultsIn_4 : decode prog_2_method_9_code 4 = .ok (.iload_n 1, 1) := by decide +kernel
theorem d_Board_faultsIn_5 : decode prog_2_method_9_code 5 = .ok (.iaload, 1) := by decide +kernel
theorem d_Board_faultsIn_6 : decode prog_2_method_9_code 6 = .ok (.aload_n 0, 1) := by decide +kernel
theorem d_Board_faultsIn_7 : decode prog_2_method_9_code 7 = .ok (.getfield 50, 3) := by decide +kernel
theorem d_Board_faultsIn_10 : decode prog_2_method_9_code 10 = .ok (.iload_n 2, 1) := by decide +kernel
theorem d_Board_faultsIn_11 : decode prog_2_method_9_code 11 = .ok (.iaload, 1) := by decide +kernel
theorem d_Board_faultsIn_12 : decode prog_2_method_9_code 12 = .ok (.iand, 1) := by decide +kernel
theorem d_Board_faultsIn_13 : decode prog_2_method_9_code 13 = .ok (.ireturn, 1) := by decide +kernel
set_option maxRecDepth 50000 in
theorem cd_Board_faultsIn : Cond.code y_Board_faultsIn prog_2_method_9_code 3 (some .int) ∈ TB := mem_TB 643 rfl rfl
theorem im_Board_faultsIn : Cond.instanceMethod y_Board_faultsIn ∈ TB := mem_TB 641 (by decide +kernel) (by decide +kernel)
theorem sl_Board_faultsIn : Cond.selects R_Board y_Board_faultsIn y_Board_faultsIn ∈ TB := mem_TB 642 (by decide +kernel) (by decide +kernel)
theorem hd_Board_faultsIn : y_Board_faultsIn.cls ≠ "java/lang/invoke/MethodHandle" ∧ y_Board_faultsIn.cls ≠ "java/lang/invoke/VarHandle" ∧ (parseMethodDescriptor y_Board_faultsIn.desc).map (fun d => d.parameters.length) = some 2 := by decide +kernel
def y_Fault_init : MethodName := ⟨R_Fault, "<init>", "(IIIIII)V"⟩
abbrev ws_Fault_init : List Cond := .code y_Fault_init prog_4_method_1_code 7 none :: TB
theorem d_Fault_init_0 : decode prog_4_method_1_code 0 = .ok (.aload_n 0, 1) := by decide +kernel
theorem d_Fault_init_1 : decode prog_4_method_1_code 1 = .ok (.invokespecial 3, 3) := by decide +kernel
theorem d_Fault_init_4 : decode prog_4_method_1_code 4 = .ok (.aload_n 0, 1) := by decide +kernel
theorem d_Fault_init_5 : decode prog_4_method_1_code 5 = .ok (.iload_n 1, 1) := by decide +kernel
theorem d_Fault_init_6 : decode prog_4_method_1_code 6 = .ok (.putfield 9, 3) := by decide +kernel
theorem d_Fault_init_9 : decode prog_4_method_1_code 9 = .ok (.aload_n 0, 1) := by decide +kernel
theorem d_Fault_init_10 : decode prog_4_method_1_code 10 = .ok (.iload_n 2, 1) := by decide +kernel
theorem d_Fault_init_11 : decode prog_4_method_1_code 11 = .ok (.putfield 15, 3) := by decide +kernel
theorem d_Fault_init_14 : decode prog_4_method_1_code 14 = .ok (.aload_n 0, 1) := by decide +kernel
theorem d_Fault_init_15 : decode prog_4_method_1_code 15 = .ok (.iload_n 3, 1) := by decide +kernel
theorem d_Fault_init_16 : decode prog_4_method_1_code 16 = .ok (.putfield 18, 3) := by decide +kernel
theorem d_Fault_init_19 : decode prog_4_method_1_code 19 = .ok (.aload_n 0, 1) := by decide +kernel
theorem d_Fault_init_20 : decode prog_4_method_1_code 20 = .ok (.iload 4, 2) := by decide +kernel
theorem d_Fault_init_22 : decode prog_4_method_1_code 22 = .ok (.putfield 21, 3) := by decide +kernel
theorem d_Fault_init_25 : decode prog_4_method_1_code 25 = .ok (.aload_n 0, 1) := by decide +kernel
theorem d_Fault_init_26 : decode prog_4_method_1_code 26 = .ok (.iload 5, 2) := by decide +kernel
theorem d_Fault_init_28 : decode prog_4_method_1_code 28 = .ok (.putfield 24, 3) := by decide +kernel
theorem d_Fault_init_31 : decode prog_4_method_1_code 31 = .ok (.aload_n 0, 1) := by decide +kernel
theorem d_Fault_init_32 : decode prog_4_method_1_code 32 = .ok (.iload 6, 2) := by decide +kernel
theorem d_Fault_init_34 : decode prog_4_method_1_code 34 = .ok (.putfield 27, 3) := by decide +kernel
theorem d_Fault_init_37 : decode prog_4_method_1_code 37 = .ok (.return_, 1) := by decide +kernel
set_option maxRecDepth 50000 in
theorem cd_Fault_init : Cond.code y_Fault_init prog_4_method_1_code 7 none ∈ TB := mem_TB 403 rfl rfl
theorem im_Fault_init : Cond.instanceMethod y_Fault_init ∈ TB := mem_TB 402 (by decide +kernel) (by decide +kernel)
theorem hd_Fault_init : y_Fault_init.cls ≠ "java/lang/invoke/MethodHandle" ∧ y_Fault_init.cls ≠ "java/lang/invoke/VarHandle" ∧ (parseMethodDescriptor y_Fault_init.desc).map (fun d => d.parameters.length) = some 6 := by decide +kernel
def y_Fault_meets : MethodName := ⟨R_Fault, "meets", "(IIII)Z"⟩
abbrev ws_Fault_meets : List Cond := .code y_Fault_meets prog_4_method_2_code 7 (some .boolean) :: TB
theorem d_Fault_meets_0 : decode prog_4_method_2_code 0 = .ok (.iload_n 1, 1) := by decide +kernel
theorem d_Fault_meets_1 : decode prog_4_method_2_code 1 = .ok (.ifCond .ne 10, 3) := by decide +kernel
theorem d_Fault_meets_4 : decode prog_4_method_2_code 4 = .ok (.aload_n 0, 1) := by decide +kernel
theorem d_Fault_meets_5 : decode prog_4_method_2_code 5 = .ok (.getfield 21, 3) := by decide +kernel
theorem d_Fault_meets_8 : decode prog_4_method_2_code 8 = .ok (.goto 7, 3) := by decide +kernel
theorem d_Fault_meets_11 : decode prog_4_method_2_code 11 = .ok (.aload_n 0, 1) := by decide +kernel
theorem d_Fault_meets_12 : decode prog_4_method_2_code 12 = .ok (.getfield 18, 3) := by decide +kernel
theorem d_Fault_meets_15 : decode prog_4_method_2_code 15 = .ok (.istore 5, 2) := by decide +kernel
theorem d_Fault_meets_17 : decode prog_4_method_2_code 17 = .ok (.iload_n 1, 1) := by decide +kernel
theorem d_Fault_meets_18 : decode prog_4_method_2_code 18 = .ok (.ifCond .ne 10, 3) := by decide +kernel
theorem d_Fault_meets_21 : decode prog_4_method_2_code 21 = .ok (.aload_n 0, 1) := by decide +kernel
theorem d_Fault_meets_22 : decode prog_4_method_2_code 22 = .ok (.getfield 27, 3) := by decide +kernel
theorem d_Fault_meets_25 : decode prog_4_method_2_code 25 = .ok (.goto 7, 3) := by decide +kernel
theorem d_Fault_meets_28 : decode prog_4_method_2_code 28 = .ok (.aload_n 0, 1) := by decide +kernel
theorem d_Fault_meets_29 : decode prog_4_method_2_code 29 = .ok (.getfield 24, 3) := by decide +kernel
theorem d_Fault_meets_32 : decode prog_4_method_2_code 32 = .ok (.istore 6, 2) := by decide +kernel
theorem d_Fault_meets_34 : decode prog_4_method_2_code 34 = .ok (.iload 5, 2) := by decide +kernel
theorem d_Fault_meets_36 : decode prog_4_method_2_code 36 = .ok (.iload 4, 2) := by decide +kernel
theorem d_Fault_meets_38 : decode prog_4_method_2_code 38 = .ok (.isub, 1) := by decide +kernel
theorem d_Fault_meets_39 : decode prog_4_method_2_code 39 = .ok (.iload_n 3, 1) := by decide +kernel
theorem d_Fault_meets_40 : decode prog_4_method_2_code 40 = .ok (.if_icmp .ge 19, 3) := by decide +kernel
theorem d_Fault_meets_43 : decode prog_4_method_2_code 43 = .ok (.iload 5, 2) := by decide +kernel
theorem d_Fault_meets_45 : decode prog_4_method_2_code 45 = .ok (.iload 6, 2) := by decide +kernel
theorem d_Fault_meets_47 : decode prog_4_method_2_code 47 = .ok (.iadd, 1) := by decide +kernel
theorem d_Fault_meets_48 : decode prog_4_method_2_code 48 = .ok (.iload 4, 2) := by decide +kernel
theorem d_Fault_meets_50 : decode prog_4_method_2_code 50 = .ok (.iadd, 1) := by decide +kernel
theorem d_Fault_meets_51 : decode prog_4_method_2_code 51 = .ok (.iload_n 2, 1) := by decide +kernel
theorem d_Fault_meets_52 : decode prog_4_method_2_code 52 = .ok (.if_icmp .le 7, 3) := by decide +kernel
theorem d_Fault_meets_55 : decode prog_4_method_2_code 55 = .ok (.iconst 1, 1) := by decide +kernel
theorem d_Fault_meets_56 : decode prog_4_method_2_code 56 = .ok (.goto 4, 3) := by decide +kernel
theorem d_Fault_meets_59 : decode prog_4_method_2_code 59 = .ok (.iconst 0, 1) := by decide +kernel
theorem d_Fault_meets_60 : decode prog_4_method_2_code 60 = .ok (.ireturn, 1) := by decide +kernel
set_option maxRecDepth 50000 in
theorem cd_Fault_meets : Cond.code y_Fault_meets prog_4_method_2_code 7 (some .boolean) ∈ TB := mem_TB 580 rfl rfl
theorem im_Fault_meets : Cond.instanceMethod y_Fault_meets ∈ TB := mem_TB 578 (by decide +kernel) (by decide +kernel)
theorem sl_Fault_meets : Cond.selects R_Fault y_Fault_meets y_Fault_meets ∈ TB := mem_TB 579 (by decide +kernel) (by decide +kernel)
theorem hd_Fault_meets : y_Fault_meets.cls ≠ "java/lang/invoke/MethodHandle" ∧ y_Fault_meets.cls ≠ "java/lang/invoke/VarHandle" ∧ (parseMethodDescriptor y_Fault_meets.desc).map (fun d => d.parameters.length) = some 4 := by decide +kernel
def y_Rips_spanOf : MethodName := ⟨R_Rips, "spanOf", "(II)I"⟩
abbrev ws_Rips_spanOf : List Cond := .code y_Rips_spanOf prog_1_method_25_code 2 (some .int) :: TB
theorem d_Rips_spanOf_0 : decode prog_1_method_25_code 0 = .ok (.iload_n 1, 1) := by decide +kernel
theorem d_Rips_spanOf_1 : decode prog_1_method_25_code 1 = .ok (.iload_n 1, 1) := by decide +kernel
theorem d_Rips_spanOf_2 : decode prog_1_method_25_code 2 = .ok (.iconst 1, 1) := by decide +kernel
theorem d_Rips_spanOf_3 : decode prog_1_method_25_code 3 = .ok (.isub, 1) := by decide +kernel
theorem d_Rips_spanOf_4 : decode prog_1_method_25_code 4 = .ok (.imul, 1) := by decide +kernel
theorem d_Rips_spanOf_5 : decode prog_1_method_25_code 5 = .ok (.iconst 2, 1) := by decide +kernel
theorem d_Rips_spanOf_6 : decode prog_1_method_25_code 6 = .ok (.idiv, 1) := by decide +kernel
theorem d_Rips_spanOf_7 : decode prog_1_method_25_code 7 = .ok (.iload_n 0, 1) := by decide +kernel
theorem d_Rips_spanOf_8 : decode prog_1_method_25_code 8 = .ok (.iadd, 1) := by decide +kernel
theorem d_Rips_spanOf_9 : decode prog_1_method_25_code 9 = .ok (.ireturn, 1) := by decide +kernel
set_option maxRecDepth 50000 in
theorem cd_Rips_spanOf : Cond.code y_Rips_spanOf prog_1_method_25_code 2 (some .int) ∈ TB := mem_TB 572 rfl rfl
theorem st_Rips_spanOf : Cond.static y_Rips_spanOf ∈ TB := mem_TB 571 (by decide +kernel) (by decide +kernel)
theorem hd_Rips_spanOf : y_Rips_spanOf.cls ≠ "java/lang/invoke/MethodHandle" ∧ y_Rips_spanOf.cls ≠ "java/lang/invoke/VarHandle" ∧ (parseMethodDescriptor y_Rips_spanOf.desc).map (fun d => d.parameters.length) = some 2 := by decide +kernel
def y_Rips_spansOf : MethodName := ⟨R_Rips, "spansOf", "(I)I"⟩
abbrev ws_Rips_spansOf : List Cond := .code y_Rips_spansOf prog_1_method_26_code 1 (some .int) :: TB
theorem d_Rips_spansOf_0 : decode prog_1_method_26_code 0 = .ok (.iload_n 0, 1) := by decide +kernel
theorem d_Rips_spansOf_1 : decode prog_1_method_26_code 1 = .ok (.iload_n 0, 1) := by decide +kernel
theorem d_Rips_spansOf_2 : decode prog_1_method_26_code 2 = .ok (.iconst 1, 1) := by decide +kernel
theorem d_Rips_spansOf_3 : decode prog_1_method_26_code 3 = .ok (.iadd, 1) := by decide +kernel
theorem d_Rips_spansOf_4 : decode prog_1_method_26_code 4 = .ok (.imul, 1) := by decide +kernel
theorem d_Rips_spansOf_5 : decode prog_1_method_26_code 5 = .ok (.iconst 2, 1) := by decide +kernel
theorem d_Rips_spansOf_6 : decode prog_1_method_26_code 6 = .ok (.idiv, 1) := by decide +kernel
theorem d_Rips_spansOf_7 : decode prog_1_method_26_code 7 = .ok (.ireturn, 1) := by decide +kernel
set_option maxRecDepth 50000 in
theorem cd_Rips_spansOf : Cond.code y_Rips_spansOf prog_1_method_26_code 1 (some .int) ∈ TB := mem_TB 50 rfl rfl
theorem st_Rips_spansOf : Cond.static y_Rips_spansOf ∈ TB := mem_TB 49 (by decide +kernel) (by decide +kernel)
theorem hd_Rips_spansOf : y_Rips_spansOf.cls ≠ "java/lang/invoke/MethodHandle" ∧ y_Rips_spansOf.cls ≠ "java/lang/invoke/VarHandle" ∧ (parseMethodDescriptor y_Rips_spansOf.desc).map (fun d => d.parameters.length) = some 1 := by decide +kernel
theorem fl_Fault_18 : Cond.fieldLink R_Fault 18 "FaultRips$Fault" "x" "I" ∈ TB := mem_TB 409 (by decide +kernel) (by decide +kernel)
theorem fl_Fault_21 : Cond.fieldLink R_Fault 21 "FaultRips$Fault" "y" "I" ∈ TB := mem_TB 410 (by decide +kernel) (by decide +kernel)
theorem fl_Fault_24 : Cond.fieldLink R_Fault 24 "FaultRips$Fault" "w" "I" ∈ TB := mem_TB 411 (by decide +kernel) (by decide +kernel)
theorem fl_Fault_27 : Cond.fieldLink R_Fault 27 "FaultRips$Fault" "h" "I" ∈ TB := mem_TB 412 (by decide +kernel) (by decide +kernel)
