def y_Board_init : MethodName := ⟨R_Board, "<init>", "(III)V"⟩
abbrev ws_Board_init : List Cond := .code y_Board_init prog_2_method_1_code 4 none :: TB
theorem d_Board_init_0 : decode prog_2_method_1_code 0 = .ok (.aload_n 0, 1) := by decide +kernel
theorem d_Board_init_1 : decode prog_2_method_1_code 1 = .ok (.invokespecial 3, 3) := by decide +kernel
theorem d_Board_init_4 : decode prog_2_method_1_code 4 = .ok (.aload_n 0, 1) := by decide +kernel
theorem d_Board_init_5 : decode prog_2_method_1_code 5 = .ok (.bipush 20, 2) := by decide +kernel
theorem d_Board_init_7 : decode prog_2_method_1_code 7 = .ok (.anewarray 9, 3) := by decide +kernel
theorem d_Board_init_10 : decode prog_2_method_1_code 10 = .ok (.putfield 11, 3) := by decide +kernel
theorem d_Board_init_13 : decode prog_2_method_1_code 13 = .ok (.aload_n 0, 1) := by decide +kernel
theorem d_Board_init_14 : decode prog_2_method_1_code 14 = .ok (.iconst 0, 1) := by decide +kernel
theorem d_Board_init_15 : decode prog_2_method_1_code 15 = .ok (.putfield 17, 3) := by decide +kernel
theorem d_Board_init_18 : decode prog_2_method_1_code 18 = .ok (.aload_n 0, 1) := by decide +kernel
theorem d_Board_init_19 : decode prog_2_method_1_code 19 = .ok (.iconst 0, 1) := by decide +kernel
theorem d_Board_init_20 : decode prog_2_method_1_code 20 = .ok (.putfield 21, 3) := by decide +kernel
theorem d_Board_init_23 : decode prog_2_method_1_code 23 = .ok (.aload_n 0, 1) := by decide +kernel
theorem d_Board_init_24 : decode prog_2_method_1_code 24 = .ok (.iconst 1, 1) := by decide +kernel
theorem d_Board_init_25 : decode prog_2_method_1_code 25 = .ok (.iload_n 3, 1) := by decide +kernel
theorem d_Board_init_26 : decode prog_2_method_1_code 26 = .ok (.invokestatic 24, 3) := by decide +kernel
theorem d_Board_init_29 : decode prog_2_method_1_code 29 = .ok (.putfield 30, 3) := by decide +kernel
theorem d_Board_init_32 : decode prog_2_method_1_code 32 = .ok (.aload_n 0, 1) := by decide +kernel
theorem d_Board_init_33 : decode prog_2_method_1_code 33 = .ok (.bipush 10, 2) := by decide +kernel
theorem d_Board_init_35 : decode prog_2_method_1_code 35 = .ok (.iload_n 1, 1) := by decide +kernel
theorem d_Board_init_36 : decode prog_2_method_1_code 36 = .ok (.aload_n 0, 1) := by decide +kernel
theorem d_Board_init_37 : decode prog_2_method_1_code 37 = .ok (.getfield 30, 3) := by decide +kernel
theorem d_Board_init_40 : decode prog_2_method_1_code 40 = .ok (.idiv, 1) := by decide +kernel
theorem d_Board_init_41 : decode prog_2_method_1_code 41 = .ok (.invokestatic 33, 3) := by decide +kernel
theorem d_Board_init_44 : decode prog_2_method_1_code 44 = .ok (.putfield 36, 3) := by decide +kernel
theorem d_Board_init_47 : decode prog_2_method_1_code 47 = .ok (.aload_n 0, 1) := by decide +kernel
theorem d_Board_init_48 : decode prog_2_method_1_code 48 = .ok (.bipush 24, 2) := by decide +kernel
theorem d_Board_init_50 : decode prog_2_method_1_code 50 = .ok (.iload_n 2, 1) := by decide +kernel
theorem d_Board_init_51 : decode prog_2_method_1_code 51 = .ok (.aload_n 0, 1) := by decide +kernel
theorem d_Board_init_52 : decode prog_2_method_1_code 52 = .ok (.getfield 30, 3) := by decide +kernel
theorem d_Board_init_55 : decode prog_2_method_1_code 55 = .ok (.idiv, 1) := by decide +kernel
theorem d_Board_init_56 : decode prog_2_method_1_code 56 = .ok (.invokestatic 33, 3) := by decide +kernel
theorem d_Board_init_59 : decode prog_2_method_1_code 59 = .ok (.putfield 39, 3) := by decide +kernel
theorem d_Board_init_62 : decode prog_2_method_1_code 62 = .ok (.aload_n 0, 1) := by decide +kernel
theorem d_Board_init_63 : decode prog_2_method_1_code 63 = .ok (.aload_n 0, 1) := by decide +kernel
theorem d_Board_init_64 : decode prog_2_method_1_code 64 = .ok (.getfield 39, 3) := by decide +kernel
theorem d_Board_init_67 : decode prog_2_method_1_code 67 = .ok (.invokestatic 42, 3) := by decide +kernel
theorem d_Board_init_70 : decode prog_2_method_1_code 70 = .ok (.newarray .int, 2) := by decide +kernel
theorem d_Board_init_72 : decode prog_2_method_1_code 72 = .ok (.putfield 46, 3) := by decide +kernel
theorem d_Board_init_75 : decode prog_2_method_1_code 75 = .ok (.aload_n 0, 1) := by decide +kernel
theorem d_Board_init_76 : decode prog_2_method_1_code 76 = .ok (.aload_n 0, 1) := by decide +kernel
theorem d_Board_init_77 : decode prog_2_method_1_code 77 = .ok (.getfield 36, 3) := by decide +kernel
theorem d_Board_init_80 : decode prog_2_method_1_code 80 = .ok (.invokestatic 42, 3) := by decide +kernel
theorem d_Board_init_83 : decode prog_2_method_1_code 83 = .ok (.newarray .int, 2) := by decide +kernel
theorem d_Board_init_85 : decode prog_2_method_1_code 85 = .ok (.putfield 50, 3) := by decide +kernel
theorem d_Board_init_88 : decode prog_2_method_1_code 88 = .ok (.return_, 1) := by decide +kernel
set_option maxRecDepth 50000 in
theorem cd_Board_init : Cond.code y_Board_init prog_2_method_1_code 4 none ∈ TB := mem_TB 42 rfl rfl
theorem im_Board_init : Cond.instanceMethod y_Board_init ∈ TB := mem_TB 41 (by decide +kernel) (by decide +kernel)
theorem hd_Board_init : y_Board_init.cls ≠ "java/lang/invoke/MethodHandle" ∧ y_Board_init.cls ≠ "java/lang/invoke/VarHandle" ∧ (parseMethodDescriptor y_Board_init.desc).map (fun d => d.parameters.length) = some 3 := by decide +kernel
def y_Board_cells : MethodName := ⟨R_Board, "cells", "()I"⟩
abbrev ws_Board_cells : List Cond := .code y_Board_cells prog_2_method_2_code 1 (some .int) :: TB
theorem d_Board_cells_0 : decode prog_2_method_2_code 0 = .ok (.aload_n 0, 1) := by decide +kernel
theorem d_Board_cells_1 : decode prog_2_method_2_code 1 = .ok (.getfield 36, 3) := by decide +kernel
theorem d_Board_cells_4 : decode prog_2_method_2_code 4 = .ok (.aload_n 0, 1) := by decide +kernel
theorem d_Board_cells_5 : decode prog_2_method_2_code 5 = .ok (.getfield 39, 3) := by decide +kernel
theorem d_Board_cells_8 : decode prog_2_method_2_code 8 = .ok (.imul, 1) := by decide +kernel
theorem d_Board_cells_9 : decode prog_2_method_2_code 9 = .ok (.ireturn, 1) := by decide +kernel
set_option maxRecDepth 50000 in
theorem cd_Board_cells : Cond.code y_Board_cells prog_2_method_2_code 1 (some .int) ∈ TB := mem_TB 167 rfl rfl
theorem im_Board_cells : Cond.instanceMethod y_Board_cells ∈ TB := mem_TB 165 (by decide +kernel) (by decide +kernel)
theorem sl_Board_cells : Cond.selects R_Board y_Board_cells y_Board_cells ∈ TB := mem_TB 166 (by decide +kernel) (by decide +kernel)
theorem hd_Board_cells : y_Board_cells.cls ≠ "java/lang/invoke/MethodHandle" ∧ y_Board_cells.cls ≠ "java/lang/invoke/VarHandle" ∧ (parseMethodDescriptor y_Board_cells.desc).map (fun d => d.parameters.length) = some 0 := by decide +kernel
def y_Board_stepsOf : MethodName := ⟨R_Board, "stepsOf", "(I)I"⟩
abbrev ws_Board_stepsOf : List Cond := .code y_Board_stepsOf prog_2_method_3_code 2 (some .int) :: TB
theorem d_Board_stepsOf_0 : decode prog_2_method_3_code 0 = .ok (.iload_n 1, 1) := by decide +kernel
theorem d_Board_stepsOf_1 : decode prog_2_method_3_code 1 = .ok (.ifCond .ne 10, 3) := by decide +kernel
theorem d_Board_stepsOf_4 : decode prog_2_method_3_code 4 = .ok (.aload_n 0, 1) := by decide +kernel
theorem d_Board_stepsOf_5 : decode prog_2_method_3_code 5 = .ok (.getfield 36, 3) := by decide +kernel
theorem d_Board_stepsOf_8 : decode prog_2_method_3_code 8 = .ok (.goto 7, 3) := by decide +kernel
theorem d_Board_stepsOf_11 : decode prog_2_method_3_code 11 = .ok (.aload_n 0, 1) := by decide +kernel
theorem d_Board_stepsOf_12 : decode prog_2_method_3_code 12 = .ok (.getfield 39, 3) := by decide +kernel
theorem d_Board_stepsOf_15 : decode prog_2_method_3_code 15 = .ok (.ireturn, 1) := by decide +kernel
set_option maxRecDepth 50000 in
theorem cd_Board_stepsOf : Cond.code y_Board_stepsOf prog_2_method_3_code 2 (some .int) ∈ TB := mem_TB 569 rfl rfl
theorem im_Board_stepsOf : Cond.instanceMethod y_Board_stepsOf ∈ TB := mem_TB 567 (by decide +kernel) (by decide +kernel)
theorem sl_Board_stepsOf : Cond.selects R_Board y_Board_stepsOf y_Board_stepsOf ∈ TB := mem_TB 568 (by decide +kernel) (by decide +kernel)
theorem hd_Board_stepsOf : y_Board_stepsOf.cls ≠ "java/lang/invoke/MethodHandle" ∧ y_Board_stepsOf.cls ≠ "java/lang/invoke/VarHandle" ∧ (parseMethodDescriptor y_Board_stepsOf.desc).map (fun d => d.parameters.length) = some 1 := by decide +kernel
def y_Board_stepsHolding : MethodName := ⟨R_Board, "stepsHolding", "(I)I"⟩
abbrev ws_Board_stepsHolding : List Cond := .code y_Board_stepsHolding prog_2_method_4_code 2 (some .int) :: TB
theorem d_Board_stepsHolding_0 : decode prog_2_method_4_code 0 = .ok (.iload_n 1, 1) := by decide +kernel
theorem d_Board_stepsHolding_1 : decode prog_2_method_4_code 1 = .ok (.aload_n 0, 1) := by decide +kernel
theorem d_Board_stepsHolding_2 : decode prog_2_method_4_code 2 = .ok (.getfield 30, 3) := by decide +kernel
theorem d_Board_stepsHolding_5 : decode prog_2_method_4_code 5 = .ok (.iadd, 1) := by decide +kernel
theorem d_Board_stepsHolding_6 : decode prog_2_method_4_code 6 = .ok (.iconst 1, 1) := by decide +kernel
theorem d_Board_stepsHolding_7 : decode prog_2_method_4_code 7 = .ok (.isub, 1) := by decide +kernel
theorem d_Board_stepsHolding_8 : decode prog_2_method_4_code 8 = .ok (.aload_n 0, 1) := by decide +kernel
theorem d_Board_stepsHolding_9 : decode prog_2_method_4_code 9 = .ok (.getfield 30, 3) := by decide +kernel
theorem d_Board_stepsHolding_12 : decode prog_2_method_4_code 12 = .ok (.idiv, 1) := by decide +kernel
theorem d_Board_stepsHolding_13 : decode prog_2_method_4_code 13 = .ok (.ireturn, 1) := by decide +kernel
set_option maxRecDepth 50000 in
theorem cd_Board_stepsHolding : Cond.code y_Board_stepsHolding prog_2_method_4_code 2 (some .int) ∈ TB := mem_TB 444 rfl rfl
theorem im_Board_stepsHolding : Cond.instanceMethod y_Board_stepsHolding ∈ TB := mem_TB 442 (by decide +kernel) (by decide +kernel)
theorem sl_Board_stepsHolding : Cond.selects R_Board y_Board_stepsHolding y_Board_stepsHolding ∈ TB := mem_TB 443 (by decide +kernel) (by decide +kernel)
theorem hd_Board_stepsHolding : y_Board_stepsHolding.cls ≠ "java/lang/invoke/MethodHandle" ∧ y_Board_stepsHolding.cls ≠ "java/lang/invoke/VarHandle" ∧ (parseMethodDescriptor y_Board_stepsHolding.desc).map (fun d => d.parameters.length) = some 1 := by decide +kernel
def y_Board_addFault : MethodName := ⟨R_Board, "addFault", "(LFaultRips$Fault;)V"⟩
abbrev ws_Board_addFault : List Cond := .code y_Board_addFault prog_2_method_5_code 2 none :: TB
theorem d_Board_addFault_0 : decode prog_2_method_5_code 0 = .ok (.aload_n 0, 1) := by decide +kernel
theorem d_Board_addFault_1 : decode prog_2_method_5_code 1 = .ok (.getfield 17, 3) := by decide +kernel
theorem d_Board_addFault_4 : decode prog_2_method_5_code 4 = .ok (.bipush 20, 2) := by decide +kernel
theorem d_Board_addFault_6 : decode prog_2_method_5_code 6 = .ok (.if_icmp .ge 23, 3) := by decide +kernel
theorem d_Board_addFault_9 : decode prog_2_method_5_code 9 = .ok (.aload_n 0, 1) := by decide +kernel
theorem d_Board_addFault_10 : decode prog_2_method_5_code 10 = .ok (.getfield 11, 3) := by decide +kernel
theorem d_Board_addFault_13 : decode prog_2_method_5_code 13 = .ok (.aload_n 0, 1) := by decide +kernel
theorem d_Board_addFault_14 : decode prog_2_method_5_code 14 = .ok (.getfield 17, 3) := by decide +kernel
theorem d_Board_addFault_17 : decode prog_2_method_5_code 17 = .ok (.aload_n 1, 1) := by decide +kernel
theorem d_Board_addFault_18 : decode prog_2_method_5_code 18 = .ok (.aastore, 1) := by decide +kernel
theorem d_Board_addFault_19 : decode prog_2_method_5_code 19 = .ok (.aload_n 0, 1) := by decide +kernel
theorem d_Board_addFault_20 : decode prog_2_method_5_code 20 = .ok (.dup, 1) := by decide +kernel
theorem d_Board_addFault_21 : decode prog_2_method_5_code 21 = .ok (.getfield 17, 3) := by decide +kernel
theorem d_Board_addFault_24 : decode prog_2_method_5_code 24 = .ok (.iconst 1, 1) := by decide +kernel
theorem d_Board_addFault_25 : decode prog_2_method_5_code 25 = .ok (.iadd, 1) := by decide +kernel
theorem d_Board_addFault_26 : decode prog_2_method_5_code 26 = .ok (.putfield 17, 3) := by decide +kernel
theorem d_Board_addFault_29 : decode prog_2_method_5_code 29 = .ok (.return_, 1) := by decide +kernel
set_option maxRecDepth 50000 in
theorem cd_Board_addFault : Cond.code y_Board_addFault prog_2_method_5_code 2 none ∈ TB := mem_TB 429 rfl rfl
theorem im_Board_addFault : Cond.instanceMethod y_Board_addFault ∈ TB := mem_TB 427 (by decide +kernel) (by decide +kernel)
theorem sl_Board_addFault : Cond.selects R_Board y_Board_addFault y_Board_addFault ∈ TB := mem_TB 428 (by decide +kernel) (by decide +kernel)
theorem hd_Board_addFault : y_Board_addFault.cls ≠ "java/lang/invoke/MethodHandle" ∧ y_Board_addFault.cls ≠ "java/lang/invoke/VarHandle" ∧ (parseMethodDescriptor y_Board_addFault.desc).map (fun d => d.parameters.length) = some 1 := by decide +kernel
def y_Board_findMeetings : MethodName := ⟨R_Board, "findMeetings", "()V"⟩
abbrev ws_Board_findMeetings : List Cond := .code y_Board_findMeetings prog_2_method_6_code 1 none :: TB
theorem d_Board_findMeetings_0 : decode prog_2_method_6_code 0 = .ok (.aload_n 0, 1) := by decide +kernel
theorem d_Board_findMeetings_1 : decode prog_2_method_6_code 1 = .ok (.iconst 1, 1) := by decide +kernel
theorem d_Board_findMeetings_2 : decode prog_2_method_6_code 2 = .ok (.aload_n 0, 1) := by decide +kernel
theorem d_Board_findMeetings_3 : decode prog_2_method_6_code 3 = .ok (.getfield 46, 3) := by decide +kernel
theorem d_Board_findMeetings_6 : decode prog_2_method_6_code 6 = .ok (.invokevirtual 53, 3) := by decide +kernel
theorem d_Board_findMeetings_9 : decode prog_2_method_6_code 9 = .ok (.aload_n 0, 1) := by decide +kernel
theorem d_Board_findMeetings_10 : decode prog_2_method_6_code 10 = .ok (.iconst 0, 1) := by decide +kernel
theorem d_Board_findMeetings_11 : decode prog_2_method_6_code 11 = .ok (.aload_n 0, 1) := by decide +kernel
theorem d_Board_findMeetings_12 : decode prog_2_method_6_code 12 = .ok (.getfield 50, 3) := by decide +kernel
theorem d_Board_findMeetings_15 : decode prog_2_method_6_code 15 = .ok (.invokevirtual 53, 3) := by decide +kernel
theorem d_Board_findMeetings_18 : decode prog_2_method_6_code 18 = .ok (.return_, 1) := by decide +kernel
set_option maxRecDepth 50000 in
theorem cd_Board_findMeetings : Cond.code y_Board_findMeetings prog_2_method_6_code 1 none ∈ TB := mem_TB 561 rfl rfl
theorem im_Board_findMeetings : Cond.instanceMethod y_Board_findMeetings ∈ TB := mem_TB 559 (by decide +kernel) (by decide +kernel)
theorem sl_Board_findMeetings : Cond.selects R_Board y_Board_findMeetings y_Board_findMeetings ∈ TB := mem_TB 560 (by decide +kernel) (by decide +kernel)
theorem hd_Board_findMeetings : y_Board_findMeetings.cls ≠ "java/lang/invoke/MethodHandle" ∧ y_Board_findMeetings.cls ≠ "java/lang/invoke/VarHandle" ∧ (parseMethodDescriptor y_Board_findMeetings.desc).map (fun d => d.parameters.length) = some 0 := by decide +kernel
def y_Board_findAlong : MethodName := ⟨R_Board, "findAlong", "(I[I)V"⟩
abbrev ws_Board_findAlong : List Cond := .code y_Board_findAlong prog_2_method_7_code 6 none :: TB
theorem d_Board_findAlong_0 : decode prog_2_method_7_code 0 = .ok (.aload_n 0, 1) := by decide +kernel
theorem d_Board_findAlong_1 : decode prog_2_method_7_code 1 = .ok (.iload_n 1, 1) := by decide +kernel
theorem d_Board_findAlong_2 : decode prog_2_method_7_code 2 = .ok (.invokevirtual 57, 3) := by decide +kernel
theorem d_Board_findAlong_5 : decode prog_2_method_7_code 5 = .ok (.istore_n 3, 1) := by decide +kernel
theorem d_Board_findAlong_6 : decode prog_2_method_7_code 6 = .ok (.iconst 1, 1) := by decide +kernel
theorem d_Board_findAlong_7 : decode prog_2_method_7_code 7 = .ok (.istore 4, 2) := by decide +kernel
theorem d_Board_findAlong_9 : decode prog_2_method_7_code 9 = .ok (.iload 4, 2) := by decide +kernel
theorem d_Board_findAlong_11 : decode prog_2_method_7_code 11 = .ok (.iload_n 3, 1) := by decide +kernel
theorem d_Board_findAlong_12 : decode prog_2_method_7_code 12 = .ok (.if_icmp .gt 53, 3) := by decide +kernel
theorem d_Board_findAlong_15 : decode prog_2_method_7_code 15 = .ok (.iconst 0, 1) := by decide +kernel
theorem d_Board_findAlong_16 : decode prog_2_method_7_code 16 = .ok (.istore 5, 2) := by decide +kernel
theorem d_Board_findAlong_18 : decode prog_2_method_7_code 18 = .ok (.iload 5, 2) := by decide +kernel
theorem d_Board_findAlong_20 : decode prog_2_method_7_code 20 = .ok (.iload 4, 2) := by decide +kernel
theorem d_Board_findAlong_22 : decode prog_2_method_7_code 22 = .ok (.if_icmp .ge 37, 3) := by decide +kernel
theorem d_Board_findAlong_25 : decode prog_2_method_7_code 25 = .ok (.aload_n 2, 1) := by decide +kernel
theorem d_Board_findAlong_26 : decode prog_2_method_7_code 26 = .ok (.iload 5, 2) := by decide +kernel
theorem d_Board_findAlong_28 : decode prog_2_method_7_code 28 = .ok (.iload 4, 2) := by decide +kernel
theorem d_Board_findAlong_30 : decode prog_2_method_7_code 30 = .ok (.invokestatic 60, 3) := by decide +kernel
theorem d_Board_findAlong_33 : decode prog_2_method_7_code 33 = .ok (.aload_n 0, 1) := by decide +kernel
theorem d_Board_findAlong_34 : decode prog_2_method_7_code 34 = .ok (.iload_n 1, 1) := by decide +kernel
theorem d_Board_findAlong_35 : decode prog_2_method_7_code 35 = .ok (.iload 5, 2) := by decide +kernel
theorem d_Board_findAlong_37 : decode prog_2_method_7_code 37 = .ok (.aload_n 0, 1) := by decide +kernel
theorem d_Board_findAlong_38 : decode prog_2_method_7_code 38 = .ok (.getfield 30, 3) := by decide +kernel
theorem d_Board_findAlong_41 : decode prog_2_method_7_code 41 = .ok (.imul, 1) := by decide +kernel
theorem d_Board_findAlong_42 : decode prog_2_method_7_code 42 = .ok (.iload 4, 2) := by decide +kernel
theorem d_Board_findAlong_44 : decode prog_2_method_7_code 44 = .ok (.aload_n 0, 1) := by decide +kernel
theorem d_Board_findAlong_45 : decode prog_2_method_7_code 45 = .ok (.getfield 30, 3) := by decide +kernel
theorem d_Board_findAlong_48 : decode prog_2_method_7_code 48 = .ok (.imul, 1) := by decide +kernel
theorem d_Board_findAlong_49 : decode prog_2_method_7_code 49 = .ok (.invokevirtual 63, 3) := by decide +kernel
theorem d_Board_findAlong_52 : decode prog_2_method_7_code 52 = .ok (.iastore, 1) := by decide +kernel
theorem d_Board_findAlong_53 : decode prog_2_method_7_code 53 = .ok (.iinc 5 1, 3) := by decide +kernel
theorem d_Board_findAlong_56 : decode prog_2_method_7_code 56 = .ok (.goto (-38), 3) := by decide +kernel
theorem d_Board_findAlong_59 : decode prog_2_method_7_code 59 = .ok (.iinc 4 1, 3) := by decide +kernel
theorem d_Board_findAlong_62 : decode prog_2_method_7_code 62 = .ok (.goto (-53), 3) := by decide +kernel
theorem d_Board_findAlong_65 : decode prog_2_method_7_code 65 = .ok (.return_, 1) := by decide +kernel
set_option maxRecDepth 50000 in
theorem cd_Board_findAlong : Cond.code y_Board_findAlong prog_2_method_7_code 6 none ∈ TB := mem_TB 565 rfl rfl
theorem im_Board_findAlong : Cond.instanceMethod y_Board_findAlong ∈ TB := mem_TB 564 (by decide +kernel) (by decide +kernel)
theorem sl_Board_findAlong : Cond.selects R_Board y_Board_findAlong y_Board_findAlong ∈ TB := mem_TBs (by decide +kernel) (by decide +kernel)
theorem hd_Board_findAlong : y_Board_findAlong.cls ≠ "java/lang/invoke/MethodHandle" ∧ y_Board_findAlong.cls ≠ "java/lang/invoke/VarHandle" ∧ (parseMethodDescriptor y_Board_findAlong.desc).map (fun d => d.parameters.length) = some 2 := by decide +kernel
def y_Board_meeting : MethodName := ⟨R_Board, "meeting", "(III)I"⟩
abbrev ws_Board_meeting : List Cond := .code y_Board_meeting prog_2_method_8_code 6 (some .int) :: TB
theorem d_Board_meeting_0 : decode prog_2_method_8_code 0 = .ok (.iconst 0, 1) := by decide +kernel
theorem d_Board_meeting_1 : decode prog_2_method_8_code 1 = .ok (.istore 4, 2) := by decide +kernel
theorem d_Board_meeting_3 : decode prog_2_method_8_code 3 = .ok (.iconst 0, 1) := by decide +kernel
theorem d_Board_meeting_4 : decode prog_2_method_8_code 4 = .ok (.istore 5, 2) := by decide +kernel
theorem d_Board_meeting_6 : decode prog_2_method_8_code 6 = .ok (.iload 5, 2) := by decide +kernel
theorem d_Board_meeting_8 : decode prog_2_method_8_code 8 = .ok (.aload_n 0, 1) := by decide +kernel
theorem d_Board_meeting_9 : decode prog_2_method_8_code 9 = .ok (.getfield 17, 3) := by decide +kernel
theorem d_Board_meeting_12 : decode prog_2_method_8_code 12 = .ok (.if_icmp .ge 38, 3) := by decide +kernel
theorem d_Board_meeting_15 : decode prog_2_method_8_code 15 = .ok (.aload_n 0, 1) := by decide +kernel
theorem d_Board_meeting_16 : decode prog_2_method_8_code 16 = .ok (.getfield 11, 3) := by decide +kernel
theorem d_Board_meeting_19 : decode prog_2_method_8_code 19 = .ok (.iload 5, 2) := by decide +kernel
theorem d_Board_meeting_21 : decode prog_2_method_8_code 21 = .ok (.aaload, 1) := by decide +kernel
theorem d_Board_meeting_22 : decode prog_2_method_8_code 22 = .ok (.iload_n 1, 1) := by decide +kernel
theorem d_Board_meeting_23 : decode prog_2_method_8_code 23 = .ok (.iload_n 2, 1) := by decide +kernel
theorem d_Board_meeting_24 : decode prog_2_method_8_code 24 = .ok (.iload_n 3, 1) := by decide +kernel
theorem d_Board_meeting_25 : decode prog_2_method_8_code 25 = .ok (.aload_n 0, 1) := by decide +kernel
theorem d_Board_meeting_26 : decode prog_2_method_8_code 26 = .ok (.getfield 21, 3) := by decide +kernel
theorem d_Board_meeting_29 : decode prog_2_method_8_code 29 = .ok (.invokevirtual 67, 3) := by decide +kernel
theorem d_Board_meeting_32 : decode prog_2_method_8_code 32 = .ok (.ifCond .eq 12, 3) := by decide +kernel
theorem d_Board_meeting_35 : decode prog_2_method_8_code 35 = .ok (.iload 4, 2) := by decide +kernel
theorem d_Board_meeting_37 : decode prog_2_method_8_code 37 = .ok (.iconst 1, 1) := by decide +kernel
theorem d_Board_meeting_38 : decode prog_2_method_8_code 38 = .ok (.iload 5, 2) := by decide +kernel
theorem d_Board_meeting_40 : decode prog_2_method_8_code 40 = .ok (.ishl, 1) := by decide +kernel
theorem d_Board_meeting_41 : decode prog_2_method_8_code 41 = .ok (.ior, 1) := by decide +kernel
theorem d_Board_meeting_42 : decode prog_2_method_8_code 42 = .ok (.istore 4, 2) := by decide +kernel
theorem d_Board_meeting_44 : decode prog_2_method_8_code 44 = .ok (.iinc 5 1, 3) := by decide +kernel
theorem d_Board_meeting_47 : decode prog_2_method_8_code 47 = .ok (.goto (-41), 3) := by decide +kernel
theorem d_Board_meeting_50 : decode prog_2_method_8_code 50 = .ok (.iload 4, 2) := by decide +kernel
theorem d_Board_meeting_52 : decode prog_2_method_8_code 52 = .ok (.ireturn, 1) := by decide +kernel
set_option maxRecDepth 50000 in
theorem cd_Board_meeting : Cond.code y_Board_meeting prog_2_method_8_code 6 (some .int) ∈ TB := mem_TB 576 rfl rfl
theorem im_Board_meeting : Cond.instanceMethod y_Board_meeting ∈ TB := mem_TB 575 (by decide +kernel) (by decide +kernel)
theorem sl_Board_meeting : Cond.selects R_Board y_Board_meeting y_Board_meeting ∈ TB := mem_TBs (by decide +kernel) (by decide +kernel)
theorem hd_Board_meeting : y_Board_meeting.cls ≠ "java/lang/invoke/MethodHandle" ∧ y_Board_meeting.cls ≠ "java/lang/invoke/VarHandle" ∧ (parseMethodDescriptor y_Board_meeting.desc).map (fun d => d.parameters.length) = some 3 := by decide +kernel
def y_Board_faultsIn : MethodName := ⟨R_Board, "faultsIn", "(II)I"⟩
abbrev ws_Board_faultsIn : List Cond := .code y_Board_faultsIn prog_2_method_9_code 3 (some .int) :: TB
theorem d_Board_faultsIn_0 : decode prog_2_method_9_code 0 = .ok (.aload_n 0, 1) := by decide +kernel
theorem d_Board_faultsIn_1 : decode prog_2_method_9_code 1 = .ok (.getfield 46, 3) := by decide +kernel
theorem d_Board_faultsIn_4 : decode prog_2_method_9_code 4 = .ok (.iload_n 1, 1) := by decide +kernel
theorem d_Board_faultsIn_5 : decode prog_2_method_9_code 5 = .ok (.iaload, 1) := by decide +kernel
theorem d_Board_faultsIn_6 : decode prog_2_method_9_code 6 = .ok (.aload_n 0, 1) := by decide +kernel
theorem d_Board_faultsIn_7 : decode prog_2_method_9_code 7 = .ok (.getfield 50, 3) := by decide +kernel
theorem d_Board_faultsIn_10 : decode prog_2_method_9_code 10 = .ok (.iload_n 2, 1) := by decide +kernel
theorem d_Board_faultsIn_11 : decode prog_2_method_9_code 11 = .ok (.iaload, 1) := by decide +kernel
theorem d_Board_faultsIn_12 : decode prog_2_method_9_code 12 = .ok (.iand, 1) := by decide +kernel
theorem d_Board_faultsIn_13 : decode prog_2_method_9_code 13 = .ok (.ireturn, 1) := by decide +kernel
set_option maxRecDepth 50000 in
theorem cd_Board_faultsIn : Cond.code y_Board_faultsIn prog_2_method_9_code 3 (some .int) ∈ TB := mem_TB 643 rfl rfl
theorem im_Board_faultsIn : Cond.instanceMethod y_Board_faultsIn ∈ TB := mem_TB 641 (by decide +kernel) (by decide +kernel)
theorem sl_Board_faultsIn : Cond.selects R_Board y_Board_faultsIn y_Board_faultsIn ∈ TB := mem_TB 642 (by decide +kernel) (by decide +kernel)
theorem hd_Board_faultsIn : y_Board_faultsIn.cls ≠ "java/lang/invoke/MethodHandle" ∧ y_Board_faultsIn.cls ≠ "java/lang/invoke/VarHandle" ∧ (parseMethodDescriptor y_Board_faultsIn.desc).map (fun d => d.parameters.length) = some 2 := by decide +kernel
def y_Cutter_init : MethodName := ⟨R_Cutter, "<init>", "(LFaultRips$Board;LFaultRips$Sorts;)V"⟩
abbrev ws_Cutter_init : List Cond := .code y_Cutter_init prog_3_method_1_code 3 none :: TB
theorem d_Cutter_init_0 : decode prog_3_method_1_code 0 = .ok (.aload_n 0, 1) := by decide +kernel
theorem d_Cutter_init_1 : decode prog_3_method_1_code 1 = .ok (.invokespecial 3, 3) := by decide +kernel
theorem d_Cutter_init_4 : decode prog_3_method_1_code 4 = .ok (.aload_n 0, 1) := by decide +kernel
theorem d_Cutter_init_5 : decode prog_3_method_1_code 5 = .ok (.iconst 4, 1) := by decide +kernel
theorem d_Cutter_init_6 : decode prog_3_method_1_code 6 = .ok (.iconst 0, 1) := by decide +kernel
theorem d_Cutter_init_7 : decode prog_3_method_1_code 7 = .ok (.multianewarray 9 2, 4) := by decide +kernel
theorem d_Cutter_init_11 : decode prog_3_method_1_code 11 = .ok (.putfield 11, 3) := by decide +kernel
theorem d_Cutter_init_14 : decode prog_3_method_1_code 14 = .ok (.aload_n 0, 1) := by decide +kernel
theorem d_Cutter_init_15 : decode prog_3_method_1_code 15 = .ok (.bipush 25, 2) := by decide +kernel
theorem d_Cutter_init_17 : decode prog_3_method_1_code 17 = .ok (.newarray .long, 2) := by decide +kernel
theorem d_Cutter_init_19 : decode prog_3_method_1_code 19 = .ok (.putfield 16, 3) := by decide +kernel
theorem d_Cutter_init_22 : decode prog_3_method_1_code 22 = .ok (.aload_n 0, 1) := by decide +kernel
theorem d_Cutter_init_23 : decode prog_3_method_1_code 23 = .ok (.iconst 0, 1) := by decide +kernel
theorem d_Cutter_init_24 : decode prog_3_method_1_code 24 = .ok (.putfield 20, 3) := by decide +kernel
theorem d_Cutter_init_27 : decode prog_3_method_1_code 27 = .ok (.aload_n 0, 1) := by decide +kernel
theorem d_Cutter_init_28 : decode prog_3_method_1_code 28 = .ok (.iconst 0, 1) := by decide +kernel
theorem d_Cutter_init_29 : decode prog_3_method_1_code 29 = .ok (.putfield 24, 3) := by decide +kernel
theorem d_Cutter_init_32 : decode prog_3_method_1_code 32 = .ok (.aload_n 0, 1) := by decide +kernel
theorem d_Cutter_init_33 : decode prog_3_method_1_code 33 = .ok (.iconst 0, 1) := by decide +kernel
theorem d_Cutter_init_34 : decode prog_3_method_1_code 34 = .ok (.putfield 27, 3) := by decide +kernel
theorem d_Cutter_init_37 : decode prog_3_method_1_code 37 = .ok (.aload_n 0, 1) := by decide +kernel
theorem d_Cutter_init_38 : decode prog_3_method_1_code 38 = .ok (.aload_n 1, 1) := by decide +kernel
theorem d_Cutter_init_39 : decode prog_3_method_1_code 39 = .ok (.putfield 30, 3) := by decide +kernel
theorem d_Cutter_init_42 : decode prog_3_method_1_code 42 = .ok (.aload_n 0, 1) := by decide +kernel
theorem d_Cutter_init_43 : decode prog_3_method_1_code 43 = .ok (.aload_n 2, 1) := by decide +kernel
theorem d_Cutter_init_44 : decode prog_3_method_1_code 44 = .ok (.putfield 34, 3) := by decide +kernel
theorem d_Cutter_init_47 : decode prog_3_method_1_code 47 = .ok (.aload_n 0, 1) := by decide +kernel
theorem d_Cutter_init_48 : decode prog_3_method_1_code 48 = .ok (.aload_n 1, 1) := by decide +kernel
theorem d_Cutter_init_49 : decode prog_3_method_1_code 49 = .ok (.getfield 38, 3) := by decide +kernel
theorem d_Cutter_init_52 : decode prog_3_method_1_code 52 = .ok (.invokestatic 43, 3) := by decide +kernel
theorem d_Cutter_init_55 : decode prog_3_method_1_code 55 = .ok (.putfield 47, 3) := by decide +kernel
theorem d_Cutter_init_58 : decode prog_3_method_1_code 58 = .ok (.return_, 1) := by decide +kernel
set_option maxRecDepth 50000 in
theorem cd_Cutter_init : Cond.code y_Cutter_init prog_3_method_1_code 3 none ∈ TB := mem_TB 132 rfl rfl
theorem im_Cutter_init : Cond.instanceMethod y_Cutter_init ∈ TB := mem_TB 131 (by decide +kernel) (by decide +kernel)
theorem hd_Cutter_init : y_Cutter_init.cls ≠ "java/lang/invoke/MethodHandle" ∧ y_Cutter_init.cls ≠ "java/lang/invoke/VarHandle" ∧ (parseMethodDescriptor y_Cutter_init.desc).map (fun d => d.parameters.length) = some 2 := by decide +kernel
def y_Cutter_cutBoard : MethodName := ⟨R_Cutter, "cutBoard", "(IILFaultRips$Gang;LFaultRips$Plan;)V"⟩
abbrev ws_Cutter_cutBoard : List Cond := .code y_Cutter_cutBoard prog_3_method_2_code 6 none :: TB
theorem d_Cutter_cutBoard_0 : decode prog_3_method_2_code 0 = .ok (.aload 4, 2) := by decide +kernel
theorem d_Cutter_cutBoard_2 : decode prog_3_method_2_code 2 = .ok (.invokevirtual 50, 3) := by decide +kernel
theorem d_Cutter_cutBoard_5 : decode prog_3_method_2_code 5 = .ok (.aload_n 0, 1) := by decide +kernel
theorem d_Cutter_cutBoard_6 : decode prog_3_method_2_code 6 = .ok (.getfield 30, 3) := by decide +kernel
theorem d_Cutter_cutBoard_9 : decode prog_3_method_2_code 9 = .ok (.invokevirtual 55, 3) := by decide +kernel
theorem d_Cutter_cutBoard_12 : decode prog_3_method_2_code 12 = .ok (.ifCond .eq 13, 3) := by decide +kernel
theorem d_Cutter_cutBoard_15 : decode prog_3_method_2_code 15 = .ok (.iload_n 2, 1) := by decide +kernel
theorem d_Cutter_cutBoard_16 : decode prog_3_method_2_code 16 = .ok (.iconst 1, 1) := by decide +kernel
theorem d_Cutter_cutBoard_17 : decode prog_3_method_2_code 17 = .ok (.if_icmp .lt 8, 3) := by decide +kernel
theorem d_Cutter_cutBoard_20 : decode prog_3_method_2_code 20 = .ok (.iload_n 2, 1) := by decide +kernel
theorem d_Cutter_cutBoard_21 : decode prog_3_method_2_code 21 = .ok (.iconst 3, 1) := by decide +kernel
theorem d_Cutter_cutBoard_22 : decode prog_3_method_2_code 22 = .ok (.if_icmp .le 4, 3) := by decide +kernel
theorem d_Cutter_cutBoard_25 : decode prog_3_method_2_code 25 = .ok (.return_, 1) := by decide +kernel
theorem d_Cutter_cutBoard_26 : decode prog_3_method_2_code 26 = .ok (.aload_n 0, 1) := by decide +kernel
theorem d_Cutter_cutBoard_27 : decode prog_3_method_2_code 27 = .ok (.iload_n 1, 1) := by decide +kernel
theorem d_Cutter_cutBoard_28 : decode prog_3_method_2_code 28 = .ok (.putfield 20, 3) := by decide +kernel
theorem d_Cutter_cutBoard_31 : decode prog_3_method_2_code 31 = .ok (.aload_n 0, 1) := by decide +kernel
theorem d_Cutter_cutBoard_32 : decode prog_3_method_2_code 32 = .ok (.iload_n 2, 1) := by decide +kernel
theorem d_Cutter_cutBoard_33 : decode prog_3_method_2_code 33 = .ok (.putfield 24, 3) := by decide +kernel
theorem d_Cutter_cutBoard_36 : decode prog_3_method_2_code 36 = .ok (.aload_n 0, 1) := by decide +kernel
theorem d_Cutter_cutBoard_37 : decode prog_3_method_2_code 37 = .ok (.iload_n 1, 1) := by decide +kernel
theorem d_Cutter_cutBoard_38 : decode prog_3_method_2_code 38 = .ok (.aload_n 3, 1) := by decide +kernel
theorem d_Cutter_cutBoard_39 : decode prog_3_method_2_code 39 = .ok (.invokestatic 59, 3) := by decide +kernel
theorem d_Cutter_cutBoard_42 : decode prog_3_method_2_code 42 = .ok (.putfield 27, 3) := by decide +kernel
theorem d_Cutter_cutBoard_45 : decode prog_3_method_2_code 45 = .ok (.aload_n 0, 1) := by decide +kernel
theorem d_Cutter_cutBoard_46 : decode prog_3_method_2_code 46 = .ok (.invokevirtual 63, 3) := by decide +kernel
theorem d_Cutter_cutBoard_49 : decode prog_3_method_2_code 49 = .ok (.aload_n 0, 1) := by decide +kernel
theorem d_Cutter_cutBoard_50 : decode prog_3_method_2_code 50 = .ok (.invokevirtual 66, 3) := by decide +kernel
theorem d_Cutter_cutBoard_53 : decode prog_3_method_2_code 53 = .ok (.iconst 1, 1) := by decide +kernel
theorem d_Cutter_cutBoard_54 : decode prog_3_method_2_code 54 = .ok (.istore 5, 2) := by decide +kernel
theorem d_Cutter_cutBoard_56 : decode prog_3_method_2_code 56 = .ok (.iload 5, 2) := by decide +kernel
theorem d_Cutter_cutBoard_58 : decode prog_3_method_2_code 58 = .ok (.aload_n 0, 1) := by decide +kernel
theorem d_Cutter_cutBoard_59 : decode prog_3_method_2_code 59 = .ok (.getfield 24, 3) := by decide +kernel
theorem d_Cutter_cutBoard_62 : decode prog_3_method_2_code 62 = .ok (.if_icmp .gt 15, 3) := by decide +kernel
theorem d_Cutter_cutBoard_65 : decode prog_3_method_2_code 65 = .ok (.aload_n 0, 1) := by decide +kernel
theorem d_Cutter_cutBoard_66 : decode prog_3_method_2_code 66 = .ok (.iload 5, 2) := by decide +kernel
theorem d_Cutter_cutBoard_68 : decode prog_3_method_2_code 68 = .ok (.invokevirtual 69, 3) := by decide +kernel
theorem d_Cutter_cutBoard_71 : decode prog_3_method_2_code 71 = .ok (.iinc 5 1, 3) := by decide +kernel
theorem d_Cutter_cutBoard_74 : decode prog_3_method_2_code 74 = .ok (.goto (-18), 3) := by decide +kernel
theorem d_Cutter_cutBoard_77 : decode prog_3_method_2_code 77 = .ok (.aload_n 0, 1) := by decide +kernel
theorem d_Cutter_cutBoard_78 : decode prog_3_method_2_code 78 = .ok (.aload 4, 2) := by decide +kernel
theorem d_Cutter_cutBoard_80 : decode prog_3_method_2_code 80 = .ok (.aload_n 0, 1) := by decide +kernel
theorem d_Cutter_cutBoard_81 : decode prog_3_method_2_code 81 = .ok (.getfield 24, 3) := by decide +kernel
theorem d_Cutter_cutBoard_84 : decode prog_3_method_2_code 84 = .ok (.iconst 0, 1) := by decide +kernel
theorem d_Cutter_cutBoard_85 : decode prog_3_method_2_code 85 = .ok (.aload_n 0, 1) := by decide +kernel
theorem d_Cutter_cutBoard_86 : decode prog_3_method_2_code 86 = .ok (.getfield 30, 3) := by decide +kernel
theorem d_Cutter_cutBoard_89 : decode prog_3_method_2_code 89 = .ok (.getfield 38, 3) := by decide +kernel
theorem d_Cutter_cutBoard_92 : decode prog_3_method_2_code 92 = .ok (.iconst 0, 1) := by decide +kernel
theorem d_Cutter_cutBoard_93 : decode prog_3_method_2_code 93 = .ok (.aload_n 0, 1) := by decide +kernel
theorem d_Cutter_cutBoard_94 : decode prog_3_method_2_code 94 = .ok (.getfield 30, 3) := by decide +kernel
theorem d_Cutter_cutBoard_97 : decode prog_3_method_2_code 97 = .ok (.getfield 73, 3) := by decide +kernel
theorem d_Cutter_cutBoard_100 : decode prog_3_method_2_code 100 = .ok (.invokevirtual 76, 3) := by decide +kernel
theorem d_Cutter_cutBoard_103 : decode prog_3_method_2_code 103 = .ok (.return_, 1) := by decide +kernel
set_option maxRecDepth 50000 in
theorem cd_Cutter_cutBoard : Cond.code y_Cutter_cutBoard prog_3_method_2_code 6 none ∈ TB := mem_TB 595 rfl rfl
theorem im_Cutter_cutBoard : Cond.instanceMethod y_Cutter_cutBoard ∈ TB := mem_TB 593 (by decide +kernel) (by decide +kernel)
theorem sl_Cutter_cutBoard : Cond.selects R_Cutter y_Cutter_cutBoard y_Cutter_cutBoard ∈ TB := mem_TB 594 (by decide +kernel) (by decide +kernel)
theorem hd_Cutter_cutBoard : y_Cutter_cutBoard.cls ≠ "java/lang/invoke/MethodHandle" ∧ y_Cutter_cutBoard.cls ≠ "java/lang/invoke/VarHandle" ∧ (parseMethodDescriptor y_Cutter_cutBoard.desc).map (fun d => d.parameters.length) = some 4 := by decide +kernel
def y_Cutter_stepsFor : MethodName := ⟨R_Cutter, "stepsFor", "(ILFaultRips$Gang;)I"⟩
abbrev ws_Cutter_stepsFor : List Cond := .code y_Cutter_stepsFor prog_3_method_3_code 5 (some .int) :: TB
theorem d_Cutter_stepsFor_0 : decode prog_3_method_3_code 0 = .ok (.iconst 0, 1) := by decide +kernel
theorem d_Cutter_stepsFor_1 : decode prog_3_method_3_code 1 = .ok (.istore_n 2, 1) := by decide +kernel
theorem d_Cutter_stepsFor_2 : decode prog_3_method_3_code 2 = .ok (.iload_n 0, 1) := by decide +kernel
theorem d_Cutter_stepsFor_3 : decode prog_3_method_3_code 3 = .ok (.ifCond .ne 8, 3) := by decide +kernel
theorem d_Cutter_stepsFor_6 : decode prog_3_method_3_code 6 = .ok (.bipush 10, 2) := by decide +kernel
theorem d_Cutter_stepsFor_8 : decode prog_3_method_3_code 8 = .ok (.goto 5, 3) := by decide +kernel
theorem d_Cutter_stepsFor_11 : decode prog_3_method_3_code 11 = .ok (.bipush 24, 2) := by decide +kernel
theorem d_Cutter_stepsFor_13 : decode prog_3_method_3_code 13 = .ok (.istore_n 3, 1) := by decide +kernel
theorem d_Cutter_stepsFor_14 : decode prog_3_method_3_code 14 = .ok (.iconst 1, 1) := by decide +kernel
theorem d_Cutter_stepsFor_15 : decode prog_3_method_3_code 15 = .ok (.istore 4, 2) := by decide +kernel
theorem d_Cutter_stepsFor_17 : decode prog_3_method_3_code 17 = .ok (.iload 4, 2) := by decide +kernel
theorem d_Cutter_stepsFor_19 : decode prog_3_method_3_code 19 = .ok (.iload_n 3, 1) := by decide +kernel
theorem d_Cutter_stepsFor_20 : decode prog_3_method_3_code 20 = .ok (.if_icmp .gt 29, 3) := by decide +kernel
theorem d_Cutter_stepsFor_23 : decode prog_3_method_3_code 23 = .ok (.iload_n 0, 1) := by decide +kernel
theorem d_Cutter_stepsFor_24 : decode prog_3_method_3_code 24 = .ok (.ifCond .ne 12, 3) := by decide +kernel
theorem d_Cutter_stepsFor_27 : decode prog_3_method_3_code 27 = .ok (.aload_n 1, 1) := by decide +kernel
theorem d_Cutter_stepsFor_28 : decode prog_3_method_3_code 28 = .ok (.iload 4, 2) := by decide +kernel
theorem d_Cutter_stepsFor_30 : decode prog_3_method_3_code 30 = .ok (.invokevirtual 80, 3) := by decide +kernel
theorem d_Cutter_stepsFor_33 : decode prog_3_method_3_code 33 = .ok (.ifCond .eq 10, 3) := by decide +kernel
theorem d_Cutter_stepsFor_36 : decode prog_3_method_3_code 36 = .ok (.iload_n 2, 1) := by decide +kernel
theorem d_Cutter_stepsFor_37 : decode prog_3_method_3_code 37 = .ok (.iconst 1, 1) := by decide +kernel
theorem d_Cutter_stepsFor_38 : decode prog_3_method_3_code 38 = .ok (.iload 4, 2) := by decide +kernel
theorem d_Cutter_stepsFor_40 : decode prog_3_method_3_code 40 = .ok (.ishl, 1) := by decide +kernel
theorem d_Cutter_stepsFor_41 : decode prog_3_method_3_code 41 = .ok (.ior, 1) := by decide +kernel
theorem d_Cutter_stepsFor_42 : decode prog_3_method_3_code 42 = .ok (.istore_n 2, 1) := by decide +kernel
theorem d_Cutter_stepsFor_43 : decode prog_3_method_3_code 43 = .ok (.iinc 4 1, 3) := by decide +kernel
theorem d_Cutter_stepsFor_46 : decode prog_3_method_3_code 46 = .ok (.goto (-29), 3) := by decide +kernel
theorem d_Cutter_stepsFor_49 : decode prog_3_method_3_code 49 = .ok (.iload_n 2, 1) := by decide +kernel
theorem d_Cutter_stepsFor_50 : decode prog_3_method_3_code 50 = .ok (.ireturn, 1) := by decide +kernel
set_option maxRecDepth 50000 in
theorem cd_Cutter_stepsFor : Cond.code y_Cutter_stepsFor prog_3_method_3_code 5 (some .int) ∈ TB := mem_TB 606 rfl rfl
theorem st_Cutter_stepsFor : Cond.static y_Cutter_stepsFor ∈ TB := mem_TB 605 (by decide +kernel) (by decide +kernel)
theorem hd_Cutter_stepsFor : y_Cutter_stepsFor.cls ≠ "java/lang/invoke/MethodHandle" ∧ y_Cutter_stepsFor.cls ≠ "java/lang/invoke/VarHandle" ∧ (parseMethodDescriptor y_Cutter_stepsFor.desc).map (fun d => d.parameters.length) = some 2 := by decide +kernel
def y_Cutter_makeTables : MethodName := ⟨R_Cutter, "makeTables", "()V"⟩
abbrev ws_Cutter_makeTables : List Cond := .code y_Cutter_makeTables prog_3_method_4_code 3 none :: TB
theorem d_Cutter_makeTables_0 : decode prog_3_method_4_code 0 = .ok (.aload_n 0, 1) := by decide +kernel
theorem d_Cutter_makeTables_1 : decode prog_3_method_4_code 1 = .ok (.getfield 30, 3) := by decide +kernel
theorem d_Cutter_makeTables_4 : decode prog_3_method_4_code 4 = .ok (.getfield 73, 3) := by decide +kernel
theorem d_Cutter_makeTables_7 : decode prog_3_method_4_code 7 = .ok (.invokestatic 43, 3) := by decide +kernel
theorem d_Cutter_makeTables_10 : decode prog_3_method_4_code 10 = .ok (.aload_n 0, 1) := by decide +kernel
theorem d_Cutter_makeTables_11 : decode prog_3_method_4_code 11 = .ok (.getfield 47, 3) := by decide +kernel
theorem d_Cutter_makeTables_14 : decode prog_3_method_4_code 14 = .ok (.imul, 1) := by decide +kernel
theorem d_Cutter_makeTables_15 : decode prog_3_method_4_code 15 = .ok (.istore_n 1, 1) := by decide +kernel
theorem d_Cutter_makeTables_16 : decode prog_3_method_4_code 16 = .ok (.iconst 0, 1) := by decide +kernel
theorem d_Cutter_makeTables_17 : decode prog_3_method_4_code 17 = .ok (.istore_n 2, 1) := by decide +kernel
theorem d_Cutter_makeTables_18 : decode prog_3_method_4_code 18 = .ok (.iload_n 2, 1) := by decide +kernel
theorem d_Cutter_makeTables_19 : decode prog_3_method_4_code 19 = .ok (.aload_n 0, 1) := by decide +kernel
theorem d_Cutter_makeTables_20 : decode prog_3_method_4_code 20 = .ok (.getfield 24, 3) := by decide +kernel
theorem d_Cutter_makeTables_23 : decode prog_3_method_4_code 23 = .ok (.if_icmp .gt 29, 3) := by decide +kernel
theorem d_Cutter_makeTables_26 : decode prog_3_method_4_code 26 = .ok (.aload_n 0, 1) := by decide +kernel
theorem d_Cutter_makeTables_27 : decode prog_3_method_4_code 27 = .ok (.getfield 11, 3) := by decide +kernel
theorem d_Cutter_makeTables_30 : decode prog_3_method_4_code 30 = .ok (.iload_n 2, 1) := by decide +kernel
theorem d_Cutter_makeTables_31 : decode prog_3_method_4_code 31 = .ok (.aaload, 1) := by decide +kernel
theorem d_Cutter_makeTables_32 : decode prog_3_method_4_code 32 = .ok (.arraylength, 1) := by decide +kernel
theorem d_Cutter_makeTables_33 : decode prog_3_method_4_code 33 = .ok (.iload_n 1, 1) := by decide +kernel
theorem d_Cutter_makeTables_34 : decode prog_3_method_4_code 34 = .ok (.if_icmp .eq 12, 3) := by decide +kernel
theorem d_Cutter_makeTables_37 : decode prog_3_method_4_code 37 = .ok (.aload_n 0, 1) := by decide +kernel
theorem d_Cutter_makeTables_38 : decode prog_3_method_4_code 38 = .ok (.getfield 11, 3) := by decide +kernel
theorem d_Cutter_makeTables_41 : decode prog_3_method_4_code 41 = .ok (.iload_n 2, 1) := by decide +kernel
theorem d_Cutter_makeTables_42 : decode prog_3_method_4_code 42 = .ok (.iload_n 1, 1) := by decide +kernel
theorem d_Cutter_makeTables_43 : decode prog_3_method_4_code 43 = .ok (.newarray .long, 2) := by decide +kernel
theorem d_Cutter_makeTables_45 : decode prog_3_method_4_code 45 = .ok (.aastore, 1) := by decide +kernel
theorem d_Cutter_makeTables_46 : decode prog_3_method_4_code 46 = .ok (.iinc 2 1, 3) := by decide +kernel
theorem d_Cutter_makeTables_49 : decode prog_3_method_4_code 49 = .ok (.goto (-31), 3) := by decide +kernel
theorem d_Cutter_makeTables_52 : decode prog_3_method_4_code 52 = .ok (.return_, 1) := by decide +kernel
set_option maxRecDepth 50000 in
theorem cd_Cutter_makeTables : Cond.code y_Cutter_makeTables prog_3_method_4_code 3 none ∈ TB := mem_TB 615 rfl rfl
theorem im_Cutter_makeTables : Cond.instanceMethod y_Cutter_makeTables ∈ TB := mem_TB 614 (by decide +kernel) (by decide +kernel)
theorem sl_Cutter_makeTables : Cond.selects R_Cutter y_Cutter_makeTables y_Cutter_makeTables ∈ TB := mem_TBs (by decide +kernel) (by decide +kernel)
theorem hd_Cutter_makeTables : y_Cutter_makeTables.cls ≠ "java/lang/invoke/MethodHandle" ∧ y_Cutter_makeTables.cls ≠ "java/lang/invoke/VarHandle" ∧ (parseMethodDescriptor y_Cutter_makeTables.desc).map (fun d => d.parameters.length) = some 0 := by decide +kernel
def y_Cutter_layAllSorts : MethodName := ⟨R_Cutter, "layAllSorts", "()V"⟩
abbrev ws_Cutter_layAllSorts : List Cond := .code y_Cutter_layAllSorts prog_3_method_5_code 4 none :: TB
theorem d_Cutter_layAllSorts_0 : decode prog_3_method_5_code 0 = .ok (.aload_n 0, 1) := by decide +kernel
theorem d_Cutter_layAllSorts_1 : decode prog_3_method_5_code 1 = .ok (.getfield 11, 3) := by decide +kernel
theorem d_Cutter_layAllSorts_4 : decode prog_3_method_5_code 4 = .ok (.iconst 0, 1) := by decide +kernel
theorem d_Cutter_layAllSorts_5 : decode prog_3_method_5_code 5 = .ok (.aaload, 1) := by decide +kernel
theorem d_Cutter_layAllSorts_6 : decode prog_3_method_5_code 6 = .ok (.lconst 0, 1) := by decide +kernel
theorem d_Cutter_layAllSorts_7 : decode prog_3_method_5_code 7 = .ok (.invokestatic 86, 3) := by decide +kernel
theorem d_Cutter_layAllSorts_10 : decode prog_3_method_5_code 10 = .ok (.iconst 0, 1) := by decide +kernel
theorem d_Cutter_layAllSorts_11 : decode prog_3_method_5_code 11 = .ok (.istore_n 1, 1) := by decide +kernel
theorem d_Cutter_layAllSorts_12 : decode prog_3_method_5_code 12 = .ok (.iload_n 1, 1) := by decide +kernel
theorem d_Cutter_layAllSorts_13 : decode prog_3_method_5_code 13 = .ok (.aload_n 0, 1) := by decide +kernel
theorem d_Cutter_layAllSorts_14 : decode prog_3_method_5_code 14 = .ok (.getfield 34, 3) := by decide +kernel
theorem d_Cutter_layAllSorts_17 : decode prog_3_method_5_code 17 = .ok (.getfield 92, 3) := by decide +kernel
theorem d_Cutter_layAllSorts_20 : decode prog_3_method_5_code 20 = .ok (.if_icmp .ge 58, 3) := by decide +kernel
theorem d_Cutter_layAllSorts_23 : decode prog_3_method_5_code 23 = .ok (.aload_n 0, 1) := by decide +kernel
theorem d_Cutter_layAllSorts_24 : decode prog_3_method_5_code 24 = .ok (.getfield 34, 3) := by decide +kernel
theorem d_Cutter_layAllSorts_27 : decode prog_3_method_5_code 27 = .ok (.getfield 97, 3) := by decide +kernel
theorem d_Cutter_layAllSorts_30 : decode prog_3_method_5_code 30 = .ok (.iload_n 1, 1) := by decide +kernel
theorem d_Cutter_layAllSorts_31 : decode prog_3_method_5_code 31 = .ok (.aaload, 1) := by decide +kernel
theorem d_Cutter_layAllSorts_32 : decode prog_3_method_5_code 32 = .ok (.astore_n 2, 1) := by decide +kernel
theorem d_Cutter_layAllSorts_33 : decode prog_3_method_5_code 33 = .ok (.iconst 0, 1) := by decide +kernel
theorem d_Cutter_layAllSorts_34 : decode prog_3_method_5_code 34 = .ok (.istore_n 3, 1) := by decide +kernel
theorem d_Cutter_layAllSorts_35 : decode prog_3_method_5_code 35 = .ok (.iload_n 3, 1) := by decide +kernel
theorem d_Cutter_layAllSorts_36 : decode prog_3_method_5_code 36 = .ok (.aload_n 2, 1) := by decide +kernel
theorem d_Cutter_layAllSorts_37 : decode prog_3_method_5_code 37 = .ok (.getfield 101, 3) := by decide +kernel
theorem d_Cutter_layAllSorts_40 : decode prog_3_method_5_code 40 = .ok (.iadd, 1) := by decide +kernel
theorem d_Cutter_layAllSorts_41 : decode prog_3_method_5_code 41 = .ok (.aload_n 0, 1) := by decide +kernel
theorem d_Cutter_layAllSorts_42 : decode prog_3_method_5_code 42 = .ok (.getfield 30, 3) := by decide +kernel
theorem d_Cutter_layAllSorts_45 : decode prog_3_method_5_code 45 = .ok (.getfield 73, 3) := by decide +kernel
theorem d_Cutter_layAllSorts_48 : decode prog_3_method_5_code 48 = .ok (.if_icmp .gt 24, 3) := by decide +kernel
theorem d_Cutter_layAllSorts_51 : decode prog_3_method_5_code 51 = .ok (.aload_n 0, 1) := by decide +kernel
theorem d_Cutter_layAllSorts_52 : decode prog_3_method_5_code 52 = .ok (.aload_n 2, 1) := by decide +kernel
theorem d_Cutter_layAllSorts_53 : decode prog_3_method_5_code 53 = .ok (.iload_n 3, 1) := by decide +kernel
theorem d_Cutter_layAllSorts_54 : decode prog_3_method_5_code 54 = .ok (.iload_n 3, 1) := by decide +kernel
theorem d_Cutter_layAllSorts_55 : decode prog_3_method_5_code 55 = .ok (.aload_n 2, 1) := by decide +kernel
theorem d_Cutter_layAllSorts_56 : decode prog_3_method_5_code 56 = .ok (.getfield 101, 3) := by decide +kernel
theorem d_Cutter_layAllSorts_59 : decode prog_3_method_5_code 59 = .ok (.iadd, 1) := by decide +kernel
theorem d_Cutter_layAllSorts_60 : decode prog_3_method_5_code 60 = .ok (.invokestatic 104, 3) := by decide +kernel
theorem d_Cutter_layAllSorts_63 : decode prog_3_method_5_code 63 = .ok (.invokevirtual 108, 3) := by decide +kernel
theorem d_Cutter_layAllSorts_66 : decode prog_3_method_5_code 66 = .ok (.iinc 3 1, 3) := by decide +kernel
theorem d_Cutter_layAllSorts_69 : decode prog_3_method_5_code 69 = .ok (.goto (-34), 3) := by decide +kernel
theorem d_Cutter_layAllSorts_72 : decode prog_3_method_5_code 72 = .ok (.iinc 1 1, 3) := by decide +kernel
theorem d_Cutter_layAllSorts_75 : decode prog_3_method_5_code 75 = .ok (.goto (-63), 3) := by decide +kernel
theorem d_Cutter_layAllSorts_78 : decode prog_3_method_5_code 78 = .ok (.return_, 1) := by decide +kernel
set_option maxRecDepth 50000 in
theorem cd_Cutter_layAllSorts : Cond.code y_Cutter_layAllSorts prog_3_method_5_code 4 none ∈ TB := mem_TB 619 rfl rfl
theorem im_Cutter_layAllSorts : Cond.instanceMethod y_Cutter_layAllSorts ∈ TB := mem_TB 618 (by decide +kernel) (by decide +kernel)
theorem sl_Cutter_layAllSorts : Cond.selects R_Cutter y_Cutter_layAllSorts y_Cutter_layAllSorts ∈ TB := mem_TBs (by decide +kernel) (by decide +kernel)
theorem hd_Cutter_layAllSorts : y_Cutter_layAllSorts.cls ≠ "java/lang/invoke/MethodHandle" ∧ y_Cutter_layAllSorts.cls ≠ "java/lang/invoke/VarHandle" ∧ (parseMethodDescriptor y_Cutter_layAllSorts.desc).map (fun d => d.parameters.length) = some 0 := by decide +kernel
def y_Cutter_laySort : MethodName := ⟨R_Cutter, "laySort", "(LFaultRips$Sort;I)V"⟩
abbrev ws_Cutter_laySort : List Cond := .code y_Cutter_laySort prog_3_method_6_code 10 none :: TB
theorem d_Cutter_laySort_0 : decode prog_3_method_6_code 0 = .ok (.aload_n 0, 1) := by decide +kernel
theorem d_Cutter_laySort_1 : decode prog_3_method_6_code 1 = .ok (.getfield 11, 3) := by decide +kernel
theorem d_Cutter_laySort_4 : decode prog_3_method_6_code 4 = .ok (.iconst 0, 1) := by decide +kernel
theorem d_Cutter_laySort_5 : decode prog_3_method_6_code 5 = .ok (.aaload, 1) := by decide +kernel
theorem d_Cutter_laySort_6 : decode prog_3_method_6_code 6 = .ok (.astore_n 3, 1) := by decide +kernel
theorem d_Cutter_laySort_7 : decode prog_3_method_6_code 7 = .ok (.aload_n 1, 1) := by decide +kernel
theorem d_Cutter_laySort_8 : decode prog_3_method_6_code 8 = .ok (.getfield 112, 3) := by decide +kernel
theorem d_Cutter_laySort_11 : decode prog_3_method_6_code 11 = .ok (.istore 4, 2) := by decide +kernel
theorem d_Cutter_laySort_13 : decode prog_3_method_6_code 13 = .ok (.iload 4, 2) := by decide +kernel
theorem d_Cutter_laySort_15 : decode prog_3_method_6_code 15 = .ok (.aload_n 1, 1) := by decide +kernel
theorem d_Cutter_laySort_16 : decode prog_3_method_6_code 16 = .ok (.getfield 115, 3) := by decide +kernel
theorem d_Cutter_laySort_19 : decode prog_3_method_6_code 19 = .ok (.if_icmp .gt 91, 3) := by decide +kernel
theorem d_Cutter_laySort_22 : decode prog_3_method_6_code 22 = .ok (.aload_n 1, 1) := by decide +kernel
theorem d_Cutter_laySort_23 : decode prog_3_method_6_code 23 = .ok (.iload 4, 2) := by decide +kernel
theorem d_Cutter_laySort_25 : decode prog_3_method_6_code 25 = .ok (.invokestatic 118, 3) := by decide +kernel
theorem d_Cutter_laySort_28 : decode prog_3_method_6_code 28 = .ok (.lstore 5, 2) := by decide +kernel
theorem d_Cutter_laySort_30 : decode prog_3_method_6_code 30 = .ok (.iconst 0, 1) := by decide +kernel
theorem d_Cutter_laySort_31 : decode prog_3_method_6_code 31 = .ok (.istore 7, 2) := by decide +kernel
theorem d_Cutter_laySort_33 : decode prog_3_method_6_code 33 = .ok (.iload 7, 2) := by decide +kernel
theorem d_Cutter_laySort_35 : decode prog_3_method_6_code 35 = .ok (.iload 4, 2) := by decide +kernel
theorem d_Cutter_laySort_37 : decode prog_3_method_6_code 37 = .ok (.iadd, 1) := by decide +kernel
theorem d_Cutter_laySort_38 : decode prog_3_method_6_code 38 = .ok (.aload_n 0, 1) := by decide +kernel
theorem d_Cutter_laySort_39 : decode prog_3_method_6_code 39 = .ok (.getfield 30, 3) := by decide +kernel
theorem d_Cutter_laySort_42 : decode prog_3_method_6_code 42 = .ok (.getfield 38, 3) := by decide +kernel
theorem d_Cutter_laySort_45 : decode prog_3_method_6_code 45 = .ok (.if_icmp .gt 59, 3) := by decide +kernel
theorem d_Cutter_laySort_48 : decode prog_3_method_6_code 48 = .ok (.iload 7, 2) := by decide +kernel
theorem d_Cutter_laySort_50 : decode prog_3_method_6_code 50 = .ok (.iload 7, 2) := by decide +kernel
theorem d_Cutter_laySort_52 : decode prog_3_method_6_code 52 = .ok (.iload 4, 2) := by decide +kernel
theorem d_Cutter_laySort_54 : decode prog_3_method_6_code 54 = .ok (.iadd, 1) := by decide +kernel
theorem d_Cutter_laySort_55 : decode prog_3_method_6_code 55 = .ok (.invokestatic 104, 3) := by decide +kernel
theorem d_Cutter_laySort_58 : decode prog_3_method_6_code 58 = .ok (.istore 8, 2) := by decide +kernel
theorem d_Cutter_laySort_60 : decode prog_3_method_6_code 60 = .ok (.iload_n 2, 1) := by decide +kernel
theorem d_Cutter_laySort_61 : decode prog_3_method_6_code 61 = .ok (.aload_n 0, 1) := by decide +kernel
theorem d_Cutter_laySort_62 : decode prog_3_method_6_code 62 = .ok (.getfield 47, 3) := by decide +kernel
theorem d_Cutter_laySort_65 : decode prog_3_method_6_code 65 = .ok (.imul, 1) := by decide +kernel
theorem d_Cutter_laySort_66 : decode prog_3_method_6_code 66 = .ok (.iload 8, 2) := by decide +kernel
theorem d_Cutter_laySort_68 : decode prog_3_method_6_code 68 = .ok (.iadd, 1) := by decide +kernel
theorem d_Cutter_laySort_69 : decode prog_3_method_6_code 69 = .ok (.istore 9, 2) := by decide +kernel
theorem d_Cutter_laySort_71 : decode prog_3_method_6_code 71 = .ok (.lload 5, 2) := by decide +kernel
theorem d_Cutter_laySort_73 : decode prog_3_method_6_code 73 = .ok (.aload_n 3, 1) := by decide +kernel
theorem d_Cutter_laySort_74 : decode prog_3_method_6_code 74 = .ok (.iload 9, 2) := by decide +kernel
theorem d_Cutter_laySort_76 : decode prog_3_method_6_code 76 = .ok (.laload, 1) := by decide +kernel
theorem d_Cutter_laySort_77 : decode prog_3_method_6_code 77 = .ok (.lcmp, 1) := by decide +kernel
theorem d_Cutter_laySort_78 : decode prog_3_method_6_code 78 = .ok (.ifCond .le 20, 3) := by decide +kernel
theorem d_Cutter_laySort_81 : decode prog_3_method_6_code 81 = .ok (.aload_n 0, 1) := by decide +kernel
theorem d_Cutter_laySort_82 : decode prog_3_method_6_code 82 = .ok (.aload_n 1, 1) := by decide +kernel
theorem d_Cutter_laySort_83 : decode prog_3_method_6_code 83 = .ok (.iload 8, 2) := by decide +kernel
theorem d_Cutter_laySort_85 : decode prog_3_method_6_code 85 = .ok (.iload_n 2, 1) := by decide +kernel
theorem d_Cutter_laySort_86 : decode prog_3_method_6_code 86 = .ok (.invokevirtual 122, 3) := by decide +kernel
theorem d_Cutter_laySort_89 : decode prog_3_method_6_code 89 = .ok (.ifCond .eq 9, 3) := by decide +kernel
theorem d_Cutter_laySort_92 : decode prog_3_method_6_code 92 = .ok (.aload_n 3, 1) := by decide +kernel
theorem d_Cutter_laySort_93 : decode prog_3_method_6_code 93 = .ok (.iload 9, 2) := by decide +kernel
theorem d_Cutter_laySort_95 : decode prog_3_method_6_code 95 = .ok (.lload 5, 2) := by decide +kernel
theorem d_Cutter_laySort_97 : decode prog_3_method_6_code 97 = .ok (.lastore, 1) := by decide +kernel
theorem d_Cutter_laySort_98 : decode prog_3_method_6_code 98 = .ok (.iinc 7 1, 3) := by decide +kernel
theorem d_Cutter_laySort_101 : decode prog_3_method_6_code 101 = .ok (.goto (-68), 3) := by decide +kernel
theorem d_Cutter_laySort_104 : decode prog_3_method_6_code 104 = .ok (.iinc 4 1, 3) := by decide +kernel
theorem d_Cutter_laySort_107 : decode prog_3_method_6_code 107 = .ok (.goto (-94), 3) := by decide +kernel
theorem d_Cutter_laySort_110 : decode prog_3_method_6_code 110 = .ok (.return_, 1) := by decide +kernel
set_option maxRecDepth 50000 in
theorem cd_Cutter_laySort : Cond.code y_Cutter_laySort prog_3_method_6_code 10 none ∈ TB := mem_TB 627 rfl rfl
theorem im_Cutter_laySort : Cond.instanceMethod y_Cutter_laySort ∈ TB := mem_TB 626 (by decide +kernel) (by decide +kernel)
theorem sl_Cutter_laySort : Cond.selects R_Cutter y_Cutter_laySort y_Cutter_laySort ∈ TB := mem_TBs (by decide +kernel) (by decide +kernel)
theorem hd_Cutter_laySort : y_Cutter_laySort.cls ≠ "java/lang/invoke/MethodHandle" ∧ y_Cutter_laySort.cls ≠ "java/lang/invoke/VarHandle" ∧ (parseMethodDescriptor y_Cutter_laySort.desc).map (fun d => d.parameters.length) = some 2 := by decide +kernel
def y_Cutter_entryOf : MethodName := ⟨R_Cutter, "entryOf", "(LFaultRips$Sort;I)J"⟩
abbrev ws_Cutter_entryOf : List Cond := .code y_Cutter_entryOf prog_3_method_7_code 2 (some .long) :: TB
theorem d_Cutter_entryOf_0 : decode prog_3_method_7_code 0 = .ok (.aload_n 0, 1) := by decide +kernel
theorem d_Cutter_entryOf_1 : decode prog_3_method_7_code 1 = .ok (.iload_n 1, 1) := by decide +kernel
theorem d_Cutter_entryOf_2 : decode prog_3_method_7_code 2 = .ok (.invokevirtual 126, 3) := by decide +kernel
theorem d_Cutter_entryOf_5 : decode prog_3_method_7_code 5 = .ok (.i2l, 1) := by decide +kernel
theorem d_Cutter_entryOf_6 : decode prog_3_method_7_code 6 = .ok (.aload_n 0, 1) := by decide +kernel
theorem d_Cutter_entryOf_7 : decode prog_3_method_7_code 7 = .ok (.getfield 129, 3) := by decide +kernel
theorem d_Cutter_entryOf_10 : decode prog_3_method_7_code 10 = .ok (.lsub, 1) := by decide +kernel
theorem d_Cutter_entryOf_11 : decode prog_3_method_7_code 11 = .ok (.ldc2_w 133, 3) := by decide +kernel
theorem d_Cutter_entryOf_14 : decode prog_3_method_7_code 14 = .ok (.lmul, 1) := by decide +kernel
theorem d_Cutter_entryOf_15 : decode prog_3_method_7_code 15 = .ok (.lconst 1, 1) := by decide +kernel
theorem d_Cutter_entryOf_16 : decode prog_3_method_7_code 16 = .ok (.lsub, 1) := by decide +kernel
theorem d_Cutter_entryOf_17 : decode prog_3_method_7_code 17 = .ok (.lreturn, 1) := by decide +kernel
set_option maxRecDepth 50000 in
theorem cd_Cutter_entryOf : Cond.code y_Cutter_entryOf prog_3_method_7_code 2 (some .long) ∈ TB := mem_TB 630 rfl rfl
theorem st_Cutter_entryOf : Cond.static y_Cutter_entryOf ∈ TB := mem_TB 629 (by decide +kernel) (by decide +kernel)
theorem hd_Cutter_entryOf : y_Cutter_entryOf.cls ≠ "java/lang/invoke/MethodHandle" ∧ y_Cutter_entryOf.cls ≠ "java/lang/invoke/VarHandle" ∧ (parseMethodDescriptor y_Cutter_entryOf.desc).map (fun d => d.parameters.length) = some 2 := by decide +kernel
def y_Cutter_isClearFor : MethodName := ⟨R_Cutter, "isClearFor", "(LFaultRips$Sort;II)Z"⟩
abbrev ws_Cutter_isClearFor : List Cond := .code y_Cutter_isClearFor prog_3_method_8_code 4 (some .boolean) :: TB
theorem d_Cutter_isClearFor_0 : decode prog_3_method_8_code 0 = .ok (.aload_n 0, 1) := by decide +kernel
theorem d_Cutter_isClearFor_1 : decode prog_3_method_8_code 1 = .ok (.getfield 30, 3) := by decide +kernel
theorem d_Cutter_isClearFor_4 : decode prog_3_method_8_code 4 = .ok (.iload_n 2, 1) := by decide +kernel
theorem d_Cutter_isClearFor_5 : decode prog_3_method_8_code 5 = .ok (.iload_n 3, 1) := by decide +kernel
theorem d_Cutter_isClearFor_6 : decode prog_3_method_8_code 6 = .ok (.invokevirtual 135, 3) := by decide +kernel
theorem d_Cutter_isClearFor_9 : decode prog_3_method_8_code 9 = .ok (.aload_n 1, 1) := by decide +kernel
theorem d_Cutter_isClearFor_10 : decode prog_3_method_8_code 10 = .ok (.getfield 138, 3) := by decide +kernel
theorem d_Cutter_isClearFor_13 : decode prog_3_method_8_code 13 = .ok (.iand, 1) := by decide +kernel
theorem d_Cutter_isClearFor_14 : decode prog_3_method_8_code 14 = .ok (.ifCond .ne 7, 3) := by decide +kernel
theorem d_Cutter_isClearFor_17 : decode prog_3_method_8_code 17 = .ok (.iconst 1, 1) := by decide +kernel
theorem d_Cutter_isClearFor_18 : decode prog_3_method_8_code 18 = .ok (.goto 4, 3) := by decide +kernel
theorem d_Cutter_isClearFor_21 : decode prog_3_method_8_code 21 = .ok (.iconst 0, 1) := by decide +kernel
theorem d_Cutter_isClearFor_22 : decode prog_3_method_8_code 22 = .ok (.ireturn, 1) := by decide +kernel
set_option maxRecDepth 50000 in
theorem cd_Cutter_isClearFor : Cond.code y_Cutter_isClearFor prog_3_method_8_code 4 (some .boolean) ∈ TB := mem_TB 639 rfl rfl
theorem im_Cutter_isClearFor : Cond.instanceMethod y_Cutter_isClearFor ∈ TB := mem_TB 638 (by decide +kernel) (by decide +kernel)
theorem sl_Cutter_isClearFor : Cond.selects R_Cutter y_Cutter_isClearFor y_Cutter_isClearFor ∈ TB := mem_TBs (by decide +kernel) (by decide +kernel)
theorem hd_Cutter_isClearFor : y_Cutter_isClearFor.cls ≠ "java/lang/invoke/MethodHandle" ∧ y_Cutter_isClearFor.cls ≠ "java/lang/invoke/VarHandle" ∧ (parseMethodDescriptor y_Cutter_isClearFor.desc).map (fun d => d.parameters.length) = some 3 := by decide +kernel
def y_Cutter_axisOf : MethodName := ⟨R_Cutter, "axisOf", "(I)I"⟩
abbrev ws_Cutter_axisOf : List Cond := .code y_Cutter_axisOf prog_3_method_9_code 2 (some .int) :: TB
theorem d_Cutter_axisOf_0 : decode prog_3_method_9_code 0 = .ok (.aload_n 0, 1) := by decide +kernel
theorem d_Cutter_axisOf_1 : decode prog_3_method_9_code 1 = .ok (.getfield 24, 3) := by decide +kernel
theorem d_Cutter_axisOf_4 : decode prog_3_method_9_code 4 = .ok (.iload_n 1, 1) := by decide +kernel
theorem d_Cutter_axisOf_5 : decode prog_3_method_9_code 5 = .ok (.isub, 1) := by decide +kernel
theorem d_Cutter_axisOf_6 : decode prog_3_method_9_code 6 = .ok (.iconst 2, 1) := by decide +kernel
theorem d_Cutter_axisOf_7 : decode prog_3_method_9_code 7 = .ok (.irem, 1) := by decide +kernel
theorem d_Cutter_axisOf_8 : decode prog_3_method_9_code 8 = .ok (.ifCond .ne 10, 3) := by decide +kernel
theorem d_Cutter_axisOf_11 : decode prog_3_method_9_code 11 = .ok (.aload_n 0, 1) := by decide +kernel
theorem d_Cutter_axisOf_12 : decode prog_3_method_9_code 12 = .ok (.getfield 20, 3) := by decide +kernel
theorem d_Cutter_axisOf_15 : decode prog_3_method_9_code 15 = .ok (.goto 9, 3) := by decide +kernel
theorem d_Cutter_axisOf_18 : decode prog_3_method_9_code 18 = .ok (.iconst 1, 1) := by decide +kernel
theorem d_Cutter_axisOf_19 : decode prog_3_method_9_code 19 = .ok (.aload_n 0, 1) := by decide +kernel
theorem d_Cutter_axisOf_20 : decode prog_3_method_9_code 20 = .ok (.getfield 20, 3) := by decide +kernel
theorem d_Cutter_axisOf_23 : decode prog_3_method_9_code 23 = .ok (.isub, 1) := by decide +kernel
theorem d_Cutter_axisOf_24 : decode prog_3_method_9_code 24 = .ok (.ireturn, 1) := by decide +kernel
set_option maxRecDepth 50000 in
theorem cd_Cutter_axisOf : Cond.code y_Cutter_axisOf prog_3_method_9_code 2 (some .int) ∈ TB := mem_TB 651 rfl rfl
theorem im_Cutter_axisOf : Cond.instanceMethod y_Cutter_axisOf ∈ TB := mem_TB 650 (by decide +kernel) (by decide +kernel)
theorem sl_Cutter_axisOf : Cond.selects R_Cutter y_Cutter_axisOf y_Cutter_axisOf ∈ TB := mem_TBs (by decide +kernel) (by decide +kernel)
theorem hd_Cutter_axisOf : y_Cutter_axisOf.cls ≠ "java/lang/invoke/MethodHandle" ∧ y_Cutter_axisOf.cls ≠ "java/lang/invoke/VarHandle" ∧ (parseMethodDescriptor y_Cutter_axisOf.desc).map (fun d => d.parameters.length) = some 1 := by decide +kernel
def y_Cutter_strideOf : MethodName := ⟨R_Cutter, "strideOf", "(I)I"⟩
abbrev ws_Cutter_strideOf : List Cond := .code y_Cutter_strideOf prog_3_method_10_code 2 (some .int) :: TB
theorem d_Cutter_strideOf_0 : decode prog_3_method_10_code 0 = .ok (.iload_n 1, 1) := by decide +kernel
theorem d_Cutter_strideOf_1 : decode prog_3_method_10_code 1 = .ok (.ifCond .ne 10, 3) := by decide +kernel
theorem d_Cutter_strideOf_4 : decode prog_3_method_10_code 4 = .ok (.aload_n 0, 1) := by decide +kernel
theorem d_Cutter_strideOf_5 : decode prog_3_method_10_code 5 = .ok (.getfield 47, 3) := by decide +kernel
theorem d_Cutter_strideOf_8 : decode prog_3_method_10_code 8 = .ok (.goto 4, 3) := by decide +kernel
theorem d_Cutter_strideOf_11 : decode prog_3_method_10_code 11 = .ok (.iconst 1, 1) := by decide +kernel
theorem d_Cutter_strideOf_12 : decode prog_3_method_10_code 12 = .ok (.ireturn, 1) := by decide +kernel
set_option maxRecDepth 50000 in
theorem cd_Cutter_strideOf : Cond.code y_Cutter_strideOf prog_3_method_10_code 2 (some .int) ∈ TB := mem_TB 660 rfl rfl
theorem im_Cutter_strideOf : Cond.instanceMethod y_Cutter_strideOf ∈ TB := mem_TB 659 (by decide +kernel) (by decide +kernel)
theorem sl_Cutter_strideOf : Cond.selects R_Cutter y_Cutter_strideOf y_Cutter_strideOf ∈ TB := mem_TBs (by decide +kernel) (by decide +kernel)
theorem hd_Cutter_strideOf : y_Cutter_strideOf.cls ≠ "java/lang/invoke/MethodHandle" ∧ y_Cutter_strideOf.cls ≠ "java/lang/invoke/VarHandle" ∧ (parseMethodDescriptor y_Cutter_strideOf.desc).map (fun d => d.parameters.length) = some 1 := by decide +kernel
def y_Cutter_placeOf : MethodName := ⟨R_Cutter, "placeOf", "(III)I"⟩
abbrev ws_Cutter_placeOf : List Cond := .code y_Cutter_placeOf prog_3_method_11_code 4 (some .int) :: TB
theorem d_Cutter_placeOf_0 : decode prog_3_method_11_code 0 = .ok (.iload_n 2, 1) := by decide +kernel
theorem d_Cutter_placeOf_1 : decode prog_3_method_11_code 1 = .ok (.aload_n 0, 1) := by decide +kernel
theorem d_Cutter_placeOf_2 : decode prog_3_method_11_code 2 = .ok (.iload_n 1, 1) := by decide +kernel
theorem d_Cutter_placeOf_3 : decode prog_3_method_11_code 3 = .ok (.invokevirtual 141, 3) := by decide +kernel
theorem d_Cutter_placeOf_6 : decode prog_3_method_11_code 6 = .ok (.imul, 1) := by decide +kernel
theorem d_Cutter_placeOf_7 : decode prog_3_method_11_code 7 = .ok (.iload_n 3, 1) := by decide +kernel
theorem d_Cutter_placeOf_8 : decode prog_3_method_11_code 8 = .ok (.aload_n 0, 1) := by decide +kernel
theorem d_Cutter_placeOf_9 : decode prog_3_method_11_code 9 = .ok (.iconst 1, 1) := by decide +kernel
theorem d_Cutter_placeOf_10 : decode prog_3_method_11_code 10 = .ok (.iload_n 1, 1) := by decide +kernel
theorem d_Cutter_placeOf_11 : decode prog_3_method_11_code 11 = .ok (.isub, 1) := by decide +kernel
theorem d_Cutter_placeOf_12 : decode prog_3_method_11_code 12 = .ok (.invokevirtual 141, 3) := by decide +kernel
theorem d_Cutter_placeOf_15 : decode prog_3_method_11_code 15 = .ok (.imul, 1) := by decide +kernel
theorem d_Cutter_placeOf_16 : decode prog_3_method_11_code 16 = .ok (.iadd, 1) := by decide +kernel
theorem d_Cutter_placeOf_17 : decode prog_3_method_11_code 17 = .ok (.ireturn, 1) := by decide +kernel
set_option maxRecDepth 50000 in
theorem cd_Cutter_placeOf : Cond.code y_Cutter_placeOf prog_3_method_11_code 4 (some .int) ∈ TB := mem_TB 664 rfl rfl
theorem im_Cutter_placeOf : Cond.instanceMethod y_Cutter_placeOf ∈ TB := mem_TB 663 (by decide +kernel) (by decide +kernel)
theorem sl_Cutter_placeOf : Cond.selects R_Cutter y_Cutter_placeOf y_Cutter_placeOf ∈ TB := mem_TBs (by decide +kernel) (by decide +kernel)
theorem hd_Cutter_placeOf : y_Cutter_placeOf.cls ≠ "java/lang/invoke/MethodHandle" ∧ y_Cutter_placeOf.cls ≠ "java/lang/invoke/VarHandle" ∧ (parseMethodDescriptor y_Cutter_placeOf.desc).map (fun d => d.parameters.length) = some 3 := by decide +kernel
def y_Cutter_mayCut : MethodName := ⟨R_Cutter, "mayCut", "(II)Z"⟩
abbrev ws_Cutter_mayCut : List Cond := .code y_Cutter_mayCut prog_3_method_12_code 3 (some .boolean) :: TB
theorem d_Cutter_mayCut_0 : decode prog_3_method_12_code 0 = .ok (.iload_n 1, 1) := by decide +kernel
theorem d_Cutter_mayCut_1 : decode prog_3_method_12_code 1 = .ok (.aload_n 0, 1) := by decide +kernel
theorem d_Cutter_mayCut_2 : decode prog_3_method_12_code 2 = .ok (.getfield 24, 3) := by decide +kernel
theorem d_Cutter_mayCut_5 : decode prog_3_method_12_code 5 = .ok (.if_icmp .lt 15, 3) := by decide +kernel
theorem d_Cutter_mayCut_8 : decode prog_3_method_12_code 8 = .ok (.aload_n 0, 1) := by decide +kernel
theorem d_Cutter_mayCut_9 : decode prog_3_method_12_code 9 = .ok (.getfield 27, 3) := by decide +kernel
theorem d_Cutter_mayCut_12 : decode prog_3_method_12_code 12 = .ok (.iload_n 2, 1) := by decide +kernel
theorem d_Cutter_mayCut_13 : decode prog_3_method_12_code 13 = .ok (.ishr, 1) := by decide +kernel
theorem d_Cutter_mayCut_14 : decode prog_3_method_12_code 14 = .ok (.iconst 1, 1) := by decide +kernel
theorem d_Cutter_mayCut_15 : decode prog_3_method_12_code 15 = .ok (.iand, 1) := by decide +kernel
theorem d_Cutter_mayCut_16 : decode prog_3_method_12_code 16 = .ok (.iconst 1, 1) := by decide +kernel
theorem d_Cutter_mayCut_17 : decode prog_3_method_12_code 17 = .ok (.if_icmp .ne 7, 3) := by decide +kernel
theorem d_Cutter_mayCut_20 : decode prog_3_method_12_code 20 = .ok (.iconst 1, 1) := by decide +kernel
theorem d_Cutter_mayCut_21 : decode prog_3_method_12_code 21 = .ok (.goto 4, 3) := by decide +kernel
theorem d_Cutter_mayCut_24 : decode prog_3_method_12_code 24 = .ok (.iconst 0, 1) := by decide +kernel
theorem d_Cutter_mayCut_25 : decode prog_3_method_12_code 25 = .ok (.ireturn, 1) := by decide +kernel
set_option maxRecDepth 50000 in
theorem cd_Cutter_mayCut : Cond.code y_Cutter_mayCut prog_3_method_12_code 3 (some .boolean) ∈ TB := mem_TB 668 rfl rfl
theorem im_Cutter_mayCut : Cond.instanceMethod y_Cutter_mayCut ∈ TB := mem_TB 667 (by decide +kernel) (by decide +kernel)
theorem sl_Cutter_mayCut : Cond.selects R_Cutter y_Cutter_mayCut y_Cutter_mayCut ∈ TB := mem_TBs (by decide +kernel) (by decide +kernel)
theorem hd_Cutter_mayCut : y_Cutter_mayCut.cls ≠ "java/lang/invoke/MethodHandle" ∧ y_Cutter_mayCut.cls ≠ "java/lang/invoke/VarHandle" ∧ (parseMethodDescriptor y_Cutter_mayCut.desc).map (fun d => d.parameters.length) = some 2 := by decide +kernel
def y_Cutter_fillLevel : MethodName := ⟨R_Cutter, "fillLevel", "(I)V"⟩
abbrev ws_Cutter_fillLevel : List Cond := .code y_Cutter_fillLevel prog_3_method_13_code 10 none :: TB
theorem d_Cutter_fillLevel_0 : decode prog_3_method_13_code 0 = .ok (.aload_n 0, 1) := by decide +kernel
theorem d_Cutter_fillLevel_1 : decode prog_3_method_13_code 1 = .ok (.iload_n 1, 1) := by decide +kernel
theorem d_Cutter_fillLevel_2 : decode prog_3_method_13_code 2 = .ok (.invokevirtual 144, 3) := by decide +kernel
theorem d_Cutter_fillLevel_5 : decode prog_3_method_13_code 5 = .ok (.istore_n 2, 1) := by decide +kernel
theorem d_Cutter_fillLevel_6 : decode prog_3_method_13_code 6 = .ok (.aload_n 0, 1) := by decide +kernel
theorem d_Cutter_fillLevel_7 : decode prog_3_method_13_code 7 = .ok (.getfield 30, 3) := by decide +kernel
theorem d_Cutter_fillLevel_10 : decode prog_3_method_13_code 10 = .ok (.iload_n 2, 1) := by decide +kernel
theorem d_Cutter_fillLevel_11 : decode prog_3_method_13_code 11 = .ok (.invokevirtual 147, 3) := by decide +kernel
theorem d_Cutter_fillLevel_14 : decode prog_3_method_13_code 14 = .ok (.istore_n 3, 1) := by decide +kernel
theorem d_Cutter_fillLevel_15 : decode prog_3_method_13_code 15 = .ok (.aload_n 0, 1) := by decide +kernel
theorem d_Cutter_fillLevel_16 : decode prog_3_method_13_code 16 = .ok (.getfield 30, 3) := by decide +kernel
theorem d_Cutter_fillLevel_19 : decode prog_3_method_13_code 19 = .ok (.iconst 1, 1) := by decide +kernel
theorem d_Cutter_fillLevel_20 : decode prog_3_method_13_code 20 = .ok (.iload_n 2, 1) := by decide +kernel
theorem d_Cutter_fillLevel_21 : decode prog_3_method_13_code 21 = .ok (.isub, 1) := by decide +kernel
theorem d_Cutter_fillLevel_22 : decode prog_3_method_13_code 22 = .ok (.invokevirtual 147, 3) := by decide +kernel
theorem d_Cutter_fillLevel_25 : decode prog_3_method_13_code 25 = .ok (.istore 4, 2) := by decide +kernel
theorem d_Cutter_fillLevel_27 : decode prog_3_method_13_code 27 = .ok (.iload_n 1, 1) := by decide +kernel
theorem d_Cutter_fillLevel_28 : decode prog_3_method_13_code 28 = .ok (.aload_n 0, 1) := by decide +kernel
theorem d_Cutter_fillLevel_29 : decode prog_3_method_13_code 29 = .ok (.getfield 24, 3) := by decide +kernel
theorem d_Cutter_fillLevel_32 : decode prog_3_method_13_code 32 = .ok (.if_icmp .ne 12, 3) := by decide +kernel
theorem d_Cutter_fillLevel_35 : decode prog_3_method_13_code 35 = .ok (.iconst 0, 1) := by decide +kernel
theorem d_Cutter_fillLevel_36 : decode prog_3_method_13_code 36 = .ok (.iload 4, 2) := by decide +kernel
theorem d_Cutter_fillLevel_38 : decode prog_3_method_13_code 38 = .ok (.invokestatic 104, 3) := by decide +kernel
theorem d_Cutter_fillLevel_41 : decode prog_3_method_13_code 41 = .ok (.goto 4, 3) := by decide +kernel
theorem d_Cutter_fillLevel_44 : decode prog_3_method_13_code 44 = .ok (.iconst 0, 1) := by decide +kernel
theorem d_Cutter_fillLevel_45 : decode prog_3_method_13_code 45 = .ok (.istore 5, 2) := by decide +kernel
theorem d_Cutter_fillLevel_47 : decode prog_3_method_13_code 47 = .ok (.iload_n 1, 1) := by decide +kernel
theorem d_Cutter_fillLevel_48 : decode prog_3_method_13_code 48 = .ok (.aload_n 0, 1) := by decide +kernel
theorem d_Cutter_fillLevel_49 : decode prog_3_method_13_code 49 = .ok (.getfield 24, 3) := by decide +kernel
theorem d_Cutter_fillLevel_52 : decode prog_3_method_13_code 52 = .ok (.if_icmp .ne 7, 3) := by decide +kernel
theorem d_Cutter_fillLevel_55 : decode prog_3_method_13_code 55 = .ok (.iconst 0, 1) := by decide +kernel
theorem d_Cutter_fillLevel_56 : decode prog_3_method_13_code 56 = .ok (.goto 7, 3) := by decide +kernel
theorem d_Cutter_fillLevel_59 : decode prog_3_method_13_code 59 = .ok (.iload 4, 2) := by decide +kernel
theorem d_Cutter_fillLevel_61 : decode prog_3_method_13_code 61 = .ok (.iconst 1, 1) := by decide +kernel
theorem d_Cutter_fillLevel_62 : decode prog_3_method_13_code 62 = .ok (.isub, 1) := by decide +kernel
theorem d_Cutter_fillLevel_63 : decode prog_3_method_13_code 63 = .ok (.iload 4, 2) := by decide +kernel
theorem d_Cutter_fillLevel_65 : decode prog_3_method_13_code 65 = .ok (.invokestatic 104, 3) := by decide +kernel
theorem d_Cutter_fillLevel_68 : decode prog_3_method_13_code 68 = .ok (.istore 6, 2) := by decide +kernel
theorem d_Cutter_fillLevel_70 : decode prog_3_method_13_code 70 = .ok (.iload_n 1, 1) := by decide +kernel
theorem d_Cutter_fillLevel_71 : decode prog_3_method_13_code 71 = .ok (.aload_n 0, 1) := by decide +kernel
theorem d_Cutter_fillLevel_72 : decode prog_3_method_13_code 72 = .ok (.getfield 24, 3) := by decide +kernel
theorem d_Cutter_fillLevel_75 : decode prog_3_method_13_code 75 = .ok (.iconst 1, 1) := by decide +kernel
theorem d_Cutter_fillLevel_76 : decode prog_3_method_13_code 76 = .ok (.isub, 1) := by decide +kernel
theorem d_Cutter_fillLevel_77 : decode prog_3_method_13_code 77 = .ok (.if_icmp .lt 7, 3) := by decide +kernel
theorem d_Cutter_fillLevel_80 : decode prog_3_method_13_code 80 = .ok (.iload_n 3, 1) := by decide +kernel
theorem d_Cutter_fillLevel_81 : decode prog_3_method_13_code 81 = .ok (.goto 4, 3) := by decide +kernel
theorem d_Cutter_fillLevel_84 : decode prog_3_method_13_code 84 = .ok (.iconst 1, 1) := by decide +kernel
theorem d_Cutter_fillLevel_85 : decode prog_3_method_13_code 85 = .ok (.istore 7, 2) := by decide +kernel
theorem d_Cutter_fillLevel_87 : decode prog_3_method_13_code 87 = .ok (.iload 5, 2) := by decide +kernel
theorem d_Cutter_fillLevel_89 : decode prog_3_method_13_code 89 = .ok (.istore 8, 2) := by decide +kernel
theorem d_Cutter_fillLevel_91 : decode prog_3_method_13_code 91 = .ok (.iload 8, 2) := by decide +kernel
theorem d_Cutter_fillLevel_93 : decode prog_3_method_13_code 93 = .ok (.iload 6, 2) := by decide +kernel
theorem d_Cutter_fillLevel_95 : decode prog_3_method_13_code 95 = .ok (.if_icmp .gt 35, 3) := by decide +kernel
theorem d_Cutter_fillLevel_98 : decode prog_3_method_13_code 98 = .ok (.iload 7, 2) := by decide +kernel
theorem d_Cutter_fillLevel_100 : decode prog_3_method_13_code 100 = .ok (.istore 9, 2) := by decide +kernel
theorem d_Cutter_fillLevel_102 : decode prog_3_method_13_code 102 = .ok (.iload 9, 2) := by decide +kernel
theorem d_Cutter_fillLevel_104 : decode prog_3_method_13_code 104 = .ok (.iload_n 3, 1) := by decide +kernel
theorem d_Cutter_fillLevel_105 : decode prog_3_method_13_code 105 = .ok (.if_icmp .gt 19, 3) := by decide +kernel
theorem d_Cutter_fillLevel_108 : decode prog_3_method_13_code 108 = .ok (.aload_n 0, 1) := by decide +kernel
theorem d_Cutter_fillLevel_109 : decode prog_3_method_13_code 109 = .ok (.iload_n 1, 1) := by decide +kernel
theorem d_Cutter_fillLevel_110 : decode prog_3_method_13_code 110 = .ok (.iload_n 2, 1) := by decide +kernel
theorem d_Cutter_fillLevel_111 : decode prog_3_method_13_code 111 = .ok (.iload 8, 2) := by decide +kernel
theorem d_Cutter_fillLevel_113 : decode prog_3_method_13_code 113 = .ok (.iload 9, 2) := by decide +kernel
theorem d_Cutter_fillLevel_115 : decode prog_3_method_13_code 115 = .ok (.invokevirtual 150, 3) := by decide +kernel
theorem d_Cutter_fillLevel_118 : decode prog_3_method_13_code 118 = .ok (.iinc 9 1, 3) := by decide +kernel
theorem d_Cutter_fillLevel_121 : decode prog_3_method_13_code 121 = .ok (.goto (-19), 3) := by decide +kernel
theorem d_Cutter_fillLevel_124 : decode prog_3_method_13_code 124 = .ok (.iinc 8 1, 3) := by decide +kernel
theorem d_Cutter_fillLevel_127 : decode prog_3_method_13_code 127 = .ok (.goto (-36), 3) := by decide +kernel
theorem d_Cutter_fillLevel_130 : decode prog_3_method_13_code 130 = .ok (.return_, 1) := by decide +kernel
set_option maxRecDepth 50000 in
theorem cd_Cutter_fillLevel : Cond.code y_Cutter_fillLevel prog_3_method_13_code 10 none ∈ TB := mem_TB 647 rfl rfl
theorem im_Cutter_fillLevel : Cond.instanceMethod y_Cutter_fillLevel ∈ TB := mem_TB 646 (by decide +kernel) (by decide +kernel)
theorem sl_Cutter_fillLevel : Cond.selects R_Cutter y_Cutter_fillLevel y_Cutter_fillLevel ∈ TB := mem_TBs (by decide +kernel) (by decide +kernel)
theorem hd_Cutter_fillLevel : y_Cutter_fillLevel.cls ≠ "java/lang/invoke/MethodHandle" ∧ y_Cutter_fillLevel.cls ≠ "java/lang/invoke/VarHandle" ∧ (parseMethodDescriptor y_Cutter_fillLevel.desc).map (fun d => d.parameters.length) = some 1 := by decide +kernel
def y_Cutter_fillTo : MethodName := ⟨R_Cutter, "fillTo", "(IIII)V"⟩
abbrev ws_Cutter_fillTo : List Cond := .code y_Cutter_fillTo prog_3_method_14_code 15 none :: TB
theorem d_Cutter_fillTo_0 : decode prog_3_method_14_code 0 = .ok (.aload_n 0, 1) := by decide +kernel
theorem d_Cutter_fillTo_1 : decode prog_3_method_14_code 1 = .ok (.getfield 11, 3) := by decide +kernel
theorem d_Cutter_fillTo_4 : decode prog_3_method_14_code 4 = .ok (.iload_n 1, 1) := by decide +kernel
theorem d_Cutter_fillTo_5 : decode prog_3_method_14_code 5 = .ok (.iconst 1, 1) := by decide +kernel
theorem d_Cutter_fillTo_6 : decode prog_3_method_14_code 6 = .ok (.isub, 1) := by decide +kernel
theorem d_Cutter_fillTo_7 : decode prog_3_method_14_code 7 = .ok (.aaload, 1) := by decide +kernel
theorem d_Cutter_fillTo_8 : decode prog_3_method_14_code 8 = .ok (.astore 5, 2) := by decide +kernel
theorem d_Cutter_fillTo_10 : decode prog_3_method_14_code 10 = .ok (.aload_n 0, 1) := by decide +kernel
theorem d_Cutter_fillTo_11 : decode prog_3_method_14_code 11 = .ok (.getfield 11, 3) := by decide +kernel
theorem d_Cutter_fillTo_14 : decode prog_3_method_14_code 14 = .ok (.iload_n 1, 1) := by decide +kernel
theorem d_Cutter_fillTo_15 : decode prog_3_method_14_code 15 = .ok (.aaload, 1) := by decide +kernel
theorem d_Cutter_fillTo_16 : decode prog_3_method_14_code 16 = .ok (.astore 6, 2) := by decide +kernel
theorem d_Cutter_fillTo_18 : decode prog_3_method_14_code 18 = .ok (.aload_n 0, 1) := by decide +kernel
theorem d_Cutter_fillTo_19 : decode prog_3_method_14_code 19 = .ok (.iload_n 2, 1) := by decide +kernel
theorem d_Cutter_fillTo_20 : decode prog_3_method_14_code 20 = .ok (.invokevirtual 141, 3) := by decide +kernel
theorem d_Cutter_fillTo_23 : decode prog_3_method_14_code 23 = .ok (.istore 7, 2) := by decide +kernel
theorem d_Cutter_fillTo_25 : decode prog_3_method_14_code 25 = .ok (.aload_n 0, 1) := by decide +kernel
theorem d_Cutter_fillTo_26 : decode prog_3_method_14_code 26 = .ok (.getfield 16, 3) := by decide +kernel
theorem d_Cutter_fillTo_29 : decode prog_3_method_14_code 29 = .ok (.iload 4, 2) := by decide +kernel
theorem d_Cutter_fillTo_31 : decode prog_3_method_14_code 31 = .ok (.lconst 0, 1) := by decide +kernel
theorem d_Cutter_fillTo_32 : decode prog_3_method_14_code 32 = .ok (.lastore, 1) := by decide +kernel
theorem d_Cutter_fillTo_33 : decode prog_3_method_14_code 33 = .ok (.iload 4, 2) := by decide +kernel
theorem d_Cutter_fillTo_35 : decode prog_3_method_14_code 35 = .ok (.iconst 1, 1) := by decide +kernel
theorem d_Cutter_fillTo_36 : decode prog_3_method_14_code 36 = .ok (.isub, 1) := by decide +kernel
theorem d_Cutter_fillTo_37 : decode prog_3_method_14_code 37 = .ok (.istore 8, 2) := by decide +kernel
theorem d_Cutter_fillTo_39 : decode prog_3_method_14_code 39 = .ok (.iload 8, 2) := by decide +kernel
theorem d_Cutter_fillTo_41 : decode prog_3_method_14_code 41 = .ok (.ifCond .lt 148, 3) := by decide +kernel
theorem d_Cutter_fillTo_44 : decode prog_3_method_14_code 44 = .ok (.aload_n 0, 1) := by decide +kernel
theorem d_Cutter_fillTo_45 : decode prog_3_method_14_code 45 = .ok (.getfield 16, 3) := by decide +kernel
theorem d_Cutter_fillTo_48 : decode prog_3_method_14_code 48 = .ok (.iload 8, 2) := by decide +kernel
theorem d_Cutter_fillTo_50 : decode prog_3_method_14_code 50 = .ok (.iconst 1, 1) := by decide +kernel
theorem d_Cutter_fillTo_51 : decode prog_3_method_14_code 51 = .ok (.iadd, 1) := by decide +kernel
theorem d_Cutter_fillTo_52 : decode prog_3_method_14_code 52 = .ok (.laload, 1) := by decide +kernel
theorem d_Cutter_fillTo_53 : decode prog_3_method_14_code 53 = .ok (.lstore 9, 2) := by decide +kernel
theorem d_Cutter_fillTo_55 : decode prog_3_method_14_code 55 = .ok (.aload_n 0, 1) := by decide +kernel
theorem d_Cutter_fillTo_56 : decode prog_3_method_14_code 56 = .ok (.iload_n 2, 1) := by decide +kernel
theorem d_Cutter_fillTo_57 : decode prog_3_method_14_code 57 = .ok (.iload 8, 2) := by decide +kernel
theorem d_Cutter_fillTo_59 : decode prog_3_method_14_code 59 = .ok (.iload 8, 2) := by decide +kernel
theorem d_Cutter_fillTo_61 : decode prog_3_method_14_code 61 = .ok (.iconst 1, 1) := by decide +kernel
theorem d_Cutter_fillTo_62 : decode prog_3_method_14_code 62 = .ok (.iadd, 1) := by decide +kernel
theorem d_Cutter_fillTo_63 : decode prog_3_method_14_code 63 = .ok (.invokestatic 104, 3) := by decide +kernel
theorem d_Cutter_fillTo_66 : decode prog_3_method_14_code 66 = .ok (.iload_n 3, 1) := by decide +kernel
theorem d_Cutter_fillTo_67 : decode prog_3_method_14_code 67 = .ok (.invokevirtual 154, 3) := by decide +kernel
theorem d_Cutter_fillTo_70 : decode prog_3_method_14_code 70 = .ok (.istore 11, 2) := by decide +kernel
theorem d_Cutter_fillTo_72 : decode prog_3_method_14_code 72 = .ok (.iload 8, 2) := by decide +kernel
theorem d_Cutter_fillTo_74 : decode prog_3_method_14_code 74 = .ok (.iconst 1, 1) := by decide +kernel
theorem d_Cutter_fillTo_75 : decode prog_3_method_14_code 75 = .ok (.iadd, 1) := by decide +kernel
theorem d_Cutter_fillTo_76 : decode prog_3_method_14_code 76 = .ok (.istore 12, 2) := by decide +kernel
theorem d_Cutter_fillTo_78 : decode prog_3_method_14_code 78 = .ok (.iload 12, 2) := by decide +kernel
theorem d_Cutter_fillTo_80 : decode prog_3_method_14_code 80 = .ok (.iload 4, 2) := by decide +kernel
theorem d_Cutter_fillTo_82 : decode prog_3_method_14_code 82 = .ok (.if_icmp .gt 74, 3) := by decide +kernel
theorem d_Cutter_fillTo_85 : decode prog_3_method_14_code 85 = .ok (.aload 5, 2) := by decide +kernel
theorem d_Cutter_fillTo_87 : decode prog_3_method_14_code 87 = .ok (.iload 11, 2) := by decide +kernel
theorem d_Cutter_fillTo_89 : decode prog_3_method_14_code 89 = .ok (.laload, 1) := by decide +kernel
theorem d_Cutter_fillTo_90 : decode prog_3_method_14_code 90 = .ok (.lstore 13, 2) := by decide +kernel
theorem d_Cutter_fillTo_92 : decode prog_3_method_14_code 92 = .ok (.lload 13, 2) := by decide +kernel
theorem d_Cutter_fillTo_94 : decode prog_3_method_14_code 94 = .ok (.lconst 0, 1) := by decide +kernel
theorem d_Cutter_fillTo_95 : decode prog_3_method_14_code 95 = .ok (.lcmp, 1) := by decide +kernel
theorem d_Cutter_fillTo_96 : decode prog_3_method_14_code 96 = .ok (.ifCond .le 44, 3) := by decide +kernel
theorem d_Cutter_fillTo_99 : decode prog_3_method_14_code 99 = .ok (.lload 13, 2) := by decide +kernel
theorem d_Cutter_fillTo_101 : decode prog_3_method_14_code 101 = .ok (.aload_n 0, 1) := by decide +kernel
theorem d_Cutter_fillTo_102 : decode prog_3_method_14_code 102 = .ok (.getfield 16, 3) := by decide +kernel
theorem d_Cutter_fillTo_105 : decode prog_3_method_14_code 105 = .ok (.iload 12, 2) := by decide +kernel
theorem d_Cutter_fillTo_107 : decode prog_3_method_14_code 107 = .ok (.laload, 1) := by decide +kernel
theorem d_Cutter_fillTo_108 : decode prog_3_method_14_code 108 = .ok (.ladd, 1) := by decide +kernel
theorem d_Cutter_fillTo_109 : decode prog_3_method_14_code 109 = .ok (.lload 9, 2) := by decide +kernel
theorem d_Cutter_fillTo_111 : decode prog_3_method_14_code 111 = .ok (.lcmp, 1) := by decide +kernel
theorem d_Cutter_fillTo_112 : decode prog_3_method_14_code 112 = .ok (.ifCond .le 28, 3) := by decide +kernel
theorem d_Cutter_fillTo_115 : decode prog_3_method_14_code 115 = .ok (.aload_n 0, 1) := by decide +kernel
theorem d_Cutter_fillTo_116 : decode prog_3_method_14_code 116 = .ok (.iload_n 1, 1) := by decide +kernel
theorem d_Cutter_fillTo_117 : decode prog_3_method_14_code 117 = .ok (.iload 12, 2) := by decide +kernel
theorem d_Cutter_fillTo_119 : decode prog_3_method_14_code 119 = .ok (.iload 8, 2) := by decide +kernel
theorem d_Cutter_fillTo_121 : decode prog_3_method_14_code 121 = .ok (.isub, 1) := by decide +kernel
theorem d_Cutter_fillTo_122 : decode prog_3_method_14_code 122 = .ok (.invokevirtual 158, 3) := by decide +kernel
theorem d_Cutter_fillTo_125 : decode prog_3_method_14_code 125 = .ok (.ifCond .eq 15, 3) := by decide +kernel
theorem d_Cutter_fillTo_128 : decode prog_3_method_14_code 128 = .ok (.lload 13, 2) := by decide +kernel
theorem d_Cutter_fillTo_130 : decode prog_3_method_14_code 130 = .ok (.aload_n 0, 1) := by decide +kernel
theorem d_Cutter_fillTo_131 : decode prog_3_method_14_code 131 = .ok (.getfield 16, 3) := by decide +kernel
theorem d_Cutter_fillTo_134 : decode prog_3_method_14_code 134 = .ok (.iload 12, 2) := by decide +kernel
theorem d_Cutter_fillTo_136 : decode prog_3_method_14_code 136 = .ok (.laload, 1) := by decide +kernel
theorem d_Cutter_fillTo_137 : decode prog_3_method_14_code 137 = .ok (.ladd, 1) := by decide +kernel
theorem d_Cutter_fillTo_138 : decode prog_3_method_14_code 138 = .ok (.lstore 9, 2) := by decide +kernel
theorem d_Cutter_fillTo_140 : decode prog_3_method_14_code 140 = .ok (.iload 11, 2) := by decide +kernel
theorem d_Cutter_fillTo_142 : decode prog_3_method_14_code 142 = .ok (.iload 12, 2) := by decide +kernel
theorem d_Cutter_fillTo_144 : decode prog_3_method_14_code 144 = .ok (.iload 7, 2) := by decide +kernel
theorem d_Cutter_fillTo_146 : decode prog_3_method_14_code 146 = .ok (.imul, 1) := by decide +kernel
theorem d_Cutter_fillTo_147 : decode prog_3_method_14_code 147 = .ok (.iadd, 1) := by decide +kernel
theorem d_Cutter_fillTo_148 : decode prog_3_method_14_code 148 = .ok (.istore 11, 2) := by decide +kernel
theorem d_Cutter_fillTo_150 : decode prog_3_method_14_code 150 = .ok (.iinc 12 1, 3) := by decide +kernel
theorem d_Cutter_fillTo_153 : decode prog_3_method_14_code 153 = .ok (.goto (-75), 3) := by decide +kernel
theorem d_Cutter_fillTo_156 : decode prog_3_method_14_code 156 = .ok (.aload_n 0, 1) := by decide +kernel
theorem d_Cutter_fillTo_157 : decode prog_3_method_14_code 157 = .ok (.getfield 16, 3) := by decide +kernel
theorem d_Cutter_fillTo_160 : decode prog_3_method_14_code 160 = .ok (.iload 8, 2) := by decide +kernel
theorem d_Cutter_fillTo_162 : decode prog_3_method_14_code 162 = .ok (.lload 9, 2) := by decide +kernel
theorem d_Cutter_fillTo_164 : decode prog_3_method_14_code 164 = .ok (.lastore, 1) := by decide +kernel
theorem d_Cutter_fillTo_165 : decode prog_3_method_14_code 165 = .ok (.aload 6, 2) := by decide +kernel
theorem d_Cutter_fillTo_167 : decode prog_3_method_14_code 167 = .ok (.aload_n 0, 1) := by decide +kernel
theorem d_Cutter_fillTo_168 : decode prog_3_method_14_code 168 = .ok (.iload_n 2, 1) := by decide +kernel
theorem d_Cutter_fillTo_169 : decode prog_3_method_14_code 169 = .ok (.iload 8, 2) := by decide +kernel
theorem d_Cutter_fillTo_171 : decode prog_3_method_14_code 171 = .ok (.iload 4, 2) := by decide +kernel
theorem d_Cutter_fillTo_173 : decode prog_3_method_14_code 173 = .ok (.invokestatic 104, 3) := by decide +kernel
theorem d_Cutter_fillTo_176 : decode prog_3_method_14_code 176 = .ok (.iload_n 3, 1) := by decide +kernel
theorem d_Cutter_fillTo_177 : decode prog_3_method_14_code 177 = .ok (.invokevirtual 154, 3) := by decide +kernel
theorem d_Cutter_fillTo_180 : decode prog_3_method_14_code 180 = .ok (.lload 9, 2) := by decide +kernel
theorem d_Cutter_fillTo_182 : decode prog_3_method_14_code 182 = .ok (.lastore, 1) := by decide +kernel
theorem d_Cutter_fillTo_183 : decode prog_3_method_14_code 183 = .ok (.iinc 8 (-1), 3) := by decide +kernel
theorem d_Cutter_fillTo_186 : decode prog_3_method_14_code 186 = .ok (.goto (-147), 3) := by decide +kernel
theorem d_Cutter_fillTo_189 : decode prog_3_method_14_code 189 = .ok (.return_, 1) := by decide +kernel
set_option maxRecDepth 50000 in
theorem cd_Cutter_fillTo : Cond.code y_Cutter_fillTo prog_3_method_14_code 15 none ∈ TB := mem_TB 656 rfl rfl
theorem im_Cutter_fillTo : Cond.instanceMethod y_Cutter_fillTo ∈ TB := mem_TB 655 (by decide +kernel) (by decide +kernel)
theorem sl_Cutter_fillTo : Cond.selects R_Cutter y_Cutter_fillTo y_Cutter_fillTo ∈ TB := mem_TBs (by decide +kernel) (by decide +kernel)
theorem hd_Cutter_fillTo : y_Cutter_fillTo.cls ≠ "java/lang/invoke/MethodHandle" ∧ y_Cutter_fillTo.cls ≠ "java/lang/invoke/VarHandle" ∧ (parseMethodDescriptor y_Cutter_fillTo.desc).map (fun d => d.parameters.length) = some 4 := by decide +kernel
def y_Cutter_layPlan : MethodName := ⟨R_Cutter, "layPlan", "(LFaultRips$Plan;IIIII)V"⟩
abbrev ws_Cutter_layPlan : List Cond := .code y_Cutter_layPlan prog_3_method_15_code 13 none :: TB
theorem d_Cutter_layPlan_0 : decode prog_3_method_15_code 0 = .ok (.iload_n 2, 1) := by decide +kernel
theorem d_Cutter_layPlan_1 : decode prog_3_method_15_code 1 = .ok (.ifCond .gt 16, 3) := by decide +kernel
theorem d_Cutter_layPlan_4 : decode prog_3_method_15_code 4 = .ok (.aload_n 0, 1) := by decide +kernel
theorem d_Cutter_layPlan_5 : decode prog_3_method_15_code 5 = .ok (.aload_n 1, 1) := by decide +kernel
theorem d_Cutter_layPlan_6 : decode prog_3_method_15_code 6 = .ok (.iload_n 3, 1) := by decide +kernel
theorem d_Cutter_layPlan_7 : decode prog_3_method_15_code 7 = .ok (.iload 4, 2) := by decide +kernel
theorem d_Cutter_layPlan_9 : decode prog_3_method_15_code 9 = .ok (.iload 5, 2) := by decide +kernel
theorem d_Cutter_layPlan_11 : decode prog_3_method_15_code 11 = .ok (.iload 6, 2) := by decide +kernel
theorem d_Cutter_layPlan_13 : decode prog_3_method_15_code 13 = .ok (.invokevirtual 162, 3) := by decide +kernel
theorem d_Cutter_layPlan_16 : decode prog_3_method_15_code 16 = .ok (.return_, 1) := by decide +kernel
theorem d_Cutter_layPlan_17 : decode prog_3_method_15_code 17 = .ok (.aload_n 0, 1) := by decide +kernel
theorem d_Cutter_layPlan_18 : decode prog_3_method_15_code 18 = .ok (.iload_n 2, 1) := by decide +kernel
theorem d_Cutter_layPlan_19 : decode prog_3_method_15_code 19 = .ok (.invokevirtual 144, 3) := by decide +kernel
theorem d_Cutter_layPlan_22 : decode prog_3_method_15_code 22 = .ok (.istore 7, 2) := by decide +kernel
theorem d_Cutter_layPlan_24 : decode prog_3_method_15_code 24 = .ok (.iload 7, 2) := by decide +kernel
theorem d_Cutter_layPlan_26 : decode prog_3_method_15_code 26 = .ok (.ifCond .ne 7, 3) := by decide +kernel
theorem d_Cutter_layPlan_29 : decode prog_3_method_15_code 29 = .ok (.iconst 1, 1) := by decide +kernel
theorem d_Cutter_layPlan_30 : decode prog_3_method_15_code 30 = .ok (.goto 4, 3) := by decide +kernel
theorem d_Cutter_layPlan_33 : decode prog_3_method_15_code 33 = .ok (.iconst 0, 1) := by decide +kernel
theorem d_Cutter_layPlan_34 : decode prog_3_method_15_code 34 = .ok (.istore 8, 2) := by decide +kernel
theorem d_Cutter_layPlan_36 : decode prog_3_method_15_code 36 = .ok (.iload 8, 2) := by decide +kernel
theorem d_Cutter_layPlan_38 : decode prog_3_method_15_code 38 = .ok (.ifCond .eq 12, 3) := by decide +kernel
theorem d_Cutter_layPlan_41 : decode prog_3_method_15_code 41 = .ok (.iload_n 3, 1) := by decide +kernel
theorem d_Cutter_layPlan_42 : decode prog_3_method_15_code 42 = .ok (.iload 4, 2) := by decide +kernel
theorem d_Cutter_layPlan_44 : decode prog_3_method_15_code 44 = .ok (.invokestatic 104, 3) := by decide +kernel
theorem d_Cutter_layPlan_47 : decode prog_3_method_15_code 47 = .ok (.goto 10, 3) := by decide +kernel
theorem d_Cutter_layPlan_50 : decode prog_3_method_15_code 50 = .ok (.iload 5, 2) := by decide +kernel
theorem d_Cutter_layPlan_52 : decode prog_3_method_15_code 52 = .ok (.iload 6, 2) := by decide +kernel
theorem d_Cutter_layPlan_54 : decode prog_3_method_15_code 54 = .ok (.invokestatic 104, 3) := by decide +kernel
theorem d_Cutter_layPlan_57 : decode prog_3_method_15_code 57 = .ok (.istore 9, 2) := by decide +kernel
theorem d_Cutter_layPlan_59 : decode prog_3_method_15_code 59 = .ok (.iload 8, 2) := by decide +kernel
theorem d_Cutter_layPlan_61 : decode prog_3_method_15_code 61 = .ok (.ifCond .eq 8, 3) := by decide +kernel
theorem d_Cutter_layPlan_64 : decode prog_3_method_15_code 64 = .ok (.iload 6, 2) := by decide +kernel
theorem d_Cutter_layPlan_66 : decode prog_3_method_15_code 66 = .ok (.goto 5, 3) := by decide +kernel
theorem d_Cutter_layPlan_69 : decode prog_3_method_15_code 69 = .ok (.iload 4, 2) := by decide +kernel
theorem d_Cutter_layPlan_71 : decode prog_3_method_15_code 71 = .ok (.istore 10, 2) := by decide +kernel
theorem d_Cutter_layPlan_73 : decode prog_3_method_15_code 73 = .ok (.iload 8, 2) := by decide +kernel
theorem d_Cutter_layPlan_75 : decode prog_3_method_15_code 75 = .ok (.ifCond .eq 8, 3) := by decide +kernel
theorem d_Cutter_layPlan_78 : decode prog_3_method_15_code 78 = .ok (.iload 5, 2) := by decide +kernel
theorem d_Cutter_layPlan_80 : decode prog_3_method_15_code 80 = .ok (.goto 4, 3) := by decide +kernel
theorem d_Cutter_layPlan_83 : decode prog_3_method_15_code 83 = .ok (.iload_n 3, 1) := by decide +kernel
theorem d_Cutter_layPlan_84 : decode prog_3_method_15_code 84 = .ok (.istore 11, 2) := by decide +kernel
theorem d_Cutter_layPlan_86 : decode prog_3_method_15_code 86 = .ok (.iload 11, 2) := by decide +kernel
theorem d_Cutter_layPlan_88 : decode prog_3_method_15_code 88 = .ok (.iload 10, 2) := by decide +kernel
theorem d_Cutter_layPlan_90 : decode prog_3_method_15_code 90 = .ok (.if_icmp .ge 92, 3) := by decide +kernel
theorem d_Cutter_layPlan_93 : decode prog_3_method_15_code 93 = .ok (.aload_n 0, 1) := by decide +kernel
theorem d_Cutter_layPlan_94 : decode prog_3_method_15_code 94 = .ok (.iload_n 2, 1) := by decide +kernel
theorem d_Cutter_layPlan_95 : decode prog_3_method_15_code 95 = .ok (.iload 9, 2) := by decide +kernel
theorem d_Cutter_layPlan_97 : decode prog_3_method_15_code 97 = .ok (.iload 11, 2) := by decide +kernel
theorem d_Cutter_layPlan_99 : decode prog_3_method_15_code 99 = .ok (.iload 10, 2) := by decide +kernel
theorem d_Cutter_layPlan_101 : decode prog_3_method_15_code 101 = .ok (.invokevirtual 166, 3) := by decide +kernel
theorem d_Cutter_layPlan_104 : decode prog_3_method_15_code 104 = .ok (.istore 12, 2) := by decide +kernel
theorem d_Cutter_layPlan_106 : decode prog_3_method_15_code 106 = .ok (.iload 12, 2) := by decide +kernel
theorem d_Cutter_layPlan_108 : decode prog_3_method_15_code 108 = .ok (.iload 11, 2) := by decide +kernel
theorem d_Cutter_layPlan_110 : decode prog_3_method_15_code 110 = .ok (.if_icmp .le 58, 3) := by decide +kernel
theorem d_Cutter_layPlan_113 : decode prog_3_method_15_code 113 = .ok (.aload_n 0, 1) := by decide +kernel
theorem d_Cutter_layPlan_114 : decode prog_3_method_15_code 114 = .ok (.aload_n 1, 1) := by decide +kernel
theorem d_Cutter_layPlan_115 : decode prog_3_method_15_code 115 = .ok (.iload_n 2, 1) := by decide +kernel
theorem d_Cutter_layPlan_116 : decode prog_3_method_15_code 116 = .ok (.iconst 1, 1) := by decide +kernel
theorem d_Cutter_layPlan_117 : decode prog_3_method_15_code 117 = .ok (.isub, 1) := by decide +kernel
theorem d_Cutter_layPlan_118 : decode prog_3_method_15_code 118 = .ok (.iload 8, 2) := by decide +kernel
theorem d_Cutter_layPlan_120 : decode prog_3_method_15_code 120 = .ok (.ifCond .eq 7, 3) := by decide +kernel
theorem d_Cutter_layPlan_123 : decode prog_3_method_15_code 123 = .ok (.iload_n 3, 1) := by decide +kernel
theorem d_Cutter_layPlan_124 : decode prog_3_method_15_code 124 = .ok (.goto 5, 3) := by decide +kernel
theorem d_Cutter_layPlan_127 : decode prog_3_method_15_code 127 = .ok (.iload 11, 2) := by decide +kernel
theorem d_Cutter_layPlan_129 : decode prog_3_method_15_code 129 = .ok (.iload 8, 2) := by decide +kernel
theorem d_Cutter_layPlan_131 : decode prog_3_method_15_code 131 = .ok (.ifCond .eq 8, 3) := by decide +kernel
theorem d_Cutter_layPlan_134 : decode prog_3_method_15_code 134 = .ok (.iload 4, 2) := by decide +kernel
theorem d_Cutter_layPlan_136 : decode prog_3_method_15_code 136 = .ok (.goto 5, 3) := by decide +kernel
theorem d_Cutter_layPlan_139 : decode prog_3_method_15_code 139 = .ok (.iload 12, 2) := by decide +kernel
theorem d_Cutter_layPlan_141 : decode prog_3_method_15_code 141 = .ok (.iload 8, 2) := by decide +kernel
theorem d_Cutter_layPlan_143 : decode prog_3_method_15_code 143 = .ok (.ifCond .eq 8, 3) := by decide +kernel
theorem d_Cutter_layPlan_146 : decode prog_3_method_15_code 146 = .ok (.iload 11, 2) := by decide +kernel
theorem d_Cutter_layPlan_148 : decode prog_3_method_15_code 148 = .ok (.goto 5, 3) := by decide +kernel
theorem d_Cutter_layPlan_151 : decode prog_3_method_15_code 151 = .ok (.iload 5, 2) := by decide +kernel
theorem d_Cutter_layPlan_153 : decode prog_3_method_15_code 153 = .ok (.iload 8, 2) := by decide +kernel
theorem d_Cutter_layPlan_155 : decode prog_3_method_15_code 155 = .ok (.ifCond .eq 8, 3) := by decide +kernel
theorem d_Cutter_layPlan_158 : decode prog_3_method_15_code 158 = .ok (.iload 12, 2) := by decide +kernel
theorem d_Cutter_layPlan_160 : decode prog_3_method_15_code 160 = .ok (.goto 5, 3) := by decide +kernel
theorem d_Cutter_layPlan_163 : decode prog_3_method_15_code 163 = .ok (.iload 6, 2) := by decide +kernel
theorem d_Cutter_layPlan_165 : decode prog_3_method_15_code 165 = .ok (.invokevirtual 76, 3) := by decide +kernel
theorem d_Cutter_layPlan_168 : decode prog_3_method_15_code 168 = .ok (.iload 11, 2) := by decide +kernel
theorem d_Cutter_layPlan_170 : decode prog_3_method_15_code 170 = .ok (.iconst 1, 1) := by decide +kernel
theorem d_Cutter_layPlan_171 : decode prog_3_method_15_code 171 = .ok (.iadd, 1) := by decide +kernel
theorem d_Cutter_layPlan_172 : decode prog_3_method_15_code 172 = .ok (.iload 12, 2) := by decide +kernel
theorem d_Cutter_layPlan_174 : decode prog_3_method_15_code 174 = .ok (.invokestatic 170, 3) := by decide +kernel
theorem d_Cutter_layPlan_177 : decode prog_3_method_15_code 177 = .ok (.istore 11, 2) := by decide +kernel
theorem d_Cutter_layPlan_179 : decode prog_3_method_15_code 179 = .ok (.goto (-93), 3) := by decide +kernel
theorem d_Cutter_layPlan_182 : decode prog_3_method_15_code 182 = .ok (.return_, 1) := by decide +kernel
set_option maxRecDepth 50000 in
theorem cd_Cutter_layPlan : Cond.code y_Cutter_layPlan prog_3_method_15_code 13 none ∈ TB := mem_TB 672 rfl rfl
theorem im_Cutter_layPlan : Cond.instanceMethod y_Cutter_layPlan ∈ TB := mem_TB 671 (by decide +kernel) (by decide +kernel)
theorem sl_Cutter_layPlan : Cond.selects R_Cutter y_Cutter_layPlan y_Cutter_layPlan ∈ TB := mem_TBs (by decide +kernel) (by decide +kernel)
theorem hd_Cutter_layPlan : y_Cutter_layPlan.cls ≠ "java/lang/invoke/MethodHandle" ∧ y_Cutter_layPlan.cls ≠ "java/lang/invoke/VarHandle" ∧ (parseMethodDescriptor y_Cutter_layPlan.desc).map (fun d => d.parameters.length) = some 6 := by decide +kernel
def y_Cutter_segmentEnd : MethodName := ⟨R_Cutter, "segmentEnd", "(IIII)I"⟩
abbrev ws_Cutter_segmentEnd : List Cond := .code y_Cutter_segmentEnd prog_3_method_16_code 15 (some .int) :: TB
theorem d_Cutter_segmentEnd_0 : decode prog_3_method_16_code 0 = .ok (.aload_n 0, 1) := by decide +kernel
theorem d_Cutter_segmentEnd_1 : decode prog_3_method_16_code 1 = .ok (.iload_n 1, 1) := by decide +kernel
theorem d_Cutter_segmentEnd_2 : decode prog_3_method_16_code 2 = .ok (.invokevirtual 144, 3) := by decide +kernel
theorem d_Cutter_segmentEnd_5 : decode prog_3_method_16_code 5 = .ok (.istore 5, 2) := by decide +kernel
theorem d_Cutter_segmentEnd_7 : decode prog_3_method_16_code 7 = .ok (.aload_n 0, 1) := by decide +kernel
theorem d_Cutter_segmentEnd_8 : decode prog_3_method_16_code 8 = .ok (.getfield 11, 3) := by decide +kernel
theorem d_Cutter_segmentEnd_11 : decode prog_3_method_16_code 11 = .ok (.iload_n 1, 1) := by decide +kernel
theorem d_Cutter_segmentEnd_12 : decode prog_3_method_16_code 12 = .ok (.iconst 1, 1) := by decide +kernel
theorem d_Cutter_segmentEnd_13 : decode prog_3_method_16_code 13 = .ok (.isub, 1) := by decide +kernel
theorem d_Cutter_segmentEnd_14 : decode prog_3_method_16_code 14 = .ok (.aaload, 1) := by decide +kernel
theorem d_Cutter_segmentEnd_15 : decode prog_3_method_16_code 15 = .ok (.astore 6, 2) := by decide +kernel
theorem d_Cutter_segmentEnd_17 : decode prog_3_method_16_code 17 = .ok (.aload_n 0, 1) := by decide +kernel
theorem d_Cutter_segmentEnd_18 : decode prog_3_method_16_code 18 = .ok (.getfield 11, 3) := by decide +kernel
theorem d_Cutter_segmentEnd_21 : decode prog_3_method_16_code 21 = .ok (.iload_n 1, 1) := by decide +kernel
theorem d_Cutter_segmentEnd_22 : decode prog_3_method_16_code 22 = .ok (.aaload, 1) := by decide +kernel
theorem d_Cutter_segmentEnd_23 : decode prog_3_method_16_code 23 = .ok (.astore 7, 2) := by decide +kernel
theorem d_Cutter_segmentEnd_25 : decode prog_3_method_16_code 25 = .ok (.aload 7, 2) := by decide +kernel
theorem d_Cutter_segmentEnd_27 : decode prog_3_method_16_code 27 = .ok (.aload_n 0, 1) := by decide +kernel
theorem d_Cutter_segmentEnd_28 : decode prog_3_method_16_code 28 = .ok (.iload 5, 2) := by decide +kernel
theorem d_Cutter_segmentEnd_30 : decode prog_3_method_16_code 30 = .ok (.iload_n 3, 1) := by decide +kernel
theorem d_Cutter_segmentEnd_31 : decode prog_3_method_16_code 31 = .ok (.iload 4, 2) := by decide +kernel
theorem d_Cutter_segmentEnd_33 : decode prog_3_method_16_code 33 = .ok (.invokestatic 104, 3) := by decide +kernel
theorem d_Cutter_segmentEnd_36 : decode prog_3_method_16_code 36 = .ok (.iload_n 2, 1) := by decide +kernel
theorem d_Cutter_segmentEnd_37 : decode prog_3_method_16_code 37 = .ok (.invokevirtual 154, 3) := by decide +kernel
theorem d_Cutter_segmentEnd_40 : decode prog_3_method_16_code 40 = .ok (.laload, 1) := by decide +kernel
theorem d_Cutter_segmentEnd_41 : decode prog_3_method_16_code 41 = .ok (.lstore 8, 2) := by decide +kernel
theorem d_Cutter_segmentEnd_43 : decode prog_3_method_16_code 43 = .ok (.iload 4, 2) := by decide +kernel
theorem d_Cutter_segmentEnd_45 : decode prog_3_method_16_code 45 = .ok (.istore 10, 2) := by decide +kernel
theorem d_Cutter_segmentEnd_47 : decode prog_3_method_16_code 47 = .ok (.iload 10, 2) := by decide +kernel
theorem d_Cutter_segmentEnd_49 : decode prog_3_method_16_code 49 = .ok (.iload_n 3, 1) := by decide +kernel
theorem d_Cutter_segmentEnd_50 : decode prog_3_method_16_code 50 = .ok (.if_icmp .le 90, 3) := by decide +kernel
theorem d_Cutter_segmentEnd_53 : decode prog_3_method_16_code 53 = .ok (.aload 6, 2) := by decide +kernel
theorem d_Cutter_segmentEnd_55 : decode prog_3_method_16_code 55 = .ok (.aload_n 0, 1) := by decide +kernel
theorem d_Cutter_segmentEnd_56 : decode prog_3_method_16_code 56 = .ok (.iload 5, 2) := by decide +kernel
theorem d_Cutter_segmentEnd_58 : decode prog_3_method_16_code 58 = .ok (.iload_n 3, 1) := by decide +kernel
theorem d_Cutter_segmentEnd_59 : decode prog_3_method_16_code 59 = .ok (.iload 10, 2) := by decide +kernel
theorem d_Cutter_segmentEnd_61 : decode prog_3_method_16_code 61 = .ok (.invokestatic 104, 3) := by decide +kernel
theorem d_Cutter_segmentEnd_64 : decode prog_3_method_16_code 64 = .ok (.iload_n 2, 1) := by decide +kernel
theorem d_Cutter_segmentEnd_65 : decode prog_3_method_16_code 65 = .ok (.invokevirtual 154, 3) := by decide +kernel
theorem d_Cutter_segmentEnd_68 : decode prog_3_method_16_code 68 = .ok (.laload, 1) := by decide +kernel
theorem d_Cutter_segmentEnd_69 : decode prog_3_method_16_code 69 = .ok (.lstore 11, 2) := by decide +kernel
theorem d_Cutter_segmentEnd_71 : decode prog_3_method_16_code 71 = .ok (.iload 10, 2) := by decide +kernel
theorem d_Cutter_segmentEnd_73 : decode prog_3_method_16_code 73 = .ok (.iload 4, 2) := by decide +kernel
theorem d_Cutter_segmentEnd_75 : decode prog_3_method_16_code 75 = .ok (.if_icmp .ne 7, 3) := by decide +kernel
theorem d_Cutter_segmentEnd_78 : decode prog_3_method_16_code 78 = .ok (.lconst 0, 1) := by decide +kernel
theorem d_Cutter_segmentEnd_79 : decode prog_3_method_16_code 79 = .ok (.goto 20, 3) := by decide +kernel
theorem d_Cutter_segmentEnd_82 : decode prog_3_method_16_code 82 = .ok (.aload 7, 2) := by decide +kernel
theorem d_Cutter_segmentEnd_84 : decode prog_3_method_16_code 84 = .ok (.aload_n 0, 1) := by decide +kernel
theorem d_Cutter_segmentEnd_85 : decode prog_3_method_16_code 85 = .ok (.iload 5, 2) := by decide +kernel
theorem d_Cutter_segmentEnd_87 : decode prog_3_method_16_code 87 = .ok (.iload 10, 2) := by decide +kernel
theorem d_Cutter_segmentEnd_89 : decode prog_3_method_16_code 89 = .ok (.iload 4, 2) := by decide +kernel
theorem d_Cutter_segmentEnd_91 : decode prog_3_method_16_code 91 = .ok (.invokestatic 104, 3) := by decide +kernel
theorem d_Cutter_segmentEnd_94 : decode prog_3_method_16_code 94 = .ok (.iload_n 2, 1) := by decide +kernel
theorem d_Cutter_segmentEnd_95 : decode prog_3_method_16_code 95 = .ok (.invokevirtual 154, 3) := by decide +kernel
theorem d_Cutter_segmentEnd_98 : decode prog_3_method_16_code 98 = .ok (.laload, 1) := by decide +kernel
theorem d_Cutter_segmentEnd_99 : decode prog_3_method_16_code 99 = .ok (.lstore 13, 2) := by decide +kernel
theorem d_Cutter_segmentEnd_101 : decode prog_3_method_16_code 101 = .ok (.lload 11, 2) := by decide +kernel
theorem d_Cutter_segmentEnd_103 : decode prog_3_method_16_code 103 = .ok (.lconst 0, 1) := by decide +kernel
theorem d_Cutter_segmentEnd_104 : decode prog_3_method_16_code 104 = .ok (.lcmp, 1) := by decide +kernel
theorem d_Cutter_segmentEnd_105 : decode prog_3_method_16_code 105 = .ok (.ifCond .le 29, 3) := by decide +kernel
theorem d_Cutter_segmentEnd_108 : decode prog_3_method_16_code 108 = .ok (.lload 11, 2) := by decide +kernel
theorem d_Cutter_segmentEnd_110 : decode prog_3_method_16_code 110 = .ok (.lload 13, 2) := by decide +kernel
theorem d_Cutter_segmentEnd_112 : decode prog_3_method_16_code 112 = .ok (.ladd, 1) := by decide +kernel
theorem d_Cutter_segmentEnd_113 : decode prog_3_method_16_code 113 = .ok (.lload 8, 2) := by decide +kernel
theorem d_Cutter_segmentEnd_115 : decode prog_3_method_16_code 115 = .ok (.lcmp, 1) := by decide +kernel
theorem d_Cutter_segmentEnd_116 : decode prog_3_method_16_code 116 = .ok (.ifCond .ne 18, 3) := by decide +kernel
theorem d_Cutter_segmentEnd_119 : decode prog_3_method_16_code 119 = .ok (.aload_n 0, 1) := by decide +kernel
theorem d_Cutter_segmentEnd_120 : decode prog_3_method_16_code 120 = .ok (.iload_n 1, 1) := by decide +kernel
theorem d_Cutter_segmentEnd_121 : decode prog_3_method_16_code 121 = .ok (.iload 10, 2) := by decide +kernel
theorem d_Cutter_segmentEnd_123 : decode prog_3_method_16_code 123 = .ok (.iload_n 3, 1) := by decide +kernel
theorem d_Cutter_segmentEnd_124 : decode prog_3_method_16_code 124 = .ok (.isub, 1) := by decide +kernel
theorem d_Cutter_segmentEnd_125 : decode prog_3_method_16_code 125 = .ok (.invokevirtual 158, 3) := by decide +kernel
theorem d_Cutter_segmentEnd_128 : decode prog_3_method_16_code 128 = .ok (.ifCond .eq 6, 3) := by decide +kernel
theorem d_Cutter_segmentEnd_131 : decode prog_3_method_16_code 131 = .ok (.iload 10, 2) := by decide +kernel
theorem d_Cutter_segmentEnd_133 : decode prog_3_method_16_code 133 = .ok (.ireturn, 1) := by decide +kernel
theorem d_Cutter_segmentEnd_134 : decode prog_3_method_16_code 134 = .ok (.iinc 10 (-1), 3) := by decide +kernel
theorem d_Cutter_segmentEnd_137 : decode prog_3_method_16_code 137 = .ok (.goto (-90), 3) := by decide +kernel
theorem d_Cutter_segmentEnd_140 : decode prog_3_method_16_code 140 = .ok (.iconst (-1), 1) := by decide +kernel
theorem d_Cutter_segmentEnd_141 : decode prog_3_method_16_code 141 = .ok (.ireturn, 1) := by decide +kernel
set_option maxRecDepth 50000 in
theorem cd_Cutter_segmentEnd : Cond.code y_Cutter_segmentEnd prog_3_method_16_code 15 (some .int) ∈ TB := mem_TB 688 rfl rfl
theorem im_Cutter_segmentEnd : Cond.instanceMethod y_Cutter_segmentEnd ∈ TB := mem_TB 687 (by decide +kernel) (by decide +kernel)
theorem sl_Cutter_segmentEnd : Cond.selects R_Cutter y_Cutter_segmentEnd y_Cutter_segmentEnd ∈ TB := mem_TBs (by decide +kernel) (by decide +kernel)
theorem hd_Cutter_segmentEnd : y_Cutter_segmentEnd.cls ≠ "java/lang/invoke/MethodHandle" ∧ y_Cutter_segmentEnd.cls ≠ "java/lang/invoke/VarHandle" ∧ (parseMethodDescriptor y_Cutter_segmentEnd.desc).map (fun d => d.parameters.length) = some 4 := by decide +kernel
def y_Cutter_layPiece : MethodName := ⟨R_Cutter, "layPiece", "(LFaultRips$Plan;IIII)V"⟩
abbrev ws_Cutter_layPiece : List Cond := .code y_Cutter_layPiece prog_3_method_17_code 13 none :: TB
theorem d_Cutter_layPiece_0 : decode prog_3_method_17_code 0 = .ok (.iload_n 2, 1) := by decide +kernel
theorem d_Cutter_layPiece_1 : decode prog_3_method_17_code 1 = .ok (.iload_n 3, 1) := by decide +kernel
theorem d_Cutter_layPiece_2 : decode prog_3_method_17_code 2 = .ok (.invokestatic 104, 3) := by decide +kernel
theorem d_Cutter_layPiece_5 : decode prog_3_method_17_code 5 = .ok (.istore 6, 2) := by decide +kernel
theorem d_Cutter_layPiece_7 : decode prog_3_method_17_code 7 = .ok (.iload 4, 2) := by decide +kernel
theorem d_Cutter_layPiece_9 : decode prog_3_method_17_code 9 = .ok (.iload 5, 2) := by decide +kernel
theorem d_Cutter_layPiece_11 : decode prog_3_method_17_code 11 = .ok (.invokestatic 104, 3) := by decide +kernel
theorem d_Cutter_layPiece_14 : decode prog_3_method_17_code 14 = .ok (.istore 7, 2) := by decide +kernel
theorem d_Cutter_layPiece_16 : decode prog_3_method_17_code 16 = .ok (.iload_n 3, 1) := by decide +kernel
theorem d_Cutter_layPiece_17 : decode prog_3_method_17_code 17 = .ok (.iload_n 2, 1) := by decide +kernel
theorem d_Cutter_layPiece_18 : decode prog_3_method_17_code 18 = .ok (.isub, 1) := by decide +kernel
theorem d_Cutter_layPiece_19 : decode prog_3_method_17_code 19 = .ok (.istore 8, 2) := by decide +kernel
theorem d_Cutter_layPiece_21 : decode prog_3_method_17_code 21 = .ok (.aload_n 0, 1) := by decide +kernel
theorem d_Cutter_layPiece_22 : decode prog_3_method_17_code 22 = .ok (.getfield 11, 3) := by decide +kernel
theorem d_Cutter_layPiece_25 : decode prog_3_method_17_code 25 = .ok (.iconst 0, 1) := by decide +kernel
theorem d_Cutter_layPiece_26 : decode prog_3_method_17_code 26 = .ok (.aaload, 1) := by decide +kernel
theorem d_Cutter_layPiece_27 : decode prog_3_method_17_code 27 = .ok (.iload 7, 2) := by decide +kernel
theorem d_Cutter_layPiece_29 : decode prog_3_method_17_code 29 = .ok (.aload_n 0, 1) := by decide +kernel
theorem d_Cutter_layPiece_30 : decode prog_3_method_17_code 30 = .ok (.getfield 47, 3) := by decide +kernel
theorem d_Cutter_layPiece_33 : decode prog_3_method_17_code 33 = .ok (.imul, 1) := by decide +kernel
theorem d_Cutter_layPiece_34 : decode prog_3_method_17_code 34 = .ok (.iload 6, 2) := by decide +kernel
theorem d_Cutter_layPiece_36 : decode prog_3_method_17_code 36 = .ok (.iadd, 1) := by decide +kernel
theorem d_Cutter_layPiece_37 : decode prog_3_method_17_code 37 = .ok (.laload, 1) := by decide +kernel
theorem d_Cutter_layPiece_38 : decode prog_3_method_17_code 38 = .ok (.lstore 9, 2) := by decide +kernel
theorem d_Cutter_layPiece_40 : decode prog_3_method_17_code 40 = .ok (.iconst 0, 1) := by decide +kernel
theorem d_Cutter_layPiece_41 : decode prog_3_method_17_code 41 = .ok (.istore 11, 2) := by decide +kernel
theorem d_Cutter_layPiece_43 : decode prog_3_method_17_code 43 = .ok (.iload 11, 2) := by decide +kernel
theorem d_Cutter_layPiece_45 : decode prog_3_method_17_code 45 = .ok (.aload_n 0, 1) := by decide +kernel
theorem d_Cutter_layPiece_46 : decode prog_3_method_17_code 46 = .ok (.getfield 34, 3) := by decide +kernel
theorem d_Cutter_layPiece_49 : decode prog_3_method_17_code 49 = .ok (.getfield 92, 3) := by decide +kernel
theorem d_Cutter_layPiece_52 : decode prog_3_method_17_code 52 = .ok (.if_icmp .ge 94, 3) := by decide +kernel
theorem d_Cutter_layPiece_55 : decode prog_3_method_17_code 55 = .ok (.aload_n 0, 1) := by decide +kernel
theorem d_Cutter_layPiece_56 : decode prog_3_method_17_code 56 = .ok (.getfield 34, 3) := by decide +kernel
theorem d_Cutter_layPiece_59 : decode prog_3_method_17_code 59 = .ok (.getfield 97, 3) := by decide +kernel
theorem d_Cutter_layPiece_62 : decode prog_3_method_17_code 62 = .ok (.iload 11, 2) := by decide +kernel
theorem d_Cutter_layPiece_64 : decode prog_3_method_17_code 64 = .ok (.aaload, 1) := by decide +kernel
theorem d_Cutter_layPiece_65 : decode prog_3_method_17_code 65 = .ok (.astore 12, 2) := by decide +kernel
theorem d_Cutter_layPiece_67 : decode prog_3_method_17_code 67 = .ok (.aload 12, 2) := by decide +kernel
theorem d_Cutter_layPiece_69 : decode prog_3_method_17_code 69 = .ok (.getfield 101, 3) := by decide +kernel
theorem d_Cutter_layPiece_72 : decode prog_3_method_17_code 72 = .ok (.iload 5, 2) := by decide +kernel
theorem d_Cutter_layPiece_74 : decode prog_3_method_17_code 74 = .ok (.iload 4, 2) := by decide +kernel
theorem d_Cutter_layPiece_76 : decode prog_3_method_17_code 76 = .ok (.isub, 1) := by decide +kernel
theorem d_Cutter_layPiece_77 : decode prog_3_method_17_code 77 = .ok (.if_icmp .ne 63, 3) := by decide +kernel
theorem d_Cutter_layPiece_80 : decode prog_3_method_17_code 80 = .ok (.aload 12, 2) := by decide +kernel
theorem d_Cutter_layPiece_82 : decode prog_3_method_17_code 82 = .ok (.iload 8, 2) := by decide +kernel
theorem d_Cutter_layPiece_84 : decode prog_3_method_17_code 84 = .ok (.invokevirtual 175, 3) := by decide +kernel
theorem d_Cutter_layPiece_87 : decode prog_3_method_17_code 87 = .ok (.ifCond .eq 53, 3) := by decide +kernel
theorem d_Cutter_layPiece_90 : decode prog_3_method_17_code 90 = .ok (.aload 12, 2) := by decide +kernel
theorem d_Cutter_layPiece_92 : decode prog_3_method_17_code 92 = .ok (.iload 8, 2) := by decide +kernel
theorem d_Cutter_layPiece_94 : decode prog_3_method_17_code 94 = .ok (.invokestatic 118, 3) := by decide +kernel
theorem d_Cutter_layPiece_97 : decode prog_3_method_17_code 97 = .ok (.lload 9, 2) := by decide +kernel
theorem d_Cutter_layPiece_99 : decode prog_3_method_17_code 99 = .ok (.lcmp, 1) := by decide +kernel
theorem d_Cutter_layPiece_100 : decode prog_3_method_17_code 100 = .ok (.ifCond .ne 40, 3) := by decide +kernel
theorem d_Cutter_layPiece_103 : decode prog_3_method_17_code 103 = .ok (.aload_n 0, 1) := by decide +kernel
theorem d_Cutter_layPiece_104 : decode prog_3_method_17_code 104 = .ok (.aload 12, 2) := by decide +kernel
theorem d_Cutter_layPiece_106 : decode prog_3_method_17_code 106 = .ok (.iload 6, 2) := by decide +kernel
theorem d_Cutter_layPiece_108 : decode prog_3_method_17_code 108 = .ok (.iload 7, 2) := by decide +kernel
theorem d_Cutter_layPiece_110 : decode prog_3_method_17_code 110 = .ok (.invokevirtual 122, 3) := by decide +kernel
theorem d_Cutter_layPiece_113 : decode prog_3_method_17_code 113 = .ok (.ifCond .eq 27, 3) := by decide +kernel
theorem d_Cutter_layPiece_116 : decode prog_3_method_17_code 116 = .ok (.aload_n 1, 1) := by decide +kernel
theorem d_Cutter_layPiece_117 : decode prog_3_method_17_code 117 = .ok (.iload_n 2, 1) := by decide +kernel
theorem d_Cutter_layPiece_118 : decode prog_3_method_17_code 118 = .ok (.iload 4, 2) := by decide +kernel
theorem d_Cutter_layPiece_120 : decode prog_3_method_17_code 120 = .ok (.iload 8, 2) := by decide +kernel
theorem d_Cutter_layPiece_122 : decode prog_3_method_17_code 122 = .ok (.iload 5, 2) := by decide +kernel
theorem d_Cutter_layPiece_124 : decode prog_3_method_17_code 124 = .ok (.iload 4, 2) := by decide +kernel
theorem d_Cutter_layPiece_126 : decode prog_3_method_17_code 126 = .ok (.isub, 1) := by decide +kernel
theorem d_Cutter_layPiece_127 : decode prog_3_method_17_code 127 = .ok (.iload 11, 2) := by decide +kernel
theorem d_Cutter_layPiece_129 : decode prog_3_method_17_code 129 = .ok (.aload 12, 2) := by decide +kernel
theorem d_Cutter_layPiece_131 : decode prog_3_method_17_code 131 = .ok (.iload 8, 2) := by decide +kernel
theorem d_Cutter_layPiece_133 : decode prog_3_method_17_code 133 = .ok (.invokevirtual 126, 3) := by decide +kernel
theorem d_Cutter_layPiece_136 : decode prog_3_method_17_code 136 = .ok (.invokevirtual 178, 3) := by decide +kernel
theorem d_Cutter_layPiece_139 : decode prog_3_method_17_code 139 = .ok (.return_, 1) := by decide +kernel
theorem d_Cutter_layPiece_140 : decode prog_3_method_17_code 140 = .ok (.iinc 11 1, 3) := by decide +kernel
theorem d_Cutter_layPiece_143 : decode prog_3_method_17_code 143 = .ok (.goto (-100), 3) := by decide +kernel
theorem d_Cutter_layPiece_146 : decode prog_3_method_17_code 146 = .ok (.return_, 1) := by decide +kernel
set_option maxRecDepth 50000 in
theorem cd_Cutter_layPiece : Cond.code y_Cutter_layPiece prog_3_method_17_code 13 none ∈ TB := mem_TB 676 rfl rfl
theorem im_Cutter_layPiece : Cond.instanceMethod y_Cutter_layPiece ∈ TB := mem_TB 675 (by decide +kernel) (by decide +kernel)
theorem sl_Cutter_layPiece : Cond.selects R_Cutter y_Cutter_layPiece y_Cutter_layPiece ∈ TB := mem_TBs (by decide +kernel) (by decide +kernel)
theorem hd_Cutter_layPiece : y_Cutter_layPiece.cls ≠ "java/lang/invoke/MethodHandle" ∧ y_Cutter_layPiece.cls ≠ "java/lang/invoke/VarHandle" ∧ (parseMethodDescriptor y_Cutter_layPiece.desc).map (fun d => d.parameters.length) = some 5 := by decide +kernel
def y_Fault_init : MethodName := ⟨R_Fault, "<init>", "(IIIIII)V"⟩
abbrev ws_Fault_init : List Cond := .code y_Fault_init prog_4_method_1_code 7 none :: TB
theorem d_Fault_init_0 : decode prog_4_method_1_code 0 = .ok (.aload_n 0, 1) := by decide +kernel
theorem d_Fault_init_1 : decode prog_4_method_1_code 1 = .ok (.invokespecial 3, 3) := by decide +kernel
theorem d_Fault_init_4 : decode prog_4_method_1_code 4 = .ok (.aload_n 0, 1) := by decide +kernel
theorem d_Fault_init_5 : decode prog_4_method_1_code 5 = .ok (.iload_n 1, 1) := by decide +kernel
theorem d_Fault_init_6 : decode prog_4_method_1_code 6 = .ok (.putfield 9, 3) := by decide +kernel
theorem d_Fault_init_9 : decode prog_4_method_1_code 9 = .ok (.aload_n 0, 1) := by decide +kernel
theorem d_Fault_init_10 : decode prog_4_method_1_code 10 = .ok (.iload_n 2, 1) := by decide +kernel
theorem d_Fault_init_11 : decode prog_4_method_1_code 11 = .ok (.putfield 15, 3) := by decide +kernel
theorem d_Fault_init_14 : decode prog_4_method_1_code 14 = .ok (.aload_n 0, 1) := by decide +kernel
theorem d_Fault_init_15 : decode prog_4_method_1_code 15 = .ok (.iload_n 3, 1) := by decide +kernel
theorem d_Fault_init_16 : decode prog_4_method_1_code 16 = .ok (.putfield 18, 3) := by decide +kernel
theorem d_Fault_init_19 : decode prog_4_method_1_code 19 = .ok (.aload_n 0, 1) := by decide +kernel
theorem d_Fault_init_20 : decode prog_4_method_1_code 20 = .ok (.iload 4, 2) := by decide +kernel
theorem d_Fault_init_22 : decode prog_4_method_1_code 22 = .ok (.putfield 21, 3) := by decide +kernel
theorem d_Fault_init_25 : decode prog_4_method_1_code 25 = .ok (.aload_n 0, 1) := by decide +kernel
theorem d_Fault_init_26 : decode prog_4_method_1_code 26 = .ok (.iload 5, 2) := by decide +kernel
theorem d_Fault_init_28 : decode prog_4_method_1_code 28 = .ok (.putfield 24, 3) := by decide +kernel
theorem d_Fault_init_31 : decode prog_4_method_1_code 31 = .ok (.aload_n 0, 1) := by decide +kernel
theorem d_Fault_init_32 : decode prog_4_method_1_code 32 = .ok (.iload 6, 2) := by decide +kernel
theorem d_Fault_init_34 : decode prog_4_method_1_code 34 = .ok (.putfield 27, 3) := by decide +kernel
theorem d_Fault_init_37 : decode prog_4_method_1_code 37 = .ok (.return_, 1) := by decide +kernel
set_option maxRecDepth 50000 in
theorem cd_Fault_init : Cond.code y_Fault_init prog_4_method_1_code 7 none ∈ TB := mem_TB 403 rfl rfl
theorem im_Fault_init : Cond.instanceMethod y_Fault_init ∈ TB := mem_TB 402 (by decide +kernel) (by decide +kernel)
theorem hd_Fault_init : y_Fault_init.cls ≠ "java/lang/invoke/MethodHandle" ∧ y_Fault_init.cls ≠ "java/lang/invoke/VarHandle" ∧ (parseMethodDescriptor y_Fault_init.desc).map (fun d => d.parameters.length) = some 6 := by decide +kernel
def y_Fault_meets : MethodName := ⟨R_Fault, "meets", "(IIII)Z"⟩
abbrev ws_Fault_meets : List Cond := .code y_Fault_meets prog_4_method_2_code 7 (some .boolean) :: TB
theorem d_Fault_meets_0 : decode prog_4_method_2_code 0 = .ok (.iload_n 1, 1) := by decide +kernel
theorem d_Fault_meets_1 : decode prog_4_method_2_code 1 = .ok (.ifCond .ne 10, 3) := by decide +kernel
theorem d_Fault_meets_4 : decode prog_4_method_2_code 4 = .ok (.aload_n 0, 1) := by decide +kernel
theorem d_Fault_meets_5 : decode prog_4_method_2_code 5 = .ok (.getfield 21, 3) := by decide +kernel
theorem d_Fault_meets_8 : decode prog_4_method_2_code 8 = .ok (.goto 7, 3) := by decide +kernel
theorem d_Fault_meets_11 : decode prog_4_method_2_code 11 = .ok (.aload_n 0, 1) := by decide +kernel
theorem d_Fault_meets_12 : decode prog_4_method_2_code 12 = .ok (.getfield 18, 3) := by decide +kernel
theorem d_Fault_meets_15 : decode prog_4_method_2_code 15 = .ok (.istore 5, 2) := by decide +kernel
theorem d_Fault_meets_17 : decode prog_4_method_2_code 17 = .ok (.iload_n 1, 1) := by decide +kernel
theorem d_Fault_meets_18 : decode prog_4_method_2_code 18 = .ok (.ifCond .ne 10, 3) := by decide +kernel
theorem d_Fault_meets_21 : decode prog_4_method_2_code 21 = .ok (.aload_n 0, 1) := by decide +kernel
theorem d_Fault_meets_22 : decode prog_4_method_2_code 22 = .ok (.getfield 27, 3) := by decide +kernel
theorem d_Fault_meets_25 : decode prog_4_method_2_code 25 = .ok (.goto 7, 3) := by decide +kernel
theorem d_Fault_meets_28 : decode prog_4_method_2_code 28 = .ok (.aload_n 0, 1) := by decide +kernel
theorem d_Fault_meets_29 : decode prog_4_method_2_code 29 = .ok (.getfield 24, 3) := by decide +kernel
theorem d_Fault_meets_32 : decode prog_4_method_2_code 32 = .ok (.istore 6, 2) := by decide +kernel
theorem d_Fault_meets_34 : decode prog_4_method_2_code 34 = .ok (.iload 5, 2) := by decide +kernel
theorem d_Fault_meets_36 : decode prog_4_method_2_code 36 = .ok (.iload 4, 2) := by decide +kernel
theorem d_Fault_meets_38 : decode prog_4_method_2_code 38 = .ok (.isub, 1) := by decide +kernel
theorem d_Fault_meets_39 : decode prog_4_method_2_code 39 = .ok (.iload_n 3, 1) := by decide +kernel
theorem d_Fault_meets_40 : decode prog_4_method_2_code 40 = .ok (.if_icmp .ge 19, 3) := by decide +kernel
theorem d_Fault_meets_43 : decode prog_4_method_2_code 43 = .ok (.iload 5, 2) := by decide +kernel
theorem d_Fault_meets_45 : decode prog_4_method_2_code 45 = .ok (.iload 6, 2) := by decide +kernel
theorem d_Fault_meets_47 : decode prog_4_method_2_code 47 = .ok (.iadd, 1) := by decide +kernel
theorem d_Fault_meets_48 : decode prog_4_method_2_code 48 = .ok (.iload 4, 2) := by decide +kernel
theorem d_Fault_meets_50 : decode prog_4_method_2_code 50 = .ok (.iadd, 1) := by decide +kernel
theorem d_Fault_meets_51 : decode prog_4_method_2_code 51 = .ok (.iload_n 2, 1) := by decide +kernel
theorem d_Fault_meets_52 : decode prog_4_method_2_code 52 = .ok (.if_icmp .le 7, 3) := by decide +kernel
theorem d_Fault_meets_55 : decode prog_4_method_2_code 55 = .ok (.iconst 1, 1) := by decide +kernel
theorem d_Fault_meets_56 : decode prog_4_method_2_code 56 = .ok (.goto 4, 3) := by decide +kernel
theorem d_Fault_meets_59 : decode prog_4_method_2_code 59 = .ok (.iconst 0, 1) := by decide +kernel
theorem d_Fault_meets_60 : decode prog_4_method_2_code 60 = .ok (.ireturn, 1) := by decide +kernel
set_option maxRecDepth 50000 in
theorem cd_Fault_meets : Cond.code y_Fault_meets prog_4_method_2_code 7 (some .boolean) ∈ TB := mem_TB 580 rfl rfl
theorem im_Fault_meets : Cond.instanceMethod y_Fault_meets ∈ TB := mem_TB 578 (by decide +kernel) (by decide +kernel)
theorem sl_Fault_meets : Cond.selects R_Fault y_Fault_meets y_Fault_meets ∈ TB := mem_TB 579 (by decide +kernel) (by decide +kernel)
theorem hd_Fault_meets : y_Fault_meets.cls ≠ "java/lang/invoke/MethodHandle" ∧ y_Fault_meets.cls ≠ "java/lang/invoke/VarHandle" ∧ (parseMethodDescriptor y_Fault_meets.desc).map (fun d => d.parameters.length) = some 4 := by decide +kernel
def y_Gang_init : MethodName := ⟨R_Gang, "<init>", "()V"⟩
abbrev ws_Gang_init : List Cond := .code y_Gang_init prog_5_method_1_code 1 none :: TB
theorem d_Gang_init_0 : decode prog_5_method_1_code 0 = .ok (.aload_n 0, 1) := by decide +kernel
theorem d_Gang_init_1 : decode prog_5_method_1_code 1 = .ok (.invokespecial 3, 3) := by decide +kernel
theorem d_Gang_init_4 : decode prog_5_method_1_code 4 = .ok (.aload_n 0, 1) := by decide +kernel
theorem d_Gang_init_5 : decode prog_5_method_1_code 5 = .ok (.sipush 1025, 3) := by decide +kernel
theorem d_Gang_init_8 : decode prog_5_method_1_code 8 = .ok (.newarray .long, 2) := by decide +kernel
theorem d_Gang_init_10 : decode prog_5_method_1_code 10 = .ok (.putfield 11, 3) := by decide +kernel
theorem d_Gang_init_13 : decode prog_5_method_1_code 13 = .ok (.aload_n 0, 1) := by decide +kernel
theorem d_Gang_init_14 : decode prog_5_method_1_code 14 = .ok (.iconst 0, 1) := by decide +kernel
theorem d_Gang_init_15 : decode prog_5_method_1_code 15 = .ok (.putfield 15, 3) := by decide +kernel
theorem d_Gang_init_18 : decode prog_5_method_1_code 18 = .ok (.return_, 1) := by decide +kernel
set_option maxRecDepth 50000 in
theorem cd_Gang_init : Cond.code y_Gang_init prog_5_method_1_code 1 none ∈ TB := mem_TB 118 rfl rfl
theorem im_Gang_init : Cond.instanceMethod y_Gang_init ∈ TB := mem_TB 117 (by decide +kernel) (by decide +kernel)
theorem hd_Gang_init : y_Gang_init.cls ≠ "java/lang/invoke/MethodHandle" ∧ y_Gang_init.cls ≠ "java/lang/invoke/VarHandle" ∧ (parseMethodDescriptor y_Gang_init.desc).map (fun d => d.parameters.length) = some 0 := by decide +kernel
def y_Gang_holds : MethodName := ⟨R_Gang, "holds", "(I)Z"⟩
abbrev ws_Gang_holds : List Cond := .code y_Gang_holds prog_5_method_2_code 3 (some .boolean) :: TB
theorem d_Gang_holds_0 : decode prog_5_method_2_code 0 = .ok (.iload_n 1, 1) := by decide +kernel
theorem d_Gang_holds_1 : decode prog_5_method_2_code 1 = .ok (.bipush 64, 2) := by decide +kernel
theorem d_Gang_holds_3 : decode prog_5_method_2_code 3 = .ok (.idiv, 1) := by decide +kernel
theorem d_Gang_holds_4 : decode prog_5_method_2_code 4 = .ok (.istore_n 2, 1) := by decide +kernel
theorem d_Gang_holds_5 : decode prog_5_method_2_code 5 = .ok (.iload_n 1, 1) := by decide +kernel
theorem d_Gang_holds_6 : decode prog_5_method_2_code 6 = .ok (.ifCond .lt 34, 3) := by decide +kernel
theorem d_Gang_holds_9 : decode prog_5_method_2_code 9 = .ok (.iload_n 2, 1) := by decide +kernel
theorem d_Gang_holds_10 : decode prog_5_method_2_code 10 = .ok (.aload_n 0, 1) := by decide +kernel
theorem d_Gang_holds_11 : decode prog_5_method_2_code 11 = .ok (.getfield 11, 3) := by decide +kernel
theorem d_Gang_holds_14 : decode prog_5_method_2_code 14 = .ok (.arraylength, 1) := by decide +kernel
theorem d_Gang_holds_15 : decode prog_5_method_2_code 15 = .ok (.if_icmp .ge 25, 3) := by decide +kernel
theorem d_Gang_holds_18 : decode prog_5_method_2_code 18 = .ok (.aload_n 0, 1) := by decide +kernel
theorem d_Gang_holds_19 : decode prog_5_method_2_code 19 = .ok (.getfield 11, 3) := by decide +kernel
theorem d_Gang_holds_22 : decode prog_5_method_2_code 22 = .ok (.iload_n 2, 1) := by decide +kernel
theorem d_Gang_holds_23 : decode prog_5_method_2_code 23 = .ok (.laload, 1) := by decide +kernel
theorem d_Gang_holds_24 : decode prog_5_method_2_code 24 = .ok (.iload_n 1, 1) := by decide +kernel
theorem d_Gang_holds_25 : decode prog_5_method_2_code 25 = .ok (.bipush 64, 2) := by decide +kernel
theorem d_Gang_holds_27 : decode prog_5_method_2_code 27 = .ok (.irem, 1) := by decide +kernel
theorem d_Gang_holds_28 : decode prog_5_method_2_code 28 = .ok (.lshr, 1) := by decide +kernel
theorem d_Gang_holds_29 : decode prog_5_method_2_code 29 = .ok (.lconst 1, 1) := by decide +kernel
theorem d_Gang_holds_30 : decode prog_5_method_2_code 30 = .ok (.land, 1) := by decide +kernel
theorem d_Gang_holds_31 : decode prog_5_method_2_code 31 = .ok (.lconst 1, 1) := by decide +kernel
theorem d_Gang_holds_32 : decode prog_5_method_2_code 32 = .ok (.lcmp, 1) := by decide +kernel
theorem d_Gang_holds_33 : decode prog_5_method_2_code 33 = .ok (.ifCond .ne 7, 3) := by decide +kernel
theorem d_Gang_holds_36 : decode prog_5_method_2_code 36 = .ok (.iconst 1, 1) := by decide +kernel
theorem d_Gang_holds_37 : decode prog_5_method_2_code 37 = .ok (.goto 4, 3) := by decide +kernel
theorem d_Gang_holds_40 : decode prog_5_method_2_code 40 = .ok (.iconst 0, 1) := by decide +kernel
theorem d_Gang_holds_41 : decode prog_5_method_2_code 41 = .ok (.ireturn, 1) := by decide +kernel
set_option maxRecDepth 50000 in
theorem cd_Gang_holds : Cond.code y_Gang_holds prog_5_method_2_code 3 (some .boolean) ∈ TB := mem_TB 518 rfl rfl
theorem im_Gang_holds : Cond.instanceMethod y_Gang_holds ∈ TB := mem_TB 516 (by decide +kernel) (by decide +kernel)
theorem sl_Gang_holds : Cond.selects R_Gang y_Gang_holds y_Gang_holds ∈ TB := mem_TB 517 (by decide +kernel) (by decide +kernel)
theorem hd_Gang_holds : y_Gang_holds.cls ≠ "java/lang/invoke/MethodHandle" ∧ y_Gang_holds.cls ≠ "java/lang/invoke/VarHandle" ∧ (parseMethodDescriptor y_Gang_holds.desc).map (fun d => d.parameters.length) = some 1 := by decide +kernel
def y_Gang_addWidth : MethodName := ⟨R_Gang, "addWidth", "(I)V"⟩
abbrev ws_Gang_addWidth : List Cond := .code y_Gang_addWidth prog_5_method_3_code 3 none :: TB
theorem d_Gang_addWidth_0 : decode prog_5_method_3_code 0 = .ok (.iload_n 1, 1) := by decide +kernel
theorem d_Gang_addWidth_1 : decode prog_5_method_3_code 1 = .ok (.bipush 64, 2) := by decide +kernel
theorem d_Gang_addWidth_3 : decode prog_5_method_3_code 3 = .ok (.idiv, 1) := by decide +kernel
theorem d_Gang_addWidth_4 : decode prog_5_method_3_code 4 = .ok (.istore_n 2, 1) := by decide +kernel
theorem d_Gang_addWidth_5 : decode prog_5_method_3_code 5 = .ok (.iload_n 1, 1) := by decide +kernel
theorem d_Gang_addWidth_6 : decode prog_5_method_3_code 6 = .ok (.ifCond .lt 32, 3) := by decide +kernel
theorem d_Gang_addWidth_9 : decode prog_5_method_3_code 9 = .ok (.iload_n 2, 1) := by decide +kernel
theorem d_Gang_addWidth_10 : decode prog_5_method_3_code 10 = .ok (.aload_n 0, 1) := by decide +kernel
theorem d_Gang_addWidth_11 : decode prog_5_method_3_code 11 = .ok (.getfield 11, 3) := by decide +kernel
theorem d_Gang_addWidth_14 : decode prog_5_method_3_code 14 = .ok (.arraylength, 1) := by decide +kernel
theorem d_Gang_addWidth_15 : decode prog_5_method_3_code 15 = .ok (.if_icmp .ge 23, 3) := by decide +kernel
theorem d_Gang_addWidth_18 : decode prog_5_method_3_code 18 = .ok (.aload_n 0, 1) := by decide +kernel
theorem d_Gang_addWidth_19 : decode prog_5_method_3_code 19 = .ok (.getfield 11, 3) := by decide +kernel
theorem d_Gang_addWidth_22 : decode prog_5_method_3_code 22 = .ok (.iload_n 2, 1) := by decide +kernel
theorem d_Gang_addWidth_23 : decode prog_5_method_3_code 23 = .ok (.dup2, 1) := by decide +kernel
theorem d_Gang_addWidth_24 : decode prog_5_method_3_code 24 = .ok (.laload, 1) := by decide +kernel
theorem d_Gang_addWidth_25 : decode prog_5_method_3_code 25 = .ok (.lconst 1, 1) := by decide +kernel
theorem d_Gang_addWidth_26 : decode prog_5_method_3_code 26 = .ok (.iload_n 1, 1) := by decide +kernel
theorem d_Gang_addWidth_27 : decode prog_5_method_3_code 27 = .ok (.bipush 64, 2) := by decide +kernel
theorem d_Gang_addWidth_29 : decode prog_5_method_3_code 29 = .ok (.irem, 1) := by decide +kernel
theorem d_Gang_addWidth_30 : decode prog_5_method_3_code 30 = .ok (.lshl, 1) := by decide +kernel
theorem d_Gang_addWidth_31 : decode prog_5_method_3_code 31 = .ok (.lor, 1) := by decide +kernel
theorem d_Gang_addWidth_32 : decode prog_5_method_3_code 32 = .ok (.lastore, 1) := by decide +kernel
theorem d_Gang_addWidth_33 : decode prog_5_method_3_code 33 = .ok (.aload_n 0, 1) := by decide +kernel
theorem d_Gang_addWidth_34 : decode prog_5_method_3_code 34 = .ok (.iconst 1, 1) := by decide +kernel
theorem d_Gang_addWidth_35 : decode prog_5_method_3_code 35 = .ok (.putfield 15, 3) := by decide +kernel
theorem d_Gang_addWidth_38 : decode prog_5_method_3_code 38 = .ok (.return_, 1) := by decide +kernel
set_option maxRecDepth 50000 in
theorem cd_Gang_addWidth : Cond.code y_Gang_addWidth prog_5_method_3_code 3 none ∈ TB := mem_TB 522 rfl rfl
theorem im_Gang_addWidth : Cond.instanceMethod y_Gang_addWidth ∈ TB := mem_TB 520 (by decide +kernel) (by decide +kernel)
theorem sl_Gang_addWidth : Cond.selects R_Gang y_Gang_addWidth y_Gang_addWidth ∈ TB := mem_TB 521 (by decide +kernel) (by decide +kernel)
theorem hd_Gang_addWidth : y_Gang_addWidth.cls ≠ "java/lang/invoke/MethodHandle" ∧ y_Gang_addWidth.cls ≠ "java/lang/invoke/VarHandle" ∧ (parseMethodDescriptor y_Gang_addWidth.desc).map (fun d => d.parameters.length) = some 1 := by decide +kernel
def y_Gang_mayRip : MethodName := ⟨R_Gang, "mayRip", "(I)Z"⟩
abbrev ws_Gang_mayRip : List Cond := .code y_Gang_mayRip prog_5_method_4_code 2 (some .boolean) :: TB
theorem d_Gang_mayRip_0 : decode prog_5_method_4_code 0 = .ok (.aload_n 0, 1) := by decide +kernel
theorem d_Gang_mayRip_1 : decode prog_5_method_4_code 1 = .ok (.getfield 15, 3) := by decide +kernel
theorem d_Gang_mayRip_4 : decode prog_5_method_4_code 4 = .ok (.ifCond .eq 11, 3) := by decide +kernel
theorem d_Gang_mayRip_7 : decode prog_5_method_4_code 7 = .ok (.aload_n 0, 1) := by decide +kernel
theorem d_Gang_mayRip_8 : decode prog_5_method_4_code 8 = .ok (.iload_n 1, 1) := by decide +kernel
theorem d_Gang_mayRip_9 : decode prog_5_method_4_code 9 = .ok (.invokevirtual 19, 3) := by decide +kernel
theorem d_Gang_mayRip_12 : decode prog_5_method_4_code 12 = .ok (.ifCond .eq 7, 3) := by decide +kernel
theorem d_Gang_mayRip_15 : decode prog_5_method_4_code 15 = .ok (.iconst 1, 1) := by decide +kernel
theorem d_Gang_mayRip_16 : decode prog_5_method_4_code 16 = .ok (.goto 4, 3) := by decide +kernel
theorem d_Gang_mayRip_19 : decode prog_5_method_4_code 19 = .ok (.iconst 0, 1) := by decide +kernel
theorem d_Gang_mayRip_20 : decode prog_5_method_4_code 20 = .ok (.ireturn, 1) := by decide +kernel
set_option maxRecDepth 50000 in
theorem cd_Gang_mayRip : Cond.code y_Gang_mayRip prog_5_method_4_code 2 (some .boolean) ∈ TB := mem_TB 610 rfl rfl
theorem im_Gang_mayRip : Cond.instanceMethod y_Gang_mayRip ∈ TB := mem_TB 608 (by decide +kernel) (by decide +kernel)
theorem sl_Gang_mayRip : Cond.selects R_Gang y_Gang_mayRip y_Gang_mayRip ∈ TB := mem_TB 609 (by decide +kernel) (by decide +kernel)
theorem hd_Gang_mayRip : y_Gang_mayRip.cls ≠ "java/lang/invoke/MethodHandle" ∧ y_Gang_mayRip.cls ≠ "java/lang/invoke/VarHandle" ∧ (parseMethodDescriptor y_Gang_mayRip.desc).map (fun d => d.parameters.length) = some 1 := by decide +kernel
def y_Leftover_init : MethodName := ⟨R_Leftover, "<init>", "(LFaultRips$Board;)V"⟩
abbrev ws_Leftover_init : List Cond := .code y_Leftover_init prog_6_method_1_code 2 none :: TB
theorem d_Leftover_init_0 : decode prog_6_method_1_code 0 = .ok (.aload_n 0, 1) := by decide +kernel
theorem d_Leftover_init_1 : decode prog_6_method_1_code 1 = .ok (.invokespecial 3, 3) := by decide +kernel
theorem d_Leftover_init_4 : decode prog_6_method_1_code 4 = .ok (.aload_n 0, 1) := by decide +kernel
theorem d_Leftover_init_5 : decode prog_6_method_1_code 5 = .ok (.iconst 0, 1) := by decide +kernel
theorem d_Leftover_init_6 : decode prog_6_method_1_code 6 = .ok (.putfield 9, 3) := by decide +kernel
theorem d_Leftover_init_9 : decode prog_6_method_1_code 9 = .ok (.aload_n 0, 1) := by decide +kernel
theorem d_Leftover_init_10 : decode prog_6_method_1_code 10 = .ok (.aload_n 1, 1) := by decide +kernel
theorem d_Leftover_init_11 : decode prog_6_method_1_code 11 = .ok (.getfield 15, 3) := by decide +kernel
theorem d_Leftover_init_14 : decode prog_6_method_1_code 14 = .ok (.putfield 20, 3) := by decide +kernel
theorem d_Leftover_init_17 : decode prog_6_method_1_code 17 = .ok (.aload_n 0, 1) := by decide +kernel
theorem d_Leftover_init_18 : decode prog_6_method_1_code 18 = .ok (.aload_n 1, 1) := by decide +kernel
theorem d_Leftover_init_19 : decode prog_6_method_1_code 19 = .ok (.getfield 21, 3) := by decide +kernel
theorem d_Leftover_init_22 : decode prog_6_method_1_code 22 = .ok (.putfield 24, 3) := by decide +kernel
theorem d_Leftover_init_25 : decode prog_6_method_1_code 25 = .ok (.aload_n 0, 1) := by decide +kernel
theorem d_Leftover_init_26 : decode prog_6_method_1_code 26 = .ok (.aload_n 1, 1) := by decide +kernel
theorem d_Leftover_init_27 : decode prog_6_method_1_code 27 = .ok (.invokevirtual 25, 3) := by decide +kernel
theorem d_Leftover_init_30 : decode prog_6_method_1_code 30 = .ok (.newarray .boolean, 2) := by decide +kernel
theorem d_Leftover_init_32 : decode prog_6_method_1_code 32 = .ok (.putfield 29, 3) := by decide +kernel
theorem d_Leftover_init_35 : decode prog_6_method_1_code 35 = .ok (.aload_n 0, 1) := by decide +kernel
theorem d_Leftover_init_36 : decode prog_6_method_1_code 36 = .ok (.iconst 3, 1) := by decide +kernel
theorem d_Leftover_init_37 : decode prog_6_method_1_code 37 = .ok (.aload_n 0, 1) := by decide +kernel
theorem d_Leftover_init_38 : decode prog_6_method_1_code 38 = .ok (.getfield 20, 3) := by decide +kernel
theorem d_Leftover_init_41 : decode prog_6_method_1_code 41 = .ok (.aload_n 0, 1) := by decide +kernel
theorem d_Leftover_init_42 : decode prog_6_method_1_code 42 = .ok (.getfield 24, 3) := by decide +kernel
theorem d_Leftover_init_45 : decode prog_6_method_1_code 45 = .ok (.iconst 1, 1) := by decide +kernel
theorem d_Leftover_init_46 : decode prog_6_method_1_code 46 = .ok (.iadd, 1) := by decide +kernel
theorem d_Leftover_init_47 : decode prog_6_method_1_code 47 = .ok (.iconst 2, 1) := by decide +kernel
theorem d_Leftover_init_48 : decode prog_6_method_1_code 48 = .ok (.idiv, 1) := by decide +kernel
theorem d_Leftover_init_49 : decode prog_6_method_1_code 49 = .ok (.imul, 1) := by decide +kernel
theorem d_Leftover_init_50 : decode prog_6_method_1_code 50 = .ok (.multianewarray 33 2, 4) := by decide +kernel
theorem d_Leftover_init_54 : decode prog_6_method_1_code 54 = .ok (.putfield 35, 3) := by decide +kernel
theorem d_Leftover_init_57 : decode prog_6_method_1_code 57 = .ok (.return_, 1) := by decide +kernel
set_option maxRecDepth 50000 in
theorem cd_Leftover_init : Cond.code y_Leftover_init prog_6_method_1_code 2 none ∈ TB := mem_TB 204 rfl rfl
theorem im_Leftover_init : Cond.instanceMethod y_Leftover_init ∈ TB := mem_TB 203 (by decide +kernel) (by decide +kernel)
theorem hd_Leftover_init : y_Leftover_init.cls ≠ "java/lang/invoke/MethodHandle" ∧ y_Leftover_init.cls ≠ "java/lang/invoke/VarHandle" ∧ (parseMethodDescriptor y_Leftover_init.desc).map (fun d => d.parameters.length) = some 1 := by decide +kernel
def y_Leftover_gather : MethodName := ⟨R_Leftover, "gather", "(LFaultRips$Plan;)V"⟩
abbrev ws_Leftover_gather : List Cond := .code y_Leftover_gather prog_6_method_2_code 3 none :: TB
theorem d_Leftover_gather_0 : decode prog_6_method_2_code 0 = .ok (.iconst 0, 1) := by decide +kernel
theorem d_Leftover_gather_1 : decode prog_6_method_2_code 1 = .ok (.istore_n 2, 1) := by decide +kernel
theorem d_Leftover_gather_2 : decode prog_6_method_2_code 2 = .ok (.iload_n 2, 1) := by decide +kernel
theorem d_Leftover_gather_3 : decode prog_6_method_2_code 3 = .ok (.aload_n 0, 1) := by decide +kernel
theorem d_Leftover_gather_4 : decode prog_6_method_2_code 4 = .ok (.getfield 29, 3) := by decide +kernel
theorem d_Leftover_gather_7 : decode prog_6_method_2_code 7 = .ok (.arraylength, 1) := by decide +kernel
theorem d_Leftover_gather_8 : decode prog_6_method_2_code 8 = .ok (.if_icmp .ge 16, 3) := by decide +kernel
theorem d_Leftover_gather_11 : decode prog_6_method_2_code 11 = .ok (.aload_n 0, 1) := by decide +kernel
theorem d_Leftover_gather_12 : decode prog_6_method_2_code 12 = .ok (.getfield 29, 3) := by decide +kernel
theorem d_Leftover_gather_15 : decode prog_6_method_2_code 15 = .ok (.iload_n 2, 1) := by decide +kernel
theorem d_Leftover_gather_16 : decode prog_6_method_2_code 16 = .ok (.iconst 0, 1) := by decide +kernel
theorem d_Leftover_gather_17 : decode prog_6_method_2_code 17 = .ok (.bastore, 1) := by decide +kernel
theorem d_Leftover_gather_18 : decode prog_6_method_2_code 18 = .ok (.iinc 2 1, 3) := by decide +kernel
theorem d_Leftover_gather_21 : decode prog_6_method_2_code 21 = .ok (.goto (-19), 3) := by decide +kernel
theorem d_Leftover_gather_24 : decode prog_6_method_2_code 24 = .ok (.iconst 0, 1) := by decide +kernel
theorem d_Leftover_gather_25 : decode prog_6_method_2_code 25 = .ok (.istore_n 2, 1) := by decide +kernel
theorem d_Leftover_gather_26 : decode prog_6_method_2_code 26 = .ok (.iload_n 2, 1) := by decide +kernel
theorem d_Leftover_gather_27 : decode prog_6_method_2_code 27 = .ok (.aload_n 1, 1) := by decide +kernel
theorem d_Leftover_gather_28 : decode prog_6_method_2_code 28 = .ok (.getfield 38, 3) := by decide +kernel
theorem d_Leftover_gather_31 : decode prog_6_method_2_code 31 = .ok (.if_icmp .ge 15, 3) := by decide +kernel
theorem d_Leftover_gather_34 : decode prog_6_method_2_code 34 = .ok (.aload_n 0, 1) := by decide +kernel
theorem d_Leftover_gather_35 : decode prog_6_method_2_code 35 = .ok (.aload_n 1, 1) := by decide +kernel
theorem d_Leftover_gather_36 : decode prog_6_method_2_code 36 = .ok (.iload_n 2, 1) := by decide +kernel
theorem d_Leftover_gather_37 : decode prog_6_method_2_code 37 = .ok (.invokevirtual 41, 3) := by decide +kernel
theorem d_Leftover_gather_40 : decode prog_6_method_2_code 40 = .ok (.iinc 2 1, 3) := by decide +kernel
theorem d_Leftover_gather_43 : decode prog_6_method_2_code 43 = .ok (.goto (-17), 3) := by decide +kernel
theorem d_Leftover_gather_46 : decode prog_6_method_2_code 46 = .ok (.aload_n 0, 1) := by decide +kernel
theorem d_Leftover_gather_47 : decode prog_6_method_2_code 47 = .ok (.iconst 0, 1) := by decide +kernel
theorem d_Leftover_gather_48 : decode prog_6_method_2_code 48 = .ok (.putfield 9, 3) := by decide +kernel
theorem d_Leftover_gather_51 : decode prog_6_method_2_code 51 = .ok (.iconst 0, 1) := by decide +kernel
theorem d_Leftover_gather_52 : decode prog_6_method_2_code 52 = .ok (.istore_n 2, 1) := by decide +kernel
theorem d_Leftover_gather_53 : decode prog_6_method_2_code 53 = .ok (.iload_n 2, 1) := by decide +kernel
theorem d_Leftover_gather_54 : decode prog_6_method_2_code 54 = .ok (.aload_n 0, 1) := by decide +kernel
theorem d_Leftover_gather_55 : decode prog_6_method_2_code 55 = .ok (.getfield 20, 3) := by decide +kernel
theorem d_Leftover_gather_58 : decode prog_6_method_2_code 58 = .ok (.if_icmp .ge 14, 3) := by decide +kernel
theorem d_Leftover_gather_61 : decode prog_6_method_2_code 61 = .ok (.aload_n 0, 1) := by decide +kernel
theorem d_Leftover_gather_62 : decode prog_6_method_2_code 62 = .ok (.iload_n 2, 1) := by decide +kernel
theorem d_Leftover_gather_63 : decode prog_6_method_2_code 63 = .ok (.invokevirtual 45, 3) := by decide +kernel
theorem d_Leftover_gather_66 : decode prog_6_method_2_code 66 = .ok (.iinc 2 1, 3) := by decide +kernel
theorem d_Leftover_gather_69 : decode prog_6_method_2_code 69 = .ok (.goto (-16), 3) := by decide +kernel
theorem d_Leftover_gather_72 : decode prog_6_method_2_code 72 = .ok (.return_, 1) := by decide +kernel
set_option maxRecDepth 50000 in
theorem cd_Leftover_gather : Cond.code y_Leftover_gather prog_6_method_2_code 3 none ∈ TB := mem_TB 795 rfl rfl
theorem im_Leftover_gather : Cond.instanceMethod y_Leftover_gather ∈ TB := mem_TB 793 (by decide +kernel) (by decide +kernel)
theorem sl_Leftover_gather : Cond.selects R_Leftover y_Leftover_gather y_Leftover_gather ∈ TB := mem_TB 794 (by decide +kernel) (by decide +kernel)
theorem hd_Leftover_gather : y_Leftover_gather.cls ≠ "java/lang/invoke/MethodHandle" ∧ y_Leftover_gather.cls ≠ "java/lang/invoke/VarHandle" ∧ (parseMethodDescriptor y_Leftover_gather.desc).map (fun d => d.parameters.length) = some 1 := by decide +kernel
def y_Leftover_cover : MethodName := ⟨R_Leftover, "cover", "(LFaultRips$Plan;I)V"⟩
abbrev ws_Leftover_cover : List Cond := .code y_Leftover_cover prog_6_method_3_code 9 none :: TB
theorem d_Leftover_cover_0 : decode prog_6_method_3_code 0 = .ok (.aload_n 1, 1) := by decide +kernel
theorem d_Leftover_cover_1 : decode prog_6_method_3_code 1 = .ok (.getfield 49, 3) := by decide +kernel
theorem d_Leftover_cover_4 : decode prog_6_method_3_code 4 = .ok (.iconst 0, 1) := by decide +kernel
theorem d_Leftover_cover_5 : decode prog_6_method_3_code 5 = .ok (.aaload, 1) := by decide +kernel
theorem d_Leftover_cover_6 : decode prog_6_method_3_code 6 = .ok (.iload_n 2, 1) := by decide +kernel
theorem d_Leftover_cover_7 : decode prog_6_method_3_code 7 = .ok (.iaload, 1) := by decide +kernel
theorem d_Leftover_cover_8 : decode prog_6_method_3_code 8 = .ok (.istore_n 3, 1) := by decide +kernel
theorem d_Leftover_cover_9 : decode prog_6_method_3_code 9 = .ok (.aload_n 1, 1) := by decide +kernel
theorem d_Leftover_cover_10 : decode prog_6_method_3_code 10 = .ok (.getfield 49, 3) := by decide +kernel
theorem d_Leftover_cover_13 : decode prog_6_method_3_code 13 = .ok (.iconst 1, 1) := by decide +kernel
theorem d_Leftover_cover_14 : decode prog_6_method_3_code 14 = .ok (.aaload, 1) := by decide +kernel
theorem d_Leftover_cover_15 : decode prog_6_method_3_code 15 = .ok (.iload_n 2, 1) := by decide +kernel
theorem d_Leftover_cover_16 : decode prog_6_method_3_code 16 = .ok (.iaload, 1) := by decide +kernel
theorem d_Leftover_cover_17 : decode prog_6_method_3_code 17 = .ok (.istore 4, 2) := by decide +kernel
theorem d_Leftover_cover_19 : decode prog_6_method_3_code 19 = .ok (.aload_n 0, 1) := by decide +kernel
theorem d_Leftover_cover_20 : decode prog_6_method_3_code 20 = .ok (.getfield 24, 3) := by decide +kernel
theorem d_Leftover_cover_23 : decode prog_6_method_3_code 23 = .ok (.iload_n 3, 1) := by decide +kernel
theorem d_Leftover_cover_24 : decode prog_6_method_3_code 24 = .ok (.aload_n 1, 1) := by decide +kernel
theorem d_Leftover_cover_25 : decode prog_6_method_3_code 25 = .ok (.getfield 49, 3) := by decide +kernel
theorem d_Leftover_cover_28 : decode prog_6_method_3_code 28 = .ok (.iconst 2, 1) := by decide +kernel
theorem d_Leftover_cover_29 : decode prog_6_method_3_code 29 = .ok (.aaload, 1) := by decide +kernel
theorem d_Leftover_cover_30 : decode prog_6_method_3_code 30 = .ok (.iload_n 2, 1) := by decide +kernel
theorem d_Leftover_cover_31 : decode prog_6_method_3_code 31 = .ok (.iaload, 1) := by decide +kernel
theorem d_Leftover_cover_32 : decode prog_6_method_3_code 32 = .ok (.iadd, 1) := by decide +kernel
theorem d_Leftover_cover_33 : decode prog_6_method_3_code 33 = .ok (.invokestatic 50, 3) := by decide +kernel
theorem d_Leftover_cover_36 : decode prog_6_method_3_code 36 = .ok (.istore 5, 2) := by decide +kernel
theorem d_Leftover_cover_38 : decode prog_6_method_3_code 38 = .ok (.aload_n 0, 1) := by decide +kernel
theorem d_Leftover_cover_39 : decode prog_6_method_3_code 39 = .ok (.getfield 20, 3) := by decide +kernel
theorem d_Leftover_cover_42 : decode prog_6_method_3_code 42 = .ok (.iload 4, 2) := by decide +kernel
theorem d_Leftover_cover_44 : decode prog_6_method_3_code 44 = .ok (.aload_n 1, 1) := by decide +kernel
theorem d_Leftover_cover_45 : decode prog_6_method_3_code 45 = .ok (.getfield 49, 3) := by decide +kernel
theorem d_Leftover_cover_48 : decode prog_6_method_3_code 48 = .ok (.iconst 3, 1) := by decide +kernel
theorem d_Leftover_cover_49 : decode prog_6_method_3_code 49 = .ok (.aaload, 1) := by decide +kernel
theorem d_Leftover_cover_50 : decode prog_6_method_3_code 50 = .ok (.iload_n 2, 1) := by decide +kernel
theorem d_Leftover_cover_51 : decode prog_6_method_3_code 51 = .ok (.iaload, 1) := by decide +kernel
theorem d_Leftover_cover_52 : decode prog_6_method_3_code 52 = .ok (.iadd, 1) := by decide +kernel
theorem d_Leftover_cover_53 : decode prog_6_method_3_code 53 = .ok (.invokestatic 50, 3) := by decide +kernel
theorem d_Leftover_cover_56 : decode prog_6_method_3_code 56 = .ok (.istore 6, 2) := by decide +kernel
theorem d_Leftover_cover_58 : decode prog_6_method_3_code 58 = .ok (.iload 4, 2) := by decide +kernel
theorem d_Leftover_cover_60 : decode prog_6_method_3_code 60 = .ok (.istore 7, 2) := by decide +kernel
theorem d_Leftover_cover_62 : decode prog_6_method_3_code 62 = .ok (.iload 7, 2) := by decide +kernel
theorem d_Leftover_cover_64 : decode prog_6_method_3_code 64 = .ok (.iload 6, 2) := by decide +kernel
theorem d_Leftover_cover_66 : decode prog_6_method_3_code 66 = .ok (.if_icmp .ge 41, 3) := by decide +kernel
theorem d_Leftover_cover_69 : decode prog_6_method_3_code 69 = .ok (.iload_n 3, 1) := by decide +kernel
theorem d_Leftover_cover_70 : decode prog_6_method_3_code 70 = .ok (.istore 8, 2) := by decide +kernel
theorem d_Leftover_cover_72 : decode prog_6_method_3_code 72 = .ok (.iload 8, 2) := by decide +kernel
theorem d_Leftover_cover_74 : decode prog_6_method_3_code 74 = .ok (.iload 5, 2) := by decide +kernel
theorem d_Leftover_cover_76 : decode prog_6_method_3_code 76 = .ok (.if_icmp .ge 25, 3) := by decide +kernel
theorem d_Leftover_cover_79 : decode prog_6_method_3_code 79 = .ok (.aload_n 0, 1) := by decide +kernel
theorem d_Leftover_cover_80 : decode prog_6_method_3_code 80 = .ok (.getfield 29, 3) := by decide +kernel
theorem d_Leftover_cover_83 : decode prog_6_method_3_code 83 = .ok (.iload 7, 2) := by decide +kernel
theorem d_Leftover_cover_85 : decode prog_6_method_3_code 85 = .ok (.aload_n 0, 1) := by decide +kernel
theorem d_Leftover_cover_86 : decode prog_6_method_3_code 86 = .ok (.getfield 24, 3) := by decide +kernel
theorem d_Leftover_cover_89 : decode prog_6_method_3_code 89 = .ok (.imul, 1) := by decide +kernel
theorem d_Leftover_cover_90 : decode prog_6_method_3_code 90 = .ok (.iload 8, 2) := by decide +kernel
theorem d_Leftover_cover_92 : decode prog_6_method_3_code 92 = .ok (.iadd, 1) := by decide +kernel
theorem d_Leftover_cover_93 : decode prog_6_method_3_code 93 = .ok (.iconst 1, 1) := by decide +kernel
theorem d_Leftover_cover_94 : decode prog_6_method_3_code 94 = .ok (.bastore, 1) := by decide +kernel
theorem d_Leftover_cover_95 : decode prog_6_method_3_code 95 = .ok (.iinc 8 1, 3) := by decide +kernel
theorem d_Leftover_cover_98 : decode prog_6_method_3_code 98 = .ok (.goto (-26), 3) := by decide +kernel
theorem d_Leftover_cover_101 : decode prog_6_method_3_code 101 = .ok (.iinc 7 1, 3) := by decide +kernel
theorem d_Leftover_cover_104 : decode prog_6_method_3_code 104 = .ok (.goto (-42), 3) := by decide +kernel
theorem d_Leftover_cover_107 : decode prog_6_method_3_code 107 = .ok (.return_, 1) := by decide +kernel
set_option maxRecDepth 50000 in
theorem cd_Leftover_cover : Cond.code y_Leftover_cover prog_6_method_3_code 9 none ∈ TB := mem_TB 799 rfl rfl
theorem im_Leftover_cover : Cond.instanceMethod y_Leftover_cover ∈ TB := mem_TB 798 (by decide +kernel) (by decide +kernel)
theorem sl_Leftover_cover : Cond.selects R_Leftover y_Leftover_cover y_Leftover_cover ∈ TB := mem_TBs (by decide +kernel) (by decide +kernel)
theorem hd_Leftover_cover : y_Leftover_cover.cls ≠ "java/lang/invoke/MethodHandle" ∧ y_Leftover_cover.cls ≠ "java/lang/invoke/VarHandle" ∧ (parseMethodDescriptor y_Leftover_cover.desc).map (fun d => d.parameters.length) = some 2 := by decide +kernel
def y_Leftover_gatherRow : MethodName := ⟨R_Leftover, "gatherRow", "(I)V"⟩
abbrev ws_Leftover_gatherRow : List Cond := .code y_Leftover_gatherRow prog_6_method_4_code 4 none :: TB
theorem d_Leftover_gatherRow_0 : decode prog_6_method_4_code 0 = .ok (.iconst 0, 1) := by decide +kernel
theorem d_Leftover_gatherRow_1 : decode prog_6_method_4_code 1 = .ok (.istore_n 2, 1) := by decide +kernel
theorem d_Leftover_gatherRow_2 : decode prog_6_method_4_code 2 = .ok (.iconst 0, 1) := by decide +kernel
theorem d_Leftover_gatherRow_3 : decode prog_6_method_4_code 3 = .ok (.istore_n 3, 1) := by decide +kernel
theorem d_Leftover_gatherRow_4 : decode prog_6_method_4_code 4 = .ok (.iload_n 3, 1) := by decide +kernel
theorem d_Leftover_gatherRow_5 : decode prog_6_method_4_code 5 = .ok (.aload_n 0, 1) := by decide +kernel
theorem d_Leftover_gatherRow_6 : decode prog_6_method_4_code 6 = .ok (.getfield 24, 3) := by decide +kernel
theorem d_Leftover_gatherRow_9 : decode prog_6_method_4_code 9 = .ok (.if_icmp .gt 46, 3) := by decide +kernel
theorem d_Leftover_gatherRow_12 : decode prog_6_method_4_code 12 = .ok (.iload_n 3, 1) := by decide +kernel
theorem d_Leftover_gatherRow_13 : decode prog_6_method_4_code 13 = .ok (.aload_n 0, 1) := by decide +kernel
theorem d_Leftover_gatherRow_14 : decode prog_6_method_4_code 14 = .ok (.getfield 24, 3) := by decide +kernel
theorem d_Leftover_gatherRow_17 : decode prog_6_method_4_code 17 = .ok (.if_icmp .eq 19, 3) := by decide +kernel
theorem d_Leftover_gatherRow_20 : decode prog_6_method_4_code 20 = .ok (.aload_n 0, 1) := by decide +kernel
theorem d_Leftover_gatherRow_21 : decode prog_6_method_4_code 21 = .ok (.getfield 29, 3) := by decide +kernel
theorem d_Leftover_gatherRow_24 : decode prog_6_method_4_code 24 = .ok (.iload_n 1, 1) := by decide +kernel
theorem d_Leftover_gatherRow_25 : decode prog_6_method_4_code 25 = .ok (.aload_n 0, 1) := by decide +kernel
theorem d_Leftover_gatherRow_26 : decode prog_6_method_4_code 26 = .ok (.getfield 24, 3) := by decide +kernel
theorem d_Leftover_gatherRow_29 : decode prog_6_method_4_code 29 = .ok (.imul, 1) := by decide +kernel
theorem d_Leftover_gatherRow_30 : decode prog_6_method_4_code 30 = .ok (.iload_n 3, 1) := by decide +kernel
theorem d_Leftover_gatherRow_31 : decode prog_6_method_4_code 31 = .ok (.iadd, 1) := by decide +kernel
theorem d_Leftover_gatherRow_32 : decode prog_6_method_4_code 32 = .ok (.baload, 1) := by decide +kernel
theorem d_Leftover_gatherRow_33 : decode prog_6_method_4_code 33 = .ok (.ifCond .eq 16, 3) := by decide +kernel
theorem d_Leftover_gatherRow_36 : decode prog_6_method_4_code 36 = .ok (.aload_n 0, 1) := by decide +kernel
theorem d_Leftover_gatherRow_37 : decode prog_6_method_4_code 37 = .ok (.iload_n 2, 1) := by decide +kernel
theorem d_Leftover_gatherRow_38 : decode prog_6_method_4_code 38 = .ok (.iload_n 1, 1) := by decide +kernel
theorem d_Leftover_gatherRow_39 : decode prog_6_method_4_code 39 = .ok (.iload_n 3, 1) := by decide +kernel
theorem d_Leftover_gatherRow_40 : decode prog_6_method_4_code 40 = .ok (.iload_n 2, 1) := by decide +kernel
theorem d_Leftover_gatherRow_41 : decode prog_6_method_4_code 41 = .ok (.isub, 1) := by decide +kernel
theorem d_Leftover_gatherRow_42 : decode prog_6_method_4_code 42 = .ok (.invokevirtual 56, 3) := by decide +kernel
theorem d_Leftover_gatherRow_45 : decode prog_6_method_4_code 45 = .ok (.iload_n 3, 1) := by decide +kernel
theorem d_Leftover_gatherRow_46 : decode prog_6_method_4_code 46 = .ok (.iconst 1, 1) := by decide +kernel
theorem d_Leftover_gatherRow_47 : decode prog_6_method_4_code 47 = .ok (.iadd, 1) := by decide +kernel
theorem d_Leftover_gatherRow_48 : decode prog_6_method_4_code 48 = .ok (.istore_n 2, 1) := by decide +kernel
theorem d_Leftover_gatherRow_49 : decode prog_6_method_4_code 49 = .ok (.iinc 3 1, 3) := by decide +kernel
theorem d_Leftover_gatherRow_52 : decode prog_6_method_4_code 52 = .ok (.goto (-48), 3) := by decide +kernel
theorem d_Leftover_gatherRow_55 : decode prog_6_method_4_code 55 = .ok (.return_, 1) := by decide +kernel
set_option maxRecDepth 50000 in
theorem cd_Leftover_gatherRow : Cond.code y_Leftover_gatherRow prog_6_method_4_code 4 none ∈ TB := mem_TB 804 rfl rfl
theorem im_Leftover_gatherRow : Cond.instanceMethod y_Leftover_gatherRow ∈ TB := mem_TB 803 (by decide +kernel) (by decide +kernel)
theorem sl_Leftover_gatherRow : Cond.selects R_Leftover y_Leftover_gatherRow y_Leftover_gatherRow ∈ TB := mem_TBs (by decide +kernel) (by decide +kernel)
theorem hd_Leftover_gatherRow : y_Leftover_gatherRow.cls ≠ "java/lang/invoke/MethodHandle" ∧ y_Leftover_gatherRow.cls ≠ "java/lang/invoke/VarHandle" ∧ (parseMethodDescriptor y_Leftover_gatherRow.desc).map (fun d => d.parameters.length) = some 1 := by decide +kernel
def y_Leftover_addRow : MethodName := ⟨R_Leftover, "addRow", "(III)V"⟩
abbrev ws_Leftover_addRow : List Cond := .code y_Leftover_addRow prog_6_method_5_code 4 none :: TB
theorem d_Leftover_addRow_0 : decode prog_6_method_5_code 0 = .ok (.iload_n 3, 1) := by decide +kernel
theorem d_Leftover_addRow_1 : decode prog_6_method_5_code 1 = .ok (.ifCond .le 63, 3) := by decide +kernel
theorem d_Leftover_addRow_4 : decode prog_6_method_5_code 4 = .ok (.aload_n 0, 1) := by decide +kernel
theorem d_Leftover_addRow_5 : decode prog_6_method_5_code 5 = .ok (.getfield 9, 3) := by decide +kernel
theorem d_Leftover_addRow_8 : decode prog_6_method_5_code 8 = .ok (.aload_n 0, 1) := by decide +kernel
theorem d_Leftover_addRow_9 : decode prog_6_method_5_code 9 = .ok (.getfield 35, 3) := by decide +kernel
theorem d_Leftover_addRow_12 : decode prog_6_method_5_code 12 = .ok (.iconst 0, 1) := by decide +kernel
theorem d_Leftover_addRow_13 : decode prog_6_method_5_code 13 = .ok (.aaload, 1) := by decide +kernel
theorem d_Leftover_addRow_14 : decode prog_6_method_5_code 14 = .ok (.arraylength, 1) := by decide +kernel
theorem d_Leftover_addRow_15 : decode prog_6_method_5_code 15 = .ok (.if_icmp .ge 49, 3) := by decide +kernel
theorem d_Leftover_addRow_18 : decode prog_6_method_5_code 18 = .ok (.aload_n 0, 1) := by decide +kernel
theorem d_Leftover_addRow_19 : decode prog_6_method_5_code 19 = .ok (.getfield 35, 3) := by decide +kernel
theorem d_Leftover_addRow_22 : decode prog_6_method_5_code 22 = .ok (.iconst 0, 1) := by decide +kernel
theorem d_Leftover_addRow_23 : decode prog_6_method_5_code 23 = .ok (.aaload, 1) := by decide +kernel
theorem d_Leftover_addRow_24 : decode prog_6_method_5_code 24 = .ok (.aload_n 0, 1) := by decide +kernel
theorem d_Leftover_addRow_25 : decode prog_6_method_5_code 25 = .ok (.getfield 9, 3) := by decide +kernel
theorem d_Leftover_addRow_28 : decode prog_6_method_5_code 28 = .ok (.iload_n 1, 1) := by decide +kernel
theorem d_Leftover_addRow_29 : decode prog_6_method_5_code 29 = .ok (.iastore, 1) := by decide +kernel
theorem d_Leftover_addRow_30 : decode prog_6_method_5_code 30 = .ok (.aload_n 0, 1) := by decide +kernel
theorem d_Leftover_addRow_31 : decode prog_6_method_5_code 31 = .ok (.getfield 35, 3) := by decide +kernel
theorem d_Leftover_addRow_34 : decode prog_6_method_5_code 34 = .ok (.iconst 1, 1) := by decide +kernel
theorem d_Leftover_addRow_35 : decode prog_6_method_5_code 35 = .ok (.aaload, 1) := by decide +kernel
theorem d_Leftover_addRow_36 : decode prog_6_method_5_code 36 = .ok (.aload_n 0, 1) := by decide +kernel
theorem d_Leftover_addRow_37 : decode prog_6_method_5_code 37 = .ok (.getfield 9, 3) := by decide +kernel
theorem d_Leftover_addRow_40 : decode prog_6_method_5_code 40 = .ok (.iload_n 2, 1) := by decide +kernel
theorem d_Leftover_addRow_41 : decode prog_6_method_5_code 41 = .ok (.iastore, 1) := by decide +kernel
theorem d_Leftover_addRow_42 : decode prog_6_method_5_code 42 = .ok (.aload_n 0, 1) := by decide +kernel
theorem d_Leftover_addRow_43 : decode prog_6_method_5_code 43 = .ok (.getfield 35, 3) := by decide +kernel
theorem d_Leftover_addRow_46 : decode prog_6_method_5_code 46 = .ok (.iconst 2, 1) := by decide +kernel
theorem d_Leftover_addRow_47 : decode prog_6_method_5_code 47 = .ok (.aaload, 1) := by decide +kernel
theorem d_Leftover_addRow_48 : decode prog_6_method_5_code 48 = .ok (.aload_n 0, 1) := by decide +kernel
theorem d_Leftover_addRow_49 : decode prog_6_method_5_code 49 = .ok (.getfield 9, 3) := by decide +kernel
theorem d_Leftover_addRow_52 : decode prog_6_method_5_code 52 = .ok (.iload_n 3, 1) := by decide +kernel
theorem d_Leftover_addRow_53 : decode prog_6_method_5_code 53 = .ok (.iastore, 1) := by decide +kernel
theorem d_Leftover_addRow_54 : decode prog_6_method_5_code 54 = .ok (.aload_n 0, 1) := by decide +kernel
theorem d_Leftover_addRow_55 : decode prog_6_method_5_code 55 = .ok (.dup, 1) := by decide +kernel
theorem d_Leftover_addRow_56 : decode prog_6_method_5_code 56 = .ok (.getfield 9, 3) := by decide +kernel
theorem d_Leftover_addRow_59 : decode prog_6_method_5_code 59 = .ok (.iconst 1, 1) := by decide +kernel
theorem d_Leftover_addRow_60 : decode prog_6_method_5_code 60 = .ok (.iadd, 1) := by decide +kernel
theorem d_Leftover_addRow_61 : decode prog_6_method_5_code 61 = .ok (.putfield 9, 3) := by decide +kernel
theorem d_Leftover_addRow_64 : decode prog_6_method_5_code 64 = .ok (.return_, 1) := by decide +kernel
set_option maxRecDepth 50000 in
theorem cd_Leftover_addRow : Cond.code y_Leftover_addRow prog_6_method_5_code 4 none ∈ TB := mem_TB 808 rfl rfl
theorem im_Leftover_addRow : Cond.instanceMethod y_Leftover_addRow ∈ TB := mem_TB 807 (by decide +kernel) (by decide +kernel)
theorem sl_Leftover_addRow : Cond.selects R_Leftover y_Leftover_addRow y_Leftover_addRow ∈ TB := mem_TBs (by decide +kernel) (by decide +kernel)
theorem hd_Leftover_addRow : y_Leftover_addRow.cls ≠ "java/lang/invoke/MethodHandle" ∧ y_Leftover_addRow.cls ≠ "java/lang/invoke/VarHandle" ∧ (parseMethodDescriptor y_Leftover_addRow.desc).map (fun d => d.parameters.length) = some 3 := by decide +kernel
def y_PanelMaker_init : MethodName := ⟨R_PanelMaker, "<init>", "(I)V"⟩
abbrev ws_PanelMaker_init : List Cond := .code y_PanelMaker_init prog_7_method_1_code 2 none :: TB
theorem d_PanelMaker_init_0 : decode prog_7_method_1_code 0 = .ok (.aload_n 0, 1) := by decide +kernel
theorem d_PanelMaker_init_1 : decode prog_7_method_1_code 1 = .ok (.invokespecial 3, 3) := by decide +kernel
theorem d_PanelMaker_init_4 : decode prog_7_method_1_code 4 = .ok (.aload_n 0, 1) := by decide +kernel
theorem d_PanelMaker_init_5 : decode prog_7_method_1_code 5 = .ok (.iconst 0, 1) := by decide +kernel
theorem d_PanelMaker_init_6 : decode prog_7_method_1_code 6 = .ok (.newarray .int, 2) := by decide +kernel
theorem d_PanelMaker_init_8 : decode prog_7_method_1_code 8 = .ok (.putfield 9, 3) := by decide +kernel
theorem d_PanelMaker_init_11 : decode prog_7_method_1_code 11 = .ok (.aload_n 0, 1) := by decide +kernel
theorem d_PanelMaker_init_12 : decode prog_7_method_1_code 12 = .ok (.iload_n 1, 1) := by decide +kernel
theorem d_PanelMaker_init_13 : decode prog_7_method_1_code 13 = .ok (.putfield 15, 3) := by decide +kernel
theorem d_PanelMaker_init_16 : decode prog_7_method_1_code 16 = .ok (.return_, 1) := by decide +kernel
set_option maxRecDepth 50000 in
theorem cd_PanelMaker_init : Cond.code y_PanelMaker_init prog_7_method_1_code 2 none ∈ TB := mem_TB 231 rfl rfl
theorem im_PanelMaker_init : Cond.instanceMethod y_PanelMaker_init ∈ TB := mem_TB 230 (by decide +kernel) (by decide +kernel)
theorem hd_PanelMaker_init : y_PanelMaker_init.cls ≠ "java/lang/invoke/MethodHandle" ∧ y_PanelMaker_init.cls ≠ "java/lang/invoke/VarHandle" ∧ (parseMethodDescriptor y_PanelMaker_init.desc).map (fun d => d.parameters.length) = some 1 := by decide +kernel
def y_PanelMaker_pick : MethodName := ⟨R_PanelMaker, "pick", "(LFaultRips$Plan;II)I"⟩
abbrev ws_PanelMaker_pick : List Cond := .code y_PanelMaker_pick prog_7_method_2_code 8 (some .int) :: TB
theorem d_PanelMaker_pick_0 : decode prog_7_method_2_code 0 = .ok (.iload_n 2, 1) := by decide +kernel
theorem d_PanelMaker_pick_1 : decode prog_7_method_2_code 1 = .ok (.ifCond .lt 20, 3) := by decide +kernel
theorem d_PanelMaker_pick_4 : decode prog_7_method_2_code 4 = .ok (.iload_n 2, 1) := by decide +kernel
theorem d_PanelMaker_pick_5 : decode prog_7_method_2_code 5 = .ok (.bipush 101, 2) := by decide +kernel
theorem d_PanelMaker_pick_7 : decode prog_7_method_2_code 7 = .ok (.if_icmp .ge 14, 3) := by decide +kernel
theorem d_PanelMaker_pick_10 : decode prog_7_method_2_code 10 = .ok (.aload_n 1, 1) := by decide +kernel
theorem d_PanelMaker_pick_11 : decode prog_7_method_2_code 11 = .ok (.getfield 19, 3) := by decide +kernel
theorem d_PanelMaker_pick_14 : decode prog_7_method_2_code 14 = .ok (.aload_n 0, 1) := by decide +kernel
theorem d_PanelMaker_pick_15 : decode prog_7_method_2_code 15 = .ok (.getfield 15, 3) := by decide +kernel
theorem d_PanelMaker_pick_18 : decode prog_7_method_2_code 18 = .ok (.if_icmp .le 5, 3) := by decide +kernel
theorem d_PanelMaker_pick_21 : decode prog_7_method_2_code 21 = .ok (.iconst (-1), 1) := by decide +kernel
theorem d_PanelMaker_pick_22 : decode prog_7_method_2_code 22 = .ok (.ireturn, 1) := by decide +kernel
theorem d_PanelMaker_pick_23 : decode prog_7_method_2_code 23 = .ok (.aload_n 0, 1) := by decide +kernel
theorem d_PanelMaker_pick_24 : decode prog_7_method_2_code 24 = .ok (.aload_n 1, 1) := by decide +kernel
theorem d_PanelMaker_pick_25 : decode prog_7_method_2_code 25 = .ok (.iload_n 2, 1) := by decide +kernel
theorem d_PanelMaker_pick_26 : decode prog_7_method_2_code 26 = .ok (.invokevirtual 24, 3) := by decide +kernel
theorem d_PanelMaker_pick_29 : decode prog_7_method_2_code 29 = .ok (.iload_n 2, 1) := by decide +kernel
theorem d_PanelMaker_pick_30 : decode prog_7_method_2_code 30 = .ok (.istore 4, 2) := by decide +kernel
theorem d_PanelMaker_pick_32 : decode prog_7_method_2_code 32 = .ok (.iconst 0, 1) := by decide +kernel
theorem d_PanelMaker_pick_33 : decode prog_7_method_2_code 33 = .ok (.istore 5, 2) := by decide +kernel
theorem d_PanelMaker_pick_35 : decode prog_7_method_2_code 35 = .ok (.iconst 0, 1) := by decide +kernel
theorem d_PanelMaker_pick_36 : decode prog_7_method_2_code 36 = .ok (.istore 6, 2) := by decide +kernel
theorem d_PanelMaker_pick_38 : decode prog_7_method_2_code 38 = .ok (.iload 6, 2) := by decide +kernel
theorem d_PanelMaker_pick_40 : decode prog_7_method_2_code 40 = .ok (.aload_n 1, 1) := by decide +kernel
theorem d_PanelMaker_pick_41 : decode prog_7_method_2_code 41 = .ok (.getfield 19, 3) := by decide +kernel
theorem d_PanelMaker_pick_44 : decode prog_7_method_2_code 44 = .ok (.if_icmp .ge 106, 3) := by decide +kernel
theorem d_PanelMaker_pick_47 : decode prog_7_method_2_code 47 = .ok (.iload 4, 2) := by decide +kernel
theorem d_PanelMaker_pick_49 : decode prog_7_method_2_code 49 = .ok (.ifCond .le 101, 3) := by decide +kernel
theorem d_PanelMaker_pick_52 : decode prog_7_method_2_code 52 = .ok (.aload_n 0, 1) := by decide +kernel
theorem d_PanelMaker_pick_53 : decode prog_7_method_2_code 53 = .ok (.getfield 9, 3) := by decide +kernel
theorem d_PanelMaker_pick_56 : decode prog_7_method_2_code 56 = .ok (.iload 6, 2) := by decide +kernel
theorem d_PanelMaker_pick_58 : decode prog_7_method_2_code 58 = .ok (.bipush 101, 2) := by decide +kernel
theorem d_PanelMaker_pick_60 : decode prog_7_method_2_code 60 = .ok (.imul, 1) := by decide +kernel
theorem d_PanelMaker_pick_61 : decode prog_7_method_2_code 61 = .ok (.iload 4, 2) := by decide +kernel
theorem d_PanelMaker_pick_63 : decode prog_7_method_2_code 63 = .ok (.iadd, 1) := by decide +kernel
theorem d_PanelMaker_pick_64 : decode prog_7_method_2_code 64 = .ok (.iaload, 1) := by decide +kernel
theorem d_PanelMaker_pick_65 : decode prog_7_method_2_code 65 = .ok (.sipush 1000, 3) := by decide +kernel
theorem d_PanelMaker_pick_68 : decode prog_7_method_2_code 68 = .ok (.if_icmp .ge 82, 3) := by decide +kernel
theorem d_PanelMaker_pick_71 : decode prog_7_method_2_code 71 = .ok (.aload_n 1, 1) := by decide +kernel
theorem d_PanelMaker_pick_72 : decode prog_7_method_2_code 72 = .ok (.getfield 28, 3) := by decide +kernel
theorem d_PanelMaker_pick_75 : decode prog_7_method_2_code 75 = .ok (.iconst 3, 1) := by decide +kernel
theorem d_PanelMaker_pick_76 : decode prog_7_method_2_code 76 = .ok (.aaload, 1) := by decide +kernel
theorem d_PanelMaker_pick_77 : decode prog_7_method_2_code 77 = .ok (.iload 6, 2) := by decide +kernel
theorem d_PanelMaker_pick_79 : decode prog_7_method_2_code 79 = .ok (.iaload, 1) := by decide +kernel
theorem d_PanelMaker_pick_80 : decode prog_7_method_2_code 80 = .ok (.istore 7, 2) := by decide +kernel
theorem d_PanelMaker_pick_82 : decode prog_7_method_2_code 82 = .ok (.iload 7, 2) := by decide +kernel
theorem d_PanelMaker_pick_84 : decode prog_7_method_2_code 84 = .ok (.iload 4, 2) := by decide +kernel
theorem d_PanelMaker_pick_86 : decode prog_7_method_2_code 86 = .ok (.if_icmp .gt 58, 3) := by decide +kernel
theorem d_PanelMaker_pick_89 : decode prog_7_method_2_code 89 = .ok (.aload_n 0, 1) := by decide +kernel
theorem d_PanelMaker_pick_90 : decode prog_7_method_2_code 90 = .ok (.getfield 9, 3) := by decide +kernel
theorem d_PanelMaker_pick_93 : decode prog_7_method_2_code 93 = .ok (.iload 6, 2) := by decide +kernel
theorem d_PanelMaker_pick_95 : decode prog_7_method_2_code 95 = .ok (.iconst 1, 1) := by decide +kernel
theorem d_PanelMaker_pick_96 : decode prog_7_method_2_code 96 = .ok (.iadd, 1) := by decide +kernel
theorem d_PanelMaker_pick_97 : decode prog_7_method_2_code 97 = .ok (.bipush 101, 2) := by decide +kernel
theorem d_PanelMaker_pick_99 : decode prog_7_method_2_code 99 = .ok (.imul, 1) := by decide +kernel
theorem d_PanelMaker_pick_100 : decode prog_7_method_2_code 100 = .ok (.iload 4, 2) := by decide +kernel
theorem d_PanelMaker_pick_102 : decode prog_7_method_2_code 102 = .ok (.iadd, 1) := by decide +kernel
theorem d_PanelMaker_pick_103 : decode prog_7_method_2_code 103 = .ok (.iload 7, 2) := by decide +kernel
theorem d_PanelMaker_pick_105 : decode prog_7_method_2_code 105 = .ok (.isub, 1) := by decide +kernel
theorem d_PanelMaker_pick_106 : decode prog_7_method_2_code 106 = .ok (.iaload, 1) := by decide +kernel
theorem d_PanelMaker_pick_107 : decode prog_7_method_2_code 107 = .ok (.iconst 1, 1) := by decide +kernel
theorem d_PanelMaker_pick_108 : decode prog_7_method_2_code 108 = .ok (.iadd, 1) := by decide +kernel
theorem d_PanelMaker_pick_109 : decode prog_7_method_2_code 109 = .ok (.aload_n 0, 1) := by decide +kernel
theorem d_PanelMaker_pick_110 : decode prog_7_method_2_code 110 = .ok (.getfield 9, 3) := by decide +kernel
theorem d_PanelMaker_pick_113 : decode prog_7_method_2_code 113 = .ok (.iload 6, 2) := by decide +kernel
theorem d_PanelMaker_pick_115 : decode prog_7_method_2_code 115 = .ok (.bipush 101, 2) := by decide +kernel
theorem d_PanelMaker_pick_117 : decode prog_7_method_2_code 117 = .ok (.imul, 1) := by decide +kernel
theorem d_PanelMaker_pick_118 : decode prog_7_method_2_code 118 = .ok (.iload 4, 2) := by decide +kernel
theorem d_PanelMaker_pick_120 : decode prog_7_method_2_code 120 = .ok (.iadd, 1) := by decide +kernel
theorem d_PanelMaker_pick_121 : decode prog_7_method_2_code 121 = .ok (.iaload, 1) := by decide +kernel
theorem d_PanelMaker_pick_122 : decode prog_7_method_2_code 122 = .ok (.if_icmp .ne 22, 3) := by decide +kernel
theorem d_PanelMaker_pick_125 : decode prog_7_method_2_code 125 = .ok (.iload 5, 2) := by decide +kernel
theorem d_PanelMaker_pick_127 : decode prog_7_method_2_code 127 = .ok (.iload_n 3, 1) := by decide +kernel
theorem d_PanelMaker_pick_128 : decode prog_7_method_2_code 128 = .ok (.if_icmp .ne 6, 3) := by decide +kernel
theorem d_PanelMaker_pick_131 : decode prog_7_method_2_code 131 = .ok (.iload 6, 2) := by decide +kernel
theorem d_PanelMaker_pick_133 : decode prog_7_method_2_code 133 = .ok (.ireturn, 1) := by decide +kernel
theorem d_PanelMaker_pick_134 : decode prog_7_method_2_code 134 = .ok (.iinc 5 1, 3) := by decide +kernel
theorem d_PanelMaker_pick_137 : decode prog_7_method_2_code 137 = .ok (.iload 4, 2) := by decide +kernel
theorem d_PanelMaker_pick_139 : decode prog_7_method_2_code 139 = .ok (.iload 7, 2) := by decide +kernel
theorem d_PanelMaker_pick_141 : decode prog_7_method_2_code 141 = .ok (.isub, 1) := by decide +kernel
theorem d_PanelMaker_pick_142 : decode prog_7_method_2_code 142 = .ok (.istore 4, 2) := by decide +kernel
theorem d_PanelMaker_pick_144 : decode prog_7_method_2_code 144 = .ok (.iinc 6 1, 3) := by decide +kernel
theorem d_PanelMaker_pick_147 : decode prog_7_method_2_code 147 = .ok (.goto (-109), 3) := by decide +kernel
theorem d_PanelMaker_pick_150 : decode prog_7_method_2_code 150 = .ok (.iconst (-1), 1) := by decide +kernel
theorem d_PanelMaker_pick_151 : decode prog_7_method_2_code 151 = .ok (.ireturn, 1) := by decide +kernel
set_option maxRecDepth 50000 in
theorem cd_PanelMaker_pick : Cond.code y_PanelMaker_pick prog_7_method_2_code 8 (some .int) ∈ TB := mem_TB 822 rfl rfl
theorem im_PanelMaker_pick : Cond.instanceMethod y_PanelMaker_pick ∈ TB := mem_TB 820 (by decide +kernel) (by decide +kernel)
theorem sl_PanelMaker_pick : Cond.selects R_PanelMaker y_PanelMaker_pick y_PanelMaker_pick ∈ TB := mem_TB 821 (by decide +kernel) (by decide +kernel)
theorem hd_PanelMaker_pick : y_PanelMaker_pick.cls ≠ "java/lang/invoke/MethodHandle" ∧ y_PanelMaker_pick.cls ≠ "java/lang/invoke/VarHandle" ∧ (parseMethodDescriptor y_PanelMaker_pick.desc).map (fun d => d.parameters.length) = some 3 := by decide +kernel
def y_PanelMaker_fillFewest : MethodName := ⟨R_PanelMaker, "fillFewest", "(LFaultRips$Plan;I)V"⟩
abbrev ws_PanelMaker_fillFewest : List Cond := .code y_PanelMaker_fillFewest prog_7_method_3_code 5 none :: TB
theorem d_PanelMaker_fillFewest_0 : decode prog_7_method_3_code 0 = .ok (.aload_n 0, 1) := by decide +kernel
theorem d_PanelMaker_fillFewest_1 : decode prog_7_method_3_code 1 = .ok (.getfield 9, 3) := by decide +kernel
theorem d_PanelMaker_fillFewest_4 : decode prog_7_method_3_code 4 = .ok (.arraylength, 1) := by decide +kernel
theorem d_PanelMaker_fillFewest_5 : decode prog_7_method_3_code 5 = .ok (.aload_n 0, 1) := by decide +kernel
theorem d_PanelMaker_fillFewest_6 : decode prog_7_method_3_code 6 = .ok (.getfield 15, 3) := by decide +kernel
theorem d_PanelMaker_fillFewest_9 : decode prog_7_method_3_code 9 = .ok (.iconst 1, 1) := by decide +kernel
theorem d_PanelMaker_fillFewest_10 : decode prog_7_method_3_code 10 = .ok (.iadd, 1) := by decide +kernel
theorem d_PanelMaker_fillFewest_11 : decode prog_7_method_3_code 11 = .ok (.bipush 101, 2) := by decide +kernel
theorem d_PanelMaker_fillFewest_13 : decode prog_7_method_3_code 13 = .ok (.imul, 1) := by decide +kernel
theorem d_PanelMaker_fillFewest_14 : decode prog_7_method_3_code 14 = .ok (.if_icmp .eq 18, 3) := by decide +kernel
theorem d_PanelMaker_fillFewest_17 : decode prog_7_method_3_code 17 = .ok (.aload_n 0, 1) := by decide +kernel
theorem d_PanelMaker_fillFewest_18 : decode prog_7_method_3_code 18 = .ok (.aload_n 0, 1) := by decide +kernel
theorem d_PanelMaker_fillFewest_19 : decode prog_7_method_3_code 19 = .ok (.getfield 15, 3) := by decide +kernel
theorem d_PanelMaker_fillFewest_22 : decode prog_7_method_3_code 22 = .ok (.iconst 1, 1) := by decide +kernel
theorem d_PanelMaker_fillFewest_23 : decode prog_7_method_3_code 23 = .ok (.iadd, 1) := by decide +kernel
theorem d_PanelMaker_fillFewest_24 : decode prog_7_method_3_code 24 = .ok (.bipush 101, 2) := by decide +kernel
theorem d_PanelMaker_fillFewest_26 : decode prog_7_method_3_code 26 = .ok (.imul, 1) := by decide +kernel
theorem d_PanelMaker_fillFewest_27 : decode prog_7_method_3_code 27 = .ok (.newarray .int, 2) := by decide +kernel
theorem d_PanelMaker_fillFewest_29 : decode prog_7_method_3_code 29 = .ok (.putfield 9, 3) := by decide +kernel
theorem d_PanelMaker_fillFewest_32 : decode prog_7_method_3_code 32 = .ok (.aload_n 1, 1) := by decide +kernel
theorem d_PanelMaker_fillFewest_33 : decode prog_7_method_3_code 33 = .ok (.getfield 19, 3) := by decide +kernel
theorem d_PanelMaker_fillFewest_36 : decode prog_7_method_3_code 36 = .ok (.bipush 101, 2) := by decide +kernel
theorem d_PanelMaker_fillFewest_38 : decode prog_7_method_3_code 38 = .ok (.imul, 1) := by decide +kernel
theorem d_PanelMaker_fillFewest_39 : decode prog_7_method_3_code 39 = .ok (.istore_n 3, 1) := by decide +kernel
theorem d_PanelMaker_fillFewest_40 : decode prog_7_method_3_code 40 = .ok (.aload_n 0, 1) := by decide +kernel
theorem d_PanelMaker_fillFewest_41 : decode prog_7_method_3_code 41 = .ok (.getfield 9, 3) := by decide +kernel
theorem d_PanelMaker_fillFewest_44 : decode prog_7_method_3_code 44 = .ok (.iload_n 3, 1) := by decide +kernel
theorem d_PanelMaker_fillFewest_45 : decode prog_7_method_3_code 45 = .ok (.iconst 0, 1) := by decide +kernel
theorem d_PanelMaker_fillFewest_46 : decode prog_7_method_3_code 46 = .ok (.iastore, 1) := by decide +kernel
theorem d_PanelMaker_fillFewest_47 : decode prog_7_method_3_code 47 = .ok (.iconst 1, 1) := by decide +kernel
theorem d_PanelMaker_fillFewest_48 : decode prog_7_method_3_code 48 = .ok (.istore 4, 2) := by decide +kernel
theorem d_PanelMaker_fillFewest_50 : decode prog_7_method_3_code 50 = .ok (.iload 4, 2) := by decide +kernel
theorem d_PanelMaker_fillFewest_52 : decode prog_7_method_3_code 52 = .ok (.iload_n 2, 1) := by decide +kernel
theorem d_PanelMaker_fillFewest_53 : decode prog_7_method_3_code 53 = .ok (.if_icmp .gt 21, 3) := by decide +kernel
theorem d_PanelMaker_fillFewest_56 : decode prog_7_method_3_code 56 = .ok (.aload_n 0, 1) := by decide +kernel
theorem d_PanelMaker_fillFewest_57 : decode prog_7_method_3_code 57 = .ok (.getfield 9, 3) := by decide +kernel
theorem d_PanelMaker_fillFewest_60 : decode prog_7_method_3_code 60 = .ok (.iload_n 3, 1) := by decide +kernel
theorem d_PanelMaker_fillFewest_61 : decode prog_7_method_3_code 61 = .ok (.iload 4, 2) := by decide +kernel
theorem d_PanelMaker_fillFewest_63 : decode prog_7_method_3_code 63 = .ok (.iadd, 1) := by decide +kernel
theorem d_PanelMaker_fillFewest_64 : decode prog_7_method_3_code 64 = .ok (.sipush 1000, 3) := by decide +kernel
theorem d_PanelMaker_fillFewest_67 : decode prog_7_method_3_code 67 = .ok (.iastore, 1) := by decide +kernel
theorem d_PanelMaker_fillFewest_68 : decode prog_7_method_3_code 68 = .ok (.iinc 4 1, 3) := by decide +kernel
theorem d_PanelMaker_fillFewest_71 : decode prog_7_method_3_code 71 = .ok (.goto (-21), 3) := by decide +kernel
theorem d_PanelMaker_fillFewest_74 : decode prog_7_method_3_code 74 = .ok (.aload_n 1, 1) := by decide +kernel
theorem d_PanelMaker_fillFewest_75 : decode prog_7_method_3_code 75 = .ok (.getfield 19, 3) := by decide +kernel
theorem d_PanelMaker_fillFewest_78 : decode prog_7_method_3_code 78 = .ok (.iconst 1, 1) := by decide +kernel
theorem d_PanelMaker_fillFewest_79 : decode prog_7_method_3_code 79 = .ok (.isub, 1) := by decide +kernel
theorem d_PanelMaker_fillFewest_80 : decode prog_7_method_3_code 80 = .ok (.istore 4, 2) := by decide +kernel
theorem d_PanelMaker_fillFewest_82 : decode prog_7_method_3_code 82 = .ok (.iload 4, 2) := by decide +kernel
theorem d_PanelMaker_fillFewest_84 : decode prog_7_method_3_code 84 = .ok (.ifCond .lt 25, 3) := by decide +kernel
theorem d_PanelMaker_fillFewest_87 : decode prog_7_method_3_code 87 = .ok (.aload_n 0, 1) := by decide +kernel
theorem d_PanelMaker_fillFewest_88 : decode prog_7_method_3_code 88 = .ok (.iload 4, 2) := by decide +kernel
theorem d_PanelMaker_fillFewest_90 : decode prog_7_method_3_code 90 = .ok (.aload_n 1, 1) := by decide +kernel
theorem d_PanelMaker_fillFewest_91 : decode prog_7_method_3_code 91 = .ok (.getfield 28, 3) := by decide +kernel
theorem d_PanelMaker_fillFewest_94 : decode prog_7_method_3_code 94 = .ok (.iconst 3, 1) := by decide +kernel
theorem d_PanelMaker_fillFewest_95 : decode prog_7_method_3_code 95 = .ok (.aaload, 1) := by decide +kernel
theorem d_PanelMaker_fillFewest_96 : decode prog_7_method_3_code 96 = .ok (.iload 4, 2) := by decide +kernel
theorem d_PanelMaker_fillFewest_98 : decode prog_7_method_3_code 98 = .ok (.iaload, 1) := by decide +kernel
theorem d_PanelMaker_fillFewest_99 : decode prog_7_method_3_code 99 = .ok (.iload_n 2, 1) := by decide +kernel
theorem d_PanelMaker_fillFewest_100 : decode prog_7_method_3_code 100 = .ok (.invokevirtual 32, 3) := by decide +kernel
theorem d_PanelMaker_fillFewest_103 : decode prog_7_method_3_code 103 = .ok (.iinc 4 (-1), 3) := by decide +kernel
theorem d_PanelMaker_fillFewest_106 : decode prog_7_method_3_code 106 = .ok (.goto (-24), 3) := by decide +kernel
theorem d_PanelMaker_fillFewest_109 : decode prog_7_method_3_code 109 = .ok (.return_, 1) := by decide +kernel
set_option maxRecDepth 50000 in
theorem cd_PanelMaker_fillFewest : Cond.code y_PanelMaker_fillFewest prog_7_method_3_code 5 none ∈ TB := mem_TB 826 rfl rfl
theorem im_PanelMaker_fillFewest : Cond.instanceMethod y_PanelMaker_fillFewest ∈ TB := mem_TB 825 (by decide +kernel) (by decide +kernel)
theorem sl_PanelMaker_fillFewest : Cond.selects R_PanelMaker y_PanelMaker_fillFewest y_PanelMaker_fillFewest ∈ TB := mem_TBs (by decide +kernel) (by decide +kernel)
theorem hd_PanelMaker_fillFewest : y_PanelMaker_fillFewest.cls ≠ "java/lang/invoke/MethodHandle" ∧ y_PanelMaker_fillFewest.cls ≠ "java/lang/invoke/VarHandle" ∧ (parseMethodDescriptor y_PanelMaker_fillFewest.desc).map (fun d => d.parameters.length) = some 2 := by decide +kernel
def y_PanelMaker_fillFrom : MethodName := ⟨R_PanelMaker, "fillFrom", "(III)V"⟩
abbrev ws_PanelMaker_fillFrom : List Cond := .code y_PanelMaker_fillFrom prog_7_method_4_code 9 none :: TB
theorem d_PanelMaker_fillFrom_0 : decode prog_7_method_4_code 0 = .ok (.iload_n 1, 1) := by decide +kernel
theorem d_PanelMaker_fillFrom_1 : decode prog_7_method_4_code 1 = .ok (.bipush 101, 2) := by decide +kernel
theorem d_PanelMaker_fillFrom_3 : decode prog_7_method_4_code 3 = .ok (.imul, 1) := by decide +kernel
theorem d_PanelMaker_fillFrom_4 : decode prog_7_method_4_code 4 = .ok (.istore 4, 2) := by decide +kernel
theorem d_PanelMaker_fillFrom_6 : decode prog_7_method_4_code 6 = .ok (.iload 4, 2) := by decide +kernel
theorem d_PanelMaker_fillFrom_8 : decode prog_7_method_4_code 8 = .ok (.bipush 101, 2) := by decide +kernel
theorem d_PanelMaker_fillFrom_10 : decode prog_7_method_4_code 10 = .ok (.iadd, 1) := by decide +kernel
theorem d_PanelMaker_fillFrom_11 : decode prog_7_method_4_code 11 = .ok (.istore 5, 2) := by decide +kernel
theorem d_PanelMaker_fillFrom_13 : decode prog_7_method_4_code 13 = .ok (.iconst 0, 1) := by decide +kernel
theorem d_PanelMaker_fillFrom_14 : decode prog_7_method_4_code 14 = .ok (.istore 6, 2) := by decide +kernel
theorem d_PanelMaker_fillFrom_16 : decode prog_7_method_4_code 16 = .ok (.iload 6, 2) := by decide +kernel
theorem d_PanelMaker_fillFrom_18 : decode prog_7_method_4_code 18 = .ok (.iload_n 3, 1) := by decide +kernel
theorem d_PanelMaker_fillFrom_19 : decode prog_7_method_4_code 19 = .ok (.if_icmp .gt 66, 3) := by decide +kernel
theorem d_PanelMaker_fillFrom_22 : decode prog_7_method_4_code 22 = .ok (.aload_n 0, 1) := by decide +kernel
theorem d_PanelMaker_fillFrom_23 : decode prog_7_method_4_code 23 = .ok (.getfield 9, 3) := by decide +kernel
theorem d_PanelMaker_fillFrom_26 : decode prog_7_method_4_code 26 = .ok (.iload 5, 2) := by decide +kernel
theorem d_PanelMaker_fillFrom_28 : decode prog_7_method_4_code 28 = .ok (.iload 6, 2) := by decide +kernel
theorem d_PanelMaker_fillFrom_30 : decode prog_7_method_4_code 30 = .ok (.iadd, 1) := by decide +kernel
theorem d_PanelMaker_fillFrom_31 : decode prog_7_method_4_code 31 = .ok (.iaload, 1) := by decide +kernel
theorem d_PanelMaker_fillFrom_32 : decode prog_7_method_4_code 32 = .ok (.istore 7, 2) := by decide +kernel
theorem d_PanelMaker_fillFrom_34 : decode prog_7_method_4_code 34 = .ok (.iload 6, 2) := by decide +kernel
theorem d_PanelMaker_fillFrom_36 : decode prog_7_method_4_code 36 = .ok (.iload_n 2, 1) := by decide +kernel
theorem d_PanelMaker_fillFrom_37 : decode prog_7_method_4_code 37 = .ok (.if_icmp .lt 20, 3) := by decide +kernel
theorem d_PanelMaker_fillFrom_40 : decode prog_7_method_4_code 40 = .ok (.aload_n 0, 1) := by decide +kernel
theorem d_PanelMaker_fillFrom_41 : decode prog_7_method_4_code 41 = .ok (.getfield 9, 3) := by decide +kernel
theorem d_PanelMaker_fillFrom_44 : decode prog_7_method_4_code 44 = .ok (.iload 5, 2) := by decide +kernel
theorem d_PanelMaker_fillFrom_46 : decode prog_7_method_4_code 46 = .ok (.iload 6, 2) := by decide +kernel
theorem d_PanelMaker_fillFrom_48 : decode prog_7_method_4_code 48 = .ok (.iadd, 1) := by decide +kernel
theorem d_PanelMaker_fillFrom_49 : decode prog_7_method_4_code 49 = .ok (.iload_n 2, 1) := by decide +kernel
theorem d_PanelMaker_fillFrom_50 : decode prog_7_method_4_code 50 = .ok (.isub, 1) := by decide +kernel
theorem d_PanelMaker_fillFrom_51 : decode prog_7_method_4_code 51 = .ok (.iaload, 1) := by decide +kernel
theorem d_PanelMaker_fillFrom_52 : decode prog_7_method_4_code 52 = .ok (.iconst 1, 1) := by decide +kernel
theorem d_PanelMaker_fillFrom_53 : decode prog_7_method_4_code 53 = .ok (.iadd, 1) := by decide +kernel
theorem d_PanelMaker_fillFrom_54 : decode prog_7_method_4_code 54 = .ok (.goto 6, 3) := by decide +kernel
theorem d_PanelMaker_fillFrom_57 : decode prog_7_method_4_code 57 = .ok (.sipush 1000, 3) := by decide +kernel
theorem d_PanelMaker_fillFrom_60 : decode prog_7_method_4_code 60 = .ok (.istore 8, 2) := by decide +kernel
theorem d_PanelMaker_fillFrom_62 : decode prog_7_method_4_code 62 = .ok (.aload_n 0, 1) := by decide +kernel
theorem d_PanelMaker_fillFrom_63 : decode prog_7_method_4_code 63 = .ok (.getfield 9, 3) := by decide +kernel
theorem d_PanelMaker_fillFrom_66 : decode prog_7_method_4_code 66 = .ok (.iload 4, 2) := by decide +kernel
theorem d_PanelMaker_fillFrom_68 : decode prog_7_method_4_code 68 = .ok (.iload 6, 2) := by decide +kernel
theorem d_PanelMaker_fillFrom_70 : decode prog_7_method_4_code 70 = .ok (.iadd, 1) := by decide +kernel
theorem d_PanelMaker_fillFrom_71 : decode prog_7_method_4_code 71 = .ok (.iload 7, 2) := by decide +kernel
theorem d_PanelMaker_fillFrom_73 : decode prog_7_method_4_code 73 = .ok (.iload 8, 2) := by decide +kernel
theorem d_PanelMaker_fillFrom_75 : decode prog_7_method_4_code 75 = .ok (.invokestatic 36, 3) := by decide +kernel
theorem d_PanelMaker_fillFrom_78 : decode prog_7_method_4_code 78 = .ok (.iastore, 1) := by decide +kernel
theorem d_PanelMaker_fillFrom_79 : decode prog_7_method_4_code 79 = .ok (.iinc 6 1, 3) := by decide +kernel
theorem d_PanelMaker_fillFrom_82 : decode prog_7_method_4_code 82 = .ok (.goto (-66), 3) := by decide +kernel
theorem d_PanelMaker_fillFrom_85 : decode prog_7_method_4_code 85 = .ok (.return_, 1) := by decide +kernel
set_option maxRecDepth 50000 in
theorem cd_PanelMaker_fillFrom : Cond.code y_PanelMaker_fillFrom prog_7_method_4_code 9 none ∈ TB := mem_TB 830 rfl rfl
theorem im_PanelMaker_fillFrom : Cond.instanceMethod y_PanelMaker_fillFrom ∈ TB := mem_TB 829 (by decide +kernel) (by decide +kernel)
theorem sl_PanelMaker_fillFrom : Cond.selects R_PanelMaker y_PanelMaker_fillFrom y_PanelMaker_fillFrom ∈ TB := mem_TBs (by decide +kernel) (by decide +kernel)
theorem hd_PanelMaker_fillFrom : y_PanelMaker_fillFrom.cls ≠ "java/lang/invoke/MethodHandle" ∧ y_PanelMaker_fillFrom.cls ≠ "java/lang/invoke/VarHandle" ∧ (parseMethodDescriptor y_PanelMaker_fillFrom.desc).map (fun d => d.parameters.length) = some 3 := by decide +kernel
def y_Plan_init : MethodName := ⟨R_Plan, "<init>", "(I)V"⟩
abbrev ws_Plan_init : List Cond := .code y_Plan_init prog_8_method_1_code 2 none :: TB
theorem d_Plan_init_0 : decode prog_8_method_1_code 0 = .ok (.aload_n 0, 1) := by decide +kernel
theorem d_Plan_init_1 : decode prog_8_method_1_code 1 = .ok (.invokespecial 3, 3) := by decide +kernel
theorem d_Plan_init_4 : decode prog_8_method_1_code 4 = .ok (.aload_n 0, 1) := by decide +kernel
theorem d_Plan_init_5 : decode prog_8_method_1_code 5 = .ok (.bipush 8, 2) := by decide +kernel
theorem d_Plan_init_7 : decode prog_8_method_1_code 7 = .ok (.newarray .int, 2) := by decide +kernel
theorem d_Plan_init_9 : decode prog_8_method_1_code 9 = .ok (.putfield 9, 3) := by decide +kernel
theorem d_Plan_init_12 : decode prog_8_method_1_code 12 = .ok (.aload_n 0, 1) := by decide +kernel
theorem d_Plan_init_13 : decode prog_8_method_1_code 13 = .ok (.iconst 0, 1) := by decide +kernel
theorem d_Plan_init_14 : decode prog_8_method_1_code 14 = .ok (.putfield 15, 3) := by decide +kernel
theorem d_Plan_init_17 : decode prog_8_method_1_code 17 = .ok (.aload_n 0, 1) := by decide +kernel
theorem d_Plan_init_18 : decode prog_8_method_1_code 18 = .ok (.lconst 0, 1) := by decide +kernel
theorem d_Plan_init_19 : decode prog_8_method_1_code 19 = .ok (.putfield 19, 3) := by decide +kernel
theorem d_Plan_init_22 : decode prog_8_method_1_code 22 = .ok (.aload_n 0, 1) := by decide +kernel
theorem d_Plan_init_23 : decode prog_8_method_1_code 23 = .ok (.iload_n 1, 1) := by decide +kernel
theorem d_Plan_init_24 : decode prog_8_method_1_code 24 = .ok (.putfield 23, 3) := by decide +kernel
theorem d_Plan_init_27 : decode prog_8_method_1_code 27 = .ok (.aload_n 0, 1) := by decide +kernel
theorem d_Plan_init_28 : decode prog_8_method_1_code 28 = .ok (.bipush 6, 2) := by decide +kernel
theorem d_Plan_init_30 : decode prog_8_method_1_code 30 = .ok (.iload_n 1, 1) := by decide +kernel
theorem d_Plan_init_31 : decode prog_8_method_1_code 31 = .ok (.multianewarray 26 2, 4) := by decide +kernel
theorem d_Plan_init_35 : decode prog_8_method_1_code 35 = .ok (.putfield 28, 3) := by decide +kernel
theorem d_Plan_init_38 : decode prog_8_method_1_code 38 = .ok (.return_, 1) := by decide +kernel
set_option maxRecDepth 50000 in
theorem cd_Plan_init : Cond.code y_Plan_init prog_8_method_1_code 2 none ∈ TB := mem_TB 170 rfl rfl
theorem im_Plan_init : Cond.instanceMethod y_Plan_init ∈ TB := mem_TB 169 (by decide +kernel) (by decide +kernel)
theorem hd_Plan_init : y_Plan_init.cls ≠ "java/lang/invoke/MethodHandle" ∧ y_Plan_init.cls ≠ "java/lang/invoke/VarHandle" ∧ (parseMethodDescriptor y_Plan_init.desc).map (fun d => d.parameters.length) = some 1 := by decide +kernel
def y_Plan_empty : MethodName := ⟨R_Plan, "empty", "()V"⟩
abbrev ws_Plan_empty : List Cond := .code y_Plan_empty prog_8_method_2_code 1 none :: TB
theorem d_Plan_empty_0 : decode prog_8_method_2_code 0 = .ok (.aload_n 0, 1) := by decide +kernel
theorem d_Plan_empty_1 : decode prog_8_method_2_code 1 = .ok (.iconst 0, 1) := by decide +kernel
theorem d_Plan_empty_2 : decode prog_8_method_2_code 2 = .ok (.putfield 15, 3) := by decide +kernel
theorem d_Plan_empty_5 : decode prog_8_method_2_code 5 = .ok (.aload_n 0, 1) := by decide +kernel
theorem d_Plan_empty_6 : decode prog_8_method_2_code 6 = .ok (.lconst 0, 1) := by decide +kernel
theorem d_Plan_empty_7 : decode prog_8_method_2_code 7 = .ok (.putfield 19, 3) := by decide +kernel
theorem d_Plan_empty_10 : decode prog_8_method_2_code 10 = .ok (.aload_n 0, 1) := by decide +kernel
theorem d_Plan_empty_11 : decode prog_8_method_2_code 11 = .ok (.getfield 9, 3) := by decide +kernel
theorem d_Plan_empty_14 : decode prog_8_method_2_code 14 = .ok (.iconst 0, 1) := by decide +kernel
theorem d_Plan_empty_15 : decode prog_8_method_2_code 15 = .ok (.invokestatic 31, 3) := by decide +kernel
theorem d_Plan_empty_18 : decode prog_8_method_2_code 18 = .ok (.return_, 1) := by decide +kernel
set_option maxRecDepth 50000 in
theorem cd_Plan_empty : Cond.code y_Plan_empty prog_8_method_2_code 1 none ∈ TB := mem_TB 599 rfl rfl
theorem im_Plan_empty : Cond.instanceMethod y_Plan_empty ∈ TB := mem_TB 597 (by decide +kernel) (by decide +kernel)
theorem sl_Plan_empty : Cond.selects R_Plan y_Plan_empty y_Plan_empty ∈ TB := mem_TB 598 (by decide +kernel) (by decide +kernel)
theorem hd_Plan_empty : y_Plan_empty.cls ≠ "java/lang/invoke/MethodHandle" ∧ y_Plan_empty.cls ≠ "java/lang/invoke/VarHandle" ∧ (parseMethodDescriptor y_Plan_empty.desc).map (fun d => d.parameters.length) = some 0 := by decide +kernel
def y_Plan_addPiece : MethodName := ⟨R_Plan, "addPiece", "(IIIIII)V"⟩
abbrev ws_Plan_addPiece : List Cond := .code y_Plan_addPiece prog_8_method_3_code 7 none :: TB
theorem d_Plan_addPiece_0 : decode prog_8_method_3_code 0 = .ok (.aload_n 0, 1) := by decide +kernel
theorem d_Plan_addPiece_1 : decode prog_8_method_3_code 1 = .ok (.getfield 15, 3) := by decide +kernel
theorem d_Plan_addPiece_4 : decode prog_8_method_3_code 4 = .ok (.aload_n 0, 1) := by decide +kernel
theorem d_Plan_addPiece_5 : decode prog_8_method_3_code 5 = .ok (.getfield 23, 3) := by decide +kernel
theorem d_Plan_addPiece_8 : decode prog_8_method_3_code 8 = .ok (.if_icmp .ge 15, 3) := by decide +kernel
theorem d_Plan_addPiece_11 : decode prog_8_method_3_code 11 = .ok (.iload 5, 2) := by decide +kernel
theorem d_Plan_addPiece_13 : decode prog_8_method_3_code 13 = .ok (.ifCond .lt 10, 3) := by decide +kernel
theorem d_Plan_addPiece_16 : decode prog_8_method_3_code 16 = .ok (.iload 5, 2) := by decide +kernel
theorem d_Plan_addPiece_18 : decode prog_8_method_3_code 18 = .ok (.bipush 8, 2) := by decide +kernel
theorem d_Plan_addPiece_20 : decode prog_8_method_3_code 20 = .ok (.if_icmp .lt 4, 3) := by decide +kernel
theorem d_Plan_addPiece_23 : decode prog_8_method_3_code 23 = .ok (.return_, 1) := by decide +kernel
theorem d_Plan_addPiece_24 : decode prog_8_method_3_code 24 = .ok (.aload_n 0, 1) := by decide +kernel
theorem d_Plan_addPiece_25 : decode prog_8_method_3_code 25 = .ok (.getfield 28, 3) := by decide +kernel
theorem d_Plan_addPiece_28 : decode prog_8_method_3_code 28 = .ok (.iconst 0, 1) := by decide +kernel
theorem d_Plan_addPiece_29 : decode prog_8_method_3_code 29 = .ok (.aaload, 1) := by decide +kernel
theorem d_Plan_addPiece_30 : decode prog_8_method_3_code 30 = .ok (.aload_n 0, 1) := by decide +kernel
theorem d_Plan_addPiece_31 : decode prog_8_method_3_code 31 = .ok (.getfield 15, 3) := by decide +kernel
theorem d_Plan_addPiece_34 : decode prog_8_method_3_code 34 = .ok (.iload_n 1, 1) := by decide +kernel
theorem d_Plan_addPiece_35 : decode prog_8_method_3_code 35 = .ok (.iastore, 1) := by decide +kernel
theorem d_Plan_addPiece_36 : decode prog_8_method_3_code 36 = .ok (.aload_n 0, 1) := by decide +kernel
theorem d_Plan_addPiece_37 : decode prog_8_method_3_code 37 = .ok (.getfield 28, 3) := by decide +kernel
theorem d_Plan_addPiece_40 : decode prog_8_method_3_code 40 = .ok (.iconst 1, 1) := by decide +kernel
theorem d_Plan_addPiece_41 : decode prog_8_method_3_code 41 = .ok (.aaload, 1) := by decide +kernel
theorem d_Plan_addPiece_42 : decode prog_8_method_3_code 42 = .ok (.aload_n 0, 1) := by decide +kernel
theorem d_Plan_addPiece_43 : decode prog_8_method_3_code 43 = .ok (.getfield 15, 3) := by decide +kernel
theorem d_Plan_addPiece_46 : decode prog_8_method_3_code 46 = .ok (.iload_n 2, 1) := by decide +kernel
theorem d_Plan_addPiece_47 : decode prog_8_method_3_code 47 = .ok (.iastore, 1) := by decide +kernel
theorem d_Plan_addPiece_48 : decode prog_8_method_3_code 48 = .ok (.aload_n 0, 1) := by decide +kernel
theorem d_Plan_addPiece_49 : decode prog_8_method_3_code 49 = .ok (.getfield 28, 3) := by decide +kernel
theorem d_Plan_addPiece_52 : decode prog_8_method_3_code 52 = .ok (.iconst 2, 1) := by decide +kernel
theorem d_Plan_addPiece_53 : decode prog_8_method_3_code 53 = .ok (.aaload, 1) := by decide +kernel
theorem d_Plan_addPiece_54 : decode prog_8_method_3_code 54 = .ok (.aload_n 0, 1) := by decide +kernel
theorem d_Plan_addPiece_55 : decode prog_8_method_3_code 55 = .ok (.getfield 15, 3) := by decide +kernel
theorem d_Plan_addPiece_58 : decode prog_8_method_3_code 58 = .ok (.iload_n 3, 1) := by decide +kernel
theorem d_Plan_addPiece_59 : decode prog_8_method_3_code 59 = .ok (.iastore, 1) := by decide +kernel
theorem d_Plan_addPiece_60 : decode prog_8_method_3_code 60 = .ok (.aload_n 0, 1) := by decide +kernel
theorem d_Plan_addPiece_61 : decode prog_8_method_3_code 61 = .ok (.getfield 28, 3) := by decide +kernel
theorem d_Plan_addPiece_64 : decode prog_8_method_3_code 64 = .ok (.iconst 3, 1) := by decide +kernel
theorem d_Plan_addPiece_65 : decode prog_8_method_3_code 65 = .ok (.aaload, 1) := by decide +kernel
theorem d_Plan_addPiece_66 : decode prog_8_method_3_code 66 = .ok (.aload_n 0, 1) := by decide +kernel
theorem d_Plan_addPiece_67 : decode prog_8_method_3_code 67 = .ok (.getfield 15, 3) := by decide +kernel
theorem d_Plan_addPiece_70 : decode prog_8_method_3_code 70 = .ok (.iload 4, 2) := by decide +kernel
theorem d_Plan_addPiece_72 : decode prog_8_method_3_code 72 = .ok (.iastore, 1) := by decide +kernel
theorem d_Plan_addPiece_73 : decode prog_8_method_3_code 73 = .ok (.aload_n 0, 1) := by decide +kernel
theorem d_Plan_addPiece_74 : decode prog_8_method_3_code 74 = .ok (.getfield 28, 3) := by decide +kernel
theorem d_Plan_addPiece_77 : decode prog_8_method_3_code 77 = .ok (.iconst 4, 1) := by decide +kernel
theorem d_Plan_addPiece_78 : decode prog_8_method_3_code 78 = .ok (.aaload, 1) := by decide +kernel
theorem d_Plan_addPiece_79 : decode prog_8_method_3_code 79 = .ok (.aload_n 0, 1) := by decide +kernel
theorem d_Plan_addPiece_80 : decode prog_8_method_3_code 80 = .ok (.getfield 15, 3) := by decide +kernel
theorem d_Plan_addPiece_83 : decode prog_8_method_3_code 83 = .ok (.iload 5, 2) := by decide +kernel
theorem d_Plan_addPiece_85 : decode prog_8_method_3_code 85 = .ok (.iastore, 1) := by decide +kernel
theorem d_Plan_addPiece_86 : decode prog_8_method_3_code 86 = .ok (.aload_n 0, 1) := by decide +kernel
theorem d_Plan_addPiece_87 : decode prog_8_method_3_code 87 = .ok (.getfield 28, 3) := by decide +kernel
theorem d_Plan_addPiece_90 : decode prog_8_method_3_code 90 = .ok (.iconst 5, 1) := by decide +kernel
theorem d_Plan_addPiece_91 : decode prog_8_method_3_code 91 = .ok (.aaload, 1) := by decide +kernel
theorem d_Plan_addPiece_92 : decode prog_8_method_3_code 92 = .ok (.aload_n 0, 1) := by decide +kernel
theorem d_Plan_addPiece_93 : decode prog_8_method_3_code 93 = .ok (.getfield 15, 3) := by decide +kernel
theorem d_Plan_addPiece_96 : decode prog_8_method_3_code 96 = .ok (.iload 6, 2) := by decide +kernel
theorem d_Plan_addPiece_98 : decode prog_8_method_3_code 98 = .ok (.iastore, 1) := by decide +kernel
theorem d_Plan_addPiece_99 : decode prog_8_method_3_code 99 = .ok (.aload_n 0, 1) := by decide +kernel
theorem d_Plan_addPiece_100 : decode prog_8_method_3_code 100 = .ok (.getfield 9, 3) := by decide +kernel
theorem d_Plan_addPiece_103 : decode prog_8_method_3_code 103 = .ok (.iload 5, 2) := by decide +kernel
theorem d_Plan_addPiece_105 : decode prog_8_method_3_code 105 = .ok (.dup2, 1) := by decide +kernel
theorem d_Plan_addPiece_106 : decode prog_8_method_3_code 106 = .ok (.iaload, 1) := by decide +kernel
theorem d_Plan_addPiece_107 : decode prog_8_method_3_code 107 = .ok (.iconst 1, 1) := by decide +kernel
theorem d_Plan_addPiece_108 : decode prog_8_method_3_code 108 = .ok (.iadd, 1) := by decide +kernel
theorem d_Plan_addPiece_109 : decode prog_8_method_3_code 109 = .ok (.iastore, 1) := by decide +kernel
theorem d_Plan_addPiece_110 : decode prog_8_method_3_code 110 = .ok (.aload_n 0, 1) := by decide +kernel
theorem d_Plan_addPiece_111 : decode prog_8_method_3_code 111 = .ok (.dup, 1) := by decide +kernel
theorem d_Plan_addPiece_112 : decode prog_8_method_3_code 112 = .ok (.getfield 15, 3) := by decide +kernel
theorem d_Plan_addPiece_115 : decode prog_8_method_3_code 115 = .ok (.iconst 1, 1) := by decide +kernel
theorem d_Plan_addPiece_116 : decode prog_8_method_3_code 116 = .ok (.iadd, 1) := by decide +kernel
theorem d_Plan_addPiece_117 : decode prog_8_method_3_code 117 = .ok (.putfield 15, 3) := by decide +kernel
theorem d_Plan_addPiece_120 : decode prog_8_method_3_code 120 = .ok (.aload_n 0, 1) := by decide +kernel
theorem d_Plan_addPiece_121 : decode prog_8_method_3_code 121 = .ok (.dup, 1) := by decide +kernel
theorem d_Plan_addPiece_122 : decode prog_8_method_3_code 122 = .ok (.getfield 19, 3) := by decide +kernel
theorem d_Plan_addPiece_125 : decode prog_8_method_3_code 125 = .ok (.iload 6, 2) := by decide +kernel
theorem d_Plan_addPiece_127 : decode prog_8_method_3_code 127 = .ok (.i2l, 1) := by decide +kernel
theorem d_Plan_addPiece_128 : decode prog_8_method_3_code 128 = .ok (.ladd, 1) := by decide +kernel
theorem d_Plan_addPiece_129 : decode prog_8_method_3_code 129 = .ok (.putfield 19, 3) := by decide +kernel
theorem d_Plan_addPiece_132 : decode prog_8_method_3_code 132 = .ok (.return_, 1) := by decide +kernel
set_option maxRecDepth 50000 in
theorem cd_Plan_addPiece : Cond.code y_Plan_addPiece prog_8_method_3_code 7 none ∈ TB := mem_TB 684 rfl rfl
theorem im_Plan_addPiece : Cond.instanceMethod y_Plan_addPiece ∈ TB := mem_TB 682 (by decide +kernel) (by decide +kernel)
theorem sl_Plan_addPiece : Cond.selects R_Plan y_Plan_addPiece y_Plan_addPiece ∈ TB := mem_TB 683 (by decide +kernel) (by decide +kernel)
theorem hd_Plan_addPiece : y_Plan_addPiece.cls ≠ "java/lang/invoke/MethodHandle" ∧ y_Plan_addPiece.cls ≠ "java/lang/invoke/VarHandle" ∧ (parseMethodDescriptor y_Plan_addPiece.desc).map (fun d => d.parameters.length) = some 6 := by decide +kernel
def y_Plan_copyFrom : MethodName := ⟨R_Plan, "copyFrom", "(LFaultRips$Plan;)V"⟩
abbrev ws_Plan_copyFrom : List Cond := .code y_Plan_copyFrom prog_8_method_4_code 3 none :: TB
theorem d_Plan_copyFrom_0 : decode prog_8_method_4_code 0 = .ok (.aload_n 0, 1) := by decide +kernel
theorem d_Plan_copyFrom_1 : decode prog_8_method_4_code 1 = .ok (.invokevirtual 37, 3) := by decide +kernel
theorem d_Plan_copyFrom_4 : decode prog_8_method_4_code 4 = .ok (.iconst 0, 1) := by decide +kernel
theorem d_Plan_copyFrom_5 : decode prog_8_method_4_code 5 = .ok (.istore_n 2, 1) := by decide +kernel
theorem d_Plan_copyFrom_6 : decode prog_8_method_4_code 6 = .ok (.iload_n 2, 1) := by decide +kernel
theorem d_Plan_copyFrom_7 : decode prog_8_method_4_code 7 = .ok (.aload_n 1, 1) := by decide +kernel
theorem d_Plan_copyFrom_8 : decode prog_8_method_4_code 8 = .ok (.getfield 15, 3) := by decide +kernel
theorem d_Plan_copyFrom_11 : decode prog_8_method_4_code 11 = .ok (.if_icmp .ge 15, 3) := by decide +kernel
theorem d_Plan_copyFrom_14 : decode prog_8_method_4_code 14 = .ok (.aload_n 0, 1) := by decide +kernel
theorem d_Plan_copyFrom_15 : decode prog_8_method_4_code 15 = .ok (.aload_n 1, 1) := by decide +kernel
theorem d_Plan_copyFrom_16 : decode prog_8_method_4_code 16 = .ok (.iload_n 2, 1) := by decide +kernel
theorem d_Plan_copyFrom_17 : decode prog_8_method_4_code 17 = .ok (.invokevirtual 40, 3) := by decide +kernel
theorem d_Plan_copyFrom_20 : decode prog_8_method_4_code 20 = .ok (.iinc 2 1, 3) := by decide +kernel
theorem d_Plan_copyFrom_23 : decode prog_8_method_4_code 23 = .ok (.goto (-17), 3) := by decide +kernel
theorem d_Plan_copyFrom_26 : decode prog_8_method_4_code 26 = .ok (.return_, 1) := by decide +kernel
set_option maxRecDepth 50000 in
theorem cd_Plan_copyFrom : Cond.code y_Plan_copyFrom prog_8_method_4_code 3 none ∈ TB := mem_TB 723 rfl rfl
theorem im_Plan_copyFrom : Cond.instanceMethod y_Plan_copyFrom ∈ TB := mem_TB 721 (by decide +kernel) (by decide +kernel)
theorem sl_Plan_copyFrom : Cond.selects R_Plan y_Plan_copyFrom y_Plan_copyFrom ∈ TB := mem_TB 722 (by decide +kernel) (by decide +kernel)
theorem hd_Plan_copyFrom : y_Plan_copyFrom.cls ≠ "java/lang/invoke/MethodHandle" ∧ y_Plan_copyFrom.cls ≠ "java/lang/invoke/VarHandle" ∧ (parseMethodDescriptor y_Plan_copyFrom.desc).map (fun d => d.parameters.length) = some 1 := by decide +kernel
def y_Plan_takeOffTooMany : MethodName := ⟨R_Plan, "takeOffTooMany", "(LFaultRips$Sorts;)V"⟩
abbrev ws_Plan_takeOffTooMany : List Cond := .code y_Plan_takeOffTooMany prog_8_method_5_code 5 none :: TB
theorem d_Plan_takeOffTooMany_0 : decode prog_8_method_5_code 0 = .ok (.aload_n 0, 1) := by decide +kernel
theorem d_Plan_takeOffTooMany_1 : decode prog_8_method_5_code 1 = .ok (.getfield 15, 3) := by decide +kernel
theorem d_Plan_takeOffTooMany_4 : decode prog_8_method_5_code 4 = .ok (.istore_n 2, 1) := by decide +kernel
theorem d_Plan_takeOffTooMany_5 : decode prog_8_method_5_code 5 = .ok (.aload_n 0, 1) := by decide +kernel
theorem d_Plan_takeOffTooMany_6 : decode prog_8_method_5_code 6 = .ok (.invokevirtual 37, 3) := by decide +kernel
theorem d_Plan_takeOffTooMany_9 : decode prog_8_method_5_code 9 = .ok (.iconst 0, 1) := by decide +kernel
theorem d_Plan_takeOffTooMany_10 : decode prog_8_method_5_code 10 = .ok (.istore_n 3, 1) := by decide +kernel
theorem d_Plan_takeOffTooMany_11 : decode prog_8_method_5_code 11 = .ok (.iload_n 3, 1) := by decide +kernel
theorem d_Plan_takeOffTooMany_12 : decode prog_8_method_5_code 12 = .ok (.iload_n 2, 1) := by decide +kernel
theorem d_Plan_takeOffTooMany_13 : decode prog_8_method_5_code 13 = .ok (.if_icmp .ge 43, 3) := by decide +kernel
theorem d_Plan_takeOffTooMany_16 : decode prog_8_method_5_code 16 = .ok (.aload_n 0, 1) := by decide +kernel
theorem d_Plan_takeOffTooMany_17 : decode prog_8_method_5_code 17 = .ok (.getfield 28, 3) := by decide +kernel
theorem d_Plan_takeOffTooMany_20 : decode prog_8_method_5_code 20 = .ok (.iconst 4, 1) := by decide +kernel
theorem d_Plan_takeOffTooMany_21 : decode prog_8_method_5_code 21 = .ok (.aaload, 1) := by decide +kernel
theorem d_Plan_takeOffTooMany_22 : decode prog_8_method_5_code 22 = .ok (.iload_n 3, 1) := by decide +kernel
theorem d_Plan_takeOffTooMany_23 : decode prog_8_method_5_code 23 = .ok (.iaload, 1) := by decide +kernel
theorem d_Plan_takeOffTooMany_24 : decode prog_8_method_5_code 24 = .ok (.istore 4, 2) := by decide +kernel
theorem d_Plan_takeOffTooMany_26 : decode prog_8_method_5_code 26 = .ok (.aload_n 1, 1) := by decide +kernel
theorem d_Plan_takeOffTooMany_27 : decode prog_8_method_5_code 27 = .ok (.iload 4, 2) := by decide +kernel
theorem d_Plan_takeOffTooMany_29 : decode prog_8_method_5_code 29 = .ok (.aload_n 0, 1) := by decide +kernel
theorem d_Plan_takeOffTooMany_30 : decode prog_8_method_5_code 30 = .ok (.getfield 9, 3) := by decide +kernel
theorem d_Plan_takeOffTooMany_33 : decode prog_8_method_5_code 33 = .ok (.iload 4, 2) := by decide +kernel
theorem d_Plan_takeOffTooMany_35 : decode prog_8_method_5_code 35 = .ok (.iaload, 1) := by decide +kernel
theorem d_Plan_takeOffTooMany_36 : decode prog_8_method_5_code 36 = .ok (.iconst 1, 1) := by decide +kernel
theorem d_Plan_takeOffTooMany_37 : decode prog_8_method_5_code 37 = .ok (.iadd, 1) := by decide +kernel
theorem d_Plan_takeOffTooMany_38 : decode prog_8_method_5_code 38 = .ok (.invokevirtual 44, 3) := by decide +kernel
theorem d_Plan_takeOffTooMany_41 : decode prog_8_method_5_code 41 = .ok (.ifCond .ne 9, 3) := by decide +kernel
theorem d_Plan_takeOffTooMany_44 : decode prog_8_method_5_code 44 = .ok (.aload_n 0, 1) := by decide +kernel
theorem d_Plan_takeOffTooMany_45 : decode prog_8_method_5_code 45 = .ok (.aload_n 0, 1) := by decide +kernel
theorem d_Plan_takeOffTooMany_46 : decode prog_8_method_5_code 46 = .ok (.iload_n 3, 1) := by decide +kernel
theorem d_Plan_takeOffTooMany_47 : decode prog_8_method_5_code 47 = .ok (.invokevirtual 40, 3) := by decide +kernel
theorem d_Plan_takeOffTooMany_50 : decode prog_8_method_5_code 50 = .ok (.iinc 3 1, 3) := by decide +kernel
theorem d_Plan_takeOffTooMany_53 : decode prog_8_method_5_code 53 = .ok (.goto (-42), 3) := by decide +kernel
theorem d_Plan_takeOffTooMany_56 : decode prog_8_method_5_code 56 = .ok (.return_, 1) := by decide +kernel
set_option maxRecDepth 50000 in
theorem cd_Plan_takeOffTooMany : Cond.code y_Plan_takeOffTooMany prog_8_method_5_code 5 none ∈ TB := mem_TB 737 rfl rfl
theorem im_Plan_takeOffTooMany : Cond.instanceMethod y_Plan_takeOffTooMany ∈ TB := mem_TB 735 (by decide +kernel) (by decide +kernel)
theorem sl_Plan_takeOffTooMany : Cond.selects R_Plan y_Plan_takeOffTooMany y_Plan_takeOffTooMany ∈ TB := mem_TB 736 (by decide +kernel) (by decide +kernel)
theorem hd_Plan_takeOffTooMany : y_Plan_takeOffTooMany.cls ≠ "java/lang/invoke/MethodHandle" ∧ y_Plan_takeOffTooMany.cls ≠ "java/lang/invoke/VarHandle" ∧ (parseMethodDescriptor y_Plan_takeOffTooMany.desc).map (fun d => d.parameters.length) = some 1 := by decide +kernel
def y_Plan_addPieceOf : MethodName := ⟨R_Plan, "addPieceOf", "(LFaultRips$Plan;I)V"⟩
abbrev ws_Plan_addPieceOf : List Cond := .code y_Plan_addPieceOf prog_8_method_6_code 4 none :: TB
theorem d_Plan_addPieceOf_0 : decode prog_8_method_6_code 0 = .ok (.aload_n 1, 1) := by decide +kernel
theorem d_Plan_addPieceOf_1 : decode prog_8_method_6_code 1 = .ok (.getfield 28, 3) := by decide +kernel
theorem d_Plan_addPieceOf_4 : decode prog_8_method_6_code 4 = .ok (.astore_n 3, 1) := by decide +kernel
theorem d_Plan_addPieceOf_5 : decode prog_8_method_6_code 5 = .ok (.aload_n 0, 1) := by decide +kernel
theorem d_Plan_addPieceOf_6 : decode prog_8_method_6_code 6 = .ok (.aload_n 3, 1) := by decide +kernel
theorem d_Plan_addPieceOf_7 : decode prog_8_method_6_code 7 = .ok (.iconst 0, 1) := by decide +kernel
theorem d_Plan_addPieceOf_8 : decode prog_8_method_6_code 8 = .ok (.aaload, 1) := by decide +kernel
theorem d_Plan_addPieceOf_9 : decode prog_8_method_6_code 9 = .ok (.iload_n 2, 1) := by decide +kernel
theorem d_Plan_addPieceOf_10 : decode prog_8_method_6_code 10 = .ok (.iaload, 1) := by decide +kernel
theorem d_Plan_addPieceOf_11 : decode prog_8_method_6_code 11 = .ok (.aload_n 3, 1) := by decide +kernel
theorem d_Plan_addPieceOf_12 : decode prog_8_method_6_code 12 = .ok (.iconst 1, 1) := by decide +kernel
theorem d_Plan_addPieceOf_13 : decode prog_8_method_6_code 13 = .ok (.aaload, 1) := by decide +kernel
theorem d_Plan_addPieceOf_14 : decode prog_8_method_6_code 14 = .ok (.iload_n 2, 1) := by decide +kernel
theorem d_Plan_addPieceOf_15 : decode prog_8_method_6_code 15 = .ok (.iaload, 1) := by decide +kernel
theorem d_Plan_addPieceOf_16 : decode prog_8_method_6_code 16 = .ok (.aload_n 3, 1) := by decide +kernel
theorem d_Plan_addPieceOf_17 : decode prog_8_method_6_code 17 = .ok (.iconst 2, 1) := by decide +kernel
theorem d_Plan_addPieceOf_18 : decode prog_8_method_6_code 18 = .ok (.aaload, 1) := by decide +kernel
theorem d_Plan_addPieceOf_19 : decode prog_8_method_6_code 19 = .ok (.iload_n 2, 1) := by decide +kernel
theorem d_Plan_addPieceOf_20 : decode prog_8_method_6_code 20 = .ok (.iaload, 1) := by decide +kernel
theorem d_Plan_addPieceOf_21 : decode prog_8_method_6_code 21 = .ok (.aload_n 3, 1) := by decide +kernel
theorem d_Plan_addPieceOf_22 : decode prog_8_method_6_code 22 = .ok (.iconst 3, 1) := by decide +kernel
theorem d_Plan_addPieceOf_23 : decode prog_8_method_6_code 23 = .ok (.aaload, 1) := by decide +kernel
theorem d_Plan_addPieceOf_24 : decode prog_8_method_6_code 24 = .ok (.iload_n 2, 1) := by decide +kernel
theorem d_Plan_addPieceOf_25 : decode prog_8_method_6_code 25 = .ok (.iaload, 1) := by decide +kernel
theorem d_Plan_addPieceOf_26 : decode prog_8_method_6_code 26 = .ok (.aload_n 3, 1) := by decide +kernel
theorem d_Plan_addPieceOf_27 : decode prog_8_method_6_code 27 = .ok (.iconst 4, 1) := by decide +kernel
theorem d_Plan_addPieceOf_28 : decode prog_8_method_6_code 28 = .ok (.aaload, 1) := by decide +kernel
theorem d_Plan_addPieceOf_29 : decode prog_8_method_6_code 29 = .ok (.iload_n 2, 1) := by decide +kernel
theorem d_Plan_addPieceOf_30 : decode prog_8_method_6_code 30 = .ok (.iaload, 1) := by decide +kernel
theorem d_Plan_addPieceOf_31 : decode prog_8_method_6_code 31 = .ok (.aload_n 3, 1) := by decide +kernel
theorem d_Plan_addPieceOf_32 : decode prog_8_method_6_code 32 = .ok (.iconst 5, 1) := by decide +kernel
theorem d_Plan_addPieceOf_33 : decode prog_8_method_6_code 33 = .ok (.aaload, 1) := by decide +kernel
theorem d_Plan_addPieceOf_34 : decode prog_8_method_6_code 34 = .ok (.iload_n 2, 1) := by decide +kernel
theorem d_Plan_addPieceOf_35 : decode prog_8_method_6_code 35 = .ok (.iaload, 1) := by decide +kernel
theorem d_Plan_addPieceOf_36 : decode prog_8_method_6_code 36 = .ok (.invokevirtual 50, 3) := by decide +kernel
theorem d_Plan_addPieceOf_39 : decode prog_8_method_6_code 39 = .ok (.return_, 1) := by decide +kernel
set_option maxRecDepth 50000 in
theorem cd_Plan_addPieceOf : Cond.code y_Plan_addPieceOf prog_8_method_6_code 4 none ∈ TB := mem_TB 728 rfl rfl
theorem im_Plan_addPieceOf : Cond.instanceMethod y_Plan_addPieceOf ∈ TB := mem_TB 727 (by decide +kernel) (by decide +kernel)
theorem sl_Plan_addPieceOf : Cond.selects R_Plan y_Plan_addPieceOf y_Plan_addPieceOf ∈ TB := mem_TBs (by decide +kernel) (by decide +kernel)
theorem hd_Plan_addPieceOf : y_Plan_addPieceOf.cls ≠ "java/lang/invoke/MethodHandle" ∧ y_Plan_addPieceOf.cls ≠ "java/lang/invoke/VarHandle" ∧ (parseMethodDescriptor y_Plan_addPieceOf.desc).map (fun d => d.parameters.length) = some 2 := by decide +kernel
def y_Sort_init : MethodName := ⟨R_Sort, "<init>", "(IIII)V"⟩
abbrev ws_Sort_init : List Cond := .code y_Sort_init prog_9_method_1_code 5 none :: TB
theorem d_Sort_init_0 : decode prog_9_method_1_code 0 = .ok (.aload_n 0, 1) := by decide +kernel
theorem d_Sort_init_1 : decode prog_9_method_1_code 1 = .ok (.invokespecial 3, 3) := by decide +kernel
theorem d_Sort_init_4 : decode prog_9_method_1_code 4 = .ok (.aload_n 0, 1) := by decide +kernel
theorem d_Sort_init_5 : decode prog_9_method_1_code 5 = .ok (.iconst (-1), 1) := by decide +kernel
theorem d_Sort_init_6 : decode prog_9_method_1_code 6 = .ok (.putfield 9, 3) := by decide +kernel
theorem d_Sort_init_9 : decode prog_9_method_1_code 9 = .ok (.aload_n 0, 1) := by decide +kernel
theorem d_Sort_init_10 : decode prog_9_method_1_code 10 = .ok (.lconst 0, 1) := by decide +kernel
theorem d_Sort_init_11 : decode prog_9_method_1_code 11 = .ok (.putfield 15, 3) := by decide +kernel
theorem d_Sort_init_14 : decode prog_9_method_1_code 14 = .ok (.aload_n 0, 1) := by decide +kernel
theorem d_Sort_init_15 : decode prog_9_method_1_code 15 = .ok (.iconst 1, 1) := by decide +kernel
theorem d_Sort_init_16 : decode prog_9_method_1_code 16 = .ok (.putfield 19, 3) := by decide +kernel
theorem d_Sort_init_19 : decode prog_9_method_1_code 19 = .ok (.aload_n 0, 1) := by decide +kernel
theorem d_Sort_init_20 : decode prog_9_method_1_code 20 = .ok (.iconst 0, 1) := by decide +kernel
theorem d_Sort_init_21 : decode prog_9_method_1_code 21 = .ok (.putfield 22, 3) := by decide +kernel
theorem d_Sort_init_24 : decode prog_9_method_1_code 24 = .ok (.aload_n 0, 1) := by decide +kernel
theorem d_Sort_init_25 : decode prog_9_method_1_code 25 = .ok (.iconst 0, 1) := by decide +kernel
theorem d_Sort_init_26 : decode prog_9_method_1_code 26 = .ok (.putfield 25, 3) := by decide +kernel
theorem d_Sort_init_29 : decode prog_9_method_1_code 29 = .ok (.aload_n 0, 1) := by decide +kernel
theorem d_Sort_init_30 : decode prog_9_method_1_code 30 = .ok (.iconst 0, 1) := by decide +kernel
theorem d_Sort_init_31 : decode prog_9_method_1_code 31 = .ok (.putfield 28, 3) := by decide +kernel
theorem d_Sort_init_34 : decode prog_9_method_1_code 34 = .ok (.aload_n 0, 1) := by decide +kernel
theorem d_Sort_init_35 : decode prog_9_method_1_code 35 = .ok (.iload_n 1, 1) := by decide +kernel
theorem d_Sort_init_36 : decode prog_9_method_1_code 36 = .ok (.putfield 31, 3) := by decide +kernel
theorem d_Sort_init_39 : decode prog_9_method_1_code 39 = .ok (.aload_n 0, 1) := by decide +kernel
theorem d_Sort_init_40 : decode prog_9_method_1_code 40 = .ok (.iload_n 2, 1) := by decide +kernel
theorem d_Sort_init_41 : decode prog_9_method_1_code 41 = .ok (.putfield 34, 3) := by decide +kernel
theorem d_Sort_init_44 : decode prog_9_method_1_code 44 = .ok (.aload_n 0, 1) := by decide +kernel
theorem d_Sort_init_45 : decode prog_9_method_1_code 45 = .ok (.iload_n 3, 1) := by decide +kernel
theorem d_Sort_init_46 : decode prog_9_method_1_code 46 = .ok (.putfield 37, 3) := by decide +kernel
theorem d_Sort_init_49 : decode prog_9_method_1_code 49 = .ok (.aload_n 0, 1) := by decide +kernel
theorem d_Sort_init_50 : decode prog_9_method_1_code 50 = .ok (.iload 4, 2) := by decide +kernel
theorem d_Sort_init_52 : decode prog_9_method_1_code 52 = .ok (.putfield 40, 3) := by decide +kernel
theorem d_Sort_init_55 : decode prog_9_method_1_code 55 = .ok (.return_, 1) := by decide +kernel
set_option maxRecDepth 50000 in
theorem cd_Sort_init : Cond.code y_Sort_init prog_9_method_1_code 5 none ∈ TB := mem_TB 447 rfl rfl
theorem im_Sort_init : Cond.instanceMethod y_Sort_init ∈ TB := mem_TB 446 (by decide +kernel) (by decide +kernel)
theorem hd_Sort_init : y_Sort_init.cls ≠ "java/lang/invoke/MethodHandle" ∧ y_Sort_init.cls ≠ "java/lang/invoke/VarHandle" ∧ (parseMethodDescriptor y_Sort_init.desc).map (fun d => d.parameters.length) = some 4 := by decide +kernel
def y_Sort_allowsKind : MethodName := ⟨R_Sort, "allowsKind", "(II)Z"⟩
abbrev ws_Sort_allowsKind : List Cond := .code y_Sort_allowsKind prog_9_method_2_code 3 (some .boolean) :: TB
theorem d_Sort_allowsKind_0 : decode prog_9_method_2_code 0 = .ok (.aload_n 0, 1) := by decide +kernel
theorem d_Sort_allowsKind_1 : decode prog_9_method_2_code 1 = .ok (.getfield 28, 3) := by decide +kernel
theorem d_Sort_allowsKind_4 : decode prog_9_method_2_code 4 = .ok (.iload_n 1, 1) := by decide +kernel
theorem d_Sort_allowsKind_5 : decode prog_9_method_2_code 5 = .ok (.bipush 8, 2) := by decide +kernel
theorem d_Sort_allowsKind_7 : decode prog_9_method_2_code 7 = .ok (.imul, 1) := by decide +kernel
theorem d_Sort_allowsKind_8 : decode prog_9_method_2_code 8 = .ok (.iload_n 2, 1) := by decide +kernel
theorem d_Sort_allowsKind_9 : decode prog_9_method_2_code 9 = .ok (.iadd, 1) := by decide +kernel
theorem d_Sort_allowsKind_10 : decode prog_9_method_2_code 10 = .ok (.ishr, 1) := by decide +kernel
theorem d_Sort_allowsKind_11 : decode prog_9_method_2_code 11 = .ok (.iconst 1, 1) := by decide +kernel
theorem d_Sort_allowsKind_12 : decode prog_9_method_2_code 12 = .ok (.iand, 1) := by decide +kernel
theorem d_Sort_allowsKind_13 : decode prog_9_method_2_code 13 = .ok (.iconst 1, 1) := by decide +kernel
theorem d_Sort_allowsKind_14 : decode prog_9_method_2_code 14 = .ok (.if_icmp .ne 7, 3) := by decide +kernel
theorem d_Sort_allowsKind_17 : decode prog_9_method_2_code 17 = .ok (.iconst 1, 1) := by decide +kernel
theorem d_Sort_allowsKind_18 : decode prog_9_method_2_code 18 = .ok (.goto 4, 3) := by decide +kernel
theorem d_Sort_allowsKind_21 : decode prog_9_method_2_code 21 = .ok (.iconst 0, 1) := by decide +kernel
theorem d_Sort_allowsKind_22 : decode prog_9_method_2_code 22 = .ok (.ireturn, 1) := by decide +kernel
set_option maxRecDepth 50000 in
theorem cd_Sort_allowsKind : Cond.code y_Sort_allowsKind prog_9_method_2_code 3 (some .boolean) ∈ TB := mem_TB 503 rfl rfl
theorem im_Sort_allowsKind : Cond.instanceMethod y_Sort_allowsKind ∈ TB := mem_TB 501 (by decide +kernel) (by decide +kernel)
theorem sl_Sort_allowsKind : Cond.selects R_Sort y_Sort_allowsKind y_Sort_allowsKind ∈ TB := mem_TB 502 (by decide +kernel) (by decide +kernel)
theorem hd_Sort_allowsKind : y_Sort_allowsKind.cls ≠ "java/lang/invoke/MethodHandle" ∧ y_Sort_allowsKind.cls ≠ "java/lang/invoke/VarHandle" ∧ (parseMethodDescriptor y_Sort_allowsKind.desc).map (fun d => d.parameters.length) = some 2 := by decide +kernel
def y_Sort_allowKind : MethodName := ⟨R_Sort, "allowKind", "(II)V"⟩
abbrev ws_Sort_allowKind : List Cond := .code y_Sort_allowKind prog_9_method_3_code 3 none :: TB
theorem d_Sort_allowKind_0 : decode prog_9_method_3_code 0 = .ok (.aload_n 0, 1) := by decide +kernel
theorem d_Sort_allowKind_1 : decode prog_9_method_3_code 1 = .ok (.dup, 1) := by decide +kernel
theorem d_Sort_allowKind_2 : decode prog_9_method_3_code 2 = .ok (.getfield 28, 3) := by decide +kernel
theorem d_Sort_allowKind_5 : decode prog_9_method_3_code 5 = .ok (.iconst 1, 1) := by decide +kernel
theorem d_Sort_allowKind_6 : decode prog_9_method_3_code 6 = .ok (.iload_n 1, 1) := by decide +kernel
theorem d_Sort_allowKind_7 : decode prog_9_method_3_code 7 = .ok (.bipush 8, 2) := by decide +kernel
theorem d_Sort_allowKind_9 : decode prog_9_method_3_code 9 = .ok (.imul, 1) := by decide +kernel
theorem d_Sort_allowKind_10 : decode prog_9_method_3_code 10 = .ok (.iload_n 2, 1) := by decide +kernel
theorem d_Sort_allowKind_11 : decode prog_9_method_3_code 11 = .ok (.iadd, 1) := by decide +kernel
theorem d_Sort_allowKind_12 : decode prog_9_method_3_code 12 = .ok (.ishl, 1) := by decide +kernel
theorem d_Sort_allowKind_13 : decode prog_9_method_3_code 13 = .ok (.ior, 1) := by decide +kernel
theorem d_Sort_allowKind_14 : decode prog_9_method_3_code 14 = .ok (.putfield 28, 3) := by decide +kernel
theorem d_Sort_allowKind_17 : decode prog_9_method_3_code 17 = .ok (.return_, 1) := by decide +kernel
set_option maxRecDepth 50000 in
theorem cd_Sort_allowKind : Cond.code y_Sort_allowKind prog_9_method_3_code 3 none ∈ TB := mem_TB 507 rfl rfl
theorem im_Sort_allowKind : Cond.instanceMethod y_Sort_allowKind ∈ TB := mem_TB 505 (by decide +kernel) (by decide +kernel)
theorem sl_Sort_allowKind : Cond.selects R_Sort y_Sort_allowKind y_Sort_allowKind ∈ TB := mem_TB 506 (by decide +kernel) (by decide +kernel)
theorem hd_Sort_allowKind : y_Sort_allowKind.cls ≠ "java/lang/invoke/MethodHandle" ∧ y_Sort_allowKind.cls ≠ "java/lang/invoke/VarHandle" ∧ (parseMethodDescriptor y_Sort_allowKind.desc).map (fun d => d.parameters.length) = some 2 := by decide +kernel
def y_Sort_makeReady : MethodName := ⟨R_Sort, "makeReady", "(LFaultRips$Board;I)V"⟩
abbrev ws_Sort_makeReady : List Cond := .code y_Sort_makeReady prog_9_method_4_code 4 none :: TB
theorem d_Sort_makeReady_0 : decode prog_9_method_4_code 0 = .ok (.aload_n 0, 1) := by decide +kernel
theorem d_Sort_makeReady_1 : decode prog_9_method_4_code 1 = .ok (.lconst 0, 1) := by decide +kernel
theorem d_Sort_makeReady_2 : decode prog_9_method_4_code 2 = .ok (.putfield 15, 3) := by decide +kernel
theorem d_Sort_makeReady_5 : decode prog_9_method_4_code 5 = .ok (.aload_n 0, 1) := by decide +kernel
theorem d_Sort_makeReady_6 : decode prog_9_method_4_code 6 = .ok (.aload_n 1, 1) := by decide +kernel
theorem d_Sort_makeReady_7 : decode prog_9_method_4_code 7 = .ok (.aload_n 0, 1) := by decide +kernel
theorem d_Sort_makeReady_8 : decode prog_9_method_4_code 8 = .ok (.getfield 34, 3) := by decide +kernel
theorem d_Sort_makeReady_11 : decode prog_9_method_4_code 11 = .ok (.invokevirtual 43, 3) := by decide +kernel
theorem d_Sort_makeReady_14 : decode prog_9_method_4_code 14 = .ok (.putfield 19, 3) := by decide +kernel
theorem d_Sort_makeReady_17 : decode prog_9_method_4_code 17 = .ok (.aload_n 0, 1) := by decide +kernel
theorem d_Sort_makeReady_18 : decode prog_9_method_4_code 18 = .ok (.aload_n 1, 1) := by decide +kernel
theorem d_Sort_makeReady_19 : decode prog_9_method_4_code 19 = .ok (.getfield 49, 3) := by decide +kernel
theorem d_Sort_makeReady_22 : decode prog_9_method_4_code 22 = .ok (.aload_n 0, 1) := by decide +kernel
theorem d_Sort_makeReady_23 : decode prog_9_method_4_code 23 = .ok (.getfield 37, 3) := by decide +kernel
theorem d_Sort_makeReady_26 : decode prog_9_method_4_code 26 = .ok (.iload_n 2, 1) := by decide +kernel
theorem d_Sort_makeReady_27 : decode prog_9_method_4_code 27 = .ok (.invokestatic 52, 3) := by decide +kernel
theorem d_Sort_makeReady_30 : decode prog_9_method_4_code 30 = .ok (.aload_n 1, 1) := by decide +kernel
theorem d_Sort_makeReady_31 : decode prog_9_method_4_code 31 = .ok (.getfield 58, 3) := by decide +kernel
theorem d_Sort_makeReady_34 : decode prog_9_method_4_code 34 = .ok (.idiv, 1) := by decide +kernel
theorem d_Sort_makeReady_35 : decode prog_9_method_4_code 35 = .ok (.invokestatic 52, 3) := by decide +kernel
theorem d_Sort_makeReady_38 : decode prog_9_method_4_code 38 = .ok (.putfield 22, 3) := by decide +kernel
theorem d_Sort_makeReady_41 : decode prog_9_method_4_code 41 = .ok (.aload_n 0, 1) := by decide +kernel
theorem d_Sort_makeReady_42 : decode prog_9_method_4_code 42 = .ok (.iconst 0, 1) := by decide +kernel
theorem d_Sort_makeReady_43 : decode prog_9_method_4_code 43 = .ok (.putfield 25, 3) := by decide +kernel
theorem d_Sort_makeReady_46 : decode prog_9_method_4_code 46 = .ok (.iconst 0, 1) := by decide +kernel
theorem d_Sort_makeReady_47 : decode prog_9_method_4_code 47 = .ok (.istore_n 3, 1) := by decide +kernel
theorem d_Sort_makeReady_48 : decode prog_9_method_4_code 48 = .ok (.iload_n 3, 1) := by decide +kernel
theorem d_Sort_makeReady_49 : decode prog_9_method_4_code 49 = .ok (.aload_n 1, 1) := by decide +kernel
theorem d_Sort_makeReady_50 : decode prog_9_method_4_code 50 = .ok (.getfield 61, 3) := by decide +kernel
theorem d_Sort_makeReady_53 : decode prog_9_method_4_code 53 = .ok (.if_icmp .ge 46, 3) := by decide +kernel
theorem d_Sort_makeReady_56 : decode prog_9_method_4_code 56 = .ok (.aload_n 0, 1) := by decide +kernel
theorem d_Sort_makeReady_57 : decode prog_9_method_4_code 57 = .ok (.aload_n 1, 1) := by decide +kernel
theorem d_Sort_makeReady_58 : decode prog_9_method_4_code 58 = .ok (.getfield 64, 3) := by decide +kernel
theorem d_Sort_makeReady_61 : decode prog_9_method_4_code 61 = .ok (.iload_n 3, 1) := by decide +kernel
theorem d_Sort_makeReady_62 : decode prog_9_method_4_code 62 = .ok (.aaload, 1) := by decide +kernel
theorem d_Sort_makeReady_63 : decode prog_9_method_4_code 63 = .ok (.getfield 68, 3) := by decide +kernel
theorem d_Sort_makeReady_66 : decode prog_9_method_4_code 66 = .ok (.aload_n 1, 1) := by decide +kernel
theorem d_Sort_makeReady_67 : decode prog_9_method_4_code 67 = .ok (.getfield 64, 3) := by decide +kernel
theorem d_Sort_makeReady_70 : decode prog_9_method_4_code 70 = .ok (.iload_n 3, 1) := by decide +kernel
theorem d_Sort_makeReady_71 : decode prog_9_method_4_code 71 = .ok (.aaload, 1) := by decide +kernel
theorem d_Sort_makeReady_72 : decode prog_9_method_4_code 72 = .ok (.getfield 73, 3) := by decide +kernel
theorem d_Sort_makeReady_75 : decode prog_9_method_4_code 75 = .ok (.invokevirtual 76, 3) := by decide +kernel
theorem d_Sort_makeReady_78 : decode prog_9_method_4_code 78 = .ok (.ifCond .ne 15, 3) := by decide +kernel
theorem d_Sort_makeReady_81 : decode prog_9_method_4_code 81 = .ok (.aload_n 0, 1) := by decide +kernel
theorem d_Sort_makeReady_82 : decode prog_9_method_4_code 82 = .ok (.dup, 1) := by decide +kernel
theorem d_Sort_makeReady_83 : decode prog_9_method_4_code 83 = .ok (.getfield 25, 3) := by decide +kernel
theorem d_Sort_makeReady_86 : decode prog_9_method_4_code 86 = .ok (.iconst 1, 1) := by decide +kernel
theorem d_Sort_makeReady_87 : decode prog_9_method_4_code 87 = .ok (.iload_n 3, 1) := by decide +kernel
theorem d_Sort_makeReady_88 : decode prog_9_method_4_code 88 = .ok (.ishl, 1) := by decide +kernel
theorem d_Sort_makeReady_89 : decode prog_9_method_4_code 89 = .ok (.ior, 1) := by decide +kernel
theorem d_Sort_makeReady_90 : decode prog_9_method_4_code 90 = .ok (.putfield 25, 3) := by decide +kernel
theorem d_Sort_makeReady_93 : decode prog_9_method_4_code 93 = .ok (.iinc 3 1, 3) := by decide +kernel
theorem d_Sort_makeReady_96 : decode prog_9_method_4_code 96 = .ok (.goto (-48), 3) := by decide +kernel
theorem d_Sort_makeReady_99 : decode prog_9_method_4_code 99 = .ok (.return_, 1) := by decide +kernel
set_option maxRecDepth 50000 in
theorem cd_Sort_makeReady : Cond.code y_Sort_makeReady prog_9_method_4_code 4 none ∈ TB := mem_TB 588 rfl rfl
theorem im_Sort_makeReady : Cond.instanceMethod y_Sort_makeReady ∈ TB := mem_TB 586 (by decide +kernel) (by decide +kernel)
theorem sl_Sort_makeReady : Cond.selects R_Sort y_Sort_makeReady y_Sort_makeReady ∈ TB := mem_TB 587 (by decide +kernel) (by decide +kernel)
theorem hd_Sort_makeReady : y_Sort_makeReady.cls ≠ "java/lang/invoke/MethodHandle" ∧ y_Sort_makeReady.cls ≠ "java/lang/invoke/VarHandle" ∧ (parseMethodDescriptor y_Sort_makeReady.desc).map (fun d => d.parameters.length) = some 2 := by decide +kernel
def y_Sort_hasLength : MethodName := ⟨R_Sort, "hasLength", "(I)Z"⟩
abbrev ws_Sort_hasLength : List Cond := .code y_Sort_hasLength prog_9_method_5_code 2 (some .boolean) :: TB
theorem d_Sort_hasLength_0 : decode prog_9_method_5_code 0 = .ok (.iload_n 1, 1) := by decide +kernel
theorem d_Sort_hasLength_1 : decode prog_9_method_5_code 1 = .ok (.aload_n 0, 1) := by decide +kernel
theorem d_Sort_hasLength_2 : decode prog_9_method_5_code 2 = .ok (.getfield 19, 3) := by decide +kernel
theorem d_Sort_hasLength_5 : decode prog_9_method_5_code 5 = .ok (.if_icmp .lt 15, 3) := by decide +kernel
theorem d_Sort_hasLength_8 : decode prog_9_method_5_code 8 = .ok (.iload_n 1, 1) := by decide +kernel
theorem d_Sort_hasLength_9 : decode prog_9_method_5_code 9 = .ok (.aload_n 0, 1) := by decide +kernel
theorem d_Sort_hasLength_10 : decode prog_9_method_5_code 10 = .ok (.getfield 22, 3) := by decide +kernel
theorem d_Sort_hasLength_13 : decode prog_9_method_5_code 13 = .ok (.if_icmp .gt 7, 3) := by decide +kernel
theorem d_Sort_hasLength_16 : decode prog_9_method_5_code 16 = .ok (.iconst 1, 1) := by decide +kernel
theorem d_Sort_hasLength_17 : decode prog_9_method_5_code 17 = .ok (.goto 4, 3) := by decide +kernel
theorem d_Sort_hasLength_20 : decode prog_9_method_5_code 20 = .ok (.iconst 0, 1) := by decide +kernel
theorem d_Sort_hasLength_21 : decode prog_9_method_5_code 21 = .ok (.ireturn, 1) := by decide +kernel
set_option maxRecDepth 50000 in
theorem cd_Sort_hasLength : Cond.code y_Sort_hasLength prog_9_method_5_code 2 (some .boolean) ∈ TB := mem_TB 680 rfl rfl
theorem im_Sort_hasLength : Cond.instanceMethod y_Sort_hasLength ∈ TB := mem_TB 678 (by decide +kernel) (by decide +kernel)
theorem sl_Sort_hasLength : Cond.selects R_Sort y_Sort_hasLength y_Sort_hasLength ∈ TB := mem_TB 679 (by decide +kernel) (by decide +kernel)
theorem hd_Sort_hasLength : y_Sort_hasLength.cls ≠ "java/lang/invoke/MethodHandle" ∧ y_Sort_hasLength.cls ≠ "java/lang/invoke/VarHandle" ∧ (parseMethodDescriptor y_Sort_hasLength.desc).map (fun d => d.parameters.length) = some 1 := by decide +kernel
def y_Sort_worthOf : MethodName := ⟨R_Sort, "worthOf", "(I)I"⟩
abbrev ws_Sort_worthOf : List Cond := .code y_Sort_worthOf prog_9_method_6_code 2 (some .int) :: TB
theorem d_Sort_worthOf_0 : decode prog_9_method_6_code 0 = .ok (.aload_n 0, 1) := by decide +kernel
theorem d_Sort_worthOf_1 : decode prog_9_method_6_code 1 = .ok (.getfield 40, 3) := by decide +kernel
theorem d_Sort_worthOf_4 : decode prog_9_method_6_code 4 = .ok (.iload_n 1, 1) := by decide +kernel
theorem d_Sort_worthOf_5 : decode prog_9_method_6_code 5 = .ok (.imul, 1) := by decide +kernel
theorem d_Sort_worthOf_6 : decode prog_9_method_6_code 6 = .ok (.ireturn, 1) := by decide +kernel
set_option maxRecDepth 50000 in
theorem cd_Sort_worthOf : Cond.code y_Sort_worthOf prog_9_method_6_code 2 (some .int) ∈ TB := mem_TB 634 rfl rfl
theorem im_Sort_worthOf : Cond.instanceMethod y_Sort_worthOf ∈ TB := mem_TB 632 (by decide +kernel) (by decide +kernel)
theorem sl_Sort_worthOf : Cond.selects R_Sort y_Sort_worthOf y_Sort_worthOf ∈ TB := mem_TB 633 (by decide +kernel) (by decide +kernel)
theorem hd_Sort_worthOf : y_Sort_worthOf.cls ≠ "java/lang/invoke/MethodHandle" ∧ y_Sort_worthOf.cls ≠ "java/lang/invoke/VarHandle" ∧ (parseMethodDescriptor y_Sort_worthOf.desc).map (fun d => d.parameters.length) = some 1 := by decide +kernel
def y_Sorts_init : MethodName := ⟨R_Sorts, "<init>", "(LFaultRips$Board;)V"⟩
abbrev ws_Sorts_init : List Cond := .code y_Sorts_init prog_10_method_1_code 2 none :: TB
theorem d_Sorts_init_0 : decode prog_10_method_1_code 0 = .ok (.aload_n 0, 1) := by decide +kernel
theorem d_Sorts_init_1 : decode prog_10_method_1_code 1 = .ok (.invokespecial 3, 3) := by decide +kernel
theorem d_Sorts_init_4 : decode prog_10_method_1_code 4 = .ok (.aload_n 0, 1) := by decide +kernel
theorem d_Sorts_init_5 : decode prog_10_method_1_code 5 = .ok (.bipush 8, 2) := by decide +kernel
theorem d_Sorts_init_7 : decode prog_10_method_1_code 7 = .ok (.anewarray 9, 3) := by decide +kernel
theorem d_Sorts_init_10 : decode prog_10_method_1_code 10 = .ok (.putfield 11, 3) := by decide +kernel
theorem d_Sorts_init_13 : decode prog_10_method_1_code 13 = .ok (.aload_n 0, 1) := by decide +kernel
theorem d_Sorts_init_14 : decode prog_10_method_1_code 14 = .ok (.iconst 0, 1) := by decide +kernel
theorem d_Sorts_init_15 : decode prog_10_method_1_code 15 = .ok (.putfield 17, 3) := by decide +kernel
theorem d_Sorts_init_18 : decode prog_10_method_1_code 18 = .ok (.aload_n 0, 1) := by decide +kernel
theorem d_Sorts_init_19 : decode prog_10_method_1_code 19 = .ok (.ldc 21, 2) := by decide +kernel
theorem d_Sorts_init_21 : decode prog_10_method_1_code 21 = .ok (.putfield 22, 3) := by decide +kernel
theorem d_Sorts_init_24 : decode prog_10_method_1_code 24 = .ok (.aload_n 0, 1) := by decide +kernel
theorem d_Sorts_init_25 : decode prog_10_method_1_code 25 = .ok (.aload_n 1, 1) := by decide +kernel
theorem d_Sorts_init_26 : decode prog_10_method_1_code 26 = .ok (.putfield 25, 3) := by decide +kernel
theorem d_Sorts_init_29 : decode prog_10_method_1_code 29 = .ok (.return_, 1) := by decide +kernel
set_option maxRecDepth 50000 in
theorem cd_Sorts_init : Cond.code y_Sorts_init prog_10_method_1_code 2 none ∈ TB := mem_TB 91 rfl rfl
theorem im_Sorts_init : Cond.instanceMethod y_Sorts_init ∈ TB := mem_TB 90 (by decide +kernel) (by decide +kernel)
theorem hd_Sorts_init : y_Sorts_init.cls ≠ "java/lang/invoke/MethodHandle" ∧ y_Sorts_init.cls ≠ "java/lang/invoke/VarHandle" ∧ (parseMethodDescriptor y_Sorts_init.desc).map (fun d => d.parameters.length) = some 1 := by decide +kernel
def y_Sorts_addSort : MethodName := ⟨R_Sorts, "addSort", "(LFaultRips$Sort;)I"⟩
abbrev ws_Sorts_addSort : List Cond := .code y_Sorts_addSort prog_10_method_2_code 2 (some .int) :: TB
theorem d_Sorts_addSort_0 : decode prog_10_method_2_code 0 = .ok (.aload_n 0, 1) := by decide +kernel
theorem d_Sorts_addSort_1 : decode prog_10_method_2_code 1 = .ok (.getfield 17, 3) := by decide +kernel
theorem d_Sorts_addSort_4 : decode prog_10_method_2_code 4 = .ok (.bipush 8, 2) := by decide +kernel
theorem d_Sorts_addSort_6 : decode prog_10_method_2_code 6 = .ok (.if_icmp .lt 5, 3) := by decide +kernel
theorem d_Sorts_addSort_9 : decode prog_10_method_2_code 9 = .ok (.iconst (-1), 1) := by decide +kernel
theorem d_Sorts_addSort_10 : decode prog_10_method_2_code 10 = .ok (.ireturn, 1) := by decide +kernel
theorem d_Sorts_addSort_11 : decode prog_10_method_2_code 11 = .ok (.aload_n 0, 1) := by decide +kernel
theorem d_Sorts_addSort_12 : decode prog_10_method_2_code 12 = .ok (.getfield 11, 3) := by decide +kernel
theorem d_Sorts_addSort_15 : decode prog_10_method_2_code 15 = .ok (.aload_n 0, 1) := by decide +kernel
theorem d_Sorts_addSort_16 : decode prog_10_method_2_code 16 = .ok (.getfield 17, 3) := by decide +kernel
theorem d_Sorts_addSort_19 : decode prog_10_method_2_code 19 = .ok (.aload_n 1, 1) := by decide +kernel
theorem d_Sorts_addSort_20 : decode prog_10_method_2_code 20 = .ok (.aastore, 1) := by decide +kernel
theorem d_Sorts_addSort_21 : decode prog_10_method_2_code 21 = .ok (.aload_n 0, 1) := by decide +kernel
theorem d_Sorts_addSort_22 : decode prog_10_method_2_code 22 = .ok (.dup, 1) := by decide +kernel
theorem d_Sorts_addSort_23 : decode prog_10_method_2_code 23 = .ok (.getfield 17, 3) := by decide +kernel
theorem d_Sorts_addSort_26 : decode prog_10_method_2_code 26 = .ok (.iconst 1, 1) := by decide +kernel
theorem d_Sorts_addSort_27 : decode prog_10_method_2_code 27 = .ok (.iadd, 1) := by decide +kernel
theorem d_Sorts_addSort_28 : decode prog_10_method_2_code 28 = .ok (.putfield 17, 3) := by decide +kernel
theorem d_Sorts_addSort_31 : decode prog_10_method_2_code 31 = .ok (.aload_n 0, 1) := by decide +kernel
theorem d_Sorts_addSort_32 : decode prog_10_method_2_code 32 = .ok (.getfield 17, 3) := by decide +kernel
theorem d_Sorts_addSort_35 : decode prog_10_method_2_code 35 = .ok (.iconst 1, 1) := by decide +kernel
theorem d_Sorts_addSort_36 : decode prog_10_method_2_code 36 = .ok (.isub, 1) := by decide +kernel
theorem d_Sorts_addSort_37 : decode prog_10_method_2_code 37 = .ok (.ireturn, 1) := by decide +kernel
set_option maxRecDepth 50000 in
theorem cd_Sorts_addSort : Cond.code y_Sorts_addSort prog_10_method_2_code 2 (some .int) ∈ TB := mem_TB 492 rfl rfl
theorem im_Sorts_addSort : Cond.instanceMethod y_Sorts_addSort ∈ TB := mem_TB 490 (by decide +kernel) (by decide +kernel)
theorem sl_Sorts_addSort : Cond.selects R_Sorts y_Sorts_addSort y_Sorts_addSort ∈ TB := mem_TB 491 (by decide +kernel) (by decide +kernel)
theorem hd_Sorts_addSort : y_Sorts_addSort.cls ≠ "java/lang/invoke/MethodHandle" ∧ y_Sorts_addSort.cls ≠ "java/lang/invoke/VarHandle" ∧ (parseMethodDescriptor y_Sorts_addSort.desc).map (fun d => d.parameters.length) = some 1 := by decide +kernel
def y_Sorts_makeReady : MethodName := ⟨R_Sorts, "makeReady", "()V"⟩
abbrev ws_Sorts_makeReady : List Cond := .code y_Sorts_makeReady prog_10_method_3_code 2 none :: TB
theorem d_Sorts_makeReady_0 : decode prog_10_method_3_code 0 = .ok (.iconst 0, 1) := by decide +kernel
theorem d_Sorts_makeReady_1 : decode prog_10_method_3_code 1 = .ok (.istore_n 1, 1) := by decide +kernel
theorem d_Sorts_makeReady_2 : decode prog_10_method_3_code 2 = .ok (.iload_n 1, 1) := by decide +kernel
theorem d_Sorts_makeReady_3 : decode prog_10_method_3_code 3 = .ok (.aload_n 0, 1) := by decide +kernel
theorem d_Sorts_makeReady_4 : decode prog_10_method_3_code 4 = .ok (.getfield 17, 3) := by decide +kernel
theorem d_Sorts_makeReady_7 : decode prog_10_method_3_code 7 = .ok (.if_icmp .ge 26, 3) := by decide +kernel
theorem d_Sorts_makeReady_10 : decode prog_10_method_3_code 10 = .ok (.aload_n 0, 1) := by decide +kernel
theorem d_Sorts_makeReady_11 : decode prog_10_method_3_code 11 = .ok (.getfield 11, 3) := by decide +kernel
theorem d_Sorts_makeReady_14 : decode prog_10_method_3_code 14 = .ok (.iload_n 1, 1) := by decide +kernel
theorem d_Sorts_makeReady_15 : decode prog_10_method_3_code 15 = .ok (.aaload, 1) := by decide +kernel
theorem d_Sorts_makeReady_16 : decode prog_10_method_3_code 16 = .ok (.aload_n 0, 1) := by decide +kernel
theorem d_Sorts_makeReady_17 : decode prog_10_method_3_code 17 = .ok (.getfield 25, 3) := by decide +kernel
theorem d_Sorts_makeReady_20 : decode prog_10_method_3_code 20 = .ok (.aload_n 0, 1) := by decide +kernel
theorem d_Sorts_makeReady_21 : decode prog_10_method_3_code 21 = .ok (.getfield 22, 3) := by decide +kernel
theorem d_Sorts_makeReady_24 : decode prog_10_method_3_code 24 = .ok (.invokevirtual 29, 3) := by decide +kernel
theorem d_Sorts_makeReady_27 : decode prog_10_method_3_code 27 = .ok (.iinc 1 1, 3) := by decide +kernel
theorem d_Sorts_makeReady_30 : decode prog_10_method_3_code 30 = .ok (.goto (-28), 3) := by decide +kernel
theorem d_Sorts_makeReady_33 : decode prog_10_method_3_code 33 = .ok (.return_, 1) := by decide +kernel
set_option maxRecDepth 50000 in
theorem cd_Sorts_makeReady : Cond.code y_Sorts_makeReady prog_10_method_3_code 2 none ∈ TB := mem_TB 584 rfl rfl
theorem im_Sorts_makeReady : Cond.instanceMethod y_Sorts_makeReady ∈ TB := mem_TB 582 (by decide +kernel) (by decide +kernel)
theorem sl_Sorts_makeReady : Cond.selects R_Sorts y_Sorts_makeReady y_Sorts_makeReady ∈ TB := mem_TB 583 (by decide +kernel) (by decide +kernel)
theorem hd_Sorts_makeReady : y_Sorts_makeReady.cls ≠ "java/lang/invoke/MethodHandle" ∧ y_Sorts_makeReady.cls ≠ "java/lang/invoke/VarHandle" ∧ (parseMethodDescriptor y_Sorts_makeReady.desc).map (fun d => d.parameters.length) = some 0 := by decide +kernel
def y_Sorts_isTooMany : MethodName := ⟨R_Sorts, "isTooMany", "(II)Z"⟩
abbrev ws_Sorts_isTooMany : List Cond := .code y_Sorts_isTooMany prog_10_method_4_code 3 (some .boolean) :: TB
theorem d_Sorts_isTooMany_0 : decode prog_10_method_4_code 0 = .ok (.aload_n 0, 1) := by decide +kernel
theorem d_Sorts_isTooMany_1 : decode prog_10_method_4_code 1 = .ok (.getfield 11, 3) := by decide +kernel
theorem d_Sorts_isTooMany_4 : decode prog_10_method_4_code 4 = .ok (.iload_n 1, 1) := by decide +kernel
theorem d_Sorts_isTooMany_5 : decode prog_10_method_4_code 5 = .ok (.aaload, 1) := by decide +kernel
theorem d_Sorts_isTooMany_6 : decode prog_10_method_4_code 6 = .ok (.getfield 33, 3) := by decide +kernel
theorem d_Sorts_isTooMany_9 : decode prog_10_method_4_code 9 = .ok (.iconst (-1), 1) := by decide +kernel
theorem d_Sorts_isTooMany_10 : decode prog_10_method_4_code 10 = .ok (.if_icmp .eq 20, 3) := by decide +kernel
theorem d_Sorts_isTooMany_13 : decode prog_10_method_4_code 13 = .ok (.iload_n 2, 1) := by decide +kernel
theorem d_Sorts_isTooMany_14 : decode prog_10_method_4_code 14 = .ok (.aload_n 0, 1) := by decide +kernel
theorem d_Sorts_isTooMany_15 : decode prog_10_method_4_code 15 = .ok (.getfield 11, 3) := by decide +kernel
theorem d_Sorts_isTooMany_18 : decode prog_10_method_4_code 18 = .ok (.iload_n 1, 1) := by decide +kernel
theorem d_Sorts_isTooMany_19 : decode prog_10_method_4_code 19 = .ok (.aaload, 1) := by decide +kernel
theorem d_Sorts_isTooMany_20 : decode prog_10_method_4_code 20 = .ok (.getfield 33, 3) := by decide +kernel
theorem d_Sorts_isTooMany_23 : decode prog_10_method_4_code 23 = .ok (.if_icmp .le 7, 3) := by decide +kernel
theorem d_Sorts_isTooMany_26 : decode prog_10_method_4_code 26 = .ok (.iconst 1, 1) := by decide +kernel
theorem d_Sorts_isTooMany_27 : decode prog_10_method_4_code 27 = .ok (.goto 4, 3) := by decide +kernel
theorem d_Sorts_isTooMany_30 : decode prog_10_method_4_code 30 = .ok (.iconst 0, 1) := by decide +kernel
theorem d_Sorts_isTooMany_31 : decode prog_10_method_4_code 31 = .ok (.ireturn, 1) := by decide +kernel
set_option maxRecDepth 50000 in
theorem cd_Sorts_isTooMany : Cond.code y_Sorts_isTooMany prog_10_method_4_code 3 (some .boolean) ∈ TB := mem_TB 719 rfl rfl
theorem im_Sorts_isTooMany : Cond.instanceMethod y_Sorts_isTooMany ∈ TB := mem_TB 717 (by decide +kernel) (by decide +kernel)
theorem sl_Sorts_isTooMany : Cond.selects R_Sorts y_Sorts_isTooMany y_Sorts_isTooMany ∈ TB := mem_TB 718 (by decide +kernel) (by decide +kernel)
theorem hd_Sorts_isTooMany : y_Sorts_isTooMany.cls ≠ "java/lang/invoke/MethodHandle" ∧ y_Sorts_isTooMany.cls ≠ "java/lang/invoke/VarHandle" ∧ (parseMethodDescriptor y_Sorts_isTooMany.desc).map (fun d => d.parameters.length) = some 2 := by decide +kernel
def y_Sorts_tooMany : MethodName := ⟨R_Sorts, "tooMany", "(LFaultRips$Plan;)Z"⟩
abbrev ws_Sorts_tooMany : List Cond := .code y_Sorts_tooMany prog_10_method_5_code 3 (some .boolean) :: TB
theorem d_Sorts_tooMany_0 : decode prog_10_method_5_code 0 = .ok (.iconst 0, 1) := by decide +kernel
theorem d_Sorts_tooMany_1 : decode prog_10_method_5_code 1 = .ok (.istore_n 2, 1) := by decide +kernel
theorem d_Sorts_tooMany_2 : decode prog_10_method_5_code 2 = .ok (.iload_n 2, 1) := by decide +kernel
theorem d_Sorts_tooMany_3 : decode prog_10_method_5_code 3 = .ok (.aload_n 0, 1) := by decide +kernel
theorem d_Sorts_tooMany_4 : decode prog_10_method_5_code 4 = .ok (.getfield 17, 3) := by decide +kernel
theorem d_Sorts_tooMany_7 : decode prog_10_method_5_code 7 = .ok (.if_icmp .ge 25, 3) := by decide +kernel
theorem d_Sorts_tooMany_10 : decode prog_10_method_5_code 10 = .ok (.aload_n 0, 1) := by decide +kernel
theorem d_Sorts_tooMany_11 : decode prog_10_method_5_code 11 = .ok (.iload_n 2, 1) := by decide +kernel
theorem d_Sorts_tooMany_12 : decode prog_10_method_5_code 12 = .ok (.aload_n 1, 1) := by decide +kernel
theorem d_Sorts_tooMany_13 : decode prog_10_method_5_code 13 = .ok (.getfield 36, 3) := by decide +kernel
theorem d_Sorts_tooMany_16 : decode prog_10_method_5_code 16 = .ok (.iload_n 2, 1) := by decide +kernel
theorem d_Sorts_tooMany_17 : decode prog_10_method_5_code 17 = .ok (.iaload, 1) := by decide +kernel
theorem d_Sorts_tooMany_18 : decode prog_10_method_5_code 18 = .ok (.invokevirtual 42, 3) := by decide +kernel
theorem d_Sorts_tooMany_21 : decode prog_10_method_5_code 21 = .ok (.ifCond .eq 5, 3) := by decide +kernel
theorem d_Sorts_tooMany_24 : decode prog_10_method_5_code 24 = .ok (.iconst 1, 1) := by decide +kernel
theorem d_Sorts_tooMany_25 : decode prog_10_method_5_code 25 = .ok (.ireturn, 1) := by decide +kernel
theorem d_Sorts_tooMany_26 : decode prog_10_method_5_code 26 = .ok (.iinc 2 1, 3) := by decide +kernel
theorem d_Sorts_tooMany_29 : decode prog_10_method_5_code 29 = .ok (.goto (-27), 3) := by decide +kernel
theorem d_Sorts_tooMany_32 : decode prog_10_method_5_code 32 = .ok (.iconst 0, 1) := by decide +kernel
theorem d_Sorts_tooMany_33 : decode prog_10_method_5_code 33 = .ok (.ireturn, 1) := by decide +kernel
set_option maxRecDepth 50000 in
theorem cd_Sorts_tooMany : Cond.code y_Sorts_tooMany prog_10_method_5_code 3 (some .boolean) ∈ TB := mem_TB 715 rfl rfl
theorem im_Sorts_tooMany : Cond.instanceMethod y_Sorts_tooMany ∈ TB := mem_TB 713 (by decide +kernel) (by decide +kernel)
theorem sl_Sorts_tooMany : Cond.selects R_Sorts y_Sorts_tooMany y_Sorts_tooMany ∈ TB := mem_TB 714 (by decide +kernel) (by decide +kernel)
theorem hd_Sorts_tooMany : y_Sorts_tooMany.cls ≠ "java/lang/invoke/MethodHandle" ∧ y_Sorts_tooMany.cls ≠ "java/lang/invoke/VarHandle" ∧ (parseMethodDescriptor y_Sorts_tooMany.desc).map (fun d => d.parameters.length) = some 1 := by decide +kernel
def y_Sorts_isSettled : MethodName := ⟨R_Sorts, "isSettled", "(LFaultRips$Plan;)Z"⟩
abbrev ws_Sorts_isSettled : List Cond := .code y_Sorts_isSettled prog_10_method_6_code 4 (some .boolean) :: TB
theorem d_Sorts_isSettled_0 : decode prog_10_method_6_code 0 = .ok (.iconst 0, 1) := by decide +kernel
theorem d_Sorts_isSettled_1 : decode prog_10_method_6_code 1 = .ok (.istore_n 2, 1) := by decide +kernel
theorem d_Sorts_isSettled_2 : decode prog_10_method_6_code 2 = .ok (.iload_n 2, 1) := by decide +kernel
theorem d_Sorts_isSettled_3 : decode prog_10_method_6_code 3 = .ok (.aload_n 0, 1) := by decide +kernel
theorem d_Sorts_isSettled_4 : decode prog_10_method_6_code 4 = .ok (.getfield 17, 3) := by decide +kernel
theorem d_Sorts_isSettled_7 : decode prog_10_method_6_code 7 = .ok (.if_icmp .ge 67, 3) := by decide +kernel
theorem d_Sorts_isSettled_10 : decode prog_10_method_6_code 10 = .ok (.aload_n 0, 1) := by decide +kernel
theorem d_Sorts_isSettled_11 : decode prog_10_method_6_code 11 = .ok (.getfield 11, 3) := by decide +kernel
theorem d_Sorts_isSettled_14 : decode prog_10_method_6_code 14 = .ok (.iload_n 2, 1) := by decide +kernel
theorem d_Sorts_isSettled_15 : decode prog_10_method_6_code 15 = .ok (.aaload, 1) := by decide +kernel
theorem d_Sorts_isSettled_16 : decode prog_10_method_6_code 16 = .ok (.getfield 46, 3) := by decide +kernel
theorem d_Sorts_isSettled_19 : decode prog_10_method_6_code 19 = .ok (.lconst 0, 1) := by decide +kernel
theorem d_Sorts_isSettled_20 : decode prog_10_method_6_code 20 = .ok (.lcmp, 1) := by decide +kernel
theorem d_Sorts_isSettled_21 : decode prog_10_method_6_code 21 = .ok (.ifCond .le 25, 3) := by decide +kernel
theorem d_Sorts_isSettled_24 : decode prog_10_method_6_code 24 = .ok (.aload_n 1, 1) := by decide +kernel
theorem d_Sorts_isSettled_25 : decode prog_10_method_6_code 25 = .ok (.getfield 36, 3) := by decide +kernel
theorem d_Sorts_isSettled_28 : decode prog_10_method_6_code 28 = .ok (.iload_n 2, 1) := by decide +kernel
theorem d_Sorts_isSettled_29 : decode prog_10_method_6_code 29 = .ok (.iaload, 1) := by decide +kernel
theorem d_Sorts_isSettled_30 : decode prog_10_method_6_code 30 = .ok (.aload_n 0, 1) := by decide +kernel
theorem d_Sorts_isSettled_31 : decode prog_10_method_6_code 31 = .ok (.getfield 11, 3) := by decide +kernel
theorem d_Sorts_isSettled_34 : decode prog_10_method_6_code 34 = .ok (.iload_n 2, 1) := by decide +kernel
theorem d_Sorts_isSettled_35 : decode prog_10_method_6_code 35 = .ok (.aaload, 1) := by decide +kernel
theorem d_Sorts_isSettled_36 : decode prog_10_method_6_code 36 = .ok (.getfield 33, 3) := by decide +kernel
theorem d_Sorts_isSettled_39 : decode prog_10_method_6_code 39 = .ok (.if_icmp .eq 7, 3) := by decide +kernel
theorem d_Sorts_isSettled_42 : decode prog_10_method_6_code 42 = .ok (.iconst 1, 1) := by decide +kernel
theorem d_Sorts_isSettled_43 : decode prog_10_method_6_code 43 = .ok (.goto 4, 3) := by decide +kernel
theorem d_Sorts_isSettled_46 : decode prog_10_method_6_code 46 = .ok (.iconst 0, 1) := by decide +kernel
theorem d_Sorts_isSettled_47 : decode prog_10_method_6_code 47 = .ok (.istore_n 3, 1) := by decide +kernel
theorem d_Sorts_isSettled_48 : decode prog_10_method_6_code 48 = .ok (.iload_n 3, 1) := by decide +kernel
theorem d_Sorts_isSettled_49 : decode prog_10_method_6_code 49 = .ok (.ifCond .ne 17, 3) := by decide +kernel
theorem d_Sorts_isSettled_52 : decode prog_10_method_6_code 52 = .ok (.aload_n 0, 1) := by decide +kernel
theorem d_Sorts_isSettled_53 : decode prog_10_method_6_code 53 = .ok (.iload_n 2, 1) := by decide +kernel
theorem d_Sorts_isSettled_54 : decode prog_10_method_6_code 54 = .ok (.aload_n 1, 1) := by decide +kernel
theorem d_Sorts_isSettled_55 : decode prog_10_method_6_code 55 = .ok (.getfield 36, 3) := by decide +kernel
theorem d_Sorts_isSettled_58 : decode prog_10_method_6_code 58 = .ok (.iload_n 2, 1) := by decide +kernel
theorem d_Sorts_isSettled_59 : decode prog_10_method_6_code 59 = .ok (.iaload, 1) := by decide +kernel
theorem d_Sorts_isSettled_60 : decode prog_10_method_6_code 60 = .ok (.invokevirtual 42, 3) := by decide +kernel
theorem d_Sorts_isSettled_63 : decode prog_10_method_6_code 63 = .ok (.ifCond .eq 5, 3) := by decide +kernel
theorem d_Sorts_isSettled_66 : decode prog_10_method_6_code 66 = .ok (.iconst 0, 1) := by decide +kernel
theorem d_Sorts_isSettled_67 : decode prog_10_method_6_code 67 = .ok (.ireturn, 1) := by decide +kernel
theorem d_Sorts_isSettled_68 : decode prog_10_method_6_code 68 = .ok (.iinc 2 1, 3) := by decide +kernel
theorem d_Sorts_isSettled_71 : decode prog_10_method_6_code 71 = .ok (.goto (-69), 3) := by decide +kernel
theorem d_Sorts_isSettled_74 : decode prog_10_method_6_code 74 = .ok (.iconst 1, 1) := by decide +kernel
theorem d_Sorts_isSettled_75 : decode prog_10_method_6_code 75 = .ok (.ireturn, 1) := by decide +kernel
set_option maxRecDepth 50000 in
theorem cd_Sorts_isSettled : Cond.code y_Sorts_isSettled prog_10_method_6_code 4 (some .boolean) ∈ TB := mem_TB 733 rfl rfl
theorem im_Sorts_isSettled : Cond.instanceMethod y_Sorts_isSettled ∈ TB := mem_TB 731 (by decide +kernel) (by decide +kernel)
theorem sl_Sorts_isSettled : Cond.selects R_Sorts y_Sorts_isSettled y_Sorts_isSettled ∈ TB := mem_TB 732 (by decide +kernel) (by decide +kernel)
theorem hd_Sorts_isSettled : y_Sorts_isSettled.cls ≠ "java/lang/invoke/MethodHandle" ∧ y_Sorts_isSettled.cls ≠ "java/lang/invoke/VarHandle" ∧ (parseMethodDescriptor y_Sorts_isSettled.desc).map (fun d => d.parameters.length) = some 1 := by decide +kernel
def y_Sorts_valueOf : MethodName := ⟨R_Sorts, "valueOf", "(LFaultRips$Plan;)J"⟩
abbrev ws_Sorts_valueOf : List Cond := .code y_Sorts_valueOf prog_10_method_7_code 5 (some .long) :: TB
theorem d_Sorts_valueOf_0 : decode prog_10_method_7_code 0 = .ok (.aload_n 1, 1) := by decide +kernel
theorem d_Sorts_valueOf_1 : decode prog_10_method_7_code 1 = .ok (.getfield 50, 3) := by decide +kernel
theorem d_Sorts_valueOf_4 : decode prog_10_method_7_code 4 = .ok (.lstore_n 2, 1) := by decide +kernel
theorem d_Sorts_valueOf_5 : decode prog_10_method_7_code 5 = .ok (.iconst 0, 1) := by decide +kernel
theorem d_Sorts_valueOf_6 : decode prog_10_method_7_code 6 = .ok (.istore 4, 2) := by decide +kernel
theorem d_Sorts_valueOf_8 : decode prog_10_method_7_code 8 = .ok (.iload 4, 2) := by decide +kernel
theorem d_Sorts_valueOf_10 : decode prog_10_method_7_code 10 = .ok (.aload_n 0, 1) := by decide +kernel
theorem d_Sorts_valueOf_11 : decode prog_10_method_7_code 11 = .ok (.getfield 17, 3) := by decide +kernel
theorem d_Sorts_valueOf_14 : decode prog_10_method_7_code 14 = .ok (.if_icmp .ge 56, 3) := by decide +kernel
theorem d_Sorts_valueOf_17 : decode prog_10_method_7_code 17 = .ok (.aload_n 0, 1) := by decide +kernel
theorem d_Sorts_valueOf_18 : decode prog_10_method_7_code 18 = .ok (.getfield 11, 3) := by decide +kernel
theorem d_Sorts_valueOf_21 : decode prog_10_method_7_code 21 = .ok (.iload 4, 2) := by decide +kernel
theorem d_Sorts_valueOf_23 : decode prog_10_method_7_code 23 = .ok (.aaload, 1) := by decide +kernel
theorem d_Sorts_valueOf_24 : decode prog_10_method_7_code 24 = .ok (.getfield 33, 3) := by decide +kernel
theorem d_Sorts_valueOf_27 : decode prog_10_method_7_code 27 = .ok (.iconst (-1), 1) := by decide +kernel
theorem d_Sorts_valueOf_28 : decode prog_10_method_7_code 28 = .ok (.if_icmp .eq 36, 3) := by decide +kernel
theorem d_Sorts_valueOf_31 : decode prog_10_method_7_code 31 = .ok (.lload_n 2, 1) := by decide +kernel
theorem d_Sorts_valueOf_32 : decode prog_10_method_7_code 32 = .ok (.aload_n 0, 1) := by decide +kernel
theorem d_Sorts_valueOf_33 : decode prog_10_method_7_code 33 = .ok (.getfield 11, 3) := by decide +kernel
theorem d_Sorts_valueOf_36 : decode prog_10_method_7_code 36 = .ok (.iload 4, 2) := by decide +kernel
theorem d_Sorts_valueOf_38 : decode prog_10_method_7_code 38 = .ok (.aaload, 1) := by decide +kernel
theorem d_Sorts_valueOf_39 : decode prog_10_method_7_code 39 = .ok (.getfield 46, 3) := by decide +kernel
theorem d_Sorts_valueOf_42 : decode prog_10_method_7_code 42 = .ok (.aload_n 0, 1) := by decide +kernel
theorem d_Sorts_valueOf_43 : decode prog_10_method_7_code 43 = .ok (.getfield 11, 3) := by decide +kernel
theorem d_Sorts_valueOf_46 : decode prog_10_method_7_code 46 = .ok (.iload 4, 2) := by decide +kernel
theorem d_Sorts_valueOf_48 : decode prog_10_method_7_code 48 = .ok (.aaload, 1) := by decide +kernel
theorem d_Sorts_valueOf_49 : decode prog_10_method_7_code 49 = .ok (.getfield 33, 3) := by decide +kernel
theorem d_Sorts_valueOf_52 : decode prog_10_method_7_code 52 = .ok (.aload_n 1, 1) := by decide +kernel
theorem d_Sorts_valueOf_53 : decode prog_10_method_7_code 53 = .ok (.getfield 36, 3) := by decide +kernel
theorem d_Sorts_valueOf_56 : decode prog_10_method_7_code 56 = .ok (.iload 4, 2) := by decide +kernel
theorem d_Sorts_valueOf_58 : decode prog_10_method_7_code 58 = .ok (.iaload, 1) := by decide +kernel
theorem d_Sorts_valueOf_59 : decode prog_10_method_7_code 59 = .ok (.isub, 1) := by decide +kernel
theorem d_Sorts_valueOf_60 : decode prog_10_method_7_code 60 = .ok (.i2l, 1) := by decide +kernel
theorem d_Sorts_valueOf_61 : decode prog_10_method_7_code 61 = .ok (.lmul, 1) := by decide +kernel
theorem d_Sorts_valueOf_62 : decode prog_10_method_7_code 62 = .ok (.ladd, 1) := by decide +kernel
theorem d_Sorts_valueOf_63 : decode prog_10_method_7_code 63 = .ok (.lstore_n 2, 1) := by decide +kernel
theorem d_Sorts_valueOf_64 : decode prog_10_method_7_code 64 = .ok (.iinc 4 1, 3) := by decide +kernel
theorem d_Sorts_valueOf_67 : decode prog_10_method_7_code 67 = .ok (.goto (-59), 3) := by decide +kernel
theorem d_Sorts_valueOf_70 : decode prog_10_method_7_code 70 = .ok (.lload_n 2, 1) := by decide +kernel
theorem d_Sorts_valueOf_71 : decode prog_10_method_7_code 71 = .ok (.lreturn, 1) := by decide +kernel
set_option maxRecDepth 50000 in
theorem cd_Sorts_valueOf : Cond.code y_Sorts_valueOf prog_10_method_7_code 5 (some .long) ∈ TB := mem_TB 708 rfl rfl
theorem im_Sorts_valueOf : Cond.instanceMethod y_Sorts_valueOf ∈ TB := mem_TB 706 (by decide +kernel) (by decide +kernel)
theorem sl_Sorts_valueOf : Cond.selects R_Sorts y_Sorts_valueOf y_Sorts_valueOf ∈ TB := mem_TB 707 (by decide +kernel) (by decide +kernel)
theorem hd_Sorts_valueOf : y_Sorts_valueOf.cls ≠ "java/lang/invoke/MethodHandle" ∧ y_Sorts_valueOf.cls ≠ "java/lang/invoke/VarHandle" ∧ (parseMethodDescriptor y_Sorts_valueOf.desc).map (fun d => d.parameters.length) = some 1 := by decide +kernel
def y_Sorts_movePrices : MethodName := ⟨R_Sorts, "movePrices", "(LFaultRips$Plan;I)V"⟩
abbrev ws_Sorts_movePrices : List Cond := .code y_Sorts_movePrices prog_10_method_8_code 5 none :: TB
theorem d_Sorts_movePrices_0 : decode prog_10_method_8_code 0 = .ok (.iconst 0, 1) := by decide +kernel
theorem d_Sorts_movePrices_1 : decode prog_10_method_8_code 1 = .ok (.istore_n 3, 1) := by decide +kernel
theorem d_Sorts_movePrices_2 : decode prog_10_method_8_code 2 = .ok (.iload_n 3, 1) := by decide +kernel
theorem d_Sorts_movePrices_3 : decode prog_10_method_8_code 3 = .ok (.aload_n 0, 1) := by decide +kernel
theorem d_Sorts_movePrices_4 : decode prog_10_method_8_code 4 = .ok (.getfield 17, 3) := by decide +kernel
theorem d_Sorts_movePrices_7 : decode prog_10_method_8_code 7 = .ok (.if_icmp .ge 57, 3) := by decide +kernel
theorem d_Sorts_movePrices_10 : decode prog_10_method_8_code 10 = .ok (.aload_n 0, 1) := by decide +kernel
theorem d_Sorts_movePrices_11 : decode prog_10_method_8_code 11 = .ok (.getfield 11, 3) := by decide +kernel
theorem d_Sorts_movePrices_14 : decode prog_10_method_8_code 14 = .ok (.iload_n 3, 1) := by decide +kernel
theorem d_Sorts_movePrices_15 : decode prog_10_method_8_code 15 = .ok (.aaload, 1) := by decide +kernel
theorem d_Sorts_movePrices_16 : decode prog_10_method_8_code 16 = .ok (.astore 4, 2) := by decide +kernel
theorem d_Sorts_movePrices_18 : decode prog_10_method_8_code 18 = .ok (.aload 4, 2) := by decide +kernel
theorem d_Sorts_movePrices_20 : decode prog_10_method_8_code 20 = .ok (.getfield 33, 3) := by decide +kernel
theorem d_Sorts_movePrices_23 : decode prog_10_method_8_code 23 = .ok (.iconst (-1), 1) := by decide +kernel
theorem d_Sorts_movePrices_24 : decode prog_10_method_8_code 24 = .ok (.if_icmp .eq 34, 3) := by decide +kernel
theorem d_Sorts_movePrices_27 : decode prog_10_method_8_code 27 = .ok (.aload 4, 2) := by decide +kernel
theorem d_Sorts_movePrices_29 : decode prog_10_method_8_code 29 = .ok (.lconst 0, 1) := by decide +kernel
theorem d_Sorts_movePrices_30 : decode prog_10_method_8_code 30 = .ok (.aload 4, 2) := by decide +kernel
theorem d_Sorts_movePrices_32 : decode prog_10_method_8_code 32 = .ok (.getfield 46, 3) := by decide +kernel
theorem d_Sorts_movePrices_35 : decode prog_10_method_8_code 35 = .ok (.aload_n 1, 1) := by decide +kernel
theorem d_Sorts_movePrices_36 : decode prog_10_method_8_code 36 = .ok (.getfield 36, 3) := by decide +kernel
theorem d_Sorts_movePrices_39 : decode prog_10_method_8_code 39 = .ok (.iload_n 3, 1) := by decide +kernel
theorem d_Sorts_movePrices_40 : decode prog_10_method_8_code 40 = .ok (.iaload, 1) := by decide +kernel
theorem d_Sorts_movePrices_41 : decode prog_10_method_8_code 41 = .ok (.aload 4, 2) := by decide +kernel
theorem d_Sorts_movePrices_43 : decode prog_10_method_8_code 43 = .ok (.getfield 33, 3) := by decide +kernel
theorem d_Sorts_movePrices_46 : decode prog_10_method_8_code 46 = .ok (.isub, 1) := by decide +kernel
theorem d_Sorts_movePrices_47 : decode prog_10_method_8_code 47 = .ok (.i2l, 1) := by decide +kernel
theorem d_Sorts_movePrices_48 : decode prog_10_method_8_code 48 = .ok (.iload_n 2, 1) := by decide +kernel
theorem d_Sorts_movePrices_49 : decode prog_10_method_8_code 49 = .ok (.i2l, 1) := by decide +kernel
theorem d_Sorts_movePrices_50 : decode prog_10_method_8_code 50 = .ok (.lmul, 1) := by decide +kernel
theorem d_Sorts_movePrices_51 : decode prog_10_method_8_code 51 = .ok (.ladd, 1) := by decide +kernel
theorem d_Sorts_movePrices_52 : decode prog_10_method_8_code 52 = .ok (.invokestatic 53, 3) := by decide +kernel
theorem d_Sorts_movePrices_55 : decode prog_10_method_8_code 55 = .ok (.putfield 46, 3) := by decide +kernel
theorem d_Sorts_movePrices_58 : decode prog_10_method_8_code 58 = .ok (.iinc 3 1, 3) := by decide +kernel
theorem d_Sorts_movePrices_61 : decode prog_10_method_8_code 61 = .ok (.goto (-59), 3) := by decide +kernel
theorem d_Sorts_movePrices_64 : decode prog_10_method_8_code 64 = .ok (.return_, 1) := by decide +kernel
set_option maxRecDepth 50000 in
theorem cd_Sorts_movePrices : Cond.code y_Sorts_movePrices prog_10_method_8_code 5 none ∈ TB := mem_TB 701 rfl rfl
theorem im_Sorts_movePrices : Cond.instanceMethod y_Sorts_movePrices ∈ TB := mem_TB 699 (by decide +kernel) (by decide +kernel)
theorem sl_Sorts_movePrices : Cond.selects R_Sorts y_Sorts_movePrices y_Sorts_movePrices ∈ TB := mem_TB 700 (by decide +kernel) (by decide +kernel)
theorem hd_Sorts_movePrices : y_Sorts_movePrices.cls ≠ "java/lang/invoke/MethodHandle" ∧ y_Sorts_movePrices.cls ≠ "java/lang/invoke/VarHandle" ∧ (parseMethodDescriptor y_Sorts_movePrices.desc).map (fun d => d.parameters.length) = some 2 := by decide +kernel
def y_Rips_init : MethodName := ⟨R_Rips, "<init>", "(III)V"⟩
abbrev ws_Rips_init : List Cond := .code y_Rips_init prog_1_method_1_code 4 none :: TB
theorem d_Rips_init_0 : decode prog_1_method_1_code 0 = .ok (.aload_n 0, 1) := by decide +kernel
theorem d_Rips_init_1 : decode prog_1_method_1_code 1 = .ok (.invokespecial 1, 3) := by decide +kernel
theorem d_Rips_init_4 : decode prog_1_method_1_code 4 = .ok (.aload_n 0, 1) := by decide +kernel
theorem d_Rips_init_5 : decode prog_1_method_1_code 5 = .ok (.iconst 0, 1) := by decide +kernel
theorem d_Rips_init_6 : decode prog_1_method_1_code 6 = .ok (.putfield 9, 3) := by decide +kernel
theorem d_Rips_init_9 : decode prog_1_method_1_code 9 = .ok (.aload_n 0, 1) := by decide +kernel
theorem d_Rips_init_10 : decode prog_1_method_1_code 10 = .ok (.iconst 2, 1) := by decide +kernel
theorem d_Rips_init_11 : decode prog_1_method_1_code 11 = .ok (.putfield 13, 3) := by decide +kernel
theorem d_Rips_init_14 : decode prog_1_method_1_code 14 = .ok (.aload_n 0, 1) := by decide +kernel
theorem d_Rips_init_15 : decode prog_1_method_1_code 15 = .ok (.iconst 0, 1) := by decide +kernel
theorem d_Rips_init_16 : decode prog_1_method_1_code 16 = .ok (.putfield 16, 3) := by decide +kernel
theorem d_Rips_init_19 : decode prog_1_method_1_code 19 = .ok (.aload_n 0, 1) := by decide +kernel
theorem d_Rips_init_20 : decode prog_1_method_1_code 20 = .ok (.lconst 0, 1) := by decide +kernel
theorem d_Rips_init_21 : decode prog_1_method_1_code 21 = .ok (.putfield 20, 3) := by decide +kernel
theorem d_Rips_init_24 : decode prog_1_method_1_code 24 = .ok (.aload_n 0, 1) := by decide +kernel
theorem d_Rips_init_25 : decode prog_1_method_1_code 25 = .ok (.new 24, 3) := by decide +kernel
theorem d_Rips_init_28 : decode prog_1_method_1_code 28 = .ok (.dup, 1) := by decide +kernel
theorem d_Rips_init_29 : decode prog_1_method_1_code 29 = .ok (.iload_n 1, 1) := by decide +kernel
theorem d_Rips_init_30 : decode prog_1_method_1_code 30 = .ok (.invokestatic 26, 3) := by decide +kernel
theorem d_Rips_init_33 : decode prog_1_method_1_code 33 = .ok (.iload_n 2, 1) := by decide +kernel
theorem d_Rips_init_34 : decode prog_1_method_1_code 34 = .ok (.invokestatic 26, 3) := by decide +kernel
theorem d_Rips_init_37 : decode prog_1_method_1_code 37 = .ok (.iload_n 3, 1) := by decide +kernel
theorem d_Rips_init_38 : decode prog_1_method_1_code 38 = .ok (.invokestatic 26, 3) := by decide +kernel
theorem d_Rips_init_41 : decode prog_1_method_1_code 41 = .ok (.invokespecial 30, 3) := by decide +kernel
theorem d_Rips_init_44 : decode prog_1_method_1_code 44 = .ok (.putfield 33, 3) := by decide +kernel
theorem d_Rips_init_47 : decode prog_1_method_1_code 47 = .ok (.aload_n 0, 1) := by decide +kernel
theorem d_Rips_init_48 : decode prog_1_method_1_code 48 = .ok (.new 37, 3) := by decide +kernel
theorem d_Rips_init_51 : decode prog_1_method_1_code 51 = .ok (.dup, 1) := by decide +kernel
theorem d_Rips_init_52 : decode prog_1_method_1_code 52 = .ok (.aload_n 0, 1) := by decide +kernel
theorem d_Rips_init_53 : decode prog_1_method_1_code 53 = .ok (.getfield 33, 3) := by decide +kernel
theorem d_Rips_init_56 : decode prog_1_method_1_code 56 = .ok (.invokespecial 39, 3) := by decide +kernel
theorem d_Rips_init_59 : decode prog_1_method_1_code 59 = .ok (.putfield 42, 3) := by decide +kernel
theorem d_Rips_init_62 : decode prog_1_method_1_code 62 = .ok (.aload_n 0, 1) := by decide +kernel
theorem d_Rips_init_63 : decode prog_1_method_1_code 63 = .ok (.new 46, 3) := by decide +kernel
theorem d_Rips_init_66 : decode prog_1_method_1_code 66 = .ok (.dup, 1) := by decide +kernel
theorem d_Rips_init_67 : decode prog_1_method_1_code 67 = .ok (.invokespecial 48, 3) := by decide +kernel
theorem d_Rips_init_70 : decode prog_1_method_1_code 70 = .ok (.putfield 49, 3) := by decide +kernel
theorem d_Rips_init_73 : decode prog_1_method_1_code 73 = .ok (.aload_n 0, 1) := by decide +kernel
theorem d_Rips_init_74 : decode prog_1_method_1_code 74 = .ok (.new 53, 3) := by decide +kernel
theorem d_Rips_init_77 : decode prog_1_method_1_code 77 = .ok (.dup, 1) := by decide +kernel
theorem d_Rips_init_78 : decode prog_1_method_1_code 78 = .ok (.aload_n 0, 1) := by decide +kernel
theorem d_Rips_init_79 : decode prog_1_method_1_code 79 = .ok (.getfield 33, 3) := by decide +kernel
theorem d_Rips_init_82 : decode prog_1_method_1_code 82 = .ok (.aload_n 0, 1) := by decide +kernel
theorem d_Rips_init_83 : decode prog_1_method_1_code 83 = .ok (.getfield 42, 3) := by decide +kernel
theorem d_Rips_init_86 : decode prog_1_method_1_code 86 = .ok (.invokespecial 55, 3) := by decide +kernel
theorem d_Rips_init_89 : decode prog_1_method_1_code 89 = .ok (.putfield 58, 3) := by decide +kernel
theorem d_Rips_init_92 : decode prog_1_method_1_code 92 = .ok (.aload_n 0, 1) := by decide +kernel
theorem d_Rips_init_93 : decode prog_1_method_1_code 93 = .ok (.new 62, 3) := by decide +kernel
theorem d_Rips_init_96 : decode prog_1_method_1_code 96 = .ok (.dup, 1) := by decide +kernel
theorem d_Rips_init_97 : decode prog_1_method_1_code 97 = .ok (.aload_n 0, 1) := by decide +kernel
theorem d_Rips_init_98 : decode prog_1_method_1_code 98 = .ok (.getfield 33, 3) := by decide +kernel
theorem d_Rips_init_101 : decode prog_1_method_1_code 101 = .ok (.invokevirtual 64, 3) := by decide +kernel
theorem d_Rips_init_104 : decode prog_1_method_1_code 104 = .ok (.invokespecial 68, 3) := by decide +kernel
theorem d_Rips_init_107 : decode prog_1_method_1_code 107 = .ok (.putfield 71, 3) := by decide +kernel
theorem d_Rips_init_110 : decode prog_1_method_1_code 110 = .ok (.aload_n 0, 1) := by decide +kernel
theorem d_Rips_init_111 : decode prog_1_method_1_code 111 = .ok (.new 62, 3) := by decide +kernel
theorem d_Rips_init_114 : decode prog_1_method_1_code 114 = .ok (.dup, 1) := by decide +kernel
theorem d_Rips_init_115 : decode prog_1_method_1_code 115 = .ok (.aload_n 0, 1) := by decide +kernel
theorem d_Rips_init_116 : decode prog_1_method_1_code 116 = .ok (.getfield 33, 3) := by decide +kernel
theorem d_Rips_init_119 : decode prog_1_method_1_code 119 = .ok (.invokevirtual 64, 3) := by decide +kernel
theorem d_Rips_init_122 : decode prog_1_method_1_code 122 = .ok (.invokespecial 68, 3) := by decide +kernel
theorem d_Rips_init_125 : decode prog_1_method_1_code 125 = .ok (.putfield 75, 3) := by decide +kernel
theorem d_Rips_init_128 : decode prog_1_method_1_code 128 = .ok (.aload_n 0, 1) := by decide +kernel
theorem d_Rips_init_129 : decode prog_1_method_1_code 129 = .ok (.new 78, 3) := by decide +kernel
theorem d_Rips_init_132 : decode prog_1_method_1_code 132 = .ok (.dup, 1) := by decide +kernel
theorem d_Rips_init_133 : decode prog_1_method_1_code 133 = .ok (.aload_n 0, 1) := by decide +kernel
theorem d_Rips_init_134 : decode prog_1_method_1_code 134 = .ok (.getfield 33, 3) := by decide +kernel
theorem d_Rips_init_137 : decode prog_1_method_1_code 137 = .ok (.invokespecial 80, 3) := by decide +kernel
theorem d_Rips_init_140 : decode prog_1_method_1_code 140 = .ok (.putfield 81, 3) := by decide +kernel
theorem d_Rips_init_143 : decode prog_1_method_1_code 143 = .ok (.aload_n 0, 1) := by decide +kernel
theorem d_Rips_init_144 : decode prog_1_method_1_code 144 = .ok (.new 85, 3) := by decide +kernel
theorem d_Rips_init_147 : decode prog_1_method_1_code 147 = .ok (.dup, 1) := by decide +kernel
theorem d_Rips_init_148 : decode prog_1_method_1_code 148 = .ok (.aload_n 0, 1) := by decide +kernel
theorem d_Rips_init_149 : decode prog_1_method_1_code 149 = .ok (.getfield 33, 3) := by decide +kernel
theorem d_Rips_init_152 : decode prog_1_method_1_code 152 = .ok (.invokevirtual 64, 3) := by decide +kernel
theorem d_Rips_init_155 : decode prog_1_method_1_code 155 = .ok (.invokespecial 87, 3) := by decide +kernel
theorem d_Rips_init_158 : decode prog_1_method_1_code 158 = .ok (.putfield 88, 3) := by decide +kernel
theorem d_Rips_init_161 : decode prog_1_method_1_code 161 = .ok (.return_, 1) := by decide +kernel
set_option maxRecDepth 50000 in
theorem cd_Rips_init : Cond.code y_Rips_init prog_1_method_1_code 4 none ∈ TB := mem_TB 24 rfl rfl
theorem im_Rips_init : Cond.instanceMethod y_Rips_init ∈ TB := mem_TB 23 (by decide +kernel) (by decide +kernel)
theorem hd_Rips_init : y_Rips_init.cls ≠ "java/lang/invoke/MethodHandle" ∧ y_Rips_init.cls ≠ "java/lang/invoke/VarHandle" ∧ (parseMethodDescriptor y_Rips_init.desc).map (fun d => d.parameters.length) = some 3 := by decide +kernel
def y_Rips_fault : MethodName := ⟨R_Rips, "fault", "(IIIIII)Z"⟩
abbrev ws_Rips_fault : List Cond := .code y_Rips_fault prog_1_method_2_code 7 (some .boolean) :: TB
theorem d_Rips_fault_0 : decode prog_1_method_2_code 0 = .ok (.iload_n 1, 1) := by decide +kernel
theorem d_Rips_fault_1 : decode prog_1_method_2_code 1 = .ok (.iconst 2, 1) := by decide +kernel
theorem d_Rips_fault_2 : decode prog_1_method_2_code 2 = .ok (.invokestatic 92, 3) := by decide +kernel
theorem d_Rips_fault_5 : decode prog_1_method_2_code 5 = .ok (.aload_n 0, 1) := by decide +kernel
theorem d_Rips_fault_6 : decode prog_1_method_2_code 6 = .ok (.getfield 33, 3) := by decide +kernel
theorem d_Rips_fault_9 : decode prog_1_method_2_code 9 = .ok (.getfield 96, 3) := by decide +kernel
theorem d_Rips_fault_12 : decode prog_1_method_2_code 12 = .ok (.bipush 20, 2) := by decide +kernel
theorem d_Rips_fault_14 : decode prog_1_method_2_code 14 = .ok (.if_icmp .lt 13, 3) := by decide +kernel
theorem d_Rips_fault_17 : decode prog_1_method_2_code 17 = .ok (.new 99, 3) := by decide +kernel
theorem d_Rips_fault_20 : decode prog_1_method_2_code 20 = .ok (.dup, 1) := by decide +kernel
theorem d_Rips_fault_21 : decode prog_1_method_2_code 21 = .ok (.ldc 101, 2) := by decide +kernel
theorem d_Rips_fault_23 : decode prog_1_method_2_code 23 = .ok (.invokespecial 103, 3) := by decide +kernel
theorem d_Rips_fault_26 : decode prog_1_method_2_code 26 = .ok (.athrow, 1) := by decide +kernel
theorem d_Rips_fault_27 : decode prog_1_method_2_code 27 = .ok (.iload_n 2, 1) := by decide +kernel
theorem d_Rips_fault_28 : decode prog_1_method_2_code 28 = .ok (.i2l, 1) := by decide +kernel
theorem d_Rips_fault_29 : decode prog_1_method_2_code 29 = .ok (.lconst 0, 1) := by decide +kernel
theorem d_Rips_fault_30 : decode prog_1_method_2_code 30 = .ok (.ldc2_w 106, 3) := by decide +kernel
theorem d_Rips_fault_33 : decode prog_1_method_2_code 33 = .ok (.invokestatic 108, 3) := by decide +kernel
theorem d_Rips_fault_36 : decode prog_1_method_2_code 36 = .ok (.iload_n 3, 1) := by decide +kernel
theorem d_Rips_fault_37 : decode prog_1_method_2_code 37 = .ok (.i2l, 1) := by decide +kernel
theorem d_Rips_fault_38 : decode prog_1_method_2_code 38 = .ok (.ldc2_w 112, 3) := by decide +kernel
theorem d_Rips_fault_41 : decode prog_1_method_2_code 41 = .ok (.ldc2_w 114, 3) := by decide +kernel
theorem d_Rips_fault_44 : decode prog_1_method_2_code 44 = .ok (.invokestatic 108, 3) := by decide +kernel
theorem d_Rips_fault_47 : decode prog_1_method_2_code 47 = .ok (.iload 4, 2) := by decide +kernel
theorem d_Rips_fault_49 : decode prog_1_method_2_code 49 = .ok (.i2l, 1) := by decide +kernel
theorem d_Rips_fault_50 : decode prog_1_method_2_code 50 = .ok (.ldc2_w 112, 3) := by decide +kernel
theorem d_Rips_fault_53 : decode prog_1_method_2_code 53 = .ok (.ldc2_w 114, 3) := by decide +kernel
theorem d_Rips_fault_56 : decode prog_1_method_2_code 56 = .ok (.invokestatic 108, 3) := by decide +kernel
theorem d_Rips_fault_59 : decode prog_1_method_2_code 59 = .ok (.iload 5, 2) := by decide +kernel
theorem d_Rips_fault_61 : decode prog_1_method_2_code 61 = .ok (.i2l, 1) := by decide +kernel
theorem d_Rips_fault_62 : decode prog_1_method_2_code 62 = .ok (.lconst 0, 1) := by decide +kernel
theorem d_Rips_fault_63 : decode prog_1_method_2_code 63 = .ok (.ldc2_w 114, 3) := by decide +kernel
theorem d_Rips_fault_66 : decode prog_1_method_2_code 66 = .ok (.invokestatic 108, 3) := by decide +kernel
theorem d_Rips_fault_69 : decode prog_1_method_2_code 69 = .ok (.iload 6, 2) := by decide +kernel
theorem d_Rips_fault_71 : decode prog_1_method_2_code 71 = .ok (.i2l, 1) := by decide +kernel
theorem d_Rips_fault_72 : decode prog_1_method_2_code 72 = .ok (.lconst 0, 1) := by decide +kernel
theorem d_Rips_fault_73 : decode prog_1_method_2_code 73 = .ok (.ldc2_w 114, 3) := by decide +kernel
theorem d_Rips_fault_76 : decode prog_1_method_2_code 76 = .ok (.invokestatic 108, 3) := by decide +kernel
theorem d_Rips_fault_79 : decode prog_1_method_2_code 79 = .ok (.iload 5, 2) := by decide +kernel
theorem d_Rips_fault_81 : decode prog_1_method_2_code 81 = .ok (.ifCond .eq 8, 3) := by decide +kernel
theorem d_Rips_fault_84 : decode prog_1_method_2_code 84 = .ok (.iload 6, 2) := by decide +kernel
theorem d_Rips_fault_86 : decode prog_1_method_2_code 86 = .ok (.ifCond .ne 5, 3) := by decide +kernel
theorem d_Rips_fault_89 : decode prog_1_method_2_code 89 = .ok (.iconst 0, 1) := by decide +kernel
theorem d_Rips_fault_90 : decode prog_1_method_2_code 90 = .ok (.ireturn, 1) := by decide +kernel
theorem d_Rips_fault_91 : decode prog_1_method_2_code 91 = .ok (.aload_n 0, 1) := by decide +kernel
theorem d_Rips_fault_92 : decode prog_1_method_2_code 92 = .ok (.getfield 33, 3) := by decide +kernel
theorem d_Rips_fault_95 : decode prog_1_method_2_code 95 = .ok (.new 116, 3) := by decide +kernel
theorem d_Rips_fault_98 : decode prog_1_method_2_code 98 = .ok (.dup, 1) := by decide +kernel
theorem d_Rips_fault_99 : decode prog_1_method_2_code 99 = .ok (.iload_n 1, 1) := by decide +kernel
theorem d_Rips_fault_100 : decode prog_1_method_2_code 100 = .ok (.iload_n 2, 1) := by decide +kernel
theorem d_Rips_fault_101 : decode prog_1_method_2_code 101 = .ok (.iload_n 3, 1) := by decide +kernel
theorem d_Rips_fault_102 : decode prog_1_method_2_code 102 = .ok (.iload 4, 2) := by decide +kernel
theorem d_Rips_fault_104 : decode prog_1_method_2_code 104 = .ok (.iload 5, 2) := by decide +kernel
theorem d_Rips_fault_106 : decode prog_1_method_2_code 106 = .ok (.iload 6, 2) := by decide +kernel
theorem d_Rips_fault_108 : decode prog_1_method_2_code 108 = .ok (.invokespecial 118, 3) := by decide +kernel
theorem d_Rips_fault_111 : decode prog_1_method_2_code 111 = .ok (.invokevirtual 121, 3) := by decide +kernel
theorem d_Rips_fault_114 : decode prog_1_method_2_code 114 = .ok (.aload_n 0, 1) := by decide +kernel
theorem d_Rips_fault_115 : decode prog_1_method_2_code 115 = .ok (.iconst 0, 1) := by decide +kernel
theorem d_Rips_fault_116 : decode prog_1_method_2_code 116 = .ok (.putfield 16, 3) := by decide +kernel
theorem d_Rips_fault_119 : decode prog_1_method_2_code 119 = .ok (.iconst 1, 1) := by decide +kernel
theorem d_Rips_fault_120 : decode prog_1_method_2_code 120 = .ok (.ireturn, 1) := by decide +kernel
set_option maxRecDepth 50000 in
theorem cd_Rips_fault : Cond.code y_Rips_fault prog_1_method_2_code 7 (some .boolean) ∈ TB := mem_TB 289 rfl rfl
theorem im_Rips_fault : Cond.instanceMethod y_Rips_fault ∈ TB := mem_TB 287 (by decide +kernel) (by decide +kernel)
theorem sl_Rips_fault : Cond.selects R_Rips y_Rips_fault y_Rips_fault ∈ TB := mem_TB 288 (by decide +kernel) (by decide +kernel)
theorem hd_Rips_fault : y_Rips_fault.cls ≠ "java/lang/invoke/MethodHandle" ∧ y_Rips_fault.cls ≠ "java/lang/invoke/VarHandle" ∧ (parseMethodDescriptor y_Rips_fault.desc).map (fun d => d.parameters.length) = some 6 := by decide +kernel
def y_Rips_piece : MethodName := ⟨R_Rips, "piece", "(IIIJ)I"⟩
abbrev ws_Rips_piece : List Cond := .code y_Rips_piece prog_1_method_3_code 6 (some .int) :: TB
theorem d_Rips_piece_0 : decode prog_1_method_3_code 0 = .ok (.aload_n 0, 1) := by decide +kernel
theorem d_Rips_piece_1 : decode prog_1_method_3_code 1 = .ok (.getfield 42, 3) := by decide +kernel
theorem d_Rips_piece_4 : decode prog_1_method_3_code 4 = .ok (.getfield 125, 3) := by decide +kernel
theorem d_Rips_piece_7 : decode prog_1_method_3_code 7 = .ok (.bipush 8, 2) := by decide +kernel
theorem d_Rips_piece_9 : decode prog_1_method_3_code 9 = .ok (.if_icmp .lt 13, 3) := by decide +kernel
theorem d_Rips_piece_12 : decode prog_1_method_3_code 12 = .ok (.new 99, 3) := by decide +kernel
theorem d_Rips_piece_15 : decode prog_1_method_3_code 15 = .ok (.dup, 1) := by decide +kernel
theorem d_Rips_piece_16 : decode prog_1_method_3_code 16 = .ok (.ldc 128, 2) := by decide +kernel
theorem d_Rips_piece_18 : decode prog_1_method_3_code 18 = .ok (.invokespecial 103, 3) := by decide +kernel
theorem d_Rips_piece_21 : decode prog_1_method_3_code 21 = .ok (.athrow, 1) := by decide +kernel
theorem d_Rips_piece_22 : decode prog_1_method_3_code 22 = .ok (.iload_n 1, 1) := by decide +kernel
theorem d_Rips_piece_23 : decode prog_1_method_3_code 23 = .ok (.i2l, 1) := by decide +kernel
theorem d_Rips_piece_24 : decode prog_1_method_3_code 24 = .ok (.lconst 1, 1) := by decide +kernel
theorem d_Rips_piece_25 : decode prog_1_method_3_code 25 = .ok (.ldc2_w 114, 3) := by decide +kernel
theorem d_Rips_piece_28 : decode prog_1_method_3_code 28 = .ok (.invokestatic 108, 3) := by decide +kernel
theorem d_Rips_piece_31 : decode prog_1_method_3_code 31 = .ok (.iload_n 2, 1) := by decide +kernel
theorem d_Rips_piece_32 : decode prog_1_method_3_code 32 = .ok (.i2l, 1) := by decide +kernel
theorem d_Rips_piece_33 : decode prog_1_method_3_code 33 = .ok (.lconst 1, 1) := by decide +kernel
theorem d_Rips_piece_34 : decode prog_1_method_3_code 34 = .ok (.ldc2_w 114, 3) := by decide +kernel
theorem d_Rips_piece_37 : decode prog_1_method_3_code 37 = .ok (.invokestatic 108, 3) := by decide +kernel
theorem d_Rips_piece_40 : decode prog_1_method_3_code 40 = .ok (.iload_n 3, 1) := by decide +kernel
theorem d_Rips_piece_41 : decode prog_1_method_3_code 41 = .ok (.i2l, 1) := by decide +kernel
theorem d_Rips_piece_42 : decode prog_1_method_3_code 42 = .ok (.iload_n 2, 1) := by decide +kernel
theorem d_Rips_piece_43 : decode prog_1_method_3_code 43 = .ok (.i2l, 1) := by decide +kernel
theorem d_Rips_piece_44 : decode prog_1_method_3_code 44 = .ok (.ldc2_w 114, 3) := by decide +kernel
theorem d_Rips_piece_47 : decode prog_1_method_3_code 47 = .ok (.invokestatic 108, 3) := by decide +kernel
theorem d_Rips_piece_50 : decode prog_1_method_3_code 50 = .ok (.lload 4, 2) := by decide +kernel
theorem d_Rips_piece_52 : decode prog_1_method_3_code 52 = .ok (.lconst 1, 1) := by decide +kernel
theorem d_Rips_piece_53 : decode prog_1_method_3_code 53 = .ok (.ldc2_w 130, 3) := by decide +kernel
theorem d_Rips_piece_56 : decode prog_1_method_3_code 56 = .ok (.invokestatic 108, 3) := by decide +kernel
theorem d_Rips_piece_59 : decode prog_1_method_3_code 59 = .ok (.aload_n 0, 1) := by decide +kernel
theorem d_Rips_piece_60 : decode prog_1_method_3_code 60 = .ok (.iconst 0, 1) := by decide +kernel
theorem d_Rips_piece_61 : decode prog_1_method_3_code 61 = .ok (.putfield 16, 3) := by decide +kernel
theorem d_Rips_piece_64 : decode prog_1_method_3_code 64 = .ok (.aload_n 0, 1) := by decide +kernel
theorem d_Rips_piece_65 : decode prog_1_method_3_code 65 = .ok (.getfield 42, 3) := by decide +kernel
theorem d_Rips_piece_68 : decode prog_1_method_3_code 68 = .ok (.new 132, 3) := by decide +kernel
theorem d_Rips_piece_71 : decode prog_1_method_3_code 71 = .ok (.dup, 1) := by decide +kernel
theorem d_Rips_piece_72 : decode prog_1_method_3_code 72 = .ok (.aload_n 0, 1) := by decide +kernel
theorem d_Rips_piece_73 : decode prog_1_method_3_code 73 = .ok (.getfield 33, 3) := by decide +kernel
theorem d_Rips_piece_76 : decode prog_1_method_3_code 76 = .ok (.iload_n 1, 1) := by decide +kernel
theorem d_Rips_piece_77 : decode prog_1_method_3_code 77 = .ok (.invokevirtual 134, 3) := by decide +kernel
theorem d_Rips_piece_80 : decode prog_1_method_3_code 80 = .ok (.iload_n 2, 1) := by decide +kernel
theorem d_Rips_piece_81 : decode prog_1_method_3_code 81 = .ok (.iload_n 3, 1) := by decide +kernel
theorem d_Rips_piece_82 : decode prog_1_method_3_code 82 = .ok (.lload 4, 2) := by decide +kernel
theorem d_Rips_piece_84 : decode prog_1_method_3_code 84 = .ok (.l2i, 1) := by decide +kernel
theorem d_Rips_piece_85 : decode prog_1_method_3_code 85 = .ok (.invokespecial 137, 3) := by decide +kernel
theorem d_Rips_piece_88 : decode prog_1_method_3_code 88 = .ok (.invokevirtual 140, 3) := by decide +kernel
theorem d_Rips_piece_91 : decode prog_1_method_3_code 91 = .ok (.ireturn, 1) := by decide +kernel
set_option maxRecDepth 50000 in
theorem cd_Rips_piece : Cond.code y_Rips_piece prog_1_method_3_code 6 (some .int) ∈ TB := mem_TB 436 rfl rfl
theorem im_Rips_piece : Cond.instanceMethod y_Rips_piece ∈ TB := mem_TB 434 (by decide +kernel) (by decide +kernel)
theorem sl_Rips_piece : Cond.selects R_Rips y_Rips_piece y_Rips_piece ∈ TB := mem_TB 435 (by decide +kernel) (by decide +kernel)
theorem hd_Rips_piece : y_Rips_piece.cls ≠ "java/lang/invoke/MethodHandle" ∧ y_Rips_piece.cls ≠ "java/lang/invoke/VarHandle" ∧ (parseMethodDescriptor y_Rips_piece.desc).map (fun d => d.parameters.length) = some 4 := by decide +kernel
def y_Rips_allows : MethodName := ⟨R_Rips, "allows", "(III)Z"⟩
abbrev ws_Rips_allows : List Cond := .code y_Rips_allows prog_1_method_4_code 5 (some .boolean) :: TB
theorem d_Rips_allows_0 : decode prog_1_method_4_code 0 = .ok (.iload_n 1, 1) := by decide +kernel
theorem d_Rips_allows_1 : decode prog_1_method_4_code 1 = .ok (.aload_n 0, 1) := by decide +kernel
theorem d_Rips_allows_2 : decode prog_1_method_4_code 2 = .ok (.getfield 42, 3) := by decide +kernel
theorem d_Rips_allows_5 : decode prog_1_method_4_code 5 = .ok (.getfield 125, 3) := by decide +kernel
theorem d_Rips_allows_8 : decode prog_1_method_4_code 8 = .ok (.invokestatic 92, 3) := by decide +kernel
theorem d_Rips_allows_11 : decode prog_1_method_4_code 11 = .ok (.iload_n 2, 1) := by decide +kernel
theorem d_Rips_allows_12 : decode prog_1_method_4_code 12 = .ok (.iconst 2, 1) := by decide +kernel
theorem d_Rips_allows_13 : decode prog_1_method_4_code 13 = .ok (.invokestatic 92, 3) := by decide +kernel
theorem d_Rips_allows_16 : decode prog_1_method_4_code 16 = .ok (.iload_n 3, 1) := by decide +kernel
theorem d_Rips_allows_17 : decode prog_1_method_4_code 17 = .ok (.i2l, 1) := by decide +kernel
theorem d_Rips_allows_18 : decode prog_1_method_4_code 18 = .ok (.lconst 0, 1) := by decide +kernel
theorem d_Rips_allows_19 : decode prog_1_method_4_code 19 = .ok (.ldc2_w 106, 3) := by decide +kernel
theorem d_Rips_allows_22 : decode prog_1_method_4_code 22 = .ok (.invokestatic 108, 3) := by decide +kernel
theorem d_Rips_allows_25 : decode prog_1_method_4_code 25 = .ok (.aload_n 0, 1) := by decide +kernel
theorem d_Rips_allows_26 : decode prog_1_method_4_code 26 = .ok (.getfield 42, 3) := by decide +kernel
theorem d_Rips_allows_29 : decode prog_1_method_4_code 29 = .ok (.getfield 144, 3) := by decide +kernel
theorem d_Rips_allows_32 : decode prog_1_method_4_code 32 = .ok (.iload_n 1, 1) := by decide +kernel
theorem d_Rips_allows_33 : decode prog_1_method_4_code 33 = .ok (.aaload, 1) := by decide +kernel
theorem d_Rips_allows_34 : decode prog_1_method_4_code 34 = .ok (.astore 4, 2) := by decide +kernel
theorem d_Rips_allows_36 : decode prog_1_method_4_code 36 = .ok (.aload 4, 2) := by decide +kernel
theorem d_Rips_allows_38 : decode prog_1_method_4_code 38 = .ok (.iload_n 2, 1) := by decide +kernel
theorem d_Rips_allows_39 : decode prog_1_method_4_code 39 = .ok (.iload_n 3, 1) := by decide +kernel
theorem d_Rips_allows_40 : decode prog_1_method_4_code 40 = .ok (.invokevirtual 148, 3) := by decide +kernel
theorem d_Rips_allows_43 : decode prog_1_method_4_code 43 = .ok (.ifCond .eq 5, 3) := by decide +kernel
theorem d_Rips_allows_46 : decode prog_1_method_4_code 46 = .ok (.iconst 0, 1) := by decide +kernel
theorem d_Rips_allows_47 : decode prog_1_method_4_code 47 = .ok (.ireturn, 1) := by decide +kernel
theorem d_Rips_allows_48 : decode prog_1_method_4_code 48 = .ok (.aload 4, 2) := by decide +kernel
theorem d_Rips_allows_50 : decode prog_1_method_4_code 50 = .ok (.iload_n 2, 1) := by decide +kernel
theorem d_Rips_allows_51 : decode prog_1_method_4_code 51 = .ok (.iload_n 3, 1) := by decide +kernel
theorem d_Rips_allows_52 : decode prog_1_method_4_code 52 = .ok (.invokevirtual 152, 3) := by decide +kernel
theorem d_Rips_allows_55 : decode prog_1_method_4_code 55 = .ok (.aload_n 0, 1) := by decide +kernel
theorem d_Rips_allows_56 : decode prog_1_method_4_code 56 = .ok (.iconst 0, 1) := by decide +kernel
theorem d_Rips_allows_57 : decode prog_1_method_4_code 57 = .ok (.putfield 16, 3) := by decide +kernel
theorem d_Rips_allows_60 : decode prog_1_method_4_code 60 = .ok (.iconst 1, 1) := by decide +kernel
theorem d_Rips_allows_61 : decode prog_1_method_4_code 61 = .ok (.ireturn, 1) := by decide +kernel
set_option maxRecDepth 50000 in
theorem cd_Rips_allows : Cond.code y_Rips_allows prog_1_method_4_code 5 (some .boolean) ∈ TB := mem_TB 499 rfl rfl
theorem im_Rips_allows : Cond.instanceMethod y_Rips_allows ∈ TB := mem_TB 497 (by decide +kernel) (by decide +kernel)
theorem sl_Rips_allows : Cond.selects R_Rips y_Rips_allows y_Rips_allows ∈ TB := mem_TB 498 (by decide +kernel) (by decide +kernel)
theorem hd_Rips_allows : y_Rips_allows.cls ≠ "java/lang/invoke/MethodHandle" ∧ y_Rips_allows.cls ≠ "java/lang/invoke/VarHandle" ∧ (parseMethodDescriptor y_Rips_allows.desc).map (fun d => d.parameters.length) = some 3 := by decide +kernel
def y_Rips_gang : MethodName := ⟨R_Rips, "gang", "(I)Z"⟩
abbrev ws_Rips_gang : List Cond := .code y_Rips_gang prog_1_method_5_code 3 (some .boolean) :: TB
theorem d_Rips_gang_0 : decode prog_1_method_5_code 0 = .ok (.iload_n 1, 1) := by decide +kernel
theorem d_Rips_gang_1 : decode prog_1_method_5_code 1 = .ok (.i2l, 1) := by decide +kernel
theorem d_Rips_gang_2 : decode prog_1_method_5_code 2 = .ok (.lconst 1, 1) := by decide +kernel
theorem d_Rips_gang_3 : decode prog_1_method_5_code 3 = .ok (.ldc2_w 114, 3) := by decide +kernel
theorem d_Rips_gang_6 : decode prog_1_method_5_code 6 = .ok (.invokestatic 108, 3) := by decide +kernel
theorem d_Rips_gang_9 : decode prog_1_method_5_code 9 = .ok (.aload_n 0, 1) := by decide +kernel
theorem d_Rips_gang_10 : decode prog_1_method_5_code 10 = .ok (.getfield 33, 3) := by decide +kernel
theorem d_Rips_gang_13 : decode prog_1_method_5_code 13 = .ok (.iload_n 1, 1) := by decide +kernel
theorem d_Rips_gang_14 : decode prog_1_method_5_code 14 = .ok (.invokevirtual 134, 3) := by decide +kernel
theorem d_Rips_gang_17 : decode prog_1_method_5_code 17 = .ok (.istore_n 2, 1) := by decide +kernel
theorem d_Rips_gang_18 : decode prog_1_method_5_code 18 = .ok (.aload_n 0, 1) := by decide +kernel
theorem d_Rips_gang_19 : decode prog_1_method_5_code 19 = .ok (.getfield 49, 3) := by decide +kernel
theorem d_Rips_gang_22 : decode prog_1_method_5_code 22 = .ok (.iload_n 2, 1) := by decide +kernel
theorem d_Rips_gang_23 : decode prog_1_method_5_code 23 = .ok (.invokevirtual 155, 3) := by decide +kernel
theorem d_Rips_gang_26 : decode prog_1_method_5_code 26 = .ok (.ifCond .eq 5, 3) := by decide +kernel
theorem d_Rips_gang_29 : decode prog_1_method_5_code 29 = .ok (.iconst 0, 1) := by decide +kernel
theorem d_Rips_gang_30 : decode prog_1_method_5_code 30 = .ok (.ireturn, 1) := by decide +kernel
theorem d_Rips_gang_31 : decode prog_1_method_5_code 31 = .ok (.aload_n 0, 1) := by decide +kernel
theorem d_Rips_gang_32 : decode prog_1_method_5_code 32 = .ok (.getfield 49, 3) := by decide +kernel
theorem d_Rips_gang_35 : decode prog_1_method_5_code 35 = .ok (.iload_n 2, 1) := by decide +kernel
theorem d_Rips_gang_36 : decode prog_1_method_5_code 36 = .ok (.invokevirtual 159, 3) := by decide +kernel
theorem d_Rips_gang_39 : decode prog_1_method_5_code 39 = .ok (.aload_n 0, 1) := by decide +kernel
theorem d_Rips_gang_40 : decode prog_1_method_5_code 40 = .ok (.iconst 0, 1) := by decide +kernel
theorem d_Rips_gang_41 : decode prog_1_method_5_code 41 = .ok (.putfield 16, 3) := by decide +kernel
theorem d_Rips_gang_44 : decode prog_1_method_5_code 44 = .ok (.iconst 1, 1) := by decide +kernel
theorem d_Rips_gang_45 : decode prog_1_method_5_code 45 = .ok (.ireturn, 1) := by decide +kernel
set_option maxRecDepth 50000 in
theorem cd_Rips_gang : Cond.code y_Rips_gang prog_1_method_5_code 3 (some .boolean) ∈ TB := mem_TB 514 rfl rfl
theorem im_Rips_gang : Cond.instanceMethod y_Rips_gang ∈ TB := mem_TB 512 (by decide +kernel) (by decide +kernel)
theorem sl_Rips_gang : Cond.selects R_Rips y_Rips_gang y_Rips_gang ∈ TB := mem_TB 513 (by decide +kernel) (by decide +kernel)
theorem hd_Rips_gang : y_Rips_gang.cls ≠ "java/lang/invoke/MethodHandle" ∧ y_Rips_gang.cls ≠ "java/lang/invoke/VarHandle" ∧ (parseMethodDescriptor y_Rips_gang.desc).map (fun d => d.parameters.length) = some 1 := by decide +kernel
def y_Rips_need : MethodName := ⟨R_Rips, "need", "(II)Z"⟩
abbrev ws_Rips_need : List Cond := .code y_Rips_need prog_1_method_6_code 4 (some .boolean) :: TB
theorem d_Rips_need_0 : decode prog_1_method_6_code 0 = .ok (.iload_n 1, 1) := by decide +kernel
theorem d_Rips_need_1 : decode prog_1_method_6_code 1 = .ok (.aload_n 0, 1) := by decide +kernel
theorem d_Rips_need_2 : decode prog_1_method_6_code 2 = .ok (.getfield 42, 3) := by decide +kernel
theorem d_Rips_need_5 : decode prog_1_method_6_code 5 = .ok (.getfield 125, 3) := by decide +kernel
theorem d_Rips_need_8 : decode prog_1_method_6_code 8 = .ok (.invokestatic 92, 3) := by decide +kernel
theorem d_Rips_need_11 : decode prog_1_method_6_code 11 = .ok (.iload_n 2, 1) := by decide +kernel
theorem d_Rips_need_12 : decode prog_1_method_6_code 12 = .ok (.i2l, 1) := by decide +kernel
theorem d_Rips_need_13 : decode prog_1_method_6_code 13 = .ok (.lconst 0, 1) := by decide +kernel
theorem d_Rips_need_14 : decode prog_1_method_6_code 14 = .ok (.ldc2_w 162, 3) := by decide +kernel
theorem d_Rips_need_17 : decode prog_1_method_6_code 17 = .ok (.invokestatic 108, 3) := by decide +kernel
theorem d_Rips_need_20 : decode prog_1_method_6_code 20 = .ok (.aload_n 0, 1) := by decide +kernel
theorem d_Rips_need_21 : decode prog_1_method_6_code 21 = .ok (.getfield 42, 3) := by decide +kernel
theorem d_Rips_need_24 : decode prog_1_method_6_code 24 = .ok (.getfield 144, 3) := by decide +kernel
theorem d_Rips_need_27 : decode prog_1_method_6_code 27 = .ok (.iload_n 1, 1) := by decide +kernel
theorem d_Rips_need_28 : decode prog_1_method_6_code 28 = .ok (.aaload, 1) := by decide +kernel
theorem d_Rips_need_29 : decode prog_1_method_6_code 29 = .ok (.astore_n 3, 1) := by decide +kernel
theorem d_Rips_need_30 : decode prog_1_method_6_code 30 = .ok (.aload_n 3, 1) := by decide +kernel
theorem d_Rips_need_31 : decode prog_1_method_6_code 31 = .ok (.getfield 164, 3) := by decide +kernel
theorem d_Rips_need_34 : decode prog_1_method_6_code 34 = .ok (.iload_n 2, 1) := by decide +kernel
theorem d_Rips_need_35 : decode prog_1_method_6_code 35 = .ok (.if_icmp .ne 5, 3) := by decide +kernel
theorem d_Rips_need_38 : decode prog_1_method_6_code 38 = .ok (.iconst 0, 1) := by decide +kernel
theorem d_Rips_need_39 : decode prog_1_method_6_code 39 = .ok (.ireturn, 1) := by decide +kernel
theorem d_Rips_need_40 : decode prog_1_method_6_code 40 = .ok (.aload_n 3, 1) := by decide +kernel
theorem d_Rips_need_41 : decode prog_1_method_6_code 41 = .ok (.iload_n 2, 1) := by decide +kernel
theorem d_Rips_need_42 : decode prog_1_method_6_code 42 = .ok (.putfield 164, 3) := by decide +kernel
theorem d_Rips_need_45 : decode prog_1_method_6_code 45 = .ok (.aload_n 0, 1) := by decide +kernel
theorem d_Rips_need_46 : decode prog_1_method_6_code 46 = .ok (.iconst 0, 1) := by decide +kernel
theorem d_Rips_need_47 : decode prog_1_method_6_code 47 = .ok (.putfield 16, 3) := by decide +kernel
theorem d_Rips_need_50 : decode prog_1_method_6_code 50 = .ok (.iconst 1, 1) := by decide +kernel
theorem d_Rips_need_51 : decode prog_1_method_6_code 51 = .ok (.ireturn, 1) := by decide +kernel
set_option maxRecDepth 50000 in
theorem cd_Rips_need : Cond.code y_Rips_need prog_1_method_6_code 4 (some .boolean) ∈ TB := mem_TB 529 rfl rfl
theorem im_Rips_need : Cond.instanceMethod y_Rips_need ∈ TB := mem_TB 527 (by decide +kernel) (by decide +kernel)
theorem sl_Rips_need : Cond.selects R_Rips y_Rips_need y_Rips_need ∈ TB := mem_TB 528 (by decide +kernel) (by decide +kernel)
theorem hd_Rips_need : y_Rips_need.cls ≠ "java/lang/invoke/MethodHandle" ∧ y_Rips_need.cls ≠ "java/lang/invoke/VarHandle" ∧ (parseMethodDescriptor y_Rips_need.desc).map (fun d => d.parameters.length) = some 2 := by decide +kernel
def y_Rips_margin : MethodName := ⟨R_Rips, "margin", "(I)Z"⟩
abbrev ws_Rips_margin : List Cond := .code y_Rips_margin prog_1_method_7_code 2 (some .boolean) :: TB
theorem d_Rips_margin_0 : decode prog_1_method_7_code 0 = .ok (.iload_n 1, 1) := by decide +kernel
theorem d_Rips_margin_1 : decode prog_1_method_7_code 1 = .ok (.i2l, 1) := by decide +kernel
theorem d_Rips_margin_2 : decode prog_1_method_7_code 2 = .ok (.lconst 0, 1) := by decide +kernel
theorem d_Rips_margin_3 : decode prog_1_method_7_code 3 = .ok (.ldc2_w 114, 3) := by decide +kernel
theorem d_Rips_margin_6 : decode prog_1_method_7_code 6 = .ok (.invokestatic 108, 3) := by decide +kernel
theorem d_Rips_margin_9 : decode prog_1_method_7_code 9 = .ok (.aload_n 0, 1) := by decide +kernel
theorem d_Rips_margin_10 : decode prog_1_method_7_code 10 = .ok (.getfield 33, 3) := by decide +kernel
theorem d_Rips_margin_13 : decode prog_1_method_7_code 13 = .ok (.getfield 167, 3) := by decide +kernel
theorem d_Rips_margin_16 : decode prog_1_method_7_code 16 = .ok (.iload_n 1, 1) := by decide +kernel
theorem d_Rips_margin_17 : decode prog_1_method_7_code 17 = .ok (.if_icmp .ne 5, 3) := by decide +kernel
theorem d_Rips_margin_20 : decode prog_1_method_7_code 20 = .ok (.iconst 0, 1) := by decide +kernel
theorem d_Rips_margin_21 : decode prog_1_method_7_code 21 = .ok (.ireturn, 1) := by decide +kernel
theorem d_Rips_margin_22 : decode prog_1_method_7_code 22 = .ok (.aload_n 0, 1) := by decide +kernel
theorem d_Rips_margin_23 : decode prog_1_method_7_code 23 = .ok (.getfield 33, 3) := by decide +kernel
theorem d_Rips_margin_26 : decode prog_1_method_7_code 26 = .ok (.iload_n 1, 1) := by decide +kernel
theorem d_Rips_margin_27 : decode prog_1_method_7_code 27 = .ok (.putfield 167, 3) := by decide +kernel
theorem d_Rips_margin_30 : decode prog_1_method_7_code 30 = .ok (.aload_n 0, 1) := by decide +kernel
theorem d_Rips_margin_31 : decode prog_1_method_7_code 31 = .ok (.iconst 0, 1) := by decide +kernel
theorem d_Rips_margin_32 : decode prog_1_method_7_code 32 = .ok (.putfield 16, 3) := by decide +kernel
theorem d_Rips_margin_35 : decode prog_1_method_7_code 35 = .ok (.iconst 1, 1) := by decide +kernel
theorem d_Rips_margin_36 : decode prog_1_method_7_code 36 = .ok (.ireturn, 1) := by decide +kernel
set_option maxRecDepth 50000 in
theorem cd_Rips_margin : Cond.code y_Rips_margin prog_1_method_7_code 2 (some .boolean) ∈ TB := mem_TB 537 rfl rfl
theorem im_Rips_margin : Cond.instanceMethod y_Rips_margin ∈ TB := mem_TB 535 (by decide +kernel) (by decide +kernel)
theorem sl_Rips_margin : Cond.selects R_Rips y_Rips_margin y_Rips_margin ∈ TB := mem_TB 536 (by decide +kernel) (by decide +kernel)
theorem hd_Rips_margin : y_Rips_margin.cls ≠ "java/lang/invoke/MethodHandle" ∧ y_Rips_margin.cls ≠ "java/lang/invoke/VarHandle" ∧ (parseMethodDescriptor y_Rips_margin.desc).map (fun d => d.parameters.length) = some 1 := by decide +kernel
def y_Rips_bow : MethodName := ⟨R_Rips, "bow", "(I)Z"⟩
abbrev ws_Rips_bow : List Cond := .code y_Rips_bow prog_1_method_8_code 2 (some .boolean) :: TB
theorem d_Rips_bow_0 : decode prog_1_method_8_code 0 = .ok (.iload_n 1, 1) := by decide +kernel
theorem d_Rips_bow_1 : decode prog_1_method_8_code 1 = .ok (.i2l, 1) := by decide +kernel
theorem d_Rips_bow_2 : decode prog_1_method_8_code 2 = .ok (.lconst 1, 1) := by decide +kernel
theorem d_Rips_bow_3 : decode prog_1_method_8_code 3 = .ok (.ldc2_w 170, 3) := by decide +kernel
theorem d_Rips_bow_6 : decode prog_1_method_8_code 6 = .ok (.invokestatic 108, 3) := by decide +kernel
theorem d_Rips_bow_9 : decode prog_1_method_8_code 9 = .ok (.aload_n 0, 1) := by decide +kernel
theorem d_Rips_bow_10 : decode prog_1_method_8_code 10 = .ok (.getfield 42, 3) := by decide +kernel
theorem d_Rips_bow_13 : decode prog_1_method_8_code 13 = .ok (.getfield 172, 3) := by decide +kernel
theorem d_Rips_bow_16 : decode prog_1_method_8_code 16 = .ok (.iload_n 1, 1) := by decide +kernel
theorem d_Rips_bow_17 : decode prog_1_method_8_code 17 = .ok (.if_icmp .ne 5, 3) := by decide +kernel
theorem d_Rips_bow_20 : decode prog_1_method_8_code 20 = .ok (.iconst 0, 1) := by decide +kernel
theorem d_Rips_bow_21 : decode prog_1_method_8_code 21 = .ok (.ireturn, 1) := by decide +kernel
theorem d_Rips_bow_22 : decode prog_1_method_8_code 22 = .ok (.aload_n 0, 1) := by decide +kernel
theorem d_Rips_bow_23 : decode prog_1_method_8_code 23 = .ok (.getfield 42, 3) := by decide +kernel
theorem d_Rips_bow_26 : decode prog_1_method_8_code 26 = .ok (.iload_n 1, 1) := by decide +kernel
theorem d_Rips_bow_27 : decode prog_1_method_8_code 27 = .ok (.putfield 172, 3) := by decide +kernel
theorem d_Rips_bow_30 : decode prog_1_method_8_code 30 = .ok (.aload_n 0, 1) := by decide +kernel
theorem d_Rips_bow_31 : decode prog_1_method_8_code 31 = .ok (.iconst 0, 1) := by decide +kernel
theorem d_Rips_bow_32 : decode prog_1_method_8_code 32 = .ok (.putfield 16, 3) := by decide +kernel
theorem d_Rips_bow_35 : decode prog_1_method_8_code 35 = .ok (.iconst 1, 1) := by decide +kernel
theorem d_Rips_bow_36 : decode prog_1_method_8_code 36 = .ok (.ireturn, 1) := by decide +kernel
set_option maxRecDepth 50000 in
theorem cd_Rips_bow : Cond.code y_Rips_bow prog_1_method_8_code 2 (some .boolean) ∈ TB := mem_TB 544 rfl rfl
theorem im_Rips_bow : Cond.instanceMethod y_Rips_bow ∈ TB := mem_TB 542 (by decide +kernel) (by decide +kernel)
theorem sl_Rips_bow : Cond.selects R_Rips y_Rips_bow y_Rips_bow ∈ TB := mem_TB 543 (by decide +kernel) (by decide +kernel)
theorem hd_Rips_bow : y_Rips_bow.cls ≠ "java/lang/invoke/MethodHandle" ∧ y_Rips_bow.cls ≠ "java/lang/invoke/VarHandle" ∧ (parseMethodDescriptor y_Rips_bow.desc).map (fun d => d.parameters.length) = some 1 := by decide +kernel
def y_Rips_run : MethodName := ⟨R_Rips, "run", "(II)I"⟩
abbrev ws_Rips_run : List Cond := .code y_Rips_run prog_1_method_9_code 3 (some .int) :: TB
theorem d_Rips_run_0 : decode prog_1_method_9_code 0 = .ok (.iload_n 1, 1) := by decide +kernel
theorem d_Rips_run_1 : decode prog_1_method_9_code 1 = .ok (.i2l, 1) := by decide +kernel
theorem d_Rips_run_2 : decode prog_1_method_9_code 2 = .ok (.lconst 0, 1) := by decide +kernel
theorem d_Rips_run_3 : decode prog_1_method_9_code 3 = .ok (.lconst 1, 1) := by decide +kernel
theorem d_Rips_run_4 : decode prog_1_method_9_code 4 = .ok (.invokestatic 108, 3) := by decide +kernel
theorem d_Rips_run_7 : decode prog_1_method_9_code 7 = .ok (.iload_n 2, 1) := by decide +kernel
theorem d_Rips_run_8 : decode prog_1_method_9_code 8 = .ok (.i2l, 1) := by decide +kernel
theorem d_Rips_run_9 : decode prog_1_method_9_code 9 = .ok (.lconst 1, 1) := by decide +kernel
theorem d_Rips_run_10 : decode prog_1_method_9_code 10 = .ok (.ldc2_w 175, 3) := by decide +kernel
theorem d_Rips_run_13 : decode prog_1_method_9_code 13 = .ok (.invokestatic 108, 3) := by decide +kernel
theorem d_Rips_run_16 : decode prog_1_method_9_code 16 = .ok (.aload_n 0, 1) := by decide +kernel
theorem d_Rips_run_17 : decode prog_1_method_9_code 17 = .ok (.iload_n 1, 1) := by decide +kernel
theorem d_Rips_run_18 : decode prog_1_method_9_code 18 = .ok (.putfield 9, 3) := by decide +kernel
theorem d_Rips_run_21 : decode prog_1_method_9_code 21 = .ok (.aload_n 0, 1) := by decide +kernel
theorem d_Rips_run_22 : decode prog_1_method_9_code 22 = .ok (.iload_n 2, 1) := by decide +kernel
theorem d_Rips_run_23 : decode prog_1_method_9_code 23 = .ok (.putfield 13, 3) := by decide +kernel
theorem d_Rips_run_26 : decode prog_1_method_9_code 26 = .ok (.aload_n 0, 1) := by decide +kernel
theorem d_Rips_run_27 : decode prog_1_method_9_code 27 = .ok (.invokevirtual 177, 3) := by decide +kernel
theorem d_Rips_run_30 : decode prog_1_method_9_code 30 = .ok (.aload_n 0, 1) := by decide +kernel
theorem d_Rips_run_31 : decode prog_1_method_9_code 31 = .ok (.getfield 58, 3) := by decide +kernel
theorem d_Rips_run_34 : decode prog_1_method_9_code 34 = .ok (.iload_n 1, 1) := by decide +kernel
theorem d_Rips_run_35 : decode prog_1_method_9_code 35 = .ok (.iload_n 2, 1) := by decide +kernel
theorem d_Rips_run_36 : decode prog_1_method_9_code 36 = .ok (.aload_n 0, 1) := by decide +kernel
theorem d_Rips_run_37 : decode prog_1_method_9_code 37 = .ok (.getfield 49, 3) := by decide +kernel
theorem d_Rips_run_40 : decode prog_1_method_9_code 40 = .ok (.aload_n 0, 1) := by decide +kernel
theorem d_Rips_run_41 : decode prog_1_method_9_code 41 = .ok (.getfield 71, 3) := by decide +kernel
theorem d_Rips_run_44 : decode prog_1_method_9_code 44 = .ok (.invokevirtual 180, 3) := by decide +kernel
theorem d_Rips_run_47 : decode prog_1_method_9_code 47 = .ok (.aload_n 0, 1) := by decide +kernel
theorem d_Rips_run_48 : decode prog_1_method_9_code 48 = .ok (.aload_n 0, 1) := by decide +kernel
theorem d_Rips_run_49 : decode prog_1_method_9_code 49 = .ok (.getfield 71, 3) := by decide +kernel
theorem d_Rips_run_52 : decode prog_1_method_9_code 52 = .ok (.getfield 184, 3) := by decide +kernel
theorem d_Rips_run_55 : decode prog_1_method_9_code 55 = .ok (.putfield 20, 3) := by decide +kernel
theorem d_Rips_run_58 : decode prog_1_method_9_code 58 = .ok (.aload_n 0, 1) := by decide +kernel
theorem d_Rips_run_59 : decode prog_1_method_9_code 59 = .ok (.iconst 1, 1) := by decide +kernel
theorem d_Rips_run_60 : decode prog_1_method_9_code 60 = .ok (.putfield 16, 3) := by decide +kernel
theorem d_Rips_run_63 : decode prog_1_method_9_code 63 = .ok (.aload_n 0, 1) := by decide +kernel
theorem d_Rips_run_64 : decode prog_1_method_9_code 64 = .ok (.getfield 71, 3) := by decide +kernel
theorem d_Rips_run_67 : decode prog_1_method_9_code 67 = .ok (.getfield 187, 3) := by decide +kernel
theorem d_Rips_run_70 : decode prog_1_method_9_code 70 = .ok (.ireturn, 1) := by decide +kernel
set_option maxRecDepth 50000 in
theorem cd_Rips_run : Cond.code y_Rips_run prog_1_method_9_code 3 (some .int) ∈ TB := mem_TB 552 rfl rfl
theorem im_Rips_run : Cond.instanceMethod y_Rips_run ∈ TB := mem_TB 550 (by decide +kernel) (by decide +kernel)
theorem sl_Rips_run : Cond.selects R_Rips y_Rips_run y_Rips_run ∈ TB := mem_TB 551 (by decide +kernel) (by decide +kernel)
theorem hd_Rips_run : y_Rips_run.cls ≠ "java/lang/invoke/MethodHandle" ∧ y_Rips_run.cls ≠ "java/lang/invoke/VarHandle" ∧ (parseMethodDescriptor y_Rips_run.desc).map (fun d => d.parameters.length) = some 2 := by decide +kernel
def y_Rips_prices : MethodName := ⟨R_Rips, "prices", "(I)I"⟩
abbrev ws_Rips_prices : List Cond := .code y_Rips_prices prog_1_method_10_code 7 (some .int) :: TB
theorem d_Rips_prices_0 : decode prog_1_method_10_code 0 = .ok (.iload_n 1, 1) := by decide +kernel
theorem d_Rips_prices_1 : decode prog_1_method_10_code 1 = .ok (.i2l, 1) := by decide +kernel
theorem d_Rips_prices_2 : decode prog_1_method_10_code 2 = .ok (.lconst 1, 1) := by decide +kernel
theorem d_Rips_prices_3 : decode prog_1_method_10_code 3 = .ok (.ldc2_w 190, 3) := by decide +kernel
theorem d_Rips_prices_6 : decode prog_1_method_10_code 6 = .ok (.invokestatic 108, 3) := by decide +kernel
theorem d_Rips_prices_9 : decode prog_1_method_10_code 9 = .ok (.aload_n 0, 1) := by decide +kernel
theorem d_Rips_prices_10 : decode prog_1_method_10_code 10 = .ok (.invokevirtual 177, 3) := by decide +kernel
theorem d_Rips_prices_13 : decode prog_1_method_10_code 13 = .ok (.iconst 0, 1) := by decide +kernel
theorem d_Rips_prices_14 : decode prog_1_method_10_code 14 = .ok (.istore_n 2, 1) := by decide +kernel
theorem d_Rips_prices_15 : decode prog_1_method_10_code 15 = .ok (.iconst 0, 1) := by decide +kernel
theorem d_Rips_prices_16 : decode prog_1_method_10_code 16 = .ok (.istore_n 3, 1) := by decide +kernel
theorem d_Rips_prices_17 : decode prog_1_method_10_code 17 = .ok (.iconst 0, 1) := by decide +kernel
theorem d_Rips_prices_18 : decode prog_1_method_10_code 18 = .ok (.istore 4, 2) := by decide +kernel
theorem d_Rips_prices_20 : decode prog_1_method_10_code 20 = .ok (.iload 4, 2) := by decide +kernel
theorem d_Rips_prices_22 : decode prog_1_method_10_code 22 = .ok (.iload_n 1, 1) := by decide +kernel
theorem d_Rips_prices_23 : decode prog_1_method_10_code 23 = .ok (.if_icmp .ge 159, 3) := by decide +kernel
theorem d_Rips_prices_26 : decode prog_1_method_10_code 26 = .ok (.iload_n 3, 1) := by decide +kernel
theorem d_Rips_prices_27 : decode prog_1_method_10_code 27 = .ok (.ifCond .ne 155, 3) := by decide +kernel
theorem d_Rips_prices_30 : decode prog_1_method_10_code 30 = .ok (.iload 4, 2) := by decide +kernel
theorem d_Rips_prices_32 : decode prog_1_method_10_code 32 = .ok (.ifCond .le 24, 3) := by decide +kernel
theorem d_Rips_prices_35 : decode prog_1_method_10_code 35 = .ok (.aload_n 0, 1) := by decide +kernel
theorem d_Rips_prices_36 : decode prog_1_method_10_code 36 = .ok (.getfield 42, 3) := by decide +kernel
theorem d_Rips_prices_39 : decode prog_1_method_10_code 39 = .ok (.aload_n 0, 1) := by decide +kernel
theorem d_Rips_prices_40 : decode prog_1_method_10_code 40 = .ok (.getfield 75, 3) := by decide +kernel
theorem d_Rips_prices_43 : decode prog_1_method_10_code 43 = .ok (.iconst 1, 1) := by decide +kernel
theorem d_Rips_prices_44 : decode prog_1_method_10_code 44 = .ok (.sipush 256, 3) := by decide +kernel
theorem d_Rips_prices_47 : decode prog_1_method_10_code 47 = .ok (.iload 4, 2) := by decide +kernel
theorem d_Rips_prices_49 : decode prog_1_method_10_code 49 = .ok (.idiv, 1) := by decide +kernel
theorem d_Rips_prices_50 : decode prog_1_method_10_code 50 = .ok (.invokestatic 192, 3) := by decide +kernel
theorem d_Rips_prices_53 : decode prog_1_method_10_code 53 = .ok (.invokevirtual 198, 3) := by decide +kernel
theorem d_Rips_prices_56 : decode prog_1_method_10_code 56 = .ok (.aload_n 0, 1) := by decide +kernel
theorem d_Rips_prices_57 : decode prog_1_method_10_code 57 = .ok (.getfield 58, 3) := by decide +kernel
theorem d_Rips_prices_60 : decode prog_1_method_10_code 60 = .ok (.aload_n 0, 1) := by decide +kernel
theorem d_Rips_prices_61 : decode prog_1_method_10_code 61 = .ok (.getfield 9, 3) := by decide +kernel
theorem d_Rips_prices_64 : decode prog_1_method_10_code 64 = .ok (.aload_n 0, 1) := by decide +kernel
theorem d_Rips_prices_65 : decode prog_1_method_10_code 65 = .ok (.getfield 13, 3) := by decide +kernel
theorem d_Rips_prices_68 : decode prog_1_method_10_code 68 = .ok (.aload_n 0, 1) := by decide +kernel
theorem d_Rips_prices_69 : decode prog_1_method_10_code 69 = .ok (.getfield 49, 3) := by decide +kernel
theorem d_Rips_prices_72 : decode prog_1_method_10_code 72 = .ok (.aload_n 0, 1) := by decide +kernel
theorem d_Rips_prices_73 : decode prog_1_method_10_code 73 = .ok (.getfield 75, 3) := by decide +kernel
theorem d_Rips_prices_76 : decode prog_1_method_10_code 76 = .ok (.invokevirtual 180, 3) := by decide +kernel
theorem d_Rips_prices_79 : decode prog_1_method_10_code 79 = .ok (.aload_n 0, 1) := by decide +kernel
theorem d_Rips_prices_80 : decode prog_1_method_10_code 80 = .ok (.getfield 42, 3) := by decide +kernel
theorem d_Rips_prices_83 : decode prog_1_method_10_code 83 = .ok (.aload_n 0, 1) := by decide +kernel
theorem d_Rips_prices_84 : decode prog_1_method_10_code 84 = .ok (.getfield 75, 3) := by decide +kernel
theorem d_Rips_prices_87 : decode prog_1_method_10_code 87 = .ok (.invokevirtual 202, 3) := by decide +kernel
theorem d_Rips_prices_90 : decode prog_1_method_10_code 90 = .ok (.lstore 5, 2) := by decide +kernel
theorem d_Rips_prices_92 : decode prog_1_method_10_code 92 = .ok (.aload_n 0, 1) := by decide +kernel
theorem d_Rips_prices_93 : decode prog_1_method_10_code 93 = .ok (.iload 4, 2) := by decide +kernel
theorem d_Rips_prices_95 : decode prog_1_method_10_code 95 = .ok (.ifCond .ne 8, 3) := by decide +kernel
theorem d_Rips_prices_98 : decode prog_1_method_10_code 98 = .ok (.lload 5, 2) := by decide +kernel
theorem d_Rips_prices_100 : decode prog_1_method_10_code 100 = .ok (.goto 12, 3) := by decide +kernel
theorem d_Rips_prices_103 : decode prog_1_method_10_code 103 = .ok (.aload_n 0, 1) := by decide +kernel
theorem d_Rips_prices_104 : decode prog_1_method_10_code 104 = .ok (.getfield 20, 3) := by decide +kernel
theorem d_Rips_prices_107 : decode prog_1_method_10_code 107 = .ok (.lload 5, 2) := by decide +kernel
theorem d_Rips_prices_109 : decode prog_1_method_10_code 109 = .ok (.invokestatic 206, 3) := by decide +kernel
theorem d_Rips_prices_112 : decode prog_1_method_10_code 112 = .ok (.putfield 20, 3) := by decide +kernel
theorem d_Rips_prices_115 : decode prog_1_method_10_code 115 = .ok (.aload_n 0, 1) := by decide +kernel
theorem d_Rips_prices_116 : decode prog_1_method_10_code 116 = .ok (.getfield 42, 3) := by decide +kernel
theorem d_Rips_prices_119 : decode prog_1_method_10_code 119 = .ok (.aload_n 0, 1) := by decide +kernel
theorem d_Rips_prices_120 : decode prog_1_method_10_code 120 = .ok (.getfield 75, 3) := by decide +kernel
theorem d_Rips_prices_123 : decode prog_1_method_10_code 123 = .ok (.invokevirtual 210, 3) := by decide +kernel
theorem d_Rips_prices_126 : decode prog_1_method_10_code 126 = .ok (.ifCond .ne 38, 3) := by decide +kernel
theorem d_Rips_prices_129 : decode prog_1_method_10_code 129 = .ok (.iload_n 2, 1) := by decide +kernel
theorem d_Rips_prices_130 : decode prog_1_method_10_code 130 = .ok (.ifCond .eq 21, 3) := by decide +kernel
theorem d_Rips_prices_133 : decode prog_1_method_10_code 133 = .ok (.aload_n 0, 1) := by decide +kernel
theorem d_Rips_prices_134 : decode prog_1_method_10_code 134 = .ok (.getfield 75, 3) := by decide +kernel
theorem d_Rips_prices_137 : decode prog_1_method_10_code 137 = .ok (.getfield 184, 3) := by decide +kernel
theorem d_Rips_prices_140 : decode prog_1_method_10_code 140 = .ok (.aload_n 0, 1) := by decide +kernel
theorem d_Rips_prices_141 : decode prog_1_method_10_code 141 = .ok (.getfield 71, 3) := by decide +kernel
theorem d_Rips_prices_144 : decode prog_1_method_10_code 144 = .ok (.getfield 184, 3) := by decide +kernel
theorem d_Rips_prices_147 : decode prog_1_method_10_code 147 = .ok (.lcmp, 1) := by decide +kernel
theorem d_Rips_prices_148 : decode prog_1_method_10_code 148 = .ok (.ifCond .le 16, 3) := by decide +kernel
theorem d_Rips_prices_151 : decode prog_1_method_10_code 151 = .ok (.aload_n 0, 1) := by decide +kernel
theorem d_Rips_prices_152 : decode prog_1_method_10_code 152 = .ok (.getfield 71, 3) := by decide +kernel
theorem d_Rips_prices_155 : decode prog_1_method_10_code 155 = .ok (.aload_n 0, 1) := by decide +kernel
theorem d_Rips_prices_156 : decode prog_1_method_10_code 156 = .ok (.getfield 75, 3) := by decide +kernel
theorem d_Rips_prices_159 : decode prog_1_method_10_code 159 = .ok (.invokevirtual 214, 3) := by decide +kernel
theorem d_Rips_prices_162 : decode prog_1_method_10_code 162 = .ok (.iconst 1, 1) := by decide +kernel
theorem d_Rips_prices_163 : decode prog_1_method_10_code 163 = .ok (.istore_n 2, 1) := by decide +kernel
theorem d_Rips_prices_164 : decode prog_1_method_10_code 164 = .ok (.aload_n 0, 1) := by decide +kernel
theorem d_Rips_prices_165 : decode prog_1_method_10_code 165 = .ok (.getfield 42, 3) := by decide +kernel
theorem d_Rips_prices_168 : decode prog_1_method_10_code 168 = .ok (.aload_n 0, 1) := by decide +kernel
theorem d_Rips_prices_169 : decode prog_1_method_10_code 169 = .ok (.getfield 75, 3) := by decide +kernel
theorem d_Rips_prices_172 : decode prog_1_method_10_code 172 = .ok (.invokevirtual 218, 3) := by decide +kernel
theorem d_Rips_prices_175 : decode prog_1_method_10_code 175 = .ok (.istore_n 3, 1) := by decide +kernel
theorem d_Rips_prices_176 : decode prog_1_method_10_code 176 = .ok (.iinc 4 1, 3) := by decide +kernel
theorem d_Rips_prices_179 : decode prog_1_method_10_code 179 = .ok (.goto (-159), 3) := by decide +kernel
theorem d_Rips_prices_182 : decode prog_1_method_10_code 182 = .ok (.iload_n 2, 1) := by decide +kernel
theorem d_Rips_prices_183 : decode prog_1_method_10_code 183 = .ok (.ifCond .ne 25, 3) := by decide +kernel
theorem d_Rips_prices_186 : decode prog_1_method_10_code 186 = .ok (.aload_n 0, 1) := by decide +kernel
theorem d_Rips_prices_187 : decode prog_1_method_10_code 187 = .ok (.getfield 71, 3) := by decide +kernel
theorem d_Rips_prices_190 : decode prog_1_method_10_code 190 = .ok (.aload_n 0, 1) := by decide +kernel
theorem d_Rips_prices_191 : decode prog_1_method_10_code 191 = .ok (.getfield 75, 3) := by decide +kernel
theorem d_Rips_prices_194 : decode prog_1_method_10_code 194 = .ok (.invokevirtual 214, 3) := by decide +kernel
theorem d_Rips_prices_197 : decode prog_1_method_10_code 197 = .ok (.aload_n 0, 1) := by decide +kernel
theorem d_Rips_prices_198 : decode prog_1_method_10_code 198 = .ok (.getfield 71, 3) := by decide +kernel
theorem d_Rips_prices_201 : decode prog_1_method_10_code 201 = .ok (.aload_n 0, 1) := by decide +kernel
theorem d_Rips_prices_202 : decode prog_1_method_10_code 202 = .ok (.getfield 42, 3) := by decide +kernel
theorem d_Rips_prices_205 : decode prog_1_method_10_code 205 = .ok (.invokevirtual 221, 3) := by decide +kernel
theorem d_Rips_prices_208 : decode prog_1_method_10_code 208 = .ok (.aload_n 0, 1) := by decide +kernel
theorem d_Rips_prices_209 : decode prog_1_method_10_code 209 = .ok (.iconst 1, 1) := by decide +kernel
theorem d_Rips_prices_210 : decode prog_1_method_10_code 210 = .ok (.putfield 16, 3) := by decide +kernel
theorem d_Rips_prices_213 : decode prog_1_method_10_code 213 = .ok (.iload 4, 2) := by decide +kernel
theorem d_Rips_prices_215 : decode prog_1_method_10_code 215 = .ok (.ireturn, 1) := by decide +kernel
set_option maxRecDepth 50000 in
theorem cd_Rips_prices : Cond.code y_Rips_prices prog_1_method_10_code 7 (some .int) ∈ TB := mem_TB 696 rfl rfl
theorem im_Rips_prices : Cond.instanceMethod y_Rips_prices ∈ TB := mem_TB 694 (by decide +kernel) (by decide +kernel)
theorem sl_Rips_prices : Cond.selects R_Rips y_Rips_prices y_Rips_prices ∈ TB := mem_TB 695 (by decide +kernel) (by decide +kernel)
theorem hd_Rips_prices : y_Rips_prices.cls ≠ "java/lang/invoke/MethodHandle" ∧ y_Rips_prices.cls ≠ "java/lang/invoke/VarHandle" ∧ (parseMethodDescriptor y_Rips_prices.desc).map (fun d => d.parameters.length) = some 1 := by decide +kernel
def y_Rips_worth : MethodName := ⟨R_Rips, "worth", "()J"⟩
abbrev ws_Rips_worth : List Cond := .code y_Rips_worth prog_1_method_11_code 1 (some .long) :: TB
theorem d_Rips_worth_0 : decode prog_1_method_11_code 0 = .ok (.aload_n 0, 1) := by decide +kernel
theorem d_Rips_worth_1 : decode prog_1_method_11_code 1 = .ok (.invokevirtual 225, 3) := by decide +kernel
theorem d_Rips_worth_4 : decode prog_1_method_11_code 4 = .ok (.aload_n 0, 1) := by decide +kernel
theorem d_Rips_worth_5 : decode prog_1_method_11_code 5 = .ok (.getfield 71, 3) := by decide +kernel
theorem d_Rips_worth_8 : decode prog_1_method_11_code 8 = .ok (.getfield 184, 3) := by decide +kernel
theorem d_Rips_worth_11 : decode prog_1_method_11_code 11 = .ok (.lreturn, 1) := by decide +kernel
set_option maxRecDepth 50000 in
theorem cd_Rips_worth : Cond.code y_Rips_worth prog_1_method_11_code 1 (some .long) ∈ TB := mem_TB 745 rfl rfl
theorem im_Rips_worth : Cond.instanceMethod y_Rips_worth ∈ TB := mem_TB 743 (by decide +kernel) (by decide +kernel)
theorem sl_Rips_worth : Cond.selects R_Rips y_Rips_worth y_Rips_worth ∈ TB := mem_TB 744 (by decide +kernel) (by decide +kernel)
theorem hd_Rips_worth : y_Rips_worth.cls ≠ "java/lang/invoke/MethodHandle" ∧ y_Rips_worth.cls ≠ "java/lang/invoke/VarHandle" ∧ (parseMethodDescriptor y_Rips_worth.desc).map (fun d => d.parameters.length) = some 0 := by decide +kernel
def y_Rips_at : MethodName := ⟨R_Rips, "at", "(II)I"⟩
abbrev ws_Rips_at : List Cond := .code y_Rips_at prog_1_method_12_code 3 (some .int) :: TB
theorem d_Rips_at_0 : decode prog_1_method_12_code 0 = .ok (.aload_n 0, 1) := by decide +kernel
theorem d_Rips_at_1 : decode prog_1_method_12_code 1 = .ok (.invokevirtual 225, 3) := by decide +kernel
theorem d_Rips_at_4 : decode prog_1_method_12_code 4 = .ok (.iload_n 1, 1) := by decide +kernel
theorem d_Rips_at_5 : decode prog_1_method_12_code 5 = .ok (.aload_n 0, 1) := by decide +kernel
theorem d_Rips_at_6 : decode prog_1_method_12_code 6 = .ok (.getfield 71, 3) := by decide +kernel
theorem d_Rips_at_9 : decode prog_1_method_12_code 9 = .ok (.getfield 187, 3) := by decide +kernel
theorem d_Rips_at_12 : decode prog_1_method_12_code 12 = .ok (.invokestatic 228, 3) := by decide +kernel
theorem d_Rips_at_15 : decode prog_1_method_12_code 15 = .ok (.iload_n 2, 1) := by decide +kernel
theorem d_Rips_at_16 : decode prog_1_method_12_code 16 = .ok (.i2l, 1) := by decide +kernel
theorem d_Rips_at_17 : decode prog_1_method_12_code 17 = .ok (.lconst 0, 1) := by decide +kernel
theorem d_Rips_at_18 : decode prog_1_method_12_code 18 = .ok (.ldc2_w 231, 3) := by decide +kernel
theorem d_Rips_at_21 : decode prog_1_method_12_code 21 = .ok (.invokestatic 108, 3) := by decide +kernel
theorem d_Rips_at_24 : decode prog_1_method_12_code 24 = .ok (.iload_n 1, 1) := by decide +kernel
theorem d_Rips_at_25 : decode prog_1_method_12_code 25 = .ok (.iconst (-1), 1) := by decide +kernel
theorem d_Rips_at_26 : decode prog_1_method_12_code 26 = .ok (.if_icmp .ne 13, 3) := by decide +kernel
theorem d_Rips_at_29 : decode prog_1_method_12_code 29 = .ok (.aload_n 0, 1) := by decide +kernel
theorem d_Rips_at_30 : decode prog_1_method_12_code 30 = .ok (.getfield 71, 3) := by decide +kernel
theorem d_Rips_at_33 : decode prog_1_method_12_code 33 = .ok (.getfield 187, 3) := by decide +kernel
theorem d_Rips_at_36 : decode prog_1_method_12_code 36 = .ok (.goto 14, 3) := by decide +kernel
theorem d_Rips_at_39 : decode prog_1_method_12_code 39 = .ok (.aload_n 0, 1) := by decide +kernel
theorem d_Rips_at_40 : decode prog_1_method_12_code 40 = .ok (.getfield 71, 3) := by decide +kernel
theorem d_Rips_at_43 : decode prog_1_method_12_code 43 = .ok (.getfield 233, 3) := by decide +kernel
theorem d_Rips_at_46 : decode prog_1_method_12_code 46 = .ok (.iload_n 2, 1) := by decide +kernel
theorem d_Rips_at_47 : decode prog_1_method_12_code 47 = .ok (.aaload, 1) := by decide +kernel
theorem d_Rips_at_48 : decode prog_1_method_12_code 48 = .ok (.iload_n 1, 1) := by decide +kernel
theorem d_Rips_at_49 : decode prog_1_method_12_code 49 = .ok (.iaload, 1) := by decide +kernel
theorem d_Rips_at_50 : decode prog_1_method_12_code 50 = .ok (.ireturn, 1) := by decide +kernel
set_option maxRecDepth 50000 in
theorem cd_Rips_at : Cond.code y_Rips_at prog_1_method_12_code 3 (some .int) ∈ TB := mem_TB 757 rfl rfl
theorem im_Rips_at : Cond.instanceMethod y_Rips_at ∈ TB := mem_TB 755 (by decide +kernel) (by decide +kernel)
theorem sl_Rips_at : Cond.selects R_Rips y_Rips_at y_Rips_at ∈ TB := mem_TB 756 (by decide +kernel) (by decide +kernel)
theorem hd_Rips_at : y_Rips_at.cls ≠ "java/lang/invoke/MethodHandle" ∧ y_Rips_at.cls ≠ "java/lang/invoke/VarHandle" ∧ (parseMethodDescriptor y_Rips_at.desc).map (fun d => d.parameters.length) = some 2 := by decide +kernel
def y_Rips_clear2 : MethodName := ⟨R_Rips, "clear2", "(I)Z"⟩
abbrev ws_Rips_clear2 : List Cond := .code y_Rips_clear2 prog_1_method_13_code 6 (some .boolean) :: TB
theorem d_Rips_clear2_0 : decode prog_1_method_13_code 0 = .ok (.aload_n 0, 1) := by decide +kernel
theorem d_Rips_clear2_1 : decode prog_1_method_13_code 1 = .ok (.invokevirtual 225, 3) := by decide +kernel
theorem d_Rips_clear2_4 : decode prog_1_method_13_code 4 = .ok (.iload_n 1, 1) := by decide +kernel
theorem d_Rips_clear2_5 : decode prog_1_method_13_code 5 = .ok (.aload_n 0, 1) := by decide +kernel
theorem d_Rips_clear2_6 : decode prog_1_method_13_code 6 = .ok (.getfield 71, 3) := by decide +kernel
theorem d_Rips_clear2_9 : decode prog_1_method_13_code 9 = .ok (.getfield 187, 3) := by decide +kernel
theorem d_Rips_clear2_12 : decode prog_1_method_13_code 12 = .ok (.invokestatic 92, 3) := by decide +kernel
theorem d_Rips_clear2_15 : decode prog_1_method_13_code 15 = .ok (.aload_n 0, 1) := by decide +kernel
theorem d_Rips_clear2_16 : decode prog_1_method_13_code 16 = .ok (.getfield 71, 3) := by decide +kernel
theorem d_Rips_clear2_19 : decode prog_1_method_13_code 19 = .ok (.getfield 233, 3) := by decide +kernel
theorem d_Rips_clear2_22 : decode prog_1_method_13_code 22 = .ok (.iconst 0, 1) := by decide +kernel
theorem d_Rips_clear2_23 : decode prog_1_method_13_code 23 = .ok (.aaload, 1) := by decide +kernel
theorem d_Rips_clear2_24 : decode prog_1_method_13_code 24 = .ok (.iload_n 1, 1) := by decide +kernel
theorem d_Rips_clear2_25 : decode prog_1_method_13_code 25 = .ok (.iaload, 1) := by decide +kernel
theorem d_Rips_clear2_26 : decode prog_1_method_13_code 26 = .ok (.istore_n 2, 1) := by decide +kernel
theorem d_Rips_clear2_27 : decode prog_1_method_13_code 27 = .ok (.aload_n 0, 1) := by decide +kernel
theorem d_Rips_clear2_28 : decode prog_1_method_13_code 28 = .ok (.getfield 71, 3) := by decide +kernel
theorem d_Rips_clear2_31 : decode prog_1_method_13_code 31 = .ok (.getfield 233, 3) := by decide +kernel
theorem d_Rips_clear2_34 : decode prog_1_method_13_code 34 = .ok (.iconst 1, 1) := by decide +kernel
theorem d_Rips_clear2_35 : decode prog_1_method_13_code 35 = .ok (.aaload, 1) := by decide +kernel
theorem d_Rips_clear2_36 : decode prog_1_method_13_code 36 = .ok (.iload_n 1, 1) := by decide +kernel
theorem d_Rips_clear2_37 : decode prog_1_method_13_code 37 = .ok (.iaload, 1) := by decide +kernel
theorem d_Rips_clear2_38 : decode prog_1_method_13_code 38 = .ok (.istore_n 3, 1) := by decide +kernel
theorem d_Rips_clear2_39 : decode prog_1_method_13_code 39 = .ok (.iload_n 2, 1) := by decide +kernel
theorem d_Rips_clear2_40 : decode prog_1_method_13_code 40 = .ok (.iload_n 2, 1) := by decide +kernel
theorem d_Rips_clear2_41 : decode prog_1_method_13_code 41 = .ok (.aload_n 0, 1) := by decide +kernel
theorem d_Rips_clear2_42 : decode prog_1_method_13_code 42 = .ok (.getfield 71, 3) := by decide +kernel
theorem d_Rips_clear2_45 : decode prog_1_method_13_code 45 = .ok (.getfield 233, 3) := by decide +kernel
theorem d_Rips_clear2_48 : decode prog_1_method_13_code 48 = .ok (.iconst 2, 1) := by decide +kernel
theorem d_Rips_clear2_49 : decode prog_1_method_13_code 49 = .ok (.aaload, 1) := by decide +kernel
theorem d_Rips_clear2_50 : decode prog_1_method_13_code 50 = .ok (.iload_n 1, 1) := by decide +kernel
theorem d_Rips_clear2_51 : decode prog_1_method_13_code 51 = .ok (.iaload, 1) := by decide +kernel
theorem d_Rips_clear2_52 : decode prog_1_method_13_code 52 = .ok (.iadd, 1) := by decide +kernel
theorem d_Rips_clear2_53 : decode prog_1_method_13_code 53 = .ok (.invokestatic 237, 3) := by decide +kernel
theorem d_Rips_clear2_56 : decode prog_1_method_13_code 56 = .ok (.istore 4, 2) := by decide +kernel
theorem d_Rips_clear2_58 : decode prog_1_method_13_code 58 = .ok (.iload_n 3, 1) := by decide +kernel
theorem d_Rips_clear2_59 : decode prog_1_method_13_code 59 = .ok (.iload_n 3, 1) := by decide +kernel
theorem d_Rips_clear2_60 : decode prog_1_method_13_code 60 = .ok (.aload_n 0, 1) := by decide +kernel
theorem d_Rips_clear2_61 : decode prog_1_method_13_code 61 = .ok (.getfield 71, 3) := by decide +kernel
theorem d_Rips_clear2_64 : decode prog_1_method_13_code 64 = .ok (.getfield 233, 3) := by decide +kernel
theorem d_Rips_clear2_67 : decode prog_1_method_13_code 67 = .ok (.iconst 3, 1) := by decide +kernel
theorem d_Rips_clear2_68 : decode prog_1_method_13_code 68 = .ok (.aaload, 1) := by decide +kernel
theorem d_Rips_clear2_69 : decode prog_1_method_13_code 69 = .ok (.iload_n 1, 1) := by decide +kernel
theorem d_Rips_clear2_70 : decode prog_1_method_13_code 70 = .ok (.iaload, 1) := by decide +kernel
theorem d_Rips_clear2_71 : decode prog_1_method_13_code 71 = .ok (.iadd, 1) := by decide +kernel
theorem d_Rips_clear2_72 : decode prog_1_method_13_code 72 = .ok (.invokestatic 237, 3) := by decide +kernel
theorem d_Rips_clear2_75 : decode prog_1_method_13_code 75 = .ok (.istore 5, 2) := by decide +kernel
theorem d_Rips_clear2_77 : decode prog_1_method_13_code 77 = .ok (.aload_n 0, 1) := by decide +kernel
theorem d_Rips_clear2_78 : decode prog_1_method_13_code 78 = .ok (.getfield 33, 3) := by decide +kernel
theorem d_Rips_clear2_81 : decode prog_1_method_13_code 81 = .ok (.iload 4, 2) := by decide +kernel
theorem d_Rips_clear2_83 : decode prog_1_method_13_code 83 = .ok (.iload 5, 2) := by decide +kernel
theorem d_Rips_clear2_85 : decode prog_1_method_13_code 85 = .ok (.invokevirtual 240, 3) := by decide +kernel
theorem d_Rips_clear2_88 : decode prog_1_method_13_code 88 = .ok (.ifCond .ne 7, 3) := by decide +kernel
theorem d_Rips_clear2_91 : decode prog_1_method_13_code 91 = .ok (.iconst 1, 1) := by decide +kernel
theorem d_Rips_clear2_92 : decode prog_1_method_13_code 92 = .ok (.goto 4, 3) := by decide +kernel
theorem d_Rips_clear2_95 : decode prog_1_method_13_code 95 = .ok (.iconst 0, 1) := by decide +kernel
theorem d_Rips_clear2_96 : decode prog_1_method_13_code 96 = .ok (.ireturn, 1) := by decide +kernel
set_option maxRecDepth 50000 in
theorem cd_Rips_clear2 : Cond.code y_Rips_clear2 prog_1_method_13_code 6 (some .boolean) ∈ TB := mem_TB 768 rfl rfl
theorem im_Rips_clear2 : Cond.instanceMethod y_Rips_clear2 ∈ TB := mem_TB 766 (by decide +kernel) (by decide +kernel)
theorem sl_Rips_clear2 : Cond.selects R_Rips y_Rips_clear2 y_Rips_clear2 ∈ TB := mem_TB 767 (by decide +kernel) (by decide +kernel)
theorem hd_Rips_clear2 : y_Rips_clear2.cls ≠ "java/lang/invoke/MethodHandle" ∧ y_Rips_clear2.cls ≠ "java/lang/invoke/VarHandle" ∧ (parseMethodDescriptor y_Rips_clear2.desc).map (fun d => d.parameters.length) = some 1 := by decide +kernel
def y_Rips_bound : MethodName := ⟨R_Rips, "bound", "()J"⟩
abbrev ws_Rips_bound : List Cond := .code y_Rips_bound prog_1_method_14_code 1 (some .long) :: TB
theorem d_Rips_bound_0 : decode prog_1_method_14_code 0 = .ok (.aload_n 0, 1) := by decide +kernel
theorem d_Rips_bound_1 : decode prog_1_method_14_code 1 = .ok (.invokevirtual 225, 3) := by decide +kernel
theorem d_Rips_bound_4 : decode prog_1_method_14_code 4 = .ok (.aload_n 0, 1) := by decide +kernel
theorem d_Rips_bound_5 : decode prog_1_method_14_code 5 = .ok (.getfield 20, 3) := by decide +kernel
theorem d_Rips_bound_8 : decode prog_1_method_14_code 8 = .ok (.lreturn, 1) := by decide +kernel
set_option maxRecDepth 50000 in
theorem cd_Rips_bound : Cond.code y_Rips_bound prog_1_method_14_code 1 (some .long) ∈ TB := mem_TB 777 rfl rfl
theorem im_Rips_bound : Cond.instanceMethod y_Rips_bound ∈ TB := mem_TB 775 (by decide +kernel) (by decide +kernel)
theorem sl_Rips_bound : Cond.selects R_Rips y_Rips_bound y_Rips_bound ∈ TB := mem_TB 776 (by decide +kernel) (by decide +kernel)
theorem hd_Rips_bound : y_Rips_bound.cls ≠ "java/lang/invoke/MethodHandle" ∧ y_Rips_bound.cls ≠ "java/lang/invoke/VarHandle" ∧ (parseMethodDescriptor y_Rips_bound.desc).map (fun d => d.parameters.length) = some 0 := by decide +kernel
def y_Rips_price : MethodName := ⟨R_Rips, "price", "(II)J"⟩
abbrev ws_Rips_price : List Cond := .code y_Rips_price prog_1_method_15_code 3 (some .long) :: TB
theorem d_Rips_price_0 : decode prog_1_method_15_code 0 = .ok (.aload_n 0, 1) := by decide +kernel
theorem d_Rips_price_1 : decode prog_1_method_15_code 1 = .ok (.invokevirtual 225, 3) := by decide +kernel
theorem d_Rips_price_4 : decode prog_1_method_15_code 4 = .ok (.iload_n 1, 1) := by decide +kernel
theorem d_Rips_price_5 : decode prog_1_method_15_code 5 = .ok (.aload_n 0, 1) := by decide +kernel
theorem d_Rips_price_6 : decode prog_1_method_15_code 6 = .ok (.getfield 42, 3) := by decide +kernel
theorem d_Rips_price_9 : decode prog_1_method_15_code 9 = .ok (.getfield 125, 3) := by decide +kernel
theorem d_Rips_price_12 : decode prog_1_method_15_code 12 = .ok (.invokestatic 92, 3) := by decide +kernel
theorem d_Rips_price_15 : decode prog_1_method_15_code 15 = .ok (.iload_n 2, 1) := by decide +kernel
theorem d_Rips_price_16 : decode prog_1_method_15_code 16 = .ok (.iconst 3, 1) := by decide +kernel
theorem d_Rips_price_17 : decode prog_1_method_15_code 17 = .ok (.invokestatic 92, 3) := by decide +kernel
theorem d_Rips_price_20 : decode prog_1_method_15_code 20 = .ok (.iload_n 2, 1) := by decide +kernel
theorem d_Rips_price_21 : decode prog_1_method_15_code 21 = .ok (.ifCond .ne 16, 3) := by decide +kernel
theorem d_Rips_price_24 : decode prog_1_method_15_code 24 = .ok (.aload_n 0, 1) := by decide +kernel
theorem d_Rips_price_25 : decode prog_1_method_15_code 25 = .ok (.getfield 42, 3) := by decide +kernel
theorem d_Rips_price_28 : decode prog_1_method_15_code 28 = .ok (.getfield 144, 3) := by decide +kernel
theorem d_Rips_price_31 : decode prog_1_method_15_code 31 = .ok (.iload_n 1, 1) := by decide +kernel
theorem d_Rips_price_32 : decode prog_1_method_15_code 32 = .ok (.aaload, 1) := by decide +kernel
theorem d_Rips_price_33 : decode prog_1_method_15_code 33 = .ok (.getfield 243, 3) := by decide +kernel
theorem d_Rips_price_36 : decode prog_1_method_15_code 36 = .ok (.lreturn, 1) := by decide +kernel
theorem d_Rips_price_37 : decode prog_1_method_15_code 37 = .ok (.iload_n 2, 1) := by decide +kernel
theorem d_Rips_price_38 : decode prog_1_method_15_code 38 = .ok (.iconst 1, 1) := by decide +kernel
theorem d_Rips_price_39 : decode prog_1_method_15_code 39 = .ok (.if_icmp .ne 16, 3) := by decide +kernel
theorem d_Rips_price_42 : decode prog_1_method_15_code 42 = .ok (.aload_n 0, 1) := by decide +kernel
theorem d_Rips_price_43 : decode prog_1_method_15_code 43 = .ok (.getfield 71, 3) := by decide +kernel
theorem d_Rips_price_46 : decode prog_1_method_15_code 46 = .ok (.getfield 246, 3) := by decide +kernel
theorem d_Rips_price_49 : decode prog_1_method_15_code 49 = .ok (.iload_n 1, 1) := by decide +kernel
theorem d_Rips_price_50 : decode prog_1_method_15_code 50 = .ok (.iaload, 1) := by decide +kernel
theorem d_Rips_price_51 : decode prog_1_method_15_code 51 = .ok (.i2l, 1) := by decide +kernel
theorem d_Rips_price_52 : decode prog_1_method_15_code 52 = .ok (.goto 16, 3) := by decide +kernel
theorem d_Rips_price_55 : decode prog_1_method_15_code 55 = .ok (.aload_n 0, 1) := by decide +kernel
theorem d_Rips_price_56 : decode prog_1_method_15_code 56 = .ok (.getfield 42, 3) := by decide +kernel
theorem d_Rips_price_59 : decode prog_1_method_15_code 59 = .ok (.getfield 144, 3) := by decide +kernel
theorem d_Rips_price_62 : decode prog_1_method_15_code 62 = .ok (.iload_n 1, 1) := by decide +kernel
theorem d_Rips_price_63 : decode prog_1_method_15_code 63 = .ok (.aaload, 1) := by decide +kernel
theorem d_Rips_price_64 : decode prog_1_method_15_code 64 = .ok (.getfield 164, 3) := by decide +kernel
theorem d_Rips_price_67 : decode prog_1_method_15_code 67 = .ok (.i2l, 1) := by decide +kernel
theorem d_Rips_price_68 : decode prog_1_method_15_code 68 = .ok (.lreturn, 1) := by decide +kernel
set_option maxRecDepth 50000 in
theorem cd_Rips_price : Cond.code y_Rips_price prog_1_method_15_code 3 (some .long) ∈ TB := mem_TB 784 rfl rfl
theorem im_Rips_price : Cond.instanceMethod y_Rips_price ∈ TB := mem_TB 782 (by decide +kernel) (by decide +kernel)
theorem sl_Rips_price : Cond.selects R_Rips y_Rips_price y_Rips_price ∈ TB := mem_TB 783 (by decide +kernel) (by decide +kernel)
theorem hd_Rips_price : y_Rips_price.cls ≠ "java/lang/invoke/MethodHandle" ∧ y_Rips_price.cls ≠ "java/lang/invoke/VarHandle" ∧ (parseMethodDescriptor y_Rips_price.desc).map (fun d => d.parameters.length) = some 2 := by decide +kernel
def y_Rips_salvage : MethodName := ⟨R_Rips, "salvage", "(II)I"⟩
abbrev ws_Rips_salvage : List Cond := .code y_Rips_salvage prog_1_method_16_code 3 (some .int) :: TB
theorem d_Rips_salvage_0 : decode prog_1_method_16_code 0 = .ok (.aload_n 0, 1) := by decide +kernel
theorem d_Rips_salvage_1 : decode prog_1_method_16_code 1 = .ok (.invokevirtual 225, 3) := by decide +kernel
theorem d_Rips_salvage_4 : decode prog_1_method_16_code 4 = .ok (.aload_n 0, 1) := by decide +kernel
theorem d_Rips_salvage_5 : decode prog_1_method_16_code 5 = .ok (.getfield 81, 3) := by decide +kernel
theorem d_Rips_salvage_8 : decode prog_1_method_16_code 8 = .ok (.aload_n 0, 1) := by decide +kernel
theorem d_Rips_salvage_9 : decode prog_1_method_16_code 9 = .ok (.getfield 71, 3) := by decide +kernel
theorem d_Rips_salvage_12 : decode prog_1_method_16_code 12 = .ok (.invokevirtual 250, 3) := by decide +kernel
theorem d_Rips_salvage_15 : decode prog_1_method_16_code 15 = .ok (.iload_n 1, 1) := by decide +kernel
theorem d_Rips_salvage_16 : decode prog_1_method_16_code 16 = .ok (.aload_n 0, 1) := by decide +kernel
theorem d_Rips_salvage_17 : decode prog_1_method_16_code 17 = .ok (.getfield 81, 3) := by decide +kernel
theorem d_Rips_salvage_20 : decode prog_1_method_16_code 20 = .ok (.getfield 253, 3) := by decide +kernel
theorem d_Rips_salvage_23 : decode prog_1_method_16_code 23 = .ok (.invokestatic 228, 3) := by decide +kernel
theorem d_Rips_salvage_26 : decode prog_1_method_16_code 26 = .ok (.iload_n 2, 1) := by decide +kernel
theorem d_Rips_salvage_27 : decode prog_1_method_16_code 27 = .ok (.i2l, 1) := by decide +kernel
theorem d_Rips_salvage_28 : decode prog_1_method_16_code 28 = .ok (.lconst 0, 1) := by decide +kernel
theorem d_Rips_salvage_29 : decode prog_1_method_16_code 29 = .ok (.ldc2_w 254, 3) := by decide +kernel
theorem d_Rips_salvage_32 : decode prog_1_method_16_code 32 = .ok (.invokestatic 108, 3) := by decide +kernel
theorem d_Rips_salvage_35 : decode prog_1_method_16_code 35 = .ok (.iload_n 1, 1) := by decide +kernel
theorem d_Rips_salvage_36 : decode prog_1_method_16_code 36 = .ok (.iconst (-1), 1) := by decide +kernel
theorem d_Rips_salvage_37 : decode prog_1_method_16_code 37 = .ok (.if_icmp .ne 13, 3) := by decide +kernel
theorem d_Rips_salvage_40 : decode prog_1_method_16_code 40 = .ok (.aload_n 0, 1) := by decide +kernel
theorem d_Rips_salvage_41 : decode prog_1_method_16_code 41 = .ok (.getfield 81, 3) := by decide +kernel
theorem d_Rips_salvage_44 : decode prog_1_method_16_code 44 = .ok (.getfield 253, 3) := by decide +kernel
theorem d_Rips_salvage_47 : decode prog_1_method_16_code 47 = .ok (.goto 14, 3) := by decide +kernel
theorem d_Rips_salvage_50 : decode prog_1_method_16_code 50 = .ok (.aload_n 0, 1) := by decide +kernel
theorem d_Rips_salvage_51 : decode prog_1_method_16_code 51 = .ok (.getfield 81, 3) := by decide +kernel
theorem d_Rips_salvage_54 : decode prog_1_method_16_code 54 = .ok (.getfield 256, 3) := by decide +kernel
theorem d_Rips_salvage_57 : decode prog_1_method_16_code 57 = .ok (.iload_n 2, 1) := by decide +kernel
theorem d_Rips_salvage_58 : decode prog_1_method_16_code 58 = .ok (.aaload, 1) := by decide +kernel
theorem d_Rips_salvage_59 : decode prog_1_method_16_code 59 = .ok (.iload_n 1, 1) := by decide +kernel
theorem d_Rips_salvage_60 : decode prog_1_method_16_code 60 = .ok (.iaload, 1) := by decide +kernel
theorem d_Rips_salvage_61 : decode prog_1_method_16_code 61 = .ok (.ireturn, 1) := by decide +kernel
set_option maxRecDepth 50000 in
theorem cd_Rips_salvage : Cond.code y_Rips_salvage prog_1_method_16_code 3 (some .int) ∈ TB := mem_TB 791 rfl rfl
theorem im_Rips_salvage : Cond.instanceMethod y_Rips_salvage ∈ TB := mem_TB 789 (by decide +kernel) (by decide +kernel)
theorem sl_Rips_salvage : Cond.selects R_Rips y_Rips_salvage y_Rips_salvage ∈ TB := mem_TB 790 (by decide +kernel) (by decide +kernel)
theorem hd_Rips_salvage : y_Rips_salvage.cls ≠ "java/lang/invoke/MethodHandle" ∧ y_Rips_salvage.cls ≠ "java/lang/invoke/VarHandle" ∧ (parseMethodDescriptor y_Rips_salvage.desc).map (fun d => d.parameters.length) = some 2 := by decide +kernel
def y_Rips_panel : MethodName := ⟨R_Rips, "panel", "(II)I"⟩
abbrev ws_Rips_panel : List Cond := .code y_Rips_panel prog_1_method_17_code 3 (some .int) :: TB
theorem d_Rips_panel_0 : decode prog_1_method_17_code 0 = .ok (.aload_n 0, 1) := by decide +kernel
theorem d_Rips_panel_1 : decode prog_1_method_17_code 1 = .ok (.invokevirtual 225, 3) := by decide +kernel
theorem d_Rips_panel_4 : decode prog_1_method_17_code 4 = .ok (.iload_n 1, 1) := by decide +kernel
theorem d_Rips_panel_5 : decode prog_1_method_17_code 5 = .ok (.i2l, 1) := by decide +kernel
theorem d_Rips_panel_6 : decode prog_1_method_17_code 6 = .ok (.lconst 1, 1) := by decide +kernel
theorem d_Rips_panel_7 : decode prog_1_method_17_code 7 = .ok (.ldc2_w 257, 3) := by decide +kernel
theorem d_Rips_panel_10 : decode prog_1_method_17_code 10 = .ok (.invokestatic 108, 3) := by decide +kernel
theorem d_Rips_panel_13 : decode prog_1_method_17_code 13 = .ok (.iload_n 2, 1) := by decide +kernel
theorem d_Rips_panel_14 : decode prog_1_method_17_code 14 = .ok (.i2l, 1) := by decide +kernel
theorem d_Rips_panel_15 : decode prog_1_method_17_code 15 = .ok (.lconst 0, 1) := by decide +kernel
theorem d_Rips_panel_16 : decode prog_1_method_17_code 16 = .ok (.ldc2_w 261, 3) := by decide +kernel
theorem d_Rips_panel_19 : decode prog_1_method_17_code 19 = .ok (.invokestatic 108, 3) := by decide +kernel
theorem d_Rips_panel_22 : decode prog_1_method_17_code 22 = .ok (.aload_n 0, 1) := by decide +kernel
theorem d_Rips_panel_23 : decode prog_1_method_17_code 23 = .ok (.getfield 88, 3) := by decide +kernel
theorem d_Rips_panel_26 : decode prog_1_method_17_code 26 = .ok (.aload_n 0, 1) := by decide +kernel
theorem d_Rips_panel_27 : decode prog_1_method_17_code 27 = .ok (.getfield 71, 3) := by decide +kernel
theorem d_Rips_panel_30 : decode prog_1_method_17_code 30 = .ok (.iload_n 1, 1) := by decide +kernel
theorem d_Rips_panel_31 : decode prog_1_method_17_code 31 = .ok (.iload_n 2, 1) := by decide +kernel
theorem d_Rips_panel_32 : decode prog_1_method_17_code 32 = .ok (.invokevirtual 263, 3) := by decide +kernel
theorem d_Rips_panel_35 : decode prog_1_method_17_code 35 = .ok (.ireturn, 1) := by decide +kernel
set_option maxRecDepth 50000 in
theorem cd_Rips_panel : Cond.code y_Rips_panel prog_1_method_17_code 3 (some .int) ∈ TB := mem_TB 816 rfl rfl
theorem im_Rips_panel : Cond.instanceMethod y_Rips_panel ∈ TB := mem_TB 814 (by decide +kernel) (by decide +kernel)
theorem sl_Rips_panel : Cond.selects R_Rips y_Rips_panel y_Rips_panel ∈ TB := mem_TB 815 (by decide +kernel) (by decide +kernel)
theorem hd_Rips_panel : y_Rips_panel.cls ≠ "java/lang/invoke/MethodHandle" ∧ y_Rips_panel.cls ≠ "java/lang/invoke/VarHandle" ∧ (parseMethodDescriptor y_Rips_panel.desc).map (fun d => d.parameters.length) = some 2 := by decide +kernel
def y_Rips_greatest : MethodName := ⟨R_Rips, "greatest", "()Z"⟩
abbrev ws_Rips_greatest : List Cond := .code y_Rips_greatest prog_1_method_18_code 1 (some .boolean) :: TB
theorem d_Rips_greatest_0 : decode prog_1_method_18_code 0 = .ok (.aload_n 0, 1) := by decide +kernel
theorem d_Rips_greatest_1 : decode prog_1_method_18_code 1 = .ok (.invokevirtual 225, 3) := by decide +kernel
theorem d_Rips_greatest_4 : decode prog_1_method_18_code 4 = .ok (.aload_n 0, 1) := by decide +kernel
theorem d_Rips_greatest_5 : decode prog_1_method_18_code 5 = .ok (.getfield 71, 3) := by decide +kernel
theorem d_Rips_greatest_8 : decode prog_1_method_18_code 8 = .ok (.getfield 184, 3) := by decide +kernel
theorem d_Rips_greatest_11 : decode prog_1_method_18_code 11 = .ok (.aload_n 0, 1) := by decide +kernel
theorem d_Rips_greatest_12 : decode prog_1_method_18_code 12 = .ok (.getfield 20, 3) := by decide +kernel
theorem d_Rips_greatest_15 : decode prog_1_method_18_code 15 = .ok (.lcmp, 1) := by decide +kernel
theorem d_Rips_greatest_16 : decode prog_1_method_18_code 16 = .ok (.ifCond .ne 7, 3) := by decide +kernel
theorem d_Rips_greatest_19 : decode prog_1_method_18_code 19 = .ok (.iconst 1, 1) := by decide +kernel
theorem d_Rips_greatest_20 : decode prog_1_method_18_code 20 = .ok (.goto 4, 3) := by decide +kernel
theorem d_Rips_greatest_23 : decode prog_1_method_18_code 23 = .ok (.iconst 0, 1) := by decide +kernel
theorem d_Rips_greatest_24 : decode prog_1_method_18_code 24 = .ok (.ireturn, 1) := by decide +kernel
set_option maxRecDepth 50000 in
theorem cd_Rips_greatest : Cond.code y_Rips_greatest prog_1_method_18_code 1 (some .boolean) ∈ TB := mem_TB 838 rfl rfl
theorem im_Rips_greatest : Cond.instanceMethod y_Rips_greatest ∈ TB := mem_TB 836 (by decide +kernel) (by decide +kernel)
theorem sl_Rips_greatest : Cond.selects R_Rips y_Rips_greatest y_Rips_greatest ∈ TB := mem_TB 837 (by decide +kernel) (by decide +kernel)
theorem hd_Rips_greatest : y_Rips_greatest.cls ≠ "java/lang/invoke/MethodHandle" ∧ y_Rips_greatest.cls ≠ "java/lang/invoke/VarHandle" ∧ (parseMethodDescriptor y_Rips_greatest.desc).map (fun d => d.parameters.length) = some 0 := by decide +kernel
def y_Rips_makeReady : MethodName := ⟨R_Rips, "makeReady", "()V"⟩
abbrev ws_Rips_makeReady : List Cond := .code y_Rips_makeReady prog_1_method_19_code 1 none :: TB
theorem d_Rips_makeReady_0 : decode prog_1_method_19_code 0 = .ok (.aload_n 0, 1) := by decide +kernel
theorem d_Rips_makeReady_1 : decode prog_1_method_19_code 1 = .ok (.getfield 33, 3) := by decide +kernel
theorem d_Rips_makeReady_4 : decode prog_1_method_19_code 4 = .ok (.invokevirtual 267, 3) := by decide +kernel
theorem d_Rips_makeReady_7 : decode prog_1_method_19_code 7 = .ok (.aload_n 0, 1) := by decide +kernel
theorem d_Rips_makeReady_8 : decode prog_1_method_19_code 8 = .ok (.getfield 42, 3) := by decide +kernel
theorem d_Rips_makeReady_11 : decode prog_1_method_19_code 11 = .ok (.invokevirtual 270, 3) := by decide +kernel
theorem d_Rips_makeReady_14 : decode prog_1_method_19_code 14 = .ok (.return_, 1) := by decide +kernel
set_option maxRecDepth 50000 in
theorem cd_Rips_makeReady : Cond.code y_Rips_makeReady prog_1_method_19_code 1 none ∈ TB := mem_TB 557 rfl rfl
theorem im_Rips_makeReady : Cond.instanceMethod y_Rips_makeReady ∈ TB := mem_TB 556 (by decide +kernel) (by decide +kernel)
theorem sl_Rips_makeReady : Cond.selects R_Rips y_Rips_makeReady y_Rips_makeReady ∈ TB := mem_TBs (by decide +kernel) (by decide +kernel)
theorem hd_Rips_makeReady : y_Rips_makeReady.cls ≠ "java/lang/invoke/MethodHandle" ∧ y_Rips_makeReady.cls ≠ "java/lang/invoke/VarHandle" ∧ (parseMethodDescriptor y_Rips_makeReady.desc).map (fun d => d.parameters.length) = some 0 := by decide +kernel
def y_Rips_checkPlanned : MethodName := ⟨R_Rips, "checkPlanned", "()V"⟩
abbrev ws_Rips_checkPlanned : List Cond := .code y_Rips_checkPlanned prog_1_method_20_code 1 none :: TB
theorem d_Rips_checkPlanned_0 : decode prog_1_method_20_code 0 = .ok (.aload_n 0, 1) := by decide +kernel
theorem d_Rips_checkPlanned_1 : decode prog_1_method_20_code 1 = .ok (.getfield 16, 3) := by decide +kernel
theorem d_Rips_checkPlanned_4 : decode prog_1_method_20_code 4 = .ok (.ifCond .ne 14, 3) := by decide +kernel
theorem d_Rips_checkPlanned_7 : decode prog_1_method_20_code 7 = .ok (.new 99, 3) := by decide +kernel
theorem d_Rips_checkPlanned_10 : decode prog_1_method_20_code 10 = .ok (.dup, 1) := by decide +kernel
theorem d_Rips_checkPlanned_11 : decode prog_1_method_20_code 11 = .ok (.ldc_w 271, 3) := by decide +kernel
theorem d_Rips_checkPlanned_14 : decode prog_1_method_20_code 14 = .ok (.invokespecial 103, 3) := by decide +kernel
theorem d_Rips_checkPlanned_17 : decode prog_1_method_20_code 17 = .ok (.athrow, 1) := by decide +kernel
theorem d_Rips_checkPlanned_18 : decode prog_1_method_20_code 18 = .ok (.return_, 1) := by decide +kernel
set_option maxRecDepth 50000 in
theorem cd_Rips_checkPlanned : Cond.code y_Rips_checkPlanned prog_1_method_20_code 1 none ∈ TB := mem_TB 749 rfl rfl
theorem im_Rips_checkPlanned : Cond.instanceMethod y_Rips_checkPlanned ∈ TB := mem_TB 748 (by decide +kernel) (by decide +kernel)
theorem sl_Rips_checkPlanned : Cond.selects R_Rips y_Rips_checkPlanned y_Rips_checkPlanned ∈ TB := mem_TBs (by decide +kernel) (by decide +kernel)
theorem hd_Rips_checkPlanned : y_Rips_checkPlanned.cls ≠ "java/lang/invoke/MethodHandle" ∧ y_Rips_checkPlanned.cls ≠ "java/lang/invoke/VarHandle" ∧ (parseMethodDescriptor y_Rips_checkPlanned.desc).map (fun d => d.parameters.length) = some 0 := by decide +kernel
def y_Rips_checkIndex : MethodName := ⟨R_Rips, "checkIndex", "(II)V"⟩
abbrev ws_Rips_checkIndex : List Cond := .code y_Rips_checkIndex prog_1_method_21_code 2 none :: TB
theorem d_Rips_checkIndex_0 : decode prog_1_method_21_code 0 = .ok (.iload_n 0, 1) := by decide +kernel
theorem d_Rips_checkIndex_1 : decode prog_1_method_21_code 1 = .ok (.ifCond .lt 8, 3) := by decide +kernel
theorem d_Rips_checkIndex_4 : decode prog_1_method_21_code 4 = .ok (.iload_n 0, 1) := by decide +kernel
theorem d_Rips_checkIndex_5 : decode prog_1_method_21_code 5 = .ok (.iload_n 1, 1) := by decide +kernel
theorem d_Rips_checkIndex_6 : decode prog_1_method_21_code 6 = .ok (.if_icmp .lt 14, 3) := by decide +kernel
theorem d_Rips_checkIndex_9 : decode prog_1_method_21_code 9 = .ok (.new 273, 3) := by decide +kernel
theorem d_Rips_checkIndex_12 : decode prog_1_method_21_code 12 = .ok (.dup, 1) := by decide +kernel
theorem d_Rips_checkIndex_13 : decode prog_1_method_21_code 13 = .ok (.ldc_w 275, 3) := by decide +kernel
theorem d_Rips_checkIndex_16 : decode prog_1_method_21_code 16 = .ok (.invokespecial 277, 3) := by decide +kernel
theorem d_Rips_checkIndex_19 : decode prog_1_method_21_code 19 = .ok (.athrow, 1) := by decide +kernel
theorem d_Rips_checkIndex_20 : decode prog_1_method_21_code 20 = .ok (.return_, 1) := by decide +kernel
set_option maxRecDepth 50000 in
theorem cd_Rips_checkIndex : Cond.code y_Rips_checkIndex prog_1_method_21_code 2 none ∈ TB := mem_TB 292 rfl rfl
theorem st_Rips_checkIndex : Cond.static y_Rips_checkIndex ∈ TB := mem_TB 291 (by decide +kernel) (by decide +kernel)
theorem hd_Rips_checkIndex : y_Rips_checkIndex.cls ≠ "java/lang/invoke/MethodHandle" ∧ y_Rips_checkIndex.cls ≠ "java/lang/invoke/VarHandle" ∧ (parseMethodDescriptor y_Rips_checkIndex.desc).map (fun d => d.parameters.length) = some 2 := by decide +kernel
def y_Rips_checkIndexOrNone : MethodName := ⟨R_Rips, "checkIndexOrNone", "(II)V"⟩
abbrev ws_Rips_checkIndexOrNone : List Cond := .code y_Rips_checkIndexOrNone prog_1_method_22_code 2 none :: TB
theorem d_Rips_checkIndexOrNone_0 : decode prog_1_method_22_code 0 = .ok (.iload_n 0, 1) := by decide +kernel
theorem d_Rips_checkIndexOrNone_1 : decode prog_1_method_22_code 1 = .ok (.iconst (-1), 1) := by decide +kernel
theorem d_Rips_checkIndexOrNone_2 : decode prog_1_method_22_code 2 = .ok (.if_icmp .eq 8, 3) := by decide +kernel
theorem d_Rips_checkIndexOrNone_5 : decode prog_1_method_22_code 5 = .ok (.iload_n 0, 1) := by decide +kernel
theorem d_Rips_checkIndexOrNone_6 : decode prog_1_method_22_code 6 = .ok (.iload_n 1, 1) := by decide +kernel
theorem d_Rips_checkIndexOrNone_7 : decode prog_1_method_22_code 7 = .ok (.invokestatic 92, 3) := by decide +kernel
theorem d_Rips_checkIndexOrNone_10 : decode prog_1_method_22_code 10 = .ok (.return_, 1) := by decide +kernel
set_option maxRecDepth 50000 in
theorem cd_Rips_checkIndexOrNone : Cond.code y_Rips_checkIndexOrNone prog_1_method_22_code 2 none ∈ TB := mem_TB 760 rfl rfl
theorem st_Rips_checkIndexOrNone : Cond.static y_Rips_checkIndexOrNone ∈ TB := mem_TB 759 (by decide +kernel) (by decide +kernel)
theorem hd_Rips_checkIndexOrNone : y_Rips_checkIndexOrNone.cls ≠ "java/lang/invoke/MethodHandle" ∧ y_Rips_checkIndexOrNone.cls ≠ "java/lang/invoke/VarHandle" ∧ (parseMethodDescriptor y_Rips_checkIndexOrNone.desc).map (fun d => d.parameters.length) = some 2 := by decide +kernel
def y_Rips_checkRange : MethodName := ⟨R_Rips, "checkRange", "(JJJ)V"⟩
abbrev ws_Rips_checkRange : List Cond := .code y_Rips_checkRange prog_1_method_23_code 6 none :: TB
theorem d_Rips_checkRange_0 : decode prog_1_method_23_code 0 = .ok (.lload_n 0, 1) := by decide +kernel
theorem d_Rips_checkRange_1 : decode prog_1_method_23_code 1 = .ok (.lload_n 2, 1) := by decide +kernel
theorem d_Rips_checkRange_2 : decode prog_1_method_23_code 2 = .ok (.lcmp, 1) := by decide +kernel
theorem d_Rips_checkRange_3 : decode prog_1_method_23_code 3 = .ok (.ifCond .lt 10, 3) := by decide +kernel
theorem d_Rips_checkRange_6 : decode prog_1_method_23_code 6 = .ok (.lload_n 0, 1) := by decide +kernel
theorem d_Rips_checkRange_7 : decode prog_1_method_23_code 7 = .ok (.lload 4, 2) := by decide +kernel
theorem d_Rips_checkRange_9 : decode prog_1_method_23_code 9 = .ok (.lcmp, 1) := by decide +kernel
theorem d_Rips_checkRange_10 : decode prog_1_method_23_code 10 = .ok (.ifCond .le 14, 3) := by decide +kernel
theorem d_Rips_checkRange_13 : decode prog_1_method_23_code 13 = .ok (.new 278, 3) := by decide +kernel
theorem d_Rips_checkRange_16 : decode prog_1_method_23_code 16 = .ok (.dup, 1) := by decide +kernel
theorem d_Rips_checkRange_17 : decode prog_1_method_23_code 17 = .ok (.ldc_w 280, 3) := by decide +kernel
theorem d_Rips_checkRange_20 : decode prog_1_method_23_code 20 = .ok (.invokespecial 282, 3) := by decide +kernel
theorem d_Rips_checkRange_23 : decode prog_1_method_23_code 23 = .ok (.athrow, 1) := by decide +kernel
theorem d_Rips_checkRange_24 : decode prog_1_method_23_code 24 = .ok (.return_, 1) := by decide +kernel
set_option maxRecDepth 50000 in
theorem cd_Rips_checkRange : Cond.code y_Rips_checkRange prog_1_method_23_code 6 none ∈ TB := mem_TB 380 rfl rfl
theorem st_Rips_checkRange : Cond.static y_Rips_checkRange ∈ TB := mem_TB 379 (by decide +kernel) (by decide +kernel)
theorem hd_Rips_checkRange : y_Rips_checkRange.cls ≠ "java/lang/invoke/MethodHandle" ∧ y_Rips_checkRange.cls ≠ "java/lang/invoke/VarHandle" ∧ (parseMethodDescriptor y_Rips_checkRange.desc).map (fun d => d.parameters.length) = some 3 := by decide +kernel
def y_Rips_nearestPart : MethodName := ⟨R_Rips, "nearestPart", "(I)I"⟩
abbrev ws_Rips_nearestPart : List Cond := .code y_Rips_nearestPart prog_1_method_24_code 1 (some .int) :: TB
theorem d_Rips_nearestPart_0 : decode prog_1_method_24_code 0 = .ok (.iconst 1, 1) := by decide +kernel
theorem d_Rips_nearestPart_1 : decode prog_1_method_24_code 1 = .ok (.ldc_w 283, 3) := by decide +kernel
theorem d_Rips_nearestPart_4 : decode prog_1_method_24_code 4 = .ok (.iload_n 0, 1) := by decide +kernel
theorem d_Rips_nearestPart_5 : decode prog_1_method_24_code 5 = .ok (.invokestatic 284, 3) := by decide +kernel
theorem d_Rips_nearestPart_8 : decode prog_1_method_24_code 8 = .ok (.invokestatic 192, 3) := by decide +kernel
theorem d_Rips_nearestPart_11 : decode prog_1_method_24_code 11 = .ok (.ireturn, 1) := by decide +kernel
set_option maxRecDepth 50000 in
theorem cd_Rips_nearestPart : Cond.code y_Rips_nearestPart prog_1_method_24_code 1 (some .int) ∈ TB := mem_TB 32 rfl rfl
theorem st_Rips_nearestPart : Cond.static y_Rips_nearestPart ∈ TB := mem_TB 31 (by decide +kernel) (by decide +kernel)
theorem hd_Rips_nearestPart : y_Rips_nearestPart.cls ≠ "java/lang/invoke/MethodHandle" ∧ y_Rips_nearestPart.cls ≠ "java/lang/invoke/VarHandle" ∧ (parseMethodDescriptor y_Rips_nearestPart.desc).map (fun d => d.parameters.length) = some 1 := by decide +kernel
def y_Rips_spanOf : MethodName := ⟨R_Rips, "spanOf", "(II)I"⟩
abbrev ws_Rips_spanOf : List Cond := .code y_Rips_spanOf prog_1_method_25_code 2 (some .int) :: TB
theorem d_Rips_spanOf_0 : decode prog_1_method_25_code 0 = .ok (.iload_n 1, 1) := by decide +kernel
theorem d_Rips_spanOf_1 : decode prog_1_method_25_code 1 = .ok (.iload_n 1, 1) := by decide +kernel
theorem d_Rips_spanOf_2 : decode prog_1_method_25_code 2 = .ok (.iconst 1, 1) := by decide +kernel
theorem d_Rips_spanOf_3 : decode prog_1_method_25_code 3 = .ok (.isub, 1) := by decide +kernel
theorem d_Rips_spanOf_4 : decode prog_1_method_25_code 4 = .ok (.imul, 1) := by decide +kernel
theorem d_Rips_spanOf_5 : decode prog_1_method_25_code 5 = .ok (.iconst 2, 1) := by decide +kernel
theorem d_Rips_spanOf_6 : decode prog_1_method_25_code 6 = .ok (.idiv, 1) := by decide +kernel
theorem d_Rips_spanOf_7 : decode prog_1_method_25_code 7 = .ok (.iload_n 0, 1) := by decide +kernel
theorem d_Rips_spanOf_8 : decode prog_1_method_25_code 8 = .ok (.iadd, 1) := by decide +kernel
theorem d_Rips_spanOf_9 : decode prog_1_method_25_code 9 = .ok (.ireturn, 1) := by decide +kernel
set_option maxRecDepth 50000 in
theorem cd_Rips_spanOf : Cond.code y_Rips_spanOf prog_1_method_25_code 2 (some .int) ∈ TB := mem_TB 572 rfl rfl
theorem st_Rips_spanOf : Cond.static y_Rips_spanOf ∈ TB := mem_TB 571 (by decide +kernel) (by decide +kernel)
theorem hd_Rips_spanOf : y_Rips_spanOf.cls ≠ "java/lang/invoke/MethodHandle" ∧ y_Rips_spanOf.cls ≠ "java/lang/invoke/VarHandle" ∧ (parseMethodDescriptor y_Rips_spanOf.desc).map (fun d => d.parameters.length) = some 2 := by decide +kernel
def y_Rips_spansOf : MethodName := ⟨R_Rips, "spansOf", "(I)I"⟩
abbrev ws_Rips_spansOf : List Cond := .code y_Rips_spansOf prog_1_method_26_code 1 (some .int) :: TB
theorem d_Rips_spansOf_0 : decode prog_1_method_26_code 0 = .ok (.iload_n 0, 1) := by decide +kernel
theorem d_Rips_spansOf_1 : decode prog_1_method_26_code 1 = .ok (.iload_n 0, 1) := by decide +kernel
theorem d_Rips_spansOf_2 : decode prog_1_method_26_code 2 = .ok (.iconst 1, 1) := by decide +kernel
theorem d_Rips_spansOf_3 : decode prog_1_method_26_code 3 = .ok (.iadd, 1) := by decide +kernel
theorem d_Rips_spansOf_4 : decode prog_1_method_26_code 4 = .ok (.imul, 1) := by decide +kernel
theorem d_Rips_spansOf_5 : decode prog_1_method_26_code 5 = .ok (.iconst 2, 1) := by decide +kernel
theorem d_Rips_spansOf_6 : decode prog_1_method_26_code 6 = .ok (.idiv, 1) := by decide +kernel
theorem d_Rips_spansOf_7 : decode prog_1_method_26_code 7 = .ok (.ireturn, 1) := by decide +kernel
set_option maxRecDepth 50000 in
theorem cd_Rips_spansOf : Cond.code y_Rips_spansOf prog_1_method_26_code 1 (some .int) ∈ TB := mem_TB 50 rfl rfl
theorem st_Rips_spansOf : Cond.static y_Rips_spansOf ∈ TB := mem_TB 49 (by decide +kernel) (by decide +kernel)
theorem hd_Rips_spansOf : y_Rips_spansOf.cls ≠ "java/lang/invoke/MethodHandle" ∧ y_Rips_spansOf.cls ≠ "java/lang/invoke/VarHandle" ∧ (parseMethodDescriptor y_Rips_spansOf.desc).map (fun d => d.parameters.length) = some 1 := by decide +kernel
def y_Arrays_fillI : MethodName := ⟨R_Arrays, "fill", "([II)V"⟩
abbrev ws_Arrays_fillI : List Cond := .code y_Arrays_fillI prog_21_method_103_code 4 none :: TB
theorem d_Arrays_fillI_0 : decode prog_21_method_103_code 0 = .ok (.iconst 0, 1) := by decide +kernel
theorem d_Arrays_fillI_1 : decode prog_21_method_103_code 1 = .ok (.istore_n 2, 1) := by decide +kernel
theorem d_Arrays_fillI_2 : decode prog_21_method_103_code 2 = .ok (.aload_n 0, 1) := by decide +kernel
theorem d_Arrays_fillI_3 : decode prog_21_method_103_code 3 = .ok (.arraylength, 1) := by decide +kernel
theorem d_Arrays_fillI_4 : decode prog_21_method_103_code 4 = .ok (.istore_n 3, 1) := by decide +kernel
theorem d_Arrays_fillI_5 : decode prog_21_method_103_code 5 = .ok (.iload_n 2, 1) := by decide +kernel
theorem d_Arrays_fillI_6 : decode prog_21_method_103_code 6 = .ok (.iload_n 3, 1) := by decide +kernel
theorem d_Arrays_fillI_7 : decode prog_21_method_103_code 7 = .ok (.if_icmp .ge 13, 3) := by decide +kernel
theorem d_Arrays_fillI_10 : decode prog_21_method_103_code 10 = .ok (.aload_n 0, 1) := by decide +kernel
theorem d_Arrays_fillI_11 : decode prog_21_method_103_code 11 = .ok (.iload_n 2, 1) := by decide +kernel
theorem d_Arrays_fillI_12 : decode prog_21_method_103_code 12 = .ok (.iload_n 1, 1) := by decide +kernel
theorem d_Arrays_fillI_13 : decode prog_21_method_103_code 13 = .ok (.iastore, 1) := by decide +kernel
theorem d_Arrays_fillI_14 : decode prog_21_method_103_code 14 = .ok (.iinc 2 1, 3) := by decide +kernel
theorem d_Arrays_fillI_17 : decode prog_21_method_103_code 17 = .ok (.goto (-12), 3) := by decide +kernel
theorem d_Arrays_fillI_20 : decode prog_21_method_103_code 20 = .ok (.return_, 1) := by decide +kernel
set_option maxRecDepth 50000 in
theorem cd_Arrays_fillI : Cond.code y_Arrays_fillI prog_21_method_103_code 4 none ∈ TB := mem_TB 602 rfl rfl
theorem st_Arrays_fillI : Cond.static y_Arrays_fillI ∈ TB := mem_TB 601 (by decide +kernel) (by decide +kernel)
theorem hd_Arrays_fillI : y_Arrays_fillI.cls ≠ "java/lang/invoke/MethodHandle" ∧ y_Arrays_fillI.cls ≠ "java/lang/invoke/VarHandle" ∧ (parseMethodDescriptor y_Arrays_fillI.desc).map (fun d => d.parameters.length) = some 2 := by decide +kernel
def y_Arrays_fillJ : MethodName := ⟨R_Arrays, "fill", "([JJ)V"⟩
abbrev ws_Arrays_fillJ : List Cond := .code y_Arrays_fillJ prog_21_method_101_code 5 none :: TB
theorem d_Arrays_fillJ_0 : decode prog_21_method_101_code 0 = .ok (.iconst 0, 1) := by decide +kernel
theorem d_Arrays_fillJ_1 : decode prog_21_method_101_code 1 = .ok (.istore_n 3, 1) := by decide +kernel
theorem d_Arrays_fillJ_2 : decode prog_21_method_101_code 2 = .ok (.aload_n 0, 1) := by decide +kernel
theorem d_Arrays_fillJ_3 : decode prog_21_method_101_code 3 = .ok (.arraylength, 1) := by decide +kernel
theorem d_Arrays_fillJ_4 : decode prog_21_method_101_code 4 = .ok (.istore 4, 2) := by decide +kernel
theorem d_Arrays_fillJ_6 : decode prog_21_method_101_code 6 = .ok (.iload_n 3, 1) := by decide +kernel
theorem d_Arrays_fillJ_7 : decode prog_21_method_101_code 7 = .ok (.iload 4, 2) := by decide +kernel
theorem d_Arrays_fillJ_9 : decode prog_21_method_101_code 9 = .ok (.if_icmp .ge 13, 3) := by decide +kernel
theorem d_Arrays_fillJ_12 : decode prog_21_method_101_code 12 = .ok (.aload_n 0, 1) := by decide +kernel
theorem d_Arrays_fillJ_13 : decode prog_21_method_101_code 13 = .ok (.iload_n 3, 1) := by decide +kernel
theorem d_Arrays_fillJ_14 : decode prog_21_method_101_code 14 = .ok (.lload_n 1, 1) := by decide +kernel
theorem d_Arrays_fillJ_15 : decode prog_21_method_101_code 15 = .ok (.lastore, 1) := by decide +kernel
theorem d_Arrays_fillJ_16 : decode prog_21_method_101_code 16 = .ok (.iinc 3 1, 3) := by decide +kernel
theorem d_Arrays_fillJ_19 : decode prog_21_method_101_code 19 = .ok (.goto (-13), 3) := by decide +kernel
theorem d_Arrays_fillJ_22 : decode prog_21_method_101_code 22 = .ok (.return_, 1) := by decide +kernel
set_option maxRecDepth 50000 in
theorem cd_Arrays_fillJ : Cond.code y_Arrays_fillJ prog_21_method_101_code 5 none ∈ TB := mem_TB 622 rfl rfl
theorem st_Arrays_fillJ : Cond.static y_Arrays_fillJ ∈ TB := mem_TB 621 (by decide +kernel) (by decide +kernel)
theorem hd_Arrays_fillJ : y_Arrays_fillJ.cls ≠ "java/lang/invoke/MethodHandle" ∧ y_Arrays_fillJ.cls ≠ "java/lang/invoke/VarHandle" ∧ (parseMethodDescriptor y_Arrays_fillJ.desc).map (fun d => d.parameters.length) = some 2 := by decide +kernel
