def RL : String := "SelfkindleLaw"
abbrev cL_number : ByteArray := method_3_code
def yL_number : MethodName := ⟨RL, "number", "(LSelfkindle;J[J)I"⟩
abbrev cL_name : ByteArray := method_4_code
def yL_name : MethodName := ⟨RL, "name", "(LSelfkindle;I[J)I"⟩
abbrev cL_function : ByteArray := method_5_code
def yL_function : MethodName := ⟨RL, "function", "(LSelfkindle;I[J)I"⟩
abbrev cL_call : ByteArray := method_6_code
def yL_call : MethodName := ⟨RL, "call", "(LSelfkindle;[J)I"⟩
abbrev cL_two : ByteArray := method_7_code
def yL_two : MethodName := ⟨RL, "two", "(LSelfkindle;I[J)I"⟩
abbrev cL_choose : ByteArray := method_8_code
def yL_choose : MethodName := ⟨RL, "choose", "(LSelfkindle;[J)I"⟩
abbrev cL_let : ByteArray := method_9_code
def yL_let : MethodName := ⟨RL, "let", "(LSelfkindle;I[J)I"⟩
abbrev cL_rec : ByteArray := method_10_code
def yL_rec : MethodName := ⟨RL, "rec", "(LSelfkindle;II[J)I"⟩
abbrev cL_pair : ByteArray := method_11_code
def yL_pair : MethodName := ⟨RL, "pair", "(LSelfkindle;[J)I"⟩
abbrev cL_half : ByteArray := method_12_code
def yL_half : MethodName := ⟨RL, "half", "(LSelfkindle;Z[J)I"⟩
abbrev cL_raise : ByteArray := method_13_code
def yL_raise : MethodName := ⟨RL, "raise", "(LSelfkindle;[J)I"⟩
abbrev cL_handle : ByteArray := method_14_code
def yL_handle : MethodName := ⟨RL, "handle", "(LSelfkindle;I[J)I"⟩
abbrev cL_program : ByteArray := method_15_code
def yL_program : MethodName := ⟨RL, "program", "(LSelfkindle;[J)I"⟩
abbrev cL_fault : ByteArray := method_16_code
def yL_fault : MethodName := ⟨RL, "fault", "(LSelfkindle;[J)I"⟩
abbrev cL_type : ByteArray := method_17_code
def yL_type : MethodName := ⟨RL, "type", "(LSelfkindle;I[J)I"⟩
abbrev cL_optimise : ByteArray := method_18_code
def yL_optimise : MethodName := ⟨RL, "optimise", "(LSelfkindle;I[J)I"⟩
abbrev cL_orders : ByteArray := method_19_code
def yL_orders : MethodName := ⟨RL, "orders", "(LSelfkindle;[J)I"⟩
abbrev cL_order : ByteArray := method_20_code
def yL_order : MethodName := ⟨RL, "order", "(LSelfkindle;II[J)I"⟩
abbrev cL_stop : ByteArray := method_21_code
def yL_stop : MethodName := ⟨RL, "stop", "(LSelfkindle;IZ[J)I"⟩
abbrev cL_go : ByteArray := method_22_code
def yL_go : MethodName := ⟨RL, "go", "(LSelfkindle;I[J)I"⟩
abbrev cL_again : ByteArray := method_23_code
def yL_again : MethodName := ⟨RL, "again", "(LSelfkindle;)I"⟩
abbrev cL_state : ByteArray := method_24_code
def yL_state : MethodName := ⟨RL, "state", "(LSelfkindle;[J)I"⟩
abbrev cL_value : ByteArray := method_25_code
def yL_value : MethodName := ⟨RL, "value", "(LSelfkindle;[J)I"⟩
abbrev cL_machine : ByteArray := method_26_code
def yL_machine : MethodName := ⟨RL, "machine", "(LSelfkindle;I[J)I"⟩
abbrev cL_stateAnew : ByteArray := method_27_code
def yL_stateAnew : MethodName := ⟨RL, "stateAnew", "(LSelfkindle;[J)I"⟩
abbrev cL_valueAnew : ByteArray := method_28_code
def yL_valueAnew : MethodName := ⟨RL, "valueAnew", "(LSelfkindle;[J)I"⟩
theorem dL_number_0 : decode cL_number 0 = .ok (.aload_n 3, 1) := by decide +kernel
theorem dL_number_1 : decode cL_number 1 = .ok (.iconst 0, 1) := by decide +kernel
theorem dL_number_2 : decode cL_number 2 = .ok (.aload_n 0, 1) := by decide +kernel
theorem dL_number_3 : decode cL_number 3 = .ok (.lload_n 1, 1) := by decide +kernel
theorem dL_number_4 : decode cL_number 4 = .ok (.invokevirtual 7, 3) := by decide +kernel
theorem dL_number_7 : decode cL_number 7 = .ok (.i2l, 1) := by decide +kernel
theorem dL_number_8 : decode cL_number 8 = .ok (.lastore, 1) := by decide +kernel
theorem dL_number_9 : decode cL_number 9 = .ok (.goto 7, 3) := by decide +kernel
theorem dL_number_16 : decode cL_number 16 = .ok (.iconst 0, 1) := by decide +kernel
theorem dL_number_17 : decode cL_number 17 = .ok (.ireturn, 1) := by decide +kernel
theorem dL_name_0 : decode cL_name 0 = .ok (.aload_n 2, 1) := by decide +kernel
theorem dL_name_1 : decode cL_name 1 = .ok (.iconst 0, 1) := by decide +kernel
theorem dL_name_2 : decode cL_name 2 = .ok (.aload_n 0, 1) := by decide +kernel
theorem dL_name_3 : decode cL_name 3 = .ok (.iload_n 1, 1) := by decide +kernel
theorem dL_name_4 : decode cL_name 4 = .ok (.invokevirtual 15, 3) := by decide +kernel
theorem dL_name_7 : decode cL_name 7 = .ok (.i2l, 1) := by decide +kernel
theorem dL_name_8 : decode cL_name 8 = .ok (.lastore, 1) := by decide +kernel
theorem dL_name_9 : decode cL_name 9 = .ok (.goto 9, 3) := by decide +kernel
theorem dL_name_12 : decode cL_name 12 = .ok (.astore_n 3, 1) := by decide +kernel
theorem dL_name_13 : decode cL_name 13 = .ok (.iconst 1, 1) := by decide +kernel
theorem dL_name_14 : decode cL_name 14 = .ok (.ireturn, 1) := by decide +kernel
theorem dL_name_18 : decode cL_name 18 = .ok (.iconst 0, 1) := by decide +kernel
theorem dL_name_19 : decode cL_name 19 = .ok (.ireturn, 1) := by decide +kernel
theorem dL_function_0 : decode cL_function 0 = .ok (.aload_n 2, 1) := by decide +kernel
theorem dL_function_1 : decode cL_function 1 = .ok (.iconst 0, 1) := by decide +kernel
theorem dL_function_2 : decode cL_function 2 = .ok (.aload_n 0, 1) := by decide +kernel
theorem dL_function_3 : decode cL_function 3 = .ok (.iload_n 1, 1) := by decide +kernel
theorem dL_function_4 : decode cL_function 4 = .ok (.invokevirtual 21, 3) := by decide +kernel
theorem dL_function_12 : decode cL_function 12 = .ok (.astore_n 3, 1) := by decide +kernel
theorem dL_function_13 : decode cL_function 13 = .ok (.iconst 1, 1) := by decide +kernel
theorem dL_function_14 : decode cL_function 14 = .ok (.ireturn, 1) := by decide +kernel
theorem dL_function_15 : decode cL_function 15 = .ok (.astore_n 3, 1) := by decide +kernel
theorem dL_function_16 : decode cL_function 16 = .ok (.iconst 2, 1) := by decide +kernel
theorem dL_function_17 : decode cL_function 17 = .ok (.ireturn, 1) := by decide +kernel
theorem dL_call_0 : decode cL_call 0 = .ok (.aload_n 1, 1) := by decide +kernel
theorem dL_call_1 : decode cL_call 1 = .ok (.iconst 0, 1) := by decide +kernel
theorem dL_call_2 : decode cL_call 2 = .ok (.aload_n 0, 1) := by decide +kernel
theorem dL_call_3 : decode cL_call 3 = .ok (.invokevirtual 24, 3) := by decide +kernel
theorem dL_call_11 : decode cL_call 11 = .ok (.astore_n 2, 1) := by decide +kernel
theorem dL_call_12 : decode cL_call 12 = .ok (.iconst 1, 1) := by decide +kernel
theorem dL_call_13 : decode cL_call 13 = .ok (.ireturn, 1) := by decide +kernel
theorem dL_two_0 : decode cL_two 0 = .ok (.aload_n 2, 1) := by decide +kernel
theorem dL_two_1 : decode cL_two 1 = .ok (.iconst 0, 1) := by decide +kernel
theorem dL_two_2 : decode cL_two 2 = .ok (.aload_n 0, 1) := by decide +kernel
theorem dL_two_3 : decode cL_two 3 = .ok (.iload_n 1, 1) := by decide +kernel
theorem dL_two_4 : decode cL_two 4 = .ok (.invokevirtual 28, 3) := by decide +kernel
theorem dL_two_12 : decode cL_two 12 = .ok (.astore_n 3, 1) := by decide +kernel
theorem dL_two_13 : decode cL_two 13 = .ok (.iconst 1, 1) := by decide +kernel
theorem dL_two_14 : decode cL_two 14 = .ok (.ireturn, 1) := by decide +kernel
theorem dL_two_15 : decode cL_two 15 = .ok (.astore_n 3, 1) := by decide +kernel
theorem dL_two_16 : decode cL_two 16 = .ok (.iconst 2, 1) := by decide +kernel
theorem dL_two_17 : decode cL_two 17 = .ok (.ireturn, 1) := by decide +kernel
theorem dL_choose_0 : decode cL_choose 0 = .ok (.aload_n 1, 1) := by decide +kernel
theorem dL_choose_1 : decode cL_choose 1 = .ok (.iconst 0, 1) := by decide +kernel
theorem dL_choose_2 : decode cL_choose 2 = .ok (.aload_n 0, 1) := by decide +kernel
theorem dL_choose_3 : decode cL_choose 3 = .ok (.invokevirtual 33, 3) := by decide +kernel
theorem dL_choose_11 : decode cL_choose 11 = .ok (.astore_n 2, 1) := by decide +kernel
theorem dL_choose_12 : decode cL_choose 12 = .ok (.iconst 1, 1) := by decide +kernel
theorem dL_choose_13 : decode cL_choose 13 = .ok (.ireturn, 1) := by decide +kernel
theorem dL_let_0 : decode cL_let 0 = .ok (.aload_n 2, 1) := by decide +kernel
theorem dL_let_1 : decode cL_let 1 = .ok (.iconst 0, 1) := by decide +kernel
theorem dL_let_2 : decode cL_let 2 = .ok (.aload_n 0, 1) := by decide +kernel
theorem dL_let_3 : decode cL_let 3 = .ok (.iload_n 1, 1) := by decide +kernel
theorem dL_let_4 : decode cL_let 4 = .ok (.invokevirtual 36, 3) := by decide +kernel
theorem dL_let_12 : decode cL_let 12 = .ok (.astore_n 3, 1) := by decide +kernel
theorem dL_let_13 : decode cL_let 13 = .ok (.iconst 1, 1) := by decide +kernel
theorem dL_let_14 : decode cL_let 14 = .ok (.ireturn, 1) := by decide +kernel
theorem dL_let_15 : decode cL_let 15 = .ok (.astore_n 3, 1) := by decide +kernel
theorem dL_let_16 : decode cL_let 16 = .ok (.iconst 2, 1) := by decide +kernel
theorem dL_let_17 : decode cL_let 17 = .ok (.ireturn, 1) := by decide +kernel
theorem dL_rec_0 : decode cL_rec 0 = .ok (.aload_n 3, 1) := by decide +kernel
theorem dL_rec_1 : decode cL_rec 1 = .ok (.iconst 0, 1) := by decide +kernel
theorem dL_rec_2 : decode cL_rec 2 = .ok (.aload_n 0, 1) := by decide +kernel
theorem dL_rec_3 : decode cL_rec 3 = .ok (.iload_n 1, 1) := by decide +kernel
theorem dL_rec_4 : decode cL_rec 4 = .ok (.iload_n 2, 1) := by decide +kernel
theorem dL_rec_5 : decode cL_rec 5 = .ok (.invokevirtual 39, 3) := by decide +kernel
theorem dL_rec_13 : decode cL_rec 13 = .ok (.astore 4, 2) := by decide +kernel
theorem dL_rec_15 : decode cL_rec 15 = .ok (.iconst 1, 1) := by decide +kernel
theorem dL_rec_16 : decode cL_rec 16 = .ok (.ireturn, 1) := by decide +kernel
theorem dL_rec_17 : decode cL_rec 17 = .ok (.astore 4, 2) := by decide +kernel
theorem dL_rec_19 : decode cL_rec 19 = .ok (.iconst 2, 1) := by decide +kernel
theorem dL_rec_20 : decode cL_rec 20 = .ok (.ireturn, 1) := by decide +kernel
theorem dL_pair_0 : decode cL_pair 0 = .ok (.aload_n 1, 1) := by decide +kernel
theorem dL_pair_1 : decode cL_pair 1 = .ok (.iconst 0, 1) := by decide +kernel
theorem dL_pair_2 : decode cL_pair 2 = .ok (.aload_n 0, 1) := by decide +kernel
theorem dL_pair_3 : decode cL_pair 3 = .ok (.invokevirtual 43, 3) := by decide +kernel
theorem dL_pair_11 : decode cL_pair 11 = .ok (.astore_n 2, 1) := by decide +kernel
theorem dL_pair_12 : decode cL_pair 12 = .ok (.iconst 1, 1) := by decide +kernel
theorem dL_pair_13 : decode cL_pair 13 = .ok (.ireturn, 1) := by decide +kernel
theorem dL_half_0 : decode cL_half 0 = .ok (.aload_n 2, 1) := by decide +kernel
theorem dL_half_1 : decode cL_half 1 = .ok (.iconst 0, 1) := by decide +kernel
theorem dL_half_2 : decode cL_half 2 = .ok (.aload_n 0, 1) := by decide +kernel
theorem dL_half_3 : decode cL_half 3 = .ok (.iload_n 1, 1) := by decide +kernel
theorem dL_half_4 : decode cL_half 4 = .ok (.invokevirtual 46, 3) := by decide +kernel
theorem dL_half_12 : decode cL_half 12 = .ok (.astore_n 3, 1) := by decide +kernel
theorem dL_half_13 : decode cL_half 13 = .ok (.iconst 1, 1) := by decide +kernel
theorem dL_half_14 : decode cL_half 14 = .ok (.ireturn, 1) := by decide +kernel
theorem dL_raise_0 : decode cL_raise 0 = .ok (.aload_n 1, 1) := by decide +kernel
theorem dL_raise_1 : decode cL_raise 1 = .ok (.iconst 0, 1) := by decide +kernel
theorem dL_raise_2 : decode cL_raise 2 = .ok (.aload_n 0, 1) := by decide +kernel
theorem dL_raise_3 : decode cL_raise 3 = .ok (.invokevirtual 50, 3) := by decide +kernel
theorem dL_raise_11 : decode cL_raise 11 = .ok (.astore_n 2, 1) := by decide +kernel
theorem dL_raise_12 : decode cL_raise 12 = .ok (.iconst 1, 1) := by decide +kernel
theorem dL_raise_13 : decode cL_raise 13 = .ok (.ireturn, 1) := by decide +kernel
theorem dL_handle_0 : decode cL_handle 0 = .ok (.aload_n 2, 1) := by decide +kernel
theorem dL_handle_1 : decode cL_handle 1 = .ok (.iconst 0, 1) := by decide +kernel
theorem dL_handle_2 : decode cL_handle 2 = .ok (.aload_n 0, 1) := by decide +kernel
theorem dL_handle_3 : decode cL_handle 3 = .ok (.iload_n 1, 1) := by decide +kernel
theorem dL_handle_4 : decode cL_handle 4 = .ok (.invokevirtual 53, 3) := by decide +kernel
theorem dL_handle_12 : decode cL_handle 12 = .ok (.astore_n 3, 1) := by decide +kernel
theorem dL_handle_13 : decode cL_handle 13 = .ok (.iconst 1, 1) := by decide +kernel
theorem dL_handle_14 : decode cL_handle 14 = .ok (.ireturn, 1) := by decide +kernel
theorem dL_handle_15 : decode cL_handle 15 = .ok (.astore_n 3, 1) := by decide +kernel
theorem dL_handle_16 : decode cL_handle 16 = .ok (.iconst 2, 1) := by decide +kernel
theorem dL_handle_17 : decode cL_handle 17 = .ok (.ireturn, 1) := by decide +kernel
theorem dL_program_0 : decode cL_program 0 = .ok (.aload_n 1, 1) := by decide +kernel
theorem dL_program_1 : decode cL_program 1 = .ok (.iconst 0, 1) := by decide +kernel
theorem dL_program_2 : decode cL_program 2 = .ok (.aload_n 0, 1) := by decide +kernel
theorem dL_program_3 : decode cL_program 3 = .ok (.invokevirtual 56, 3) := by decide +kernel
theorem dL_program_11 : decode cL_program 11 = .ok (.astore_n 2, 1) := by decide +kernel
theorem dL_program_12 : decode cL_program 12 = .ok (.iconst 1, 1) := by decide +kernel
theorem dL_program_13 : decode cL_program 13 = .ok (.ireturn, 1) := by decide +kernel
theorem dL_fault_0 : decode cL_fault 0 = .ok (.aload_n 1, 1) := by decide +kernel
theorem dL_fault_1 : decode cL_fault 1 = .ok (.iconst 0, 1) := by decide +kernel
theorem dL_fault_2 : decode cL_fault 2 = .ok (.aload_n 0, 1) := by decide +kernel
theorem dL_fault_3 : decode cL_fault 3 = .ok (.invokevirtual 59, 3) := by decide +kernel
theorem dL_fault_11 : decode cL_fault 11 = .ok (.astore_n 2, 1) := by decide +kernel
theorem dL_fault_12 : decode cL_fault 12 = .ok (.iconst 1, 1) := by decide +kernel
theorem dL_fault_13 : decode cL_fault 13 = .ok (.ireturn, 1) := by decide +kernel
theorem dL_type_0 : decode cL_type 0 = .ok (.aload_n 2, 1) := by decide +kernel
theorem dL_type_1 : decode cL_type 1 = .ok (.iconst 0, 1) := by decide +kernel
theorem dL_type_2 : decode cL_type 2 = .ok (.aload_n 0, 1) := by decide +kernel
theorem dL_type_3 : decode cL_type 3 = .ok (.iload_n 1, 1) := by decide +kernel
theorem dL_type_4 : decode cL_type 4 = .ok (.invokevirtual 62, 3) := by decide +kernel
theorem dL_type_12 : decode cL_type 12 = .ok (.astore_n 3, 1) := by decide +kernel
theorem dL_type_13 : decode cL_type 13 = .ok (.iconst 1, 1) := by decide +kernel
theorem dL_type_14 : decode cL_type 14 = .ok (.ireturn, 1) := by decide +kernel
theorem dL_type_15 : decode cL_type 15 = .ok (.astore_n 3, 1) := by decide +kernel
theorem dL_type_16 : decode cL_type 16 = .ok (.iconst 2, 1) := by decide +kernel
theorem dL_type_17 : decode cL_type 17 = .ok (.ireturn, 1) := by decide +kernel
theorem dL_optimise_0 : decode cL_optimise 0 = .ok (.aload_n 2, 1) := by decide +kernel
theorem dL_optimise_1 : decode cL_optimise 1 = .ok (.iconst 0, 1) := by decide +kernel
theorem dL_optimise_2 : decode cL_optimise 2 = .ok (.aload_n 0, 1) := by decide +kernel
theorem dL_optimise_3 : decode cL_optimise 3 = .ok (.iload_n 1, 1) := by decide +kernel
theorem dL_optimise_4 : decode cL_optimise 4 = .ok (.invokevirtual 65, 3) := by decide +kernel
theorem dL_optimise_12 : decode cL_optimise 12 = .ok (.astore_n 3, 1) := by decide +kernel
theorem dL_optimise_13 : decode cL_optimise 13 = .ok (.iconst 1, 1) := by decide +kernel
theorem dL_optimise_14 : decode cL_optimise 14 = .ok (.ireturn, 1) := by decide +kernel
theorem dL_optimise_15 : decode cL_optimise 15 = .ok (.astore_n 3, 1) := by decide +kernel
theorem dL_optimise_16 : decode cL_optimise 16 = .ok (.iconst 2, 1) := by decide +kernel
theorem dL_optimise_17 : decode cL_optimise 17 = .ok (.ireturn, 1) := by decide +kernel
theorem dL_orders_0 : decode cL_orders 0 = .ok (.aload_n 1, 1) := by decide +kernel
theorem dL_orders_1 : decode cL_orders 1 = .ok (.iconst 0, 1) := by decide +kernel
theorem dL_orders_2 : decode cL_orders 2 = .ok (.aload_n 0, 1) := by decide +kernel
theorem dL_orders_3 : decode cL_orders 3 = .ok (.invokevirtual 68, 3) := by decide +kernel
theorem dL_orders_11 : decode cL_orders 11 = .ok (.astore_n 2, 1) := by decide +kernel
theorem dL_orders_12 : decode cL_orders 12 = .ok (.iconst 1, 1) := by decide +kernel
theorem dL_orders_13 : decode cL_orders 13 = .ok (.ireturn, 1) := by decide +kernel
theorem dL_order_0 : decode cL_order 0 = .ok (.aload_n 3, 1) := by decide +kernel
theorem dL_order_1 : decode cL_order 1 = .ok (.iconst 0, 1) := by decide +kernel
theorem dL_order_2 : decode cL_order 2 = .ok (.aload_n 0, 1) := by decide +kernel
theorem dL_order_3 : decode cL_order 3 = .ok (.iload_n 1, 1) := by decide +kernel
theorem dL_order_4 : decode cL_order 4 = .ok (.iload_n 2, 1) := by decide +kernel
theorem dL_order_5 : decode cL_order 5 = .ok (.invokevirtual 71, 3) := by decide +kernel
theorem dL_order_12 : decode cL_order 12 = .ok (.astore 4, 2) := by decide +kernel
theorem dL_order_14 : decode cL_order 14 = .ok (.iconst 1, 1) := by decide +kernel
theorem dL_order_15 : decode cL_order 15 = .ok (.ireturn, 1) := by decide +kernel
theorem dL_stop_0 : decode cL_stop 0 = .ok (.aload_n 3, 1) := by decide +kernel
theorem dL_stop_1 : decode cL_stop 1 = .ok (.iconst 0, 1) := by decide +kernel
theorem dL_stop_2 : decode cL_stop 2 = .ok (.aload_n 0, 1) := by decide +kernel
theorem dL_stop_3 : decode cL_stop 3 = .ok (.iload_n 1, 1) := by decide +kernel
theorem dL_stop_4 : decode cL_stop 4 = .ok (.iload_n 2, 1) := by decide +kernel
theorem dL_stop_5 : decode cL_stop 5 = .ok (.invokevirtual 75, 3) := by decide +kernel
theorem dL_stop_20 : decode cL_stop 20 = .ok (.astore 4, 2) := by decide +kernel
theorem dL_stop_22 : decode cL_stop 22 = .ok (.iconst 1, 1) := by decide +kernel
theorem dL_stop_23 : decode cL_stop 23 = .ok (.ireturn, 1) := by decide +kernel
theorem dL_go_0 : decode cL_go 0 = .ok (.aload_n 2, 1) := by decide +kernel
theorem dL_go_1 : decode cL_go 1 = .ok (.iconst 0, 1) := by decide +kernel
theorem dL_go_2 : decode cL_go 2 = .ok (.aload_n 0, 1) := by decide +kernel
theorem dL_go_3 : decode cL_go 3 = .ok (.iload_n 1, 1) := by decide +kernel
theorem dL_go_4 : decode cL_go 4 = .ok (.invokevirtual 79, 3) := by decide +kernel
theorem dL_go_12 : decode cL_go 12 = .ok (.astore_n 3, 1) := by decide +kernel
theorem dL_go_13 : decode cL_go 13 = .ok (.iconst 1, 1) := by decide +kernel
theorem dL_go_14 : decode cL_go 14 = .ok (.ireturn, 1) := by decide +kernel
theorem dL_go_15 : decode cL_go 15 = .ok (.astore_n 3, 1) := by decide +kernel
theorem dL_go_16 : decode cL_go 16 = .ok (.iconst 2, 1) := by decide +kernel
theorem dL_go_17 : decode cL_go 17 = .ok (.ireturn, 1) := by decide +kernel
theorem dL_again_0 : decode cL_again 0 = .ok (.aload_n 0, 1) := by decide +kernel
theorem dL_again_1 : decode cL_again 1 = .ok (.invokevirtual 82, 3) := by decide +kernel
theorem dL_again_7 : decode cL_again 7 = .ok (.astore_n 1, 1) := by decide +kernel
theorem dL_again_8 : decode cL_again 8 = .ok (.iconst 1, 1) := by decide +kernel
theorem dL_again_9 : decode cL_again 9 = .ok (.ireturn, 1) := by decide +kernel
theorem dL_state_0 : decode cL_state 0 = .ok (.aload_n 1, 1) := by decide +kernel
theorem dL_state_1 : decode cL_state 1 = .ok (.iconst 0, 1) := by decide +kernel
theorem dL_state_2 : decode cL_state 2 = .ok (.aload_n 0, 1) := by decide +kernel
theorem dL_state_3 : decode cL_state 3 = .ok (.invokevirtual 85, 3) := by decide +kernel
theorem dL_state_11 : decode cL_state 11 = .ok (.astore_n 2, 1) := by decide +kernel
theorem dL_state_12 : decode cL_state 12 = .ok (.iconst 1, 1) := by decide +kernel
theorem dL_state_13 : decode cL_state 13 = .ok (.ireturn, 1) := by decide +kernel
theorem dL_value_0 : decode cL_value 0 = .ok (.aload_n 1, 1) := by decide +kernel
theorem dL_value_1 : decode cL_value 1 = .ok (.iconst 0, 1) := by decide +kernel
theorem dL_value_2 : decode cL_value 2 = .ok (.aload_n 0, 1) := by decide +kernel
theorem dL_value_3 : decode cL_value 3 = .ok (.invokevirtual 88, 3) := by decide +kernel
theorem dL_value_10 : decode cL_value 10 = .ok (.astore_n 2, 1) := by decide +kernel
theorem dL_value_11 : decode cL_value 11 = .ok (.iconst 1, 1) := by decide +kernel
theorem dL_value_12 : decode cL_value 12 = .ok (.ireturn, 1) := by decide +kernel
theorem dL_machine_0 : decode cL_machine 0 = .ok (.aload_n 2, 1) := by decide +kernel
theorem dL_machine_1 : decode cL_machine 1 = .ok (.iconst 0, 1) := by decide +kernel
theorem dL_machine_2 : decode cL_machine 2 = .ok (.aload_n 0, 1) := by decide +kernel
theorem dL_machine_3 : decode cL_machine 3 = .ok (.iload_n 1, 1) := by decide +kernel
theorem dL_machine_4 : decode cL_machine 4 = .ok (.invokevirtual 92, 3) := by decide +kernel
theorem dL_machine_12 : decode cL_machine 12 = .ok (.astore_n 3, 1) := by decide +kernel
theorem dL_machine_13 : decode cL_machine 13 = .ok (.iconst 1, 1) := by decide +kernel
theorem dL_machine_14 : decode cL_machine 14 = .ok (.ireturn, 1) := by decide +kernel
theorem dL_machine_15 : decode cL_machine 15 = .ok (.astore_n 3, 1) := by decide +kernel
theorem dL_machine_16 : decode cL_machine 16 = .ok (.iconst 2, 1) := by decide +kernel
theorem dL_machine_17 : decode cL_machine 17 = .ok (.ireturn, 1) := by decide +kernel
theorem dL_stateAnew_0 : decode cL_stateAnew 0 = .ok (.aload_n 1, 1) := by decide +kernel
theorem dL_stateAnew_1 : decode cL_stateAnew 1 = .ok (.iconst 0, 1) := by decide +kernel
theorem dL_stateAnew_2 : decode cL_stateAnew 2 = .ok (.aload_n 0, 1) := by decide +kernel
theorem dL_stateAnew_3 : decode cL_stateAnew 3 = .ok (.invokevirtual 95, 3) := by decide +kernel
theorem dL_stateAnew_11 : decode cL_stateAnew 11 = .ok (.astore_n 2, 1) := by decide +kernel
theorem dL_stateAnew_12 : decode cL_stateAnew 12 = .ok (.iconst 1, 1) := by decide +kernel
theorem dL_stateAnew_13 : decode cL_stateAnew 13 = .ok (.ireturn, 1) := by decide +kernel
theorem dL_valueAnew_0 : decode cL_valueAnew 0 = .ok (.aload_n 1, 1) := by decide +kernel
theorem dL_valueAnew_1 : decode cL_valueAnew 1 = .ok (.iconst 0, 1) := by decide +kernel
theorem dL_valueAnew_2 : decode cL_valueAnew 2 = .ok (.aload_n 0, 1) := by decide +kernel
theorem dL_valueAnew_3 : decode cL_valueAnew 3 = .ok (.invokevirtual 98, 3) := by decide +kernel
theorem dL_valueAnew_10 : decode cL_valueAnew 10 = .ok (.astore_n 2, 1) := by decide +kernel
theorem dL_valueAnew_11 : decode cL_valueAnew 11 = .ok (.iconst 1, 1) := by decide +kernel
theorem dL_valueAnew_12 : decode cL_valueAnew 12 = .ok (.ireturn, 1) := by decide +kernel
set_option maxRecDepth 20000 in
def z_L_number : List Cond := .codeWith yL_number cL_number 5 (some .int) [(0, 9, 12, 13)] :: (([.methodLink RL 7 yX7_number, .instanceMethod yX7_number, .selects RX7 yX7_number yX7_number, .initialized RX7, .code yX7_number cX7_number 3 (some .int), .methodLink RX7 58 yX7_putLeaf, .instanceMethod yX7_putLeaf, .selects RX7 yX7_putLeaf yX7_putLeaf, .code yX7_putLeaf cX7_putLeaf 5 (some .int), .fieldLink RX7 72 "Selfkindle" "height" "I", .fieldLink RX7 14 "Selfkindle" "pile" "LSelfkindle$Term;", .methodLink RX7 169 yX5_add, .instanceMethod yX5_add, .selects RX5 yX5_add yX5_add, .initialized RX5, .code yX5_add cX5_add 7 none, .methodLink RX5 41 yX5_partsOf, .static yX5_partsOf, .code yX5_partsOf cX5_partsOf 1 (some .int), .fieldLink RX5 34 "Selfkindle$Term" "PARTS_OF" "[I", .methodLink RX5 45 yX5_sizeOfLast, .instanceMethod yX5_sizeOfLast, .selects RX5 yX5_sizeOfLast yX5_sizeOfLast, .code yX5_sizeOfLast cX5_sizeOfLast 4 (some .int), .fieldLink RX5 37 "Selfkindle$Term" "count" "I", .fieldLink RX5 9 "Selfkindle$Term" "kinds" "[I", .fieldLink RX5 15 "Selfkindle$Term" "names" "[I", .fieldLink RX5 18 "Selfkindle$Term" "others" "[I", .fieldLink RX5 21 "Selfkindle$Term" "numbers" "[J", .fieldLink RX5 25 "Selfkindle$Term" "sizes" "[I", .fieldLink RX5 28 "Selfkindle$Term" "binders" "[I", .fieldLink RX5 31 "Selfkindle$Term" "distances" "[I"] : List Cond) ++ wsX70 ++ wsX50)
theorem in_z_L_number_X7 : ∀ w ∈ wsX70, w ∈ z_L_number := fun w h => List.mem_cons_of_mem _ (List.mem_append_left _ (List.mem_append_right _ (h)))
theorem in_z_L_number_X5 : ∀ w ∈ wsX50, w ∈ z_L_number := fun w h => List.mem_cons_of_mem _ (List.mem_append_right _ (h))
set_option maxRecDepth 20000 in
theorem g_L_number_4 : GoodIn z_L_number (wsV RL 7 RX7 yX7_number z_X_number) := goodIn_p _ [5, 9, 16, 19, 24] rfl (by decide +kernel)
set_option maxHeartbeats 4000000 in
set_option maxRecDepth 100000 in
theorem c_L_number (l : Launch) (dC : Nat → ClassId) (dI : Nat → Nat → Nat) (tp te : Nat) (sz : Nat) (h0 : Nat) (rp : Nat) (rt : Nat) (rc : Nat) (r1 : Nat) (r2 : Nat) (r3 : Nat) (r4 : Nat) (a1 : Nat) (a2 : Nat) (a3 : Nat) (a4 : Nat) (a5 : Nat) (a6 : Nat) (a7 : Nat) (k1 : ClassId) (k2 : ClassId) (k3 : ClassId) (k4 : ClassId) (k5 : ClassId) (k6 : ClassId) (k7 : ClassId) (ho : Nat) (ko : ClassId) (p2 : Int64)  : vx_Met l yL_number z_L_number ({ frames := 4, cells := 0, slots := 0, locals := 95 }) (va_Pc [.ref h0, .long p2, .ref ho] (Pw dC dI [(h0, .inr (8, [.ref rp, .int 0, .ref rt, .ref rc, .int ((-1)), .ref r1, .ref r2, .ref r3, .ref r4, .null, .int 0])), (rp, .inr (6, [.ref a1, .ref a2, .ref a3, .ref a4, .ref a5, .ref a6, .ref a7, .int 0])), (a1, .inl (k1, 1200, .inl (fun _ => 0))), (a2, .inl (k2, 1200, .inl (fun _ => 0))), (a3, .inl (k3, 1200, .inl (fun _ => 0))), (a4, .inl (k4, 1200, .inr (.inl (fun _ => 0)))), (a5, .inl (k5, 1200, .inl (fun _ => 0))), (a6, .inl (k6, 1200, .inl (fun _ => 0))), (a7, .inl (k7, 1200, .inl (fun _ => 0))), (ho, .inl (ko, 1, .inr (.inl (fun _ => 0))))] [(k1, .int), (k2, .int), (k3, .int), (k4, .long), (k5, .int), (k6, .int), (k7, .int), (ko, .long)] sz tp te)) (va_Qi (fun (r : Int32) (_ : Unit) => r = 0) (fun (_ : Unit) (t : State) => Bw dC dI [(ho, .inl (ko, 1, .inr (.inl (vp_updL (fun _ => 0) (0 : Int32).toNatClampNeg 1))))] [(ko, .long)] (va_A [(h0, .inr (8, [.ref rp, .int 0, .ref rt, .ref rc, .int ((-1)), .ref r1, .ref r2, .ref r3, .ref r4, .null, .int 0])), (rp, .inr (6, [.ref a1, .ref a2, .ref a3, .ref a4, .ref a5, .ref a6, .ref a7, .int 0])), (a1, .inl (k1, 1200, .inl (fun _ => 0))), (a2, .inl (k2, 1200, .inl (fun _ => 0))), (a3, .inl (k3, 1200, .inl (fun _ => 0))), (a4, .inl (k4, 1200, .inr (.inl (fun _ => 0)))), (a5, .inl (k5, 1200, .inl (fun _ => 0))), (a6, .inl (k6, 1200, .inl (fun _ => 0))), (a7, .inl (k7, 1200, .inl (fun _ => 0))), (ho, .inl (ko, 1, .inr (.inl (fun _ => 0))))] sz) t) (va_A [(h0, .inr (8, [.ref rp, .int 0, .ref rt, .ref rc, .int ((-1)), .ref r1, .ref r2, .ref r3, .ref r4, .null, .int 0])), (rp, .inr (6, [.ref a1, .ref a2, .ref a3, .ref a4, .ref a5, .ref a6, .ref a7, .int 0])), (a1, .inl (k1, 1200, .inl (fun _ => 0))), (a2, .inl (k2, 1200, .inl (fun _ => 0))), (a3, .inl (k3, 1200, .inl (fun _ => 0))), (a4, .inl (k4, 1200, .inr (.inl (fun _ => 0)))), (a5, .inl (k5, 1200, .inl (fun _ => 0))), (a6, .inl (k6, 1200, .inl (fun _ => 0))), (a7, .inl (k7, 1200, .inl (fun _ => 0))), (ho, .inl (ko, 1, .inr (.inl (fun _ => 0))))] sz)) (vx_X (fun (_ : Unit) => False) (fun (E : String) (_ : Unit) (_ : State) => E = "") (va_A [(h0, .inr (8, [.ref rp, .int 0, .ref rt, .ref rc, .int ((-1)), .ref r1, .ref r2, .ref r3, .ref r4, .null, .int 0])), (rp, .inr (6, [.ref a1, .ref a2, .ref a3, .ref a4, .ref a5, .ref a6, .ref a7, .int 0])), (a1, .inl (k1, 1200, .inl (fun _ => 0))), (a2, .inl (k2, 1200, .inl (fun _ => 0))), (a3, .inl (k3, 1200, .inl (fun _ => 0))), (a4, .inl (k4, 1200, .inr (.inl (fun _ => 0)))), (a5, .inl (k5, 1200, .inl (fun _ => 0))), (a6, .inl (k6, 1200, .inl (fun _ => 0))), (a7, .inl (k7, 1200, .inl (fun _ => 0))), (ho, .inl (ko, 1, .inr (.inl (fun _ => 0))))] sz)) 0 0 (va_A [(h0, .inr (8, [.ref rp, .int 0, .ref rt, .ref rc, .int ((-1)), .ref r1, .ref r2, .ref r3, .ref r4, .null, .int 0])), (rp, .inr (6, [.ref a1, .ref a2, .ref a3, .ref a4, .ref a5, .ref a6, .ref a7, .int 0])), (a1, .inl (k1, 1200, .inl (fun _ => 0))), (a2, .inl (k2, 1200, .inl (fun _ => 0))), (a3, .inl (k3, 1200, .inl (fun _ => 0))), (a4, .inl (k4, 1200, .inr (.inl (fun _ => 0)))), (a5, .inl (k5, 1200, .inl (fun _ => 0))), (a6, .inl (k6, 1200, .inl (fun _ => 0))), (a7, .inl (k7, 1200, .inl (fun _ => 0))), (ho, .inl (ko, 1, .inr (.inl (fun _ => 0))))] sz) := by
  refine vx_ofWH (cc := cL_number) (maxL := 5) (ret := (some .int)) (hh := [(0, 9, 12, 13)]) (by decide) rfl ?_
  intro p e s m args below meth c s₁ B hml hv
  obtain ⟨rfl, hsz, hP, hK, hD0, hG⟩ := hv
  have hx := B.exec
  have hb := B.bytes
  have hr := B.returns
  have hts := atoms_spec (ws := z_L_number) B.pre
  have htab : c.exceptionTable.toList = tableOf [(0, 9, 12, 13)] := vx_table (x := yL_number) B (hts _ List.mem_cons_self)
  have hown : s.vm.findClass RL = some m.cls := findClass_of_methodNamed B.named
  have hlocks := B.notSynchronized
  subst hsz
  have hD := hD0.self (sz := s.heap.size)
  generalize hAe : va_A [(h0, .inr (8, [.ref rp, .int 0, .ref rt, .ref rc, .int ((-1)), .ref r1, .ref r2, .ref r3, .ref r4, .null, .int 0])), (rp, .inr (6, [.ref a1, .ref a2, .ref a3, .ref a4, .ref a5, .ref a6, .ref a7, .int 0])), (a1, .inl (k1, 1200, .inl (fun _ => 0))), (a2, .inl (k2, 1200, .inl (fun _ => 0))), (a3, .inl (k3, 1200, .inl (fun _ => 0))), (a4, .inl (k4, 1200, .inr (.inl (fun _ => 0)))), (a5, .inl (k5, 1200, .inl (fun _ => 0))), (a6, .inl (k6, 1200, .inl (fun _ => 0))), (a7, .inl (k7, 1200, .inl (fun _ => 0))), (ho, .inl (ko, 1, .inr (.inl (fun _ => 0))))] s.heap.size = A at hD hG ⊢
  have hA : ∀ q : Nat, s.heap.size ≤ q → A q := fun q h => by rw [← hAe]; exact Or.inr h
  have hS : va_S A s.heap s.heap [] := va_S.rf
  have hl := lv_entry ([.ref h0, .long p2, .ref ho]) (n := 5) (Nat.le_of_ble_eq_true rfl)
  rw [lg_entry_eq]
  generalize (lg_sl ([.ref h0, .long p2, .ref ho]) ++ List.replicate (5 - (lg_sl ([.ref h0, .long p2, .ref ho])).length) Slot.unset).toArray = ls at hl ⊢
  have hl : lv_has ls 5 [(0, .ref h0), (1, .long p2), (3, .ref ho)] := hl
  refine lv_aload_n hx hb dL_number_0 rfl (lv_at hl 2 rfl) ?_
  refine lv_iconst (v := 0) hx hb dL_number_1 (by decide) ?_
  refine lv_aload_n hx hb dL_number_2 rfl (lv_at hl 0 rfl) ?_
  refine lv_lload_n hx hb dL_number_3 rfl (lv_at hl 1 rfl) ?_
  have hPc := hP.sub (ws' := [(h0, .inr (8, [.ref rp, .int 0, .ref rt, .ref rc, .int ((-1)), .ref r1, .ref r2, .ref r3, .ref r4, .null, .int 0])), (rp, .inr (6, [.ref a1, .ref a2, .ref a3, .ref a4, .ref a5, .ref a6, .ref a7, .int 0])), (a1, .inl (k1, 1200, .inl (fun _ => 0))), (a2, .inl (k2, 1200, .inl (fun _ => 0))), (a3, .inl (k3, 1200, .inl (fun _ => 0))), (a4, .inl (k4, 1200, .inr (.inl (fun _ => 0)))), (a5, .inl (k5, 1200, .inl (fun _ => 0))), (a6, .inl (k6, 1200, .inl (fun _ => 0))), (a7, .inl (k7, 1200, .inl (fun _ => 0)))]) [0, 1, 2, 3, 4, 5, 6, 7, 8] rfl
  have hDc := hD.sub (ws' := [(h0, .inr (8, [.ref rp, .int 0, .ref rt, .ref rc, .int ((-1)), .ref r1, .ref r2, .ref r3, .ref r4, .null, .int 0])), (rp, .inr (6, [.ref a1, .ref a2, .ref a3, .ref a4, .ref a5, .ref a6, .ref a7, .int 0])), (a1, .inl (k1, 1200, .inl (fun _ => 0))), (a2, .inl (k2, 1200, .inl (fun _ => 0))), (a3, .inl (k3, 1200, .inl (fun _ => 0))), (a4, .inl (k4, 1200, .inr (.inl (fun _ => 0)))), (a5, .inl (k5, 1200, .inl (fun _ => 0))), (a6, .inl (k6, 1200, .inl (fun _ => 0))), (a7, .inl (k7, 1200, .inl (fun _ => 0)))]) [0, 1, 2, 3, 4, 5, 6, 7, 8] (by decide) rfl
  have hKc := hK.sub (tys' := [(k1, .int), (k2, .int), (k3, .int), (k4, .long), (k5, .int), (k6, .int), (k7, .int)]) [0, 1, 2, 3, 4, 5, 6] rfl
  have hFc := va_free (wc := [(h0, .inr (8, [.ref rp, .int 0, .ref rt, .ref rc, .int ((-1)), .ref r1, .ref r2, .ref r3, .ref r4, .null, .int 0])), (rp, .inr (6, [.ref a1, .ref a2, .ref a3, .ref a4, .ref a5, .ref a6, .ref a7, .int 0])), (a1, .inl (k1, 1200, .inl (fun _ => 0))), (a2, .inl (k2, 1200, .inl (fun _ => 0))), (a3, .inl (k3, 1200, .inl (fun _ => 0))), (a4, .inl (k4, 1200, .inr (.inl (fun _ => 0)))), (a5, .inl (k5, 1200, .inl (fun _ => 0))), (a6, .inl (k6, 1200, .inl (fun _ => 0))), (a7, .inl (k7, 1200, .inl (fun _ => 0)))]) hD hS hA [0, 1, 2, 3, 4, 5, 6, 7, 8] rfl
  refine va_calli (va_runV (As := [.long p2]) (rest := [.int 0, .ref ho]) ⟨hx, hb, hml, hown, hts⟩ (c_X_number l dC dI tp te s.heap.size h0 rp rt rc r1 r2 r3 r4 a1 a2 a3 a4 a5 a6 a7 k1 k2 k3 k4 k5 k6 k7 p2) (cwV 1 hts g_L_number_4 rfl rfl rfl (by decide +kernel) ⟨Nat.le_of_ble_eq_true rfl, Nat.le_of_ble_eq_true rfl⟩) ⟨Pw.blind, va_recv hKc hPc (ci := 8) (q0 := 0) rfl rfl, Pw.mk hPc hKc hDc hG hS hFc⟩ rfl rfl hl.1 rfl (lv_room (Nat.le_of_ble_eq_true rfl)) dL_number_4 ⟨Nat.le_of_ble_eq_true rfl, Nat.le_of_ble_eq_true rfl⟩) hS (fun q _ h => hFc q h) hFc (fun r u t9 H_1 locs ht hvm hw hB hz1 hk1 hS => ?_)
  have hw : r = 1 := hw
  subst hw
  obtain ⟨hP, hD⟩ := va_join (wr := [(ho, .inl (ko, 1, .inr (.inl (fun _ => 0))))]) (w1 := []) hP hD [0, 1, 2, 3, 4, 5, 6, 7, 8] [9] rfl rfl (by decide) (by decide) hk1 hFc va_P.nil va_D.nil
  have hK := hK.sub (tys' := [(ko, .long)]) [7] rfl
  have hP : va_P (dC, dI) vwCl [(ho, .inl (ko, 1, .inr (.inl (fun _ => 0))))] H_1 := hP
  have hD : va_D A [(ho, .inl (ko, 1, .inr (.inl (fun _ => 0))))] := hD
  have hK : va_K (dC, dI) vwCl [(ko, .long)] s := hK
  refine W.widen (k := 0) (n := 0) (Nat.le_of_ble_eq_true rfl) (Nat.le_of_ble_eq_true rfl) ?_
  refine lv_i2l (v := 1) hx hb dL_number_7 (by decide) ?_
  refine va_last hx hb hK hP hD hS 0 0 rfl rfl (by unfold vp_in; decide +kernel) dL_number_8 (fun H_3 locs hP hD hS => ?_)
  have hP : va_P (dC, dI) vwCl [(ho, .inl (ko, 1, .inr (.inl (vp_updL (fun _ => 0) (0 : Int32).toNatClampNeg 1))))] H_3 := hP
  have hD : va_D A [(ho, .inl (ko, 1, .inr (.inl (vp_updL (fun _ => 0) (0 : Int32).toNatClampNeg 1))))] := hD
  have hK : va_K (dC, dI) vwCl [(ko, .long)] s := hK
  refine lv_goto (tgt := 16) hx hb dL_number_9 (by decide) ?_
  refine lv_iconst (v := 0) hx hb dL_number_16 (by decide) ?_
  refine vx_ret ?_
  refine W.widen (k := 0) (n := 0) (Nat.le_of_ble_eq_true rfl) (Nat.le_of_ble_eq_true rfl) ?_
  exact W.iret (v := 0) hx hb hr (fun t ht hW => ⟨⟨0, (), rfl, rfl, ⟨by rw [ht]; exact hP, va_K.moved hW.alike hK, hD⟩⟩, hS.F ht⟩) hS.2.2 dL_number_17

set_option maxRecDepth 20000 in
def z_L_name_ok : List Cond := .codeWith yL_name cL_name 4 (some .int) [(0, 9, 12, 19), (0, 9, 15, 13)] :: (([.methodLink RL 15 yX7_name, .instanceMethod yX7_name, .selects RX7 yX7_name yX7_name, .initialized RX7, .code yX7_name cX7_name 2 (some .int), .methodLink RX7 62 yX7_checkName, .static yX7_checkName, .code yX7_checkName cX7_checkName 1 none, .methodLink RX7 58 yX7_putLeaf, .instanceMethod yX7_putLeaf, .selects RX7 yX7_putLeaf yX7_putLeaf, .code yX7_putLeaf cX7_putLeaf 5 (some .int), .fieldLink RX7 72 "Selfkindle" "height" "I", .fieldLink RX7 14 "Selfkindle" "pile" "LSelfkindle$Term;", .methodLink RX7 169 yX5_add, .instanceMethod yX5_add, .selects RX5 yX5_add yX5_add, .initialized RX5, .code yX5_add cX5_add 7 none, .methodLink RX5 41 yX5_partsOf, .static yX5_partsOf, .code yX5_partsOf cX5_partsOf 1 (some .int), .fieldLink RX5 34 "Selfkindle$Term" "PARTS_OF" "[I", .methodLink RX5 45 yX5_sizeOfLast, .instanceMethod yX5_sizeOfLast, .selects RX5 yX5_sizeOfLast yX5_sizeOfLast, .code yX5_sizeOfLast cX5_sizeOfLast 4 (some .int), .fieldLink RX5 37 "Selfkindle$Term" "count" "I", .fieldLink RX5 9 "Selfkindle$Term" "kinds" "[I", .fieldLink RX5 15 "Selfkindle$Term" "names" "[I", .fieldLink RX5 18 "Selfkindle$Term" "others" "[I", .fieldLink RX5 21 "Selfkindle$Term" "numbers" "[J", .fieldLink RX5 25 "Selfkindle$Term" "sizes" "[I", .fieldLink RX5 28 "Selfkindle$Term" "binders" "[I", .fieldLink RX5 31 "Selfkindle$Term" "distances" "[I"] : List Cond) ++ wsX70 ++ wsX50)
theorem in_z_L_name_ok_X7 : ∀ w ∈ wsX70, w ∈ z_L_name_ok := fun w h => List.mem_cons_of_mem _ (List.mem_append_left _ (List.mem_append_right _ (h)))
theorem in_z_L_name_ok_X5 : ∀ w ∈ wsX50, w ∈ z_L_name_ok := fun w h => List.mem_cons_of_mem _ (List.mem_append_right _ (h))
set_option maxRecDepth 20000 in
theorem g_L_name_ok_4 : GoodIn z_L_name_ok (wsV RL 15 RX7 yX7_name z_X_name_ok) := goodIn_p _ [5, 8, 12, 19, 22, 27] rfl (by decide +kernel)
set_option maxHeartbeats 4000000 in
set_option maxRecDepth 100000 in
theorem c_L_name_ok (l : Launch) (dC : Nat → ClassId) (dI : Nat → Nat → Nat) (tp te : Nat) (sz : Nat) (h0 : Nat) (rp : Nat) (rt : Nat) (rc : Nat) (r1 : Nat) (r2 : Nat) (r3 : Nat) (r4 : Nat) (a1 : Nat) (a2 : Nat) (a3 : Nat) (a4 : Nat) (a5 : Nat) (a6 : Nat) (a7 : Nat) (k1 : ClassId) (k2 : ClassId) (k3 : ClassId) (k4 : ClassId) (k5 : ClassId) (k6 : ClassId) (k7 : ClassId) (ho : Nat) (ko : ClassId) (p0 : Int32) (hvn : ¬ p0 < 0) (hvb : p0 < 10) (hvc : ¬ 10 ≤ p0) : vx_Met l yL_name z_L_name_ok ({ frames := 4, cells := 0, slots := 0, locals := 94 }) (va_Pc [.ref h0, .int p0, .ref ho] (Pw dC dI [(h0, .inr (8, [.ref rp, .int 0, .ref rt, .ref rc, .int ((-1)), .ref r1, .ref r2, .ref r3, .ref r4, .null, .int 0])), (rp, .inr (6, [.ref a1, .ref a2, .ref a3, .ref a4, .ref a5, .ref a6, .ref a7, .int 0])), (a1, .inl (k1, 1200, .inl (fun _ => 0))), (a2, .inl (k2, 1200, .inl (fun _ => 0))), (a3, .inl (k3, 1200, .inl (fun _ => 0))), (a4, .inl (k4, 1200, .inr (.inl (fun _ => 0)))), (a5, .inl (k5, 1200, .inl (fun _ => 0))), (a6, .inl (k6, 1200, .inl (fun _ => 0))), (a7, .inl (k7, 1200, .inl (fun _ => 0))), (ho, .inl (ko, 1, .inr (.inl (fun _ => 0))))] [(k1, .int), (k2, .int), (k3, .int), (k4, .long), (k5, .int), (k6, .int), (k7, .int), (ko, .long)] sz tp te)) (va_Qi (fun (r : Int32) (_ : Unit) => r = 0) (fun (_ : Unit) (t : State) => Bw dC dI [(ho, .inl (ko, 1, .inr (.inl (vp_updL (fun _ => 0) (0 : Int32).toNatClampNeg 1))))] [(ko, .long)] (va_A [(h0, .inr (8, [.ref rp, .int 0, .ref rt, .ref rc, .int ((-1)), .ref r1, .ref r2, .ref r3, .ref r4, .null, .int 0])), (rp, .inr (6, [.ref a1, .ref a2, .ref a3, .ref a4, .ref a5, .ref a6, .ref a7, .int 0])), (a1, .inl (k1, 1200, .inl (fun _ => 0))), (a2, .inl (k2, 1200, .inl (fun _ => 0))), (a3, .inl (k3, 1200, .inl (fun _ => 0))), (a4, .inl (k4, 1200, .inr (.inl (fun _ => 0)))), (a5, .inl (k5, 1200, .inl (fun _ => 0))), (a6, .inl (k6, 1200, .inl (fun _ => 0))), (a7, .inl (k7, 1200, .inl (fun _ => 0))), (ho, .inl (ko, 1, .inr (.inl (fun _ => 0))))] sz) t) (va_A [(h0, .inr (8, [.ref rp, .int 0, .ref rt, .ref rc, .int ((-1)), .ref r1, .ref r2, .ref r3, .ref r4, .null, .int 0])), (rp, .inr (6, [.ref a1, .ref a2, .ref a3, .ref a4, .ref a5, .ref a6, .ref a7, .int 0])), (a1, .inl (k1, 1200, .inl (fun _ => 0))), (a2, .inl (k2, 1200, .inl (fun _ => 0))), (a3, .inl (k3, 1200, .inl (fun _ => 0))), (a4, .inl (k4, 1200, .inr (.inl (fun _ => 0)))), (a5, .inl (k5, 1200, .inl (fun _ => 0))), (a6, .inl (k6, 1200, .inl (fun _ => 0))), (a7, .inl (k7, 1200, .inl (fun _ => 0))), (ho, .inl (ko, 1, .inr (.inl (fun _ => 0))))] sz)) (vx_X (fun (_ : Unit) => False) (fun (E : String) (_ : Unit) (_ : State) => E = "") (va_A [(h0, .inr (8, [.ref rp, .int 0, .ref rt, .ref rc, .int ((-1)), .ref r1, .ref r2, .ref r3, .ref r4, .null, .int 0])), (rp, .inr (6, [.ref a1, .ref a2, .ref a3, .ref a4, .ref a5, .ref a6, .ref a7, .int 0])), (a1, .inl (k1, 1200, .inl (fun _ => 0))), (a2, .inl (k2, 1200, .inl (fun _ => 0))), (a3, .inl (k3, 1200, .inl (fun _ => 0))), (a4, .inl (k4, 1200, .inr (.inl (fun _ => 0)))), (a5, .inl (k5, 1200, .inl (fun _ => 0))), (a6, .inl (k6, 1200, .inl (fun _ => 0))), (a7, .inl (k7, 1200, .inl (fun _ => 0))), (ho, .inl (ko, 1, .inr (.inl (fun _ => 0))))] sz)) 0 0 (va_A [(h0, .inr (8, [.ref rp, .int 0, .ref rt, .ref rc, .int ((-1)), .ref r1, .ref r2, .ref r3, .ref r4, .null, .int 0])), (rp, .inr (6, [.ref a1, .ref a2, .ref a3, .ref a4, .ref a5, .ref a6, .ref a7, .int 0])), (a1, .inl (k1, 1200, .inl (fun _ => 0))), (a2, .inl (k2, 1200, .inl (fun _ => 0))), (a3, .inl (k3, 1200, .inl (fun _ => 0))), (a4, .inl (k4, 1200, .inr (.inl (fun _ => 0)))), (a5, .inl (k5, 1200, .inl (fun _ => 0))), (a6, .inl (k6, 1200, .inl (fun _ => 0))), (a7, .inl (k7, 1200, .inl (fun _ => 0))), (ho, .inl (ko, 1, .inr (.inl (fun _ => 0))))] sz) := by
  refine vx_ofWH (cc := cL_name) (maxL := 4) (ret := (some .int)) (hh := [(0, 9, 12, 19), (0, 9, 15, 13)]) (by decide) rfl ?_
  intro p e s m args below meth c s₁ B hml hv
  obtain ⟨rfl, hsz, hP, hK, hD0, hG⟩ := hv
  have hx := B.exec
  have hb := B.bytes
  have hr := B.returns
  have hts := atoms_spec (ws := z_L_name_ok) B.pre
  have htab : c.exceptionTable.toList = tableOf [(0, 9, 12, 19), (0, 9, 15, 13)] := vx_table (x := yL_name) B (hts _ List.mem_cons_self)
  have hown : s.vm.findClass RL = some m.cls := findClass_of_methodNamed B.named
  have hlocks := B.notSynchronized
  subst hsz
  have hD := hD0.self (sz := s.heap.size)
  generalize hAe : va_A [(h0, .inr (8, [.ref rp, .int 0, .ref rt, .ref rc, .int ((-1)), .ref r1, .ref r2, .ref r3, .ref r4, .null, .int 0])), (rp, .inr (6, [.ref a1, .ref a2, .ref a3, .ref a4, .ref a5, .ref a6, .ref a7, .int 0])), (a1, .inl (k1, 1200, .inl (fun _ => 0))), (a2, .inl (k2, 1200, .inl (fun _ => 0))), (a3, .inl (k3, 1200, .inl (fun _ => 0))), (a4, .inl (k4, 1200, .inr (.inl (fun _ => 0)))), (a5, .inl (k5, 1200, .inl (fun _ => 0))), (a6, .inl (k6, 1200, .inl (fun _ => 0))), (a7, .inl (k7, 1200, .inl (fun _ => 0))), (ho, .inl (ko, 1, .inr (.inl (fun _ => 0))))] s.heap.size = A at hD hG ⊢
  have hA : ∀ q : Nat, s.heap.size ≤ q → A q := fun q h => by rw [← hAe]; exact Or.inr h
  have hS : va_S A s.heap s.heap [] := va_S.rf
  have hl := lv_entry ([.ref h0, .int p0, .ref ho]) (n := 4) (Nat.le_of_ble_eq_true rfl)
  rw [lg_entry_eq]
  generalize (lg_sl ([.ref h0, .int p0, .ref ho]) ++ List.replicate (4 - (lg_sl ([.ref h0, .int p0, .ref ho])).length) Slot.unset).toArray = ls at hl ⊢
  have hl : lv_has ls 4 [(0, .ref h0), (1, .int p0), (2, .ref ho)] := hl
  refine lv_aload_n hx hb dL_name_0 rfl (lv_at hl 2 rfl) ?_
  refine lv_iconst (v := 0) hx hb dL_name_1 (by decide) ?_
  refine lv_aload_n hx hb dL_name_2 rfl (lv_at hl 0 rfl) ?_
  refine lv_iload_n hx hb dL_name_3 rfl (lv_at hl 1 rfl) ?_
  have hPc := hP.sub (ws' := [(h0, .inr (8, [.ref rp, .int 0, .ref rt, .ref rc, .int ((-1)), .ref r1, .ref r2, .ref r3, .ref r4, .null, .int 0])), (rp, .inr (6, [.ref a1, .ref a2, .ref a3, .ref a4, .ref a5, .ref a6, .ref a7, .int 0])), (a1, .inl (k1, 1200, .inl (fun _ => 0))), (a2, .inl (k2, 1200, .inl (fun _ => 0))), (a3, .inl (k3, 1200, .inl (fun _ => 0))), (a4, .inl (k4, 1200, .inr (.inl (fun _ => 0)))), (a5, .inl (k5, 1200, .inl (fun _ => 0))), (a6, .inl (k6, 1200, .inl (fun _ => 0))), (a7, .inl (k7, 1200, .inl (fun _ => 0)))]) [0, 1, 2, 3, 4, 5, 6, 7, 8] rfl
  have hDc := hD.sub (ws' := [(h0, .inr (8, [.ref rp, .int 0, .ref rt, .ref rc, .int ((-1)), .ref r1, .ref r2, .ref r3, .ref r4, .null, .int 0])), (rp, .inr (6, [.ref a1, .ref a2, .ref a3, .ref a4, .ref a5, .ref a6, .ref a7, .int 0])), (a1, .inl (k1, 1200, .inl (fun _ => 0))), (a2, .inl (k2, 1200, .inl (fun _ => 0))), (a3, .inl (k3, 1200, .inl (fun _ => 0))), (a4, .inl (k4, 1200, .inr (.inl (fun _ => 0)))), (a5, .inl (k5, 1200, .inl (fun _ => 0))), (a6, .inl (k6, 1200, .inl (fun _ => 0))), (a7, .inl (k7, 1200, .inl (fun _ => 0)))]) [0, 1, 2, 3, 4, 5, 6, 7, 8] (by decide) rfl
  have hKc := hK.sub (tys' := [(k1, .int), (k2, .int), (k3, .int), (k4, .long), (k5, .int), (k6, .int), (k7, .int)]) [0, 1, 2, 3, 4, 5, 6] rfl
  have hFc := va_free (wc := [(h0, .inr (8, [.ref rp, .int 0, .ref rt, .ref rc, .int ((-1)), .ref r1, .ref r2, .ref r3, .ref r4, .null, .int 0])), (rp, .inr (6, [.ref a1, .ref a2, .ref a3, .ref a4, .ref a5, .ref a6, .ref a7, .int 0])), (a1, .inl (k1, 1200, .inl (fun _ => 0))), (a2, .inl (k2, 1200, .inl (fun _ => 0))), (a3, .inl (k3, 1200, .inl (fun _ => 0))), (a4, .inl (k4, 1200, .inr (.inl (fun _ => 0)))), (a5, .inl (k5, 1200, .inl (fun _ => 0))), (a6, .inl (k6, 1200, .inl (fun _ => 0))), (a7, .inl (k7, 1200, .inl (fun _ => 0)))]) hD hS hA [0, 1, 2, 3, 4, 5, 6, 7, 8] rfl
  refine va_calli (va_runV (As := [.int p0]) (rest := [.int 0, .ref ho]) ⟨hx, hb, hml, hown, hts⟩ (c_X_name_ok l dC dI tp te s.heap.size h0 rp rt rc r1 r2 r3 r4 a1 a2 a3 a4 a5 a6 a7 k1 k2 k3 k4 k5 k6 k7 p0 hvn hvb hvc) (cwV 1 hts g_L_name_ok_4 rfl rfl rfl (by decide +kernel) ⟨Nat.le_of_ble_eq_true rfl, Nat.le_of_ble_eq_true rfl⟩) ⟨Pw.blind, va_recv hKc hPc (ci := 8) (q0 := 0) rfl rfl, Pw.mk hPc hKc hDc hG hS hFc⟩ rfl rfl hl.1 rfl (lv_room (Nat.le_of_ble_eq_true rfl)) dL_name_4 ⟨Nat.le_of_ble_eq_true rfl, Nat.le_of_ble_eq_true rfl⟩) hS (fun q _ h => hFc q h) hFc (fun r u t9 H_1 locs ht hvm hw hB hz1 hk1 hS => ?_)
  have hw : r = 1 := hw
  subst hw
  obtain ⟨hP, hD⟩ := va_join (wr := [(ho, .inl (ko, 1, .inr (.inl (fun _ => 0))))]) (w1 := []) hP hD [0, 1, 2, 3, 4, 5, 6, 7, 8] [9] rfl rfl (by decide) (by decide) hk1 hFc va_P.nil va_D.nil
  have hK := hK.sub (tys' := [(ko, .long)]) [7] rfl
  have hP : va_P (dC, dI) vwCl [(ho, .inl (ko, 1, .inr (.inl (fun _ => 0))))] H_1 := hP
  have hD : va_D A [(ho, .inl (ko, 1, .inr (.inl (fun _ => 0))))] := hD
  have hK : va_K (dC, dI) vwCl [(ko, .long)] s := hK
  refine W.widen (k := 0) (n := 0) (Nat.le_of_ble_eq_true rfl) (Nat.le_of_ble_eq_true rfl) ?_
  refine lv_i2l (v := 1) hx hb dL_name_7 (by decide) ?_
  refine va_last hx hb hK hP hD hS 0 0 rfl rfl (by unfold vp_in; decide +kernel) dL_name_8 (fun H_3 locs hP hD hS => ?_)
  have hP : va_P (dC, dI) vwCl [(ho, .inl (ko, 1, .inr (.inl (vp_updL (fun _ => 0) (0 : Int32).toNatClampNeg 1))))] H_3 := hP
  have hD : va_D A [(ho, .inl (ko, 1, .inr (.inl (vp_updL (fun _ => 0) (0 : Int32).toNatClampNeg 1))))] := hD
  have hK : va_K (dC, dI) vwCl [(ko, .long)] s := hK
  refine lv_goto (tgt := 18) hx hb dL_name_9 (by decide) ?_
  refine lv_iconst (v := 0) hx hb dL_name_18 (by decide) ?_
  refine vx_ret ?_
  refine W.widen (k := 0) (n := 0) (Nat.le_of_ble_eq_true rfl) (Nat.le_of_ble_eq_true rfl) ?_
  exact W.iret (v := 0) hx hb hr (fun t ht hW => ⟨⟨0, (), rfl, rfl, ⟨by rw [ht]; exact hP, va_K.moved hW.alike hK, hD⟩⟩, hS.F ht⟩) hS.2.2 dL_name_19

set_option maxRecDepth 20000 in
def z_L_name_neg : List Cond := .codeWith yL_name cL_name 4 (some .int) [(0, 9, 12, 19), (0, 9, 15, 13)] :: (([.methodLink RL 15 yX7_name, .instanceMethod yX7_name, .selects RX7 yX7_name yX7_name, .initialized RX7, .code yX7_name cX7_name 2 (some .int), .methodLink RX7 62 yX7_checkName, .static yX7_checkName, .code yX7_checkName cX7_checkName 1 none, .classLink RX7 107 "java/lang/IndexOutOfBoundsException", .initialized "java/lang/IndexOutOfBoundsException", .classLink RL 19 "java/lang/IndexOutOfBoundsException", .classLink RL 13 "java/lang/IllegalStateException"] : List Cond) ++ (vx_at0 RX7 109 "java/lang/IndexOutOfBoundsException" ["java/lang/RuntimeException", "java/lang/Exception"]).filter goodWord)
set_option maxRecDepth 20000 in
theorem gg_L_name_neg_4 : GoodIn z_L_name_neg z_X_name_neg := goodIn_ca (goodIn_p _ [5, 8] rfl (by decide +kernel)) (goodIn_sub (fun _ h => List.mem_cons_of_mem _ (List.mem_append_right _ (h))) (by decide +kernel))
set_option maxRecDepth 20000 in
theorem g_L_name_neg_4 : GoodIn z_L_name_neg (wsV RL 15 RX7 yX7_name z_X_name_neg) := goodIn_app (goodIn_of _ (by decide +kernel)) gg_L_name_neg_4
set_option maxHeartbeats 4000000 in
set_option maxRecDepth 100000 in
theorem c_L_name_neg (l : Launch) (dC : Nat → ClassId) (dI : Nat → Nat → Nat) (tp te : Nat) (sz : Nat) (hlt : l.stackTraces = false) (h0 : Nat) (rp : Nat) (rt : Nat) (rc : Nat) (r1 : Nat) (r2 : Nat) (r3 : Nat) (r4 : Nat) (p0 : Int32) (ho : Nat) (hvn : p0 < 0) : vx_Met l yL_name z_L_name_neg ({ frames := 8, cells := 1, slots := 6, locals := 122 }) (va_Pc [.ref h0, .int p0, .ref ho] (Pw dC dI [(h0, .inr (8, [.ref rp, .int 0, .ref rt, .ref rc, .int ((-1)), .ref r1, .ref r2, .ref r3, .ref r4, .null, .int 0]))] [] sz tp te)) (va_Qi (fun (r : Int32) (_ : Unit) => r = 1) (fun (_ : Unit) (_ : State) => True) (va_A [(h0, .inr (8, [.ref rp, .int 0, .ref rt, .ref rc, .int ((-1)), .ref r1, .ref r2, .ref r3, .ref r4, .null, .int 0]))] sz)) (vx_X (fun (_ : Unit) => False) (fun (E : String) (_ : Unit) (_ : State) => E = "") (va_A [(h0, .inr (8, [.ref rp, .int 0, .ref rt, .ref rc, .int ((-1)), .ref r1, .ref r2, .ref r3, .ref r4, .null, .int 0]))] sz)) 1 6 (va_A [(h0, .inr (8, [.ref rp, .int 0, .ref rt, .ref rc, .int ((-1)), .ref r1, .ref r2, .ref r3, .ref r4, .null, .int 0]))] sz) := by
  refine vx_ofWH (cc := cL_name) (maxL := 4) (ret := (some .int)) (hh := [(0, 9, 12, 19), (0, 9, 15, 13)]) (by decide) rfl ?_
  intro p e s m args below meth c s₁ B hml hv
  obtain ⟨rfl, hsz, hP, hK, hD0, hG⟩ := hv
  have hx := B.exec
  have hb := B.bytes
  have hr := B.returns
  have hts := atoms_spec (ws := z_L_name_neg) B.pre
  have htab : c.exceptionTable.toList = tableOf [(0, 9, 12, 19), (0, 9, 15, 13)] := vx_table (x := yL_name) B (hts _ List.mem_cons_self)
  have hown : s.vm.findClass RL = some m.cls := findClass_of_methodNamed B.named
  have hlocks := B.notSynchronized
  subst hsz
  have hD := hD0.self (sz := s.heap.size)
  generalize hAe : va_A [(h0, .inr (8, [.ref rp, .int 0, .ref rt, .ref rc, .int ((-1)), .ref r1, .ref r2, .ref r3, .ref r4, .null, .int 0]))] s.heap.size = A at hD hG ⊢
  have hA : ∀ q : Nat, s.heap.size ≤ q → A q := fun q h => by rw [← hAe]; exact Or.inr h
  have hS : va_S A s.heap s.heap [] := va_S.rf
  have hl := lv_entry ([.ref h0, .int p0, .ref ho]) (n := 4) (Nat.le_of_ble_eq_true rfl)
  rw [lg_entry_eq]
  generalize (lg_sl ([.ref h0, .int p0, .ref ho]) ++ List.replicate (4 - (lg_sl ([.ref h0, .int p0, .ref ho])).length) Slot.unset).toArray = ls at hl ⊢
  have hl : lv_has ls 4 [(0, .ref h0), (1, .int p0), (2, .ref ho)] := hl
  refine lv_aload_n hx hb dL_name_0 rfl (lv_at hl 2 rfl) ?_
  refine lv_iconst (v := 0) hx hb dL_name_1 (by decide) ?_
  refine lv_aload_n hx hb dL_name_2 rfl (lv_at hl 0 rfl) ?_
  refine lv_iload_n hx hb dL_name_3 rfl (lv_at hl 1 rfl) ?_
  have hPc := hP.sub (ws' := [(h0, .inr (8, [.ref rp, .int 0, .ref rt, .ref rc, .int ((-1)), .ref r1, .ref r2, .ref r3, .ref r4, .null, .int 0]))]) [0] rfl
  have hDc := hD.sub (ws' := [(h0, .inr (8, [.ref rp, .int 0, .ref rt, .ref rc, .int ((-1)), .ref r1, .ref r2, .ref r3, .ref r4, .null, .int 0]))]) [0] (by decide) rfl
  have hKc := hK.sub (tys' := []) [] rfl
  have hFc := va_free (wc := [(h0, .inr (8, [.ref rp, .int 0, .ref rt, .ref rc, .int ((-1)), .ref r1, .ref r2, .ref r3, .ref r4, .null, .int 0]))]) hD hS hA [0] rfl
  refine vx_calli (vx_runV (As := [.int p0]) (rest := [.int 0, .ref ho]) ⟨hx, hb, hml, hown, hts⟩ (c_X_name_neg l dC dI tp te s.heap.size hlt h0 rp rt rc r1 r2 r3 r4 p0 hvn) (cwV 1 hts g_L_name_neg_4 rfl rfl rfl (by decide +kernel) ⟨Nat.le_of_ble_eq_true rfl, Nat.le_of_ble_eq_true rfl⟩) ⟨Pw.blind, va_recv hKc hPc (ci := 8) (q0 := 0) rfl rfl, Pw.mk hPc hKc hDc hG hS hFc⟩ rfl rfl hl.1 rfl (lv_room (Nat.le_of_ble_eq_true rfl)) dL_name_4 ⟨Nat.le_of_ble_eq_true rfl, Nat.le_of_ble_eq_true rfl⟩) hS (fun q _ h => hFc q h) hFc (fun q _ h => hFc q h) (fun E ce q9 u t9 H_1 locs ht hvm hpx hBX hz1 hk1 hS hce hcv hcl => ?_) (fun r u t9 H1 locs ht hvm hw hB hz1 hk1 hS => hw.elim)
  have hBX : E = "java/lang/IndexOutOfBoundsException" := hBX
  subst hBX
  refine vx_catch hown [] ⟨0, 9, 12, 19⟩ [⟨0, 9, 15, 13⟩] htab (fun z9 h9 => nomatch h9) (by decide) (by decide) (hts (.classLink RL 19 "java/lang/IndexOutOfBoundsException") (List.mem_of_getElem? (i := 11) rfl)) (va_Nw.use rfl hG.2.2.2.2.2.2.2.1) hce hcv hcl ?_
  obtain ⟨hP, hD⟩ := va_join (wr := []) (w1 := []) hP hD [0] [] rfl rfl (by decide) (by decide) hk1 hFc va_P.nil va_D.nil
  have hK := hK.sub (tys' := []) [] rfl
  have hP : va_P (dC, dI) vwCl [] H_1 := hP
  have hD : va_D A [] := hD
  have hK : va_K (dC, dI) vwCl [] s := hK
  refine W.widen (k := 1) (n := 6) (Nat.le_of_ble_eq_true rfl) (Nat.le_of_ble_eq_true rfl) ?_
  refine lv_astore_n (lv' := [(3, .ref q9), (0, .ref h0), (1, .int p0), (2, .ref ho)]) hx hb dL_name_12 rfl hl (by decide) rfl (fun ls hl => ?_)
  refine lv_iconst (v := 1) hx hb dL_name_13 (by decide) ?_
  refine vx_ret ?_
  refine W.widen (k := 1) (n := 6) (Nat.le_of_ble_eq_true rfl) (Nat.le_of_ble_eq_true rfl) ?_
  exact W.iret (v := 1) hx hb hr (fun t ht hW => ⟨⟨1, (), rfl, rfl, trivial⟩, hS.F ht⟩) hS.2.2 dL_name_14

set_option maxRecDepth 20000 in
def z_L_name_big : List Cond := .codeWith yL_name cL_name 4 (some .int) [(0, 9, 12, 19), (0, 9, 15, 13)] :: (([.methodLink RL 15 yX7_name, .instanceMethod yX7_name, .selects RX7 yX7_name yX7_name, .initialized RX7, .code yX7_name cX7_name 2 (some .int), .methodLink RX7 62 yX7_checkName, .static yX7_checkName, .code yX7_checkName cX7_checkName 1 none, .classLink RX7 107 "java/lang/IndexOutOfBoundsException", .initialized "java/lang/IndexOutOfBoundsException", .classLink RL 19 "java/lang/IndexOutOfBoundsException", .classLink RL 13 "java/lang/IllegalStateException"] : List Cond) ++ (vx_at0 RX7 109 "java/lang/IndexOutOfBoundsException" ["java/lang/RuntimeException", "java/lang/Exception"]).filter goodWord)
set_option maxRecDepth 20000 in
theorem gg_L_name_big_4 : GoodIn z_L_name_big z_X_name_big := goodIn_ca (goodIn_p _ [5, 8] rfl (by decide +kernel)) (goodIn_sub (fun _ h => List.mem_cons_of_mem _ (List.mem_append_right _ (h))) (by decide +kernel))
set_option maxRecDepth 20000 in
theorem g_L_name_big_4 : GoodIn z_L_name_big (wsV RL 15 RX7 yX7_name z_X_name_big) := goodIn_app (goodIn_of _ (by decide +kernel)) gg_L_name_big_4
set_option maxHeartbeats 4000000 in
set_option maxRecDepth 100000 in
theorem c_L_name_big (l : Launch) (dC : Nat → ClassId) (dI : Nat → Nat → Nat) (tp te : Nat) (sz : Nat) (hlt : l.stackTraces = false) (h0 : Nat) (rp : Nat) (rt : Nat) (rc : Nat) (r1 : Nat) (r2 : Nat) (r3 : Nat) (r4 : Nat) (p0 : Int32) (ho : Nat) (hvn : ¬ p0 < 0) (hvb : ¬ p0 < 10) (hvc : 10 ≤ p0) : vx_Met l yL_name z_L_name_big ({ frames := 8, cells := 1, slots := 6, locals := 122 }) (va_Pc [.ref h0, .int p0, .ref ho] (Pw dC dI [(h0, .inr (8, [.ref rp, .int 0, .ref rt, .ref rc, .int ((-1)), .ref r1, .ref r2, .ref r3, .ref r4, .null, .int 0]))] [] sz tp te)) (va_Qi (fun (r : Int32) (_ : Unit) => r = 1) (fun (_ : Unit) (_ : State) => True) (va_A [(h0, .inr (8, [.ref rp, .int 0, .ref rt, .ref rc, .int ((-1)), .ref r1, .ref r2, .ref r3, .ref r4, .null, .int 0]))] sz)) (vx_X (fun (_ : Unit) => False) (fun (E : String) (_ : Unit) (_ : State) => E = "") (va_A [(h0, .inr (8, [.ref rp, .int 0, .ref rt, .ref rc, .int ((-1)), .ref r1, .ref r2, .ref r3, .ref r4, .null, .int 0]))] sz)) 1 6 (va_A [(h0, .inr (8, [.ref rp, .int 0, .ref rt, .ref rc, .int ((-1)), .ref r1, .ref r2, .ref r3, .ref r4, .null, .int 0]))] sz) := by
  refine vx_ofWH (cc := cL_name) (maxL := 4) (ret := (some .int)) (hh := [(0, 9, 12, 19), (0, 9, 15, 13)]) (by decide) rfl ?_
  intro p e s m args below meth c s₁ B hml hv
  obtain ⟨rfl, hsz, hP, hK, hD0, hG⟩ := hv
  have hx := B.exec
  have hb := B.bytes
  have hr := B.returns
  have hts := atoms_spec (ws := z_L_name_big) B.pre
  have htab : c.exceptionTable.toList = tableOf [(0, 9, 12, 19), (0, 9, 15, 13)] := vx_table (x := yL_name) B (hts _ List.mem_cons_self)
  have hown : s.vm.findClass RL = some m.cls := findClass_of_methodNamed B.named
  have hlocks := B.notSynchronized
  subst hsz
  have hD := hD0.self (sz := s.heap.size)
  generalize hAe : va_A [(h0, .inr (8, [.ref rp, .int 0, .ref rt, .ref rc, .int ((-1)), .ref r1, .ref r2, .ref r3, .ref r4, .null, .int 0]))] s.heap.size = A at hD hG ⊢
  have hA : ∀ q : Nat, s.heap.size ≤ q → A q := fun q h => by rw [← hAe]; exact Or.inr h
  have hS : va_S A s.heap s.heap [] := va_S.rf
  have hl := lv_entry ([.ref h0, .int p0, .ref ho]) (n := 4) (Nat.le_of_ble_eq_true rfl)
  rw [lg_entry_eq]
  generalize (lg_sl ([.ref h0, .int p0, .ref ho]) ++ List.replicate (4 - (lg_sl ([.ref h0, .int p0, .ref ho])).length) Slot.unset).toArray = ls at hl ⊢
  have hl : lv_has ls 4 [(0, .ref h0), (1, .int p0), (2, .ref ho)] := hl
  refine lv_aload_n hx hb dL_name_0 rfl (lv_at hl 2 rfl) ?_
  refine lv_iconst (v := 0) hx hb dL_name_1 (by decide) ?_
  refine lv_aload_n hx hb dL_name_2 rfl (lv_at hl 0 rfl) ?_
  refine lv_iload_n hx hb dL_name_3 rfl (lv_at hl 1 rfl) ?_
  have hPc := hP.sub (ws' := [(h0, .inr (8, [.ref rp, .int 0, .ref rt, .ref rc, .int ((-1)), .ref r1, .ref r2, .ref r3, .ref r4, .null, .int 0]))]) [0] rfl
  have hDc := hD.sub (ws' := [(h0, .inr (8, [.ref rp, .int 0, .ref rt, .ref rc, .int ((-1)), .ref r1, .ref r2, .ref r3, .ref r4, .null, .int 0]))]) [0] (by decide) rfl
  have hKc := hK.sub (tys' := []) [] rfl
  have hFc := va_free (wc := [(h0, .inr (8, [.ref rp, .int 0, .ref rt, .ref rc, .int ((-1)), .ref r1, .ref r2, .ref r3, .ref r4, .null, .int 0]))]) hD hS hA [0] rfl
  refine vx_calli (vx_runV (As := [.int p0]) (rest := [.int 0, .ref ho]) ⟨hx, hb, hml, hown, hts⟩ (c_X_name_big l dC dI tp te s.heap.size hlt h0 rp rt rc r1 r2 r3 r4 p0 hvn hvb hvc) (cwV 1 hts g_L_name_big_4 rfl rfl rfl (by decide +kernel) ⟨Nat.le_of_ble_eq_true rfl, Nat.le_of_ble_eq_true rfl⟩) ⟨Pw.blind, va_recv hKc hPc (ci := 8) (q0 := 0) rfl rfl, Pw.mk hPc hKc hDc hG hS hFc⟩ rfl rfl hl.1 rfl (lv_room (Nat.le_of_ble_eq_true rfl)) dL_name_4 ⟨Nat.le_of_ble_eq_true rfl, Nat.le_of_ble_eq_true rfl⟩) hS (fun q _ h => hFc q h) hFc (fun q _ h => hFc q h) (fun E ce q9 u t9 H_1 locs ht hvm hpx hBX hz1 hk1 hS hce hcv hcl => ?_) (fun r u t9 H1 locs ht hvm hw hB hz1 hk1 hS => hw.elim)
  have hBX : E = "java/lang/IndexOutOfBoundsException" := hBX
  subst hBX
  refine vx_catch hown [] ⟨0, 9, 12, 19⟩ [⟨0, 9, 15, 13⟩] htab (fun z9 h9 => nomatch h9) (by decide) (by decide) (hts (.classLink RL 19 "java/lang/IndexOutOfBoundsException") (List.mem_of_getElem? (i := 11) rfl)) (va_Nw.use rfl hG.2.2.2.2.2.2.2.1) hce hcv hcl ?_
  obtain ⟨hP, hD⟩ := va_join (wr := []) (w1 := []) hP hD [0] [] rfl rfl (by decide) (by decide) hk1 hFc va_P.nil va_D.nil
  have hK := hK.sub (tys' := []) [] rfl
  have hP : va_P (dC, dI) vwCl [] H_1 := hP
  have hD : va_D A [] := hD
  have hK : va_K (dC, dI) vwCl [] s := hK
  refine W.widen (k := 1) (n := 6) (Nat.le_of_ble_eq_true rfl) (Nat.le_of_ble_eq_true rfl) ?_
  refine lv_astore_n (lv' := [(3, .ref q9), (0, .ref h0), (1, .int p0), (2, .ref ho)]) hx hb dL_name_12 rfl hl (by decide) rfl (fun ls hl => ?_)
  refine lv_iconst (v := 1) hx hb dL_name_13 (by decide) ?_
  refine vx_ret ?_
  refine W.widen (k := 1) (n := 6) (Nat.le_of_ble_eq_true rfl) (Nat.le_of_ble_eq_true rfl) ?_
  exact W.iret (v := 1) hx hb hr (fun t ht hW => ⟨⟨1, (), rfl, rfl, trivial⟩, hS.F ht⟩) hS.2.2 dL_name_14

set_option maxRecDepth 20000 in
def z_L_function_neg : List Cond := .codeWith yL_function cL_function 4 (some .int) [(0, 9, 12, 19), (0, 9, 15, 13)] :: (([.methodLink RL 21 yX7_function, .instanceMethod yX7_function, .selects RX7 yX7_function yX7_function, .initialized RX7, .code yX7_function cX7_function 2 (some .int), .methodLink RX7 62 yX7_checkName, .static yX7_checkName, .code yX7_checkName cX7_checkName 1 none, .classLink RX7 107 "java/lang/IndexOutOfBoundsException", .initialized "java/lang/IndexOutOfBoundsException", .classLink RL 19 "java/lang/IndexOutOfBoundsException", .classLink RL 13 "java/lang/IllegalStateException"] : List Cond) ++ (vx_at0 RX7 109 "java/lang/IndexOutOfBoundsException" ["java/lang/RuntimeException", "java/lang/Exception"]).filter goodWord)
set_option maxRecDepth 20000 in
theorem gg_L_function_neg_4 : GoodIn z_L_function_neg z_X_function_neg := goodIn_ca (goodIn_p _ [5, 8] rfl (by decide +kernel)) (goodIn_sub (fun _ h => List.mem_cons_of_mem _ (List.mem_append_right _ (h))) (by decide +kernel))
set_option maxRecDepth 20000 in
theorem g_L_function_neg_4 : GoodIn z_L_function_neg (wsV RL 21 RX7 yX7_function z_X_function_neg) := goodIn_app (goodIn_of _ (by decide +kernel)) gg_L_function_neg_4
set_option maxHeartbeats 4000000 in
set_option maxRecDepth 100000 in
theorem c_L_function_neg (l : Launch) (dC : Nat → ClassId) (dI : Nat → Nat → Nat) (tp te : Nat) (sz : Nat) (hlt : l.stackTraces = false) (h0 : Nat) (rp : Nat) (rt : Nat) (rc : Nat) (r1 : Nat) (r2 : Nat) (r3 : Nat) (r4 : Nat) (p0 : Int32) (ho : Nat) (hvn : p0 < 0) : vx_Met l yL_function z_L_function_neg ({ frames := 8, cells := 1, slots := 6, locals := 122 }) (va_Pc [.ref h0, .int p0, .ref ho] (Pw dC dI [(h0, .inr (8, [.ref rp, .int 0, .ref rt, .ref rc, .int ((-1)), .ref r1, .ref r2, .ref r3, .ref r4, .null, .int 0]))] [] sz tp te)) (va_Qi (fun (r : Int32) (_ : Unit) => r = 1) (fun (_ : Unit) (_ : State) => True) (va_A [(h0, .inr (8, [.ref rp, .int 0, .ref rt, .ref rc, .int ((-1)), .ref r1, .ref r2, .ref r3, .ref r4, .null, .int 0]))] sz)) (vx_X (fun (_ : Unit) => False) (fun (E : String) (_ : Unit) (_ : State) => E = "") (va_A [(h0, .inr (8, [.ref rp, .int 0, .ref rt, .ref rc, .int ((-1)), .ref r1, .ref r2, .ref r3, .ref r4, .null, .int 0]))] sz)) 1 6 (va_A [(h0, .inr (8, [.ref rp, .int 0, .ref rt, .ref rc, .int ((-1)), .ref r1, .ref r2, .ref r3, .ref r4, .null, .int 0]))] sz) := by
  refine vx_ofWH (cc := cL_function) (maxL := 4) (ret := (some .int)) (hh := [(0, 9, 12, 19), (0, 9, 15, 13)]) (by decide) rfl ?_
  intro p e s m args below meth c s₁ B hml hv
  obtain ⟨rfl, hsz, hP, hK, hD0, hG⟩ := hv
  have hx := B.exec
  have hb := B.bytes
  have hr := B.returns
  have hts := atoms_spec (ws := z_L_function_neg) B.pre
  have htab : c.exceptionTable.toList = tableOf [(0, 9, 12, 19), (0, 9, 15, 13)] := vx_table (x := yL_function) B (hts _ List.mem_cons_self)
  have hown : s.vm.findClass RL = some m.cls := findClass_of_methodNamed B.named
  have hlocks := B.notSynchronized
  subst hsz
  have hD := hD0.self (sz := s.heap.size)
  generalize hAe : va_A [(h0, .inr (8, [.ref rp, .int 0, .ref rt, .ref rc, .int ((-1)), .ref r1, .ref r2, .ref r3, .ref r4, .null, .int 0]))] s.heap.size = A at hD hG ⊢
  have hA : ∀ q : Nat, s.heap.size ≤ q → A q := fun q h => by rw [← hAe]; exact Or.inr h
  have hS : va_S A s.heap s.heap [] := va_S.rf
  have hl := lv_entry ([.ref h0, .int p0, .ref ho]) (n := 4) (Nat.le_of_ble_eq_true rfl)
  rw [lg_entry_eq]
  generalize (lg_sl ([.ref h0, .int p0, .ref ho]) ++ List.replicate (4 - (lg_sl ([.ref h0, .int p0, .ref ho])).length) Slot.unset).toArray = ls at hl ⊢
  have hl : lv_has ls 4 [(0, .ref h0), (1, .int p0), (2, .ref ho)] := hl
  refine lv_aload_n hx hb dL_function_0 rfl (lv_at hl 2 rfl) ?_
  refine lv_iconst (v := 0) hx hb dL_function_1 (by decide) ?_
  refine lv_aload_n hx hb dL_function_2 rfl (lv_at hl 0 rfl) ?_
  refine lv_iload_n hx hb dL_function_3 rfl (lv_at hl 1 rfl) ?_
  have hPc := hP.sub (ws' := [(h0, .inr (8, [.ref rp, .int 0, .ref rt, .ref rc, .int ((-1)), .ref r1, .ref r2, .ref r3, .ref r4, .null, .int 0]))]) [0] rfl
  have hDc := hD.sub (ws' := [(h0, .inr (8, [.ref rp, .int 0, .ref rt, .ref rc, .int ((-1)), .ref r1, .ref r2, .ref r3, .ref r4, .null, .int 0]))]) [0] (by decide) rfl
  have hKc := hK.sub (tys' := []) [] rfl
  have hFc := va_free (wc := [(h0, .inr (8, [.ref rp, .int 0, .ref rt, .ref rc, .int ((-1)), .ref r1, .ref r2, .ref r3, .ref r4, .null, .int 0]))]) hD hS hA [0] rfl
  refine vx_calli (vx_runV (As := [.int p0]) (rest := [.int 0, .ref ho]) ⟨hx, hb, hml, hown, hts⟩ (c_X_function_neg l dC dI tp te s.heap.size hlt h0 rp rt rc r1 r2 r3 r4 p0 hvn) (cwV 1 hts g_L_function_neg_4 rfl rfl rfl (by decide +kernel) ⟨Nat.le_of_ble_eq_true rfl, Nat.le_of_ble_eq_true rfl⟩) ⟨Pw.blind, va_recv hKc hPc (ci := 8) (q0 := 0) rfl rfl, Pw.mk hPc hKc hDc hG hS hFc⟩ rfl rfl hl.1 rfl (lv_room (Nat.le_of_ble_eq_true rfl)) dL_function_4 ⟨Nat.le_of_ble_eq_true rfl, Nat.le_of_ble_eq_true rfl⟩) hS (fun q _ h => hFc q h) hFc (fun q _ h => hFc q h) (fun E ce q9 u t9 H_1 locs ht hvm hpx hBX hz1 hk1 hS hce hcv hcl => ?_) (fun r u t9 H1 locs ht hvm hw hB hz1 hk1 hS => hw.elim)
  have hBX : E = "java/lang/IndexOutOfBoundsException" := hBX
  subst hBX
  refine vx_catch hown [] ⟨0, 9, 12, 19⟩ [⟨0, 9, 15, 13⟩] htab (fun z9 h9 => nomatch h9) (by decide) (by decide) (hts (.classLink RL 19 "java/lang/IndexOutOfBoundsException") (List.mem_of_getElem? (i := 11) rfl)) (va_Nw.use rfl hG.2.2.2.2.2.2.2.1) hce hcv hcl ?_
  obtain ⟨hP, hD⟩ := va_join (wr := []) (w1 := []) hP hD [0] [] rfl rfl (by decide) (by decide) hk1 hFc va_P.nil va_D.nil
  have hK := hK.sub (tys' := []) [] rfl
  have hP : va_P (dC, dI) vwCl [] H_1 := hP
  have hD : va_D A [] := hD
  have hK : va_K (dC, dI) vwCl [] s := hK
  refine W.widen (k := 1) (n := 6) (Nat.le_of_ble_eq_true rfl) (Nat.le_of_ble_eq_true rfl) ?_
  refine lv_astore_n (lv' := [(3, .ref q9), (0, .ref h0), (1, .int p0), (2, .ref ho)]) hx hb dL_function_12 rfl hl (by decide) rfl (fun ls hl => ?_)
  refine lv_iconst (v := 1) hx hb dL_function_13 (by decide) ?_
  refine vx_ret ?_
  refine W.widen (k := 1) (n := 6) (Nat.le_of_ble_eq_true rfl) (Nat.le_of_ble_eq_true rfl) ?_
  exact W.iret (v := 1) hx hb hr (fun t ht hW => ⟨⟨1, (), rfl, rfl, trivial⟩, hS.F ht⟩) hS.2.2 dL_function_14

set_option maxRecDepth 20000 in
def z_L_function_big : List Cond := .codeWith yL_function cL_function 4 (some .int) [(0, 9, 12, 19), (0, 9, 15, 13)] :: (([.methodLink RL 21 yX7_function, .instanceMethod yX7_function, .selects RX7 yX7_function yX7_function, .initialized RX7, .code yX7_function cX7_function 2 (some .int), .methodLink RX7 62 yX7_checkName, .static yX7_checkName, .code yX7_checkName cX7_checkName 1 none, .classLink RX7 107 "java/lang/IndexOutOfBoundsException", .initialized "java/lang/IndexOutOfBoundsException", .classLink RL 19 "java/lang/IndexOutOfBoundsException", .classLink RL 13 "java/lang/IllegalStateException"] : List Cond) ++ (vx_at0 RX7 109 "java/lang/IndexOutOfBoundsException" ["java/lang/RuntimeException", "java/lang/Exception"]).filter goodWord)
set_option maxRecDepth 20000 in
theorem gg_L_function_big_4 : GoodIn z_L_function_big z_X_function_big := goodIn_ca (goodIn_p _ [5, 8] rfl (by decide +kernel)) (goodIn_sub (fun _ h => List.mem_cons_of_mem _ (List.mem_append_right _ (h))) (by decide +kernel))
set_option maxRecDepth 20000 in
theorem g_L_function_big_4 : GoodIn z_L_function_big (wsV RL 21 RX7 yX7_function z_X_function_big) := goodIn_app (goodIn_of _ (by decide +kernel)) gg_L_function_big_4
set_option maxHeartbeats 4000000 in
set_option maxRecDepth 100000 in
theorem c_L_function_big (l : Launch) (dC : Nat → ClassId) (dI : Nat → Nat → Nat) (tp te : Nat) (sz : Nat) (hlt : l.stackTraces = false) (h0 : Nat) (rp : Nat) (rt : Nat) (rc : Nat) (r1 : Nat) (r2 : Nat) (r3 : Nat) (r4 : Nat) (p0 : Int32) (ho : Nat) (hvn : ¬ p0 < 0) (hvb : ¬ p0 < 10) (hvc : 10 ≤ p0) : vx_Met l yL_function z_L_function_big ({ frames := 8, cells := 1, slots := 6, locals := 122 }) (va_Pc [.ref h0, .int p0, .ref ho] (Pw dC dI [(h0, .inr (8, [.ref rp, .int 0, .ref rt, .ref rc, .int ((-1)), .ref r1, .ref r2, .ref r3, .ref r4, .null, .int 0]))] [] sz tp te)) (va_Qi (fun (r : Int32) (_ : Unit) => r = 1) (fun (_ : Unit) (_ : State) => True) (va_A [(h0, .inr (8, [.ref rp, .int 0, .ref rt, .ref rc, .int ((-1)), .ref r1, .ref r2, .ref r3, .ref r4, .null, .int 0]))] sz)) (vx_X (fun (_ : Unit) => False) (fun (E : String) (_ : Unit) (_ : State) => E = "") (va_A [(h0, .inr (8, [.ref rp, .int 0, .ref rt, .ref rc, .int ((-1)), .ref r1, .ref r2, .ref r3, .ref r4, .null, .int 0]))] sz)) 1 6 (va_A [(h0, .inr (8, [.ref rp, .int 0, .ref rt, .ref rc, .int ((-1)), .ref r1, .ref r2, .ref r3, .ref r4, .null, .int 0]))] sz) := by
  refine vx_ofWH (cc := cL_function) (maxL := 4) (ret := (some .int)) (hh := [(0, 9, 12, 19), (0, 9, 15, 13)]) (by decide) rfl ?_
  intro p e s m args below meth c s₁ B hml hv
  obtain ⟨rfl, hsz, hP, hK, hD0, hG⟩ := hv
  have hx := B.exec
  have hb := B.bytes
  have hr := B.returns
  have hts := atoms_spec (ws := z_L_function_big) B.pre
  have htab : c.exceptionTable.toList = tableOf [(0, 9, 12, 19), (0, 9, 15, 13)] := vx_table (x := yL_function) B (hts _ List.mem_cons_self)
  have hown : s.vm.findClass RL = some m.cls := findClass_of_methodNamed B.named
  have hlocks := B.notSynchronized
  subst hsz
  have hD := hD0.self (sz := s.heap.size)
  generalize hAe : va_A [(h0, .inr (8, [.ref rp, .int 0, .ref rt, .ref rc, .int ((-1)), .ref r1, .ref r2, .ref r3, .ref r4, .null, .int 0]))] s.heap.size = A at hD hG ⊢
  have hA : ∀ q : Nat, s.heap.size ≤ q → A q := fun q h => by rw [← hAe]; exact Or.inr h
  have hS : va_S A s.heap s.heap [] := va_S.rf
  have hl := lv_entry ([.ref h0, .int p0, .ref ho]) (n := 4) (Nat.le_of_ble_eq_true rfl)
  rw [lg_entry_eq]
  generalize (lg_sl ([.ref h0, .int p0, .ref ho]) ++ List.replicate (4 - (lg_sl ([.ref h0, .int p0, .ref ho])).length) Slot.unset).toArray = ls at hl ⊢
  have hl : lv_has ls 4 [(0, .ref h0), (1, .int p0), (2, .ref ho)] := hl
  refine lv_aload_n hx hb dL_function_0 rfl (lv_at hl 2 rfl) ?_
  refine lv_iconst (v := 0) hx hb dL_function_1 (by decide) ?_
  refine lv_aload_n hx hb dL_function_2 rfl (lv_at hl 0 rfl) ?_
  refine lv_iload_n hx hb dL_function_3 rfl (lv_at hl 1 rfl) ?_
  have hPc := hP.sub (ws' := [(h0, .inr (8, [.ref rp, .int 0, .ref rt, .ref rc, .int ((-1)), .ref r1, .ref r2, .ref r3, .ref r4, .null, .int 0]))]) [0] rfl
  have hDc := hD.sub (ws' := [(h0, .inr (8, [.ref rp, .int 0, .ref rt, .ref rc, .int ((-1)), .ref r1, .ref r2, .ref r3, .ref r4, .null, .int 0]))]) [0] (by decide) rfl
  have hKc := hK.sub (tys' := []) [] rfl
  have hFc := va_free (wc := [(h0, .inr (8, [.ref rp, .int 0, .ref rt, .ref rc, .int ((-1)), .ref r1, .ref r2, .ref r3, .ref r4, .null, .int 0]))]) hD hS hA [0] rfl
  refine vx_calli (vx_runV (As := [.int p0]) (rest := [.int 0, .ref ho]) ⟨hx, hb, hml, hown, hts⟩ (c_X_function_big l dC dI tp te s.heap.size hlt h0 rp rt rc r1 r2 r3 r4 p0 hvn hvb hvc) (cwV 1 hts g_L_function_big_4 rfl rfl rfl (by decide +kernel) ⟨Nat.le_of_ble_eq_true rfl, Nat.le_of_ble_eq_true rfl⟩) ⟨Pw.blind, va_recv hKc hPc (ci := 8) (q0 := 0) rfl rfl, Pw.mk hPc hKc hDc hG hS hFc⟩ rfl rfl hl.1 rfl (lv_room (Nat.le_of_ble_eq_true rfl)) dL_function_4 ⟨Nat.le_of_ble_eq_true rfl, Nat.le_of_ble_eq_true rfl⟩) hS (fun q _ h => hFc q h) hFc (fun q _ h => hFc q h) (fun E ce q9 u t9 H_1 locs ht hvm hpx hBX hz1 hk1 hS hce hcv hcl => ?_) (fun r u t9 H1 locs ht hvm hw hB hz1 hk1 hS => hw.elim)
  have hBX : E = "java/lang/IndexOutOfBoundsException" := hBX
  subst hBX
  refine vx_catch hown [] ⟨0, 9, 12, 19⟩ [⟨0, 9, 15, 13⟩] htab (fun z9 h9 => nomatch h9) (by decide) (by decide) (hts (.classLink RL 19 "java/lang/IndexOutOfBoundsException") (List.mem_of_getElem? (i := 11) rfl)) (va_Nw.use rfl hG.2.2.2.2.2.2.2.1) hce hcv hcl ?_
  obtain ⟨hP, hD⟩ := va_join (wr := []) (w1 := []) hP hD [0] [] rfl rfl (by decide) (by decide) hk1 hFc va_P.nil va_D.nil
  have hK := hK.sub (tys' := []) [] rfl
  have hP : va_P (dC, dI) vwCl [] H_1 := hP
  have hD : va_D A [] := hD
  have hK : va_K (dC, dI) vwCl [] s := hK
  refine W.widen (k := 1) (n := 6) (Nat.le_of_ble_eq_true rfl) (Nat.le_of_ble_eq_true rfl) ?_
  refine lv_astore_n (lv' := [(3, .ref q9), (0, .ref h0), (1, .int p0), (2, .ref ho)]) hx hb dL_function_12 rfl hl (by decide) rfl (fun ls hl => ?_)
  refine lv_iconst (v := 1) hx hb dL_function_13 (by decide) ?_
  refine vx_ret ?_
  refine W.widen (k := 1) (n := 6) (Nat.le_of_ble_eq_true rfl) (Nat.le_of_ble_eq_true rfl) ?_
  exact W.iret (v := 1) hx hb hr (fun t ht hW => ⟨⟨1, (), rfl, rfl, trivial⟩, hS.F ht⟩) hS.2.2 dL_function_14

set_option maxRecDepth 20000 in
def z_L_function_ok : List Cond := .codeWith yL_function cL_function 4 (some .int) [(0, 9, 12, 19), (0, 9, 15, 13)] :: (([.methodLink RL 21 yX7_function, .instanceMethod yX7_function, .selects RX7 yX7_function yX7_function, .initialized RX7, .code yX7_function cX7_function 2 (some .int), .methodLink RX7 62 yX7_checkName, .static yX7_checkName, .code yX7_checkName cX7_checkName 1 none, .methodLink RX7 65 yX7_join, .instanceMethod yX7_join, .selects RX7 yX7_join yX7_join, .code yX7_join cX7_join 5 (some .int), .methodLink RX7 173 yX5_partsOf, .static yX5_partsOf, .initialized RX5, .code yX5_partsOf cX5_partsOf 1 (some .int), .fieldLink RX5 34 "Selfkindle$Term" "PARTS_OF" "[I", .fieldLink RX7 72 "Selfkindle" "height" "I", .classLink RX7 75 "java/lang/IllegalStateException", .initialized "java/lang/IllegalStateException", .classLink RL 19 "java/lang/IndexOutOfBoundsException", .classLink RL 13 "java/lang/IllegalStateException"] : List Cond) ++ wsX70 ++ (vx_at0 RX7 77 "java/lang/IllegalStateException" ["java/lang/RuntimeException", "java/lang/Exception"]).filter goodWord)
theorem in_z_L_function_ok_X7 : ∀ w ∈ wsX70, w ∈ z_L_function_ok := fun w h => List.mem_cons_of_mem _ (List.mem_append_left _ (List.mem_append_right _ (h)))
set_option maxRecDepth 20000 in
theorem gg_L_function_ok_4 : GoodIn z_L_function_ok z_X_function_ok := goodIn_ca (goodIn_p _ [5, 8, 12, 16] rfl (by decide +kernel)) (goodIn_sub (fun _ h => List.mem_cons_of_mem _ (List.mem_append_right _ (h))) (by decide +kernel))
set_option maxRecDepth 20000 in
theorem g_L_function_ok_4 : GoodIn z_L_function_ok (wsV RL 21 RX7 yX7_function z_X_function_ok) := goodIn_app (goodIn_of _ (by decide +kernel)) gg_L_function_ok_4
set_option maxHeartbeats 4000000 in
set_option maxRecDepth 100000 in
theorem c_L_function_ok (l : Launch) (dC : Nat → ClassId) (dI : Nat → Nat → Nat) (tp te : Nat) (sz : Nat) (hlt : l.stackTraces = false) (h0 : Nat) (rp : Nat) (rt : Nat) (rc : Nat) (r1 : Nat) (r2 : Nat) (r3 : Nat) (r4 : Nat) (p0 : Int32) (ho : Nat) (hvn : ¬ p0 < 0) (hvb : p0 < 10) (hvc : ¬ 10 ≤ p0) : vx_Met l yL_function z_L_function_ok ({ frames := 8, cells := 1, slots := 6, locals := 126 }) (va_Pc [.ref h0, .int p0, .ref ho] (Pw dC dI [(h0, .inr (8, [.ref rp, .int 0, .ref rt, .ref rc, .int ((-1)), .ref r1, .ref r2, .ref r3, .ref r4, .null, .int 0]))] [] sz tp te)) (va_Qi (fun (r : Int32) (_ : Unit) => r = 2) (fun (_ : Unit) (_ : State) => True) (va_A [(h0, .inr (8, [.ref rp, .int 0, .ref rt, .ref rc, .int ((-1)), .ref r1, .ref r2, .ref r3, .ref r4, .null, .int 0]))] sz)) (vx_X (fun (_ : Unit) => False) (fun (E : String) (_ : Unit) (_ : State) => E = "") (va_A [(h0, .inr (8, [.ref rp, .int 0, .ref rt, .ref rc, .int ((-1)), .ref r1, .ref r2, .ref r3, .ref r4, .null, .int 0]))] sz)) 1 6 (va_A [(h0, .inr (8, [.ref rp, .int 0, .ref rt, .ref rc, .int ((-1)), .ref r1, .ref r2, .ref r3, .ref r4, .null, .int 0]))] sz) := by
  refine vx_ofWH (cc := cL_function) (maxL := 4) (ret := (some .int)) (hh := [(0, 9, 12, 19), (0, 9, 15, 13)]) (by decide) rfl ?_
  intro p e s m args below meth c s₁ B hml hv
  obtain ⟨rfl, hsz, hP, hK, hD0, hG⟩ := hv
  have hx := B.exec
  have hb := B.bytes
  have hr := B.returns
  have hts := atoms_spec (ws := z_L_function_ok) B.pre
  have htab : c.exceptionTable.toList = tableOf [(0, 9, 12, 19), (0, 9, 15, 13)] := vx_table (x := yL_function) B (hts _ List.mem_cons_self)
  have hown : s.vm.findClass RL = some m.cls := findClass_of_methodNamed B.named
  have hlocks := B.notSynchronized
  subst hsz
  have hD := hD0.self (sz := s.heap.size)
  generalize hAe : va_A [(h0, .inr (8, [.ref rp, .int 0, .ref rt, .ref rc, .int ((-1)), .ref r1, .ref r2, .ref r3, .ref r4, .null, .int 0]))] s.heap.size = A at hD hG ⊢
  have hA : ∀ q : Nat, s.heap.size ≤ q → A q := fun q h => by rw [← hAe]; exact Or.inr h
  have hS : va_S A s.heap s.heap [] := va_S.rf
  have hl := lv_entry ([.ref h0, .int p0, .ref ho]) (n := 4) (Nat.le_of_ble_eq_true rfl)
  rw [lg_entry_eq]
  generalize (lg_sl ([.ref h0, .int p0, .ref ho]) ++ List.replicate (4 - (lg_sl ([.ref h0, .int p0, .ref ho])).length) Slot.unset).toArray = ls at hl ⊢
  have hl : lv_has ls 4 [(0, .ref h0), (1, .int p0), (2, .ref ho)] := hl
  refine lv_aload_n hx hb dL_function_0 rfl (lv_at hl 2 rfl) ?_
  refine lv_iconst (v := 0) hx hb dL_function_1 (by decide) ?_
  refine lv_aload_n hx hb dL_function_2 rfl (lv_at hl 0 rfl) ?_
  refine lv_iload_n hx hb dL_function_3 rfl (lv_at hl 1 rfl) ?_
  have hPc := hP.sub (ws' := [(h0, .inr (8, [.ref rp, .int 0, .ref rt, .ref rc, .int ((-1)), .ref r1, .ref r2, .ref r3, .ref r4, .null, .int 0]))]) [0] rfl
  have hDc := hD.sub (ws' := [(h0, .inr (8, [.ref rp, .int 0, .ref rt, .ref rc, .int ((-1)), .ref r1, .ref r2, .ref r3, .ref r4, .null, .int 0]))]) [0] (by decide) rfl
  have hKc := hK.sub (tys' := []) [] rfl
  have hFc := va_free (wc := [(h0, .inr (8, [.ref rp, .int 0, .ref rt, .ref rc, .int ((-1)), .ref r1, .ref r2, .ref r3, .ref r4, .null, .int 0]))]) hD hS hA [0] rfl
  refine vx_calli (vx_runV (As := [.int p0]) (rest := [.int 0, .ref ho]) ⟨hx, hb, hml, hown, hts⟩ (c_X_function_ok l dC dI tp te s.heap.size hlt h0 rp rt rc r1 r2 r3 r4 p0 hvn hvb hvc) (cwV 1 hts g_L_function_ok_4 rfl rfl rfl (by decide +kernel) ⟨Nat.le_of_ble_eq_true rfl, Nat.le_of_ble_eq_true rfl⟩) ⟨Pw.blind, va_recv hKc hPc (ci := 8) (q0 := 0) rfl rfl, Pw.mk hPc hKc hDc hG hS hFc⟩ rfl rfl hl.1 rfl (lv_room (Nat.le_of_ble_eq_true rfl)) dL_function_4 ⟨Nat.le_of_ble_eq_true rfl, Nat.le_of_ble_eq_true rfl⟩) hS (fun q _ h => hFc q h) hFc (fun q _ h => hFc q h) (fun E ce q9 u t9 H_1 locs ht hvm hpx hBX hz1 hk1 hS hce hcv hcl => ?_) (fun r u t9 H1 locs ht hvm hw hB hz1 hk1 hS => hw.elim)
  have hBX : E = "java/lang/IllegalStateException" := hBX
  subst hBX
  refine vx_catch hown [⟨0, 9, 12, 19⟩] ⟨0, 9, 15, 13⟩ [] htab (fun z9 h9 => by rw [List.mem_singleton.mp h9]; exact Or.inr ⟨by decide, "java/lang/IndexOutOfBoundsException", (hts (.classLink RL 19 "java/lang/IndexOutOfBoundsException") (List.mem_of_getElem? (i := 21) rfl)), hG.2.2.2.2.2.2.2.2.2.2.1⟩) (by decide) (by decide) (hts (.classLink RL 13 "java/lang/IllegalStateException") (List.mem_of_getElem? (i := 22) rfl)) (va_Nw.use rfl hG.2.2.2.2.2.2.1) hce hcv hcl ?_
  obtain ⟨hP, hD⟩ := va_join (wr := []) (w1 := []) hP hD [0] [] rfl rfl (by decide) (by decide) hk1 hFc va_P.nil va_D.nil
  have hK := hK.sub (tys' := []) [] rfl
  have hP : va_P (dC, dI) vwCl [] H_1 := hP
  have hD : va_D A [] := hD
  have hK : va_K (dC, dI) vwCl [] s := hK
  refine W.widen (k := 1) (n := 6) (Nat.le_of_ble_eq_true rfl) (Nat.le_of_ble_eq_true rfl) ?_
  refine lv_astore_n (lv' := [(3, .ref q9), (0, .ref h0), (1, .int p0), (2, .ref ho)]) hx hb dL_function_15 rfl hl (by decide) rfl (fun ls hl => ?_)
  refine lv_iconst (v := 2) hx hb dL_function_16 (by decide) ?_
  refine vx_ret ?_
  refine W.widen (k := 1) (n := 6) (Nat.le_of_ble_eq_true rfl) (Nat.le_of_ble_eq_true rfl) ?_
  exact W.iret (v := 2) hx hb hr (fun t ht hW => ⟨⟨2, (), rfl, rfl, trivial⟩, hS.F ht⟩) hS.2.2 dL_function_17

set_option maxRecDepth 20000 in
def z_L_let_neg : List Cond := .codeWith yL_let cL_let 4 (some .int) [(0, 9, 12, 19), (0, 9, 15, 13)] :: (([.methodLink RL 36 yX7_let, .instanceMethod yX7_let, .selects RX7 yX7_let yX7_let, .initialized RX7, .code yX7_let cX7_let 2 (some .int), .methodLink RX7 62 yX7_checkName, .static yX7_checkName, .code yX7_checkName cX7_checkName 1 none, .classLink RX7 107 "java/lang/IndexOutOfBoundsException", .initialized "java/lang/IndexOutOfBoundsException", .classLink RL 19 "java/lang/IndexOutOfBoundsException", .classLink RL 13 "java/lang/IllegalStateException"] : List Cond) ++ (vx_at0 RX7 109 "java/lang/IndexOutOfBoundsException" ["java/lang/RuntimeException", "java/lang/Exception"]).filter goodWord)
set_option maxRecDepth 20000 in
theorem gg_L_let_neg_4 : GoodIn z_L_let_neg z_X_let_neg := goodIn_ca (goodIn_p _ [5, 8] rfl (by decide +kernel)) (goodIn_sub (fun _ h => List.mem_cons_of_mem _ (List.mem_append_right _ (h))) (by decide +kernel))
set_option maxRecDepth 20000 in
theorem g_L_let_neg_4 : GoodIn z_L_let_neg (wsV RL 36 RX7 yX7_let z_X_let_neg) := goodIn_app (goodIn_of _ (by decide +kernel)) gg_L_let_neg_4
set_option maxHeartbeats 4000000 in
set_option maxRecDepth 100000 in
theorem c_L_let_neg (l : Launch) (dC : Nat → ClassId) (dI : Nat → Nat → Nat) (tp te : Nat) (sz : Nat) (hlt : l.stackTraces = false) (h0 : Nat) (rp : Nat) (rt : Nat) (rc : Nat) (r1 : Nat) (r2 : Nat) (r3 : Nat) (r4 : Nat) (p0 : Int32) (ho : Nat) (hvn : p0 < 0) : vx_Met l yL_let z_L_let_neg ({ frames := 8, cells := 1, slots := 6, locals := 122 }) (va_Pc [.ref h0, .int p0, .ref ho] (Pw dC dI [(h0, .inr (8, [.ref rp, .int 0, .ref rt, .ref rc, .int ((-1)), .ref r1, .ref r2, .ref r3, .ref r4, .null, .int 0]))] [] sz tp te)) (va_Qi (fun (r : Int32) (_ : Unit) => r = 1) (fun (_ : Unit) (_ : State) => True) (va_A [(h0, .inr (8, [.ref rp, .int 0, .ref rt, .ref rc, .int ((-1)), .ref r1, .ref r2, .ref r3, .ref r4, .null, .int 0]))] sz)) (vx_X (fun (_ : Unit) => False) (fun (E : String) (_ : Unit) (_ : State) => E = "") (va_A [(h0, .inr (8, [.ref rp, .int 0, .ref rt, .ref rc, .int ((-1)), .ref r1, .ref r2, .ref r3, .ref r4, .null, .int 0]))] sz)) 1 6 (va_A [(h0, .inr (8, [.ref rp, .int 0, .ref rt, .ref rc, .int ((-1)), .ref r1, .ref r2, .ref r3, .ref r4, .null, .int 0]))] sz) := by
  refine vx_ofWH (cc := cL_let) (maxL := 4) (ret := (some .int)) (hh := [(0, 9, 12, 19), (0, 9, 15, 13)]) (by decide) rfl ?_
  intro p e s m args below meth c s₁ B hml hv
  obtain ⟨rfl, hsz, hP, hK, hD0, hG⟩ := hv
  have hx := B.exec
  have hb := B.bytes
  have hr := B.returns
  have hts := atoms_spec (ws := z_L_let_neg) B.pre
  have htab : c.exceptionTable.toList = tableOf [(0, 9, 12, 19), (0, 9, 15, 13)] := vx_table (x := yL_let) B (hts _ List.mem_cons_self)
  have hown : s.vm.findClass RL = some m.cls := findClass_of_methodNamed B.named
  have hlocks := B.notSynchronized
  subst hsz
  have hD := hD0.self (sz := s.heap.size)
  generalize hAe : va_A [(h0, .inr (8, [.ref rp, .int 0, .ref rt, .ref rc, .int ((-1)), .ref r1, .ref r2, .ref r3, .ref r4, .null, .int 0]))] s.heap.size = A at hD hG ⊢
  have hA : ∀ q : Nat, s.heap.size ≤ q → A q := fun q h => by rw [← hAe]; exact Or.inr h
  have hS : va_S A s.heap s.heap [] := va_S.rf
  have hl := lv_entry ([.ref h0, .int p0, .ref ho]) (n := 4) (Nat.le_of_ble_eq_true rfl)
  rw [lg_entry_eq]
  generalize (lg_sl ([.ref h0, .int p0, .ref ho]) ++ List.replicate (4 - (lg_sl ([.ref h0, .int p0, .ref ho])).length) Slot.unset).toArray = ls at hl ⊢
  have hl : lv_has ls 4 [(0, .ref h0), (1, .int p0), (2, .ref ho)] := hl
  refine lv_aload_n hx hb dL_let_0 rfl (lv_at hl 2 rfl) ?_
  refine lv_iconst (v := 0) hx hb dL_let_1 (by decide) ?_
  refine lv_aload_n hx hb dL_let_2 rfl (lv_at hl 0 rfl) ?_
  refine lv_iload_n hx hb dL_let_3 rfl (lv_at hl 1 rfl) ?_
  have hPc := hP.sub (ws' := [(h0, .inr (8, [.ref rp, .int 0, .ref rt, .ref rc, .int ((-1)), .ref r1, .ref r2, .ref r3, .ref r4, .null, .int 0]))]) [0] rfl
  have hDc := hD.sub (ws' := [(h0, .inr (8, [.ref rp, .int 0, .ref rt, .ref rc, .int ((-1)), .ref r1, .ref r2, .ref r3, .ref r4, .null, .int 0]))]) [0] (by decide) rfl
  have hKc := hK.sub (tys' := []) [] rfl
  have hFc := va_free (wc := [(h0, .inr (8, [.ref rp, .int 0, .ref rt, .ref rc, .int ((-1)), .ref r1, .ref r2, .ref r3, .ref r4, .null, .int 0]))]) hD hS hA [0] rfl
  refine vx_calli (vx_runV (As := [.int p0]) (rest := [.int 0, .ref ho]) ⟨hx, hb, hml, hown, hts⟩ (c_X_let_neg l dC dI tp te s.heap.size hlt h0 rp rt rc r1 r2 r3 r4 p0 hvn) (cwV 1 hts g_L_let_neg_4 rfl rfl rfl (by decide +kernel) ⟨Nat.le_of_ble_eq_true rfl, Nat.le_of_ble_eq_true rfl⟩) ⟨Pw.blind, va_recv hKc hPc (ci := 8) (q0 := 0) rfl rfl, Pw.mk hPc hKc hDc hG hS hFc⟩ rfl rfl hl.1 rfl (lv_room (Nat.le_of_ble_eq_true rfl)) dL_let_4 ⟨Nat.le_of_ble_eq_true rfl, Nat.le_of_ble_eq_true rfl⟩) hS (fun q _ h => hFc q h) hFc (fun q _ h => hFc q h) (fun E ce q9 u t9 H_1 locs ht hvm hpx hBX hz1 hk1 hS hce hcv hcl => ?_) (fun r u t9 H1 locs ht hvm hw hB hz1 hk1 hS => hw.elim)
  have hBX : E = "java/lang/IndexOutOfBoundsException" := hBX
  subst hBX
  refine vx_catch hown [] ⟨0, 9, 12, 19⟩ [⟨0, 9, 15, 13⟩] htab (fun z9 h9 => nomatch h9) (by decide) (by decide) (hts (.classLink RL 19 "java/lang/IndexOutOfBoundsException") (List.mem_of_getElem? (i := 11) rfl)) (va_Nw.use rfl hG.2.2.2.2.2.2.2.1) hce hcv hcl ?_
  obtain ⟨hP, hD⟩ := va_join (wr := []) (w1 := []) hP hD [0] [] rfl rfl (by decide) (by decide) hk1 hFc va_P.nil va_D.nil
  have hK := hK.sub (tys' := []) [] rfl
  have hP : va_P (dC, dI) vwCl [] H_1 := hP
  have hD : va_D A [] := hD
  have hK : va_K (dC, dI) vwCl [] s := hK
  refine W.widen (k := 1) (n := 6) (Nat.le_of_ble_eq_true rfl) (Nat.le_of_ble_eq_true rfl) ?_
  refine lv_astore_n (lv' := [(3, .ref q9), (0, .ref h0), (1, .int p0), (2, .ref ho)]) hx hb dL_let_12 rfl hl (by decide) rfl (fun ls hl => ?_)
  refine lv_iconst (v := 1) hx hb dL_let_13 (by decide) ?_
  refine vx_ret ?_
  refine W.widen (k := 1) (n := 6) (Nat.le_of_ble_eq_true rfl) (Nat.le_of_ble_eq_true rfl) ?_
  exact W.iret (v := 1) hx hb hr (fun t ht hW => ⟨⟨1, (), rfl, rfl, trivial⟩, hS.F ht⟩) hS.2.2 dL_let_14

set_option maxRecDepth 20000 in
def z_L_let_big : List Cond := .codeWith yL_let cL_let 4 (some .int) [(0, 9, 12, 19), (0, 9, 15, 13)] :: (([.methodLink RL 36 yX7_let, .instanceMethod yX7_let, .selects RX7 yX7_let yX7_let, .initialized RX7, .code yX7_let cX7_let 2 (some .int), .methodLink RX7 62 yX7_checkName, .static yX7_checkName, .code yX7_checkName cX7_checkName 1 none, .classLink RX7 107 "java/lang/IndexOutOfBoundsException", .initialized "java/lang/IndexOutOfBoundsException", .classLink RL 19 "java/lang/IndexOutOfBoundsException", .classLink RL 13 "java/lang/IllegalStateException"] : List Cond) ++ (vx_at0 RX7 109 "java/lang/IndexOutOfBoundsException" ["java/lang/RuntimeException", "java/lang/Exception"]).filter goodWord)
set_option maxRecDepth 20000 in
theorem gg_L_let_big_4 : GoodIn z_L_let_big z_X_let_big := goodIn_ca (goodIn_p _ [5, 8] rfl (by decide +kernel)) (goodIn_sub (fun _ h => List.mem_cons_of_mem _ (List.mem_append_right _ (h))) (by decide +kernel))
set_option maxRecDepth 20000 in
theorem g_L_let_big_4 : GoodIn z_L_let_big (wsV RL 36 RX7 yX7_let z_X_let_big) := goodIn_app (goodIn_of _ (by decide +kernel)) gg_L_let_big_4
set_option maxHeartbeats 4000000 in
set_option maxRecDepth 100000 in
theorem c_L_let_big (l : Launch) (dC : Nat → ClassId) (dI : Nat → Nat → Nat) (tp te : Nat) (sz : Nat) (hlt : l.stackTraces = false) (h0 : Nat) (rp : Nat) (rt : Nat) (rc : Nat) (r1 : Nat) (r2 : Nat) (r3 : Nat) (r4 : Nat) (p0 : Int32) (ho : Nat) (hvn : ¬ p0 < 0) (hvb : ¬ p0 < 10) (hvc : 10 ≤ p0) : vx_Met l yL_let z_L_let_big ({ frames := 8, cells := 1, slots := 6, locals := 122 }) (va_Pc [.ref h0, .int p0, .ref ho] (Pw dC dI [(h0, .inr (8, [.ref rp, .int 0, .ref rt, .ref rc, .int ((-1)), .ref r1, .ref r2, .ref r3, .ref r4, .null, .int 0]))] [] sz tp te)) (va_Qi (fun (r : Int32) (_ : Unit) => r = 1) (fun (_ : Unit) (_ : State) => True) (va_A [(h0, .inr (8, [.ref rp, .int 0, .ref rt, .ref rc, .int ((-1)), .ref r1, .ref r2, .ref r3, .ref r4, .null, .int 0]))] sz)) (vx_X (fun (_ : Unit) => False) (fun (E : String) (_ : Unit) (_ : State) => E = "") (va_A [(h0, .inr (8, [.ref rp, .int 0, .ref rt, .ref rc, .int ((-1)), .ref r1, .ref r2, .ref r3, .ref r4, .null, .int 0]))] sz)) 1 6 (va_A [(h0, .inr (8, [.ref rp, .int 0, .ref rt, .ref rc, .int ((-1)), .ref r1, .ref r2, .ref r3, .ref r4, .null, .int 0]))] sz) := by
  refine vx_ofWH (cc := cL_let) (maxL := 4) (ret := (some .int)) (hh := [(0, 9, 12, 19), (0, 9, 15, 13)]) (by decide) rfl ?_
  intro p e s m args below meth c s₁ B hml hv
  obtain ⟨rfl, hsz, hP, hK, hD0, hG⟩ := hv
  have hx := B.exec
  have hb := B.bytes
  have hr := B.returns
  have hts := atoms_spec (ws := z_L_let_big) B.pre
  have htab : c.exceptionTable.toList = tableOf [(0, 9, 12, 19), (0, 9, 15, 13)] := vx_table (x := yL_let) B (hts _ List.mem_cons_self)
  have hown : s.vm.findClass RL = some m.cls := findClass_of_methodNamed B.named
  have hlocks := B.notSynchronized
  subst hsz
  have hD := hD0.self (sz := s.heap.size)
  generalize hAe : va_A [(h0, .inr (8, [.ref rp, .int 0, .ref rt, .ref rc, .int ((-1)), .ref r1, .ref r2, .ref r3, .ref r4, .null, .int 0]))] s.heap.size = A at hD hG ⊢
  have hA : ∀ q : Nat, s.heap.size ≤ q → A q := fun q h => by rw [← hAe]; exact Or.inr h
  have hS : va_S A s.heap s.heap [] := va_S.rf
  have hl := lv_entry ([.ref h0, .int p0, .ref ho]) (n := 4) (Nat.le_of_ble_eq_true rfl)
  rw [lg_entry_eq]
  generalize (lg_sl ([.ref h0, .int p0, .ref ho]) ++ List.replicate (4 - (lg_sl ([.ref h0, .int p0, .ref ho])).length) Slot.unset).toArray = ls at hl ⊢
  have hl : lv_has ls 4 [(0, .ref h0), (1, .int p0), (2, .ref ho)] := hl
  refine lv_aload_n hx hb dL_let_0 rfl (lv_at hl 2 rfl) ?_
  refine lv_iconst (v := 0) hx hb dL_let_1 (by decide) ?_
  refine lv_aload_n hx hb dL_let_2 rfl (lv_at hl 0 rfl) ?_
  refine lv_iload_n hx hb dL_let_3 rfl (lv_at hl 1 rfl) ?_
  have hPc := hP.sub (ws' := [(h0, .inr (8, [.ref rp, .int 0, .ref rt, .ref rc, .int ((-1)), .ref r1, .ref r2, .ref r3, .ref r4, .null, .int 0]))]) [0] rfl
  have hDc := hD.sub (ws' := [(h0, .inr (8, [.ref rp, .int 0, .ref rt, .ref rc, .int ((-1)), .ref r1, .ref r2, .ref r3, .ref r4, .null, .int 0]))]) [0] (by decide) rfl
  have hKc := hK.sub (tys' := []) [] rfl
  have hFc := va_free (wc := [(h0, .inr (8, [.ref rp, .int 0, .ref rt, .ref rc, .int ((-1)), .ref r1, .ref r2, .ref r3, .ref r4, .null, .int 0]))]) hD hS hA [0] rfl
  refine vx_calli (vx_runV (As := [.int p0]) (rest := [.int 0, .ref ho]) ⟨hx, hb, hml, hown, hts⟩ (c_X_let_big l dC dI tp te s.heap.size hlt h0 rp rt rc r1 r2 r3 r4 p0 hvn hvb hvc) (cwV 1 hts g_L_let_big_4 rfl rfl rfl (by decide +kernel) ⟨Nat.le_of_ble_eq_true rfl, Nat.le_of_ble_eq_true rfl⟩) ⟨Pw.blind, va_recv hKc hPc (ci := 8) (q0 := 0) rfl rfl, Pw.mk hPc hKc hDc hG hS hFc⟩ rfl rfl hl.1 rfl (lv_room (Nat.le_of_ble_eq_true rfl)) dL_let_4 ⟨Nat.le_of_ble_eq_true rfl, Nat.le_of_ble_eq_true rfl⟩) hS (fun q _ h => hFc q h) hFc (fun q _ h => hFc q h) (fun E ce q9 u t9 H_1 locs ht hvm hpx hBX hz1 hk1 hS hce hcv hcl => ?_) (fun r u t9 H1 locs ht hvm hw hB hz1 hk1 hS => hw.elim)
  have hBX : E = "java/lang/IndexOutOfBoundsException" := hBX
  subst hBX
  refine vx_catch hown [] ⟨0, 9, 12, 19⟩ [⟨0, 9, 15, 13⟩] htab (fun z9 h9 => nomatch h9) (by decide) (by decide) (hts (.classLink RL 19 "java/lang/IndexOutOfBoundsException") (List.mem_of_getElem? (i := 11) rfl)) (va_Nw.use rfl hG.2.2.2.2.2.2.2.1) hce hcv hcl ?_
  obtain ⟨hP, hD⟩ := va_join (wr := []) (w1 := []) hP hD [0] [] rfl rfl (by decide) (by decide) hk1 hFc va_P.nil va_D.nil
  have hK := hK.sub (tys' := []) [] rfl
  have hP : va_P (dC, dI) vwCl [] H_1 := hP
  have hD : va_D A [] := hD
  have hK : va_K (dC, dI) vwCl [] s := hK
  refine W.widen (k := 1) (n := 6) (Nat.le_of_ble_eq_true rfl) (Nat.le_of_ble_eq_true rfl) ?_
  refine lv_astore_n (lv' := [(3, .ref q9), (0, .ref h0), (1, .int p0), (2, .ref ho)]) hx hb dL_let_12 rfl hl (by decide) rfl (fun ls hl => ?_)
  refine lv_iconst (v := 1) hx hb dL_let_13 (by decide) ?_
  refine vx_ret ?_
  refine W.widen (k := 1) (n := 6) (Nat.le_of_ble_eq_true rfl) (Nat.le_of_ble_eq_true rfl) ?_
  exact W.iret (v := 1) hx hb hr (fun t ht hW => ⟨⟨1, (), rfl, rfl, trivial⟩, hS.F ht⟩) hS.2.2 dL_let_14

set_option maxRecDepth 20000 in
def z_L_let_ok : List Cond := .codeWith yL_let cL_let 4 (some .int) [(0, 9, 12, 19), (0, 9, 15, 13)] :: (([.methodLink RL 36 yX7_let, .instanceMethod yX7_let, .selects RX7 yX7_let yX7_let, .initialized RX7, .code yX7_let cX7_let 2 (some .int), .methodLink RX7 62 yX7_checkName, .static yX7_checkName, .code yX7_checkName cX7_checkName 1 none, .methodLink RX7 65 yX7_join, .instanceMethod yX7_join, .selects RX7 yX7_join yX7_join, .code yX7_join cX7_join 5 (some .int), .methodLink RX7 173 yX5_partsOf, .static yX5_partsOf, .initialized RX5, .code yX5_partsOf cX5_partsOf 1 (some .int), .fieldLink RX5 34 "Selfkindle$Term" "PARTS_OF" "[I", .fieldLink RX7 72 "Selfkindle" "height" "I", .classLink RX7 75 "java/lang/IllegalStateException", .initialized "java/lang/IllegalStateException", .classLink RL 19 "java/lang/IndexOutOfBoundsException", .classLink RL 13 "java/lang/IllegalStateException"] : List Cond) ++ wsX70 ++ (vx_at0 RX7 77 "java/lang/IllegalStateException" ["java/lang/RuntimeException", "java/lang/Exception"]).filter goodWord)
theorem in_z_L_let_ok_X7 : ∀ w ∈ wsX70, w ∈ z_L_let_ok := fun w h => List.mem_cons_of_mem _ (List.mem_append_left _ (List.mem_append_right _ (h)))
set_option maxRecDepth 20000 in
theorem gg_L_let_ok_4 : GoodIn z_L_let_ok z_X_let_ok := goodIn_ca (goodIn_p _ [5, 8, 12, 16] rfl (by decide +kernel)) (goodIn_sub (fun _ h => List.mem_cons_of_mem _ (List.mem_append_right _ (h))) (by decide +kernel))
set_option maxRecDepth 20000 in
theorem g_L_let_ok_4 : GoodIn z_L_let_ok (wsV RL 36 RX7 yX7_let z_X_let_ok) := goodIn_app (goodIn_of _ (by decide +kernel)) gg_L_let_ok_4
set_option maxHeartbeats 4000000 in
set_option maxRecDepth 100000 in
theorem c_L_let_ok (l : Launch) (dC : Nat → ClassId) (dI : Nat → Nat → Nat) (tp te : Nat) (sz : Nat) (hlt : l.stackTraces = false) (h0 : Nat) (rp : Nat) (rt : Nat) (rc : Nat) (r1 : Nat) (r2 : Nat) (r3 : Nat) (r4 : Nat) (p0 : Int32) (ho : Nat) (hvn : ¬ p0 < 0) (hvb : p0 < 10) (hvc : ¬ 10 ≤ p0) : vx_Met l yL_let z_L_let_ok ({ frames := 8, cells := 1, slots := 6, locals := 126 }) (va_Pc [.ref h0, .int p0, .ref ho] (Pw dC dI [(h0, .inr (8, [.ref rp, .int 0, .ref rt, .ref rc, .int ((-1)), .ref r1, .ref r2, .ref r3, .ref r4, .null, .int 0]))] [] sz tp te)) (va_Qi (fun (r : Int32) (_ : Unit) => r = 2) (fun (_ : Unit) (_ : State) => True) (va_A [(h0, .inr (8, [.ref rp, .int 0, .ref rt, .ref rc, .int ((-1)), .ref r1, .ref r2, .ref r3, .ref r4, .null, .int 0]))] sz)) (vx_X (fun (_ : Unit) => False) (fun (E : String) (_ : Unit) (_ : State) => E = "") (va_A [(h0, .inr (8, [.ref rp, .int 0, .ref rt, .ref rc, .int ((-1)), .ref r1, .ref r2, .ref r3, .ref r4, .null, .int 0]))] sz)) 1 6 (va_A [(h0, .inr (8, [.ref rp, .int 0, .ref rt, .ref rc, .int ((-1)), .ref r1, .ref r2, .ref r3, .ref r4, .null, .int 0]))] sz) := by
  refine vx_ofWH (cc := cL_let) (maxL := 4) (ret := (some .int)) (hh := [(0, 9, 12, 19), (0, 9, 15, 13)]) (by decide) rfl ?_
  intro p e s m args below meth c s₁ B hml hv
  obtain ⟨rfl, hsz, hP, hK, hD0, hG⟩ := hv
  have hx := B.exec
  have hb := B.bytes
  have hr := B.returns
  have hts := atoms_spec (ws := z_L_let_ok) B.pre
  have htab : c.exceptionTable.toList = tableOf [(0, 9, 12, 19), (0, 9, 15, 13)] := vx_table (x := yL_let) B (hts _ List.mem_cons_self)
  have hown : s.vm.findClass RL = some m.cls := findClass_of_methodNamed B.named
  have hlocks := B.notSynchronized
  subst hsz
  have hD := hD0.self (sz := s.heap.size)
  generalize hAe : va_A [(h0, .inr (8, [.ref rp, .int 0, .ref rt, .ref rc, .int ((-1)), .ref r1, .ref r2, .ref r3, .ref r4, .null, .int 0]))] s.heap.size = A at hD hG ⊢
  have hA : ∀ q : Nat, s.heap.size ≤ q → A q := fun q h => by rw [← hAe]; exact Or.inr h
  have hS : va_S A s.heap s.heap [] := va_S.rf
  have hl := lv_entry ([.ref h0, .int p0, .ref ho]) (n := 4) (Nat.le_of_ble_eq_true rfl)
  rw [lg_entry_eq]
  generalize (lg_sl ([.ref h0, .int p0, .ref ho]) ++ List.replicate (4 - (lg_sl ([.ref h0, .int p0, .ref ho])).length) Slot.unset).toArray = ls at hl ⊢
  have hl : lv_has ls 4 [(0, .ref h0), (1, .int p0), (2, .ref ho)] := hl
  refine lv_aload_n hx hb dL_let_0 rfl (lv_at hl 2 rfl) ?_
  refine lv_iconst (v := 0) hx hb dL_let_1 (by decide) ?_
  refine lv_aload_n hx hb dL_let_2 rfl (lv_at hl 0 rfl) ?_
  refine lv_iload_n hx hb dL_let_3 rfl (lv_at hl 1 rfl) ?_
  have hPc := hP.sub (ws' := [(h0, .inr (8, [.ref rp, .int 0, .ref rt, .ref rc, .int ((-1)), .ref r1, .ref r2, .ref r3, .ref r4, .null, .int 0]))]) [0] rfl
  have hDc := hD.sub (ws' := [(h0, .inr (8, [.ref rp, .int 0, .ref rt, .ref rc, .int ((-1)), .ref r1, .ref r2, .ref r3, .ref r4, .null, .int 0]))]) [0] (by decide) rfl
  have hKc := hK.sub (tys' := []) [] rfl
  have hFc := va_free (wc := [(h0, .inr (8, [.ref rp, .int 0, .ref rt, .ref rc, .int ((-1)), .ref r1, .ref r2, .ref r3, .ref r4, .null, .int 0]))]) hD hS hA [0] rfl
  refine vx_calli (vx_runV (As := [.int p0]) (rest := [.int 0, .ref ho]) ⟨hx, hb, hml, hown, hts⟩ (c_X_let_ok l dC dI tp te s.heap.size hlt h0 rp rt rc r1 r2 r3 r4 p0 hvn hvb hvc) (cwV 1 hts g_L_let_ok_4 rfl rfl rfl (by decide +kernel) ⟨Nat.le_of_ble_eq_true rfl, Nat.le_of_ble_eq_true rfl⟩) ⟨Pw.blind, va_recv hKc hPc (ci := 8) (q0 := 0) rfl rfl, Pw.mk hPc hKc hDc hG hS hFc⟩ rfl rfl hl.1 rfl (lv_room (Nat.le_of_ble_eq_true rfl)) dL_let_4 ⟨Nat.le_of_ble_eq_true rfl, Nat.le_of_ble_eq_true rfl⟩) hS (fun q _ h => hFc q h) hFc (fun q _ h => hFc q h) (fun E ce q9 u t9 H_1 locs ht hvm hpx hBX hz1 hk1 hS hce hcv hcl => ?_) (fun r u t9 H1 locs ht hvm hw hB hz1 hk1 hS => hw.elim)
  have hBX : E = "java/lang/IllegalStateException" := hBX
  subst hBX
  refine vx_catch hown [⟨0, 9, 12, 19⟩] ⟨0, 9, 15, 13⟩ [] htab (fun z9 h9 => by rw [List.mem_singleton.mp h9]; exact Or.inr ⟨by decide, "java/lang/IndexOutOfBoundsException", (hts (.classLink RL 19 "java/lang/IndexOutOfBoundsException") (List.mem_of_getElem? (i := 21) rfl)), hG.2.2.2.2.2.2.2.2.2.2.1⟩) (by decide) (by decide) (hts (.classLink RL 13 "java/lang/IllegalStateException") (List.mem_of_getElem? (i := 22) rfl)) (va_Nw.use rfl hG.2.2.2.2.2.2.1) hce hcv hcl ?_
  obtain ⟨hP, hD⟩ := va_join (wr := []) (w1 := []) hP hD [0] [] rfl rfl (by decide) (by decide) hk1 hFc va_P.nil va_D.nil
  have hK := hK.sub (tys' := []) [] rfl
  have hP : va_P (dC, dI) vwCl [] H_1 := hP
  have hD : va_D A [] := hD
  have hK : va_K (dC, dI) vwCl [] s := hK
  refine W.widen (k := 1) (n := 6) (Nat.le_of_ble_eq_true rfl) (Nat.le_of_ble_eq_true rfl) ?_
  refine lv_astore_n (lv' := [(3, .ref q9), (0, .ref h0), (1, .int p0), (2, .ref ho)]) hx hb dL_let_15 rfl hl (by decide) rfl (fun ls hl => ?_)
  refine lv_iconst (v := 2) hx hb dL_let_16 (by decide) ?_
  refine vx_ret ?_
  refine W.widen (k := 1) (n := 6) (Nat.le_of_ble_eq_true rfl) (Nat.le_of_ble_eq_true rfl) ?_
  exact W.iret (v := 2) hx hb hr (fun t ht hW => ⟨⟨2, (), rfl, rfl, trivial⟩, hS.F ht⟩) hS.2.2 dL_let_17

set_option maxRecDepth 20000 in
def z_L_handle_neg : List Cond := .codeWith yL_handle cL_handle 4 (some .int) [(0, 9, 12, 19), (0, 9, 15, 13)] :: (([.methodLink RL 53 yX7_handle, .instanceMethod yX7_handle, .selects RX7 yX7_handle yX7_handle, .initialized RX7, .code yX7_handle cX7_handle 2 (some .int), .methodLink RX7 62 yX7_checkName, .static yX7_checkName, .code yX7_checkName cX7_checkName 1 none, .classLink RX7 107 "java/lang/IndexOutOfBoundsException", .initialized "java/lang/IndexOutOfBoundsException", .classLink RL 19 "java/lang/IndexOutOfBoundsException", .classLink RL 13 "java/lang/IllegalStateException"] : List Cond) ++ (vx_at0 RX7 109 "java/lang/IndexOutOfBoundsException" ["java/lang/RuntimeException", "java/lang/Exception"]).filter goodWord)
set_option maxRecDepth 20000 in
theorem gg_L_handle_neg_4 : GoodIn z_L_handle_neg z_X_handle_neg := goodIn_ca (goodIn_p _ [5, 8] rfl (by decide +kernel)) (goodIn_sub (fun _ h => List.mem_cons_of_mem _ (List.mem_append_right _ (h))) (by decide +kernel))
set_option maxRecDepth 20000 in
theorem g_L_handle_neg_4 : GoodIn z_L_handle_neg (wsV RL 53 RX7 yX7_handle z_X_handle_neg) := goodIn_app (goodIn_of _ (by decide +kernel)) gg_L_handle_neg_4
set_option maxHeartbeats 4000000 in
set_option maxRecDepth 100000 in
theorem c_L_handle_neg (l : Launch) (dC : Nat → ClassId) (dI : Nat → Nat → Nat) (tp te : Nat) (sz : Nat) (hlt : l.stackTraces = false) (h0 : Nat) (rp : Nat) (rt : Nat) (rc : Nat) (r1 : Nat) (r2 : Nat) (r3 : Nat) (r4 : Nat) (p0 : Int32) (ho : Nat) (hvn : p0 < 0) : vx_Met l yL_handle z_L_handle_neg ({ frames := 8, cells := 1, slots := 6, locals := 122 }) (va_Pc [.ref h0, .int p0, .ref ho] (Pw dC dI [(h0, .inr (8, [.ref rp, .int 0, .ref rt, .ref rc, .int ((-1)), .ref r1, .ref r2, .ref r3, .ref r4, .null, .int 0]))] [] sz tp te)) (va_Qi (fun (r : Int32) (_ : Unit) => r = 1) (fun (_ : Unit) (_ : State) => True) (va_A [(h0, .inr (8, [.ref rp, .int 0, .ref rt, .ref rc, .int ((-1)), .ref r1, .ref r2, .ref r3, .ref r4, .null, .int 0]))] sz)) (vx_X (fun (_ : Unit) => False) (fun (E : String) (_ : Unit) (_ : State) => E = "") (va_A [(h0, .inr (8, [.ref rp, .int 0, .ref rt, .ref rc, .int ((-1)), .ref r1, .ref r2, .ref r3, .ref r4, .null, .int 0]))] sz)) 1 6 (va_A [(h0, .inr (8, [.ref rp, .int 0, .ref rt, .ref rc, .int ((-1)), .ref r1, .ref r2, .ref r3, .ref r4, .null, .int 0]))] sz) := by
  refine vx_ofWH (cc := cL_handle) (maxL := 4) (ret := (some .int)) (hh := [(0, 9, 12, 19), (0, 9, 15, 13)]) (by decide) rfl ?_
  intro p e s m args below meth c s₁ B hml hv
  obtain ⟨rfl, hsz, hP, hK, hD0, hG⟩ := hv
  have hx := B.exec
  have hb := B.bytes
  have hr := B.returns
  have hts := atoms_spec (ws := z_L_handle_neg) B.pre
  have htab : c.exceptionTable.toList = tableOf [(0, 9, 12, 19), (0, 9, 15, 13)] := vx_table (x := yL_handle) B (hts _ List.mem_cons_self)
  have hown : s.vm.findClass RL = some m.cls := findClass_of_methodNamed B.named
  have hlocks := B.notSynchronized
  subst hsz
  have hD := hD0.self (sz := s.heap.size)
  generalize hAe : va_A [(h0, .inr (8, [.ref rp, .int 0, .ref rt, .ref rc, .int ((-1)), .ref r1, .ref r2, .ref r3, .ref r4, .null, .int 0]))] s.heap.size = A at hD hG ⊢
  have hA : ∀ q : Nat, s.heap.size ≤ q → A q := fun q h => by rw [← hAe]; exact Or.inr h
  have hS : va_S A s.heap s.heap [] := va_S.rf
  have hl := lv_entry ([.ref h0, .int p0, .ref ho]) (n := 4) (Nat.le_of_ble_eq_true rfl)
  rw [lg_entry_eq]
  generalize (lg_sl ([.ref h0, .int p0, .ref ho]) ++ List.replicate (4 - (lg_sl ([.ref h0, .int p0, .ref ho])).length) Slot.unset).toArray = ls at hl ⊢
  have hl : lv_has ls 4 [(0, .ref h0), (1, .int p0), (2, .ref ho)] := hl
  refine lv_aload_n hx hb dL_handle_0 rfl (lv_at hl 2 rfl) ?_
  refine lv_iconst (v := 0) hx hb dL_handle_1 (by decide) ?_
  refine lv_aload_n hx hb dL_handle_2 rfl (lv_at hl 0 rfl) ?_
  refine lv_iload_n hx hb dL_handle_3 rfl (lv_at hl 1 rfl) ?_
  have hPc := hP.sub (ws' := [(h0, .inr (8, [.ref rp, .int 0, .ref rt, .ref rc, .int ((-1)), .ref r1, .ref r2, .ref r3, .ref r4, .null, .int 0]))]) [0] rfl
  have hDc := hD.sub (ws' := [(h0, .inr (8, [.ref rp, .int 0, .ref rt, .ref rc, .int ((-1)), .ref r1, .ref r2, .ref r3, .ref r4, .null, .int 0]))]) [0] (by decide) rfl
  have hKc := hK.sub (tys' := []) [] rfl
  have hFc := va_free (wc := [(h0, .inr (8, [.ref rp, .int 0, .ref rt, .ref rc, .int ((-1)), .ref r1, .ref r2, .ref r3, .ref r4, .null, .int 0]))]) hD hS hA [0] rfl
  refine vx_calli (vx_runV (As := [.int p0]) (rest := [.int 0, .ref ho]) ⟨hx, hb, hml, hown, hts⟩ (c_X_handle_neg l dC dI tp te s.heap.size hlt h0 rp rt rc r1 r2 r3 r4 p0 hvn) (cwV 1 hts g_L_handle_neg_4 rfl rfl rfl (by decide +kernel) ⟨Nat.le_of_ble_eq_true rfl, Nat.le_of_ble_eq_true rfl⟩) ⟨Pw.blind, va_recv hKc hPc (ci := 8) (q0 := 0) rfl rfl, Pw.mk hPc hKc hDc hG hS hFc⟩ rfl rfl hl.1 rfl (lv_room (Nat.le_of_ble_eq_true rfl)) dL_handle_4 ⟨Nat.le_of_ble_eq_true rfl, Nat.le_of_ble_eq_true rfl⟩) hS (fun q _ h => hFc q h) hFc (fun q _ h => hFc q h) (fun E ce q9 u t9 H_1 locs ht hvm hpx hBX hz1 hk1 hS hce hcv hcl => ?_) (fun r u t9 H1 locs ht hvm hw hB hz1 hk1 hS => hw.elim)
  have hBX : E = "java/lang/IndexOutOfBoundsException" := hBX
  subst hBX
  refine vx_catch hown [] ⟨0, 9, 12, 19⟩ [⟨0, 9, 15, 13⟩] htab (fun z9 h9 => nomatch h9) (by decide) (by decide) (hts (.classLink RL 19 "java/lang/IndexOutOfBoundsException") (List.mem_of_getElem? (i := 11) rfl)) (va_Nw.use rfl hG.2.2.2.2.2.2.2.1) hce hcv hcl ?_
  obtain ⟨hP, hD⟩ := va_join (wr := []) (w1 := []) hP hD [0] [] rfl rfl (by decide) (by decide) hk1 hFc va_P.nil va_D.nil
  have hK := hK.sub (tys' := []) [] rfl
  have hP : va_P (dC, dI) vwCl [] H_1 := hP
  have hD : va_D A [] := hD
  have hK : va_K (dC, dI) vwCl [] s := hK
  refine W.widen (k := 1) (n := 6) (Nat.le_of_ble_eq_true rfl) (Nat.le_of_ble_eq_true rfl) ?_
  refine lv_astore_n (lv' := [(3, .ref q9), (0, .ref h0), (1, .int p0), (2, .ref ho)]) hx hb dL_handle_12 rfl hl (by decide) rfl (fun ls hl => ?_)
  refine lv_iconst (v := 1) hx hb dL_handle_13 (by decide) ?_
  refine vx_ret ?_
  refine W.widen (k := 1) (n := 6) (Nat.le_of_ble_eq_true rfl) (Nat.le_of_ble_eq_true rfl) ?_
  exact W.iret (v := 1) hx hb hr (fun t ht hW => ⟨⟨1, (), rfl, rfl, trivial⟩, hS.F ht⟩) hS.2.2 dL_handle_14

set_option maxRecDepth 20000 in
def z_L_handle_big : List Cond := .codeWith yL_handle cL_handle 4 (some .int) [(0, 9, 12, 19), (0, 9, 15, 13)] :: (([.methodLink RL 53 yX7_handle, .instanceMethod yX7_handle, .selects RX7 yX7_handle yX7_handle, .initialized RX7, .code yX7_handle cX7_handle 2 (some .int), .methodLink RX7 62 yX7_checkName, .static yX7_checkName, .code yX7_checkName cX7_checkName 1 none, .classLink RX7 107 "java/lang/IndexOutOfBoundsException", .initialized "java/lang/IndexOutOfBoundsException", .classLink RL 19 "java/lang/IndexOutOfBoundsException", .classLink RL 13 "java/lang/IllegalStateException"] : List Cond) ++ (vx_at0 RX7 109 "java/lang/IndexOutOfBoundsException" ["java/lang/RuntimeException", "java/lang/Exception"]).filter goodWord)
set_option maxRecDepth 20000 in
theorem gg_L_handle_big_4 : GoodIn z_L_handle_big z_X_handle_big := goodIn_ca (goodIn_p _ [5, 8] rfl (by decide +kernel)) (goodIn_sub (fun _ h => List.mem_cons_of_mem _ (List.mem_append_right _ (h))) (by decide +kernel))
set_option maxRecDepth 20000 in
theorem g_L_handle_big_4 : GoodIn z_L_handle_big (wsV RL 53 RX7 yX7_handle z_X_handle_big) := goodIn_app (goodIn_of _ (by decide +kernel)) gg_L_handle_big_4
set_option maxHeartbeats 4000000 in
set_option maxRecDepth 100000 in
theorem c_L_handle_big (l : Launch) (dC : Nat → ClassId) (dI : Nat → Nat → Nat) (tp te : Nat) (sz : Nat) (hlt : l.stackTraces = false) (h0 : Nat) (rp : Nat) (rt : Nat) (rc : Nat) (r1 : Nat) (r2 : Nat) (r3 : Nat) (r4 : Nat) (p0 : Int32) (ho : Nat) (hvn : ¬ p0 < 0) (hvb : ¬ p0 < 10) (hvc : 10 ≤ p0) : vx_Met l yL_handle z_L_handle_big ({ frames := 8, cells := 1, slots := 6, locals := 122 }) (va_Pc [.ref h0, .int p0, .ref ho] (Pw dC dI [(h0, .inr (8, [.ref rp, .int 0, .ref rt, .ref rc, .int ((-1)), .ref r1, .ref r2, .ref r3, .ref r4, .null, .int 0]))] [] sz tp te)) (va_Qi (fun (r : Int32) (_ : Unit) => r = 1) (fun (_ : Unit) (_ : State) => True) (va_A [(h0, .inr (8, [.ref rp, .int 0, .ref rt, .ref rc, .int ((-1)), .ref r1, .ref r2, .ref r3, .ref r4, .null, .int 0]))] sz)) (vx_X (fun (_ : Unit) => False) (fun (E : String) (_ : Unit) (_ : State) => E = "") (va_A [(h0, .inr (8, [.ref rp, .int 0, .ref rt, .ref rc, .int ((-1)), .ref r1, .ref r2, .ref r3, .ref r4, .null, .int 0]))] sz)) 1 6 (va_A [(h0, .inr (8, [.ref rp, .int 0, .ref rt, .ref rc, .int ((-1)), .ref r1, .ref r2, .ref r3, .ref r4, .null, .int 0]))] sz) := by
  refine vx_ofWH (cc := cL_handle) (maxL := 4) (ret := (some .int)) (hh := [(0, 9, 12, 19), (0, 9, 15, 13)]) (by decide) rfl ?_
  intro p e s m args below meth c s₁ B hml hv
  obtain ⟨rfl, hsz, hP, hK, hD0, hG⟩ := hv
  have hx := B.exec
  have hb := B.bytes
  have hr := B.returns
  have hts := atoms_spec (ws := z_L_handle_big) B.pre
  have htab : c.exceptionTable.toList = tableOf [(0, 9, 12, 19), (0, 9, 15, 13)] := vx_table (x := yL_handle) B (hts _ List.mem_cons_self)
  have hown : s.vm.findClass RL = some m.cls := findClass_of_methodNamed B.named
  have hlocks := B.notSynchronized
  subst hsz
  have hD := hD0.self (sz := s.heap.size)
  generalize hAe : va_A [(h0, .inr (8, [.ref rp, .int 0, .ref rt, .ref rc, .int ((-1)), .ref r1, .ref r2, .ref r3, .ref r4, .null, .int 0]))] s.heap.size = A at hD hG ⊢
  have hA : ∀ q : Nat, s.heap.size ≤ q → A q := fun q h => by rw [← hAe]; exact Or.inr h
  have hS : va_S A s.heap s.heap [] := va_S.rf
  have hl := lv_entry ([.ref h0, .int p0, .ref ho]) (n := 4) (Nat.le_of_ble_eq_true rfl)
  rw [lg_entry_eq]
  generalize (lg_sl ([.ref h0, .int p0, .ref ho]) ++ List.replicate (4 - (lg_sl ([.ref h0, .int p0, .ref ho])).length) Slot.unset).toArray = ls at hl ⊢
  have hl : lv_has ls 4 [(0, .ref h0), (1, .int p0), (2, .ref ho)] := hl
  refine lv_aload_n hx hb dL_handle_0 rfl (lv_at hl 2 rfl) ?_
  refine lv_iconst (v := 0) hx hb dL_handle_1 (by decide) ?_
  refine lv_aload_n hx hb dL_handle_2 rfl (lv_at hl 0 rfl) ?_
  refine lv_iload_n hx hb dL_handle_3 rfl (lv_at hl 1 rfl) ?_
  have hPc := hP.sub (ws' := [(h0, .inr (8, [.ref rp, .int 0, .ref rt, .ref rc, .int ((-1)), .ref r1, .ref r2, .ref r3, .ref r4, .null, .int 0]))]) [0] rfl
  have hDc := hD.sub (ws' := [(h0, .inr (8, [.ref rp, .int 0, .ref rt, .ref rc, .int ((-1)), .ref r1, .ref r2, .ref r3, .ref r4, .null, .int 0]))]) [0] (by decide) rfl
  have hKc := hK.sub (tys' := []) [] rfl
  have hFc := va_free (wc := [(h0, .inr (8, [.ref rp, .int 0, .ref rt, .ref rc, .int ((-1)), .ref r1, .ref r2, .ref r3, .ref r4, .null, .int 0]))]) hD hS hA [0] rfl
  refine vx_calli (vx_runV (As := [.int p0]) (rest := [.int 0, .ref ho]) ⟨hx, hb, hml, hown, hts⟩ (c_X_handle_big l dC dI tp te s.heap.size hlt h0 rp rt rc r1 r2 r3 r4 p0 hvn hvb hvc) (cwV 1 hts g_L_handle_big_4 rfl rfl rfl (by decide +kernel) ⟨Nat.le_of_ble_eq_true rfl, Nat.le_of_ble_eq_true rfl⟩) ⟨Pw.blind, va_recv hKc hPc (ci := 8) (q0 := 0) rfl rfl, Pw.mk hPc hKc hDc hG hS hFc⟩ rfl rfl hl.1 rfl (lv_room (Nat.le_of_ble_eq_true rfl)) dL_handle_4 ⟨Nat.le_of_ble_eq_true rfl, Nat.le_of_ble_eq_true rfl⟩) hS (fun q _ h => hFc q h) hFc (fun q _ h => hFc q h) (fun E ce q9 u t9 H_1 locs ht hvm hpx hBX hz1 hk1 hS hce hcv hcl => ?_) (fun r u t9 H1 locs ht hvm hw hB hz1 hk1 hS => hw.elim)
  have hBX : E = "java/lang/IndexOutOfBoundsException" := hBX
  subst hBX
  refine vx_catch hown [] ⟨0, 9, 12, 19⟩ [⟨0, 9, 15, 13⟩] htab (fun z9 h9 => nomatch h9) (by decide) (by decide) (hts (.classLink RL 19 "java/lang/IndexOutOfBoundsException") (List.mem_of_getElem? (i := 11) rfl)) (va_Nw.use rfl hG.2.2.2.2.2.2.2.1) hce hcv hcl ?_
  obtain ⟨hP, hD⟩ := va_join (wr := []) (w1 := []) hP hD [0] [] rfl rfl (by decide) (by decide) hk1 hFc va_P.nil va_D.nil
  have hK := hK.sub (tys' := []) [] rfl
  have hP : va_P (dC, dI) vwCl [] H_1 := hP
  have hD : va_D A [] := hD
  have hK : va_K (dC, dI) vwCl [] s := hK
  refine W.widen (k := 1) (n := 6) (Nat.le_of_ble_eq_true rfl) (Nat.le_of_ble_eq_true rfl) ?_
  refine lv_astore_n (lv' := [(3, .ref q9), (0, .ref h0), (1, .int p0), (2, .ref ho)]) hx hb dL_handle_12 rfl hl (by decide) rfl (fun ls hl => ?_)
  refine lv_iconst (v := 1) hx hb dL_handle_13 (by decide) ?_
  refine vx_ret ?_
  refine W.widen (k := 1) (n := 6) (Nat.le_of_ble_eq_true rfl) (Nat.le_of_ble_eq_true rfl) ?_
  exact W.iret (v := 1) hx hb hr (fun t ht hW => ⟨⟨1, (), rfl, rfl, trivial⟩, hS.F ht⟩) hS.2.2 dL_handle_14

set_option maxRecDepth 20000 in
def z_L_handle_ok : List Cond := .codeWith yL_handle cL_handle 4 (some .int) [(0, 9, 12, 19), (0, 9, 15, 13)] :: (([.methodLink RL 53 yX7_handle, .instanceMethod yX7_handle, .selects RX7 yX7_handle yX7_handle, .initialized RX7, .code yX7_handle cX7_handle 2 (some .int), .methodLink RX7 62 yX7_checkName, .static yX7_checkName, .code yX7_checkName cX7_checkName 1 none, .methodLink RX7 65 yX7_join, .instanceMethod yX7_join, .selects RX7 yX7_join yX7_join, .code yX7_join cX7_join 5 (some .int), .methodLink RX7 173 yX5_partsOf, .static yX5_partsOf, .initialized RX5, .code yX5_partsOf cX5_partsOf 1 (some .int), .fieldLink RX5 34 "Selfkindle$Term" "PARTS_OF" "[I", .fieldLink RX7 72 "Selfkindle" "height" "I", .classLink RX7 75 "java/lang/IllegalStateException", .initialized "java/lang/IllegalStateException", .classLink RL 19 "java/lang/IndexOutOfBoundsException", .classLink RL 13 "java/lang/IllegalStateException"] : List Cond) ++ wsX70 ++ (vx_at0 RX7 77 "java/lang/IllegalStateException" ["java/lang/RuntimeException", "java/lang/Exception"]).filter goodWord)
theorem in_z_L_handle_ok_X7 : ∀ w ∈ wsX70, w ∈ z_L_handle_ok := fun w h => List.mem_cons_of_mem _ (List.mem_append_left _ (List.mem_append_right _ (h)))
set_option maxRecDepth 20000 in
theorem gg_L_handle_ok_4 : GoodIn z_L_handle_ok z_X_handle_ok := goodIn_ca (goodIn_p _ [5, 8, 12, 16] rfl (by decide +kernel)) (goodIn_sub (fun _ h => List.mem_cons_of_mem _ (List.mem_append_right _ (h))) (by decide +kernel))
set_option maxRecDepth 20000 in
theorem g_L_handle_ok_4 : GoodIn z_L_handle_ok (wsV RL 53 RX7 yX7_handle z_X_handle_ok) := goodIn_app (goodIn_of _ (by decide +kernel)) gg_L_handle_ok_4
set_option maxHeartbeats 4000000 in
set_option maxRecDepth 100000 in
theorem c_L_handle_ok (l : Launch) (dC : Nat → ClassId) (dI : Nat → Nat → Nat) (tp te : Nat) (sz : Nat) (hlt : l.stackTraces = false) (h0 : Nat) (rp : Nat) (rt : Nat) (rc : Nat) (r1 : Nat) (r2 : Nat) (r3 : Nat) (r4 : Nat) (p0 : Int32) (ho : Nat) (hvn : ¬ p0 < 0) (hvb : p0 < 10) (hvc : ¬ 10 ≤ p0) : vx_Met l yL_handle z_L_handle_ok ({ frames := 8, cells := 1, slots := 6, locals := 126 }) (va_Pc [.ref h0, .int p0, .ref ho] (Pw dC dI [(h0, .inr (8, [.ref rp, .int 0, .ref rt, .ref rc, .int ((-1)), .ref r1, .ref r2, .ref r3, .ref r4, .null, .int 0]))] [] sz tp te)) (va_Qi (fun (r : Int32) (_ : Unit) => r = 2) (fun (_ : Unit) (_ : State) => True) (va_A [(h0, .inr (8, [.ref rp, .int 0, .ref rt, .ref rc, .int ((-1)), .ref r1, .ref r2, .ref r3, .ref r4, .null, .int 0]))] sz)) (vx_X (fun (_ : Unit) => False) (fun (E : String) (_ : Unit) (_ : State) => E = "") (va_A [(h0, .inr (8, [.ref rp, .int 0, .ref rt, .ref rc, .int ((-1)), .ref r1, .ref r2, .ref r3, .ref r4, .null, .int 0]))] sz)) 1 6 (va_A [(h0, .inr (8, [.ref rp, .int 0, .ref rt, .ref rc, .int ((-1)), .ref r1, .ref r2, .ref r3, .ref r4, .null, .int 0]))] sz) := by
  refine vx_ofWH (cc := cL_handle) (maxL := 4) (ret := (some .int)) (hh := [(0, 9, 12, 19), (0, 9, 15, 13)]) (by decide) rfl ?_
  intro p e s m args below meth c s₁ B hml hv
  obtain ⟨rfl, hsz, hP, hK, hD0, hG⟩ := hv
  have hx := B.exec
  have hb := B.bytes
  have hr := B.returns
  have hts := atoms_spec (ws := z_L_handle_ok) B.pre
  have htab : c.exceptionTable.toList = tableOf [(0, 9, 12, 19), (0, 9, 15, 13)] := vx_table (x := yL_handle) B (hts _ List.mem_cons_self)
  have hown : s.vm.findClass RL = some m.cls := findClass_of_methodNamed B.named
  have hlocks := B.notSynchronized
  subst hsz
  have hD := hD0.self (sz := s.heap.size)
  generalize hAe : va_A [(h0, .inr (8, [.ref rp, .int 0, .ref rt, .ref rc, .int ((-1)), .ref r1, .ref r2, .ref r3, .ref r4, .null, .int 0]))] s.heap.size = A at hD hG ⊢
  have hA : ∀ q : Nat, s.heap.size ≤ q → A q := fun q h => by rw [← hAe]; exact Or.inr h
  have hS : va_S A s.heap s.heap [] := va_S.rf
  have hl := lv_entry ([.ref h0, .int p0, .ref ho]) (n := 4) (Nat.le_of_ble_eq_true rfl)
  rw [lg_entry_eq]
  generalize (lg_sl ([.ref h0, .int p0, .ref ho]) ++ List.replicate (4 - (lg_sl ([.ref h0, .int p0, .ref ho])).length) Slot.unset).toArray = ls at hl ⊢
  have hl : lv_has ls 4 [(0, .ref h0), (1, .int p0), (2, .ref ho)] := hl
  refine lv_aload_n hx hb dL_handle_0 rfl (lv_at hl 2 rfl) ?_
  refine lv_iconst (v := 0) hx hb dL_handle_1 (by decide) ?_
  refine lv_aload_n hx hb dL_handle_2 rfl (lv_at hl 0 rfl) ?_
  refine lv_iload_n hx hb dL_handle_3 rfl (lv_at hl 1 rfl) ?_
  have hPc := hP.sub (ws' := [(h0, .inr (8, [.ref rp, .int 0, .ref rt, .ref rc, .int ((-1)), .ref r1, .ref r2, .ref r3, .ref r4, .null, .int 0]))]) [0] rfl
  have hDc := hD.sub (ws' := [(h0, .inr (8, [.ref rp, .int 0, .ref rt, .ref rc, .int ((-1)), .ref r1, .ref r2, .ref r3, .ref r4, .null, .int 0]))]) [0] (by decide) rfl
  have hKc := hK.sub (tys' := []) [] rfl
  have hFc := va_free (wc := [(h0, .inr (8, [.ref rp, .int 0, .ref rt, .ref rc, .int ((-1)), .ref r1, .ref r2, .ref r3, .ref r4, .null, .int 0]))]) hD hS hA [0] rfl
  refine vx_calli (vx_runV (As := [.int p0]) (rest := [.int 0, .ref ho]) ⟨hx, hb, hml, hown, hts⟩ (c_X_handle_ok l dC dI tp te s.heap.size hlt h0 rp rt rc r1 r2 r3 r4 p0 hvn hvb hvc) (cwV 1 hts g_L_handle_ok_4 rfl rfl rfl (by decide +kernel) ⟨Nat.le_of_ble_eq_true rfl, Nat.le_of_ble_eq_true rfl⟩) ⟨Pw.blind, va_recv hKc hPc (ci := 8) (q0 := 0) rfl rfl, Pw.mk hPc hKc hDc hG hS hFc⟩ rfl rfl hl.1 rfl (lv_room (Nat.le_of_ble_eq_true rfl)) dL_handle_4 ⟨Nat.le_of_ble_eq_true rfl, Nat.le_of_ble_eq_true rfl⟩) hS (fun q _ h => hFc q h) hFc (fun q _ h => hFc q h) (fun E ce q9 u t9 H_1 locs ht hvm hpx hBX hz1 hk1 hS hce hcv hcl => ?_) (fun r u t9 H1 locs ht hvm hw hB hz1 hk1 hS => hw.elim)
  have hBX : E = "java/lang/IllegalStateException" := hBX
  subst hBX
  refine vx_catch hown [⟨0, 9, 12, 19⟩] ⟨0, 9, 15, 13⟩ [] htab (fun z9 h9 => by rw [List.mem_singleton.mp h9]; exact Or.inr ⟨by decide, "java/lang/IndexOutOfBoundsException", (hts (.classLink RL 19 "java/lang/IndexOutOfBoundsException") (List.mem_of_getElem? (i := 21) rfl)), hG.2.2.2.2.2.2.2.2.2.2.1⟩) (by decide) (by decide) (hts (.classLink RL 13 "java/lang/IllegalStateException") (List.mem_of_getElem? (i := 22) rfl)) (va_Nw.use rfl hG.2.2.2.2.2.2.1) hce hcv hcl ?_
  obtain ⟨hP, hD⟩ := va_join (wr := []) (w1 := []) hP hD [0] [] rfl rfl (by decide) (by decide) hk1 hFc va_P.nil va_D.nil
  have hK := hK.sub (tys' := []) [] rfl
  have hP : va_P (dC, dI) vwCl [] H_1 := hP
  have hD : va_D A [] := hD
  have hK : va_K (dC, dI) vwCl [] s := hK
  refine W.widen (k := 1) (n := 6) (Nat.le_of_ble_eq_true rfl) (Nat.le_of_ble_eq_true rfl) ?_
  refine lv_astore_n (lv' := [(3, .ref q9), (0, .ref h0), (1, .int p0), (2, .ref ho)]) hx hb dL_handle_15 rfl hl (by decide) rfl (fun ls hl => ?_)
  refine lv_iconst (v := 2) hx hb dL_handle_16 (by decide) ?_
  refine vx_ret ?_
  refine W.widen (k := 1) (n := 6) (Nat.le_of_ble_eq_true rfl) (Nat.le_of_ble_eq_true rfl) ?_
  exact W.iret (v := 2) hx hb hr (fun t ht hW => ⟨⟨2, (), rfl, rfl, trivial⟩, hS.F ht⟩) hS.2.2 dL_handle_17

set_option maxRecDepth 20000 in
def z_L_rec_fneg : List Cond := .codeWith yL_rec cL_rec 5 (some .int) [(0, 10, 13, 19), (0, 10, 17, 13)] :: (([.methodLink RL 39 yX7_rec, .instanceMethod yX7_rec, .selects RX7 yX7_rec yX7_rec, .initialized RX7, .code yX7_rec cX7_rec 3 (some .int), .methodLink RX7 62 yX7_checkName, .static yX7_checkName, .code yX7_checkName cX7_checkName 1 none, .classLink RX7 107 "java/lang/IndexOutOfBoundsException", .initialized "java/lang/IndexOutOfBoundsException", .classLink RL 19 "java/lang/IndexOutOfBoundsException", .classLink RL 13 "java/lang/IllegalStateException"] : List Cond) ++ (vx_at0 RX7 109 "java/lang/IndexOutOfBoundsException" ["java/lang/RuntimeException", "java/lang/Exception"]).filter goodWord)
set_option maxRecDepth 20000 in
theorem gg_L_rec_fneg_5 : GoodIn z_L_rec_fneg z_X_rec_fneg := goodIn_ca (goodIn_p _ [5, 8] rfl (by decide +kernel)) (goodIn_sub (fun _ h => List.mem_cons_of_mem _ (List.mem_append_right _ (h))) (by decide +kernel))
set_option maxRecDepth 20000 in
theorem g_L_rec_fneg_5 : GoodIn z_L_rec_fneg (wsV RL 39 RX7 yX7_rec z_X_rec_fneg) := goodIn_app (goodIn_of _ (by decide +kernel)) gg_L_rec_fneg_5
set_option maxHeartbeats 4000000 in
set_option maxRecDepth 100000 in
theorem c_L_rec_fneg (l : Launch) (dC : Nat → ClassId) (dI : Nat → Nat → Nat) (tp te : Nat) (sz : Nat) (hlt : l.stackTraces = false) (h0 : Nat) (rp : Nat) (rt : Nat) (rc : Nat) (r1 : Nat) (r2 : Nat) (r3 : Nat) (r4 : Nat) (p0 : Int32) (p1 : Int32) (ho : Nat) (hvn : p0 < 0) : vx_Met l yL_rec z_L_rec_fneg ({ frames := 8, cells := 1, slots := 6, locals := 123 }) (va_Pc [.ref h0, .int p0, .int p1, .ref ho] (Pw dC dI [(h0, .inr (8, [.ref rp, .int 0, .ref rt, .ref rc, .int ((-1)), .ref r1, .ref r2, .ref r3, .ref r4, .null, .int 0]))] [] sz tp te)) (va_Qi (fun (r : Int32) (_ : Unit) => r = 1) (fun (_ : Unit) (_ : State) => True) (va_A [(h0, .inr (8, [.ref rp, .int 0, .ref rt, .ref rc, .int ((-1)), .ref r1, .ref r2, .ref r3, .ref r4, .null, .int 0]))] sz)) (vx_X (fun (_ : Unit) => False) (fun (E : String) (_ : Unit) (_ : State) => E = "") (va_A [(h0, .inr (8, [.ref rp, .int 0, .ref rt, .ref rc, .int ((-1)), .ref r1, .ref r2, .ref r3, .ref r4, .null, .int 0]))] sz)) 1 6 (va_A [(h0, .inr (8, [.ref rp, .int 0, .ref rt, .ref rc, .int ((-1)), .ref r1, .ref r2, .ref r3, .ref r4, .null, .int 0]))] sz) := by
  refine vx_ofWH (cc := cL_rec) (maxL := 5) (ret := (some .int)) (hh := [(0, 10, 13, 19), (0, 10, 17, 13)]) (by decide) rfl ?_
  intro p e s m args below meth c s₁ B hml hv
  obtain ⟨rfl, hsz, hP, hK, hD0, hG⟩ := hv
  have hx := B.exec
  have hb := B.bytes
  have hr := B.returns
  have hts := atoms_spec (ws := z_L_rec_fneg) B.pre
  have htab : c.exceptionTable.toList = tableOf [(0, 10, 13, 19), (0, 10, 17, 13)] := vx_table (x := yL_rec) B (hts _ List.mem_cons_self)
  have hown : s.vm.findClass RL = some m.cls := findClass_of_methodNamed B.named
  have hlocks := B.notSynchronized
  subst hsz
  have hD := hD0.self (sz := s.heap.size)
  generalize hAe : va_A [(h0, .inr (8, [.ref rp, .int 0, .ref rt, .ref rc, .int ((-1)), .ref r1, .ref r2, .ref r3, .ref r4, .null, .int 0]))] s.heap.size = A at hD hG ⊢
  have hA : ∀ q : Nat, s.heap.size ≤ q → A q := fun q h => by rw [← hAe]; exact Or.inr h
  have hS : va_S A s.heap s.heap [] := va_S.rf
  have hl := lv_entry ([.ref h0, .int p0, .int p1, .ref ho]) (n := 5) (Nat.le_of_ble_eq_true rfl)
  rw [lg_entry_eq]
  generalize (lg_sl ([.ref h0, .int p0, .int p1, .ref ho]) ++ List.replicate (5 - (lg_sl ([.ref h0, .int p0, .int p1, .ref ho])).length) Slot.unset).toArray = ls at hl ⊢
  have hl : lv_has ls 5 [(0, .ref h0), (1, .int p0), (2, .int p1), (3, .ref ho)] := hl
  refine lv_aload_n hx hb dL_rec_0 rfl (lv_at hl 3 rfl) ?_
  refine lv_iconst (v := 0) hx hb dL_rec_1 (by decide) ?_
  refine lv_aload_n hx hb dL_rec_2 rfl (lv_at hl 0 rfl) ?_
  refine lv_iload_n hx hb dL_rec_3 rfl (lv_at hl 1 rfl) ?_
  refine lv_iload_n hx hb dL_rec_4 rfl (lv_at hl 2 rfl) ?_
  have hPc := hP.sub (ws' := [(h0, .inr (8, [.ref rp, .int 0, .ref rt, .ref rc, .int ((-1)), .ref r1, .ref r2, .ref r3, .ref r4, .null, .int 0]))]) [0] rfl
  have hDc := hD.sub (ws' := [(h0, .inr (8, [.ref rp, .int 0, .ref rt, .ref rc, .int ((-1)), .ref r1, .ref r2, .ref r3, .ref r4, .null, .int 0]))]) [0] (by decide) rfl
  have hKc := hK.sub (tys' := []) [] rfl
  have hFc := va_free (wc := [(h0, .inr (8, [.ref rp, .int 0, .ref rt, .ref rc, .int ((-1)), .ref r1, .ref r2, .ref r3, .ref r4, .null, .int 0]))]) hD hS hA [0] rfl
  refine vx_calli (vx_runV (As := [.int p0, .int p1]) (rest := [.int 0, .ref ho]) ⟨hx, hb, hml, hown, hts⟩ (c_X_rec_fneg l dC dI tp te s.heap.size hlt h0 rp rt rc r1 r2 r3 r4 p0 p1 hvn) (cwV 2 hts g_L_rec_fneg_5 rfl rfl rfl (by decide +kernel) ⟨Nat.le_of_ble_eq_true rfl, Nat.le_of_ble_eq_true rfl⟩) ⟨Pw.blind, va_recv hKc hPc (ci := 8) (q0 := 0) rfl rfl, Pw.mk hPc hKc hDc hG hS hFc⟩ rfl rfl hl.1 rfl (lv_room (Nat.le_of_ble_eq_true rfl)) dL_rec_5 ⟨Nat.le_of_ble_eq_true rfl, Nat.le_of_ble_eq_true rfl⟩) hS (fun q _ h => hFc q h) hFc (fun q _ h => hFc q h) (fun E ce q9 u t9 H_1 locs ht hvm hpx hBX hz1 hk1 hS hce hcv hcl => ?_) (fun r u t9 H1 locs ht hvm hw hB hz1 hk1 hS => hw.elim)
  have hBX : E = "java/lang/IndexOutOfBoundsException" := hBX
  subst hBX
  refine vx_catch hown [] ⟨0, 10, 13, 19⟩ [⟨0, 10, 17, 13⟩] htab (fun z9 h9 => nomatch h9) (by decide) (by decide) (hts (.classLink RL 19 "java/lang/IndexOutOfBoundsException") (List.mem_of_getElem? (i := 11) rfl)) (va_Nw.use rfl hG.2.2.2.2.2.2.2.1) hce hcv hcl ?_
  obtain ⟨hP, hD⟩ := va_join (wr := []) (w1 := []) hP hD [0] [] rfl rfl (by decide) (by decide) hk1 hFc va_P.nil va_D.nil
  have hK := hK.sub (tys' := []) [] rfl
  have hP : va_P (dC, dI) vwCl [] H_1 := hP
  have hD : va_D A [] := hD
  have hK : va_K (dC, dI) vwCl [] s := hK
  refine W.widen (k := 1) (n := 6) (Nat.le_of_ble_eq_true rfl) (Nat.le_of_ble_eq_true rfl) ?_
  refine lv_astore (lv' := [(4, .ref q9), (0, .ref h0), (1, .int p0), (2, .int p1), (3, .ref ho)]) hx hb dL_rec_13 hl (by decide) rfl (fun ls hl => ?_)
  refine lv_iconst (v := 1) hx hb dL_rec_15 (by decide) ?_
  refine vx_ret ?_
  refine W.widen (k := 1) (n := 6) (Nat.le_of_ble_eq_true rfl) (Nat.le_of_ble_eq_true rfl) ?_
  exact W.iret (v := 1) hx hb hr (fun t ht hW => ⟨⟨1, (), rfl, rfl, trivial⟩, hS.F ht⟩) hS.2.2 dL_rec_16

set_option maxRecDepth 20000 in
def z_L_rec_fbig : List Cond := .codeWith yL_rec cL_rec 5 (some .int) [(0, 10, 13, 19), (0, 10, 17, 13)] :: (([.methodLink RL 39 yX7_rec, .instanceMethod yX7_rec, .selects RX7 yX7_rec yX7_rec, .initialized RX7, .code yX7_rec cX7_rec 3 (some .int), .methodLink RX7 62 yX7_checkName, .static yX7_checkName, .code yX7_checkName cX7_checkName 1 none, .classLink RX7 107 "java/lang/IndexOutOfBoundsException", .initialized "java/lang/IndexOutOfBoundsException", .classLink RL 19 "java/lang/IndexOutOfBoundsException", .classLink RL 13 "java/lang/IllegalStateException"] : List Cond) ++ (vx_at0 RX7 109 "java/lang/IndexOutOfBoundsException" ["java/lang/RuntimeException", "java/lang/Exception"]).filter goodWord)
set_option maxRecDepth 20000 in
theorem gg_L_rec_fbig_5 : GoodIn z_L_rec_fbig z_X_rec_fbig := goodIn_ca (goodIn_p _ [5, 8] rfl (by decide +kernel)) (goodIn_sub (fun _ h => List.mem_cons_of_mem _ (List.mem_append_right _ (h))) (by decide +kernel))
set_option maxRecDepth 20000 in
theorem g_L_rec_fbig_5 : GoodIn z_L_rec_fbig (wsV RL 39 RX7 yX7_rec z_X_rec_fbig) := goodIn_app (goodIn_of _ (by decide +kernel)) gg_L_rec_fbig_5
set_option maxHeartbeats 4000000 in
set_option maxRecDepth 100000 in
theorem c_L_rec_fbig (l : Launch) (dC : Nat → ClassId) (dI : Nat → Nat → Nat) (tp te : Nat) (sz : Nat) (hlt : l.stackTraces = false) (h0 : Nat) (rp : Nat) (rt : Nat) (rc : Nat) (r1 : Nat) (r2 : Nat) (r3 : Nat) (r4 : Nat) (p0 : Int32) (p1 : Int32) (ho : Nat) (hvn : ¬ p0 < 0) (hvb : ¬ p0 < 10) (hvc : 10 ≤ p0) : vx_Met l yL_rec z_L_rec_fbig ({ frames := 8, cells := 1, slots := 6, locals := 123 }) (va_Pc [.ref h0, .int p0, .int p1, .ref ho] (Pw dC dI [(h0, .inr (8, [.ref rp, .int 0, .ref rt, .ref rc, .int ((-1)), .ref r1, .ref r2, .ref r3, .ref r4, .null, .int 0]))] [] sz tp te)) (va_Qi (fun (r : Int32) (_ : Unit) => r = 1) (fun (_ : Unit) (_ : State) => True) (va_A [(h0, .inr (8, [.ref rp, .int 0, .ref rt, .ref rc, .int ((-1)), .ref r1, .ref r2, .ref r3, .ref r4, .null, .int 0]))] sz)) (vx_X (fun (_ : Unit) => False) (fun (E : String) (_ : Unit) (_ : State) => E = "") (va_A [(h0, .inr (8, [.ref rp, .int 0, .ref rt, .ref rc, .int ((-1)), .ref r1, .ref r2, .ref r3, .ref r4, .null, .int 0]))] sz)) 1 6 (va_A [(h0, .inr (8, [.ref rp, .int 0, .ref rt, .ref rc, .int ((-1)), .ref r1, .ref r2, .ref r3, .ref r4, .null, .int 0]))] sz) := by
  refine vx_ofWH (cc := cL_rec) (maxL := 5) (ret := (some .int)) (hh := [(0, 10, 13, 19), (0, 10, 17, 13)]) (by decide) rfl ?_
  intro p e s m args below meth c s₁ B hml hv
  obtain ⟨rfl, hsz, hP, hK, hD0, hG⟩ := hv
  have hx := B.exec
  have hb := B.bytes
  have hr := B.returns
  have hts := atoms_spec (ws := z_L_rec_fbig) B.pre
  have htab : c.exceptionTable.toList = tableOf [(0, 10, 13, 19), (0, 10, 17, 13)] := vx_table (x := yL_rec) B (hts _ List.mem_cons_self)
  have hown : s.vm.findClass RL = some m.cls := findClass_of_methodNamed B.named
  have hlocks := B.notSynchronized
  subst hsz
  have hD := hD0.self (sz := s.heap.size)
  generalize hAe : va_A [(h0, .inr (8, [.ref rp, .int 0, .ref rt, .ref rc, .int ((-1)), .ref r1, .ref r2, .ref r3, .ref r4, .null, .int 0]))] s.heap.size = A at hD hG ⊢
  have hA : ∀ q : Nat, s.heap.size ≤ q → A q := fun q h => by rw [← hAe]; exact Or.inr h
  have hS : va_S A s.heap s.heap [] := va_S.rf
  have hl := lv_entry ([.ref h0, .int p0, .int p1, .ref ho]) (n := 5) (Nat.le_of_ble_eq_true rfl)
  rw [lg_entry_eq]
  generalize (lg_sl ([.ref h0, .int p0, .int p1, .ref ho]) ++ List.replicate (5 - (lg_sl ([.ref h0, .int p0, .int p1, .ref ho])).length) Slot.unset).toArray = ls at hl ⊢
  have hl : lv_has ls 5 [(0, .ref h0), (1, .int p0), (2, .int p1), (3, .ref ho)] := hl
  refine lv_aload_n hx hb dL_rec_0 rfl (lv_at hl 3 rfl) ?_
  refine lv_iconst (v := 0) hx hb dL_rec_1 (by decide) ?_
  refine lv_aload_n hx hb dL_rec_2 rfl (lv_at hl 0 rfl) ?_
  refine lv_iload_n hx hb dL_rec_3 rfl (lv_at hl 1 rfl) ?_
  refine lv_iload_n hx hb dL_rec_4 rfl (lv_at hl 2 rfl) ?_
  have hPc := hP.sub (ws' := [(h0, .inr (8, [.ref rp, .int 0, .ref rt, .ref rc, .int ((-1)), .ref r1, .ref r2, .ref r3, .ref r4, .null, .int 0]))]) [0] rfl
  have hDc := hD.sub (ws' := [(h0, .inr (8, [.ref rp, .int 0, .ref rt, .ref rc, .int ((-1)), .ref r1, .ref r2, .ref r3, .ref r4, .null, .int 0]))]) [0] (by decide) rfl
  have hKc := hK.sub (tys' := []) [] rfl
  have hFc := va_free (wc := [(h0, .inr (8, [.ref rp, .int 0, .ref rt, .ref rc, .int ((-1)), .ref r1, .ref r2, .ref r3, .ref r4, .null, .int 0]))]) hD hS hA [0] rfl
  refine vx_calli (vx_runV (As := [.int p0, .int p1]) (rest := [.int 0, .ref ho]) ⟨hx, hb, hml, hown, hts⟩ (c_X_rec_fbig l dC dI tp te s.heap.size hlt h0 rp rt rc r1 r2 r3 r4 p0 p1 hvn hvb hvc) (cwV 2 hts g_L_rec_fbig_5 rfl rfl rfl (by decide +kernel) ⟨Nat.le_of_ble_eq_true rfl, Nat.le_of_ble_eq_true rfl⟩) ⟨Pw.blind, va_recv hKc hPc (ci := 8) (q0 := 0) rfl rfl, Pw.mk hPc hKc hDc hG hS hFc⟩ rfl rfl hl.1 rfl (lv_room (Nat.le_of_ble_eq_true rfl)) dL_rec_5 ⟨Nat.le_of_ble_eq_true rfl, Nat.le_of_ble_eq_true rfl⟩) hS (fun q _ h => hFc q h) hFc (fun q _ h => hFc q h) (fun E ce q9 u t9 H_1 locs ht hvm hpx hBX hz1 hk1 hS hce hcv hcl => ?_) (fun r u t9 H1 locs ht hvm hw hB hz1 hk1 hS => hw.elim)
  have hBX : E = "java/lang/IndexOutOfBoundsException" := hBX
  subst hBX
  refine vx_catch hown [] ⟨0, 10, 13, 19⟩ [⟨0, 10, 17, 13⟩] htab (fun z9 h9 => nomatch h9) (by decide) (by decide) (hts (.classLink RL 19 "java/lang/IndexOutOfBoundsException") (List.mem_of_getElem? (i := 11) rfl)) (va_Nw.use rfl hG.2.2.2.2.2.2.2.1) hce hcv hcl ?_
  obtain ⟨hP, hD⟩ := va_join (wr := []) (w1 := []) hP hD [0] [] rfl rfl (by decide) (by decide) hk1 hFc va_P.nil va_D.nil
  have hK := hK.sub (tys' := []) [] rfl
  have hP : va_P (dC, dI) vwCl [] H_1 := hP
  have hD : va_D A [] := hD
  have hK : va_K (dC, dI) vwCl [] s := hK
  refine W.widen (k := 1) (n := 6) (Nat.le_of_ble_eq_true rfl) (Nat.le_of_ble_eq_true rfl) ?_
  refine lv_astore (lv' := [(4, .ref q9), (0, .ref h0), (1, .int p0), (2, .int p1), (3, .ref ho)]) hx hb dL_rec_13 hl (by decide) rfl (fun ls hl => ?_)
  refine lv_iconst (v := 1) hx hb dL_rec_15 (by decide) ?_
  refine vx_ret ?_
  refine W.widen (k := 1) (n := 6) (Nat.le_of_ble_eq_true rfl) (Nat.le_of_ble_eq_true rfl) ?_
  exact W.iret (v := 1) hx hb hr (fun t ht hW => ⟨⟨1, (), rfl, rfl, trivial⟩, hS.F ht⟩) hS.2.2 dL_rec_16

set_option maxRecDepth 20000 in
def z_L_rec_xneg : List Cond := .codeWith yL_rec cL_rec 5 (some .int) [(0, 10, 13, 19), (0, 10, 17, 13)] :: (([.methodLink RL 39 yX7_rec, .instanceMethod yX7_rec, .selects RX7 yX7_rec yX7_rec, .initialized RX7, .code yX7_rec cX7_rec 3 (some .int), .methodLink RX7 62 yX7_checkName, .static yX7_checkName, .code yX7_checkName cX7_checkName 1 none, .classLink RX7 107 "java/lang/IndexOutOfBoundsException", .initialized "java/lang/IndexOutOfBoundsException", .classLink RL 19 "java/lang/IndexOutOfBoundsException", .classLink RL 13 "java/lang/IllegalStateException"] : List Cond) ++ (vx_at0 RX7 109 "java/lang/IndexOutOfBoundsException" ["java/lang/RuntimeException", "java/lang/Exception"]).filter goodWord)
set_option maxRecDepth 20000 in
theorem gg_L_rec_xneg_5 : GoodIn z_L_rec_xneg z_X_rec_xneg := goodIn_ca (goodIn_p _ [5, 8] rfl (by decide +kernel)) (goodIn_sub (fun _ h => List.mem_cons_of_mem _ (List.mem_append_right _ (h))) (by decide +kernel))
set_option maxRecDepth 20000 in
theorem g_L_rec_xneg_5 : GoodIn z_L_rec_xneg (wsV RL 39 RX7 yX7_rec z_X_rec_xneg) := goodIn_app (goodIn_of _ (by decide +kernel)) gg_L_rec_xneg_5
set_option maxHeartbeats 4000000 in
set_option maxRecDepth 100000 in
theorem c_L_rec_xneg (l : Launch) (dC : Nat → ClassId) (dI : Nat → Nat → Nat) (tp te : Nat) (sz : Nat) (hlt : l.stackTraces = false) (h0 : Nat) (rp : Nat) (rt : Nat) (rc : Nat) (r1 : Nat) (r2 : Nat) (r3 : Nat) (r4 : Nat) (p0 : Int32) (p1 : Int32) (ho : Nat) (hvn : ¬ p0 < 0) (hvb : p0 < 10) (hvc : ¬ 10 ≤ p0) (hvnx : p1 < 0) : vx_Met l yL_rec z_L_rec_xneg ({ frames := 8, cells := 1, slots := 6, locals := 123 }) (va_Pc [.ref h0, .int p0, .int p1, .ref ho] (Pw dC dI [(h0, .inr (8, [.ref rp, .int 0, .ref rt, .ref rc, .int ((-1)), .ref r1, .ref r2, .ref r3, .ref r4, .null, .int 0]))] [] sz tp te)) (va_Qi (fun (r : Int32) (_ : Unit) => r = 1) (fun (_ : Unit) (_ : State) => True) (va_A [(h0, .inr (8, [.ref rp, .int 0, .ref rt, .ref rc, .int ((-1)), .ref r1, .ref r2, .ref r3, .ref r4, .null, .int 0]))] sz)) (vx_X (fun (_ : Unit) => False) (fun (E : String) (_ : Unit) (_ : State) => E = "") (va_A [(h0, .inr (8, [.ref rp, .int 0, .ref rt, .ref rc, .int ((-1)), .ref r1, .ref r2, .ref r3, .ref r4, .null, .int 0]))] sz)) 1 6 (va_A [(h0, .inr (8, [.ref rp, .int 0, .ref rt, .ref rc, .int ((-1)), .ref r1, .ref r2, .ref r3, .ref r4, .null, .int 0]))] sz) := by
  refine vx_ofWH (cc := cL_rec) (maxL := 5) (ret := (some .int)) (hh := [(0, 10, 13, 19), (0, 10, 17, 13)]) (by decide) rfl ?_
  intro p e s m args below meth c s₁ B hml hv
  obtain ⟨rfl, hsz, hP, hK, hD0, hG⟩ := hv
  have hx := B.exec
  have hb := B.bytes
  have hr := B.returns
  have hts := atoms_spec (ws := z_L_rec_xneg) B.pre
  have htab : c.exceptionTable.toList = tableOf [(0, 10, 13, 19), (0, 10, 17, 13)] := vx_table (x := yL_rec) B (hts _ List.mem_cons_self)
  have hown : s.vm.findClass RL = some m.cls := findClass_of_methodNamed B.named
  have hlocks := B.notSynchronized
  subst hsz
  have hD := hD0.self (sz := s.heap.size)
  generalize hAe : va_A [(h0, .inr (8, [.ref rp, .int 0, .ref rt, .ref rc, .int ((-1)), .ref r1, .ref r2, .ref r3, .ref r4, .null, .int 0]))] s.heap.size = A at hD hG ⊢
  have hA : ∀ q : Nat, s.heap.size ≤ q → A q := fun q h => by rw [← hAe]; exact Or.inr h
  have hS : va_S A s.heap s.heap [] := va_S.rf
  have hl := lv_entry ([.ref h0, .int p0, .int p1, .ref ho]) (n := 5) (Nat.le_of_ble_eq_true rfl)
  rw [lg_entry_eq]
  generalize (lg_sl ([.ref h0, .int p0, .int p1, .ref ho]) ++ List.replicate (5 - (lg_sl ([.ref h0, .int p0, .int p1, .ref ho])).length) Slot.unset).toArray = ls at hl ⊢
  have hl : lv_has ls 5 [(0, .ref h0), (1, .int p0), (2, .int p1), (3, .ref ho)] := hl
  refine lv_aload_n hx hb dL_rec_0 rfl (lv_at hl 3 rfl) ?_
  refine lv_iconst (v := 0) hx hb dL_rec_1 (by decide) ?_
  refine lv_aload_n hx hb dL_rec_2 rfl (lv_at hl 0 rfl) ?_
  refine lv_iload_n hx hb dL_rec_3 rfl (lv_at hl 1 rfl) ?_
  refine lv_iload_n hx hb dL_rec_4 rfl (lv_at hl 2 rfl) ?_
  have hPc := hP.sub (ws' := [(h0, .inr (8, [.ref rp, .int 0, .ref rt, .ref rc, .int ((-1)), .ref r1, .ref r2, .ref r3, .ref r4, .null, .int 0]))]) [0] rfl
  have hDc := hD.sub (ws' := [(h0, .inr (8, [.ref rp, .int 0, .ref rt, .ref rc, .int ((-1)), .ref r1, .ref r2, .ref r3, .ref r4, .null, .int 0]))]) [0] (by decide) rfl
  have hKc := hK.sub (tys' := []) [] rfl
  have hFc := va_free (wc := [(h0, .inr (8, [.ref rp, .int 0, .ref rt, .ref rc, .int ((-1)), .ref r1, .ref r2, .ref r3, .ref r4, .null, .int 0]))]) hD hS hA [0] rfl
  refine vx_calli (vx_runV (As := [.int p0, .int p1]) (rest := [.int 0, .ref ho]) ⟨hx, hb, hml, hown, hts⟩ (c_X_rec_xneg l dC dI tp te s.heap.size hlt h0 rp rt rc r1 r2 r3 r4 p0 p1 hvn hvb hvc hvnx) (cwV 2 hts g_L_rec_xneg_5 rfl rfl rfl (by decide +kernel) ⟨Nat.le_of_ble_eq_true rfl, Nat.le_of_ble_eq_true rfl⟩) ⟨Pw.blind, va_recv hKc hPc (ci := 8) (q0 := 0) rfl rfl, Pw.mk hPc hKc hDc hG hS hFc⟩ rfl rfl hl.1 rfl (lv_room (Nat.le_of_ble_eq_true rfl)) dL_rec_5 ⟨Nat.le_of_ble_eq_true rfl, Nat.le_of_ble_eq_true rfl⟩) hS (fun q _ h => hFc q h) hFc (fun q _ h => hFc q h) (fun E ce q9 u t9 H_1 locs ht hvm hpx hBX hz1 hk1 hS hce hcv hcl => ?_) (fun r u t9 H1 locs ht hvm hw hB hz1 hk1 hS => hw.elim)
  have hBX : E = "java/lang/IndexOutOfBoundsException" := hBX
  subst hBX
  refine vx_catch hown [] ⟨0, 10, 13, 19⟩ [⟨0, 10, 17, 13⟩] htab (fun z9 h9 => nomatch h9) (by decide) (by decide) (hts (.classLink RL 19 "java/lang/IndexOutOfBoundsException") (List.mem_of_getElem? (i := 11) rfl)) (va_Nw.use rfl hG.2.2.2.2.2.2.2.1) hce hcv hcl ?_
  obtain ⟨hP, hD⟩ := va_join (wr := []) (w1 := []) hP hD [0] [] rfl rfl (by decide) (by decide) hk1 hFc va_P.nil va_D.nil
  have hK := hK.sub (tys' := []) [] rfl
  have hP : va_P (dC, dI) vwCl [] H_1 := hP
  have hD : va_D A [] := hD
  have hK : va_K (dC, dI) vwCl [] s := hK
  refine W.widen (k := 1) (n := 6) (Nat.le_of_ble_eq_true rfl) (Nat.le_of_ble_eq_true rfl) ?_
  refine lv_astore (lv' := [(4, .ref q9), (0, .ref h0), (1, .int p0), (2, .int p1), (3, .ref ho)]) hx hb dL_rec_13 hl (by decide) rfl (fun ls hl => ?_)
  refine lv_iconst (v := 1) hx hb dL_rec_15 (by decide) ?_
  refine vx_ret ?_
  refine W.widen (k := 1) (n := 6) (Nat.le_of_ble_eq_true rfl) (Nat.le_of_ble_eq_true rfl) ?_
  exact W.iret (v := 1) hx hb hr (fun t ht hW => ⟨⟨1, (), rfl, rfl, trivial⟩, hS.F ht⟩) hS.2.2 dL_rec_16

set_option maxRecDepth 20000 in
def z_L_rec_xbig : List Cond := .codeWith yL_rec cL_rec 5 (some .int) [(0, 10, 13, 19), (0, 10, 17, 13)] :: (([.methodLink RL 39 yX7_rec, .instanceMethod yX7_rec, .selects RX7 yX7_rec yX7_rec, .initialized RX7, .code yX7_rec cX7_rec 3 (some .int), .methodLink RX7 62 yX7_checkName, .static yX7_checkName, .code yX7_checkName cX7_checkName 1 none, .classLink RX7 107 "java/lang/IndexOutOfBoundsException", .initialized "java/lang/IndexOutOfBoundsException", .classLink RL 19 "java/lang/IndexOutOfBoundsException", .classLink RL 13 "java/lang/IllegalStateException"] : List Cond) ++ (vx_at0 RX7 109 "java/lang/IndexOutOfBoundsException" ["java/lang/RuntimeException", "java/lang/Exception"]).filter goodWord)
set_option maxRecDepth 20000 in
theorem gg_L_rec_xbig_5 : GoodIn z_L_rec_xbig z_X_rec_xbig := goodIn_ca (goodIn_p _ [5, 8] rfl (by decide +kernel)) (goodIn_sub (fun _ h => List.mem_cons_of_mem _ (List.mem_append_right _ (h))) (by decide +kernel))
set_option maxRecDepth 20000 in
theorem g_L_rec_xbig_5 : GoodIn z_L_rec_xbig (wsV RL 39 RX7 yX7_rec z_X_rec_xbig) := goodIn_app (goodIn_of _ (by decide +kernel)) gg_L_rec_xbig_5
set_option maxHeartbeats 4000000 in
set_option maxRecDepth 100000 in
theorem c_L_rec_xbig (l : Launch) (dC : Nat → ClassId) (dI : Nat → Nat → Nat) (tp te : Nat) (sz : Nat) (hlt : l.stackTraces = false) (h0 : Nat) (rp : Nat) (rt : Nat) (rc : Nat) (r1 : Nat) (r2 : Nat) (r3 : Nat) (r4 : Nat) (p0 : Int32) (p1 : Int32) (ho : Nat) (hvn : ¬ p0 < 0) (hvb : p0 < 10) (hvc : ¬ 10 ≤ p0) (hvnx : ¬ p1 < 0) (hvbx : ¬ p1 < 10) (hvcx : 10 ≤ p1) : vx_Met l yL_rec z_L_rec_xbig ({ frames := 8, cells := 1, slots := 6, locals := 123 }) (va_Pc [.ref h0, .int p0, .int p1, .ref ho] (Pw dC dI [(h0, .inr (8, [.ref rp, .int 0, .ref rt, .ref rc, .int ((-1)), .ref r1, .ref r2, .ref r3, .ref r4, .null, .int 0]))] [] sz tp te)) (va_Qi (fun (r : Int32) (_ : Unit) => r = 1) (fun (_ : Unit) (_ : State) => True) (va_A [(h0, .inr (8, [.ref rp, .int 0, .ref rt, .ref rc, .int ((-1)), .ref r1, .ref r2, .ref r3, .ref r4, .null, .int 0]))] sz)) (vx_X (fun (_ : Unit) => False) (fun (E : String) (_ : Unit) (_ : State) => E = "") (va_A [(h0, .inr (8, [.ref rp, .int 0, .ref rt, .ref rc, .int ((-1)), .ref r1, .ref r2, .ref r3, .ref r4, .null, .int 0]))] sz)) 1 6 (va_A [(h0, .inr (8, [.ref rp, .int 0, .ref rt, .ref rc, .int ((-1)), .ref r1, .ref r2, .ref r3, .ref r4, .null, .int 0]))] sz) := by
  refine vx_ofWH (cc := cL_rec) (maxL := 5) (ret := (some .int)) (hh := [(0, 10, 13, 19), (0, 10, 17, 13)]) (by decide) rfl ?_
  intro p e s m args below meth c s₁ B hml hv
  obtain ⟨rfl, hsz, hP, hK, hD0, hG⟩ := hv
  have hx := B.exec
  have hb := B.bytes
  have hr := B.returns
  have hts := atoms_spec (ws := z_L_rec_xbig) B.pre
  have htab : c.exceptionTable.toList = tableOf [(0, 10, 13, 19), (0, 10, 17, 13)] := vx_table (x := yL_rec) B (hts _ List.mem_cons_self)
  have hown : s.vm.findClass RL = some m.cls := findClass_of_methodNamed B.named
  have hlocks := B.notSynchronized
  subst hsz
  have hD := hD0.self (sz := s.heap.size)
  generalize hAe : va_A [(h0, .inr (8, [.ref rp, .int 0, .ref rt, .ref rc, .int ((-1)), .ref r1, .ref r2, .ref r3, .ref r4, .null, .int 0]))] s.heap.size = A at hD hG ⊢
  have hA : ∀ q : Nat, s.heap.size ≤ q → A q := fun q h => by rw [← hAe]; exact Or.inr h
  have hS : va_S A s.heap s.heap [] := va_S.rf
  have hl := lv_entry ([.ref h0, .int p0, .int p1, .ref ho]) (n := 5) (Nat.le_of_ble_eq_true rfl)
  rw [lg_entry_eq]
  generalize (lg_sl ([.ref h0, .int p0, .int p1, .ref ho]) ++ List.replicate (5 - (lg_sl ([.ref h0, .int p0, .int p1, .ref ho])).length) Slot.unset).toArray = ls at hl ⊢
  have hl : lv_has ls 5 [(0, .ref h0), (1, .int p0), (2, .int p1), (3, .ref ho)] := hl
  refine lv_aload_n hx hb dL_rec_0 rfl (lv_at hl 3 rfl) ?_
  refine lv_iconst (v := 0) hx hb dL_rec_1 (by decide) ?_
  refine lv_aload_n hx hb dL_rec_2 rfl (lv_at hl 0 rfl) ?_
  refine lv_iload_n hx hb dL_rec_3 rfl (lv_at hl 1 rfl) ?_
  refine lv_iload_n hx hb dL_rec_4 rfl (lv_at hl 2 rfl) ?_
  have hPc := hP.sub (ws' := [(h0, .inr (8, [.ref rp, .int 0, .ref rt, .ref rc, .int ((-1)), .ref r1, .ref r2, .ref r3, .ref r4, .null, .int 0]))]) [0] rfl
  have hDc := hD.sub (ws' := [(h0, .inr (8, [.ref rp, .int 0, .ref rt, .ref rc, .int ((-1)), .ref r1, .ref r2, .ref r3, .ref r4, .null, .int 0]))]) [0] (by decide) rfl
  have hKc := hK.sub (tys' := []) [] rfl
  have hFc := va_free (wc := [(h0, .inr (8, [.ref rp, .int 0, .ref rt, .ref rc, .int ((-1)), .ref r1, .ref r2, .ref r3, .ref r4, .null, .int 0]))]) hD hS hA [0] rfl
  refine vx_calli (vx_runV (As := [.int p0, .int p1]) (rest := [.int 0, .ref ho]) ⟨hx, hb, hml, hown, hts⟩ (c_X_rec_xbig l dC dI tp te s.heap.size hlt h0 rp rt rc r1 r2 r3 r4 p0 p1 hvn hvb hvc hvnx hvbx hvcx) (cwV 2 hts g_L_rec_xbig_5 rfl rfl rfl (by decide +kernel) ⟨Nat.le_of_ble_eq_true rfl, Nat.le_of_ble_eq_true rfl⟩) ⟨Pw.blind, va_recv hKc hPc (ci := 8) (q0 := 0) rfl rfl, Pw.mk hPc hKc hDc hG hS hFc⟩ rfl rfl hl.1 rfl (lv_room (Nat.le_of_ble_eq_true rfl)) dL_rec_5 ⟨Nat.le_of_ble_eq_true rfl, Nat.le_of_ble_eq_true rfl⟩) hS (fun q _ h => hFc q h) hFc (fun q _ h => hFc q h) (fun E ce q9 u t9 H_1 locs ht hvm hpx hBX hz1 hk1 hS hce hcv hcl => ?_) (fun r u t9 H1 locs ht hvm hw hB hz1 hk1 hS => hw.elim)
  have hBX : E = "java/lang/IndexOutOfBoundsException" := hBX
  subst hBX
  refine vx_catch hown [] ⟨0, 10, 13, 19⟩ [⟨0, 10, 17, 13⟩] htab (fun z9 h9 => nomatch h9) (by decide) (by decide) (hts (.classLink RL 19 "java/lang/IndexOutOfBoundsException") (List.mem_of_getElem? (i := 11) rfl)) (va_Nw.use rfl hG.2.2.2.2.2.2.2.1) hce hcv hcl ?_
  obtain ⟨hP, hD⟩ := va_join (wr := []) (w1 := []) hP hD [0] [] rfl rfl (by decide) (by decide) hk1 hFc va_P.nil va_D.nil
  have hK := hK.sub (tys' := []) [] rfl
  have hP : va_P (dC, dI) vwCl [] H_1 := hP
  have hD : va_D A [] := hD
  have hK : va_K (dC, dI) vwCl [] s := hK
  refine W.widen (k := 1) (n := 6) (Nat.le_of_ble_eq_true rfl) (Nat.le_of_ble_eq_true rfl) ?_
  refine lv_astore (lv' := [(4, .ref q9), (0, .ref h0), (1, .int p0), (2, .int p1), (3, .ref ho)]) hx hb dL_rec_13 hl (by decide) rfl (fun ls hl => ?_)
  refine lv_iconst (v := 1) hx hb dL_rec_15 (by decide) ?_
  refine vx_ret ?_
  refine W.widen (k := 1) (n := 6) (Nat.le_of_ble_eq_true rfl) (Nat.le_of_ble_eq_true rfl) ?_
  exact W.iret (v := 1) hx hb hr (fun t ht hW => ⟨⟨1, (), rfl, rfl, trivial⟩, hS.F ht⟩) hS.2.2 dL_rec_16

set_option maxRecDepth 20000 in
def z_L_rec_ok : List Cond := .codeWith yL_rec cL_rec 5 (some .int) [(0, 10, 13, 19), (0, 10, 17, 13)] :: (([.methodLink RL 39 yX7_rec, .instanceMethod yX7_rec, .selects RX7 yX7_rec yX7_rec, .initialized RX7, .code yX7_rec cX7_rec 3 (some .int), .methodLink RX7 62 yX7_checkName, .static yX7_checkName, .code yX7_checkName cX7_checkName 1 none, .methodLink RX7 65 yX7_join, .instanceMethod yX7_join, .selects RX7 yX7_join yX7_join, .code yX7_join cX7_join 5 (some .int), .methodLink RX7 173 yX5_partsOf, .static yX5_partsOf, .initialized RX5, .code yX5_partsOf cX5_partsOf 1 (some .int), .fieldLink RX5 34 "Selfkindle$Term" "PARTS_OF" "[I", .fieldLink RX7 72 "Selfkindle" "height" "I", .classLink RX7 75 "java/lang/IllegalStateException", .initialized "java/lang/IllegalStateException", .classLink RL 19 "java/lang/IndexOutOfBoundsException", .classLink RL 13 "java/lang/IllegalStateException"] : List Cond) ++ wsX70 ++ (vx_at0 RX7 77 "java/lang/IllegalStateException" ["java/lang/RuntimeException", "java/lang/Exception"]).filter goodWord)
theorem in_z_L_rec_ok_X7 : ∀ w ∈ wsX70, w ∈ z_L_rec_ok := fun w h => List.mem_cons_of_mem _ (List.mem_append_left _ (List.mem_append_right _ (h)))
set_option maxRecDepth 20000 in
theorem gg_L_rec_ok_5 : GoodIn z_L_rec_ok z_X_rec_ok := goodIn_ca (goodIn_p _ [5, 8, 12, 16] rfl (by decide +kernel)) (goodIn_sub (fun _ h => List.mem_cons_of_mem _ (List.mem_append_right _ (h))) (by decide +kernel))
set_option maxRecDepth 20000 in
theorem g_L_rec_ok_5 : GoodIn z_L_rec_ok (wsV RL 39 RX7 yX7_rec z_X_rec_ok) := goodIn_app (goodIn_of _ (by decide +kernel)) gg_L_rec_ok_5
set_option maxHeartbeats 4000000 in
set_option maxRecDepth 100000 in
theorem c_L_rec_ok (l : Launch) (dC : Nat → ClassId) (dI : Nat → Nat → Nat) (tp te : Nat) (sz : Nat) (hlt : l.stackTraces = false) (h0 : Nat) (rp : Nat) (rt : Nat) (rc : Nat) (r1 : Nat) (r2 : Nat) (r3 : Nat) (r4 : Nat) (p0 : Int32) (p1 : Int32) (ho : Nat) (hvn : ¬ p0 < 0) (hvb : p0 < 10) (hvc : ¬ 10 ≤ p0) (hvnx : ¬ p1 < 0) (hvbx : p1 < 10) (hvcx : ¬ 10 ≤ p1) : vx_Met l yL_rec z_L_rec_ok ({ frames := 8, cells := 1, slots := 6, locals := 127 }) (va_Pc [.ref h0, .int p0, .int p1, .ref ho] (Pw dC dI [(h0, .inr (8, [.ref rp, .int 0, .ref rt, .ref rc, .int ((-1)), .ref r1, .ref r2, .ref r3, .ref r4, .null, .int 0]))] [] sz tp te)) (va_Qi (fun (r : Int32) (_ : Unit) => r = 2) (fun (_ : Unit) (_ : State) => True) (va_A [(h0, .inr (8, [.ref rp, .int 0, .ref rt, .ref rc, .int ((-1)), .ref r1, .ref r2, .ref r3, .ref r4, .null, .int 0]))] sz)) (vx_X (fun (_ : Unit) => False) (fun (E : String) (_ : Unit) (_ : State) => E = "") (va_A [(h0, .inr (8, [.ref rp, .int 0, .ref rt, .ref rc, .int ((-1)), .ref r1, .ref r2, .ref r3, .ref r4, .null, .int 0]))] sz)) 1 6 (va_A [(h0, .inr (8, [.ref rp, .int 0, .ref rt, .ref rc, .int ((-1)), .ref r1, .ref r2, .ref r3, .ref r4, .null, .int 0]))] sz) := by
  refine vx_ofWH (cc := cL_rec) (maxL := 5) (ret := (some .int)) (hh := [(0, 10, 13, 19), (0, 10, 17, 13)]) (by decide) rfl ?_
  intro p e s m args below meth c s₁ B hml hv
  obtain ⟨rfl, hsz, hP, hK, hD0, hG⟩ := hv
  have hx := B.exec
  have hb := B.bytes
  have hr := B.returns
  have hts := atoms_spec (ws := z_L_rec_ok) B.pre
  have htab : c.exceptionTable.toList = tableOf [(0, 10, 13, 19), (0, 10, 17, 13)] := vx_table (x := yL_rec) B (hts _ List.mem_cons_self)
  have hown : s.vm.findClass RL = some m.cls := findClass_of_methodNamed B.named
  have hlocks := B.notSynchronized
  subst hsz
  have hD := hD0.self (sz := s.heap.size)
  generalize hAe : va_A [(h0, .inr (8, [.ref rp, .int 0, .ref rt, .ref rc, .int ((-1)), .ref r1, .ref r2, .ref r3, .ref r4, .null, .int 0]))] s.heap.size = A at hD hG ⊢
  have hA : ∀ q : Nat, s.heap.size ≤ q → A q := fun q h => by rw [← hAe]; exact Or.inr h
  have hS : va_S A s.heap s.heap [] := va_S.rf
  have hl := lv_entry ([.ref h0, .int p0, .int p1, .ref ho]) (n := 5) (Nat.le_of_ble_eq_true rfl)
  rw [lg_entry_eq]
  generalize (lg_sl ([.ref h0, .int p0, .int p1, .ref ho]) ++ List.replicate (5 - (lg_sl ([.ref h0, .int p0, .int p1, .ref ho])).length) Slot.unset).toArray = ls at hl ⊢
  have hl : lv_has ls 5 [(0, .ref h0), (1, .int p0), (2, .int p1), (3, .ref ho)] := hl
  refine lv_aload_n hx hb dL_rec_0 rfl (lv_at hl 3 rfl) ?_
  refine lv_iconst (v := 0) hx hb dL_rec_1 (by decide) ?_
  refine lv_aload_n hx hb dL_rec_2 rfl (lv_at hl 0 rfl) ?_
  refine lv_iload_n hx hb dL_rec_3 rfl (lv_at hl 1 rfl) ?_
  refine lv_iload_n hx hb dL_rec_4 rfl (lv_at hl 2 rfl) ?_
  have hPc := hP.sub (ws' := [(h0, .inr (8, [.ref rp, .int 0, .ref rt, .ref rc, .int ((-1)), .ref r1, .ref r2, .ref r3, .ref r4, .null, .int 0]))]) [0] rfl
  have hDc := hD.sub (ws' := [(h0, .inr (8, [.ref rp, .int 0, .ref rt, .ref rc, .int ((-1)), .ref r1, .ref r2, .ref r3, .ref r4, .null, .int 0]))]) [0] (by decide) rfl
  have hKc := hK.sub (tys' := []) [] rfl
  have hFc := va_free (wc := [(h0, .inr (8, [.ref rp, .int 0, .ref rt, .ref rc, .int ((-1)), .ref r1, .ref r2, .ref r3, .ref r4, .null, .int 0]))]) hD hS hA [0] rfl
  refine vx_calli (vx_runV (As := [.int p0, .int p1]) (rest := [.int 0, .ref ho]) ⟨hx, hb, hml, hown, hts⟩ (c_X_rec_ok l dC dI tp te s.heap.size hlt h0 rp rt rc r1 r2 r3 r4 p0 p1 hvn hvb hvc hvnx hvbx hvcx) (cwV 2 hts g_L_rec_ok_5 rfl rfl rfl (by decide +kernel) ⟨Nat.le_of_ble_eq_true rfl, Nat.le_of_ble_eq_true rfl⟩) ⟨Pw.blind, va_recv hKc hPc (ci := 8) (q0 := 0) rfl rfl, Pw.mk hPc hKc hDc hG hS hFc⟩ rfl rfl hl.1 rfl (lv_room (Nat.le_of_ble_eq_true rfl)) dL_rec_5 ⟨Nat.le_of_ble_eq_true rfl, Nat.le_of_ble_eq_true rfl⟩) hS (fun q _ h => hFc q h) hFc (fun q _ h => hFc q h) (fun E ce q9 u t9 H_1 locs ht hvm hpx hBX hz1 hk1 hS hce hcv hcl => ?_) (fun r u t9 H1 locs ht hvm hw hB hz1 hk1 hS => hw.elim)
  have hBX : E = "java/lang/IllegalStateException" := hBX
  subst hBX
  refine vx_catch hown [⟨0, 10, 13, 19⟩] ⟨0, 10, 17, 13⟩ [] htab (fun z9 h9 => by rw [List.mem_singleton.mp h9]; exact Or.inr ⟨by decide, "java/lang/IndexOutOfBoundsException", (hts (.classLink RL 19 "java/lang/IndexOutOfBoundsException") (List.mem_of_getElem? (i := 21) rfl)), hG.2.2.2.2.2.2.2.2.2.2.1⟩) (by decide) (by decide) (hts (.classLink RL 13 "java/lang/IllegalStateException") (List.mem_of_getElem? (i := 22) rfl)) (va_Nw.use rfl hG.2.2.2.2.2.2.1) hce hcv hcl ?_
  obtain ⟨hP, hD⟩ := va_join (wr := []) (w1 := []) hP hD [0] [] rfl rfl (by decide) (by decide) hk1 hFc va_P.nil va_D.nil
  have hK := hK.sub (tys' := []) [] rfl
  have hP : va_P (dC, dI) vwCl [] H_1 := hP
  have hD : va_D A [] := hD
  have hK : va_K (dC, dI) vwCl [] s := hK
  refine W.widen (k := 1) (n := 6) (Nat.le_of_ble_eq_true rfl) (Nat.le_of_ble_eq_true rfl) ?_
  refine lv_astore (lv' := [(4, .ref q9), (0, .ref h0), (1, .int p0), (2, .int p1), (3, .ref ho)]) hx hb dL_rec_17 hl (by decide) rfl (fun ls hl => ?_)
  refine lv_iconst (v := 2) hx hb dL_rec_19 (by decide) ?_
  refine vx_ret ?_
  refine W.widen (k := 1) (n := 6) (Nat.le_of_ble_eq_true rfl) (Nat.le_of_ble_eq_true rfl) ?_
  exact W.iret (v := 2) hx hb hr (fun t ht hW => ⟨⟨2, (), rfl, rfl, trivial⟩, hS.F ht⟩) hS.2.2 dL_rec_20

set_option maxRecDepth 20000 in
def z_L_two_neg : List Cond := .codeWith yL_two cL_two 4 (some .int) [(0, 9, 12, 31), (0, 9, 15, 13)] :: (([.methodLink RL 28 yX7_two, .instanceMethod yX7_two, .selects RX7 yX7_two yX7_two, .initialized RX7, .code yX7_two cX7_two 2 (some .int), .classLink RX7 69 "java/lang/IllegalArgumentException", .initialized "java/lang/IllegalArgumentException", .classLink RL 31 "java/lang/IllegalArgumentException", .classLink RL 13 "java/lang/IllegalStateException"] : List Cond) ++ (vx_at0 RX7 71 "java/lang/IllegalArgumentException" ["java/lang/RuntimeException", "java/lang/Exception"]).filter goodWord)
set_option maxRecDepth 20000 in
theorem gg_L_two_neg_4 : GoodIn z_L_two_neg z_X_two_neg := goodIn_ca (goodIn_p _ [5] rfl (by decide +kernel)) (goodIn_sub (fun _ h => List.mem_cons_of_mem _ (List.mem_append_right _ (h))) (by decide +kernel))
set_option maxRecDepth 20000 in
theorem g_L_two_neg_4 : GoodIn z_L_two_neg (wsV RL 28 RX7 yX7_two z_X_two_neg) := goodIn_app (goodIn_of _ (by decide +kernel)) gg_L_two_neg_4
set_option maxHeartbeats 4000000 in
set_option maxRecDepth 100000 in
theorem c_L_two_neg (l : Launch) (dC : Nat → ClassId) (dI : Nat → Nat → Nat) (tp te : Nat) (sz : Nat) (hlt : l.stackTraces = false) (h0 : Nat) (rp : Nat) (rt : Nat) (rc : Nat) (r1 : Nat) (r2 : Nat) (r3 : Nat) (r4 : Nat) (p0 : Int32) (ho : Nat) (hv0 : p0 < 0) : vx_Met l yL_two z_L_two_neg ({ frames := 7, cells := 1, slots := 6, locals := 102 }) (va_Pc [.ref h0, .int p0, .ref ho] (Pw dC dI [(h0, .inr (8, [.ref rp, .int 0, .ref rt, .ref rc, .int ((-1)), .ref r1, .ref r2, .ref r3, .ref r4, .null, .int 0]))] [] sz tp te)) (va_Qi (fun (r : Int32) (_ : Unit) => r = 1) (fun (_ : Unit) (_ : State) => True) (va_A [(h0, .inr (8, [.ref rp, .int 0, .ref rt, .ref rc, .int ((-1)), .ref r1, .ref r2, .ref r3, .ref r4, .null, .int 0]))] sz)) (vx_X (fun (_ : Unit) => False) (fun (E : String) (_ : Unit) (_ : State) => E = "") (va_A [(h0, .inr (8, [.ref rp, .int 0, .ref rt, .ref rc, .int ((-1)), .ref r1, .ref r2, .ref r3, .ref r4, .null, .int 0]))] sz)) 1 6 (va_A [(h0, .inr (8, [.ref rp, .int 0, .ref rt, .ref rc, .int ((-1)), .ref r1, .ref r2, .ref r3, .ref r4, .null, .int 0]))] sz) := by
  refine vx_ofWH (cc := cL_two) (maxL := 4) (ret := (some .int)) (hh := [(0, 9, 12, 31), (0, 9, 15, 13)]) (by decide) rfl ?_
  intro p e s m args below meth c s₁ B hml hv
  obtain ⟨rfl, hsz, hP, hK, hD0, hG⟩ := hv
  have hx := B.exec
  have hb := B.bytes
  have hr := B.returns
  have hts := atoms_spec (ws := z_L_two_neg) B.pre
  have htab : c.exceptionTable.toList = tableOf [(0, 9, 12, 31), (0, 9, 15, 13)] := vx_table (x := yL_two) B (hts _ List.mem_cons_self)
  have hown : s.vm.findClass RL = some m.cls := findClass_of_methodNamed B.named
  have hlocks := B.notSynchronized
  subst hsz
  have hD := hD0.self (sz := s.heap.size)
  generalize hAe : va_A [(h0, .inr (8, [.ref rp, .int 0, .ref rt, .ref rc, .int ((-1)), .ref r1, .ref r2, .ref r3, .ref r4, .null, .int 0]))] s.heap.size = A at hD hG ⊢
  have hA : ∀ q : Nat, s.heap.size ≤ q → A q := fun q h => by rw [← hAe]; exact Or.inr h
  have hS : va_S A s.heap s.heap [] := va_S.rf
  have hl := lv_entry ([.ref h0, .int p0, .ref ho]) (n := 4) (Nat.le_of_ble_eq_true rfl)
  rw [lg_entry_eq]
  generalize (lg_sl ([.ref h0, .int p0, .ref ho]) ++ List.replicate (4 - (lg_sl ([.ref h0, .int p0, .ref ho])).length) Slot.unset).toArray = ls at hl ⊢
  have hl : lv_has ls 4 [(0, .ref h0), (1, .int p0), (2, .ref ho)] := hl
  refine lv_aload_n hx hb dL_two_0 rfl (lv_at hl 2 rfl) ?_
  refine lv_iconst (v := 0) hx hb dL_two_1 (by decide) ?_
  refine lv_aload_n hx hb dL_two_2 rfl (lv_at hl 0 rfl) ?_
  refine lv_iload_n hx hb dL_two_3 rfl (lv_at hl 1 rfl) ?_
  have hPc := hP.sub (ws' := [(h0, .inr (8, [.ref rp, .int 0, .ref rt, .ref rc, .int ((-1)), .ref r1, .ref r2, .ref r3, .ref r4, .null, .int 0]))]) [0] rfl
  have hDc := hD.sub (ws' := [(h0, .inr (8, [.ref rp, .int 0, .ref rt, .ref rc, .int ((-1)), .ref r1, .ref r2, .ref r3, .ref r4, .null, .int 0]))]) [0] (by decide) rfl
  have hKc := hK.sub (tys' := []) [] rfl
  have hFc := va_free (wc := [(h0, .inr (8, [.ref rp, .int 0, .ref rt, .ref rc, .int ((-1)), .ref r1, .ref r2, .ref r3, .ref r4, .null, .int 0]))]) hD hS hA [0] rfl
  refine vx_calli (vx_runV (As := [.int p0]) (rest := [.int 0, .ref ho]) ⟨hx, hb, hml, hown, hts⟩ (c_X_two_neg l dC dI tp te s.heap.size hlt h0 rp rt rc r1 r2 r3 r4 p0 hv0) (cwV 1 hts g_L_two_neg_4 rfl rfl rfl (by decide +kernel) ⟨Nat.le_of_ble_eq_true rfl, Nat.le_of_ble_eq_true rfl⟩) ⟨Pw.blind, va_recv hKc hPc (ci := 8) (q0 := 0) rfl rfl, Pw.mk hPc hKc hDc hG hS hFc⟩ rfl rfl hl.1 rfl (lv_room (Nat.le_of_ble_eq_true rfl)) dL_two_4 ⟨Nat.le_of_ble_eq_true rfl, Nat.le_of_ble_eq_true rfl⟩) hS (fun q _ h => hFc q h) hFc (fun q _ h => hFc q h) (fun E ce q9 u t9 H_1 locs ht hvm hpx hBX hz1 hk1 hS hce hcv hcl => ?_) (fun r u t9 H1 locs ht hvm hw hB hz1 hk1 hS => hw.elim)
  have hBX : E = "java/lang/IllegalArgumentException" := hBX
  subst hBX
  refine vx_catch hown [] ⟨0, 9, 12, 31⟩ [⟨0, 9, 15, 13⟩] htab (fun z9 h9 => nomatch h9) (by decide) (by decide) (hts (.classLink RL 31 "java/lang/IllegalArgumentException") (List.mem_of_getElem? (i := 8) rfl)) (va_Nw.use rfl hG.2.2.2.2.2.2.2.2.1) hce hcv hcl ?_
  obtain ⟨hP, hD⟩ := va_join (wr := []) (w1 := []) hP hD [0] [] rfl rfl (by decide) (by decide) hk1 hFc va_P.nil va_D.nil
  have hK := hK.sub (tys' := []) [] rfl
  have hP : va_P (dC, dI) vwCl [] H_1 := hP
  have hD : va_D A [] := hD
  have hK : va_K (dC, dI) vwCl [] s := hK
  refine W.widen (k := 1) (n := 6) (Nat.le_of_ble_eq_true rfl) (Nat.le_of_ble_eq_true rfl) ?_
  refine lv_astore_n (lv' := [(3, .ref q9), (0, .ref h0), (1, .int p0), (2, .ref ho)]) hx hb dL_two_12 rfl hl (by decide) rfl (fun ls hl => ?_)
  refine lv_iconst (v := 1) hx hb dL_two_13 (by decide) ?_
  refine vx_ret ?_
  refine W.widen (k := 1) (n := 6) (Nat.le_of_ble_eq_true rfl) (Nat.le_of_ble_eq_true rfl) ?_
  exact W.iret (v := 1) hx hb hr (fun t ht hW => ⟨⟨1, (), rfl, rfl, trivial⟩, hS.F ht⟩) hS.2.2 dL_two_14

set_option maxRecDepth 20000 in
def z_L_two_big : List Cond := .codeWith yL_two cL_two 4 (some .int) [(0, 9, 12, 31), (0, 9, 15, 13)] :: (([.methodLink RL 28 yX7_two, .instanceMethod yX7_two, .selects RX7 yX7_two yX7_two, .initialized RX7, .code yX7_two cX7_two 2 (some .int), .classLink RX7 69 "java/lang/IllegalArgumentException", .initialized "java/lang/IllegalArgumentException", .classLink RL 31 "java/lang/IllegalArgumentException", .classLink RL 13 "java/lang/IllegalStateException"] : List Cond) ++ (vx_at0 RX7 71 "java/lang/IllegalArgumentException" ["java/lang/RuntimeException", "java/lang/Exception"]).filter goodWord)
set_option maxRecDepth 20000 in
theorem gg_L_two_big_4 : GoodIn z_L_two_big z_X_two_big := goodIn_ca (goodIn_p _ [5] rfl (by decide +kernel)) (goodIn_sub (fun _ h => List.mem_cons_of_mem _ (List.mem_append_right _ (h))) (by decide +kernel))
set_option maxRecDepth 20000 in
theorem g_L_two_big_4 : GoodIn z_L_two_big (wsV RL 28 RX7 yX7_two z_X_two_big) := goodIn_app (goodIn_of _ (by decide +kernel)) gg_L_two_big_4
set_option maxHeartbeats 4000000 in
set_option maxRecDepth 100000 in
theorem c_L_two_big (l : Launch) (dC : Nat → ClassId) (dI : Nat → Nat → Nat) (tp te : Nat) (sz : Nat) (hlt : l.stackTraces = false) (h0 : Nat) (rp : Nat) (rt : Nat) (rc : Nat) (r1 : Nat) (r2 : Nat) (r3 : Nat) (r4 : Nat) (p0 : Int32) (ho : Nat) (hv0 : ¬ p0 < 0) (hv1 : ¬ p0 < 4) (hv2 : ¬ p0 ≤ 3) : vx_Met l yL_two z_L_two_big ({ frames := 7, cells := 1, slots := 6, locals := 102 }) (va_Pc [.ref h0, .int p0, .ref ho] (Pw dC dI [(h0, .inr (8, [.ref rp, .int 0, .ref rt, .ref rc, .int ((-1)), .ref r1, .ref r2, .ref r3, .ref r4, .null, .int 0]))] [] sz tp te)) (va_Qi (fun (r : Int32) (_ : Unit) => r = 1) (fun (_ : Unit) (_ : State) => True) (va_A [(h0, .inr (8, [.ref rp, .int 0, .ref rt, .ref rc, .int ((-1)), .ref r1, .ref r2, .ref r3, .ref r4, .null, .int 0]))] sz)) (vx_X (fun (_ : Unit) => False) (fun (E : String) (_ : Unit) (_ : State) => E = "") (va_A [(h0, .inr (8, [.ref rp, .int 0, .ref rt, .ref rc, .int ((-1)), .ref r1, .ref r2, .ref r3, .ref r4, .null, .int 0]))] sz)) 1 6 (va_A [(h0, .inr (8, [.ref rp, .int 0, .ref rt, .ref rc, .int ((-1)), .ref r1, .ref r2, .ref r3, .ref r4, .null, .int 0]))] sz) := by
  refine vx_ofWH (cc := cL_two) (maxL := 4) (ret := (some .int)) (hh := [(0, 9, 12, 31), (0, 9, 15, 13)]) (by decide) rfl ?_
  intro p e s m args below meth c s₁ B hml hv
  obtain ⟨rfl, hsz, hP, hK, hD0, hG⟩ := hv
  have hx := B.exec
  have hb := B.bytes
  have hr := B.returns
  have hts := atoms_spec (ws := z_L_two_big) B.pre
  have htab : c.exceptionTable.toList = tableOf [(0, 9, 12, 31), (0, 9, 15, 13)] := vx_table (x := yL_two) B (hts _ List.mem_cons_self)
  have hown : s.vm.findClass RL = some m.cls := findClass_of_methodNamed B.named
  have hlocks := B.notSynchronized
  subst hsz
  have hD := hD0.self (sz := s.heap.size)
  generalize hAe : va_A [(h0, .inr (8, [.ref rp, .int 0, .ref rt, .ref rc, .int ((-1)), .ref r1, .ref r2, .ref r3, .ref r4, .null, .int 0]))] s.heap.size = A at hD hG ⊢
  have hA : ∀ q : Nat, s.heap.size ≤ q → A q := fun q h => by rw [← hAe]; exact Or.inr h
  have hS : va_S A s.heap s.heap [] := va_S.rf
  have hl := lv_entry ([.ref h0, .int p0, .ref ho]) (n := 4) (Nat.le_of_ble_eq_true rfl)
  rw [lg_entry_eq]
  generalize (lg_sl ([.ref h0, .int p0, .ref ho]) ++ List.replicate (4 - (lg_sl ([.ref h0, .int p0, .ref ho])).length) Slot.unset).toArray = ls at hl ⊢
  have hl : lv_has ls 4 [(0, .ref h0), (1, .int p0), (2, .ref ho)] := hl
  refine lv_aload_n hx hb dL_two_0 rfl (lv_at hl 2 rfl) ?_
  refine lv_iconst (v := 0) hx hb dL_two_1 (by decide) ?_
  refine lv_aload_n hx hb dL_two_2 rfl (lv_at hl 0 rfl) ?_
  refine lv_iload_n hx hb dL_two_3 rfl (lv_at hl 1 rfl) ?_
  have hPc := hP.sub (ws' := [(h0, .inr (8, [.ref rp, .int 0, .ref rt, .ref rc, .int ((-1)), .ref r1, .ref r2, .ref r3, .ref r4, .null, .int 0]))]) [0] rfl
  have hDc := hD.sub (ws' := [(h0, .inr (8, [.ref rp, .int 0, .ref rt, .ref rc, .int ((-1)), .ref r1, .ref r2, .ref r3, .ref r4, .null, .int 0]))]) [0] (by decide) rfl
  have hKc := hK.sub (tys' := []) [] rfl
  have hFc := va_free (wc := [(h0, .inr (8, [.ref rp, .int 0, .ref rt, .ref rc, .int ((-1)), .ref r1, .ref r2, .ref r3, .ref r4, .null, .int 0]))]) hD hS hA [0] rfl
  refine vx_calli (vx_runV (As := [.int p0]) (rest := [.int 0, .ref ho]) ⟨hx, hb, hml, hown, hts⟩ (c_X_two_big l dC dI tp te s.heap.size hlt h0 rp rt rc r1 r2 r3 r4 p0 hv0 hv1 hv2) (cwV 1 hts g_L_two_big_4 rfl rfl rfl (by decide +kernel) ⟨Nat.le_of_ble_eq_true rfl, Nat.le_of_ble_eq_true rfl⟩) ⟨Pw.blind, va_recv hKc hPc (ci := 8) (q0 := 0) rfl rfl, Pw.mk hPc hKc hDc hG hS hFc⟩ rfl rfl hl.1 rfl (lv_room (Nat.le_of_ble_eq_true rfl)) dL_two_4 ⟨Nat.le_of_ble_eq_true rfl, Nat.le_of_ble_eq_true rfl⟩) hS (fun q _ h => hFc q h) hFc (fun q _ h => hFc q h) (fun E ce q9 u t9 H_1 locs ht hvm hpx hBX hz1 hk1 hS hce hcv hcl => ?_) (fun r u t9 H1 locs ht hvm hw hB hz1 hk1 hS => hw.elim)
  have hBX : E = "java/lang/IllegalArgumentException" := hBX
  subst hBX
  refine vx_catch hown [] ⟨0, 9, 12, 31⟩ [⟨0, 9, 15, 13⟩] htab (fun z9 h9 => nomatch h9) (by decide) (by decide) (hts (.classLink RL 31 "java/lang/IllegalArgumentException") (List.mem_of_getElem? (i := 8) rfl)) (va_Nw.use rfl hG.2.2.2.2.2.2.2.2.1) hce hcv hcl ?_
  obtain ⟨hP, hD⟩ := va_join (wr := []) (w1 := []) hP hD [0] [] rfl rfl (by decide) (by decide) hk1 hFc va_P.nil va_D.nil
  have hK := hK.sub (tys' := []) [] rfl
  have hP : va_P (dC, dI) vwCl [] H_1 := hP
  have hD : va_D A [] := hD
  have hK : va_K (dC, dI) vwCl [] s := hK
  refine W.widen (k := 1) (n := 6) (Nat.le_of_ble_eq_true rfl) (Nat.le_of_ble_eq_true rfl) ?_
  refine lv_astore_n (lv' := [(3, .ref q9), (0, .ref h0), (1, .int p0), (2, .ref ho)]) hx hb dL_two_12 rfl hl (by decide) rfl (fun ls hl => ?_)
  refine lv_iconst (v := 1) hx hb dL_two_13 (by decide) ?_
  refine vx_ret ?_
  refine W.widen (k := 1) (n := 6) (Nat.le_of_ble_eq_true rfl) (Nat.le_of_ble_eq_true rfl) ?_
  exact W.iret (v := 1) hx hb hr (fun t ht hW => ⟨⟨1, (), rfl, rfl, trivial⟩, hS.F ht⟩) hS.2.2 dL_two_14

set_option maxRecDepth 20000 in
def z_L_two_ok : List Cond := .codeWith yL_two cL_two 4 (some .int) [(0, 9, 12, 31), (0, 9, 15, 13)] :: (([.methodLink RL 28 yX7_two, .instanceMethod yX7_two, .selects RX7 yX7_two yX7_two, .initialized RX7, .code yX7_two cX7_two 2 (some .int), .methodLink RX7 65 yX7_join, .instanceMethod yX7_join, .selects RX7 yX7_join yX7_join, .code yX7_join cX7_join 5 (some .int), .methodLink RX7 173 yX5_partsOf, .static yX5_partsOf, .initialized RX5, .code yX5_partsOf cX5_partsOf 1 (some .int), .fieldLink RX5 34 "Selfkindle$Term" "PARTS_OF" "[I", .fieldLink RX7 72 "Selfkindle" "height" "I", .classLink RX7 75 "java/lang/IllegalStateException", .initialized "java/lang/IllegalStateException", .classLink RL 31 "java/lang/IllegalArgumentException", .classLink RL 13 "java/lang/IllegalStateException"] : List Cond) ++ wsX70 ++ (vx_at0 RX7 77 "java/lang/IllegalStateException" ["java/lang/RuntimeException", "java/lang/Exception"]).filter goodWord)
theorem in_z_L_two_ok_X7 : ∀ w ∈ wsX70, w ∈ z_L_two_ok := fun w h => List.mem_cons_of_mem _ (List.mem_append_left _ (List.mem_append_right _ (h)))
set_option maxRecDepth 20000 in
theorem gg_L_two_ok_4 : GoodIn z_L_two_ok z_X_two_ok := goodIn_ca (goodIn_p _ [5, 9, 13] rfl (by decide +kernel)) (goodIn_sub (fun _ h => List.mem_cons_of_mem _ (List.mem_append_right _ (h))) (by decide +kernel))
set_option maxRecDepth 20000 in
theorem g_L_two_ok_4 : GoodIn z_L_two_ok (wsV RL 28 RX7 yX7_two z_X_two_ok) := goodIn_app (goodIn_of _ (by decide +kernel)) gg_L_two_ok_4
set_option maxHeartbeats 4000000 in
set_option maxRecDepth 100000 in
theorem c_L_two_ok (l : Launch) (dC : Nat → ClassId) (dI : Nat → Nat → Nat) (tp te : Nat) (sz : Nat) (hlt : l.stackTraces = false) (h0 : Nat) (rp : Nat) (rt : Nat) (rc : Nat) (r1 : Nat) (r2 : Nat) (r3 : Nat) (r4 : Nat) (p0 : Int32) (ho : Nat) (hv0 : ¬ p0 < 0) (hv1 : p0 < 4) (hv2 : p0 ≤ 3) : vx_Met l yL_two z_L_two_ok ({ frames := 8, cells := 1, slots := 6, locals := 126 }) (va_Pc [.ref h0, .int p0, .ref ho] (Pw dC dI [(h0, .inr (8, [.ref rp, .int 0, .ref rt, .ref rc, .int ((-1)), .ref r1, .ref r2, .ref r3, .ref r4, .null, .int 0]))] [] sz tp te)) (va_Qi (fun (r : Int32) (_ : Unit) => r = 2) (fun (_ : Unit) (_ : State) => True) (va_A [(h0, .inr (8, [.ref rp, .int 0, .ref rt, .ref rc, .int ((-1)), .ref r1, .ref r2, .ref r3, .ref r4, .null, .int 0]))] sz)) (vx_X (fun (_ : Unit) => False) (fun (E : String) (_ : Unit) (_ : State) => E = "") (va_A [(h0, .inr (8, [.ref rp, .int 0, .ref rt, .ref rc, .int ((-1)), .ref r1, .ref r2, .ref r3, .ref r4, .null, .int 0]))] sz)) 1 6 (va_A [(h0, .inr (8, [.ref rp, .int 0, .ref rt, .ref rc, .int ((-1)), .ref r1, .ref r2, .ref r3, .ref r4, .null, .int 0]))] sz) := by
  refine vx_ofWH (cc := cL_two) (maxL := 4) (ret := (some .int)) (hh := [(0, 9, 12, 31), (0, 9, 15, 13)]) (by decide) rfl ?_
  intro p e s m args below meth c s₁ B hml hv
  obtain ⟨rfl, hsz, hP, hK, hD0, hG⟩ := hv
  have hx := B.exec
  have hb := B.bytes
  have hr := B.returns
  have hts := atoms_spec (ws := z_L_two_ok) B.pre
  have htab : c.exceptionTable.toList = tableOf [(0, 9, 12, 31), (0, 9, 15, 13)] := vx_table (x := yL_two) B (hts _ List.mem_cons_self)
  have hown : s.vm.findClass RL = some m.cls := findClass_of_methodNamed B.named
  have hlocks := B.notSynchronized
  subst hsz
  have hD := hD0.self (sz := s.heap.size)
  generalize hAe : va_A [(h0, .inr (8, [.ref rp, .int 0, .ref rt, .ref rc, .int ((-1)), .ref r1, .ref r2, .ref r3, .ref r4, .null, .int 0]))] s.heap.size = A at hD hG ⊢
  have hA : ∀ q : Nat, s.heap.size ≤ q → A q := fun q h => by rw [← hAe]; exact Or.inr h
  have hS : va_S A s.heap s.heap [] := va_S.rf
  have hl := lv_entry ([.ref h0, .int p0, .ref ho]) (n := 4) (Nat.le_of_ble_eq_true rfl)
  rw [lg_entry_eq]
  generalize (lg_sl ([.ref h0, .int p0, .ref ho]) ++ List.replicate (4 - (lg_sl ([.ref h0, .int p0, .ref ho])).length) Slot.unset).toArray = ls at hl ⊢
  have hl : lv_has ls 4 [(0, .ref h0), (1, .int p0), (2, .ref ho)] := hl
  refine lv_aload_n hx hb dL_two_0 rfl (lv_at hl 2 rfl) ?_
  refine lv_iconst (v := 0) hx hb dL_two_1 (by decide) ?_
  refine lv_aload_n hx hb dL_two_2 rfl (lv_at hl 0 rfl) ?_
  refine lv_iload_n hx hb dL_two_3 rfl (lv_at hl 1 rfl) ?_
  have hPc := hP.sub (ws' := [(h0, .inr (8, [.ref rp, .int 0, .ref rt, .ref rc, .int ((-1)), .ref r1, .ref r2, .ref r3, .ref r4, .null, .int 0]))]) [0] rfl
  have hDc := hD.sub (ws' := [(h0, .inr (8, [.ref rp, .int 0, .ref rt, .ref rc, .int ((-1)), .ref r1, .ref r2, .ref r3, .ref r4, .null, .int 0]))]) [0] (by decide) rfl
  have hKc := hK.sub (tys' := []) [] rfl
  have hFc := va_free (wc := [(h0, .inr (8, [.ref rp, .int 0, .ref rt, .ref rc, .int ((-1)), .ref r1, .ref r2, .ref r3, .ref r4, .null, .int 0]))]) hD hS hA [0] rfl
  refine vx_calli (vx_runV (As := [.int p0]) (rest := [.int 0, .ref ho]) ⟨hx, hb, hml, hown, hts⟩ (c_X_two_ok l dC dI tp te s.heap.size hlt h0 rp rt rc r1 r2 r3 r4 p0 hv0 hv1 hv2) (cwV 1 hts g_L_two_ok_4 rfl rfl rfl (by decide +kernel) ⟨Nat.le_of_ble_eq_true rfl, Nat.le_of_ble_eq_true rfl⟩) ⟨Pw.blind, va_recv hKc hPc (ci := 8) (q0 := 0) rfl rfl, Pw.mk hPc hKc hDc hG hS hFc⟩ rfl rfl hl.1 rfl (lv_room (Nat.le_of_ble_eq_true rfl)) dL_two_4 ⟨Nat.le_of_ble_eq_true rfl, Nat.le_of_ble_eq_true rfl⟩) hS (fun q _ h => hFc q h) hFc (fun q _ h => hFc q h) (fun E ce q9 u t9 H_1 locs ht hvm hpx hBX hz1 hk1 hS hce hcv hcl => ?_) (fun r u t9 H1 locs ht hvm hw hB hz1 hk1 hS => hw.elim)
  have hBX : E = "java/lang/IllegalStateException" := hBX
  subst hBX
  refine vx_catch hown [⟨0, 9, 12, 31⟩] ⟨0, 9, 15, 13⟩ [] htab (fun z9 h9 => by rw [List.mem_singleton.mp h9]; exact Or.inr ⟨by decide, "java/lang/IllegalArgumentException", (hts (.classLink RL 31 "java/lang/IllegalArgumentException") (List.mem_of_getElem? (i := 18) rfl)), hG.2.2.2.2.2.2.2.2.2.2.2.1⟩) (by decide) (by decide) (hts (.classLink RL 13 "java/lang/IllegalStateException") (List.mem_of_getElem? (i := 19) rfl)) (va_Nw.use rfl hG.2.2.2.2.2.2.1) hce hcv hcl ?_
  obtain ⟨hP, hD⟩ := va_join (wr := []) (w1 := []) hP hD [0] [] rfl rfl (by decide) (by decide) hk1 hFc va_P.nil va_D.nil
  have hK := hK.sub (tys' := []) [] rfl
  have hP : va_P (dC, dI) vwCl [] H_1 := hP
  have hD : va_D A [] := hD
  have hK : va_K (dC, dI) vwCl [] s := hK
  refine W.widen (k := 1) (n := 6) (Nat.le_of_ble_eq_true rfl) (Nat.le_of_ble_eq_true rfl) ?_
  refine lv_astore_n (lv' := [(3, .ref q9), (0, .ref h0), (1, .int p0), (2, .ref ho)]) hx hb dL_two_15 rfl hl (by decide) rfl (fun ls hl => ?_)
  refine lv_iconst (v := 2) hx hb dL_two_16 (by decide) ?_
  refine vx_ret ?_
  refine W.widen (k := 1) (n := 6) (Nat.le_of_ble_eq_true rfl) (Nat.le_of_ble_eq_true rfl) ?_
  exact W.iret (v := 2) hx hb hr (fun t ht hW => ⟨⟨2, (), rfl, rfl, trivial⟩, hS.F ht⟩) hS.2.2 dL_two_17

set_option maxRecDepth 20000 in
def z_L_call : List Cond := .codeWith yL_call cL_call 3 (some .int) [(0, 8, 11, 13)] :: (([.methodLink RL 24 yX7_call, .instanceMethod yX7_call, .selects RX7 yX7_call yX7_call, .initialized RX7, .code yX7_call cX7_call 1 (some .int), .methodLink RX7 65 yX7_join, .instanceMethod yX7_join, .selects RX7 yX7_join yX7_join, .code yX7_join cX7_join 5 (some .int), .methodLink RX7 173 yX5_partsOf, .static yX5_partsOf, .initialized RX5, .code yX5_partsOf cX5_partsOf 1 (some .int), .fieldLink RX5 34 "Selfkindle$Term" "PARTS_OF" "[I", .fieldLink RX7 72 "Selfkindle" "height" "I", .classLink RX7 75 "java/lang/IllegalStateException", .initialized "java/lang/IllegalStateException", .classLink RL 13 "java/lang/IllegalStateException"] : List Cond) ++ wsX70 ++ (vx_at0 RX7 77 "java/lang/IllegalStateException" ["java/lang/RuntimeException", "java/lang/Exception"]).filter goodWord)
theorem in_z_L_call_X7 : ∀ w ∈ wsX70, w ∈ z_L_call := fun w h => List.mem_cons_of_mem _ (List.mem_append_left _ (List.mem_append_right _ (h)))
set_option maxRecDepth 20000 in
theorem gg_L_call_3 : GoodIn z_L_call z_X_call := goodIn_ca (goodIn_p _ [5, 9, 13] rfl (by decide +kernel)) (goodIn_sub (fun _ h => List.mem_cons_of_mem _ (List.mem_append_right _ (h))) (by decide +kernel))
set_option maxRecDepth 20000 in
theorem g_L_call_3 : GoodIn z_L_call (wsV RL 24 RX7 yX7_call z_X_call) := goodIn_app (goodIn_of _ (by decide +kernel)) gg_L_call_3
set_option maxHeartbeats 4000000 in
set_option maxRecDepth 100000 in
theorem c_L_call (l : Launch) (dC : Nat → ClassId) (dI : Nat → Nat → Nat) (tp te : Nat) (sz : Nat) (hlt : l.stackTraces = false) (h0 : Nat) (rp : Nat) (rt : Nat) (rc : Nat) (r1 : Nat) (r2 : Nat) (r3 : Nat) (r4 : Nat) (ho : Nat)  : vx_Met l yL_call z_L_call ({ frames := 8, cells := 1, slots := 6, locals := 125 }) (va_Pc [.ref h0, .ref ho] (Pw dC dI [(h0, .inr (8, [.ref rp, .int 0, .ref rt, .ref rc, .int ((-1)), .ref r1, .ref r2, .ref r3, .ref r4, .null, .int 0]))] [] sz tp te)) (va_Qi (fun (r : Int32) (_ : Unit) => r = 1) (fun (_ : Unit) (_ : State) => True) (va_A [(h0, .inr (8, [.ref rp, .int 0, .ref rt, .ref rc, .int ((-1)), .ref r1, .ref r2, .ref r3, .ref r4, .null, .int 0]))] sz)) (vx_X (fun (_ : Unit) => False) (fun (E : String) (_ : Unit) (_ : State) => E = "") (va_A [(h0, .inr (8, [.ref rp, .int 0, .ref rt, .ref rc, .int ((-1)), .ref r1, .ref r2, .ref r3, .ref r4, .null, .int 0]))] sz)) 1 6 (va_A [(h0, .inr (8, [.ref rp, .int 0, .ref rt, .ref rc, .int ((-1)), .ref r1, .ref r2, .ref r3, .ref r4, .null, .int 0]))] sz) := by
  refine vx_ofWH (cc := cL_call) (maxL := 3) (ret := (some .int)) (hh := [(0, 8, 11, 13)]) (by decide) rfl ?_
  intro p e s m args below meth c s₁ B hml hv
  obtain ⟨rfl, hsz, hP, hK, hD0, hG⟩ := hv
  have hx := B.exec
  have hb := B.bytes
  have hr := B.returns
  have hts := atoms_spec (ws := z_L_call) B.pre
  have htab : c.exceptionTable.toList = tableOf [(0, 8, 11, 13)] := vx_table (x := yL_call) B (hts _ List.mem_cons_self)
  have hown : s.vm.findClass RL = some m.cls := findClass_of_methodNamed B.named
  have hlocks := B.notSynchronized
  subst hsz
  have hD := hD0.self (sz := s.heap.size)
  generalize hAe : va_A [(h0, .inr (8, [.ref rp, .int 0, .ref rt, .ref rc, .int ((-1)), .ref r1, .ref r2, .ref r3, .ref r4, .null, .int 0]))] s.heap.size = A at hD hG ⊢
  have hA : ∀ q : Nat, s.heap.size ≤ q → A q := fun q h => by rw [← hAe]; exact Or.inr h
  have hS : va_S A s.heap s.heap [] := va_S.rf
  have hl := lv_entry ([.ref h0, .ref ho]) (n := 3) (Nat.le_of_ble_eq_true rfl)
  rw [lg_entry_eq]
  generalize (lg_sl ([.ref h0, .ref ho]) ++ List.replicate (3 - (lg_sl ([.ref h0, .ref ho])).length) Slot.unset).toArray = ls at hl ⊢
  have hl : lv_has ls 3 [(0, .ref h0), (1, .ref ho)] := hl
  refine lv_aload_n hx hb dL_call_0 rfl (lv_at hl 1 rfl) ?_
  refine lv_iconst (v := 0) hx hb dL_call_1 (by decide) ?_
  refine lv_aload_n hx hb dL_call_2 rfl (lv_at hl 0 rfl) ?_
  have hPc := hP.sub (ws' := [(h0, .inr (8, [.ref rp, .int 0, .ref rt, .ref rc, .int ((-1)), .ref r1, .ref r2, .ref r3, .ref r4, .null, .int 0]))]) [0] rfl
  have hDc := hD.sub (ws' := [(h0, .inr (8, [.ref rp, .int 0, .ref rt, .ref rc, .int ((-1)), .ref r1, .ref r2, .ref r3, .ref r4, .null, .int 0]))]) [0] (by decide) rfl
  have hKc := hK.sub (tys' := []) [] rfl
  have hFc := va_free (wc := [(h0, .inr (8, [.ref rp, .int 0, .ref rt, .ref rc, .int ((-1)), .ref r1, .ref r2, .ref r3, .ref r4, .null, .int 0]))]) hD hS hA [0] rfl
  refine vx_calli (vx_runV (As := []) (rest := [.int 0, .ref ho]) ⟨hx, hb, hml, hown, hts⟩ (c_X_call l dC dI tp te s.heap.size hlt h0 rp rt rc r1 r2 r3 r4) (cwV 0 hts g_L_call_3 rfl rfl rfl (by decide +kernel) ⟨Nat.le_of_ble_eq_true rfl, Nat.le_of_ble_eq_true rfl⟩) ⟨Pw.blind, va_recv hKc hPc (ci := 8) (q0 := 0) rfl rfl, Pw.mk hPc hKc hDc hG hS hFc⟩ rfl rfl hl.1 rfl (lv_room (Nat.le_of_ble_eq_true rfl)) dL_call_3 ⟨Nat.le_of_ble_eq_true rfl, Nat.le_of_ble_eq_true rfl⟩) hS (fun q _ h => hFc q h) hFc (fun q _ h => hFc q h) (fun E ce q9 u t9 H_1 locs ht hvm hpx hBX hz1 hk1 hS hce hcv hcl => ?_) (fun r u t9 H1 locs ht hvm hw hB hz1 hk1 hS => hw.elim)
  have hBX : E = "java/lang/IllegalStateException" := hBX
  subst hBX
  refine vx_catch hown [] ⟨0, 8, 11, 13⟩ [] htab (fun z9 h9 => nomatch h9) (by decide) (by decide) (hts (.classLink RL 13 "java/lang/IllegalStateException") (List.mem_of_getElem? (i := 18) rfl)) (va_Nw.use rfl hG.2.2.2.2.2.2.1) hce hcv hcl ?_
  obtain ⟨hP, hD⟩ := va_join (wr := []) (w1 := []) hP hD [0] [] rfl rfl (by decide) (by decide) hk1 hFc va_P.nil va_D.nil
  have hK := hK.sub (tys' := []) [] rfl
  have hP : va_P (dC, dI) vwCl [] H_1 := hP
  have hD : va_D A [] := hD
  have hK : va_K (dC, dI) vwCl [] s := hK
  refine W.widen (k := 1) (n := 6) (Nat.le_of_ble_eq_true rfl) (Nat.le_of_ble_eq_true rfl) ?_
  refine lv_astore_n (lv' := [(2, .ref q9), (0, .ref h0), (1, .ref ho)]) hx hb dL_call_11 rfl hl (by decide) rfl (fun ls hl => ?_)
  refine lv_iconst (v := 1) hx hb dL_call_12 (by decide) ?_
  refine vx_ret ?_
  refine W.widen (k := 1) (n := 6) (Nat.le_of_ble_eq_true rfl) (Nat.le_of_ble_eq_true rfl) ?_
  exact W.iret (v := 1) hx hb hr (fun t ht hW => ⟨⟨1, (), rfl, rfl, trivial⟩, hS.F ht⟩) hS.2.2 dL_call_13

set_option maxRecDepth 20000 in
def z_L_choose : List Cond := .codeWith yL_choose cL_choose 3 (some .int) [(0, 8, 11, 13)] :: (([.methodLink RL 33 yX7_choose, .instanceMethod yX7_choose, .selects RX7 yX7_choose yX7_choose, .initialized RX7, .code yX7_choose cX7_choose 1 (some .int), .methodLink RX7 65 yX7_join, .instanceMethod yX7_join, .selects RX7 yX7_join yX7_join, .code yX7_join cX7_join 5 (some .int), .methodLink RX7 173 yX5_partsOf, .static yX5_partsOf, .initialized RX5, .code yX5_partsOf cX5_partsOf 1 (some .int), .fieldLink RX5 34 "Selfkindle$Term" "PARTS_OF" "[I", .fieldLink RX7 72 "Selfkindle" "height" "I", .classLink RX7 75 "java/lang/IllegalStateException", .initialized "java/lang/IllegalStateException", .classLink RL 13 "java/lang/IllegalStateException"] : List Cond) ++ wsX70 ++ (vx_at0 RX7 77 "java/lang/IllegalStateException" ["java/lang/RuntimeException", "java/lang/Exception"]).filter goodWord)
theorem in_z_L_choose_X7 : ∀ w ∈ wsX70, w ∈ z_L_choose := fun w h => List.mem_cons_of_mem _ (List.mem_append_left _ (List.mem_append_right _ (h)))
set_option maxRecDepth 20000 in
theorem gg_L_choose_3 : GoodIn z_L_choose z_X_choose := goodIn_ca (goodIn_p _ [5, 9, 13] rfl (by decide +kernel)) (goodIn_sub (fun _ h => List.mem_cons_of_mem _ (List.mem_append_right _ (h))) (by decide +kernel))
set_option maxRecDepth 20000 in
theorem g_L_choose_3 : GoodIn z_L_choose (wsV RL 33 RX7 yX7_choose z_X_choose) := goodIn_app (goodIn_of _ (by decide +kernel)) gg_L_choose_3
set_option maxHeartbeats 4000000 in
set_option maxRecDepth 100000 in
theorem c_L_choose (l : Launch) (dC : Nat → ClassId) (dI : Nat → Nat → Nat) (tp te : Nat) (sz : Nat) (hlt : l.stackTraces = false) (h0 : Nat) (rp : Nat) (rt : Nat) (rc : Nat) (r1 : Nat) (r2 : Nat) (r3 : Nat) (r4 : Nat) (ho : Nat)  : vx_Met l yL_choose z_L_choose ({ frames := 8, cells := 1, slots := 6, locals := 125 }) (va_Pc [.ref h0, .ref ho] (Pw dC dI [(h0, .inr (8, [.ref rp, .int 0, .ref rt, .ref rc, .int ((-1)), .ref r1, .ref r2, .ref r3, .ref r4, .null, .int 0]))] [] sz tp te)) (va_Qi (fun (r : Int32) (_ : Unit) => r = 1) (fun (_ : Unit) (_ : State) => True) (va_A [(h0, .inr (8, [.ref rp, .int 0, .ref rt, .ref rc, .int ((-1)), .ref r1, .ref r2, .ref r3, .ref r4, .null, .int 0]))] sz)) (vx_X (fun (_ : Unit) => False) (fun (E : String) (_ : Unit) (_ : State) => E = "") (va_A [(h0, .inr (8, [.ref rp, .int 0, .ref rt, .ref rc, .int ((-1)), .ref r1, .ref r2, .ref r3, .ref r4, .null, .int 0]))] sz)) 1 6 (va_A [(h0, .inr (8, [.ref rp, .int 0, .ref rt, .ref rc, .int ((-1)), .ref r1, .ref r2, .ref r3, .ref r4, .null, .int 0]))] sz) := by
  refine vx_ofWH (cc := cL_choose) (maxL := 3) (ret := (some .int)) (hh := [(0, 8, 11, 13)]) (by decide) rfl ?_
  intro p e s m args below meth c s₁ B hml hv
  obtain ⟨rfl, hsz, hP, hK, hD0, hG⟩ := hv
  have hx := B.exec
  have hb := B.bytes
  have hr := B.returns
  have hts := atoms_spec (ws := z_L_choose) B.pre
  have htab : c.exceptionTable.toList = tableOf [(0, 8, 11, 13)] := vx_table (x := yL_choose) B (hts _ List.mem_cons_self)
  have hown : s.vm.findClass RL = some m.cls := findClass_of_methodNamed B.named
  have hlocks := B.notSynchronized
  subst hsz
  have hD := hD0.self (sz := s.heap.size)
  generalize hAe : va_A [(h0, .inr (8, [.ref rp, .int 0, .ref rt, .ref rc, .int ((-1)), .ref r1, .ref r2, .ref r3, .ref r4, .null, .int 0]))] s.heap.size = A at hD hG ⊢
  have hA : ∀ q : Nat, s.heap.size ≤ q → A q := fun q h => by rw [← hAe]; exact Or.inr h
  have hS : va_S A s.heap s.heap [] := va_S.rf
  have hl := lv_entry ([.ref h0, .ref ho]) (n := 3) (Nat.le_of_ble_eq_true rfl)
  rw [lg_entry_eq]
  generalize (lg_sl ([.ref h0, .ref ho]) ++ List.replicate (3 - (lg_sl ([.ref h0, .ref ho])).length) Slot.unset).toArray = ls at hl ⊢
  have hl : lv_has ls 3 [(0, .ref h0), (1, .ref ho)] := hl
  refine lv_aload_n hx hb dL_choose_0 rfl (lv_at hl 1 rfl) ?_
  refine lv_iconst (v := 0) hx hb dL_choose_1 (by decide) ?_
  refine lv_aload_n hx hb dL_choose_2 rfl (lv_at hl 0 rfl) ?_
  have hPc := hP.sub (ws' := [(h0, .inr (8, [.ref rp, .int 0, .ref rt, .ref rc, .int ((-1)), .ref r1, .ref r2, .ref r3, .ref r4, .null, .int 0]))]) [0] rfl
  have hDc := hD.sub (ws' := [(h0, .inr (8, [.ref rp, .int 0, .ref rt, .ref rc, .int ((-1)), .ref r1, .ref r2, .ref r3, .ref r4, .null, .int 0]))]) [0] (by decide) rfl
  have hKc := hK.sub (tys' := []) [] rfl
  have hFc := va_free (wc := [(h0, .inr (8, [.ref rp, .int 0, .ref rt, .ref rc, .int ((-1)), .ref r1, .ref r2, .ref r3, .ref r4, .null, .int 0]))]) hD hS hA [0] rfl
  refine vx_calli (vx_runV (As := []) (rest := [.int 0, .ref ho]) ⟨hx, hb, hml, hown, hts⟩ (c_X_choose l dC dI tp te s.heap.size hlt h0 rp rt rc r1 r2 r3 r4) (cwV 0 hts g_L_choose_3 rfl rfl rfl (by decide +kernel) ⟨Nat.le_of_ble_eq_true rfl, Nat.le_of_ble_eq_true rfl⟩) ⟨Pw.blind, va_recv hKc hPc (ci := 8) (q0 := 0) rfl rfl, Pw.mk hPc hKc hDc hG hS hFc⟩ rfl rfl hl.1 rfl (lv_room (Nat.le_of_ble_eq_true rfl)) dL_choose_3 ⟨Nat.le_of_ble_eq_true rfl, Nat.le_of_ble_eq_true rfl⟩) hS (fun q _ h => hFc q h) hFc (fun q _ h => hFc q h) (fun E ce q9 u t9 H_1 locs ht hvm hpx hBX hz1 hk1 hS hce hcv hcl => ?_) (fun r u t9 H1 locs ht hvm hw hB hz1 hk1 hS => hw.elim)
  have hBX : E = "java/lang/IllegalStateException" := hBX
  subst hBX
  refine vx_catch hown [] ⟨0, 8, 11, 13⟩ [] htab (fun z9 h9 => nomatch h9) (by decide) (by decide) (hts (.classLink RL 13 "java/lang/IllegalStateException") (List.mem_of_getElem? (i := 18) rfl)) (va_Nw.use rfl hG.2.2.2.2.2.2.1) hce hcv hcl ?_
  obtain ⟨hP, hD⟩ := va_join (wr := []) (w1 := []) hP hD [0] [] rfl rfl (by decide) (by decide) hk1 hFc va_P.nil va_D.nil
  have hK := hK.sub (tys' := []) [] rfl
  have hP : va_P (dC, dI) vwCl [] H_1 := hP
  have hD : va_D A [] := hD
  have hK : va_K (dC, dI) vwCl [] s := hK
  refine W.widen (k := 1) (n := 6) (Nat.le_of_ble_eq_true rfl) (Nat.le_of_ble_eq_true rfl) ?_
  refine lv_astore_n (lv' := [(2, .ref q9), (0, .ref h0), (1, .ref ho)]) hx hb dL_choose_11 rfl hl (by decide) rfl (fun ls hl => ?_)
  refine lv_iconst (v := 1) hx hb dL_choose_12 (by decide) ?_
  refine vx_ret ?_
  refine W.widen (k := 1) (n := 6) (Nat.le_of_ble_eq_true rfl) (Nat.le_of_ble_eq_true rfl) ?_
  exact W.iret (v := 1) hx hb hr (fun t ht hW => ⟨⟨1, (), rfl, rfl, trivial⟩, hS.F ht⟩) hS.2.2 dL_choose_13

set_option maxRecDepth 20000 in
def z_L_pair : List Cond := .codeWith yL_pair cL_pair 3 (some .int) [(0, 8, 11, 13)] :: (([.methodLink RL 43 yX7_pair, .instanceMethod yX7_pair, .selects RX7 yX7_pair yX7_pair, .initialized RX7, .code yX7_pair cX7_pair 1 (some .int), .methodLink RX7 65 yX7_join, .instanceMethod yX7_join, .selects RX7 yX7_join yX7_join, .code yX7_join cX7_join 5 (some .int), .methodLink RX7 173 yX5_partsOf, .static yX5_partsOf, .initialized RX5, .code yX5_partsOf cX5_partsOf 1 (some .int), .fieldLink RX5 34 "Selfkindle$Term" "PARTS_OF" "[I", .fieldLink RX7 72 "Selfkindle" "height" "I", .classLink RX7 75 "java/lang/IllegalStateException", .initialized "java/lang/IllegalStateException", .classLink RL 13 "java/lang/IllegalStateException"] : List Cond) ++ wsX70 ++ (vx_at0 RX7 77 "java/lang/IllegalStateException" ["java/lang/RuntimeException", "java/lang/Exception"]).filter goodWord)
theorem in_z_L_pair_X7 : ∀ w ∈ wsX70, w ∈ z_L_pair := fun w h => List.mem_cons_of_mem _ (List.mem_append_left _ (List.mem_append_right _ (h)))
set_option maxRecDepth 20000 in
theorem gg_L_pair_3 : GoodIn z_L_pair z_X_pair := goodIn_ca (goodIn_p _ [5, 9, 13] rfl (by decide +kernel)) (goodIn_sub (fun _ h => List.mem_cons_of_mem _ (List.mem_append_right _ (h))) (by decide +kernel))
set_option maxRecDepth 20000 in
theorem g_L_pair_3 : GoodIn z_L_pair (wsV RL 43 RX7 yX7_pair z_X_pair) := goodIn_app (goodIn_of _ (by decide +kernel)) gg_L_pair_3
set_option maxHeartbeats 4000000 in
set_option maxRecDepth 100000 in
theorem c_L_pair (l : Launch) (dC : Nat → ClassId) (dI : Nat → Nat → Nat) (tp te : Nat) (sz : Nat) (hlt : l.stackTraces = false) (h0 : Nat) (rp : Nat) (rt : Nat) (rc : Nat) (r1 : Nat) (r2 : Nat) (r3 : Nat) (r4 : Nat) (ho : Nat)  : vx_Met l yL_pair z_L_pair ({ frames := 8, cells := 1, slots := 6, locals := 125 }) (va_Pc [.ref h0, .ref ho] (Pw dC dI [(h0, .inr (8, [.ref rp, .int 0, .ref rt, .ref rc, .int ((-1)), .ref r1, .ref r2, .ref r3, .ref r4, .null, .int 0]))] [] sz tp te)) (va_Qi (fun (r : Int32) (_ : Unit) => r = 1) (fun (_ : Unit) (_ : State) => True) (va_A [(h0, .inr (8, [.ref rp, .int 0, .ref rt, .ref rc, .int ((-1)), .ref r1, .ref r2, .ref r3, .ref r4, .null, .int 0]))] sz)) (vx_X (fun (_ : Unit) => False) (fun (E : String) (_ : Unit) (_ : State) => E = "") (va_A [(h0, .inr (8, [.ref rp, .int 0, .ref rt, .ref rc, .int ((-1)), .ref r1, .ref r2, .ref r3, .ref r4, .null, .int 0]))] sz)) 1 6 (va_A [(h0, .inr (8, [.ref rp, .int 0, .ref rt, .ref rc, .int ((-1)), .ref r1, .ref r2, .ref r3, .ref r4, .null, .int 0]))] sz) := by
  refine vx_ofWH (cc := cL_pair) (maxL := 3) (ret := (some .int)) (hh := [(0, 8, 11, 13)]) (by decide) rfl ?_
  intro p e s m args below meth c s₁ B hml hv
  obtain ⟨rfl, hsz, hP, hK, hD0, hG⟩ := hv
  have hx := B.exec
  have hb := B.bytes
  have hr := B.returns
  have hts := atoms_spec (ws := z_L_pair) B.pre
  have htab : c.exceptionTable.toList = tableOf [(0, 8, 11, 13)] := vx_table (x := yL_pair) B (hts _ List.mem_cons_self)
  have hown : s.vm.findClass RL = some m.cls := findClass_of_methodNamed B.named
  have hlocks := B.notSynchronized
  subst hsz
  have hD := hD0.self (sz := s.heap.size)
  generalize hAe : va_A [(h0, .inr (8, [.ref rp, .int 0, .ref rt, .ref rc, .int ((-1)), .ref r1, .ref r2, .ref r3, .ref r4, .null, .int 0]))] s.heap.size = A at hD hG ⊢
  have hA : ∀ q : Nat, s.heap.size ≤ q → A q := fun q h => by rw [← hAe]; exact Or.inr h
  have hS : va_S A s.heap s.heap [] := va_S.rf
  have hl := lv_entry ([.ref h0, .ref ho]) (n := 3) (Nat.le_of_ble_eq_true rfl)
  rw [lg_entry_eq]
  generalize (lg_sl ([.ref h0, .ref ho]) ++ List.replicate (3 - (lg_sl ([.ref h0, .ref ho])).length) Slot.unset).toArray = ls at hl ⊢
  have hl : lv_has ls 3 [(0, .ref h0), (1, .ref ho)] := hl
  refine lv_aload_n hx hb dL_pair_0 rfl (lv_at hl 1 rfl) ?_
  refine lv_iconst (v := 0) hx hb dL_pair_1 (by decide) ?_
  refine lv_aload_n hx hb dL_pair_2 rfl (lv_at hl 0 rfl) ?_
  have hPc := hP.sub (ws' := [(h0, .inr (8, [.ref rp, .int 0, .ref rt, .ref rc, .int ((-1)), .ref r1, .ref r2, .ref r3, .ref r4, .null, .int 0]))]) [0] rfl
  have hDc := hD.sub (ws' := [(h0, .inr (8, [.ref rp, .int 0, .ref rt, .ref rc, .int ((-1)), .ref r1, .ref r2, .ref r3, .ref r4, .null, .int 0]))]) [0] (by decide) rfl
  have hKc := hK.sub (tys' := []) [] rfl
  have hFc := va_free (wc := [(h0, .inr (8, [.ref rp, .int 0, .ref rt, .ref rc, .int ((-1)), .ref r1, .ref r2, .ref r3, .ref r4, .null, .int 0]))]) hD hS hA [0] rfl
  refine vx_calli (vx_runV (As := []) (rest := [.int 0, .ref ho]) ⟨hx, hb, hml, hown, hts⟩ (c_X_pair l dC dI tp te s.heap.size hlt h0 rp rt rc r1 r2 r3 r4) (cwV 0 hts g_L_pair_3 rfl rfl rfl (by decide +kernel) ⟨Nat.le_of_ble_eq_true rfl, Nat.le_of_ble_eq_true rfl⟩) ⟨Pw.blind, va_recv hKc hPc (ci := 8) (q0 := 0) rfl rfl, Pw.mk hPc hKc hDc hG hS hFc⟩ rfl rfl hl.1 rfl (lv_room (Nat.le_of_ble_eq_true rfl)) dL_pair_3 ⟨Nat.le_of_ble_eq_true rfl, Nat.le_of_ble_eq_true rfl⟩) hS (fun q _ h => hFc q h) hFc (fun q _ h => hFc q h) (fun E ce q9 u t9 H_1 locs ht hvm hpx hBX hz1 hk1 hS hce hcv hcl => ?_) (fun r u t9 H1 locs ht hvm hw hB hz1 hk1 hS => hw.elim)
  have hBX : E = "java/lang/IllegalStateException" := hBX
  subst hBX
  refine vx_catch hown [] ⟨0, 8, 11, 13⟩ [] htab (fun z9 h9 => nomatch h9) (by decide) (by decide) (hts (.classLink RL 13 "java/lang/IllegalStateException") (List.mem_of_getElem? (i := 18) rfl)) (va_Nw.use rfl hG.2.2.2.2.2.2.1) hce hcv hcl ?_
  obtain ⟨hP, hD⟩ := va_join (wr := []) (w1 := []) hP hD [0] [] rfl rfl (by decide) (by decide) hk1 hFc va_P.nil va_D.nil
  have hK := hK.sub (tys' := []) [] rfl
  have hP : va_P (dC, dI) vwCl [] H_1 := hP
  have hD : va_D A [] := hD
  have hK : va_K (dC, dI) vwCl [] s := hK
  refine W.widen (k := 1) (n := 6) (Nat.le_of_ble_eq_true rfl) (Nat.le_of_ble_eq_true rfl) ?_
  refine lv_astore_n (lv' := [(2, .ref q9), (0, .ref h0), (1, .ref ho)]) hx hb dL_pair_11 rfl hl (by decide) rfl (fun ls hl => ?_)
  refine lv_iconst (v := 1) hx hb dL_pair_12 (by decide) ?_
  refine vx_ret ?_
  refine W.widen (k := 1) (n := 6) (Nat.le_of_ble_eq_true rfl) (Nat.le_of_ble_eq_true rfl) ?_
  exact W.iret (v := 1) hx hb hr (fun t ht hW => ⟨⟨1, (), rfl, rfl, trivial⟩, hS.F ht⟩) hS.2.2 dL_pair_13

set_option maxRecDepth 20000 in
def z_L_raise : List Cond := .codeWith yL_raise cL_raise 3 (some .int) [(0, 8, 11, 13)] :: (([.methodLink RL 50 yX7_raise, .instanceMethod yX7_raise, .selects RX7 yX7_raise yX7_raise, .initialized RX7, .code yX7_raise cX7_raise 1 (some .int), .methodLink RX7 65 yX7_join, .instanceMethod yX7_join, .selects RX7 yX7_join yX7_join, .code yX7_join cX7_join 5 (some .int), .methodLink RX7 173 yX5_partsOf, .static yX5_partsOf, .initialized RX5, .code yX5_partsOf cX5_partsOf 1 (some .int), .fieldLink RX5 34 "Selfkindle$Term" "PARTS_OF" "[I", .fieldLink RX7 72 "Selfkindle" "height" "I", .classLink RX7 75 "java/lang/IllegalStateException", .initialized "java/lang/IllegalStateException", .classLink RL 13 "java/lang/IllegalStateException"] : List Cond) ++ wsX70 ++ (vx_at0 RX7 77 "java/lang/IllegalStateException" ["java/lang/RuntimeException", "java/lang/Exception"]).filter goodWord)
theorem in_z_L_raise_X7 : ∀ w ∈ wsX70, w ∈ z_L_raise := fun w h => List.mem_cons_of_mem _ (List.mem_append_left _ (List.mem_append_right _ (h)))
set_option maxRecDepth 20000 in
theorem gg_L_raise_3 : GoodIn z_L_raise z_X_raise := goodIn_ca (goodIn_p _ [5, 9, 13] rfl (by decide +kernel)) (goodIn_sub (fun _ h => List.mem_cons_of_mem _ (List.mem_append_right _ (h))) (by decide +kernel))
set_option maxRecDepth 20000 in
theorem g_L_raise_3 : GoodIn z_L_raise (wsV RL 50 RX7 yX7_raise z_X_raise) := goodIn_app (goodIn_of _ (by decide +kernel)) gg_L_raise_3
set_option maxHeartbeats 4000000 in
set_option maxRecDepth 100000 in
theorem c_L_raise (l : Launch) (dC : Nat → ClassId) (dI : Nat → Nat → Nat) (tp te : Nat) (sz : Nat) (hlt : l.stackTraces = false) (h0 : Nat) (rp : Nat) (rt : Nat) (rc : Nat) (r1 : Nat) (r2 : Nat) (r3 : Nat) (r4 : Nat) (ho : Nat)  : vx_Met l yL_raise z_L_raise ({ frames := 8, cells := 1, slots := 6, locals := 125 }) (va_Pc [.ref h0, .ref ho] (Pw dC dI [(h0, .inr (8, [.ref rp, .int 0, .ref rt, .ref rc, .int ((-1)), .ref r1, .ref r2, .ref r3, .ref r4, .null, .int 0]))] [] sz tp te)) (va_Qi (fun (r : Int32) (_ : Unit) => r = 1) (fun (_ : Unit) (_ : State) => True) (va_A [(h0, .inr (8, [.ref rp, .int 0, .ref rt, .ref rc, .int ((-1)), .ref r1, .ref r2, .ref r3, .ref r4, .null, .int 0]))] sz)) (vx_X (fun (_ : Unit) => False) (fun (E : String) (_ : Unit) (_ : State) => E = "") (va_A [(h0, .inr (8, [.ref rp, .int 0, .ref rt, .ref rc, .int ((-1)), .ref r1, .ref r2, .ref r3, .ref r4, .null, .int 0]))] sz)) 1 6 (va_A [(h0, .inr (8, [.ref rp, .int 0, .ref rt, .ref rc, .int ((-1)), .ref r1, .ref r2, .ref r3, .ref r4, .null, .int 0]))] sz) := by
  refine vx_ofWH (cc := cL_raise) (maxL := 3) (ret := (some .int)) (hh := [(0, 8, 11, 13)]) (by decide) rfl ?_
  intro p e s m args below meth c s₁ B hml hv
  obtain ⟨rfl, hsz, hP, hK, hD0, hG⟩ := hv
  have hx := B.exec
  have hb := B.bytes
  have hr := B.returns
  have hts := atoms_spec (ws := z_L_raise) B.pre
  have htab : c.exceptionTable.toList = tableOf [(0, 8, 11, 13)] := vx_table (x := yL_raise) B (hts _ List.mem_cons_self)
  have hown : s.vm.findClass RL = some m.cls := findClass_of_methodNamed B.named
  have hlocks := B.notSynchronized
  subst hsz
  have hD := hD0.self (sz := s.heap.size)
  generalize hAe : va_A [(h0, .inr (8, [.ref rp, .int 0, .ref rt, .ref rc, .int ((-1)), .ref r1, .ref r2, .ref r3, .ref r4, .null, .int 0]))] s.heap.size = A at hD hG ⊢
  have hA : ∀ q : Nat, s.heap.size ≤ q → A q := fun q h => by rw [← hAe]; exact Or.inr h
  have hS : va_S A s.heap s.heap [] := va_S.rf
  have hl := lv_entry ([.ref h0, .ref ho]) (n := 3) (Nat.le_of_ble_eq_true rfl)
  rw [lg_entry_eq]
  generalize (lg_sl ([.ref h0, .ref ho]) ++ List.replicate (3 - (lg_sl ([.ref h0, .ref ho])).length) Slot.unset).toArray = ls at hl ⊢
  have hl : lv_has ls 3 [(0, .ref h0), (1, .ref ho)] := hl
  refine lv_aload_n hx hb dL_raise_0 rfl (lv_at hl 1 rfl) ?_
  refine lv_iconst (v := 0) hx hb dL_raise_1 (by decide) ?_
  refine lv_aload_n hx hb dL_raise_2 rfl (lv_at hl 0 rfl) ?_
  have hPc := hP.sub (ws' := [(h0, .inr (8, [.ref rp, .int 0, .ref rt, .ref rc, .int ((-1)), .ref r1, .ref r2, .ref r3, .ref r4, .null, .int 0]))]) [0] rfl
  have hDc := hD.sub (ws' := [(h0, .inr (8, [.ref rp, .int 0, .ref rt, .ref rc, .int ((-1)), .ref r1, .ref r2, .ref r3, .ref r4, .null, .int 0]))]) [0] (by decide) rfl
  have hKc := hK.sub (tys' := []) [] rfl
  have hFc := va_free (wc := [(h0, .inr (8, [.ref rp, .int 0, .ref rt, .ref rc, .int ((-1)), .ref r1, .ref r2, .ref r3, .ref r4, .null, .int 0]))]) hD hS hA [0] rfl
  refine vx_calli (vx_runV (As := []) (rest := [.int 0, .ref ho]) ⟨hx, hb, hml, hown, hts⟩ (c_X_raise l dC dI tp te s.heap.size hlt h0 rp rt rc r1 r2 r3 r4) (cwV 0 hts g_L_raise_3 rfl rfl rfl (by decide +kernel) ⟨Nat.le_of_ble_eq_true rfl, Nat.le_of_ble_eq_true rfl⟩) ⟨Pw.blind, va_recv hKc hPc (ci := 8) (q0 := 0) rfl rfl, Pw.mk hPc hKc hDc hG hS hFc⟩ rfl rfl hl.1 rfl (lv_room (Nat.le_of_ble_eq_true rfl)) dL_raise_3 ⟨Nat.le_of_ble_eq_true rfl, Nat.le_of_ble_eq_true rfl⟩) hS (fun q _ h => hFc q h) hFc (fun q _ h => hFc q h) (fun E ce q9 u t9 H_1 locs ht hvm hpx hBX hz1 hk1 hS hce hcv hcl => ?_) (fun r u t9 H1 locs ht hvm hw hB hz1 hk1 hS => hw.elim)
  have hBX : E = "java/lang/IllegalStateException" := hBX
  subst hBX
  refine vx_catch hown [] ⟨0, 8, 11, 13⟩ [] htab (fun z9 h9 => nomatch h9) (by decide) (by decide) (hts (.classLink RL 13 "java/lang/IllegalStateException") (List.mem_of_getElem? (i := 18) rfl)) (va_Nw.use rfl hG.2.2.2.2.2.2.1) hce hcv hcl ?_
  obtain ⟨hP, hD⟩ := va_join (wr := []) (w1 := []) hP hD [0] [] rfl rfl (by decide) (by decide) hk1 hFc va_P.nil va_D.nil
  have hK := hK.sub (tys' := []) [] rfl
  have hP : va_P (dC, dI) vwCl [] H_1 := hP
  have hD : va_D A [] := hD
  have hK : va_K (dC, dI) vwCl [] s := hK
  refine W.widen (k := 1) (n := 6) (Nat.le_of_ble_eq_true rfl) (Nat.le_of_ble_eq_true rfl) ?_
  refine lv_astore_n (lv' := [(2, .ref q9), (0, .ref h0), (1, .ref ho)]) hx hb dL_raise_11 rfl hl (by decide) rfl (fun ls hl => ?_)
  refine lv_iconst (v := 1) hx hb dL_raise_12 (by decide) ?_
  refine vx_ret ?_
  refine W.widen (k := 1) (n := 6) (Nat.le_of_ble_eq_true rfl) (Nat.le_of_ble_eq_true rfl) ?_
  exact W.iret (v := 1) hx hb hr (fun t ht hW => ⟨⟨1, (), rfl, rfl, trivial⟩, hS.F ht⟩) hS.2.2 dL_raise_13

set_option maxRecDepth 20000 in
def z_L_program : List Cond := .codeWith yL_program cL_program 3 (some .int) [(0, 8, 11, 13)] :: (([.methodLink RL 56 yX7_program, .instanceMethod yX7_program, .selects RX7 yX7_program yX7_program, .initialized RX7, .code yX7_program cX7_program 2 (some .int), .fieldLink RX7 72 "Selfkindle" "height" "I", .classLink RX7 75 "java/lang/IllegalStateException", .initialized "java/lang/IllegalStateException", .classLink RL 13 "java/lang/IllegalStateException"] : List Cond) ++ wsX70 ++ (vx_at0 RX7 77 "java/lang/IllegalStateException" ["java/lang/RuntimeException", "java/lang/Exception"]).filter goodWord)
theorem in_z_L_program_X7 : ∀ w ∈ wsX70, w ∈ z_L_program := fun w h => List.mem_cons_of_mem _ (List.mem_append_left _ (List.mem_append_right _ (h)))
set_option maxRecDepth 20000 in
theorem gg_L_program_3 : GoodIn z_L_program z_X_program := goodIn_ca (goodIn_p _ [5] rfl (by decide +kernel)) (goodIn_sub (fun _ h => List.mem_cons_of_mem _ (List.mem_append_right _ (h))) (by decide +kernel))
set_option maxRecDepth 20000 in
theorem g_L_program_3 : GoodIn z_L_program (wsV RL 56 RX7 yX7_program z_X_program) := goodIn_app (goodIn_of _ (by decide +kernel)) gg_L_program_3
set_option maxHeartbeats 4000000 in
set_option maxRecDepth 100000 in
theorem c_L_program (l : Launch) (dC : Nat → ClassId) (dI : Nat → Nat → Nat) (tp te : Nat) (sz : Nat) (hlt : l.stackTraces = false) (h0 : Nat) (rp : Nat) (rt : Nat) (rc : Nat) (r1 : Nat) (r2 : Nat) (r3 : Nat) (r4 : Nat) (ho : Nat)  : vx_Met l yL_program z_L_program ({ frames := 7, cells := 1, slots := 6, locals := 102 }) (va_Pc [.ref h0, .ref ho] (Pw dC dI [(h0, .inr (8, [.ref rp, .int 0, .ref rt, .ref rc, .int ((-1)), .ref r1, .ref r2, .ref r3, .ref r4, .null, .int 0]))] [] sz tp te)) (va_Qi (fun (r : Int32) (_ : Unit) => r = 1) (fun (_ : Unit) (_ : State) => True) (va_A [(h0, .inr (8, [.ref rp, .int 0, .ref rt, .ref rc, .int ((-1)), .ref r1, .ref r2, .ref r3, .ref r4, .null, .int 0]))] sz)) (vx_X (fun (_ : Unit) => False) (fun (E : String) (_ : Unit) (_ : State) => E = "") (va_A [(h0, .inr (8, [.ref rp, .int 0, .ref rt, .ref rc, .int ((-1)), .ref r1, .ref r2, .ref r3, .ref r4, .null, .int 0]))] sz)) 1 6 (va_A [(h0, .inr (8, [.ref rp, .int 0, .ref rt, .ref rc, .int ((-1)), .ref r1, .ref r2, .ref r3, .ref r4, .null, .int 0]))] sz) := by
  refine vx_ofWH (cc := cL_program) (maxL := 3) (ret := (some .int)) (hh := [(0, 8, 11, 13)]) (by decide) rfl ?_
  intro p e s m args below meth c s₁ B hml hv
  obtain ⟨rfl, hsz, hP, hK, hD0, hG⟩ := hv
  have hx := B.exec
  have hb := B.bytes
  have hr := B.returns
  have hts := atoms_spec (ws := z_L_program) B.pre
  have htab : c.exceptionTable.toList = tableOf [(0, 8, 11, 13)] := vx_table (x := yL_program) B (hts _ List.mem_cons_self)
  have hown : s.vm.findClass RL = some m.cls := findClass_of_methodNamed B.named
  have hlocks := B.notSynchronized
  subst hsz
  have hD := hD0.self (sz := s.heap.size)
  generalize hAe : va_A [(h0, .inr (8, [.ref rp, .int 0, .ref rt, .ref rc, .int ((-1)), .ref r1, .ref r2, .ref r3, .ref r4, .null, .int 0]))] s.heap.size = A at hD hG ⊢
  have hA : ∀ q : Nat, s.heap.size ≤ q → A q := fun q h => by rw [← hAe]; exact Or.inr h
  have hS : va_S A s.heap s.heap [] := va_S.rf
  have hl := lv_entry ([.ref h0, .ref ho]) (n := 3) (Nat.le_of_ble_eq_true rfl)
  rw [lg_entry_eq]
  generalize (lg_sl ([.ref h0, .ref ho]) ++ List.replicate (3 - (lg_sl ([.ref h0, .ref ho])).length) Slot.unset).toArray = ls at hl ⊢
  have hl : lv_has ls 3 [(0, .ref h0), (1, .ref ho)] := hl
  refine lv_aload_n hx hb dL_program_0 rfl (lv_at hl 1 rfl) ?_
  refine lv_iconst (v := 0) hx hb dL_program_1 (by decide) ?_
  refine lv_aload_n hx hb dL_program_2 rfl (lv_at hl 0 rfl) ?_
  have hPc := hP.sub (ws' := [(h0, .inr (8, [.ref rp, .int 0, .ref rt, .ref rc, .int ((-1)), .ref r1, .ref r2, .ref r3, .ref r4, .null, .int 0]))]) [0] rfl
  have hDc := hD.sub (ws' := [(h0, .inr (8, [.ref rp, .int 0, .ref rt, .ref rc, .int ((-1)), .ref r1, .ref r2, .ref r3, .ref r4, .null, .int 0]))]) [0] (by decide) rfl
  have hKc := hK.sub (tys' := []) [] rfl
  have hFc := va_free (wc := [(h0, .inr (8, [.ref rp, .int 0, .ref rt, .ref rc, .int ((-1)), .ref r1, .ref r2, .ref r3, .ref r4, .null, .int 0]))]) hD hS hA [0] rfl
  refine vx_calli (vx_runV (As := []) (rest := [.int 0, .ref ho]) ⟨hx, hb, hml, hown, hts⟩ (c_X_program l dC dI tp te s.heap.size hlt h0 rp rt rc r1 r2 r3 r4) (cwV 0 hts g_L_program_3 rfl rfl rfl (by decide +kernel) ⟨Nat.le_of_ble_eq_true rfl, Nat.le_of_ble_eq_true rfl⟩) ⟨Pw.blind, va_recv hKc hPc (ci := 8) (q0 := 0) rfl rfl, Pw.mk hPc hKc hDc hG hS hFc⟩ rfl rfl hl.1 rfl (lv_room (Nat.le_of_ble_eq_true rfl)) dL_program_3 ⟨Nat.le_of_ble_eq_true rfl, Nat.le_of_ble_eq_true rfl⟩) hS (fun q _ h => hFc q h) hFc (fun q _ h => hFc q h) (fun E ce q9 u t9 H_1 locs ht hvm hpx hBX hz1 hk1 hS hce hcv hcl => ?_) (fun r u t9 H1 locs ht hvm hw hB hz1 hk1 hS => hw.elim)
  have hBX : E = "java/lang/IllegalStateException" := hBX
  subst hBX
  refine vx_catch hown [] ⟨0, 8, 11, 13⟩ [] htab (fun z9 h9 => nomatch h9) (by decide) (by decide) (hts (.classLink RL 13 "java/lang/IllegalStateException") (List.mem_of_getElem? (i := 9) rfl)) (va_Nw.use rfl hG.2.2.2.2.2.2.1) hce hcv hcl ?_
  obtain ⟨hP, hD⟩ := va_join (wr := []) (w1 := []) hP hD [0] [] rfl rfl (by decide) (by decide) hk1 hFc va_P.nil va_D.nil
  have hK := hK.sub (tys' := []) [] rfl
  have hP : va_P (dC, dI) vwCl [] H_1 := hP
  have hD : va_D A [] := hD
  have hK : va_K (dC, dI) vwCl [] s := hK
  refine W.widen (k := 1) (n := 6) (Nat.le_of_ble_eq_true rfl) (Nat.le_of_ble_eq_true rfl) ?_
  refine lv_astore_n (lv' := [(2, .ref q9), (0, .ref h0), (1, .ref ho)]) hx hb dL_program_11 rfl hl (by decide) rfl (fun ls hl => ?_)
  refine lv_iconst (v := 1) hx hb dL_program_12 (by decide) ?_
  refine vx_ret ?_
  refine W.widen (k := 1) (n := 6) (Nat.le_of_ble_eq_true rfl) (Nat.le_of_ble_eq_true rfl) ?_
  exact W.iret (v := 1) hx hb hr (fun t ht hW => ⟨⟨1, (), rfl, rfl, trivial⟩, hS.F ht⟩) hS.2.2 dL_program_13

set_option maxRecDepth 20000 in
def z_L_fault : List Cond := .codeWith yL_fault cL_fault 3 (some .int) [(0, 8, 11, 13)] :: (([.methodLink RL 59 yX7_fault, .instanceMethod yX7_fault, .selects RX7 yX7_fault yX7_fault, .initialized RX7, .code yX7_fault cX7_fault 1 (some .int), .fieldLink RX7 24 "Selfkindle" "wrong" "I", .classLink RX7 75 "java/lang/IllegalStateException", .initialized "java/lang/IllegalStateException", .classLink RL 13 "java/lang/IllegalStateException"] : List Cond) ++ wsX70 ++ (vx_at0 RX7 77 "java/lang/IllegalStateException" ["java/lang/RuntimeException", "java/lang/Exception"]).filter goodWord)
theorem in_z_L_fault_X7 : ∀ w ∈ wsX70, w ∈ z_L_fault := fun w h => List.mem_cons_of_mem _ (List.mem_append_left _ (List.mem_append_right _ (h)))
set_option maxRecDepth 20000 in
theorem gg_L_fault_3 : GoodIn z_L_fault z_X_fault := goodIn_ca (goodIn_p _ [5] rfl (by decide +kernel)) (goodIn_sub (fun _ h => List.mem_cons_of_mem _ (List.mem_append_right _ (h))) (by decide +kernel))
set_option maxRecDepth 20000 in
theorem g_L_fault_3 : GoodIn z_L_fault (wsV RL 59 RX7 yX7_fault z_X_fault) := goodIn_app (goodIn_of _ (by decide +kernel)) gg_L_fault_3
set_option maxHeartbeats 4000000 in
set_option maxRecDepth 100000 in
theorem c_L_fault (l : Launch) (dC : Nat → ClassId) (dI : Nat → Nat → Nat) (tp te : Nat) (sz : Nat) (hlt : l.stackTraces = false) (h0 : Nat) (rp : Nat) (rt : Nat) (rc : Nat) (r1 : Nat) (r2 : Nat) (r3 : Nat) (r4 : Nat) (ho : Nat)  : vx_Met l yL_fault z_L_fault ({ frames := 7, cells := 1, slots := 6, locals := 101 }) (va_Pc [.ref h0, .ref ho] (Pw dC dI [(h0, .inr (8, [.ref rp, .int 0, .ref rt, .ref rc, .int ((-1)), .ref r1, .ref r2, .ref r3, .ref r4, .null, .int 0]))] [] sz tp te)) (va_Qi (fun (r : Int32) (_ : Unit) => r = 1) (fun (_ : Unit) (_ : State) => True) (va_A [(h0, .inr (8, [.ref rp, .int 0, .ref rt, .ref rc, .int ((-1)), .ref r1, .ref r2, .ref r3, .ref r4, .null, .int 0]))] sz)) (vx_X (fun (_ : Unit) => False) (fun (E : String) (_ : Unit) (_ : State) => E = "") (va_A [(h0, .inr (8, [.ref rp, .int 0, .ref rt, .ref rc, .int ((-1)), .ref r1, .ref r2, .ref r3, .ref r4, .null, .int 0]))] sz)) 1 6 (va_A [(h0, .inr (8, [.ref rp, .int 0, .ref rt, .ref rc, .int ((-1)), .ref r1, .ref r2, .ref r3, .ref r4, .null, .int 0]))] sz) := by
  refine vx_ofWH (cc := cL_fault) (maxL := 3) (ret := (some .int)) (hh := [(0, 8, 11, 13)]) (by decide) rfl ?_
  intro p e s m args below meth c s₁ B hml hv
  obtain ⟨rfl, hsz, hP, hK, hD0, hG⟩ := hv
  have hx := B.exec
  have hb := B.bytes
  have hr := B.returns
  have hts := atoms_spec (ws := z_L_fault) B.pre
  have htab : c.exceptionTable.toList = tableOf [(0, 8, 11, 13)] := vx_table (x := yL_fault) B (hts _ List.mem_cons_self)
  have hown : s.vm.findClass RL = some m.cls := findClass_of_methodNamed B.named
  have hlocks := B.notSynchronized
  subst hsz
  have hD := hD0.self (sz := s.heap.size)
  generalize hAe : va_A [(h0, .inr (8, [.ref rp, .int 0, .ref rt, .ref rc, .int ((-1)), .ref r1, .ref r2, .ref r3, .ref r4, .null, .int 0]))] s.heap.size = A at hD hG ⊢
  have hA : ∀ q : Nat, s.heap.size ≤ q → A q := fun q h => by rw [← hAe]; exact Or.inr h
  have hS : va_S A s.heap s.heap [] := va_S.rf
  have hl := lv_entry ([.ref h0, .ref ho]) (n := 3) (Nat.le_of_ble_eq_true rfl)
  rw [lg_entry_eq]
  generalize (lg_sl ([.ref h0, .ref ho]) ++ List.replicate (3 - (lg_sl ([.ref h0, .ref ho])).length) Slot.unset).toArray = ls at hl ⊢
  have hl : lv_has ls 3 [(0, .ref h0), (1, .ref ho)] := hl
  refine lv_aload_n hx hb dL_fault_0 rfl (lv_at hl 1 rfl) ?_
  refine lv_iconst (v := 0) hx hb dL_fault_1 (by decide) ?_
  refine lv_aload_n hx hb dL_fault_2 rfl (lv_at hl 0 rfl) ?_
  have hPc := hP.sub (ws' := [(h0, .inr (8, [.ref rp, .int 0, .ref rt, .ref rc, .int ((-1)), .ref r1, .ref r2, .ref r3, .ref r4, .null, .int 0]))]) [0] rfl
  have hDc := hD.sub (ws' := [(h0, .inr (8, [.ref rp, .int 0, .ref rt, .ref rc, .int ((-1)), .ref r1, .ref r2, .ref r3, .ref r4, .null, .int 0]))]) [0] (by decide) rfl
  have hKc := hK.sub (tys' := []) [] rfl
  have hFc := va_free (wc := [(h0, .inr (8, [.ref rp, .int 0, .ref rt, .ref rc, .int ((-1)), .ref r1, .ref r2, .ref r3, .ref r4, .null, .int 0]))]) hD hS hA [0] rfl
  refine vx_calli (vx_runV (As := []) (rest := [.int 0, .ref ho]) ⟨hx, hb, hml, hown, hts⟩ (c_X_fault l dC dI tp te s.heap.size hlt h0 rp rt rc r1 r2 r3 r4) (cwV 0 hts g_L_fault_3 rfl rfl rfl (by decide +kernel) ⟨Nat.le_of_ble_eq_true rfl, Nat.le_of_ble_eq_true rfl⟩) ⟨Pw.blind, va_recv hKc hPc (ci := 8) (q0 := 0) rfl rfl, Pw.mk hPc hKc hDc hG hS hFc⟩ rfl rfl hl.1 rfl (lv_room (Nat.le_of_ble_eq_true rfl)) dL_fault_3 ⟨Nat.le_of_ble_eq_true rfl, Nat.le_of_ble_eq_true rfl⟩) hS (fun q _ h => hFc q h) hFc (fun q _ h => hFc q h) (fun E ce q9 u t9 H_1 locs ht hvm hpx hBX hz1 hk1 hS hce hcv hcl => ?_) (fun r u t9 H1 locs ht hvm hw hB hz1 hk1 hS => hw.elim)
  have hBX : E = "java/lang/IllegalStateException" := hBX
  subst hBX
  refine vx_catch hown [] ⟨0, 8, 11, 13⟩ [] htab (fun z9 h9 => nomatch h9) (by decide) (by decide) (hts (.classLink RL 13 "java/lang/IllegalStateException") (List.mem_of_getElem? (i := 9) rfl)) (va_Nw.use rfl hG.2.2.2.2.2.2.1) hce hcv hcl ?_
  obtain ⟨hP, hD⟩ := va_join (wr := []) (w1 := []) hP hD [0] [] rfl rfl (by decide) (by decide) hk1 hFc va_P.nil va_D.nil
  have hK := hK.sub (tys' := []) [] rfl
  have hP : va_P (dC, dI) vwCl [] H_1 := hP
  have hD : va_D A [] := hD
  have hK : va_K (dC, dI) vwCl [] s := hK
  refine W.widen (k := 1) (n := 6) (Nat.le_of_ble_eq_true rfl) (Nat.le_of_ble_eq_true rfl) ?_
  refine lv_astore_n (lv' := [(2, .ref q9), (0, .ref h0), (1, .ref ho)]) hx hb dL_fault_11 rfl hl (by decide) rfl (fun ls hl => ?_)
  refine lv_iconst (v := 1) hx hb dL_fault_12 (by decide) ?_
  refine vx_ret ?_
  refine W.widen (k := 1) (n := 6) (Nat.le_of_ble_eq_true rfl) (Nat.le_of_ble_eq_true rfl) ?_
  exact W.iret (v := 1) hx hb hr (fun t ht hW => ⟨⟨1, (), rfl, rfl, trivial⟩, hS.F ht⟩) hS.2.2 dL_fault_13

set_option maxRecDepth 20000 in
def z_L_half : List Cond := .codeWith yL_half cL_half 4 (some .int) [(0, 9, 12, 13)] :: (([.methodLink RL 46 yX7_half, .instanceMethod yX7_half, .selects RX7 yX7_half yX7_half, .initialized RX7, .code yX7_half cX7_half 2 (some .int), .methodLink RX7 65 yX7_join, .instanceMethod yX7_join, .selects RX7 yX7_join yX7_join, .code yX7_join cX7_join 5 (some .int), .methodLink RX7 173 yX5_partsOf, .static yX5_partsOf, .initialized RX5, .code yX5_partsOf cX5_partsOf 1 (some .int), .fieldLink RX5 34 "Selfkindle$Term" "PARTS_OF" "[I", .fieldLink RX7 72 "Selfkindle" "height" "I", .classLink RX7 75 "java/lang/IllegalStateException", .initialized "java/lang/IllegalStateException", .classLink RL 13 "java/lang/IllegalStateException"] : List Cond) ++ wsX70 ++ (vx_at0 RX7 77 "java/lang/IllegalStateException" ["java/lang/RuntimeException", "java/lang/Exception"]).filter goodWord)
theorem in_z_L_half_X7 : ∀ w ∈ wsX70, w ∈ z_L_half := fun w h => List.mem_cons_of_mem _ (List.mem_append_left _ (List.mem_append_right _ (h)))
set_option maxRecDepth 20000 in
theorem gg_L_half_4 : GoodIn z_L_half z_X_half := goodIn_ca (goodIn_p _ [5, 9, 13] rfl (by decide +kernel)) (goodIn_sub (fun _ h => List.mem_cons_of_mem _ (List.mem_append_right _ (h))) (by decide +kernel))
set_option maxRecDepth 20000 in
theorem g_L_half_4 : GoodIn z_L_half (wsV RL 46 RX7 yX7_half z_X_half) := goodIn_app (goodIn_of _ (by decide +kernel)) gg_L_half_4
set_option maxHeartbeats 4000000 in
set_option maxRecDepth 100000 in
theorem c_L_half (l : Launch) (dC : Nat → ClassId) (dI : Nat → Nat → Nat) (tp te : Nat) (sz : Nat) (hlt : l.stackTraces = false) (h0 : Nat) (rp : Nat) (rt : Nat) (rc : Nat) (r1 : Nat) (r2 : Nat) (r3 : Nat) (r4 : Nat) (p0 : Int32) (ho : Nat)  : vx_Met l yL_half z_L_half ({ frames := 8, cells := 1, slots := 6, locals := 126 }) (va_Pc [.ref h0, .int p0, .ref ho] (Pw dC dI [(h0, .inr (8, [.ref rp, .int 0, .ref rt, .ref rc, .int ((-1)), .ref r1, .ref r2, .ref r3, .ref r4, .null, .int 0]))] [] sz tp te)) (va_Qi (fun (r : Int32) (_ : Unit) => r = 1) (fun (_ : Unit) (_ : State) => True) (va_A [(h0, .inr (8, [.ref rp, .int 0, .ref rt, .ref rc, .int ((-1)), .ref r1, .ref r2, .ref r3, .ref r4, .null, .int 0]))] sz)) (vx_X (fun (_ : Unit) => False) (fun (E : String) (_ : Unit) (_ : State) => E = "") (va_A [(h0, .inr (8, [.ref rp, .int 0, .ref rt, .ref rc, .int ((-1)), .ref r1, .ref r2, .ref r3, .ref r4, .null, .int 0]))] sz)) 1 6 (va_A [(h0, .inr (8, [.ref rp, .int 0, .ref rt, .ref rc, .int ((-1)), .ref r1, .ref r2, .ref r3, .ref r4, .null, .int 0]))] sz) := by
  refine vx_ofWH (cc := cL_half) (maxL := 4) (ret := (some .int)) (hh := [(0, 9, 12, 13)]) (by decide) rfl ?_
  intro p e s m args below meth c s₁ B hml hv
  obtain ⟨rfl, hsz, hP, hK, hD0, hG⟩ := hv
  have hx := B.exec
  have hb := B.bytes
  have hr := B.returns
  have hts := atoms_spec (ws := z_L_half) B.pre
  have htab : c.exceptionTable.toList = tableOf [(0, 9, 12, 13)] := vx_table (x := yL_half) B (hts _ List.mem_cons_self)
  have hown : s.vm.findClass RL = some m.cls := findClass_of_methodNamed B.named
  have hlocks := B.notSynchronized
  subst hsz
  have hD := hD0.self (sz := s.heap.size)
  generalize hAe : va_A [(h0, .inr (8, [.ref rp, .int 0, .ref rt, .ref rc, .int ((-1)), .ref r1, .ref r2, .ref r3, .ref r4, .null, .int 0]))] s.heap.size = A at hD hG ⊢
  have hA : ∀ q : Nat, s.heap.size ≤ q → A q := fun q h => by rw [← hAe]; exact Or.inr h
  have hS : va_S A s.heap s.heap [] := va_S.rf
  have hl := lv_entry ([.ref h0, .int p0, .ref ho]) (n := 4) (Nat.le_of_ble_eq_true rfl)
  rw [lg_entry_eq]
  generalize (lg_sl ([.ref h0, .int p0, .ref ho]) ++ List.replicate (4 - (lg_sl ([.ref h0, .int p0, .ref ho])).length) Slot.unset).toArray = ls at hl ⊢
  have hl : lv_has ls 4 [(0, .ref h0), (1, .int p0), (2, .ref ho)] := hl
  refine lv_aload_n hx hb dL_half_0 rfl (lv_at hl 2 rfl) ?_
  refine lv_iconst (v := 0) hx hb dL_half_1 (by decide) ?_
  refine lv_aload_n hx hb dL_half_2 rfl (lv_at hl 0 rfl) ?_
  refine lv_iload_n hx hb dL_half_3 rfl (lv_at hl 1 rfl) ?_
  have hPc := hP.sub (ws' := [(h0, .inr (8, [.ref rp, .int 0, .ref rt, .ref rc, .int ((-1)), .ref r1, .ref r2, .ref r3, .ref r4, .null, .int 0]))]) [0] rfl
  have hDc := hD.sub (ws' := [(h0, .inr (8, [.ref rp, .int 0, .ref rt, .ref rc, .int ((-1)), .ref r1, .ref r2, .ref r3, .ref r4, .null, .int 0]))]) [0] (by decide) rfl
  have hKc := hK.sub (tys' := []) [] rfl
  have hFc := va_free (wc := [(h0, .inr (8, [.ref rp, .int 0, .ref rt, .ref rc, .int ((-1)), .ref r1, .ref r2, .ref r3, .ref r4, .null, .int 0]))]) hD hS hA [0] rfl
  refine vx_calli (vx_runV (As := [.int p0]) (rest := [.int 0, .ref ho]) ⟨hx, hb, hml, hown, hts⟩ (c_X_half l dC dI tp te s.heap.size hlt h0 rp rt rc r1 r2 r3 r4 p0) (cwV 1 hts g_L_half_4 rfl rfl rfl (by decide +kernel) ⟨Nat.le_of_ble_eq_true rfl, Nat.le_of_ble_eq_true rfl⟩) ⟨Pw.blind, va_recv hKc hPc (ci := 8) (q0 := 0) rfl rfl, Pw.mk hPc hKc hDc hG hS hFc⟩ rfl rfl hl.1 rfl (lv_room (Nat.le_of_ble_eq_true rfl)) dL_half_4 ⟨Nat.le_of_ble_eq_true rfl, Nat.le_of_ble_eq_true rfl⟩) hS (fun q _ h => hFc q h) hFc (fun q _ h => hFc q h) (fun E ce q9 u t9 H_1 locs ht hvm hpx hBX hz1 hk1 hS hce hcv hcl => ?_) (fun r u t9 H1 locs ht hvm hw hB hz1 hk1 hS => hw.elim)
  have hBX : E = "java/lang/IllegalStateException" := hBX
  subst hBX
  refine vx_catch hown [] ⟨0, 9, 12, 13⟩ [] htab (fun z9 h9 => nomatch h9) (by decide) (by decide) (hts (.classLink RL 13 "java/lang/IllegalStateException") (List.mem_of_getElem? (i := 18) rfl)) (va_Nw.use rfl hG.2.2.2.2.2.2.1) hce hcv hcl ?_
  obtain ⟨hP, hD⟩ := va_join (wr := []) (w1 := []) hP hD [0] [] rfl rfl (by decide) (by decide) hk1 hFc va_P.nil va_D.nil
  have hK := hK.sub (tys' := []) [] rfl
  have hP : va_P (dC, dI) vwCl [] H_1 := hP
  have hD : va_D A [] := hD
  have hK : va_K (dC, dI) vwCl [] s := hK
  refine W.widen (k := 1) (n := 6) (Nat.le_of_ble_eq_true rfl) (Nat.le_of_ble_eq_true rfl) ?_
  refine lv_astore_n (lv' := [(3, .ref q9), (0, .ref h0), (1, .int p0), (2, .ref ho)]) hx hb dL_half_12 rfl hl (by decide) rfl (fun ls hl => ?_)
  refine lv_iconst (v := 1) hx hb dL_half_13 (by decide) ?_
  refine vx_ret ?_
  refine W.widen (k := 1) (n := 6) (Nat.le_of_ble_eq_true rfl) (Nat.le_of_ble_eq_true rfl) ?_
  exact W.iret (v := 1) hx hb hr (fun t ht hW => ⟨⟨1, (), rfl, rfl, trivial⟩, hS.F ht⟩) hS.2.2 dL_half_14

set_option maxRecDepth 20000 in
def z_L_type_neg : List Cond := .codeWith yL_type cL_type 4 (some .int) [(0, 9, 12, 19), (0, 9, 15, 13)] :: (([.methodLink RL 62 yX7_type, .instanceMethod yX7_type, .selects RX7 yX7_type yX7_type, .initialized RX7, .code yX7_type cX7_type 2 (some .int), .classLink RX7 107 "java/lang/IndexOutOfBoundsException", .initialized "java/lang/IndexOutOfBoundsException", .classLink RL 19 "java/lang/IndexOutOfBoundsException", .classLink RL 13 "java/lang/IllegalStateException"] : List Cond) ++ (vx_at0 RX7 109 "java/lang/IndexOutOfBoundsException" ["java/lang/RuntimeException", "java/lang/Exception"]).filter goodWord)
set_option maxRecDepth 20000 in
theorem gg_L_type_neg_4 : GoodIn z_L_type_neg z_X_type_neg := goodIn_ca (goodIn_p _ [5] rfl (by decide +kernel)) (goodIn_sub (fun _ h => List.mem_cons_of_mem _ (List.mem_append_right _ (h))) (by decide +kernel))
set_option maxRecDepth 20000 in
theorem g_L_type_neg_4 : GoodIn z_L_type_neg (wsV RL 62 RX7 yX7_type z_X_type_neg) := goodIn_app (goodIn_of _ (by decide +kernel)) gg_L_type_neg_4
set_option maxHeartbeats 4000000 in
set_option maxRecDepth 100000 in
theorem c_L_type_neg (l : Launch) (dC : Nat → ClassId) (dI : Nat → Nat → Nat) (tp te : Nat) (sz : Nat) (hlt : l.stackTraces = false) (h0 : Nat) (rp : Nat) (rt : Nat) (rc : Nat) (r1 : Nat) (r2 : Nat) (r3 : Nat) (r4 : Nat) (p0 : Int32) (ho : Nat) (hv0 : ¬ 0 ≤ p0) : vx_Met l yL_type z_L_type_neg ({ frames := 7, cells := 1, slots := 6, locals := 102 }) (va_Pc [.ref h0, .int p0, .ref ho] (Pw dC dI [(h0, .inr (8, [.ref rp, .int 0, .ref rt, .ref rc, .int ((-1)), .ref r1, .ref r2, .ref r3, .ref r4, .null, .int 0]))] [] sz tp te)) (va_Qi (fun (r : Int32) (_ : Unit) => r = 1) (fun (_ : Unit) (_ : State) => True) (va_A [(h0, .inr (8, [.ref rp, .int 0, .ref rt, .ref rc, .int ((-1)), .ref r1, .ref r2, .ref r3, .ref r4, .null, .int 0]))] sz)) (vx_X (fun (_ : Unit) => False) (fun (E : String) (_ : Unit) (_ : State) => E = "") (va_A [(h0, .inr (8, [.ref rp, .int 0, .ref rt, .ref rc, .int ((-1)), .ref r1, .ref r2, .ref r3, .ref r4, .null, .int 0]))] sz)) 1 6 (va_A [(h0, .inr (8, [.ref rp, .int 0, .ref rt, .ref rc, .int ((-1)), .ref r1, .ref r2, .ref r3, .ref r4, .null, .int 0]))] sz) := by
  refine vx_ofWH (cc := cL_type) (maxL := 4) (ret := (some .int)) (hh := [(0, 9, 12, 19), (0, 9, 15, 13)]) (by decide) rfl ?_
  intro p e s m args below meth c s₁ B hml hv
  obtain ⟨rfl, hsz, hP, hK, hD0, hG⟩ := hv
  have hx := B.exec
  have hb := B.bytes
  have hr := B.returns
  have hts := atoms_spec (ws := z_L_type_neg) B.pre
  have htab : c.exceptionTable.toList = tableOf [(0, 9, 12, 19), (0, 9, 15, 13)] := vx_table (x := yL_type) B (hts _ List.mem_cons_self)
  have hown : s.vm.findClass RL = some m.cls := findClass_of_methodNamed B.named
  have hlocks := B.notSynchronized
  subst hsz
  have hD := hD0.self (sz := s.heap.size)
  generalize hAe : va_A [(h0, .inr (8, [.ref rp, .int 0, .ref rt, .ref rc, .int ((-1)), .ref r1, .ref r2, .ref r3, .ref r4, .null, .int 0]))] s.heap.size = A at hD hG ⊢
  have hA : ∀ q : Nat, s.heap.size ≤ q → A q := fun q h => by rw [← hAe]; exact Or.inr h
  have hS : va_S A s.heap s.heap [] := va_S.rf
  have hl := lv_entry ([.ref h0, .int p0, .ref ho]) (n := 4) (Nat.le_of_ble_eq_true rfl)
  rw [lg_entry_eq]
  generalize (lg_sl ([.ref h0, .int p0, .ref ho]) ++ List.replicate (4 - (lg_sl ([.ref h0, .int p0, .ref ho])).length) Slot.unset).toArray = ls at hl ⊢
  have hl : lv_has ls 4 [(0, .ref h0), (1, .int p0), (2, .ref ho)] := hl
  refine lv_aload_n hx hb dL_type_0 rfl (lv_at hl 2 rfl) ?_
  refine lv_iconst (v := 0) hx hb dL_type_1 (by decide) ?_
  refine lv_aload_n hx hb dL_type_2 rfl (lv_at hl 0 rfl) ?_
  refine lv_iload_n hx hb dL_type_3 rfl (lv_at hl 1 rfl) ?_
  have hPc := hP.sub (ws' := [(h0, .inr (8, [.ref rp, .int 0, .ref rt, .ref rc, .int ((-1)), .ref r1, .ref r2, .ref r3, .ref r4, .null, .int 0]))]) [0] rfl
  have hDc := hD.sub (ws' := [(h0, .inr (8, [.ref rp, .int 0, .ref rt, .ref rc, .int ((-1)), .ref r1, .ref r2, .ref r3, .ref r4, .null, .int 0]))]) [0] (by decide) rfl
  have hKc := hK.sub (tys' := []) [] rfl
  have hFc := va_free (wc := [(h0, .inr (8, [.ref rp, .int 0, .ref rt, .ref rc, .int ((-1)), .ref r1, .ref r2, .ref r3, .ref r4, .null, .int 0]))]) hD hS hA [0] rfl
  refine vx_calli (vx_runV (As := [.int p0]) (rest := [.int 0, .ref ho]) ⟨hx, hb, hml, hown, hts⟩ (c_X_type_neg l dC dI tp te s.heap.size hlt h0 rp rt rc r1 r2 r3 r4 p0 hv0) (cwV 1 hts g_L_type_neg_4 rfl rfl rfl (by decide +kernel) ⟨Nat.le_of_ble_eq_true rfl, Nat.le_of_ble_eq_true rfl⟩) ⟨Pw.blind, va_recv hKc hPc (ci := 8) (q0 := 0) rfl rfl, Pw.mk hPc hKc hDc hG hS hFc⟩ rfl rfl hl.1 rfl (lv_room (Nat.le_of_ble_eq_true rfl)) dL_type_4 ⟨Nat.le_of_ble_eq_true rfl, Nat.le_of_ble_eq_true rfl⟩) hS (fun q _ h => hFc q h) hFc (fun q _ h => hFc q h) (fun E ce q9 u t9 H_1 locs ht hvm hpx hBX hz1 hk1 hS hce hcv hcl => ?_) (fun r u t9 H1 locs ht hvm hw hB hz1 hk1 hS => hw.elim)
  have hBX : E = "java/lang/IndexOutOfBoundsException" := hBX
  subst hBX
  refine vx_catch hown [] ⟨0, 9, 12, 19⟩ [⟨0, 9, 15, 13⟩] htab (fun z9 h9 => nomatch h9) (by decide) (by decide) (hts (.classLink RL 19 "java/lang/IndexOutOfBoundsException") (List.mem_of_getElem? (i := 8) rfl)) (va_Nw.use rfl hG.2.2.2.2.2.2.2.1) hce hcv hcl ?_
  obtain ⟨hP, hD⟩ := va_join (wr := []) (w1 := []) hP hD [0] [] rfl rfl (by decide) (by decide) hk1 hFc va_P.nil va_D.nil
  have hK := hK.sub (tys' := []) [] rfl
  have hP : va_P (dC, dI) vwCl [] H_1 := hP
  have hD : va_D A [] := hD
  have hK : va_K (dC, dI) vwCl [] s := hK
  refine W.widen (k := 1) (n := 6) (Nat.le_of_ble_eq_true rfl) (Nat.le_of_ble_eq_true rfl) ?_
  refine lv_astore_n (lv' := [(3, .ref q9), (0, .ref h0), (1, .int p0), (2, .ref ho)]) hx hb dL_type_12 rfl hl (by decide) rfl (fun ls hl => ?_)
  refine lv_iconst (v := 1) hx hb dL_type_13 (by decide) ?_
  refine vx_ret ?_
  refine W.widen (k := 1) (n := 6) (Nat.le_of_ble_eq_true rfl) (Nat.le_of_ble_eq_true rfl) ?_
  exact W.iret (v := 1) hx hb hr (fun t ht hW => ⟨⟨1, (), rfl, rfl, trivial⟩, hS.F ht⟩) hS.2.2 dL_type_14

set_option maxRecDepth 20000 in
def z_L_type_ok : List Cond := .codeWith yL_type cL_type 4 (some .int) [(0, 9, 12, 19), (0, 9, 15, 13)] :: (([.methodLink RL 62 yX7_type, .instanceMethod yX7_type, .selects RX7 yX7_type yX7_type, .initialized RX7, .code yX7_type cX7_type 2 (some .int), .methodLink RX7 110 yX7_checkProgram, .instanceMethod yX7_checkProgram, .selects RX7 yX7_checkProgram yX7_checkProgram, .code yX7_checkProgram cX7_checkProgram 1 none, .fieldLink RX7 24 "Selfkindle" "wrong" "I", .classLink RX7 75 "java/lang/IllegalStateException", .initialized "java/lang/IllegalStateException", .classLink RL 19 "java/lang/IndexOutOfBoundsException", .classLink RL 13 "java/lang/IllegalStateException"] : List Cond) ++ wsX70 ++ (vx_at0 RX7 77 "java/lang/IllegalStateException" ["java/lang/RuntimeException", "java/lang/Exception"]).filter goodWord)
theorem in_z_L_type_ok_X7 : ∀ w ∈ wsX70, w ∈ z_L_type_ok := fun w h => List.mem_cons_of_mem _ (List.mem_append_left _ (List.mem_append_right _ (h)))
set_option maxRecDepth 20000 in
theorem gg_L_type_ok_4 : GoodIn z_L_type_ok z_X_type_ok := goodIn_ca (goodIn_p _ [5, 9] rfl (by decide +kernel)) (goodIn_sub (fun _ h => List.mem_cons_of_mem _ (List.mem_append_right _ (h))) (by decide +kernel))
set_option maxRecDepth 20000 in
theorem g_L_type_ok_4 : GoodIn z_L_type_ok (wsV RL 62 RX7 yX7_type z_X_type_ok) := goodIn_app (goodIn_of _ (by decide +kernel)) gg_L_type_ok_4
set_option maxHeartbeats 4000000 in
set_option maxRecDepth 100000 in
theorem c_L_type_ok (l : Launch) (dC : Nat → ClassId) (dI : Nat → Nat → Nat) (tp te : Nat) (sz : Nat) (hlt : l.stackTraces = false) (h0 : Nat) (rp : Nat) (rt : Nat) (rc : Nat) (r1 : Nat) (r2 : Nat) (r3 : Nat) (r4 : Nat) (p0 : Int32) (ho : Nat) (hv0 : 0 ≤ p0) : vx_Met l yL_type z_L_type_ok ({ frames := 8, cells := 1, slots := 6, locals := 122 }) (va_Pc [.ref h0, .int p0, .ref ho] (Pw dC dI [(h0, .inr (8, [.ref rp, .int 0, .ref rt, .ref rc, .int ((-1)), .ref r1, .ref r2, .ref r3, .ref r4, .null, .int 0]))] [] sz tp te)) (va_Qi (fun (r : Int32) (_ : Unit) => r = 2) (fun (_ : Unit) (_ : State) => True) (va_A [(h0, .inr (8, [.ref rp, .int 0, .ref rt, .ref rc, .int ((-1)), .ref r1, .ref r2, .ref r3, .ref r4, .null, .int 0]))] sz)) (vx_X (fun (_ : Unit) => False) (fun (E : String) (_ : Unit) (_ : State) => E = "") (va_A [(h0, .inr (8, [.ref rp, .int 0, .ref rt, .ref rc, .int ((-1)), .ref r1, .ref r2, .ref r3, .ref r4, .null, .int 0]))] sz)) 1 6 (va_A [(h0, .inr (8, [.ref rp, .int 0, .ref rt, .ref rc, .int ((-1)), .ref r1, .ref r2, .ref r3, .ref r4, .null, .int 0]))] sz) := by
  refine vx_ofWH (cc := cL_type) (maxL := 4) (ret := (some .int)) (hh := [(0, 9, 12, 19), (0, 9, 15, 13)]) (by decide) rfl ?_
  intro p e s m args below meth c s₁ B hml hv
  obtain ⟨rfl, hsz, hP, hK, hD0, hG⟩ := hv
  have hx := B.exec
  have hb := B.bytes
  have hr := B.returns
  have hts := atoms_spec (ws := z_L_type_ok) B.pre
  have htab : c.exceptionTable.toList = tableOf [(0, 9, 12, 19), (0, 9, 15, 13)] := vx_table (x := yL_type) B (hts _ List.mem_cons_self)
  have hown : s.vm.findClass RL = some m.cls := findClass_of_methodNamed B.named
  have hlocks := B.notSynchronized
  subst hsz
  have hD := hD0.self (sz := s.heap.size)
  generalize hAe : va_A [(h0, .inr (8, [.ref rp, .int 0, .ref rt, .ref rc, .int ((-1)), .ref r1, .ref r2, .ref r3, .ref r4, .null, .int 0]))] s.heap.size = A at hD hG ⊢
  have hA : ∀ q : Nat, s.heap.size ≤ q → A q := fun q h => by rw [← hAe]; exact Or.inr h
  have hS : va_S A s.heap s.heap [] := va_S.rf
  have hl := lv_entry ([.ref h0, .int p0, .ref ho]) (n := 4) (Nat.le_of_ble_eq_true rfl)
  rw [lg_entry_eq]
  generalize (lg_sl ([.ref h0, .int p0, .ref ho]) ++ List.replicate (4 - (lg_sl ([.ref h0, .int p0, .ref ho])).length) Slot.unset).toArray = ls at hl ⊢
  have hl : lv_has ls 4 [(0, .ref h0), (1, .int p0), (2, .ref ho)] := hl
  refine lv_aload_n hx hb dL_type_0 rfl (lv_at hl 2 rfl) ?_
  refine lv_iconst (v := 0) hx hb dL_type_1 (by decide) ?_
  refine lv_aload_n hx hb dL_type_2 rfl (lv_at hl 0 rfl) ?_
  refine lv_iload_n hx hb dL_type_3 rfl (lv_at hl 1 rfl) ?_
  have hPc := hP.sub (ws' := [(h0, .inr (8, [.ref rp, .int 0, .ref rt, .ref rc, .int ((-1)), .ref r1, .ref r2, .ref r3, .ref r4, .null, .int 0]))]) [0] rfl
  have hDc := hD.sub (ws' := [(h0, .inr (8, [.ref rp, .int 0, .ref rt, .ref rc, .int ((-1)), .ref r1, .ref r2, .ref r3, .ref r4, .null, .int 0]))]) [0] (by decide) rfl
  have hKc := hK.sub (tys' := []) [] rfl
  have hFc := va_free (wc := [(h0, .inr (8, [.ref rp, .int 0, .ref rt, .ref rc, .int ((-1)), .ref r1, .ref r2, .ref r3, .ref r4, .null, .int 0]))]) hD hS hA [0] rfl
  refine vx_calli (vx_runV (As := [.int p0]) (rest := [.int 0, .ref ho]) ⟨hx, hb, hml, hown, hts⟩ (c_X_type_ok l dC dI tp te s.heap.size hlt h0 rp rt rc r1 r2 r3 r4 p0 hv0) (cwV 1 hts g_L_type_ok_4 rfl rfl rfl (by decide +kernel) ⟨Nat.le_of_ble_eq_true rfl, Nat.le_of_ble_eq_true rfl⟩) ⟨Pw.blind, va_recv hKc hPc (ci := 8) (q0 := 0) rfl rfl, Pw.mk hPc hKc hDc hG hS hFc⟩ rfl rfl hl.1 rfl (lv_room (Nat.le_of_ble_eq_true rfl)) dL_type_4 ⟨Nat.le_of_ble_eq_true rfl, Nat.le_of_ble_eq_true rfl⟩) hS (fun q _ h => hFc q h) hFc (fun q _ h => hFc q h) (fun E ce q9 u t9 H_1 locs ht hvm hpx hBX hz1 hk1 hS hce hcv hcl => ?_) (fun r u t9 H1 locs ht hvm hw hB hz1 hk1 hS => hw.elim)
  have hBX : E = "java/lang/IllegalStateException" := hBX
  subst hBX
  refine vx_catch hown [⟨0, 9, 12, 19⟩] ⟨0, 9, 15, 13⟩ [] htab (fun z9 h9 => by rw [List.mem_singleton.mp h9]; exact Or.inr ⟨by decide, "java/lang/IndexOutOfBoundsException", (hts (.classLink RL 19 "java/lang/IndexOutOfBoundsException") (List.mem_of_getElem? (i := 13) rfl)), hG.2.2.2.2.2.2.2.2.2.2.1⟩) (by decide) (by decide) (hts (.classLink RL 13 "java/lang/IllegalStateException") (List.mem_of_getElem? (i := 14) rfl)) (va_Nw.use rfl hG.2.2.2.2.2.2.1) hce hcv hcl ?_
  obtain ⟨hP, hD⟩ := va_join (wr := []) (w1 := []) hP hD [0] [] rfl rfl (by decide) (by decide) hk1 hFc va_P.nil va_D.nil
  have hK := hK.sub (tys' := []) [] rfl
  have hP : va_P (dC, dI) vwCl [] H_1 := hP
  have hD : va_D A [] := hD
  have hK : va_K (dC, dI) vwCl [] s := hK
  refine W.widen (k := 1) (n := 6) (Nat.le_of_ble_eq_true rfl) (Nat.le_of_ble_eq_true rfl) ?_
  refine lv_astore_n (lv' := [(3, .ref q9), (0, .ref h0), (1, .int p0), (2, .ref ho)]) hx hb dL_type_15 rfl hl (by decide) rfl (fun ls hl => ?_)
  refine lv_iconst (v := 2) hx hb dL_type_16 (by decide) ?_
  refine vx_ret ?_
  refine W.widen (k := 1) (n := 6) (Nat.le_of_ble_eq_true rfl) (Nat.le_of_ble_eq_true rfl) ?_
  exact W.iret (v := 2) hx hb hr (fun t ht hW => ⟨⟨2, (), rfl, rfl, trivial⟩, hS.F ht⟩) hS.2.2 dL_type_17

set_option maxRecDepth 20000 in
def z_L_optimise_neg : List Cond := .codeWith yL_optimise cL_optimise 4 (some .int) [(0, 9, 12, 31), (0, 9, 15, 13)] :: (([.methodLink RL 65 yX7_optimise, .instanceMethod yX7_optimise, .selects RX7 yX7_optimise yX7_optimise, .initialized RX7, .code yX7_optimise cX7_optimise 4 (some .int), .classLink RX7 69 "java/lang/IllegalArgumentException", .initialized "java/lang/IllegalArgumentException", .classLink RL 31 "java/lang/IllegalArgumentException", .classLink RL 13 "java/lang/IllegalStateException"] : List Cond) ++ (vx_at0 RX7 71 "java/lang/IllegalArgumentException" ["java/lang/RuntimeException", "java/lang/Exception"]).filter goodWord)
set_option maxRecDepth 20000 in
theorem gg_L_optimise_neg_4 : GoodIn z_L_optimise_neg z_X_optimise_neg := goodIn_ca (goodIn_p _ [5] rfl (by decide +kernel)) (goodIn_sub (fun _ h => List.mem_cons_of_mem _ (List.mem_append_right _ (h))) (by decide +kernel))
set_option maxRecDepth 20000 in
theorem g_L_optimise_neg_4 : GoodIn z_L_optimise_neg (wsV RL 65 RX7 yX7_optimise z_X_optimise_neg) := goodIn_app (goodIn_of _ (by decide +kernel)) gg_L_optimise_neg_4
set_option maxHeartbeats 4000000 in
set_option maxRecDepth 100000 in
theorem c_L_optimise_neg (l : Launch) (dC : Nat → ClassId) (dI : Nat → Nat → Nat) (tp te : Nat) (sz : Nat) (hlt : l.stackTraces = false) (h0 : Nat) (rp : Nat) (rt : Nat) (rc : Nat) (r1 : Nat) (r2 : Nat) (r3 : Nat) (r4 : Nat) (p0 : Int32) (ho : Nat) (hv0 : p0 < 0) : vx_Met l yL_optimise z_L_optimise_neg ({ frames := 7, cells := 1, slots := 6, locals := 104 }) (va_Pc [.ref h0, .int p0, .ref ho] (Pw dC dI [(h0, .inr (8, [.ref rp, .int 0, .ref rt, .ref rc, .int ((-1)), .ref r1, .ref r2, .ref r3, .ref r4, .null, .int 0]))] [] sz tp te)) (va_Qi (fun (r : Int32) (_ : Unit) => r = 1) (fun (_ : Unit) (_ : State) => True) (va_A [(h0, .inr (8, [.ref rp, .int 0, .ref rt, .ref rc, .int ((-1)), .ref r1, .ref r2, .ref r3, .ref r4, .null, .int 0]))] sz)) (vx_X (fun (_ : Unit) => False) (fun (E : String) (_ : Unit) (_ : State) => E = "") (va_A [(h0, .inr (8, [.ref rp, .int 0, .ref rt, .ref rc, .int ((-1)), .ref r1, .ref r2, .ref r3, .ref r4, .null, .int 0]))] sz)) 1 6 (va_A [(h0, .inr (8, [.ref rp, .int 0, .ref rt, .ref rc, .int ((-1)), .ref r1, .ref r2, .ref r3, .ref r4, .null, .int 0]))] sz) := by
  refine vx_ofWH (cc := cL_optimise) (maxL := 4) (ret := (some .int)) (hh := [(0, 9, 12, 31), (0, 9, 15, 13)]) (by decide) rfl ?_
  intro p e s m args below meth c s₁ B hml hv
  obtain ⟨rfl, hsz, hP, hK, hD0, hG⟩ := hv
  have hx := B.exec
  have hb := B.bytes
  have hr := B.returns
  have hts := atoms_spec (ws := z_L_optimise_neg) B.pre
  have htab : c.exceptionTable.toList = tableOf [(0, 9, 12, 31), (0, 9, 15, 13)] := vx_table (x := yL_optimise) B (hts _ List.mem_cons_self)
  have hown : s.vm.findClass RL = some m.cls := findClass_of_methodNamed B.named
  have hlocks := B.notSynchronized
  subst hsz
  have hD := hD0.self (sz := s.heap.size)
  generalize hAe : va_A [(h0, .inr (8, [.ref rp, .int 0, .ref rt, .ref rc, .int ((-1)), .ref r1, .ref r2, .ref r3, .ref r4, .null, .int 0]))] s.heap.size = A at hD hG ⊢
  have hA : ∀ q : Nat, s.heap.size ≤ q → A q := fun q h => by rw [← hAe]; exact Or.inr h
  have hS : va_S A s.heap s.heap [] := va_S.rf
  have hl := lv_entry ([.ref h0, .int p0, .ref ho]) (n := 4) (Nat.le_of_ble_eq_true rfl)
  rw [lg_entry_eq]
  generalize (lg_sl ([.ref h0, .int p0, .ref ho]) ++ List.replicate (4 - (lg_sl ([.ref h0, .int p0, .ref ho])).length) Slot.unset).toArray = ls at hl ⊢
  have hl : lv_has ls 4 [(0, .ref h0), (1, .int p0), (2, .ref ho)] := hl
  refine lv_aload_n hx hb dL_optimise_0 rfl (lv_at hl 2 rfl) ?_
  refine lv_iconst (v := 0) hx hb dL_optimise_1 (by decide) ?_
  refine lv_aload_n hx hb dL_optimise_2 rfl (lv_at hl 0 rfl) ?_
  refine lv_iload_n hx hb dL_optimise_3 rfl (lv_at hl 1 rfl) ?_
  have hPc := hP.sub (ws' := [(h0, .inr (8, [.ref rp, .int 0, .ref rt, .ref rc, .int ((-1)), .ref r1, .ref r2, .ref r3, .ref r4, .null, .int 0]))]) [0] rfl
  have hDc := hD.sub (ws' := [(h0, .inr (8, [.ref rp, .int 0, .ref rt, .ref rc, .int ((-1)), .ref r1, .ref r2, .ref r3, .ref r4, .null, .int 0]))]) [0] (by decide) rfl
  have hKc := hK.sub (tys' := []) [] rfl
  have hFc := va_free (wc := [(h0, .inr (8, [.ref rp, .int 0, .ref rt, .ref rc, .int ((-1)), .ref r1, .ref r2, .ref r3, .ref r4, .null, .int 0]))]) hD hS hA [0] rfl
  refine vx_calli (vx_runV (As := [.int p0]) (rest := [.int 0, .ref ho]) ⟨hx, hb, hml, hown, hts⟩ (c_X_optimise_neg l dC dI tp te s.heap.size hlt h0 rp rt rc r1 r2 r3 r4 p0 hv0) (cwV 1 hts g_L_optimise_neg_4 rfl rfl rfl (by decide +kernel) ⟨Nat.le_of_ble_eq_true rfl, Nat.le_of_ble_eq_true rfl⟩) ⟨Pw.blind, va_recv hKc hPc (ci := 8) (q0 := 0) rfl rfl, Pw.mk hPc hKc hDc hG hS hFc⟩ rfl rfl hl.1 rfl (lv_room (Nat.le_of_ble_eq_true rfl)) dL_optimise_4 ⟨Nat.le_of_ble_eq_true rfl, Nat.le_of_ble_eq_true rfl⟩) hS (fun q _ h => hFc q h) hFc (fun q _ h => hFc q h) (fun E ce q9 u t9 H_1 locs ht hvm hpx hBX hz1 hk1 hS hce hcv hcl => ?_) (fun r u t9 H1 locs ht hvm hw hB hz1 hk1 hS => hw.elim)
  have hBX : E = "java/lang/IllegalArgumentException" := hBX
  subst hBX
  refine vx_catch hown [] ⟨0, 9, 12, 31⟩ [⟨0, 9, 15, 13⟩] htab (fun z9 h9 => nomatch h9) (by decide) (by decide) (hts (.classLink RL 31 "java/lang/IllegalArgumentException") (List.mem_of_getElem? (i := 8) rfl)) (va_Nw.use rfl hG.2.2.2.2.2.2.2.2.1) hce hcv hcl ?_
  obtain ⟨hP, hD⟩ := va_join (wr := []) (w1 := []) hP hD [0] [] rfl rfl (by decide) (by decide) hk1 hFc va_P.nil va_D.nil
  have hK := hK.sub (tys' := []) [] rfl
  have hP : va_P (dC, dI) vwCl [] H_1 := hP
  have hD : va_D A [] := hD
  have hK : va_K (dC, dI) vwCl [] s := hK
  refine W.widen (k := 1) (n := 6) (Nat.le_of_ble_eq_true rfl) (Nat.le_of_ble_eq_true rfl) ?_
  refine lv_astore_n (lv' := [(3, .ref q9), (0, .ref h0), (1, .int p0), (2, .ref ho)]) hx hb dL_optimise_12 rfl hl (by decide) rfl (fun ls hl => ?_)
  refine lv_iconst (v := 1) hx hb dL_optimise_13 (by decide) ?_
  refine vx_ret ?_
  refine W.widen (k := 1) (n := 6) (Nat.le_of_ble_eq_true rfl) (Nat.le_of_ble_eq_true rfl) ?_
  exact W.iret (v := 1) hx hb hr (fun t ht hW => ⟨⟨1, (), rfl, rfl, trivial⟩, hS.F ht⟩) hS.2.2 dL_optimise_14

set_option maxRecDepth 20000 in
def z_L_optimise_big : List Cond := .codeWith yL_optimise cL_optimise 4 (some .int) [(0, 9, 12, 31), (0, 9, 15, 13)] :: (([.methodLink RL 65 yX7_optimise, .instanceMethod yX7_optimise, .selects RX7 yX7_optimise yX7_optimise, .initialized RX7, .code yX7_optimise cX7_optimise 4 (some .int), .classLink RX7 69 "java/lang/IllegalArgumentException", .initialized "java/lang/IllegalArgumentException", .classLink RL 31 "java/lang/IllegalArgumentException", .classLink RL 13 "java/lang/IllegalStateException"] : List Cond) ++ (vx_at0 RX7 71 "java/lang/IllegalArgumentException" ["java/lang/RuntimeException", "java/lang/Exception"]).filter goodWord)
set_option maxRecDepth 20000 in
theorem gg_L_optimise_big_4 : GoodIn z_L_optimise_big z_X_optimise_big := goodIn_ca (goodIn_p _ [5] rfl (by decide +kernel)) (goodIn_sub (fun _ h => List.mem_cons_of_mem _ (List.mem_append_right _ (h))) (by decide +kernel))
set_option maxRecDepth 20000 in
theorem g_L_optimise_big_4 : GoodIn z_L_optimise_big (wsV RL 65 RX7 yX7_optimise z_X_optimise_big) := goodIn_app (goodIn_of _ (by decide +kernel)) gg_L_optimise_big_4
set_option maxHeartbeats 4000000 in
set_option maxRecDepth 100000 in
theorem c_L_optimise_big (l : Launch) (dC : Nat → ClassId) (dI : Nat → Nat → Nat) (tp te : Nat) (sz : Nat) (hlt : l.stackTraces = false) (h0 : Nat) (rp : Nat) (rt : Nat) (rc : Nat) (r1 : Nat) (r2 : Nat) (r3 : Nat) (r4 : Nat) (p0 : Int32) (ho : Nat) (hv0 : ¬ p0 < 0) (hv1 : ¬ p0 ≤ 15) : vx_Met l yL_optimise z_L_optimise_big ({ frames := 7, cells := 1, slots := 6, locals := 104 }) (va_Pc [.ref h0, .int p0, .ref ho] (Pw dC dI [(h0, .inr (8, [.ref rp, .int 0, .ref rt, .ref rc, .int ((-1)), .ref r1, .ref r2, .ref r3, .ref r4, .null, .int 0]))] [] sz tp te)) (va_Qi (fun (r : Int32) (_ : Unit) => r = 1) (fun (_ : Unit) (_ : State) => True) (va_A [(h0, .inr (8, [.ref rp, .int 0, .ref rt, .ref rc, .int ((-1)), .ref r1, .ref r2, .ref r3, .ref r4, .null, .int 0]))] sz)) (vx_X (fun (_ : Unit) => False) (fun (E : String) (_ : Unit) (_ : State) => E = "") (va_A [(h0, .inr (8, [.ref rp, .int 0, .ref rt, .ref rc, .int ((-1)), .ref r1, .ref r2, .ref r3, .ref r4, .null, .int 0]))] sz)) 1 6 (va_A [(h0, .inr (8, [.ref rp, .int 0, .ref rt, .ref rc, .int ((-1)), .ref r1, .ref r2, .ref r3, .ref r4, .null, .int 0]))] sz) := by
  refine vx_ofWH (cc := cL_optimise) (maxL := 4) (ret := (some .int)) (hh := [(0, 9, 12, 31), (0, 9, 15, 13)]) (by decide) rfl ?_
  intro p e s m args below meth c s₁ B hml hv
  obtain ⟨rfl, hsz, hP, hK, hD0, hG⟩ := hv
  have hx := B.exec
  have hb := B.bytes
  have hr := B.returns
  have hts := atoms_spec (ws := z_L_optimise_big) B.pre
  have htab : c.exceptionTable.toList = tableOf [(0, 9, 12, 31), (0, 9, 15, 13)] := vx_table (x := yL_optimise) B (hts _ List.mem_cons_self)
  have hown : s.vm.findClass RL = some m.cls := findClass_of_methodNamed B.named
  have hlocks := B.notSynchronized
  subst hsz
  have hD := hD0.self (sz := s.heap.size)
  generalize hAe : va_A [(h0, .inr (8, [.ref rp, .int 0, .ref rt, .ref rc, .int ((-1)), .ref r1, .ref r2, .ref r3, .ref r4, .null, .int 0]))] s.heap.size = A at hD hG ⊢
  have hA : ∀ q : Nat, s.heap.size ≤ q → A q := fun q h => by rw [← hAe]; exact Or.inr h
  have hS : va_S A s.heap s.heap [] := va_S.rf
  have hl := lv_entry ([.ref h0, .int p0, .ref ho]) (n := 4) (Nat.le_of_ble_eq_true rfl)
  rw [lg_entry_eq]
  generalize (lg_sl ([.ref h0, .int p0, .ref ho]) ++ List.replicate (4 - (lg_sl ([.ref h0, .int p0, .ref ho])).length) Slot.unset).toArray = ls at hl ⊢
  have hl : lv_has ls 4 [(0, .ref h0), (1, .int p0), (2, .ref ho)] := hl
  refine lv_aload_n hx hb dL_optimise_0 rfl (lv_at hl 2 rfl) ?_
  refine lv_iconst (v := 0) hx hb dL_optimise_1 (by decide) ?_
  refine lv_aload_n hx hb dL_optimise_2 rfl (lv_at hl 0 rfl) ?_
  refine lv_iload_n hx hb dL_optimise_3 rfl (lv_at hl 1 rfl) ?_
  have hPc := hP.sub (ws' := [(h0, .inr (8, [.ref rp, .int 0, .ref rt, .ref rc, .int ((-1)), .ref r1, .ref r2, .ref r3, .ref r4, .null, .int 0]))]) [0] rfl
  have hDc := hD.sub (ws' := [(h0, .inr (8, [.ref rp, .int 0, .ref rt, .ref rc, .int ((-1)), .ref r1, .ref r2, .ref r3, .ref r4, .null, .int 0]))]) [0] (by decide) rfl
  have hKc := hK.sub (tys' := []) [] rfl
  have hFc := va_free (wc := [(h0, .inr (8, [.ref rp, .int 0, .ref rt, .ref rc, .int ((-1)), .ref r1, .ref r2, .ref r3, .ref r4, .null, .int 0]))]) hD hS hA [0] rfl
  refine vx_calli (vx_runV (As := [.int p0]) (rest := [.int 0, .ref ho]) ⟨hx, hb, hml, hown, hts⟩ (c_X_optimise_big l dC dI tp te s.heap.size hlt h0 rp rt rc r1 r2 r3 r4 p0 hv0 hv1) (cwV 1 hts g_L_optimise_big_4 rfl rfl rfl (by decide +kernel) ⟨Nat.le_of_ble_eq_true rfl, Nat.le_of_ble_eq_true rfl⟩) ⟨Pw.blind, va_recv hKc hPc (ci := 8) (q0 := 0) rfl rfl, Pw.mk hPc hKc hDc hG hS hFc⟩ rfl rfl hl.1 rfl (lv_room (Nat.le_of_ble_eq_true rfl)) dL_optimise_4 ⟨Nat.le_of_ble_eq_true rfl, Nat.le_of_ble_eq_true rfl⟩) hS (fun q _ h => hFc q h) hFc (fun q _ h => hFc q h) (fun E ce q9 u t9 H_1 locs ht hvm hpx hBX hz1 hk1 hS hce hcv hcl => ?_) (fun r u t9 H1 locs ht hvm hw hB hz1 hk1 hS => hw.elim)
  have hBX : E = "java/lang/IllegalArgumentException" := hBX
  subst hBX
  refine vx_catch hown [] ⟨0, 9, 12, 31⟩ [⟨0, 9, 15, 13⟩] htab (fun z9 h9 => nomatch h9) (by decide) (by decide) (hts (.classLink RL 31 "java/lang/IllegalArgumentException") (List.mem_of_getElem? (i := 8) rfl)) (va_Nw.use rfl hG.2.2.2.2.2.2.2.2.1) hce hcv hcl ?_
  obtain ⟨hP, hD⟩ := va_join (wr := []) (w1 := []) hP hD [0] [] rfl rfl (by decide) (by decide) hk1 hFc va_P.nil va_D.nil
  have hK := hK.sub (tys' := []) [] rfl
  have hP : va_P (dC, dI) vwCl [] H_1 := hP
  have hD : va_D A [] := hD
  have hK : va_K (dC, dI) vwCl [] s := hK
  refine W.widen (k := 1) (n := 6) (Nat.le_of_ble_eq_true rfl) (Nat.le_of_ble_eq_true rfl) ?_
  refine lv_astore_n (lv' := [(3, .ref q9), (0, .ref h0), (1, .int p0), (2, .ref ho)]) hx hb dL_optimise_12 rfl hl (by decide) rfl (fun ls hl => ?_)
  refine lv_iconst (v := 1) hx hb dL_optimise_13 (by decide) ?_
  refine vx_ret ?_
  refine W.widen (k := 1) (n := 6) (Nat.le_of_ble_eq_true rfl) (Nat.le_of_ble_eq_true rfl) ?_
  exact W.iret (v := 1) hx hb hr (fun t ht hW => ⟨⟨1, (), rfl, rfl, trivial⟩, hS.F ht⟩) hS.2.2 dL_optimise_14

set_option maxRecDepth 20000 in
def z_L_optimise_ok : List Cond := .codeWith yL_optimise cL_optimise 4 (some .int) [(0, 9, 12, 31), (0, 9, 15, 13)] :: (([.methodLink RL 65 yX7_optimise, .instanceMethod yX7_optimise, .selects RX7 yX7_optimise yX7_optimise, .initialized RX7, .code yX7_optimise cX7_optimise 4 (some .int), .methodLink RX7 110 yX7_checkProgram, .instanceMethod yX7_checkProgram, .selects RX7 yX7_checkProgram yX7_checkProgram, .code yX7_checkProgram cX7_checkProgram 1 none, .fieldLink RX7 24 "Selfkindle" "wrong" "I", .classLink RX7 75 "java/lang/IllegalStateException", .initialized "java/lang/IllegalStateException", .classLink RL 31 "java/lang/IllegalArgumentException", .classLink RL 13 "java/lang/IllegalStateException"] : List Cond) ++ wsX70 ++ (vx_at0 RX7 77 "java/lang/IllegalStateException" ["java/lang/RuntimeException", "java/lang/Exception"]).filter goodWord)
theorem in_z_L_optimise_ok_X7 : ∀ w ∈ wsX70, w ∈ z_L_optimise_ok := fun w h => List.mem_cons_of_mem _ (List.mem_append_left _ (List.mem_append_right _ (h)))
set_option maxRecDepth 20000 in
theorem gg_L_optimise_ok_4 : GoodIn z_L_optimise_ok z_X_optimise_ok := goodIn_ca (goodIn_p _ [5, 9] rfl (by decide +kernel)) (goodIn_sub (fun _ h => List.mem_cons_of_mem _ (List.mem_append_right _ (h))) (by decide +kernel))
set_option maxRecDepth 20000 in
theorem g_L_optimise_ok_4 : GoodIn z_L_optimise_ok (wsV RL 65 RX7 yX7_optimise z_X_optimise_ok) := goodIn_app (goodIn_of _ (by decide +kernel)) gg_L_optimise_ok_4
set_option maxHeartbeats 4000000 in
set_option maxRecDepth 100000 in
theorem c_L_optimise_ok (l : Launch) (dC : Nat → ClassId) (dI : Nat → Nat → Nat) (tp te : Nat) (sz : Nat) (hlt : l.stackTraces = false) (h0 : Nat) (rp : Nat) (rt : Nat) (rc : Nat) (r1 : Nat) (r2 : Nat) (r3 : Nat) (r4 : Nat) (p0 : Int32) (ho : Nat) (hv0 : ¬ p0 < 0) (hv1 : p0 ≤ 15) : vx_Met l yL_optimise z_L_optimise_ok ({ frames := 8, cells := 1, slots := 6, locals := 124 }) (va_Pc [.ref h0, .int p0, .ref ho] (Pw dC dI [(h0, .inr (8, [.ref rp, .int 0, .ref rt, .ref rc, .int ((-1)), .ref r1, .ref r2, .ref r3, .ref r4, .null, .int 0]))] [] sz tp te)) (va_Qi (fun (r : Int32) (_ : Unit) => r = 2) (fun (_ : Unit) (_ : State) => True) (va_A [(h0, .inr (8, [.ref rp, .int 0, .ref rt, .ref rc, .int ((-1)), .ref r1, .ref r2, .ref r3, .ref r4, .null, .int 0]))] sz)) (vx_X (fun (_ : Unit) => False) (fun (E : String) (_ : Unit) (_ : State) => E = "") (va_A [(h0, .inr (8, [.ref rp, .int 0, .ref rt, .ref rc, .int ((-1)), .ref r1, .ref r2, .ref r3, .ref r4, .null, .int 0]))] sz)) 1 6 (va_A [(h0, .inr (8, [.ref rp, .int 0, .ref rt, .ref rc, .int ((-1)), .ref r1, .ref r2, .ref r3, .ref r4, .null, .int 0]))] sz) := by
  refine vx_ofWH (cc := cL_optimise) (maxL := 4) (ret := (some .int)) (hh := [(0, 9, 12, 31), (0, 9, 15, 13)]) (by decide) rfl ?_
  intro p e s m args below meth c s₁ B hml hv
  obtain ⟨rfl, hsz, hP, hK, hD0, hG⟩ := hv
  have hx := B.exec
  have hb := B.bytes
  have hr := B.returns
  have hts := atoms_spec (ws := z_L_optimise_ok) B.pre
  have htab : c.exceptionTable.toList = tableOf [(0, 9, 12, 31), (0, 9, 15, 13)] := vx_table (x := yL_optimise) B (hts _ List.mem_cons_self)
  have hown : s.vm.findClass RL = some m.cls := findClass_of_methodNamed B.named
  have hlocks := B.notSynchronized
  subst hsz
  have hD := hD0.self (sz := s.heap.size)
  generalize hAe : va_A [(h0, .inr (8, [.ref rp, .int 0, .ref rt, .ref rc, .int ((-1)), .ref r1, .ref r2, .ref r3, .ref r4, .null, .int 0]))] s.heap.size = A at hD hG ⊢
  have hA : ∀ q : Nat, s.heap.size ≤ q → A q := fun q h => by rw [← hAe]; exact Or.inr h
  have hS : va_S A s.heap s.heap [] := va_S.rf
  have hl := lv_entry ([.ref h0, .int p0, .ref ho]) (n := 4) (Nat.le_of_ble_eq_true rfl)
  rw [lg_entry_eq]
  generalize (lg_sl ([.ref h0, .int p0, .ref ho]) ++ List.replicate (4 - (lg_sl ([.ref h0, .int p0, .ref ho])).length) Slot.unset).toArray = ls at hl ⊢
  have hl : lv_has ls 4 [(0, .ref h0), (1, .int p0), (2, .ref ho)] := hl
  refine lv_aload_n hx hb dL_optimise_0 rfl (lv_at hl 2 rfl) ?_
  refine lv_iconst (v := 0) hx hb dL_optimise_1 (by decide) ?_
  refine lv_aload_n hx hb dL_optimise_2 rfl (lv_at hl 0 rfl) ?_
  refine lv_iload_n hx hb dL_optimise_3 rfl (lv_at hl 1 rfl) ?_
  have hPc := hP.sub (ws' := [(h0, .inr (8, [.ref rp, .int 0, .ref rt, .ref rc, .int ((-1)), .ref r1, .ref r2, .ref r3, .ref r4, .null, .int 0]))]) [0] rfl
  have hDc := hD.sub (ws' := [(h0, .inr (8, [.ref rp, .int 0, .ref rt, .ref rc, .int ((-1)), .ref r1, .ref r2, .ref r3, .ref r4, .null, .int 0]))]) [0] (by decide) rfl
  have hKc := hK.sub (tys' := []) [] rfl
  have hFc := va_free (wc := [(h0, .inr (8, [.ref rp, .int 0, .ref rt, .ref rc, .int ((-1)), .ref r1, .ref r2, .ref r3, .ref r4, .null, .int 0]))]) hD hS hA [0] rfl
  refine vx_calli (vx_runV (As := [.int p0]) (rest := [.int 0, .ref ho]) ⟨hx, hb, hml, hown, hts⟩ (c_X_optimise_ok l dC dI tp te s.heap.size hlt h0 rp rt rc r1 r2 r3 r4 p0 hv0 hv1) (cwV 1 hts g_L_optimise_ok_4 rfl rfl rfl (by decide +kernel) ⟨Nat.le_of_ble_eq_true rfl, Nat.le_of_ble_eq_true rfl⟩) ⟨Pw.blind, va_recv hKc hPc (ci := 8) (q0 := 0) rfl rfl, Pw.mk hPc hKc hDc hG hS hFc⟩ rfl rfl hl.1 rfl (lv_room (Nat.le_of_ble_eq_true rfl)) dL_optimise_4 ⟨Nat.le_of_ble_eq_true rfl, Nat.le_of_ble_eq_true rfl⟩) hS (fun q _ h => hFc q h) hFc (fun q _ h => hFc q h) (fun E ce q9 u t9 H_1 locs ht hvm hpx hBX hz1 hk1 hS hce hcv hcl => ?_) (fun r u t9 H1 locs ht hvm hw hB hz1 hk1 hS => hw.elim)
  have hBX : E = "java/lang/IllegalStateException" := hBX
  subst hBX
  refine vx_catch hown [⟨0, 9, 12, 31⟩] ⟨0, 9, 15, 13⟩ [] htab (fun z9 h9 => by rw [List.mem_singleton.mp h9]; exact Or.inr ⟨by decide, "java/lang/IllegalArgumentException", (hts (.classLink RL 31 "java/lang/IllegalArgumentException") (List.mem_of_getElem? (i := 13) rfl)), hG.2.2.2.2.2.2.2.2.2.2.2.1⟩) (by decide) (by decide) (hts (.classLink RL 13 "java/lang/IllegalStateException") (List.mem_of_getElem? (i := 14) rfl)) (va_Nw.use rfl hG.2.2.2.2.2.2.1) hce hcv hcl ?_
  obtain ⟨hP, hD⟩ := va_join (wr := []) (w1 := []) hP hD [0] [] rfl rfl (by decide) (by decide) hk1 hFc va_P.nil va_D.nil
  have hK := hK.sub (tys' := []) [] rfl
  have hP : va_P (dC, dI) vwCl [] H_1 := hP
  have hD : va_D A [] := hD
  have hK : va_K (dC, dI) vwCl [] s := hK
  refine W.widen (k := 1) (n := 6) (Nat.le_of_ble_eq_true rfl) (Nat.le_of_ble_eq_true rfl) ?_
  refine lv_astore_n (lv' := [(3, .ref q9), (0, .ref h0), (1, .int p0), (2, .ref ho)]) hx hb dL_optimise_15 rfl hl (by decide) rfl (fun ls hl => ?_)
  refine lv_iconst (v := 2) hx hb dL_optimise_16 (by decide) ?_
  refine vx_ret ?_
  refine W.widen (k := 1) (n := 6) (Nat.le_of_ble_eq_true rfl) (Nat.le_of_ble_eq_true rfl) ?_
  exact W.iret (v := 2) hx hb hr (fun t ht hW => ⟨⟨2, (), rfl, rfl, trivial⟩, hS.F ht⟩) hS.2.2 dL_optimise_17

set_option maxRecDepth 20000 in
def z_L_orders : List Cond := .codeWith yL_orders cL_orders 3 (some .int) [(0, 8, 11, 13)] :: (([.methodLink RL 68 yX7_orders, .instanceMethod yX7_orders, .selects RX7 yX7_orders yX7_orders, .initialized RX7, .code yX7_orders cX7_orders 1 (some .int), .methodLink RX7 110 yX7_checkProgram, .instanceMethod yX7_checkProgram, .selects RX7 yX7_checkProgram yX7_checkProgram, .code yX7_checkProgram cX7_checkProgram 1 none, .fieldLink RX7 24 "Selfkindle" "wrong" "I", .classLink RX7 75 "java/lang/IllegalStateException", .initialized "java/lang/IllegalStateException", .classLink RL 13 "java/lang/IllegalStateException"] : List Cond) ++ wsX70 ++ (vx_at0 RX7 77 "java/lang/IllegalStateException" ["java/lang/RuntimeException", "java/lang/Exception"]).filter goodWord)
theorem in_z_L_orders_X7 : ∀ w ∈ wsX70, w ∈ z_L_orders := fun w h => List.mem_cons_of_mem _ (List.mem_append_left _ (List.mem_append_right _ (h)))
set_option maxRecDepth 20000 in
theorem gg_L_orders_3 : GoodIn z_L_orders z_X_orders := goodIn_ca (goodIn_p _ [5, 9] rfl (by decide +kernel)) (goodIn_sub (fun _ h => List.mem_cons_of_mem _ (List.mem_append_right _ (h))) (by decide +kernel))
set_option maxRecDepth 20000 in
theorem g_L_orders_3 : GoodIn z_L_orders (wsV RL 68 RX7 yX7_orders z_X_orders) := goodIn_app (goodIn_of _ (by decide +kernel)) gg_L_orders_3
set_option maxHeartbeats 4000000 in
set_option maxRecDepth 100000 in
theorem c_L_orders (l : Launch) (dC : Nat → ClassId) (dI : Nat → Nat → Nat) (tp te : Nat) (sz : Nat) (hlt : l.stackTraces = false) (h0 : Nat) (rp : Nat) (rt : Nat) (rc : Nat) (r1 : Nat) (r2 : Nat) (r3 : Nat) (r4 : Nat) (ho : Nat)  : vx_Met l yL_orders z_L_orders ({ frames := 8, cells := 1, slots := 6, locals := 121 }) (va_Pc [.ref h0, .ref ho] (Pw dC dI [(h0, .inr (8, [.ref rp, .int 0, .ref rt, .ref rc, .int ((-1)), .ref r1, .ref r2, .ref r3, .ref r4, .null, .int 0]))] [] sz tp te)) (va_Qi (fun (r : Int32) (_ : Unit) => r = 1) (fun (_ : Unit) (_ : State) => True) (va_A [(h0, .inr (8, [.ref rp, .int 0, .ref rt, .ref rc, .int ((-1)), .ref r1, .ref r2, .ref r3, .ref r4, .null, .int 0]))] sz)) (vx_X (fun (_ : Unit) => False) (fun (E : String) (_ : Unit) (_ : State) => E = "") (va_A [(h0, .inr (8, [.ref rp, .int 0, .ref rt, .ref rc, .int ((-1)), .ref r1, .ref r2, .ref r3, .ref r4, .null, .int 0]))] sz)) 1 6 (va_A [(h0, .inr (8, [.ref rp, .int 0, .ref rt, .ref rc, .int ((-1)), .ref r1, .ref r2, .ref r3, .ref r4, .null, .int 0]))] sz) := by
  refine vx_ofWH (cc := cL_orders) (maxL := 3) (ret := (some .int)) (hh := [(0, 8, 11, 13)]) (by decide) rfl ?_
  intro p e s m args below meth c s₁ B hml hv
  obtain ⟨rfl, hsz, hP, hK, hD0, hG⟩ := hv
  have hx := B.exec
  have hb := B.bytes
  have hr := B.returns
  have hts := atoms_spec (ws := z_L_orders) B.pre
  have htab : c.exceptionTable.toList = tableOf [(0, 8, 11, 13)] := vx_table (x := yL_orders) B (hts _ List.mem_cons_self)
  have hown : s.vm.findClass RL = some m.cls := findClass_of_methodNamed B.named
  have hlocks := B.notSynchronized
  subst hsz
  have hD := hD0.self (sz := s.heap.size)
  generalize hAe : va_A [(h0, .inr (8, [.ref rp, .int 0, .ref rt, .ref rc, .int ((-1)), .ref r1, .ref r2, .ref r3, .ref r4, .null, .int 0]))] s.heap.size = A at hD hG ⊢
  have hA : ∀ q : Nat, s.heap.size ≤ q → A q := fun q h => by rw [← hAe]; exact Or.inr h
  have hS : va_S A s.heap s.heap [] := va_S.rf
  have hl := lv_entry ([.ref h0, .ref ho]) (n := 3) (Nat.le_of_ble_eq_true rfl)
  rw [lg_entry_eq]
  generalize (lg_sl ([.ref h0, .ref ho]) ++ List.replicate (3 - (lg_sl ([.ref h0, .ref ho])).length) Slot.unset).toArray = ls at hl ⊢
  have hl : lv_has ls 3 [(0, .ref h0), (1, .ref ho)] := hl
  refine lv_aload_n hx hb dL_orders_0 rfl (lv_at hl 1 rfl) ?_
  refine lv_iconst (v := 0) hx hb dL_orders_1 (by decide) ?_
  refine lv_aload_n hx hb dL_orders_2 rfl (lv_at hl 0 rfl) ?_
  have hPc := hP.sub (ws' := [(h0, .inr (8, [.ref rp, .int 0, .ref rt, .ref rc, .int ((-1)), .ref r1, .ref r2, .ref r3, .ref r4, .null, .int 0]))]) [0] rfl
  have hDc := hD.sub (ws' := [(h0, .inr (8, [.ref rp, .int 0, .ref rt, .ref rc, .int ((-1)), .ref r1, .ref r2, .ref r3, .ref r4, .null, .int 0]))]) [0] (by decide) rfl
  have hKc := hK.sub (tys' := []) [] rfl
  have hFc := va_free (wc := [(h0, .inr (8, [.ref rp, .int 0, .ref rt, .ref rc, .int ((-1)), .ref r1, .ref r2, .ref r3, .ref r4, .null, .int 0]))]) hD hS hA [0] rfl
  refine vx_calli (vx_runV (As := []) (rest := [.int 0, .ref ho]) ⟨hx, hb, hml, hown, hts⟩ (c_X_orders l dC dI tp te s.heap.size hlt h0 rp rt rc r1 r2 r3 r4) (cwV 0 hts g_L_orders_3 rfl rfl rfl (by decide +kernel) ⟨Nat.le_of_ble_eq_true rfl, Nat.le_of_ble_eq_true rfl⟩) ⟨Pw.blind, va_recv hKc hPc (ci := 8) (q0 := 0) rfl rfl, Pw.mk hPc hKc hDc hG hS hFc⟩ rfl rfl hl.1 rfl (lv_room (Nat.le_of_ble_eq_true rfl)) dL_orders_3 ⟨Nat.le_of_ble_eq_true rfl, Nat.le_of_ble_eq_true rfl⟩) hS (fun q _ h => hFc q h) hFc (fun q _ h => hFc q h) (fun E ce q9 u t9 H_1 locs ht hvm hpx hBX hz1 hk1 hS hce hcv hcl => ?_) (fun r u t9 H1 locs ht hvm hw hB hz1 hk1 hS => hw.elim)
  have hBX : E = "java/lang/IllegalStateException" := hBX
  subst hBX
  refine vx_catch hown [] ⟨0, 8, 11, 13⟩ [] htab (fun z9 h9 => nomatch h9) (by decide) (by decide) (hts (.classLink RL 13 "java/lang/IllegalStateException") (List.mem_of_getElem? (i := 13) rfl)) (va_Nw.use rfl hG.2.2.2.2.2.2.1) hce hcv hcl ?_
  obtain ⟨hP, hD⟩ := va_join (wr := []) (w1 := []) hP hD [0] [] rfl rfl (by decide) (by decide) hk1 hFc va_P.nil va_D.nil
  have hK := hK.sub (tys' := []) [] rfl
  have hP : va_P (dC, dI) vwCl [] H_1 := hP
  have hD : va_D A [] := hD
  have hK : va_K (dC, dI) vwCl [] s := hK
  refine W.widen (k := 1) (n := 6) (Nat.le_of_ble_eq_true rfl) (Nat.le_of_ble_eq_true rfl) ?_
  refine lv_astore_n (lv' := [(2, .ref q9), (0, .ref h0), (1, .ref ho)]) hx hb dL_orders_11 rfl hl (by decide) rfl (fun ls hl => ?_)
  refine lv_iconst (v := 1) hx hb dL_orders_12 (by decide) ?_
  refine vx_ret ?_
  refine W.widen (k := 1) (n := 6) (Nat.le_of_ble_eq_true rfl) (Nat.le_of_ble_eq_true rfl) ?_
  exact W.iret (v := 1) hx hb hr (fun t ht hW => ⟨⟨1, (), rfl, rfl, trivial⟩, hS.F ht⟩) hS.2.2 dL_orders_13

set_option maxRecDepth 20000 in
def z_L_state : List Cond := .codeWith yL_state cL_state 3 (some .int) [(0, 8, 11, 13)] :: (([.methodLink RL 85 yX7_state, .instanceMethod yX7_state, .selects RX7 yX7_state yX7_state, .initialized RX7, .code yX7_state cX7_state 1 (some .int), .methodLink RX7 110 yX7_checkProgram, .instanceMethod yX7_checkProgram, .selects RX7 yX7_checkProgram yX7_checkProgram, .code yX7_checkProgram cX7_checkProgram 1 none, .fieldLink RX7 24 "Selfkindle" "wrong" "I", .classLink RX7 75 "java/lang/IllegalStateException", .initialized "java/lang/IllegalStateException", .classLink RL 13 "java/lang/IllegalStateException"] : List Cond) ++ wsX70 ++ (vx_at0 RX7 77 "java/lang/IllegalStateException" ["java/lang/RuntimeException", "java/lang/Exception"]).filter goodWord)
theorem in_z_L_state_X7 : ∀ w ∈ wsX70, w ∈ z_L_state := fun w h => List.mem_cons_of_mem _ (List.mem_append_left _ (List.mem_append_right _ (h)))
set_option maxRecDepth 20000 in
theorem gg_L_state_3 : GoodIn z_L_state z_X_state := goodIn_ca (goodIn_p _ [5, 9] rfl (by decide +kernel)) (goodIn_sub (fun _ h => List.mem_cons_of_mem _ (List.mem_append_right _ (h))) (by decide +kernel))
set_option maxRecDepth 20000 in
theorem g_L_state_3 : GoodIn z_L_state (wsV RL 85 RX7 yX7_state z_X_state) := goodIn_app (goodIn_of _ (by decide +kernel)) gg_L_state_3
set_option maxHeartbeats 4000000 in
set_option maxRecDepth 100000 in
theorem c_L_state (l : Launch) (dC : Nat → ClassId) (dI : Nat → Nat → Nat) (tp te : Nat) (sz : Nat) (hlt : l.stackTraces = false) (h0 : Nat) (rp : Nat) (rt : Nat) (rc : Nat) (r1 : Nat) (r2 : Nat) (r3 : Nat) (r4 : Nat) (ho : Nat)  : vx_Met l yL_state z_L_state ({ frames := 8, cells := 1, slots := 6, locals := 121 }) (va_Pc [.ref h0, .ref ho] (Pw dC dI [(h0, .inr (8, [.ref rp, .int 0, .ref rt, .ref rc, .int ((-1)), .ref r1, .ref r2, .ref r3, .ref r4, .null, .int 0]))] [] sz tp te)) (va_Qi (fun (r : Int32) (_ : Unit) => r = 1) (fun (_ : Unit) (_ : State) => True) (va_A [(h0, .inr (8, [.ref rp, .int 0, .ref rt, .ref rc, .int ((-1)), .ref r1, .ref r2, .ref r3, .ref r4, .null, .int 0]))] sz)) (vx_X (fun (_ : Unit) => False) (fun (E : String) (_ : Unit) (_ : State) => E = "") (va_A [(h0, .inr (8, [.ref rp, .int 0, .ref rt, .ref rc, .int ((-1)), .ref r1, .ref r2, .ref r3, .ref r4, .null, .int 0]))] sz)) 1 6 (va_A [(h0, .inr (8, [.ref rp, .int 0, .ref rt, .ref rc, .int ((-1)), .ref r1, .ref r2, .ref r3, .ref r4, .null, .int 0]))] sz) := by
  refine vx_ofWH (cc := cL_state) (maxL := 3) (ret := (some .int)) (hh := [(0, 8, 11, 13)]) (by decide) rfl ?_
  intro p e s m args below meth c s₁ B hml hv
  obtain ⟨rfl, hsz, hP, hK, hD0, hG⟩ := hv
  have hx := B.exec
  have hb := B.bytes
  have hr := B.returns
  have hts := atoms_spec (ws := z_L_state) B.pre
  have htab : c.exceptionTable.toList = tableOf [(0, 8, 11, 13)] := vx_table (x := yL_state) B (hts _ List.mem_cons_self)
  have hown : s.vm.findClass RL = some m.cls := findClass_of_methodNamed B.named
  have hlocks := B.notSynchronized
  subst hsz
  have hD := hD0.self (sz := s.heap.size)
  generalize hAe : va_A [(h0, .inr (8, [.ref rp, .int 0, .ref rt, .ref rc, .int ((-1)), .ref r1, .ref r2, .ref r3, .ref r4, .null, .int 0]))] s.heap.size = A at hD hG ⊢
  have hA : ∀ q : Nat, s.heap.size ≤ q → A q := fun q h => by rw [← hAe]; exact Or.inr h
  have hS : va_S A s.heap s.heap [] := va_S.rf
  have hl := lv_entry ([.ref h0, .ref ho]) (n := 3) (Nat.le_of_ble_eq_true rfl)
  rw [lg_entry_eq]
  generalize (lg_sl ([.ref h0, .ref ho]) ++ List.replicate (3 - (lg_sl ([.ref h0, .ref ho])).length) Slot.unset).toArray = ls at hl ⊢
  have hl : lv_has ls 3 [(0, .ref h0), (1, .ref ho)] := hl
  refine lv_aload_n hx hb dL_state_0 rfl (lv_at hl 1 rfl) ?_
  refine lv_iconst (v := 0) hx hb dL_state_1 (by decide) ?_
  refine lv_aload_n hx hb dL_state_2 rfl (lv_at hl 0 rfl) ?_
  have hPc := hP.sub (ws' := [(h0, .inr (8, [.ref rp, .int 0, .ref rt, .ref rc, .int ((-1)), .ref r1, .ref r2, .ref r3, .ref r4, .null, .int 0]))]) [0] rfl
  have hDc := hD.sub (ws' := [(h0, .inr (8, [.ref rp, .int 0, .ref rt, .ref rc, .int ((-1)), .ref r1, .ref r2, .ref r3, .ref r4, .null, .int 0]))]) [0] (by decide) rfl
  have hKc := hK.sub (tys' := []) [] rfl
  have hFc := va_free (wc := [(h0, .inr (8, [.ref rp, .int 0, .ref rt, .ref rc, .int ((-1)), .ref r1, .ref r2, .ref r3, .ref r4, .null, .int 0]))]) hD hS hA [0] rfl
  refine vx_calli (vx_runV (As := []) (rest := [.int 0, .ref ho]) ⟨hx, hb, hml, hown, hts⟩ (c_X_state l dC dI tp te s.heap.size hlt h0 rp rt rc r1 r2 r3 r4) (cwV 0 hts g_L_state_3 rfl rfl rfl (by decide +kernel) ⟨Nat.le_of_ble_eq_true rfl, Nat.le_of_ble_eq_true rfl⟩) ⟨Pw.blind, va_recv hKc hPc (ci := 8) (q0 := 0) rfl rfl, Pw.mk hPc hKc hDc hG hS hFc⟩ rfl rfl hl.1 rfl (lv_room (Nat.le_of_ble_eq_true rfl)) dL_state_3 ⟨Nat.le_of_ble_eq_true rfl, Nat.le_of_ble_eq_true rfl⟩) hS (fun q _ h => hFc q h) hFc (fun q _ h => hFc q h) (fun E ce q9 u t9 H_1 locs ht hvm hpx hBX hz1 hk1 hS hce hcv hcl => ?_) (fun r u t9 H1 locs ht hvm hw hB hz1 hk1 hS => hw.elim)
  have hBX : E = "java/lang/IllegalStateException" := hBX
  subst hBX
  refine vx_catch hown [] ⟨0, 8, 11, 13⟩ [] htab (fun z9 h9 => nomatch h9) (by decide) (by decide) (hts (.classLink RL 13 "java/lang/IllegalStateException") (List.mem_of_getElem? (i := 13) rfl)) (va_Nw.use rfl hG.2.2.2.2.2.2.1) hce hcv hcl ?_
  obtain ⟨hP, hD⟩ := va_join (wr := []) (w1 := []) hP hD [0] [] rfl rfl (by decide) (by decide) hk1 hFc va_P.nil va_D.nil
  have hK := hK.sub (tys' := []) [] rfl
  have hP : va_P (dC, dI) vwCl [] H_1 := hP
  have hD : va_D A [] := hD
  have hK : va_K (dC, dI) vwCl [] s := hK
  refine W.widen (k := 1) (n := 6) (Nat.le_of_ble_eq_true rfl) (Nat.le_of_ble_eq_true rfl) ?_
  refine lv_astore_n (lv' := [(2, .ref q9), (0, .ref h0), (1, .ref ho)]) hx hb dL_state_11 rfl hl (by decide) rfl (fun ls hl => ?_)
  refine lv_iconst (v := 1) hx hb dL_state_12 (by decide) ?_
  refine vx_ret ?_
  refine W.widen (k := 1) (n := 6) (Nat.le_of_ble_eq_true rfl) (Nat.le_of_ble_eq_true rfl) ?_
  exact W.iret (v := 1) hx hb hr (fun t ht hW => ⟨⟨1, (), rfl, rfl, trivial⟩, hS.F ht⟩) hS.2.2 dL_state_13

set_option maxRecDepth 20000 in
def z_L_value : List Cond := .codeWith yL_value cL_value 3 (some .int) [(0, 7, 10, 13)] :: (([.methodLink RL 88 yX7_value, .instanceMethod yX7_value, .selects RX7 yX7_value yX7_value, .initialized RX7, .code yX7_value cX7_value 1 (some .long), .methodLink RX7 110 yX7_checkProgram, .instanceMethod yX7_checkProgram, .selects RX7 yX7_checkProgram yX7_checkProgram, .code yX7_checkProgram cX7_checkProgram 1 none, .fieldLink RX7 24 "Selfkindle" "wrong" "I", .classLink RX7 75 "java/lang/IllegalStateException", .initialized "java/lang/IllegalStateException", .classLink RL 13 "java/lang/IllegalStateException"] : List Cond) ++ wsX70 ++ (vx_at0 RX7 77 "java/lang/IllegalStateException" ["java/lang/RuntimeException", "java/lang/Exception"]).filter goodWord)
theorem in_z_L_value_X7 : ∀ w ∈ wsX70, w ∈ z_L_value := fun w h => List.mem_cons_of_mem _ (List.mem_append_left _ (List.mem_append_right _ (h)))
set_option maxRecDepth 20000 in
theorem gg_L_value_3 : GoodIn z_L_value z_X_value := goodIn_ca (goodIn_p _ [5, 9] rfl (by decide +kernel)) (goodIn_sub (fun _ h => List.mem_cons_of_mem _ (List.mem_append_right _ (h))) (by decide +kernel))
set_option maxRecDepth 20000 in
theorem g_L_value_3 : GoodIn z_L_value (wsV RL 88 RX7 yX7_value z_X_value) := goodIn_app (goodIn_of _ (by decide +kernel)) gg_L_value_3
set_option maxHeartbeats 4000000 in
set_option maxRecDepth 100000 in
theorem c_L_value (l : Launch) (dC : Nat → ClassId) (dI : Nat → Nat → Nat) (tp te : Nat) (sz : Nat) (hlt : l.stackTraces = false) (h0 : Nat) (rp : Nat) (rt : Nat) (rc : Nat) (r1 : Nat) (r2 : Nat) (r3 : Nat) (r4 : Nat) (ho : Nat)  : vx_Met l yL_value z_L_value ({ frames := 8, cells := 1, slots := 6, locals := 121 }) (va_Pc [.ref h0, .ref ho] (Pw dC dI [(h0, .inr (8, [.ref rp, .int 0, .ref rt, .ref rc, .int ((-1)), .ref r1, .ref r2, .ref r3, .ref r4, .null, .int 0]))] [] sz tp te)) (va_Qi (fun (r : Int32) (_ : Unit) => r = 1) (fun (_ : Unit) (_ : State) => True) (va_A [(h0, .inr (8, [.ref rp, .int 0, .ref rt, .ref rc, .int ((-1)), .ref r1, .ref r2, .ref r3, .ref r4, .null, .int 0]))] sz)) (vx_X (fun (_ : Unit) => False) (fun (E : String) (_ : Unit) (_ : State) => E = "") (va_A [(h0, .inr (8, [.ref rp, .int 0, .ref rt, .ref rc, .int ((-1)), .ref r1, .ref r2, .ref r3, .ref r4, .null, .int 0]))] sz)) 1 6 (va_A [(h0, .inr (8, [.ref rp, .int 0, .ref rt, .ref rc, .int ((-1)), .ref r1, .ref r2, .ref r3, .ref r4, .null, .int 0]))] sz) := by
  refine vx_ofWH (cc := cL_value) (maxL := 3) (ret := (some .int)) (hh := [(0, 7, 10, 13)]) (by decide) rfl ?_
  intro p e s m args below meth c s₁ B hml hv
  obtain ⟨rfl, hsz, hP, hK, hD0, hG⟩ := hv
  have hx := B.exec
  have hb := B.bytes
  have hr := B.returns
  have hts := atoms_spec (ws := z_L_value) B.pre
  have htab : c.exceptionTable.toList = tableOf [(0, 7, 10, 13)] := vx_table (x := yL_value) B (hts _ List.mem_cons_self)
  have hown : s.vm.findClass RL = some m.cls := findClass_of_methodNamed B.named
  have hlocks := B.notSynchronized
  subst hsz
  have hD := hD0.self (sz := s.heap.size)
  generalize hAe : va_A [(h0, .inr (8, [.ref rp, .int 0, .ref rt, .ref rc, .int ((-1)), .ref r1, .ref r2, .ref r3, .ref r4, .null, .int 0]))] s.heap.size = A at hD hG ⊢
  have hA : ∀ q : Nat, s.heap.size ≤ q → A q := fun q h => by rw [← hAe]; exact Or.inr h
  have hS : va_S A s.heap s.heap [] := va_S.rf
  have hl := lv_entry ([.ref h0, .ref ho]) (n := 3) (Nat.le_of_ble_eq_true rfl)
  rw [lg_entry_eq]
  generalize (lg_sl ([.ref h0, .ref ho]) ++ List.replicate (3 - (lg_sl ([.ref h0, .ref ho])).length) Slot.unset).toArray = ls at hl ⊢
  have hl : lv_has ls 3 [(0, .ref h0), (1, .ref ho)] := hl
  refine lv_aload_n hx hb dL_value_0 rfl (lv_at hl 1 rfl) ?_
  refine lv_iconst (v := 0) hx hb dL_value_1 (by decide) ?_
  refine lv_aload_n hx hb dL_value_2 rfl (lv_at hl 0 rfl) ?_
  have hPc := hP.sub (ws' := [(h0, .inr (8, [.ref rp, .int 0, .ref rt, .ref rc, .int ((-1)), .ref r1, .ref r2, .ref r3, .ref r4, .null, .int 0]))]) [0] rfl
  have hDc := hD.sub (ws' := [(h0, .inr (8, [.ref rp, .int 0, .ref rt, .ref rc, .int ((-1)), .ref r1, .ref r2, .ref r3, .ref r4, .null, .int 0]))]) [0] (by decide) rfl
  have hKc := hK.sub (tys' := []) [] rfl
  have hFc := va_free (wc := [(h0, .inr (8, [.ref rp, .int 0, .ref rt, .ref rc, .int ((-1)), .ref r1, .ref r2, .ref r3, .ref r4, .null, .int 0]))]) hD hS hA [0] rfl
  refine vx_calll (vx_runV (As := []) (rest := [.int 0, .ref ho]) ⟨hx, hb, hml, hown, hts⟩ (c_X_value l dC dI tp te s.heap.size hlt h0 rp rt rc r1 r2 r3 r4) (cwV 0 hts g_L_value_3 rfl rfl rfl (by decide +kernel) ⟨Nat.le_of_ble_eq_true rfl, Nat.le_of_ble_eq_true rfl⟩) ⟨Pw.blind, va_recv hKc hPc (ci := 8) (q0 := 0) rfl rfl, Pw.mk hPc hKc hDc hG hS hFc⟩ rfl rfl hl.1 rfl (lv_room (Nat.le_of_ble_eq_true rfl)) dL_value_3 ⟨Nat.le_of_ble_eq_true rfl, Nat.le_of_ble_eq_true rfl⟩) hS (fun q _ h => hFc q h) hFc (fun q _ h => hFc q h) (fun E ce q9 u t9 H_1 locs ht hvm hpx hBX hz1 hk1 hS hce hcv hcl => ?_) (fun r u t9 H1 locs ht hvm hw hB hz1 hk1 hS => hw.elim)
  have hBX : E = "java/lang/IllegalStateException" := hBX
  subst hBX
  refine vx_catch hown [] ⟨0, 7, 10, 13⟩ [] htab (fun z9 h9 => nomatch h9) (by decide) (by decide) (hts (.classLink RL 13 "java/lang/IllegalStateException") (List.mem_of_getElem? (i := 13) rfl)) (va_Nw.use rfl hG.2.2.2.2.2.2.1) hce hcv hcl ?_
  obtain ⟨hP, hD⟩ := va_join (wr := []) (w1 := []) hP hD [0] [] rfl rfl (by decide) (by decide) hk1 hFc va_P.nil va_D.nil
  have hK := hK.sub (tys' := []) [] rfl
  have hP : va_P (dC, dI) vwCl [] H_1 := hP
  have hD : va_D A [] := hD
  have hK : va_K (dC, dI) vwCl [] s := hK
  refine W.widen (k := 1) (n := 6) (Nat.le_of_ble_eq_true rfl) (Nat.le_of_ble_eq_true rfl) ?_
  refine lv_astore_n (lv' := [(2, .ref q9), (0, .ref h0), (1, .ref ho)]) hx hb dL_value_10 rfl hl (by decide) rfl (fun ls hl => ?_)
  refine lv_iconst (v := 1) hx hb dL_value_11 (by decide) ?_
  refine vx_ret ?_
  refine W.widen (k := 1) (n := 6) (Nat.le_of_ble_eq_true rfl) (Nat.le_of_ble_eq_true rfl) ?_
  exact W.iret (v := 1) hx hb hr (fun t ht hW => ⟨⟨1, (), rfl, rfl, trivial⟩, hS.F ht⟩) hS.2.2 dL_value_12

set_option maxRecDepth 20000 in
def z_L_stateAnew : List Cond := .codeWith yL_stateAnew cL_stateAnew 3 (some .int) [(0, 8, 11, 13)] :: (([.methodLink RL 95 yX7_stateAnew, .instanceMethod yX7_stateAnew, .selects RX7 yX7_stateAnew yX7_stateAnew, .initialized RX7, .code yX7_stateAnew cX7_stateAnew 1 (some .int), .methodLink RX7 110 yX7_checkProgram, .instanceMethod yX7_checkProgram, .selects RX7 yX7_checkProgram yX7_checkProgram, .code yX7_checkProgram cX7_checkProgram 1 none, .fieldLink RX7 24 "Selfkindle" "wrong" "I", .classLink RX7 75 "java/lang/IllegalStateException", .initialized "java/lang/IllegalStateException", .classLink RL 13 "java/lang/IllegalStateException"] : List Cond) ++ wsX70 ++ (vx_at0 RX7 77 "java/lang/IllegalStateException" ["java/lang/RuntimeException", "java/lang/Exception"]).filter goodWord)
theorem in_z_L_stateAnew_X7 : ∀ w ∈ wsX70, w ∈ z_L_stateAnew := fun w h => List.mem_cons_of_mem _ (List.mem_append_left _ (List.mem_append_right _ (h)))
set_option maxRecDepth 20000 in
theorem gg_L_stateAnew_3 : GoodIn z_L_stateAnew z_X_stateAnew := goodIn_ca (goodIn_p _ [5, 9] rfl (by decide +kernel)) (goodIn_sub (fun _ h => List.mem_cons_of_mem _ (List.mem_append_right _ (h))) (by decide +kernel))
set_option maxRecDepth 20000 in
theorem g_L_stateAnew_3 : GoodIn z_L_stateAnew (wsV RL 95 RX7 yX7_stateAnew z_X_stateAnew) := goodIn_app (goodIn_of _ (by decide +kernel)) gg_L_stateAnew_3
set_option maxHeartbeats 4000000 in
set_option maxRecDepth 100000 in
theorem c_L_stateAnew (l : Launch) (dC : Nat → ClassId) (dI : Nat → Nat → Nat) (tp te : Nat) (sz : Nat) (hlt : l.stackTraces = false) (h0 : Nat) (rp : Nat) (rt : Nat) (rc : Nat) (r1 : Nat) (r2 : Nat) (r3 : Nat) (r4 : Nat) (ho : Nat)  : vx_Met l yL_stateAnew z_L_stateAnew ({ frames := 8, cells := 1, slots := 6, locals := 121 }) (va_Pc [.ref h0, .ref ho] (Pw dC dI [(h0, .inr (8, [.ref rp, .int 0, .ref rt, .ref rc, .int ((-1)), .ref r1, .ref r2, .ref r3, .ref r4, .null, .int 0]))] [] sz tp te)) (va_Qi (fun (r : Int32) (_ : Unit) => r = 1) (fun (_ : Unit) (_ : State) => True) (va_A [(h0, .inr (8, [.ref rp, .int 0, .ref rt, .ref rc, .int ((-1)), .ref r1, .ref r2, .ref r3, .ref r4, .null, .int 0]))] sz)) (vx_X (fun (_ : Unit) => False) (fun (E : String) (_ : Unit) (_ : State) => E = "") (va_A [(h0, .inr (8, [.ref rp, .int 0, .ref rt, .ref rc, .int ((-1)), .ref r1, .ref r2, .ref r3, .ref r4, .null, .int 0]))] sz)) 1 6 (va_A [(h0, .inr (8, [.ref rp, .int 0, .ref rt, .ref rc, .int ((-1)), .ref r1, .ref r2, .ref r3, .ref r4, .null, .int 0]))] sz) := by
  refine vx_ofWH (cc := cL_stateAnew) (maxL := 3) (ret := (some .int)) (hh := [(0, 8, 11, 13)]) (by decide) rfl ?_
  intro p e s m args below meth c s₁ B hml hv
  obtain ⟨rfl, hsz, hP, hK, hD0, hG⟩ := hv
  have hx := B.exec
  have hb := B.bytes
  have hr := B.returns
  have hts := atoms_spec (ws := z_L_stateAnew) B.pre
  have htab : c.exceptionTable.toList = tableOf [(0, 8, 11, 13)] := vx_table (x := yL_stateAnew) B (hts _ List.mem_cons_self)
  have hown : s.vm.findClass RL = some m.cls := findClass_of_methodNamed B.named
  have hlocks := B.notSynchronized
  subst hsz
  have hD := hD0.self (sz := s.heap.size)
  generalize hAe : va_A [(h0, .inr (8, [.ref rp, .int 0, .ref rt, .ref rc, .int ((-1)), .ref r1, .ref r2, .ref r3, .ref r4, .null, .int 0]))] s.heap.size = A at hD hG ⊢
  have hA : ∀ q : Nat, s.heap.size ≤ q → A q := fun q h => by rw [← hAe]; exact Or.inr h
  have hS : va_S A s.heap s.heap [] := va_S.rf
  have hl := lv_entry ([.ref h0, .ref ho]) (n := 3) (Nat.le_of_ble_eq_true rfl)
  rw [lg_entry_eq]
  generalize (lg_sl ([.ref h0, .ref ho]) ++ List.replicate (3 - (lg_sl ([.ref h0, .ref ho])).length) Slot.unset).toArray = ls at hl ⊢
  have hl : lv_has ls 3 [(0, .ref h0), (1, .ref ho)] := hl
  refine lv_aload_n hx hb dL_stateAnew_0 rfl (lv_at hl 1 rfl) ?_
  refine lv_iconst (v := 0) hx hb dL_stateAnew_1 (by decide) ?_
  refine lv_aload_n hx hb dL_stateAnew_2 rfl (lv_at hl 0 rfl) ?_
  have hPc := hP.sub (ws' := [(h0, .inr (8, [.ref rp, .int 0, .ref rt, .ref rc, .int ((-1)), .ref r1, .ref r2, .ref r3, .ref r4, .null, .int 0]))]) [0] rfl
  have hDc := hD.sub (ws' := [(h0, .inr (8, [.ref rp, .int 0, .ref rt, .ref rc, .int ((-1)), .ref r1, .ref r2, .ref r3, .ref r4, .null, .int 0]))]) [0] (by decide) rfl
  have hKc := hK.sub (tys' := []) [] rfl
  have hFc := va_free (wc := [(h0, .inr (8, [.ref rp, .int 0, .ref rt, .ref rc, .int ((-1)), .ref r1, .ref r2, .ref r3, .ref r4, .null, .int 0]))]) hD hS hA [0] rfl
  refine vx_calli (vx_runV (As := []) (rest := [.int 0, .ref ho]) ⟨hx, hb, hml, hown, hts⟩ (c_X_stateAnew l dC dI tp te s.heap.size hlt h0 rp rt rc r1 r2 r3 r4) (cwV 0 hts g_L_stateAnew_3 rfl rfl rfl (by decide +kernel) ⟨Nat.le_of_ble_eq_true rfl, Nat.le_of_ble_eq_true rfl⟩) ⟨Pw.blind, va_recv hKc hPc (ci := 8) (q0 := 0) rfl rfl, Pw.mk hPc hKc hDc hG hS hFc⟩ rfl rfl hl.1 rfl (lv_room (Nat.le_of_ble_eq_true rfl)) dL_stateAnew_3 ⟨Nat.le_of_ble_eq_true rfl, Nat.le_of_ble_eq_true rfl⟩) hS (fun q _ h => hFc q h) hFc (fun q _ h => hFc q h) (fun E ce q9 u t9 H_1 locs ht hvm hpx hBX hz1 hk1 hS hce hcv hcl => ?_) (fun r u t9 H1 locs ht hvm hw hB hz1 hk1 hS => hw.elim)
  have hBX : E = "java/lang/IllegalStateException" := hBX
  subst hBX
  refine vx_catch hown [] ⟨0, 8, 11, 13⟩ [] htab (fun z9 h9 => nomatch h9) (by decide) (by decide) (hts (.classLink RL 13 "java/lang/IllegalStateException") (List.mem_of_getElem? (i := 13) rfl)) (va_Nw.use rfl hG.2.2.2.2.2.2.1) hce hcv hcl ?_
  obtain ⟨hP, hD⟩ := va_join (wr := []) (w1 := []) hP hD [0] [] rfl rfl (by decide) (by decide) hk1 hFc va_P.nil va_D.nil
  have hK := hK.sub (tys' := []) [] rfl
  have hP : va_P (dC, dI) vwCl [] H_1 := hP
  have hD : va_D A [] := hD
  have hK : va_K (dC, dI) vwCl [] s := hK
  refine W.widen (k := 1) (n := 6) (Nat.le_of_ble_eq_true rfl) (Nat.le_of_ble_eq_true rfl) ?_
  refine lv_astore_n (lv' := [(2, .ref q9), (0, .ref h0), (1, .ref ho)]) hx hb dL_stateAnew_11 rfl hl (by decide) rfl (fun ls hl => ?_)
  refine lv_iconst (v := 1) hx hb dL_stateAnew_12 (by decide) ?_
  refine vx_ret ?_
  refine W.widen (k := 1) (n := 6) (Nat.le_of_ble_eq_true rfl) (Nat.le_of_ble_eq_true rfl) ?_
  exact W.iret (v := 1) hx hb hr (fun t ht hW => ⟨⟨1, (), rfl, rfl, trivial⟩, hS.F ht⟩) hS.2.2 dL_stateAnew_13

set_option maxRecDepth 20000 in
def z_L_valueAnew : List Cond := .codeWith yL_valueAnew cL_valueAnew 3 (some .int) [(0, 7, 10, 13)] :: (([.methodLink RL 98 yX7_valueAnew, .instanceMethod yX7_valueAnew, .selects RX7 yX7_valueAnew yX7_valueAnew, .initialized RX7, .code yX7_valueAnew cX7_valueAnew 2 (some .long), .methodLink RX7 110 yX7_checkProgram, .instanceMethod yX7_checkProgram, .selects RX7 yX7_checkProgram yX7_checkProgram, .code yX7_checkProgram cX7_checkProgram 1 none, .fieldLink RX7 24 "Selfkindle" "wrong" "I", .classLink RX7 75 "java/lang/IllegalStateException", .initialized "java/lang/IllegalStateException", .classLink RL 13 "java/lang/IllegalStateException"] : List Cond) ++ wsX70 ++ (vx_at0 RX7 77 "java/lang/IllegalStateException" ["java/lang/RuntimeException", "java/lang/Exception"]).filter goodWord)
theorem in_z_L_valueAnew_X7 : ∀ w ∈ wsX70, w ∈ z_L_valueAnew := fun w h => List.mem_cons_of_mem _ (List.mem_append_left _ (List.mem_append_right _ (h)))
set_option maxRecDepth 20000 in
theorem gg_L_valueAnew_3 : GoodIn z_L_valueAnew z_X_valueAnew := goodIn_ca (goodIn_p _ [5, 9] rfl (by decide +kernel)) (goodIn_sub (fun _ h => List.mem_cons_of_mem _ (List.mem_append_right _ (h))) (by decide +kernel))
set_option maxRecDepth 20000 in
theorem g_L_valueAnew_3 : GoodIn z_L_valueAnew (wsV RL 98 RX7 yX7_valueAnew z_X_valueAnew) := goodIn_app (goodIn_of _ (by decide +kernel)) gg_L_valueAnew_3
set_option maxHeartbeats 4000000 in
set_option maxRecDepth 100000 in
theorem c_L_valueAnew (l : Launch) (dC : Nat → ClassId) (dI : Nat → Nat → Nat) (tp te : Nat) (sz : Nat) (hlt : l.stackTraces = false) (h0 : Nat) (rp : Nat) (rt : Nat) (rc : Nat) (r1 : Nat) (r2 : Nat) (r3 : Nat) (r4 : Nat) (ho : Nat)  : vx_Met l yL_valueAnew z_L_valueAnew ({ frames := 8, cells := 1, slots := 6, locals := 122 }) (va_Pc [.ref h0, .ref ho] (Pw dC dI [(h0, .inr (8, [.ref rp, .int 0, .ref rt, .ref rc, .int ((-1)), .ref r1, .ref r2, .ref r3, .ref r4, .null, .int 0]))] [] sz tp te)) (va_Qi (fun (r : Int32) (_ : Unit) => r = 1) (fun (_ : Unit) (_ : State) => True) (va_A [(h0, .inr (8, [.ref rp, .int 0, .ref rt, .ref rc, .int ((-1)), .ref r1, .ref r2, .ref r3, .ref r4, .null, .int 0]))] sz)) (vx_X (fun (_ : Unit) => False) (fun (E : String) (_ : Unit) (_ : State) => E = "") (va_A [(h0, .inr (8, [.ref rp, .int 0, .ref rt, .ref rc, .int ((-1)), .ref r1, .ref r2, .ref r3, .ref r4, .null, .int 0]))] sz)) 1 6 (va_A [(h0, .inr (8, [.ref rp, .int 0, .ref rt, .ref rc, .int ((-1)), .ref r1, .ref r2, .ref r3, .ref r4, .null, .int 0]))] sz) := by
  refine vx_ofWH (cc := cL_valueAnew) (maxL := 3) (ret := (some .int)) (hh := [(0, 7, 10, 13)]) (by decide) rfl ?_
  intro p e s m args below meth c s₁ B hml hv
  obtain ⟨rfl, hsz, hP, hK, hD0, hG⟩ := hv
  have hx := B.exec
  have hb := B.bytes
  have hr := B.returns
  have hts := atoms_spec (ws := z_L_valueAnew) B.pre
  have htab : c.exceptionTable.toList = tableOf [(0, 7, 10, 13)] := vx_table (x := yL_valueAnew) B (hts _ List.mem_cons_self)
  have hown : s.vm.findClass RL = some m.cls := findClass_of_methodNamed B.named
  have hlocks := B.notSynchronized
  subst hsz
  have hD := hD0.self (sz := s.heap.size)
  generalize hAe : va_A [(h0, .inr (8, [.ref rp, .int 0, .ref rt, .ref rc, .int ((-1)), .ref r1, .ref r2, .ref r3, .ref r4, .null, .int 0]))] s.heap.size = A at hD hG ⊢
  have hA : ∀ q : Nat, s.heap.size ≤ q → A q := fun q h => by rw [← hAe]; exact Or.inr h
  have hS : va_S A s.heap s.heap [] := va_S.rf
  have hl := lv_entry ([.ref h0, .ref ho]) (n := 3) (Nat.le_of_ble_eq_true rfl)
  rw [lg_entry_eq]
  generalize (lg_sl ([.ref h0, .ref ho]) ++ List.replicate (3 - (lg_sl ([.ref h0, .ref ho])).length) Slot.unset).toArray = ls at hl ⊢
  have hl : lv_has ls 3 [(0, .ref h0), (1, .ref ho)] := hl
  refine lv_aload_n hx hb dL_valueAnew_0 rfl (lv_at hl 1 rfl) ?_
  refine lv_iconst (v := 0) hx hb dL_valueAnew_1 (by decide) ?_
  refine lv_aload_n hx hb dL_valueAnew_2 rfl (lv_at hl 0 rfl) ?_
  have hPc := hP.sub (ws' := [(h0, .inr (8, [.ref rp, .int 0, .ref rt, .ref rc, .int ((-1)), .ref r1, .ref r2, .ref r3, .ref r4, .null, .int 0]))]) [0] rfl
  have hDc := hD.sub (ws' := [(h0, .inr (8, [.ref rp, .int 0, .ref rt, .ref rc, .int ((-1)), .ref r1, .ref r2, .ref r3, .ref r4, .null, .int 0]))]) [0] (by decide) rfl
  have hKc := hK.sub (tys' := []) [] rfl
  have hFc := va_free (wc := [(h0, .inr (8, [.ref rp, .int 0, .ref rt, .ref rc, .int ((-1)), .ref r1, .ref r2, .ref r3, .ref r4, .null, .int 0]))]) hD hS hA [0] rfl
  refine vx_calll (vx_runV (As := []) (rest := [.int 0, .ref ho]) ⟨hx, hb, hml, hown, hts⟩ (c_X_valueAnew l dC dI tp te s.heap.size hlt h0 rp rt rc r1 r2 r3 r4) (cwV 0 hts g_L_valueAnew_3 rfl rfl rfl (by decide +kernel) ⟨Nat.le_of_ble_eq_true rfl, Nat.le_of_ble_eq_true rfl⟩) ⟨Pw.blind, va_recv hKc hPc (ci := 8) (q0 := 0) rfl rfl, Pw.mk hPc hKc hDc hG hS hFc⟩ rfl rfl hl.1 rfl (lv_room (Nat.le_of_ble_eq_true rfl)) dL_valueAnew_3 ⟨Nat.le_of_ble_eq_true rfl, Nat.le_of_ble_eq_true rfl⟩) hS (fun q _ h => hFc q h) hFc (fun q _ h => hFc q h) (fun E ce q9 u t9 H_1 locs ht hvm hpx hBX hz1 hk1 hS hce hcv hcl => ?_) (fun r u t9 H1 locs ht hvm hw hB hz1 hk1 hS => hw.elim)
  have hBX : E = "java/lang/IllegalStateException" := hBX
  subst hBX
  refine vx_catch hown [] ⟨0, 7, 10, 13⟩ [] htab (fun z9 h9 => nomatch h9) (by decide) (by decide) (hts (.classLink RL 13 "java/lang/IllegalStateException") (List.mem_of_getElem? (i := 13) rfl)) (va_Nw.use rfl hG.2.2.2.2.2.2.1) hce hcv hcl ?_
  obtain ⟨hP, hD⟩ := va_join (wr := []) (w1 := []) hP hD [0] [] rfl rfl (by decide) (by decide) hk1 hFc va_P.nil va_D.nil
  have hK := hK.sub (tys' := []) [] rfl
  have hP : va_P (dC, dI) vwCl [] H_1 := hP
  have hD : va_D A [] := hD
  have hK : va_K (dC, dI) vwCl [] s := hK
  refine W.widen (k := 1) (n := 6) (Nat.le_of_ble_eq_true rfl) (Nat.le_of_ble_eq_true rfl) ?_
  refine lv_astore_n (lv' := [(2, .ref q9), (0, .ref h0), (1, .ref ho)]) hx hb dL_valueAnew_10 rfl hl (by decide) rfl (fun ls hl => ?_)
  refine lv_iconst (v := 1) hx hb dL_valueAnew_11 (by decide) ?_
  refine vx_ret ?_
  refine W.widen (k := 1) (n := 6) (Nat.le_of_ble_eq_true rfl) (Nat.le_of_ble_eq_true rfl) ?_
  exact W.iret (v := 1) hx hb hr (fun t ht hW => ⟨⟨1, (), rfl, rfl, trivial⟩, hS.F ht⟩) hS.2.2 dL_valueAnew_12

set_option maxRecDepth 20000 in
def z_L_again : List Cond := .codeWith yL_again cL_again 2 (some .int) [(0, 4, 7, 13)] :: (([.methodLink RL 82 yX7_again, .instanceMethod yX7_again, .selects RX7 yX7_again yX7_again, .initialized RX7, .code yX7_again cX7_again 1 none, .methodLink RX7 110 yX7_checkProgram, .instanceMethod yX7_checkProgram, .selects RX7 yX7_checkProgram yX7_checkProgram, .code yX7_checkProgram cX7_checkProgram 1 none, .fieldLink RX7 24 "Selfkindle" "wrong" "I", .classLink RX7 75 "java/lang/IllegalStateException", .initialized "java/lang/IllegalStateException", .classLink RL 13 "java/lang/IllegalStateException"] : List Cond) ++ wsX70 ++ (vx_at0 RX7 77 "java/lang/IllegalStateException" ["java/lang/RuntimeException", "java/lang/Exception"]).filter goodWord)
theorem in_z_L_again_X7 : ∀ w ∈ wsX70, w ∈ z_L_again := fun w h => List.mem_cons_of_mem _ (List.mem_append_left _ (List.mem_append_right _ (h)))
set_option maxRecDepth 20000 in
theorem gg_L_again_1 : GoodIn z_L_again z_X_again := goodIn_ca (goodIn_p _ [5, 9] rfl (by decide +kernel)) (goodIn_sub (fun _ h => List.mem_cons_of_mem _ (List.mem_append_right _ (h))) (by decide +kernel))
set_option maxRecDepth 20000 in
theorem g_L_again_1 : GoodIn z_L_again (wsV RL 82 RX7 yX7_again z_X_again) := goodIn_app (goodIn_of _ (by decide +kernel)) gg_L_again_1
set_option maxHeartbeats 4000000 in
set_option maxRecDepth 100000 in
theorem c_L_again (l : Launch) (dC : Nat → ClassId) (dI : Nat → Nat → Nat) (tp te : Nat) (sz : Nat) (hlt : l.stackTraces = false) (h0 : Nat) (rp : Nat) (rt : Nat) (rc : Nat) (r1 : Nat) (r2 : Nat) (r3 : Nat) (r4 : Nat)  : vx_Met l yL_again z_L_again ({ frames := 8, cells := 1, slots := 6, locals := 121 }) (va_Pc [.ref h0] (Pw dC dI [(h0, .inr (8, [.ref rp, .int 0, .ref rt, .ref rc, .int ((-1)), .ref r1, .ref r2, .ref r3, .ref r4, .null, .int 0]))] [] sz tp te)) (va_Qi (fun (r : Int32) (_ : Unit) => r = 1) (fun (_ : Unit) (_ : State) => True) (va_A [(h0, .inr (8, [.ref rp, .int 0, .ref rt, .ref rc, .int ((-1)), .ref r1, .ref r2, .ref r3, .ref r4, .null, .int 0]))] sz)) (vx_X (fun (_ : Unit) => False) (fun (E : String) (_ : Unit) (_ : State) => E = "") (va_A [(h0, .inr (8, [.ref rp, .int 0, .ref rt, .ref rc, .int ((-1)), .ref r1, .ref r2, .ref r3, .ref r4, .null, .int 0]))] sz)) 1 6 (va_A [(h0, .inr (8, [.ref rp, .int 0, .ref rt, .ref rc, .int ((-1)), .ref r1, .ref r2, .ref r3, .ref r4, .null, .int 0]))] sz) := by
  refine vx_ofWH (cc := cL_again) (maxL := 2) (ret := (some .int)) (hh := [(0, 4, 7, 13)]) (by decide) rfl ?_
  intro p e s m args below meth c s₁ B hml hv
  obtain ⟨rfl, hsz, hP, hK, hD0, hG⟩ := hv
  have hx := B.exec
  have hb := B.bytes
  have hr := B.returns
  have hts := atoms_spec (ws := z_L_again) B.pre
  have htab : c.exceptionTable.toList = tableOf [(0, 4, 7, 13)] := vx_table (x := yL_again) B (hts _ List.mem_cons_self)
  have hown : s.vm.findClass RL = some m.cls := findClass_of_methodNamed B.named
  have hlocks := B.notSynchronized
  subst hsz
  have hD := hD0.self (sz := s.heap.size)
  generalize hAe : va_A [(h0, .inr (8, [.ref rp, .int 0, .ref rt, .ref rc, .int ((-1)), .ref r1, .ref r2, .ref r3, .ref r4, .null, .int 0]))] s.heap.size = A at hD hG ⊢
  have hA : ∀ q : Nat, s.heap.size ≤ q → A q := fun q h => by rw [← hAe]; exact Or.inr h
  have hS : va_S A s.heap s.heap [] := va_S.rf
  have hl := lv_entry ([.ref h0]) (n := 2) (Nat.le_of_ble_eq_true rfl)
  rw [lg_entry_eq]
  generalize (lg_sl ([.ref h0]) ++ List.replicate (2 - (lg_sl ([.ref h0])).length) Slot.unset).toArray = ls at hl ⊢
  have hl : lv_has ls 2 [(0, .ref h0)] := hl
  refine lv_aload_n hx hb dL_again_0 rfl (lv_at hl 0 rfl) ?_
  have hPc := hP.sub (ws' := [(h0, .inr (8, [.ref rp, .int 0, .ref rt, .ref rc, .int ((-1)), .ref r1, .ref r2, .ref r3, .ref r4, .null, .int 0]))]) [0] rfl
  have hDc := hD.sub (ws' := [(h0, .inr (8, [.ref rp, .int 0, .ref rt, .ref rc, .int ((-1)), .ref r1, .ref r2, .ref r3, .ref r4, .null, .int 0]))]) [0] (by decide) rfl
  have hKc := hK.sub (tys' := []) [] rfl
  have hFc := va_free (wc := [(h0, .inr (8, [.ref rp, .int 0, .ref rt, .ref rc, .int ((-1)), .ref r1, .ref r2, .ref r3, .ref r4, .null, .int 0]))]) hD hS hA [0] rfl
  refine vx_callv (vx_runV (As := []) (rest := []) ⟨hx, hb, hml, hown, hts⟩ (c_X_again l dC dI tp te s.heap.size hlt h0 rp rt rc r1 r2 r3 r4) (cwV 0 hts g_L_again_1 rfl rfl rfl (by decide +kernel) ⟨Nat.le_of_ble_eq_true rfl, Nat.le_of_ble_eq_true rfl⟩) ⟨Pw.blind, va_recv hKc hPc (ci := 8) (q0 := 0) rfl rfl, Pw.mk hPc hKc hDc hG hS hFc⟩ rfl rfl hl.1 rfl (lv_room (Nat.le_of_ble_eq_true rfl)) dL_again_1 ⟨Nat.le_of_ble_eq_true rfl, Nat.le_of_ble_eq_true rfl⟩) hS (fun q _ h => hFc q h) hFc (fun q _ h => hFc q h) (fun E ce q9 u t9 H_1 locs ht hvm hpx hBX hz1 hk1 hS hce hcv hcl => ?_) (fun u t9 H1 locs ht hvm hw hB hz1 hk1 hS => hw.elim)
  have hBX : E = "java/lang/IllegalStateException" := hBX
  subst hBX
  refine vx_catch hown [] ⟨0, 4, 7, 13⟩ [] htab (fun z9 h9 => nomatch h9) (by decide) (by decide) (hts (.classLink RL 13 "java/lang/IllegalStateException") (List.mem_of_getElem? (i := 13) rfl)) (va_Nw.use rfl hG.2.2.2.2.2.2.1) hce hcv hcl ?_
  obtain ⟨hP, hD⟩ := va_join (wr := []) (w1 := []) hP hD [0] [] rfl rfl (by decide) (by decide) hk1 hFc va_P.nil va_D.nil
  have hK := hK.sub (tys' := []) [] rfl
  have hP : va_P (dC, dI) vwCl [] H_1 := hP
  have hD : va_D A [] := hD
  have hK : va_K (dC, dI) vwCl [] s := hK
  refine W.widen (k := 1) (n := 6) (Nat.le_of_ble_eq_true rfl) (Nat.le_of_ble_eq_true rfl) ?_
  refine lv_astore_n (lv' := [(1, .ref q9), (0, .ref h0)]) hx hb dL_again_7 rfl hl (by decide) rfl (fun ls hl => ?_)
  refine lv_iconst (v := 1) hx hb dL_again_8 (by decide) ?_
  refine vx_ret ?_
  refine W.widen (k := 1) (n := 6) (Nat.le_of_ble_eq_true rfl) (Nat.le_of_ble_eq_true rfl) ?_
  exact W.iret (v := 1) hx hb hr (fun t ht hW => ⟨⟨1, (), rfl, rfl, trivial⟩, hS.F ht⟩) hS.2.2 dL_again_9

set_option maxRecDepth 20000 in
def z_L_order : List Cond := .codeWith yL_order cL_order 5 (some .int) [(0, 9, 12, 19), (0, 9, 16, 31)] :: (([.methodLink RL 71 yX7_order, .instanceMethod yX7_order, .selects RX7 yX7_order yX7_order, .initialized RX7, .code yX7_order cX7_order 3 (some .long), .methodLink RX7 121 yX7_checkOrder, .instanceMethod yX7_checkOrder, .selects RX7 yX7_checkOrder yX7_checkOrder, .code yX7_checkOrder cX7_checkOrder 2 none, .fieldLink RX7 24 "Selfkindle" "wrong" "I", .classLink RX7 107 "java/lang/IndexOutOfBoundsException", .initialized "java/lang/IndexOutOfBoundsException", .classLink RL 19 "java/lang/IndexOutOfBoundsException", .classLink RL 31 "java/lang/IllegalArgumentException"] : List Cond) ++ wsX70 ++ (vx_at0 RX7 109 "java/lang/IndexOutOfBoundsException" ["java/lang/RuntimeException", "java/lang/Exception"]).filter goodWord)
theorem in_z_L_order_X7 : ∀ w ∈ wsX70, w ∈ z_L_order := fun w h => List.mem_cons_of_mem _ (List.mem_append_left _ (List.mem_append_right _ (h)))
set_option maxRecDepth 20000 in
theorem gg_L_order_5 : GoodIn z_L_order z_X_order := goodIn_ca (goodIn_p _ [5, 9] rfl (by decide +kernel)) (goodIn_sub (fun _ h => List.mem_cons_of_mem _ (List.mem_append_right _ (h))) (by decide +kernel))
set_option maxRecDepth 20000 in
theorem g_L_order_5 : GoodIn z_L_order (wsV RL 71 RX7 yX7_order z_X_order) := goodIn_app (goodIn_of _ (by decide +kernel)) gg_L_order_5
set_option maxHeartbeats 4000000 in
set_option maxRecDepth 100000 in
theorem c_L_order (l : Launch) (dC : Nat → ClassId) (dI : Nat → Nat → Nat) (tp te : Nat) (sz : Nat) (hlt : l.stackTraces = false) (h0 : Nat) (rp : Nat) (rt : Nat) (rc : Nat) (r1 : Nat) (r2 : Nat) (r3 : Nat) (r4 : Nat) (p0 : Int32) (p1 : Int32) (ho : Nat)  : vx_Met l yL_order z_L_order ({ frames := 8, cells := 1, slots := 6, locals := 124 }) (va_Pc [.ref h0, .int p0, .int p1, .ref ho] (Pw dC dI [(h0, .inr (8, [.ref rp, .int 0, .ref rt, .ref rc, .int ((-1)), .ref r1, .ref r2, .ref r3, .ref r4, .null, .int 0]))] [] sz tp te)) (va_Qi (fun (r : Int32) (_ : Unit) => r = 1) (fun (_ : Unit) (_ : State) => True) (va_A [(h0, .inr (8, [.ref rp, .int 0, .ref rt, .ref rc, .int ((-1)), .ref r1, .ref r2, .ref r3, .ref r4, .null, .int 0]))] sz)) (vx_X (fun (_ : Unit) => False) (fun (E : String) (_ : Unit) (_ : State) => E = "") (va_A [(h0, .inr (8, [.ref rp, .int 0, .ref rt, .ref rc, .int ((-1)), .ref r1, .ref r2, .ref r3, .ref r4, .null, .int 0]))] sz)) 1 6 (va_A [(h0, .inr (8, [.ref rp, .int 0, .ref rt, .ref rc, .int ((-1)), .ref r1, .ref r2, .ref r3, .ref r4, .null, .int 0]))] sz) := by
  refine vx_ofWH (cc := cL_order) (maxL := 5) (ret := (some .int)) (hh := [(0, 9, 12, 19), (0, 9, 16, 31)]) (by decide) rfl ?_
  intro p e s m args below meth c s₁ B hml hv
  obtain ⟨rfl, hsz, hP, hK, hD0, hG⟩ := hv
  have hx := B.exec
  have hb := B.bytes
  have hr := B.returns
  have hts := atoms_spec (ws := z_L_order) B.pre
  have htab : c.exceptionTable.toList = tableOf [(0, 9, 12, 19), (0, 9, 16, 31)] := vx_table (x := yL_order) B (hts _ List.mem_cons_self)
  have hown : s.vm.findClass RL = some m.cls := findClass_of_methodNamed B.named
  have hlocks := B.notSynchronized
  subst hsz
  have hD := hD0.self (sz := s.heap.size)
  generalize hAe : va_A [(h0, .inr (8, [.ref rp, .int 0, .ref rt, .ref rc, .int ((-1)), .ref r1, .ref r2, .ref r3, .ref r4, .null, .int 0]))] s.heap.size = A at hD hG ⊢
  have hA : ∀ q : Nat, s.heap.size ≤ q → A q := fun q h => by rw [← hAe]; exact Or.inr h
  have hS : va_S A s.heap s.heap [] := va_S.rf
  have hl := lv_entry ([.ref h0, .int p0, .int p1, .ref ho]) (n := 5) (Nat.le_of_ble_eq_true rfl)
  rw [lg_entry_eq]
  generalize (lg_sl ([.ref h0, .int p0, .int p1, .ref ho]) ++ List.replicate (5 - (lg_sl ([.ref h0, .int p0, .int p1, .ref ho])).length) Slot.unset).toArray = ls at hl ⊢
  have hl : lv_has ls 5 [(0, .ref h0), (1, .int p0), (2, .int p1), (3, .ref ho)] := hl
  refine lv_aload_n hx hb dL_order_0 rfl (lv_at hl 3 rfl) ?_
  refine lv_iconst (v := 0) hx hb dL_order_1 (by decide) ?_
  refine lv_aload_n hx hb dL_order_2 rfl (lv_at hl 0 rfl) ?_
  refine lv_iload_n hx hb dL_order_3 rfl (lv_at hl 1 rfl) ?_
  refine lv_iload_n hx hb dL_order_4 rfl (lv_at hl 2 rfl) ?_
  have hPc := hP.sub (ws' := [(h0, .inr (8, [.ref rp, .int 0, .ref rt, .ref rc, .int ((-1)), .ref r1, .ref r2, .ref r3, .ref r4, .null, .int 0]))]) [0] rfl
  have hDc := hD.sub (ws' := [(h0, .inr (8, [.ref rp, .int 0, .ref rt, .ref rc, .int ((-1)), .ref r1, .ref r2, .ref r3, .ref r4, .null, .int 0]))]) [0] (by decide) rfl
  have hKc := hK.sub (tys' := []) [] rfl
  have hFc := va_free (wc := [(h0, .inr (8, [.ref rp, .int 0, .ref rt, .ref rc, .int ((-1)), .ref r1, .ref r2, .ref r3, .ref r4, .null, .int 0]))]) hD hS hA [0] rfl
  refine vx_calll (vx_runV (As := [.int p0, .int p1]) (rest := [.int 0, .ref ho]) ⟨hx, hb, hml, hown, hts⟩ (c_X_order l dC dI tp te s.heap.size hlt h0 rp rt rc r1 r2 r3 r4 p0 p1) (cwV 2 hts g_L_order_5 rfl rfl rfl (by decide +kernel) ⟨Nat.le_of_ble_eq_true rfl, Nat.le_of_ble_eq_true rfl⟩) ⟨Pw.blind, va_recv hKc hPc (ci := 8) (q0 := 0) rfl rfl, Pw.mk hPc hKc hDc hG hS hFc⟩ rfl rfl hl.1 rfl (lv_room (Nat.le_of_ble_eq_true rfl)) dL_order_5 ⟨Nat.le_of_ble_eq_true rfl, Nat.le_of_ble_eq_true rfl⟩) hS (fun q _ h => hFc q h) hFc (fun q _ h => hFc q h) (fun E ce q9 u t9 H_1 locs ht hvm hpx hBX hz1 hk1 hS hce hcv hcl => ?_) (fun r u t9 H1 locs ht hvm hw hB hz1 hk1 hS => hw.elim)
  have hBX : E = "java/lang/IndexOutOfBoundsException" := hBX
  subst hBX
  refine vx_catch hown [] ⟨0, 9, 12, 19⟩ [⟨0, 9, 16, 31⟩] htab (fun z9 h9 => nomatch h9) (by decide) (by decide) (hts (.classLink RL 19 "java/lang/IndexOutOfBoundsException") (List.mem_of_getElem? (i := 13) rfl)) (va_Nw.use rfl hG.2.2.2.2.2.2.2.1) hce hcv hcl ?_
  obtain ⟨hP, hD⟩ := va_join (wr := []) (w1 := []) hP hD [0] [] rfl rfl (by decide) (by decide) hk1 hFc va_P.nil va_D.nil
  have hK := hK.sub (tys' := []) [] rfl
  have hP : va_P (dC, dI) vwCl [] H_1 := hP
  have hD : va_D A [] := hD
  have hK : va_K (dC, dI) vwCl [] s := hK
  refine W.widen (k := 1) (n := 6) (Nat.le_of_ble_eq_true rfl) (Nat.le_of_ble_eq_true rfl) ?_
  refine lv_astore (lv' := [(4, .ref q9), (0, .ref h0), (1, .int p0), (2, .int p1), (3, .ref ho)]) hx hb dL_order_12 hl (by decide) rfl (fun ls hl => ?_)
  refine lv_iconst (v := 1) hx hb dL_order_14 (by decide) ?_
  refine vx_ret ?_
  refine W.widen (k := 1) (n := 6) (Nat.le_of_ble_eq_true rfl) (Nat.le_of_ble_eq_true rfl) ?_
  exact W.iret (v := 1) hx hb hr (fun t ht hW => ⟨⟨1, (), rfl, rfl, trivial⟩, hS.F ht⟩) hS.2.2 dL_order_15

set_option maxRecDepth 20000 in
def z_L_stop : List Cond := .codeWith yL_stop cL_stop 5 (some .int) [(0, 17, 20, 19)] :: (([.methodLink RL 75 yX7_stop, .instanceMethod yX7_stop, .selects RX7 yX7_stop yX7_stop, .initialized RX7, .code yX7_stop cX7_stop 4 (some .boolean), .methodLink RX7 121 yX7_checkOrder, .instanceMethod yX7_checkOrder, .selects RX7 yX7_checkOrder yX7_checkOrder, .code yX7_checkOrder cX7_checkOrder 2 none, .fieldLink RX7 24 "Selfkindle" "wrong" "I", .classLink RX7 107 "java/lang/IndexOutOfBoundsException", .initialized "java/lang/IndexOutOfBoundsException", .classLink RL 19 "java/lang/IndexOutOfBoundsException"] : List Cond) ++ wsX70 ++ (vx_at0 RX7 109 "java/lang/IndexOutOfBoundsException" ["java/lang/RuntimeException", "java/lang/Exception"]).filter goodWord)
theorem in_z_L_stop_X7 : ∀ w ∈ wsX70, w ∈ z_L_stop := fun w h => List.mem_cons_of_mem _ (List.mem_append_left _ (List.mem_append_right _ (h)))
set_option maxRecDepth 20000 in
theorem gg_L_stop_5 : GoodIn z_L_stop z_X_stop := goodIn_ca (goodIn_p _ [5, 9] rfl (by decide +kernel)) (goodIn_sub (fun _ h => List.mem_cons_of_mem _ (List.mem_append_right _ (h))) (by decide +kernel))
set_option maxRecDepth 20000 in
theorem g_L_stop_5 : GoodIn z_L_stop (wsV RL 75 RX7 yX7_stop z_X_stop) := goodIn_app (goodIn_of _ (by decide +kernel)) gg_L_stop_5
set_option maxHeartbeats 4000000 in
set_option maxRecDepth 100000 in
theorem c_L_stop (l : Launch) (dC : Nat → ClassId) (dI : Nat → Nat → Nat) (tp te : Nat) (sz : Nat) (hlt : l.stackTraces = false) (h0 : Nat) (rp : Nat) (rt : Nat) (rc : Nat) (r1 : Nat) (r2 : Nat) (r3 : Nat) (r4 : Nat) (p0 : Int32) (p1 : Int32) (ho : Nat)  : vx_Met l yL_stop z_L_stop ({ frames := 8, cells := 1, slots := 6, locals := 125 }) (va_Pc [.ref h0, .int p0, .int p1, .ref ho] (Pw dC dI [(h0, .inr (8, [.ref rp, .int 0, .ref rt, .ref rc, .int ((-1)), .ref r1, .ref r2, .ref r3, .ref r4, .null, .int 0]))] [] sz tp te)) (va_Qi (fun (r : Int32) (_ : Unit) => r = 1) (fun (_ : Unit) (_ : State) => True) (va_A [(h0, .inr (8, [.ref rp, .int 0, .ref rt, .ref rc, .int ((-1)), .ref r1, .ref r2, .ref r3, .ref r4, .null, .int 0]))] sz)) (vx_X (fun (_ : Unit) => False) (fun (E : String) (_ : Unit) (_ : State) => E = "") (va_A [(h0, .inr (8, [.ref rp, .int 0, .ref rt, .ref rc, .int ((-1)), .ref r1, .ref r2, .ref r3, .ref r4, .null, .int 0]))] sz)) 1 6 (va_A [(h0, .inr (8, [.ref rp, .int 0, .ref rt, .ref rc, .int ((-1)), .ref r1, .ref r2, .ref r3, .ref r4, .null, .int 0]))] sz) := by
  refine vx_ofWH (cc := cL_stop) (maxL := 5) (ret := (some .int)) (hh := [(0, 17, 20, 19)]) (by decide) rfl ?_
  intro p e s m args below meth c s₁ B hml hv
  obtain ⟨rfl, hsz, hP, hK, hD0, hG⟩ := hv
  have hx := B.exec
  have hb := B.bytes
  have hr := B.returns
  have hts := atoms_spec (ws := z_L_stop) B.pre
  have htab : c.exceptionTable.toList = tableOf [(0, 17, 20, 19)] := vx_table (x := yL_stop) B (hts _ List.mem_cons_self)
  have hown : s.vm.findClass RL = some m.cls := findClass_of_methodNamed B.named
  have hlocks := B.notSynchronized
  subst hsz
  have hD := hD0.self (sz := s.heap.size)
  generalize hAe : va_A [(h0, .inr (8, [.ref rp, .int 0, .ref rt, .ref rc, .int ((-1)), .ref r1, .ref r2, .ref r3, .ref r4, .null, .int 0]))] s.heap.size = A at hD hG ⊢
  have hA : ∀ q : Nat, s.heap.size ≤ q → A q := fun q h => by rw [← hAe]; exact Or.inr h
  have hS : va_S A s.heap s.heap [] := va_S.rf
  have hl := lv_entry ([.ref h0, .int p0, .int p1, .ref ho]) (n := 5) (Nat.le_of_ble_eq_true rfl)
  rw [lg_entry_eq]
  generalize (lg_sl ([.ref h0, .int p0, .int p1, .ref ho]) ++ List.replicate (5 - (lg_sl ([.ref h0, .int p0, .int p1, .ref ho])).length) Slot.unset).toArray = ls at hl ⊢
  have hl : lv_has ls 5 [(0, .ref h0), (1, .int p0), (2, .int p1), (3, .ref ho)] := hl
  refine lv_aload_n hx hb dL_stop_0 rfl (lv_at hl 3 rfl) ?_
  refine lv_iconst (v := 0) hx hb dL_stop_1 (by decide) ?_
  refine lv_aload_n hx hb dL_stop_2 rfl (lv_at hl 0 rfl) ?_
  refine lv_iload_n hx hb dL_stop_3 rfl (lv_at hl 1 rfl) ?_
  refine lv_iload_n hx hb dL_stop_4 rfl (lv_at hl 2 rfl) ?_
  have hPc := hP.sub (ws' := [(h0, .inr (8, [.ref rp, .int 0, .ref rt, .ref rc, .int ((-1)), .ref r1, .ref r2, .ref r3, .ref r4, .null, .int 0]))]) [0] rfl
  have hDc := hD.sub (ws' := [(h0, .inr (8, [.ref rp, .int 0, .ref rt, .ref rc, .int ((-1)), .ref r1, .ref r2, .ref r3, .ref r4, .null, .int 0]))]) [0] (by decide) rfl
  have hKc := hK.sub (tys' := []) [] rfl
  have hFc := va_free (wc := [(h0, .inr (8, [.ref rp, .int 0, .ref rt, .ref rc, .int ((-1)), .ref r1, .ref r2, .ref r3, .ref r4, .null, .int 0]))]) hD hS hA [0] rfl
  refine vx_calli (vx_runV (As := [.int p0, .int p1]) (rest := [.int 0, .ref ho]) ⟨hx, hb, hml, hown, hts⟩ (c_X_stop l dC dI tp te s.heap.size hlt h0 rp rt rc r1 r2 r3 r4 p0 p1) (cwV 2 hts g_L_stop_5 rfl rfl rfl (by decide +kernel) ⟨Nat.le_of_ble_eq_true rfl, Nat.le_of_ble_eq_true rfl⟩) ⟨Pw.blind, va_recv hKc hPc (ci := 8) (q0 := 0) rfl rfl, Pw.mk hPc hKc hDc hG hS hFc⟩ rfl rfl hl.1 rfl (lv_room (Nat.le_of_ble_eq_true rfl)) dL_stop_5 ⟨Nat.le_of_ble_eq_true rfl, Nat.le_of_ble_eq_true rfl⟩) hS (fun q _ h => hFc q h) hFc (fun q _ h => hFc q h) (fun E ce q9 u t9 H_1 locs ht hvm hpx hBX hz1 hk1 hS hce hcv hcl => ?_) (fun r u t9 H1 locs ht hvm hw hB hz1 hk1 hS => hw.elim)
  have hBX : E = "java/lang/IndexOutOfBoundsException" := hBX
  subst hBX
  refine vx_catch hown [] ⟨0, 17, 20, 19⟩ [] htab (fun z9 h9 => nomatch h9) (by decide) (by decide) (hts (.classLink RL 19 "java/lang/IndexOutOfBoundsException") (List.mem_of_getElem? (i := 13) rfl)) (va_Nw.use rfl hG.2.2.2.2.2.2.2.1) hce hcv hcl ?_
  obtain ⟨hP, hD⟩ := va_join (wr := []) (w1 := []) hP hD [0] [] rfl rfl (by decide) (by decide) hk1 hFc va_P.nil va_D.nil
  have hK := hK.sub (tys' := []) [] rfl
  have hP : va_P (dC, dI) vwCl [] H_1 := hP
  have hD : va_D A [] := hD
  have hK : va_K (dC, dI) vwCl [] s := hK
  refine W.widen (k := 1) (n := 6) (Nat.le_of_ble_eq_true rfl) (Nat.le_of_ble_eq_true rfl) ?_
  refine lv_astore (lv' := [(4, .ref q9), (0, .ref h0), (1, .int p0), (2, .int p1), (3, .ref ho)]) hx hb dL_stop_20 hl (by decide) rfl (fun ls hl => ?_)
  refine lv_iconst (v := 1) hx hb dL_stop_22 (by decide) ?_
  refine vx_ret ?_
  refine W.widen (k := 1) (n := 6) (Nat.le_of_ble_eq_true rfl) (Nat.le_of_ble_eq_true rfl) ?_
  exact W.iret (v := 1) hx hb hr (fun t ht hW => ⟨⟨1, (), rfl, rfl, trivial⟩, hS.F ht⟩) hS.2.2 dL_stop_23

set_option maxRecDepth 20000 in
def z_L_go_neg : List Cond := .codeWith yL_go cL_go 4 (some .int) [(0, 9, 12, 31), (0, 9, 15, 13)] :: (([.methodLink RL 79 yX7_go, .instanceMethod yX7_go, .selects RX7 yX7_go yX7_go, .initialized RX7, .code yX7_go cX7_go 2 (some .int), .classLink RX7 69 "java/lang/IllegalArgumentException", .initialized "java/lang/IllegalArgumentException", .classLink RL 31 "java/lang/IllegalArgumentException", .classLink RL 13 "java/lang/IllegalStateException"] : List Cond) ++ (vx_at0 RX7 71 "java/lang/IllegalArgumentException" ["java/lang/RuntimeException", "java/lang/Exception"]).filter goodWord)
set_option maxRecDepth 20000 in
theorem gg_L_go_neg_4 : GoodIn z_L_go_neg z_X_go_neg := goodIn_ca (goodIn_p _ [5] rfl (by decide +kernel)) (goodIn_sub (fun _ h => List.mem_cons_of_mem _ (List.mem_append_right _ (h))) (by decide +kernel))
set_option maxRecDepth 20000 in
theorem g_L_go_neg_4 : GoodIn z_L_go_neg (wsV RL 79 RX7 yX7_go z_X_go_neg) := goodIn_app (goodIn_of _ (by decide +kernel)) gg_L_go_neg_4
set_option maxHeartbeats 4000000 in
set_option maxRecDepth 100000 in
theorem c_L_go_neg (l : Launch) (dC : Nat → ClassId) (dI : Nat → Nat → Nat) (tp te : Nat) (sz : Nat) (hlt : l.stackTraces = false) (h0 : Nat) (rp : Nat) (rt : Nat) (rc : Nat) (r1 : Nat) (r2 : Nat) (r3 : Nat) (r4 : Nat) (p0 : Int32) (ho : Nat) (hv0 : p0 < 1) : vx_Met l yL_go z_L_go_neg ({ frames := 7, cells := 1, slots := 6, locals := 102 }) (va_Pc [.ref h0, .int p0, .ref ho] (Pw dC dI [(h0, .inr (8, [.ref rp, .int 0, .ref rt, .ref rc, .int ((-1)), .ref r1, .ref r2, .ref r3, .ref r4, .null, .int 0]))] [] sz tp te)) (va_Qi (fun (r : Int32) (_ : Unit) => r = 1) (fun (_ : Unit) (_ : State) => True) (va_A [(h0, .inr (8, [.ref rp, .int 0, .ref rt, .ref rc, .int ((-1)), .ref r1, .ref r2, .ref r3, .ref r4, .null, .int 0]))] sz)) (vx_X (fun (_ : Unit) => False) (fun (E : String) (_ : Unit) (_ : State) => E = "") (va_A [(h0, .inr (8, [.ref rp, .int 0, .ref rt, .ref rc, .int ((-1)), .ref r1, .ref r2, .ref r3, .ref r4, .null, .int 0]))] sz)) 1 6 (va_A [(h0, .inr (8, [.ref rp, .int 0, .ref rt, .ref rc, .int ((-1)), .ref r1, .ref r2, .ref r3, .ref r4, .null, .int 0]))] sz) := by
  refine vx_ofWH (cc := cL_go) (maxL := 4) (ret := (some .int)) (hh := [(0, 9, 12, 31), (0, 9, 15, 13)]) (by decide) rfl ?_
  intro p e s m args below meth c s₁ B hml hv
  obtain ⟨rfl, hsz, hP, hK, hD0, hG⟩ := hv
  have hx := B.exec
  have hb := B.bytes
  have hr := B.returns
  have hts := atoms_spec (ws := z_L_go_neg) B.pre
  have htab : c.exceptionTable.toList = tableOf [(0, 9, 12, 31), (0, 9, 15, 13)] := vx_table (x := yL_go) B (hts _ List.mem_cons_self)
  have hown : s.vm.findClass RL = some m.cls := findClass_of_methodNamed B.named
  have hlocks := B.notSynchronized
  subst hsz
  have hD := hD0.self (sz := s.heap.size)
  generalize hAe : va_A [(h0, .inr (8, [.ref rp, .int 0, .ref rt, .ref rc, .int ((-1)), .ref r1, .ref r2, .ref r3, .ref r4, .null, .int 0]))] s.heap.size = A at hD hG ⊢
  have hA : ∀ q : Nat, s.heap.size ≤ q → A q := fun q h => by rw [← hAe]; exact Or.inr h
  have hS : va_S A s.heap s.heap [] := va_S.rf
  have hl := lv_entry ([.ref h0, .int p0, .ref ho]) (n := 4) (Nat.le_of_ble_eq_true rfl)
  rw [lg_entry_eq]
  generalize (lg_sl ([.ref h0, .int p0, .ref ho]) ++ List.replicate (4 - (lg_sl ([.ref h0, .int p0, .ref ho])).length) Slot.unset).toArray = ls at hl ⊢
  have hl : lv_has ls 4 [(0, .ref h0), (1, .int p0), (2, .ref ho)] := hl
  refine lv_aload_n hx hb dL_go_0 rfl (lv_at hl 2 rfl) ?_
  refine lv_iconst (v := 0) hx hb dL_go_1 (by decide) ?_
  refine lv_aload_n hx hb dL_go_2 rfl (lv_at hl 0 rfl) ?_
  refine lv_iload_n hx hb dL_go_3 rfl (lv_at hl 1 rfl) ?_
  have hPc := hP.sub (ws' := [(h0, .inr (8, [.ref rp, .int 0, .ref rt, .ref rc, .int ((-1)), .ref r1, .ref r2, .ref r3, .ref r4, .null, .int 0]))]) [0] rfl
  have hDc := hD.sub (ws' := [(h0, .inr (8, [.ref rp, .int 0, .ref rt, .ref rc, .int ((-1)), .ref r1, .ref r2, .ref r3, .ref r4, .null, .int 0]))]) [0] (by decide) rfl
  have hKc := hK.sub (tys' := []) [] rfl
  have hFc := va_free (wc := [(h0, .inr (8, [.ref rp, .int 0, .ref rt, .ref rc, .int ((-1)), .ref r1, .ref r2, .ref r3, .ref r4, .null, .int 0]))]) hD hS hA [0] rfl
  refine vx_calli (vx_runV (As := [.int p0]) (rest := [.int 0, .ref ho]) ⟨hx, hb, hml, hown, hts⟩ (c_X_go_neg l dC dI tp te s.heap.size hlt h0 rp rt rc r1 r2 r3 r4 p0 hv0) (cwV 1 hts g_L_go_neg_4 rfl rfl rfl (by decide +kernel) ⟨Nat.le_of_ble_eq_true rfl, Nat.le_of_ble_eq_true rfl⟩) ⟨Pw.blind, va_recv hKc hPc (ci := 8) (q0 := 0) rfl rfl, Pw.mk hPc hKc hDc hG hS hFc⟩ rfl rfl hl.1 rfl (lv_room (Nat.le_of_ble_eq_true rfl)) dL_go_4 ⟨Nat.le_of_ble_eq_true rfl, Nat.le_of_ble_eq_true rfl⟩) hS (fun q _ h => hFc q h) hFc (fun q _ h => hFc q h) (fun E ce q9 u t9 H_1 locs ht hvm hpx hBX hz1 hk1 hS hce hcv hcl => ?_) (fun r u t9 H1 locs ht hvm hw hB hz1 hk1 hS => hw.elim)
  have hBX : E = "java/lang/IllegalArgumentException" := hBX
  subst hBX
  refine vx_catch hown [] ⟨0, 9, 12, 31⟩ [⟨0, 9, 15, 13⟩] htab (fun z9 h9 => nomatch h9) (by decide) (by decide) (hts (.classLink RL 31 "java/lang/IllegalArgumentException") (List.mem_of_getElem? (i := 8) rfl)) (va_Nw.use rfl hG.2.2.2.2.2.2.2.2.1) hce hcv hcl ?_
  obtain ⟨hP, hD⟩ := va_join (wr := []) (w1 := []) hP hD [0] [] rfl rfl (by decide) (by decide) hk1 hFc va_P.nil va_D.nil
  have hK := hK.sub (tys' := []) [] rfl
  have hP : va_P (dC, dI) vwCl [] H_1 := hP
  have hD : va_D A [] := hD
  have hK : va_K (dC, dI) vwCl [] s := hK
  refine W.widen (k := 1) (n := 6) (Nat.le_of_ble_eq_true rfl) (Nat.le_of_ble_eq_true rfl) ?_
  refine lv_astore_n (lv' := [(3, .ref q9), (0, .ref h0), (1, .int p0), (2, .ref ho)]) hx hb dL_go_12 rfl hl (by decide) rfl (fun ls hl => ?_)
  refine lv_iconst (v := 1) hx hb dL_go_13 (by decide) ?_
  refine vx_ret ?_
  refine W.widen (k := 1) (n := 6) (Nat.le_of_ble_eq_true rfl) (Nat.le_of_ble_eq_true rfl) ?_
  exact W.iret (v := 1) hx hb hr (fun t ht hW => ⟨⟨1, (), rfl, rfl, trivial⟩, hS.F ht⟩) hS.2.2 dL_go_14

set_option maxRecDepth 20000 in
def z_L_go_big : List Cond := .codeWith yL_go cL_go 4 (some .int) [(0, 9, 12, 31), (0, 9, 15, 13)] :: (([.methodLink RL 79 yX7_go, .instanceMethod yX7_go, .selects RX7 yX7_go yX7_go, .initialized RX7, .code yX7_go cX7_go 2 (some .int), .classLink RX7 69 "java/lang/IllegalArgumentException", .initialized "java/lang/IllegalArgumentException", .classLink RL 31 "java/lang/IllegalArgumentException", .classLink RL 13 "java/lang/IllegalStateException"] : List Cond) ++ (vx_at0 RX7 71 "java/lang/IllegalArgumentException" ["java/lang/RuntimeException", "java/lang/Exception"]).filter goodWord)
set_option maxRecDepth 20000 in
theorem gg_L_go_big_4 : GoodIn z_L_go_big z_X_go_big := goodIn_ca (goodIn_p _ [5] rfl (by decide +kernel)) (goodIn_sub (fun _ h => List.mem_cons_of_mem _ (List.mem_append_right _ (h))) (by decide +kernel))
set_option maxRecDepth 20000 in
theorem g_L_go_big_4 : GoodIn z_L_go_big (wsV RL 79 RX7 yX7_go z_X_go_big) := goodIn_app (goodIn_of _ (by decide +kernel)) gg_L_go_big_4
set_option maxHeartbeats 4000000 in
set_option maxRecDepth 100000 in
theorem c_L_go_big (l : Launch) (dC : Nat → ClassId) (dI : Nat → Nat → Nat) (tp te : Nat) (sz : Nat) (hlt : l.stackTraces = false) (h0 : Nat) (rp : Nat) (rt : Nat) (rc : Nat) (r1 : Nat) (r2 : Nat) (r3 : Nat) (r4 : Nat) (p0 : Int32) (ho : Nat) (hv0 : ¬ p0 < 1) (hv1 : ¬ p0 ≤ 2000) : vx_Met l yL_go z_L_go_big ({ frames := 7, cells := 1, slots := 6, locals := 102 }) (va_Pc [.ref h0, .int p0, .ref ho] (Pw dC dI [(h0, .inr (8, [.ref rp, .int 0, .ref rt, .ref rc, .int ((-1)), .ref r1, .ref r2, .ref r3, .ref r4, .null, .int 0]))] [] sz tp te)) (va_Qi (fun (r : Int32) (_ : Unit) => r = 1) (fun (_ : Unit) (_ : State) => True) (va_A [(h0, .inr (8, [.ref rp, .int 0, .ref rt, .ref rc, .int ((-1)), .ref r1, .ref r2, .ref r3, .ref r4, .null, .int 0]))] sz)) (vx_X (fun (_ : Unit) => False) (fun (E : String) (_ : Unit) (_ : State) => E = "") (va_A [(h0, .inr (8, [.ref rp, .int 0, .ref rt, .ref rc, .int ((-1)), .ref r1, .ref r2, .ref r3, .ref r4, .null, .int 0]))] sz)) 1 6 (va_A [(h0, .inr (8, [.ref rp, .int 0, .ref rt, .ref rc, .int ((-1)), .ref r1, .ref r2, .ref r3, .ref r4, .null, .int 0]))] sz) := by
  refine vx_ofWH (cc := cL_go) (maxL := 4) (ret := (some .int)) (hh := [(0, 9, 12, 31), (0, 9, 15, 13)]) (by decide) rfl ?_
  intro p e s m args below meth c s₁ B hml hv
  obtain ⟨rfl, hsz, hP, hK, hD0, hG⟩ := hv
  have hx := B.exec
  have hb := B.bytes
  have hr := B.returns
  have hts := atoms_spec (ws := z_L_go_big) B.pre
  have htab : c.exceptionTable.toList = tableOf [(0, 9, 12, 31), (0, 9, 15, 13)] := vx_table (x := yL_go) B (hts _ List.mem_cons_self)
  have hown : s.vm.findClass RL = some m.cls := findClass_of_methodNamed B.named
  have hlocks := B.notSynchronized
  subst hsz
  have hD := hD0.self (sz := s.heap.size)
  generalize hAe : va_A [(h0, .inr (8, [.ref rp, .int 0, .ref rt, .ref rc, .int ((-1)), .ref r1, .ref r2, .ref r3, .ref r4, .null, .int 0]))] s.heap.size = A at hD hG ⊢
  have hA : ∀ q : Nat, s.heap.size ≤ q → A q := fun q h => by rw [← hAe]; exact Or.inr h
  have hS : va_S A s.heap s.heap [] := va_S.rf
  have hl := lv_entry ([.ref h0, .int p0, .ref ho]) (n := 4) (Nat.le_of_ble_eq_true rfl)
  rw [lg_entry_eq]
  generalize (lg_sl ([.ref h0, .int p0, .ref ho]) ++ List.replicate (4 - (lg_sl ([.ref h0, .int p0, .ref ho])).length) Slot.unset).toArray = ls at hl ⊢
  have hl : lv_has ls 4 [(0, .ref h0), (1, .int p0), (2, .ref ho)] := hl
  refine lv_aload_n hx hb dL_go_0 rfl (lv_at hl 2 rfl) ?_
  refine lv_iconst (v := 0) hx hb dL_go_1 (by decide) ?_
  refine lv_aload_n hx hb dL_go_2 rfl (lv_at hl 0 rfl) ?_
  refine lv_iload_n hx hb dL_go_3 rfl (lv_at hl 1 rfl) ?_
  have hPc := hP.sub (ws' := [(h0, .inr (8, [.ref rp, .int 0, .ref rt, .ref rc, .int ((-1)), .ref r1, .ref r2, .ref r3, .ref r4, .null, .int 0]))]) [0] rfl
  have hDc := hD.sub (ws' := [(h0, .inr (8, [.ref rp, .int 0, .ref rt, .ref rc, .int ((-1)), .ref r1, .ref r2, .ref r3, .ref r4, .null, .int 0]))]) [0] (by decide) rfl
  have hKc := hK.sub (tys' := []) [] rfl
  have hFc := va_free (wc := [(h0, .inr (8, [.ref rp, .int 0, .ref rt, .ref rc, .int ((-1)), .ref r1, .ref r2, .ref r3, .ref r4, .null, .int 0]))]) hD hS hA [0] rfl
  refine vx_calli (vx_runV (As := [.int p0]) (rest := [.int 0, .ref ho]) ⟨hx, hb, hml, hown, hts⟩ (c_X_go_big l dC dI tp te s.heap.size hlt h0 rp rt rc r1 r2 r3 r4 p0 hv0 hv1) (cwV 1 hts g_L_go_big_4 rfl rfl rfl (by decide +kernel) ⟨Nat.le_of_ble_eq_true rfl, Nat.le_of_ble_eq_true rfl⟩) ⟨Pw.blind, va_recv hKc hPc (ci := 8) (q0 := 0) rfl rfl, Pw.mk hPc hKc hDc hG hS hFc⟩ rfl rfl hl.1 rfl (lv_room (Nat.le_of_ble_eq_true rfl)) dL_go_4 ⟨Nat.le_of_ble_eq_true rfl, Nat.le_of_ble_eq_true rfl⟩) hS (fun q _ h => hFc q h) hFc (fun q _ h => hFc q h) (fun E ce q9 u t9 H_1 locs ht hvm hpx hBX hz1 hk1 hS hce hcv hcl => ?_) (fun r u t9 H1 locs ht hvm hw hB hz1 hk1 hS => hw.elim)
  have hBX : E = "java/lang/IllegalArgumentException" := hBX
  subst hBX
  refine vx_catch hown [] ⟨0, 9, 12, 31⟩ [⟨0, 9, 15, 13⟩] htab (fun z9 h9 => nomatch h9) (by decide) (by decide) (hts (.classLink RL 31 "java/lang/IllegalArgumentException") (List.mem_of_getElem? (i := 8) rfl)) (va_Nw.use rfl hG.2.2.2.2.2.2.2.2.1) hce hcv hcl ?_
  obtain ⟨hP, hD⟩ := va_join (wr := []) (w1 := []) hP hD [0] [] rfl rfl (by decide) (by decide) hk1 hFc va_P.nil va_D.nil
  have hK := hK.sub (tys' := []) [] rfl
  have hP : va_P (dC, dI) vwCl [] H_1 := hP
  have hD : va_D A [] := hD
  have hK : va_K (dC, dI) vwCl [] s := hK
  refine W.widen (k := 1) (n := 6) (Nat.le_of_ble_eq_true rfl) (Nat.le_of_ble_eq_true rfl) ?_
  refine lv_astore_n (lv' := [(3, .ref q9), (0, .ref h0), (1, .int p0), (2, .ref ho)]) hx hb dL_go_12 rfl hl (by decide) rfl (fun ls hl => ?_)
  refine lv_iconst (v := 1) hx hb dL_go_13 (by decide) ?_
  refine vx_ret ?_
  refine W.widen (k := 1) (n := 6) (Nat.le_of_ble_eq_true rfl) (Nat.le_of_ble_eq_true rfl) ?_
  exact W.iret (v := 1) hx hb hr (fun t ht hW => ⟨⟨1, (), rfl, rfl, trivial⟩, hS.F ht⟩) hS.2.2 dL_go_14

set_option maxRecDepth 20000 in
def z_L_go_ok : List Cond := .codeWith yL_go cL_go 4 (some .int) [(0, 9, 12, 31), (0, 9, 15, 13)] :: (([.methodLink RL 79 yX7_go, .instanceMethod yX7_go, .selects RX7 yX7_go yX7_go, .initialized RX7, .code yX7_go cX7_go 2 (some .int), .methodLink RX7 110 yX7_checkProgram, .instanceMethod yX7_checkProgram, .selects RX7 yX7_checkProgram yX7_checkProgram, .code yX7_checkProgram cX7_checkProgram 1 none, .fieldLink RX7 24 "Selfkindle" "wrong" "I", .classLink RX7 75 "java/lang/IllegalStateException", .initialized "java/lang/IllegalStateException", .classLink RL 31 "java/lang/IllegalArgumentException", .classLink RL 13 "java/lang/IllegalStateException"] : List Cond) ++ wsX70 ++ (vx_at0 RX7 77 "java/lang/IllegalStateException" ["java/lang/RuntimeException", "java/lang/Exception"]).filter goodWord)
theorem in_z_L_go_ok_X7 : ∀ w ∈ wsX70, w ∈ z_L_go_ok := fun w h => List.mem_cons_of_mem _ (List.mem_append_left _ (List.mem_append_right _ (h)))
set_option maxRecDepth 20000 in
theorem gg_L_go_ok_4 : GoodIn z_L_go_ok z_X_go_ok := goodIn_ca (goodIn_p _ [5, 9] rfl (by decide +kernel)) (goodIn_sub (fun _ h => List.mem_cons_of_mem _ (List.mem_append_right _ (h))) (by decide +kernel))
set_option maxRecDepth 20000 in
theorem g_L_go_ok_4 : GoodIn z_L_go_ok (wsV RL 79 RX7 yX7_go z_X_go_ok) := goodIn_app (goodIn_of _ (by decide +kernel)) gg_L_go_ok_4
set_option maxHeartbeats 4000000 in
set_option maxRecDepth 100000 in
theorem c_L_go_ok (l : Launch) (dC : Nat → ClassId) (dI : Nat → Nat → Nat) (tp te : Nat) (sz : Nat) (hlt : l.stackTraces = false) (h0 : Nat) (rp : Nat) (rt : Nat) (rc : Nat) (r1 : Nat) (r2 : Nat) (r3 : Nat) (r4 : Nat) (p0 : Int32) (ho : Nat) (hv0 : ¬ p0 < 1) (hv1 : p0 ≤ 2000) : vx_Met l yL_go z_L_go_ok ({ frames := 8, cells := 1, slots := 6, locals := 122 }) (va_Pc [.ref h0, .int p0, .ref ho] (Pw dC dI [(h0, .inr (8, [.ref rp, .int 0, .ref rt, .ref rc, .int ((-1)), .ref r1, .ref r2, .ref r3, .ref r4, .null, .int 0]))] [] sz tp te)) (va_Qi (fun (r : Int32) (_ : Unit) => r = 2) (fun (_ : Unit) (_ : State) => True) (va_A [(h0, .inr (8, [.ref rp, .int 0, .ref rt, .ref rc, .int ((-1)), .ref r1, .ref r2, .ref r3, .ref r4, .null, .int 0]))] sz)) (vx_X (fun (_ : Unit) => False) (fun (E : String) (_ : Unit) (_ : State) => E = "") (va_A [(h0, .inr (8, [.ref rp, .int 0, .ref rt, .ref rc, .int ((-1)), .ref r1, .ref r2, .ref r3, .ref r4, .null, .int 0]))] sz)) 1 6 (va_A [(h0, .inr (8, [.ref rp, .int 0, .ref rt, .ref rc, .int ((-1)), .ref r1, .ref r2, .ref r3, .ref r4, .null, .int 0]))] sz) := by
  refine vx_ofWH (cc := cL_go) (maxL := 4) (ret := (some .int)) (hh := [(0, 9, 12, 31), (0, 9, 15, 13)]) (by decide) rfl ?_
  intro p e s m args below meth c s₁ B hml hv
  obtain ⟨rfl, hsz, hP, hK, hD0, hG⟩ := hv
  have hx := B.exec
  have hb := B.bytes
  have hr := B.returns
  have hts := atoms_spec (ws := z_L_go_ok) B.pre
  have htab : c.exceptionTable.toList = tableOf [(0, 9, 12, 31), (0, 9, 15, 13)] := vx_table (x := yL_go) B (hts _ List.mem_cons_self)
  have hown : s.vm.findClass RL = some m.cls := findClass_of_methodNamed B.named
  have hlocks := B.notSynchronized
  subst hsz
  have hD := hD0.self (sz := s.heap.size)
  generalize hAe : va_A [(h0, .inr (8, [.ref rp, .int 0, .ref rt, .ref rc, .int ((-1)), .ref r1, .ref r2, .ref r3, .ref r4, .null, .int 0]))] s.heap.size = A at hD hG ⊢
  have hA : ∀ q : Nat, s.heap.size ≤ q → A q := fun q h => by rw [← hAe]; exact Or.inr h
  have hS : va_S A s.heap s.heap [] := va_S.rf
  have hl := lv_entry ([.ref h0, .int p0, .ref ho]) (n := 4) (Nat.le_of_ble_eq_true rfl)
  rw [lg_entry_eq]
  generalize (lg_sl ([.ref h0, .int p0, .ref ho]) ++ List.replicate (4 - (lg_sl ([.ref h0, .int p0, .ref ho])).length) Slot.unset).toArray = ls at hl ⊢
  have hl : lv_has ls 4 [(0, .ref h0), (1, .int p0), (2, .ref ho)] := hl
  refine lv_aload_n hx hb dL_go_0 rfl (lv_at hl 2 rfl) ?_
  refine lv_iconst (v := 0) hx hb dL_go_1 (by decide) ?_
  refine lv_aload_n hx hb dL_go_2 rfl (lv_at hl 0 rfl) ?_
  refine lv_iload_n hx hb dL_go_3 rfl (lv_at hl 1 rfl) ?_
  have hPc := hP.sub (ws' := [(h0, .inr (8, [.ref rp, .int 0, .ref rt, .ref rc, .int ((-1)), .ref r1, .ref r2, .ref r3, .ref r4, .null, .int 0]))]) [0] rfl
  have hDc := hD.sub (ws' := [(h0, .inr (8, [.ref rp, .int 0, .ref rt, .ref rc, .int ((-1)), .ref r1, .ref r2, .ref r3, .ref r4, .null, .int 0]))]) [0] (by decide) rfl
  have hKc := hK.sub (tys' := []) [] rfl
  have hFc := va_free (wc := [(h0, .inr (8, [.ref rp, .int 0, .ref rt, .ref rc, .int ((-1)), .ref r1, .ref r2, .ref r3, .ref r4, .null, .int 0]))]) hD hS hA [0] rfl
  refine vx_calli (vx_runV (As := [.int p0]) (rest := [.int 0, .ref ho]) ⟨hx, hb, hml, hown, hts⟩ (c_X_go_ok l dC dI tp te s.heap.size hlt h0 rp rt rc r1 r2 r3 r4 p0 hv0 hv1) (cwV 1 hts g_L_go_ok_4 rfl rfl rfl (by decide +kernel) ⟨Nat.le_of_ble_eq_true rfl, Nat.le_of_ble_eq_true rfl⟩) ⟨Pw.blind, va_recv hKc hPc (ci := 8) (q0 := 0) rfl rfl, Pw.mk hPc hKc hDc hG hS hFc⟩ rfl rfl hl.1 rfl (lv_room (Nat.le_of_ble_eq_true rfl)) dL_go_4 ⟨Nat.le_of_ble_eq_true rfl, Nat.le_of_ble_eq_true rfl⟩) hS (fun q _ h => hFc q h) hFc (fun q _ h => hFc q h) (fun E ce q9 u t9 H_1 locs ht hvm hpx hBX hz1 hk1 hS hce hcv hcl => ?_) (fun r u t9 H1 locs ht hvm hw hB hz1 hk1 hS => hw.elim)
  have hBX : E = "java/lang/IllegalStateException" := hBX
  subst hBX
  refine vx_catch hown [⟨0, 9, 12, 31⟩] ⟨0, 9, 15, 13⟩ [] htab (fun z9 h9 => by rw [List.mem_singleton.mp h9]; exact Or.inr ⟨by decide, "java/lang/IllegalArgumentException", (hts (.classLink RL 31 "java/lang/IllegalArgumentException") (List.mem_of_getElem? (i := 13) rfl)), hG.2.2.2.2.2.2.2.2.2.2.2.1⟩) (by decide) (by decide) (hts (.classLink RL 13 "java/lang/IllegalStateException") (List.mem_of_getElem? (i := 14) rfl)) (va_Nw.use rfl hG.2.2.2.2.2.2.1) hce hcv hcl ?_
  obtain ⟨hP, hD⟩ := va_join (wr := []) (w1 := []) hP hD [0] [] rfl rfl (by decide) (by decide) hk1 hFc va_P.nil va_D.nil
  have hK := hK.sub (tys' := []) [] rfl
  have hP : va_P (dC, dI) vwCl [] H_1 := hP
  have hD : va_D A [] := hD
  have hK : va_K (dC, dI) vwCl [] s := hK
  refine W.widen (k := 1) (n := 6) (Nat.le_of_ble_eq_true rfl) (Nat.le_of_ble_eq_true rfl) ?_
  refine lv_astore_n (lv' := [(3, .ref q9), (0, .ref h0), (1, .int p0), (2, .ref ho)]) hx hb dL_go_15 rfl hl (by decide) rfl (fun ls hl => ?_)
  refine lv_iconst (v := 2) hx hb dL_go_16 (by decide) ?_
  refine vx_ret ?_
  refine W.widen (k := 1) (n := 6) (Nat.le_of_ble_eq_true rfl) (Nat.le_of_ble_eq_true rfl) ?_
  exact W.iret (v := 2) hx hb hr (fun t ht hW => ⟨⟨2, (), rfl, rfl, trivial⟩, hS.F ht⟩) hS.2.2 dL_go_17

set_option maxRecDepth 20000 in
def z_L_machine_neg : List Cond := .codeWith yL_machine cL_machine 4 (some .int) [(0, 9, 12, 31), (0, 9, 15, 13)] :: (([.methodLink RL 92 yX7_machine, .instanceMethod yX7_machine, .selects RX7 yX7_machine yX7_machine, .initialized RX7, .code yX7_machine cX7_machine 2 (some .int), .classLink RX7 69 "java/lang/IllegalArgumentException", .initialized "java/lang/IllegalArgumentException", .classLink RL 31 "java/lang/IllegalArgumentException", .classLink RL 13 "java/lang/IllegalStateException"] : List Cond) ++ (vx_at0 RX7 71 "java/lang/IllegalArgumentException" ["java/lang/RuntimeException", "java/lang/Exception"]).filter goodWord)
set_option maxRecDepth 20000 in
theorem gg_L_machine_neg_4 : GoodIn z_L_machine_neg z_X_machine_neg := goodIn_ca (goodIn_p _ [5] rfl (by decide +kernel)) (goodIn_sub (fun _ h => List.mem_cons_of_mem _ (List.mem_append_right _ (h))) (by decide +kernel))
set_option maxRecDepth 20000 in
theorem g_L_machine_neg_4 : GoodIn z_L_machine_neg (wsV RL 92 RX7 yX7_machine z_X_machine_neg) := goodIn_app (goodIn_of _ (by decide +kernel)) gg_L_machine_neg_4
set_option maxHeartbeats 4000000 in
set_option maxRecDepth 100000 in
theorem c_L_machine_neg (l : Launch) (dC : Nat → ClassId) (dI : Nat → Nat → Nat) (tp te : Nat) (sz : Nat) (hlt : l.stackTraces = false) (h0 : Nat) (rp : Nat) (rt : Nat) (rc : Nat) (r1 : Nat) (r2 : Nat) (r3 : Nat) (r4 : Nat) (p0 : Int32) (ho : Nat) (hv0 : p0 < 0) : vx_Met l yL_machine z_L_machine_neg ({ frames := 7, cells := 1, slots := 6, locals := 102 }) (va_Pc [.ref h0, .int p0, .ref ho] (Pw dC dI [(h0, .inr (8, [.ref rp, .int 0, .ref rt, .ref rc, .int ((-1)), .ref r1, .ref r2, .ref r3, .ref r4, .null, .int 0]))] [] sz tp te)) (va_Qi (fun (r : Int32) (_ : Unit) => r = 1) (fun (_ : Unit) (_ : State) => True) (va_A [(h0, .inr (8, [.ref rp, .int 0, .ref rt, .ref rc, .int ((-1)), .ref r1, .ref r2, .ref r3, .ref r4, .null, .int 0]))] sz)) (vx_X (fun (_ : Unit) => False) (fun (E : String) (_ : Unit) (_ : State) => E = "") (va_A [(h0, .inr (8, [.ref rp, .int 0, .ref rt, .ref rc, .int ((-1)), .ref r1, .ref r2, .ref r3, .ref r4, .null, .int 0]))] sz)) 1 6 (va_A [(h0, .inr (8, [.ref rp, .int 0, .ref rt, .ref rc, .int ((-1)), .ref r1, .ref r2, .ref r3, .ref r4, .null, .int 0]))] sz) := by
  refine vx_ofWH (cc := cL_machine) (maxL := 4) (ret := (some .int)) (hh := [(0, 9, 12, 31), (0, 9, 15, 13)]) (by decide) rfl ?_
  intro p e s m args below meth c s₁ B hml hv
  obtain ⟨rfl, hsz, hP, hK, hD0, hG⟩ := hv
  have hx := B.exec
  have hb := B.bytes
  have hr := B.returns
  have hts := atoms_spec (ws := z_L_machine_neg) B.pre
  have htab : c.exceptionTable.toList = tableOf [(0, 9, 12, 31), (0, 9, 15, 13)] := vx_table (x := yL_machine) B (hts _ List.mem_cons_self)
  have hown : s.vm.findClass RL = some m.cls := findClass_of_methodNamed B.named
  have hlocks := B.notSynchronized
  subst hsz
  have hD := hD0.self (sz := s.heap.size)
  generalize hAe : va_A [(h0, .inr (8, [.ref rp, .int 0, .ref rt, .ref rc, .int ((-1)), .ref r1, .ref r2, .ref r3, .ref r4, .null, .int 0]))] s.heap.size = A at hD hG ⊢
  have hA : ∀ q : Nat, s.heap.size ≤ q → A q := fun q h => by rw [← hAe]; exact Or.inr h
  have hS : va_S A s.heap s.heap [] := va_S.rf
  have hl := lv_entry ([.ref h0, .int p0, .ref ho]) (n := 4) (Nat.le_of_ble_eq_true rfl)
  rw [lg_entry_eq]
  generalize (lg_sl ([.ref h0, .int p0, .ref ho]) ++ List.replicate (4 - (lg_sl ([.ref h0, .int p0, .ref ho])).length) Slot.unset).toArray = ls at hl ⊢
  have hl : lv_has ls 4 [(0, .ref h0), (1, .int p0), (2, .ref ho)] := hl
  refine lv_aload_n hx hb dL_machine_0 rfl (lv_at hl 2 rfl) ?_
  refine lv_iconst (v := 0) hx hb dL_machine_1 (by decide) ?_
  refine lv_aload_n hx hb dL_machine_2 rfl (lv_at hl 0 rfl) ?_
  refine lv_iload_n hx hb dL_machine_3 rfl (lv_at hl 1 rfl) ?_
  have hPc := hP.sub (ws' := [(h0, .inr (8, [.ref rp, .int 0, .ref rt, .ref rc, .int ((-1)), .ref r1, .ref r2, .ref r3, .ref r4, .null, .int 0]))]) [0] rfl
  have hDc := hD.sub (ws' := [(h0, .inr (8, [.ref rp, .int 0, .ref rt, .ref rc, .int ((-1)), .ref r1, .ref r2, .ref r3, .ref r4, .null, .int 0]))]) [0] (by decide) rfl
  have hKc := hK.sub (tys' := []) [] rfl
  have hFc := va_free (wc := [(h0, .inr (8, [.ref rp, .int 0, .ref rt, .ref rc, .int ((-1)), .ref r1, .ref r2, .ref r3, .ref r4, .null, .int 0]))]) hD hS hA [0] rfl
  refine vx_calli (vx_runV (As := [.int p0]) (rest := [.int 0, .ref ho]) ⟨hx, hb, hml, hown, hts⟩ (c_X_machine_neg l dC dI tp te s.heap.size hlt h0 rp rt rc r1 r2 r3 r4 p0 hv0) (cwV 1 hts g_L_machine_neg_4 rfl rfl rfl (by decide +kernel) ⟨Nat.le_of_ble_eq_true rfl, Nat.le_of_ble_eq_true rfl⟩) ⟨Pw.blind, va_recv hKc hPc (ci := 8) (q0 := 0) rfl rfl, Pw.mk hPc hKc hDc hG hS hFc⟩ rfl rfl hl.1 rfl (lv_room (Nat.le_of_ble_eq_true rfl)) dL_machine_4 ⟨Nat.le_of_ble_eq_true rfl, Nat.le_of_ble_eq_true rfl⟩) hS (fun q _ h => hFc q h) hFc (fun q _ h => hFc q h) (fun E ce q9 u t9 H_1 locs ht hvm hpx hBX hz1 hk1 hS hce hcv hcl => ?_) (fun r u t9 H1 locs ht hvm hw hB hz1 hk1 hS => hw.elim)
  have hBX : E = "java/lang/IllegalArgumentException" := hBX
  subst hBX
  refine vx_catch hown [] ⟨0, 9, 12, 31⟩ [⟨0, 9, 15, 13⟩] htab (fun z9 h9 => nomatch h9) (by decide) (by decide) (hts (.classLink RL 31 "java/lang/IllegalArgumentException") (List.mem_of_getElem? (i := 8) rfl)) (va_Nw.use rfl hG.2.2.2.2.2.2.2.2.1) hce hcv hcl ?_
  obtain ⟨hP, hD⟩ := va_join (wr := []) (w1 := []) hP hD [0] [] rfl rfl (by decide) (by decide) hk1 hFc va_P.nil va_D.nil
  have hK := hK.sub (tys' := []) [] rfl
  have hP : va_P (dC, dI) vwCl [] H_1 := hP
  have hD : va_D A [] := hD
  have hK : va_K (dC, dI) vwCl [] s := hK
  refine W.widen (k := 1) (n := 6) (Nat.le_of_ble_eq_true rfl) (Nat.le_of_ble_eq_true rfl) ?_
  refine lv_astore_n (lv' := [(3, .ref q9), (0, .ref h0), (1, .int p0), (2, .ref ho)]) hx hb dL_machine_12 rfl hl (by decide) rfl (fun ls hl => ?_)
  refine lv_iconst (v := 1) hx hb dL_machine_13 (by decide) ?_
  refine vx_ret ?_
  refine W.widen (k := 1) (n := 6) (Nat.le_of_ble_eq_true rfl) (Nat.le_of_ble_eq_true rfl) ?_
  exact W.iret (v := 1) hx hb hr (fun t ht hW => ⟨⟨1, (), rfl, rfl, trivial⟩, hS.F ht⟩) hS.2.2 dL_machine_14

set_option maxRecDepth 20000 in
def z_L_machine_big : List Cond := .codeWith yL_machine cL_machine 4 (some .int) [(0, 9, 12, 31), (0, 9, 15, 13)] :: (([.methodLink RL 92 yX7_machine, .instanceMethod yX7_machine, .selects RX7 yX7_machine yX7_machine, .initialized RX7, .code yX7_machine cX7_machine 2 (some .int), .classLink RX7 69 "java/lang/IllegalArgumentException", .initialized "java/lang/IllegalArgumentException", .classLink RL 31 "java/lang/IllegalArgumentException", .classLink RL 13 "java/lang/IllegalStateException"] : List Cond) ++ (vx_at0 RX7 71 "java/lang/IllegalArgumentException" ["java/lang/RuntimeException", "java/lang/Exception"]).filter goodWord)
set_option maxRecDepth 20000 in
theorem gg_L_machine_big_4 : GoodIn z_L_machine_big z_X_machine_big := goodIn_ca (goodIn_p _ [5] rfl (by decide +kernel)) (goodIn_sub (fun _ h => List.mem_cons_of_mem _ (List.mem_append_right _ (h))) (by decide +kernel))
set_option maxRecDepth 20000 in
theorem g_L_machine_big_4 : GoodIn z_L_machine_big (wsV RL 92 RX7 yX7_machine z_X_machine_big) := goodIn_app (goodIn_of _ (by decide +kernel)) gg_L_machine_big_4
set_option maxHeartbeats 4000000 in
set_option maxRecDepth 100000 in
theorem c_L_machine_big (l : Launch) (dC : Nat → ClassId) (dI : Nat → Nat → Nat) (tp te : Nat) (sz : Nat) (hlt : l.stackTraces = false) (h0 : Nat) (rp : Nat) (rt : Nat) (rc : Nat) (r1 : Nat) (r2 : Nat) (r3 : Nat) (r4 : Nat) (p0 : Int32) (ho : Nat) (hv0 : ¬ p0 < 0) (hv1 : ¬ p0 < 6) (hv2 : ¬ p0 ≤ 5) : vx_Met l yL_machine z_L_machine_big ({ frames := 7, cells := 1, slots := 6, locals := 102 }) (va_Pc [.ref h0, .int p0, .ref ho] (Pw dC dI [(h0, .inr (8, [.ref rp, .int 0, .ref rt, .ref rc, .int ((-1)), .ref r1, .ref r2, .ref r3, .ref r4, .null, .int 0]))] [] sz tp te)) (va_Qi (fun (r : Int32) (_ : Unit) => r = 1) (fun (_ : Unit) (_ : State) => True) (va_A [(h0, .inr (8, [.ref rp, .int 0, .ref rt, .ref rc, .int ((-1)), .ref r1, .ref r2, .ref r3, .ref r4, .null, .int 0]))] sz)) (vx_X (fun (_ : Unit) => False) (fun (E : String) (_ : Unit) (_ : State) => E = "") (va_A [(h0, .inr (8, [.ref rp, .int 0, .ref rt, .ref rc, .int ((-1)), .ref r1, .ref r2, .ref r3, .ref r4, .null, .int 0]))] sz)) 1 6 (va_A [(h0, .inr (8, [.ref rp, .int 0, .ref rt, .ref rc, .int ((-1)), .ref r1, .ref r2, .ref r3, .ref r4, .null, .int 0]))] sz) := by
  refine vx_ofWH (cc := cL_machine) (maxL := 4) (ret := (some .int)) (hh := [(0, 9, 12, 31), (0, 9, 15, 13)]) (by decide) rfl ?_
  intro p e s m args below meth c s₁ B hml hv
  obtain ⟨rfl, hsz, hP, hK, hD0, hG⟩ := hv
  have hx := B.exec
  have hb := B.bytes
  have hr := B.returns
  have hts := atoms_spec (ws := z_L_machine_big) B.pre
  have htab : c.exceptionTable.toList = tableOf [(0, 9, 12, 31), (0, 9, 15, 13)] := vx_table (x := yL_machine) B (hts _ List.mem_cons_self)
  have hown : s.vm.findClass RL = some m.cls := findClass_of_methodNamed B.named
  have hlocks := B.notSynchronized
  subst hsz
  have hD := hD0.self (sz := s.heap.size)
  generalize hAe : va_A [(h0, .inr (8, [.ref rp, .int 0, .ref rt, .ref rc, .int ((-1)), .ref r1, .ref r2, .ref r3, .ref r4, .null, .int 0]))] s.heap.size = A at hD hG ⊢
  have hA : ∀ q : Nat, s.heap.size ≤ q → A q := fun q h => by rw [← hAe]; exact Or.inr h
  have hS : va_S A s.heap s.heap [] := va_S.rf
  have hl := lv_entry ([.ref h0, .int p0, .ref ho]) (n := 4) (Nat.le_of_ble_eq_true rfl)
  rw [lg_entry_eq]
  generalize (lg_sl ([.ref h0, .int p0, .ref ho]) ++ List.replicate (4 - (lg_sl ([.ref h0, .int p0, .ref ho])).length) Slot.unset).toArray = ls at hl ⊢
  have hl : lv_has ls 4 [(0, .ref h0), (1, .int p0), (2, .ref ho)] := hl
  refine lv_aload_n hx hb dL_machine_0 rfl (lv_at hl 2 rfl) ?_
  refine lv_iconst (v := 0) hx hb dL_machine_1 (by decide) ?_
  refine lv_aload_n hx hb dL_machine_2 rfl (lv_at hl 0 rfl) ?_
  refine lv_iload_n hx hb dL_machine_3 rfl (lv_at hl 1 rfl) ?_
  have hPc := hP.sub (ws' := [(h0, .inr (8, [.ref rp, .int 0, .ref rt, .ref rc, .int ((-1)), .ref r1, .ref r2, .ref r3, .ref r4, .null, .int 0]))]) [0] rfl
  have hDc := hD.sub (ws' := [(h0, .inr (8, [.ref rp, .int 0, .ref rt, .ref rc, .int ((-1)), .ref r1, .ref r2, .ref r3, .ref r4, .null, .int 0]))]) [0] (by decide) rfl
  have hKc := hK.sub (tys' := []) [] rfl
  have hFc := va_free (wc := [(h0, .inr (8, [.ref rp, .int 0, .ref rt, .ref rc, .int ((-1)), .ref r1, .ref r2, .ref r3, .ref r4, .null, .int 0]))]) hD hS hA [0] rfl
  refine vx_calli (vx_runV (As := [.int p0]) (rest := [.int 0, .ref ho]) ⟨hx, hb, hml, hown, hts⟩ (c_X_machine_big l dC dI tp te s.heap.size hlt h0 rp rt rc r1 r2 r3 r4 p0 hv0 hv1 hv2) (cwV 1 hts g_L_machine_big_4 rfl rfl rfl (by decide +kernel) ⟨Nat.le_of_ble_eq_true rfl, Nat.le_of_ble_eq_true rfl⟩) ⟨Pw.blind, va_recv hKc hPc (ci := 8) (q0 := 0) rfl rfl, Pw.mk hPc hKc hDc hG hS hFc⟩ rfl rfl hl.1 rfl (lv_room (Nat.le_of_ble_eq_true rfl)) dL_machine_4 ⟨Nat.le_of_ble_eq_true rfl, Nat.le_of_ble_eq_true rfl⟩) hS (fun q _ h => hFc q h) hFc (fun q _ h => hFc q h) (fun E ce q9 u t9 H_1 locs ht hvm hpx hBX hz1 hk1 hS hce hcv hcl => ?_) (fun r u t9 H1 locs ht hvm hw hB hz1 hk1 hS => hw.elim)
  have hBX : E = "java/lang/IllegalArgumentException" := hBX
  subst hBX
  refine vx_catch hown [] ⟨0, 9, 12, 31⟩ [⟨0, 9, 15, 13⟩] htab (fun z9 h9 => nomatch h9) (by decide) (by decide) (hts (.classLink RL 31 "java/lang/IllegalArgumentException") (List.mem_of_getElem? (i := 8) rfl)) (va_Nw.use rfl hG.2.2.2.2.2.2.2.2.1) hce hcv hcl ?_
  obtain ⟨hP, hD⟩ := va_join (wr := []) (w1 := []) hP hD [0] [] rfl rfl (by decide) (by decide) hk1 hFc va_P.nil va_D.nil
  have hK := hK.sub (tys' := []) [] rfl
  have hP : va_P (dC, dI) vwCl [] H_1 := hP
  have hD : va_D A [] := hD
  have hK : va_K (dC, dI) vwCl [] s := hK
  refine W.widen (k := 1) (n := 6) (Nat.le_of_ble_eq_true rfl) (Nat.le_of_ble_eq_true rfl) ?_
  refine lv_astore_n (lv' := [(3, .ref q9), (0, .ref h0), (1, .int p0), (2, .ref ho)]) hx hb dL_machine_12 rfl hl (by decide) rfl (fun ls hl => ?_)
  refine lv_iconst (v := 1) hx hb dL_machine_13 (by decide) ?_
  refine vx_ret ?_
  refine W.widen (k := 1) (n := 6) (Nat.le_of_ble_eq_true rfl) (Nat.le_of_ble_eq_true rfl) ?_
  exact W.iret (v := 1) hx hb hr (fun t ht hW => ⟨⟨1, (), rfl, rfl, trivial⟩, hS.F ht⟩) hS.2.2 dL_machine_14

set_option maxRecDepth 20000 in
def z_L_machine_ok : List Cond := .codeWith yL_machine cL_machine 4 (some .int) [(0, 9, 12, 31), (0, 9, 15, 13)] :: (([.methodLink RL 92 yX7_machine, .instanceMethod yX7_machine, .selects RX7 yX7_machine yX7_machine, .initialized RX7, .code yX7_machine cX7_machine 2 (some .int), .methodLink RX7 110 yX7_checkProgram, .instanceMethod yX7_checkProgram, .selects RX7 yX7_checkProgram yX7_checkProgram, .code yX7_checkProgram cX7_checkProgram 1 none, .fieldLink RX7 24 "Selfkindle" "wrong" "I", .classLink RX7 75 "java/lang/IllegalStateException", .initialized "java/lang/IllegalStateException", .classLink RL 31 "java/lang/IllegalArgumentException", .classLink RL 13 "java/lang/IllegalStateException"] : List Cond) ++ wsX70 ++ (vx_at0 RX7 77 "java/lang/IllegalStateException" ["java/lang/RuntimeException", "java/lang/Exception"]).filter goodWord)
theorem in_z_L_machine_ok_X7 : ∀ w ∈ wsX70, w ∈ z_L_machine_ok := fun w h => List.mem_cons_of_mem _ (List.mem_append_left _ (List.mem_append_right _ (h)))
set_option maxRecDepth 20000 in
theorem gg_L_machine_ok_4 : GoodIn z_L_machine_ok z_X_machine_ok := goodIn_ca (goodIn_p _ [5, 9] rfl (by decide +kernel)) (goodIn_sub (fun _ h => List.mem_cons_of_mem _ (List.mem_append_right _ (h))) (by decide +kernel))
set_option maxRecDepth 20000 in
theorem g_L_machine_ok_4 : GoodIn z_L_machine_ok (wsV RL 92 RX7 yX7_machine z_X_machine_ok) := goodIn_app (goodIn_of _ (by decide +kernel)) gg_L_machine_ok_4
set_option maxHeartbeats 4000000 in
set_option maxRecDepth 100000 in
theorem c_L_machine_ok (l : Launch) (dC : Nat → ClassId) (dI : Nat → Nat → Nat) (tp te : Nat) (sz : Nat) (hlt : l.stackTraces = false) (h0 : Nat) (rp : Nat) (rt : Nat) (rc : Nat) (r1 : Nat) (r2 : Nat) (r3 : Nat) (r4 : Nat) (p0 : Int32) (ho : Nat) (hv0 : ¬ p0 < 0) (hv1 : p0 < 6) (hv2 : p0 ≤ 5) : vx_Met l yL_machine z_L_machine_ok ({ frames := 8, cells := 1, slots := 6, locals := 122 }) (va_Pc [.ref h0, .int p0, .ref ho] (Pw dC dI [(h0, .inr (8, [.ref rp, .int 0, .ref rt, .ref rc, .int ((-1)), .ref r1, .ref r2, .ref r3, .ref r4, .null, .int 0]))] [] sz tp te)) (va_Qi (fun (r : Int32) (_ : Unit) => r = 2) (fun (_ : Unit) (_ : State) => True) (va_A [(h0, .inr (8, [.ref rp, .int 0, .ref rt, .ref rc, .int ((-1)), .ref r1, .ref r2, .ref r3, .ref r4, .null, .int 0]))] sz)) (vx_X (fun (_ : Unit) => False) (fun (E : String) (_ : Unit) (_ : State) => E = "") (va_A [(h0, .inr (8, [.ref rp, .int 0, .ref rt, .ref rc, .int ((-1)), .ref r1, .ref r2, .ref r3, .ref r4, .null, .int 0]))] sz)) 1 6 (va_A [(h0, .inr (8, [.ref rp, .int 0, .ref rt, .ref rc, .int ((-1)), .ref r1, .ref r2, .ref r3, .ref r4, .null, .int 0]))] sz) := by
  refine vx_ofWH (cc := cL_machine) (maxL := 4) (ret := (some .int)) (hh := [(0, 9, 12, 31), (0, 9, 15, 13)]) (by decide) rfl ?_
  intro p e s m args below meth c s₁ B hml hv
  obtain ⟨rfl, hsz, hP, hK, hD0, hG⟩ := hv
  have hx := B.exec
  have hb := B.bytes
  have hr := B.returns
  have hts := atoms_spec (ws := z_L_machine_ok) B.pre
  have htab : c.exceptionTable.toList = tableOf [(0, 9, 12, 31), (0, 9, 15, 13)] := vx_table (x := yL_machine) B (hts _ List.mem_cons_self)
  have hown : s.vm.findClass RL = some m.cls := findClass_of_methodNamed B.named
  have hlocks := B.notSynchronized
  subst hsz
  have hD := hD0.self (sz := s.heap.size)
  generalize hAe : va_A [(h0, .inr (8, [.ref rp, .int 0, .ref rt, .ref rc, .int ((-1)), .ref r1, .ref r2, .ref r3, .ref r4, .null, .int 0]))] s.heap.size = A at hD hG ⊢
  have hA : ∀ q : Nat, s.heap.size ≤ q → A q := fun q h => by rw [← hAe]; exact Or.inr h
  have hS : va_S A s.heap s.heap [] := va_S.rf
  have hl := lv_entry ([.ref h0, .int p0, .ref ho]) (n := 4) (Nat.le_of_ble_eq_true rfl)
  rw [lg_entry_eq]
  generalize (lg_sl ([.ref h0, .int p0, .ref ho]) ++ List.replicate (4 - (lg_sl ([.ref h0, .int p0, .ref ho])).length) Slot.unset).toArray = ls at hl ⊢
  have hl : lv_has ls 4 [(0, .ref h0), (1, .int p0), (2, .ref ho)] := hl
  refine lv_aload_n hx hb dL_machine_0 rfl (lv_at hl 2 rfl) ?_
  refine lv_iconst (v := 0) hx hb dL_machine_1 (by decide) ?_
  refine lv_aload_n hx hb dL_machine_2 rfl (lv_at hl 0 rfl) ?_
  refine lv_iload_n hx hb dL_machine_3 rfl (lv_at hl 1 rfl) ?_
  have hPc := hP.sub (ws' := [(h0, .inr (8, [.ref rp, .int 0, .ref rt, .ref rc, .int ((-1)), .ref r1, .ref r2, .ref r3, .ref r4, .null, .int 0]))]) [0] rfl
  have hDc := hD.sub (ws' := [(h0, .inr (8, [.ref rp, .int 0, .ref rt, .ref rc, .int ((-1)), .ref r1, .ref r2, .ref r3, .ref r4, .null, .int 0]))]) [0] (by decide) rfl
  have hKc := hK.sub (tys' := []) [] rfl
  have hFc := va_free (wc := [(h0, .inr (8, [.ref rp, .int 0, .ref rt, .ref rc, .int ((-1)), .ref r1, .ref r2, .ref r3, .ref r4, .null, .int 0]))]) hD hS hA [0] rfl
  refine vx_calli (vx_runV (As := [.int p0]) (rest := [.int 0, .ref ho]) ⟨hx, hb, hml, hown, hts⟩ (c_X_machine_ok l dC dI tp te s.heap.size hlt h0 rp rt rc r1 r2 r3 r4 p0 hv0 hv1 hv2) (cwV 1 hts g_L_machine_ok_4 rfl rfl rfl (by decide +kernel) ⟨Nat.le_of_ble_eq_true rfl, Nat.le_of_ble_eq_true rfl⟩) ⟨Pw.blind, va_recv hKc hPc (ci := 8) (q0 := 0) rfl rfl, Pw.mk hPc hKc hDc hG hS hFc⟩ rfl rfl hl.1 rfl (lv_room (Nat.le_of_ble_eq_true rfl)) dL_machine_4 ⟨Nat.le_of_ble_eq_true rfl, Nat.le_of_ble_eq_true rfl⟩) hS (fun q _ h => hFc q h) hFc (fun q _ h => hFc q h) (fun E ce q9 u t9 H_1 locs ht hvm hpx hBX hz1 hk1 hS hce hcv hcl => ?_) (fun r u t9 H1 locs ht hvm hw hB hz1 hk1 hS => hw.elim)
  have hBX : E = "java/lang/IllegalStateException" := hBX
  subst hBX
  refine vx_catch hown [⟨0, 9, 12, 31⟩] ⟨0, 9, 15, 13⟩ [] htab (fun z9 h9 => by rw [List.mem_singleton.mp h9]; exact Or.inr ⟨by decide, "java/lang/IllegalArgumentException", (hts (.classLink RL 31 "java/lang/IllegalArgumentException") (List.mem_of_getElem? (i := 13) rfl)), hG.2.2.2.2.2.2.2.2.2.2.2.1⟩) (by decide) (by decide) (hts (.classLink RL 13 "java/lang/IllegalStateException") (List.mem_of_getElem? (i := 14) rfl)) (va_Nw.use rfl hG.2.2.2.2.2.2.1) hce hcv hcl ?_
  obtain ⟨hP, hD⟩ := va_join (wr := []) (w1 := []) hP hD [0] [] rfl rfl (by decide) (by decide) hk1 hFc va_P.nil va_D.nil
  have hK := hK.sub (tys' := []) [] rfl
  have hP : va_P (dC, dI) vwCl [] H_1 := hP
  have hD : va_D A [] := hD
  have hK : va_K (dC, dI) vwCl [] s := hK
  refine W.widen (k := 1) (n := 6) (Nat.le_of_ble_eq_true rfl) (Nat.le_of_ble_eq_true rfl) ?_
  refine lv_astore_n (lv' := [(3, .ref q9), (0, .ref h0), (1, .int p0), (2, .ref ho)]) hx hb dL_machine_15 rfl hl (by decide) rfl (fun ls hl => ?_)
  refine lv_iconst (v := 2) hx hb dL_machine_16 (by decide) ?_
  refine vx_ret ?_
  refine W.widen (k := 1) (n := 6) (Nat.le_of_ble_eq_true rfl) (Nat.le_of_ble_eq_true rfl) ?_
  exact W.iret (v := 2) hx hb hr (fun t ht hW => ⟨⟨2, (), rfl, rfl, trivial⟩, hS.F ht⟩) hS.2.2 dL_machine_17
