abbrev cX16_call : ByteArray := prog_10_method_11_code
def yX16_call : MethodName := ⟨RX16, "call", "()I"⟩
abbrev cX16_two : ByteArray := prog_10_method_12_code
def yX16_two : MethodName := ⟨RX16, "two", "(I)I"⟩
abbrev cX16_choose : ByteArray := prog_10_method_13_code
def yX16_choose : MethodName := ⟨RX16, "choose", "()I"⟩
abbrev cX16_let : ByteArray := prog_10_method_14_code
def yX16_let : MethodName := ⟨RX16, "let", "(I)I"⟩
abbrev cX16_rec : ByteArray := prog_10_method_15_code
def yX16_rec : MethodName := ⟨RX16, "rec", "(II)I"⟩
abbrev cX16_pair : ByteArray := prog_10_method_16_code
def yX16_pair : MethodName := ⟨RX16, "pair", "()I"⟩
abbrev cX16_half : ByteArray := prog_10_method_17_code
def yX16_half : MethodName := ⟨RX16, "half", "(Z)I"⟩
abbrev cX16_raise : ByteArray := prog_10_method_18_code
def yX16_raise : MethodName := ⟨RX16, "raise", "()I"⟩
abbrev cX16_handle : ByteArray := prog_10_method_19_code
def yX16_handle : MethodName := ⟨RX16, "handle", "(I)I"⟩
abbrev cX16_program : ByteArray := prog_10_method_20_code
def yX16_program : MethodName := ⟨RX16, "program", "()I"⟩
abbrev cX16_fault : ByteArray := prog_10_method_38_code
def yX16_fault : MethodName := ⟨RX16, "fault", "()I"⟩
abbrev cX16_type : ByteArray := prog_10_method_40_code
def yX16_type : MethodName := ⟨RX16, "type", "(I)I"⟩
abbrev cX16_optimise : ByteArray := prog_10_method_51_code
def yX16_optimise : MethodName := ⟨RX16, "optimise", "(I)I"⟩
abbrev cX16_size : ByteArray := prog_10_method_52_code
def yX16_size : MethodName := ⟨RX16, "size", "()I"⟩
abbrev cX16_orders : ByteArray := prog_10_method_57_code
def yX16_orders : MethodName := ⟨RX16, "orders", "()I"⟩
abbrev cX16_order : ByteArray := prog_10_method_59_code
def yX16_order : MethodName := ⟨RX16, "order", "(II)J"⟩
abbrev cX16_stop : ByteArray := prog_10_method_60_code
def yX16_stop : MethodName := ⟨RX16, "stop", "(IZ)Z"⟩
abbrev cX16_go : ByteArray := prog_10_method_69_code
def yX16_go : MethodName := ⟨RX16, "go", "(I)I"⟩
abbrev cX16_again : ByteArray := prog_10_method_70_code
def yX16_again : MethodName := ⟨RX16, "again", "()V"⟩
abbrev cX16_state : ByteArray := prog_10_method_71_code
def yX16_state : MethodName := ⟨RX16, "state", "()I"⟩
abbrev cX16_value : ByteArray := prog_10_method_72_code
def yX16_value : MethodName := ⟨RX16, "value", "()J"⟩
abbrev cX16_machine : ByteArray := prog_10_method_73_code
def yX16_machine : MethodName := ⟨RX16, "machine", "(I)I"⟩
abbrev cX16_stateAnew : ByteArray := prog_10_method_79_code
def yX16_stateAnew : MethodName := ⟨RX16, "stateAnew", "()I"⟩
abbrev cX16_valueAnew : ByteArray := prog_10_method_80_code
def yX16_valueAnew : MethodName := ⟨RX16, "valueAnew", "()J"⟩
theorem dX16_call_0 : decode cX16_call 0 = .ok (.aload_n 0, 1) := by decide +kernel
theorem dX16_call_1 : decode cX16_call 1 = .ok (.aload_n 0, 1) := by decide +kernel
theorem dX16_call_2 : decode cX16_call 2 = .ok (.iconst 2, 1) := by decide +kernel
theorem dX16_call_3 : decode cX16_call 3 = .ok (.invokevirtual 78, 3) := by decide +kernel
theorem dX16_call_6 : decode cX16_call 6 = .ok (.ifCond .eq 7, 3) := by decide +kernel
theorem dX16_call_13 : decode cX16_call 13 = .ok (.iconst 1, 1) := by decide +kernel
theorem dX16_call_14 : decode cX16_call 14 = .ok (.putfield 40, 3) := by decide +kernel
theorem dX16_call_17 : decode cX16_call 17 = .ok (.aload_n 0, 1) := by decide +kernel
theorem dX16_call_18 : decode cX16_call 18 = .ok (.getfield 40, 3) := by decide +kernel
theorem dX16_call_21 : decode cX16_call 21 = .ok (.ifCond .le 7, 3) := by decide +kernel
theorem dX16_call_24 : decode cX16_call 24 = .ok (.iconst 0, 1) := by decide +kernel
theorem dX16_call_25 : decode cX16_call 25 = .ok (.goto 11, 3) := by decide +kernel
theorem dX16_call_36 : decode cX16_call 36 = .ok (.ireturn, 1) := by decide +kernel
theorem dX16_two_0 : decode cX16_two 0 = .ok (.aload_n 0, 1) := by decide +kernel
theorem dX16_two_1 : decode cX16_two 1 = .ok (.iload_n 1, 1) := by decide +kernel
theorem dX16_two_2 : decode cX16_two 2 = .ok (.ifCond .lt 8, 3) := by decide +kernel
theorem dX16_two_5 : decode cX16_two 5 = .ok (.iload_n 1, 1) := by decide +kernel
theorem dX16_two_6 : decode cX16_two 6 = .ok (.iconst 3, 1) := by decide +kernel
theorem dX16_two_7 : decode cX16_two 7 = .ok (.if_icmp .le 7, 3) := by decide +kernel
theorem dX16_two_10 : decode cX16_two 10 = .ok (.iconst 1, 1) := by decide +kernel
theorem dX16_two_11 : decode cX16_two 11 = .ok (.goto 16, 3) := by decide +kernel
theorem dX16_two_14 : decode cX16_two 14 = .ok (.aload_n 0, 1) := by decide +kernel
theorem dX16_two_15 : decode cX16_two 15 = .ok (.iconst 2, 1) := by decide +kernel
theorem dX16_two_16 : decode cX16_two 16 = .ok (.invokevirtual 78, 3) := by decide +kernel
theorem dX16_two_19 : decode cX16_two 19 = .ok (.ifCond .ne 7, 3) := by decide +kernel
theorem dX16_two_22 : decode cX16_two 22 = .ok (.iconst 2, 1) := by decide +kernel
theorem dX16_two_23 : decode cX16_two 23 = .ok (.goto 4, 3) := by decide +kernel
theorem dX16_two_27 : decode cX16_two 27 = .ok (.putfield 40, 3) := by decide +kernel
theorem dX16_two_30 : decode cX16_two 30 = .ok (.aload_n 0, 1) := by decide +kernel
theorem dX16_two_31 : decode cX16_two 31 = .ok (.getfield 40, 3) := by decide +kernel
theorem dX16_two_34 : decode cX16_two 34 = .ok (.ifCond .le 7, 3) := by decide +kernel
theorem dX16_two_37 : decode cX16_two 37 = .ok (.iconst 0, 1) := by decide +kernel
theorem dX16_two_38 : decode cX16_two 38 = .ok (.goto 12, 3) := by decide +kernel
theorem dX16_two_50 : decode cX16_two 50 = .ok (.ireturn, 1) := by decide +kernel
theorem dX16_choose_0 : decode cX16_choose 0 = .ok (.aload_n 0, 1) := by decide +kernel
theorem dX16_choose_1 : decode cX16_choose 1 = .ok (.aload_n 0, 1) := by decide +kernel
theorem dX16_choose_2 : decode cX16_choose 2 = .ok (.iconst 3, 1) := by decide +kernel
theorem dX16_choose_3 : decode cX16_choose 3 = .ok (.invokevirtual 78, 3) := by decide +kernel
theorem dX16_choose_6 : decode cX16_choose 6 = .ok (.ifCond .eq 7, 3) := by decide +kernel
theorem dX16_choose_13 : decode cX16_choose 13 = .ok (.iconst 1, 1) := by decide +kernel
theorem dX16_choose_14 : decode cX16_choose 14 = .ok (.putfield 40, 3) := by decide +kernel
theorem dX16_choose_17 : decode cX16_choose 17 = .ok (.aload_n 0, 1) := by decide +kernel
theorem dX16_choose_18 : decode cX16_choose 18 = .ok (.getfield 40, 3) := by decide +kernel
theorem dX16_choose_21 : decode cX16_choose 21 = .ok (.ifCond .le 7, 3) := by decide +kernel
theorem dX16_choose_24 : decode cX16_choose 24 = .ok (.iconst 0, 1) := by decide +kernel
theorem dX16_choose_25 : decode cX16_choose 25 = .ok (.goto 11, 3) := by decide +kernel
theorem dX16_choose_36 : decode cX16_choose 36 = .ok (.ireturn, 1) := by decide +kernel
theorem dX16_let_0 : decode cX16_let 0 = .ok (.aload_n 0, 1) := by decide +kernel
theorem dX16_let_1 : decode cX16_let 1 = .ok (.iload_n 1, 1) := by decide +kernel
theorem dX16_let_2 : decode cX16_let 2 = .ok (.invokestatic 74, 3) := by decide +kernel
theorem dX16_let_5 : decode cX16_let 5 = .ok (.ifCond .ne 7, 3) := by decide +kernel
theorem dX16_let_8 : decode cX16_let 8 = .ok (.iconst 1, 1) := by decide +kernel
theorem dX16_let_9 : decode cX16_let 9 = .ok (.goto 16, 3) := by decide +kernel
theorem dX16_let_12 : decode cX16_let 12 = .ok (.aload_n 0, 1) := by decide +kernel
theorem dX16_let_13 : decode cX16_let 13 = .ok (.iconst 2, 1) := by decide +kernel
theorem dX16_let_14 : decode cX16_let 14 = .ok (.invokevirtual 78, 3) := by decide +kernel
theorem dX16_let_17 : decode cX16_let 17 = .ok (.ifCond .ne 7, 3) := by decide +kernel
theorem dX16_let_20 : decode cX16_let 20 = .ok (.iconst 2, 1) := by decide +kernel
theorem dX16_let_21 : decode cX16_let 21 = .ok (.goto 4, 3) := by decide +kernel
theorem dX16_let_25 : decode cX16_let 25 = .ok (.putfield 40, 3) := by decide +kernel
theorem dX16_let_28 : decode cX16_let 28 = .ok (.aload_n 0, 1) := by decide +kernel
theorem dX16_let_29 : decode cX16_let 29 = .ok (.getfield 40, 3) := by decide +kernel
theorem dX16_let_32 : decode cX16_let 32 = .ok (.ifCond .le 7, 3) := by decide +kernel
theorem dX16_let_35 : decode cX16_let 35 = .ok (.iconst 0, 1) := by decide +kernel
theorem dX16_let_36 : decode cX16_let 36 = .ok (.goto 13, 3) := by decide +kernel
theorem dX16_let_49 : decode cX16_let 49 = .ok (.ireturn, 1) := by decide +kernel
theorem dX16_rec_0 : decode cX16_rec 0 = .ok (.aload_n 0, 1) := by decide +kernel
theorem dX16_rec_1 : decode cX16_rec 1 = .ok (.iload_n 1, 1) := by decide +kernel
theorem dX16_rec_2 : decode cX16_rec 2 = .ok (.invokestatic 74, 3) := by decide +kernel
theorem dX16_rec_5 : decode cX16_rec 5 = .ok (.ifCond .eq 10, 3) := by decide +kernel
theorem dX16_rec_8 : decode cX16_rec 8 = .ok (.iload_n 2, 1) := by decide +kernel
theorem dX16_rec_9 : decode cX16_rec 9 = .ok (.invokestatic 74, 3) := by decide +kernel
theorem dX16_rec_12 : decode cX16_rec 12 = .ok (.ifCond .ne 7, 3) := by decide +kernel
theorem dX16_rec_15 : decode cX16_rec 15 = .ok (.iconst 1, 1) := by decide +kernel
theorem dX16_rec_16 : decode cX16_rec 16 = .ok (.goto 16, 3) := by decide +kernel
theorem dX16_rec_19 : decode cX16_rec 19 = .ok (.aload_n 0, 1) := by decide +kernel
theorem dX16_rec_20 : decode cX16_rec 20 = .ok (.iconst 2, 1) := by decide +kernel
theorem dX16_rec_21 : decode cX16_rec 21 = .ok (.invokevirtual 78, 3) := by decide +kernel
theorem dX16_rec_24 : decode cX16_rec 24 = .ok (.ifCond .ne 7, 3) := by decide +kernel
theorem dX16_rec_27 : decode cX16_rec 27 = .ok (.iconst 2, 1) := by decide +kernel
theorem dX16_rec_28 : decode cX16_rec 28 = .ok (.goto 4, 3) := by decide +kernel
theorem dX16_rec_32 : decode cX16_rec 32 = .ok (.putfield 40, 3) := by decide +kernel
theorem dX16_rec_35 : decode cX16_rec 35 = .ok (.aload_n 0, 1) := by decide +kernel
theorem dX16_rec_36 : decode cX16_rec 36 = .ok (.getfield 40, 3) := by decide +kernel
theorem dX16_rec_39 : decode cX16_rec 39 = .ok (.ifCond .le 7, 3) := by decide +kernel
theorem dX16_rec_42 : decode cX16_rec 42 = .ok (.iconst 0, 1) := by decide +kernel
theorem dX16_rec_43 : decode cX16_rec 43 = .ok (.goto 13, 3) := by decide +kernel
theorem dX16_rec_56 : decode cX16_rec 56 = .ok (.ireturn, 1) := by decide +kernel
theorem dX16_pair_0 : decode cX16_pair 0 = .ok (.aload_n 0, 1) := by decide +kernel
theorem dX16_pair_1 : decode cX16_pair 1 = .ok (.aload_n 0, 1) := by decide +kernel
theorem dX16_pair_2 : decode cX16_pair 2 = .ok (.iconst 2, 1) := by decide +kernel
theorem dX16_pair_3 : decode cX16_pair 3 = .ok (.invokevirtual 78, 3) := by decide +kernel
theorem dX16_pair_6 : decode cX16_pair 6 = .ok (.ifCond .eq 7, 3) := by decide +kernel
theorem dX16_pair_13 : decode cX16_pair 13 = .ok (.iconst 1, 1) := by decide +kernel
theorem dX16_pair_14 : decode cX16_pair 14 = .ok (.putfield 40, 3) := by decide +kernel
theorem dX16_pair_17 : decode cX16_pair 17 = .ok (.aload_n 0, 1) := by decide +kernel
theorem dX16_pair_18 : decode cX16_pair 18 = .ok (.getfield 40, 3) := by decide +kernel
theorem dX16_pair_21 : decode cX16_pair 21 = .ok (.ifCond .le 7, 3) := by decide +kernel
theorem dX16_pair_24 : decode cX16_pair 24 = .ok (.iconst 0, 1) := by decide +kernel
theorem dX16_pair_25 : decode cX16_pair 25 = .ok (.goto 12, 3) := by decide +kernel
theorem dX16_pair_37 : decode cX16_pair 37 = .ok (.ireturn, 1) := by decide +kernel
theorem dX16_half_0 : decode cX16_half 0 = .ok (.aload_n 0, 1) := by decide +kernel
theorem dX16_half_1 : decode cX16_half 1 = .ok (.aload_n 0, 1) := by decide +kernel
theorem dX16_half_2 : decode cX16_half 2 = .ok (.iconst 1, 1) := by decide +kernel
theorem dX16_half_3 : decode cX16_half 3 = .ok (.invokevirtual 78, 3) := by decide +kernel
theorem dX16_half_6 : decode cX16_half 6 = .ok (.ifCond .eq 7, 3) := by decide +kernel
theorem dX16_half_13 : decode cX16_half 13 = .ok (.iconst 1, 1) := by decide +kernel
theorem dX16_half_14 : decode cX16_half 14 = .ok (.putfield 40, 3) := by decide +kernel
theorem dX16_half_17 : decode cX16_half 17 = .ok (.aload_n 0, 1) := by decide +kernel
theorem dX16_half_18 : decode cX16_half 18 = .ok (.getfield 40, 3) := by decide +kernel
theorem dX16_half_21 : decode cX16_half 21 = .ok (.ifCond .le 7, 3) := by decide +kernel
theorem dX16_half_24 : decode cX16_half 24 = .ok (.iconst 0, 1) := by decide +kernel
theorem dX16_half_25 : decode cX16_half 25 = .ok (.goto 20, 3) := by decide +kernel
theorem dX16_half_45 : decode cX16_half 45 = .ok (.ireturn, 1) := by decide +kernel
theorem dX16_raise_0 : decode cX16_raise 0 = .ok (.aload_n 0, 1) := by decide +kernel
theorem dX16_raise_1 : decode cX16_raise 1 = .ok (.aload_n 0, 1) := by decide +kernel
theorem dX16_raise_2 : decode cX16_raise 2 = .ok (.iconst 1, 1) := by decide +kernel
theorem dX16_raise_3 : decode cX16_raise 3 = .ok (.invokevirtual 78, 3) := by decide +kernel
theorem dX16_raise_6 : decode cX16_raise 6 = .ok (.ifCond .eq 7, 3) := by decide +kernel
theorem dX16_raise_13 : decode cX16_raise 13 = .ok (.iconst 1, 1) := by decide +kernel
theorem dX16_raise_14 : decode cX16_raise 14 = .ok (.putfield 40, 3) := by decide +kernel
theorem dX16_raise_17 : decode cX16_raise 17 = .ok (.aload_n 0, 1) := by decide +kernel
theorem dX16_raise_18 : decode cX16_raise 18 = .ok (.getfield 40, 3) := by decide +kernel
theorem dX16_raise_21 : decode cX16_raise 21 = .ok (.ifCond .le 7, 3) := by decide +kernel
theorem dX16_raise_24 : decode cX16_raise 24 = .ok (.iconst 0, 1) := by decide +kernel
theorem dX16_raise_25 : decode cX16_raise 25 = .ok (.goto 12, 3) := by decide +kernel
theorem dX16_raise_37 : decode cX16_raise 37 = .ok (.ireturn, 1) := by decide +kernel
theorem dX16_handle_0 : decode cX16_handle 0 = .ok (.aload_n 0, 1) := by decide +kernel
theorem dX16_handle_1 : decode cX16_handle 1 = .ok (.iload_n 1, 1) := by decide +kernel
theorem dX16_handle_2 : decode cX16_handle 2 = .ok (.invokestatic 74, 3) := by decide +kernel
theorem dX16_handle_5 : decode cX16_handle 5 = .ok (.ifCond .ne 7, 3) := by decide +kernel
theorem dX16_handle_8 : decode cX16_handle 8 = .ok (.iconst 1, 1) := by decide +kernel
theorem dX16_handle_9 : decode cX16_handle 9 = .ok (.goto 16, 3) := by decide +kernel
theorem dX16_handle_12 : decode cX16_handle 12 = .ok (.aload_n 0, 1) := by decide +kernel
theorem dX16_handle_13 : decode cX16_handle 13 = .ok (.iconst 2, 1) := by decide +kernel
theorem dX16_handle_14 : decode cX16_handle 14 = .ok (.invokevirtual 78, 3) := by decide +kernel
theorem dX16_handle_17 : decode cX16_handle 17 = .ok (.ifCond .ne 7, 3) := by decide +kernel
theorem dX16_handle_20 : decode cX16_handle 20 = .ok (.iconst 2, 1) := by decide +kernel
theorem dX16_handle_21 : decode cX16_handle 21 = .ok (.goto 4, 3) := by decide +kernel
theorem dX16_handle_25 : decode cX16_handle 25 = .ok (.putfield 40, 3) := by decide +kernel
theorem dX16_handle_28 : decode cX16_handle 28 = .ok (.aload_n 0, 1) := by decide +kernel
theorem dX16_handle_29 : decode cX16_handle 29 = .ok (.getfield 40, 3) := by decide +kernel
theorem dX16_handle_32 : decode cX16_handle 32 = .ok (.ifCond .le 7, 3) := by decide +kernel
theorem dX16_handle_35 : decode cX16_handle 35 = .ok (.iconst 0, 1) := by decide +kernel
theorem dX16_handle_36 : decode cX16_handle 36 = .ok (.goto 13, 3) := by decide +kernel
theorem dX16_handle_49 : decode cX16_handle 49 = .ok (.ireturn, 1) := by decide +kernel
theorem dX16_program_0 : decode cX16_program 0 = .ok (.aload_n 0, 1) := by decide +kernel
theorem dX16_program_1 : decode cX16_program 1 = .ok (.aload_n 0, 1) := by decide +kernel
theorem dX16_program_2 : decode cX16_program 2 = .ok (.getfield 10, 3) := by decide +kernel
theorem dX16_program_5 : decode cX16_program 5 = .ok (.invokevirtual 85, 3) := by decide +kernel
theorem dX16_program_8 : decode cX16_program 8 = .ok (.ifCond .eq 7, 3) := by decide +kernel
theorem dX16_program_11 : decode cX16_program 11 = .ok (.iconst 1, 1) := by decide +kernel
theorem dX16_program_12 : decode cX16_program 12 = .ok (.goto 4, 3) := by decide +kernel
theorem dX16_program_16 : decode cX16_program 16 = .ok (.putfield 40, 3) := by decide +kernel
theorem dX16_program_19 : decode cX16_program 19 = .ok (.aload_n 0, 1) := by decide +kernel
theorem dX16_program_20 : decode cX16_program 20 = .ok (.getfield 40, 3) := by decide +kernel
theorem dX16_program_23 : decode cX16_program 23 = .ok (.ifCond .le 5, 3) := by decide +kernel
theorem dX16_program_26 : decode cX16_program 26 = .ok (.iconst 0, 1) := by decide +kernel
theorem dX16_program_27 : decode cX16_program 27 = .ok (.ireturn, 1) := by decide +kernel
theorem dX16_fault_0 : decode cX16_fault 0 = .ok (.aload_n 0, 1) := by decide +kernel
theorem dX16_fault_1 : decode cX16_fault 1 = .ok (.aload_n 0, 1) := by decide +kernel
theorem dX16_fault_2 : decode cX16_fault 2 = .ok (.getfield 89, 3) := by decide +kernel
theorem dX16_fault_5 : decode cX16_fault 5 = .ok (.ifnonnull 7, 3) := by decide +kernel
theorem dX16_fault_8 : decode cX16_fault 8 = .ok (.iconst 1, 1) := by decide +kernel
theorem dX16_fault_9 : decode cX16_fault 9 = .ok (.goto 4, 3) := by decide +kernel
theorem dX16_fault_13 : decode cX16_fault 13 = .ok (.putfield 40, 3) := by decide +kernel
theorem dX16_fault_16 : decode cX16_fault 16 = .ok (.aload_n 0, 1) := by decide +kernel
theorem dX16_fault_17 : decode cX16_fault 17 = .ok (.getfield 40, 3) := by decide +kernel
theorem dX16_fault_20 : decode cX16_fault 20 = .ok (.ifCond .le 7, 3) := by decide +kernel
theorem dX16_fault_23 : decode cX16_fault 23 = .ok (.iconst 0, 1) := by decide +kernel
theorem dX16_fault_24 : decode cX16_fault 24 = .ok (.goto 7, 3) := by decide +kernel
theorem dX16_fault_31 : decode cX16_fault 31 = .ok (.ireturn, 1) := by decide +kernel
theorem dX16_type_0 : decode cX16_type 0 = .ok (.aload_n 0, 1) := by decide +kernel
theorem dX16_type_1 : decode cX16_type 1 = .ok (.iload_n 1, 1) := by decide +kernel
theorem dX16_type_2 : decode cX16_type 2 = .ok (.ifCond .ge 7, 3) := by decide +kernel
theorem dX16_type_5 : decode cX16_type 5 = .ok (.iconst 1, 1) := by decide +kernel
theorem dX16_type_6 : decode cX16_type 6 = .ok (.goto 15, 3) := by decide +kernel
theorem dX16_type_9 : decode cX16_type 9 = .ok (.aload_n 0, 1) := by decide +kernel
theorem dX16_type_10 : decode cX16_type 10 = .ok (.invokevirtual 229, 3) := by decide +kernel
theorem dX16_type_13 : decode cX16_type 13 = .ok (.ifCond .ne 7, 3) := by decide +kernel
theorem dX16_type_16 : decode cX16_type 16 = .ok (.iconst 2, 1) := by decide +kernel
theorem dX16_type_17 : decode cX16_type 17 = .ok (.goto 4, 3) := by decide +kernel
theorem dX16_type_21 : decode cX16_type 21 = .ok (.putfield 40, 3) := by decide +kernel
theorem dX16_type_24 : decode cX16_type 24 = .ok (.aload_n 0, 1) := by decide +kernel
theorem dX16_type_25 : decode cX16_type 25 = .ok (.getfield 40, 3) := by decide +kernel
theorem dX16_type_28 : decode cX16_type 28 = .ok (.ifCond .le 5, 3) := by decide +kernel
theorem dX16_type_31 : decode cX16_type 31 = .ok (.iconst 0, 1) := by decide +kernel
theorem dX16_type_32 : decode cX16_type 32 = .ok (.ireturn, 1) := by decide +kernel
theorem dX16_optimise_0 : decode cX16_optimise 0 = .ok (.aload_n 0, 1) := by decide +kernel
theorem dX16_optimise_1 : decode cX16_optimise 1 = .ok (.iload_n 1, 1) := by decide +kernel
theorem dX16_optimise_2 : decode cX16_optimise 2 = .ok (.ifCond .lt 9, 3) := by decide +kernel
theorem dX16_optimise_5 : decode cX16_optimise 5 = .ok (.iload_n 1, 1) := by decide +kernel
theorem dX16_optimise_6 : decode cX16_optimise 6 = .ok (.bipush 15, 2) := by decide +kernel
theorem dX16_optimise_8 : decode cX16_optimise 8 = .ok (.if_icmp .le 7, 3) := by decide +kernel
theorem dX16_optimise_11 : decode cX16_optimise 11 = .ok (.iconst 1, 1) := by decide +kernel
theorem dX16_optimise_12 : decode cX16_optimise 12 = .ok (.goto 15, 3) := by decide +kernel
theorem dX16_optimise_15 : decode cX16_optimise 15 = .ok (.aload_n 0, 1) := by decide +kernel
theorem dX16_optimise_16 : decode cX16_optimise 16 = .ok (.invokevirtual 229, 3) := by decide +kernel
theorem dX16_optimise_19 : decode cX16_optimise 19 = .ok (.ifCond .ne 7, 3) := by decide +kernel
theorem dX16_optimise_22 : decode cX16_optimise 22 = .ok (.iconst 2, 1) := by decide +kernel
theorem dX16_optimise_23 : decode cX16_optimise 23 = .ok (.goto 4, 3) := by decide +kernel
theorem dX16_optimise_27 : decode cX16_optimise 27 = .ok (.putfield 40, 3) := by decide +kernel
theorem dX16_optimise_30 : decode cX16_optimise 30 = .ok (.aload_n 0, 1) := by decide +kernel
theorem dX16_optimise_31 : decode cX16_optimise 31 = .ok (.getfield 40, 3) := by decide +kernel
theorem dX16_optimise_34 : decode cX16_optimise 34 = .ok (.ifCond .le 5, 3) := by decide +kernel
theorem dX16_optimise_37 : decode cX16_optimise 37 = .ok (.iconst 0, 1) := by decide +kernel
theorem dX16_optimise_38 : decode cX16_optimise 38 = .ok (.ireturn, 1) := by decide +kernel
theorem dX16_size_0 : decode cX16_size 0 = .ok (.aload_n 0, 1) := by decide +kernel
theorem dX16_size_1 : decode cX16_size 1 = .ok (.iconst 0, 1) := by decide +kernel
theorem dX16_size_2 : decode cX16_size 2 = .ok (.putfield 40, 3) := by decide +kernel
theorem dX16_size_5 : decode cX16_size 5 = .ok (.aload_n 0, 1) := by decide +kernel
theorem dX16_size_6 : decode cX16_size 6 = .ok (.getfield 93, 3) := by decide +kernel
theorem dX16_size_9 : decode cX16_size 9 = .ok (.ifnonnull 7, 3) := by decide +kernel
theorem dX16_size_12 : decode cX16_size 12 = .ok (.iconst 0, 1) := by decide +kernel
theorem dX16_size_13 : decode cX16_size 13 = .ok (.goto 10, 3) := by decide +kernel
theorem dX16_size_23 : decode cX16_size 23 = .ok (.ireturn, 1) := by decide +kernel
theorem dX16_orders_0 : decode cX16_orders 0 = .ok (.aload_n 0, 1) := by decide +kernel
theorem dX16_orders_1 : decode cX16_orders 1 = .ok (.aload_n 0, 1) := by decide +kernel
theorem dX16_orders_2 : decode cX16_orders 2 = .ok (.invokevirtual 229, 3) := by decide +kernel
theorem dX16_orders_5 : decode cX16_orders 5 = .ok (.ifCond .eq 7, 3) := by decide +kernel
theorem dX16_orders_12 : decode cX16_orders 12 = .ok (.iconst 1, 1) := by decide +kernel
theorem dX16_orders_13 : decode cX16_orders 13 = .ok (.putfield 40, 3) := by decide +kernel
theorem dX16_orders_16 : decode cX16_orders 16 = .ok (.aload_n 0, 1) := by decide +kernel
theorem dX16_orders_17 : decode cX16_orders 17 = .ok (.getfield 40, 3) := by decide +kernel
theorem dX16_orders_20 : decode cX16_orders 20 = .ok (.ifCond .le 7, 3) := by decide +kernel
theorem dX16_orders_23 : decode cX16_orders 23 = .ok (.iconst 0, 1) := by decide +kernel
theorem dX16_orders_24 : decode cX16_orders 24 = .ok (.goto 10, 3) := by decide +kernel
theorem dX16_orders_34 : decode cX16_orders 34 = .ok (.ireturn, 1) := by decide +kernel
theorem dX16_order_0 : decode cX16_order 0 = .ok (.aload_n 0, 1) := by decide +kernel
theorem dX16_order_1 : decode cX16_order 1 = .ok (.aload_n 0, 1) := by decide +kernel
theorem dX16_order_2 : decode cX16_order 2 = .ok (.iload_n 1, 1) := by decide +kernel
theorem dX16_order_3 : decode cX16_order 3 = .ok (.invokevirtual 296, 3) := by decide +kernel
theorem dX16_order_6 : decode cX16_order 6 = .ok (.ifCond .ne 7, 3) := by decide +kernel
theorem dX16_order_9 : decode cX16_order 9 = .ok (.iconst 1, 1) := by decide +kernel
theorem dX16_order_10 : decode cX16_order 10 = .ok (.goto 17, 3) := by decide +kernel
theorem dX16_order_27 : decode cX16_order 27 = .ok (.putfield 40, 3) := by decide +kernel
theorem dX16_order_30 : decode cX16_order 30 = .ok (.aload_n 0, 1) := by decide +kernel
theorem dX16_order_31 : decode cX16_order 31 = .ok (.getfield 40, 3) := by decide +kernel
theorem dX16_order_34 : decode cX16_order 34 = .ok (.ifCond .le 5, 3) := by decide +kernel
theorem dX16_order_37 : decode cX16_order 37 = .ok (.lconst 0, 1) := by decide +kernel
theorem dX16_order_38 : decode cX16_order 38 = .ok (.lreturn, 1) := by decide +kernel
theorem dX16_stop_0 : decode cX16_stop 0 = .ok (.aload_n 0, 1) := by decide +kernel
theorem dX16_stop_1 : decode cX16_stop 1 = .ok (.aload_n 0, 1) := by decide +kernel
theorem dX16_stop_2 : decode cX16_stop 2 = .ok (.iload_n 1, 1) := by decide +kernel
theorem dX16_stop_3 : decode cX16_stop 3 = .ok (.invokevirtual 296, 3) := by decide +kernel
theorem dX16_stop_6 : decode cX16_stop 6 = .ok (.ifCond .eq 7, 3) := by decide +kernel
theorem dX16_stop_13 : decode cX16_stop 13 = .ok (.iconst 1, 1) := by decide +kernel
theorem dX16_stop_14 : decode cX16_stop 14 = .ok (.putfield 40, 3) := by decide +kernel
theorem dX16_stop_17 : decode cX16_stop 17 = .ok (.aload_n 0, 1) := by decide +kernel
theorem dX16_stop_18 : decode cX16_stop 18 = .ok (.getfield 40, 3) := by decide +kernel
theorem dX16_stop_21 : decode cX16_stop 21 = .ok (.ifCond .le 5, 3) := by decide +kernel
theorem dX16_stop_24 : decode cX16_stop 24 = .ok (.iconst 0, 1) := by decide +kernel
theorem dX16_stop_25 : decode cX16_stop 25 = .ok (.ireturn, 1) := by decide +kernel
theorem dX16_go_0 : decode cX16_go 0 = .ok (.aload_n 0, 1) := by decide +kernel
theorem dX16_go_1 : decode cX16_go 1 = .ok (.iload_n 1, 1) := by decide +kernel
theorem dX16_go_2 : decode cX16_go 2 = .ok (.iconst 1, 1) := by decide +kernel
theorem dX16_go_3 : decode cX16_go 3 = .ok (.if_icmp .lt 10, 3) := by decide +kernel
theorem dX16_go_6 : decode cX16_go 6 = .ok (.iload_n 1, 1) := by decide +kernel
theorem dX16_go_7 : decode cX16_go 7 = .ok (.sipush 2000, 3) := by decide +kernel
theorem dX16_go_10 : decode cX16_go 10 = .ok (.if_icmp .le 7, 3) := by decide +kernel
theorem dX16_go_13 : decode cX16_go 13 = .ok (.iconst 1, 1) := by decide +kernel
theorem dX16_go_14 : decode cX16_go 14 = .ok (.goto 22, 3) := by decide +kernel
theorem dX16_go_17 : decode cX16_go 17 = .ok (.aload_n 0, 1) := by decide +kernel
theorem dX16_go_18 : decode cX16_go 18 = .ok (.invokevirtual 229, 3) := by decide +kernel
theorem dX16_go_21 : decode cX16_go 21 = .ok (.ifCond .eq 10, 3) := by decide +kernel
theorem dX16_go_31 : decode cX16_go 31 = .ok (.iconst 2, 1) := by decide +kernel
theorem dX16_go_32 : decode cX16_go 32 = .ok (.goto 4, 3) := by decide +kernel
theorem dX16_go_36 : decode cX16_go 36 = .ok (.putfield 40, 3) := by decide +kernel
theorem dX16_go_39 : decode cX16_go 39 = .ok (.aload_n 0, 1) := by decide +kernel
theorem dX16_go_40 : decode cX16_go 40 = .ok (.getfield 40, 3) := by decide +kernel
theorem dX16_go_43 : decode cX16_go 43 = .ok (.ifCond .le 5, 3) := by decide +kernel
theorem dX16_go_46 : decode cX16_go 46 = .ok (.iconst 0, 1) := by decide +kernel
theorem dX16_go_47 : decode cX16_go 47 = .ok (.ireturn, 1) := by decide +kernel
theorem dX16_again_0 : decode cX16_again 0 = .ok (.aload_n 0, 1) := by decide +kernel
theorem dX16_again_1 : decode cX16_again 1 = .ok (.aload_n 0, 1) := by decide +kernel
theorem dX16_again_2 : decode cX16_again 2 = .ok (.invokevirtual 229, 3) := by decide +kernel
theorem dX16_again_5 : decode cX16_again 5 = .ok (.ifCond .eq 7, 3) := by decide +kernel
theorem dX16_again_12 : decode cX16_again 12 = .ok (.iconst 1, 1) := by decide +kernel
theorem dX16_again_13 : decode cX16_again 13 = .ok (.putfield 40, 3) := by decide +kernel
theorem dX16_again_16 : decode cX16_again 16 = .ok (.aload_n 0, 1) := by decide +kernel
theorem dX16_again_17 : decode cX16_again 17 = .ok (.getfield 40, 3) := by decide +kernel
theorem dX16_again_20 : decode cX16_again 20 = .ok (.ifCond .ne 7, 3) := by decide +kernel
theorem dX16_again_27 : decode cX16_again 27 = .ok (.return_, 1) := by decide +kernel
theorem dX16_state_0 : decode cX16_state 0 = .ok (.aload_n 0, 1) := by decide +kernel
theorem dX16_state_1 : decode cX16_state 1 = .ok (.aload_n 0, 1) := by decide +kernel
theorem dX16_state_2 : decode cX16_state 2 = .ok (.invokevirtual 229, 3) := by decide +kernel
theorem dX16_state_5 : decode cX16_state 5 = .ok (.ifCond .eq 7, 3) := by decide +kernel
theorem dX16_state_12 : decode cX16_state 12 = .ok (.iconst 1, 1) := by decide +kernel
theorem dX16_state_13 : decode cX16_state 13 = .ok (.putfield 40, 3) := by decide +kernel
theorem dX16_state_16 : decode cX16_state 16 = .ok (.aload_n 0, 1) := by decide +kernel
theorem dX16_state_17 : decode cX16_state 17 = .ok (.getfield 40, 3) := by decide +kernel
theorem dX16_state_20 : decode cX16_state 20 = .ok (.ifCond .le 7, 3) := by decide +kernel
theorem dX16_state_23 : decode cX16_state 23 = .ok (.iconst 0, 1) := by decide +kernel
theorem dX16_state_24 : decode cX16_state 24 = .ok (.goto 7, 3) := by decide +kernel
theorem dX16_state_31 : decode cX16_state 31 = .ok (.ireturn, 1) := by decide +kernel
theorem dX16_value_0 : decode cX16_value 0 = .ok (.aload_n 0, 1) := by decide +kernel
theorem dX16_value_1 : decode cX16_value 1 = .ok (.aload_n 0, 1) := by decide +kernel
theorem dX16_value_2 : decode cX16_value 2 = .ok (.invokevirtual 229, 3) := by decide +kernel
theorem dX16_value_5 : decode cX16_value 5 = .ok (.ifCond .eq 23, 3) := by decide +kernel
theorem dX16_value_28 : decode cX16_value 28 = .ok (.iconst 1, 1) := by decide +kernel
theorem dX16_value_29 : decode cX16_value 29 = .ok (.putfield 40, 3) := by decide +kernel
theorem dX16_value_32 : decode cX16_value 32 = .ok (.aload_n 0, 1) := by decide +kernel
theorem dX16_value_33 : decode cX16_value 33 = .ok (.getfield 40, 3) := by decide +kernel
theorem dX16_value_36 : decode cX16_value 36 = .ok (.ifCond .le 7, 3) := by decide +kernel
theorem dX16_value_39 : decode cX16_value 39 = .ok (.lconst 0, 1) := by decide +kernel
theorem dX16_value_40 : decode cX16_value 40 = .ok (.goto 7, 3) := by decide +kernel
theorem dX16_value_47 : decode cX16_value 47 = .ok (.lreturn, 1) := by decide +kernel
theorem dX16_machine_0 : decode cX16_machine 0 = .ok (.aload_n 0, 1) := by decide +kernel
theorem dX16_machine_1 : decode cX16_machine 1 = .ok (.iload_n 1, 1) := by decide +kernel
theorem dX16_machine_2 : decode cX16_machine 2 = .ok (.ifCond .lt 8, 3) := by decide +kernel
theorem dX16_machine_5 : decode cX16_machine 5 = .ok (.iload_n 1, 1) := by decide +kernel
theorem dX16_machine_6 : decode cX16_machine 6 = .ok (.iconst 5, 1) := by decide +kernel
theorem dX16_machine_7 : decode cX16_machine 7 = .ok (.if_icmp .le 7, 3) := by decide +kernel
theorem dX16_machine_10 : decode cX16_machine 10 = .ok (.iconst 1, 1) := by decide +kernel
theorem dX16_machine_11 : decode cX16_machine 11 = .ok (.goto 15, 3) := by decide +kernel
theorem dX16_machine_14 : decode cX16_machine 14 = .ok (.aload_n 0, 1) := by decide +kernel
theorem dX16_machine_15 : decode cX16_machine 15 = .ok (.invokevirtual 229, 3) := by decide +kernel
theorem dX16_machine_18 : decode cX16_machine 18 = .ok (.ifCond .ne 7, 3) := by decide +kernel
theorem dX16_machine_21 : decode cX16_machine 21 = .ok (.iconst 2, 1) := by decide +kernel
theorem dX16_machine_22 : decode cX16_machine 22 = .ok (.goto 4, 3) := by decide +kernel
theorem dX16_machine_26 : decode cX16_machine 26 = .ok (.putfield 40, 3) := by decide +kernel
theorem dX16_machine_29 : decode cX16_machine 29 = .ok (.aload_n 0, 1) := by decide +kernel
theorem dX16_machine_30 : decode cX16_machine 30 = .ok (.getfield 40, 3) := by decide +kernel
theorem dX16_machine_33 : decode cX16_machine 33 = .ok (.ifCond .le 5, 3) := by decide +kernel
theorem dX16_machine_36 : decode cX16_machine 36 = .ok (.iconst 0, 1) := by decide +kernel
theorem dX16_machine_37 : decode cX16_machine 37 = .ok (.ireturn, 1) := by decide +kernel
theorem dX16_stateAnew_0 : decode cX16_stateAnew 0 = .ok (.aload_n 0, 1) := by decide +kernel
theorem dX16_stateAnew_1 : decode cX16_stateAnew 1 = .ok (.aload_n 0, 1) := by decide +kernel
theorem dX16_stateAnew_2 : decode cX16_stateAnew 2 = .ok (.invokevirtual 229, 3) := by decide +kernel
theorem dX16_stateAnew_5 : decode cX16_stateAnew 5 = .ok (.ifCond .eq 7, 3) := by decide +kernel
theorem dX16_stateAnew_12 : decode cX16_stateAnew 12 = .ok (.iconst 1, 1) := by decide +kernel
theorem dX16_stateAnew_13 : decode cX16_stateAnew 13 = .ok (.putfield 40, 3) := by decide +kernel
theorem dX16_stateAnew_16 : decode cX16_stateAnew 16 = .ok (.aload_n 0, 1) := by decide +kernel
theorem dX16_stateAnew_17 : decode cX16_stateAnew 17 = .ok (.getfield 40, 3) := by decide +kernel
theorem dX16_stateAnew_20 : decode cX16_stateAnew 20 = .ok (.ifCond .le 7, 3) := by decide +kernel
theorem dX16_stateAnew_23 : decode cX16_stateAnew 23 = .ok (.iconst 0, 1) := by decide +kernel
theorem dX16_stateAnew_24 : decode cX16_stateAnew 24 = .ok (.goto 7, 3) := by decide +kernel
theorem dX16_stateAnew_31 : decode cX16_stateAnew 31 = .ok (.ireturn, 1) := by decide +kernel
theorem dX16_valueAnew_0 : decode cX16_valueAnew 0 = .ok (.aload_n 0, 1) := by decide +kernel
theorem dX16_valueAnew_1 : decode cX16_valueAnew 1 = .ok (.aload_n 0, 1) := by decide +kernel
theorem dX16_valueAnew_2 : decode cX16_valueAnew 2 = .ok (.invokevirtual 229, 3) := by decide +kernel
theorem dX16_valueAnew_5 : decode cX16_valueAnew 5 = .ok (.ifCond .eq 7, 3) := by decide +kernel
theorem dX16_valueAnew_12 : decode cX16_valueAnew 12 = .ok (.iconst 1, 1) := by decide +kernel
theorem dX16_valueAnew_13 : decode cX16_valueAnew 13 = .ok (.putfield 40, 3) := by decide +kernel
theorem dX16_valueAnew_16 : decode cX16_valueAnew 16 = .ok (.aload_n 0, 1) := by decide +kernel
theorem dX16_valueAnew_17 : decode cX16_valueAnew 17 = .ok (.getfield 40, 3) := by decide +kernel
theorem dX16_valueAnew_20 : decode cX16_valueAnew 20 = .ok (.ifCond .le 5, 3) := by decide +kernel
theorem dX16_valueAnew_23 : decode cX16_valueAnew 23 = .ok (.lconst 0, 1) := by decide +kernel
theorem dX16_valueAnew_24 : decode cX16_valueAnew 24 = .ok (.lreturn, 1) := by decide +kernel
set_option maxRecDepth 20000 in
def z_M_let_neg : List Cond := .code yX16_let cX16_let 2 (some .int) :: (([.methodLink RX16 74 yX16_isName, .static yX16_isName, .initialized RX16, .code yX16_isName cX16_isName 1 (some .boolean), .fieldLink RX16 40 "SelfkindleModel" "thrown" "I"] : List Cond) ++ wsX160)
theorem in_z_M_let_neg_X16 : ∀ w ∈ wsX160, w ∈ z_M_let_neg := fun w h => List.mem_cons_of_mem _ (List.mem_append_right _ (h))
set_option maxRecDepth 20000 in
theorem g_M_let_neg_2 : GoodIn z_M_let_neg (va_wsS RX16 74 yX16_isName z_isN_neg) := goodIn_p _ [4] rfl (by decide +kernel)
set_option maxHeartbeats 4000000 in
set_option maxRecDepth 100000 in
theorem c_M_let_neg (l : Launch) (dC : Nat → ClassId) (dI : Nat → Nat → Nat) (tp te : Nat) (sz : Nat) (h0 : Nat) (lp : Nat) (m1 : Nat) (m2 : Nat) (m3 : Nat) (m4 : Nat) (m5 : Nat) (m6 : Nat) (m7 : Nat) (m8 : Nat) (p0 : Int32) (hvn : p0 < 0) : Met l yX16_let z_M_let_neg ({ frames := 1, cells := 0, slots := 0, locals := 20 }) (va_Pc [.ref h0, .int p0] (Pw dC dI [(h0, .inr (17, [.ref lp, .null, .null, .int 0, .int 0, .ref m1, .ref m2, .ref m3, .ref m4, .ref m5, .null, .null, .int 0, .ref m6, .int 0, .int 0, .int 0, .long 0, .null, .ref m7, .ref m8, .int 0, .int 0, .long 0])), (lp, .inr (0, [.int 0, .ref te, .int 0]))] [] sz tp te)) (va_Qi (fun (r : Int32) (_ : Unit) => r = 0) (fun (_ : Unit) (t : State) => Bw dC dI [(h0, .inr (17, [.ref lp, .null, .null, .int 0, .int 1, .ref m1, .ref m2, .ref m3, .ref m4, .ref m5, .null, .null, .int 0, .ref m6, .int 0, .int 0, .int 0, .long 0, .null, .ref m7, .ref m8, .int 0, .int 0, .long 0]))] [] (va_A [(h0, .inr (17, [.ref lp, .null, .null, .int 0, .int 0, .ref m1, .ref m2, .ref m3, .ref m4, .ref m5, .null, .null, .int 0, .ref m6, .int 0, .int 0, .int 0, .long 0, .null, .ref m7, .ref m8, .int 0, .int 0, .long 0])), (lp, .inr (0, [.int 0, .ref te, .int 0]))] sz) t) (va_A [(h0, .inr (17, [.ref lp, .null, .null, .int 0, .int 0, .ref m1, .ref m2, .ref m3, .ref m4, .ref m5, .null, .null, .int 0, .ref m6, .int 0, .int 0, .int 0, .long 0, .null, .ref m7, .ref m8, .int 0, .int 0, .long 0])), (lp, .inr (0, [.int 0, .ref te, .int 0]))] sz)) 0 0 (va_A [(h0, .inr (17, [.ref lp, .null, .null, .int 0, .int 0, .ref m1, .ref m2, .ref m3, .ref m4, .ref m5, .null, .null, .int 0, .ref m6, .int 0, .int 0, .int 0, .long 0, .null, .ref m7, .ref m8, .int 0, .int 0, .long 0])), (lp, .inr (0, [.int 0, .ref te, .int 0]))] sz) := by
  refine Met.ofW (cc := cX16_let) (maxL := 2) (ret := (some .int)) (by decide) rfl ?_
  intro p e s m args below meth c s₁ B hml hv
  obtain ⟨rfl, hsz, hP, hK, hD0, hG⟩ := hv
  have hx := B.exec
  have hb := B.bytes
  have hr := B.returns
  have hts := atoms_spec (ws := z_M_let_neg) B.pre
  have hown : s.vm.findClass RX16 = some m.cls := findClass_of_methodNamed B.named
  have hlocks := B.notSynchronized
  subst hsz
  have hD := hD0.self (sz := s.heap.size)
  generalize hAe : va_A [(h0, .inr (17, [.ref lp, .null, .null, .int 0, .int 0, .ref m1, .ref m2, .ref m3, .ref m4, .ref m5, .null, .null, .int 0, .ref m6, .int 0, .int 0, .int 0, .long 0, .null, .ref m7, .ref m8, .int 0, .int 0, .long 0])), (lp, .inr (0, [.int 0, .ref te, .int 0]))] s.heap.size = A at hD hG ⊢
  have hA : ∀ q : Nat, s.heap.size ≤ q → A q := fun q h => by rw [← hAe]; exact Or.inr h
  have hS : va_S A s.heap s.heap [] := va_S.rf
  have hl := lv_entry ([.ref h0, .int p0]) (n := 2) (Nat.le_of_ble_eq_true rfl)
  rw [lg_entry_eq]
  generalize (lg_sl ([.ref h0, .int p0]) ++ List.replicate (2 - (lg_sl ([.ref h0, .int p0])).length) Slot.unset).toArray = ls at hl ⊢
  have hl : lv_has ls 2 [(0, .ref h0), (1, .int p0)] := hl
  refine lv_aload_n hx hb dX16_let_0 rfl (lv_at hl 0 rfl) ?_
  refine lv_iload_n hx hb dX16_let_1 rfl (lv_at hl 1 rfl) ?_
  have hPc := hP.sub (ws' := []) [] rfl
  have hDc := hD.sub (ws' := []) [] (by decide) rfl
  have hKc := hK.sub (tys' := []) [] rfl
  have hFc := va_free (wc := []) hD hS hA [] rfl
  refine va_calli (va_runS (As := [.int p0]) (rest := [.ref h0]) ⟨hx, hb, hml, hown, hts⟩ (c_isN_neg l dC dI tp te s.heap.size p0 hvn) (va_cwS 1 hts g_M_let_neg_2 rfl rfl rfl (by decide +kernel) ⟨Nat.le_of_ble_eq_true rfl, Nat.le_of_ble_eq_true rfl⟩) ⟨Pw.blind, Pw.mk hPc hKc hDc hG hS hFc⟩ rfl rfl hl.1 rfl (lv_room (Nat.le_of_ble_eq_true rfl)) dX16_let_2 ⟨Nat.le_of_ble_eq_true rfl, Nat.le_of_ble_eq_true rfl⟩) hS (fun q _ h => hFc q h) hFc (fun r u t9 H_1 locs ht hvm hw hB hz1 hk1 hS => ?_)
  have hw : r = 0 := hw
  subst hw
  obtain ⟨hP, hD⟩ := va_join (wr := [(h0, .inr (17, [.ref lp, .null, .null, .int 0, .int 0, .ref m1, .ref m2, .ref m3, .ref m4, .ref m5, .null, .null, .int 0, .ref m6, .int 0, .int 0, .int 0, .long 0, .null, .ref m7, .ref m8, .int 0, .int 0, .long 0])), (lp, .inr (0, [.int 0, .ref te, .int 0]))]) (w1 := []) hP hD [] [0, 1] rfl rfl (by decide) (by decide) hk1 hFc va_P.nil va_D.nil
  have hK := hK.sub (tys' := []) [] rfl
  have hP : va_P (dC, dI) vwCl [(h0, .inr (17, [.ref lp, .null, .null, .int 0, .int 0, .ref m1, .ref m2, .ref m3, .ref m4, .ref m5, .null, .null, .int 0, .ref m6, .int 0, .int 0, .int 0, .long 0, .null, .ref m7, .ref m8, .int 0, .int 0, .long 0])), (lp, .inr (0, [.int 0, .ref te, .int 0]))] H_1 := hP
  have hD : va_D A [(h0, .inr (17, [.ref lp, .null, .null, .int 0, .int 0, .ref m1, .ref m2, .ref m3, .ref m4, .ref m5, .null, .null, .int 0, .ref m6, .int 0, .int 0, .int 0, .long 0, .null, .ref m7, .ref m8, .int 0, .int 0, .long 0])), (lp, .inr (0, [.int 0, .ref te, .int 0]))] := hD
  have hK : va_K (dC, dI) vwCl [] s := hK
  refine W.widen (k := 0) (n := 0) (Nat.le_of_ble_eq_true rfl) (Nat.le_of_ble_eq_true rfl) ?_
  refine lv_if_ne (tgt := 12) hx hb dX16_let_5 (by decide) (fun c9 => absurd (by decide) c9) (fun c9 => ?_)
  refine lv_iconst (v := 1) hx hb dX16_let_8 (by decide) ?_
  refine lv_goto (tgt := 25) hx hb dX16_let_9 (by decide) ?_
  refine va_put (D := (dC, dI)) (ci := 17) (v := .int 1) (ty := .int) (C := RX16) (T := TX16) (N := 24) hx hb hts in_z_M_let_neg_X16 tyX16 tyX16_ok nmX16 hown hK hP hD hS 0 rfl rfl 4 (by decide) (hts (.fieldLink RX16 40 "SelfkindleModel" "thrown" "I") (List.mem_of_getElem? (i := 5) rfl)) (fun _ h9 => h9) rfl (by decide +kernel) rfl rfl (Nat.le_of_ble_eq_true rfl) dX16_let_25 (fun H_3 locs hP hD hS => ?_)
  have hP : va_P (dC, dI) vwCl [(h0, .inr (17, [.ref lp, .null, .null, .int 0, .int 1, .ref m1, .ref m2, .ref m3, .ref m4, .ref m5, .null, .null, .int 0, .ref m6, .int 0, .int 0, .int 0, .long 0, .null, .ref m7, .ref m8, .int 0, .int 0, .long 0])), (lp, .inr (0, [.int 0, .ref te, .int 0]))] H_3 := hP
  have hD : va_D A [(h0, .inr (17, [.ref lp, .null, .null, .int 0, .int 1, .ref m1, .ref m2, .ref m3, .ref m4, .ref m5, .null, .null, .int 0, .ref m6, .int 0, .int 0, .int 0, .long 0, .null, .ref m7, .ref m8, .int 0, .int 0, .long 0])), (lp, .inr (0, [.int 0, .ref te, .int 0]))] := hD
  have hK : va_K (dC, dI) vwCl [] s := hK
  refine lv_aload_n hx hb dX16_let_28 rfl (lv_at hl 0 rfl) ?_
  refine va_get (D := (dC, dI)) (ci := 17) (v := .int 1) (C := RX16) (T := TX16) (N := 24) hx hb hts in_z_M_let_neg_X16 hown hK hP 0 rfl rfl 4 (by decide) (hts (.fieldLink RX16 40 "SelfkindleModel" "thrown" "I") (List.mem_of_getElem? (i := 5) rfl)) (fun _ h9 => h9) rfl dX16_let_29 ?_
  refine lv_if_le (tgt := 39) hx hb dX16_let_32 (by decide) (fun c9 => absurd c9 (by decide)) (fun c9 => ?_)
  refine lv_iconst (v := 0) hx hb dX16_let_35 (by decide) ?_
  refine lv_goto (tgt := 49) hx hb dX16_let_36 (by decide) ?_
  have hP := hP.sub (ws' := [(h0, .inr (17, [.ref lp, .null, .null, .int 0, .int 1, .ref m1, .ref m2, .ref m3, .ref m4, .ref m5, .null, .null, .int 0, .ref m6, .int 0, .int 0, .int 0, .long 0, .null, .ref m7, .ref m8, .int 0, .int 0, .long 0]))]) [0] rfl
  have hD := hD.sub (ws' := [(h0, .inr (17, [.ref lp, .null, .null, .int 0, .int 1, .ref m1, .ref m2, .ref m3, .ref m4, .ref m5, .null, .null, .int 0, .ref m6, .int 0, .int 0, .int 0, .long 0, .null, .ref m7, .ref m8, .int 0, .int 0, .long 0]))]) [0] (by decide) rfl
  have hK := hK.sub (tys' := []) [] rfl
  refine W.widen (k := 0) (n := 0) (Nat.le_of_ble_eq_true rfl) (Nat.le_of_ble_eq_true rfl) ?_
  exact W.iret (v := 0) hx hb hr (fun t ht hW => ⟨⟨0, (), rfl, rfl, ⟨by rw [ht]; exact hP, va_K.moved hW.alike hK, hD⟩⟩, hS.F ht⟩) hS.2.2 dX16_let_49

set_option maxRecDepth 20000 in
def z_M_let_big : List Cond := .code yX16_let cX16_let 2 (some .int) :: (([.methodLink RX16 74 yX16_isName, .static yX16_isName, .initialized RX16, .code yX16_isName cX16_isName 1 (some .boolean), .fieldLink RX16 40 "SelfkindleModel" "thrown" "I"] : List Cond) ++ wsX160)
theorem in_z_M_let_big_X16 : ∀ w ∈ wsX160, w ∈ z_M_let_big := fun w h => List.mem_cons_of_mem _ (List.mem_append_right _ (h))
set_option maxRecDepth 20000 in
theorem g_M_let_big_2 : GoodIn z_M_let_big (va_wsS RX16 74 yX16_isName z_isN_big) := goodIn_p _ [4] rfl (by decide +kernel)
set_option maxHeartbeats 4000000 in
set_option maxRecDepth 100000 in
theorem c_M_let_big (l : Launch) (dC : Nat → ClassId) (dI : Nat → Nat → Nat) (tp te : Nat) (sz : Nat) (h0 : Nat) (lp : Nat) (m1 : Nat) (m2 : Nat) (m3 : Nat) (m4 : Nat) (m5 : Nat) (m6 : Nat) (m7 : Nat) (m8 : Nat) (p0 : Int32) (hvn : ¬ p0 < 0) (hvb : ¬ p0 < 10) (hvc : 10 ≤ p0) : Met l yX16_let z_M_let_big ({ frames := 1, cells := 0, slots := 0, locals := 20 }) (va_Pc [.ref h0, .int p0] (Pw dC dI [(h0, .inr (17, [.ref lp, .null, .null, .int 0, .int 0, .ref m1, .ref m2, .ref m3, .ref m4, .ref m5, .null, .null, .int 0, .ref m6, .int 0, .int 0, .int 0, .long 0, .null, .ref m7, .ref m8, .int 0, .int 0, .long 0])), (lp, .inr (0, [.int 0, .ref te, .int 0]))] [] sz tp te)) (va_Qi (fun (r : Int32) (_ : Unit) => r = 0) (fun (_ : Unit) (t : State) => Bw dC dI [(h0, .inr (17, [.ref lp, .null, .null, .int 0, .int 1, .ref m1, .ref m2, .ref m3, .ref m4, .ref m5, .null, .null, .int 0, .ref m6, .int 0, .int 0, .int 0, .long 0, .null, .ref m7, .ref m8, .int 0, .int 0, .long 0]))] [] (va_A [(h0, .inr (17, [.ref lp, .null, .null, .int 0, .int 0, .ref m1, .ref m2, .ref m3, .ref m4, .ref m5, .null, .null, .int 0, .ref m6, .int 0, .int 0, .int 0, .long 0, .null, .ref m7, .ref m8, .int 0, .int 0, .long 0])), (lp, .inr (0, [.int 0, .ref te, .int 0]))] sz) t) (va_A [(h0, .inr (17, [.ref lp, .null, .null, .int 0, .int 0, .ref m1, .ref m2, .ref m3, .ref m4, .ref m5, .null, .null, .int 0, .ref m6, .int 0, .int 0, .int 0, .long 0, .null, .ref m7, .ref m8, .int 0, .int 0, .long 0])), (lp, .inr (0, [.int 0, .ref te, .int 0]))] sz)) 0 0 (va_A [(h0, .inr (17, [.ref lp, .null, .null, .int 0, .int 0, .ref m1, .ref m2, .ref m3, .ref m4, .ref m5, .null, .null, .int 0, .ref m6, .int 0, .int 0, .int 0, .long 0, .null, .ref m7, .ref m8, .int 0, .int 0, .long 0])), (lp, .inr (0, [.int 0, .ref te, .int 0]))] sz) := by
  refine Met.ofW (cc := cX16_let) (maxL := 2) (ret := (some .int)) (by decide) rfl ?_
  intro p e s m args below meth c s₁ B hml hv
  obtain ⟨rfl, hsz, hP, hK, hD0, hG⟩ := hv
  have hx := B.exec
  have hb := B.bytes
  have hr := B.returns
  have hts := atoms_spec (ws := z_M_let_big) B.pre
  have hown : s.vm.findClass RX16 = some m.cls := findClass_of_methodNamed B.named
  have hlocks := B.notSynchronized
  subst hsz
  have hD := hD0.self (sz := s.heap.size)
  generalize hAe : va_A [(h0, .inr (17, [.ref lp, .null, .null, .int 0, .int 0, .ref m1, .ref m2, .ref m3, .ref m4, .ref m5, .null, .null, .int 0, .ref m6, .int 0, .int 0, .int 0, .long 0, .null, .ref m7, .ref m8, .int 0, .int 0, .long 0])), (lp, .inr (0, [.int 0, .ref te, .int 0]))] s.heap.size = A at hD hG ⊢
  have hA : ∀ q : Nat, s.heap.size ≤ q → A q := fun q h => by rw [← hAe]; exact Or.inr h
  have hS : va_S A s.heap s.heap [] := va_S.rf
  have hl := lv_entry ([.ref h0, .int p0]) (n := 2) (Nat.le_of_ble_eq_true rfl)
  rw [lg_entry_eq]
  generalize (lg_sl ([.ref h0, .int p0]) ++ List.replicate (2 - (lg_sl ([.ref h0, .int p0])).length) Slot.unset).toArray = ls at hl ⊢
  have hl : lv_has ls 2 [(0, .ref h0), (1, .int p0)] := hl
  refine lv_aload_n hx hb dX16_let_0 rfl (lv_at hl 0 rfl) ?_
  refine lv_iload_n hx hb dX16_let_1 rfl (lv_at hl 1 rfl) ?_
  have hPc := hP.sub (ws' := []) [] rfl
  have hDc := hD.sub (ws' := []) [] (by decide) rfl
  have hKc := hK.sub (tys' := []) [] rfl
  have hFc := va_free (wc := []) hD hS hA [] rfl
  refine va_calli (va_runS (As := [.int p0]) (rest := [.ref h0]) ⟨hx, hb, hml, hown, hts⟩ (c_isN_big l dC dI tp te s.heap.size p0 hvn hvb hvc) (va_cwS 1 hts g_M_let_big_2 rfl rfl rfl (by decide +kernel) ⟨Nat.le_of_ble_eq_true rfl, Nat.le_of_ble_eq_true rfl⟩) ⟨Pw.blind, Pw.mk hPc hKc hDc hG hS hFc⟩ rfl rfl hl.1 rfl (lv_room (Nat.le_of_ble_eq_true rfl)) dX16_let_2 ⟨Nat.le_of_ble_eq_true rfl, Nat.le_of_ble_eq_true rfl⟩) hS (fun q _ h => hFc q h) hFc (fun r u t9 H_1 locs ht hvm hw hB hz1 hk1 hS => ?_)
  have hw : r = 0 := hw
  subst hw
  obtain ⟨hP, hD⟩ := va_join (wr := [(h0, .inr (17, [.ref lp, .null, .null, .int 0, .int 0, .ref m1, .ref m2, .ref m3, .ref m4, .ref m5, .null, .null, .int 0, .ref m6, .int 0, .int 0, .int 0, .long 0, .null, .ref m7, .ref m8, .int 0, .int 0, .long 0])), (lp, .inr (0, [.int 0, .ref te, .int 0]))]) (w1 := []) hP hD [] [0, 1] rfl rfl (by decide) (by decide) hk1 hFc va_P.nil va_D.nil
  have hK := hK.sub (tys' := []) [] rfl
  have hP : va_P (dC, dI) vwCl [(h0, .inr (17, [.ref lp, .null, .null, .int 0, .int 0, .ref m1, .ref m2, .ref m3, .ref m4, .ref m5, .null, .null, .int 0, .ref m6, .int 0, .int 0, .int 0, .long 0, .null, .ref m7, .ref m8, .int 0, .int 0, .long 0])), (lp, .inr (0, [.int 0, .ref te, .int 0]))] H_1 := hP
  have hD : va_D A [(h0, .inr (17, [.ref lp, .null, .null, .int 0, .int 0, .ref m1, .ref m2, .ref m3, .ref m4, .ref m5, .null, .null, .int 0, .ref m6, .int 0, .int 0, .int 0, .long 0, .null, .ref m7, .ref m8, .int 0, .int 0, .long 0])), (lp, .inr (0, [.int 0, .ref te, .int 0]))] := hD
  have hK : va_K (dC, dI) vwCl [] s := hK
  refine W.widen (k := 0) (n := 0) (Nat.le_of_ble_eq_true rfl) (Nat.le_of_ble_eq_true rfl) ?_
  refine lv_if_ne (tgt := 12) hx hb dX16_let_5 (by decide) (fun c9 => absurd (by decide) c9) (fun c9 => ?_)
  refine lv_iconst (v := 1) hx hb dX16_let_8 (by decide) ?_
  refine lv_goto (tgt := 25) hx hb dX16_let_9 (by decide) ?_
  refine va_put (D := (dC, dI)) (ci := 17) (v := .int 1) (ty := .int) (C := RX16) (T := TX16) (N := 24) hx hb hts in_z_M_let_big_X16 tyX16 tyX16_ok nmX16 hown hK hP hD hS 0 rfl rfl 4 (by decide) (hts (.fieldLink RX16 40 "SelfkindleModel" "thrown" "I") (List.mem_of_getElem? (i := 5) rfl)) (fun _ h9 => h9) rfl (by decide +kernel) rfl rfl (Nat.le_of_ble_eq_true rfl) dX16_let_25 (fun H_3 locs hP hD hS => ?_)
  have hP : va_P (dC, dI) vwCl [(h0, .inr (17, [.ref lp, .null, .null, .int 0, .int 1, .ref m1, .ref m2, .ref m3, .ref m4, .ref m5, .null, .null, .int 0, .ref m6, .int 0, .int 0, .int 0, .long 0, .null, .ref m7, .ref m8, .int 0, .int 0, .long 0])), (lp, .inr (0, [.int 0, .ref te, .int 0]))] H_3 := hP
  have hD : va_D A [(h0, .inr (17, [.ref lp, .null, .null, .int 0, .int 1, .ref m1, .ref m2, .ref m3, .ref m4, .ref m5, .null, .null, .int 0, .ref m6, .int 0, .int 0, .int 0, .long 0, .null, .ref m7, .ref m8, .int 0, .int 0, .long 0])), (lp, .inr (0, [.int 0, .ref te, .int 0]))] := hD
  have hK : va_K (dC, dI) vwCl [] s := hK
  refine lv_aload_n hx hb dX16_let_28 rfl (lv_at hl 0 rfl) ?_
  refine va_get (D := (dC, dI)) (ci := 17) (v := .int 1) (C := RX16) (T := TX16) (N := 24) hx hb hts in_z_M_let_big_X16 hown hK hP 0 rfl rfl 4 (by decide) (hts (.fieldLink RX16 40 "SelfkindleModel" "thrown" "I") (List.mem_of_getElem? (i := 5) rfl)) (fun _ h9 => h9) rfl dX16_let_29 ?_
  refine lv_if_le (tgt := 39) hx hb dX16_let_32 (by decide) (fun c9 => absurd c9 (by decide)) (fun c9 => ?_)
  refine lv_iconst (v := 0) hx hb dX16_let_35 (by decide) ?_
  refine lv_goto (tgt := 49) hx hb dX16_let_36 (by decide) ?_
  have hP := hP.sub (ws' := [(h0, .inr (17, [.ref lp, .null, .null, .int 0, .int 1, .ref m1, .ref m2, .ref m3, .ref m4, .ref m5, .null, .null, .int 0, .ref m6, .int 0, .int 0, .int 0, .long 0, .null, .ref m7, .ref m8, .int 0, .int 0, .long 0]))]) [0] rfl
  have hD := hD.sub (ws' := [(h0, .inr (17, [.ref lp, .null, .null, .int 0, .int 1, .ref m1, .ref m2, .ref m3, .ref m4, .ref m5, .null, .null, .int 0, .ref m6, .int 0, .int 0, .int 0, .long 0, .null, .ref m7, .ref m8, .int 0, .int 0, .long 0]))]) [0] (by decide) rfl
  have hK := hK.sub (tys' := []) [] rfl
  refine W.widen (k := 0) (n := 0) (Nat.le_of_ble_eq_true rfl) (Nat.le_of_ble_eq_true rfl) ?_
  exact W.iret (v := 0) hx hb hr (fun t ht hW => ⟨⟨0, (), rfl, rfl, ⟨by rw [ht]; exact hP, va_K.moved hW.alike hK, hD⟩⟩, hS.F ht⟩) hS.2.2 dX16_let_49

set_option maxRecDepth 20000 in
def z_M_let_ok : List Cond := .code yX16_let cX16_let 2 (some .int) :: (([.methodLink RX16 74 yX16_isName, .static yX16_isName, .initialized RX16, .code yX16_isName cX16_isName 1 (some .boolean), .methodLink RX16 78 yX16_fits, .instanceMethod yX16_fits, .selects RX16 yX16_fits yX16_fits, .code yX16_fits cX16_fits 5 (some .boolean), .fieldLink RX16 10 "SelfkindleModel" "pile" "Ljava/util/ArrayList;", .methodLink RX16 44 yJx4a65c_size_8abf5, .instanceMethod yJx4a65c_size_8abf5, .selects RJx4a65c yJx4a65c_size_8abf5 yJx4a65c_size_8abf5, .initialized RJx4a65c, .code yJx4a65c_size_8abf5 cJx4a65c_size_8abf5 1 (some .int), .fieldLink RJx4a65c 48 "java/util/ArrayList" "size" "I", .fieldLink RX16 40 "SelfkindleModel" "thrown" "I"] : List Cond) ++ wsX160 ++ wsJx4a65c0)
theorem in_z_M_let_ok_X16 : ∀ w ∈ wsX160, w ∈ z_M_let_ok := fun w h => List.mem_cons_of_mem _ (List.mem_append_left _ (List.mem_append_right _ (h)))
theorem in_z_M_let_ok_Jx4a65c : ∀ w ∈ wsJx4a65c0, w ∈ z_M_let_ok := fun w h => List.mem_cons_of_mem _ (List.mem_append_right _ (h))
set_option maxRecDepth 20000 in
theorem g_M_let_ok_2 : GoodIn z_M_let_ok (va_wsS RX16 74 yX16_isName z_isN_ok) := goodIn_p _ [4] rfl (by decide +kernel)
set_option maxRecDepth 20000 in
theorem g_M_let_ok_14 : GoodIn z_M_let_ok (wsV RX16 78 RX16 yX16_fits z_fits2) := goodIn_p _ [8, 14] rfl (by decide +kernel)
set_option maxHeartbeats 4000000 in
set_option maxRecDepth 100000 in
theorem c_M_let_ok (l : Launch) (dC : Nat → ClassId) (dI : Nat → Nat → Nat) (tp te : Nat) (sz : Nat) (h0 : Nat) (lp : Nat) (m1 : Nat) (m2 : Nat) (m3 : Nat) (m4 : Nat) (m5 : Nat) (m6 : Nat) (m7 : Nat) (m8 : Nat) (p0 : Int32) (hvn : ¬ p0 < 0) (hvb : p0 < 10) (hvc : ¬ 10 ≤ p0) : Met l yX16_let z_M_let_ok ({ frames := 2, cells := 0, slots := 0, locals := 44 }) (va_Pc [.ref h0, .int p0] (Pw dC dI [(h0, .inr (17, [.ref lp, .null, .null, .int 0, .int 0, .ref m1, .ref m2, .ref m3, .ref m4, .ref m5, .null, .null, .int 0, .ref m6, .int 0, .int 0, .int 0, .long 0, .null, .ref m7, .ref m8, .int 0, .int 0, .long 0])), (lp, .inr (0, [.int 0, .ref te, .int 0]))] [] sz tp te)) (va_Qi (fun (r : Int32) (_ : Unit) => r = 0) (fun (_ : Unit) (t : State) => Bw dC dI [(h0, .inr (17, [.ref lp, .null, .null, .int 0, .int 2, .ref m1, .ref m2, .ref m3, .ref m4, .ref m5, .null, .null, .int 0, .ref m6, .int 0, .int 0, .int 0, .long 0, .null, .ref m7, .ref m8, .int 0, .int 0, .long 0]))] [] (va_A [(h0, .inr (17, [.ref lp, .null, .null, .int 0, .int 0, .ref m1, .ref m2, .ref m3, .ref m4, .ref m5, .null, .null, .int 0, .ref m6, .int 0, .int 0, .int 0, .long 0, .null, .ref m7, .ref m8, .int 0, .int 0, .long 0])), (lp, .inr (0, [.int 0, .ref te, .int 0]))] sz) t) (va_A [(h0, .inr (17, [.ref lp, .null, .null, .int 0, .int 0, .ref m1, .ref m2, .ref m3, .ref m4, .ref m5, .null, .null, .int 0, .ref m6, .int 0, .int 0, .int 0, .long 0, .null, .ref m7, .ref m8, .int 0, .int 0, .long 0])), (lp, .inr (0, [.int 0, .ref te, .int 0]))] sz)) 0 0 (va_A [(h0, .inr (17, [.ref lp, .null, .null, .int 0, .int 0, .ref m1, .ref m2, .ref m3, .ref m4, .ref m5, .null, .null, .int 0, .ref m6, .int 0, .int 0, .int 0, .long 0, .null, .ref m7, .ref m8, .int 0, .int 0, .long 0])), (lp, .inr (0, [.int 0, .ref te, .int 0]))] sz) := by
  refine Met.ofW (cc := cX16_let) (maxL := 2) (ret := (some .int)) (by decide) rfl ?_
  intro p e s m args below meth c s₁ B hml hv
  obtain ⟨rfl, hsz, hP, hK, hD0, hG⟩ := hv
  have hx := B.exec
  have hb := B.bytes
  have hr := B.returns
  have hts := atoms_spec (ws := z_M_let_ok) B.pre
  have hown : s.vm.findClass RX16 = some m.cls := findClass_of_methodNamed B.named
  have hlocks := B.notSynchronized
  subst hsz
  have hD := hD0.self (sz := s.heap.size)
  generalize hAe : va_A [(h0, .inr (17, [.ref lp, .null, .null, .int 0, .int 0, .ref m1, .ref m2, .ref m3, .ref m4, .ref m5, .null, .null, .int 0, .ref m6, .int 0, .int 0, .int 0, .long 0, .null, .ref m7, .ref m8, .int 0, .int 0, .long 0])), (lp, .inr (0, [.int 0, .ref te, .int 0]))] s.heap.size = A at hD hG ⊢
  have hA : ∀ q : Nat, s.heap.size ≤ q → A q := fun q h => by rw [← hAe]; exact Or.inr h
  have hS : va_S A s.heap s.heap [] := va_S.rf
  have hl := lv_entry ([.ref h0, .int p0]) (n := 2) (Nat.le_of_ble_eq_true rfl)
  rw [lg_entry_eq]
  generalize (lg_sl ([.ref h0, .int p0]) ++ List.replicate (2 - (lg_sl ([.ref h0, .int p0])).length) Slot.unset).toArray = ls at hl ⊢
  have hl : lv_has ls 2 [(0, .ref h0), (1, .int p0)] := hl
  refine lv_aload_n hx hb dX16_let_0 rfl (lv_at hl 0 rfl) ?_
  refine lv_iload_n hx hb dX16_let_1 rfl (lv_at hl 1 rfl) ?_
  have hPc := hP.sub (ws' := []) [] rfl
  have hDc := hD.sub (ws' := []) [] (by decide) rfl
  have hKc := hK.sub (tys' := []) [] rfl
  have hFc := va_free (wc := []) hD hS hA [] rfl
  refine va_calli (va_runS (As := [.int p0]) (rest := [.ref h0]) ⟨hx, hb, hml, hown, hts⟩ (c_isN_ok l dC dI tp te s.heap.size p0 hvn hvb hvc) (va_cwS 1 hts g_M_let_ok_2 rfl rfl rfl (by decide +kernel) ⟨Nat.le_of_ble_eq_true rfl, Nat.le_of_ble_eq_true rfl⟩) ⟨Pw.blind, Pw.mk hPc hKc hDc hG hS hFc⟩ rfl rfl hl.1 rfl (lv_room (Nat.le_of_ble_eq_true rfl)) dX16_let_2 ⟨Nat.le_of_ble_eq_true rfl, Nat.le_of_ble_eq_true rfl⟩) hS (fun q _ h => hFc q h) hFc (fun r u t9 H_1 locs ht hvm hw hB hz1 hk1 hS => ?_)
  have hw : r = 1 := hw
  subst hw
  obtain ⟨hP, hD⟩ := va_join (wr := [(h0, .inr (17, [.ref lp, .null, .null, .int 0, .int 0, .ref m1, .ref m2, .ref m3, .ref m4, .ref m5, .null, .null, .int 0, .ref m6, .int 0, .int 0, .int 0, .long 0, .null, .ref m7, .ref m8, .int 0, .int 0, .long 0])), (lp, .inr (0, [.int 0, .ref te, .int 0]))]) (w1 := []) hP hD [] [0, 1] rfl rfl (by decide) (by decide) hk1 hFc va_P.nil va_D.nil
  have hK := hK.sub (tys' := []) [] rfl
  have hP : va_P (dC, dI) vwCl [(h0, .inr (17, [.ref lp, .null, .null, .int 0, .int 0, .ref m1, .ref m2, .ref m3, .ref m4, .ref m5, .null, .null, .int 0, .ref m6, .int 0, .int 0, .int 0, .long 0, .null, .ref m7, .ref m8, .int 0, .int 0, .long 0])), (lp, .inr (0, [.int 0, .ref te, .int 0]))] H_1 := hP
  have hD : va_D A [(h0, .inr (17, [.ref lp, .null, .null, .int 0, .int 0, .ref m1, .ref m2, .ref m3, .ref m4, .ref m5, .null, .null, .int 0, .ref m6, .int 0, .int 0, .int 0, .long 0, .null, .ref m7, .ref m8, .int 0, .int 0, .long 0])), (lp, .inr (0, [.int 0, .ref te, .int 0]))] := hD
  have hK : va_K (dC, dI) vwCl [] s := hK
  refine W.widen (k := 0) (n := 0) (Nat.le_of_ble_eq_true rfl) (Nat.le_of_ble_eq_true rfl) ?_
  refine lv_if_ne (tgt := 12) hx hb dX16_let_5 (by decide) (fun c9 => ?_) (fun c9 => absurd c9 (by decide))
  refine lv_aload_n hx hb dX16_let_12 rfl (lv_at hl 0 rfl) ?_
  refine lv_iconst (v := 2) hx hb dX16_let_13 (by decide) ?_
  have hPc := hP.sub (ws' := [(h0, .inr (17, [.ref lp, .null, .null, .int 0, .int 0, .ref m1, .ref m2, .ref m3, .ref m4, .ref m5, .null, .null, .int 0, .ref m6, .int 0, .int 0, .int 0, .long 0, .null, .ref m7, .ref m8, .int 0, .int 0, .long 0])), (lp, .inr (0, [.int 0, .ref te, .int 0]))]) [0, 1] rfl
  have hDc := hD.sub (ws' := [(h0, .inr (17, [.ref lp, .null, .null, .int 0, .int 0, .ref m1, .ref m2, .ref m3, .ref m4, .ref m5, .null, .null, .int 0, .ref m6, .int 0, .int 0, .int 0, .long 0, .null, .ref m7, .ref m8, .int 0, .int 0, .long 0])), (lp, .inr (0, [.int 0, .ref te, .int 0]))]) [0, 1] (by decide) rfl
  have hKc := hK.sub (tys' := []) [] rfl
  have hFc := va_free (wc := [(h0, .inr (17, [.ref lp, .null, .null, .int 0, .int 0, .ref m1, .ref m2, .ref m3, .ref m4, .ref m5, .null, .null, .int 0, .ref m6, .int 0, .int 0, .int 0, .long 0, .null, .ref m7, .ref m8, .int 0, .int 0, .long 0])), (lp, .inr (0, [.int 0, .ref te, .int 0]))]) hD hS hA [0, 1] rfl
  refine va_calli (va_runV (As := [.int 2]) (rest := [.ref h0]) ⟨hx, hb, hml, hown, hts⟩ (c_fits2 l dC dI tp te H_1.size h0 lp m1 m2 m3 m4 m5 m6 m7 m8) (cwV 1 hts g_M_let_ok_14 rfl rfl rfl (by decide +kernel) ⟨Nat.le_of_ble_eq_true rfl, Nat.le_of_ble_eq_true rfl⟩) ⟨Pw.blind, va_recv hKc hPc (ci := 17) (q0 := 0) rfl rfl, Pw.mk hPc hKc hDc hG hS hFc⟩ rfl rfl hl.1 rfl (lv_room (Nat.le_of_ble_eq_true rfl)) dX16_let_14 ⟨Nat.le_of_ble_eq_true rfl, Nat.le_of_ble_eq_true rfl⟩) hS (fun q _ h => hFc q h) hFc (fun r u t9 H_3 locs ht hvm hw hB hz1 hk1 hS => ?_)
  have hw : r = 0 := hw
  subst hw
  obtain ⟨hP1, hK1, hD1⟩ := hB
  rw [ht] at hP1
  have hK1 := va_K.moved hvm.symm hK1
  obtain ⟨hP, hD⟩ := va_join (wr := []) (w1 := [(h0, .inr (17, [.ref lp, .null, .null, .int 0, .int 0, .ref m1, .ref m2, .ref m3, .ref m4, .ref m5, .null, .null, .int 0, .ref m6, .int 0, .int 0, .int 0, .long 0, .null, .ref m7, .ref m8, .int 0, .int 0, .long 0])), (lp, .inr (0, [.int 0, .ref te, .int 0]))]) hP hD [0, 1] [] rfl rfl (by decide) (by decide) hk1 hFc hP1 hD1
  have hK := (hK.sub (tys' := []) [] rfl).app hK1
  have hP : va_P (dC, dI) vwCl [(h0, .inr (17, [.ref lp, .null, .null, .int 0, .int 0, .ref m1, .ref m2, .ref m3, .ref m4, .ref m5, .null, .null, .int 0, .ref m6, .int 0, .int 0, .int 0, .long 0, .null, .ref m7, .ref m8, .int 0, .int 0, .long 0])), (lp, .inr (0, [.int 0, .ref te, .int 0]))] H_3 := hP
  have hD : va_D A [(h0, .inr (17, [.ref lp, .null, .null, .int 0, .int 0, .ref m1, .ref m2, .ref m3, .ref m4, .ref m5, .null, .null, .int 0, .ref m6, .int 0, .int 0, .int 0, .long 0, .null, .ref m7, .ref m8, .int 0, .int 0, .long 0])), (lp, .inr (0, [.int 0, .ref te, .int 0]))] := hD
  have hK : va_K (dC, dI) vwCl [] s := hK
  refine W.widen (k := 0) (n := 0) (Nat.le_of_ble_eq_true rfl) (Nat.le_of_ble_eq_true rfl) ?_
  refine lv_if_ne (tgt := 24) hx hb dX16_let_17 (by decide) (fun c9 => absurd (by decide) c9) (fun c9 => ?_)
  refine lv_iconst (v := 2) hx hb dX16_let_20 (by decide) ?_
  refine lv_goto (tgt := 25) hx hb dX16_let_21 (by decide) ?_
  refine va_put (D := (dC, dI)) (ci := 17) (v := .int 2) (ty := .int) (C := RX16) (T := TX16) (N := 24) hx hb hts in_z_M_let_ok_X16 tyX16 tyX16_ok nmX16 hown hK hP hD hS 0 rfl rfl 4 (by decide) (hts (.fieldLink RX16 40 "SelfkindleModel" "thrown" "I") (List.mem_of_getElem? (i := 16) rfl)) (fun _ h9 => h9) rfl (by decide +kernel) rfl rfl (Nat.le_of_ble_eq_true rfl) dX16_let_25 (fun H_5 locs hP hD hS => ?_)
  have hP : va_P (dC, dI) vwCl [(h0, .inr (17, [.ref lp, .null, .null, .int 0, .int 2, .ref m1, .ref m2, .ref m3, .ref m4, .ref m5, .null, .null, .int 0, .ref m6, .int 0, .int 0, .int 0, .long 0, .null, .ref m7, .ref m8, .int 0, .int 0, .long 0])), (lp, .inr (0, [.int 0, .ref te, .int 0]))] H_5 := hP
  have hD : va_D A [(h0, .inr (17, [.ref lp, .null, .null, .int 0, .int 2, .ref m1, .ref m2, .ref m3, .ref m4, .ref m5, .null, .null, .int 0, .ref m6, .int 0, .int 0, .int 0, .long 0, .null, .ref m7, .ref m8, .int 0, .int 0, .long 0])), (lp, .inr (0, [.int 0, .ref te, .int 0]))] := hD
  have hK : va_K (dC, dI) vwCl [] s := hK
  refine lv_aload_n hx hb dX16_let_28 rfl (lv_at hl 0 rfl) ?_
  refine va_get (D := (dC, dI)) (ci := 17) (v := .int 2) (C := RX16) (T := TX16) (N := 24) hx hb hts in_z_M_let_ok_X16 hown hK hP 0 rfl rfl 4 (by decide) (hts (.fieldLink RX16 40 "SelfkindleModel" "thrown" "I") (List.mem_of_getElem? (i := 16) rfl)) (fun _ h9 => h9) rfl dX16_let_29 ?_
  refine lv_if_le (tgt := 39) hx hb dX16_let_32 (by decide) (fun c9 => absurd c9 (by decide)) (fun c9 => ?_)
  refine lv_iconst (v := 0) hx hb dX16_let_35 (by decide) ?_
  refine lv_goto (tgt := 49) hx hb dX16_let_36 (by decide) ?_
  have hP := hP.sub (ws' := [(h0, .inr (17, [.ref lp, .null, .null, .int 0, .int 2, .ref m1, .ref m2, .ref m3, .ref m4, .ref m5, .null, .null, .int 0, .ref m6, .int 0, .int 0, .int 0, .long 0, .null, .ref m7, .ref m8, .int 0, .int 0, .long 0]))]) [0] rfl
  have hD := hD.sub (ws' := [(h0, .inr (17, [.ref lp, .null, .null, .int 0, .int 2, .ref m1, .ref m2, .ref m3, .ref m4, .ref m5, .null, .null, .int 0, .ref m6, .int 0, .int 0, .int 0, .long 0, .null, .ref m7, .ref m8, .int 0, .int 0, .long 0]))]) [0] (by decide) rfl
  have hK := hK.sub (tys' := []) [] rfl
  refine W.widen (k := 0) (n := 0) (Nat.le_of_ble_eq_true rfl) (Nat.le_of_ble_eq_true rfl) ?_
  exact W.iret (v := 0) hx hb hr (fun t ht hW => ⟨⟨0, (), rfl, rfl, ⟨by rw [ht]; exact hP, va_K.moved hW.alike hK, hD⟩⟩, hS.F ht⟩) hS.2.2 dX16_let_49

set_option maxRecDepth 20000 in
def z_M_handle_neg : List Cond := .code yX16_handle cX16_handle 2 (some .int) :: (([.methodLink RX16 74 yX16_isName, .static yX16_isName, .initialized RX16, .code yX16_isName cX16_isName 1 (some .boolean), .fieldLink RX16 40 "SelfkindleModel" "thrown" "I"] : List Cond) ++ wsX160)
theorem in_z_M_handle_neg_X16 : ∀ w ∈ wsX160, w ∈ z_M_handle_neg := fun w h => List.mem_cons_of_mem _ (List.mem_append_right _ (h))
set_option maxRecDepth 20000 in
theorem g_M_handle_neg_2 : GoodIn z_M_handle_neg (va_wsS RX16 74 yX16_isName z_isN_neg) := goodIn_p _ [4] rfl (by decide +kernel)
set_option maxHeartbeats 4000000 in
set_option maxRecDepth 100000 in
theorem c_M_handle_neg (l : Launch) (dC : Nat → ClassId) (dI : Nat → Nat → Nat) (tp te : Nat) (sz : Nat) (h0 : Nat) (lp : Nat) (m1 : Nat) (m2 : Nat) (m3 : Nat) (m4 : Nat) (m5 : Nat) (m6 : Nat) (m7 : Nat) (m8 : Nat) (p0 : Int32) (hvn : p0 < 0) : Met l yX16_handle z_M_handle_neg ({ frames := 1, cells := 0, slots := 0, locals := 20 }) (va_Pc [.ref h0, .int p0] (Pw dC dI [(h0, .inr (17, [.ref lp, .null, .null, .int 0, .int 0, .ref m1, .ref m2, .ref m3, .ref m4, .ref m5, .null, .null, .int 0, .ref m6, .int 0, .int 0, .int 0, .long 0, .null, .ref m7, .ref m8, .int 0, .int 0, .long 0])), (lp, .inr (0, [.int 0, .ref te, .int 0]))] [] sz tp te)) (va_Qi (fun (r : Int32) (_ : Unit) => r = 0) (fun (_ : Unit) (t : State) => Bw dC dI [(h0, .inr (17, [.ref lp, .null, .null, .int 0, .int 1, .ref m1, .ref m2, .ref m3, .ref m4, .ref m5, .null, .null, .int 0, .ref m6, .int 0, .int 0, .int 0, .long 0, .null, .ref m7, .ref m8, .int 0, .int 0, .long 0]))] [] (va_A [(h0, .inr (17, [.ref lp, .null, .null, .int 0, .int 0, .ref m1, .ref m2, .ref m3, .ref m4, .ref m5, .null, .null, .int 0, .ref m6, .int 0, .int 0, .int 0, .long 0, .null, .ref m7, .ref m8, .int 0, .int 0, .long 0])), (lp, .inr (0, [.int 0, .ref te, .int 0]))] sz) t) (va_A [(h0, .inr (17, [.ref lp, .null, .null, .int 0, .int 0, .ref m1, .ref m2, .ref m3, .ref m4, .ref m5, .null, .null, .int 0, .ref m6, .int 0, .int 0, .int 0, .long 0, .null, .ref m7, .ref m8, .int 0, .int 0, .long 0])), (lp, .inr (0, [.int 0, .ref te, .int 0]))] sz)) 0 0 (va_A [(h0, .inr (17, [.ref lp, .null, .null, .int 0, .int 0, .ref m1, .ref m2, .ref m3, .ref m4, .ref m5, .null, .null, .int 0, .ref m6, .int 0, .int 0, .int 0, .long 0, .null, .ref m7, .ref m8, .int 0, .int 0, .long 0])), (lp, .inr (0, [.int 0, .ref te, .int 0]))] sz) := by
  refine Met.ofW (cc := cX16_handle) (maxL := 2) (ret := (some .int)) (by decide) rfl ?_
  intro p e s m args below meth c s₁ B hml hv
  obtain ⟨rfl, hsz, hP, hK, hD0, hG⟩ := hv
  have hx := B.exec
  have hb := B.bytes
  have hr := B.returns
  have hts := atoms_spec (ws := z_M_handle_neg) B.pre
  have hown : s.vm.findClass RX16 = some m.cls := findClass_of_methodNamed B.named
  have hlocks := B.notSynchronized
  subst hsz
  have hD := hD0.self (sz := s.heap.size)
  generalize hAe : va_A [(h0, .inr (17, [.ref lp, .null, .null, .int 0, .int 0, .ref m1, .ref m2, .ref m3, .ref m4, .ref m5, .null, .null, .int 0, .ref m6, .int 0, .int 0, .int 0, .long 0, .null, .ref m7, .ref m8, .int 0, .int 0, .long 0])), (lp, .inr (0, [.int 0, .ref te, .int 0]))] s.heap.size = A at hD hG ⊢
  have hA : ∀ q : Nat, s.heap.size ≤ q → A q := fun q h => by rw [← hAe]; exact Or.inr h
  have hS : va_S A s.heap s.heap [] := va_S.rf
  have hl := lv_entry ([.ref h0, .int p0]) (n := 2) (Nat.le_of_ble_eq_true rfl)
  rw [lg_entry_eq]
  generalize (lg_sl ([.ref h0, .int p0]) ++ List.replicate (2 - (lg_sl ([.ref h0, .int p0])).length) Slot.unset).toArray = ls at hl ⊢
  have hl : lv_has ls 2 [(0, .ref h0), (1, .int p0)] := hl
  refine lv_aload_n hx hb dX16_handle_0 rfl (lv_at hl 0 rfl) ?_
  refine lv_iload_n hx hb dX16_handle_1 rfl (lv_at hl 1 rfl) ?_
  have hPc := hP.sub (ws' := []) [] rfl
  have hDc := hD.sub (ws' := []) [] (by decide) rfl
  have hKc := hK.sub (tys' := []) [] rfl
  have hFc := va_free (wc := []) hD hS hA [] rfl
  refine va_calli (va_runS (As := [.int p0]) (rest := [.ref h0]) ⟨hx, hb, hml, hown, hts⟩ (c_isN_neg l dC dI tp te s.heap.size p0 hvn) (va_cwS 1 hts g_M_handle_neg_2 rfl rfl rfl (by decide +kernel) ⟨Nat.le_of_ble_eq_true rfl, Nat.le_of_ble_eq_true rfl⟩) ⟨Pw.blind, Pw.mk hPc hKc hDc hG hS hFc⟩ rfl rfl hl.1 rfl (lv_room (Nat.le_of_ble_eq_true rfl)) dX16_handle_2 ⟨Nat.le_of_ble_eq_true rfl, Nat.le_of_ble_eq_true rfl⟩) hS (fun q _ h => hFc q h) hFc (fun r u t9 H_1 locs ht hvm hw hB hz1 hk1 hS => ?_)
  have hw : r = 0 := hw
  subst hw
  obtain ⟨hP, hD⟩ := va_join (wr := [(h0, .inr (17, [.ref lp, .null, .null, .int 0, .int 0, .ref m1, .ref m2, .ref m3, .ref m4, .ref m5, .null, .null, .int 0, .ref m6, .int 0, .int 0, .int 0, .long 0, .null, .ref m7, .ref m8, .int 0, .int 0, .long 0])), (lp, .inr (0, [.int 0, .ref te, .int 0]))]) (w1 := []) hP hD [] [0, 1] rfl rfl (by decide) (by decide) hk1 hFc va_P.nil va_D.nil
  have hK := hK.sub (tys' := []) [] rfl
  have hP : va_P (dC, dI) vwCl [(h0, .inr (17, [.ref lp, .null, .null, .int 0, .int 0, .ref m1, .ref m2, .ref m3, .ref m4, .ref m5, .null, .null, .int 0, .ref m6, .int 0, .int 0, .int 0, .long 0, .null, .ref m7, .ref m8, .int 0, .int 0, .long 0])), (lp, .inr (0, [.int 0, .ref te, .int 0]))] H_1 := hP
  have hD : va_D A [(h0, .inr (17, [.ref lp, .null, .null, .int 0, .int 0, .ref m1, .ref m2, .ref m3, .ref m4, .ref m5, .null, .null, .int 0, .ref m6, .int 0, .int 0, .int 0, .long 0, .null, .ref m7, .ref m8, .int 0, .int 0, .long 0])), (lp, .inr (0, [.int 0, .ref te, .int 0]))] := hD
  have hK : va_K (dC, dI) vwCl [] s := hK
  refine W.widen (k := 0) (n := 0) (Nat.le_of_ble_eq_true rfl) (Nat.le_of_ble_eq_true rfl) ?_
  refine lv_if_ne (tgt := 12) hx hb dX16_handle_5 (by decide) (fun c9 => absurd (by decide) c9) (fun c9 => ?_)
  refine lv_iconst (v := 1) hx hb dX16_handle_8 (by decide) ?_
  refine lv_goto (tgt := 25) hx hb dX16_handle_9 (by decide) ?_
  refine va_put (D := (dC, dI)) (ci := 17) (v := .int 1) (ty := .int) (C := RX16) (T := TX16) (N := 24) hx hb hts in_z_M_handle_neg_X16 tyX16 tyX16_ok nmX16 hown hK hP hD hS 0 rfl rfl 4 (by decide) (hts (.fieldLink RX16 40 "SelfkindleModel" "thrown" "I") (List.mem_of_getElem? (i := 5) rfl)) (fun _ h9 => h9) rfl (by decide +kernel) rfl rfl (Nat.le_of_ble_eq_true rfl) dX16_handle_25 (fun H_3 locs hP hD hS => ?_)
  have hP : va_P (dC, dI) vwCl [(h0, .inr (17, [.ref lp, .null, .null, .int 0, .int 1, .ref m1, .ref m2, .ref m3, .ref m4, .ref m5, .null, .null, .int 0, .ref m6, .int 0, .int 0, .int 0, .long 0, .null, .ref m7, .ref m8, .int 0, .int 0, .long 0])), (lp, .inr (0, [.int 0, .ref te, .int 0]))] H_3 := hP
  have hD : va_D A [(h0, .inr (17, [.ref lp, .null, .null, .int 0, .int 1, .ref m1, .ref m2, .ref m3, .ref m4, .ref m5, .null, .null, .int 0, .ref m6, .int 0, .int 0, .int 0, .long 0, .null, .ref m7, .ref m8, .int 0, .int 0, .long 0])), (lp, .inr (0, [.int 0, .ref te, .int 0]))] := hD
  have hK : va_K (dC, dI) vwCl [] s := hK
  refine lv_aload_n hx hb dX16_handle_28 rfl (lv_at hl 0 rfl) ?_
  refine va_get (D := (dC, dI)) (ci := 17) (v := .int 1) (C := RX16) (T := TX16) (N := 24) hx hb hts in_z_M_handle_neg_X16 hown hK hP 0 rfl rfl 4 (by decide) (hts (.fieldLink RX16 40 "SelfkindleModel" "thrown" "I") (List.mem_of_getElem? (i := 5) rfl)) (fun _ h9 => h9) rfl dX16_handle_29 ?_
  refine lv_if_le (tgt := 39) hx hb dX16_handle_32 (by decide) (fun c9 => absurd c9 (by decide)) (fun c9 => ?_)
  refine lv_iconst (v := 0) hx hb dX16_handle_35 (by decide) ?_
  refine lv_goto (tgt := 49) hx hb dX16_handle_36 (by decide) ?_
  have hP := hP.sub (ws' := [(h0, .inr (17, [.ref lp, .null, .null, .int 0, .int 1, .ref m1, .ref m2, .ref m3, .ref m4, .ref m5, .null, .null, .int 0, .ref m6, .int 0, .int 0, .int 0, .long 0, .null, .ref m7, .ref m8, .int 0, .int 0, .long 0]))]) [0] rfl
  have hD := hD.sub (ws' := [(h0, .inr (17, [.ref lp, .null, .null, .int 0, .int 1, .ref m1, .ref m2, .ref m3, .ref m4, .ref m5, .null, .null, .int 0, .ref m6, .int 0, .int 0, .int 0, .long 0, .null, .ref m7, .ref m8, .int 0, .int 0, .long 0]))]) [0] (by decide) rfl
  have hK := hK.sub (tys' := []) [] rfl
  refine W.widen (k := 0) (n := 0) (Nat.le_of_ble_eq_true rfl) (Nat.le_of_ble_eq_true rfl) ?_
  exact W.iret (v := 0) hx hb hr (fun t ht hW => ⟨⟨0, (), rfl, rfl, ⟨by rw [ht]; exact hP, va_K.moved hW.alike hK, hD⟩⟩, hS.F ht⟩) hS.2.2 dX16_handle_49

set_option maxRecDepth 20000 in
def z_M_handle_big : List Cond := .code yX16_handle cX16_handle 2 (some .int) :: (([.methodLink RX16 74 yX16_isName, .static yX16_isName, .initialized RX16, .code yX16_isName cX16_isName 1 (some .boolean), .fieldLink RX16 40 "SelfkindleModel" "thrown" "I"] : List Cond) ++ wsX160)
theorem in_z_M_handle_big_X16 : ∀ w ∈ wsX160, w ∈ z_M_handle_big := fun w h => List.mem_cons_of_mem _ (List.mem_append_right _ (h))
set_option maxRecDepth 20000 in
theorem g_M_handle_big_2 : GoodIn z_M_handle_big (va_wsS RX16 74 yX16_isName z_isN_big) := goodIn_p _ [4] rfl (by decide +kernel)
set_option maxHeartbeats 4000000 in
set_option maxRecDepth 100000 in
theorem c_M_handle_big (l : Launch) (dC : Nat → ClassId) (dI : Nat → Nat → Nat) (tp te : Nat) (sz : Nat) (h0 : Nat) (lp : Nat) (m1 : Nat) (m2 : Nat) (m3 : Nat) (m4 : Nat) (m5 : Nat) (m6 : Nat) (m7 : Nat) (m8 : Nat) (p0 : Int32) (hvn : ¬ p0 < 0) (hvb : ¬ p0 < 10) (hvc : 10 ≤ p0) : Met l yX16_handle z_M_handle_big ({ frames := 1, cells := 0, slots := 0, locals := 20 }) (va_Pc [.ref h0, .int p0] (Pw dC dI [(h0, .inr (17, [.ref lp, .null, .null, .int 0, .int 0, .ref m1, .ref m2, .ref m3, .ref m4, .ref m5, .null, .null, .int 0, .ref m6, .int 0, .int 0, .int 0, .long 0, .null, .ref m7, .ref m8, .int 0, .int 0, .long 0])), (lp, .inr (0, [.int 0, .ref te, .int 0]))] [] sz tp te)) (va_Qi (fun (r : Int32) (_ : Unit) => r = 0) (fun (_ : Unit) (t : State) => Bw dC dI [(h0, .inr (17, [.ref lp, .null, .null, .int 0, .int 1, .ref m1, .ref m2, .ref m3, .ref m4, .ref m5, .null, .null, .int 0, .ref m6, .int 0, .int 0, .int 0, .long 0, .null, .ref m7, .ref m8, .int 0, .int 0, .long 0]))] [] (va_A [(h0, .inr (17, [.ref lp, .null, .null, .int 0, .int 0, .ref m1, .ref m2, .ref m3, .ref m4, .ref m5, .null, .null, .int 0, .ref m6, .int 0, .int 0, .int 0, .long 0, .null, .ref m7, .ref m8, .int 0, .int 0, .long 0])), (lp, .inr (0, [.int 0, .ref te, .int 0]))] sz) t) (va_A [(h0, .inr (17, [.ref lp, .null, .null, .int 0, .int 0, .ref m1, .ref m2, .ref m3, .ref m4, .ref m5, .null, .null, .int 0, .ref m6, .int 0, .int 0, .int 0, .long 0, .null, .ref m7, .ref m8, .int 0, .int 0, .long 0])), (lp, .inr (0, [.int 0, .ref te, .int 0]))] sz)) 0 0 (va_A [(h0, .inr (17, [.ref lp, .null, .null, .int 0, .int 0, .ref m1, .ref m2, .ref m3, .ref m4, .ref m5, .null, .null, .int 0, .ref m6, .int 0, .int 0, .int 0, .long 0, .null, .ref m7, .ref m8, .int 0, .int 0, .long 0])), (lp, .inr (0, [.int 0, .ref te, .int 0]))] sz) := by
  refine Met.ofW (cc := cX16_handle) (maxL := 2) (ret := (some .int)) (by decide) rfl ?_
  intro p e s m args below meth c s₁ B hml hv
  obtain ⟨rfl, hsz, hP, hK, hD0, hG⟩ := hv
  have hx := B.exec
  have hb := B.bytes
  have hr := B.returns
  have hts := atoms_spec (ws := z_M_handle_big) B.pre
  have hown : s.vm.findClass RX16 = some m.cls := findClass_of_methodNamed B.named
  have hlocks := B.notSynchronized
  subst hsz
  have hD := hD0.self (sz := s.heap.size)
  generalize hAe : va_A [(h0, .inr (17, [.ref lp, .null, .null, .int 0, .int 0, .ref m1, .ref m2, .ref m3, .ref m4, .ref m5, .null, .null, .int 0, .ref m6, .int 0, .int 0, .int 0, .long 0, .null, .ref m7, .ref m8, .int 0, .int 0, .long 0])), (lp, .inr (0, [.int 0, .ref te, .int 0]))] s.heap.size = A at hD hG ⊢
  have hA : ∀ q : Nat, s.heap.size ≤ q → A q := fun q h => by rw [← hAe]; exact Or.inr h
  have hS : va_S A s.heap s.heap [] := va_S.rf
  have hl := lv_entry ([.ref h0, .int p0]) (n := 2) (Nat.le_of_ble_eq_true rfl)
  rw [lg_entry_eq]
  generalize (lg_sl ([.ref h0, .int p0]) ++ List.replicate (2 - (lg_sl ([.ref h0, .int p0])).length) Slot.unset).toArray = ls at hl ⊢
  have hl : lv_has ls 2 [(0, .ref h0), (1, .int p0)] := hl
  refine lv_aload_n hx hb dX16_handle_0 rfl (lv_at hl 0 rfl) ?_
  refine lv_iload_n hx hb dX16_handle_1 rfl (lv_at hl 1 rfl) ?_
  have hPc := hP.sub (ws' := []) [] rfl
  have hDc := hD.sub (ws' := []) [] (by decide) rfl
  have hKc := hK.sub (tys' := []) [] rfl
  have hFc := va_free (wc := []) hD hS hA [] rfl
  refine va_calli (va_runS (As := [.int p0]) (rest := [.ref h0]) ⟨hx, hb, hml, hown, hts⟩ (c_isN_big l dC dI tp te s.heap.size p0 hvn hvb hvc) (va_cwS 1 hts g_M_handle_big_2 rfl rfl rfl (by decide +kernel) ⟨Nat.le_of_ble_eq_true rfl, Nat.le_of_ble_eq_true rfl⟩) ⟨Pw.blind, Pw.mk hPc hKc hDc hG hS hFc⟩ rfl rfl hl.1 rfl (lv_room (Nat.le_of_ble_eq_true rfl)) dX16_handle_2 ⟨Nat.le_of_ble_eq_true rfl, Nat.le_of_ble_eq_true rfl⟩) hS (fun q _ h => hFc q h) hFc (fun r u t9 H_1 locs ht hvm hw hB hz1 hk1 hS => ?_)
  have hw : r = 0 := hw
  subst hw
  obtain ⟨hP, hD⟩ := va_join (wr := [(h0, .inr (17, [.ref lp, .null, .null, .int 0, .int 0, .ref m1, .ref m2, .ref m3, .ref m4, .ref m5, .null, .null, .int 0, .ref m6, .int 0, .int 0, .int 0, .long 0, .null, .ref m7, .ref m8, .int 0, .int 0, .long 0])), (lp, .inr (0, [.int 0, .ref te, .int 0]))]) (w1 := []) hP hD [] [0, 1] rfl rfl (by decide) (by decide) hk1 hFc va_P.nil va_D.nil
  have hK := hK.sub (tys' := []) [] rfl
  have hP : va_P (dC, dI) vwCl [(h0, .inr (17, [.ref lp, .null, .null, .int 0, .int 0, .ref m1, .ref m2, .ref m3, .ref m4, .ref m5, .null, .null, .int 0, .ref m6, .int 0, .int 0, .int 0, .long 0, .null, .ref m7, .ref m8, .int 0, .int 0, .long 0])), (lp, .inr (0, [.int 0, .ref te, .int 0]))] H_1 := hP
  have hD : va_D A [(h0, .inr (17, [.ref lp, .null, .null, .int 0, .int 0, .ref m1, .ref m2, .ref m3, .ref m4, .ref m5, .null, .null, .int 0, .ref m6, .int 0, .int 0, .int 0, .long 0, .null, .ref m7, .ref m8, .int 0, .int 0, .long 0])), (lp, .inr (0, [.int 0, .ref te, .int 0]))] := hD
  have hK : va_K (dC, dI) vwCl [] s := hK
  refine W.widen (k := 0) (n := 0) (Nat.le_of_ble_eq_true rfl) (Nat.le_of_ble_eq_true rfl) ?_
  refine lv_if_ne (tgt := 12) hx hb dX16_handle_5 (by decide) (fun c9 => absurd (by decide) c9) (fun c9 => ?_)
  refine lv_iconst (v := 1) hx hb dX16_handle_8 (by decide) ?_
  refine lv_goto (tgt := 25) hx hb dX16_handle_9 (by decide) ?_
  refine va_put (D := (dC, dI)) (ci := 17) (v := .int 1) (ty := .int) (C := RX16) (T := TX16) (N := 24) hx hb hts in_z_M_handle_big_X16 tyX16 tyX16_ok nmX16 hown hK hP hD hS 0 rfl rfl 4 (by decide) (hts (.fieldLink RX16 40 "SelfkindleModel" "thrown" "I") (List.mem_of_getElem? (i := 5) rfl)) (fun _ h9 => h9) rfl (by decide +kernel) rfl rfl (Nat.le_of_ble_eq_true rfl) dX16_handle_25 (fun H_3 locs hP hD hS => ?_)
  have hP : va_P (dC, dI) vwCl [(h0, .inr (17, [.ref lp, .null, .null, .int 0, .int 1, .ref m1, .ref m2, .ref m3, .ref m4, .ref m5, .null, .null, .int 0, .ref m6, .int 0, .int 0, .int 0, .long 0, .null, .ref m7, .ref m8, .int 0, .int 0, .long 0])), (lp, .inr (0, [.int 0, .ref te, .int 0]))] H_3 := hP
  have hD : va_D A [(h0, .inr (17, [.ref lp, .null, .null, .int 0, .int 1, .ref m1, .ref m2, .ref m3, .ref m4, .ref m5, .null, .null, .int 0, .ref m6, .int 0, .int 0, .int 0, .long 0, .null, .ref m7, .ref m8, .int 0, .int 0, .long 0])), (lp, .inr (0, [.int 0, .ref te, .int 0]))] := hD
  have hK : va_K (dC, dI) vwCl [] s := hK
  refine lv_aload_n hx hb dX16_handle_28 rfl (lv_at hl 0 rfl) ?_
  refine va_get (D := (dC, dI)) (ci := 17) (v := .int 1) (C := RX16) (T := TX16) (N := 24) hx hb hts in_z_M_handle_big_X16 hown hK hP 0 rfl rfl 4 (by decide) (hts (.fieldLink RX16 40 "SelfkindleModel" "thrown" "I") (List.mem_of_getElem? (i := 5) rfl)) (fun _ h9 => h9) rfl dX16_handle_29 ?_
  refine lv_if_le (tgt := 39) hx hb dX16_handle_32 (by decide) (fun c9 => absurd c9 (by decide)) (fun c9 => ?_)
  refine lv_iconst (v := 0) hx hb dX16_handle_35 (by decide) ?_
  refine lv_goto (tgt := 49) hx hb dX16_handle_36 (by decide) ?_
  have hP := hP.sub (ws' := [(h0, .inr (17, [.ref lp, .null, .null, .int 0, .int 1, .ref m1, .ref m2, .ref m3, .ref m4, .ref m5, .null, .null, .int 0, .ref m6, .int 0, .int 0, .int 0, .long 0, .null, .ref m7, .ref m8, .int 0, .int 0, .long 0]))]) [0] rfl
  have hD := hD.sub (ws' := [(h0, .inr (17, [.ref lp, .null, .null, .int 0, .int 1, .ref m1, .ref m2, .ref m3, .ref m4, .ref m5, .null, .null, .int 0, .ref m6, .int 0, .int 0, .int 0, .long 0, .null, .ref m7, .ref m8, .int 0, .int 0, .long 0]))]) [0] (by decide) rfl
  have hK := hK.sub (tys' := []) [] rfl
  refine W.widen (k := 0) (n := 0) (Nat.le_of_ble_eq_true rfl) (Nat.le_of_ble_eq_true rfl) ?_
  exact W.iret (v := 0) hx hb hr (fun t ht hW => ⟨⟨0, (), rfl, rfl, ⟨by rw [ht]; exact hP, va_K.moved hW.alike hK, hD⟩⟩, hS.F ht⟩) hS.2.2 dX16_handle_49

set_option maxRecDepth 20000 in
def z_M_handle_ok : List Cond := .code yX16_handle cX16_handle 2 (some .int) :: (([.methodLink RX16 74 yX16_isName, .static yX16_isName, .initialized RX16, .code yX16_isName cX16_isName 1 (some .boolean), .methodLink RX16 78 yX16_fits, .instanceMethod yX16_fits, .selects RX16 yX16_fits yX16_fits, .code yX16_fits cX16_fits 5 (some .boolean), .fieldLink RX16 10 "SelfkindleModel" "pile" "Ljava/util/ArrayList;", .methodLink RX16 44 yJx4a65c_size_8abf5, .instanceMethod yJx4a65c_size_8abf5, .selects RJx4a65c yJx4a65c_size_8abf5 yJx4a65c_size_8abf5, .initialized RJx4a65c, .code yJx4a65c_size_8abf5 cJx4a65c_size_8abf5 1 (some .int), .fieldLink RJx4a65c 48 "java/util/ArrayList" "size" "I", .fieldLink RX16 40 "SelfkindleModel" "thrown" "I"] : List Cond) ++ wsX160 ++ wsJx4a65c0)
theorem in_z_M_handle_ok_X16 : ∀ w ∈ wsX160, w ∈ z_M_handle_ok := fun w h => List.mem_cons_of_mem _ (List.mem_append_left _ (List.mem_append_right _ (h)))
theorem in_z_M_handle_ok_Jx4a65c : ∀ w ∈ wsJx4a65c0, w ∈ z_M_handle_ok := fun w h => List.mem_cons_of_mem _ (List.mem_append_right _ (h))
set_option maxRecDepth 20000 in
theorem g_M_handle_ok_2 : GoodIn z_M_handle_ok (va_wsS RX16 74 yX16_isName z_isN_ok) := goodIn_p _ [4] rfl (by decide +kernel)
set_option maxRecDepth 20000 in
theorem g_M_handle_ok_14 : GoodIn z_M_handle_ok (wsV RX16 78 RX16 yX16_fits z_fits2) := goodIn_p _ [8, 14] rfl (by decide +kernel)
set_option maxHeartbeats 4000000 in
set_option maxRecDepth 100000 in
theorem c_M_handle_ok (l : Launch) (dC : Nat → ClassId) (dI : Nat → Nat → Nat) (tp te : Nat) (sz : Nat) (h0 : Nat) (lp : Nat) (m1 : Nat) (m2 : Nat) (m3 : Nat) (m4 : Nat) (m5 : Nat) (m6 : Nat) (m7 : Nat) (m8 : Nat) (p0 : Int32) (hvn : ¬ p0 < 0) (hvb : p0 < 10) (hvc : ¬ 10 ≤ p0) : Met l yX16_handle z_M_handle_ok ({ frames := 2, cells := 0, slots := 0, locals := 44 }) (va_Pc [.ref h0, .int p0] (Pw dC dI [(h0, .inr (17, [.ref lp, .null, .null, .int 0, .int 0, .ref m1, .ref m2, .ref m3, .ref m4, .ref m5, .null, .null, .int 0, .ref m6, .int 0, .int 0, .int 0, .long 0, .null, .ref m7, .ref m8, .int 0, .int 0, .long 0])), (lp, .inr (0, [.int 0, .ref te, .int 0]))] [] sz tp te)) (va_Qi (fun (r : Int32) (_ : Unit) => r = 0) (fun (_ : Unit) (t : State) => Bw dC dI [(h0, .inr (17, [.ref lp, .null, .null, .int 0, .int 2, .ref m1, .ref m2, .ref m3, .ref m4, .ref m5, .null, .null, .int 0, .ref m6, .int 0, .int 0, .int 0, .long 0, .null, .ref m7, .ref m8, .int 0, .int 0, .long 0]))] [] (va_A [(h0, .inr (17, [.ref lp, .null, .null, .int 0, .int 0, .ref m1, .ref m2, .ref m3, .ref m4, .ref m5, .null, .null, .int 0, .ref m6, .int 0, .int 0, .int 0, .long 0, .null, .ref m7, .ref m8, .int 0, .int 0, .long 0])), (lp, .inr (0, [.int 0, .ref te, .int 0]))] sz) t) (va_A [(h0, .inr (17, [.ref lp, .null, .null, .int 0, .int 0, .ref m1, .ref m2, .ref m3, .ref m4, .ref m5, .null, .null, .int 0, .ref m6, .int 0, .int 0, .int 0, .long 0, .null, .ref m7, .ref m8, .int 0, .int 0, .long 0])), (lp, .inr (0, [.int 0, .ref te, .int 0]))] sz)) 0 0 (va_A [(h0, .inr (17, [.ref lp, .null, .null, .int 0, .int 0, .ref m1, .ref m2, .ref m3, .ref m4, .ref m5, .null, .null, .int 0, .ref m6, .int 0, .int 0, .int 0, .long 0, .null, .ref m7, .ref m8, .int 0, .int 0, .long 0])), (lp, .inr (0, [.int 0, .ref te, .int 0]))] sz) := by
  refine Met.ofW (cc := cX16_handle) (maxL := 2) (ret := (some .int)) (by decide) rfl ?_
  intro p e s m args below meth c s₁ B hml hv
  obtain ⟨rfl, hsz, hP, hK, hD0, hG⟩ := hv
  have hx := B.exec
  have hb := B.bytes
  have hr := B.returns
  have hts := atoms_spec (ws := z_M_handle_ok) B.pre
  have hown : s.vm.findClass RX16 = some m.cls := findClass_of_methodNamed B.named
  have hlocks := B.notSynchronized
  subst hsz
  have hD := hD0.self (sz := s.heap.size)
  generalize hAe : va_A [(h0, .inr (17, [.ref lp, .null, .null, .int 0, .int 0, .ref m1, .ref m2, .ref m3, .ref m4, .ref m5, .null, .null, .int 0, .ref m6, .int 0, .int 0, .int 0, .long 0, .null, .ref m7, .ref m8, .int 0, .int 0, .long 0])), (lp, .inr (0, [.int 0, .ref te, .int 0]))] s.heap.size = A at hD hG ⊢
  have hA : ∀ q : Nat, s.heap.size ≤ q → A q := fun q h => by rw [← hAe]; exact Or.inr h
  have hS : va_S A s.heap s.heap [] := va_S.rf
  have hl := lv_entry ([.ref h0, .int p0]) (n := 2) (Nat.le_of_ble_eq_true rfl)
  rw [lg_entry_eq]
  generalize (lg_sl ([.ref h0, .int p0]) ++ List.replicate (2 - (lg_sl ([.ref h0, .int p0])).length) Slot.unset).toArray = ls at hl ⊢
  have hl : lv_has ls 2 [(0, .ref h0), (1, .int p0)] := hl
  refine lv_aload_n hx hb dX16_handle_0 rfl (lv_at hl 0 rfl) ?_
  refine lv_iload_n hx hb dX16_handle_1 rfl (lv_at hl 1 rfl) ?_
  have hPc := hP.sub (ws' := []) [] rfl
  have hDc := hD.sub (ws' := []) [] (by decide) rfl
  have hKc := hK.sub (tys' := []) [] rfl
  have hFc := va_free (wc := []) hD hS hA [] rfl
  refine va_calli (va_runS (As := [.int p0]) (rest := [.ref h0]) ⟨hx, hb, hml, hown, hts⟩ (c_isN_ok l dC dI tp te s.heap.size p0 hvn hvb hvc) (va_cwS 1 hts g_M_handle_ok_2 rfl rfl rfl (by decide +kernel) ⟨Nat.le_of_ble_eq_true rfl, Nat.le_of_ble_eq_true rfl⟩) ⟨Pw.blind, Pw.mk hPc hKc hDc hG hS hFc⟩ rfl rfl hl.1 rfl (lv_room (Nat.le_of_ble_eq_true rfl)) dX16_handle_2 ⟨Nat.le_of_ble_eq_true rfl, Nat.le_of_ble_eq_true rfl⟩) hS (fun q _ h => hFc q h) hFc (fun r u t9 H_1 locs ht hvm hw hB hz1 hk1 hS => ?_)
  have hw : r = 1 := hw
  subst hw
  obtain ⟨hP, hD⟩ := va_join (wr := [(h0, .inr (17, [.ref lp, .null, .null, .int 0, .int 0, .ref m1, .ref m2, .ref m3, .ref m4, .ref m5, .null, .null, .int 0, .ref m6, .int 0, .int 0, .int 0, .long 0, .null, .ref m7, .ref m8, .int 0, .int 0, .long 0])), (lp, .inr (0, [.int 0, .ref te, .int 0]))]) (w1 := []) hP hD [] [0, 1] rfl rfl (by decide) (by decide) hk1 hFc va_P.nil va_D.nil
  have hK := hK.sub (tys' := []) [] rfl
  have hP : va_P (dC, dI) vwCl [(h0, .inr (17, [.ref lp, .null, .null, .int 0, .int 0, .ref m1, .ref m2, .ref m3, .ref m4, .ref m5, .null, .null, .int 0, .ref m6, .int 0, .int 0, .int 0, .long 0, .null, .ref m7, .ref m8, .int 0, .int 0, .long 0])), (lp, .inr (0, [.int 0, .ref te, .int 0]))] H_1 := hP
  have hD : va_D A [(h0, .inr (17, [.ref lp, .null, .null, .int 0, .int 0, .ref m1, .ref m2, .ref m3, .ref m4, .ref m5, .null, .null, .int 0, .ref m6, .int 0, .int 0, .int 0, .long 0, .null, .ref m7, .ref m8, .int 0, .int 0, .long 0])), (lp, .inr (0, [.int 0, .ref te, .int 0]))] := hD
  have hK : va_K (dC, dI) vwCl [] s := hK
  refine W.widen (k := 0) (n := 0) (Nat.le_of_ble_eq_true rfl) (Nat.le_of_ble_eq_true rfl) ?_
  refine lv_if_ne (tgt := 12) hx hb dX16_handle_5 (by decide) (fun c9 => ?_) (fun c9 => absurd c9 (by decide))
  refine lv_aload_n hx hb dX16_handle_12 rfl (lv_at hl 0 rfl) ?_
  refine lv_iconst (v := 2) hx hb dX16_handle_13 (by decide) ?_
  have hPc := hP.sub (ws' := [(h0, .inr (17, [.ref lp, .null, .null, .int 0, .int 0, .ref m1, .ref m2, .ref m3, .ref m4, .ref m5, .null, .null, .int 0, .ref m6, .int 0, .int 0, .int 0, .long 0, .null, .ref m7, .ref m8, .int 0, .int 0, .long 0])), (lp, .inr (0, [.int 0, .ref te, .int 0]))]) [0, 1] rfl
  have hDc := hD.sub (ws' := [(h0, .inr (17, [.ref lp, .null, .null, .int 0, .int 0, .ref m1, .ref m2, .ref m3, .ref m4, .ref m5, .null, .null, .int 0, .ref m6, .int 0, .int 0, .int 0, .long 0, .null, .ref m7, .ref m8, .int 0, .int 0, .long 0])), (lp, .inr (0, [.int 0, .ref te, .int 0]))]) [0, 1] (by decide) rfl
  have hKc := hK.sub (tys' := []) [] rfl
  have hFc := va_free (wc := [(h0, .inr (17, [.ref lp, .null, .null, .int 0, .int 0, .ref m1, .ref m2, .ref m3, .ref m4, .ref m5, .null, .null, .int 0, .ref m6, .int 0, .int 0, .int 0, .long 0, .null, .ref m7, .ref m8, .int 0, .int 0, .long 0])), (lp, .inr (0, [.int 0, .ref te, .int 0]))]) hD hS hA [0, 1] rfl
  refine va_calli (va_runV (As := [.int 2]) (rest := [.ref h0]) ⟨hx, hb, hml, hown, hts⟩ (c_fits2 l dC dI tp te H_1.size h0 lp m1 m2 m3 m4 m5 m6 m7 m8) (cwV 1 hts g_M_handle_ok_14 rfl rfl rfl (by decide +kernel) ⟨Nat.le_of_ble_eq_true rfl, Nat.le_of_ble_eq_true rfl⟩) ⟨Pw.blind, va_recv hKc hPc (ci := 17) (q0 := 0) rfl rfl, Pw.mk hPc hKc hDc hG hS hFc⟩ rfl rfl hl.1 rfl (lv_room (Nat.le_of_ble_eq_true rfl)) dX16_handle_14 ⟨Nat.le_of_ble_eq_true rfl, Nat.le_of_ble_eq_true rfl⟩) hS (fun q _ h => hFc q h) hFc (fun r u t9 H_3 locs ht hvm hw hB hz1 hk1 hS => ?_)
  have hw : r = 0 := hw
  subst hw
  obtain ⟨hP1, hK1, hD1⟩ := hB
  rw [ht] at hP1
  have hK1 := va_K.moved hvm.symm hK1
  obtain ⟨hP, hD⟩ := va_join (wr := []) (w1 := [(h0, .inr (17, [.ref lp, .null, .null, .int 0, .int 0, .ref m1, .ref m2, .ref m3, .ref m4, .ref m5, .null, .null, .int 0, .ref m6, .int 0, .int 0, .int 0, .long 0, .null, .ref m7, .ref m8, .int 0, .int 0, .long 0])), (lp, .inr (0, [.int 0, .ref te, .int 0]))]) hP hD [0, 1] [] rfl rfl (by decide) (by decide) hk1 hFc hP1 hD1
  have hK := (hK.sub (tys' := []) [] rfl).app hK1
  have hP : va_P (dC, dI) vwCl [(h0, .inr (17, [.ref lp, .null, .null, .int 0, .int 0, .ref m1, .ref m2, .ref m3, .ref m4, .ref m5, .null, .null, .int 0, .ref m6, .int 0, .int 0, .int 0, .long 0, .null, .ref m7, .ref m8, .int 0, .int 0, .long 0])), (lp, .inr (0, [.int 0, .ref te, .int 0]))] H_3 := hP
  have hD : va_D A [(h0, .inr (17, [.ref lp, .null, .null, .int 0, .int 0, .ref m1, .ref m2, .ref m3, .ref m4, .ref m5, .null, .null, .int 0, .ref m6, .int 0, .int 0, .int 0, .long 0, .null, .ref m7, .ref m8, .int 0, .int 0, .long 0])), (lp, .inr (0, [.int 0, .ref te, .int 0]))] := hD
  have hK : va_K (dC, dI) vwCl [] s := hK
  refine W.widen (k := 0) (n := 0) (Nat.le_of_ble_eq_true rfl) (Nat.le_of_ble_eq_true rfl) ?_
  refine lv_if_ne (tgt := 24) hx hb dX16_handle_17 (by decide) (fun c9 => absurd (by decide) c9) (fun c9 => ?_)
  refine lv_iconst (v := 2) hx hb dX16_handle_20 (by decide) ?_
  refine lv_goto (tgt := 25) hx hb dX16_handle_21 (by decide) ?_
  refine va_put (D := (dC, dI)) (ci := 17) (v := .int 2) (ty := .int) (C := RX16) (T := TX16) (N := 24) hx hb hts in_z_M_handle_ok_X16 tyX16 tyX16_ok nmX16 hown hK hP hD hS 0 rfl rfl 4 (by decide) (hts (.fieldLink RX16 40 "SelfkindleModel" "thrown" "I") (List.mem_of_getElem? (i := 16) rfl)) (fun _ h9 => h9) rfl (by decide +kernel) rfl rfl (Nat.le_of_ble_eq_true rfl) dX16_handle_25 (fun H_5 locs hP hD hS => ?_)
  have hP : va_P (dC, dI) vwCl [(h0, .inr (17, [.ref lp, .null, .null, .int 0, .int 2, .ref m1, .ref m2, .ref m3, .ref m4, .ref m5, .null, .null, .int 0, .ref m6, .int 0, .int 0, .int 0, .long 0, .null, .ref m7, .ref m8, .int 0, .int 0, .long 0])), (lp, .inr (0, [.int 0, .ref te, .int 0]))] H_5 := hP
  have hD : va_D A [(h0, .inr (17, [.ref lp, .null, .null, .int 0, .int 2, .ref m1, .ref m2, .ref m3, .ref m4, .ref m5, .null, .null, .int 0, .ref m6, .int 0, .int 0, .int 0, .long 0, .null, .ref m7, .ref m8, .int 0, .int 0, .long 0])), (lp, .inr (0, [.int 0, .ref te, .int 0]))] := hD
  have hK : va_K (dC, dI) vwCl [] s := hK
  refine lv_aload_n hx hb dX16_handle_28 rfl (lv_at hl 0 rfl) ?_
  refine va_get (D := (dC, dI)) (ci := 17) (v := .int 2) (C := RX16) (T := TX16) (N := 24) hx hb hts in_z_M_handle_ok_X16 hown hK hP 0 rfl rfl 4 (by decide) (hts (.fieldLink RX16 40 "SelfkindleModel" "thrown" "I") (List.mem_of_getElem? (i := 16) rfl)) (fun _ h9 => h9) rfl dX16_handle_29 ?_
  refine lv_if_le (tgt := 39) hx hb dX16_handle_32 (by decide) (fun c9 => absurd c9 (by decide)) (fun c9 => ?_)
  refine lv_iconst (v := 0) hx hb dX16_handle_35 (by decide) ?_
  refine lv_goto (tgt := 49) hx hb dX16_handle_36 (by decide) ?_
  have hP := hP.sub (ws' := [(h0, .inr (17, [.ref lp, .null, .null, .int 0, .int 2, .ref m1, .ref m2, .ref m3, .ref m4, .ref m5, .null, .null, .int 0, .ref m6, .int 0, .int 0, .int 0, .long 0, .null, .ref m7, .ref m8, .int 0, .int 0, .long 0]))]) [0] rfl
  have hD := hD.sub (ws' := [(h0, .inr (17, [.ref lp, .null, .null, .int 0, .int 2, .ref m1, .ref m2, .ref m3, .ref m4, .ref m5, .null, .null, .int 0, .ref m6, .int 0, .int 0, .int 0, .long 0, .null, .ref m7, .ref m8, .int 0, .int 0, .long 0]))]) [0] (by decide) rfl
  have hK := hK.sub (tys' := []) [] rfl
  refine W.widen (k := 0) (n := 0) (Nat.le_of_ble_eq_true rfl) (Nat.le_of_ble_eq_true rfl) ?_
  exact W.iret (v := 0) hx hb hr (fun t ht hW => ⟨⟨0, (), rfl, rfl, ⟨by rw [ht]; exact hP, va_K.moved hW.alike hK, hD⟩⟩, hS.F ht⟩) hS.2.2 dX16_handle_49

set_option maxRecDepth 20000 in
def z_M_rec_fneg : List Cond := .code yX16_rec cX16_rec 3 (some .int) :: (([.methodLink RX16 74 yX16_isName, .static yX16_isName, .initialized RX16, .code yX16_isName cX16_isName 1 (some .boolean), .fieldLink RX16 40 "SelfkindleModel" "thrown" "I"] : List Cond) ++ wsX160)
theorem in_z_M_rec_fneg_X16 : ∀ w ∈ wsX160, w ∈ z_M_rec_fneg := fun w h => List.mem_cons_of_mem _ (List.mem_append_right _ (h))
set_option maxRecDepth 20000 in
theorem g_M_rec_fneg_2 : GoodIn z_M_rec_fneg (va_wsS RX16 74 yX16_isName z_isN_neg) := goodIn_p _ [4] rfl (by decide +kernel)
set_option maxHeartbeats 4000000 in
set_option maxRecDepth 100000 in
theorem c_M_rec_fneg (l : Launch) (dC : Nat → ClassId) (dI : Nat → Nat → Nat) (tp te : Nat) (sz : Nat) (h0 : Nat) (lp : Nat) (m1 : Nat) (m2 : Nat) (m3 : Nat) (m4 : Nat) (m5 : Nat) (m6 : Nat) (m7 : Nat) (m8 : Nat) (p0 : Int32) (p1 : Int32) (hvn : p0 < 0) : Met l yX16_rec z_M_rec_fneg ({ frames := 1, cells := 0, slots := 0, locals := 20 }) (va_Pc [.ref h0, .int p0, .int p1] (Pw dC dI [(h0, .inr (17, [.ref lp, .null, .null, .int 0, .int 0, .ref m1, .ref m2, .ref m3, .ref m4, .ref m5, .null, .null, .int 0, .ref m6, .int 0, .int 0, .int 0, .long 0, .null, .ref m7, .ref m8, .int 0, .int 0, .long 0])), (lp, .inr (0, [.int 0, .ref te, .int 0]))] [] sz tp te)) (va_Qi (fun (r : Int32) (_ : Unit) => r = 0) (fun (_ : Unit) (t : State) => Bw dC dI [(h0, .inr (17, [.ref lp, .null, .null, .int 0, .int 1, .ref m1, .ref m2, .ref m3, .ref m4, .ref m5, .null, .null, .int 0, .ref m6, .int 0, .int 0, .int 0, .long 0, .null, .ref m7, .ref m8, .int 0, .int 0, .long 0]))] [] (va_A [(h0, .inr (17, [.ref lp, .null, .null, .int 0, .int 0, .ref m1, .ref m2, .ref m3, .ref m4, .ref m5, .null, .null, .int 0, .ref m6, .int 0, .int 0, .int 0, .long 0, .null, .ref m7, .ref m8, .int 0, .int 0, .long 0])), (lp, .inr (0, [.int 0, .ref te, .int 0]))] sz) t) (va_A [(h0, .inr (17, [.ref lp, .null, .null, .int 0, .int 0, .ref m1, .ref m2, .ref m3, .ref m4, .ref m5, .null, .null, .int 0, .ref m6, .int 0, .int 0, .int 0, .long 0, .null, .ref m7, .ref m8, .int 0, .int 0, .long 0])), (lp, .inr (0, [.int 0, .ref te, .int 0]))] sz)) 0 0 (va_A [(h0, .inr (17, [.ref lp, .null, .null, .int 0, .int 0, .ref m1, .ref m2, .ref m3, .ref m4, .ref m5, .null, .null, .int 0, .ref m6, .int 0, .int 0, .int 0, .long 0, .null, .ref m7, .ref m8, .int 0, .int 0, .long 0])), (lp, .inr (0, [.int 0, .ref te, .int 0]))] sz) := by
  refine Met.ofW (cc := cX16_rec) (maxL := 3) (ret := (some .int)) (by decide) rfl ?_
  intro p e s m args below meth c s₁ B hml hv
  obtain ⟨rfl, hsz, hP, hK, hD0, hG⟩ := hv
  have hx := B.exec
  have hb := B.bytes
  have hr := B.returns
  have hts := atoms_spec (ws := z_M_rec_fneg) B.pre
  have hown : s.vm.findClass RX16 = some m.cls := findClass_of_methodNamed B.named
  have hlocks := B.notSynchronized
  subst hsz
  have hD := hD0.self (sz := s.heap.size)
  generalize hAe : va_A [(h0, .inr (17, [.ref lp, .null, .null, .int 0, .int 0, .ref m1, .ref m2, .ref m3, .ref m4, .ref m5, .null, .null, .int 0, .ref m6, .int 0, .int 0, .int 0, .long 0, .null, .ref m7, .ref m8, .int 0, .int 0, .long 0])), (lp, .inr (0, [.int 0, .ref te, .int 0]))] s.heap.size = A at hD hG ⊢
  have hA : ∀ q : Nat, s.heap.size ≤ q → A q := fun q h => by rw [← hAe]; exact Or.inr h
  have hS : va_S A s.heap s.heap [] := va_S.rf
  have hl := lv_entry ([.ref h0, .int p0, .int p1]) (n := 3) (Nat.le_of_ble_eq_true rfl)
  rw [lg_entry_eq]
  generalize (lg_sl ([.ref h0, .int p0, .int p1]) ++ List.replicate (3 - (lg_sl ([.ref h0, .int p0, .int p1])).length) Slot.unset).toArray = ls at hl ⊢
  have hl : lv_has ls 3 [(0, .ref h0), (1, .int p0), (2, .int p1)] := hl
  refine lv_aload_n hx hb dX16_rec_0 rfl (lv_at hl 0 rfl) ?_
  refine lv_iload_n hx hb dX16_rec_1 rfl (lv_at hl 1 rfl) ?_
  have hPc := hP.sub (ws' := []) [] rfl
  have hDc := hD.sub (ws' := []) [] (by decide) rfl
  have hKc := hK.sub (tys' := []) [] rfl
  have hFc := va_free (wc := []) hD hS hA [] rfl
  refine va_calli (va_runS (As := [.int p0]) (rest := [.ref h0]) ⟨hx, hb, hml, hown, hts⟩ (c_isN_neg l dC dI tp te s.heap.size p0 hvn) (va_cwS 1 hts g_M_rec_fneg_2 rfl rfl rfl (by decide +kernel) ⟨Nat.le_of_ble_eq_true rfl, Nat.le_of_ble_eq_true rfl⟩) ⟨Pw.blind, Pw.mk hPc hKc hDc hG hS hFc⟩ rfl rfl hl.1 rfl (lv_room (Nat.le_of_ble_eq_true rfl)) dX16_rec_2 ⟨Nat.le_of_ble_eq_true rfl, Nat.le_of_ble_eq_true rfl⟩) hS (fun q _ h => hFc q h) hFc (fun r u t9 H_1 locs ht hvm hw hB hz1 hk1 hS => ?_)
  have hw : r = 0 := hw
  subst hw
  obtain ⟨hP, hD⟩ := va_join (wr := [(h0, .inr (17, [.ref lp, .null, .null, .int 0, .int 0, .ref m1, .ref m2, .ref m3, .ref m4, .ref m5, .null, .null, .int 0, .ref m6, .int 0, .int 0, .int 0, .long 0, .null, .ref m7, .ref m8, .int 0, .int 0, .long 0])), (lp, .inr (0, [.int 0, .ref te, .int 0]))]) (w1 := []) hP hD [] [0, 1] rfl rfl (by decide) (by decide) hk1 hFc va_P.nil va_D.nil
  have hK := hK.sub (tys' := []) [] rfl
  have hP : va_P (dC, dI) vwCl [(h0, .inr (17, [.ref lp, .null, .null, .int 0, .int 0, .ref m1, .ref m2, .ref m3, .ref m4, .ref m5, .null, .null, .int 0, .ref m6, .int 0, .int 0, .int 0, .long 0, .null, .ref m7, .ref m8, .int 0, .int 0, .long 0])), (lp, .inr (0, [.int 0, .ref te, .int 0]))] H_1 := hP
  have hD : va_D A [(h0, .inr (17, [.ref lp, .null, .null, .int 0, .int 0, .ref m1, .ref m2, .ref m3, .ref m4, .ref m5, .null, .null, .int 0, .ref m6, .int 0, .int 0, .int 0, .long 0, .null, .ref m7, .ref m8, .int 0, .int 0, .long 0])), (lp, .inr (0, [.int 0, .ref te, .int 0]))] := hD
  have hK : va_K (dC, dI) vwCl [] s := hK
  refine W.widen (k := 0) (n := 0) (Nat.le_of_ble_eq_true rfl) (Nat.le_of_ble_eq_true rfl) ?_
  refine lv_if_eq (tgt := 15) hx hb dX16_rec_5 (by decide) (fun c9 => ?_) (fun c9 => absurd (by decide) c9)
  refine lv_iconst (v := 1) hx hb dX16_rec_15 (by decide) ?_
  refine lv_goto (tgt := 32) hx hb dX16_rec_16 (by decide) ?_
  refine va_put (D := (dC, dI)) (ci := 17) (v := .int 1) (ty := .int) (C := RX16) (T := TX16) (N := 24) hx hb hts in_z_M_rec_fneg_X16 tyX16 tyX16_ok nmX16 hown hK hP hD hS 0 rfl rfl 4 (by decide) (hts (.fieldLink RX16 40 "SelfkindleModel" "thrown" "I") (List.mem_of_getElem? (i := 5) rfl)) (fun _ h9 => h9) rfl (by decide +kernel) rfl rfl (Nat.le_of_ble_eq_true rfl) dX16_rec_32 (fun H_3 locs hP hD hS => ?_)
  have hP : va_P (dC, dI) vwCl [(h0, .inr (17, [.ref lp, .null, .null, .int 0, .int 1, .ref m1, .ref m2, .ref m3, .ref m4, .ref m5, .null, .null, .int 0, .ref m6, .int 0, .int 0, .int 0, .long 0, .null, .ref m7, .ref m8, .int 0, .int 0, .long 0])), (lp, .inr (0, [.int 0, .ref te, .int 0]))] H_3 := hP
  have hD : va_D A [(h0, .inr (17, [.ref lp, .null, .null, .int 0, .int 1, .ref m1, .ref m2, .ref m3, .ref m4, .ref m5, .null, .null, .int 0, .ref m6, .int 0, .int 0, .int 0, .long 0, .null, .ref m7, .ref m8, .int 0, .int 0, .long 0])), (lp, .inr (0, [.int 0, .ref te, .int 0]))] := hD
  have hK : va_K (dC, dI) vwCl [] s := hK
  refine lv_aload_n hx hb dX16_rec_35 rfl (lv_at hl 0 rfl) ?_
  refine va_get (D := (dC, dI)) (ci := 17) (v := .int 1) (C := RX16) (T := TX16) (N := 24) hx hb hts in_z_M_rec_fneg_X16 hown hK hP 0 rfl rfl 4 (by decide) (hts (.fieldLink RX16 40 "SelfkindleModel" "thrown" "I") (List.mem_of_getElem? (i := 5) rfl)) (fun _ h9 => h9) rfl dX16_rec_36 ?_
  refine lv_if_le (tgt := 46) hx hb dX16_rec_39 (by decide) (fun c9 => absurd c9 (by decide)) (fun c9 => ?_)
  refine lv_iconst (v := 0) hx hb dX16_rec_42 (by decide) ?_
  refine lv_goto (tgt := 56) hx hb dX16_rec_43 (by decide) ?_
  have hP := hP.sub (ws' := [(h0, .inr (17, [.ref lp, .null, .null, .int 0, .int 1, .ref m1, .ref m2, .ref m3, .ref m4, .ref m5, .null, .null, .int 0, .ref m6, .int 0, .int 0, .int 0, .long 0, .null, .ref m7, .ref m8, .int 0, .int 0, .long 0]))]) [0] rfl
  have hD := hD.sub (ws' := [(h0, .inr (17, [.ref lp, .null, .null, .int 0, .int 1, .ref m1, .ref m2, .ref m3, .ref m4, .ref m5, .null, .null, .int 0, .ref m6, .int 0, .int 0, .int 0, .long 0, .null, .ref m7, .ref m8, .int 0, .int 0, .long 0]))]) [0] (by decide) rfl
  have hK := hK.sub (tys' := []) [] rfl
  refine W.widen (k := 0) (n := 0) (Nat.le_of_ble_eq_true rfl) (Nat.le_of_ble_eq_true rfl) ?_
  exact W.iret (v := 0) hx hb hr (fun t ht hW => ⟨⟨0, (), rfl, rfl, ⟨by rw [ht]; exact hP, va_K.moved hW.alike hK, hD⟩⟩, hS.F ht⟩) hS.2.2 dX16_rec_56

set_option maxRecDepth 20000 in
def z_M_rec_fbig : List Cond := .code yX16_rec cX16_rec 3 (some .int) :: (([.methodLink RX16 74 yX16_isName, .static yX16_isName, .initialized RX16, .code yX16_isName cX16_isName 1 (some .boolean), .fieldLink RX16 40 "SelfkindleModel" "thrown" "I"] : List Cond) ++ wsX160)
theorem in_z_M_rec_fbig_X16 : ∀ w ∈ wsX160, w ∈ z_M_rec_fbig := fun w h => List.mem_cons_of_mem _ (List.mem_append_right _ (h))
set_option maxRecDepth 20000 in
theorem g_M_rec_fbig_2 : GoodIn z_M_rec_fbig (va_wsS RX16 74 yX16_isName z_isN_big) := goodIn_p _ [4] rfl (by decide +kernel)
set_option maxHeartbeats 4000000 in
set_option maxRecDepth 100000 in
theorem c_M_rec_fbig (l : Launch) (dC : Nat → ClassId) (dI : Nat → Nat → Nat) (tp te : Nat) (sz : Nat) (h0 : Nat) (lp : Nat) (m1 : Nat) (m2 : Nat) (m3 : Nat) (m4 : Nat) (m5 : Nat) (m6 : Nat) (m7 : Nat) (m8 : Nat) (p0 : Int32) (p1 : Int32) (hvn : ¬ p0 < 0) (hvb : ¬ p0 < 10) (hvc : 10 ≤ p0) : Met l yX16_rec z_M_rec_fbig ({ frames := 1, cells := 0, slots := 0, locals := 20 }) (va_Pc [.ref h0, .int p0, .int p1] (Pw dC dI [(h0, .inr (17, [.ref lp, .null, .null, .int 0, .int 0, .ref m1, .ref m2, .ref m3, .ref m4, .ref m5, .null, .null, .int 0, .ref m6, .int 0, .int 0, .int 0, .long 0, .null, .ref m7, .ref m8, .int 0, .int 0, .long 0])), (lp, .inr (0, [.int 0, .ref te, .int 0]))] [] sz tp te)) (va_Qi (fun (r : Int32) (_ : Unit) => r = 0) (fun (_ : Unit) (t : State) => Bw dC dI [(h0, .inr (17, [.ref lp, .null, .null, .int 0, .int 1, .ref m1, .ref m2, .ref m3, .ref m4, .ref m5, .null, .null, .int 0, .ref m6, .int 0, .int 0, .int 0, .long 0, .null, .ref m7, .ref m8, .int 0, .int 0, .long 0]))] [] (va_A [(h0, .inr (17, [.ref lp, .null, .null, .int 0, .int 0, .ref m1, .ref m2, .ref m3, .ref m4, .ref m5, .null, .null, .int 0, .ref m6, .int 0, .int 0, .int 0, .long 0, .null, .ref m7, .ref m8, .int 0, .int 0, .long 0])), (lp, .inr (0, [.int 0, .ref te, .int 0]))] sz) t) (va_A [(h0, .inr (17, [.ref lp, .null, .null, .int 0, .int 0, .ref m1, .ref m2, .ref m3, .ref m4, .ref m5, .null, .null, .int 0, .ref m6, .int 0, .int 0, .int 0, .long 0, .null, .ref m7, .ref m8, .int 0, .int 0, .long 0])), (lp, .inr (0, [.int 0, .ref te, .int 0]))] sz)) 0 0 (va_A [(h0, .inr (17, [.ref lp, .null, .null, .int 0, .int 0, .ref m1, .ref m2, .ref m3, .ref m4, .ref m5, .null, .null, .int 0, .ref m6, .int 0, .int 0, .int 0, .long 0, .null, .ref m7, .ref m8, .int 0, .int 0, .long 0])), (lp, .inr (0, [.int 0, .ref te, .int 0]))] sz) := by
  refine Met.ofW (cc := cX16_rec) (maxL := 3) (ret := (some .int)) (by decide) rfl ?_
  intro p e s m args below meth c s₁ B hml hv
  obtain ⟨rfl, hsz, hP, hK, hD0, hG⟩ := hv
  have hx := B.exec
  have hb := B.bytes
  have hr := B.returns
  have hts := atoms_spec (ws := z_M_rec_fbig) B.pre
  have hown : s.vm.findClass RX16 = some m.cls := findClass_of_methodNamed B.named
  have hlocks := B.notSynchronized
  subst hsz
  have hD := hD0.self (sz := s.heap.size)
  generalize hAe : va_A [(h0, .inr (17, [.ref lp, .null, .null, .int 0, .int 0, .ref m1, .ref m2, .ref m3, .ref m4, .ref m5, .null, .null, .int 0, .ref m6, .int 0, .int 0, .int 0, .long 0, .null, .ref m7, .ref m8, .int 0, .int 0, .long 0])), (lp, .inr (0, [.int 0, .ref te, .int 0]))] s.heap.size = A at hD hG ⊢
  have hA : ∀ q : Nat, s.heap.size ≤ q → A q := fun q h => by rw [← hAe]; exact Or.inr h
  have hS : va_S A s.heap s.heap [] := va_S.rf
  have hl := lv_entry ([.ref h0, .int p0, .int p1]) (n := 3) (Nat.le_of_ble_eq_true rfl)
  rw [lg_entry_eq]
  generalize (lg_sl ([.ref h0, .int p0, .int p1]) ++ List.replicate (3 - (lg_sl ([.ref h0, .int p0, .int p1])).length) Slot.unset).toArray = ls at hl ⊢
  have hl : lv_has ls 3 [(0, .ref h0), (1, .int p0), (2, .int p1)] := hl
  refine lv_aload_n hx hb dX16_rec_0 rfl (lv_at hl 0 rfl) ?_
  refine lv_iload_n hx hb dX16_rec_1 rfl (lv_at hl 1 rfl) ?_
  have hPc := hP.sub (ws' := []) [] rfl
  have hDc := hD.sub (ws' := []) [] (by decide) rfl
  have hKc := hK.sub (tys' := []) [] rfl
  have hFc := va_free (wc := []) hD hS hA [] rfl
  refine va_calli (va_runS (As := [.int p0]) (rest := [.ref h0]) ⟨hx, hb, hml, hown, hts⟩ (c_isN_big l dC dI tp te s.heap.size p0 hvn hvb hvc) (va_cwS 1 hts g_M_rec_fbig_2 rfl rfl rfl (by decide +kernel) ⟨Nat.le_of_ble_eq_true rfl, Nat.le_of_ble_eq_true rfl⟩) ⟨Pw.blind, Pw.mk hPc hKc hDc hG hS hFc⟩ rfl rfl hl.1 rfl (lv_room (Nat.le_of_ble_eq_true rfl)) dX16_rec_2 ⟨Nat.le_of_ble_eq_true rfl, Nat.le_of_ble_eq_true rfl⟩) hS (fun q _ h => hFc q h) hFc (fun r u t9 H_1 locs ht hvm hw hB hz1 hk1 hS => ?_)
  have hw : r = 0 := hw
  subst hw
  obtain ⟨hP, hD⟩ := va_join (wr := [(h0, .inr (17, [.ref lp, .null, .null, .int 0, .int 0, .ref m1, .ref m2, .ref m3, .ref m4, .ref m5, .null, .null, .int 0, .ref m6, .int 0, .int 0, .int 0, .long 0, .null, .ref m7, .ref m8, .int 0, .int 0, .long 0])), (lp, .inr (0, [.int 0, .ref te, .int 0]))]) (w1 := []) hP hD [] [0, 1] rfl rfl (by decide) (by decide) hk1 hFc va_P.nil va_D.nil
  have hK := hK.sub (tys' := []) [] rfl
  have hP : va_P (dC, dI) vwCl [(h0, .inr (17, [.ref lp, .null, .null, .int 0, .int 0, .ref m1, .ref m2, .ref m3, .ref m4, .ref m5, .null, .null, .int 0, .ref m6, .int 0, .int 0, .int 0, .long 0, .null, .ref m7, .ref m8, .int 0, .int 0, .long 0])), (lp, .inr (0, [.int 0, .ref te, .int 0]))] H_1 := hP
  have hD : va_D A [(h0, .inr (17, [.ref lp, .null, .null, .int 0, .int 0, .ref m1, .ref m2, .ref m3, .ref m4, .ref m5, .null, .null, .int 0, .ref m6, .int 0, .int 0, .int 0, .long 0, .null, .ref m7, .ref m8, .int 0, .int 0, .long 0])), (lp, .inr (0, [.int 0, .ref te, .int 0]))] := hD
  have hK : va_K (dC, dI) vwCl [] s := hK
  refine W.widen (k := 0) (n := 0) (Nat.le_of_ble_eq_true rfl) (Nat.le_of_ble_eq_true rfl) ?_
  refine lv_if_eq (tgt := 15) hx hb dX16_rec_5 (by decide) (fun c9 => ?_) (fun c9 => absurd (by decide) c9)
  refine lv_iconst (v := 1) hx hb dX16_rec_15 (by decide) ?_
  refine lv_goto (tgt := 32) hx hb dX16_rec_16 (by decide) ?_
  refine va_put (D := (dC, dI)) (ci := 17) (v := .int 1) (ty := .int) (C := RX16) (T := TX16) (N := 24) hx hb hts in_z_M_rec_fbig_X16 tyX16 tyX16_ok nmX16 hown hK hP hD hS 0 rfl rfl 4 (by decide) (hts (.fieldLink RX16 40 "SelfkindleModel" "thrown" "I") (List.mem_of_getElem? (i := 5) rfl)) (fun _ h9 => h9) rfl (by decide +kernel) rfl rfl (Nat.le_of_ble_eq_true rfl) dX16_rec_32 (fun H_3 locs hP hD hS => ?_)
  have hP : va_P (dC, dI) vwCl [(h0, .inr (17, [.ref lp, .null, .null, .int 0, .int 1, .ref m1, .ref m2, .ref m3, .ref m4, .ref m5, .null, .null, .int 0, .ref m6, .int 0, .int 0, .int 0, .long 0, .null, .ref m7, .ref m8, .int 0, .int 0, .long 0])), (lp, .inr (0, [.int 0, .ref te, .int 0]))] H_3 := hP
  have hD : va_D A [(h0, .inr (17, [.ref lp, .null, .null, .int 0, .int 1, .ref m1, .ref m2, .ref m3, .ref m4, .ref m5, .null, .null, .int 0, .ref m6, .int 0, .int 0, .int 0, .long 0, .null, .ref m7, .ref m8, .int 0, .int 0, .long 0])), (lp, .inr (0, [.int 0, .ref te, .int 0]))] := hD
  have hK : va_K (dC, dI) vwCl [] s := hK
  refine lv_aload_n hx hb dX16_rec_35 rfl (lv_at hl 0 rfl) ?_
  refine va_get (D := (dC, dI)) (ci := 17) (v := .int 1) (C := RX16) (T := TX16) (N := 24) hx hb hts in_z_M_rec_fbig_X16 hown hK hP 0 rfl rfl 4 (by decide) (hts (.fieldLink RX16 40 "SelfkindleModel" "thrown" "I") (List.mem_of_getElem? (i := 5) rfl)) (fun _ h9 => h9) rfl dX16_rec_36 ?_
  refine lv_if_le (tgt := 46) hx hb dX16_rec_39 (by decide) (fun c9 => absurd c9 (by decide)) (fun c9 => ?_)
  refine lv_iconst (v := 0) hx hb dX16_rec_42 (by decide) ?_
  refine lv_goto (tgt := 56) hx hb dX16_rec_43 (by decide) ?_
  have hP := hP.sub (ws' := [(h0, .inr (17, [.ref lp, .null, .null, .int 0, .int 1, .ref m1, .ref m2, .ref m3, .ref m4, .ref m5, .null, .null, .int 0, .ref m6, .int 0, .int 0, .int 0, .long 0, .null, .ref m7, .ref m8, .int 0, .int 0, .long 0]))]) [0] rfl
  have hD := hD.sub (ws' := [(h0, .inr (17, [.ref lp, .null, .null, .int 0, .int 1, .ref m1, .ref m2, .ref m3, .ref m4, .ref m5, .null, .null, .int 0, .ref m6, .int 0, .int 0, .int 0, .long 0, .null, .ref m7, .ref m8, .int 0, .int 0, .long 0]))]) [0] (by decide) rfl
  have hK := hK.sub (tys' := []) [] rfl
  refine W.widen (k := 0) (n := 0) (Nat.le_of_ble_eq_true rfl) (Nat.le_of_ble_eq_true rfl) ?_
  exact W.iret (v := 0) hx hb hr (fun t ht hW => ⟨⟨0, (), rfl, rfl, ⟨by rw [ht]; exact hP, va_K.moved hW.alike hK, hD⟩⟩, hS.F ht⟩) hS.2.2 dX16_rec_56

set_option maxRecDepth 20000 in
def z_M_rec_xneg : List Cond := .code yX16_rec cX16_rec 3 (some .int) :: (([.methodLink RX16 74 yX16_isName, .static yX16_isName, .initialized RX16, .code yX16_isName cX16_isName 1 (some .boolean), .fieldLink RX16 40 "SelfkindleModel" "thrown" "I"] : List Cond) ++ wsX160)
theorem in_z_M_rec_xneg_X16 : ∀ w ∈ wsX160, w ∈ z_M_rec_xneg := fun w h => List.mem_cons_of_mem _ (List.mem_append_right _ (h))
set_option maxRecDepth 20000 in
theorem g_M_rec_xneg_2 : GoodIn z_M_rec_xneg (va_wsS RX16 74 yX16_isName z_isN_ok) := goodIn_p _ [4] rfl (by decide +kernel)
set_option maxRecDepth 20000 in
theorem g_M_rec_xneg_9 : GoodIn z_M_rec_xneg (va_wsS RX16 74 yX16_isName z_isN_neg) := goodIn_p _ [4] rfl (by decide +kernel)
set_option maxHeartbeats 4000000 in
set_option maxRecDepth 100000 in
theorem c_M_rec_xneg (l : Launch) (dC : Nat → ClassId) (dI : Nat → Nat → Nat) (tp te : Nat) (sz : Nat) (h0 : Nat) (lp : Nat) (m1 : Nat) (m2 : Nat) (m3 : Nat) (m4 : Nat) (m5 : Nat) (m6 : Nat) (m7 : Nat) (m8 : Nat) (p0 : Int32) (p1 : Int32) (hvn : ¬ p0 < 0) (hvb : p0 < 10) (hvc : ¬ 10 ≤ p0) (hvnx : p1 < 0) : Met l yX16_rec z_M_rec_xneg ({ frames := 1, cells := 0, slots := 0, locals := 20 }) (va_Pc [.ref h0, .int p0, .int p1] (Pw dC dI [(h0, .inr (17, [.ref lp, .null, .null, .int 0, .int 0, .ref m1, .ref m2, .ref m3, .ref m4, .ref m5, .null, .null, .int 0, .ref m6, .int 0, .int 0, .int 0, .long 0, .null, .ref m7, .ref m8, .int 0, .int 0, .long 0])), (lp, .inr (0, [.int 0, .ref te, .int 0]))] [] sz tp te)) (va_Qi (fun (r : Int32) (_ : Unit) => r = 0) (fun (_ : Unit) (t : State) => Bw dC dI [(h0, .inr (17, [.ref lp, .null, .null, .int 0, .int 1, .ref m1, .ref m2, .ref m3, .ref m4, .ref m5, .null, .null, .int 0, .ref m6, .int 0, .int 0, .int 0, .long 0, .null, .ref m7, .ref m8, .int 0, .int 0, .long 0]))] [] (va_A [(h0, .inr (17, [.ref lp, .null, .null, .int 0, .int 0, .ref m1, .ref m2, .ref m3, .ref m4, .ref m5, .null, .null, .int 0, .ref m6, .int 0, .int 0, .int 0, .long 0, .null, .ref m7, .ref m8, .int 0, .int 0, .long 0])), (lp, .inr (0, [.int 0, .ref te, .int 0]))] sz) t) (va_A [(h0, .inr (17, [.ref lp, .null, .null, .int 0, .int 0, .ref m1, .ref m2, .ref m3, .ref m4, .ref m5, .null, .null, .int 0, .ref m6, .int 0, .int 0, .int 0, .long 0, .null, .ref m7, .ref m8, .int 0, .int 0, .long 0])), (lp, .inr (0, [.int 0, .ref te, .int 0]))] sz)) 0 0 (va_A [(h0, .inr (17, [.ref lp, .null, .null, .int 0, .int 0, .ref m1, .ref m2, .ref m3, .ref m4, .ref m5, .null, .null, .int 0, .ref m6, .int 0, .int 0, .int 0, .long 0, .null, .ref m7, .ref m8, .int 0, .int 0, .long 0])), (lp, .inr (0, [.int 0, .ref te, .int 0]))] sz) := by
  refine Met.ofW (cc := cX16_rec) (maxL := 3) (ret := (some .int)) (by decide) rfl ?_
  intro p e s m args below meth c s₁ B hml hv
  obtain ⟨rfl, hsz, hP, hK, hD0, hG⟩ := hv
  have hx := B.exec
  have hb := B.bytes
  have hr := B.returns
  have hts := atoms_spec (ws := z_M_rec_xneg) B.pre
  have hown : s.vm.findClass RX16 = some m.cls := findClass_of_methodNamed B.named
  have hlocks := B.notSynchronized
  subst hsz
  have hD := hD0.self (sz := s.heap.size)
  generalize hAe : va_A [(h0, .inr (17, [.ref lp, .null, .null, .int 0, .int 0, .ref m1, .ref m2, .ref m3, .ref m4, .ref m5, .null, .null, .int 0, .ref m6, .int 0, .int 0, .int 0, .long 0, .null, .ref m7, .ref m8, .int 0, .int 0, .long 0])), (lp, .inr (0, [.int 0, .ref te, .int 0]))] s.heap.size = A at hD hG ⊢
  have hA : ∀ q : Nat, s.heap.size ≤ q → A q := fun q h => by rw [← hAe]; exact Or.inr h
  have hS : va_S A s.heap s.heap [] := va_S.rf
  have hl := lv_entry ([.ref h0, .int p0, .int p1]) (n := 3) (Nat.le_of_ble_eq_true rfl)
  rw [lg_entry_eq]
  generalize (lg_sl ([.ref h0, .int p0, .int p1]) ++ List.replicate (3 - (lg_sl ([.ref h0, .int p0, .int p1])).length) Slot.unset).toArray = ls at hl ⊢
  have hl : lv_has ls 3 [(0, .ref h0), (1, .int p0), (2, .int p1)] := hl
  refine lv_aload_n hx hb dX16_rec_0 rfl (lv_at hl 0 rfl) ?_
  refine lv_iload_n hx hb dX16_rec_1 rfl (lv_at hl 1 rfl) ?_
  have hPc := hP.sub (ws' := []) [] rfl
  have hDc := hD.sub (ws' := []) [] (by decide) rfl
  have hKc := hK.sub (tys' := []) [] rfl
  have hFc := va_free (wc := []) hD hS hA [] rfl
  refine va_calli (va_runS (As := [.int p0]) (rest := [.ref h0]) ⟨hx, hb, hml, hown, hts⟩ (c_isN_ok l dC dI tp te s.heap.size p0 hvn hvb hvc) (va_cwS 1 hts g_M_rec_xneg_2 rfl rfl rfl (by decide +kernel) ⟨Nat.le_of_ble_eq_true rfl, Nat.le_of_ble_eq_true rfl⟩) ⟨Pw.blind, Pw.mk hPc hKc hDc hG hS hFc⟩ rfl rfl hl.1 rfl (lv_room (Nat.le_of_ble_eq_true rfl)) dX16_rec_2 ⟨Nat.le_of_ble_eq_true rfl, Nat.le_of_ble_eq_true rfl⟩) hS (fun q _ h => hFc q h) hFc (fun r u t9 H_1 locs ht hvm hw hB hz1 hk1 hS => ?_)
  have hw : r = 1 := hw
  subst hw
  obtain ⟨hP, hD⟩ := va_join (wr := [(h0, .inr (17, [.ref lp, .null, .null, .int 0, .int 0, .ref m1, .ref m2, .ref m3, .ref m4, .ref m5, .null, .null, .int 0, .ref m6, .int 0, .int 0, .int 0, .long 0, .null, .ref m7, .ref m8, .int 0, .int 0, .long 0])), (lp, .inr (0, [.int 0, .ref te, .int 0]))]) (w1 := []) hP hD [] [0, 1] rfl rfl (by decide) (by decide) hk1 hFc va_P.nil va_D.nil
  have hK := hK.sub (tys' := []) [] rfl
  have hP : va_P (dC, dI) vwCl [(h0, .inr (17, [.ref lp, .null, .null, .int 0, .int 0, .ref m1, .ref m2, .ref m3, .ref m4, .ref m5, .null, .null, .int 0, .ref m6, .int 0, .int 0, .int 0, .long 0, .null, .ref m7, .ref m8, .int 0, .int 0, .long 0])), (lp, .inr (0, [.int 0, .ref te, .int 0]))] H_1 := hP
  have hD : va_D A [(h0, .inr (17, [.ref lp, .null, .null, .int 0, .int 0, .ref m1, .ref m2, .ref m3, .ref m4, .ref m5, .null, .null, .int 0, .ref m6, .int 0, .int 0, .int 0, .long 0, .null, .ref m7, .ref m8, .int 0, .int 0, .long 0])), (lp, .inr (0, [.int 0, .ref te, .int 0]))] := hD
  have hK : va_K (dC, dI) vwCl [] s := hK
  refine W.widen (k := 0) (n := 0) (Nat.le_of_ble_eq_true rfl) (Nat.le_of_ble_eq_true rfl) ?_
  refine lv_if_eq (tgt := 15) hx hb dX16_rec_5 (by decide) (fun c9 => absurd c9 (by decide)) (fun c9 => ?_)
  refine lv_iload_n hx hb dX16_rec_8 rfl (lv_at hl 2 rfl) ?_
  have hPc := hP.sub (ws' := []) [] rfl
  have hDc := hD.sub (ws' := []) [] (by decide) rfl
  have hKc := hK.sub (tys' := []) [] rfl
  have hFc := va_free (wc := []) hD hS hA [] rfl
  refine va_calli (va_runS (As := [.int p1]) (rest := [.ref h0]) ⟨hx, hb, hml, hown, hts⟩ (c_isN_neg l dC dI tp te H_1.size p1 hvnx) (va_cwS 1 hts g_M_rec_xneg_9 rfl rfl rfl (by decide +kernel) ⟨Nat.le_of_ble_eq_true rfl, Nat.le_of_ble_eq_true rfl⟩) ⟨Pw.blind, Pw.mk hPc hKc hDc hG hS hFc⟩ rfl rfl hl.1 rfl (lv_room (Nat.le_of_ble_eq_true rfl)) dX16_rec_9 ⟨Nat.le_of_ble_eq_true rfl, Nat.le_of_ble_eq_true rfl⟩) hS (fun q _ h => hFc q h) hFc (fun r u t9 H_3 locs ht hvm hw hB hz1 hk1 hS => ?_)
  have hw : r = 0 := hw
  subst hw
  obtain ⟨hP, hD⟩ := va_join (wr := [(h0, .inr (17, [.ref lp, .null, .null, .int 0, .int 0, .ref m1, .ref m2, .ref m3, .ref m4, .ref m5, .null, .null, .int 0, .ref m6, .int 0, .int 0, .int 0, .long 0, .null, .ref m7, .ref m8, .int 0, .int 0, .long 0])), (lp, .inr (0, [.int 0, .ref te, .int 0]))]) (w1 := []) hP hD [] [0, 1] rfl rfl (by decide) (by decide) hk1 hFc va_P.nil va_D.nil
  have hK := hK.sub (tys' := []) [] rfl
  have hP : va_P (dC, dI) vwCl [(h0, .inr (17, [.ref lp, .null, .null, .int 0, .int 0, .ref m1, .ref m2, .ref m3, .ref m4, .ref m5, .null, .null, .int 0, .ref m6, .int 0, .int 0, .int 0, .long 0, .null, .ref m7, .ref m8, .int 0, .int 0, .long 0])), (lp, .inr (0, [.int 0, .ref te, .int 0]))] H_3 := hP
  have hD : va_D A [(h0, .inr (17, [.ref lp, .null, .null, .int 0, .int 0, .ref m1, .ref m2, .ref m3, .ref m4, .ref m5, .null, .null, .int 0, .ref m6, .int 0, .int 0, .int 0, .long 0, .null, .ref m7, .ref m8, .int 0, .int 0, .long 0])), (lp, .inr (0, [.int 0, .ref te, .int 0]))] := hD
  have hK : va_K (dC, dI) vwCl [] s := hK
  refine W.widen (k := 0) (n := 0) (Nat.le_of_ble_eq_true rfl) (Nat.le_of_ble_eq_true rfl) ?_
  refine lv_if_ne (tgt := 19) hx hb dX16_rec_12 (by decide) (fun c9 => absurd (by decide) c9) (fun c9 => ?_)
  refine lv_iconst (v := 1) hx hb dX16_rec_15 (by decide) ?_
  refine lv_goto (tgt := 32) hx hb dX16_rec_16 (by decide) ?_
  refine va_put (D := (dC, dI)) (ci := 17) (v := .int 1) (ty := .int) (C := RX16) (T := TX16) (N := 24) hx hb hts in_z_M_rec_xneg_X16 tyX16 tyX16_ok nmX16 hown hK hP hD hS 0 rfl rfl 4 (by decide) (hts (.fieldLink RX16 40 "SelfkindleModel" "thrown" "I") (List.mem_of_getElem? (i := 5) rfl)) (fun _ h9 => h9) rfl (by decide +kernel) rfl rfl (Nat.le_of_ble_eq_true rfl) dX16_rec_32 (fun H_5 locs hP hD hS => ?_)
  have hP : va_P (dC, dI) vwCl [(h0, .inr (17, [.ref lp, .null, .null, .int 0, .int 1, .ref m1, .ref m2, .ref m3, .ref m4, .ref m5, .null, .null, .int 0, .ref m6, .int 0, .int 0, .int 0, .long 0, .null, .ref m7, .ref m8, .int 0, .int 0, .long 0])), (lp, .inr (0, [.int 0, .ref te, .int 0]))] H_5 := hP
  have hD : va_D A [(h0, .inr (17, [.ref lp, .null, .null, .int 0, .int 1, .ref m1, .ref m2, .ref m3, .ref m4, .ref m5, .null, .null, .int 0, .ref m6, .int 0, .int 0, .int 0, .long 0, .null, .ref m7, .ref m8, .int 0, .int 0, .long 0])), (lp, .inr (0, [.int 0, .ref te, .int 0]))] := hD
  have hK : va_K (dC, dI) vwCl [] s := hK
  refine lv_aload_n hx hb dX16_rec_35 rfl (lv_at hl 0 rfl) ?_
  refine va_get (D := (dC, dI)) (ci := 17) (v := .int 1) (C := RX16) (T := TX16) (N := 24) hx hb hts in_z_M_rec_xneg_X16 hown hK hP 0 rfl rfl 4 (by decide) (hts (.fieldLink RX16 40 "SelfkindleModel" "thrown" "I") (List.mem_of_getElem? (i := 5) rfl)) (fun _ h9 => h9) rfl dX16_rec_36 ?_
  refine lv_if_le (tgt := 46) hx hb dX16_rec_39 (by decide) (fun c9 => absurd c9 (by decide)) (fun c9 => ?_)
  refine lv_iconst (v := 0) hx hb dX16_rec_42 (by decide) ?_
  refine lv_goto (tgt := 56) hx hb dX16_rec_43 (by decide) ?_
  have hP := hP.sub (ws' := [(h0, .inr (17, [.ref lp, .null, .null, .int 0, .int 1, .ref m1, .ref m2, .ref m3, .ref m4, .ref m5, .null, .null, .int 0, .ref m6, .int 0, .int 0, .int 0, .long 0, .null, .ref m7, .ref m8, .int 0, .int 0, .long 0]))]) [0] rfl
  have hD := hD.sub (ws' := [(h0, .inr (17, [.ref lp, .null, .null, .int 0, .int 1, .ref m1, .ref m2, .ref m3, .ref m4, .ref m5, .null, .null, .int 0, .ref m6, .int 0, .int 0, .int 0, .long 0, .null, .ref m7, .ref m8, .int 0, .int 0, .long 0]))]) [0] (by decide) rfl
  have hK := hK.sub (tys' := []) [] rfl
  refine W.widen (k := 0) (n := 0) (Nat.le_of_ble_eq_true rfl) (Nat.le_of_ble_eq_true rfl) ?_
  exact W.iret (v := 0) hx hb hr (fun t ht hW => ⟨⟨0, (), rfl, rfl, ⟨by rw [ht]; exact hP, va_K.moved hW.alike hK, hD⟩⟩, hS.F ht⟩) hS.2.2 dX16_rec_56

set_option maxRecDepth 20000 in
def z_M_rec_xbig : List Cond := .code yX16_rec cX16_rec 3 (some .int) :: (([.methodLink RX16 74 yX16_isName, .static yX16_isName, .initialized RX16, .code yX16_isName cX16_isName 1 (some .boolean), .fieldLink RX16 40 "SelfkindleModel" "thrown" "I"] : List Cond) ++ wsX160)
theorem in_z_M_rec_xbig_X16 : ∀ w ∈ wsX160, w ∈ z_M_rec_xbig := fun w h => List.mem_cons_of_mem _ (List.mem_append_right _ (h))
set_option maxRecDepth 20000 in
theorem g_M_rec_xbig_2 : GoodIn z_M_rec_xbig (va_wsS RX16 74 yX16_isName z_isN_ok) := goodIn_p _ [4] rfl (by decide +kernel)
set_option maxRecDepth 20000 in
theorem g_M_rec_xbig_9 : GoodIn z_M_rec_xbig (va_wsS RX16 74 yX16_isName z_isN_big) := goodIn_p _ [4] rfl (by decide +kernel)
set_option maxHeartbeats 4000000 in
set_option maxRecDepth 100000 in
theorem c_M_rec_xbig (l : Launch) (dC : Nat → ClassId) (dI : Nat → Nat → Nat) (tp te : Nat) (sz : Nat) (h0 : Nat) (lp : Nat) (m1 : Nat) (m2 : Nat) (m3 : Nat) (m4 : Nat) (m5 : Nat) (m6 : Nat) (m7 : Nat) (m8 : Nat) (p0 : Int32) (p1 : Int32) (hvn : ¬ p0 < 0) (hvb : p0 < 10) (hvc : ¬ 10 ≤ p0) (hvnx : ¬ p1 < 0) (hvbx : ¬ p1 < 10) (hvcx : 10 ≤ p1) : Met l yX16_rec z_M_rec_xbig ({ frames := 1, cells := 0, slots := 0, locals := 20 }) (va_Pc [.ref h0, .int p0, .int p1] (Pw dC dI [(h0, .inr (17, [.ref lp, .null, .null, .int 0, .int 0, .ref m1, .ref m2, .ref m3, .ref m4, .ref m5, .null, .null, .int 0, .ref m6, .int 0, .int 0, .int 0, .long 0, .null, .ref m7, .ref m8, .int 0, .int 0, .long 0])), (lp, .inr (0, [.int 0, .ref te, .int 0]))] [] sz tp te)) (va_Qi (fun (r : Int32) (_ : Unit) => r = 0) (fun (_ : Unit) (t : State) => Bw dC dI [(h0, .inr (17, [.ref lp, .null, .null, .int 0, .int 1, .ref m1, .ref m2, .ref m3, .ref m4, .ref m5, .null, .null, .int 0, .ref m6, .int 0, .int 0, .int 0, .long 0, .null, .ref m7, .ref m8, .int 0, .int 0, .long 0]))] [] (va_A [(h0, .inr (17, [.ref lp, .null, .null, .int 0, .int 0, .ref m1, .ref m2, .ref m3, .ref m4, .ref m5, .null, .null, .int 0, .ref m6, .int 0, .int 0, .int 0, .long 0, .null, .ref m7, .ref m8, .int 0, .int 0, .long 0])), (lp, .inr (0, [.int 0, .ref te, .int 0]))] sz) t) (va_A [(h0, .inr (17, [.ref lp, .null, .null, .int 0, .int 0, .ref m1, .ref m2, .ref m3, .ref m4, .ref m5, .null, .null, .int 0, .ref m6, .int 0, .int 0, .int 0, .long 0, .null, .ref m7, .ref m8, .int 0, .int 0, .long 0])), (lp, .inr (0, [.int 0, .ref te, .int 0]))] sz)) 0 0 (va_A [(h0, .inr (17, [.ref lp, .null, .null, .int 0, .int 0, .ref m1, .ref m2, .ref m3, .ref m4, .ref m5, .null, .null, .int 0, .ref m6, .int 0, .int 0, .int 0, .long 0, .null, .ref m7, .ref m8, .int 0, .int 0, .long 0])), (lp, .inr (0, [.int 0, .ref te, .int 0]))] sz) := by
  refine Met.ofW (cc := cX16_rec) (maxL := 3) (ret := (some .int)) (by decide) rfl ?_
  intro p e s m args below meth c s₁ B hml hv
  obtain ⟨rfl, hsz, hP, hK, hD0, hG⟩ := hv
  have hx := B.exec
  have hb := B.bytes
  have hr := B.returns
  have hts := atoms_spec (ws := z_M_rec_xbig) B.pre
  have hown : s.vm.findClass RX16 = some m.cls := findClass_of_methodNamed B.named
  have hlocks := B.notSynchronized
  subst hsz
  have hD := hD0.self (sz := s.heap.size)
  generalize hAe : va_A [(h0, .inr (17, [.ref lp, .null, .null, .int 0, .int 0, .ref m1, .ref m2, .ref m3, .ref m4, .ref m5, .null, .null, .int 0, .ref m6, .int 0, .int 0, .int 0, .long 0, .null, .ref m7, .ref m8, .int 0, .int 0, .long 0])), (lp, .inr (0, [.int 0, .ref te, .int 0]))] s.heap.size = A at hD hG ⊢
  have hA : ∀ q : Nat, s.heap.size ≤ q → A q := fun q h => by rw [← hAe]; exact Or.inr h
  have hS : va_S A s.heap s.heap [] := va_S.rf
  have hl := lv_entry ([.ref h0, .int p0, .int p1]) (n := 3) (Nat.le_of_ble_eq_true rfl)
  rw [lg_entry_eq]
  generalize (lg_sl ([.ref h0, .int p0, .int p1]) ++ List.replicate (3 - (lg_sl ([.ref h0, .int p0, .int p1])).length) Slot.unset).toArray = ls at hl ⊢
  have hl : lv_has ls 3 [(0, .ref h0), (1, .int p0), (2, .int p1)] := hl
  refine lv_aload_n hx hb dX16_rec_0 rfl (lv_at hl 0 rfl) ?_
  refine lv_iload_n hx hb dX16_rec_1 rfl (lv_at hl 1 rfl) ?_
  have hPc := hP.sub (ws' := []) [] rfl
  have hDc := hD.sub (ws' := []) [] (by decide) rfl
  have hKc := hK.sub (tys' := []) [] rfl
  have hFc := va_free (wc := []) hD hS hA [] rfl
  refine va_calli (va_runS (As := [.int p0]) (rest := [.ref h0]) ⟨hx, hb, hml, hown, hts⟩ (c_isN_ok l dC dI tp te s.heap.size p0 hvn hvb hvc) (va_cwS 1 hts g_M_rec_xbig_2 rfl rfl rfl (by decide +kernel) ⟨Nat.le_of_ble_eq_true rfl, Nat.le_of_ble_eq_true rfl⟩) ⟨Pw.blind, Pw.mk hPc hKc hDc hG hS hFc⟩ rfl rfl hl.1 rfl (lv_room (Nat.le_of_ble_eq_true rfl)) dX16_rec_2 ⟨Nat.le_of_ble_eq_true rfl, Nat.le_of_ble_eq_true rfl⟩) hS (fun q _ h => hFc q h) hFc (fun r u t9 H_1 locs ht hvm hw hB hz1 hk1 hS => ?_)
  have hw : r = 1 := hw
  subst hw
  obtain ⟨hP, hD⟩ := va_join (wr := [(h0, .inr (17, [.ref lp, .null, .null, .int 0, .int 0, .ref m1, .ref m2, .ref m3, .ref m4, .ref m5, .null, .null, .int 0, .ref m6, .int 0, .int 0, .int 0, .long 0, .null, .ref m7, .ref m8, .int 0, .int 0, .long 0])), (lp, .inr (0, [.int 0, .ref te, .int 0]))]) (w1 := []) hP hD [] [0, 1] rfl rfl (by decide) (by decide) hk1 hFc va_P.nil va_D.nil
  have hK := hK.sub (tys' := []) [] rfl
  have hP : va_P (dC, dI) vwCl [(h0, .inr (17, [.ref lp, .null, .null, .int 0, .int 0, .ref m1, .ref m2, .ref m3, .ref m4, .ref m5, .null, .null, .int 0, .ref m6, .int 0, .int 0, .int 0, .long 0, .null, .ref m7, .ref m8, .int 0, .int 0, .long 0])), (lp, .inr (0, [.int 0, .ref te, .int 0]))] H_1 := hP
  have hD : va_D A [(h0, .inr (17, [.ref lp, .null, .null, .int 0, .int 0, .ref m1, .ref m2, .ref m3, .ref m4, .ref m5, .null, .null, .int 0, .ref m6, .int 0, .int 0, .int 0, .long 0, .null, .ref m7, .ref m8, .int 0, .int 0, .long 0])), (lp, .inr (0, [.int 0, .ref te, .int 0]))] := hD
  have hK : va_K (dC, dI) vwCl [] s := hK
  refine W.widen (k := 0) (n := 0) (Nat.le_of_ble_eq_true rfl) (Nat.le_of_ble_eq_true rfl) ?_
  refine lv_if_eq (tgt := 15) hx hb dX16_rec_5 (by decide) (fun c9 => absurd c9 (by decide)) (fun c9 => ?_)
  refine lv_iload_n hx hb dX16_rec_8 rfl (lv_at hl 2 rfl) ?_
  have hPc := hP.sub (ws' := []) [] rfl
  have hDc := hD.sub (ws' := []) [] (by decide) rfl
  have hKc := hK.sub (tys' := []) [] rfl
  have hFc := va_free (wc := []) hD hS hA [] rfl
  refine va_calli (va_runS (As := [.int p1]) (rest := [.ref h0]) ⟨hx, hb, hml, hown, hts⟩ (c_isN_big l dC dI tp te H_1.size p1 hvnx hvbx hvcx) (va_cwS 1 hts g_M_rec_xbig_9 rfl rfl rfl (by decide +kernel) ⟨Nat.le_of_ble_eq_true rfl, Nat.le_of_ble_eq_true rfl⟩) ⟨Pw.blind, Pw.mk hPc hKc hDc hG hS hFc⟩ rfl rfl hl.1 rfl (lv_room (Nat.le_of_ble_eq_true rfl)) dX16_rec_9 ⟨Nat.le_of_ble_eq_true rfl, Nat.le_of_ble_eq_true rfl⟩) hS (fun q _ h => hFc q h) hFc (fun r u t9 H_3 locs ht hvm hw hB hz1 hk1 hS => ?_)
  have hw : r = 0 := hw
  subst hw
  obtain ⟨hP, hD⟩ := va_join (wr := [(h0, .inr (17, [.ref lp, .null, .null, .int 0, .int 0, .ref m1, .ref m2, .ref m3, .ref m4, .ref m5, .null, .null, .int 0, .ref m6, .int 0, .int 0, .int 0, .long 0, .null, .ref m7, .ref m8, .int 0, .int 0, .long 0])), (lp, .inr (0, [.int 0, .ref te, .int 0]))]) (w1 := []) hP hD [] [0, 1] rfl rfl (by decide) (by decide) hk1 hFc va_P.nil va_D.nil
  have hK := hK.sub (tys' := []) [] rfl
  have hP : va_P (dC, dI) vwCl [(h0, .inr (17, [.ref lp, .null, .null, .int 0, .int 0, .ref m1, .ref m2, .ref m3, .ref m4, .ref m5, .null, .null, .int 0, .ref m6, .int 0, .int 0, .int 0, .long 0, .null, .ref m7, .ref m8, .int 0, .int 0, .long 0])), (lp, .inr (0, [.int 0, .ref te, .int 0]))] H_3 := hP
  have hD : va_D A [(h0, .inr (17, [.ref lp, .null, .null, .int 0, .int 0, .ref m1, .ref m2, .ref m3, .ref m4, .ref m5, .null, .null, .int 0, .ref m6, .int 0, .int 0, .int 0, .long 0, .null, .ref m7, .ref m8, .int 0, .int 0, .long 0])), (lp, .inr (0, [.int 0, .ref te, .int 0]))] := hD
  have hK : va_K (dC, dI) vwCl [] s := hK
  refine W.widen (k := 0) (n := 0) (Nat.le_of_ble_eq_true rfl) (Nat.le_of_ble_eq_true rfl) ?_
  refine lv_if_ne (tgt := 19) hx hb dX16_rec_12 (by decide) (fun c9 => absurd (by decide) c9) (fun c9 => ?_)
  refine lv_iconst (v := 1) hx hb dX16_rec_15 (by decide) ?_
  refine lv_goto (tgt := 32) hx hb dX16_rec_16 (by decide) ?_
  refine va_put (D := (dC, dI)) (ci := 17) (v := .int 1) (ty := .int) (C := RX16) (T := TX16) (N := 24) hx hb hts in_z_M_rec_xbig_X16 tyX16 tyX16_ok nmX16 hown hK hP hD hS 0 rfl rfl 4 (by decide) (hts (.fieldLink RX16 40 "SelfkindleModel" "thrown" "I") (List.mem_of_getElem? (i := 5) rfl)) (fun _ h9 => h9) rfl (by decide +kernel) rfl rfl (Nat.le_of_ble_eq_true rfl) dX16_rec_32 (fun H_5 locs hP hD hS => ?_)
  have hP : va_P (dC, dI) vwCl [(h0, .inr (17, [.ref lp, .null, .null, .int 0, .int 1, .ref m1, .ref m2, .ref m3, .ref m4, .ref m5, .null, .null, .int 0, .ref m6, .int 0, .int 0, .int 0, .long 0, .null, .ref m7, .ref m8, .int 0, .int 0, .long 0])), (lp, .inr (0, [.int 0, .ref te, .int 0]))] H_5 := hP
  have hD : va_D A [(h0, .inr (17, [.ref lp, .null, .null, .int 0, .int 1, .ref m1, .ref m2, .ref m3, .ref m4, .ref m5, .null, .null, .int 0, .ref m6, .int 0, .int 0, .int 0, .long 0, .null, .ref m7, .ref m8, .int 0, .int 0, .long 0])), (lp, .inr (0, [.int 0, .ref te, .int 0]))] := hD
  have hK : va_K (dC, dI) vwCl [] s := hK
  refine lv_aload_n hx hb dX16_rec_35 rfl (lv_at hl 0 rfl) ?_
  refine va_get (D := (dC, dI)) (ci := 17) (v := .int 1) (C := RX16) (T := TX16) (N := 24) hx hb hts in_z_M_rec_xbig_X16 hown hK hP 0 rfl rfl 4 (by decide) (hts (.fieldLink RX16 40 "SelfkindleModel" "thrown" "I") (List.mem_of_getElem? (i := 5) rfl)) (fun _ h9 => h9) rfl dX16_rec_36 ?_
  refine lv_if_le (tgt := 46) hx hb dX16_rec_39 (by decide) (fun c9 => absurd c9 (by decide)) (fun c9 => ?_)
  refine lv_iconst (v := 0) hx hb dX16_rec_42 (by decide) ?_
  refine lv_goto (tgt := 56) hx hb dX16_rec_43 (by decide) ?_
  have hP := hP.sub (ws' := [(h0, .inr (17, [.ref lp, .null, .null, .int 0, .int 1, .ref m1, .ref m2, .ref m3, .ref m4, .ref m5, .null, .null, .int 0, .ref m6, .int 0, .int 0, .int 0, .long 0, .null, .ref m7, .ref m8, .int 0, .int 0, .long 0]))]) [0] rfl
  have hD := hD.sub (ws' := [(h0, .inr (17, [.ref lp, .null, .null, .int 0, .int 1, .ref m1, .ref m2, .ref m3, .ref m4, .ref m5, .null, .null, .int 0, .ref m6, .int 0, .int 0, .int 0, .long 0, .null, .ref m7, .ref m8, .int 0, .int 0, .long 0]))]) [0] (by decide) rfl
  have hK := hK.sub (tys' := []) [] rfl
  refine W.widen (k := 0) (n := 0) (Nat.le_of_ble_eq_true rfl) (Nat.le_of_ble_eq_true rfl) ?_
  exact W.iret (v := 0) hx hb hr (fun t ht hW => ⟨⟨0, (), rfl, rfl, ⟨by rw [ht]; exact hP, va_K.moved hW.alike hK, hD⟩⟩, hS.F ht⟩) hS.2.2 dX16_rec_56

set_option maxRecDepth 20000 in
def z_M_rec_ok : List Cond := .code yX16_rec cX16_rec 3 (some .int) :: (([.methodLink RX16 74 yX16_isName, .static yX16_isName, .initialized RX16, .code yX16_isName cX16_isName 1 (some .boolean), .methodLink RX16 78 yX16_fits, .instanceMethod yX16_fits, .selects RX16 yX16_fits yX16_fits, .code yX16_fits cX16_fits 5 (some .boolean), .fieldLink RX16 10 "SelfkindleModel" "pile" "Ljava/util/ArrayList;", .methodLink RX16 44 yJx4a65c_size_8abf5, .instanceMethod yJx4a65c_size_8abf5, .selects RJx4a65c yJx4a65c_size_8abf5 yJx4a65c_size_8abf5, .initialized RJx4a65c, .code yJx4a65c_size_8abf5 cJx4a65c_size_8abf5 1 (some .int), .fieldLink RJx4a65c 48 "java/util/ArrayList" "size" "I", .fieldLink RX16 40 "SelfkindleModel" "thrown" "I"] : List Cond) ++ wsX160 ++ wsJx4a65c0)
theorem in_z_M_rec_ok_X16 : ∀ w ∈ wsX160, w ∈ z_M_rec_ok := fun w h => List.mem_cons_of_mem _ (List.mem_append_left _ (List.mem_append_right _ (h)))
theorem in_z_M_rec_ok_Jx4a65c : ∀ w ∈ wsJx4a65c0, w ∈ z_M_rec_ok := fun w h => List.mem_cons_of_mem _ (List.mem_append_right _ (h))
set_option maxRecDepth 20000 in
theorem g_M_rec_ok_2 : GoodIn z_M_rec_ok (va_wsS RX16 74 yX16_isName z_isN_ok) := goodIn_p _ [4] rfl (by decide +kernel)
set_option maxRecDepth 20000 in
theorem g_M_rec_ok_9 : GoodIn z_M_rec_ok (va_wsS RX16 74 yX16_isName z_isN_ok) := goodIn_p _ [4] rfl (by decide +kernel)
set_option maxRecDepth 20000 in
theorem g_M_rec_ok_21 : GoodIn z_M_rec_ok (wsV RX16 78 RX16 yX16_fits z_fits2) := goodIn_p _ [8, 14] rfl (by decide +kernel)
set_option maxHeartbeats 4000000 in
set_option maxRecDepth 100000 in
theorem c_M_rec_ok (l : Launch) (dC : Nat → ClassId) (dI : Nat → Nat → Nat) (tp te : Nat) (sz : Nat) (h0 : Nat) (lp : Nat) (m1 : Nat) (m2 : Nat) (m3 : Nat) (m4 : Nat) (m5 : Nat) (m6 : Nat) (m7 : Nat) (m8 : Nat) (p0 : Int32) (p1 : Int32) (hvn : ¬ p0 < 0) (hvb : p0 < 10) (hvc : ¬ 10 ≤ p0) (hvnx : ¬ p1 < 0) (hvbx : p1 < 10) (hvcx : ¬ 10 ≤ p1) : Met l yX16_rec z_M_rec_ok ({ frames := 2, cells := 0, slots := 0, locals := 44 }) (va_Pc [.ref h0, .int p0, .int p1] (Pw dC dI [(h0, .inr (17, [.ref lp, .null, .null, .int 0, .int 0, .ref m1, .ref m2, .ref m3, .ref m4, .ref m5, .null, .null, .int 0, .ref m6, .int 0, .int 0, .int 0, .long 0, .null, .ref m7, .ref m8, .int 0, .int 0, .long 0])), (lp, .inr (0, [.int 0, .ref te, .int 0]))] [] sz tp te)) (va_Qi (fun (r : Int32) (_ : Unit) => r = 0) (fun (_ : Unit) (t : State) => Bw dC dI [(h0, .inr (17, [.ref lp, .null, .null, .int 0, .int 2, .ref m1, .ref m2, .ref m3, .ref m4, .ref m5, .null, .null, .int 0, .ref m6, .int 0, .int 0, .int 0, .long 0, .null, .ref m7, .ref m8, .int 0, .int 0, .long 0]))] [] (va_A [(h0, .inr (17, [.ref lp, .null, .null, .int 0, .int 0, .ref m1, .ref m2, .ref m3, .ref m4, .ref m5, .null, .null, .int 0, .ref m6, .int 0, .int 0, .int 0, .long 0, .null, .ref m7, .ref m8, .int 0, .int 0, .long 0])), (lp, .inr (0, [.int 0, .ref te, .int 0]))] sz) t) (va_A [(h0, .inr (17, [.ref lp, .null, .null, .int 0, .int 0, .ref m1, .ref m2, .ref m3, .ref m4, .ref m5, .null, .null, .int 0, .ref m6, .int 0, .int 0, .int 0, .long 0, .null, .ref m7, .ref m8, .int 0, .int 0, .long 0])), (lp, .inr (0, [.int 0, .ref te, .int 0]))] sz)) 0 0 (va_A [(h0, .inr (17, [.ref lp, .null, .null, .int 0, .int 0, .ref m1, .ref m2, .ref m3, .ref m4, .ref m5, .null, .null, .int 0, .ref m6, .int 0, .int 0, .int 0, .long 0, .null, .ref m7, .ref m8, .int 0, .int 0, .long 0])), (lp, .inr (0, [.int 0, .ref te, .int 0]))] sz) := by
  refine Met.ofW (cc := cX16_rec) (maxL := 3) (ret := (some .int)) (by decide) rfl ?_
  intro p e s m args below meth c s₁ B hml hv
  obtain ⟨rfl, hsz, hP, hK, hD0, hG⟩ := hv
  have hx := B.exec
  have hb := B.bytes
  have hr := B.returns
  have hts := atoms_spec (ws := z_M_rec_ok) B.pre
  have hown : s.vm.findClass RX16 = some m.cls := findClass_of_methodNamed B.named
  have hlocks := B.notSynchronized
  subst hsz
  have hD := hD0.self (sz := s.heap.size)
  generalize hAe : va_A [(h0, .inr (17, [.ref lp, .null, .null, .int 0, .int 0, .ref m1, .ref m2, .ref m3, .ref m4, .ref m5, .null, .null, .int 0, .ref m6, .int 0, .int 0, .int 0, .long 0, .null, .ref m7, .ref m8, .int 0, .int 0, .long 0])), (lp, .inr (0, [.int 0, .ref te, .int 0]))] s.heap.size = A at hD hG ⊢
  have hA : ∀ q : Nat, s.heap.size ≤ q → A q := fun q h => by rw [← hAe]; exact Or.inr h
  have hS : va_S A s.heap s.heap [] := va_S.rf
  have hl := lv_entry ([.ref h0, .int p0, .int p1]) (n := 3) (Nat.le_of_ble_eq_true rfl)
  rw [lg_entry_eq]
  generalize (lg_sl ([.ref h0, .int p0, .int p1]) ++ List.replicate (3 - (lg_sl ([.ref h0, .int p0, .int p1])).length) Slot.unset).toArray = ls at hl ⊢
  have hl : lv_has ls 3 [(0, .ref h0), (1, .int p0), (2, .int p1)] := hl
  refine lv_aload_n hx hb dX16_rec_0 rfl (lv_at hl 0 rfl) ?_
  refine lv_iload_n hx hb dX16_rec_1 rfl (lv_at hl 1 rfl) ?_
  have hPc := hP.sub (ws' := []) [] rfl
  have hDc := hD.sub (ws' := []) [] (by decide) rfl
  have hKc := hK.sub (tys' := []) [] rfl
  have hFc := va_free (wc := []) hD hS hA [] rfl
  refine va_calli (va_runS (As := [.int p0]) (rest := [.ref h0]) ⟨hx, hb, hml, hown, hts⟩ (c_isN_ok l dC dI tp te s.heap.size p0 hvn hvb hvc) (va_cwS 1 hts g_M_rec_ok_2 rfl rfl rfl (by decide +kernel) ⟨Nat.le_of_ble_eq_true rfl, Nat.le_of_ble_eq_true rfl⟩) ⟨Pw.blind, Pw.mk hPc hKc hDc hG hS hFc⟩ rfl rfl hl.1 rfl (lv_room (Nat.le_of_ble_eq_true rfl)) dX16_rec_2 ⟨Nat.le_of_ble_eq_true rfl, Nat.le_of_ble_eq_true rfl⟩) hS (fun q _ h => hFc q h) hFc (fun r u t9 H_1 locs ht hvm hw hB hz1 hk1 hS => ?_)
  have hw : r = 1 := hw
  subst hw
  obtain ⟨hP, hD⟩ := va_join (wr := [(h0, .inr (17, [.ref lp, .null, .null, .int 0, .int 0, .ref m1, .ref m2, .ref m3, .ref m4, .ref m5, .null, .null, .int 0, .ref m6, .int 0, .int 0, .int 0, .long 0, .null, .ref m7, .ref m8, .int 0, .int 0, .long 0])), (lp, .inr (0, [.int 0, .ref te, .int 0]))]) (w1 := []) hP hD [] [0, 1] rfl rfl (by decide) (by decide) hk1 hFc va_P.nil va_D.nil
  have hK := hK.sub (tys' := []) [] rfl
  have hP : va_P (dC, dI) vwCl [(h0, .inr (17, [.ref lp, .null, .null, .int 0, .int 0, .ref m1, .ref m2, .ref m3, .ref m4, .ref m5, .null, .null, .int 0, .ref m6, .int 0, .int 0, .int 0, .long 0, .null, .ref m7, .ref m8, .int 0, .int 0, .long 0])), (lp, .inr (0, [.int 0, .ref te, .int 0]))] H_1 := hP
  have hD : va_D A [(h0, .inr (17, [.ref lp, .null, .null, .int 0, .int 0, .ref m1, .ref m2, .ref m3, .ref m4, .ref m5, .null, .null, .int 0, .ref m6, .int 0, .int 0, .int 0, .long 0, .null, .ref m7, .ref m8, .int 0, .int 0, .long 0])), (lp, .inr (0, [.int 0, .ref te, .int 0]))] := hD
  have hK : va_K (dC, dI) vwCl [] s := hK
  refine W.widen (k := 0) (n := 0) (Nat.le_of_ble_eq_true rfl) (Nat.le_of_ble_eq_true rfl) ?_
  refine lv_if_eq (tgt := 15) hx hb dX16_rec_5 (by decide) (fun c9 => absurd c9 (by decide)) (fun c9 => ?_)
  refine lv_iload_n hx hb dX16_rec_8 rfl (lv_at hl 2 rfl) ?_
  have hPc := hP.sub (ws' := []) [] rfl
  have hDc := hD.sub (ws' := []) [] (by decide) rfl
  have hKc := hK.sub (tys' := []) [] rfl
  have hFc := va_free (wc := []) hD hS hA [] rfl
  refine va_calli (va_runS (As := [.int p1]) (rest := [.ref h0]) ⟨hx, hb, hml, hown, hts⟩ (c_isN_ok l dC dI tp te H_1.size p1 hvnx hvbx hvcx) (va_cwS 1 hts g_M_rec_ok_9 rfl rfl rfl (by decide +kernel) ⟨Nat.le_of_ble_eq_true rfl, Nat.le_of_ble_eq_true rfl⟩) ⟨Pw.blind, Pw.mk hPc hKc hDc hG hS hFc⟩ rfl rfl hl.1 rfl (lv_room (Nat.le_of_ble_eq_true rfl)) dX16_rec_9 ⟨Nat.le_of_ble_eq_true rfl, Nat.le_of_ble_eq_true rfl⟩) hS (fun q _ h => hFc q h) hFc (fun r u t9 H_3 locs ht hvm hw hB hz1 hk1 hS => ?_)
  have hw : r = 1 := hw
  subst hw
  obtain ⟨hP, hD⟩ := va_join (wr := [(h0, .inr (17, [.ref lp, .null, .null, .int 0, .int 0, .ref m1, .ref m2, .ref m3, .ref m4, .ref m5, .null, .null, .int 0, .ref m6, .int 0, .int 0, .int 0, .long 0, .null, .ref m7, .ref m8, .int 0, .int 0, .long 0])), (lp, .inr (0, [.int 0, .ref te, .int 0]))]) (w1 := []) hP hD [] [0, 1] rfl rfl (by decide) (by decide) hk1 hFc va_P.nil va_D.nil
  have hK := hK.sub (tys' := []) [] rfl
  have hP : va_P (dC, dI) vwCl [(h0, .inr (17, [.ref lp, .null, .null, .int 0, .int 0, .ref m1, .ref m2, .ref m3, .ref m4, .ref m5, .null, .null, .int 0, .ref m6, .int 0, .int 0, .int 0, .long 0, .null, .ref m7, .ref m8, .int 0, .int 0, .long 0])), (lp, .inr (0, [.int 0, .ref te, .int 0]))] H_3 := hP
  have hD : va_D A [(h0, .inr (17, [.ref lp, .null, .null, .int 0, .int 0, .ref m1, .ref m2, .ref m3, .ref m4, .ref m5, .null, .null, .int 0, .ref m6, .int 0, .int 0, .int 0, .long 0, .null, .ref m7, .ref m8, .int 0, .int 0, .long 0])), (lp, .inr (0, [.int 0, .ref te, .int 0]))] := hD
  have hK : va_K (dC, dI) vwCl [] s := hK
  refine W.widen (k := 0) (n := 0) (Nat.le_of_ble_eq_true rfl) (Nat.le_of_ble_eq_true rfl) ?_
  refine lv_if_ne (tgt := 19) hx hb dX16_rec_12 (by decide) (fun c9 => ?_) (fun c9 => absurd c9 (by decide))
  refine lv_aload_n hx hb dX16_rec_19 rfl (lv_at hl 0 rfl) ?_
  refine lv_iconst (v := 2) hx hb dX16_rec_20 (by decide) ?_
  have hPc := hP.sub (ws' := [(h0, .inr (17, [.ref lp, .null, .null, .int 0, .int 0, .ref m1, .ref m2, .ref m3, .ref m4, .ref m5, .null, .null, .int 0, .ref m6, .int 0, .int 0, .int 0, .long 0, .null, .ref m7, .ref m8, .int 0, .int 0, .long 0])), (lp, .inr (0, [.int 0, .ref te, .int 0]))]) [0, 1] rfl
  have hDc := hD.sub (ws' := [(h0, .inr (17, [.ref lp, .null, .null, .int 0, .int 0, .ref m1, .ref m2, .ref m3, .ref m4, .ref m5, .null, .null, .int 0, .ref m6, .int 0, .int 0, .int 0, .long 0, .null, .ref m7, .ref m8, .int 0, .int 0, .long 0])), (lp, .inr (0, [.int 0, .ref te, .int 0]))]) [0, 1] (by decide) rfl
  have hKc := hK.sub (tys' := []) [] rfl
  have hFc := va_free (wc := [(h0, .inr (17, [.ref lp, .null, .null, .int 0, .int 0, .ref m1, .ref m2, .ref m3, .ref m4, .ref m5, .null, .null, .int 0, .ref m6, .int 0, .int 0, .int 0, .long 0, .null, .ref m7, .ref m8, .int 0, .int 0, .long 0])), (lp, .inr (0, [.int 0, .ref te, .int 0]))]) hD hS hA [0, 1] rfl
  refine va_calli (va_runV (As := [.int 2]) (rest := [.ref h0]) ⟨hx, hb, hml, hown, hts⟩ (c_fits2 l dC dI tp te H_3.size h0 lp m1 m2 m3 m4 m5 m6 m7 m8) (cwV 1 hts g_M_rec_ok_21 rfl rfl rfl (by decide +kernel) ⟨Nat.le_of_ble_eq_true rfl, Nat.le_of_ble_eq_true rfl⟩) ⟨Pw.blind, va_recv hKc hPc (ci := 17) (q0 := 0) rfl rfl, Pw.mk hPc hKc hDc hG hS hFc⟩ rfl rfl hl.1 rfl (lv_room (Nat.le_of_ble_eq_true rfl)) dX16_rec_21 ⟨Nat.le_of_ble_eq_true rfl, Nat.le_of_ble_eq_true rfl⟩) hS (fun q _ h => hFc q h) hFc (fun r u t9 H_5 locs ht hvm hw hB hz1 hk1 hS => ?_)
  have hw : r = 0 := hw
  subst hw
  obtain ⟨hP1, hK1, hD1⟩ := hB
  rw [ht] at hP1
  have hK1 := va_K.moved hvm.symm hK1
  obtain ⟨hP, hD⟩ := va_join (wr := []) (w1 := [(h0, .inr (17, [.ref lp, .null, .null, .int 0, .int 0, .ref m1, .ref m2, .ref m3, .ref m4, .ref m5, .null, .null, .int 0, .ref m6, .int 0, .int 0, .int 0, .long 0, .null, .ref m7, .ref m8, .int 0, .int 0, .long 0])), (lp, .inr (0, [.int 0, .ref te, .int 0]))]) hP hD [0, 1] [] rfl rfl (by decide) (by decide) hk1 hFc hP1 hD1
  have hK := (hK.sub (tys' := []) [] rfl).app hK1
  have hP : va_P (dC, dI) vwCl [(h0, .inr (17, [.ref lp, .null, .null, .int 0, .int 0, .ref m1, .ref m2, .ref m3, .ref m4, .ref m5, .null, .null, .int 0, .ref m6, .int 0, .int 0, .int 0, .long 0, .null, .ref m7, .ref m8, .int 0, .int 0, .long 0])), (lp, .inr (0, [.int 0, .ref te, .int 0]))] H_5 := hP
  have hD : va_D A [(h0, .inr (17, [.ref lp, .null, .null, .int 0, .int 0, .ref m1, .ref m2, .ref m3, .ref m4, .ref m5, .null, .null, .int 0, .ref m6, .int 0, .int 0, .int 0, .long 0, .null, .ref m7, .ref m8, .int 0, .int 0, .long 0])), (lp, .inr (0, [.int 0, .ref te, .int 0]))] := hD
  have hK : va_K (dC, dI) vwCl [] s := hK
  refine W.widen (k := 0) (n := 0) (Nat.le_of_ble_eq_true rfl) (Nat.le_of_ble_eq_true rfl) ?_
  refine lv_if_ne (tgt := 31) hx hb dX16_rec_24 (by decide) (fun c9 => absurd (by decide) c9) (fun c9 => ?_)
  refine lv_iconst (v := 2) hx hb dX16_rec_27 (by decide) ?_
  refine lv_goto (tgt := 32) hx hb dX16_rec_28 (by decide) ?_
  refine va_put (D := (dC, dI)) (ci := 17) (v := .int 2) (ty := .int) (C := RX16) (T := TX16) (N := 24) hx hb hts in_z_M_rec_ok_X16 tyX16 tyX16_ok nmX16 hown hK hP hD hS 0 rfl rfl 4 (by decide) (hts (.fieldLink RX16 40 "SelfkindleModel" "thrown" "I") (List.mem_of_getElem? (i := 16) rfl)) (fun _ h9 => h9) rfl (by decide +kernel) rfl rfl (Nat.le_of_ble_eq_true rfl) dX16_rec_32 (fun H_7 locs hP hD hS => ?_)
  have hP : va_P (dC, dI) vwCl [(h0, .inr (17, [.ref lp, .null, .null, .int 0, .int 2, .ref m1, .ref m2, .ref m3, .ref m4, .ref m5, .null, .null, .int 0, .ref m6, .int 0, .int 0, .int 0, .long 0, .null, .ref m7, .ref m8, .int 0, .int 0, .long 0])), (lp, .inr (0, [.int 0, .ref te, .int 0]))] H_7 := hP
  have hD : va_D A [(h0, .inr (17, [.ref lp, .null, .null, .int 0, .int 2, .ref m1, .ref m2, .ref m3, .ref m4, .ref m5, .null, .null, .int 0, .ref m6, .int 0, .int 0, .int 0, .long 0, .null, .ref m7, .ref m8, .int 0, .int 0, .long 0])), (lp, .inr (0, [.int 0, .ref te, .int 0]))] := hD
  have hK : va_K (dC, dI) vwCl [] s := hK
  refine lv_aload_n hx hb dX16_rec_35 rfl (lv_at hl 0 rfl) ?_
  refine va_get (D := (dC, dI)) (ci := 17) (v := .int 2) (C := RX16) (T := TX16) (N := 24) hx hb hts in_z_M_rec_ok_X16 hown hK hP 0 rfl rfl 4 (by decide) (hts (.fieldLink RX16 40 "SelfkindleModel" "thrown" "I") (List.mem_of_getElem? (i := 16) rfl)) (fun _ h9 => h9) rfl dX16_rec_36 ?_
  refine lv_if_le (tgt := 46) hx hb dX16_rec_39 (by decide) (fun c9 => absurd c9 (by decide)) (fun c9 => ?_)
  refine lv_iconst (v := 0) hx hb dX16_rec_42 (by decide) ?_
  refine lv_goto (tgt := 56) hx hb dX16_rec_43 (by decide) ?_
  have hP := hP.sub (ws' := [(h0, .inr (17, [.ref lp, .null, .null, .int 0, .int 2, .ref m1, .ref m2, .ref m3, .ref m4, .ref m5, .null, .null, .int 0, .ref m6, .int 0, .int 0, .int 0, .long 0, .null, .ref m7, .ref m8, .int 0, .int 0, .long 0]))]) [0] rfl
  have hD := hD.sub (ws' := [(h0, .inr (17, [.ref lp, .null, .null, .int 0, .int 2, .ref m1, .ref m2, .ref m3, .ref m4, .ref m5, .null, .null, .int 0, .ref m6, .int 0, .int 0, .int 0, .long 0, .null, .ref m7, .ref m8, .int 0, .int 0, .long 0]))]) [0] (by decide) rfl
  have hK := hK.sub (tys' := []) [] rfl
  refine W.widen (k := 0) (n := 0) (Nat.le_of_ble_eq_true rfl) (Nat.le_of_ble_eq_true rfl) ?_
  exact W.iret (v := 0) hx hb hr (fun t ht hW => ⟨⟨0, (), rfl, rfl, ⟨by rw [ht]; exact hP, va_K.moved hW.alike hK, hD⟩⟩, hS.F ht⟩) hS.2.2 dX16_rec_56

set_option maxRecDepth 20000 in
def z_M_two_neg : List Cond := .code yX16_two cX16_two 2 (some .int) :: (([.fieldLink RX16 40 "SelfkindleModel" "thrown" "I"] : List Cond) ++ wsX160)
theorem in_z_M_two_neg_X16 : ∀ w ∈ wsX160, w ∈ z_M_two_neg := fun w h => List.mem_cons_of_mem _ (List.mem_append_right _ (h))
set_option maxHeartbeats 4000000 in
set_option maxRecDepth 100000 in
theorem c_M_two_neg (l : Launch) (dC : Nat → ClassId) (dI : Nat → Nat → Nat) (tp te : Nat) (sz : Nat) (h0 : Nat) (lp : Nat) (m1 : Nat) (m2 : Nat) (m3 : Nat) (m4 : Nat) (m5 : Nat) (m6 : Nat) (m7 : Nat) (m8 : Nat) (p0 : Int32) (hv0 : p0 < 0) : Met l yX16_two z_M_two_neg ({ frames := 0, cells := 0, slots := 0, locals := 0 }) (va_Pc [.ref h0, .int p0] (Pw dC dI [(h0, .inr (17, [.ref lp, .null, .null, .int 0, .int 0, .ref m1, .ref m2, .ref m3, .ref m4, .ref m5, .null, .null, .int 0, .ref m6, .int 0, .int 0, .int 0, .long 0, .null, .ref m7, .ref m8, .int 0, .int 0, .long 0])), (lp, .inr (0, [.int 0, .ref te, .int 0]))] [] sz tp te)) (va_Qi (fun (r : Int32) (_ : Unit) => r = 0) (fun (_ : Unit) (t : State) => Bw dC dI [(h0, .inr (17, [.ref lp, .null, .null, .int 0, .int 1, .ref m1, .ref m2, .ref m3, .ref m4, .ref m5, .null, .null, .int 0, .ref m6, .int 0, .int 0, .int 0, .long 0, .null, .ref m7, .ref m8, .int 0, .int 0, .long 0]))] [] (va_A [(h0, .inr (17, [.ref lp, .null, .null, .int 0, .int 0, .ref m1, .ref m2, .ref m3, .ref m4, .ref m5, .null, .null, .int 0, .ref m6, .int 0, .int 0, .int 0, .long 0, .null, .ref m7, .ref m8, .int 0, .int 0, .long 0])), (lp, .inr (0, [.int 0, .ref te, .int 0]))] sz) t) (va_A [(h0, .inr (17, [.ref lp, .null, .null, .int 0, .int 0, .ref m1, .ref m2, .ref m3, .ref m4, .ref m5, .null, .null, .int 0, .ref m6, .int 0, .int 0, .int 0, .long 0, .null, .ref m7, .ref m8, .int 0, .int 0, .long 0])), (lp, .inr (0, [.int 0, .ref te, .int 0]))] sz)) 0 0 (va_A [(h0, .inr (17, [.ref lp, .null, .null, .int 0, .int 0, .ref m1, .ref m2, .ref m3, .ref m4, .ref m5, .null, .null, .int 0, .ref m6, .int 0, .int 0, .int 0, .long 0, .null, .ref m7, .ref m8, .int 0, .int 0, .long 0])), (lp, .inr (0, [.int 0, .ref te, .int 0]))] sz) := by
  refine Met.ofW (cc := cX16_two) (maxL := 2) (ret := (some .int)) (by decide) rfl ?_
  intro p e s m args below meth c s₁ B hml hv
  obtain ⟨rfl, hsz, hP, hK, hD0, hG⟩ := hv
  have hx := B.exec
  have hb := B.bytes
  have hr := B.returns
  have hts := atoms_spec (ws := z_M_two_neg) B.pre
  have hown : s.vm.findClass RX16 = some m.cls := findClass_of_methodNamed B.named
  have hlocks := B.notSynchronized
  subst hsz
  have hD := hD0.self (sz := s.heap.size)
  generalize hAe : va_A [(h0, .inr (17, [.ref lp, .null, .null, .int 0, .int 0, .ref m1, .ref m2, .ref m3, .ref m4, .ref m5, .null, .null, .int 0, .ref m6, .int 0, .int 0, .int 0, .long 0, .null, .ref m7, .ref m8, .int 0, .int 0, .long 0])), (lp, .inr (0, [.int 0, .ref te, .int 0]))] s.heap.size = A at hD hG ⊢
  have hA : ∀ q : Nat, s.heap.size ≤ q → A q := fun q h => by rw [← hAe]; exact Or.inr h
  have hS : va_S A s.heap s.heap [] := va_S.rf
  have hl := lv_entry ([.ref h0, .int p0]) (n := 2) (Nat.le_of_ble_eq_true rfl)
  rw [lg_entry_eq]
  generalize (lg_sl ([.ref h0, .int p0]) ++ List.replicate (2 - (lg_sl ([.ref h0, .int p0])).length) Slot.unset).toArray = ls at hl ⊢
  have hl : lv_has ls 2 [(0, .ref h0), (1, .int p0)] := hl
  refine lv_aload_n hx hb dX16_two_0 rfl (lv_at hl 0 rfl) ?_
  refine lv_iload_n hx hb dX16_two_1 rfl (lv_at hl 1 rfl) ?_
  refine lv_if_lt (tgt := 10) hx hb dX16_two_2 (by decide) (fun c9 => ?_) (fun c9 => absurd hv0 c9)
  refine lv_iconst (v := 1) hx hb dX16_two_10 (by decide) ?_
  refine lv_goto (tgt := 27) hx hb dX16_two_11 (by decide) ?_
  refine va_put (D := (dC, dI)) (ci := 17) (v := .int 1) (ty := .int) (C := RX16) (T := TX16) (N := 24) hx hb hts in_z_M_two_neg_X16 tyX16 tyX16_ok nmX16 hown hK hP hD hS 0 rfl rfl 4 (by decide) (hts (.fieldLink RX16 40 "SelfkindleModel" "thrown" "I") (List.mem_of_getElem? (i := 1) rfl)) (fun _ h9 => h9) rfl (by decide +kernel) rfl rfl (Nat.le_of_ble_eq_true rfl) dX16_two_27 (fun H_1 locs hP hD hS => ?_)
  have hP : va_P (dC, dI) vwCl [(h0, .inr (17, [.ref lp, .null, .null, .int 0, .int 1, .ref m1, .ref m2, .ref m3, .ref m4, .ref m5, .null, .null, .int 0, .ref m6, .int 0, .int 0, .int 0, .long 0, .null, .ref m7, .ref m8, .int 0, .int 0, .long 0])), (lp, .inr (0, [.int 0, .ref te, .int 0]))] H_1 := hP
  have hD : va_D A [(h0, .inr (17, [.ref lp, .null, .null, .int 0, .int 1, .ref m1, .ref m2, .ref m3, .ref m4, .ref m5, .null, .null, .int 0, .ref m6, .int 0, .int 0, .int 0, .long 0, .null, .ref m7, .ref m8, .int 0, .int 0, .long 0])), (lp, .inr (0, [.int 0, .ref te, .int 0]))] := hD
  have hK : va_K (dC, dI) vwCl [] s := hK
  refine lv_aload_n hx hb dX16_two_30 rfl (lv_at hl 0 rfl) ?_
  refine va_get (D := (dC, dI)) (ci := 17) (v := .int 1) (C := RX16) (T := TX16) (N := 24) hx hb hts in_z_M_two_neg_X16 hown hK hP 0 rfl rfl 4 (by decide) (hts (.fieldLink RX16 40 "SelfkindleModel" "thrown" "I") (List.mem_of_getElem? (i := 1) rfl)) (fun _ h9 => h9) rfl dX16_two_31 ?_
  refine lv_if_le (tgt := 41) hx hb dX16_two_34 (by decide) (fun c9 => absurd c9 (by decide)) (fun c9 => ?_)
  refine lv_iconst (v := 0) hx hb dX16_two_37 (by decide) ?_
  refine lv_goto (tgt := 50) hx hb dX16_two_38 (by decide) ?_
  have hP := hP.sub (ws' := [(h0, .inr (17, [.ref lp, .null, .null, .int 0, .int 1, .ref m1, .ref m2, .ref m3, .ref m4, .ref m5, .null, .null, .int 0, .ref m6, .int 0, .int 0, .int 0, .long 0, .null, .ref m7, .ref m8, .int 0, .int 0, .long 0]))]) [0] rfl
  have hD := hD.sub (ws' := [(h0, .inr (17, [.ref lp, .null, .null, .int 0, .int 1, .ref m1, .ref m2, .ref m3, .ref m4, .ref m5, .null, .null, .int 0, .ref m6, .int 0, .int 0, .int 0, .long 0, .null, .ref m7, .ref m8, .int 0, .int 0, .long 0]))]) [0] (by decide) rfl
  have hK := hK.sub (tys' := []) [] rfl
  refine W.widen (k := 0) (n := 0) (Nat.le_of_ble_eq_true rfl) (Nat.le_of_ble_eq_true rfl) ?_
  exact W.iret (v := 0) hx hb hr (fun t ht hW => ⟨⟨0, (), rfl, rfl, ⟨by rw [ht]; exact hP, va_K.moved hW.alike hK, hD⟩⟩, hS.F ht⟩) hS.2.2 dX16_two_50

set_option maxRecDepth 20000 in
def z_M_two_big : List Cond := .code yX16_two cX16_two 2 (some .int) :: (([.fieldLink RX16 40 "SelfkindleModel" "thrown" "I"] : List Cond) ++ wsX160)
theorem in_z_M_two_big_X16 : ∀ w ∈ wsX160, w ∈ z_M_two_big := fun w h => List.mem_cons_of_mem _ (List.mem_append_right _ (h))
set_option maxHeartbeats 4000000 in
set_option maxRecDepth 100000 in
theorem c_M_two_big (l : Launch) (dC : Nat → ClassId) (dI : Nat → Nat → Nat) (tp te : Nat) (sz : Nat) (h0 : Nat) (lp : Nat) (m1 : Nat) (m2 : Nat) (m3 : Nat) (m4 : Nat) (m5 : Nat) (m6 : Nat) (m7 : Nat) (m8 : Nat) (p0 : Int32) (hv0 : ¬ p0 < 0) (hv1 : ¬ p0 < 4) (hv2 : ¬ p0 ≤ 3) : Met l yX16_two z_M_two_big ({ frames := 0, cells := 0, slots := 0, locals := 0 }) (va_Pc [.ref h0, .int p0] (Pw dC dI [(h0, .inr (17, [.ref lp, .null, .null, .int 0, .int 0, .ref m1, .ref m2, .ref m3, .ref m4, .ref m5, .null, .null, .int 0, .ref m6, .int 0, .int 0, .int 0, .long 0, .null, .ref m7, .ref m8, .int 0, .int 0, .long 0])), (lp, .inr (0, [.int 0, .ref te, .int 0]))] [] sz tp te)) (va_Qi (fun (r : Int32) (_ : Unit) => r = 0) (fun (_ : Unit) (t : State) => Bw dC dI [(h0, .inr (17, [.ref lp, .null, .null, .int 0, .int 1, .ref m1, .ref m2, .ref m3, .ref m4, .ref m5, .null, .null, .int 0, .ref m6, .int 0, .int 0, .int 0, .long 0, .null, .ref m7, .ref m8, .int 0, .int 0, .long 0]))] [] (va_A [(h0, .inr (17, [.ref lp, .null, .null, .int 0, .int 0, .ref m1, .ref m2, .ref m3, .ref m4, .ref m5, .null, .null, .int 0, .ref m6, .int 0, .int 0, .int 0, .long 0, .null, .ref m7, .ref m8, .int 0, .int 0, .long 0])), (lp, .inr (0, [.int 0, .ref te, .int 0]))] sz) t) (va_A [(h0, .inr (17, [.ref lp, .null, .null, .int 0, .int 0, .ref m1, .ref m2, .ref m3, .ref m4, .ref m5, .null, .null, .int 0, .ref m6, .int 0, .int 0, .int 0, .long 0, .null, .ref m7, .ref m8, .int 0, .int 0, .long 0])), (lp, .inr (0, [.int 0, .ref te, .int 0]))] sz)) 0 0 (va_A [(h0, .inr (17, [.ref lp, .null, .null, .int 0, .int 0, .ref m1, .ref m2, .ref m3, .ref m4, .ref m5, .null, .null, .int 0, .ref m6, .int 0, .int 0, .int 0, .long 0, .null, .ref m7, .ref m8, .int 0, .int 0, .long 0])), (lp, .inr (0, [.int 0, .ref te, .int 0]))] sz) := by
  refine Met.ofW (cc := cX16_two) (maxL := 2) (ret := (some .int)) (by decide) rfl ?_
  intro p e s m args below meth c s₁ B hml hv
  obtain ⟨rfl, hsz, hP, hK, hD0, hG⟩ := hv
  have hx := B.exec
  have hb := B.bytes
  have hr := B.returns
  have hts := atoms_spec (ws := z_M_two_big) B.pre
  have hown : s.vm.findClass RX16 = some m.cls := findClass_of_methodNamed B.named
  have hlocks := B.notSynchronized
  subst hsz
  have hD := hD0.self (sz := s.heap.size)
  generalize hAe : va_A [(h0, .inr (17, [.ref lp, .null, .null, .int 0, .int 0, .ref m1, .ref m2, .ref m3, .ref m4, .ref m5, .null, .null, .int 0, .ref m6, .int 0, .int 0, .int 0, .long 0, .null, .ref m7, .ref m8, .int 0, .int 0, .long 0])), (lp, .inr (0, [.int 0, .ref te, .int 0]))] s.heap.size = A at hD hG ⊢
  have hA : ∀ q : Nat, s.heap.size ≤ q → A q := fun q h => by rw [← hAe]; exact Or.inr h
  have hS : va_S A s.heap s.heap [] := va_S.rf
  have hl := lv_entry ([.ref h0, .int p0]) (n := 2) (Nat.le_of_ble_eq_true rfl)
  rw [lg_entry_eq]
  generalize (lg_sl ([.ref h0, .int p0]) ++ List.replicate (2 - (lg_sl ([.ref h0, .int p0])).length) Slot.unset).toArray = ls at hl ⊢
  have hl : lv_has ls 2 [(0, .ref h0), (1, .int p0)] := hl
  refine lv_aload_n hx hb dX16_two_0 rfl (lv_at hl 0 rfl) ?_
  refine lv_iload_n hx hb dX16_two_1 rfl (lv_at hl 1 rfl) ?_
  refine lv_if_lt (tgt := 10) hx hb dX16_two_2 (by decide) (fun c9 => absurd c9 hv0) (fun c9 => ?_)
  refine lv_iload_n hx hb dX16_two_5 rfl (lv_at hl 1 rfl) ?_
  refine lv_iconst (v := 3) hx hb dX16_two_6 (by decide) ?_
  refine lv_icmp_le (tgt := 14) hx hb dX16_two_7 (by decide) (fun c9 => absurd c9 hv2) (fun c9 => ?_)
  refine lv_iconst (v := 1) hx hb dX16_two_10 (by decide) ?_
  refine lv_goto (tgt := 27) hx hb dX16_two_11 (by decide) ?_
  refine va_put (D := (dC, dI)) (ci := 17) (v := .int 1) (ty := .int) (C := RX16) (T := TX16) (N := 24) hx hb hts in_z_M_two_big_X16 tyX16 tyX16_ok nmX16 hown hK hP hD hS 0 rfl rfl 4 (by decide) (hts (.fieldLink RX16 40 "SelfkindleModel" "thrown" "I") (List.mem_of_getElem? (i := 1) rfl)) (fun _ h9 => h9) rfl (by decide +kernel) rfl rfl (Nat.le_of_ble_eq_true rfl) dX16_two_27 (fun H_1 locs hP hD hS => ?_)
  have hP : va_P (dC, dI) vwCl [(h0, .inr (17, [.ref lp, .null, .null, .int 0, .int 1, .ref m1, .ref m2, .ref m3, .ref m4, .ref m5, .null, .null, .int 0, .ref m6, .int 0, .int 0, .int 0, .long 0, .null, .ref m7, .ref m8, .int 0, .int 0, .long 0])), (lp, .inr (0, [.int 0, .ref te, .int 0]))] H_1 := hP
  have hD : va_D A [(h0, .inr (17, [.ref lp, .null, .null, .int 0, .int 1, .ref m1, .ref m2, .ref m3, .ref m4, .ref m5, .null, .null, .int 0, .ref m6, .int 0, .int 0, .int 0, .long 0, .null, .ref m7, .ref m8, .int 0, .int 0, .long 0])), (lp, .inr (0, [.int 0, .ref te, .int 0]))] := hD
  have hK : va_K (dC, dI) vwCl [] s := hK
  refine lv_aload_n hx hb dX16_two_30 rfl (lv_at hl 0 rfl) ?_
  refine va_get (D := (dC, dI)) (ci := 17) (v := .int 1) (C := RX16) (T := TX16) (N := 24) hx hb hts in_z_M_two_big_X16 hown hK hP 0 rfl rfl 4 (by decide) (hts (.fieldLink RX16 40 "SelfkindleModel" "thrown" "I") (List.mem_of_getElem? (i := 1) rfl)) (fun _ h9 => h9) rfl dX16_two_31 ?_
  refine lv_if_le (tgt := 41) hx hb dX16_two_34 (by decide) (fun c9 => absurd c9 (by decide)) (fun c9 => ?_)
  refine lv_iconst (v := 0) hx hb dX16_two_37 (by decide) ?_
  refine lv_goto (tgt := 50) hx hb dX16_two_38 (by decide) ?_
  have hP := hP.sub (ws' := [(h0, .inr (17, [.ref lp, .null, .null, .int 0, .int 1, .ref m1, .ref m2, .ref m3, .ref m4, .ref m5, .null, .null, .int 0, .ref m6, .int 0, .int 0, .int 0, .long 0, .null, .ref m7, .ref m8, .int 0, .int 0, .long 0]))]) [0] rfl
  have hD := hD.sub (ws' := [(h0, .inr (17, [.ref lp, .null, .null, .int 0, .int 1, .ref m1, .ref m2, .ref m3, .ref m4, .ref m5, .null, .null, .int 0, .ref m6, .int 0, .int 0, .int 0, .long 0, .null, .ref m7, .ref m8, .int 0, .int 0, .long 0]))]) [0] (by decide) rfl
  have hK := hK.sub (tys' := []) [] rfl
  refine W.widen (k := 0) (n := 0) (Nat.le_of_ble_eq_true rfl) (Nat.le_of_ble_eq_true rfl) ?_
  exact W.iret (v := 0) hx hb hr (fun t ht hW => ⟨⟨0, (), rfl, rfl, ⟨by rw [ht]; exact hP, va_K.moved hW.alike hK, hD⟩⟩, hS.F ht⟩) hS.2.2 dX16_two_50

set_option maxRecDepth 20000 in
def z_M_two_ok : List Cond := .code yX16_two cX16_two 2 (some .int) :: (([.methodLink RX16 78 yX16_fits, .instanceMethod yX16_fits, .selects RX16 yX16_fits yX16_fits, .initialized RX16, .code yX16_fits cX16_fits 5 (some .boolean), .fieldLink RX16 10 "SelfkindleModel" "pile" "Ljava/util/ArrayList;", .methodLink RX16 44 yJx4a65c_size_8abf5, .instanceMethod yJx4a65c_size_8abf5, .selects RJx4a65c yJx4a65c_size_8abf5 yJx4a65c_size_8abf5, .initialized RJx4a65c, .code yJx4a65c_size_8abf5 cJx4a65c_size_8abf5 1 (some .int), .fieldLink RJx4a65c 48 "java/util/ArrayList" "size" "I", .fieldLink RX16 40 "SelfkindleModel" "thrown" "I"] : List Cond) ++ wsX160 ++ wsJx4a65c0)
theorem in_z_M_two_ok_X16 : ∀ w ∈ wsX160, w ∈ z_M_two_ok := fun w h => List.mem_cons_of_mem _ (List.mem_append_left _ (List.mem_append_right _ (h)))
theorem in_z_M_two_ok_Jx4a65c : ∀ w ∈ wsJx4a65c0, w ∈ z_M_two_ok := fun w h => List.mem_cons_of_mem _ (List.mem_append_right _ (h))
set_option maxRecDepth 20000 in
theorem g_M_two_ok_16 : GoodIn z_M_two_ok (wsV RX16 78 RX16 yX16_fits z_fits2) := goodIn_p _ [5, 11] rfl (by decide +kernel)
set_option maxHeartbeats 4000000 in
set_option maxRecDepth 100000 in
theorem c_M_two_ok (l : Launch) (dC : Nat → ClassId) (dI : Nat → Nat → Nat) (tp te : Nat) (sz : Nat) (h0 : Nat) (lp : Nat) (m1 : Nat) (m2 : Nat) (m3 : Nat) (m4 : Nat) (m5 : Nat) (m6 : Nat) (m7 : Nat) (m8 : Nat) (p0 : Int32) (hv0 : ¬ p0 < 0) (hv1 : p0 < 4) (hv2 : p0 ≤ 3) : Met l yX16_two z_M_two_ok ({ frames := 2, cells := 0, slots := 0, locals := 44 }) (va_Pc [.ref h0, .int p0] (Pw dC dI [(h0, .inr (17, [.ref lp, .null, .null, .int 0, .int 0, .ref m1, .ref m2, .ref m3, .ref m4, .ref m5, .null, .null, .int 0, .ref m6, .int 0, .int 0, .int 0, .long 0, .null, .ref m7, .ref m8, .int 0, .int 0, .long 0])), (lp, .inr (0, [.int 0, .ref te, .int 0]))] [] sz tp te)) (va_Qi (fun (r : Int32) (_ : Unit) => r = 0) (fun (_ : Unit) (t : State) => Bw dC dI [(h0, .inr (17, [.ref lp, .null, .null, .int 0, .int 2, .ref m1, .ref m2, .ref m3, .ref m4, .ref m5, .null, .null, .int 0, .ref m6, .int 0, .int 0, .int 0, .long 0, .null, .ref m7, .ref m8, .int 0, .int 0, .long 0]))] [] (va_A [(h0, .inr (17, [.ref lp, .null, .null, .int 0, .int 0, .ref m1, .ref m2, .ref m3, .ref m4, .ref m5, .null, .null, .int 0, .ref m6, .int 0, .int 0, .int 0, .long 0, .null, .ref m7, .ref m8, .int 0, .int 0, .long 0])), (lp, .inr (0, [.int 0, .ref te, .int 0]))] sz) t) (va_A [(h0, .inr (17, [.ref lp, .null, .null, .int 0, .int 0, .ref m1, .ref m2, .ref m3, .ref m4, .ref m5, .null, .null, .int 0, .ref m6, .int 0, .int 0, .int 0, .long 0, .null, .ref m7, .ref m8, .int 0, .int 0, .long 0])), (lp, .inr (0, [.int 0, .ref te, .int 0]))] sz)) 0 0 (va_A [(h0, .inr (17, [.ref lp, .null, .null, .int 0, .int 0, .ref m1, .ref m2, .ref m3, .ref m4, .ref m5, .null, .null, .int 0, .ref m6, .int 0, .int 0, .int 0, .long 0, .null, .ref m7, .ref m8, .int 0, .int 0, .long 0])), (lp, .inr (0, [.int 0, .ref te, .int 0]))] sz) := by
  refine Met.ofW (cc := cX16_two) (maxL := 2) (ret := (some .int)) (by decide) rfl ?_
  intro p e s m args below meth c s₁ B hml hv
  obtain ⟨rfl, hsz, hP, hK, hD0, hG⟩ := hv
  have hx := B.exec
  have hb := B.bytes
  have hr := B.returns
  have hts := atoms_spec (ws := z_M_two_ok) B.pre
  have hown : s.vm.findClass RX16 = some m.cls := findClass_of_methodNamed B.named
  have hlocks := B.notSynchronized
  subst hsz
  have hD := hD0.self (sz := s.heap.size)
  generalize hAe : va_A [(h0, .inr (17, [.ref lp, .null, .null, .int 0, .int 0, .ref m1, .ref m2, .ref m3, .ref m4, .ref m5, .null, .null, .int 0, .ref m6, .int 0, .int 0, .int 0, .long 0, .null, .ref m7, .ref m8, .int 0, .int 0, .long 0])), (lp, .inr (0, [.int 0, .ref te, .int 0]))] s.heap.size = A at hD hG ⊢
  have hA : ∀ q : Nat, s.heap.size ≤ q → A q := fun q h => by rw [← hAe]; exact Or.inr h
  have hS : va_S A s.heap s.heap [] := va_S.rf
  have hl := lv_entry ([.ref h0, .int p0]) (n := 2) (Nat.le_of_ble_eq_true rfl)
  rw [lg_entry_eq]
  generalize (lg_sl ([.ref h0, .int p0]) ++ List.replicate (2 - (lg_sl ([.ref h0, .int p0])).length) Slot.unset).toArray = ls at hl ⊢
  have hl : lv_has ls 2 [(0, .ref h0), (1, .int p0)] := hl
  refine lv_aload_n hx hb dX16_two_0 rfl (lv_at hl 0 rfl) ?_
  refine lv_iload_n hx hb dX16_two_1 rfl (lv_at hl 1 rfl) ?_
  refine lv_if_lt (tgt := 10) hx hb dX16_two_2 (by decide) (fun c9 => absurd c9 hv0) (fun c9 => ?_)
  refine lv_iload_n hx hb dX16_two_5 rfl (lv_at hl 1 rfl) ?_
  refine lv_iconst (v := 3) hx hb dX16_two_6 (by decide) ?_
  refine lv_icmp_le (tgt := 14) hx hb dX16_two_7 (by decide) (fun c9 => ?_) (fun c9 => absurd hv2 c9)
  refine lv_aload_n hx hb dX16_two_14 rfl (lv_at hl 0 rfl) ?_
  refine lv_iconst (v := 2) hx hb dX16_two_15 (by decide) ?_
  have hPc := hP.sub (ws' := [(h0, .inr (17, [.ref lp, .null, .null, .int 0, .int 0, .ref m1, .ref m2, .ref m3, .ref m4, .ref m5, .null, .null, .int 0, .ref m6, .int 0, .int 0, .int 0, .long 0, .null, .ref m7, .ref m8, .int 0, .int 0, .long 0])), (lp, .inr (0, [.int 0, .ref te, .int 0]))]) [0, 1] rfl
  have hDc := hD.sub (ws' := [(h0, .inr (17, [.ref lp, .null, .null, .int 0, .int 0, .ref m1, .ref m2, .ref m3, .ref m4, .ref m5, .null, .null, .int 0, .ref m6, .int 0, .int 0, .int 0, .long 0, .null, .ref m7, .ref m8, .int 0, .int 0, .long 0])), (lp, .inr (0, [.int 0, .ref te, .int 0]))]) [0, 1] (by decide) rfl
  have hKc := hK.sub (tys' := []) [] rfl
  have hFc := va_free (wc := [(h0, .inr (17, [.ref lp, .null, .null, .int 0, .int 0, .ref m1, .ref m2, .ref m3, .ref m4, .ref m5, .null, .null, .int 0, .ref m6, .int 0, .int 0, .int 0, .long 0, .null, .ref m7, .ref m8, .int 0, .int 0, .long 0])), (lp, .inr (0, [.int 0, .ref te, .int 0]))]) hD hS hA [0, 1] rfl
  refine va_calli (va_runV (As := [.int 2]) (rest := [.ref h0]) ⟨hx, hb, hml, hown, hts⟩ (c_fits2 l dC dI tp te s.heap.size h0 lp m1 m2 m3 m4 m5 m6 m7 m8) (cwV 1 hts g_M_two_ok_16 rfl rfl rfl (by decide +kernel) ⟨Nat.le_of_ble_eq_true rfl, Nat.le_of_ble_eq_true rfl⟩) ⟨Pw.blind, va_recv hKc hPc (ci := 17) (q0 := 0) rfl rfl, Pw.mk hPc hKc hDc hG hS hFc⟩ rfl rfl hl.1 rfl (lv_room (Nat.le_of_ble_eq_true rfl)) dX16_two_16 ⟨Nat.le_of_ble_eq_true rfl, Nat.le_of_ble_eq_true rfl⟩) hS (fun q _ h => hFc q h) hFc (fun r u t9 H_1 locs ht hvm hw hB hz1 hk1 hS => ?_)
  have hw : r = 0 := hw
  subst hw
  obtain ⟨hP1, hK1, hD1⟩ := hB
  rw [ht] at hP1
  have hK1 := va_K.moved hvm.symm hK1
  obtain ⟨hP, hD⟩ := va_join (wr := []) (w1 := [(h0, .inr (17, [.ref lp, .null, .null, .int 0, .int 0, .ref m1, .ref m2, .ref m3, .ref m4, .ref m5, .null, .null, .int 0, .ref m6, .int 0, .int 0, .int 0, .long 0, .null, .ref m7, .ref m8, .int 0, .int 0, .long 0])), (lp, .inr (0, [.int 0, .ref te, .int 0]))]) hP hD [0, 1] [] rfl rfl (by decide) (by decide) hk1 hFc hP1 hD1
  have hK := (hK.sub (tys' := []) [] rfl).app hK1
  have hP : va_P (dC, dI) vwCl [(h0, .inr (17, [.ref lp, .null, .null, .int 0, .int 0, .ref m1, .ref m2, .ref m3, .ref m4, .ref m5, .null, .null, .int 0, .ref m6, .int 0, .int 0, .int 0, .long 0, .null, .ref m7, .ref m8, .int 0, .int 0, .long 0])), (lp, .inr (0, [.int 0, .ref te, .int 0]))] H_1 := hP
  have hD : va_D A [(h0, .inr (17, [.ref lp, .null, .null, .int 0, .int 0, .ref m1, .ref m2, .ref m3, .ref m4, .ref m5, .null, .null, .int 0, .ref m6, .int 0, .int 0, .int 0, .long 0, .null, .ref m7, .ref m8, .int 0, .int 0, .long 0])), (lp, .inr (0, [.int 0, .ref te, .int 0]))] := hD
  have hK : va_K (dC, dI) vwCl [] s := hK
  refine W.widen (k := 0) (n := 0) (Nat.le_of_ble_eq_true rfl) (Nat.le_of_ble_eq_true rfl) ?_
  refine lv_if_ne (tgt := 26) hx hb dX16_two_19 (by decide) (fun c9 => absurd (by decide) c9) (fun c9 => ?_)
  refine lv_iconst (v := 2) hx hb dX16_two_22 (by decide) ?_
  refine lv_goto (tgt := 27) hx hb dX16_two_23 (by decide) ?_
  refine va_put (D := (dC, dI)) (ci := 17) (v := .int 2) (ty := .int) (C := RX16) (T := TX16) (N := 24) hx hb hts in_z_M_two_ok_X16 tyX16 tyX16_ok nmX16 hown hK hP hD hS 0 rfl rfl 4 (by decide) (hts (.fieldLink RX16 40 "SelfkindleModel" "thrown" "I") (List.mem_of_getElem? (i := 13) rfl)) (fun _ h9 => h9) rfl (by decide +kernel) rfl rfl (Nat.le_of_ble_eq_true rfl) dX16_two_27 (fun H_3 locs hP hD hS => ?_)
  have hP : va_P (dC, dI) vwCl [(h0, .inr (17, [.ref lp, .null, .null, .int 0, .int 2, .ref m1, .ref m2, .ref m3, .ref m4, .ref m5, .null, .null, .int 0, .ref m6, .int 0, .int 0, .int 0, .long 0, .null, .ref m7, .ref m8, .int 0, .int 0, .long 0])), (lp, .inr (0, [.int 0, .ref te, .int 0]))] H_3 := hP
  have hD : va_D A [(h0, .inr (17, [.ref lp, .null, .null, .int 0, .int 2, .ref m1, .ref m2, .ref m3, .ref m4, .ref m5, .null, .null, .int 0, .ref m6, .int 0, .int 0, .int 0, .long 0, .null, .ref m7, .ref m8, .int 0, .int 0, .long 0])), (lp, .inr (0, [.int 0, .ref te, .int 0]))] := hD
  have hK : va_K (dC, dI) vwCl [] s := hK
  refine lv_aload_n hx hb dX16_two_30 rfl (lv_at hl 0 rfl) ?_
  refine va_get (D := (dC, dI)) (ci := 17) (v := .int 2) (C := RX16) (T := TX16) (N := 24) hx hb hts in_z_M_two_ok_X16 hown hK hP 0 rfl rfl 4 (by decide) (hts (.fieldLink RX16 40 "SelfkindleModel" "thrown" "I") (List.mem_of_getElem? (i := 13) rfl)) (fun _ h9 => h9) rfl dX16_two_31 ?_
  refine lv_if_le (tgt := 41) hx hb dX16_two_34 (by decide) (fun c9 => absurd c9 (by decide)) (fun c9 => ?_)
  refine lv_iconst (v := 0) hx hb dX16_two_37 (by decide) ?_
  refine lv_goto (tgt := 50) hx hb dX16_two_38 (by decide) ?_
  have hP := hP.sub (ws' := [(h0, .inr (17, [.ref lp, .null, .null, .int 0, .int 2, .ref m1, .ref m2, .ref m3, .ref m4, .ref m5, .null, .null, .int 0, .ref m6, .int 0, .int 0, .int 0, .long 0, .null, .ref m7, .ref m8, .int 0, .int 0, .long 0]))]) [0] rfl
  have hD := hD.sub (ws' := [(h0, .inr (17, [.ref lp, .null, .null, .int 0, .int 2, .ref m1, .ref m2, .ref m3, .ref m4, .ref m5, .null, .null, .int 0, .ref m6, .int 0, .int 0, .int 0, .long 0, .null, .ref m7, .ref m8, .int 0, .int 0, .long 0]))]) [0] (by decide) rfl
  have hK := hK.sub (tys' := []) [] rfl
  refine W.widen (k := 0) (n := 0) (Nat.le_of_ble_eq_true rfl) (Nat.le_of_ble_eq_true rfl) ?_
  exact W.iret (v := 0) hx hb hr (fun t ht hW => ⟨⟨0, (), rfl, rfl, ⟨by rw [ht]; exact hP, va_K.moved hW.alike hK, hD⟩⟩, hS.F ht⟩) hS.2.2 dX16_two_50

set_option maxRecDepth 20000 in
def z_M_call : List Cond := .code yX16_call cX16_call 1 (some .int) :: (([.methodLink RX16 78 yX16_fits, .instanceMethod yX16_fits, .selects RX16 yX16_fits yX16_fits, .initialized RX16, .code yX16_fits cX16_fits 5 (some .boolean), .fieldLink RX16 10 "SelfkindleModel" "pile" "Ljava/util/ArrayList;", .methodLink RX16 44 yJx4a65c_size_8abf5, .instanceMethod yJx4a65c_size_8abf5, .selects RJx4a65c yJx4a65c_size_8abf5 yJx4a65c_size_8abf5, .initialized RJx4a65c, .code yJx4a65c_size_8abf5 cJx4a65c_size_8abf5 1 (some .int), .fieldLink RJx4a65c 48 "java/util/ArrayList" "size" "I", .fieldLink RX16 40 "SelfkindleModel" "thrown" "I"] : List Cond) ++ wsX160 ++ wsJx4a65c0)
theorem in_z_M_call_X16 : ∀ w ∈ wsX160, w ∈ z_M_call := fun w h => List.mem_cons_of_mem _ (List.mem_append_left _ (List.mem_append_right _ (h)))
theorem in_z_M_call_Jx4a65c : ∀ w ∈ wsJx4a65c0, w ∈ z_M_call := fun w h => List.mem_cons_of_mem _ (List.mem_append_right _ (h))
set_option maxRecDepth 20000 in
theorem g_M_call_3 : GoodIn z_M_call (wsV RX16 78 RX16 yX16_fits z_fits2) := goodIn_p _ [5, 11] rfl (by decide +kernel)
set_option maxHeartbeats 4000000 in
set_option maxRecDepth 100000 in
theorem c_M_call (l : Launch) (dC : Nat → ClassId) (dI : Nat → Nat → Nat) (tp te : Nat) (sz : Nat) (h0 : Nat) (lp : Nat) (m1 : Nat) (m2 : Nat) (m3 : Nat) (m4 : Nat) (m5 : Nat) (m6 : Nat) (m7 : Nat) (m8 : Nat)  : Met l yX16_call z_M_call ({ frames := 2, cells := 0, slots := 0, locals := 44 }) (va_Pc [.ref h0] (Pw dC dI [(h0, .inr (17, [.ref lp, .null, .null, .int 0, .int 0, .ref m1, .ref m2, .ref m3, .ref m4, .ref m5, .null, .null, .int 0, .ref m6, .int 0, .int 0, .int 0, .long 0, .null, .ref m7, .ref m8, .int 0, .int 0, .long 0])), (lp, .inr (0, [.int 0, .ref te, .int 0]))] [] sz tp te)) (va_Qi (fun (r : Int32) (_ : Unit) => r = 0) (fun (_ : Unit) (t : State) => Bw dC dI [(h0, .inr (17, [.ref lp, .null, .null, .int 0, .int 1, .ref m1, .ref m2, .ref m3, .ref m4, .ref m5, .null, .null, .int 0, .ref m6, .int 0, .int 0, .int 0, .long 0, .null, .ref m7, .ref m8, .int 0, .int 0, .long 0]))] [] (va_A [(h0, .inr (17, [.ref lp, .null, .null, .int 0, .int 0, .ref m1, .ref m2, .ref m3, .ref m4, .ref m5, .null, .null, .int 0, .ref m6, .int 0, .int 0, .int 0, .long 0, .null, .ref m7, .ref m8, .int 0, .int 0, .long 0])), (lp, .inr (0, [.int 0, .ref te, .int 0]))] sz) t) (va_A [(h0, .inr (17, [.ref lp, .null, .null, .int 0, .int 0, .ref m1, .ref m2, .ref m3, .ref m4, .ref m5, .null, .null, .int 0, .ref m6, .int 0, .int 0, .int 0, .long 0, .null, .ref m7, .ref m8, .int 0, .int 0, .long 0])), (lp, .inr (0, [.int 0, .ref te, .int 0]))] sz)) 0 0 (va_A [(h0, .inr (17, [.ref lp, .null, .null, .int 0, .int 0, .ref m1, .ref m2, .ref m3, .ref m4, .ref m5, .null, .null, .int 0, .ref m6, .int 0, .int 0, .int 0, .long 0, .null, .ref m7, .ref m8, .int 0, .int 0, .long 0])), (lp, .inr (0, [.int 0, .ref te, .int 0]))] sz) := by
  refine Met.ofW (cc := cX16_call) (maxL := 1) (ret := (some .int)) (by decide) rfl ?_
  intro p e s m args below meth c s₁ B hml hv
  obtain ⟨rfl, hsz, hP, hK, hD0, hG⟩ := hv
  have hx := B.exec
  have hb := B.bytes
  have hr := B.returns
  have hts := atoms_spec (ws := z_M_call) B.pre
  have hown : s.vm.findClass RX16 = some m.cls := findClass_of_methodNamed B.named
  have hlocks := B.notSynchronized
  subst hsz
  have hD := hD0.self (sz := s.heap.size)
  generalize hAe : va_A [(h0, .inr (17, [.ref lp, .null, .null, .int 0, .int 0, .ref m1, .ref m2, .ref m3, .ref m4, .ref m5, .null, .null, .int 0, .ref m6, .int 0, .int 0, .int 0, .long 0, .null, .ref m7, .ref m8, .int 0, .int 0, .long 0])), (lp, .inr (0, [.int 0, .ref te, .int 0]))] s.heap.size = A at hD hG ⊢
  have hA : ∀ q : Nat, s.heap.size ≤ q → A q := fun q h => by rw [← hAe]; exact Or.inr h
  have hS : va_S A s.heap s.heap [] := va_S.rf
  have hl := lv_entry ([.ref h0]) (n := 1) (Nat.le_of_ble_eq_true rfl)
  rw [lg_entry_eq]
  generalize (lg_sl ([.ref h0]) ++ List.replicate (1 - (lg_sl ([.ref h0])).length) Slot.unset).toArray = ls at hl ⊢
  have hl : lv_has ls 1 [(0, .ref h0)] := hl
  refine lv_aload_n hx hb dX16_call_0 rfl (lv_at hl 0 rfl) ?_
  refine lv_aload_n hx hb dX16_call_1 rfl (lv_at hl 0 rfl) ?_
  refine lv_iconst (v := 2) hx hb dX16_call_2 (by decide) ?_
  have hPc := hP.sub (ws' := [(h0, .inr (17, [.ref lp, .null, .null, .int 0, .int 0, .ref m1, .ref m2, .ref m3, .ref m4, .ref m5, .null, .null, .int 0, .ref m6, .int 0, .int 0, .int 0, .long 0, .null, .ref m7, .ref m8, .int 0, .int 0, .long 0])), (lp, .inr (0, [.int 0, .ref te, .int 0]))]) [0, 1] rfl
  have hDc := hD.sub (ws' := [(h0, .inr (17, [.ref lp, .null, .null, .int 0, .int 0, .ref m1, .ref m2, .ref m3, .ref m4, .ref m5, .null, .null, .int 0, .ref m6, .int 0, .int 0, .int 0, .long 0, .null, .ref m7, .ref m8, .int 0, .int 0, .long 0])), (lp, .inr (0, [.int 0, .ref te, .int 0]))]) [0, 1] (by decide) rfl
  have hKc := hK.sub (tys' := []) [] rfl
  have hFc := va_free (wc := [(h0, .inr (17, [.ref lp, .null, .null, .int 0, .int 0, .ref m1, .ref m2, .ref m3, .ref m4, .ref m5, .null, .null, .int 0, .ref m6, .int 0, .int 0, .int 0, .long 0, .null, .ref m7, .ref m8, .int 0, .int 0, .long 0])), (lp, .inr (0, [.int 0, .ref te, .int 0]))]) hD hS hA [0, 1] rfl
  refine va_calli (va_runV (As := [.int 2]) (rest := [.ref h0]) ⟨hx, hb, hml, hown, hts⟩ (c_fits2 l dC dI tp te s.heap.size h0 lp m1 m2 m3 m4 m5 m6 m7 m8) (cwV 1 hts g_M_call_3 rfl rfl rfl (by decide +kernel) ⟨Nat.le_of_ble_eq_true rfl, Nat.le_of_ble_eq_true rfl⟩) ⟨Pw.blind, va_recv hKc hPc (ci := 17) (q0 := 0) rfl rfl, Pw.mk hPc hKc hDc hG hS hFc⟩ rfl rfl hl.1 rfl (lv_room (Nat.le_of_ble_eq_true rfl)) dX16_call_3 ⟨Nat.le_of_ble_eq_true rfl, Nat.le_of_ble_eq_true rfl⟩) hS (fun q _ h => hFc q h) hFc (fun r u t9 H_1 locs ht hvm hw hB hz1 hk1 hS => ?_)
  have hw : r = 0 := hw
  subst hw
  obtain ⟨hP1, hK1, hD1⟩ := hB
  rw [ht] at hP1
  have hK1 := va_K.moved hvm.symm hK1
  obtain ⟨hP, hD⟩ := va_join (wr := []) (w1 := [(h0, .inr (17, [.ref lp, .null, .null, .int 0, .int 0, .ref m1, .ref m2, .ref m3, .ref m4, .ref m5, .null, .null, .int 0, .ref m6, .int 0, .int 0, .int 0, .long 0, .null, .ref m7, .ref m8, .int 0, .int 0, .long 0])), (lp, .inr (0, [.int 0, .ref te, .int 0]))]) hP hD [0, 1] [] rfl rfl (by decide) (by decide) hk1 hFc hP1 hD1
  have hK := (hK.sub (tys' := []) [] rfl).app hK1
  have hP : va_P (dC, dI) vwCl [(h0, .inr (17, [.ref lp, .null, .null, .int 0, .int 0, .ref m1, .ref m2, .ref m3, .ref m4, .ref m5, .null, .null, .int 0, .ref m6, .int 0, .int 0, .int 0, .long 0, .null, .ref m7, .ref m8, .int 0, .int 0, .long 0])), (lp, .inr (0, [.int 0, .ref te, .int 0]))] H_1 := hP
  have hD : va_D A [(h0, .inr (17, [.ref lp, .null, .null, .int 0, .int 0, .ref m1, .ref m2, .ref m3, .ref m4, .ref m5, .null, .null, .int 0, .ref m6, .int 0, .int 0, .int 0, .long 0, .null, .ref m7, .ref m8, .int 0, .int 0, .long 0])), (lp, .inr (0, [.int 0, .ref te, .int 0]))] := hD
  have hK : va_K (dC, dI) vwCl [] s := hK
  refine W.widen (k := 0) (n := 0) (Nat.le_of_ble_eq_true rfl) (Nat.le_of_ble_eq_true rfl) ?_
  refine lv_if_eq (tgt := 13) hx hb dX16_call_6 (by decide) (fun c9 => ?_) (fun c9 => absurd (by decide) c9)
  refine lv_iconst (v := 1) hx hb dX16_call_13 (by decide) ?_
  refine va_put (D := (dC, dI)) (ci := 17) (v := .int 1) (ty := .int) (C := RX16) (T := TX16) (N := 24) hx hb hts in_z_M_call_X16 tyX16 tyX16_ok nmX16 hown hK hP hD hS 0 rfl rfl 4 (by decide) (hts (.fieldLink RX16 40 "SelfkindleModel" "thrown" "I") (List.mem_of_getElem? (i := 13) rfl)) (fun _ h9 => h9) rfl (by decide +kernel) rfl rfl (Nat.le_of_ble_eq_true rfl) dX16_call_14 (fun H_3 locs hP hD hS => ?_)
  have hP : va_P (dC, dI) vwCl [(h0, .inr (17, [.ref lp, .null, .null, .int 0, .int 1, .ref m1, .ref m2, .ref m3, .ref m4, .ref m5, .null, .null, .int 0, .ref m6, .int 0, .int 0, .int 0, .long 0, .null, .ref m7, .ref m8, .int 0, .int 0, .long 0])), (lp, .inr (0, [.int 0, .ref te, .int 0]))] H_3 := hP
  have hD : va_D A [(h0, .inr (17, [.ref lp, .null, .null, .int 0, .int 1, .ref m1, .ref m2, .ref m3, .ref m4, .ref m5, .null, .null, .int 0, .ref m6, .int 0, .int 0, .int 0, .long 0, .null, .ref m7, .ref m8, .int 0, .int 0, .long 0])), (lp, .inr (0, [.int 0, .ref te, .int 0]))] := hD
  have hK : va_K (dC, dI) vwCl [] s := hK
  refine lv_aload_n hx hb dX16_call_17 rfl (lv_at hl 0 rfl) ?_
  refine va_get (D := (dC, dI)) (ci := 17) (v := .int 1) (C := RX16) (T := TX16) (N := 24) hx hb hts in_z_M_call_X16 hown hK hP 0 rfl rfl 4 (by decide) (hts (.fieldLink RX16 40 "SelfkindleModel" "thrown" "I") (List.mem_of_getElem? (i := 13) rfl)) (fun _ h9 => h9) rfl dX16_call_18 ?_
  refine lv_if_le (tgt := 28) hx hb dX16_call_21 (by decide) (fun c9 => absurd c9 (by decide)) (fun c9 => ?_)
  refine lv_iconst (v := 0) hx hb dX16_call_24 (by decide) ?_
  refine lv_goto (tgt := 36) hx hb dX16_call_25 (by decide) ?_
  have hP := hP.sub (ws' := [(h0, .inr (17, [.ref lp, .null, .null, .int 0, .int 1, .ref m1, .ref m2, .ref m3, .ref m4, .ref m5, .null, .null, .int 0, .ref m6, .int 0, .int 0, .int 0, .long 0, .null, .ref m7, .ref m8, .int 0, .int 0, .long 0]))]) [0] rfl
  have hD := hD.sub (ws' := [(h0, .inr (17, [.ref lp, .null, .null, .int 0, .int 1, .ref m1, .ref m2, .ref m3, .ref m4, .ref m5, .null, .null, .int 0, .ref m6, .int 0, .int 0, .int 0, .long 0, .null, .ref m7, .ref m8, .int 0, .int 0, .long 0]))]) [0] (by decide) rfl
  have hK := hK.sub (tys' := []) [] rfl
  refine W.widen (k := 0) (n := 0) (Nat.le_of_ble_eq_true rfl) (Nat.le_of_ble_eq_true rfl) ?_
  exact W.iret (v := 0) hx hb hr (fun t ht hW => ⟨⟨0, (), rfl, rfl, ⟨by rw [ht]; exact hP, va_K.moved hW.alike hK, hD⟩⟩, hS.F ht⟩) hS.2.2 dX16_call_36

set_option maxRecDepth 20000 in
def z_M_choose : List Cond := .code yX16_choose cX16_choose 1 (some .int) :: (([.methodLink RX16 78 yX16_fits, .instanceMethod yX16_fits, .selects RX16 yX16_fits yX16_fits, .initialized RX16, .code yX16_fits cX16_fits 5 (some .boolean), .fieldLink RX16 10 "SelfkindleModel" "pile" "Ljava/util/ArrayList;", .methodLink RX16 44 yJx4a65c_size_8abf5, .instanceMethod yJx4a65c_size_8abf5, .selects RJx4a65c yJx4a65c_size_8abf5 yJx4a65c_size_8abf5, .initialized RJx4a65c, .code yJx4a65c_size_8abf5 cJx4a65c_size_8abf5 1 (some .int), .fieldLink RJx4a65c 48 "java/util/ArrayList" "size" "I", .fieldLink RX16 40 "SelfkindleModel" "thrown" "I"] : List Cond) ++ wsX160 ++ wsJx4a65c0)
theorem in_z_M_choose_X16 : ∀ w ∈ wsX160, w ∈ z_M_choose := fun w h => List.mem_cons_of_mem _ (List.mem_append_left _ (List.mem_append_right _ (h)))
theorem in_z_M_choose_Jx4a65c : ∀ w ∈ wsJx4a65c0, w ∈ z_M_choose := fun w h => List.mem_cons_of_mem _ (List.mem_append_right _ (h))
set_option maxRecDepth 20000 in
theorem g_M_choose_3 : GoodIn z_M_choose (wsV RX16 78 RX16 yX16_fits z_fits3) := goodIn_p _ [5, 11] rfl (by decide +kernel)
set_option maxHeartbeats 4000000 in
set_option maxRecDepth 100000 in
theorem c_M_choose (l : Launch) (dC : Nat → ClassId) (dI : Nat → Nat → Nat) (tp te : Nat) (sz : Nat) (h0 : Nat) (lp : Nat) (m1 : Nat) (m2 : Nat) (m3 : Nat) (m4 : Nat) (m5 : Nat) (m6 : Nat) (m7 : Nat) (m8 : Nat)  : Met l yX16_choose z_M_choose ({ frames := 2, cells := 0, slots := 0, locals := 44 }) (va_Pc [.ref h0] (Pw dC dI [(h0, .inr (17, [.ref lp, .null, .null, .int 0, .int 0, .ref m1, .ref m2, .ref m3, .ref m4, .ref m5, .null, .null, .int 0, .ref m6, .int 0, .int 0, .int 0, .long 0, .null, .ref m7, .ref m8, .int 0, .int 0, .long 0])), (lp, .inr (0, [.int 0, .ref te, .int 0]))] [] sz tp te)) (va_Qi (fun (r : Int32) (_ : Unit) => r = 0) (fun (_ : Unit) (t : State) => Bw dC dI [(h0, .inr (17, [.ref lp, .null, .null, .int 0, .int 1, .ref m1, .ref m2, .ref m3, .ref m4, .ref m5, .null, .null, .int 0, .ref m6, .int 0, .int 0, .int 0, .long 0, .null, .ref m7, .ref m8, .int 0, .int 0, .long 0]))] [] (va_A [(h0, .inr (17, [.ref lp, .null, .null, .int 0, .int 0, .ref m1, .ref m2, .ref m3, .ref m4, .ref m5, .null, .null, .int 0, .ref m6, .int 0, .int 0, .int 0, .long 0, .null, .ref m7, .ref m8, .int 0, .int 0, .long 0])), (lp, .inr (0, [.int 0, .ref te, .int 0]))] sz) t) (va_A [(h0, .inr (17, [.ref lp, .null, .null, .int 0, .int 0, .ref m1, .ref m2, .ref m3, .ref m4, .ref m5, .null, .null, .int 0, .ref m6, .int 0, .int 0, .int 0, .long 0, .null, .ref m7, .ref m8, .int 0, .int 0, .long 0])), (lp, .inr (0, [.int 0, .ref te, .int 0]))] sz)) 0 0 (va_A [(h0, .inr (17, [.ref lp, .null, .null, .int 0, .int 0, .ref m1, .ref m2, .ref m3, .ref m4, .ref m5, .null, .null, .int 0, .ref m6, .int 0, .int 0, .int 0, .long 0, .null, .ref m7, .ref m8, .int 0, .int 0, .long 0])), (lp, .inr (0, [.int 0, .ref te, .int 0]))] sz) := by
  refine Met.ofW (cc := cX16_choose) (maxL := 1) (ret := (some .int)) (by decide) rfl ?_
  intro p e s m args below meth c s₁ B hml hv
  obtain ⟨rfl, hsz, hP, hK, hD0, hG⟩ := hv
  have hx := B.exec
  have hb := B.bytes
  have hr := B.returns
  have hts := atoms_spec (ws := z_M_choose) B.pre
  have hown : s.vm.findClass RX16 = some m.cls := findClass_of_methodNamed B.named
  have hlocks := B.notSynchronized
  subst hsz
  have hD := hD0.self (sz := s.heap.size)
  generalize hAe : va_A [(h0, .inr (17, [.ref lp, .null, .null, .int 0, .int 0, .ref m1, .ref m2, .ref m3, .ref m4, .ref m5, .null, .null, .int 0, .ref m6, .int 0, .int 0, .int 0, .long 0, .null, .ref m7, .ref m8, .int 0, .int 0, .long 0])), (lp, .inr (0, [.int 0, .ref te, .int 0]))] s.heap.size = A at hD hG ⊢
  have hA : ∀ q : Nat, s.heap.size ≤ q → A q := fun q h => by rw [← hAe]; exact Or.inr h
  have hS : va_S A s.heap s.heap [] := va_S.rf
  have hl := lv_entry ([.ref h0]) (n := 1) (Nat.le_of_ble_eq_true rfl)
  rw [lg_entry_eq]
  generalize (lg_sl ([.ref h0]) ++ List.replicate (1 - (lg_sl ([.ref h0])).length) Slot.unset).toArray = ls at hl ⊢
  have hl : lv_has ls 1 [(0, .ref h0)] := hl
  refine lv_aload_n hx hb dX16_choose_0 rfl (lv_at hl 0 rfl) ?_
  refine lv_aload_n hx hb dX16_choose_1 rfl (lv_at hl 0 rfl) ?_
  refine lv_iconst (v := 3) hx hb dX16_choose_2 (by decide) ?_
  have hPc := hP.sub (ws' := [(h0, .inr (17, [.ref lp, .null, .null, .int 0, .int 0, .ref m1, .ref m2, .ref m3, .ref m4, .ref m5, .null, .null, .int 0, .ref m6, .int 0, .int 0, .int 0, .long 0, .null, .ref m7, .ref m8, .int 0, .int 0, .long 0])), (lp, .inr (0, [.int 0, .ref te, .int 0]))]) [0, 1] rfl
  have hDc := hD.sub (ws' := [(h0, .inr (17, [.ref lp, .null, .null, .int 0, .int 0, .ref m1, .ref m2, .ref m3, .ref m4, .ref m5, .null, .null, .int 0, .ref m6, .int 0, .int 0, .int 0, .long 0, .null, .ref m7, .ref m8, .int 0, .int 0, .long 0])), (lp, .inr (0, [.int 0, .ref te, .int 0]))]) [0, 1] (by decide) rfl
  have hKc := hK.sub (tys' := []) [] rfl
  have hFc := va_free (wc := [(h0, .inr (17, [.ref lp, .null, .null, .int 0, .int 0, .ref m1, .ref m2, .ref m3, .ref m4, .ref m5, .null, .null, .int 0, .ref m6, .int 0, .int 0, .int 0, .long 0, .null, .ref m7, .ref m8, .int 0, .int 0, .long 0])), (lp, .inr (0, [.int 0, .ref te, .int 0]))]) hD hS hA [0, 1] rfl
  refine va_calli (va_runV (As := [.int 3]) (rest := [.ref h0]) ⟨hx, hb, hml, hown, hts⟩ (c_fits3 l dC dI tp te s.heap.size h0 lp m1 m2 m3 m4 m5 m6 m7 m8) (cwV 1 hts g_M_choose_3 rfl rfl rfl (by decide +kernel) ⟨Nat.le_of_ble_eq_true rfl, Nat.le_of_ble_eq_true rfl⟩) ⟨Pw.blind, va_recv hKc hPc (ci := 17) (q0 := 0) rfl rfl, Pw.mk hPc hKc hDc hG hS hFc⟩ rfl rfl hl.1 rfl (lv_room (Nat.le_of_ble_eq_true rfl)) dX16_choose_3 ⟨Nat.le_of_ble_eq_true rfl, Nat.le_of_ble_eq_true rfl⟩) hS (fun q _ h => hFc q h) hFc (fun r u t9 H_1 locs ht hvm hw hB hz1 hk1 hS => ?_)
  have hw : r = 0 := hw
  subst hw
  obtain ⟨hP1, hK1, hD1⟩ := hB
  rw [ht] at hP1
  have hK1 := va_K.moved hvm.symm hK1
  obtain ⟨hP, hD⟩ := va_join (wr := []) (w1 := [(h0, .inr (17, [.ref lp, .null, .null, .int 0, .int 0, .ref m1, .ref m2, .ref m3, .ref m4, .ref m5, .null, .null, .int 0, .ref m6, .int 0, .int 0, .int 0, .long 0, .null, .ref m7, .ref m8, .int 0, .int 0, .long 0])), (lp, .inr (0, [.int 0, .ref te, .int 0]))]) hP hD [0, 1] [] rfl rfl (by decide) (by decide) hk1 hFc hP1 hD1
  have hK := (hK.sub (tys' := []) [] rfl).app hK1
  have hP : va_P (dC, dI) vwCl [(h0, .inr (17, [.ref lp, .null, .null, .int 0, .int 0, .ref m1, .ref m2, .ref m3, .ref m4, .ref m5, .null, .null, .int 0, .ref m6, .int 0, .int 0, .int 0, .long 0, .null, .ref m7, .ref m8, .int 0, .int 0, .long 0])), (lp, .inr (0, [.int 0, .ref te, .int 0]))] H_1 := hP
  have hD : va_D A [(h0, .inr (17, [.ref lp, .null, .null, .int 0, .int 0, .ref m1, .ref m2, .ref m3, .ref m4, .ref m5, .null, .null, .int 0, .ref m6, .int 0, .int 0, .int 0, .long 0, .null, .ref m7, .ref m8, .int 0, .int 0, .long 0])), (lp, .inr (0, [.int 0, .ref te, .int 0]))] := hD
  have hK : va_K (dC, dI) vwCl [] s := hK
  refine W.widen (k := 0) (n := 0) (Nat.le_of_ble_eq_true rfl) (Nat.le_of_ble_eq_true rfl) ?_
  refine lv_if_eq (tgt := 13) hx hb dX16_choose_6 (by decide) (fun c9 => ?_) (fun c9 => absurd (by decide) c9)
  refine lv_iconst (v := 1) hx hb dX16_choose_13 (by decide) ?_
  refine va_put (D := (dC, dI)) (ci := 17) (v := .int 1) (ty := .int) (C := RX16) (T := TX16) (N := 24) hx hb hts in_z_M_choose_X16 tyX16 tyX16_ok nmX16 hown hK hP hD hS 0 rfl rfl 4 (by decide) (hts (.fieldLink RX16 40 "SelfkindleModel" "thrown" "I") (List.mem_of_getElem? (i := 13) rfl)) (fun _ h9 => h9) rfl (by decide +kernel) rfl rfl (Nat.le_of_ble_eq_true rfl) dX16_choose_14 (fun H_3 locs hP hD hS => ?_)
  have hP : va_P (dC, dI) vwCl [(h0, .inr (17, [.ref lp, .null, .null, .int 0, .int 1, .ref m1, .ref m2, .ref m3, .ref m4, .ref m5, .null, .null, .int 0, .ref m6, .int 0, .int 0, .int 0, .long 0, .null, .ref m7, .ref m8, .int 0, .int 0, .long 0])), (lp, .inr (0, [.int 0, .ref te, .int 0]))] H_3 := hP
  have hD : va_D A [(h0, .inr (17, [.ref lp, .null, .null, .int 0, .int 1, .ref m1, .ref m2, .ref m3, .ref m4, .ref m5, .null, .null, .int 0, .ref m6, .int 0, .int 0, .int 0, .long 0, .null, .ref m7, .ref m8, .int 0, .int 0, .long 0])), (lp, .inr (0, [.int 0, .ref te, .int 0]))] := hD
  have hK : va_K (dC, dI) vwCl [] s := hK
  refine lv_aload_n hx hb dX16_choose_17 rfl (lv_at hl 0 rfl) ?_
  refine va_get (D := (dC, dI)) (ci := 17) (v := .int 1) (C := RX16) (T := TX16) (N := 24) hx hb hts in_z_M_choose_X16 hown hK hP 0 rfl rfl 4 (by decide) (hts (.fieldLink RX16 40 "SelfkindleModel" "thrown" "I") (List.mem_of_getElem? (i := 13) rfl)) (fun _ h9 => h9) rfl dX16_choose_18 ?_
  refine lv_if_le (tgt := 28) hx hb dX16_choose_21 (by decide) (fun c9 => absurd c9 (by decide)) (fun c9 => ?_)
  refine lv_iconst (v := 0) hx hb dX16_choose_24 (by decide) ?_
  refine lv_goto (tgt := 36) hx hb dX16_choose_25 (by decide) ?_
  have hP := hP.sub (ws' := [(h0, .inr (17, [.ref lp, .null, .null, .int 0, .int 1, .ref m1, .ref m2, .ref m3, .ref m4, .ref m5, .null, .null, .int 0, .ref m6, .int 0, .int 0, .int 0, .long 0, .null, .ref m7, .ref m8, .int 0, .int 0, .long 0]))]) [0] rfl
  have hD := hD.sub (ws' := [(h0, .inr (17, [.ref lp, .null, .null, .int 0, .int 1, .ref m1, .ref m2, .ref m3, .ref m4, .ref m5, .null, .null, .int 0, .ref m6, .int 0, .int 0, .int 0, .long 0, .null, .ref m7, .ref m8, .int 0, .int 0, .long 0]))]) [0] (by decide) rfl
  have hK := hK.sub (tys' := []) [] rfl
  refine W.widen (k := 0) (n := 0) (Nat.le_of_ble_eq_true rfl) (Nat.le_of_ble_eq_true rfl) ?_
  exact W.iret (v := 0) hx hb hr (fun t ht hW => ⟨⟨0, (), rfl, rfl, ⟨by rw [ht]; exact hP, va_K.moved hW.alike hK, hD⟩⟩, hS.F ht⟩) hS.2.2 dX16_choose_36

set_option maxRecDepth 20000 in
def z_M_pair : List Cond := .code yX16_pair cX16_pair 1 (some .int) :: (([.methodLink RX16 78 yX16_fits, .instanceMethod yX16_fits, .selects RX16 yX16_fits yX16_fits, .initialized RX16, .code yX16_fits cX16_fits 5 (some .boolean), .fieldLink RX16 10 "SelfkindleModel" "pile" "Ljava/util/ArrayList;", .methodLink RX16 44 yJx4a65c_size_8abf5, .instanceMethod yJx4a65c_size_8abf5, .selects RJx4a65c yJx4a65c_size_8abf5 yJx4a65c_size_8abf5, .initialized RJx4a65c, .code yJx4a65c_size_8abf5 cJx4a65c_size_8abf5 1 (some .int), .fieldLink RJx4a65c 48 "java/util/ArrayList" "size" "I", .fieldLink RX16 40 "SelfkindleModel" "thrown" "I"] : List Cond) ++ wsX160 ++ wsJx4a65c0)
theorem in_z_M_pair_X16 : ∀ w ∈ wsX160, w ∈ z_M_pair := fun w h => List.mem_cons_of_mem _ (List.mem_append_left _ (List.mem_append_right _ (h)))
theorem in_z_M_pair_Jx4a65c : ∀ w ∈ wsJx4a65c0, w ∈ z_M_pair := fun w h => List.mem_cons_of_mem _ (List.mem_append_right _ (h))
set_option maxRecDepth 20000 in
theorem g_M_pair_3 : GoodIn z_M_pair (wsV RX16 78 RX16 yX16_fits z_fits2) := goodIn_p _ [5, 11] rfl (by decide +kernel)
set_option maxHeartbeats 4000000 in
set_option maxRecDepth 100000 in
theorem c_M_pair (l : Launch) (dC : Nat → ClassId) (dI : Nat → Nat → Nat) (tp te : Nat) (sz : Nat) (h0 : Nat) (lp : Nat) (m1 : Nat) (m2 : Nat) (m3 : Nat) (m4 : Nat) (m5 : Nat) (m6 : Nat) (m7 : Nat) (m8 : Nat)  : Met l yX16_pair z_M_pair ({ frames := 2, cells := 0, slots := 0, locals := 44 }) (va_Pc [.ref h0] (Pw dC dI [(h0, .inr (17, [.ref lp, .null, .null, .int 0, .int 0, .ref m1, .ref m2, .ref m3, .ref m4, .ref m5, .null, .null, .int 0, .ref m6, .int 0, .int 0, .int 0, .long 0, .null, .ref m7, .ref m8, .int 0, .int 0, .long 0])), (lp, .inr (0, [.int 0, .ref te, .int 0]))] [] sz tp te)) (va_Qi (fun (r : Int32) (_ : Unit) => r = 0) (fun (_ : Unit) (t : State) => Bw dC dI [(h0, .inr (17, [.ref lp, .null, .null, .int 0, .int 1, .ref m1, .ref m2, .ref m3, .ref m4, .ref m5, .null, .null, .int 0, .ref m6, .int 0, .int 0, .int 0, .long 0, .null, .ref m7, .ref m8, .int 0, .int 0, .long 0]))] [] (va_A [(h0, .inr (17, [.ref lp, .null, .null, .int 0, .int 0, .ref m1, .ref m2, .ref m3, .ref m4, .ref m5, .null, .null, .int 0, .ref m6, .int 0, .int 0, .int 0, .long 0, .null, .ref m7, .ref m8, .int 0, .int 0, .long 0])), (lp, .inr (0, [.int 0, .ref te, .int 0]))] sz) t) (va_A [(h0, .inr (17, [.ref lp, .null, .null, .int 0, .int 0, .ref m1, .ref m2, .ref m3, .ref m4, .ref m5, .null, .null, .int 0, .ref m6, .int 0, .int 0, .int 0, .long 0, .null, .ref m7, .ref m8, .int 0, .int 0, .long 0])), (lp, .inr (0, [.int 0, .ref te, .int 0]))] sz)) 0 0 (va_A [(h0, .inr (17, [.ref lp, .null, .null, .int 0, .int 0, .ref m1, .ref m2, .ref m3, .ref m4, .ref m5, .null, .null, .int 0, .ref m6, .int 0, .int 0, .int 0, .long 0, .null, .ref m7, .ref m8, .int 0, .int 0, .long 0])), (lp, .inr (0, [.int 0, .ref te, .int 0]))] sz) := by
  refine Met.ofW (cc := cX16_pair) (maxL := 1) (ret := (some .int)) (by decide) rfl ?_
  intro p e s m args below meth c s₁ B hml hv
  obtain ⟨rfl, hsz, hP, hK, hD0, hG⟩ := hv
  have hx := B.exec
  have hb := B.bytes
  have hr := B.returns
  have hts := atoms_spec (ws := z_M_pair) B.pre
  have hown : s.vm.findClass RX16 = some m.cls := findClass_of_methodNamed B.named
  have hlocks := B.notSynchronized
  subst hsz
  have hD := hD0.self (sz := s.heap.size)
  generalize hAe : va_A [(h0, .inr (17, [.ref lp, .null, .null, .int 0, .int 0, .ref m1, .ref m2, .ref m3, .ref m4, .ref m5, .null, .null, .int 0, .ref m6, .int 0, .int 0, .int 0, .long 0, .null, .ref m7, .ref m8, .int 0, .int 0, .long 0])), (lp, .inr (0, [.int 0, .ref te, .int 0]))] s.heap.size = A at hD hG ⊢
  have hA : ∀ q : Nat, s.heap.size ≤ q → A q := fun q h => by rw [← hAe]; exact Or.inr h
  have hS : va_S A s.heap s.heap [] := va_S.rf
  have hl := lv_entry ([.ref h0]) (n := 1) (Nat.le_of_ble_eq_true rfl)
  rw [lg_entry_eq]
  generalize (lg_sl ([.ref h0]) ++ List.replicate (1 - (lg_sl ([.ref h0])).length) Slot.unset).toArray = ls at hl ⊢
  have hl : lv_has ls 1 [(0, .ref h0)] := hl
  refine lv_aload_n hx hb dX16_pair_0 rfl (lv_at hl 0 rfl) ?_
  refine lv_aload_n hx hb dX16_pair_1 rfl (lv_at hl 0 rfl) ?_
  refine lv_iconst (v := 2) hx hb dX16_pair_2 (by decide) ?_
  have hPc := hP.sub (ws' := [(h0, .inr (17, [.ref lp, .null, .null, .int 0, .int 0, .ref m1, .ref m2, .ref m3, .ref m4, .ref m5, .null, .null, .int 0, .ref m6, .int 0, .int 0, .int 0, .long 0, .null, .ref m7, .ref m8, .int 0, .int 0, .long 0])), (lp, .inr (0, [.int 0, .ref te, .int 0]))]) [0, 1] rfl
  have hDc := hD.sub (ws' := [(h0, .inr (17, [.ref lp, .null, .null, .int 0, .int 0, .ref m1, .ref m2, .ref m3, .ref m4, .ref m5, .null, .null, .int 0, .ref m6, .int 0, .int 0, .int 0, .long 0, .null, .ref m7, .ref m8, .int 0, .int 0, .long 0])), (lp, .inr (0, [.int 0, .ref te, .int 0]))]) [0, 1] (by decide) rfl
  have hKc := hK.sub (tys' := []) [] rfl
  have hFc := va_free (wc := [(h0, .inr (17, [.ref lp, .null, .null, .int 0, .int 0, .ref m1, .ref m2, .ref m3, .ref m4, .ref m5, .null, .null, .int 0, .ref m6, .int 0, .int 0, .int 0, .long 0, .null, .ref m7, .ref m8, .int 0, .int 0, .long 0])), (lp, .inr (0, [.int 0, .ref te, .int 0]))]) hD hS hA [0, 1] rfl
  refine va_calli (va_runV (As := [.int 2]) (rest := [.ref h0]) ⟨hx, hb, hml, hown, hts⟩ (c_fits2 l dC dI tp te s.heap.size h0 lp m1 m2 m3 m4 m5 m6 m7 m8) (cwV 1 hts g_M_pair_3 rfl rfl rfl (by decide +kernel) ⟨Nat.le_of_ble_eq_true rfl, Nat.le_of_ble_eq_true rfl⟩) ⟨Pw.blind, va_recv hKc hPc (ci := 17) (q0 := 0) rfl rfl, Pw.mk hPc hKc hDc hG hS hFc⟩ rfl rfl hl.1 rfl (lv_room (Nat.le_of_ble_eq_true rfl)) dX16_pair_3 ⟨Nat.le_of_ble_eq_true rfl, Nat.le_of_ble_eq_true rfl⟩) hS (fun q _ h => hFc q h) hFc (fun r u t9 H_1 locs ht hvm hw hB hz1 hk1 hS => ?_)
  have hw : r = 0 := hw
  subst hw
  obtain ⟨hP1, hK1, hD1⟩ := hB
  rw [ht] at hP1
  have hK1 := va_K.moved hvm.symm hK1
  obtain ⟨hP, hD⟩ := va_join (wr := []) (w1 := [(h0, .inr (17, [.ref lp, .null, .null, .int 0, .int 0, .ref m1, .ref m2, .ref m3, .ref m4, .ref m5, .null, .null, .int 0, .ref m6, .int 0, .int 0, .int 0, .long 0, .null, .ref m7, .ref m8, .int 0, .int 0, .long 0])), (lp, .inr (0, [.int 0, .ref te, .int 0]))]) hP hD [0, 1] [] rfl rfl (by decide) (by decide) hk1 hFc hP1 hD1
  have hK := (hK.sub (tys' := []) [] rfl).app hK1
  have hP : va_P (dC, dI) vwCl [(h0, .inr (17, [.ref lp, .null, .null, .int 0, .int 0, .ref m1, .ref m2, .ref m3, .ref m4, .ref m5, .null, .null, .int 0, .ref m6, .int 0, .int 0, .int 0, .long 0, .null, .ref m7, .ref m8, .int 0, .int 0, .long 0])), (lp, .inr (0, [.int 0, .ref te, .int 0]))] H_1 := hP
  have hD : va_D A [(h0, .inr (17, [.ref lp, .null, .null, .int 0, .int 0, .ref m1, .ref m2, .ref m3, .ref m4, .ref m5, .null, .null, .int 0, .ref m6, .int 0, .int 0, .int 0, .long 0, .null, .ref m7, .ref m8, .int 0, .int 0, .long 0])), (lp, .inr (0, [.int 0, .ref te, .int 0]))] := hD
  have hK : va_K (dC, dI) vwCl [] s := hK
  refine W.widen (k := 0) (n := 0) (Nat.le_of_ble_eq_true rfl) (Nat.le_of_ble_eq_true rfl) ?_
  refine lv_if_eq (tgt := 13) hx hb dX16_pair_6 (by decide) (fun c9 => ?_) (fun c9 => absurd (by decide) c9)
  refine lv_iconst (v := 1) hx hb dX16_pair_13 (by decide) ?_
  refine va_put (D := (dC, dI)) (ci := 17) (v := .int 1) (ty := .int) (C := RX16) (T := TX16) (N := 24) hx hb hts in_z_M_pair_X16 tyX16 tyX16_ok nmX16 hown hK hP hD hS 0 rfl rfl 4 (by decide) (hts (.fieldLink RX16 40 "SelfkindleModel" "thrown" "I") (List.mem_of_getElem? (i := 13) rfl)) (fun _ h9 => h9) rfl (by decide +kernel) rfl rfl (Nat.le_of_ble_eq_true rfl) dX16_pair_14 (fun H_3 locs hP hD hS => ?_)
  have hP : va_P (dC, dI) vwCl [(h0, .inr (17, [.ref lp, .null, .null, .int 0, .int 1, .ref m1, .ref m2, .ref m3, .ref m4, .ref m5, .null, .null, .int 0, .ref m6, .int 0, .int 0, .int 0, .long 0, .null, .ref m7, .ref m8, .int 0, .int 0, .long 0])), (lp, .inr (0, [.int 0, .ref te, .int 0]))] H_3 := hP
  have hD : va_D A [(h0, .inr (17, [.ref lp, .null, .null, .int 0, .int 1, .ref m1, .ref m2, .ref m3, .ref m4, .ref m5, .null, .null, .int 0, .ref m6, .int 0, .int 0, .int 0, .long 0, .null, .ref m7, .ref m8, .int 0, .int 0, .long 0])), (lp, .inr (0, [.int 0, .ref te, .int 0]))] := hD
  have hK : va_K (dC, dI) vwCl [] s := hK
  refine lv_aload_n hx hb dX16_pair_17 rfl (lv_at hl 0 rfl) ?_
  refine va_get (D := (dC, dI)) (ci := 17) (v := .int 1) (C := RX16) (T := TX16) (N := 24) hx hb hts in_z_M_pair_X16 hown hK hP 0 rfl rfl 4 (by decide) (hts (.fieldLink RX16 40 "SelfkindleModel" "thrown" "I") (List.mem_of_getElem? (i := 13) rfl)) (fun _ h9 => h9) rfl dX16_pair_18 ?_
  refine lv_if_le (tgt := 28) hx hb dX16_pair_21 (by decide) (fun c9 => absurd c9 (by decide)) (fun c9 => ?_)
  refine lv_iconst (v := 0) hx hb dX16_pair_24 (by decide) ?_
  refine lv_goto (tgt := 37) hx hb dX16_pair_25 (by decide) ?_
  have hP := hP.sub (ws' := [(h0, .inr (17, [.ref lp, .null, .null, .int 0, .int 1, .ref m1, .ref m2, .ref m3, .ref m4, .ref m5, .null, .null, .int 0, .ref m6, .int 0, .int 0, .int 0, .long 0, .null, .ref m7, .ref m8, .int 0, .int 0, .long 0]))]) [0] rfl
  have hD := hD.sub (ws' := [(h0, .inr (17, [.ref lp, .null, .null, .int 0, .int 1, .ref m1, .ref m2, .ref m3, .ref m4, .ref m5, .null, .null, .int 0, .ref m6, .int 0, .int 0, .int 0, .long 0, .null, .ref m7, .ref m8, .int 0, .int 0, .long 0]))]) [0] (by decide) rfl
  have hK := hK.sub (tys' := []) [] rfl
  refine W.widen (k := 0) (n := 0) (Nat.le_of_ble_eq_true rfl) (Nat.le_of_ble_eq_true rfl) ?_
  exact W.iret (v := 0) hx hb hr (fun t ht hW => ⟨⟨0, (), rfl, rfl, ⟨by rw [ht]; exact hP, va_K.moved hW.alike hK, hD⟩⟩, hS.F ht⟩) hS.2.2 dX16_pair_37

set_option maxRecDepth 20000 in
def z_M_raise : List Cond := .code yX16_raise cX16_raise 1 (some .int) :: (([.methodLink RX16 78 yX16_fits, .instanceMethod yX16_fits, .selects RX16 yX16_fits yX16_fits, .initialized RX16, .code yX16_fits cX16_fits 5 (some .boolean), .fieldLink RX16 10 "SelfkindleModel" "pile" "Ljava/util/ArrayList;", .methodLink RX16 44 yJx4a65c_size_8abf5, .instanceMethod yJx4a65c_size_8abf5, .selects RJx4a65c yJx4a65c_size_8abf5 yJx4a65c_size_8abf5, .initialized RJx4a65c, .code yJx4a65c_size_8abf5 cJx4a65c_size_8abf5 1 (some .int), .fieldLink RJx4a65c 48 "java/util/ArrayList" "size" "I", .fieldLink RX16 40 "SelfkindleModel" "thrown" "I"] : List Cond) ++ wsX160 ++ wsJx4a65c0)
theorem in_z_M_raise_X16 : ∀ w ∈ wsX160, w ∈ z_M_raise := fun w h => List.mem_cons_of_mem _ (List.mem_append_left _ (List.mem_append_right _ (h)))
theorem in_z_M_raise_Jx4a65c : ∀ w ∈ wsJx4a65c0, w ∈ z_M_raise := fun w h => List.mem_cons_of_mem _ (List.mem_append_right _ (h))
set_option maxRecDepth 20000 in
theorem g_M_raise_3 : GoodIn z_M_raise (wsV RX16 78 RX16 yX16_fits z_fits1) := goodIn_p _ [5, 11] rfl (by decide +kernel)
set_option maxHeartbeats 4000000 in
set_option maxRecDepth 100000 in
theorem c_M_raise (l : Launch) (dC : Nat → ClassId) (dI : Nat → Nat → Nat) (tp te : Nat) (sz : Nat) (h0 : Nat) (lp : Nat) (m1 : Nat) (m2 : Nat) (m3 : Nat) (m4 : Nat) (m5 : Nat) (m6 : Nat) (m7 : Nat) (m8 : Nat)  : Met l yX16_raise z_M_raise ({ frames := 2, cells := 0, slots := 0, locals := 44 }) (va_Pc [.ref h0] (Pw dC dI [(h0, .inr (17, [.ref lp, .null, .null, .int 0, .int 0, .ref m1, .ref m2, .ref m3, .ref m4, .ref m5, .null, .null, .int 0, .ref m6, .int 0, .int 0, .int 0, .long 0, .null, .ref m7, .ref m8, .int 0, .int 0, .long 0])), (lp, .inr (0, [.int 0, .ref te, .int 0]))] [] sz tp te)) (va_Qi (fun (r : Int32) (_ : Unit) => r = 0) (fun (_ : Unit) (t : State) => Bw dC dI [(h0, .inr (17, [.ref lp, .null, .null, .int 0, .int 1, .ref m1, .ref m2, .ref m3, .ref m4, .ref m5, .null, .null, .int 0, .ref m6, .int 0, .int 0, .int 0, .long 0, .null, .ref m7, .ref m8, .int 0, .int 0, .long 0]))] [] (va_A [(h0, .inr (17, [.ref lp, .null, .null, .int 0, .int 0, .ref m1, .ref m2, .ref m3, .ref m4, .ref m5, .null, .null, .int 0, .ref m6, .int 0, .int 0, .int 0, .long 0, .null, .ref m7, .ref m8, .int 0, .int 0, .long 0])), (lp, .inr (0, [.int 0, .ref te, .int 0]))] sz) t) (va_A [(h0, .inr (17, [.ref lp, .null, .null, .int 0, .int 0, .ref m1, .ref m2, .ref m3, .ref m4, .ref m5, .null, .null, .int 0, .ref m6, .int 0, .int 0, .int 0, .long 0, .null, .ref m7, .ref m8, .int 0, .int 0, .long 0])), (lp, .inr (0, [.int 0, .ref te, .int 0]))] sz)) 0 0 (va_A [(h0, .inr (17, [.ref lp, .null, .null, .int 0, .int 0, .ref m1, .ref m2, .ref m3, .ref m4, .ref m5, .null, .null, .int 0, .ref m6, .int 0, .int 0, .int 0, .long 0, .null, .ref m7, .ref m8, .int 0, .int 0, .long 0])), (lp, .inr (0, [.int 0, .ref te, .int 0]))] sz) := by
  refine Met.ofW (cc := cX16_raise) (maxL := 1) (ret := (some .int)) (by decide) rfl ?_
  intro p e s m args below meth c s₁ B hml hv
  obtain ⟨rfl, hsz, hP, hK, hD0, hG⟩ := hv
  have hx := B.exec
  have hb := B.bytes
  have hr := B.returns
  have hts := atoms_spec (ws := z_M_raise) B.pre
  have hown : s.vm.findClass RX16 = some m.cls := findClass_of_methodNamed B.named
  have hlocks := B.notSynchronized
  subst hsz
  have hD := hD0.self (sz := s.heap.size)
  generalize hAe : va_A [(h0, .inr (17, [.ref lp, .null, .null, .int 0, .int 0, .ref m1, .ref m2, .ref m3, .ref m4, .ref m5, .null, .null, .int 0, .ref m6, .int 0, .int 0, .int 0, .long 0, .null, .ref m7, .ref m8, .int 0, .int 0, .long 0])), (lp, .inr (0, [.int 0, .ref te, .int 0]))] s.heap.size = A at hD hG ⊢
  have hA : ∀ q : Nat, s.heap.size ≤ q → A q := fun q h => by rw [← hAe]; exact Or.inr h
  have hS : va_S A s.heap s.heap [] := va_S.rf
  have hl := lv_entry ([.ref h0]) (n := 1) (Nat.le_of_ble_eq_true rfl)
  rw [lg_entry_eq]
  generalize (lg_sl ([.ref h0]) ++ List.replicate (1 - (lg_sl ([.ref h0])).length) Slot.unset).toArray = ls at hl ⊢
  have hl : lv_has ls 1 [(0, .ref h0)] := hl
  refine lv_aload_n hx hb dX16_raise_0 rfl (lv_at hl 0 rfl) ?_
  refine lv_aload_n hx hb dX16_raise_1 rfl (lv_at hl 0 rfl) ?_
  refine lv_iconst (v := 1) hx hb dX16_raise_2 (by decide) ?_
  have hPc := hP.sub (ws' := [(h0, .inr (17, [.ref lp, .null, .null, .int 0, .int 0, .ref m1, .ref m2, .ref m3, .ref m4, .ref m5, .null, .null, .int 0, .ref m6, .int 0, .int 0, .int 0, .long 0, .null, .ref m7, .ref m8, .int 0, .int 0, .long 0])), (lp, .inr (0, [.int 0, .ref te, .int 0]))]) [0, 1] rfl
  have hDc := hD.sub (ws' := [(h0, .inr (17, [.ref lp, .null, .null, .int 0, .int 0, .ref m1, .ref m2, .ref m3, .ref m4, .ref m5, .null, .null, .int 0, .ref m6, .int 0, .int 0, .int 0, .long 0, .null, .ref m7, .ref m8, .int 0, .int 0, .long 0])), (lp, .inr (0, [.int 0, .ref te, .int 0]))]) [0, 1] (by decide) rfl
  have hKc := hK.sub (tys' := []) [] rfl
  have hFc := va_free (wc := [(h0, .inr (17, [.ref lp, .null, .null, .int 0, .int 0, .ref m1, .ref m2, .ref m3, .ref m4, .ref m5, .null, .null, .int 0, .ref m6, .int 0, .int 0, .int 0, .long 0, .null, .ref m7, .ref m8, .int 0, .int 0, .long 0])), (lp, .inr (0, [.int 0, .ref te, .int 0]))]) hD hS hA [0, 1] rfl
  refine va_calli (va_runV (As := [.int 1]) (rest := [.ref h0]) ⟨hx, hb, hml, hown, hts⟩ (c_fits1 l dC dI tp te s.heap.size h0 lp m1 m2 m3 m4 m5 m6 m7 m8) (cwV 1 hts g_M_raise_3 rfl rfl rfl (by decide +kernel) ⟨Nat.le_of_ble_eq_true rfl, Nat.le_of_ble_eq_true rfl⟩) ⟨Pw.blind, va_recv hKc hPc (ci := 17) (q0 := 0) rfl rfl, Pw.mk hPc hKc hDc hG hS hFc⟩ rfl rfl hl.1 rfl (lv_room (Nat.le_of_ble_eq_true rfl)) dX16_raise_3 ⟨Nat.le_of_ble_eq_true rfl, Nat.le_of_ble_eq_true rfl⟩) hS (fun q _ h => hFc q h) hFc (fun r u t9 H_1 locs ht hvm hw hB hz1 hk1 hS => ?_)
  have hw : r = 0 := hw
  subst hw
  obtain ⟨hP1, hK1, hD1⟩ := hB
  rw [ht] at hP1
  have hK1 := va_K.moved hvm.symm hK1
  obtain ⟨hP, hD⟩ := va_join (wr := []) (w1 := [(h0, .inr (17, [.ref lp, .null, .null, .int 0, .int 0, .ref m1, .ref m2, .ref m3, .ref m4, .ref m5, .null, .null, .int 0, .ref m6, .int 0, .int 0, .int 0, .long 0, .null, .ref m7, .ref m8, .int 0, .int 0, .long 0])), (lp, .inr (0, [.int 0, .ref te, .int 0]))]) hP hD [0, 1] [] rfl rfl (by decide) (by decide) hk1 hFc hP1 hD1
  have hK := (hK.sub (tys' := []) [] rfl).app hK1
  have hP : va_P (dC, dI) vwCl [(h0, .inr (17, [.ref lp, .null, .null, .int 0, .int 0, .ref m1, .ref m2, .ref m3, .ref m4, .ref m5, .null, .null, .int 0, .ref m6, .int 0, .int 0, .int 0, .long 0, .null, .ref m7, .ref m8, .int 0, .int 0, .long 0])), (lp, .inr (0, [.int 0, .ref te, .int 0]))] H_1 := hP
  have hD : va_D A [(h0, .inr (17, [.ref lp, .null, .null, .int 0, .int 0, .ref m1, .ref m2, .ref m3, .ref m4, .ref m5, .null, .null, .int 0, .ref m6, .int 0, .int 0, .int 0, .long 0, .null, .ref m7, .ref m8, .int 0, .int 0, .long 0])), (lp, .inr (0, [.int 0, .ref te, .int 0]))] := hD
  have hK : va_K (dC, dI) vwCl [] s := hK
  refine W.widen (k := 0) (n := 0) (Nat.le_of_ble_eq_true rfl) (Nat.le_of_ble_eq_true rfl) ?_
  refine lv_if_eq (tgt := 13) hx hb dX16_raise_6 (by decide) (fun c9 => ?_) (fun c9 => absurd (by decide) c9)
  refine lv_iconst (v := 1) hx hb dX16_raise_13 (by decide) ?_
  refine va_put (D := (dC, dI)) (ci := 17) (v := .int 1) (ty := .int) (C := RX16) (T := TX16) (N := 24) hx hb hts in_z_M_raise_X16 tyX16 tyX16_ok nmX16 hown hK hP hD hS 0 rfl rfl 4 (by decide) (hts (.fieldLink RX16 40 "SelfkindleModel" "thrown" "I") (List.mem_of_getElem? (i := 13) rfl)) (fun _ h9 => h9) rfl (by decide +kernel) rfl rfl (Nat.le_of_ble_eq_true rfl) dX16_raise_14 (fun H_3 locs hP hD hS => ?_)
  have hP : va_P (dC, dI) vwCl [(h0, .inr (17, [.ref lp, .null, .null, .int 0, .int 1, .ref m1, .ref m2, .ref m3, .ref m4, .ref m5, .null, .null, .int 0, .ref m6, .int 0, .int 0, .int 0, .long 0, .null, .ref m7, .ref m8, .int 0, .int 0, .long 0])), (lp, .inr (0, [.int 0, .ref te, .int 0]))] H_3 := hP
  have hD : va_D A [(h0, .inr (17, [.ref lp, .null, .null, .int 0, .int 1, .ref m1, .ref m2, .ref m3, .ref m4, .ref m5, .null, .null, .int 0, .ref m6, .int 0, .int 0, .int 0, .long 0, .null, .ref m7, .ref m8, .int 0, .int 0, .long 0])), (lp, .inr (0, [.int 0, .ref te, .int 0]))] := hD
  have hK : va_K (dC, dI) vwCl [] s := hK
  refine lv_aload_n hx hb dX16_raise_17 rfl (lv_at hl 0 rfl) ?_
  refine va_get (D := (dC, dI)) (ci := 17) (v := .int 1) (C := RX16) (T := TX16) (N := 24) hx hb hts in_z_M_raise_X16 hown hK hP 0 rfl rfl 4 (by decide) (hts (.fieldLink RX16 40 "SelfkindleModel" "thrown" "I") (List.mem_of_getElem? (i := 13) rfl)) (fun _ h9 => h9) rfl dX16_raise_18 ?_
  refine lv_if_le (tgt := 28) hx hb dX16_raise_21 (by decide) (fun c9 => absurd c9 (by decide)) (fun c9 => ?_)
  refine lv_iconst (v := 0) hx hb dX16_raise_24 (by decide) ?_
  refine lv_goto (tgt := 37) hx hb dX16_raise_25 (by decide) ?_
  have hP := hP.sub (ws' := [(h0, .inr (17, [.ref lp, .null, .null, .int 0, .int 1, .ref m1, .ref m2, .ref m3, .ref m4, .ref m5, .null, .null, .int 0, .ref m6, .int 0, .int 0, .int 0, .long 0, .null, .ref m7, .ref m8, .int 0, .int 0, .long 0]))]) [0] rfl
  have hD := hD.sub (ws' := [(h0, .inr (17, [.ref lp, .null, .null, .int 0, .int 1, .ref m1, .ref m2, .ref m3, .ref m4, .ref m5, .null, .null, .int 0, .ref m6, .int 0, .int 0, .int 0, .long 0, .null, .ref m7, .ref m8, .int 0, .int 0, .long 0]))]) [0] (by decide) rfl
  have hK := hK.sub (tys' := []) [] rfl
  refine W.widen (k := 0) (n := 0) (Nat.le_of_ble_eq_true rfl) (Nat.le_of_ble_eq_true rfl) ?_
  exact W.iret (v := 0) hx hb hr (fun t ht hW => ⟨⟨0, (), rfl, rfl, ⟨by rw [ht]; exact hP, va_K.moved hW.alike hK, hD⟩⟩, hS.F ht⟩) hS.2.2 dX16_raise_37

set_option maxRecDepth 20000 in
def z_M_program : List Cond := .code yX16_program cX16_program 1 (some .int) :: (([.fieldLink RX16 10 "SelfkindleModel" "pile" "Ljava/util/ArrayList;", .methodLink RX16 85 yJx4a65c_isEmpty_aae02, .instanceMethod yJx4a65c_isEmpty_aae02, .selects RJx4a65c yJx4a65c_isEmpty_aae02 yJx4a65c_isEmpty_aae02, .initialized RJx4a65c, .code yJx4a65c_isEmpty_aae02 cJx4a65c_isEmpty_aae02 1 (some .boolean), .fieldLink RJx4a65c 48 "java/util/ArrayList" "size" "I", .fieldLink RX16 40 "SelfkindleModel" "thrown" "I"] : List Cond) ++ wsX160 ++ wsJx4a65c0)
theorem in_z_M_program_X16 : ∀ w ∈ wsX160, w ∈ z_M_program := fun w h => List.mem_cons_of_mem _ (List.mem_append_left _ (List.mem_append_right _ (h)))
theorem in_z_M_program_Jx4a65c : ∀ w ∈ wsJx4a65c0, w ∈ z_M_program := fun w h => List.mem_cons_of_mem _ (List.mem_append_right _ (h))
set_option maxRecDepth 20000 in
theorem g_M_program_5 : GoodIn z_M_program (wsV RX16 85 RJx4a65c yJx4a65c_isEmpty_aae02 z_AEm) := goodIn_p _ [6] rfl (by decide +kernel)
set_option maxHeartbeats 4000000 in
set_option maxRecDepth 100000 in
theorem c_M_program (l : Launch) (dC : Nat → ClassId) (dI : Nat → Nat → Nat) (tp te : Nat) (sz : Nat) (h0 : Nat) (lp : Nat) (m1 : Nat) (m2 : Nat) (m3 : Nat) (m4 : Nat) (m5 : Nat) (m6 : Nat) (m7 : Nat) (m8 : Nat)  : Met l yX16_program z_M_program ({ frames := 1, cells := 0, slots := 0, locals := 20 }) (va_Pc [.ref h0] (Pw dC dI [(h0, .inr (17, [.ref lp, .null, .null, .int 0, .int 0, .ref m1, .ref m2, .ref m3, .ref m4, .ref m5, .null, .null, .int 0, .ref m6, .int 0, .int 0, .int 0, .long 0, .null, .ref m7, .ref m8, .int 0, .int 0, .long 0])), (lp, .inr (0, [.int 0, .ref te, .int 0]))] [] sz tp te)) (va_Qi (fun (r : Int32) (_ : Unit) => r = 0) (fun (_ : Unit) (t : State) => Bw dC dI [(h0, .inr (17, [.ref lp, .null, .null, .int 0, .int 1, .ref m1, .ref m2, .ref m3, .ref m4, .ref m5, .null, .null, .int 0, .ref m6, .int 0, .int 0, .int 0, .long 0, .null, .ref m7, .ref m8, .int 0, .int 0, .long 0]))] [] (va_A [(h0, .inr (17, [.ref lp, .null, .null, .int 0, .int 0, .ref m1, .ref m2, .ref m3, .ref m4, .ref m5, .null, .null, .int 0, .ref m6, .int 0, .int 0, .int 0, .long 0, .null, .ref m7, .ref m8, .int 0, .int 0, .long 0])), (lp, .inr (0, [.int 0, .ref te, .int 0]))] sz) t) (va_A [(h0, .inr (17, [.ref lp, .null, .null, .int 0, .int 0, .ref m1, .ref m2, .ref m3, .ref m4, .ref m5, .null, .null, .int 0, .ref m6, .int 0, .int 0, .int 0, .long 0, .null, .ref m7, .ref m8, .int 0, .int 0, .long 0])), (lp, .inr (0, [.int 0, .ref te, .int 0]))] sz)) 0 0 (va_A [(h0, .inr (17, [.ref lp, .null, .null, .int 0, .int 0, .ref m1, .ref m2, .ref m3, .ref m4, .ref m5, .null, .null, .int 0, .ref m6, .int 0, .int 0, .int 0, .long 0, .null, .ref m7, .ref m8, .int 0, .int 0, .long 0])), (lp, .inr (0, [.int 0, .ref te, .int 0]))] sz) := by
  refine Met.ofW (cc := cX16_program) (maxL := 1) (ret := (some .int)) (by decide) rfl ?_
  intro p e s m args below meth c s₁ B hml hv
  obtain ⟨rfl, hsz, hP, hK, hD0, hG⟩ := hv
  have hx := B.exec
  have hb := B.bytes
  have hr := B.returns
  have hts := atoms_spec (ws := z_M_program) B.pre
  have hown : s.vm.findClass RX16 = some m.cls := findClass_of_methodNamed B.named
  have hlocks := B.notSynchronized
  subst hsz
  have hD := hD0.self (sz := s.heap.size)
  generalize hAe : va_A [(h0, .inr (17, [.ref lp, .null, .null, .int 0, .int 0, .ref m1, .ref m2, .ref m3, .ref m4, .ref m5, .null, .null, .int 0, .ref m6, .int 0, .int 0, .int 0, .long 0, .null, .ref m7, .ref m8, .int 0, .int 0, .long 0])), (lp, .inr (0, [.int 0, .ref te, .int 0]))] s.heap.size = A at hD hG ⊢
  have hA : ∀ q : Nat, s.heap.size ≤ q → A q := fun q h => by rw [← hAe]; exact Or.inr h
  have hS : va_S A s.heap s.heap [] := va_S.rf
  have hl := lv_entry ([.ref h0]) (n := 1) (Nat.le_of_ble_eq_true rfl)
  rw [lg_entry_eq]
  generalize (lg_sl ([.ref h0]) ++ List.replicate (1 - (lg_sl ([.ref h0])).length) Slot.unset).toArray = ls at hl ⊢
  have hl : lv_has ls 1 [(0, .ref h0)] := hl
  refine lv_aload_n hx hb dX16_program_0 rfl (lv_at hl 0 rfl) ?_
  refine lv_aload_n hx hb dX16_program_1 rfl (lv_at hl 0 rfl) ?_
  refine va_get (D := (dC, dI)) (ci := 17) (v := .ref lp) (C := RX16) (T := TX16) (N := 24) hx hb hts in_z_M_program_X16 hown hK hP 0 rfl rfl 0 (by decide) (hts (.fieldLink RX16 10 "SelfkindleModel" "pile" "Ljava/util/ArrayList;") (List.mem_of_getElem? (i := 1) rfl)) (fun _ h9 => h9) rfl dX16_program_2 ?_
  have hPc := hP.sub (ws' := [(lp, .inr (0, [.int 0, .ref te, .int 0]))]) [1] rfl
  have hDc := hD.sub (ws' := [(lp, .inr (0, [.int 0, .ref te, .int 0]))]) [1] (by decide) rfl
  have hKc := hK.sub (tys' := []) [] rfl
  have hFc := va_free (wc := [(lp, .inr (0, [.int 0, .ref te, .int 0]))]) hD hS hA [1] rfl
  refine va_calli (va_runV (As := []) (rest := [.ref h0]) ⟨hx, hb, hml, hown, hts⟩ (c_AEm l dC dI tp te s.heap.size lp) (cwV 0 hts g_M_program_5 rfl rfl rfl (by decide +kernel) ⟨Nat.le_of_ble_eq_true rfl, Nat.le_of_ble_eq_true rfl⟩) ⟨Pw.blind, va_recv hKc hPc (ci := 0) (q0 := 0) rfl rfl, Pw.mk hPc hKc hDc hG hS hFc⟩ rfl rfl hl.1 rfl (lv_room (Nat.le_of_ble_eq_true rfl)) dX16_program_5 ⟨Nat.le_of_ble_eq_true rfl, Nat.le_of_ble_eq_true rfl⟩) hS (fun q _ h => hFc q h) hFc (fun r u t9 H_1 locs ht hvm hw hB hz1 hk1 hS => ?_)
  have hw : r = 1 := hw
  subst hw
  obtain ⟨hP1, hK1, hD1⟩ := hB
  rw [ht] at hP1
  have hK1 := va_K.moved hvm.symm hK1
  obtain ⟨hP, hD⟩ := va_join (wr := [(h0, .inr (17, [.ref lp, .null, .null, .int 0, .int 0, .ref m1, .ref m2, .ref m3, .ref m4, .ref m5, .null, .null, .int 0, .ref m6, .int 0, .int 0, .int 0, .long 0, .null, .ref m7, .ref m8, .int 0, .int 0, .long 0]))]) (w1 := [(lp, .inr (0, [.int 0, .ref te, .int 0]))]) hP hD [1] [0] rfl rfl (by decide) (by decide) hk1 hFc hP1 hD1
  have hK := (hK.sub (tys' := []) [] rfl).app hK1
  have hP : va_P (dC, dI) vwCl [(h0, .inr (17, [.ref lp, .null, .null, .int 0, .int 0, .ref m1, .ref m2, .ref m3, .ref m4, .ref m5, .null, .null, .int 0, .ref m6, .int 0, .int 0, .int 0, .long 0, .null, .ref m7, .ref m8, .int 0, .int 0, .long 0])), (lp, .inr (0, [.int 0, .ref te, .int 0]))] H_1 := hP
  have hD : va_D A [(h0, .inr (17, [.ref lp, .null, .null, .int 0, .int 0, .ref m1, .ref m2, .ref m3, .ref m4, .ref m5, .null, .null, .int 0, .ref m6, .int 0, .int 0, .int 0, .long 0, .null, .ref m7, .ref m8, .int 0, .int 0, .long 0])), (lp, .inr (0, [.int 0, .ref te, .int 0]))] := hD
  have hK : va_K (dC, dI) vwCl [] s := hK
  refine W.widen (k := 0) (n := 0) (Nat.le_of_ble_eq_true rfl) (Nat.le_of_ble_eq_true rfl) ?_
  refine lv_if_eq (tgt := 15) hx hb dX16_program_8 (by decide) (fun c9 => absurd c9 (by decide)) (fun c9 => ?_)
  refine lv_iconst (v := 1) hx hb dX16_program_11 (by decide) ?_
  refine lv_goto (tgt := 16) hx hb dX16_program_12 (by decide) ?_
  refine va_put (D := (dC, dI)) (ci := 17) (v := .int 1) (ty := .int) (C := RX16) (T := TX16) (N := 24) hx hb hts in_z_M_program_X16 tyX16 tyX16_ok nmX16 hown hK hP hD hS 0 rfl rfl 4 (by decide) (hts (.fieldLink RX16 40 "SelfkindleModel" "thrown" "I") (List.mem_of_getElem? (i := 8) rfl)) (fun _ h9 => h9) rfl (by decide +kernel) rfl rfl (Nat.le_of_ble_eq_true rfl) dX16_program_16 (fun H_3 locs hP hD hS => ?_)
  have hP : va_P (dC, dI) vwCl [(h0, .inr (17, [.ref lp, .null, .null, .int 0, .int 1, .ref m1, .ref m2, .ref m3, .ref m4, .ref m5, .null, .null, .int 0, .ref m6, .int 0, .int 0, .int 0, .long 0, .null, .ref m7, .ref m8, .int 0, .int 0, .long 0])), (lp, .inr (0, [.int 0, .ref te, .int 0]))] H_3 := hP
  have hD : va_D A [(h0, .inr (17, [.ref lp, .null, .null, .int 0, .int 1, .ref m1, .ref m2, .ref m3, .ref m4, .ref m5, .null, .null, .int 0, .ref m6, .int 0, .int 0, .int 0, .long 0, .null, .ref m7, .ref m8, .int 0, .int 0, .long 0])), (lp, .inr (0, [.int 0, .ref te, .int 0]))] := hD
  have hK : va_K (dC, dI) vwCl [] s := hK
  refine lv_aload_n hx hb dX16_program_19 rfl (lv_at hl 0 rfl) ?_
  refine va_get (D := (dC, dI)) (ci := 17) (v := .int 1) (C := RX16) (T := TX16) (N := 24) hx hb hts in_z_M_program_X16 hown hK hP 0 rfl rfl 4 (by decide) (hts (.fieldLink RX16 40 "SelfkindleModel" "thrown" "I") (List.mem_of_getElem? (i := 8) rfl)) (fun _ h9 => h9) rfl dX16_program_20 ?_
  refine lv_if_le (tgt := 28) hx hb dX16_program_23 (by decide) (fun c9 => absurd c9 (by decide)) (fun c9 => ?_)
  refine lv_iconst (v := 0) hx hb dX16_program_26 (by decide) ?_
  have hP := hP.sub (ws' := [(h0, .inr (17, [.ref lp, .null, .null, .int 0, .int 1, .ref m1, .ref m2, .ref m3, .ref m4, .ref m5, .null, .null, .int 0, .ref m6, .int 0, .int 0, .int 0, .long 0, .null, .ref m7, .ref m8, .int 0, .int 0, .long 0]))]) [0] rfl
  have hD := hD.sub (ws' := [(h0, .inr (17, [.ref lp, .null, .null, .int 0, .int 1, .ref m1, .ref m2, .ref m3, .ref m4, .ref m5, .null, .null, .int 0, .ref m6, .int 0, .int 0, .int 0, .long 0, .null, .ref m7, .ref m8, .int 0, .int 0, .long 0]))]) [0] (by decide) rfl
  have hK := hK.sub (tys' := []) [] rfl
  refine W.widen (k := 0) (n := 0) (Nat.le_of_ble_eq_true rfl) (Nat.le_of_ble_eq_true rfl) ?_
  exact W.iret (v := 0) hx hb hr (fun t ht hW => ⟨⟨0, (), rfl, rfl, ⟨by rw [ht]; exact hP, va_K.moved hW.alike hK, hD⟩⟩, hS.F ht⟩) hS.2.2 dX16_program_27

set_option maxRecDepth 20000 in
def z_M_fault : List Cond := .code yX16_fault cX16_fault 1 (some .int) :: (([.fieldLink RX16 89 "SelfkindleModel" "told" "LSelfkindleModel$Term;", .fieldLink RX16 40 "SelfkindleModel" "thrown" "I"] : List Cond) ++ wsX160)
theorem in_z_M_fault_X16 : ∀ w ∈ wsX160, w ∈ z_M_fault := fun w h => List.mem_cons_of_mem _ (List.mem_append_right _ (h))
set_option maxHeartbeats 4000000 in
set_option maxRecDepth 100000 in
theorem c_M_fault (l : Launch) (dC : Nat → ClassId) (dI : Nat → Nat → Nat) (tp te : Nat) (sz : Nat) (h0 : Nat) (lp : Nat) (m1 : Nat) (m2 : Nat) (m3 : Nat) (m4 : Nat) (m5 : Nat) (m6 : Nat) (m7 : Nat) (m8 : Nat)  : Met l yX16_fault z_M_fault ({ frames := 0, cells := 0, slots := 0, locals := 0 }) (va_Pc [.ref h0] (Pw dC dI [(h0, .inr (17, [.ref lp, .null, .null, .int 0, .int 0, .ref m1, .ref m2, .ref m3, .ref m4, .ref m5, .null, .null, .int 0, .ref m6, .int 0, .int 0, .int 0, .long 0, .null, .ref m7, .ref m8, .int 0, .int 0, .long 0])), (lp, .inr (0, [.int 0, .ref te, .int 0]))] [] sz tp te)) (va_Qi (fun (r : Int32) (_ : Unit) => r = 0) (fun (_ : Unit) (t : State) => Bw dC dI [(h0, .inr (17, [.ref lp, .null, .null, .int 0, .int 1, .ref m1, .ref m2, .ref m3, .ref m4, .ref m5, .null, .null, .int 0, .ref m6, .int 0, .int 0, .int 0, .long 0, .null, .ref m7, .ref m8, .int 0, .int 0, .long 0]))] [] (va_A [(h0, .inr (17, [.ref lp, .null, .null, .int 0, .int 0, .ref m1, .ref m2, .ref m3, .ref m4, .ref m5, .null, .null, .int 0, .ref m6, .int 0, .int 0, .int 0, .long 0, .null, .ref m7, .ref m8, .int 0, .int 0, .long 0])), (lp, .inr (0, [.int 0, .ref te, .int 0]))] sz) t) (va_A [(h0, .inr (17, [.ref lp, .null, .null, .int 0, .int 0, .ref m1, .ref m2, .ref m3, .ref m4, .ref m5, .null, .null, .int 0, .ref m6, .int 0, .int 0, .int 0, .long 0, .null, .ref m7, .ref m8, .int 0, .int 0, .long 0])), (lp, .inr (0, [.int 0, .ref te, .int 0]))] sz)) 0 0 (va_A [(h0, .inr (17, [.ref lp, .null, .null, .int 0, .int 0, .ref m1, .ref m2, .ref m3, .ref m4, .ref m5, .null, .null, .int 0, .ref m6, .int 0, .int 0, .int 0, .long 0, .null, .ref m7, .ref m8, .int 0, .int 0, .long 0])), (lp, .inr (0, [.int 0, .ref te, .int 0]))] sz) := by
  refine Met.ofW (cc := cX16_fault) (maxL := 1) (ret := (some .int)) (by decide) rfl ?_
  intro p e s m args below meth c s₁ B hml hv
  obtain ⟨rfl, hsz, hP, hK, hD0, hG⟩ := hv
  have hx := B.exec
  have hb := B.bytes
  have hr := B.returns
  have hts := atoms_spec (ws := z_M_fault) B.pre
  have hown : s.vm.findClass RX16 = some m.cls := findClass_of_methodNamed B.named
  have hlocks := B.notSynchronized
  subst hsz
  have hD := hD0.self (sz := s.heap.size)
  generalize hAe : va_A [(h0, .inr (17, [.ref lp, .null, .null, .int 0, .int 0, .ref m1, .ref m2, .ref m3, .ref m4, .ref m5, .null, .null, .int 0, .ref m6, .int 0, .int 0, .int 0, .long 0, .null, .ref m7, .ref m8, .int 0, .int 0, .long 0])), (lp, .inr (0, [.int 0, .ref te, .int 0]))] s.heap.size = A at hD hG ⊢
  have hA : ∀ q : Nat, s.heap.size ≤ q → A q := fun q h => by rw [← hAe]; exact Or.inr h
  have hS : va_S A s.heap s.heap [] := va_S.rf
  have hl := lv_entry ([.ref h0]) (n := 1) (Nat.le_of_ble_eq_true rfl)
  rw [lg_entry_eq]
  generalize (lg_sl ([.ref h0]) ++ List.replicate (1 - (lg_sl ([.ref h0])).length) Slot.unset).toArray = ls at hl ⊢
  have hl : lv_has ls 1 [(0, .ref h0)] := hl
  refine lv_aload_n hx hb dX16_fault_0 rfl (lv_at hl 0 rfl) ?_
  refine lv_aload_n hx hb dX16_fault_1 rfl (lv_at hl 0 rfl) ?_
  refine va_get (D := (dC, dI)) (ci := 17) (v := .null) (C := RX16) (T := TX16) (N := 24) hx hb hts in_z_M_fault_X16 hown hK hP 0 rfl rfl 1 (by decide) (hts (.fieldLink RX16 89 "SelfkindleModel" "told" "LSelfkindleModel$Term;") (List.mem_of_getElem? (i := 1) rfl)) (fun _ h9 => h9) rfl dX16_fault_2 ?_
  refine lv_ifnonnullN hx hb dX16_fault_5 ?_
  refine lv_iconst (v := 1) hx hb dX16_fault_8 (by decide) ?_
  refine lv_goto (tgt := 13) hx hb dX16_fault_9 (by decide) ?_
  refine va_put (D := (dC, dI)) (ci := 17) (v := .int 1) (ty := .int) (C := RX16) (T := TX16) (N := 24) hx hb hts in_z_M_fault_X16 tyX16 tyX16_ok nmX16 hown hK hP hD hS 0 rfl rfl 4 (by decide) (hts (.fieldLink RX16 40 "SelfkindleModel" "thrown" "I") (List.mem_of_getElem? (i := 2) rfl)) (fun _ h9 => h9) rfl (by decide +kernel) rfl rfl (Nat.le_of_ble_eq_true rfl) dX16_fault_13 (fun H_1 locs hP hD hS => ?_)
  have hP : va_P (dC, dI) vwCl [(h0, .inr (17, [.ref lp, .null, .null, .int 0, .int 1, .ref m1, .ref m2, .ref m3, .ref m4, .ref m5, .null, .null, .int 0, .ref m6, .int 0, .int 0, .int 0, .long 0, .null, .ref m7, .ref m8, .int 0, .int 0, .long 0])), (lp, .inr (0, [.int 0, .ref te, .int 0]))] H_1 := hP
  have hD : va_D A [(h0, .inr (17, [.ref lp, .null, .null, .int 0, .int 1, .ref m1, .ref m2, .ref m3, .ref m4, .ref m5, .null, .null, .int 0, .ref m6, .int 0, .int 0, .int 0, .long 0, .null, .ref m7, .ref m8, .int 0, .int 0, .long 0])), (lp, .inr (0, [.int 0, .ref te, .int 0]))] := hD
  have hK : va_K (dC, dI) vwCl [] s := hK
  refine lv_aload_n hx hb dX16_fault_16 rfl (lv_at hl 0 rfl) ?_
  refine va_get (D := (dC, dI)) (ci := 17) (v := .int 1) (C := RX16) (T := TX16) (N := 24) hx hb hts in_z_M_fault_X16 hown hK hP 0 rfl rfl 4 (by decide) (hts (.fieldLink RX16 40 "SelfkindleModel" "thrown" "I") (List.mem_of_getElem? (i := 2) rfl)) (fun _ h9 => h9) rfl dX16_fault_17 ?_
  refine lv_if_le (tgt := 27) hx hb dX16_fault_20 (by decide) (fun c9 => absurd c9 (by decide)) (fun c9 => ?_)
  refine lv_iconst (v := 0) hx hb dX16_fault_23 (by decide) ?_
  refine lv_goto (tgt := 31) hx hb dX16_fault_24 (by decide) ?_
  have hP := hP.sub (ws' := [(h0, .inr (17, [.ref lp, .null, .null, .int 0, .int 1, .ref m1, .ref m2, .ref m3, .ref m4, .ref m5, .null, .null, .int 0, .ref m6, .int 0, .int 0, .int 0, .long 0, .null, .ref m7, .ref m8, .int 0, .int 0, .long 0]))]) [0] rfl
  have hD := hD.sub (ws' := [(h0, .inr (17, [.ref lp, .null, .null, .int 0, .int 1, .ref m1, .ref m2, .ref m3, .ref m4, .ref m5, .null, .null, .int 0, .ref m6, .int 0, .int 0, .int 0, .long 0, .null, .ref m7, .ref m8, .int 0, .int 0, .long 0]))]) [0] (by decide) rfl
  have hK := hK.sub (tys' := []) [] rfl
  refine W.widen (k := 0) (n := 0) (Nat.le_of_ble_eq_true rfl) (Nat.le_of_ble_eq_true rfl) ?_
  exact W.iret (v := 0) hx hb hr (fun t ht hW => ⟨⟨0, (), rfl, rfl, ⟨by rw [ht]; exact hP, va_K.moved hW.alike hK, hD⟩⟩, hS.F ht⟩) hS.2.2 dX16_fault_31

set_option maxRecDepth 20000 in
def z_M_half : List Cond := .code yX16_half cX16_half 2 (some .int) :: (([.methodLink RX16 78 yX16_fits, .instanceMethod yX16_fits, .selects RX16 yX16_fits yX16_fits, .initialized RX16, .code yX16_fits cX16_fits 5 (some .boolean), .fieldLink RX16 10 "SelfkindleModel" "pile" "Ljava/util/ArrayList;", .methodLink RX16 44 yJx4a65c_size_8abf5, .instanceMethod yJx4a65c_size_8abf5, .selects RJx4a65c yJx4a65c_size_8abf5 yJx4a65c_size_8abf5, .initialized RJx4a65c, .code yJx4a65c_size_8abf5 cJx4a65c_size_8abf5 1 (some .int), .fieldLink RJx4a65c 48 "java/util/ArrayList" "size" "I", .fieldLink RX16 40 "SelfkindleModel" "thrown" "I"] : List Cond) ++ wsX160 ++ wsJx4a65c0)
theorem in_z_M_half_X16 : ∀ w ∈ wsX160, w ∈ z_M_half := fun w h => List.mem_cons_of_mem _ (List.mem_append_left _ (List.mem_append_right _ (h)))
theorem in_z_M_half_Jx4a65c : ∀ w ∈ wsJx4a65c0, w ∈ z_M_half := fun w h => List.mem_cons_of_mem _ (List.mem_append_right _ (h))
set_option maxRecDepth 20000 in
theorem g_M_half_3 : GoodIn z_M_half (wsV RX16 78 RX16 yX16_fits z_fits1) := goodIn_p _ [5, 11] rfl (by decide +kernel)
set_option maxHeartbeats 4000000 in
set_option maxRecDepth 100000 in
theorem c_M_half (l : Launch) (dC : Nat → ClassId) (dI : Nat → Nat → Nat) (tp te : Nat) (sz : Nat) (h0 : Nat) (lp : Nat) (m1 : Nat) (m2 : Nat) (m3 : Nat) (m4 : Nat) (m5 : Nat) (m6 : Nat) (m7 : Nat) (m8 : Nat) (p0 : Int32)  : Met l yX16_half z_M_half ({ frames := 2, cells := 0, slots := 0, locals := 44 }) (va_Pc [.ref h0, .int p0] (Pw dC dI [(h0, .inr (17, [.ref lp, .null, .null, .int 0, .int 0, .ref m1, .ref m2, .ref m3, .ref m4, .ref m5, .null, .null, .int 0, .ref m6, .int 0, .int 0, .int 0, .long 0, .null, .ref m7, .ref m8, .int 0, .int 0, .long 0])), (lp, .inr (0, [.int 0, .ref te, .int 0]))] [] sz tp te)) (va_Qi (fun (r : Int32) (_ : Unit) => r = 0) (fun (_ : Unit) (t : State) => Bw dC dI [(h0, .inr (17, [.ref lp, .null, .null, .int 0, .int 1, .ref m1, .ref m2, .ref m3, .ref m4, .ref m5, .null, .null, .int 0, .ref m6, .int 0, .int 0, .int 0, .long 0, .null, .ref m7, .ref m8, .int 0, .int 0, .long 0]))] [] (va_A [(h0, .inr (17, [.ref lp, .null, .null, .int 0, .int 0, .ref m1, .ref m2, .ref m3, .ref m4, .ref m5, .null, .null, .int 0, .ref m6, .int 0, .int 0, .int 0, .long 0, .null, .ref m7, .ref m8, .int 0, .int 0, .long 0])), (lp, .inr (0, [.int 0, .ref te, .int 0]))] sz) t) (va_A [(h0, .inr (17, [.ref lp, .null, .null, .int 0, .int 0, .ref m1, .ref m2, .ref m3, .ref m4, .ref m5, .null, .null, .int 0, .ref m6, .int 0, .int 0, .int 0, .long 0, .null, .ref m7, .ref m8, .int 0, .int 0, .long 0])), (lp, .inr (0, [.int 0, .ref te, .int 0]))] sz)) 0 0 (va_A [(h0, .inr (17, [.ref lp, .null, .null, .int 0, .int 0, .ref m1, .ref m2, .ref m3, .ref m4, .ref m5, .null, .null, .int 0, .ref m6, .int 0, .int 0, .int 0, .long 0, .null, .ref m7, .ref m8, .int 0, .int 0, .long 0])), (lp, .inr (0, [.int 0, .ref te, .int 0]))] sz) := by
  refine Met.ofW (cc := cX16_half) (maxL := 2) (ret := (some .int)) (by decide) rfl ?_
  intro p e s m args below meth c s₁ B hml hv
  obtain ⟨rfl, hsz, hP, hK, hD0, hG⟩ := hv
  have hx := B.exec
  have hb := B.bytes
  have hr := B.returns
  have hts := atoms_spec (ws := z_M_half) B.pre
  have hown : s.vm.findClass RX16 = some m.cls := findClass_of_methodNamed B.named
  have hlocks := B.notSynchronized
  subst hsz
  have hD := hD0.self (sz := s.heap.size)
  generalize hAe : va_A [(h0, .inr (17, [.ref lp, .null, .null, .int 0, .int 0, .ref m1, .ref m2, .ref m3, .ref m4, .ref m5, .null, .null, .int 0, .ref m6, .int 0, .int 0, .int 0, .long 0, .null, .ref m7, .ref m8, .int 0, .int 0, .long 0])), (lp, .inr (0, [.int 0, .ref te, .int 0]))] s.heap.size = A at hD hG ⊢
  have hA : ∀ q : Nat, s.heap.size ≤ q → A q := fun q h => by rw [← hAe]; exact Or.inr h
  have hS : va_S A s.heap s.heap [] := va_S.rf
  have hl := lv_entry ([.ref h0, .int p0]) (n := 2) (Nat.le_of_ble_eq_true rfl)
  rw [lg_entry_eq]
  generalize (lg_sl ([.ref h0, .int p0]) ++ List.replicate (2 - (lg_sl ([.ref h0, .int p0])).length) Slot.unset).toArray = ls at hl ⊢
  have hl : lv_has ls 2 [(0, .ref h0), (1, .int p0)] := hl
  refine lv_aload_n hx hb dX16_half_0 rfl (lv_at hl 0 rfl) ?_
  refine lv_aload_n hx hb dX16_half_1 rfl (lv_at hl 0 rfl) ?_
  refine lv_iconst (v := 1) hx hb dX16_half_2 (by decide) ?_
  have hPc := hP.sub (ws' := [(h0, .inr (17, [.ref lp, .null, .null, .int 0, .int 0, .ref m1, .ref m2, .ref m3, .ref m4, .ref m5, .null, .null, .int 0, .ref m6, .int 0, .int 0, .int 0, .long 0, .null, .ref m7, .ref m8, .int 0, .int 0, .long 0])), (lp, .inr (0, [.int 0, .ref te, .int 0]))]) [0, 1] rfl
  have hDc := hD.sub (ws' := [(h0, .inr (17, [.ref lp, .null, .null, .int 0, .int 0, .ref m1, .ref m2, .ref m3, .ref m4, .ref m5, .null, .null, .int 0, .ref m6, .int 0, .int 0, .int 0, .long 0, .null, .ref m7, .ref m8, .int 0, .int 0, .long 0])), (lp, .inr (0, [.int 0, .ref te, .int 0]))]) [0, 1] (by decide) rfl
  have hKc := hK.sub (tys' := []) [] rfl
  have hFc := va_free (wc := [(h0, .inr (17, [.ref lp, .null, .null, .int 0, .int 0, .ref m1, .ref m2, .ref m3, .ref m4, .ref m5, .null, .null, .int 0, .ref m6, .int 0, .int 0, .int 0, .long 0, .null, .ref m7, .ref m8, .int 0, .int 0, .long 0])), (lp, .inr (0, [.int 0, .ref te, .int 0]))]) hD hS hA [0, 1] rfl
  refine va_calli (va_runV (As := [.int 1]) (rest := [.ref h0]) ⟨hx, hb, hml, hown, hts⟩ (c_fits1 l dC dI tp te s.heap.size h0 lp m1 m2 m3 m4 m5 m6 m7 m8) (cwV 1 hts g_M_half_3 rfl rfl rfl (by decide +kernel) ⟨Nat.le_of_ble_eq_true rfl, Nat.le_of_ble_eq_true rfl⟩) ⟨Pw.blind, va_recv hKc hPc (ci := 17) (q0 := 0) rfl rfl, Pw.mk hPc hKc hDc hG hS hFc⟩ rfl rfl hl.1 rfl (lv_room (Nat.le_of_ble_eq_true rfl)) dX16_half_3 ⟨Nat.le_of_ble_eq_true rfl, Nat.le_of_ble_eq_true rfl⟩) hS (fun q _ h => hFc q h) hFc (fun r u t9 H_1 locs ht hvm hw hB hz1 hk1 hS => ?_)
  have hw : r = 0 := hw
  subst hw
  obtain ⟨hP1, hK1, hD1⟩ := hB
  rw [ht] at hP1
  have hK1 := va_K.moved hvm.symm hK1
  obtain ⟨hP, hD⟩ := va_join (wr := []) (w1 := [(h0, .inr (17, [.ref lp, .null, .null, .int 0, .int 0, .ref m1, .ref m2, .ref m3, .ref m4, .ref m5, .null, .null, .int 0, .ref m6, .int 0, .int 0, .int 0, .long 0, .null, .ref m7, .ref m8, .int 0, .int 0, .long 0])), (lp, .inr (0, [.int 0, .ref te, .int 0]))]) hP hD [0, 1] [] rfl rfl (by decide) (by decide) hk1 hFc hP1 hD1
  have hK := (hK.sub (tys' := []) [] rfl).app hK1
  have hP : va_P (dC, dI) vwCl [(h0, .inr (17, [.ref lp, .null, .null, .int 0, .int 0, .ref m1, .ref m2, .ref m3, .ref m4, .ref m5, .null, .null, .int 0, .ref m6, .int 0, .int 0, .int 0, .long 0, .null, .ref m7, .ref m8, .int 0, .int 0, .long 0])), (lp, .inr (0, [.int 0, .ref te, .int 0]))] H_1 := hP
  have hD : va_D A [(h0, .inr (17, [.ref lp, .null, .null, .int 0, .int 0, .ref m1, .ref m2, .ref m3, .ref m4, .ref m5, .null, .null, .int 0, .ref m6, .int 0, .int 0, .int 0, .long 0, .null, .ref m7, .ref m8, .int 0, .int 0, .long 0])), (lp, .inr (0, [.int 0, .ref te, .int 0]))] := hD
  have hK : va_K (dC, dI) vwCl [] s := hK
  refine W.widen (k := 0) (n := 0) (Nat.le_of_ble_eq_true rfl) (Nat.le_of_ble_eq_true rfl) ?_
  refine lv_if_eq (tgt := 13) hx hb dX16_half_6 (by decide) (fun c9 => ?_) (fun c9 => absurd (by decide) c9)
  refine lv_iconst (v := 1) hx hb dX16_half_13 (by decide) ?_
  refine va_put (D := (dC, dI)) (ci := 17) (v := .int 1) (ty := .int) (C := RX16) (T := TX16) (N := 24) hx hb hts in_z_M_half_X16 tyX16 tyX16_ok nmX16 hown hK hP hD hS 0 rfl rfl 4 (by decide) (hts (.fieldLink RX16 40 "SelfkindleModel" "thrown" "I") (List.mem_of_getElem? (i := 13) rfl)) (fun _ h9 => h9) rfl (by decide +kernel) rfl rfl (Nat.le_of_ble_eq_true rfl) dX16_half_14 (fun H_3 locs hP hD hS => ?_)
  have hP : va_P (dC, dI) vwCl [(h0, .inr (17, [.ref lp, .null, .null, .int 0, .int 1, .ref m1, .ref m2, .ref m3, .ref m4, .ref m5, .null, .null, .int 0, .ref m6, .int 0, .int 0, .int 0, .long 0, .null, .ref m7, .ref m8, .int 0, .int 0, .long 0])), (lp, .inr (0, [.int 0, .ref te, .int 0]))] H_3 := hP
  have hD : va_D A [(h0, .inr (17, [.ref lp, .null, .null, .int 0, .int 1, .ref m1, .ref m2, .ref m3, .ref m4, .ref m5, .null, .null, .int 0, .ref m6, .int 0, .int 0, .int 0, .long 0, .null, .ref m7, .ref m8, .int 0, .int 0, .long 0])), (lp, .inr (0, [.int 0, .ref te, .int 0]))] := hD
  have hK : va_K (dC, dI) vwCl [] s := hK
  refine lv_aload_n hx hb dX16_half_17 rfl (lv_at hl 0 rfl) ?_
  refine va_get (D := (dC, dI)) (ci := 17) (v := .int 1) (C := RX16) (T := TX16) (N := 24) hx hb hts in_z_M_half_X16 hown hK hP 0 rfl rfl 4 (by decide) (hts (.fieldLink RX16 40 "SelfkindleModel" "thrown" "I") (List.mem_of_getElem? (i := 13) rfl)) (fun _ h9 => h9) rfl dX16_half_18 ?_
  refine lv_if_le (tgt := 28) hx hb dX16_half_21 (by decide) (fun c9 => absurd c9 (by decide)) (fun c9 => ?_)
  refine lv_iconst (v := 0) hx hb dX16_half_24 (by decide) ?_
  refine lv_goto (tgt := 45) hx hb dX16_half_25 (by decide) ?_
  have hP := hP.sub (ws' := [(h0, .inr (17, [.ref lp, .null, .null, .int 0, .int 1, .ref m1, .ref m2, .ref m3, .ref m4, .ref m5, .null, .null, .int 0, .ref m6, .int 0, .int 0, .int 0, .long 0, .null, .ref m7, .ref m8, .int 0, .int 0, .long 0]))]) [0] rfl
  have hD := hD.sub (ws' := [(h0, .inr (17, [.ref lp, .null, .null, .int 0, .int 1, .ref m1, .ref m2, .ref m3, .ref m4, .ref m5, .null, .null, .int 0, .ref m6, .int 0, .int 0, .int 0, .long 0, .null, .ref m7, .ref m8, .int 0, .int 0, .long 0]))]) [0] (by decide) rfl
  have hK := hK.sub (tys' := []) [] rfl
  refine W.widen (k := 0) (n := 0) (Nat.le_of_ble_eq_true rfl) (Nat.le_of_ble_eq_true rfl) ?_
  exact W.iret (v := 0) hx hb hr (fun t ht hW => ⟨⟨0, (), rfl, rfl, ⟨by rw [ht]; exact hP, va_K.moved hW.alike hK, hD⟩⟩, hS.F ht⟩) hS.2.2 dX16_half_45

set_option maxRecDepth 20000 in
def z_M_type_neg : List Cond := .code yX16_type cX16_type 7 (some .int) :: (([.fieldLink RX16 40 "SelfkindleModel" "thrown" "I"] : List Cond) ++ wsX160)
theorem in_z_M_type_neg_X16 : ∀ w ∈ wsX160, w ∈ z_M_type_neg := fun w h => List.mem_cons_of_mem _ (List.mem_append_right _ (h))
set_option maxHeartbeats 4000000 in
set_option maxRecDepth 100000 in
theorem c_M_type_neg (l : Launch) (dC : Nat → ClassId) (dI : Nat → Nat → Nat) (tp te : Nat) (sz : Nat) (h0 : Nat) (lp : Nat) (m1 : Nat) (m2 : Nat) (m3 : Nat) (m4 : Nat) (m5 : Nat) (m6 : Nat) (m7 : Nat) (m8 : Nat) (p0 : Int32) (hv0 : ¬ 0 ≤ p0) : Met l yX16_type z_M_type_neg ({ frames := 0, cells := 0, slots := 0, locals := 0 }) (va_Pc [.ref h0, .int p0] (Pw dC dI [(h0, .inr (17, [.ref lp, .null, .null, .int 0, .int 0, .ref m1, .ref m2, .ref m3, .ref m4, .ref m5, .null, .null, .int 0, .ref m6, .int 0, .int 0, .int 0, .long 0, .null, .ref m7, .ref m8, .int 0, .int 0, .long 0])), (lp, .inr (0, [.int 0, .ref te, .int 0]))] [] sz tp te)) (va_Qi (fun (r : Int32) (_ : Unit) => r = 0) (fun (_ : Unit) (t : State) => Bw dC dI [(h0, .inr (17, [.ref lp, .null, .null, .int 0, .int 1, .ref m1, .ref m2, .ref m3, .ref m4, .ref m5, .null, .null, .int 0, .ref m6, .int 0, .int 0, .int 0, .long 0, .null, .ref m7, .ref m8, .int 0, .int 0, .long 0]))] [] (va_A [(h0, .inr (17, [.ref lp, .null, .null, .int 0, .int 0, .ref m1, .ref m2, .ref m3, .ref m4, .ref m5, .null, .null, .int 0, .ref m6, .int 0, .int 0, .int 0, .long 0, .null, .ref m7, .ref m8, .int 0, .int 0, .long 0])), (lp, .inr (0, [.int 0, .ref te, .int 0]))] sz) t) (va_A [(h0, .inr (17, [.ref lp, .null, .null, .int 0, .int 0, .ref m1, .ref m2, .ref m3, .ref m4, .ref m5, .null, .null, .int 0, .ref m6, .int 0, .int 0, .int 0, .long 0, .null, .ref m7, .ref m8, .int 0, .int 0, .long 0])), (lp, .inr (0, [.int 0, .ref te, .int 0]))] sz)) 0 0 (va_A [(h0, .inr (17, [.ref lp, .null, .null, .int 0, .int 0, .ref m1, .ref m2, .ref m3, .ref m4, .ref m5, .null, .null, .int 0, .ref m6, .int 0, .int 0, .int 0, .long 0, .null, .ref m7, .ref m8, .int 0, .int 0, .long 0])), (lp, .inr (0, [.int 0, .ref te, .int 0]))] sz) := by
  refine Met.ofW (cc := cX16_type) (maxL := 7) (ret := (some .int)) (by decide) rfl ?_
  intro p e s m args below meth c s₁ B hml hv
  obtain ⟨rfl, hsz, hP, hK, hD0, hG⟩ := hv
  have hx := B.exec
  have hb := B.bytes
  have hr := B.returns
  have hts := atoms_spec (ws := z_M_type_neg) B.pre
  have hown : s.vm.findClass RX16 = some m.cls := findClass_of_methodNamed B.named
  have hlocks := B.notSynchronized
  subst hsz
  have hD := hD0.self (sz := s.heap.size)
  generalize hAe : va_A [(h0, .inr (17, [.ref lp, .null, .null, .int 0, .int 0, .ref m1, .ref m2, .ref m3, .ref m4, .ref m5, .null, .null, .int 0, .ref m6, .int 0, .int 0, .int 0, .long 0, .null, .ref m7, .ref m8, .int 0, .int 0, .long 0])), (lp, .inr (0, [.int 0, .ref te, .int 0]))] s.heap.size = A at hD hG ⊢
  have hA : ∀ q : Nat, s.heap.size ≤ q → A q := fun q h => by rw [← hAe]; exact Or.inr h
  have hS : va_S A s.heap s.heap [] := va_S.rf
  have hl := lv_entry ([.ref h0, .int p0]) (n := 7) (Nat.le_of_ble_eq_true rfl)
  rw [lg_entry_eq]
  generalize (lg_sl ([.ref h0, .int p0]) ++ List.replicate (7 - (lg_sl ([.ref h0, .int p0])).length) Slot.unset).toArray = ls at hl ⊢
  have hl : lv_has ls 7 [(0, .ref h0), (1, .int p0)] := hl
  refine lv_aload_n hx hb dX16_type_0 rfl (lv_at hl 0 rfl) ?_
  refine lv_iload_n hx hb dX16_type_1 rfl (lv_at hl 1 rfl) ?_
  refine lv_if_ge (tgt := 9) hx hb dX16_type_2 (by decide) (fun c9 => absurd c9 hv0) (fun c9 => ?_)
  refine lv_iconst (v := 1) hx hb dX16_type_5 (by decide) ?_
  refine lv_goto (tgt := 21) hx hb dX16_type_6 (by decide) ?_
  refine va_put (D := (dC, dI)) (ci := 17) (v := .int 1) (ty := .int) (C := RX16) (T := TX16) (N := 24) hx hb hts in_z_M_type_neg_X16 tyX16 tyX16_ok nmX16 hown hK hP hD hS 0 rfl rfl 4 (by decide) (hts (.fieldLink RX16 40 "SelfkindleModel" "thrown" "I") (List.mem_of_getElem? (i := 1) rfl)) (fun _ h9 => h9) rfl (by decide +kernel) rfl rfl (Nat.le_of_ble_eq_true rfl) dX16_type_21 (fun H_1 locs hP hD hS => ?_)
  have hP : va_P (dC, dI) vwCl [(h0, .inr (17, [.ref lp, .null, .null, .int 0, .int 1, .ref m1, .ref m2, .ref m3, .ref m4, .ref m5, .null, .null, .int 0, .ref m6, .int 0, .int 0, .int 0, .long 0, .null, .ref m7, .ref m8, .int 0, .int 0, .long 0])), (lp, .inr (0, [.int 0, .ref te, .int 0]))] H_1 := hP
  have hD : va_D A [(h0, .inr (17, [.ref lp, .null, .null, .int 0, .int 1, .ref m1, .ref m2, .ref m3, .ref m4, .ref m5, .null, .null, .int 0, .ref m6, .int 0, .int 0, .int 0, .long 0, .null, .ref m7, .ref m8, .int 0, .int 0, .long 0])), (lp, .inr (0, [.int 0, .ref te, .int 0]))] := hD
  have hK : va_K (dC, dI) vwCl [] s := hK
  refine lv_aload_n hx hb dX16_type_24 rfl (lv_at hl 0 rfl) ?_
  refine va_get (D := (dC, dI)) (ci := 17) (v := .int 1) (C := RX16) (T := TX16) (N := 24) hx hb hts in_z_M_type_neg_X16 hown hK hP 0 rfl rfl 4 (by decide) (hts (.fieldLink RX16 40 "SelfkindleModel" "thrown" "I") (List.mem_of_getElem? (i := 1) rfl)) (fun _ h9 => h9) rfl dX16_type_25 ?_
  refine lv_if_le (tgt := 33) hx hb dX16_type_28 (by decide) (fun c9 => absurd c9 (by decide)) (fun c9 => ?_)
  refine lv_iconst (v := 0) hx hb dX16_type_31 (by decide) ?_
  have hP := hP.sub (ws' := [(h0, .inr (17, [.ref lp, .null, .null, .int 0, .int 1, .ref m1, .ref m2, .ref m3, .ref m4, .ref m5, .null, .null, .int 0, .ref m6, .int 0, .int 0, .int 0, .long 0, .null, .ref m7, .ref m8, .int 0, .int 0, .long 0]))]) [0] rfl
  have hD := hD.sub (ws' := [(h0, .inr (17, [.ref lp, .null, .null, .int 0, .int 1, .ref m1, .ref m2, .ref m3, .ref m4, .ref m5, .null, .null, .int 0, .ref m6, .int 0, .int 0, .int 0, .long 0, .null, .ref m7, .ref m8, .int 0, .int 0, .long 0]))]) [0] (by decide) rfl
  have hK := hK.sub (tys' := []) [] rfl
  refine W.widen (k := 0) (n := 0) (Nat.le_of_ble_eq_true rfl) (Nat.le_of_ble_eq_true rfl) ?_
  exact W.iret (v := 0) hx hb hr (fun t ht hW => ⟨⟨0, (), rfl, rfl, ⟨by rw [ht]; exact hP, va_K.moved hW.alike hK, hD⟩⟩, hS.F ht⟩) hS.2.2 dX16_type_32

set_option maxRecDepth 20000 in
def z_M_type_ok : List Cond := .code yX16_type cX16_type 7 (some .int) :: (([.methodLink RX16 229 yX16_isRight, .instanceMethod yX16_isRight, .selects RX16 yX16_isRight yX16_isRight, .initialized RX16, .code yX16_isRight cX16_isRight 1 (some .boolean), .fieldLink RX16 89 "SelfkindleModel" "told" "LSelfkindleModel$Term;", .fieldLink RX16 40 "SelfkindleModel" "thrown" "I"] : List Cond) ++ wsX160)
theorem in_z_M_type_ok_X16 : ∀ w ∈ wsX160, w ∈ z_M_type_ok := fun w h => List.mem_cons_of_mem _ (List.mem_append_right _ (h))
set_option maxRecDepth 20000 in
theorem g_M_type_ok_10 : GoodIn z_M_type_ok (wsV RX16 229 RX16 yX16_isRight z_isR) := goodIn_p _ [5] rfl (by decide +kernel)
set_option maxHeartbeats 4000000 in
set_option maxRecDepth 100000 in
theorem c_M_type_ok (l : Launch) (dC : Nat → ClassId) (dI : Nat → Nat → Nat) (tp te : Nat) (sz : Nat) (h0 : Nat) (lp : Nat) (m1 : Nat) (m2 : Nat) (m3 : Nat) (m4 : Nat) (m5 : Nat) (m6 : Nat) (m7 : Nat) (m8 : Nat) (p0 : Int32) (hv0 : 0 ≤ p0) : Met l yX16_type z_M_type_ok ({ frames := 1, cells := 0, slots := 0, locals := 20 }) (va_Pc [.ref h0, .int p0] (Pw dC dI [(h0, .inr (17, [.ref lp, .null, .null, .int 0, .int 0, .ref m1, .ref m2, .ref m3, .ref m4, .ref m5, .null, .null, .int 0, .ref m6, .int 0, .int 0, .int 0, .long 0, .null, .ref m7, .ref m8, .int 0, .int 0, .long 0])), (lp, .inr (0, [.int 0, .ref te, .int 0]))] [] sz tp te)) (va_Qi (fun (r : Int32) (_ : Unit) => r = 0) (fun (_ : Unit) (t : State) => Bw dC dI [(h0, .inr (17, [.ref lp, .null, .null, .int 0, .int 2, .ref m1, .ref m2, .ref m3, .ref m4, .ref m5, .null, .null, .int 0, .ref m6, .int 0, .int 0, .int 0, .long 0, .null, .ref m7, .ref m8, .int 0, .int 0, .long 0]))] [] (va_A [(h0, .inr (17, [.ref lp, .null, .null, .int 0, .int 0, .ref m1, .ref m2, .ref m3, .ref m4, .ref m5, .null, .null, .int 0, .ref m6, .int 0, .int 0, .int 0, .long 0, .null, .ref m7, .ref m8, .int 0, .int 0, .long 0])), (lp, .inr (0, [.int 0, .ref te, .int 0]))] sz) t) (va_A [(h0, .inr (17, [.ref lp, .null, .null, .int 0, .int 0, .ref m1, .ref m2, .ref m3, .ref m4, .ref m5, .null, .null, .int 0, .ref m6, .int 0, .int 0, .int 0, .long 0, .null, .ref m7, .ref m8, .int 0, .int 0, .long 0])), (lp, .inr (0, [.int 0, .ref te, .int 0]))] sz)) 0 0 (va_A [(h0, .inr (17, [.ref lp, .null, .null, .int 0, .int 0, .ref m1, .ref m2, .ref m3, .ref m4, .ref m5, .null, .null, .int 0, .ref m6, .int 0, .int 0, .int 0, .long 0, .null, .ref m7, .ref m8, .int 0, .int 0, .long 0])), (lp, .inr (0, [.int 0, .ref te, .int 0]))] sz) := by
  refine Met.ofW (cc := cX16_type) (maxL := 7) (ret := (some .int)) (by decide) rfl ?_
  intro p e s m args below meth c s₁ B hml hv
  obtain ⟨rfl, hsz, hP, hK, hD0, hG⟩ := hv
  have hx := B.exec
  have hb := B.bytes
  have hr := B.returns
  have hts := atoms_spec (ws := z_M_type_ok) B.pre
  have hown : s.vm.findClass RX16 = some m.cls := findClass_of_methodNamed B.named
  have hlocks := B.notSynchronized
  subst hsz
  have hD := hD0.self (sz := s.heap.size)
  generalize hAe : va_A [(h0, .inr (17, [.ref lp, .null, .null, .int 0, .int 0, .ref m1, .ref m2, .ref m3, .ref m4, .ref m5, .null, .null, .int 0, .ref m6, .int 0, .int 0, .int 0, .long 0, .null, .ref m7, .ref m8, .int 0, .int 0, .long 0])), (lp, .inr (0, [.int 0, .ref te, .int 0]))] s.heap.size = A at hD hG ⊢
  have hA : ∀ q : Nat, s.heap.size ≤ q → A q := fun q h => by rw [← hAe]; exact Or.inr h
  have hS : va_S A s.heap s.heap [] := va_S.rf
  have hl := lv_entry ([.ref h0, .int p0]) (n := 7) (Nat.le_of_ble_eq_true rfl)
  rw [lg_entry_eq]
  generalize (lg_sl ([.ref h0, .int p0]) ++ List.replicate (7 - (lg_sl ([.ref h0, .int p0])).length) Slot.unset).toArray = ls at hl ⊢
  have hl : lv_has ls 7 [(0, .ref h0), (1, .int p0)] := hl
  refine lv_aload_n hx hb dX16_type_0 rfl (lv_at hl 0 rfl) ?_
  refine lv_iload_n hx hb dX16_type_1 rfl (lv_at hl 1 rfl) ?_
  refine lv_if_ge (tgt := 9) hx hb dX16_type_2 (by decide) (fun c9 => ?_) (fun c9 => absurd hv0 c9)
  refine lv_aload_n hx hb dX16_type_9 rfl (lv_at hl 0 rfl) ?_
  have hPc := hP.sub (ws' := [(h0, .inr (17, [.ref lp, .null, .null, .int 0, .int 0, .ref m1, .ref m2, .ref m3, .ref m4, .ref m5, .null, .null, .int 0, .ref m6, .int 0, .int 0, .int 0, .long 0, .null, .ref m7, .ref m8, .int 0, .int 0, .long 0]))]) [0] rfl
  have hDc := hD.sub (ws' := [(h0, .inr (17, [.ref lp, .null, .null, .int 0, .int 0, .ref m1, .ref m2, .ref m3, .ref m4, .ref m5, .null, .null, .int 0, .ref m6, .int 0, .int 0, .int 0, .long 0, .null, .ref m7, .ref m8, .int 0, .int 0, .long 0]))]) [0] (by decide) rfl
  have hKc := hK.sub (tys' := []) [] rfl
  have hFc := va_free (wc := [(h0, .inr (17, [.ref lp, .null, .null, .int 0, .int 0, .ref m1, .ref m2, .ref m3, .ref m4, .ref m5, .null, .null, .int 0, .ref m6, .int 0, .int 0, .int 0, .long 0, .null, .ref m7, .ref m8, .int 0, .int 0, .long 0]))]) hD hS hA [0] rfl
  refine va_calli (va_runV (As := []) (rest := [.ref h0]) ⟨hx, hb, hml, hown, hts⟩ (c_isR l dC dI tp te s.heap.size h0 lp m1 m2 m3 m4 m5 m6 m7 m8) (cwV 0 hts g_M_type_ok_10 rfl rfl rfl (by decide +kernel) ⟨Nat.le_of_ble_eq_true rfl, Nat.le_of_ble_eq_true rfl⟩) ⟨Pw.blind, va_recv hKc hPc (ci := 17) (q0 := 0) rfl rfl, Pw.mk hPc hKc hDc hG hS hFc⟩ rfl rfl hl.1 rfl (lv_room (Nat.le_of_ble_eq_true rfl)) dX16_type_10 ⟨Nat.le_of_ble_eq_true rfl, Nat.le_of_ble_eq_true rfl⟩) hS (fun q _ h => hFc q h) hFc (fun r u t9 H_1 locs ht hvm hw hB hz1 hk1 hS => ?_)
  have hw : r = 0 := hw
  subst hw
  obtain ⟨hP1, hK1, hD1⟩ := hB
  rw [ht] at hP1
  have hK1 := va_K.moved hvm.symm hK1
  obtain ⟨hP, hD⟩ := va_join (wr := [(lp, .inr (0, [.int 0, .ref te, .int 0]))]) (w1 := [(h0, .inr (17, [.ref lp, .null, .null, .int 0, .int 0, .ref m1, .ref m2, .ref m3, .ref m4, .ref m5, .null, .null, .int 0, .ref m6, .int 0, .int 0, .int 0, .long 0, .null, .ref m7, .ref m8, .int 0, .int 0, .long 0]))]) hP hD [0] [1] rfl rfl (by decide) (by decide) hk1 hFc hP1 hD1
  have hK := (hK.sub (tys' := []) [] rfl).app hK1
  have hP : va_P (dC, dI) vwCl [(lp, .inr (0, [.int 0, .ref te, .int 0])), (h0, .inr (17, [.ref lp, .null, .null, .int 0, .int 0, .ref m1, .ref m2, .ref m3, .ref m4, .ref m5, .null, .null, .int 0, .ref m6, .int 0, .int 0, .int 0, .long 0, .null, .ref m7, .ref m8, .int 0, .int 0, .long 0]))] H_1 := hP
  have hD : va_D A [(lp, .inr (0, [.int 0, .ref te, .int 0])), (h0, .inr (17, [.ref lp, .null, .null, .int 0, .int 0, .ref m1, .ref m2, .ref m3, .ref m4, .ref m5, .null, .null, .int 0, .ref m6, .int 0, .int 0, .int 0, .long 0, .null, .ref m7, .ref m8, .int 0, .int 0, .long 0]))] := hD
  have hK : va_K (dC, dI) vwCl [] s := hK
  refine W.widen (k := 0) (n := 0) (Nat.le_of_ble_eq_true rfl) (Nat.le_of_ble_eq_true rfl) ?_
  refine lv_if_ne (tgt := 20) hx hb dX16_type_13 (by decide) (fun c9 => absurd (by decide) c9) (fun c9 => ?_)
  refine lv_iconst (v := 2) hx hb dX16_type_16 (by decide) ?_
  refine lv_goto (tgt := 21) hx hb dX16_type_17 (by decide) ?_
  refine va_put (D := (dC, dI)) (ci := 17) (v := .int 2) (ty := .int) (C := RX16) (T := TX16) (N := 24) hx hb hts in_z_M_type_ok_X16 tyX16 tyX16_ok nmX16 hown hK hP hD hS 1 rfl rfl 4 (by decide) (hts (.fieldLink RX16 40 "SelfkindleModel" "thrown" "I") (List.mem_of_getElem? (i := 7) rfl)) (fun _ h9 => h9) rfl (by decide +kernel) rfl rfl (Nat.le_of_ble_eq_true rfl) dX16_type_21 (fun H_3 locs hP hD hS => ?_)
  have hP : va_P (dC, dI) vwCl [(lp, .inr (0, [.int 0, .ref te, .int 0])), (h0, .inr (17, [.ref lp, .null, .null, .int 0, .int 2, .ref m1, .ref m2, .ref m3, .ref m4, .ref m5, .null, .null, .int 0, .ref m6, .int 0, .int 0, .int 0, .long 0, .null, .ref m7, .ref m8, .int 0, .int 0, .long 0]))] H_3 := hP
  have hD : va_D A [(lp, .inr (0, [.int 0, .ref te, .int 0])), (h0, .inr (17, [.ref lp, .null, .null, .int 0, .int 2, .ref m1, .ref m2, .ref m3, .ref m4, .ref m5, .null, .null, .int 0, .ref m6, .int 0, .int 0, .int 0, .long 0, .null, .ref m7, .ref m8, .int 0, .int 0, .long 0]))] := hD
  have hK : va_K (dC, dI) vwCl [] s := hK
  refine lv_aload_n hx hb dX16_type_24 rfl (lv_at hl 0 rfl) ?_
  refine va_get (D := (dC, dI)) (ci := 17) (v := .int 2) (C := RX16) (T := TX16) (N := 24) hx hb hts in_z_M_type_ok_X16 hown hK hP 1 rfl rfl 4 (by decide) (hts (.fieldLink RX16 40 "SelfkindleModel" "thrown" "I") (List.mem_of_getElem? (i := 7) rfl)) (fun _ h9 => h9) rfl dX16_type_25 ?_
  refine lv_if_le (tgt := 33) hx hb dX16_type_28 (by decide) (fun c9 => absurd c9 (by decide)) (fun c9 => ?_)
  refine lv_iconst (v := 0) hx hb dX16_type_31 (by decide) ?_
  have hP := hP.sub (ws' := [(h0, .inr (17, [.ref lp, .null, .null, .int 0, .int 2, .ref m1, .ref m2, .ref m3, .ref m4, .ref m5, .null, .null, .int 0, .ref m6, .int 0, .int 0, .int 0, .long 0, .null, .ref m7, .ref m8, .int 0, .int 0, .long 0]))]) [1] rfl
  have hD := hD.sub (ws' := [(h0, .inr (17, [.ref lp, .null, .null, .int 0, .int 2, .ref m1, .ref m2, .ref m3, .ref m4, .ref m5, .null, .null, .int 0, .ref m6, .int 0, .int 0, .int 0, .long 0, .null, .ref m7, .ref m8, .int 0, .int 0, .long 0]))]) [1] (by decide) rfl
  have hK := hK.sub (tys' := []) [] rfl
  refine W.widen (k := 0) (n := 0) (Nat.le_of_ble_eq_true rfl) (Nat.le_of_ble_eq_true rfl) ?_
  exact W.iret (v := 0) hx hb hr (fun t ht hW => ⟨⟨0, (), rfl, rfl, ⟨by rw [ht]; exact hP, va_K.moved hW.alike hK, hD⟩⟩, hS.F ht⟩) hS.2.2 dX16_type_32

set_option maxRecDepth 20000 in
def z_M_optimise_neg : List Cond := .code yX16_optimise cX16_optimise 3 (some .int) :: (([.fieldLink RX16 40 "SelfkindleModel" "thrown" "I"] : List Cond) ++ wsX160)
theorem in_z_M_optimise_neg_X16 : ∀ w ∈ wsX160, w ∈ z_M_optimise_neg := fun w h => List.mem_cons_of_mem _ (List.mem_append_right _ (h))
set_option maxHeartbeats 4000000 in
set_option maxRecDepth 100000 in
theorem c_M_optimise_neg (l : Launch) (dC : Nat → ClassId) (dI : Nat → Nat → Nat) (tp te : Nat) (sz : Nat) (h0 : Nat) (lp : Nat) (m1 : Nat) (m2 : Nat) (m3 : Nat) (m4 : Nat) (m5 : Nat) (m6 : Nat) (m7 : Nat) (m8 : Nat) (p0 : Int32) (hv0 : p0 < 0) : Met l yX16_optimise z_M_optimise_neg ({ frames := 0, cells := 0, slots := 0, locals := 0 }) (va_Pc [.ref h0, .int p0] (Pw dC dI [(h0, .inr (17, [.ref lp, .null, .null, .int 0, .int 0, .ref m1, .ref m2, .ref m3, .ref m4, .ref m5, .null, .null, .int 0, .ref m6, .int 0, .int 0, .int 0, .long 0, .null, .ref m7, .ref m8, .int 0, .int 0, .long 0])), (lp, .inr (0, [.int 0, .ref te, .int 0]))] [] sz tp te)) (va_Qi (fun (r : Int32) (_ : Unit) => r = 0) (fun (_ : Unit) (t : State) => Bw dC dI [(h0, .inr (17, [.ref lp, .null, .null, .int 0, .int 1, .ref m1, .ref m2, .ref m3, .ref m4, .ref m5, .null, .null, .int 0, .ref m6, .int 0, .int 0, .int 0, .long 0, .null, .ref m7, .ref m8, .int 0, .int 0, .long 0]))] [] (va_A [(h0, .inr (17, [.ref lp, .null, .null, .int 0, .int 0, .ref m1, .ref m2, .ref m3, .ref m4, .ref m5, .null, .null, .int 0, .ref m6, .int 0, .int 0, .int 0, .long 0, .null, .ref m7, .ref m8, .int 0, .int 0, .long 0])), (lp, .inr (0, [.int 0, .ref te, .int 0]))] sz) t) (va_A [(h0, .inr (17, [.ref lp, .null, .null, .int 0, .int 0, .ref m1, .ref m2, .ref m3, .ref m4, .ref m5, .null, .null, .int 0, .ref m6, .int 0, .int 0, .int 0, .long 0, .null, .ref m7, .ref m8, .int 0, .int 0, .long 0])), (lp, .inr (0, [.int 0, .ref te, .int 0]))] sz)) 0 0 (va_A [(h0, .inr (17, [.ref lp, .null, .null, .int 0, .int 0, .ref m1, .ref m2, .ref m3, .ref m4, .ref m5, .null, .null, .int 0, .ref m6, .int 0, .int 0, .int 0, .long 0, .null, .ref m7, .ref m8, .int 0, .int 0, .long 0])), (lp, .inr (0, [.int 0, .ref te, .int 0]))] sz) := by
  refine Met.ofW (cc := cX16_optimise) (maxL := 3) (ret := (some .int)) (by decide) rfl ?_
  intro p e s m args below meth c s₁ B hml hv
  obtain ⟨rfl, hsz, hP, hK, hD0, hG⟩ := hv
  have hx := B.exec
  have hb := B.bytes
  have hr := B.returns
  have hts := atoms_spec (ws := z_M_optimise_neg) B.pre
  have hown : s.vm.findClass RX16 = some m.cls := findClass_of_methodNamed B.named
  have hlocks := B.notSynchronized
  subst hsz
  have hD := hD0.self (sz := s.heap.size)
  generalize hAe : va_A [(h0, .inr (17, [.ref lp, .null, .null, .int 0, .int 0, .ref m1, .ref m2, .ref m3, .ref m4, .ref m5, .null, .null, .int 0, .ref m6, .int 0, .int 0, .int 0, .long 0, .null, .ref m7, .ref m8, .int 0, .int 0, .long 0])), (lp, .inr (0, [.int 0, .ref te, .int 0]))] s.heap.size = A at hD hG ⊢
  have hA : ∀ q : Nat, s.heap.size ≤ q → A q := fun q h => by rw [← hAe]; exact Or.inr h
  have hS : va_S A s.heap s.heap [] := va_S.rf
  have hl := lv_entry ([.ref h0, .int p0]) (n := 3) (Nat.le_of_ble_eq_true rfl)
  rw [lg_entry_eq]
  generalize (lg_sl ([.ref h0, .int p0]) ++ List.replicate (3 - (lg_sl ([.ref h0, .int p0])).length) Slot.unset).toArray = ls at hl ⊢
  have hl : lv_has ls 3 [(0, .ref h0), (1, .int p0)] := hl
  refine lv_aload_n hx hb dX16_optimise_0 rfl (lv_at hl 0 rfl) ?_
  refine lv_iload_n hx hb dX16_optimise_1 rfl (lv_at hl 1 rfl) ?_
  refine lv_if_lt (tgt := 11) hx hb dX16_optimise_2 (by decide) (fun c9 => ?_) (fun c9 => absurd hv0 c9)
  refine lv_iconst (v := 1) hx hb dX16_optimise_11 (by decide) ?_
  refine lv_goto (tgt := 27) hx hb dX16_optimise_12 (by decide) ?_
  refine va_put (D := (dC, dI)) (ci := 17) (v := .int 1) (ty := .int) (C := RX16) (T := TX16) (N := 24) hx hb hts in_z_M_optimise_neg_X16 tyX16 tyX16_ok nmX16 hown hK hP hD hS 0 rfl rfl 4 (by decide) (hts (.fieldLink RX16 40 "SelfkindleModel" "thrown" "I") (List.mem_of_getElem? (i := 1) rfl)) (fun _ h9 => h9) rfl (by decide +kernel) rfl rfl (Nat.le_of_ble_eq_true rfl) dX16_optimise_27 (fun H_1 locs hP hD hS => ?_)
  have hP : va_P (dC, dI) vwCl [(h0, .inr (17, [.ref lp, .null, .null, .int 0, .int 1, .ref m1, .ref m2, .ref m3, .ref m4, .ref m5, .null, .null, .int 0, .ref m6, .int 0, .int 0, .int 0, .long 0, .null, .ref m7, .ref m8, .int 0, .int 0, .long 0])), (lp, .inr (0, [.int 0, .ref te, .int 0]))] H_1 := hP
  have hD : va_D A [(h0, .inr (17, [.ref lp, .null, .null, .int 0, .int 1, .ref m1, .ref m2, .ref m3, .ref m4, .ref m5, .null, .null, .int 0, .ref m6, .int 0, .int 0, .int 0, .long 0, .null, .ref m7, .ref m8, .int 0, .int 0, .long 0])), (lp, .inr (0, [.int 0, .ref te, .int 0]))] := hD
  have hK : va_K (dC, dI) vwCl [] s := hK
  refine lv_aload_n hx hb dX16_optimise_30 rfl (lv_at hl 0 rfl) ?_
  refine va_get (D := (dC, dI)) (ci := 17) (v := .int 1) (C := RX16) (T := TX16) (N := 24) hx hb hts in_z_M_optimise_neg_X16 hown hK hP 0 rfl rfl 4 (by decide) (hts (.fieldLink RX16 40 "SelfkindleModel" "thrown" "I") (List.mem_of_getElem? (i := 1) rfl)) (fun _ h9 => h9) rfl dX16_optimise_31 ?_
  refine lv_if_le (tgt := 39) hx hb dX16_optimise_34 (by decide) (fun c9 => absurd c9 (by decide)) (fun c9 => ?_)
  refine lv_iconst (v := 0) hx hb dX16_optimise_37 (by decide) ?_
  have hP := hP.sub (ws' := [(h0, .inr (17, [.ref lp, .null, .null, .int 0, .int 1, .ref m1, .ref m2, .ref m3, .ref m4, .ref m5, .null, .null, .int 0, .ref m6, .int 0, .int 0, .int 0, .long 0, .null, .ref m7, .ref m8, .int 0, .int 0, .long 0]))]) [0] rfl
  have hD := hD.sub (ws' := [(h0, .inr (17, [.ref lp, .null, .null, .int 0, .int 1, .ref m1, .ref m2, .ref m3, .ref m4, .ref m5, .null, .null, .int 0, .ref m6, .int 0, .int 0, .int 0, .long 0, .null, .ref m7, .ref m8, .int 0, .int 0, .long 0]))]) [0] (by decide) rfl
  have hK := hK.sub (tys' := []) [] rfl
  refine W.widen (k := 0) (n := 0) (Nat.le_of_ble_eq_true rfl) (Nat.le_of_ble_eq_true rfl) ?_
  exact W.iret (v := 0) hx hb hr (fun t ht hW => ⟨⟨0, (), rfl, rfl, ⟨by rw [ht]; exact hP, va_K.moved hW.alike hK, hD⟩⟩, hS.F ht⟩) hS.2.2 dX16_optimise_38

set_option maxRecDepth 20000 in
def z_M_optimise_big : List Cond := .code yX16_optimise cX16_optimise 3 (some .int) :: (([.fieldLink RX16 40 "SelfkindleModel" "thrown" "I"] : List Cond) ++ wsX160)
theorem in_z_M_optimise_big_X16 : ∀ w ∈ wsX160, w ∈ z_M_optimise_big := fun w h => List.mem_cons_of_mem _ (List.mem_append_right _ (h))
set_option maxHeartbeats 4000000 in
set_option maxRecDepth 100000 in
theorem c_M_optimise_big (l : Launch) (dC : Nat → ClassId) (dI : Nat → Nat → Nat) (tp te : Nat) (sz : Nat) (h0 : Nat) (lp : Nat) (m1 : Nat) (m2 : Nat) (m3 : Nat) (m4 : Nat) (m5 : Nat) (m6 : Nat) (m7 : Nat) (m8 : Nat) (p0 : Int32) (hv0 : ¬ p0 < 0) (hv1 : ¬ p0 ≤ 15) : Met l yX16_optimise z_M_optimise_big ({ frames := 0, cells := 0, slots := 0, locals := 0 }) (va_Pc [.ref h0, .int p0] (Pw dC dI [(h0, .inr (17, [.ref lp, .null, .null, .int 0, .int 0, .ref m1, .ref m2, .ref m3, .ref m4, .ref m5, .null, .null, .int 0, .ref m6, .int 0, .int 0, .int 0, .long 0, .null, .ref m7, .ref m8, .int 0, .int 0, .long 0])), (lp, .inr (0, [.int 0, .ref te, .int 0]))] [] sz tp te)) (va_Qi (fun (r : Int32) (_ : Unit) => r = 0) (fun (_ : Unit) (t : State) => Bw dC dI [(h0, .inr (17, [.ref lp, .null, .null, .int 0, .int 1, .ref m1, .ref m2, .ref m3, .ref m4, .ref m5, .null, .null, .int 0, .ref m6, .int 0, .int 0, .int 0, .long 0, .null, .ref m7, .ref m8, .int 0, .int 0, .long 0]))] [] (va_A [(h0, .inr (17, [.ref lp, .null, .null, .int 0, .int 0, .ref m1, .ref m2, .ref m3, .ref m4, .ref m5, .null, .null, .int 0, .ref m6, .int 0, .int 0, .int 0, .long 0, .null, .ref m7, .ref m8, .int 0, .int 0, .long 0])), (lp, .inr (0, [.int 0, .ref te, .int 0]))] sz) t) (va_A [(h0, .inr (17, [.ref lp, .null, .null, .int 0, .int 0, .ref m1, .ref m2, .ref m3, .ref m4, .ref m5, .null, .null, .int 0, .ref m6, .int 0, .int 0, .int 0, .long 0, .null, .ref m7, .ref m8, .int 0, .int 0, .long 0])), (lp, .inr (0, [.int 0, .ref te, .int 0]))] sz)) 0 0 (va_A [(h0, .inr (17, [.ref lp, .null, .null, .int 0, .int 0, .ref m1, .ref m2, .ref m3, .ref m4, .ref m5, .null, .null, .int 0, .ref m6, .int 0, .int 0, .int 0, .long 0, .null, .ref m7, .ref m8, .int 0, .int 0, .long 0])), (lp, .inr (0, [.int 0, .ref te, .int 0]))] sz) := by
  refine Met.ofW (cc := cX16_optimise) (maxL := 3) (ret := (some .int)) (by decide) rfl ?_
  intro p e s m args below meth c s₁ B hml hv
  obtain ⟨rfl, hsz, hP, hK, hD0, hG⟩ := hv
  have hx := B.exec
  have hb := B.bytes
  have hr := B.returns
  have hts := atoms_spec (ws := z_M_optimise_big) B.pre
  have hown : s.vm.findClass RX16 = some m.cls := findClass_of_methodNamed B.named
  have hlocks := B.notSynchronized
  subst hsz
  have hD := hD0.self (sz := s.heap.size)
  generalize hAe : va_A [(h0, .inr (17, [.ref lp, .null, .null, .int 0, .int 0, .ref m1, .ref m2, .ref m3, .ref m4, .ref m5, .null, .null, .int 0, .ref m6, .int 0, .int 0, .int 0, .long 0, .null, .ref m7, .ref m8, .int 0, .int 0, .long 0])), (lp, .inr (0, [.int 0, .ref te, .int 0]))] s.heap.size = A at hD hG ⊢
  have hA : ∀ q : Nat, s.heap.size ≤ q → A q := fun q h => by rw [← hAe]; exact Or.inr h
  have hS : va_S A s.heap s.heap [] := va_S.rf
  have hl := lv_entry ([.ref h0, .int p0]) (n := 3) (Nat.le_of_ble_eq_true rfl)
  rw [lg_entry_eq]
  generalize (lg_sl ([.ref h0, .int p0]) ++ List.replicate (3 - (lg_sl ([.ref h0, .int p0])).length) Slot.unset).toArray = ls at hl ⊢
  have hl : lv_has ls 3 [(0, .ref h0), (1, .int p0)] := hl
  refine lv_aload_n hx hb dX16_optimise_0 rfl (lv_at hl 0 rfl) ?_
  refine lv_iload_n hx hb dX16_optimise_1 rfl (lv_at hl 1 rfl) ?_
  refine lv_if_lt (tgt := 11) hx hb dX16_optimise_2 (by decide) (fun c9 => absurd c9 hv0) (fun c9 => ?_)
  refine lv_iload_n hx hb dX16_optimise_5 rfl (lv_at hl 1 rfl) ?_
  refine lv_bipush (v := 15) hx hb dX16_optimise_6 (by decide) ?_
  refine lv_icmp_le (tgt := 15) hx hb dX16_optimise_8 (by decide) (fun c9 => absurd c9 hv1) (fun c9 => ?_)
  refine lv_iconst (v := 1) hx hb dX16_optimise_11 (by decide) ?_
  refine lv_goto (tgt := 27) hx hb dX16_optimise_12 (by decide) ?_
  refine va_put (D := (dC, dI)) (ci := 17) (v := .int 1) (ty := .int) (C := RX16) (T := TX16) (N := 24) hx hb hts in_z_M_optimise_big_X16 tyX16 tyX16_ok nmX16 hown hK hP hD hS 0 rfl rfl 4 (by decide) (hts (.fieldLink RX16 40 "SelfkindleModel" "thrown" "I") (List.mem_of_getElem? (i := 1) rfl)) (fun _ h9 => h9) rfl (by decide +kernel) rfl rfl (Nat.le_of_ble_eq_true rfl) dX16_optimise_27 (fun H_1 locs hP hD hS => ?_)
  have hP : va_P (dC, dI) vwCl [(h0, .inr (17, [.ref lp, .null, .null, .int 0, .int 1, .ref m1, .ref m2, .ref m3, .ref m4, .ref m5, .null, .null, .int 0, .ref m6, .int 0, .int 0, .int 0, .long 0, .null, .ref m7, .ref m8, .int 0, .int 0, .long 0])), (lp, .inr (0, [.int 0, .ref te, .int 0]))] H_1 := hP
  have hD : va_D A [(h0, .inr (17, [.ref lp, .null, .null, .int 0, .int 1, .ref m1, .ref m2, .ref m3, .ref m4, .ref m5, .null, .null, .int 0, .ref m6, .int 0, .int 0, .int 0, .long 0, .null, .ref m7, .ref m8, .int 0, .int 0, .long 0])), (lp, .inr (0, [.int 0, .ref te, .int 0]))] := hD
  have hK : va_K (dC, dI) vwCl [] s := hK
  refine lv_aload_n hx hb dX16_optimise_30 rfl (lv_at hl 0 rfl) ?_
  refine va_get (D := (dC, dI)) (ci := 17) (v := .int 1) (C := RX16) (T := TX16) (N := 24) hx hb hts in_z_M_optimise_big_X16 hown hK hP 0 rfl rfl 4 (by decide) (hts (.fieldLink RX16 40 "SelfkindleModel" "thrown" "I") (List.mem_of_getElem? (i := 1) rfl)) (fun _ h9 => h9) rfl dX16_optimise_31 ?_
  refine lv_if_le (tgt := 39) hx hb dX16_optimise_34 (by decide) (fun c9 => absurd c9 (by decide)) (fun c9 => ?_)
  refine lv_iconst (v := 0) hx hb dX16_optimise_37 (by decide) ?_
  have hP := hP.sub (ws' := [(h0, .inr (17, [.ref lp, .null, .null, .int 0, .int 1, .ref m1, .ref m2, .ref m3, .ref m4, .ref m5, .null, .null, .int 0, .ref m6, .int 0, .int 0, .int 0, .long 0, .null, .ref m7, .ref m8, .int 0, .int 0, .long 0]))]) [0] rfl
  have hD := hD.sub (ws' := [(h0, .inr (17, [.ref lp, .null, .null, .int 0, .int 1, .ref m1, .ref m2, .ref m3, .ref m4, .ref m5, .null, .null, .int 0, .ref m6, .int 0, .int 0, .int 0, .long 0, .null, .ref m7, .ref m8, .int 0, .int 0, .long 0]))]) [0] (by decide) rfl
  have hK := hK.sub (tys' := []) [] rfl
  refine W.widen (k := 0) (n := 0) (Nat.le_of_ble_eq_true rfl) (Nat.le_of_ble_eq_true rfl) ?_
  exact W.iret (v := 0) hx hb hr (fun t ht hW => ⟨⟨0, (), rfl, rfl, ⟨by rw [ht]; exact hP, va_K.moved hW.alike hK, hD⟩⟩, hS.F ht⟩) hS.2.2 dX16_optimise_38

set_option maxRecDepth 20000 in
def z_M_optimise_ok : List Cond := .code yX16_optimise cX16_optimise 3 (some .int) :: (([.methodLink RX16 229 yX16_isRight, .instanceMethod yX16_isRight, .selects RX16 yX16_isRight yX16_isRight, .initialized RX16, .code yX16_isRight cX16_isRight 1 (some .boolean), .fieldLink RX16 89 "SelfkindleModel" "told" "LSelfkindleModel$Term;", .fieldLink RX16 40 "SelfkindleModel" "thrown" "I"] : List Cond) ++ wsX160)
theorem in_z_M_optimise_ok_X16 : ∀ w ∈ wsX160, w ∈ z_M_optimise_ok := fun w h => List.mem_cons_of_mem _ (List.mem_append_right _ (h))
set_option maxRecDepth 20000 in
theorem g_M_optimise_ok_16 : GoodIn z_M_optimise_ok (wsV RX16 229 RX16 yX16_isRight z_isR) := goodIn_p _ [5] rfl (by decide +kernel)
set_option maxHeartbeats 4000000 in
set_option maxRecDepth 100000 in
theorem c_M_optimise_ok (l : Launch) (dC : Nat → ClassId) (dI : Nat → Nat → Nat) (tp te : Nat) (sz : Nat) (h0 : Nat) (lp : Nat) (m1 : Nat) (m2 : Nat) (m3 : Nat) (m4 : Nat) (m5 : Nat) (m6 : Nat) (m7 : Nat) (m8 : Nat) (p0 : Int32) (hv0 : ¬ p0 < 0) (hv1 : p0 ≤ 15) : Met l yX16_optimise z_M_optimise_ok ({ frames := 1, cells := 0, slots := 0, locals := 20 }) (va_Pc [.ref h0, .int p0] (Pw dC dI [(h0, .inr (17, [.ref lp, .null, .null, .int 0, .int 0, .ref m1, .ref m2, .ref m3, .ref m4, .ref m5, .null, .null, .int 0, .ref m6, .int 0, .int 0, .int 0, .long 0, .null, .ref m7, .ref m8, .int 0, .int 0, .long 0])), (lp, .inr (0, [.int 0, .ref te, .int 0]))] [] sz tp te)) (va_Qi (fun (r : Int32) (_ : Unit) => r = 0) (fun (_ : Unit) (t : State) => Bw dC dI [(h0, .inr (17, [.ref lp, .null, .null, .int 0, .int 2, .ref m1, .ref m2, .ref m3, .ref m4, .ref m5, .null, .null, .int 0, .ref m6, .int 0, .int 0, .int 0, .long 0, .null, .ref m7, .ref m8, .int 0, .int 0, .long 0]))] [] (va_A [(h0, .inr (17, [.ref lp, .null, .null, .int 0, .int 0, .ref m1, .ref m2, .ref m3, .ref m4, .ref m5, .null, .null, .int 0, .ref m6, .int 0, .int 0, .int 0, .long 0, .null, .ref m7, .ref m8, .int 0, .int 0, .long 0])), (lp, .inr (0, [.int 0, .ref te, .int 0]))] sz) t) (va_A [(h0, .inr (17, [.ref lp, .null, .null, .int 0, .int 0, .ref m1, .ref m2, .ref m3, .ref m4, .ref m5, .null, .null, .int 0, .ref m6, .int 0, .int 0, .int 0, .long 0, .null, .ref m7, .ref m8, .int 0, .int 0, .long 0])), (lp, .inr (0, [.int 0, .ref te, .int 0]))] sz)) 0 0 (va_A [(h0, .inr (17, [.ref lp, .null, .null, .int 0, .int 0, .ref m1, .ref m2, .ref m3, .ref m4, .ref m5, .null, .null, .int 0, .ref m6, .int 0, .int 0, .int 0, .long 0, .null, .ref m7, .ref m8, .int 0, .int 0, .long 0])), (lp, .inr (0, [.int 0, .ref te, .int 0]))] sz) := by
  refine Met.ofW (cc := cX16_optimise) (maxL := 3) (ret := (some .int)) (by decide) rfl ?_
  intro p e s m args below meth c s₁ B hml hv
  obtain ⟨rfl, hsz, hP, hK, hD0, hG⟩ := hv
  have hx := B.exec
  have hb := B.bytes
  have hr := B.returns
  have hts := atoms_spec (ws := z_M_optimise_ok) B.pre
  have hown : s.vm.findClass RX16 = some m.cls := findClass_of_methodNamed B.named
  have hlocks := B.notSynchronized
  subst hsz
  have hD := hD0.self (sz := s.heap.size)
  generalize hAe : va_A [(h0, .inr (17, [.ref lp, .null, .null, .int 0, .int 0, .ref m1, .ref m2, .ref m3, .ref m4, .ref m5, .null, .null, .int 0, .ref m6, .int 0, .int 0, .int 0, .long 0, .null, .ref m7, .ref m8, .int 0, .int 0, .long 0])), (lp, .inr (0, [.int 0, .ref te, .int 0]))] s.heap.size = A at hD hG ⊢
  have hA : ∀ q : Nat, s.heap.size ≤ q → A q := fun q h => by rw [← hAe]; exact Or.inr h
  have hS : va_S A s.heap s.heap [] := va_S.rf
  have hl := lv_entry ([.ref h0, .int p0]) (n := 3) (Nat.le_of_ble_eq_true rfl)
  rw [lg_entry_eq]
  generalize (lg_sl ([.ref h0, .int p0]) ++ List.replicate (3 - (lg_sl ([.ref h0, .int p0])).length) Slot.unset).toArray = ls at hl ⊢
  have hl : lv_has ls 3 [(0, .ref h0), (1, .int p0)] := hl
  refine lv_aload_n hx hb dX16_optimise_0 rfl (lv_at hl 0 rfl) ?_
  refine lv_iload_n hx hb dX16_optimise_1 rfl (lv_at hl 1 rfl) ?_
  refine lv_if_lt (tgt := 11) hx hb dX16_optimise_2 (by decide) (fun c9 => absurd c9 hv0) (fun c9 => ?_)
  refine lv_iload_n hx hb dX16_optimise_5 rfl (lv_at hl 1 rfl) ?_
  refine lv_bipush (v := 15) hx hb dX16_optimise_6 (by decide) ?_
  refine lv_icmp_le (tgt := 15) hx hb dX16_optimise_8 (by decide) (fun c9 => ?_) (fun c9 => absurd hv1 c9)
  refine lv_aload_n hx hb dX16_optimise_15 rfl (lv_at hl 0 rfl) ?_
  have hPc := hP.sub (ws' := [(h0, .inr (17, [.ref lp, .null, .null, .int 0, .int 0, .ref m1, .ref m2, .ref m3, .ref m4, .ref m5, .null, .null, .int 0, .ref m6, .int 0, .int 0, .int 0, .long 0, .null, .ref m7, .ref m8, .int 0, .int 0, .long 0]))]) [0] rfl
  have hDc := hD.sub (ws' := [(h0, .inr (17, [.ref lp, .null, .null, .int 0, .int 0, .ref m1, .ref m2, .ref m3, .ref m4, .ref m5, .null, .null, .int 0, .ref m6, .int 0, .int 0, .int 0, .long 0, .null, .ref m7, .ref m8, .int 0, .int 0, .long 0]))]) [0] (by decide) rfl
  have hKc := hK.sub (tys' := []) [] rfl
  have hFc := va_free (wc := [(h0, .inr (17, [.ref lp, .null, .null, .int 0, .int 0, .ref m1, .ref m2, .ref m3, .ref m4, .ref m5, .null, .null, .int 0, .ref m6, .int 0, .int 0, .int 0, .long 0, .null, .ref m7, .ref m8, .int 0, .int 0, .long 0]))]) hD hS hA [0] rfl
  refine va_calli (va_runV (As := []) (rest := [.ref h0]) ⟨hx, hb, hml, hown, hts⟩ (c_isR l dC dI tp te s.heap.size h0 lp m1 m2 m3 m4 m5 m6 m7 m8) (cwV 0 hts g_M_optimise_ok_16 rfl rfl rfl (by decide +kernel) ⟨Nat.le_of_ble_eq_true rfl, Nat.le_of_ble_eq_true rfl⟩) ⟨Pw.blind, va_recv hKc hPc (ci := 17) (q0 := 0) rfl rfl, Pw.mk hPc hKc hDc hG hS hFc⟩ rfl rfl hl.1 rfl (lv_room (Nat.le_of_ble_eq_true rfl)) dX16_optimise_16 ⟨Nat.le_of_ble_eq_true rfl, Nat.le_of_ble_eq_true rfl⟩) hS (fun q _ h => hFc q h) hFc (fun r u t9 H_1 locs ht hvm hw hB hz1 hk1 hS => ?_)
  have hw : r = 0 := hw
  subst hw
  obtain ⟨hP1, hK1, hD1⟩ := hB
  rw [ht] at hP1
  have hK1 := va_K.moved hvm.symm hK1
  obtain ⟨hP, hD⟩ := va_join (wr := [(lp, .inr (0, [.int 0, .ref te, .int 0]))]) (w1 := [(h0, .inr (17, [.ref lp, .null, .null, .int 0, .int 0, .ref m1, .ref m2, .ref m3, .ref m4, .ref m5, .null, .null, .int 0, .ref m6, .int 0, .int 0, .int 0, .long 0, .null, .ref m7, .ref m8, .int 0, .int 0, .long 0]))]) hP hD [0] [1] rfl rfl (by decide) (by decide) hk1 hFc hP1 hD1
  have hK := (hK.sub (tys' := []) [] rfl).app hK1
  have hP : va_P (dC, dI) vwCl [(lp, .inr (0, [.int 0, .ref te, .int 0])), (h0, .inr (17, [.ref lp, .null, .null, .int 0, .int 0, .ref m1, .ref m2, .ref m3, .ref m4, .ref m5, .null, .null, .int 0, .ref m6, .int 0, .int 0, .int 0, .long 0, .null, .ref m7, .ref m8, .int 0, .int 0, .long 0]))] H_1 := hP
  have hD : va_D A [(lp, .inr (0, [.int 0, .ref te, .int 0])), (h0, .inr (17, [.ref lp, .null, .null, .int 0, .int 0, .ref m1, .ref m2, .ref m3, .ref m4, .ref m5, .null, .null, .int 0, .ref m6, .int 0, .int 0, .int 0, .long 0, .null, .ref m7, .ref m8, .int 0, .int 0, .long 0]))] := hD
  have hK : va_K (dC, dI) vwCl [] s := hK
  refine W.widen (k := 0) (n := 0) (Nat.le_of_ble_eq_true rfl) (Nat.le_of_ble_eq_true rfl) ?_
  refine lv_if_ne (tgt := 26) hx hb dX16_optimise_19 (by decide) (fun c9 => absurd (by decide) c9) (fun c9 => ?_)
  refine lv_iconst (v := 2) hx hb dX16_optimise_22 (by decide) ?_
  refine lv_goto (tgt := 27) hx hb dX16_optimise_23 (by decide) ?_
  refine va_put (D := (dC, dI)) (ci := 17) (v := .int 2) (ty := .int) (C := RX16) (T := TX16) (N := 24) hx hb hts in_z_M_optimise_ok_X16 tyX16 tyX16_ok nmX16 hown hK hP hD hS 1 rfl rfl 4 (by decide) (hts (.fieldLink RX16 40 "SelfkindleModel" "thrown" "I") (List.mem_of_getElem? (i := 7) rfl)) (fun _ h9 => h9) rfl (by decide +kernel) rfl rfl (Nat.le_of_ble_eq_true rfl) dX16_optimise_27 (fun H_3 locs hP hD hS => ?_)
  have hP : va_P (dC, dI) vwCl [(lp, .inr (0, [.int 0, .ref te, .int 0])), (h0, .inr (17, [.ref lp, .null, .null, .int 0, .int 2, .ref m1, .ref m2, .ref m3, .ref m4, .ref m5, .null, .null, .int 0, .ref m6, .int 0, .int 0, .int 0, .long 0, .null, .ref m7, .ref m8, .int 0, .int 0, .long 0]))] H_3 := hP
  have hD : va_D A [(lp, .inr (0, [.int 0, .ref te, .int 0])), (h0, .inr (17, [.ref lp, .null, .null, .int 0, .int 2, .ref m1, .ref m2, .ref m3, .ref m4, .ref m5, .null, .null, .int 0, .ref m6, .int 0, .int 0, .int 0, .long 0, .null, .ref m7, .ref m8, .int 0, .int 0, .long 0]))] := hD
  have hK : va_K (dC, dI) vwCl [] s := hK
  refine lv_aload_n hx hb dX16_optimise_30 rfl (lv_at hl 0 rfl) ?_
  refine va_get (D := (dC, dI)) (ci := 17) (v := .int 2) (C := RX16) (T := TX16) (N := 24) hx hb hts in_z_M_optimise_ok_X16 hown hK hP 1 rfl rfl 4 (by decide) (hts (.fieldLink RX16 40 "SelfkindleModel" "thrown" "I") (List.mem_of_getElem? (i := 7) rfl)) (fun _ h9 => h9) rfl dX16_optimise_31 ?_
  refine lv_if_le (tgt := 39) hx hb dX16_optimise_34 (by decide) (fun c9 => absurd c9 (by decide)) (fun c9 => ?_)
  refine lv_iconst (v := 0) hx hb dX16_optimise_37 (by decide) ?_
  have hP := hP.sub (ws' := [(h0, .inr (17, [.ref lp, .null, .null, .int 0, .int 2, .ref m1, .ref m2, .ref m3, .ref m4, .ref m5, .null, .null, .int 0, .ref m6, .int 0, .int 0, .int 0, .long 0, .null, .ref m7, .ref m8, .int 0, .int 0, .long 0]))]) [1] rfl
  have hD := hD.sub (ws' := [(h0, .inr (17, [.ref lp, .null, .null, .int 0, .int 2, .ref m1, .ref m2, .ref m3, .ref m4, .ref m5, .null, .null, .int 0, .ref m6, .int 0, .int 0, .int 0, .long 0, .null, .ref m7, .ref m8, .int 0, .int 0, .long 0]))]) [1] (by decide) rfl
  have hK := hK.sub (tys' := []) [] rfl
  refine W.widen (k := 0) (n := 0) (Nat.le_of_ble_eq_true rfl) (Nat.le_of_ble_eq_true rfl) ?_
  exact W.iret (v := 0) hx hb hr (fun t ht hW => ⟨⟨0, (), rfl, rfl, ⟨by rw [ht]; exact hP, va_K.moved hW.alike hK, hD⟩⟩, hS.F ht⟩) hS.2.2 dX16_optimise_38

set_option maxRecDepth 20000 in
def z_M_size : List Cond := .code yX16_size cX16_size 1 (some .int) :: (([.fieldLink RX16 40 "SelfkindleModel" "thrown" "I", .fieldLink RX16 93 "SelfkindleModel" "program" "LSelfkindleModel$Term;"] : List Cond) ++ wsX160)
theorem in_z_M_size_X16 : ∀ w ∈ wsX160, w ∈ z_M_size := fun w h => List.mem_cons_of_mem _ (List.mem_append_right _ (h))
set_option maxHeartbeats 4000000 in
set_option maxRecDepth 100000 in
theorem c_M_size (l : Launch) (dC : Nat → ClassId) (dI : Nat → Nat → Nat) (tp te : Nat) (sz : Nat) (h0 : Nat) (lp : Nat) (m1 : Nat) (m2 : Nat) (m3 : Nat) (m4 : Nat) (m5 : Nat) (m6 : Nat) (m7 : Nat) (m8 : Nat)  : Met l yX16_size z_M_size ({ frames := 0, cells := 0, slots := 0, locals := 0 }) (va_Pc [.ref h0] (Pw dC dI [(h0, .inr (17, [.ref lp, .null, .null, .int 0, .int 0, .ref m1, .ref m2, .ref m3, .ref m4, .ref m5, .null, .null, .int 0, .ref m6, .int 0, .int 0, .int 0, .long 0, .null, .ref m7, .ref m8, .int 0, .int 0, .long 0])), (lp, .inr (0, [.int 0, .ref te, .int 0]))] [] sz tp te)) (va_Qi (fun (r : Int32) (_ : Unit) => r = 0) (fun (_ : Unit) (t : State) => Bw dC dI [(h0, .inr (17, [.ref lp, .null, .null, .int 0, .int 0, .ref m1, .ref m2, .ref m3, .ref m4, .ref m5, .null, .null, .int 0, .ref m6, .int 0, .int 0, .int 0, .long 0, .null, .ref m7, .ref m8, .int 0, .int 0, .long 0]))] [] (va_A [(h0, .inr (17, [.ref lp, .null, .null, .int 0, .int 0, .ref m1, .ref m2, .ref m3, .ref m4, .ref m5, .null, .null, .int 0, .ref m6, .int 0, .int 0, .int 0, .long 0, .null, .ref m7, .ref m8, .int 0, .int 0, .long 0])), (lp, .inr (0, [.int 0, .ref te, .int 0]))] sz) t) (va_A [(h0, .inr (17, [.ref lp, .null, .null, .int 0, .int 0, .ref m1, .ref m2, .ref m3, .ref m4, .ref m5, .null, .null, .int 0, .ref m6, .int 0, .int 0, .int 0, .long 0, .null, .ref m7, .ref m8, .int 0, .int 0, .long 0])), (lp, .inr (0, [.int 0, .ref te, .int 0]))] sz)) 0 0 (va_A [(h0, .inr (17, [.ref lp, .null, .null, .int 0, .int 0, .ref m1, .ref m2, .ref m3, .ref m4, .ref m5, .null, .null, .int 0, .ref m6, .int 0, .int 0, .int 0, .long 0, .null, .ref m7, .ref m8, .int 0, .int 0, .long 0])), (lp, .inr (0, [.int 0, .ref te, .int 0]))] sz) := by
  refine Met.ofW (cc := cX16_size) (maxL := 1) (ret := (some .int)) (by decide) rfl ?_
  intro p e s m args below meth c s₁ B hml hv
  obtain ⟨rfl, hsz, hP, hK, hD0, hG⟩ := hv
  have hx := B.exec
  have hb := B.bytes
  have hr := B.returns
  have hts := atoms_spec (ws := z_M_size) B.pre
  have hown : s.vm.findClass RX16 = some m.cls := findClass_of_methodNamed B.named
  have hlocks := B.notSynchronized
  subst hsz
  have hD := hD0.self (sz := s.heap.size)
  generalize hAe : va_A [(h0, .inr (17, [.ref lp, .null, .null, .int 0, .int 0, .ref m1, .ref m2, .ref m3, .ref m4, .ref m5, .null, .null, .int 0, .ref m6, .int 0, .int 0, .int 0, .long 0, .null, .ref m7, .ref m8, .int 0, .int 0, .long 0])), (lp, .inr (0, [.int 0, .ref te, .int 0]))] s.heap.size = A at hD hG ⊢
  have hA : ∀ q : Nat, s.heap.size ≤ q → A q := fun q h => by rw [← hAe]; exact Or.inr h
  have hS : va_S A s.heap s.heap [] := va_S.rf
  have hl := lv_entry ([.ref h0]) (n := 1) (Nat.le_of_ble_eq_true rfl)
  rw [lg_entry_eq]
  generalize (lg_sl ([.ref h0]) ++ List.replicate (1 - (lg_sl ([.ref h0])).length) Slot.unset).toArray = ls at hl ⊢
  have hl : lv_has ls 1 [(0, .ref h0)] := hl
  refine lv_aload_n hx hb dX16_size_0 rfl (lv_at hl 0 rfl) ?_
  refine lv_iconst (v := 0) hx hb dX16_size_1 (by decide) ?_
  refine va_put (D := (dC, dI)) (ci := 17) (v := .int 0) (ty := .int) (C := RX16) (T := TX16) (N := 24) hx hb hts in_z_M_size_X16 tyX16 tyX16_ok nmX16 hown hK hP hD hS 0 rfl rfl 4 (by decide) (hts (.fieldLink RX16 40 "SelfkindleModel" "thrown" "I") (List.mem_of_getElem? (i := 1) rfl)) (fun _ h9 => h9) rfl (by decide +kernel) rfl rfl (Nat.le_of_ble_eq_true rfl) dX16_size_2 (fun H_1 locs hP hD hS => ?_)
  have hP : va_P (dC, dI) vwCl [(h0, .inr (17, [.ref lp, .null, .null, .int 0, .int 0, .ref m1, .ref m2, .ref m3, .ref m4, .ref m5, .null, .null, .int 0, .ref m6, .int 0, .int 0, .int 0, .long 0, .null, .ref m7, .ref m8, .int 0, .int 0, .long 0])), (lp, .inr (0, [.int 0, .ref te, .int 0]))] H_1 := hP
  have hD : va_D A [(h0, .inr (17, [.ref lp, .null, .null, .int 0, .int 0, .ref m1, .ref m2, .ref m3, .ref m4, .ref m5, .null, .null, .int 0, .ref m6, .int 0, .int 0, .int 0, .long 0, .null, .ref m7, .ref m8, .int 0, .int 0, .long 0])), (lp, .inr (0, [.int 0, .ref te, .int 0]))] := hD
  have hK : va_K (dC, dI) vwCl [] s := hK
  refine lv_aload_n hx hb dX16_size_5 rfl (lv_at hl 0 rfl) ?_
  refine va_get (D := (dC, dI)) (ci := 17) (v := .null) (C := RX16) (T := TX16) (N := 24) hx hb hts in_z_M_size_X16 hown hK hP 0 rfl rfl 2 (by decide) (hts (.fieldLink RX16 93 "SelfkindleModel" "program" "LSelfkindleModel$Term;") (List.mem_of_getElem? (i := 2) rfl)) (fun _ h9 => h9) rfl dX16_size_6 ?_
  refine lv_ifnonnullN hx hb dX16_size_9 ?_
  refine lv_iconst (v := 0) hx hb dX16_size_12 (by decide) ?_
  refine lv_goto (tgt := 23) hx hb dX16_size_13 (by decide) ?_
  have hP := hP.sub (ws' := [(h0, .inr (17, [.ref lp, .null, .null, .int 0, .int 0, .ref m1, .ref m2, .ref m3, .ref m4, .ref m5, .null, .null, .int 0, .ref m6, .int 0, .int 0, .int 0, .long 0, .null, .ref m7, .ref m8, .int 0, .int 0, .long 0]))]) [0] rfl
  have hD := hD.sub (ws' := [(h0, .inr (17, [.ref lp, .null, .null, .int 0, .int 0, .ref m1, .ref m2, .ref m3, .ref m4, .ref m5, .null, .null, .int 0, .ref m6, .int 0, .int 0, .int 0, .long 0, .null, .ref m7, .ref m8, .int 0, .int 0, .long 0]))]) [0] (by decide) rfl
  have hK := hK.sub (tys' := []) [] rfl
  refine W.widen (k := 0) (n := 0) (Nat.le_of_ble_eq_true rfl) (Nat.le_of_ble_eq_true rfl) ?_
  exact W.iret (v := 0) hx hb hr (fun t ht hW => ⟨⟨0, (), rfl, rfl, ⟨by rw [ht]; exact hP, va_K.moved hW.alike hK, hD⟩⟩, hS.F ht⟩) hS.2.2 dX16_size_23

set_option maxRecDepth 20000 in
def z_M_orders : List Cond := .code yX16_orders cX16_orders 1 (some .int) :: (([.methodLink RX16 229 yX16_isRight, .instanceMethod yX16_isRight, .selects RX16 yX16_isRight yX16_isRight, .initialized RX16, .code yX16_isRight cX16_isRight 1 (some .boolean), .fieldLink RX16 89 "SelfkindleModel" "told" "LSelfkindleModel$Term;", .fieldLink RX16 40 "SelfkindleModel" "thrown" "I"] : List Cond) ++ wsX160)
theorem in_z_M_orders_X16 : ∀ w ∈ wsX160, w ∈ z_M_orders := fun w h => List.mem_cons_of_mem _ (List.mem_append_right _ (h))
set_option maxRecDepth 20000 in
theorem g_M_orders_2 : GoodIn z_M_orders (wsV RX16 229 RX16 yX16_isRight z_isR) := goodIn_p _ [5] rfl (by decide +kernel)
set_option maxHeartbeats 4000000 in
set_option maxRecDepth 100000 in
theorem c_M_orders (l : Launch) (dC : Nat → ClassId) (dI : Nat → Nat → Nat) (tp te : Nat) (sz : Nat) (h0 : Nat) (lp : Nat) (m1 : Nat) (m2 : Nat) (m3 : Nat) (m4 : Nat) (m5 : Nat) (m6 : Nat) (m7 : Nat) (m8 : Nat)  : Met l yX16_orders z_M_orders ({ frames := 1, cells := 0, slots := 0, locals := 20 }) (va_Pc [.ref h0] (Pw dC dI [(h0, .inr (17, [.ref lp, .null, .null, .int 0, .int 0, .ref m1, .ref m2, .ref m3, .ref m4, .ref m5, .null, .null, .int 0, .ref m6, .int 0, .int 0, .int 0, .long 0, .null, .ref m7, .ref m8, .int 0, .int 0, .long 0])), (lp, .inr (0, [.int 0, .ref te, .int 0]))] [] sz tp te)) (va_Qi (fun (r : Int32) (_ : Unit) => r = 0) (fun (_ : Unit) (t : State) => Bw dC dI [(h0, .inr (17, [.ref lp, .null, .null, .int 0, .int 1, .ref m1, .ref m2, .ref m3, .ref m4, .ref m5, .null, .null, .int 0, .ref m6, .int 0, .int 0, .int 0, .long 0, .null, .ref m7, .ref m8, .int 0, .int 0, .long 0]))] [] (va_A [(h0, .inr (17, [.ref lp, .null, .null, .int 0, .int 0, .ref m1, .ref m2, .ref m3, .ref m4, .ref m5, .null, .null, .int 0, .ref m6, .int 0, .int 0, .int 0, .long 0, .null, .ref m7, .ref m8, .int 0, .int 0, .long 0])), (lp, .inr (0, [.int 0, .ref te, .int 0]))] sz) t) (va_A [(h0, .inr (17, [.ref lp, .null, .null, .int 0, .int 0, .ref m1, .ref m2, .ref m3, .ref m4, .ref m5, .null, .null, .int 0, .ref m6, .int 0, .int 0, .int 0, .long 0, .null, .ref m7, .ref m8, .int 0, .int 0, .long 0])), (lp, .inr (0, [.int 0, .ref te, .int 0]))] sz)) 0 0 (va_A [(h0, .inr (17, [.ref lp, .null, .null, .int 0, .int 0, .ref m1, .ref m2, .ref m3, .ref m4, .ref m5, .null, .null, .int 0, .ref m6, .int 0, .int 0, .int 0, .long 0, .null, .ref m7, .ref m8, .int 0, .int 0, .long 0])), (lp, .inr (0, [.int 0, .ref te, .int 0]))] sz) := by
  refine Met.ofW (cc := cX16_orders) (maxL := 1) (ret := (some .int)) (by decide) rfl ?_
  intro p e s m args below meth c s₁ B hml hv
  obtain ⟨rfl, hsz, hP, hK, hD0, hG⟩ := hv
  have hx := B.exec
  have hb := B.bytes
  have hr := B.returns
  have hts := atoms_spec (ws := z_M_orders) B.pre
  have hown : s.vm.findClass RX16 = some m.cls := findClass_of_methodNamed B.named
  have hlocks := B.notSynchronized
  subst hsz
  have hD := hD0.self (sz := s.heap.size)
  generalize hAe : va_A [(h0, .inr (17, [.ref lp, .null, .null, .int 0, .int 0, .ref m1, .ref m2, .ref m3, .ref m4, .ref m5, .null, .null, .int 0, .ref m6, .int 0, .int 0, .int 0, .long 0, .null, .ref m7, .ref m8, .int 0, .int 0, .long 0])), (lp, .inr (0, [.int 0, .ref te, .int 0]))] s.heap.size = A at hD hG ⊢
  have hA : ∀ q : Nat, s.heap.size ≤ q → A q := fun q h => by rw [← hAe]; exact Or.inr h
  have hS : va_S A s.heap s.heap [] := va_S.rf
  have hl := lv_entry ([.ref h0]) (n := 1) (Nat.le_of_ble_eq_true rfl)
  rw [lg_entry_eq]
  generalize (lg_sl ([.ref h0]) ++ List.replicate (1 - (lg_sl ([.ref h0])).length) Slot.unset).toArray = ls at hl ⊢
  have hl : lv_has ls 1 [(0, .ref h0)] := hl
  refine lv_aload_n hx hb dX16_orders_0 rfl (lv_at hl 0 rfl) ?_
  refine lv_aload_n hx hb dX16_orders_1 rfl (lv_at hl 0 rfl) ?_
  have hPc := hP.sub (ws' := [(h0, .inr (17, [.ref lp, .null, .null, .int 0, .int 0, .ref m1, .ref m2, .ref m3, .ref m4, .ref m5, .null, .null, .int 0, .ref m6, .int 0, .int 0, .int 0, .long 0, .null, .ref m7, .ref m8, .int 0, .int 0, .long 0]))]) [0] rfl
  have hDc := hD.sub (ws' := [(h0, .inr (17, [.ref lp, .null, .null, .int 0, .int 0, .ref m1, .ref m2, .ref m3, .ref m4, .ref m5, .null, .null, .int 0, .ref m6, .int 0, .int 0, .int 0, .long 0, .null, .ref m7, .ref m8, .int 0, .int 0, .long 0]))]) [0] (by decide) rfl
  have hKc := hK.sub (tys' := []) [] rfl
  have hFc := va_free (wc := [(h0, .inr (17, [.ref lp, .null, .null, .int 0, .int 0, .ref m1, .ref m2, .ref m3, .ref m4, .ref m5, .null, .null, .int 0, .ref m6, .int 0, .int 0, .int 0, .long 0, .null, .ref m7, .ref m8, .int 0, .int 0, .long 0]))]) hD hS hA [0] rfl
  refine va_calli (va_runV (As := []) (rest := [.ref h0]) ⟨hx, hb, hml, hown, hts⟩ (c_isR l dC dI tp te s.heap.size h0 lp m1 m2 m3 m4 m5 m6 m7 m8) (cwV 0 hts g_M_orders_2 rfl rfl rfl (by decide +kernel) ⟨Nat.le_of_ble_eq_true rfl, Nat.le_of_ble_eq_true rfl⟩) ⟨Pw.blind, va_recv hKc hPc (ci := 17) (q0 := 0) rfl rfl, Pw.mk hPc hKc hDc hG hS hFc⟩ rfl rfl hl.1 rfl (lv_room (Nat.le_of_ble_eq_true rfl)) dX16_orders_2 ⟨Nat.le_of_ble_eq_true rfl, Nat.le_of_ble_eq_true rfl⟩) hS (fun q _ h => hFc q h) hFc (fun r u t9 H_1 locs ht hvm hw hB hz1 hk1 hS => ?_)
  have hw : r = 0 := hw
  subst hw
  obtain ⟨hP1, hK1, hD1⟩ := hB
  rw [ht] at hP1
  have hK1 := va_K.moved hvm.symm hK1
  obtain ⟨hP, hD⟩ := va_join (wr := [(lp, .inr (0, [.int 0, .ref te, .int 0]))]) (w1 := [(h0, .inr (17, [.ref lp, .null, .null, .int 0, .int 0, .ref m1, .ref m2, .ref m3, .ref m4, .ref m5, .null, .null, .int 0, .ref m6, .int 0, .int 0, .int 0, .long 0, .null, .ref m7, .ref m8, .int 0, .int 0, .long 0]))]) hP hD [0] [1] rfl rfl (by decide) (by decide) hk1 hFc hP1 hD1
  have hK := (hK.sub (tys' := []) [] rfl).app hK1
  have hP : va_P (dC, dI) vwCl [(lp, .inr (0, [.int 0, .ref te, .int 0])), (h0, .inr (17, [.ref lp, .null, .null, .int 0, .int 0, .ref m1, .ref m2, .ref m3, .ref m4, .ref m5, .null, .null, .int 0, .ref m6, .int 0, .int 0, .int 0, .long 0, .null, .ref m7, .ref m8, .int 0, .int 0, .long 0]))] H_1 := hP
  have hD : va_D A [(lp, .inr (0, [.int 0, .ref te, .int 0])), (h0, .inr (17, [.ref lp, .null, .null, .int 0, .int 0, .ref m1, .ref m2, .ref m3, .ref m4, .ref m5, .null, .null, .int 0, .ref m6, .int 0, .int 0, .int 0, .long 0, .null, .ref m7, .ref m8, .int 0, .int 0, .long 0]))] := hD
  have hK : va_K (dC, dI) vwCl [] s := hK
  refine W.widen (k := 0) (n := 0) (Nat.le_of_ble_eq_true rfl) (Nat.le_of_ble_eq_true rfl) ?_
  refine lv_if_eq (tgt := 12) hx hb dX16_orders_5 (by decide) (fun c9 => ?_) (fun c9 => absurd (by decide) c9)
  refine lv_iconst (v := 1) hx hb dX16_orders_12 (by decide) ?_
  refine va_put (D := (dC, dI)) (ci := 17) (v := .int 1) (ty := .int) (C := RX16) (T := TX16) (N := 24) hx hb hts in_z_M_orders_X16 tyX16 tyX16_ok nmX16 hown hK hP hD hS 1 rfl rfl 4 (by decide) (hts (.fieldLink RX16 40 "SelfkindleModel" "thrown" "I") (List.mem_of_getElem? (i := 7) rfl)) (fun _ h9 => h9) rfl (by decide +kernel) rfl rfl (Nat.le_of_ble_eq_true rfl) dX16_orders_13 (fun H_3 locs hP hD hS => ?_)
  have hP : va_P (dC, dI) vwCl [(lp, .inr (0, [.int 0, .ref te, .int 0])), (h0, .inr (17, [.ref lp, .null, .null, .int 0, .int 1, .ref m1, .ref m2, .ref m3, .ref m4, .ref m5, .null, .null, .int 0, .ref m6, .int 0, .int 0, .int 0, .long 0, .null, .ref m7, .ref m8, .int 0, .int 0, .long 0]))] H_3 := hP
  have hD : va_D A [(lp, .inr (0, [.int 0, .ref te, .int 0])), (h0, .inr (17, [.ref lp, .null, .null, .int 0, .int 1, .ref m1, .ref m2, .ref m3, .ref m4, .ref m5, .null, .null, .int 0, .ref m6, .int 0, .int 0, .int 0, .long 0, .null, .ref m7, .ref m8, .int 0, .int 0, .long 0]))] := hD
  have hK : va_K (dC, dI) vwCl [] s := hK
  refine lv_aload_n hx hb dX16_orders_16 rfl (lv_at hl 0 rfl) ?_
  refine va_get (D := (dC, dI)) (ci := 17) (v := .int 1) (C := RX16) (T := TX16) (N := 24) hx hb hts in_z_M_orders_X16 hown hK hP 1 rfl rfl 4 (by decide) (hts (.fieldLink RX16 40 "SelfkindleModel" "thrown" "I") (List.mem_of_getElem? (i := 7) rfl)) (fun _ h9 => h9) rfl dX16_orders_17 ?_
  refine lv_if_le (tgt := 27) hx hb dX16_orders_20 (by decide) (fun c9 => absurd c9 (by decide)) (fun c9 => ?_)
  refine lv_iconst (v := 0) hx hb dX16_orders_23 (by decide) ?_
  refine lv_goto (tgt := 34) hx hb dX16_orders_24 (by decide) ?_
  have hP := hP.sub (ws' := [(h0, .inr (17, [.ref lp, .null, .null, .int 0, .int 1, .ref m1, .ref m2, .ref m3, .ref m4, .ref m5, .null, .null, .int 0, .ref m6, .int 0, .int 0, .int 0, .long 0, .null, .ref m7, .ref m8, .int 0, .int 0, .long 0]))]) [1] rfl
  have hD := hD.sub (ws' := [(h0, .inr (17, [.ref lp, .null, .null, .int 0, .int 1, .ref m1, .ref m2, .ref m3, .ref m4, .ref m5, .null, .null, .int 0, .ref m6, .int 0, .int 0, .int 0, .long 0, .null, .ref m7, .ref m8, .int 0, .int 0, .long 0]))]) [1] (by decide) rfl
  have hK := hK.sub (tys' := []) [] rfl
  refine W.widen (k := 0) (n := 0) (Nat.le_of_ble_eq_true rfl) (Nat.le_of_ble_eq_true rfl) ?_
  exact W.iret (v := 0) hx hb hr (fun t ht hW => ⟨⟨0, (), rfl, rfl, ⟨by rw [ht]; exact hP, va_K.moved hW.alike hK, hD⟩⟩, hS.F ht⟩) hS.2.2 dX16_orders_34

set_option maxRecDepth 20000 in
def z_M_state : List Cond := .code yX16_state cX16_state 1 (some .int) :: (([.methodLink RX16 229 yX16_isRight, .instanceMethod yX16_isRight, .selects RX16 yX16_isRight yX16_isRight, .initialized RX16, .code yX16_isRight cX16_isRight 1 (some .boolean), .fieldLink RX16 89 "SelfkindleModel" "told" "LSelfkindleModel$Term;", .fieldLink RX16 40 "SelfkindleModel" "thrown" "I"] : List Cond) ++ wsX160)
theorem in_z_M_state_X16 : ∀ w ∈ wsX160, w ∈ z_M_state := fun w h => List.mem_cons_of_mem _ (List.mem_append_right _ (h))
set_option maxRecDepth 20000 in
theorem g_M_state_2 : GoodIn z_M_state (wsV RX16 229 RX16 yX16_isRight z_isR) := goodIn_p _ [5] rfl (by decide +kernel)
set_option maxHeartbeats 4000000 in
set_option maxRecDepth 100000 in
theorem c_M_state (l : Launch) (dC : Nat → ClassId) (dI : Nat → Nat → Nat) (tp te : Nat) (sz : Nat) (h0 : Nat) (lp : Nat) (m1 : Nat) (m2 : Nat) (m3 : Nat) (m4 : Nat) (m5 : Nat) (m6 : Nat) (m7 : Nat) (m8 : Nat)  : Met l yX16_state z_M_state ({ frames := 1, cells := 0, slots := 0, locals := 20 }) (va_Pc [.ref h0] (Pw dC dI [(h0, .inr (17, [.ref lp, .null, .null, .int 0, .int 0, .ref m1, .ref m2, .ref m3, .ref m4, .ref m5, .null, .null, .int 0, .ref m6, .int 0, .int 0, .int 0, .long 0, .null, .ref m7, .ref m8, .int 0, .int 0, .long 0])), (lp, .inr (0, [.int 0, .ref te, .int 0]))] [] sz tp te)) (va_Qi (fun (r : Int32) (_ : Unit) => r = 0) (fun (_ : Unit) (t : State) => Bw dC dI [(h0, .inr (17, [.ref lp, .null, .null, .int 0, .int 1, .ref m1, .ref m2, .ref m3, .ref m4, .ref m5, .null, .null, .int 0, .ref m6, .int 0, .int 0, .int 0, .long 0, .null, .ref m7, .ref m8, .int 0, .int 0, .long 0]))] [] (va_A [(h0, .inr (17, [.ref lp, .null, .null, .int 0, .int 0, .ref m1, .ref m2, .ref m3, .ref m4, .ref m5, .null, .null, .int 0, .ref m6, .int 0, .int 0, .int 0, .long 0, .null, .ref m7, .ref m8, .int 0, .int 0, .long 0])), (lp, .inr (0, [.int 0, .ref te, .int 0]))] sz) t) (va_A [(h0, .inr (17, [.ref lp, .null, .null, .int 0, .int 0, .ref m1, .ref m2, .ref m3, .ref m4, .ref m5, .null, .null, .int 0, .ref m6, .int 0, .int 0, .int 0, .long 0, .null, .ref m7, .ref m8, .int 0, .int 0, .long 0])), (lp, .inr (0, [.int 0, .ref te, .int 0]))] sz)) 0 0 (va_A [(h0, .inr (17, [.ref lp, .null, .null, .int 0, .int 0, .ref m1, .ref m2, .ref m3, .ref m4, .ref m5, .null, .null, .int 0, .ref m6, .int 0, .int 0, .int 0, .long 0, .null, .ref m7, .ref m8, .int 0, .int 0, .long 0])), (lp, .inr (0, [.int 0, .ref te, .int 0]))] sz) := by
  refine Met.ofW (cc := cX16_state) (maxL := 1) (ret := (some .int)) (by decide) rfl ?_
  intro p e s m args below meth c s₁ B hml hv
  obtain ⟨rfl, hsz, hP, hK, hD0, hG⟩ := hv
  have hx := B.exec
  have hb := B.bytes
  have hr := B.returns
  have hts := atoms_spec (ws := z_M_state) B.pre
  have hown : s.vm.findClass RX16 = some m.cls := findClass_of_methodNamed B.named
  have hlocks := B.notSynchronized
  subst hsz
  have hD := hD0.self (sz := s.heap.size)
  generalize hAe : va_A [(h0, .inr (17, [.ref lp, .null, .null, .int 0, .int 0, .ref m1, .ref m2, .ref m3, .ref m4, .ref m5, .null, .null, .int 0, .ref m6, .int 0, .int 0, .int 0, .long 0, .null, .ref m7, .ref m8, .int 0, .int 0, .long 0])), (lp, .inr (0, [.int 0, .ref te, .int 0]))] s.heap.size = A at hD hG ⊢
  have hA : ∀ q : Nat, s.heap.size ≤ q → A q := fun q h => by rw [← hAe]; exact Or.inr h
  have hS : va_S A s.heap s.heap [] := va_S.rf
  have hl := lv_entry ([.ref h0]) (n := 1) (Nat.le_of_ble_eq_true rfl)
  rw [lg_entry_eq]
  generalize (lg_sl ([.ref h0]) ++ List.replicate (1 - (lg_sl ([.ref h0])).length) Slot.unset).toArray = ls at hl ⊢
  have hl : lv_has ls 1 [(0, .ref h0)] := hl
  refine lv_aload_n hx hb dX16_state_0 rfl (lv_at hl 0 rfl) ?_
  refine lv_aload_n hx hb dX16_state_1 rfl (lv_at hl 0 rfl) ?_
  have hPc := hP.sub (ws' := [(h0, .inr (17, [.ref lp, .null, .null, .int 0, .int 0, .ref m1, .ref m2, .ref m3, .ref m4, .ref m5, .null, .null, .int 0, .ref m6, .int 0, .int 0, .int 0, .long 0, .null, .ref m7, .ref m8, .int 0, .int 0, .long 0]))]) [0] rfl
  have hDc := hD.sub (ws' := [(h0, .inr (17, [.ref lp, .null, .null, .int 0, .int 0, .ref m1, .ref m2, .ref m3, .ref m4, .ref m5, .null, .null, .int 0, .ref m6, .int 0, .int 0, .int 0, .long 0, .null, .ref m7, .ref m8, .int 0, .int 0, .long 0]))]) [0] (by decide) rfl
  have hKc := hK.sub (tys' := []) [] rfl
  have hFc := va_free (wc := [(h0, .inr (17, [.ref lp, .null, .null, .int 0, .int 0, .ref m1, .ref m2, .ref m3, .ref m4, .ref m5, .null, .null, .int 0, .ref m6, .int 0, .int 0, .int 0, .long 0, .null, .ref m7, .ref m8, .int 0, .int 0, .long 0]))]) hD hS hA [0] rfl
  refine va_calli (va_runV (As := []) (rest := [.ref h0]) ⟨hx, hb, hml, hown, hts⟩ (c_isR l dC dI tp te s.heap.size h0 lp m1 m2 m3 m4 m5 m6 m7 m8) (cwV 0 hts g_M_state_2 rfl rfl rfl (by decide +kernel) ⟨Nat.le_of_ble_eq_true rfl, Nat.le_of_ble_eq_true rfl⟩) ⟨Pw.blind, va_recv hKc hPc (ci := 17) (q0 := 0) rfl rfl, Pw.mk hPc hKc hDc hG hS hFc⟩ rfl rfl hl.1 rfl (lv_room (Nat.le_of_ble_eq_true rfl)) dX16_state_2 ⟨Nat.le_of_ble_eq_true rfl, Nat.le_of_ble_eq_true rfl⟩) hS (fun q _ h => hFc q h) hFc (fun r u t9 H_1 locs ht hvm hw hB hz1 hk1 hS => ?_)
  have hw : r = 0 := hw
  subst hw
  obtain ⟨hP1, hK1, hD1⟩ := hB
  rw [ht] at hP1
  have hK1 := va_K.moved hvm.symm hK1
  obtain ⟨hP, hD⟩ := va_join (wr := [(lp, .inr (0, [.int 0, .ref te, .int 0]))]) (w1 := [(h0, .inr (17, [.ref lp, .null, .null, .int 0, .int 0, .ref m1, .ref m2, .ref m3, .ref m4, .ref m5, .null, .null, .int 0, .ref m6, .int 0, .int 0, .int 0, .long 0, .null, .ref m7, .ref m8, .int 0, .int 0, .long 0]))]) hP hD [0] [1] rfl rfl (by decide) (by decide) hk1 hFc hP1 hD1
  have hK := (hK.sub (tys' := []) [] rfl).app hK1
  have hP : va_P (dC, dI) vwCl [(lp, .inr (0, [.int 0, .ref te, .int 0])), (h0, .inr (17, [.ref lp, .null, .null, .int 0, .int 0, .ref m1, .ref m2, .ref m3, .ref m4, .ref m5, .null, .null, .int 0, .ref m6, .int 0, .int 0, .int 0, .long 0, .null, .ref m7, .ref m8, .int 0, .int 0, .long 0]))] H_1 := hP
  have hD : va_D A [(lp, .inr (0, [.int 0, .ref te, .int 0])), (h0, .inr (17, [.ref lp, .null, .null, .int 0, .int 0, .ref m1, .ref m2, .ref m3, .ref m4, .ref m5, .null, .null, .int 0, .ref m6, .int 0, .int 0, .int 0, .long 0, .null, .ref m7, .ref m8, .int 0, .int 0, .long 0]))] := hD
  have hK : va_K (dC, dI) vwCl [] s := hK
  refine W.widen (k := 0) (n := 0) (Nat.le_of_ble_eq_true rfl) (Nat.le_of_ble_eq_true rfl) ?_
  refine lv_if_eq (tgt := 12) hx hb dX16_state_5 (by decide) (fun c9 => ?_) (fun c9 => absurd (by decide) c9)
  refine lv_iconst (v := 1) hx hb dX16_state_12 (by decide) ?_
  refine va_put (D := (dC, dI)) (ci := 17) (v := .int 1) (ty := .int) (C := RX16) (T := TX16) (N := 24) hx hb hts in_z_M_state_X16 tyX16 tyX16_ok nmX16 hown hK hP hD hS 1 rfl rfl 4 (by decide) (hts (.fieldLink RX16 40 "SelfkindleModel" "thrown" "I") (List.mem_of_getElem? (i := 7) rfl)) (fun _ h9 => h9) rfl (by decide +kernel) rfl rfl (Nat.le_of_ble_eq_true rfl) dX16_state_13 (fun H_3 locs hP hD hS => ?_)
  have hP : va_P (dC, dI) vwCl [(lp, .inr (0, [.int 0, .ref te, .int 0])), (h0, .inr (17, [.ref lp, .null, .null, .int 0, .int 1, .ref m1, .ref m2, .ref m3, .ref m4, .ref m5, .null, .null, .int 0, .ref m6, .int 0, .int 0, .int 0, .long 0, .null, .ref m7, .ref m8, .int 0, .int 0, .long 0]))] H_3 := hP
  have hD : va_D A [(lp, .inr (0, [.int 0, .ref te, .int 0])), (h0, .inr (17, [.ref lp, .null, .null, .int 0, .int 1, .ref m1, .ref m2, .ref m3, .ref m4, .ref m5, .null, .null, .int 0, .ref m6, .int 0, .int 0, .int 0, .long 0, .null, .ref m7, .ref m8, .int 0, .int 0, .long 0]))] := hD
  have hK : va_K (dC, dI) vwCl [] s := hK
  refine lv_aload_n hx hb dX16_state_16 rfl (lv_at hl 0 rfl) ?_
  refine va_get (D := (dC, dI)) (ci := 17) (v := .int 1) (C := RX16) (T := TX16) (N := 24) hx hb hts in_z_M_state_X16 hown hK hP 1 rfl rfl 4 (by decide) (hts (.fieldLink RX16 40 "SelfkindleModel" "thrown" "I") (List.mem_of_getElem? (i := 7) rfl)) (fun _ h9 => h9) rfl dX16_state_17 ?_
  refine lv_if_le (tgt := 27) hx hb dX16_state_20 (by decide) (fun c9 => absurd c9 (by decide)) (fun c9 => ?_)
  refine lv_iconst (v := 0) hx hb dX16_state_23 (by decide) ?_
  refine lv_goto (tgt := 31) hx hb dX16_state_24 (by decide) ?_
  have hP := hP.sub (ws' := [(h0, .inr (17, [.ref lp, .null, .null, .int 0, .int 1, .ref m1, .ref m2, .ref m3, .ref m4, .ref m5, .null, .null, .int 0, .ref m6, .int 0, .int 0, .int 0, .long 0, .null, .ref m7, .ref m8, .int 0, .int 0, .long 0]))]) [1] rfl
  have hD := hD.sub (ws' := [(h0, .inr (17, [.ref lp, .null, .null, .int 0, .int 1, .ref m1, .ref m2, .ref m3, .ref m4, .ref m5, .null, .null, .int 0, .ref m6, .int 0, .int 0, .int 0, .long 0, .null, .ref m7, .ref m8, .int 0, .int 0, .long 0]))]) [1] (by decide) rfl
  have hK := hK.sub (tys' := []) [] rfl
  refine W.widen (k := 0) (n := 0) (Nat.le_of_ble_eq_true rfl) (Nat.le_of_ble_eq_true rfl) ?_
  exact W.iret (v := 0) hx hb hr (fun t ht hW => ⟨⟨0, (), rfl, rfl, ⟨by rw [ht]; exact hP, va_K.moved hW.alike hK, hD⟩⟩, hS.F ht⟩) hS.2.2 dX16_state_31

set_option maxRecDepth 20000 in
def z_M_stateAnew : List Cond := .code yX16_stateAnew cX16_stateAnew 1 (some .int) :: (([.methodLink RX16 229 yX16_isRight, .instanceMethod yX16_isRight, .selects RX16 yX16_isRight yX16_isRight, .initialized RX16, .code yX16_isRight cX16_isRight 1 (some .boolean), .fieldLink RX16 89 "SelfkindleModel" "told" "LSelfkindleModel$Term;", .fieldLink RX16 40 "SelfkindleModel" "thrown" "I"] : List Cond) ++ wsX160)
theorem in_z_M_stateAnew_X16 : ∀ w ∈ wsX160, w ∈ z_M_stateAnew := fun w h => List.mem_cons_of_mem _ (List.mem_append_right _ (h))
set_option maxRecDepth 20000 in
theorem g_M_stateAnew_2 : GoodIn z_M_stateAnew (wsV RX16 229 RX16 yX16_isRight z_isR) := goodIn_p _ [5] rfl (by decide +kernel)
set_option maxHeartbeats 4000000 in
set_option maxRecDepth 100000 in
theorem c_M_stateAnew (l : Launch) (dC : Nat → ClassId) (dI : Nat → Nat → Nat) (tp te : Nat) (sz : Nat) (h0 : Nat) (lp : Nat) (m1 : Nat) (m2 : Nat) (m3 : Nat) (m4 : Nat) (m5 : Nat) (m6 : Nat) (m7 : Nat) (m8 : Nat)  : Met l yX16_stateAnew z_M_stateAnew ({ frames := 1, cells := 0, slots := 0, locals := 20 }) (va_Pc [.ref h0] (Pw dC dI [(h0, .inr (17, [.ref lp, .null, .null, .int 0, .int 0, .ref m1, .ref m2, .ref m3, .ref m4, .ref m5, .null, .null, .int 0, .ref m6, .int 0, .int 0, .int 0, .long 0, .null, .ref m7, .ref m8, .int 0, .int 0, .long 0])), (lp, .inr (0, [.int 0, .ref te, .int 0]))] [] sz tp te)) (va_Qi (fun (r : Int32) (_ : Unit) => r = 0) (fun (_ : Unit) (t : State) => Bw dC dI [(h0, .inr (17, [.ref lp, .null, .null, .int 0, .int 1, .ref m1, .ref m2, .ref m3, .ref m4, .ref m5, .null, .null, .int 0, .ref m6, .int 0, .int 0, .int 0, .long 0, .null, .ref m7, .ref m8, .int 0, .int 0, .long 0]))] [] (va_A [(h0, .inr (17, [.ref lp, .null, .null, .int 0, .int 0, .ref m1, .ref m2, .ref m3, .ref m4, .ref m5, .null, .null, .int 0, .ref m6, .int 0, .int 0, .int 0, .long 0, .null, .ref m7, .ref m8, .int 0, .int 0, .long 0])), (lp, .inr (0, [.int 0, .ref te, .int 0]))] sz) t) (va_A [(h0, .inr (17, [.ref lp, .null, .null, .int 0, .int 0, .ref m1, .ref m2, .ref m3, .ref m4, .ref m5, .null, .null, .int 0, .ref m6, .int 0, .int 0, .int 0, .long 0, .null, .ref m7, .ref m8, .int 0, .int 0, .long 0])), (lp, .inr (0, [.int 0, .ref te, .int 0]))] sz)) 0 0 (va_A [(h0, .inr (17, [.ref lp, .null, .null, .int 0, .int 0, .ref m1, .ref m2, .ref m3, .ref m4, .ref m5, .null, .null, .int 0, .ref m6, .int 0, .int 0, .int 0, .long 0, .null, .ref m7, .ref m8, .int 0, .int 0, .long 0])), (lp, .inr (0, [.int 0, .ref te, .int 0]))] sz) := by
  refine Met.ofW (cc := cX16_stateAnew) (maxL := 1) (ret := (some .int)) (by decide) rfl ?_
  intro p e s m args below meth c s₁ B hml hv
  obtain ⟨rfl, hsz, hP, hK, hD0, hG⟩ := hv
  have hx := B.exec
  have hb := B.bytes
  have hr := B.returns
  have hts := atoms_spec (ws := z_M_stateAnew) B.pre
  have hown : s.vm.findClass RX16 = some m.cls := findClass_of_methodNamed B.named
  have hlocks := B.notSynchronized
  subst hsz
  have hD := hD0.self (sz := s.heap.size)
  generalize hAe : va_A [(h0, .inr (17, [.ref lp, .null, .null, .int 0, .int 0, .ref m1, .ref m2, .ref m3, .ref m4, .ref m5, .null, .null, .int 0, .ref m6, .int 0, .int 0, .int 0, .long 0, .null, .ref m7, .ref m8, .int 0, .int 0, .long 0])), (lp, .inr (0, [.int 0, .ref te, .int 0]))] s.heap.size = A at hD hG ⊢
  have hA : ∀ q : Nat, s.heap.size ≤ q → A q := fun q h => by rw [← hAe]; exact Or.inr h
  have hS : va_S A s.heap s.heap [] := va_S.rf
  have hl := lv_entry ([.ref h0]) (n := 1) (Nat.le_of_ble_eq_true rfl)
  rw [lg_entry_eq]
  generalize (lg_sl ([.ref h0]) ++ List.replicate (1 - (lg_sl ([.ref h0])).length) Slot.unset).toArray = ls at hl ⊢
  have hl : lv_has ls 1 [(0, .ref h0)] := hl
  refine lv_aload_n hx hb dX16_stateAnew_0 rfl (lv_at hl 0 rfl) ?_
  refine lv_aload_n hx hb dX16_stateAnew_1 rfl (lv_at hl 0 rfl) ?_
  have hPc := hP.sub (ws' := [(h0, .inr (17, [.ref lp, .null, .null, .int 0, .int 0, .ref m1, .ref m2, .ref m3, .ref m4, .ref m5, .null, .null, .int 0, .ref m6, .int 0, .int 0, .int 0, .long 0, .null, .ref m7, .ref m8, .int 0, .int 0, .long 0]))]) [0] rfl
  have hDc := hD.sub (ws' := [(h0, .inr (17, [.ref lp, .null, .null, .int 0, .int 0, .ref m1, .ref m2, .ref m3, .ref m4, .ref m5, .null, .null, .int 0, .ref m6, .int 0, .int 0, .int 0, .long 0, .null, .ref m7, .ref m8, .int 0, .int 0, .long 0]))]) [0] (by decide) rfl
  have hKc := hK.sub (tys' := []) [] rfl
  have hFc := va_free (wc := [(h0, .inr (17, [.ref lp, .null, .null, .int 0, .int 0, .ref m1, .ref m2, .ref m3, .ref m4, .ref m5, .null, .null, .int 0, .ref m6, .int 0, .int 0, .int 0, .long 0, .null, .ref m7, .ref m8, .int 0, .int 0, .long 0]))]) hD hS hA [0] rfl
  refine va_calli (va_runV (As := []) (rest := [.ref h0]) ⟨hx, hb, hml, hown, hts⟩ (c_isR l dC dI tp te s.heap.size h0 lp m1 m2 m3 m4 m5 m6 m7 m8) (cwV 0 hts g_M_stateAnew_2 rfl rfl rfl (by decide +kernel) ⟨Nat.le_of_ble_eq_true rfl, Nat.le_of_ble_eq_true rfl⟩) ⟨Pw.blind, va_recv hKc hPc (ci := 17) (q0 := 0) rfl rfl, Pw.mk hPc hKc hDc hG hS hFc⟩ rfl rfl hl.1 rfl (lv_room (Nat.le_of_ble_eq_true rfl)) dX16_stateAnew_2 ⟨Nat.le_of_ble_eq_true rfl, Nat.le_of_ble_eq_true rfl⟩) hS (fun q _ h => hFc q h) hFc (fun r u t9 H_1 locs ht hvm hw hB hz1 hk1 hS => ?_)
  have hw : r = 0 := hw
  subst hw
  obtain ⟨hP1, hK1, hD1⟩ := hB
  rw [ht] at hP1
  have hK1 := va_K.moved hvm.symm hK1
  obtain ⟨hP, hD⟩ := va_join (wr := [(lp, .inr (0, [.int 0, .ref te, .int 0]))]) (w1 := [(h0, .inr (17, [.ref lp, .null, .null, .int 0, .int 0, .ref m1, .ref m2, .ref m3, .ref m4, .ref m5, .null, .null, .int 0, .ref m6, .int 0, .int 0, .int 0, .long 0, .null, .ref m7, .ref m8, .int 0, .int 0, .long 0]))]) hP hD [0] [1] rfl rfl (by decide) (by decide) hk1 hFc hP1 hD1
  have hK := (hK.sub (tys' := []) [] rfl).app hK1
  have hP : va_P (dC, dI) vwCl [(lp, .inr (0, [.int 0, .ref te, .int 0])), (h0, .inr (17, [.ref lp, .null, .null, .int 0, .int 0, .ref m1, .ref m2, .ref m3, .ref m4, .ref m5, .null, .null, .int 0, .ref m6, .int 0, .int 0, .int 0, .long 0, .null, .ref m7, .ref m8, .int 0, .int 0, .long 0]))] H_1 := hP
  have hD : va_D A [(lp, .inr (0, [.int 0, .ref te, .int 0])), (h0, .inr (17, [.ref lp, .null, .null, .int 0, .int 0, .ref m1, .ref m2, .ref m3, .ref m4, .ref m5, .null, .null, .int 0, .ref m6, .int 0, .int 0, .int 0, .long 0, .null, .ref m7, .ref m8, .int 0, .int 0, .long 0]))] := hD
  have hK : va_K (dC, dI) vwCl [] s := hK
  refine W.widen (k := 0) (n := 0) (Nat.le_of_ble_eq_true rfl) (Nat.le_of_ble_eq_true rfl) ?_
  refine lv_if_eq (tgt := 12) hx hb dX16_stateAnew_5 (by decide) (fun c9 => ?_) (fun c9 => absurd (by decide) c9)
  refine lv_iconst (v := 1) hx hb dX16_stateAnew_12 (by decide) ?_
  refine va_put (D := (dC, dI)) (ci := 17) (v := .int 1) (ty := .int) (C := RX16) (T := TX16) (N := 24) hx hb hts in_z_M_stateAnew_X16 tyX16 tyX16_ok nmX16 hown hK hP hD hS 1 rfl rfl 4 (by decide) (hts (.fieldLink RX16 40 "SelfkindleModel" "thrown" "I") (List.mem_of_getElem? (i := 7) rfl)) (fun _ h9 => h9) rfl (by decide +kernel) rfl rfl (Nat.le_of_ble_eq_true rfl) dX16_stateAnew_13 (fun H_3 locs hP hD hS => ?_)
  have hP : va_P (dC, dI) vwCl [(lp, .inr (0, [.int 0, .ref te, .int 0])), (h0, .inr (17, [.ref lp, .null, .null, .int 0, .int 1, .ref m1, .ref m2, .ref m3, .ref m4, .ref m5, .null, .null, .int 0, .ref m6, .int 0, .int 0, .int 0, .long 0, .null, .ref m7, .ref m8, .int 0, .int 0, .long 0]))] H_3 := hP
  have hD : va_D A [(lp, .inr (0, [.int 0, .ref te, .int 0])), (h0, .inr (17, [.ref lp, .null, .null, .int 0, .int 1, .ref m1, .ref m2, .ref m3, .ref m4, .ref m5, .null, .null, .int 0, .ref m6, .int 0, .int 0, .int 0, .long 0, .null, .ref m7, .ref m8, .int 0, .int 0, .long 0]))] := hD
  have hK : va_K (dC, dI) vwCl [] s := hK
  refine lv_aload_n hx hb dX16_stateAnew_16 rfl (lv_at hl 0 rfl) ?_
  refine va_get (D := (dC, dI)) (ci := 17) (v := .int 1) (C := RX16) (T := TX16) (N := 24) hx hb hts in_z_M_stateAnew_X16 hown hK hP 1 rfl rfl 4 (by decide) (hts (.fieldLink RX16 40 "SelfkindleModel" "thrown" "I") (List.mem_of_getElem? (i := 7) rfl)) (fun _ h9 => h9) rfl dX16_stateAnew_17 ?_
  refine lv_if_le (tgt := 27) hx hb dX16_stateAnew_20 (by decide) (fun c9 => absurd c9 (by decide)) (fun c9 => ?_)
  refine lv_iconst (v := 0) hx hb dX16_stateAnew_23 (by decide) ?_
  refine lv_goto (tgt := 31) hx hb dX16_stateAnew_24 (by decide) ?_
  have hP := hP.sub (ws' := [(h0, .inr (17, [.ref lp, .null, .null, .int 0, .int 1, .ref m1, .ref m2, .ref m3, .ref m4, .ref m5, .null, .null, .int 0, .ref m6, .int 0, .int 0, .int 0, .long 0, .null, .ref m7, .ref m8, .int 0, .int 0, .long 0]))]) [1] rfl
  have hD := hD.sub (ws' := [(h0, .inr (17, [.ref lp, .null, .null, .int 0, .int 1, .ref m1, .ref m2, .ref m3, .ref m4, .ref m5, .null, .null, .int 0, .ref m6, .int 0, .int 0, .int 0, .long 0, .null, .ref m7, .ref m8, .int 0, .int 0, .long 0]))]) [1] (by decide) rfl
  have hK := hK.sub (tys' := []) [] rfl
  refine W.widen (k := 0) (n := 0) (Nat.le_of_ble_eq_true rfl) (Nat.le_of_ble_eq_true rfl) ?_
  exact W.iret (v := 0) hx hb hr (fun t ht hW => ⟨⟨0, (), rfl, rfl, ⟨by rw [ht]; exact hP, va_K.moved hW.alike hK, hD⟩⟩, hS.F ht⟩) hS.2.2 dX16_stateAnew_31

set_option maxRecDepth 20000 in
def z_M_again : List Cond := .code yX16_again cX16_again 1 none :: (([.methodLink RX16 229 yX16_isRight, .instanceMethod yX16_isRight, .selects RX16 yX16_isRight yX16_isRight, .initialized RX16, .code yX16_isRight cX16_isRight 1 (some .boolean), .fieldLink RX16 89 "SelfkindleModel" "told" "LSelfkindleModel$Term;", .fieldLink RX16 40 "SelfkindleModel" "thrown" "I"] : List Cond) ++ wsX160)
theorem in_z_M_again_X16 : ∀ w ∈ wsX160, w ∈ z_M_again := fun w h => List.mem_cons_of_mem _ (List.mem_append_right _ (h))
set_option maxRecDepth 20000 in
theorem g_M_again_2 : GoodIn z_M_again (wsV RX16 229 RX16 yX16_isRight z_isR) := goodIn_p _ [5] rfl (by decide +kernel)
set_option maxHeartbeats 4000000 in
set_option maxRecDepth 100000 in
theorem c_M_again (l : Launch) (dC : Nat → ClassId) (dI : Nat → Nat → Nat) (tp te : Nat) (sz : Nat) (h0 : Nat) (lp : Nat) (m1 : Nat) (m2 : Nat) (m3 : Nat) (m4 : Nat) (m5 : Nat) (m6 : Nat) (m7 : Nat) (m8 : Nat)  : Met l yX16_again z_M_again ({ frames := 1, cells := 0, slots := 0, locals := 20 }) (va_Pc [.ref h0] (Pw dC dI [(h0, .inr (17, [.ref lp, .null, .null, .int 0, .int 0, .ref m1, .ref m2, .ref m3, .ref m4, .ref m5, .null, .null, .int 0, .ref m6, .int 0, .int 0, .int 0, .long 0, .null, .ref m7, .ref m8, .int 0, .int 0, .long 0])), (lp, .inr (0, [.int 0, .ref te, .int 0]))] [] sz tp te)) (va_Qv (fun (_ : Unit) => True) (fun (_ : Unit) (t : State) => Bw dC dI [(h0, .inr (17, [.ref lp, .null, .null, .int 0, .int 1, .ref m1, .ref m2, .ref m3, .ref m4, .ref m5, .null, .null, .int 0, .ref m6, .int 0, .int 0, .int 0, .long 0, .null, .ref m7, .ref m8, .int 0, .int 0, .long 0]))] [] (va_A [(h0, .inr (17, [.ref lp, .null, .null, .int 0, .int 0, .ref m1, .ref m2, .ref m3, .ref m4, .ref m5, .null, .null, .int 0, .ref m6, .int 0, .int 0, .int 0, .long 0, .null, .ref m7, .ref m8, .int 0, .int 0, .long 0])), (lp, .inr (0, [.int 0, .ref te, .int 0]))] sz) t) (va_A [(h0, .inr (17, [.ref lp, .null, .null, .int 0, .int 0, .ref m1, .ref m2, .ref m3, .ref m4, .ref m5, .null, .null, .int 0, .ref m6, .int 0, .int 0, .int 0, .long 0, .null, .ref m7, .ref m8, .int 0, .int 0, .long 0])), (lp, .inr (0, [.int 0, .ref te, .int 0]))] sz)) 0 0 (va_A [(h0, .inr (17, [.ref lp, .null, .null, .int 0, .int 0, .ref m1, .ref m2, .ref m3, .ref m4, .ref m5, .null, .null, .int 0, .ref m6, .int 0, .int 0, .int 0, .long 0, .null, .ref m7, .ref m8, .int 0, .int 0, .long 0])), (lp, .inr (0, [.int 0, .ref te, .int 0]))] sz) := by
  refine Met.ofW (cc := cX16_again) (maxL := 1) (ret := none) (by decide) rfl ?_
  intro p e s m args below meth c s₁ B hml hv
  obtain ⟨rfl, hsz, hP, hK, hD0, hG⟩ := hv
  have hx := B.exec
  have hb := B.bytes
  have hr := B.returns
  have hts := atoms_spec (ws := z_M_again) B.pre
  have hown : s.vm.findClass RX16 = some m.cls := findClass_of_methodNamed B.named
  have hlocks := B.notSynchronized
  subst hsz
  have hD := hD0.self (sz := s.heap.size)
  generalize hAe : va_A [(h0, .inr (17, [.ref lp, .null, .null, .int 0, .int 0, .ref m1, .ref m2, .ref m3, .ref m4, .ref m5, .null, .null, .int 0, .ref m6, .int 0, .int 0, .int 0, .long 0, .null, .ref m7, .ref m8, .int 0, .int 0, .long 0])), (lp, .inr (0, [.int 0, .ref te, .int 0]))] s.heap.size = A at hD hG ⊢
  have hA : ∀ q : Nat, s.heap.size ≤ q → A q := fun q h => by rw [← hAe]; exact Or.inr h
  have hS : va_S A s.heap s.heap [] := va_S.rf
  have hl := lv_entry ([.ref h0]) (n := 1) (Nat.le_of_ble_eq_true rfl)
  rw [lg_entry_eq]
  generalize (lg_sl ([.ref h0]) ++ List.replicate (1 - (lg_sl ([.ref h0])).length) Slot.unset).toArray = ls at hl ⊢
  have hl : lv_has ls 1 [(0, .ref h0)] := hl
  refine lv_aload_n hx hb dX16_again_0 rfl (lv_at hl 0 rfl) ?_
  refine lv_aload_n hx hb dX16_again_1 rfl (lv_at hl 0 rfl) ?_
  have hPc := hP.sub (ws' := [(h0, .inr (17, [.ref lp, .null, .null, .int 0, .int 0, .ref m1, .ref m2, .ref m3, .ref m4, .ref m5, .null, .null, .int 0, .ref m6, .int 0, .int 0, .int 0, .long 0, .null, .ref m7, .ref m8, .int 0, .int 0, .long 0]))]) [0] rfl
  have hDc := hD.sub (ws' := [(h0, .inr (17, [.ref lp, .null, .null, .int 0, .int 0, .ref m1, .ref m2, .ref m3, .ref m4, .ref m5, .null, .null, .int 0, .ref m6, .int 0, .int 0, .int 0, .long 0, .null, .ref m7, .ref m8, .int 0, .int 0, .long 0]))]) [0] (by decide) rfl
  have hKc := hK.sub (tys' := []) [] rfl
  have hFc := va_free (wc := [(h0, .inr (17, [.ref lp, .null, .null, .int 0, .int 0, .ref m1, .ref m2, .ref m3, .ref m4, .ref m5, .null, .null, .int 0, .ref m6, .int 0, .int 0, .int 0, .long 0, .null, .ref m7, .ref m8, .int 0, .int 0, .long 0]))]) hD hS hA [0] rfl
  refine va_calli (va_runV (As := []) (rest := [.ref h0]) ⟨hx, hb, hml, hown, hts⟩ (c_isR l dC dI tp te s.heap.size h0 lp m1 m2 m3 m4 m5 m6 m7 m8) (cwV 0 hts g_M_again_2 rfl rfl rfl (by decide +kernel) ⟨Nat.le_of_ble_eq_true rfl, Nat.le_of_ble_eq_true rfl⟩) ⟨Pw.blind, va_recv hKc hPc (ci := 17) (q0 := 0) rfl rfl, Pw.mk hPc hKc hDc hG hS hFc⟩ rfl rfl hl.1 rfl (lv_room (Nat.le_of_ble_eq_true rfl)) dX16_again_2 ⟨Nat.le_of_ble_eq_true rfl, Nat.le_of_ble_eq_true rfl⟩) hS (fun q _ h => hFc q h) hFc (fun r u t9 H_1 locs ht hvm hw hB hz1 hk1 hS => ?_)
  have hw : r = 0 := hw
  subst hw
  obtain ⟨hP1, hK1, hD1⟩ := hB
  rw [ht] at hP1
  have hK1 := va_K.moved hvm.symm hK1
  obtain ⟨hP, hD⟩ := va_join (wr := [(lp, .inr (0, [.int 0, .ref te, .int 0]))]) (w1 := [(h0, .inr (17, [.ref lp, .null, .null, .int 0, .int 0, .ref m1, .ref m2, .ref m3, .ref m4, .ref m5, .null, .null, .int 0, .ref m6, .int 0, .int 0, .int 0, .long 0, .null, .ref m7, .ref m8, .int 0, .int 0, .long 0]))]) hP hD [0] [1] rfl rfl (by decide) (by decide) hk1 hFc hP1 hD1
  have hK := (hK.sub (tys' := []) [] rfl).app hK1
  have hP : va_P (dC, dI) vwCl [(lp, .inr (0, [.int 0, .ref te, .int 0])), (h0, .inr (17, [.ref lp, .null, .null, .int 0, .int 0, .ref m1, .ref m2, .ref m3, .ref m4, .ref m5, .null, .null, .int 0, .ref m6, .int 0, .int 0, .int 0, .long 0, .null, .ref m7, .ref m8, .int 0, .int 0, .long 0]))] H_1 := hP
  have hD : va_D A [(lp, .inr (0, [.int 0, .ref te, .int 0])), (h0, .inr (17, [.ref lp, .null, .null, .int 0, .int 0, .ref m1, .ref m2, .ref m3, .ref m4, .ref m5, .null, .null, .int 0, .ref m6, .int 0, .int 0, .int 0, .long 0, .null, .ref m7, .ref m8, .int 0, .int 0, .long 0]))] := hD
  have hK : va_K (dC, dI) vwCl [] s := hK
  refine W.widen (k := 0) (n := 0) (Nat.le_of_ble_eq_true rfl) (Nat.le_of_ble_eq_true rfl) ?_
  refine lv_if_eq (tgt := 12) hx hb dX16_again_5 (by decide) (fun c9 => ?_) (fun c9 => absurd (by decide) c9)
  refine lv_iconst (v := 1) hx hb dX16_again_12 (by decide) ?_
  refine va_put (D := (dC, dI)) (ci := 17) (v := .int 1) (ty := .int) (C := RX16) (T := TX16) (N := 24) hx hb hts in_z_M_again_X16 tyX16 tyX16_ok nmX16 hown hK hP hD hS 1 rfl rfl 4 (by decide) (hts (.fieldLink RX16 40 "SelfkindleModel" "thrown" "I") (List.mem_of_getElem? (i := 7) rfl)) (fun _ h9 => h9) rfl (by decide +kernel) rfl rfl (Nat.le_of_ble_eq_true rfl) dX16_again_13 (fun H_3 locs hP hD hS => ?_)
  have hP : va_P (dC, dI) vwCl [(lp, .inr (0, [.int 0, .ref te, .int 0])), (h0, .inr (17, [.ref lp, .null, .null, .int 0, .int 1, .ref m1, .ref m2, .ref m3, .ref m4, .ref m5, .null, .null, .int 0, .ref m6, .int 0, .int 0, .int 0, .long 0, .null, .ref m7, .ref m8, .int 0, .int 0, .long 0]))] H_3 := hP
  have hD : va_D A [(lp, .inr (0, [.int 0, .ref te, .int 0])), (h0, .inr (17, [.ref lp, .null, .null, .int 0, .int 1, .ref m1, .ref m2, .ref m3, .ref m4, .ref m5, .null, .null, .int 0, .ref m6, .int 0, .int 0, .int 0, .long 0, .null, .ref m7, .ref m8, .int 0, .int 0, .long 0]))] := hD
  have hK : va_K (dC, dI) vwCl [] s := hK
  refine lv_aload_n hx hb dX16_again_16 rfl (lv_at hl 0 rfl) ?_
  refine va_get (D := (dC, dI)) (ci := 17) (v := .int 1) (C := RX16) (T := TX16) (N := 24) hx hb hts in_z_M_again_X16 hown hK hP 1 rfl rfl 4 (by decide) (hts (.fieldLink RX16 40 "SelfkindleModel" "thrown" "I") (List.mem_of_getElem? (i := 7) rfl)) (fun _ h9 => h9) rfl dX16_again_17 ?_
  refine lv_if_ne (tgt := 27) hx hb dX16_again_20 (by decide) (fun c9 => ?_) (fun c9 => absurd c9 (by decide))
  have hP := hP.sub (ws' := [(h0, .inr (17, [.ref lp, .null, .null, .int 0, .int 1, .ref m1, .ref m2, .ref m3, .ref m4, .ref m5, .null, .null, .int 0, .ref m6, .int 0, .int 0, .int 0, .long 0, .null, .ref m7, .ref m8, .int 0, .int 0, .long 0]))]) [1] rfl
  have hD := hD.sub (ws' := [(h0, .inr (17, [.ref lp, .null, .null, .int 0, .int 1, .ref m1, .ref m2, .ref m3, .ref m4, .ref m5, .null, .null, .int 0, .ref m6, .int 0, .int 0, .int 0, .long 0, .null, .ref m7, .ref m8, .int 0, .int 0, .long 0]))]) [1] (by decide) rfl
  have hK := hK.sub (tys' := []) [] rfl
  refine W.widen (k := 0) (n := 0) (Nat.le_of_ble_eq_true rfl) (Nat.le_of_ble_eq_true rfl) ?_
  exact W.vret hx hb hr (fun t ht hW => ⟨⟨(), rfl, trivial, ⟨by rw [ht]; exact hP, va_K.moved hW.alike hK, hD⟩⟩, hS.F ht⟩) hS.2.2 dX16_again_27

set_option maxRecDepth 20000 in
def z_M_value : List Cond := .code yX16_value cX16_value 1 (some .long) :: (([.methodLink RX16 229 yX16_isRight, .instanceMethod yX16_isRight, .selects RX16 yX16_isRight yX16_isRight, .initialized RX16, .code yX16_isRight cX16_isRight 1 (some .boolean), .fieldLink RX16 89 "SelfkindleModel" "told" "LSelfkindleModel$Term;", .fieldLink RX16 40 "SelfkindleModel" "thrown" "I"] : List Cond) ++ wsX160)
theorem in_z_M_value_X16 : ∀ w ∈ wsX160, w ∈ z_M_value := fun w h => List.mem_cons_of_mem _ (List.mem_append_right _ (h))
set_option maxRecDepth 20000 in
theorem g_M_value_2 : GoodIn z_M_value (wsV RX16 229 RX16 yX16_isRight z_isR) := goodIn_p _ [5] rfl (by decide +kernel)
set_option maxHeartbeats 4000000 in
set_option maxRecDepth 100000 in
theorem c_M_value (l : Launch) (dC : Nat → ClassId) (dI : Nat → Nat → Nat) (tp te : Nat) (sz : Nat) (h0 : Nat) (lp : Nat) (m1 : Nat) (m2 : Nat) (m3 : Nat) (m4 : Nat) (m5 : Nat) (m6 : Nat) (m7 : Nat) (m8 : Nat)  : Met l yX16_value z_M_value ({ frames := 1, cells := 0, slots := 0, locals := 20 }) (va_Pc [.ref h0] (Pw dC dI [(h0, .inr (17, [.ref lp, .null, .null, .int 0, .int 0, .ref m1, .ref m2, .ref m3, .ref m4, .ref m5, .null, .null, .int 0, .ref m6, .int 0, .int 0, .int 0, .long 0, .null, .ref m7, .ref m8, .int 0, .int 0, .long 0])), (lp, .inr (0, [.int 0, .ref te, .int 0]))] [] sz tp te)) (va_Ql (fun (r : Int64) (_ : Unit) => r = 0) (fun (_ : Unit) (t : State) => Bw dC dI [(h0, .inr (17, [.ref lp, .null, .null, .int 0, .int 1, .ref m1, .ref m2, .ref m3, .ref m4, .ref m5, .null, .null, .int 0, .ref m6, .int 0, .int 0, .int 0, .long 0, .null, .ref m7, .ref m8, .int 0, .int 0, .long 0]))] [] (va_A [(h0, .inr (17, [.ref lp, .null, .null, .int 0, .int 0, .ref m1, .ref m2, .ref m3, .ref m4, .ref m5, .null, .null, .int 0, .ref m6, .int 0, .int 0, .int 0, .long 0, .null, .ref m7, .ref m8, .int 0, .int 0, .long 0])), (lp, .inr (0, [.int 0, .ref te, .int 0]))] sz) t) (va_A [(h0, .inr (17, [.ref lp, .null, .null, .int 0, .int 0, .ref m1, .ref m2, .ref m3, .ref m4, .ref m5, .null, .null, .int 0, .ref m6, .int 0, .int 0, .int 0, .long 0, .null, .ref m7, .ref m8, .int 0, .int 0, .long 0])), (lp, .inr (0, [.int 0, .ref te, .int 0]))] sz)) 0 0 (va_A [(h0, .inr (17, [.ref lp, .null, .null, .int 0, .int 0, .ref m1, .ref m2, .ref m3, .ref m4, .ref m5, .null, .null, .int 0, .ref m6, .int 0, .int 0, .int 0, .long 0, .null, .ref m7, .ref m8, .int 0, .int 0, .long 0])), (lp, .inr (0, [.int 0, .ref te, .int 0]))] sz) := by
  refine Met.ofW (cc := cX16_value) (maxL := 1) (ret := (some .long)) (by decide) rfl ?_
  intro p e s m args below meth c s₁ B hml hv
  obtain ⟨rfl, hsz, hP, hK, hD0, hG⟩ := hv
  have hx := B.exec
  have hb := B.bytes
  have hr := B.returns
  have hts := atoms_spec (ws := z_M_value) B.pre
  have hown : s.vm.findClass RX16 = some m.cls := findClass_of_methodNamed B.named
  have hlocks := B.notSynchronized
  subst hsz
  have hD := hD0.self (sz := s.heap.size)
  generalize hAe : va_A [(h0, .inr (17, [.ref lp, .null, .null, .int 0, .int 0, .ref m1, .ref m2, .ref m3, .ref m4, .ref m5, .null, .null, .int 0, .ref m6, .int 0, .int 0, .int 0, .long 0, .null, .ref m7, .ref m8, .int 0, .int 0, .long 0])), (lp, .inr (0, [.int 0, .ref te, .int 0]))] s.heap.size = A at hD hG ⊢
  have hA : ∀ q : Nat, s.heap.size ≤ q → A q := fun q h => by rw [← hAe]; exact Or.inr h
  have hS : va_S A s.heap s.heap [] := va_S.rf
  have hl := lv_entry ([.ref h0]) (n := 1) (Nat.le_of_ble_eq_true rfl)
  rw [lg_entry_eq]
  generalize (lg_sl ([.ref h0]) ++ List.replicate (1 - (lg_sl ([.ref h0])).length) Slot.unset).toArray = ls at hl ⊢
  have hl : lv_has ls 1 [(0, .ref h0)] := hl
  refine lv_aload_n hx hb dX16_value_0 rfl (lv_at hl 0 rfl) ?_
  refine lv_aload_n hx hb dX16_value_1 rfl (lv_at hl 0 rfl) ?_
  have hPc := hP.sub (ws' := [(h0, .inr (17, [.ref lp, .null, .null, .int 0, .int 0, .ref m1, .ref m2, .ref m3, .ref m4, .ref m5, .null, .null, .int 0, .ref m6, .int 0, .int 0, .int 0, .long 0, .null, .ref m7, .ref m8, .int 0, .int 0, .long 0]))]) [0] rfl
  have hDc := hD.sub (ws' := [(h0, .inr (17, [.ref lp, .null, .null, .int 0, .int 0, .ref m1, .ref m2, .ref m3, .ref m4, .ref m5, .null, .null, .int 0, .ref m6, .int 0, .int 0, .int 0, .long 0, .null, .ref m7, .ref m8, .int 0, .int 0, .long 0]))]) [0] (by decide) rfl
  have hKc := hK.sub (tys' := []) [] rfl
  have hFc := va_free (wc := [(h0, .inr (17, [.ref lp, .null, .null, .int 0, .int 0, .ref m1, .ref m2, .ref m3, .ref m4, .ref m5, .null, .null, .int 0, .ref m6, .int 0, .int 0, .int 0, .long 0, .null, .ref m7, .ref m8, .int 0, .int 0, .long 0]))]) hD hS hA [0] rfl
  refine va_calli (va_runV (As := []) (rest := [.ref h0]) ⟨hx, hb, hml, hown, hts⟩ (c_isR l dC dI tp te s.heap.size h0 lp m1 m2 m3 m4 m5 m6 m7 m8) (cwV 0 hts g_M_value_2 rfl rfl rfl (by decide +kernel) ⟨Nat.le_of_ble_eq_true rfl, Nat.le_of_ble_eq_true rfl⟩) ⟨Pw.blind, va_recv hKc hPc (ci := 17) (q0 := 0) rfl rfl, Pw.mk hPc hKc hDc hG hS hFc⟩ rfl rfl hl.1 rfl (lv_room (Nat.le_of_ble_eq_true rfl)) dX16_value_2 ⟨Nat.le_of_ble_eq_true rfl, Nat.le_of_ble_eq_true rfl⟩) hS (fun q _ h => hFc q h) hFc (fun r u t9 H_1 locs ht hvm hw hB hz1 hk1 hS => ?_)
  have hw : r = 0 := hw
  subst hw
  obtain ⟨hP1, hK1, hD1⟩ := hB
  rw [ht] at hP1
  have hK1 := va_K.moved hvm.symm hK1
  obtain ⟨hP, hD⟩ := va_join (wr := [(lp, .inr (0, [.int 0, .ref te, .int 0]))]) (w1 := [(h0, .inr (17, [.ref lp, .null, .null, .int 0, .int 0, .ref m1, .ref m2, .ref m3, .ref m4, .ref m5, .null, .null, .int 0, .ref m6, .int 0, .int 0, .int 0, .long 0, .null, .ref m7, .ref m8, .int 0, .int 0, .long 0]))]) hP hD [0] [1] rfl rfl (by decide) (by decide) hk1 hFc hP1 hD1
  have hK := (hK.sub (tys' := []) [] rfl).app hK1
  have hP : va_P (dC, dI) vwCl [(lp, .inr (0, [.int 0, .ref te, .int 0])), (h0, .inr (17, [.ref lp, .null, .null, .int 0, .int 0, .ref m1, .ref m2, .ref m3, .ref m4, .ref m5, .null, .null, .int 0, .ref m6, .int 0, .int 0, .int 0, .long 0, .null, .ref m7, .ref m8, .int 0, .int 0, .long 0]))] H_1 := hP
  have hD : va_D A [(lp, .inr (0, [.int 0, .ref te, .int 0])), (h0, .inr (17, [.ref lp, .null, .null, .int 0, .int 0, .ref m1, .ref m2, .ref m3, .ref m4, .ref m5, .null, .null, .int 0, .ref m6, .int 0, .int 0, .int 0, .long 0, .null, .ref m7, .ref m8, .int 0, .int 0, .long 0]))] := hD
  have hK : va_K (dC, dI) vwCl [] s := hK
  refine W.widen (k := 0) (n := 0) (Nat.le_of_ble_eq_true rfl) (Nat.le_of_ble_eq_true rfl) ?_
  refine lv_if_eq (tgt := 28) hx hb dX16_value_5 (by decide) (fun c9 => ?_) (fun c9 => absurd (by decide) c9)
  refine lv_iconst (v := 1) hx hb dX16_value_28 (by decide) ?_
  refine va_put (D := (dC, dI)) (ci := 17) (v := .int 1) (ty := .int) (C := RX16) (T := TX16) (N := 24) hx hb hts in_z_M_value_X16 tyX16 tyX16_ok nmX16 hown hK hP hD hS 1 rfl rfl 4 (by decide) (hts (.fieldLink RX16 40 "SelfkindleModel" "thrown" "I") (List.mem_of_getElem? (i := 7) rfl)) (fun _ h9 => h9) rfl (by decide +kernel) rfl rfl (Nat.le_of_ble_eq_true rfl) dX16_value_29 (fun H_3 locs hP hD hS => ?_)
  have hP : va_P (dC, dI) vwCl [(lp, .inr (0, [.int 0, .ref te, .int 0])), (h0, .inr (17, [.ref lp, .null, .null, .int 0, .int 1, .ref m1, .ref m2, .ref m3, .ref m4, .ref m5, .null, .null, .int 0, .ref m6, .int 0, .int 0, .int 0, .long 0, .null, .ref m7, .ref m8, .int 0, .int 0, .long 0]))] H_3 := hP
  have hD : va_D A [(lp, .inr (0, [.int 0, .ref te, .int 0])), (h0, .inr (17, [.ref lp, .null, .null, .int 0, .int 1, .ref m1, .ref m2, .ref m3, .ref m4, .ref m5, .null, .null, .int 0, .ref m6, .int 0, .int 0, .int 0, .long 0, .null, .ref m7, .ref m8, .int 0, .int 0, .long 0]))] := hD
  have hK : va_K (dC, dI) vwCl [] s := hK
  refine lv_aload_n hx hb dX16_value_32 rfl (lv_at hl 0 rfl) ?_
  refine va_get (D := (dC, dI)) (ci := 17) (v := .int 1) (C := RX16) (T := TX16) (N := 24) hx hb hts in_z_M_value_X16 hown hK hP 1 rfl rfl 4 (by decide) (hts (.fieldLink RX16 40 "SelfkindleModel" "thrown" "I") (List.mem_of_getElem? (i := 7) rfl)) (fun _ h9 => h9) rfl dX16_value_33 ?_
  refine lv_if_le (tgt := 43) hx hb dX16_value_36 (by decide) (fun c9 => absurd c9 (by decide)) (fun c9 => ?_)
  refine lv_lconst (v := 0) hx hb dX16_value_39 (by decide) ?_
  refine lv_goto (tgt := 47) hx hb dX16_value_40 (by decide) ?_
  have hP := hP.sub (ws' := [(h0, .inr (17, [.ref lp, .null, .null, .int 0, .int 1, .ref m1, .ref m2, .ref m3, .ref m4, .ref m5, .null, .null, .int 0, .ref m6, .int 0, .int 0, .int 0, .long 0, .null, .ref m7, .ref m8, .int 0, .int 0, .long 0]))]) [1] rfl
  have hD := hD.sub (ws' := [(h0, .inr (17, [.ref lp, .null, .null, .int 0, .int 1, .ref m1, .ref m2, .ref m3, .ref m4, .ref m5, .null, .null, .int 0, .ref m6, .int 0, .int 0, .int 0, .long 0, .null, .ref m7, .ref m8, .int 0, .int 0, .long 0]))]) [1] (by decide) rfl
  have hK := hK.sub (tys' := []) [] rfl
  refine W.widen (k := 0) (n := 0) (Nat.le_of_ble_eq_true rfl) (Nat.le_of_ble_eq_true rfl) ?_
  exact W.lret (v := 0) hx hb hr (fun t ht hW => ⟨⟨0, (), rfl, rfl, ⟨by rw [ht]; exact hP, va_K.moved hW.alike hK, hD⟩⟩, hS.F ht⟩) hS.2.2 dX16_value_47

set_option maxRecDepth 20000 in
def z_M_valueAnew : List Cond := .code yX16_valueAnew cX16_valueAnew 2 (some .long) :: (([.methodLink RX16 229 yX16_isRight, .instanceMethod yX16_isRight, .selects RX16 yX16_isRight yX16_isRight, .initialized RX16, .code yX16_isRight cX16_isRight 1 (some .boolean), .fieldLink RX16 89 "SelfkindleModel" "told" "LSelfkindleModel$Term;", .fieldLink RX16 40 "SelfkindleModel" "thrown" "I"] : List Cond) ++ wsX160)
theorem in_z_M_valueAnew_X16 : ∀ w ∈ wsX160, w ∈ z_M_valueAnew := fun w h => List.mem_cons_of_mem _ (List.mem_append_right _ (h))
set_option maxRecDepth 20000 in
theorem g_M_valueAnew_2 : GoodIn z_M_valueAnew (wsV RX16 229 RX16 yX16_isRight z_isR) := goodIn_p _ [5] rfl (by decide +kernel)
set_option maxHeartbeats 4000000 in
set_option maxRecDepth 100000 in
theorem c_M_valueAnew (l : Launch) (dC : Nat → ClassId) (dI : Nat → Nat → Nat) (tp te : Nat) (sz : Nat) (h0 : Nat) (lp : Nat) (m1 : Nat) (m2 : Nat) (m3 : Nat) (m4 : Nat) (m5 : Nat) (m6 : Nat) (m7 : Nat) (m8 : Nat)  : Met l yX16_valueAnew z_M_valueAnew ({ frames := 1, cells := 0, slots := 0, locals := 20 }) (va_Pc [.ref h0] (Pw dC dI [(h0, .inr (17, [.ref lp, .null, .null, .int 0, .int 0, .ref m1, .ref m2, .ref m3, .ref m4, .ref m5, .null, .null, .int 0, .ref m6, .int 0, .int 0, .int 0, .long 0, .null, .ref m7, .ref m8, .int 0, .int 0, .long 0])), (lp, .inr (0, [.int 0, .ref te, .int 0]))] [] sz tp te)) (va_Ql (fun (r : Int64) (_ : Unit) => r = 0) (fun (_ : Unit) (t : State) => Bw dC dI [(h0, .inr (17, [.ref lp, .null, .null, .int 0, .int 1, .ref m1, .ref m2, .ref m3, .ref m4, .ref m5, .null, .null, .int 0, .ref m6, .int 0, .int 0, .int 0, .long 0, .null, .ref m7, .ref m8, .int 0, .int 0, .long 0]))] [] (va_A [(h0, .inr (17, [.ref lp, .null, .null, .int 0, .int 0, .ref m1, .ref m2, .ref m3, .ref m4, .ref m5, .null, .null, .int 0, .ref m6, .int 0, .int 0, .int 0, .long 0, .null, .ref m7, .ref m8, .int 0, .int 0, .long 0])), (lp, .inr (0, [.int 0, .ref te, .int 0]))] sz) t) (va_A [(h0, .inr (17, [.ref lp, .null, .null, .int 0, .int 0, .ref m1, .ref m2, .ref m3, .ref m4, .ref m5, .null, .null, .int 0, .ref m6, .int 0, .int 0, .int 0, .long 0, .null, .ref m7, .ref m8, .int 0, .int 0, .long 0])), (lp, .inr (0, [.int 0, .ref te, .int 0]))] sz)) 0 0 (va_A [(h0, .inr (17, [.ref lp, .null, .null, .int 0, .int 0, .ref m1, .ref m2, .ref m3, .ref m4, .ref m5, .null, .null, .int 0, .ref m6, .int 0, .int 0, .int 0, .long 0, .null, .ref m7, .ref m8, .int 0, .int 0, .long 0])), (lp, .inr (0, [.int 0, .ref te, .int 0]))] sz) := by
  refine Met.ofW (cc := cX16_valueAnew) (maxL := 2) (ret := (some .long)) (by decide) rfl ?_
  intro p e s m args below meth c s₁ B hml hv
  obtain ⟨rfl, hsz, hP, hK, hD0, hG⟩ := hv
  have hx := B.exec
  have hb := B.bytes
  have hr := B.returns
  have hts := atoms_spec (ws := z_M_valueAnew) B.pre
  have hown : s.vm.findClass RX16 = some m.cls := findClass_of_methodNamed B.named
  have hlocks := B.notSynchronized
  subst hsz
  have hD := hD0.self (sz := s.heap.size)
  generalize hAe : va_A [(h0, .inr (17, [.ref lp, .null, .null, .int 0, .int 0, .ref m1, .ref m2, .ref m3, .ref m4, .ref m5, .null, .null, .int 0, .ref m6, .int 0, .int 0, .int 0, .long 0, .null, .ref m7, .ref m8, .int 0, .int 0, .long 0])), (lp, .inr (0, [.int 0, .ref te, .int 0]))] s.heap.size = A at hD hG ⊢
  have hA : ∀ q : Nat, s.heap.size ≤ q → A q := fun q h => by rw [← hAe]; exact Or.inr h
  have hS : va_S A s.heap s.heap [] := va_S.rf
  have hl := lv_entry ([.ref h0]) (n := 2) (Nat.le_of_ble_eq_true rfl)
  rw [lg_entry_eq]
  generalize (lg_sl ([.ref h0]) ++ List.replicate (2 - (lg_sl ([.ref h0])).length) Slot.unset).toArray = ls at hl ⊢
  have hl : lv_has ls 2 [(0, .ref h0)] := hl
  refine lv_aload_n hx hb dX16_valueAnew_0 rfl (lv_at hl 0 rfl) ?_
  refine lv_aload_n hx hb dX16_valueAnew_1 rfl (lv_at hl 0 rfl) ?_
  have hPc := hP.sub (ws' := [(h0, .inr (17, [.ref lp, .null, .null, .int 0, .int 0, .ref m1, .ref m2, .ref m3, .ref m4, .ref m5, .null, .null, .int 0, .ref m6, .int 0, .int 0, .int 0, .long 0, .null, .ref m7, .ref m8, .int 0, .int 0, .long 0]))]) [0] rfl
  have hDc := hD.sub (ws' := [(h0, .inr (17, [.ref lp, .null, .null, .int 0, .int 0, .ref m1, .ref m2, .ref m3, .ref m4, .ref m5, .null, .null, .int 0, .ref m6, .int 0, .int 0, .int 0, .long 0, .null, .ref m7, .ref m8, .int 0, .int 0, .long 0]))]) [0] (by decide) rfl
  have hKc := hK.sub (tys' := []) [] rfl
  have hFc := va_free (wc := [(h0, .inr (17, [.ref lp, .null, .null, .int 0, .int 0, .ref m1, .ref m2, .ref m3, .ref m4, .ref m5, .null, .null, .int 0, .ref m6, .int 0, .int 0, .int 0, .long 0, .null, .ref m7, .ref m8, .int 0, .int 0, .long 0]))]) hD hS hA [0] rfl
  refine va_calli (va_runV (As := []) (rest := [.ref h0]) ⟨hx, hb, hml, hown, hts⟩ (c_isR l dC dI tp te s.heap.size h0 lp m1 m2 m3 m4 m5 m6 m7 m8) (cwV 0 hts g_M_valueAnew_2 rfl rfl rfl (by decide +kernel) ⟨Nat.le_of_ble_eq_true rfl, Nat.le_of_ble_eq_true rfl⟩) ⟨Pw.blind, va_recv hKc hPc (ci := 17) (q0 := 0) rfl rfl, Pw.mk hPc hKc hDc hG hS hFc⟩ rfl rfl hl.1 rfl (lv_room (Nat.le_of_ble_eq_true rfl)) dX16_valueAnew_2 ⟨Nat.le_of_ble_eq_true rfl, Nat.le_of_ble_eq_true rfl⟩) hS (fun q _ h => hFc q h) hFc (fun r u t9 H_1 locs ht hvm hw hB hz1 hk1 hS => ?_)
  have hw : r = 0 := hw
  subst hw
  obtain ⟨hP1, hK1, hD1⟩ := hB
  rw [ht] at hP1
  have hK1 := va_K.moved hvm.symm hK1
  obtain ⟨hP, hD⟩ := va_join (wr := [(lp, .inr (0, [.int 0, .ref te, .int 0]))]) (w1 := [(h0, .inr (17, [.ref lp, .null, .null, .int 0, .int 0, .ref m1, .ref m2, .ref m3, .ref m4, .ref m5, .null, .null, .int 0, .ref m6, .int 0, .int 0, .int 0, .long 0, .null, .ref m7, .ref m8, .int 0, .int 0, .long 0]))]) hP hD [0] [1] rfl rfl (by decide) (by decide) hk1 hFc hP1 hD1
  have hK := (hK.sub (tys' := []) [] rfl).app hK1
  have hP : va_P (dC, dI) vwCl [(lp, .inr (0, [.int 0, .ref te, .int 0])), (h0, .inr (17, [.ref lp, .null, .null, .int 0, .int 0, .ref m1, .ref m2, .ref m3, .ref m4, .ref m5, .null, .null, .int 0, .ref m6, .int 0, .int 0, .int 0, .long 0, .null, .ref m7, .ref m8, .int 0, .int 0, .long 0]))] H_1 := hP
  have hD : va_D A [(lp, .inr (0, [.int 0, .ref te, .int 0])), (h0, .inr (17, [.ref lp, .null, .null, .int 0, .int 0, .ref m1, .ref m2, .ref m3, .ref m4, .ref m5, .null, .null, .int 0, .ref m6, .int 0, .int 0, .int 0, .long 0, .null, .ref m7, .ref m8, .int 0, .int 0, .long 0]))] := hD
  have hK : va_K (dC, dI) vwCl [] s := hK
  refine W.widen (k := 0) (n := 0) (Nat.le_of_ble_eq_true rfl) (Nat.le_of_ble_eq_true rfl) ?_
  refine lv_if_eq (tgt := 12) hx hb dX16_valueAnew_5 (by decide) (fun c9 => ?_) (fun c9 => absurd (by decide) c9)
  refine lv_iconst (v := 1) hx hb dX16_valueAnew_12 (by decide) ?_
  refine va_put (D := (dC, dI)) (ci := 17) (v := .int 1) (ty := .int) (C := RX16) (T := TX16) (N := 24) hx hb hts in_z_M_valueAnew_X16 tyX16 tyX16_ok nmX16 hown hK hP hD hS 1 rfl rfl 4 (by decide) (hts (.fieldLink RX16 40 "SelfkindleModel" "thrown" "I") (List.mem_of_getElem? (i := 7) rfl)) (fun _ h9 => h9) rfl (by decide +kernel) rfl rfl (Nat.le_of_ble_eq_true rfl) dX16_valueAnew_13 (fun H_3 locs hP hD hS => ?_)
  have hP : va_P (dC, dI) vwCl [(lp, .inr (0, [.int 0, .ref te, .int 0])), (h0, .inr (17, [.ref lp, .null, .null, .int 0, .int 1, .ref m1, .ref m2, .ref m3, .ref m4, .ref m5, .null, .null, .int 0, .ref m6, .int 0, .int 0, .int 0, .long 0, .null, .ref m7, .ref m8, .int 0, .int 0, .long 0]))] H_3 := hP
  have hD : va_D A [(lp, .inr (0, [.int 0, .ref te, .int 0])), (h0, .inr (17, [.ref lp, .null, .null, .int 0, .int 1, .ref m1, .ref m2, .ref m3, .ref m4, .ref m5, .null, .null, .int 0, .ref m6, .int 0, .int 0, .int 0, .long 0, .null, .ref m7, .ref m8, .int 0, .int 0, .long 0]))] := hD
  have hK : va_K (dC, dI) vwCl [] s := hK
  refine lv_aload_n hx hb dX16_valueAnew_16 rfl (lv_at hl 0 rfl) ?_
  refine va_get (D := (dC, dI)) (ci := 17) (v := .int 1) (C := RX16) (T := TX16) (N := 24) hx hb hts in_z_M_valueAnew_X16 hown hK hP 1 rfl rfl 4 (by decide) (hts (.fieldLink RX16 40 "SelfkindleModel" "thrown" "I") (List.mem_of_getElem? (i := 7) rfl)) (fun _ h9 => h9) rfl dX16_valueAnew_17 ?_
  refine lv_if_le (tgt := 25) hx hb dX16_valueAnew_20 (by decide) (fun c9 => absurd c9 (by decide)) (fun c9 => ?_)
  refine lv_lconst (v := 0) hx hb dX16_valueAnew_23 (by decide) ?_
  have hP := hP.sub (ws' := [(h0, .inr (17, [.ref lp, .null, .null, .int 0, .int 1, .ref m1, .ref m2, .ref m3, .ref m4, .ref m5, .null, .null, .int 0, .ref m6, .int 0, .int 0, .int 0, .long 0, .null, .ref m7, .ref m8, .int 0, .int 0, .long 0]))]) [1] rfl
  have hD := hD.sub (ws' := [(h0, .inr (17, [.ref lp, .null, .null, .int 0, .int 1, .ref m1, .ref m2, .ref m3, .ref m4, .ref m5, .null, .null, .int 0, .ref m6, .int 0, .int 0, .int 0, .long 0, .null, .ref m7, .ref m8, .int 0, .int 0, .long 0]))]) [1] (by decide) rfl
  have hK := hK.sub (tys' := []) [] rfl
  refine W.widen (k := 0) (n := 0) (Nat.le_of_ble_eq_true rfl) (Nat.le_of_ble_eq_true rfl) ?_
  exact W.lret (v := 0) hx hb hr (fun t ht hW => ⟨⟨0, (), rfl, rfl, ⟨by rw [ht]; exact hP, va_K.moved hW.alike hK, hD⟩⟩, hS.F ht⟩) hS.2.2 dX16_valueAnew_24

set_option maxRecDepth 20000 in
def z_M_order : List Cond := .code yX16_order cX16_order 4 (some .long) :: (([.methodLink RX16 296 yX16_isOrder, .instanceMethod yX16_isOrder, .selects RX16 yX16_isOrder yX16_isOrder, .initialized RX16, .code yX16_isOrder cX16_isOrder 2 (some .boolean), .methodLink RX16 229 yX16_isRight, .instanceMethod yX16_isRight, .selects RX16 yX16_isRight yX16_isRight, .code yX16_isRight cX16_isRight 1 (some .boolean), .fieldLink RX16 89 "SelfkindleModel" "told" "LSelfkindleModel$Term;", .fieldLink RX16 40 "SelfkindleModel" "thrown" "I"] : List Cond) ++ wsX160)
theorem in_z_M_order_X16 : ∀ w ∈ wsX160, w ∈ z_M_order := fun w h => List.mem_cons_of_mem _ (List.mem_append_right _ (h))
set_option maxRecDepth 20000 in
theorem g_M_order_3 : GoodIn z_M_order (wsV RX16 296 RX16 yX16_isOrder z_isO) := goodIn_p _ [5, 9] rfl (by decide +kernel)
set_option maxHeartbeats 4000000 in
set_option maxRecDepth 100000 in
theorem c_M_order (l : Launch) (dC : Nat → ClassId) (dI : Nat → Nat → Nat) (tp te : Nat) (sz : Nat) (h0 : Nat) (lp : Nat) (m1 : Nat) (m2 : Nat) (m3 : Nat) (m4 : Nat) (m5 : Nat) (m6 : Nat) (m7 : Nat) (m8 : Nat) (p0 : Int32) (p1 : Int32)  : Met l yX16_order z_M_order ({ frames := 2, cells := 0, slots := 0, locals := 41 }) (va_Pc [.ref h0, .int p0, .int p1] (Pw dC dI [(h0, .inr (17, [.ref lp, .null, .null, .int 0, .int 0, .ref m1, .ref m2, .ref m3, .ref m4, .ref m5, .null, .null, .int 0, .ref m6, .int 0, .int 0, .int 0, .long 0, .null, .ref m7, .ref m8, .int 0, .int 0, .long 0])), (lp, .inr (0, [.int 0, .ref te, .int 0]))] [] sz tp te)) (va_Ql (fun (r : Int64) (_ : Unit) => r = 0) (fun (_ : Unit) (t : State) => Bw dC dI [(h0, .inr (17, [.ref lp, .null, .null, .int 0, .int 1, .ref m1, .ref m2, .ref m3, .ref m4, .ref m5, .null, .null, .int 0, .ref m6, .int 0, .int 0, .int 0, .long 0, .null, .ref m7, .ref m8, .int 0, .int 0, .long 0]))] [] (va_A [(h0, .inr (17, [.ref lp, .null, .null, .int 0, .int 0, .ref m1, .ref m2, .ref m3, .ref m4, .ref m5, .null, .null, .int 0, .ref m6, .int 0, .int 0, .int 0, .long 0, .null, .ref m7, .ref m8, .int 0, .int 0, .long 0])), (lp, .inr (0, [.int 0, .ref te, .int 0]))] sz) t) (va_A [(h0, .inr (17, [.ref lp, .null, .null, .int 0, .int 0, .ref m1, .ref m2, .ref m3, .ref m4, .ref m5, .null, .null, .int 0, .ref m6, .int 0, .int 0, .int 0, .long 0, .null, .ref m7, .ref m8, .int 0, .int 0, .long 0])), (lp, .inr (0, [.int 0, .ref te, .int 0]))] sz)) 0 0 (va_A [(h0, .inr (17, [.ref lp, .null, .null, .int 0, .int 0, .ref m1, .ref m2, .ref m3, .ref m4, .ref m5, .null, .null, .int 0, .ref m6, .int 0, .int 0, .int 0, .long 0, .null, .ref m7, .ref m8, .int 0, .int 0, .long 0])), (lp, .inr (0, [.int 0, .ref te, .int 0]))] sz) := by
  refine Met.ofW (cc := cX16_order) (maxL := 4) (ret := (some .long)) (by decide) rfl ?_
  intro p e s m args below meth c s₁ B hml hv
  obtain ⟨rfl, hsz, hP, hK, hD0, hG⟩ := hv
  have hx := B.exec
  have hb := B.bytes
  have hr := B.returns
  have hts := atoms_spec (ws := z_M_order) B.pre
  have hown : s.vm.findClass RX16 = some m.cls := findClass_of_methodNamed B.named
  have hlocks := B.notSynchronized
  subst hsz
  have hD := hD0.self (sz := s.heap.size)
  generalize hAe : va_A [(h0, .inr (17, [.ref lp, .null, .null, .int 0, .int 0, .ref m1, .ref m2, .ref m3, .ref m4, .ref m5, .null, .null, .int 0, .ref m6, .int 0, .int 0, .int 0, .long 0, .null, .ref m7, .ref m8, .int 0, .int 0, .long 0])), (lp, .inr (0, [.int 0, .ref te, .int 0]))] s.heap.size = A at hD hG ⊢
  have hA : ∀ q : Nat, s.heap.size ≤ q → A q := fun q h => by rw [← hAe]; exact Or.inr h
  have hS : va_S A s.heap s.heap [] := va_S.rf
  have hl := lv_entry ([.ref h0, .int p0, .int p1]) (n := 4) (Nat.le_of_ble_eq_true rfl)
  rw [lg_entry_eq]
  generalize (lg_sl ([.ref h0, .int p0, .int p1]) ++ List.replicate (4 - (lg_sl ([.ref h0, .int p0, .int p1])).length) Slot.unset).toArray = ls at hl ⊢
  have hl : lv_has ls 4 [(0, .ref h0), (1, .int p0), (2, .int p1)] := hl
  refine lv_aload_n hx hb dX16_order_0 rfl (lv_at hl 0 rfl) ?_
  refine lv_aload_n hx hb dX16_order_1 rfl (lv_at hl 0 rfl) ?_
  refine lv_iload_n hx hb dX16_order_2 rfl (lv_at hl 1 rfl) ?_
  have hPc := hP.sub (ws' := [(h0, .inr (17, [.ref lp, .null, .null, .int 0, .int 0, .ref m1, .ref m2, .ref m3, .ref m4, .ref m5, .null, .null, .int 0, .ref m6, .int 0, .int 0, .int 0, .long 0, .null, .ref m7, .ref m8, .int 0, .int 0, .long 0]))]) [0] rfl
  have hDc := hD.sub (ws' := [(h0, .inr (17, [.ref lp, .null, .null, .int 0, .int 0, .ref m1, .ref m2, .ref m3, .ref m4, .ref m5, .null, .null, .int 0, .ref m6, .int 0, .int 0, .int 0, .long 0, .null, .ref m7, .ref m8, .int 0, .int 0, .long 0]))]) [0] (by decide) rfl
  have hKc := hK.sub (tys' := []) [] rfl
  have hFc := va_free (wc := [(h0, .inr (17, [.ref lp, .null, .null, .int 0, .int 0, .ref m1, .ref m2, .ref m3, .ref m4, .ref m5, .null, .null, .int 0, .ref m6, .int 0, .int 0, .int 0, .long 0, .null, .ref m7, .ref m8, .int 0, .int 0, .long 0]))]) hD hS hA [0] rfl
  refine va_calli (va_runV (As := [.int p0]) (rest := [.ref h0]) ⟨hx, hb, hml, hown, hts⟩ (c_isO l dC dI tp te s.heap.size h0 lp m1 m2 m3 m4 m5 m6 m7 m8 p0) (cwV 1 hts g_M_order_3 rfl rfl rfl (by decide +kernel) ⟨Nat.le_of_ble_eq_true rfl, Nat.le_of_ble_eq_true rfl⟩) ⟨Pw.blind, va_recv hKc hPc (ci := 17) (q0 := 0) rfl rfl, Pw.mk hPc hKc hDc hG hS hFc⟩ rfl rfl hl.1 rfl (lv_room (Nat.le_of_ble_eq_true rfl)) dX16_order_3 ⟨Nat.le_of_ble_eq_true rfl, Nat.le_of_ble_eq_true rfl⟩) hS (fun q _ h => hFc q h) hFc (fun r u t9 H_1 locs ht hvm hw hB hz1 hk1 hS => ?_)
  have hw : r = 0 := hw
  subst hw
  obtain ⟨hP1, hK1, hD1⟩ := hB
  rw [ht] at hP1
  have hK1 := va_K.moved hvm.symm hK1
  obtain ⟨hP, hD⟩ := va_join (wr := [(lp, .inr (0, [.int 0, .ref te, .int 0]))]) (w1 := [(h0, .inr (17, [.ref lp, .null, .null, .int 0, .int 0, .ref m1, .ref m2, .ref m3, .ref m4, .ref m5, .null, .null, .int 0, .ref m6, .int 0, .int 0, .int 0, .long 0, .null, .ref m7, .ref m8, .int 0, .int 0, .long 0]))]) hP hD [0] [1] rfl rfl (by decide) (by decide) hk1 hFc hP1 hD1
  have hK := (hK.sub (tys' := []) [] rfl).app hK1
  have hP : va_P (dC, dI) vwCl [(lp, .inr (0, [.int 0, .ref te, .int 0])), (h0, .inr (17, [.ref lp, .null, .null, .int 0, .int 0, .ref m1, .ref m2, .ref m3, .ref m4, .ref m5, .null, .null, .int 0, .ref m6, .int 0, .int 0, .int 0, .long 0, .null, .ref m7, .ref m8, .int 0, .int 0, .long 0]))] H_1 := hP
  have hD : va_D A [(lp, .inr (0, [.int 0, .ref te, .int 0])), (h0, .inr (17, [.ref lp, .null, .null, .int 0, .int 0, .ref m1, .ref m2, .ref m3, .ref m4, .ref m5, .null, .null, .int 0, .ref m6, .int 0, .int 0, .int 0, .long 0, .null, .ref m7, .ref m8, .int 0, .int 0, .long 0]))] := hD
  have hK : va_K (dC, dI) vwCl [] s := hK
  refine W.widen (k := 0) (n := 0) (Nat.le_of_ble_eq_true rfl) (Nat.le_of_ble_eq_true rfl) ?_
  refine lv_if_ne (tgt := 13) hx hb dX16_order_6 (by decide) (fun c9 => absurd (by decide) c9) (fun c9 => ?_)
  refine lv_iconst (v := 1) hx hb dX16_order_9 (by decide) ?_
  refine lv_goto (tgt := 27) hx hb dX16_order_10 (by decide) ?_
  refine va_put (D := (dC, dI)) (ci := 17) (v := .int 1) (ty := .int) (C := RX16) (T := TX16) (N := 24) hx hb hts in_z_M_order_X16 tyX16 tyX16_ok nmX16 hown hK hP hD hS 1 rfl rfl 4 (by decide) (hts (.fieldLink RX16 40 "SelfkindleModel" "thrown" "I") (List.mem_of_getElem? (i := 11) rfl)) (fun _ h9 => h9) rfl (by decide +kernel) rfl rfl (Nat.le_of_ble_eq_true rfl) dX16_order_27 (fun H_3 locs hP hD hS => ?_)
  have hP : va_P (dC, dI) vwCl [(lp, .inr (0, [.int 0, .ref te, .int 0])), (h0, .inr (17, [.ref lp, .null, .null, .int 0, .int 1, .ref m1, .ref m2, .ref m3, .ref m4, .ref m5, .null, .null, .int 0, .ref m6, .int 0, .int 0, .int 0, .long 0, .null, .ref m7, .ref m8, .int 0, .int 0, .long 0]))] H_3 := hP
  have hD : va_D A [(lp, .inr (0, [.int 0, .ref te, .int 0])), (h0, .inr (17, [.ref lp, .null, .null, .int 0, .int 1, .ref m1, .ref m2, .ref m3, .ref m4, .ref m5, .null, .null, .int 0, .ref m6, .int 0, .int 0, .int 0, .long 0, .null, .ref m7, .ref m8, .int 0, .int 0, .long 0]))] := hD
  have hK : va_K (dC, dI) vwCl [] s := hK
  refine lv_aload_n hx hb dX16_order_30 rfl (lv_at hl 0 rfl) ?_
  refine va_get (D := (dC, dI)) (ci := 17) (v := .int 1) (C := RX16) (T := TX16) (N := 24) hx hb hts in_z_M_order_X16 hown hK hP 1 rfl rfl 4 (by decide) (hts (.fieldLink RX16 40 "SelfkindleModel" "thrown" "I") (List.mem_of_getElem? (i := 11) rfl)) (fun _ h9 => h9) rfl dX16_order_31 ?_
  refine lv_if_le (tgt := 39) hx hb dX16_order_34 (by decide) (fun c9 => absurd c9 (by decide)) (fun c9 => ?_)
  refine lv_lconst (v := 0) hx hb dX16_order_37 (by decide) ?_
  have hP := hP.sub (ws' := [(h0, .inr (17, [.ref lp, .null, .null, .int 0, .int 1, .ref m1, .ref m2, .ref m3, .ref m4, .ref m5, .null, .null, .int 0, .ref m6, .int 0, .int 0, .int 0, .long 0, .null, .ref m7, .ref m8, .int 0, .int 0, .long 0]))]) [1] rfl
  have hD := hD.sub (ws' := [(h0, .inr (17, [.ref lp, .null, .null, .int 0, .int 1, .ref m1, .ref m2, .ref m3, .ref m4, .ref m5, .null, .null, .int 0, .ref m6, .int 0, .int 0, .int 0, .long 0, .null, .ref m7, .ref m8, .int 0, .int 0, .long 0]))]) [1] (by decide) rfl
  have hK := hK.sub (tys' := []) [] rfl
  refine W.widen (k := 0) (n := 0) (Nat.le_of_ble_eq_true rfl) (Nat.le_of_ble_eq_true rfl) ?_
  exact W.lret (v := 0) hx hb hr (fun t ht hW => ⟨⟨0, (), rfl, rfl, ⟨by rw [ht]; exact hP, va_K.moved hW.alike hK, hD⟩⟩, hS.F ht⟩) hS.2.2 dX16_order_38

set_option maxRecDepth 20000 in
def z_M_stop : List Cond := .code yX16_stop cX16_stop 4 (some .boolean) :: (([.methodLink RX16 296 yX16_isOrder, .instanceMethod yX16_isOrder, .selects RX16 yX16_isOrder yX16_isOrder, .initialized RX16, .code yX16_isOrder cX16_isOrder 2 (some .boolean), .methodLink RX16 229 yX16_isRight, .instanceMethod yX16_isRight, .selects RX16 yX16_isRight yX16_isRight, .code yX16_isRight cX16_isRight 1 (some .boolean), .fieldLink RX16 89 "SelfkindleModel" "told" "LSelfkindleModel$Term;", .fieldLink RX16 40 "SelfkindleModel" "thrown" "I"] : List Cond) ++ wsX160)
theorem in_z_M_stop_X16 : ∀ w ∈ wsX160, w ∈ z_M_stop := fun w h => List.mem_cons_of_mem _ (List.mem_append_right _ (h))
set_option maxRecDepth 20000 in
theorem g_M_stop_3 : GoodIn z_M_stop (wsV RX16 296 RX16 yX16_isOrder z_isO) := goodIn_p _ [5, 9] rfl (by decide +kernel)
set_option maxHeartbeats 4000000 in
set_option maxRecDepth 100000 in
theorem c_M_stop (l : Launch) (dC : Nat → ClassId) (dI : Nat → Nat → Nat) (tp te : Nat) (sz : Nat) (h0 : Nat) (lp : Nat) (m1 : Nat) (m2 : Nat) (m3 : Nat) (m4 : Nat) (m5 : Nat) (m6 : Nat) (m7 : Nat) (m8 : Nat) (p0 : Int32) (p1 : Int32)  : Met l yX16_stop z_M_stop ({ frames := 2, cells := 0, slots := 0, locals := 41 }) (va_Pc [.ref h0, .int p0, .int p1] (Pw dC dI [(h0, .inr (17, [.ref lp, .null, .null, .int 0, .int 0, .ref m1, .ref m2, .ref m3, .ref m4, .ref m5, .null, .null, .int 0, .ref m6, .int 0, .int 0, .int 0, .long 0, .null, .ref m7, .ref m8, .int 0, .int 0, .long 0])), (lp, .inr (0, [.int 0, .ref te, .int 0]))] [] sz tp te)) (va_Qi (fun (r : Int32) (_ : Unit) => r = 0) (fun (_ : Unit) (t : State) => Bw dC dI [(h0, .inr (17, [.ref lp, .null, .null, .int 0, .int 1, .ref m1, .ref m2, .ref m3, .ref m4, .ref m5, .null, .null, .int 0, .ref m6, .int 0, .int 0, .int 0, .long 0, .null, .ref m7, .ref m8, .int 0, .int 0, .long 0]))] [] (va_A [(h0, .inr (17, [.ref lp, .null, .null, .int 0, .int 0, .ref m1, .ref m2, .ref m3, .ref m4, .ref m5, .null, .null, .int 0, .ref m6, .int 0, .int 0, .int 0, .long 0, .null, .ref m7, .ref m8, .int 0, .int 0, .long 0])), (lp, .inr (0, [.int 0, .ref te, .int 0]))] sz) t) (va_A [(h0, .inr (17, [.ref lp, .null, .null, .int 0, .int 0, .ref m1, .ref m2, .ref m3, .ref m4, .ref m5, .null, .null, .int 0, .ref m6, .int 0, .int 0, .int 0, .long 0, .null, .ref m7, .ref m8, .int 0, .int 0, .long 0])), (lp, .inr (0, [.int 0, .ref te, .int 0]))] sz)) 0 0 (va_A [(h0, .inr (17, [.ref lp, .null, .null, .int 0, .int 0, .ref m1, .ref m2, .ref m3, .ref m4, .ref m5, .null, .null, .int 0, .ref m6, .int 0, .int 0, .int 0, .long 0, .null, .ref m7, .ref m8, .int 0, .int 0, .long 0])), (lp, .inr (0, [.int 0, .ref te, .int 0]))] sz) := by
  refine Met.ofW (cc := cX16_stop) (maxL := 4) (ret := (some .boolean)) (by decide) rfl ?_
  intro p e s m args below meth c s₁ B hml hv
  obtain ⟨rfl, hsz, hP, hK, hD0, hG⟩ := hv
  have hx := B.exec
  have hb := B.bytes
  have hr := B.returns
  have hts := atoms_spec (ws := z_M_stop) B.pre
  have hown : s.vm.findClass RX16 = some m.cls := findClass_of_methodNamed B.named
  have hlocks := B.notSynchronized
  subst hsz
  have hD := hD0.self (sz := s.heap.size)
  generalize hAe : va_A [(h0, .inr (17, [.ref lp, .null, .null, .int 0, .int 0, .ref m1, .ref m2, .ref m3, .ref m4, .ref m5, .null, .null, .int 0, .ref m6, .int 0, .int 0, .int 0, .long 0, .null, .ref m7, .ref m8, .int 0, .int 0, .long 0])), (lp, .inr (0, [.int 0, .ref te, .int 0]))] s.heap.size = A at hD hG ⊢
  have hA : ∀ q : Nat, s.heap.size ≤ q → A q := fun q h => by rw [← hAe]; exact Or.inr h
  have hS : va_S A s.heap s.heap [] := va_S.rf
  have hl := lv_entry ([.ref h0, .int p0, .int p1]) (n := 4) (Nat.le_of_ble_eq_true rfl)
  rw [lg_entry_eq]
  generalize (lg_sl ([.ref h0, .int p0, .int p1]) ++ List.replicate (4 - (lg_sl ([.ref h0, .int p0, .int p1])).length) Slot.unset).toArray = ls at hl ⊢
  have hl : lv_has ls 4 [(0, .ref h0), (1, .int p0), (2, .int p1)] := hl
  refine lv_aload_n hx hb dX16_stop_0 rfl (lv_at hl 0 rfl) ?_
  refine lv_aload_n hx hb dX16_stop_1 rfl (lv_at hl 0 rfl) ?_
  refine lv_iload_n hx hb dX16_stop_2 rfl (lv_at hl 1 rfl) ?_
  have hPc := hP.sub (ws' := [(h0, .inr (17, [.ref lp, .null, .null, .int 0, .int 0, .ref m1, .ref m2, .ref m3, .ref m4, .ref m5, .null, .null, .int 0, .ref m6, .int 0, .int 0, .int 0, .long 0, .null, .ref m7, .ref m8, .int 0, .int 0, .long 0]))]) [0] rfl
  have hDc := hD.sub (ws' := [(h0, .inr (17, [.ref lp, .null, .null, .int 0, .int 0, .ref m1, .ref m2, .ref m3, .ref m4, .ref m5, .null, .null, .int 0, .ref m6, .int 0, .int 0, .int 0, .long 0, .null, .ref m7, .ref m8, .int 0, .int 0, .long 0]))]) [0] (by decide) rfl
  have hKc := hK.sub (tys' := []) [] rfl
  have hFc := va_free (wc := [(h0, .inr (17, [.ref lp, .null, .null, .int 0, .int 0, .ref m1, .ref m2, .ref m3, .ref m4, .ref m5, .null, .null, .int 0, .ref m6, .int 0, .int 0, .int 0, .long 0, .null, .ref m7, .ref m8, .int 0, .int 0, .long 0]))]) hD hS hA [0] rfl
  refine va_calli (va_runV (As := [.int p0]) (rest := [.ref h0]) ⟨hx, hb, hml, hown, hts⟩ (c_isO l dC dI tp te s.heap.size h0 lp m1 m2 m3 m4 m5 m6 m7 m8 p0) (cwV 1 hts g_M_stop_3 rfl rfl rfl (by decide +kernel) ⟨Nat.le_of_ble_eq_true rfl, Nat.le_of_ble_eq_true rfl⟩) ⟨Pw.blind, va_recv hKc hPc (ci := 17) (q0 := 0) rfl rfl, Pw.mk hPc hKc hDc hG hS hFc⟩ rfl rfl hl.1 rfl (lv_room (Nat.le_of_ble_eq_true rfl)) dX16_stop_3 ⟨Nat.le_of_ble_eq_true rfl, Nat.le_of_ble_eq_true rfl⟩) hS (fun q _ h => hFc q h) hFc (fun r u t9 H_1 locs ht hvm hw hB hz1 hk1 hS => ?_)
  have hw : r = 0 := hw
  subst hw
  obtain ⟨hP1, hK1, hD1⟩ := hB
  rw [ht] at hP1
  have hK1 := va_K.moved hvm.symm hK1
  obtain ⟨hP, hD⟩ := va_join (wr := [(lp, .inr (0, [.int 0, .ref te, .int 0]))]) (w1 := [(h0, .inr (17, [.ref lp, .null, .null, .int 0, .int 0, .ref m1, .ref m2, .ref m3, .ref m4, .ref m5, .null, .null, .int 0, .ref m6, .int 0, .int 0, .int 0, .long 0, .null, .ref m7, .ref m8, .int 0, .int 0, .long 0]))]) hP hD [0] [1] rfl rfl (by decide) (by decide) hk1 hFc hP1 hD1
  have hK := (hK.sub (tys' := []) [] rfl).app hK1
  have hP : va_P (dC, dI) vwCl [(lp, .inr (0, [.int 0, .ref te, .int 0])), (h0, .inr (17, [.ref lp, .null, .null, .int 0, .int 0, .ref m1, .ref m2, .ref m3, .ref m4, .ref m5, .null, .null, .int 0, .ref m6, .int 0, .int 0, .int 0, .long 0, .null, .ref m7, .ref m8, .int 0, .int 0, .long 0]))] H_1 := hP
  have hD : va_D A [(lp, .inr (0, [.int 0, .ref te, .int 0])), (h0, .inr (17, [.ref lp, .null, .null, .int 0, .int 0, .ref m1, .ref m2, .ref m3, .ref m4, .ref m5, .null, .null, .int 0, .ref m6, .int 0, .int 0, .int 0, .long 0, .null, .ref m7, .ref m8, .int 0, .int 0, .long 0]))] := hD
  have hK : va_K (dC, dI) vwCl [] s := hK
  refine W.widen (k := 0) (n := 0) (Nat.le_of_ble_eq_true rfl) (Nat.le_of_ble_eq_true rfl) ?_
  refine lv_if_eq (tgt := 13) hx hb dX16_stop_6 (by decide) (fun c9 => ?_) (fun c9 => absurd (by decide) c9)
  refine lv_iconst (v := 1) hx hb dX16_stop_13 (by decide) ?_
  refine va_put (D := (dC, dI)) (ci := 17) (v := .int 1) (ty := .int) (C := RX16) (T := TX16) (N := 24) hx hb hts in_z_M_stop_X16 tyX16 tyX16_ok nmX16 hown hK hP hD hS 1 rfl rfl 4 (by decide) (hts (.fieldLink RX16 40 "SelfkindleModel" "thrown" "I") (List.mem_of_getElem? (i := 11) rfl)) (fun _ h9 => h9) rfl (by decide +kernel) rfl rfl (Nat.le_of_ble_eq_true rfl) dX16_stop_14 (fun H_3 locs hP hD hS => ?_)
  have hP : va_P (dC, dI) vwCl [(lp, .inr (0, [.int 0, .ref te, .int 0])), (h0, .inr (17, [.ref lp, .null, .null, .int 0, .int 1, .ref m1, .ref m2, .ref m3, .ref m4, .ref m5, .null, .null, .int 0, .ref m6, .int 0, .int 0, .int 0, .long 0, .null, .ref m7, .ref m8, .int 0, .int 0, .long 0]))] H_3 := hP
  have hD : va_D A [(lp, .inr (0, [.int 0, .ref te, .int 0])), (h0, .inr (17, [.ref lp, .null, .null, .int 0, .int 1, .ref m1, .ref m2, .ref m3, .ref m4, .ref m5, .null, .null, .int 0, .ref m6, .int 0, .int 0, .int 0, .long 0, .null, .ref m7, .ref m8, .int 0, .int 0, .long 0]))] := hD
  have hK : va_K (dC, dI) vwCl [] s := hK
  refine lv_aload_n hx hb dX16_stop_17 rfl (lv_at hl 0 rfl) ?_
  refine va_get (D := (dC, dI)) (ci := 17) (v := .int 1) (C := RX16) (T := TX16) (N := 24) hx hb hts in_z_M_stop_X16 hown hK hP 1 rfl rfl 4 (by decide) (hts (.fieldLink RX16 40 "SelfkindleModel" "thrown" "I") (List.mem_of_getElem? (i := 11) rfl)) (fun _ h9 => h9) rfl dX16_stop_18 ?_
  refine lv_if_le (tgt := 26) hx hb dX16_stop_21 (by decide) (fun c9 => absurd c9 (by decide)) (fun c9 => ?_)
  refine lv_iconst (v := 0) hx hb dX16_stop_24 (by decide) ?_
  have hP := hP.sub (ws' := [(h0, .inr (17, [.ref lp, .null, .null, .int 0, .int 1, .ref m1, .ref m2, .ref m3, .ref m4, .ref m5, .null, .null, .int 0, .ref m6, .int 0, .int 0, .int 0, .long 0, .null, .ref m7, .ref m8, .int 0, .int 0, .long 0]))]) [1] rfl
  have hD := hD.sub (ws' := [(h0, .inr (17, [.ref lp, .null, .null, .int 0, .int 1, .ref m1, .ref m2, .ref m3, .ref m4, .ref m5, .null, .null, .int 0, .ref m6, .int 0, .int 0, .int 0, .long 0, .null, .ref m7, .ref m8, .int 0, .int 0, .long 0]))]) [1] (by decide) rfl
  have hK := hK.sub (tys' := []) [] rfl
  refine W.widen (k := 0) (n := 0) (Nat.le_of_ble_eq_true rfl) (Nat.le_of_ble_eq_true rfl) ?_
  exact W.zret (v := 0) (ty := .boolean) hx hb hr rfl (fun t ht hW => ⟨⟨0, (), rfl, rfl, ⟨by rw [ht]; exact hP, va_K.moved hW.alike hK, hD⟩⟩, hS.F ht⟩) hS.2.2 dX16_stop_25

set_option maxRecDepth 20000 in
def z_M_go_neg : List Cond := .code yX16_go cX16_go 4 (some .int) :: (([.fieldLink RX16 40 "SelfkindleModel" "thrown" "I"] : List Cond) ++ wsX160)
theorem in_z_M_go_neg_X16 : ∀ w ∈ wsX160, w ∈ z_M_go_neg := fun w h => List.mem_cons_of_mem _ (List.mem_append_right _ (h))
set_option maxHeartbeats 4000000 in
set_option maxRecDepth 100000 in
theorem c_M_go_neg (l : Launch) (dC : Nat → ClassId) (dI : Nat → Nat → Nat) (tp te : Nat) (sz : Nat) (h0 : Nat) (lp : Nat) (m1 : Nat) (m2 : Nat) (m3 : Nat) (m4 : Nat) (m5 : Nat) (m6 : Nat) (m7 : Nat) (m8 : Nat) (p0 : Int32) (hv0 : p0 < 1) : Met l yX16_go z_M_go_neg ({ frames := 0, cells := 0, slots := 0, locals := 0 }) (va_Pc [.ref h0, .int p0] (Pw dC dI [(h0, .inr (17, [.ref lp, .null, .null, .int 0, .int 0, .ref m1, .ref m2, .ref m3, .ref m4, .ref m5, .null, .null, .int 0, .ref m6, .int 0, .int 0, .int 0, .long 0, .null, .ref m7, .ref m8, .int 0, .int 0, .long 0])), (lp, .inr (0, [.int 0, .ref te, .int 0]))] [] sz tp te)) (va_Qi (fun (r : Int32) (_ : Unit) => r = 0) (fun (_ : Unit) (t : State) => Bw dC dI [(h0, .inr (17, [.ref lp, .null, .null, .int 0, .int 1, .ref m1, .ref m2, .ref m3, .ref m4, .ref m5, .null, .null, .int 0, .ref m6, .int 0, .int 0, .int 0, .long 0, .null, .ref m7, .ref m8, .int 0, .int 0, .long 0]))] [] (va_A [(h0, .inr (17, [.ref lp, .null, .null, .int 0, .int 0, .ref m1, .ref m2, .ref m3, .ref m4, .ref m5, .null, .null, .int 0, .ref m6, .int 0, .int 0, .int 0, .long 0, .null, .ref m7, .ref m8, .int 0, .int 0, .long 0])), (lp, .inr (0, [.int 0, .ref te, .int 0]))] sz) t) (va_A [(h0, .inr (17, [.ref lp, .null, .null, .int 0, .int 0, .ref m1, .ref m2, .ref m3, .ref m4, .ref m5, .null, .null, .int 0, .ref m6, .int 0, .int 0, .int 0, .long 0, .null, .ref m7, .ref m8, .int 0, .int 0, .long 0])), (lp, .inr (0, [.int 0, .ref te, .int 0]))] sz)) 0 0 (va_A [(h0, .inr (17, [.ref lp, .null, .null, .int 0, .int 0, .ref m1, .ref m2, .ref m3, .ref m4, .ref m5, .null, .null, .int 0, .ref m6, .int 0, .int 0, .int 0, .long 0, .null, .ref m7, .ref m8, .int 0, .int 0, .long 0])), (lp, .inr (0, [.int 0, .ref te, .int 0]))] sz) := by
  refine Met.ofW (cc := cX16_go) (maxL := 4) (ret := (some .int)) (by decide) rfl ?_
  intro p e s m args below meth c s₁ B hml hv
  obtain ⟨rfl, hsz, hP, hK, hD0, hG⟩ := hv
  have hx := B.exec
  have hb := B.bytes
  have hr := B.returns
  have hts := atoms_spec (ws := z_M_go_neg) B.pre
  have hown : s.vm.findClass RX16 = some m.cls := findClass_of_methodNamed B.named
  have hlocks := B.notSynchronized
  subst hsz
  have hD := hD0.self (sz := s.heap.size)
  generalize hAe : va_A [(h0, .inr (17, [.ref lp, .null, .null, .int 0, .int 0, .ref m1, .ref m2, .ref m3, .ref m4, .ref m5, .null, .null, .int 0, .ref m6, .int 0, .int 0, .int 0, .long 0, .null, .ref m7, .ref m8, .int 0, .int 0, .long 0])), (lp, .inr (0, [.int 0, .ref te, .int 0]))] s.heap.size = A at hD hG ⊢
  have hA : ∀ q : Nat, s.heap.size ≤ q → A q := fun q h => by rw [← hAe]; exact Or.inr h
  have hS : va_S A s.heap s.heap [] := va_S.rf
  have hl := lv_entry ([.ref h0, .int p0]) (n := 4) (Nat.le_of_ble_eq_true rfl)
  rw [lg_entry_eq]
  generalize (lg_sl ([.ref h0, .int p0]) ++ List.replicate (4 - (lg_sl ([.ref h0, .int p0])).length) Slot.unset).toArray = ls at hl ⊢
  have hl : lv_has ls 4 [(0, .ref h0), (1, .int p0)] := hl
  refine lv_aload_n hx hb dX16_go_0 rfl (lv_at hl 0 rfl) ?_
  refine lv_iload_n hx hb dX16_go_1 rfl (lv_at hl 1 rfl) ?_
  refine lv_iconst (v := 1) hx hb dX16_go_2 (by decide) ?_
  refine lv_icmp_lt (tgt := 13) hx hb dX16_go_3 (by decide) (fun c9 => ?_) (fun c9 => absurd hv0 c9)
  refine lv_iconst (v := 1) hx hb dX16_go_13 (by decide) ?_
  refine lv_goto (tgt := 36) hx hb dX16_go_14 (by decide) ?_
  refine va_put (D := (dC, dI)) (ci := 17) (v := .int 1) (ty := .int) (C := RX16) (T := TX16) (N := 24) hx hb hts in_z_M_go_neg_X16 tyX16 tyX16_ok nmX16 hown hK hP hD hS 0 rfl rfl 4 (by decide) (hts (.fieldLink RX16 40 "SelfkindleModel" "thrown" "I") (List.mem_of_getElem? (i := 1) rfl)) (fun _ h9 => h9) rfl (by decide +kernel) rfl rfl (Nat.le_of_ble_eq_true rfl) dX16_go_36 (fun H_1 locs hP hD hS => ?_)
  have hP : va_P (dC, dI) vwCl [(h0, .inr (17, [.ref lp, .null, .null, .int 0, .int 1, .ref m1, .ref m2, .ref m3, .ref m4, .ref m5, .null, .null, .int 0, .ref m6, .int 0, .int 0, .int 0, .long 0, .null, .ref m7, .ref m8, .int 0, .int 0, .long 0])), (lp, .inr (0, [.int 0, .ref te, .int 0]))] H_1 := hP
  have hD : va_D A [(h0, .inr (17, [.ref lp, .null, .null, .int 0, .int 1, .ref m1, .ref m2, .ref m3, .ref m4, .ref m5, .null, .null, .int 0, .ref m6, .int 0, .int 0, .int 0, .long 0, .null, .ref m7, .ref m8, .int 0, .int 0, .long 0])), (lp, .inr (0, [.int 0, .ref te, .int 0]))] := hD
  have hK : va_K (dC, dI) vwCl [] s := hK
  refine lv_aload_n hx hb dX16_go_39 rfl (lv_at hl 0 rfl) ?_
  refine va_get (D := (dC, dI)) (ci := 17) (v := .int 1) (C := RX16) (T := TX16) (N := 24) hx hb hts in_z_M_go_neg_X16 hown hK hP 0 rfl rfl 4 (by decide) (hts (.fieldLink RX16 40 "SelfkindleModel" "thrown" "I") (List.mem_of_getElem? (i := 1) rfl)) (fun _ h9 => h9) rfl dX16_go_40 ?_
  refine lv_if_le (tgt := 48) hx hb dX16_go_43 (by decide) (fun c9 => absurd c9 (by decide)) (fun c9 => ?_)
  refine lv_iconst (v := 0) hx hb dX16_go_46 (by decide) ?_
  have hP := hP.sub (ws' := [(h0, .inr (17, [.ref lp, .null, .null, .int 0, .int 1, .ref m1, .ref m2, .ref m3, .ref m4, .ref m5, .null, .null, .int 0, .ref m6, .int 0, .int 0, .int 0, .long 0, .null, .ref m7, .ref m8, .int 0, .int 0, .long 0]))]) [0] rfl
  have hD := hD.sub (ws' := [(h0, .inr (17, [.ref lp, .null, .null, .int 0, .int 1, .ref m1, .ref m2, .ref m3, .ref m4, .ref m5, .null, .null, .int 0, .ref m6, .int 0, .int 0, .int 0, .long 0, .null, .ref m7, .ref m8, .int 0, .int 0, .long 0]))]) [0] (by decide) rfl
  have hK := hK.sub (tys' := []) [] rfl
  refine W.widen (k := 0) (n := 0) (Nat.le_of_ble_eq_true rfl) (Nat.le_of_ble_eq_true rfl) ?_
  exact W.iret (v := 0) hx hb hr (fun t ht hW => ⟨⟨0, (), rfl, rfl, ⟨by rw [ht]; exact hP, va_K.moved hW.alike hK, hD⟩⟩, hS.F ht⟩) hS.2.2 dX16_go_47

set_option maxRecDepth 20000 in
def z_M_go_big : List Cond := .code yX16_go cX16_go 4 (some .int) :: (([.fieldLink RX16 40 "SelfkindleModel" "thrown" "I"] : List Cond) ++ wsX160)
theorem in_z_M_go_big_X16 : ∀ w ∈ wsX160, w ∈ z_M_go_big := fun w h => List.mem_cons_of_mem _ (List.mem_append_right _ (h))
set_option maxHeartbeats 4000000 in
set_option maxRecDepth 100000 in
theorem c_M_go_big (l : Launch) (dC : Nat → ClassId) (dI : Nat → Nat → Nat) (tp te : Nat) (sz : Nat) (h0 : Nat) (lp : Nat) (m1 : Nat) (m2 : Nat) (m3 : Nat) (m4 : Nat) (m5 : Nat) (m6 : Nat) (m7 : Nat) (m8 : Nat) (p0 : Int32) (hv0 : ¬ p0 < 1) (hv1 : ¬ p0 ≤ 2000) : Met l yX16_go z_M_go_big ({ frames := 0, cells := 0, slots := 0, locals := 0 }) (va_Pc [.ref h0, .int p0] (Pw dC dI [(h0, .inr (17, [.ref lp, .null, .null, .int 0, .int 0, .ref m1, .ref m2, .ref m3, .ref m4, .ref m5, .null, .null, .int 0, .ref m6, .int 0, .int 0, .int 0, .long 0, .null, .ref m7, .ref m8, .int 0, .int 0, .long 0])), (lp, .inr (0, [.int 0, .ref te, .int 0]))] [] sz tp te)) (va_Qi (fun (r : Int32) (_ : Unit) => r = 0) (fun (_ : Unit) (t : State) => Bw dC dI [(h0, .inr (17, [.ref lp, .null, .null, .int 0, .int 1, .ref m1, .ref m2, .ref m3, .ref m4, .ref m5, .null, .null, .int 0, .ref m6, .int 0, .int 0, .int 0, .long 0, .null, .ref m7, .ref m8, .int 0, .int 0, .long 0]))] [] (va_A [(h0, .inr (17, [.ref lp, .null, .null, .int 0, .int 0, .ref m1, .ref m2, .ref m3, .ref m4, .ref m5, .null, .null, .int 0, .ref m6, .int 0, .int 0, .int 0, .long 0, .null, .ref m7, .ref m8, .int 0, .int 0, .long 0])), (lp, .inr (0, [.int 0, .ref te, .int 0]))] sz) t) (va_A [(h0, .inr (17, [.ref lp, .null, .null, .int 0, .int 0, .ref m1, .ref m2, .ref m3, .ref m4, .ref m5, .null, .null, .int 0, .ref m6, .int 0, .int 0, .int 0, .long 0, .null, .ref m7, .ref m8, .int 0, .int 0, .long 0])), (lp, .inr (0, [.int 0, .ref te, .int 0]))] sz)) 0 0 (va_A [(h0, .inr (17, [.ref lp, .null, .null, .int 0, .int 0, .ref m1, .ref m2, .ref m3, .ref m4, .ref m5, .null, .null, .int 0, .ref m6, .int 0, .int 0, .int 0, .long 0, .null, .ref m7, .ref m8, .int 0, .int 0, .long 0])), (lp, .inr (0, [.int 0, .ref te, .int 0]))] sz) := by
  refine Met.ofW (cc := cX16_go) (maxL := 4) (ret := (some .int)) (by decide) rfl ?_
  intro p e s m args below meth c s₁ B hml hv
  obtain ⟨rfl, hsz, hP, hK, hD0, hG⟩ := hv
  have hx := B.exec
  have hb := B.bytes
  have hr := B.returns
  have hts := atoms_spec (ws := z_M_go_big) B.pre
  have hown : s.vm.findClass RX16 = some m.cls := findClass_of_methodNamed B.named
  have hlocks := B.notSynchronized
  subst hsz
  have hD := hD0.self (sz := s.heap.size)
  generalize hAe : va_A [(h0, .inr (17, [.ref lp, .null, .null, .int 0, .int 0, .ref m1, .ref m2, .ref m3, .ref m4, .ref m5, .null, .null, .int 0, .ref m6, .int 0, .int 0, .int 0, .long 0, .null, .ref m7, .ref m8, .int 0, .int 0, .long 0])), (lp, .inr (0, [.int 0, .ref te, .int 0]))] s.heap.size = A at hD hG ⊢
  have hA : ∀ q : Nat, s.heap.size ≤ q → A q := fun q h => by rw [← hAe]; exact Or.inr h
  have hS : va_S A s.heap s.heap [] := va_S.rf
  have hl := lv_entry ([.ref h0, .int p0]) (n := 4) (Nat.le_of_ble_eq_true rfl)
  rw [lg_entry_eq]
  generalize (lg_sl ([.ref h0, .int p0]) ++ List.replicate (4 - (lg_sl ([.ref h0, .int p0])).length) Slot.unset).toArray = ls at hl ⊢
  have hl : lv_has ls 4 [(0, .ref h0), (1, .int p0)] := hl
  refine lv_aload_n hx hb dX16_go_0 rfl (lv_at hl 0 rfl) ?_
  refine lv_iload_n hx hb dX16_go_1 rfl (lv_at hl 1 rfl) ?_
  refine lv_iconst (v := 1) hx hb dX16_go_2 (by decide) ?_
  refine lv_icmp_lt (tgt := 13) hx hb dX16_go_3 (by decide) (fun c9 => absurd c9 hv0) (fun c9 => ?_)
  refine lv_iload_n hx hb dX16_go_6 rfl (lv_at hl 1 rfl) ?_
  refine lv_sipush (v := 2000) hx hb dX16_go_7 (by decide) ?_
  refine lv_icmp_le (tgt := 17) hx hb dX16_go_10 (by decide) (fun c9 => absurd c9 hv1) (fun c9 => ?_)
  refine lv_iconst (v := 1) hx hb dX16_go_13 (by decide) ?_
  refine lv_goto (tgt := 36) hx hb dX16_go_14 (by decide) ?_
  refine va_put (D := (dC, dI)) (ci := 17) (v := .int 1) (ty := .int) (C := RX16) (T := TX16) (N := 24) hx hb hts in_z_M_go_big_X16 tyX16 tyX16_ok nmX16 hown hK hP hD hS 0 rfl rfl 4 (by decide) (hts (.fieldLink RX16 40 "SelfkindleModel" "thrown" "I") (List.mem_of_getElem? (i := 1) rfl)) (fun _ h9 => h9) rfl (by decide +kernel) rfl rfl (Nat.le_of_ble_eq_true rfl) dX16_go_36 (fun H_1 locs hP hD hS => ?_)
  have hP : va_P (dC, dI) vwCl [(h0, .inr (17, [.ref lp, .null, .null, .int 0, .int 1, .ref m1, .ref m2, .ref m3, .ref m4, .ref m5, .null, .null, .int 0, .ref m6, .int 0, .int 0, .int 0, .long 0, .null, .ref m7, .ref m8, .int 0, .int 0, .long 0])), (lp, .inr (0, [.int 0, .ref te, .int 0]))] H_1 := hP
  have hD : va_D A [(h0, .inr (17, [.ref lp, .null, .null, .int 0, .int 1, .ref m1, .ref m2, .ref m3, .ref m4, .ref m5, .null, .null, .int 0, .ref m6, .int 0, .int 0, .int 0, .long 0, .null, .ref m7, .ref m8, .int 0, .int 0, .long 0])), (lp, .inr (0, [.int 0, .ref te, .int 0]))] := hD
  have hK : va_K (dC, dI) vwCl [] s := hK
  refine lv_aload_n hx hb dX16_go_39 rfl (lv_at hl 0 rfl) ?_
  refine va_get (D := (dC, dI)) (ci := 17) (v := .int 1) (C := RX16) (T := TX16) (N := 24) hx hb hts in_z_M_go_big_X16 hown hK hP 0 rfl rfl 4 (by decide) (hts (.fieldLink RX16 40 "SelfkindleModel" "thrown" "I") (List.mem_of_getElem? (i := 1) rfl)) (fun _ h9 => h9) rfl dX16_go_40 ?_
  refine lv_if_le (tgt := 48) hx hb dX16_go_43 (by decide) (fun c9 => absurd c9 (by decide)) (fun c9 => ?_)
  refine lv_iconst (v := 0) hx hb dX16_go_46 (by decide) ?_
  have hP := hP.sub (ws' := [(h0, .inr (17, [.ref lp, .null, .null, .int 0, .int 1, .ref m1, .ref m2, .ref m3, .ref m4, .ref m5, .null, .null, .int 0, .ref m6, .int 0, .int 0, .int 0, .long 0, .null, .ref m7, .ref m8, .int 0, .int 0, .long 0]))]) [0] rfl
  have hD := hD.sub (ws' := [(h0, .inr (17, [.ref lp, .null, .null, .int 0, .int 1, .ref m1, .ref m2, .ref m3, .ref m4, .ref m5, .null, .null, .int 0, .ref m6, .int 0, .int 0, .int 0, .long 0, .null, .ref m7, .ref m8, .int 0, .int 0, .long 0]))]) [0] (by decide) rfl
  have hK := hK.sub (tys' := []) [] rfl
  refine W.widen (k := 0) (n := 0) (Nat.le_of_ble_eq_true rfl) (Nat.le_of_ble_eq_true rfl) ?_
  exact W.iret (v := 0) hx hb hr (fun t ht hW => ⟨⟨0, (), rfl, rfl, ⟨by rw [ht]; exact hP, va_K.moved hW.alike hK, hD⟩⟩, hS.F ht⟩) hS.2.2 dX16_go_47

set_option maxRecDepth 20000 in
def z_M_go_ok : List Cond := .code yX16_go cX16_go 4 (some .int) :: (([.methodLink RX16 229 yX16_isRight, .instanceMethod yX16_isRight, .selects RX16 yX16_isRight yX16_isRight, .initialized RX16, .code yX16_isRight cX16_isRight 1 (some .boolean), .fieldLink RX16 89 "SelfkindleModel" "told" "LSelfkindleModel$Term;", .fieldLink RX16 40 "SelfkindleModel" "thrown" "I"] : List Cond) ++ wsX160)
theorem in_z_M_go_ok_X16 : ∀ w ∈ wsX160, w ∈ z_M_go_ok := fun w h => List.mem_cons_of_mem _ (List.mem_append_right _ (h))
set_option maxRecDepth 20000 in
theorem g_M_go_ok_18 : GoodIn z_M_go_ok (wsV RX16 229 RX16 yX16_isRight z_isR) := goodIn_p _ [5] rfl (by decide +kernel)
set_option maxHeartbeats 4000000 in
set_option maxRecDepth 100000 in
theorem c_M_go_ok (l : Launch) (dC : Nat → ClassId) (dI : Nat → Nat → Nat) (tp te : Nat) (sz : Nat) (h0 : Nat) (lp : Nat) (m1 : Nat) (m2 : Nat) (m3 : Nat) (m4 : Nat) (m5 : Nat) (m6 : Nat) (m7 : Nat) (m8 : Nat) (p0 : Int32) (hv0 : ¬ p0 < 1) (hv1 : p0 ≤ 2000) : Met l yX16_go z_M_go_ok ({ frames := 1, cells := 0, slots := 0, locals := 20 }) (va_Pc [.ref h0, .int p0] (Pw dC dI [(h0, .inr (17, [.ref lp, .null, .null, .int 0, .int 0, .ref m1, .ref m2, .ref m3, .ref m4, .ref m5, .null, .null, .int 0, .ref m6, .int 0, .int 0, .int 0, .long 0, .null, .ref m7, .ref m8, .int 0, .int 0, .long 0])), (lp, .inr (0, [.int 0, .ref te, .int 0]))] [] sz tp te)) (va_Qi (fun (r : Int32) (_ : Unit) => r = 0) (fun (_ : Unit) (t : State) => Bw dC dI [(h0, .inr (17, [.ref lp, .null, .null, .int 0, .int 2, .ref m1, .ref m2, .ref m3, .ref m4, .ref m5, .null, .null, .int 0, .ref m6, .int 0, .int 0, .int 0, .long 0, .null, .ref m7, .ref m8, .int 0, .int 0, .long 0]))] [] (va_A [(h0, .inr (17, [.ref lp, .null, .null, .int 0, .int 0, .ref m1, .ref m2, .ref m3, .ref m4, .ref m5, .null, .null, .int 0, .ref m6, .int 0, .int 0, .int 0, .long 0, .null, .ref m7, .ref m8, .int 0, .int 0, .long 0])), (lp, .inr (0, [.int 0, .ref te, .int 0]))] sz) t) (va_A [(h0, .inr (17, [.ref lp, .null, .null, .int 0, .int 0, .ref m1, .ref m2, .ref m3, .ref m4, .ref m5, .null, .null, .int 0, .ref m6, .int 0, .int 0, .int 0, .long 0, .null, .ref m7, .ref m8, .int 0, .int 0, .long 0])), (lp, .inr (0, [.int 0, .ref te, .int 0]))] sz)) 0 0 (va_A [(h0, .inr (17, [.ref lp, .null, .null, .int 0, .int 0, .ref m1, .ref m2, .ref m3, .ref m4, .ref m5, .null, .null, .int 0, .ref m6, .int 0, .int 0, .int 0, .long 0, .null, .ref m7, .ref m8, .int 0, .int 0, .long 0])), (lp, .inr (0, [.int 0, .ref te, .int 0]))] sz) := by
  refine Met.ofW (cc := cX16_go) (maxL := 4) (ret := (some .int)) (by decide) rfl ?_
  intro p e s m args below meth c s₁ B hml hv
  obtain ⟨rfl, hsz, hP, hK, hD0, hG⟩ := hv
  have hx := B.exec
  have hb := B.bytes
  have hr := B.returns
  have hts := atoms_spec (ws := z_M_go_ok) B.pre
  have hown : s.vm.findClass RX16 = some m.cls := findClass_of_methodNamed B.named
  have hlocks := B.notSynchronized
  subst hsz
  have hD := hD0.self (sz := s.heap.size)
  generalize hAe : va_A [(h0, .inr (17, [.ref lp, .null, .null, .int 0, .int 0, .ref m1, .ref m2, .ref m3, .ref m4, .ref m5, .null, .null, .int 0, .ref m6, .int 0, .int 0, .int 0, .long 0, .null, .ref m7, .ref m8, .int 0, .int 0, .long 0])), (lp, .inr (0, [.int 0, .ref te, .int 0]))] s.heap.size = A at hD hG ⊢
  have hA : ∀ q : Nat, s.heap.size ≤ q → A q := fun q h => by rw [← hAe]; exact Or.inr h
  have hS : va_S A s.heap s.heap [] := va_S.rf
  have hl := lv_entry ([.ref h0, .int p0]) (n := 4) (Nat.le_of_ble_eq_true rfl)
  rw [lg_entry_eq]
  generalize (lg_sl ([.ref h0, .int p0]) ++ List.replicate (4 - (lg_sl ([.ref h0, .int p0])).length) Slot.unset).toArray = ls at hl ⊢
  have hl : lv_has ls 4 [(0, .ref h0), (1, .int p0)] := hl
  refine lv_aload_n hx hb dX16_go_0 rfl (lv_at hl 0 rfl) ?_
  refine lv_iload_n hx hb dX16_go_1 rfl (lv_at hl 1 rfl) ?_
  refine lv_iconst (v := 1) hx hb dX16_go_2 (by decide) ?_
  refine lv_icmp_lt (tgt := 13) hx hb dX16_go_3 (by decide) (fun c9 => absurd c9 hv0) (fun c9 => ?_)
  refine lv_iload_n hx hb dX16_go_6 rfl (lv_at hl 1 rfl) ?_
  refine lv_sipush (v := 2000) hx hb dX16_go_7 (by decide) ?_
  refine lv_icmp_le (tgt := 17) hx hb dX16_go_10 (by decide) (fun c9 => ?_) (fun c9 => absurd hv1 c9)
  refine lv_aload_n hx hb dX16_go_17 rfl (lv_at hl 0 rfl) ?_
  have hPc := hP.sub (ws' := [(h0, .inr (17, [.ref lp, .null, .null, .int 0, .int 0, .ref m1, .ref m2, .ref m3, .ref m4, .ref m5, .null, .null, .int 0, .ref m6, .int 0, .int 0, .int 0, .long 0, .null, .ref m7, .ref m8, .int 0, .int 0, .long 0]))]) [0] rfl
  have hDc := hD.sub (ws' := [(h0, .inr (17, [.ref lp, .null, .null, .int 0, .int 0, .ref m1, .ref m2, .ref m3, .ref m4, .ref m5, .null, .null, .int 0, .ref m6, .int 0, .int 0, .int 0, .long 0, .null, .ref m7, .ref m8, .int 0, .int 0, .long 0]))]) [0] (by decide) rfl
  have hKc := hK.sub (tys' := []) [] rfl
  have hFc := va_free (wc := [(h0, .inr (17, [.ref lp, .null, .null, .int 0, .int 0, .ref m1, .ref m2, .ref m3, .ref m4, .ref m5, .null, .null, .int 0, .ref m6, .int 0, .int 0, .int 0, .long 0, .null, .ref m7, .ref m8, .int 0, .int 0, .long 0]))]) hD hS hA [0] rfl
  refine va_calli (va_runV (As := []) (rest := [.ref h0]) ⟨hx, hb, hml, hown, hts⟩ (c_isR l dC dI tp te s.heap.size h0 lp m1 m2 m3 m4 m5 m6 m7 m8) (cwV 0 hts g_M_go_ok_18 rfl rfl rfl (by decide +kernel) ⟨Nat.le_of_ble_eq_true rfl, Nat.le_of_ble_eq_true rfl⟩) ⟨Pw.blind, va_recv hKc hPc (ci := 17) (q0 := 0) rfl rfl, Pw.mk hPc hKc hDc hG hS hFc⟩ rfl rfl hl.1 rfl (lv_room (Nat.le_of_ble_eq_true rfl)) dX16_go_18 ⟨Nat.le_of_ble_eq_true rfl, Nat.le_of_ble_eq_true rfl⟩) hS (fun q _ h => hFc q h) hFc (fun r u t9 H_1 locs ht hvm hw hB hz1 hk1 hS => ?_)
  have hw : r = 0 := hw
  subst hw
  obtain ⟨hP1, hK1, hD1⟩ := hB
  rw [ht] at hP1
  have hK1 := va_K.moved hvm.symm hK1
  obtain ⟨hP, hD⟩ := va_join (wr := [(lp, .inr (0, [.int 0, .ref te, .int 0]))]) (w1 := [(h0, .inr (17, [.ref lp, .null, .null, .int 0, .int 0, .ref m1, .ref m2, .ref m3, .ref m4, .ref m5, .null, .null, .int 0, .ref m6, .int 0, .int 0, .int 0, .long 0, .null, .ref m7, .ref m8, .int 0, .int 0, .long 0]))]) hP hD [0] [1] rfl rfl (by decide) (by decide) hk1 hFc hP1 hD1
  have hK := (hK.sub (tys' := []) [] rfl).app hK1
  have hP : va_P (dC, dI) vwCl [(lp, .inr (0, [.int 0, .ref te, .int 0])), (h0, .inr (17, [.ref lp, .null, .null, .int 0, .int 0, .ref m1, .ref m2, .ref m3, .ref m4, .ref m5, .null, .null, .int 0, .ref m6, .int 0, .int 0, .int 0, .long 0, .null, .ref m7, .ref m8, .int 0, .int 0, .long 0]))] H_1 := hP
  have hD : va_D A [(lp, .inr (0, [.int 0, .ref te, .int 0])), (h0, .inr (17, [.ref lp, .null, .null, .int 0, .int 0, .ref m1, .ref m2, .ref m3, .ref m4, .ref m5, .null, .null, .int 0, .ref m6, .int 0, .int 0, .int 0, .long 0, .null, .ref m7, .ref m8, .int 0, .int 0, .long 0]))] := hD
  have hK : va_K (dC, dI) vwCl [] s := hK
  refine W.widen (k := 0) (n := 0) (Nat.le_of_ble_eq_true rfl) (Nat.le_of_ble_eq_true rfl) ?_
  refine lv_if_eq (tgt := 31) hx hb dX16_go_21 (by decide) (fun c9 => ?_) (fun c9 => absurd (by decide) c9)
  refine lv_iconst (v := 2) hx hb dX16_go_31 (by decide) ?_
  refine lv_goto (tgt := 36) hx hb dX16_go_32 (by decide) ?_
  refine va_put (D := (dC, dI)) (ci := 17) (v := .int 2) (ty := .int) (C := RX16) (T := TX16) (N := 24) hx hb hts in_z_M_go_ok_X16 tyX16 tyX16_ok nmX16 hown hK hP hD hS 1 rfl rfl 4 (by decide) (hts (.fieldLink RX16 40 "SelfkindleModel" "thrown" "I") (List.mem_of_getElem? (i := 7) rfl)) (fun _ h9 => h9) rfl (by decide +kernel) rfl rfl (Nat.le_of_ble_eq_true rfl) dX16_go_36 (fun H_3 locs hP hD hS => ?_)
  have hP : va_P (dC, dI) vwCl [(lp, .inr (0, [.int 0, .ref te, .int 0])), (h0, .inr (17, [.ref lp, .null, .null, .int 0, .int 2, .ref m1, .ref m2, .ref m3, .ref m4, .ref m5, .null, .null, .int 0, .ref m6, .int 0, .int 0, .int 0, .long 0, .null, .ref m7, .ref m8, .int 0, .int 0, .long 0]))] H_3 := hP
  have hD : va_D A [(lp, .inr (0, [.int 0, .ref te, .int 0])), (h0, .inr (17, [.ref lp, .null, .null, .int 0, .int 2, .ref m1, .ref m2, .ref m3, .ref m4, .ref m5, .null, .null, .int 0, .ref m6, .int 0, .int 0, .int 0, .long 0, .null, .ref m7, .ref m8, .int 0, .int 0, .long 0]))] := hD
  have hK : va_K (dC, dI) vwCl [] s := hK
  refine lv_aload_n hx hb dX16_go_39 rfl (lv_at hl 0 rfl) ?_
  refine va_get (D := (dC, dI)) (ci := 17) (v := .int 2) (C := RX16) (T := TX16) (N := 24) hx hb hts in_z_M_go_ok_X16 hown hK hP 1 rfl rfl 4 (by decide) (hts (.fieldLink RX16 40 "SelfkindleModel" "thrown" "I") (List.mem_of_getElem? (i := 7) rfl)) (fun _ h9 => h9) rfl dX16_go_40 ?_
  refine lv_if_le (tgt := 48) hx hb dX16_go_43 (by decide) (fun c9 => absurd c9 (by decide)) (fun c9 => ?_)
  refine lv_iconst (v := 0) hx hb dX16_go_46 (by decide) ?_
  have hP := hP.sub (ws' := [(h0, .inr (17, [.ref lp, .null, .null, .int 0, .int 2, .ref m1, .ref m2, .ref m3, .ref m4, .ref m5, .null, .null, .int 0, .ref m6, .int 0, .int 0, .int 0, .long 0, .null, .ref m7, .ref m8, .int 0, .int 0, .long 0]))]) [1] rfl
  have hD := hD.sub (ws' := [(h0, .inr (17, [.ref lp, .null, .null, .int 0, .int 2, .ref m1, .ref m2, .ref m3, .ref m4, .ref m5, .null, .null, .int 0, .ref m6, .int 0, .int 0, .int 0, .long 0, .null, .ref m7, .ref m8, .int 0, .int 0, .long 0]))]) [1] (by decide) rfl
  have hK := hK.sub (tys' := []) [] rfl
  refine W.widen (k := 0) (n := 0) (Nat.le_of_ble_eq_true rfl) (Nat.le_of_ble_eq_true rfl) ?_
  exact W.iret (v := 0) hx hb hr (fun t ht hW => ⟨⟨0, (), rfl, rfl, ⟨by rw [ht]; exact hP, va_K.moved hW.alike hK, hD⟩⟩, hS.F ht⟩) hS.2.2 dX16_go_47

set_option maxRecDepth 20000 in
def z_M_machine_neg : List Cond := .code yX16_machine cX16_machine 5 (some .int) :: (([.fieldLink RX16 40 "SelfkindleModel" "thrown" "I"] : List Cond) ++ wsX160)
theorem in_z_M_machine_neg_X16 : ∀ w ∈ wsX160, w ∈ z_M_machine_neg := fun w h => List.mem_cons_of_mem _ (List.mem_append_right _ (h))
set_option maxHeartbeats 4000000 in
set_option maxRecDepth 100000 in
theorem c_M_machine_neg (l : Launch) (dC : Nat → ClassId) (dI : Nat → Nat → Nat) (tp te : Nat) (sz : Nat) (h0 : Nat) (lp : Nat) (m1 : Nat) (m2 : Nat) (m3 : Nat) (m4 : Nat) (m5 : Nat) (m6 : Nat) (m7 : Nat) (m8 : Nat) (p0 : Int32) (hv0 : p0 < 0) : Met l yX16_machine z_M_machine_neg ({ frames := 0, cells := 0, slots := 0, locals := 0 }) (va_Pc [.ref h0, .int p0] (Pw dC dI [(h0, .inr (17, [.ref lp, .null, .null, .int 0, .int 0, .ref m1, .ref m2, .ref m3, .ref m4, .ref m5, .null, .null, .int 0, .ref m6, .int 0, .int 0, .int 0, .long 0, .null, .ref m7, .ref m8, .int 0, .int 0, .long 0])), (lp, .inr (0, [.int 0, .ref te, .int 0]))] [] sz tp te)) (va_Qi (fun (r : Int32) (_ : Unit) => r = 0) (fun (_ : Unit) (t : State) => Bw dC dI [(h0, .inr (17, [.ref lp, .null, .null, .int 0, .int 1, .ref m1, .ref m2, .ref m3, .ref m4, .ref m5, .null, .null, .int 0, .ref m6, .int 0, .int 0, .int 0, .long 0, .null, .ref m7, .ref m8, .int 0, .int 0, .long 0]))] [] (va_A [(h0, .inr (17, [.ref lp, .null, .null, .int 0, .int 0, .ref m1, .ref m2, .ref m3, .ref m4, .ref m5, .null, .null, .int 0, .ref m6, .int 0, .int 0, .int 0, .long 0, .null, .ref m7, .ref m8, .int 0, .int 0, .long 0])), (lp, .inr (0, [.int 0, .ref te, .int 0]))] sz) t) (va_A [(h0, .inr (17, [.ref lp, .null, .null, .int 0, .int 0, .ref m1, .ref m2, .ref m3, .ref m4, .ref m5, .null, .null, .int 0, .ref m6, .int 0, .int 0, .int 0, .long 0, .null, .ref m7, .ref m8, .int 0, .int 0, .long 0])), (lp, .inr (0, [.int 0, .ref te, .int 0]))] sz)) 0 0 (va_A [(h0, .inr (17, [.ref lp, .null, .null, .int 0, .int 0, .ref m1, .ref m2, .ref m3, .ref m4, .ref m5, .null, .null, .int 0, .ref m6, .int 0, .int 0, .int 0, .long 0, .null, .ref m7, .ref m8, .int 0, .int 0, .long 0])), (lp, .inr (0, [.int 0, .ref te, .int 0]))] sz) := by
  refine Met.ofW (cc := cX16_machine) (maxL := 5) (ret := (some .int)) (by decide) rfl ?_
  intro p e s m args below meth c s₁ B hml hv
  obtain ⟨rfl, hsz, hP, hK, hD0, hG⟩ := hv
  have hx := B.exec
  have hb := B.bytes
  have hr := B.returns
  have hts := atoms_spec (ws := z_M_machine_neg) B.pre
  have hown : s.vm.findClass RX16 = some m.cls := findClass_of_methodNamed B.named
  have hlocks := B.notSynchronized
  subst hsz
  have hD := hD0.self (sz := s.heap.size)
  generalize hAe : va_A [(h0, .inr (17, [.ref lp, .null, .null, .int 0, .int 0, .ref m1, .ref m2, .ref m3, .ref m4, .ref m5, .null, .null, .int 0, .ref m6, .int 0, .int 0, .int 0, .long 0, .null, .ref m7, .ref m8, .int 0, .int 0, .long 0])), (lp, .inr (0, [.int 0, .ref te, .int 0]))] s.heap.size = A at hD hG ⊢
  have hA : ∀ q : Nat, s.heap.size ≤ q → A q := fun q h => by rw [← hAe]; exact Or.inr h
  have hS : va_S A s.heap s.heap [] := va_S.rf
  have hl := lv_entry ([.ref h0, .int p0]) (n := 5) (Nat.le_of_ble_eq_true rfl)
  rw [lg_entry_eq]
  generalize (lg_sl ([.ref h0, .int p0]) ++ List.replicate (5 - (lg_sl ([.ref h0, .int p0])).length) Slot.unset).toArray = ls at hl ⊢
  have hl : lv_has ls 5 [(0, .ref h0), (1, .int p0)] := hl
  refine lv_aload_n hx hb dX16_machine_0 rfl (lv_at hl 0 rfl) ?_
  refine lv_iload_n hx hb dX16_machine_1 rfl (lv_at hl 1 rfl) ?_
  refine lv_if_lt (tgt := 10) hx hb dX16_machine_2 (by decide) (fun c9 => ?_) (fun c9 => absurd hv0 c9)
  refine lv_iconst (v := 1) hx hb dX16_machine_10 (by decide) ?_
  refine lv_goto (tgt := 26) hx hb dX16_machine_11 (by decide) ?_
  refine va_put (D := (dC, dI)) (ci := 17) (v := .int 1) (ty := .int) (C := RX16) (T := TX16) (N := 24) hx hb hts in_z_M_machine_neg_X16 tyX16 tyX16_ok nmX16 hown hK hP hD hS 0 rfl rfl 4 (by decide) (hts (.fieldLink RX16 40 "SelfkindleModel" "thrown" "I") (List.mem_of_getElem? (i := 1) rfl)) (fun _ h9 => h9) rfl (by decide +kernel) rfl rfl (Nat.le_of_ble_eq_true rfl) dX16_machine_26 (fun H_1 locs hP hD hS => ?_)
  have hP : va_P (dC, dI) vwCl [(h0, .inr (17, [.ref lp, .null, .null, .int 0, .int 1, .ref m1, .ref m2, .ref m3, .ref m4, .ref m5, .null, .null, .int 0, .ref m6, .int 0, .int 0, .int 0, .long 0, .null, .ref m7, .ref m8, .int 0, .int 0, .long 0])), (lp, .inr (0, [.int 0, .ref te, .int 0]))] H_1 := hP
  have hD : va_D A [(h0, .inr (17, [.ref lp, .null, .null, .int 0, .int 1, .ref m1, .ref m2, .ref m3, .ref m4, .ref m5, .null, .null, .int 0, .ref m6, .int 0, .int 0, .int 0, .long 0, .null, .ref m7, .ref m8, .int 0, .int 0, .long 0])), (lp, .inr (0, [.int 0, .ref te, .int 0]))] := hD
  have hK : va_K (dC, dI) vwCl [] s := hK
  refine lv_aload_n hx hb dX16_machine_29 rfl (lv_at hl 0 rfl) ?_
  refine va_get (D := (dC, dI)) (ci := 17) (v := .int 1) (C := RX16) (T := TX16) (N := 24) hx hb hts in_z_M_machine_neg_X16 hown hK hP 0 rfl rfl 4 (by decide) (hts (.fieldLink RX16 40 "SelfkindleModel" "thrown" "I") (List.mem_of_getElem? (i := 1) rfl)) (fun _ h9 => h9) rfl dX16_machine_30 ?_
  refine lv_if_le (tgt := 38) hx hb dX16_machine_33 (by decide) (fun c9 => absurd c9 (by decide)) (fun c9 => ?_)
  refine lv_iconst (v := 0) hx hb dX16_machine_36 (by decide) ?_
  have hP := hP.sub (ws' := [(h0, .inr (17, [.ref lp, .null, .null, .int 0, .int 1, .ref m1, .ref m2, .ref m3, .ref m4, .ref m5, .null, .null, .int 0, .ref m6, .int 0, .int 0, .int 0, .long 0, .null, .ref m7, .ref m8, .int 0, .int 0, .long 0]))]) [0] rfl
  have hD := hD.sub (ws' := [(h0, .inr (17, [.ref lp, .null, .null, .int 0, .int 1, .ref m1, .ref m2, .ref m3, .ref m4, .ref m5, .null, .null, .int 0, .ref m6, .int 0, .int 0, .int 0, .long 0, .null, .ref m7, .ref m8, .int 0, .int 0, .long 0]))]) [0] (by decide) rfl
  have hK := hK.sub (tys' := []) [] rfl
  refine W.widen (k := 0) (n := 0) (Nat.le_of_ble_eq_true rfl) (Nat.le_of_ble_eq_true rfl) ?_
  exact W.iret (v := 0) hx hb hr (fun t ht hW => ⟨⟨0, (), rfl, rfl, ⟨by rw [ht]; exact hP, va_K.moved hW.alike hK, hD⟩⟩, hS.F ht⟩) hS.2.2 dX16_machine_37

set_option maxRecDepth 20000 in
def z_M_machine_big : List Cond := .code yX16_machine cX16_machine 5 (some .int) :: (([.fieldLink RX16 40 "SelfkindleModel" "thrown" "I"] : List Cond) ++ wsX160)
theorem in_z_M_machine_big_X16 : ∀ w ∈ wsX160, w ∈ z_M_machine_big := fun w h => List.mem_cons_of_mem _ (List.mem_append_right _ (h))
set_option maxHeartbeats 4000000 in
set_option maxRecDepth 100000 in
theorem c_M_machine_big (l : Launch) (dC : Nat → ClassId) (dI : Nat → Nat → Nat) (tp te : Nat) (sz : Nat) (h0 : Nat) (lp : Nat) (m1 : Nat) (m2 : Nat) (m3 : Nat) (m4 : Nat) (m5 : Nat) (m6 : Nat) (m7 : Nat) (m8 : Nat) (p0 : Int32) (hv0 : ¬ p0 < 0) (hv1 : ¬ p0 < 6) (hv2 : ¬ p0 ≤ 5) : Met l yX16_machine z_M_machine_big ({ frames := 0, cells := 0, slots := 0, locals := 0 }) (va_Pc [.ref h0, .int p0] (Pw dC dI [(h0, .inr (17, [.ref lp, .null, .null, .int 0, .int 0, .ref m1, .ref m2, .ref m3, .ref m4, .ref m5, .null, .null, .int 0, .ref m6, .int 0, .int 0, .int 0, .long 0, .null, .ref m7, .ref m8, .int 0, .int 0, .long 0])), (lp, .inr (0, [.int 0, .ref te, .int 0]))] [] sz tp te)) (va_Qi (fun (r : Int32) (_ : Unit) => r = 0) (fun (_ : Unit) (t : State) => Bw dC dI [(h0, .inr (17, [.ref lp, .null, .null, .int 0, .int 1, .ref m1, .ref m2, .ref m3, .ref m4, .ref m5, .null, .null, .int 0, .ref m6, .int 0, .int 0, .int 0, .long 0, .null, .ref m7, .ref m8, .int 0, .int 0, .long 0]))] [] (va_A [(h0, .inr (17, [.ref lp, .null, .null, .int 0, .int 0, .ref m1, .ref m2, .ref m3, .ref m4, .ref m5, .null, .null, .int 0, .ref m6, .int 0, .int 0, .int 0, .long 0, .null, .ref m7, .ref m8, .int 0, .int 0, .long 0])), (lp, .inr (0, [.int 0, .ref te, .int 0]))] sz) t) (va_A [(h0, .inr (17, [.ref lp, .null, .null, .int 0, .int 0, .ref m1, .ref m2, .ref m3, .ref m4, .ref m5, .null, .null, .int 0, .ref m6, .int 0, .int 0, .int 0, .long 0, .null, .ref m7, .ref m8, .int 0, .int 0, .long 0])), (lp, .inr (0, [.int 0, .ref te, .int 0]))] sz)) 0 0 (va_A [(h0, .inr (17, [.ref lp, .null, .null, .int 0, .int 0, .ref m1, .ref m2, .ref m3, .ref m4, .ref m5, .null, .null, .int 0, .ref m6, .int 0, .int 0, .int 0, .long 0, .null, .ref m7, .ref m8, .int 0, .int 0, .long 0])), (lp, .inr (0, [.int 0, .ref te, .int 0]))] sz) := by
  refine Met.ofW (cc := cX16_machine) (maxL := 5) (ret := (some .int)) (by decide) rfl ?_
  intro p e s m args below meth c s₁ B hml hv
  obtain ⟨rfl, hsz, hP, hK, hD0, hG⟩ := hv
  have hx := B.exec
  have hb := B.bytes
  have hr := B.returns
  have hts := atoms_spec (ws := z_M_machine_big) B.pre
  have hown : s.vm.findClass RX16 = some m.cls := findClass_of_methodNamed B.named
  have hlocks := B.notSynchronized
  subst hsz
  have hD := hD0.self (sz := s.heap.size)
  generalize hAe : va_A [(h0, .inr (17, [.ref lp, .null, .null, .int 0, .int 0, .ref m1, .ref m2, .ref m3, .ref m4, .ref m5, .null, .null, .int 0, .ref m6, .int 0, .int 0, .int 0, .long 0, .null, .ref m7, .ref m8, .int 0, .int 0, .long 0])), (lp, .inr (0, [.int 0, .ref te, .int 0]))] s.heap.size = A at hD hG ⊢
  have hA : ∀ q : Nat, s.heap.size ≤ q → A q := fun q h => by rw [← hAe]; exact Or.inr h
  have hS : va_S A s.heap s.heap [] := va_S.rf
  have hl := lv_entry ([.ref h0, .int p0]) (n := 5) (Nat.le_of_ble_eq_true rfl)
  rw [lg_entry_eq]
  generalize (lg_sl ([.ref h0, .int p0]) ++ List.replicate (5 - (lg_sl ([.ref h0, .int p0])).length) Slot.unset).toArray = ls at hl ⊢
  have hl : lv_has ls 5 [(0, .ref h0), (1, .int p0)] := hl
  refine lv_aload_n hx hb dX16_machine_0 rfl (lv_at hl 0 rfl) ?_
  refine lv_iload_n hx hb dX16_machine_1 rfl (lv_at hl 1 rfl) ?_
  refine lv_if_lt (tgt := 10) hx hb dX16_machine_2 (by decide) (fun c9 => absurd c9 hv0) (fun c9 => ?_)
  refine lv_iload_n hx hb dX16_machine_5 rfl (lv_at hl 1 rfl) ?_
  refine lv_iconst (v := 5) hx hb dX16_machine_6 (by decide) ?_
  refine lv_icmp_le (tgt := 14) hx hb dX16_machine_7 (by decide) (fun c9 => absurd c9 hv2) (fun c9 => ?_)
  refine lv_iconst (v := 1) hx hb dX16_machine_10 (by decide) ?_
  refine lv_goto (tgt := 26) hx hb dX16_machine_11 (by decide) ?_
  refine va_put (D := (dC, dI)) (ci := 17) (v := .int 1) (ty := .int) (C := RX16) (T := TX16) (N := 24) hx hb hts in_z_M_machine_big_X16 tyX16 tyX16_ok nmX16 hown hK hP hD hS 0 rfl rfl 4 (by decide) (hts (.fieldLink RX16 40 "SelfkindleModel" "thrown" "I") (List.mem_of_getElem? (i := 1) rfl)) (fun _ h9 => h9) rfl (by decide +kernel) rfl rfl (Nat.le_of_ble_eq_true rfl) dX16_machine_26 (fun H_1 locs hP hD hS => ?_)
  have hP : va_P (dC, dI) vwCl [(h0, .inr (17, [.ref lp, .null, .null, .int 0, .int 1, .ref m1, .ref m2, .ref m3, .ref m4, .ref m5, .null, .null, .int 0, .ref m6, .int 0, .int 0, .int 0, .long 0, .null, .ref m7, .ref m8, .int 0, .int 0, .long 0])), (lp, .inr (0, [.int 0, .ref te, .int 0]))] H_1 := hP
  have hD : va_D A [(h0, .inr (17, [.ref lp, .null, .null, .int 0, .int 1, .ref m1, .ref m2, .ref m3, .ref m4, .ref m5, .null, .null, .int 0, .ref m6, .int 0, .int 0, .int 0, .long 0, .null, .ref m7, .ref m8, .int 0, .int 0, .long 0])), (lp, .inr (0, [.int 0, .ref te, .int 0]))] := hD
  have hK : va_K (dC, dI) vwCl [] s := hK
  refine lv_aload_n hx hb dX16_machine_29 rfl (lv_at hl 0 rfl) ?_
  refine va_get (D := (dC, dI)) (ci := 17) (v := .int 1) (C := RX16) (T := TX16) (N := 24) hx hb hts in_z_M_machine_big_X16 hown hK hP 0 rfl rfl 4 (by decide) (hts (.fieldLink RX16 40 "SelfkindleModel" "thrown" "I") (List.mem_of_getElem? (i := 1) rfl)) (fun _ h9 => h9) rfl dX16_machine_30 ?_
  refine lv_if_le (tgt := 38) hx hb dX16_machine_33 (by decide) (fun c9 => absurd c9 (by decide)) (fun c9 => ?_)
  refine lv_iconst (v := 0) hx hb dX16_machine_36 (by decide) ?_
  have hP := hP.sub (ws' := [(h0, .inr (17, [.ref lp, .null, .null, .int 0, .int 1, .ref m1, .ref m2, .ref m3, .ref m4, .ref m5, .null, .null, .int 0, .ref m6, .int 0, .int 0, .int 0, .long 0, .null, .ref m7, .ref m8, .int 0, .int 0, .long 0]))]) [0] rfl
  have hD := hD.sub (ws' := [(h0, .inr (17, [.ref lp, .null, .null, .int 0, .int 1, .ref m1, .ref m2, .ref m3, .ref m4, .ref m5, .null, .null, .int 0, .ref m6, .int 0, .int 0, .int 0, .long 0, .null, .ref m7, .ref m8, .int 0, .int 0, .long 0]))]) [0] (by decide) rfl
  have hK := hK.sub (tys' := []) [] rfl
  refine W.widen (k := 0) (n := 0) (Nat.le_of_ble_eq_true rfl) (Nat.le_of_ble_eq_true rfl) ?_
  exact W.iret (v := 0) hx hb hr (fun t ht hW => ⟨⟨0, (), rfl, rfl, ⟨by rw [ht]; exact hP, va_K.moved hW.alike hK, hD⟩⟩, hS.F ht⟩) hS.2.2 dX16_machine_37

set_option maxRecDepth 20000 in
def z_M_machine_ok : List Cond := .code yX16_machine cX16_machine 5 (some .int) :: (([.methodLink RX16 229 yX16_isRight, .instanceMethod yX16_isRight, .selects RX16 yX16_isRight yX16_isRight, .initialized RX16, .code yX16_isRight cX16_isRight 1 (some .boolean), .fieldLink RX16 89 "SelfkindleModel" "told" "LSelfkindleModel$Term;", .fieldLink RX16 40 "SelfkindleModel" "thrown" "I"] : List Cond) ++ wsX160)
theorem in_z_M_machine_ok_X16 : ∀ w ∈ wsX160, w ∈ z_M_machine_ok := fun w h => List.mem_cons_of_mem _ (List.mem_append_right _ (h))
set_option maxRecDepth 20000 in
theorem g_M_machine_ok_15 : GoodIn z_M_machine_ok (wsV RX16 229 RX16 yX16_isRight z_isR) := goodIn_p _ [5] rfl (by decide +kernel)
set_option maxHeartbeats 4000000 in
set_option maxRecDepth 100000 in
theorem c_M_machine_ok (l : Launch) (dC : Nat → ClassId) (dI : Nat → Nat → Nat) (tp te : Nat) (sz : Nat) (h0 : Nat) (lp : Nat) (m1 : Nat) (m2 : Nat) (m3 : Nat) (m4 : Nat) (m5 : Nat) (m6 : Nat) (m7 : Nat) (m8 : Nat) (p0 : Int32) (hv0 : ¬ p0 < 0) (hv1 : p0 < 6) (hv2 : p0 ≤ 5) : Met l yX16_machine z_M_machine_ok ({ frames := 1, cells := 0, slots := 0, locals := 20 }) (va_Pc [.ref h0, .int p0] (Pw dC dI [(h0, .inr (17, [.ref lp, .null, .null, .int 0, .int 0, .ref m1, .ref m2, .ref m3, .ref m4, .ref m5, .null, .null, .int 0, .ref m6, .int 0, .int 0, .int 0, .long 0, .null, .ref m7, .ref m8, .int 0, .int 0, .long 0])), (lp, .inr (0, [.int 0, .ref te, .int 0]))] [] sz tp te)) (va_Qi (fun (r : Int32) (_ : Unit) => r = 0) (fun (_ : Unit) (t : State) => Bw dC dI [(h0, .inr (17, [.ref lp, .null, .null, .int 0, .int 2, .ref m1, .ref m2, .ref m3, .ref m4, .ref m5, .null, .null, .int 0, .ref m6, .int 0, .int 0, .int 0, .long 0, .null, .ref m7, .ref m8, .int 0, .int 0, .long 0]))] [] (va_A [(h0, .inr (17, [.ref lp, .null, .null, .int 0, .int 0, .ref m1, .ref m2, .ref m3, .ref m4, .ref m5, .null, .null, .int 0, .ref m6, .int 0, .int 0, .int 0, .long 0, .null, .ref m7, .ref m8, .int 0, .int 0, .long 0])), (lp, .inr (0, [.int 0, .ref te, .int 0]))] sz) t) (va_A [(h0, .inr (17, [.ref lp, .null, .null, .int 0, .int 0, .ref m1, .ref m2, .ref m3, .ref m4, .ref m5, .null, .null, .int 0, .ref m6, .int 0, .int 0, .int 0, .long 0, .null, .ref m7, .ref m8, .int 0, .int 0, .long 0])), (lp, .inr (0, [.int 0, .ref te, .int 0]))] sz)) 0 0 (va_A [(h0, .inr (17, [.ref lp, .null, .null, .int 0, .int 0, .ref m1, .ref m2, .ref m3, .ref m4, .ref m5, .null, .null, .int 0, .ref m6, .int 0, .int 0, .int 0, .long 0, .null, .ref m7, .ref m8, .int 0, .int 0, .long 0])), (lp, .inr (0, [.int 0, .ref te, .int 0]))] sz) := by
  refine Met.ofW (cc := cX16_machine) (maxL := 5) (ret := (some .int)) (by decide) rfl ?_
  intro p e s m args below meth c s₁ B hml hv
  obtain ⟨rfl, hsz, hP, hK, hD0, hG⟩ := hv
  have hx := B.exec
  have hb := B.bytes
  have hr := B.returns
  have hts := atoms_spec (ws := z_M_machine_ok) B.pre
  have hown : s.vm.findClass RX16 = some m.cls := findClass_of_methodNamed B.named
  have hlocks := B.notSynchronized
  subst hsz
  have hD := hD0.self (sz := s.heap.size)
  generalize hAe : va_A [(h0, .inr (17, [.ref lp, .null, .null, .int 0, .int 0, .ref m1, .ref m2, .ref m3, .ref m4, .ref m5, .null, .null, .int 0, .ref m6, .int 0, .int 0, .int 0, .long 0, .null, .ref m7, .ref m8, .int 0, .int 0, .long 0])), (lp, .inr (0, [.int 0, .ref te, .int 0]))] s.heap.size = A at hD hG ⊢
  have hA : ∀ q : Nat, s.heap.size ≤ q → A q := fun q h => by rw [← hAe]; exact Or.inr h
  have hS : va_S A s.heap s.heap [] := va_S.rf
  have hl := lv_entry ([.ref h0, .int p0]) (n := 5) (Nat.le_of_ble_eq_true rfl)
  rw [lg_entry_eq]
  generalize (lg_sl ([.ref h0, .int p0]) ++ List.replicate (5 - (lg_sl ([.ref h0, .int p0])).length) Slot.unset).toArray = ls at hl ⊢
  have hl : lv_has ls 5 [(0, .ref h0), (1, .int p0)] := hl
  refine lv_aload_n hx hb dX16_machine_0 rfl (lv_at hl 0 rfl) ?_
  refine lv_iload_n hx hb dX16_machine_1 rfl (lv_at hl 1 rfl) ?_
  refine lv_if_lt (tgt := 10) hx hb dX16_machine_2 (by decide) (fun c9 => absurd c9 hv0) (fun c9 => ?_)
  refine lv_iload_n hx hb dX16_machine_5 rfl (lv_at hl 1 rfl) ?_
  refine lv_iconst (v := 5) hx hb dX16_machine_6 (by decide) ?_
  refine lv_icmp_le (tgt := 14) hx hb dX16_machine_7 (by decide) (fun c9 => ?_) (fun c9 => absurd hv2 c9)
  refine lv_aload_n hx hb dX16_machine_14 rfl (lv_at hl 0 rfl) ?_
  have hPc := hP.sub (ws' := [(h0, .inr (17, [.ref lp, .null, .null, .int 0, .int 0, .ref m1, .ref m2, .ref m3, .ref m4, .ref m5, .null, .null, .int 0, .ref m6, .int 0, .int 0, .int 0, .long 0, .null, .ref m7, .ref m8, .int 0, .int 0, .long 0]))]) [0] rfl
  have hDc := hD.sub (ws' := [(h0, .inr (17, [.ref lp, .null, .null, .int 0, .int 0, .ref m1, .ref m2, .ref m3, .ref m4, .ref m5, .null, .null, .int 0, .ref m6, .int 0, .int 0, .int 0, .long 0, .null, .ref m7, .ref m8, .int 0, .int 0, .long 0]))]) [0] (by decide) rfl
  have hKc := hK.sub (tys' := []) [] rfl
  have hFc := va_free (wc := [(h0, .inr (17, [.ref lp, .null, .null, .int 0, .int 0, .ref m1, .ref m2, .ref m3, .ref m4, .ref m5, .null, .null, .int 0, .ref m6, .int 0, .int 0, .int 0, .long 0, .null, .ref m7, .ref m8, .int 0, .int 0, .long 0]))]) hD hS hA [0] rfl
  refine va_calli (va_runV (As := []) (rest := [.ref h0]) ⟨hx, hb, hml, hown, hts⟩ (c_isR l dC dI tp te s.heap.size h0 lp m1 m2 m3 m4 m5 m6 m7 m8) (cwV 0 hts g_M_machine_ok_15 rfl rfl rfl (by decide +kernel) ⟨Nat.le_of_ble_eq_true rfl, Nat.le_of_ble_eq_true rfl⟩) ⟨Pw.blind, va_recv hKc hPc (ci := 17) (q0 := 0) rfl rfl, Pw.mk hPc hKc hDc hG hS hFc⟩ rfl rfl hl.1 rfl (lv_room (Nat.le_of_ble_eq_true rfl)) dX16_machine_15 ⟨Nat.le_of_ble_eq_true rfl, Nat.le_of_ble_eq_true rfl⟩) hS (fun q _ h => hFc q h) hFc (fun r u t9 H_1 locs ht hvm hw hB hz1 hk1 hS => ?_)
  have hw : r = 0 := hw
  subst hw
  obtain ⟨hP1, hK1, hD1⟩ := hB
  rw [ht] at hP1
  have hK1 := va_K.moved hvm.symm hK1
  obtain ⟨hP, hD⟩ := va_join (wr := [(lp, .inr (0, [.int 0, .ref te, .int 0]))]) (w1 := [(h0, .inr (17, [.ref lp, .null, .null, .int 0, .int 0, .ref m1, .ref m2, .ref m3, .ref m4, .ref m5, .null, .null, .int 0, .ref m6, .int 0, .int 0, .int 0, .long 0, .null, .ref m7, .ref m8, .int 0, .int 0, .long 0]))]) hP hD [0] [1] rfl rfl (by decide) (by decide) hk1 hFc hP1 hD1
  have hK := (hK.sub (tys' := []) [] rfl).app hK1
  have hP : va_P (dC, dI) vwCl [(lp, .inr (0, [.int 0, .ref te, .int 0])), (h0, .inr (17, [.ref lp, .null, .null, .int 0, .int 0, .ref m1, .ref m2, .ref m3, .ref m4, .ref m5, .null, .null, .int 0, .ref m6, .int 0, .int 0, .int 0, .long 0, .null, .ref m7, .ref m8, .int 0, .int 0, .long 0]))] H_1 := hP
  have hD : va_D A [(lp, .inr (0, [.int 0, .ref te, .int 0])), (h0, .inr (17, [.ref lp, .null, .null, .int 0, .int 0, .ref m1, .ref m2, .ref m3, .ref m4, .ref m5, .null, .null, .int 0, .ref m6, .int 0, .int 0, .int 0, .long 0, .null, .ref m7, .ref m8, .int 0, .int 0, .long 0]))] := hD
  have hK : va_K (dC, dI) vwCl [] s := hK
  refine W.widen (k := 0) (n := 0) (Nat.le_of_ble_eq_true rfl) (Nat.le_of_ble_eq_true rfl) ?_
  refine lv_if_ne (tgt := 25) hx hb dX16_machine_18 (by decide) (fun c9 => absurd (by decide) c9) (fun c9 => ?_)
  refine lv_iconst (v := 2) hx hb dX16_machine_21 (by decide) ?_
  refine lv_goto (tgt := 26) hx hb dX16_machine_22 (by decide) ?_
  refine va_put (D := (dC, dI)) (ci := 17) (v := .int 2) (ty := .int) (C := RX16) (T := TX16) (N := 24) hx hb hts in_z_M_machine_ok_X16 tyX16 tyX16_ok nmX16 hown hK hP hD hS 1 rfl rfl 4 (by decide) (hts (.fieldLink RX16 40 "SelfkindleModel" "thrown" "I") (List.mem_of_getElem? (i := 7) rfl)) (fun _ h9 => h9) rfl (by decide +kernel) rfl rfl (Nat.le_of_ble_eq_true rfl) dX16_machine_26 (fun H_3 locs hP hD hS => ?_)
  have hP : va_P (dC, dI) vwCl [(lp, .inr (0, [.int 0, .ref te, .int 0])), (h0, .inr (17, [.ref lp, .null, .null, .int 0, .int 2, .ref m1, .ref m2, .ref m3, .ref m4, .ref m5, .null, .null, .int 0, .ref m6, .int 0, .int 0, .int 0, .long 0, .null, .ref m7, .ref m8, .int 0, .int 0, .long 0]))] H_3 := hP
  have hD : va_D A [(lp, .inr (0, [.int 0, .ref te, .int 0])), (h0, .inr (17, [.ref lp, .null, .null, .int 0, .int 2, .ref m1, .ref m2, .ref m3, .ref m4, .ref m5, .null, .null, .int 0, .ref m6, .int 0, .int 0, .int 0, .long 0, .null, .ref m7, .ref m8, .int 0, .int 0, .long 0]))] := hD
  have hK : va_K (dC, dI) vwCl [] s := hK
  refine lv_aload_n hx hb dX16_machine_29 rfl (lv_at hl 0 rfl) ?_
  refine va_get (D := (dC, dI)) (ci := 17) (v := .int 2) (C := RX16) (T := TX16) (N := 24) hx hb hts in_z_M_machine_ok_X16 hown hK hP 1 rfl rfl 4 (by decide) (hts (.fieldLink RX16 40 "SelfkindleModel" "thrown" "I") (List.mem_of_getElem? (i := 7) rfl)) (fun _ h9 => h9) rfl dX16_machine_30 ?_
  refine lv_if_le (tgt := 38) hx hb dX16_machine_33 (by decide) (fun c9 => absurd c9 (by decide)) (fun c9 => ?_)
  refine lv_iconst (v := 0) hx hb dX16_machine_36 (by decide) ?_
  have hP := hP.sub (ws' := [(h0, .inr (17, [.ref lp, .null, .null, .int 0, .int 2, .ref m1, .ref m2, .ref m3, .ref m4, .ref m5, .null, .null, .int 0, .ref m6, .int 0, .int 0, .int 0, .long 0, .null, .ref m7, .ref m8, .int 0, .int 0, .long 0]))]) [1] rfl
  have hD := hD.sub (ws' := [(h0, .inr (17, [.ref lp, .null, .null, .int 0, .int 2, .ref m1, .ref m2, .ref m3, .ref m4, .ref m5, .null, .null, .int 0, .ref m6, .int 0, .int 0, .int 0, .long 0, .null, .ref m7, .ref m8, .int 0, .int 0, .long 0]))]) [1] (by decide) rfl
  have hK := hK.sub (tys' := []) [] rfl
  refine W.widen (k := 0) (n := 0) (Nat.le_of_ble_eq_true rfl) (Nat.le_of_ble_eq_true rfl) ?_
  exact W.iret (v := 0) hx hb hr (fun t ht hW => ⟨⟨0, (), rfl, rfl, ⟨by rw [ht]; exact hP, va_K.moved hW.alike hK, hD⟩⟩, hS.F ht⟩) hS.2.2 dX16_machine_37
