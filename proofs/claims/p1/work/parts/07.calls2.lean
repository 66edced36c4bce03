abbrev cX7_call : ByteArray := prog_1_method_5_code
def yX7_call : MethodName := ⟨RX7, "call", "()I"⟩
abbrev cX7_two : ByteArray := prog_1_method_6_code
def yX7_two : MethodName := ⟨RX7, "two", "(I)I"⟩
abbrev cX7_choose : ByteArray := prog_1_method_7_code
def yX7_choose : MethodName := ⟨RX7, "choose", "()I"⟩
abbrev cX7_let : ByteArray := prog_1_method_8_code
def yX7_let : MethodName := ⟨RX7, "let", "(I)I"⟩
abbrev cX7_rec : ByteArray := prog_1_method_9_code
def yX7_rec : MethodName := ⟨RX7, "rec", "(II)I"⟩
abbrev cX7_pair : ByteArray := prog_1_method_10_code
def yX7_pair : MethodName := ⟨RX7, "pair", "()I"⟩
abbrev cX7_half : ByteArray := prog_1_method_11_code
def yX7_half : MethodName := ⟨RX7, "half", "(Z)I"⟩
abbrev cX7_raise : ByteArray := prog_1_method_12_code
def yX7_raise : MethodName := ⟨RX7, "raise", "()I"⟩
abbrev cX7_handle : ByteArray := prog_1_method_13_code
def yX7_handle : MethodName := ⟨RX7, "handle", "(I)I"⟩
abbrev cX7_program : ByteArray := prog_1_method_14_code
def yX7_program : MethodName := ⟨RX7, "program", "()I"⟩
abbrev cX7_fault : ByteArray := prog_1_method_15_code
def yX7_fault : MethodName := ⟨RX7, "fault", "()I"⟩
abbrev cX7_type : ByteArray := prog_1_method_16_code
def yX7_type : MethodName := ⟨RX7, "type", "(I)I"⟩
abbrev cX7_optimise : ByteArray := prog_1_method_17_code
def yX7_optimise : MethodName := ⟨RX7, "optimise", "(I)I"⟩
abbrev cX7_size : ByteArray := prog_1_method_18_code
def yX7_size : MethodName := ⟨RX7, "size", "()I"⟩
abbrev cX7_orders : ByteArray := prog_1_method_19_code
def yX7_orders : MethodName := ⟨RX7, "orders", "()I"⟩
abbrev cX7_order : ByteArray := prog_1_method_20_code
def yX7_order : MethodName := ⟨RX7, "order", "(II)J"⟩
abbrev cX7_stop : ByteArray := prog_1_method_21_code
def yX7_stop : MethodName := ⟨RX7, "stop", "(IZ)Z"⟩
abbrev cX7_go : ByteArray := prog_1_method_22_code
def yX7_go : MethodName := ⟨RX7, "go", "(I)I"⟩
abbrev cX7_again : ByteArray := prog_1_method_23_code
def yX7_again : MethodName := ⟨RX7, "again", "()V"⟩
abbrev cX7_state : ByteArray := prog_1_method_24_code
def yX7_state : MethodName := ⟨RX7, "state", "()I"⟩
abbrev cX7_value : ByteArray := prog_1_method_25_code
def yX7_value : MethodName := ⟨RX7, "value", "()J"⟩
abbrev cX7_machine : ByteArray := prog_1_method_26_code
def yX7_machine : MethodName := ⟨RX7, "machine", "(I)I"⟩
abbrev cX7_stateAnew : ByteArray := prog_1_method_27_code
def yX7_stateAnew : MethodName := ⟨RX7, "stateAnew", "()I"⟩
abbrev cX7_valueAnew : ByteArray := prog_1_method_28_code
def yX7_valueAnew : MethodName := ⟨RX7, "valueAnew", "()J"⟩
abbrev cX7_checkProgram : ByteArray := prog_1_method_34_code
def yX7_checkProgram : MethodName := ⟨RX7, "checkProgram", "()V"⟩
abbrev cX7_checkOrder : ByteArray := prog_1_method_35_code
def yX7_checkOrder : MethodName := ⟨RX7, "checkOrder", "(I)V"⟩
theorem dX7_call_0 : decode cX7_call 0 = .ok (.aload_n 0, 1) := by decide +kernel
theorem dX7_call_1 : decode cX7_call 1 = .ok (.iconst 3, 1) := by decide +kernel
theorem dX7_call_2 : decode cX7_call 2 = .ok (.iconst (-1), 1) := by decide +kernel
theorem dX7_call_3 : decode cX7_call 3 = .ok (.iconst 0, 1) := by decide +kernel
theorem dX7_call_4 : decode cX7_call 4 = .ok (.invokevirtual 65, 3) := by decide +kernel
theorem dX7_two_0 : decode cX7_two 0 = .ok (.iload_n 1, 1) := by decide +kernel
theorem dX7_two_1 : decode cX7_two 1 = .ok (.ifCond .lt 8, 3) := by decide +kernel
theorem dX7_two_4 : decode cX7_two 4 = .ok (.iload_n 1, 1) := by decide +kernel
theorem dX7_two_5 : decode cX7_two 5 = .ok (.iconst 4, 1) := by decide +kernel
theorem dX7_two_6 : decode cX7_two 6 = .ok (.if_icmp .lt 11, 3) := by decide +kernel
theorem dX7_two_9 : decode cX7_two 9 = .ok (.new 69, 3) := by decide +kernel
theorem dX7_two_12 : decode cX7_two 12 = .ok (.dup, 1) := by decide +kernel
theorem dX7_two_13 : decode cX7_two 13 = .ok (.invokespecial 71, 3) := by decide +kernel
theorem dX7_two_16 : decode cX7_two 16 = .ok (.athrow, 1) := by decide +kernel
theorem dX7_two_17 : decode cX7_two 17 = .ok (.aload_n 0, 1) := by decide +kernel
theorem dX7_two_18 : decode cX7_two 18 = .ok (.iconst 4, 1) := by decide +kernel
theorem dX7_two_19 : decode cX7_two 19 = .ok (.iconst (-1), 1) := by decide +kernel
theorem dX7_two_20 : decode cX7_two 20 = .ok (.iload_n 1, 1) := by decide +kernel
theorem dX7_two_21 : decode cX7_two 21 = .ok (.invokevirtual 65, 3) := by decide +kernel
theorem dX7_choose_0 : decode cX7_choose 0 = .ok (.aload_n 0, 1) := by decide +kernel
theorem dX7_choose_1 : decode cX7_choose 1 = .ok (.iconst 5, 1) := by decide +kernel
theorem dX7_choose_2 : decode cX7_choose 2 = .ok (.iconst (-1), 1) := by decide +kernel
theorem dX7_choose_3 : decode cX7_choose 3 = .ok (.iconst 0, 1) := by decide +kernel
theorem dX7_choose_4 : decode cX7_choose 4 = .ok (.invokevirtual 65, 3) := by decide +kernel
theorem dX7_let_0 : decode cX7_let 0 = .ok (.iload_n 1, 1) := by decide +kernel
theorem dX7_let_1 : decode cX7_let 1 = .ok (.invokestatic 62, 3) := by decide +kernel
theorem dX7_let_4 : decode cX7_let 4 = .ok (.aload_n 0, 1) := by decide +kernel
theorem dX7_let_5 : decode cX7_let 5 = .ok (.bipush 6, 2) := by decide +kernel
theorem dX7_let_7 : decode cX7_let 7 = .ok (.iload_n 1, 1) := by decide +kernel
theorem dX7_let_8 : decode cX7_let 8 = .ok (.iconst 0, 1) := by decide +kernel
theorem dX7_let_9 : decode cX7_let 9 = .ok (.invokevirtual 65, 3) := by decide +kernel
theorem dX7_rec_0 : decode cX7_rec 0 = .ok (.iload_n 1, 1) := by decide +kernel
theorem dX7_rec_1 : decode cX7_rec 1 = .ok (.invokestatic 62, 3) := by decide +kernel
theorem dX7_rec_4 : decode cX7_rec 4 = .ok (.iload_n 2, 1) := by decide +kernel
theorem dX7_rec_5 : decode cX7_rec 5 = .ok (.invokestatic 62, 3) := by decide +kernel
theorem dX7_rec_8 : decode cX7_rec 8 = .ok (.aload_n 0, 1) := by decide +kernel
theorem dX7_rec_9 : decode cX7_rec 9 = .ok (.bipush 7, 2) := by decide +kernel
theorem dX7_rec_11 : decode cX7_rec 11 = .ok (.iload_n 1, 1) := by decide +kernel
theorem dX7_rec_12 : decode cX7_rec 12 = .ok (.iload_n 2, 1) := by decide +kernel
theorem dX7_rec_13 : decode cX7_rec 13 = .ok (.invokevirtual 65, 3) := by decide +kernel
theorem dX7_pair_0 : decode cX7_pair 0 = .ok (.aload_n 0, 1) := by decide +kernel
theorem dX7_pair_1 : decode cX7_pair 1 = .ok (.bipush 8, 2) := by decide +kernel
theorem dX7_pair_3 : decode cX7_pair 3 = .ok (.iconst (-1), 1) := by decide +kernel
theorem dX7_pair_4 : decode cX7_pair 4 = .ok (.iconst 0, 1) := by decide +kernel
theorem dX7_pair_5 : decode cX7_pair 5 = .ok (.invokevirtual 65, 3) := by decide +kernel
theorem dX7_half_0 : decode cX7_half 0 = .ok (.aload_n 0, 1) := by decide +kernel
theorem dX7_half_1 : decode cX7_half 1 = .ok (.bipush 9, 2) := by decide +kernel
theorem dX7_half_3 : decode cX7_half 3 = .ok (.iconst (-1), 1) := by decide +kernel
theorem dX7_half_4 : decode cX7_half 4 = .ok (.iload_n 1, 1) := by decide +kernel
theorem dX7_half_5 : decode cX7_half 5 = .ok (.ifCond .eq 7, 3) := by decide +kernel
theorem dX7_half_8 : decode cX7_half 8 = .ok (.iconst 1, 1) := by decide +kernel
theorem dX7_half_9 : decode cX7_half 9 = .ok (.goto 4, 3) := by decide +kernel
theorem dX7_half_12 : decode cX7_half 12 = .ok (.iconst 0, 1) := by decide +kernel
theorem dX7_half_13 : decode cX7_half 13 = .ok (.invokevirtual 65, 3) := by decide +kernel
theorem dX7_raise_0 : decode cX7_raise 0 = .ok (.aload_n 0, 1) := by decide +kernel
theorem dX7_raise_1 : decode cX7_raise 1 = .ok (.bipush 10, 2) := by decide +kernel
theorem dX7_raise_3 : decode cX7_raise 3 = .ok (.iconst (-1), 1) := by decide +kernel
theorem dX7_raise_4 : decode cX7_raise 4 = .ok (.iconst 0, 1) := by decide +kernel
theorem dX7_raise_5 : decode cX7_raise 5 = .ok (.invokevirtual 65, 3) := by decide +kernel
theorem dX7_handle_0 : decode cX7_handle 0 = .ok (.iload_n 1, 1) := by decide +kernel
theorem dX7_handle_1 : decode cX7_handle 1 = .ok (.invokestatic 62, 3) := by decide +kernel
theorem dX7_handle_4 : decode cX7_handle 4 = .ok (.aload_n 0, 1) := by decide +kernel
theorem dX7_handle_5 : decode cX7_handle 5 = .ok (.bipush 11, 2) := by decide +kernel
theorem dX7_handle_7 : decode cX7_handle 7 = .ok (.iload_n 1, 1) := by decide +kernel
theorem dX7_handle_8 : decode cX7_handle 8 = .ok (.iconst 0, 1) := by decide +kernel
theorem dX7_handle_9 : decode cX7_handle 9 = .ok (.invokevirtual 65, 3) := by decide +kernel
theorem dX7_program_0 : decode cX7_program 0 = .ok (.aload_n 0, 1) := by decide +kernel
theorem dX7_program_1 : decode cX7_program 1 = .ok (.getfield 72, 3) := by decide +kernel
theorem dX7_program_4 : decode cX7_program 4 = .ok (.ifCond .ne 11, 3) := by decide +kernel
theorem dX7_program_7 : decode cX7_program 7 = .ok (.new 75, 3) := by decide +kernel
theorem dX7_program_10 : decode cX7_program 10 = .ok (.dup, 1) := by decide +kernel
theorem dX7_program_11 : decode cX7_program 11 = .ok (.invokespecial 77, 3) := by decide +kernel
theorem dX7_program_14 : decode cX7_program 14 = .ok (.athrow, 1) := by decide +kernel
theorem dX7_fault_0 : decode cX7_fault 0 = .ok (.aload_n 0, 1) := by decide +kernel
theorem dX7_fault_1 : decode cX7_fault 1 = .ok (.getfield 24, 3) := by decide +kernel
theorem dX7_fault_4 : decode cX7_fault 4 = .ok (.iconst (-1), 1) := by decide +kernel
theorem dX7_fault_5 : decode cX7_fault 5 = .ok (.if_icmp .ne 11, 3) := by decide +kernel
theorem dX7_fault_8 : decode cX7_fault 8 = .ok (.new 75, 3) := by decide +kernel
theorem dX7_fault_11 : decode cX7_fault 11 = .ok (.dup, 1) := by decide +kernel
theorem dX7_fault_12 : decode cX7_fault 12 = .ok (.invokespecial 77, 3) := by decide +kernel
theorem dX7_fault_15 : decode cX7_fault 15 = .ok (.athrow, 1) := by decide +kernel
theorem dX7_type_0 : decode cX7_type 0 = .ok (.iload_n 1, 1) := by decide +kernel
theorem dX7_type_1 : decode cX7_type 1 = .ok (.ifCond .ge 11, 3) := by decide +kernel
theorem dX7_type_4 : decode cX7_type 4 = .ok (.new 107, 3) := by decide +kernel
theorem dX7_type_7 : decode cX7_type 7 = .ok (.dup, 1) := by decide +kernel
theorem dX7_type_8 : decode cX7_type 8 = .ok (.invokespecial 109, 3) := by decide +kernel
theorem dX7_type_11 : decode cX7_type 11 = .ok (.athrow, 1) := by decide +kernel
theorem dX7_type_12 : decode cX7_type 12 = .ok (.aload_n 0, 1) := by decide +kernel
theorem dX7_type_13 : decode cX7_type 13 = .ok (.invokevirtual 110, 3) := by decide +kernel
theorem dX7_optimise_0 : decode cX7_optimise 0 = .ok (.iload_n 1, 1) := by decide +kernel
theorem dX7_optimise_1 : decode cX7_optimise 1 = .ok (.ifCond .lt 9, 3) := by decide +kernel
theorem dX7_optimise_4 : decode cX7_optimise 4 = .ok (.iload_n 1, 1) := by decide +kernel
theorem dX7_optimise_5 : decode cX7_optimise 5 = .ok (.bipush 15, 2) := by decide +kernel
theorem dX7_optimise_7 : decode cX7_optimise 7 = .ok (.if_icmp .le 11, 3) := by decide +kernel
theorem dX7_optimise_10 : decode cX7_optimise 10 = .ok (.new 69, 3) := by decide +kernel
theorem dX7_optimise_13 : decode cX7_optimise 13 = .ok (.dup, 1) := by decide +kernel
theorem dX7_optimise_14 : decode cX7_optimise 14 = .ok (.invokespecial 71, 3) := by decide +kernel
theorem dX7_optimise_17 : decode cX7_optimise 17 = .ok (.athrow, 1) := by decide +kernel
theorem dX7_optimise_18 : decode cX7_optimise 18 = .ok (.aload_n 0, 1) := by decide +kernel
theorem dX7_optimise_19 : decode cX7_optimise 19 = .ok (.invokevirtual 110, 3) := by decide +kernel
theorem dX7_size_0 : decode cX7_size 0 = .ok (.aload_n 0, 1) := by decide +kernel
theorem dX7_size_1 : decode cX7_size 1 = .ok (.getfield 21, 3) := by decide +kernel
theorem dX7_size_4 : decode cX7_size 4 = .ok (.getfield 78, 3) := by decide +kernel
theorem dX7_size_7 : decode cX7_size 7 = .ok (.ireturn, 1) := by decide +kernel
theorem dX7_orders_0 : decode cX7_orders 0 = .ok (.aload_n 0, 1) := by decide +kernel
theorem dX7_orders_1 : decode cX7_orders 1 = .ok (.invokevirtual 110, 3) := by decide +kernel
theorem dX7_order_0 : decode cX7_order 0 = .ok (.aload_n 0, 1) := by decide +kernel
theorem dX7_order_1 : decode cX7_order 1 = .ok (.iload_n 1, 1) := by decide +kernel
theorem dX7_order_2 : decode cX7_order 2 = .ok (.invokevirtual 121, 3) := by decide +kernel
theorem dX7_stop_0 : decode cX7_stop 0 = .ok (.aload_n 0, 1) := by decide +kernel
theorem dX7_stop_1 : decode cX7_stop 1 = .ok (.iload_n 1, 1) := by decide +kernel
theorem dX7_stop_2 : decode cX7_stop 2 = .ok (.invokevirtual 121, 3) := by decide +kernel
theorem dX7_go_0 : decode cX7_go 0 = .ok (.iload_n 1, 1) := by decide +kernel
theorem dX7_go_1 : decode cX7_go 1 = .ok (.iconst 1, 1) := by decide +kernel
theorem dX7_go_2 : decode cX7_go 2 = .ok (.if_icmp .lt 10, 3) := by decide +kernel
theorem dX7_go_5 : decode cX7_go 5 = .ok (.iload_n 1, 1) := by decide +kernel
theorem dX7_go_6 : decode cX7_go 6 = .ok (.sipush 2000, 3) := by decide +kernel
theorem dX7_go_9 : decode cX7_go 9 = .ok (.if_icmp .le 11, 3) := by decide +kernel
theorem dX7_go_12 : decode cX7_go 12 = .ok (.new 69, 3) := by decide +kernel
theorem dX7_go_15 : decode cX7_go 15 = .ok (.dup, 1) := by decide +kernel
theorem dX7_go_16 : decode cX7_go 16 = .ok (.invokespecial 71, 3) := by decide +kernel
theorem dX7_go_19 : decode cX7_go 19 = .ok (.athrow, 1) := by decide +kernel
theorem dX7_go_20 : decode cX7_go 20 = .ok (.aload_n 0, 1) := by decide +kernel
theorem dX7_go_21 : decode cX7_go 21 = .ok (.invokevirtual 110, 3) := by decide +kernel
theorem dX7_again_0 : decode cX7_again 0 = .ok (.aload_n 0, 1) := by decide +kernel
theorem dX7_again_1 : decode cX7_again 1 = .ok (.invokevirtual 110, 3) := by decide +kernel
theorem dX7_state_0 : decode cX7_state 0 = .ok (.aload_n 0, 1) := by decide +kernel
theorem dX7_state_1 : decode cX7_state 1 = .ok (.invokevirtual 110, 3) := by decide +kernel
theorem dX7_value_0 : decode cX7_value 0 = .ok (.aload_n 0, 1) := by decide +kernel
theorem dX7_value_1 : decode cX7_value 1 = .ok (.invokevirtual 110, 3) := by decide +kernel
theorem dX7_machine_0 : decode cX7_machine 0 = .ok (.iload_n 1, 1) := by decide +kernel
theorem dX7_machine_1 : decode cX7_machine 1 = .ok (.ifCond .lt 9, 3) := by decide +kernel
theorem dX7_machine_4 : decode cX7_machine 4 = .ok (.iload_n 1, 1) := by decide +kernel
theorem dX7_machine_5 : decode cX7_machine 5 = .ok (.bipush 6, 2) := by decide +kernel
theorem dX7_machine_7 : decode cX7_machine 7 = .ok (.if_icmp .lt 11, 3) := by decide +kernel
theorem dX7_machine_10 : decode cX7_machine 10 = .ok (.new 69, 3) := by decide +kernel
theorem dX7_machine_13 : decode cX7_machine 13 = .ok (.dup, 1) := by decide +kernel
theorem dX7_machine_14 : decode cX7_machine 14 = .ok (.invokespecial 71, 3) := by decide +kernel
theorem dX7_machine_17 : decode cX7_machine 17 = .ok (.athrow, 1) := by decide +kernel
theorem dX7_machine_18 : decode cX7_machine 18 = .ok (.aload_n 0, 1) := by decide +kernel
theorem dX7_machine_19 : decode cX7_machine 19 = .ok (.invokevirtual 110, 3) := by decide +kernel
theorem dX7_stateAnew_0 : decode cX7_stateAnew 0 = .ok (.aload_n 0, 1) := by decide +kernel
theorem dX7_stateAnew_1 : decode cX7_stateAnew 1 = .ok (.invokevirtual 110, 3) := by decide +kernel
theorem dX7_valueAnew_0 : decode cX7_valueAnew 0 = .ok (.aload_n 0, 1) := by decide +kernel
theorem dX7_valueAnew_1 : decode cX7_valueAnew 1 = .ok (.invokevirtual 110, 3) := by decide +kernel
theorem dX7_checkProgram_0 : decode cX7_checkProgram 0 = .ok (.aload_n 0, 1) := by decide +kernel
theorem dX7_checkProgram_1 : decode cX7_checkProgram 1 = .ok (.getfield 24, 3) := by decide +kernel
theorem dX7_checkProgram_4 : decode cX7_checkProgram 4 = .ok (.ifCond .eq 11, 3) := by decide +kernel
theorem dX7_checkProgram_7 : decode cX7_checkProgram 7 = .ok (.new 75, 3) := by decide +kernel
theorem dX7_checkProgram_10 : decode cX7_checkProgram 10 = .ok (.dup, 1) := by decide +kernel
theorem dX7_checkProgram_11 : decode cX7_checkProgram 11 = .ok (.invokespecial 77, 3) := by decide +kernel
theorem dX7_checkProgram_14 : decode cX7_checkProgram 14 = .ok (.athrow, 1) := by decide +kernel
theorem dX7_checkOrder_0 : decode cX7_checkOrder 0 = .ok (.aload_n 0, 1) := by decide +kernel
theorem dX7_checkOrder_1 : decode cX7_checkOrder 1 = .ok (.getfield 24, 3) := by decide +kernel
theorem dX7_checkOrder_4 : decode cX7_checkOrder 4 = .ok (.ifCond .ne 18, 3) := by decide +kernel
theorem dX7_checkOrder_22 : decode cX7_checkOrder 22 = .ok (.new 107, 3) := by decide +kernel
theorem dX7_checkOrder_25 : decode cX7_checkOrder 25 = .ok (.dup, 1) := by decide +kernel
theorem dX7_checkOrder_26 : decode cX7_checkOrder 26 = .ok (.invokespecial 109, 3) := by decide +kernel
theorem dX7_checkOrder_29 : decode cX7_checkOrder 29 = .ok (.athrow, 1) := by decide +kernel
set_option maxRecDepth 20000 in
def z_X_let_neg : List Cond := .code yX7_let cX7_let 2 (some .int) :: (([.methodLink RX7 62 yX7_checkName, .static yX7_checkName, .initialized RX7, .code yX7_checkName cX7_checkName 1 none, .classLink RX7 107 "java/lang/IndexOutOfBoundsException", .initialized "java/lang/IndexOutOfBoundsException"] : List Cond) ++ (vx_at0 RX7 109 "java/lang/IndexOutOfBoundsException" ["java/lang/RuntimeException", "java/lang/Exception"]).filter goodWord)
set_option maxRecDepth 20000 in
theorem gg_X_let_neg_1 : GoodIn z_X_let_neg z_cN_neg := goodIn_ca (goodIn_p _ [4] rfl (by decide +kernel)) (goodIn_sub (fun _ h => List.mem_cons_of_mem _ (List.mem_append_right _ (h))) (by decide +kernel))
set_option maxRecDepth 20000 in
theorem g_X_let_neg_1 : GoodIn z_X_let_neg (va_wsS RX7 62 yX7_checkName z_cN_neg) := goodIn_app (goodIn_of _ (by decide +kernel)) gg_X_let_neg_1
set_option maxHeartbeats 4000000 in
set_option maxRecDepth 100000 in
theorem c_X_let_neg (l : Launch) (dC : Nat → ClassId) (dI : Nat → Nat → Nat) (tp te : Nat) (sz : Nat) (hlt : l.stackTraces = false) (h0 : Nat) (rp : Nat) (rt : Nat) (rc : Nat) (r1 : Nat) (r2 : Nat) (r3 : Nat) (r4 : Nat) (p0 : Int32) (hvn : p0 < 0) : vx_Met l yX7_let z_X_let_neg ({ frames := 7, cells := 1, slots := 6, locals := 101 }) (va_Pc [.ref h0, .int p0] (Pw dC dI [(h0, .inr (8, [.ref rp, .int 0, .ref rt, .ref rc, .int ((-1)), .ref r1, .ref r2, .ref r3, .ref r4, .null, .int 0]))] [] sz tp te)) (va_Qi (fun (r : Int32) (_ : Unit) => False) (fun (_ : Unit) (_ : State) => True) (va_A [(h0, .inr (8, [.ref rp, .int 0, .ref rt, .ref rc, .int ((-1)), .ref r1, .ref r2, .ref r3, .ref r4, .null, .int 0]))] sz)) (vx_X (fun (_ : Unit) => True) (fun (E : String) (_ : Unit) (_ : State) => E = "java/lang/IndexOutOfBoundsException") (va_A [(h0, .inr (8, [.ref rp, .int 0, .ref rt, .ref rc, .int ((-1)), .ref r1, .ref r2, .ref r3, .ref r4, .null, .int 0]))] sz)) 1 6 (va_A [(h0, .inr (8, [.ref rp, .int 0, .ref rt, .ref rc, .int ((-1)), .ref r1, .ref r2, .ref r3, .ref r4, .null, .int 0]))] sz) := by
  refine vx_ofW (cc := cX7_let) (maxL := 2) (ret := (some .int)) (by decide) rfl ?_
  intro p e s m args below meth c s₁ B hml htab hv
  obtain ⟨rfl, hsz, hP, hK, hD0, hG⟩ := hv
  have hx := B.exec
  have hb := B.bytes
  have hr := B.returns
  have hts := atoms_spec (ws := z_X_let_neg) B.pre
  have hown : s.vm.findClass RX7 = some m.cls := findClass_of_methodNamed B.named
  have hlocks := B.notSynchronized
  subst hsz
  have hD := hD0.self (sz := s.heap.size)
  generalize hAe : va_A [(h0, .inr (8, [.ref rp, .int 0, .ref rt, .ref rc, .int ((-1)), .ref r1, .ref r2, .ref r3, .ref r4, .null, .int 0]))] s.heap.size = A at hD hG ⊢
  have hA : ∀ q : Nat, s.heap.size ≤ q → A q := fun q h => by rw [← hAe]; exact Or.inr h
  have hS : va_S A s.heap s.heap [] := va_S.rf
  have hl := lv_entry ([.ref h0, .int p0]) (n := 2) (Nat.le_of_ble_eq_true rfl)
  rw [lg_entry_eq]
  generalize (lg_sl ([.ref h0, .int p0]) ++ List.replicate (2 - (lg_sl ([.ref h0, .int p0])).length) Slot.unset).toArray = ls at hl ⊢
  have hl : lv_has ls 2 [(0, .ref h0), (1, .int p0)] := hl
  refine lv_iload_n hx hb dX7_let_0 rfl (lv_at hl 1 rfl) ?_
  have hPc := hP.sub (ws' := []) [] rfl
  have hDc := hD.sub (ws' := []) [] (by decide) rfl
  have hKc := hK.sub (tys' := []) [] rfl
  have hFc := va_free (wc := []) hD hS hA [] rfl
  refine vx_callv (vx_runS (As := [.int p0]) (rest := []) ⟨hx, hb, hml, hown, hts⟩ (c_cN_neg l dC dI tp te s.heap.size hlt p0 hvn) (va_cwS 1 hts g_X_let_neg_1 rfl rfl rfl (by decide +kernel) ⟨Nat.le_of_ble_eq_true rfl, Nat.le_of_ble_eq_true rfl⟩) ⟨Pw.blind, Pw.mk hPc hKc hDc hG hS hFc⟩ rfl rfl hl.1 rfl (lv_room (Nat.le_of_ble_eq_true rfl)) dX7_let_1 ⟨Nat.le_of_ble_eq_true rfl, Nat.le_of_ble_eq_true rfl⟩) hS (fun q _ h => hFc q h) hFc (fun q _ h => hFc q h) (fun E ce q9 u t9 H1 locs ht hvm hpx hBX hz1 hk1 hS hce hcv hcl => ?_) (fun u t9 H_1 locs ht hvm hw hB hz1 hk1 hS => hw.elim)
  have hBX : E = "java/lang/IndexOutOfBoundsException" := hBX
  subst hBX
  exact vx_out (fun x9 h9 => (htab x9 h9).elim) hlocks hce hcv hcl (fun t9 ht9 _ => ⟨(), trivial, rfl, hS.F ht9⟩) hS.2.2 (Nat.le_of_ble_eq_true rfl) (Nat.le_of_ble_eq_true rfl)

set_option maxRecDepth 20000 in
def z_X_let_big : List Cond := .code yX7_let cX7_let 2 (some .int) :: (([.methodLink RX7 62 yX7_checkName, .static yX7_checkName, .initialized RX7, .code yX7_checkName cX7_checkName 1 none, .classLink RX7 107 "java/lang/IndexOutOfBoundsException", .initialized "java/lang/IndexOutOfBoundsException"] : List Cond) ++ (vx_at0 RX7 109 "java/lang/IndexOutOfBoundsException" ["java/lang/RuntimeException", "java/lang/Exception"]).filter goodWord)
set_option maxRecDepth 20000 in
theorem gg_X_let_big_1 : GoodIn z_X_let_big z_cN_big := goodIn_ca (goodIn_p _ [4] rfl (by decide +kernel)) (goodIn_sub (fun _ h => List.mem_cons_of_mem _ (List.mem_append_right _ (h))) (by decide +kernel))
set_option maxRecDepth 20000 in
theorem g_X_let_big_1 : GoodIn z_X_let_big (va_wsS RX7 62 yX7_checkName z_cN_big) := goodIn_app (goodIn_of _ (by decide +kernel)) gg_X_let_big_1
set_option maxHeartbeats 4000000 in
set_option maxRecDepth 100000 in
theorem c_X_let_big (l : Launch) (dC : Nat → ClassId) (dI : Nat → Nat → Nat) (tp te : Nat) (sz : Nat) (hlt : l.stackTraces = false) (h0 : Nat) (rp : Nat) (rt : Nat) (rc : Nat) (r1 : Nat) (r2 : Nat) (r3 : Nat) (r4 : Nat) (p0 : Int32) (hvn : ¬ p0 < 0) (hvb : ¬ p0 < 10) (hvc : 10 ≤ p0) : vx_Met l yX7_let z_X_let_big ({ frames := 7, cells := 1, slots := 6, locals := 101 }) (va_Pc [.ref h0, .int p0] (Pw dC dI [(h0, .inr (8, [.ref rp, .int 0, .ref rt, .ref rc, .int ((-1)), .ref r1, .ref r2, .ref r3, .ref r4, .null, .int 0]))] [] sz tp te)) (va_Qi (fun (r : Int32) (_ : Unit) => False) (fun (_ : Unit) (_ : State) => True) (va_A [(h0, .inr (8, [.ref rp, .int 0, .ref rt, .ref rc, .int ((-1)), .ref r1, .ref r2, .ref r3, .ref r4, .null, .int 0]))] sz)) (vx_X (fun (_ : Unit) => True) (fun (E : String) (_ : Unit) (_ : State) => E = "java/lang/IndexOutOfBoundsException") (va_A [(h0, .inr (8, [.ref rp, .int 0, .ref rt, .ref rc, .int ((-1)), .ref r1, .ref r2, .ref r3, .ref r4, .null, .int 0]))] sz)) 1 6 (va_A [(h0, .inr (8, [.ref rp, .int 0, .ref rt, .ref rc, .int ((-1)), .ref r1, .ref r2, .ref r3, .ref r4, .null, .int 0]))] sz) := by
  refine vx_ofW (cc := cX7_let) (maxL := 2) (ret := (some .int)) (by decide) rfl ?_
  intro p e s m args below meth c s₁ B hml htab hv
  obtain ⟨rfl, hsz, hP, hK, hD0, hG⟩ := hv
  have hx := B.exec
  have hb := B.bytes
  have hr := B.returns
  have hts := atoms_spec (ws := z_X_let_big) B.pre
  have hown : s.vm.findClass RX7 = some m.cls := findClass_of_methodNamed B.named
  have hlocks := B.notSynchronized
  subst hsz
  have hD := hD0.self (sz := s.heap.size)
  generalize hAe : va_A [(h0, .inr (8, [.ref rp, .int 0, .ref rt, .ref rc, .int ((-1)), .ref r1, .ref r2, .ref r3, .ref r4, .null, .int 0]))] s.heap.size = A at hD hG ⊢
  have hA : ∀ q : Nat, s.heap.size ≤ q → A q := fun q h => by rw [← hAe]; exact Or.inr h
  have hS : va_S A s.heap s.heap [] := va_S.rf
  have hl := lv_entry ([.ref h0, .int p0]) (n := 2) (Nat.le_of_ble_eq_true rfl)
  rw [lg_entry_eq]
  generalize (lg_sl ([.ref h0, .int p0]) ++ List.replicate (2 - (lg_sl ([.ref h0, .int p0])).length) Slot.unset).toArray = ls at hl ⊢
  have hl : lv_has ls 2 [(0, .ref h0), (1, .int p0)] := hl
  refine lv_iload_n hx hb dX7_let_0 rfl (lv_at hl 1 rfl) ?_
  have hPc := hP.sub (ws' := []) [] rfl
  have hDc := hD.sub (ws' := []) [] (by decide) rfl
  have hKc := hK.sub (tys' := []) [] rfl
  have hFc := va_free (wc := []) hD hS hA [] rfl
  refine vx_callv (vx_runS (As := [.int p0]) (rest := []) ⟨hx, hb, hml, hown, hts⟩ (c_cN_big l dC dI tp te s.heap.size hlt p0 hvn hvb hvc) (va_cwS 1 hts g_X_let_big_1 rfl rfl rfl (by decide +kernel) ⟨Nat.le_of_ble_eq_true rfl, Nat.le_of_ble_eq_true rfl⟩) ⟨Pw.blind, Pw.mk hPc hKc hDc hG hS hFc⟩ rfl rfl hl.1 rfl (lv_room (Nat.le_of_ble_eq_true rfl)) dX7_let_1 ⟨Nat.le_of_ble_eq_true rfl, Nat.le_of_ble_eq_true rfl⟩) hS (fun q _ h => hFc q h) hFc (fun q _ h => hFc q h) (fun E ce q9 u t9 H1 locs ht hvm hpx hBX hz1 hk1 hS hce hcv hcl => ?_) (fun u t9 H_1 locs ht hvm hw hB hz1 hk1 hS => hw.elim)
  have hBX : E = "java/lang/IndexOutOfBoundsException" := hBX
  subst hBX
  exact vx_out (fun x9 h9 => (htab x9 h9).elim) hlocks hce hcv hcl (fun t9 ht9 _ => ⟨(), trivial, rfl, hS.F ht9⟩) hS.2.2 (Nat.le_of_ble_eq_true rfl) (Nat.le_of_ble_eq_true rfl)

set_option maxRecDepth 20000 in
def z_X_let_ok : List Cond := .code yX7_let cX7_let 2 (some .int) :: (([.methodLink RX7 62 yX7_checkName, .static yX7_checkName, .initialized RX7, .code yX7_checkName cX7_checkName 1 none, .methodLink RX7 65 yX7_join, .instanceMethod yX7_join, .selects RX7 yX7_join yX7_join, .code yX7_join cX7_join 5 (some .int), .methodLink RX7 173 yX5_partsOf, .static yX5_partsOf, .initialized RX5, .code yX5_partsOf cX5_partsOf 1 (some .int), .fieldLink RX5 34 "Selfkindle$Term" "PARTS_OF" "[I", .fieldLink RX7 72 "Selfkindle" "height" "I", .classLink RX7 75 "java/lang/IllegalStateException", .initialized "java/lang/IllegalStateException"] : List Cond) ++ wsX70 ++ (vx_at0 RX7 77 "java/lang/IllegalStateException" ["java/lang/RuntimeException", "java/lang/Exception"]).filter goodWord)
theorem in_z_X_let_ok_X7 : ∀ w ∈ wsX70, w ∈ z_X_let_ok := fun w h => List.mem_cons_of_mem _ (List.mem_append_left _ (List.mem_append_right _ (h)))
set_option maxRecDepth 20000 in
theorem g_X_let_ok_1 : GoodIn z_X_let_ok (va_wsS RX7 62 yX7_checkName z_cN_ok) := goodIn_p _ [4] rfl (by decide +kernel)
set_option maxRecDepth 20000 in
theorem gg_X_let_ok_9 : GoodIn z_X_let_ok z_jn6 := goodIn_ca (goodIn_p _ [8, 12] rfl (by decide +kernel)) (goodIn_sub (fun _ h => List.mem_cons_of_mem _ (List.mem_append_right _ (h))) (by decide +kernel))
set_option maxRecDepth 20000 in
theorem g_X_let_ok_9 : GoodIn z_X_let_ok (wsV RX7 65 RX7 yX7_join z_jn6) := goodIn_app (goodIn_of _ (by decide +kernel)) gg_X_let_ok_9
set_option maxHeartbeats 4000000 in
set_option maxRecDepth 100000 in
theorem c_X_let_ok (l : Launch) (dC : Nat → ClassId) (dI : Nat → Nat → Nat) (tp te : Nat) (sz : Nat) (hlt : l.stackTraces = false) (h0 : Nat) (rp : Nat) (rt : Nat) (rc : Nat) (r1 : Nat) (r2 : Nat) (r3 : Nat) (r4 : Nat) (p0 : Int32) (hvn : ¬ p0 < 0) (hvb : p0 < 10) (hvc : ¬ 10 ≤ p0) : vx_Met l yX7_let z_X_let_ok ({ frames := 7, cells := 1, slots := 6, locals := 105 }) (va_Pc [.ref h0, .int p0] (Pw dC dI [(h0, .inr (8, [.ref rp, .int 0, .ref rt, .ref rc, .int ((-1)), .ref r1, .ref r2, .ref r3, .ref r4, .null, .int 0]))] [] sz tp te)) (va_Qi (fun (r : Int32) (_ : Unit) => False) (fun (_ : Unit) (_ : State) => True) (va_A [(h0, .inr (8, [.ref rp, .int 0, .ref rt, .ref rc, .int ((-1)), .ref r1, .ref r2, .ref r3, .ref r4, .null, .int 0]))] sz)) (vx_X (fun (_ : Unit) => True) (fun (E : String) (_ : Unit) (_ : State) => E = "java/lang/IllegalStateException") (va_A [(h0, .inr (8, [.ref rp, .int 0, .ref rt, .ref rc, .int ((-1)), .ref r1, .ref r2, .ref r3, .ref r4, .null, .int 0]))] sz)) 1 6 (va_A [(h0, .inr (8, [.ref rp, .int 0, .ref rt, .ref rc, .int ((-1)), .ref r1, .ref r2, .ref r3, .ref r4, .null, .int 0]))] sz) := by
  refine vx_ofW (cc := cX7_let) (maxL := 2) (ret := (some .int)) (by decide) rfl ?_
  intro p e s m args below meth c s₁ B hml htab hv
  obtain ⟨rfl, hsz, hP, hK, hD0, hG⟩ := hv
  have hx := B.exec
  have hb := B.bytes
  have hr := B.returns
  have hts := atoms_spec (ws := z_X_let_ok) B.pre
  have hown : s.vm.findClass RX7 = some m.cls := findClass_of_methodNamed B.named
  have hlocks := B.notSynchronized
  subst hsz
  have hD := hD0.self (sz := s.heap.size)
  generalize hAe : va_A [(h0, .inr (8, [.ref rp, .int 0, .ref rt, .ref rc, .int ((-1)), .ref r1, .ref r2, .ref r3, .ref r4, .null, .int 0]))] s.heap.size = A at hD hG ⊢
  have hA : ∀ q : Nat, s.heap.size ≤ q → A q := fun q h => by rw [← hAe]; exact Or.inr h
  have hS : va_S A s.heap s.heap [] := va_S.rf
  have hl := lv_entry ([.ref h0, .int p0]) (n := 2) (Nat.le_of_ble_eq_true rfl)
  rw [lg_entry_eq]
  generalize (lg_sl ([.ref h0, .int p0]) ++ List.replicate (2 - (lg_sl ([.ref h0, .int p0])).length) Slot.unset).toArray = ls at hl ⊢
  have hl : lv_has ls 2 [(0, .ref h0), (1, .int p0)] := hl
  refine lv_iload_n hx hb dX7_let_0 rfl (lv_at hl 1 rfl) ?_
  have hPc := hP.sub (ws' := []) [] rfl
  have hDc := hD.sub (ws' := []) [] (by decide) rfl
  have hKc := hK.sub (tys' := []) [] rfl
  have hFc := va_free (wc := []) hD hS hA [] rfl
  refine va_callv (va_runS (As := [.int p0]) (rest := []) ⟨hx, hb, hml, hown, hts⟩ (c_cN_ok l dC dI tp te s.heap.size p0 hvn hvb hvc) (va_cwS 1 hts g_X_let_ok_1 rfl rfl rfl (by decide +kernel) ⟨Nat.le_of_ble_eq_true rfl, Nat.le_of_ble_eq_true rfl⟩) ⟨Pw.blind, Pw.mk hPc hKc hDc hG hS hFc⟩ rfl rfl hl.1 rfl (lv_room (Nat.le_of_ble_eq_true rfl)) dX7_let_1 ⟨Nat.le_of_ble_eq_true rfl, Nat.le_of_ble_eq_true rfl⟩) hS (fun q _ h => hFc q h) hFc (fun u t9 H_1 locs ht hvm hw hB hz1 hk1 hS => ?_)
  obtain ⟨hP, hD⟩ := va_join (wr := [(h0, .inr (8, [.ref rp, .int 0, .ref rt, .ref rc, .int ((-1)), .ref r1, .ref r2, .ref r3, .ref r4, .null, .int 0]))]) (w1 := []) hP hD [] [0] rfl rfl (by decide) (by decide) hk1 hFc va_P.nil va_D.nil
  have hK := hK.sub (tys' := []) [] rfl
  have hP : va_P (dC, dI) vwCl [(h0, .inr (8, [.ref rp, .int 0, .ref rt, .ref rc, .int ((-1)), .ref r1, .ref r2, .ref r3, .ref r4, .null, .int 0]))] H_1 := hP
  have hD : va_D A [(h0, .inr (8, [.ref rp, .int 0, .ref rt, .ref rc, .int ((-1)), .ref r1, .ref r2, .ref r3, .ref r4, .null, .int 0]))] := hD
  have hK : va_K (dC, dI) vwCl [] s := hK
  refine W.widen (k := 0) (n := 0) (Nat.le_of_ble_eq_true rfl) (Nat.le_of_ble_eq_true rfl) ?_
  refine lv_aload_n hx hb dX7_let_4 rfl (lv_at hl 0 rfl) ?_
  refine lv_bipush (v := 6) hx hb dX7_let_5 (by decide) ?_
  refine lv_iload_n hx hb dX7_let_7 rfl (lv_at hl 1 rfl) ?_
  refine lv_iconst (v := 0) hx hb dX7_let_8 (by decide) ?_
  have hPc := hP.sub (ws' := [(h0, .inr (8, [.ref rp, .int 0, .ref rt, .ref rc, .int ((-1)), .ref r1, .ref r2, .ref r3, .ref r4, .null, .int 0]))]) [0] rfl
  have hDc := hD.sub (ws' := [(h0, .inr (8, [.ref rp, .int 0, .ref rt, .ref rc, .int ((-1)), .ref r1, .ref r2, .ref r3, .ref r4, .null, .int 0]))]) [0] (by decide) rfl
  have hKc := hK.sub (tys' := []) [] rfl
  have hFc := va_free (wc := [(h0, .inr (8, [.ref rp, .int 0, .ref rt, .ref rc, .int ((-1)), .ref r1, .ref r2, .ref r3, .ref r4, .null, .int 0]))]) hD hS hA [0] rfl
  refine vx_calli (vx_runV (As := [.int 6, .int p0, .int 0]) (rest := []) ⟨hx, hb, hml, hown, hts⟩ (c_jn6 l dC dI tp te H_1.size hlt h0 rp rt rc r1 r2 r3 r4 p0 0) (cwV 3 hts g_X_let_ok_9 rfl rfl rfl (by decide +kernel) ⟨Nat.le_of_ble_eq_true rfl, Nat.le_of_ble_eq_true rfl⟩) ⟨Pw.blind, va_recv hKc hPc (ci := 8) (q0 := 0) rfl rfl, Pw.mk hPc hKc hDc hG hS hFc⟩ rfl rfl hl.1 rfl (lv_room (Nat.le_of_ble_eq_true rfl)) dX7_let_9 ⟨Nat.le_of_ble_eq_true rfl, Nat.le_of_ble_eq_true rfl⟩) hS (fun q _ h => hFc q h) hFc (fun q _ h => hFc q h) (fun E ce q9 u t9 H1 locs ht hvm hpx hBX hz1 hk1 hS hce hcv hcl => ?_) (fun r u t9 H_3 locs ht hvm hw hB hz1 hk1 hS => hw.elim)
  have hBX : E = "java/lang/IllegalStateException" := hBX
  subst hBX
  exact vx_out (fun x9 h9 => (htab x9 h9).elim) hlocks hce hcv hcl (fun t9 ht9 _ => ⟨(), trivial, rfl, hS.F ht9⟩) hS.2.2 (Nat.le_of_ble_eq_true rfl) (Nat.le_of_ble_eq_true rfl)

set_option maxRecDepth 20000 in
def z_X_handle_neg : List Cond := .code yX7_handle cX7_handle 2 (some .int) :: (([.methodLink RX7 62 yX7_checkName, .static yX7_checkName, .initialized RX7, .code yX7_checkName cX7_checkName 1 none, .classLink RX7 107 "java/lang/IndexOutOfBoundsException", .initialized "java/lang/IndexOutOfBoundsException"] : List Cond) ++ (vx_at0 RX7 109 "java/lang/IndexOutOfBoundsException" ["java/lang/RuntimeException", "java/lang/Exception"]).filter goodWord)
set_option maxRecDepth 20000 in
theorem gg_X_handle_neg_1 : GoodIn z_X_handle_neg z_cN_neg := goodIn_ca (goodIn_p _ [4] rfl (by decide +kernel)) (goodIn_sub (fun _ h => List.mem_cons_of_mem _ (List.mem_append_right _ (h))) (by decide +kernel))
set_option maxRecDepth 20000 in
theorem g_X_handle_neg_1 : GoodIn z_X_handle_neg (va_wsS RX7 62 yX7_checkName z_cN_neg) := goodIn_app (goodIn_of _ (by decide +kernel)) gg_X_handle_neg_1
set_option maxHeartbeats 4000000 in
set_option maxRecDepth 100000 in
theorem c_X_handle_neg (l : Launch) (dC : Nat → ClassId) (dI : Nat → Nat → Nat) (tp te : Nat) (sz : Nat) (hlt : l.stackTraces = false) (h0 : Nat) (rp : Nat) (rt : Nat) (rc : Nat) (r1 : Nat) (r2 : Nat) (r3 : Nat) (r4 : Nat) (p0 : Int32) (hvn : p0 < 0) : vx_Met l yX7_handle z_X_handle_neg ({ frames := 7, cells := 1, slots := 6, locals := 101 }) (va_Pc [.ref h0, .int p0] (Pw dC dI [(h0, .inr (8, [.ref rp, .int 0, .ref rt, .ref rc, .int ((-1)), .ref r1, .ref r2, .ref r3, .ref r4, .null, .int 0]))] [] sz tp te)) (va_Qi (fun (r : Int32) (_ : Unit) => False) (fun (_ : Unit) (_ : State) => True) (va_A [(h0, .inr (8, [.ref rp, .int 0, .ref rt, .ref rc, .int ((-1)), .ref r1, .ref r2, .ref r3, .ref r4, .null, .int 0]))] sz)) (vx_X (fun (_ : Unit) => True) (fun (E : String) (_ : Unit) (_ : State) => E = "java/lang/IndexOutOfBoundsException") (va_A [(h0, .inr (8, [.ref rp, .int 0, .ref rt, .ref rc, .int ((-1)), .ref r1, .ref r2, .ref r3, .ref r4, .null, .int 0]))] sz)) 1 6 (va_A [(h0, .inr (8, [.ref rp, .int 0, .ref rt, .ref rc, .int ((-1)), .ref r1, .ref r2, .ref r3, .ref r4, .null, .int 0]))] sz) := by
  refine vx_ofW (cc := cX7_handle) (maxL := 2) (ret := (some .int)) (by decide) rfl ?_
  intro p e s m args below meth c s₁ B hml htab hv
  obtain ⟨rfl, hsz, hP, hK, hD0, hG⟩ := hv
  have hx := B.exec
  have hb := B.bytes
  have hr := B.returns
  have hts := atoms_spec (ws := z_X_handle_neg) B.pre
  have hown : s.vm.findClass RX7 = some m.cls := findClass_of_methodNamed B.named
  have hlocks := B.notSynchronized
  subst hsz
  have hD := hD0.self (sz := s.heap.size)
  generalize hAe : va_A [(h0, .inr (8, [.ref rp, .int 0, .ref rt, .ref rc, .int ((-1)), .ref r1, .ref r2, .ref r3, .ref r4, .null, .int 0]))] s.heap.size = A at hD hG ⊢
  have hA : ∀ q : Nat, s.heap.size ≤ q → A q := fun q h => by rw [← hAe]; exact Or.inr h
  have hS : va_S A s.heap s.heap [] := va_S.rf
  have hl := lv_entry ([.ref h0, .int p0]) (n := 2) (Nat.le_of_ble_eq_true rfl)
  rw [lg_entry_eq]
  generalize (lg_sl ([.ref h0, .int p0]) ++ List.replicate (2 - (lg_sl ([.ref h0, .int p0])).length) Slot.unset).toArray = ls at hl ⊢
  have hl : lv_has ls 2 [(0, .ref h0), (1, .int p0)] := hl
  refine lv_iload_n hx hb dX7_handle_0 rfl (lv_at hl 1 rfl) ?_
  have hPc := hP.sub (ws' := []) [] rfl
  have hDc := hD.sub (ws' := []) [] (by decide) rfl
  have hKc := hK.sub (tys' := []) [] rfl
  have hFc := va_free (wc := []) hD hS hA [] rfl
  refine vx_callv (vx_runS (As := [.int p0]) (rest := []) ⟨hx, hb, hml, hown, hts⟩ (c_cN_neg l dC dI tp te s.heap.size hlt p0 hvn) (va_cwS 1 hts g_X_handle_neg_1 rfl rfl rfl (by decide +kernel) ⟨Nat.le_of_ble_eq_true rfl, Nat.le_of_ble_eq_true rfl⟩) ⟨Pw.blind, Pw.mk hPc hKc hDc hG hS hFc⟩ rfl rfl hl.1 rfl (lv_room (Nat.le_of_ble_eq_true rfl)) dX7_handle_1 ⟨Nat.le_of_ble_eq_true rfl, Nat.le_of_ble_eq_true rfl⟩) hS (fun q _ h => hFc q h) hFc (fun q _ h => hFc q h) (fun E ce q9 u t9 H1 locs ht hvm hpx hBX hz1 hk1 hS hce hcv hcl => ?_) (fun u t9 H_1 locs ht hvm hw hB hz1 hk1 hS => hw.elim)
  have hBX : E = "java/lang/IndexOutOfBoundsException" := hBX
  subst hBX
  exact vx_out (fun x9 h9 => (htab x9 h9).elim) hlocks hce hcv hcl (fun t9 ht9 _ => ⟨(), trivial, rfl, hS.F ht9⟩) hS.2.2 (Nat.le_of_ble_eq_true rfl) (Nat.le_of_ble_eq_true rfl)

set_option maxRecDepth 20000 in
def z_X_handle_big : List Cond := .code yX7_handle cX7_handle 2 (some .int) :: (([.methodLink RX7 62 yX7_checkName, .static yX7_checkName, .initialized RX7, .code yX7_checkName cX7_checkName 1 none, .classLink RX7 107 "java/lang/IndexOutOfBoundsException", .initialized "java/lang/IndexOutOfBoundsException"] : List Cond) ++ (vx_at0 RX7 109 "java/lang/IndexOutOfBoundsException" ["java/lang/RuntimeException", "java/lang/Exception"]).filter goodWord)
set_option maxRecDepth 20000 in
theorem gg_X_handle_big_1 : GoodIn z_X_handle_big z_cN_big := goodIn_ca (goodIn_p _ [4] rfl (by decide +kernel)) (goodIn_sub (fun _ h => List.mem_cons_of_mem _ (List.mem_append_right _ (h))) (by decide +kernel))
set_option maxRecDepth 20000 in
theorem g_X_handle_big_1 : GoodIn z_X_handle_big (va_wsS RX7 62 yX7_checkName z_cN_big) := goodIn_app (goodIn_of _ (by decide +kernel)) gg_X_handle_big_1
set_option maxHeartbeats 4000000 in
set_option maxRecDepth 100000 in
theorem c_X_handle_big (l : Launch) (dC : Nat → ClassId) (dI : Nat → Nat → Nat) (tp te : Nat) (sz : Nat) (hlt : l.stackTraces = false) (h0 : Nat) (rp : Nat) (rt : Nat) (rc : Nat) (r1 : Nat) (r2 : Nat) (r3 : Nat) (r4 : Nat) (p0 : Int32) (hvn : ¬ p0 < 0) (hvb : ¬ p0 < 10) (hvc : 10 ≤ p0) : vx_Met l yX7_handle z_X_handle_big ({ frames := 7, cells := 1, slots := 6, locals := 101 }) (va_Pc [.ref h0, .int p0] (Pw dC dI [(h0, .inr (8, [.ref rp, .int 0, .ref rt, .ref rc, .int ((-1)), .ref r1, .ref r2, .ref r3, .ref r4, .null, .int 0]))] [] sz tp te)) (va_Qi (fun (r : Int32) (_ : Unit) => False) (fun (_ : Unit) (_ : State) => True) (va_A [(h0, .inr (8, [.ref rp, .int 0, .ref rt, .ref rc, .int ((-1)), .ref r1, .ref r2, .ref r3, .ref r4, .null, .int 0]))] sz)) (vx_X (fun (_ : Unit) => True) (fun (E : String) (_ : Unit) (_ : State) => E = "java/lang/IndexOutOfBoundsException") (va_A [(h0, .inr (8, [.ref rp, .int 0, .ref rt, .ref rc, .int ((-1)), .ref r1, .ref r2, .ref r3, .ref r4, .null, .int 0]))] sz)) 1 6 (va_A [(h0, .inr (8, [.ref rp, .int 0, .ref rt, .ref rc, .int ((-1)), .ref r1, .ref r2, .ref r3, .ref r4, .null, .int 0]))] sz) := by
  refine vx_ofW (cc := cX7_handle) (maxL := 2) (ret := (some .int)) (by decide) rfl ?_
  intro p e s m args below meth c s₁ B hml htab hv
  obtain ⟨rfl, hsz, hP, hK, hD0, hG⟩ := hv
  have hx := B.exec
  have hb := B.bytes
  have hr := B.returns
  have hts := atoms_spec (ws := z_X_handle_big) B.pre
  have hown : s.vm.findClass RX7 = some m.cls := findClass_of_methodNamed B.named
  have hlocks := B.notSynchronized
  subst hsz
  have hD := hD0.self (sz := s.heap.size)
  generalize hAe : va_A [(h0, .inr (8, [.ref rp, .int 0, .ref rt, .ref rc, .int ((-1)), .ref r1, .ref r2, .ref r3, .ref r4, .null, .int 0]))] s.heap.size = A at hD hG ⊢
  have hA : ∀ q : Nat, s.heap.size ≤ q → A q := fun q h => by rw [← hAe]; exact Or.inr h
  have hS : va_S A s.heap s.heap [] := va_S.rf
  have hl := lv_entry ([.ref h0, .int p0]) (n := 2) (Nat.le_of_ble_eq_true rfl)
  rw [lg_entry_eq]
  generalize (lg_sl ([.ref h0, .int p0]) ++ List.replicate (2 - (lg_sl ([.ref h0, .int p0])).length) Slot.unset).toArray = ls at hl ⊢
  have hl : lv_has ls 2 [(0, .ref h0), (1, .int p0)] := hl
  refine lv_iload_n hx hb dX7_handle_0 rfl (lv_at hl 1 rfl) ?_
  have hPc := hP.sub (ws' := []) [] rfl
  have hDc := hD.sub (ws' := []) [] (by decide) rfl
  have hKc := hK.sub (tys' := []) [] rfl
  have hFc := va_free (wc := []) hD hS hA [] rfl
  refine vx_callv (vx_runS (As := [.int p0]) (rest := []) ⟨hx, hb, hml, hown, hts⟩ (c_cN_big l dC dI tp te s.heap.size hlt p0 hvn hvb hvc) (va_cwS 1 hts g_X_handle_big_1 rfl rfl rfl (by decide +kernel) ⟨Nat.le_of_ble_eq_true rfl, Nat.le_of_ble_eq_true rfl⟩) ⟨Pw.blind, Pw.mk hPc hKc hDc hG hS hFc⟩ rfl rfl hl.1 rfl (lv_room (Nat.le_of_ble_eq_true rfl)) dX7_handle_1 ⟨Nat.le_of_ble_eq_true rfl, Nat.le_of_ble_eq_true rfl⟩) hS (fun q _ h => hFc q h) hFc (fun q _ h => hFc q h) (fun E ce q9 u t9 H1 locs ht hvm hpx hBX hz1 hk1 hS hce hcv hcl => ?_) (fun u t9 H_1 locs ht hvm hw hB hz1 hk1 hS => hw.elim)
  have hBX : E = "java/lang/IndexOutOfBoundsException" := hBX
  subst hBX
  exact vx_out (fun x9 h9 => (htab x9 h9).elim) hlocks hce hcv hcl (fun t9 ht9 _ => ⟨(), trivial, rfl, hS.F ht9⟩) hS.2.2 (Nat.le_of_ble_eq_true rfl) (Nat.le_of_ble_eq_true rfl)

set_option maxRecDepth 20000 in
def z_X_handle_ok : List Cond := .code yX7_handle cX7_handle 2 (some .int) :: (([.methodLink RX7 62 yX7_checkName, .static yX7_checkName, .initialized RX7, .code yX7_checkName cX7_checkName 1 none, .methodLink RX7 65 yX7_join, .instanceMethod yX7_join, .selects RX7 yX7_join yX7_join, .code yX7_join cX7_join 5 (some .int), .methodLink RX7 173 yX5_partsOf, .static yX5_partsOf, .initialized RX5, .code yX5_partsOf cX5_partsOf 1 (some .int), .fieldLink RX5 34 "Selfkindle$Term" "PARTS_OF" "[I", .fieldLink RX7 72 "Selfkindle" "height" "I", .classLink RX7 75 "java/lang/IllegalStateException", .initialized "java/lang/IllegalStateException"] : List Cond) ++ wsX70 ++ (vx_at0 RX7 77 "java/lang/IllegalStateException" ["java/lang/RuntimeException", "java/lang/Exception"]).filter goodWord)
theorem in_z_X_handle_ok_X7 : ∀ w ∈ wsX70, w ∈ z_X_handle_ok := fun w h => List.mem_cons_of_mem _ (List.mem_append_left _ (List.mem_append_right _ (h)))
set_option maxRecDepth 20000 in
theorem g_X_handle_ok_1 : GoodIn z_X_handle_ok (va_wsS RX7 62 yX7_checkName z_cN_ok) := goodIn_p _ [4] rfl (by decide +kernel)
set_option maxRecDepth 20000 in
theorem gg_X_handle_ok_9 : GoodIn z_X_handle_ok z_jn11 := goodIn_ca (goodIn_p _ [8, 12] rfl (by decide +kernel)) (goodIn_sub (fun _ h => List.mem_cons_of_mem _ (List.mem_append_right _ (h))) (by decide +kernel))
set_option maxRecDepth 20000 in
theorem g_X_handle_ok_9 : GoodIn z_X_handle_ok (wsV RX7 65 RX7 yX7_join z_jn11) := goodIn_app (goodIn_of _ (by decide +kernel)) gg_X_handle_ok_9
set_option maxHeartbeats 4000000 in
set_option maxRecDepth 100000 in
theorem c_X_handle_ok (l : Launch) (dC : Nat → ClassId) (dI : Nat → Nat → Nat) (tp te : Nat) (sz : Nat) (hlt : l.stackTraces = false) (h0 : Nat) (rp : Nat) (rt : Nat) (rc : Nat) (r1 : Nat) (r2 : Nat) (r3 : Nat) (r4 : Nat) (p0 : Int32) (hvn : ¬ p0 < 0) (hvb : p0 < 10) (hvc : ¬ 10 ≤ p0) : vx_Met l yX7_handle z_X_handle_ok ({ frames := 7, cells := 1, slots := 6, locals := 105 }) (va_Pc [.ref h0, .int p0] (Pw dC dI [(h0, .inr (8, [.ref rp, .int 0, .ref rt, .ref rc, .int ((-1)), .ref r1, .ref r2, .ref r3, .ref r4, .null, .int 0]))] [] sz tp te)) (va_Qi (fun (r : Int32) (_ : Unit) => False) (fun (_ : Unit) (_ : State) => True) (va_A [(h0, .inr (8, [.ref rp, .int 0, .ref rt, .ref rc, .int ((-1)), .ref r1, .ref r2, .ref r3, .ref r4, .null, .int 0]))] sz)) (vx_X (fun (_ : Unit) => True) (fun (E : String) (_ : Unit) (_ : State) => E = "java/lang/IllegalStateException") (va_A [(h0, .inr (8, [.ref rp, .int 0, .ref rt, .ref rc, .int ((-1)), .ref r1, .ref r2, .ref r3, .ref r4, .null, .int 0]))] sz)) 1 6 (va_A [(h0, .inr (8, [.ref rp, .int 0, .ref rt, .ref rc, .int ((-1)), .ref r1, .ref r2, .ref r3, .ref r4, .null, .int 0]))] sz) := by
  refine vx_ofW (cc := cX7_handle) (maxL := 2) (ret := (some .int)) (by decide) rfl ?_
  intro p e s m args below meth c s₁ B hml htab hv
  obtain ⟨rfl, hsz, hP, hK, hD0, hG⟩ := hv
  have hx := B.exec
  have hb := B.bytes
  have hr := B.returns
  have hts := atoms_spec (ws := z_X_handle_ok) B.pre
  have hown : s.vm.findClass RX7 = some m.cls := findClass_of_methodNamed B.named
  have hlocks := B.notSynchronized
  subst hsz
  have hD := hD0.self (sz := s.heap.size)
  generalize hAe : va_A [(h0, .inr (8, [.ref rp, .int 0, .ref rt, .ref rc, .int ((-1)), .ref r1, .ref r2, .ref r3, .ref r4, .null, .int 0]))] s.heap.size = A at hD hG ⊢
  have hA : ∀ q : Nat, s.heap.size ≤ q → A q := fun q h => by rw [← hAe]; exact Or.inr h
  have hS : va_S A s.heap s.heap [] := va_S.rf
  have hl := lv_entry ([.ref h0, .int p0]) (n := 2) (Nat.le_of_ble_eq_true rfl)
  rw [lg_entry_eq]
  generalize (lg_sl ([.ref h0, .int p0]) ++ List.replicate (2 - (lg_sl ([.ref h0, .int p0])).length) Slot.unset).toArray = ls at hl ⊢
  have hl : lv_has ls 2 [(0, .ref h0), (1, .int p0)] := hl
  refine lv_iload_n hx hb dX7_handle_0 rfl (lv_at hl 1 rfl) ?_
  have hPc := hP.sub (ws' := []) [] rfl
  have hDc := hD.sub (ws' := []) [] (by decide) rfl
  have hKc := hK.sub (tys' := []) [] rfl
  have hFc := va_free (wc := []) hD hS hA [] rfl
  refine va_callv (va_runS (As := [.int p0]) (rest := []) ⟨hx, hb, hml, hown, hts⟩ (c_cN_ok l dC dI tp te s.heap.size p0 hvn hvb hvc) (va_cwS 1 hts g_X_handle_ok_1 rfl rfl rfl (by decide +kernel) ⟨Nat.le_of_ble_eq_true rfl, Nat.le_of_ble_eq_true rfl⟩) ⟨Pw.blind, Pw.mk hPc hKc hDc hG hS hFc⟩ rfl rfl hl.1 rfl (lv_room (Nat.le_of_ble_eq_true rfl)) dX7_handle_1 ⟨Nat.le_of_ble_eq_true rfl, Nat.le_of_ble_eq_true rfl⟩) hS (fun q _ h => hFc q h) hFc (fun u t9 H_1 locs ht hvm hw hB hz1 hk1 hS => ?_)
  obtain ⟨hP, hD⟩ := va_join (wr := [(h0, .inr (8, [.ref rp, .int 0, .ref rt, .ref rc, .int ((-1)), .ref r1, .ref r2, .ref r3, .ref r4, .null, .int 0]))]) (w1 := []) hP hD [] [0] rfl rfl (by decide) (by decide) hk1 hFc va_P.nil va_D.nil
  have hK := hK.sub (tys' := []) [] rfl
  have hP : va_P (dC, dI) vwCl [(h0, .inr (8, [.ref rp, .int 0, .ref rt, .ref rc, .int ((-1)), .ref r1, .ref r2, .ref r3, .ref r4, .null, .int 0]))] H_1 := hP
  have hD : va_D A [(h0, .inr (8, [.ref rp, .int 0, .ref rt, .ref rc, .int ((-1)), .ref r1, .ref r2, .ref r3, .ref r4, .null, .int 0]))] := hD
  have hK : va_K (dC, dI) vwCl [] s := hK
  refine W.widen (k := 0) (n := 0) (Nat.le_of_ble_eq_true rfl) (Nat.le_of_ble_eq_true rfl) ?_
  refine lv_aload_n hx hb dX7_handle_4 rfl (lv_at hl 0 rfl) ?_
  refine lv_bipush (v := 11) hx hb dX7_handle_5 (by decide) ?_
  refine lv_iload_n hx hb dX7_handle_7 rfl (lv_at hl 1 rfl) ?_
  refine lv_iconst (v := 0) hx hb dX7_handle_8 (by decide) ?_
  have hPc := hP.sub (ws' := [(h0, .inr (8, [.ref rp, .int 0, .ref rt, .ref rc, .int ((-1)), .ref r1, .ref r2, .ref r3, .ref r4, .null, .int 0]))]) [0] rfl
  have hDc := hD.sub (ws' := [(h0, .inr (8, [.ref rp, .int 0, .ref rt, .ref rc, .int ((-1)), .ref r1, .ref r2, .ref r3, .ref r4, .null, .int 0]))]) [0] (by decide) rfl
  have hKc := hK.sub (tys' := []) [] rfl
  have hFc := va_free (wc := [(h0, .inr (8, [.ref rp, .int 0, .ref rt, .ref rc, .int ((-1)), .ref r1, .ref r2, .ref r3, .ref r4, .null, .int 0]))]) hD hS hA [0] rfl
  refine vx_calli (vx_runV (As := [.int 11, .int p0, .int 0]) (rest := []) ⟨hx, hb, hml, hown, hts⟩ (c_jn11 l dC dI tp te H_1.size hlt h0 rp rt rc r1 r2 r3 r4 p0 0) (cwV 3 hts g_X_handle_ok_9 rfl rfl rfl (by decide +kernel) ⟨Nat.le_of_ble_eq_true rfl, Nat.le_of_ble_eq_true rfl⟩) ⟨Pw.blind, va_recv hKc hPc (ci := 8) (q0 := 0) rfl rfl, Pw.mk hPc hKc hDc hG hS hFc⟩ rfl rfl hl.1 rfl (lv_room (Nat.le_of_ble_eq_true rfl)) dX7_handle_9 ⟨Nat.le_of_ble_eq_true rfl, Nat.le_of_ble_eq_true rfl⟩) hS (fun q _ h => hFc q h) hFc (fun q _ h => hFc q h) (fun E ce q9 u t9 H1 locs ht hvm hpx hBX hz1 hk1 hS hce hcv hcl => ?_) (fun r u t9 H_3 locs ht hvm hw hB hz1 hk1 hS => hw.elim)
  have hBX : E = "java/lang/IllegalStateException" := hBX
  subst hBX
  exact vx_out (fun x9 h9 => (htab x9 h9).elim) hlocks hce hcv hcl (fun t9 ht9 _ => ⟨(), trivial, rfl, hS.F ht9⟩) hS.2.2 (Nat.le_of_ble_eq_true rfl) (Nat.le_of_ble_eq_true rfl)

set_option maxRecDepth 20000 in
def z_X_rec_fneg : List Cond := .code yX7_rec cX7_rec 3 (some .int) :: (([.methodLink RX7 62 yX7_checkName, .static yX7_checkName, .initialized RX7, .code yX7_checkName cX7_checkName 1 none, .classLink RX7 107 "java/lang/IndexOutOfBoundsException", .initialized "java/lang/IndexOutOfBoundsException"] : List Cond) ++ (vx_at0 RX7 109 "java/lang/IndexOutOfBoundsException" ["java/lang/RuntimeException", "java/lang/Exception"]).filter goodWord)
set_option maxRecDepth 20000 in
theorem gg_X_rec_fneg_1 : GoodIn z_X_rec_fneg z_cN_neg := goodIn_ca (goodIn_p _ [4] rfl (by decide +kernel)) (goodIn_sub (fun _ h => List.mem_cons_of_mem _ (List.mem_append_right _ (h))) (by decide +kernel))
set_option maxRecDepth 20000 in
theorem g_X_rec_fneg_1 : GoodIn z_X_rec_fneg (va_wsS RX7 62 yX7_checkName z_cN_neg) := goodIn_app (goodIn_of _ (by decide +kernel)) gg_X_rec_fneg_1
set_option maxHeartbeats 4000000 in
set_option maxRecDepth 100000 in
theorem c_X_rec_fneg (l : Launch) (dC : Nat → ClassId) (dI : Nat → Nat → Nat) (tp te : Nat) (sz : Nat) (hlt : l.stackTraces = false) (h0 : Nat) (rp : Nat) (rt : Nat) (rc : Nat) (r1 : Nat) (r2 : Nat) (r3 : Nat) (r4 : Nat) (p0 : Int32) (p1 : Int32) (hvn : p0 < 0) : vx_Met l yX7_rec z_X_rec_fneg ({ frames := 7, cells := 1, slots := 6, locals := 101 }) (va_Pc [.ref h0, .int p0, .int p1] (Pw dC dI [(h0, .inr (8, [.ref rp, .int 0, .ref rt, .ref rc, .int ((-1)), .ref r1, .ref r2, .ref r3, .ref r4, .null, .int 0]))] [] sz tp te)) (va_Qi (fun (r : Int32) (_ : Unit) => False) (fun (_ : Unit) (_ : State) => True) (va_A [(h0, .inr (8, [.ref rp, .int 0, .ref rt, .ref rc, .int ((-1)), .ref r1, .ref r2, .ref r3, .ref r4, .null, .int 0]))] sz)) (vx_X (fun (_ : Unit) => True) (fun (E : String) (_ : Unit) (_ : State) => E = "java/lang/IndexOutOfBoundsException") (va_A [(h0, .inr (8, [.ref rp, .int 0, .ref rt, .ref rc, .int ((-1)), .ref r1, .ref r2, .ref r3, .ref r4, .null, .int 0]))] sz)) 1 6 (va_A [(h0, .inr (8, [.ref rp, .int 0, .ref rt, .ref rc, .int ((-1)), .ref r1, .ref r2, .ref r3, .ref r4, .null, .int 0]))] sz) := by
  refine vx_ofW (cc := cX7_rec) (maxL := 3) (ret := (some .int)) (by decide) rfl ?_
  intro p e s m args below meth c s₁ B hml htab hv
  obtain ⟨rfl, hsz, hP, hK, hD0, hG⟩ := hv
  have hx := B.exec
  have hb := B.bytes
  have hr := B.returns
  have hts := atoms_spec (ws := z_X_rec_fneg) B.pre
  have hown : s.vm.findClass RX7 = some m.cls := findClass_of_methodNamed B.named
  have hlocks := B.notSynchronized
  subst hsz
  have hD := hD0.self (sz := s.heap.size)
  generalize hAe : va_A [(h0, .inr (8, [.ref rp, .int 0, .ref rt, .ref rc, .int ((-1)), .ref r1, .ref r2, .ref r3, .ref r4, .null, .int 0]))] s.heap.size = A at hD hG ⊢
  have hA : ∀ q : Nat, s.heap.size ≤ q → A q := fun q h => by rw [← hAe]; exact Or.inr h
  have hS : va_S A s.heap s.heap [] := va_S.rf
  have hl := lv_entry ([.ref h0, .int p0, .int p1]) (n := 3) (Nat.le_of_ble_eq_true rfl)
  rw [lg_entry_eq]
  generalize (lg_sl ([.ref h0, .int p0, .int p1]) ++ List.replicate (3 - (lg_sl ([.ref h0, .int p0, .int p1])).length) Slot.unset).toArray = ls at hl ⊢
  have hl : lv_has ls 3 [(0, .ref h0), (1, .int p0), (2, .int p1)] := hl
  refine lv_iload_n hx hb dX7_rec_0 rfl (lv_at hl 1 rfl) ?_
  have hPc := hP.sub (ws' := []) [] rfl
  have hDc := hD.sub (ws' := []) [] (by decide) rfl
  have hKc := hK.sub (tys' := []) [] rfl
  have hFc := va_free (wc := []) hD hS hA [] rfl
  refine vx_callv (vx_runS (As := [.int p0]) (rest := []) ⟨hx, hb, hml, hown, hts⟩ (c_cN_neg l dC dI tp te s.heap.size hlt p0 hvn) (va_cwS 1 hts g_X_rec_fneg_1 rfl rfl rfl (by decide +kernel) ⟨Nat.le_of_ble_eq_true rfl, Nat.le_of_ble_eq_true rfl⟩) ⟨Pw.blind, Pw.mk hPc hKc hDc hG hS hFc⟩ rfl rfl hl.1 rfl (lv_room (Nat.le_of_ble_eq_true rfl)) dX7_rec_1 ⟨Nat.le_of_ble_eq_true rfl, Nat.le_of_ble_eq_true rfl⟩) hS (fun q _ h => hFc q h) hFc (fun q _ h => hFc q h) (fun E ce q9 u t9 H1 locs ht hvm hpx hBX hz1 hk1 hS hce hcv hcl => ?_) (fun u t9 H_1 locs ht hvm hw hB hz1 hk1 hS => hw.elim)
  have hBX : E = "java/lang/IndexOutOfBoundsException" := hBX
  subst hBX
  exact vx_out (fun x9 h9 => (htab x9 h9).elim) hlocks hce hcv hcl (fun t9 ht9 _ => ⟨(), trivial, rfl, hS.F ht9⟩) hS.2.2 (Nat.le_of_ble_eq_true rfl) (Nat.le_of_ble_eq_true rfl)

set_option maxRecDepth 20000 in
def z_X_rec_fbig : List Cond := .code yX7_rec cX7_rec 3 (some .int) :: (([.methodLink RX7 62 yX7_checkName, .static yX7_checkName, .initialized RX7, .code yX7_checkName cX7_checkName 1 none, .classLink RX7 107 "java/lang/IndexOutOfBoundsException", .initialized "java/lang/IndexOutOfBoundsException"] : List Cond) ++ (vx_at0 RX7 109 "java/lang/IndexOutOfBoundsException" ["java/lang/RuntimeException", "java/lang/Exception"]).filter goodWord)
set_option maxRecDepth 20000 in
theorem gg_X_rec_fbig_1 : GoodIn z_X_rec_fbig z_cN_big := goodIn_ca (goodIn_p _ [4] rfl (by decide +kernel)) (goodIn_sub (fun _ h => List.mem_cons_of_mem _ (List.mem_append_right _ (h))) (by decide +kernel))
set_option maxRecDepth 20000 in
theorem g_X_rec_fbig_1 : GoodIn z_X_rec_fbig (va_wsS RX7 62 yX7_checkName z_cN_big) := goodIn_app (goodIn_of _ (by decide +kernel)) gg_X_rec_fbig_1
set_option maxHeartbeats 4000000 in
set_option maxRecDepth 100000 in
theorem c_X_rec_fbig (l : Launch) (dC : Nat → ClassId) (dI : Nat → Nat → Nat) (tp te : Nat) (sz : Nat) (hlt : l.stackTraces = false) (h0 : Nat) (rp : Nat) (rt : Nat) (rc : Nat) (r1 : Nat) (r2 : Nat) (r3 : Nat) (r4 : Nat) (p0 : Int32) (p1 : Int32) (hvn : ¬ p0 < 0) (hvb : ¬ p0 < 10) (hvc : 10 ≤ p0) : vx_Met l yX7_rec z_X_rec_fbig ({ frames := 7, cells := 1, slots := 6, locals := 101 }) (va_Pc [.ref h0, .int p0, .int p1] (Pw dC dI [(h0, .inr (8, [.ref rp, .int 0, .ref rt, .ref rc, .int ((-1)), .ref r1, .ref r2, .ref r3, .ref r4, .null, .int 0]))] [] sz tp te)) (va_Qi (fun (r : Int32) (_ : Unit) => False) (fun (_ : Unit) (_ : State) => True) (va_A [(h0, .inr (8, [.ref rp, .int 0, .ref rt, .ref rc, .int ((-1)), .ref r1, .ref r2, .ref r3, .ref r4, .null, .int 0]))] sz)) (vx_X (fun (_ : Unit) => True) (fun (E : String) (_ : Unit) (_ : State) => E = "java/lang/IndexOutOfBoundsException") (va_A [(h0, .inr (8, [.ref rp, .int 0, .ref rt, .ref rc, .int ((-1)), .ref r1, .ref r2, .ref r3, .ref r4, .null, .int 0]))] sz)) 1 6 (va_A [(h0, .inr (8, [.ref rp, .int 0, .ref rt, .ref rc, .int ((-1)), .ref r1, .ref r2, .ref r3, .ref r4, .null, .int 0]))] sz) := by
  refine vx_ofW (cc := cX7_rec) (maxL := 3) (ret := (some .int)) (by decide) rfl ?_
  intro p e s m args below meth c s₁ B hml htab hv
  obtain ⟨rfl, hsz, hP, hK, hD0, hG⟩ := hv
  have hx := B.exec
  have hb := B.bytes
  have hr := B.returns
  have hts := atoms_spec (ws := z_X_rec_fbig) B.pre
  have hown : s.vm.findClass RX7 = some m.cls := findClass_of_methodNamed B.named
  have hlocks := B.notSynchronized
  subst hsz
  have hD := hD0.self (sz := s.heap.size)
  generalize hAe : va_A [(h0, .inr (8, [.ref rp, .int 0, .ref rt, .ref rc, .int ((-1)), .ref r1, .ref r2, .ref r3, .ref r4, .null, .int 0]))] s.heap.size = A at hD hG ⊢
  have hA : ∀ q : Nat, s.heap.size ≤ q → A q := fun q h => by rw [← hAe]; exact Or.inr h
  have hS : va_S A s.heap s.heap [] := va_S.rf
  have hl := lv_entry ([.ref h0, .int p0, .int p1]) (n := 3) (Nat.le_of_ble_eq_true rfl)
  rw [lg_entry_eq]
  generalize (lg_sl ([.ref h0, .int p0, .int p1]) ++ List.replicate (3 - (lg_sl ([.ref h0, .int p0, .int p1])).length) Slot.unset).toArray = ls at hl ⊢
  have hl : lv_has ls 3 [(0, .ref h0), (1, .int p0), (2, .int p1)] := hl
  refine lv_iload_n hx hb dX7_rec_0 rfl (lv_at hl 1 rfl) ?_
  have hPc := hP.sub (ws' := []) [] rfl
  have hDc := hD.sub (ws' := []) [] (by decide) rfl
  have hKc := hK.sub (tys' := []) [] rfl
  have hFc := va_free (wc := []) hD hS hA [] rfl
  refine vx_callv (vx_runS (As := [.int p0]) (rest := []) ⟨hx, hb, hml, hown, hts⟩ (c_cN_big l dC dI tp te s.heap.size hlt p0 hvn hvb hvc) (va_cwS 1 hts g_X_rec_fbig_1 rfl rfl rfl (by decide +kernel) ⟨Nat.le_of_ble_eq_true rfl, Nat.le_of_ble_eq_true rfl⟩) ⟨Pw.blind, Pw.mk hPc hKc hDc hG hS hFc⟩ rfl rfl hl.1 rfl (lv_room (Nat.le_of_ble_eq_true rfl)) dX7_rec_1 ⟨Nat.le_of_ble_eq_true rfl, Nat.le_of_ble_eq_true rfl⟩) hS (fun q _ h => hFc q h) hFc (fun q _ h => hFc q h) (fun E ce q9 u t9 H1 locs ht hvm hpx hBX hz1 hk1 hS hce hcv hcl => ?_) (fun u t9 H_1 locs ht hvm hw hB hz1 hk1 hS => hw.elim)
  have hBX : E = "java/lang/IndexOutOfBoundsException" := hBX
  subst hBX
  exact vx_out (fun x9 h9 => (htab x9 h9).elim) hlocks hce hcv hcl (fun t9 ht9 _ => ⟨(), trivial, rfl, hS.F ht9⟩) hS.2.2 (Nat.le_of_ble_eq_true rfl) (Nat.le_of_ble_eq_true rfl)

set_option maxRecDepth 20000 in
def z_X_rec_xneg : List Cond := .code yX7_rec cX7_rec 3 (some .int) :: (([.methodLink RX7 62 yX7_checkName, .static yX7_checkName, .initialized RX7, .code yX7_checkName cX7_checkName 1 none, .classLink RX7 107 "java/lang/IndexOutOfBoundsException", .initialized "java/lang/IndexOutOfBoundsException"] : List Cond) ++ (vx_at0 RX7 109 "java/lang/IndexOutOfBoundsException" ["java/lang/RuntimeException", "java/lang/Exception"]).filter goodWord)
set_option maxRecDepth 20000 in
theorem g_X_rec_xneg_1 : GoodIn z_X_rec_xneg (va_wsS RX7 62 yX7_checkName z_cN_ok) := goodIn_p _ [4] rfl (by decide +kernel)
set_option maxRecDepth 20000 in
theorem gg_X_rec_xneg_5 : GoodIn z_X_rec_xneg z_cN_neg := goodIn_ca (goodIn_p _ [4] rfl (by decide +kernel)) (goodIn_sub (fun _ h => List.mem_cons_of_mem _ (List.mem_append_right _ (h))) (by decide +kernel))
set_option maxRecDepth 20000 in
theorem g_X_rec_xneg_5 : GoodIn z_X_rec_xneg (va_wsS RX7 62 yX7_checkName z_cN_neg) := goodIn_app (goodIn_of _ (by decide +kernel)) gg_X_rec_xneg_5
set_option maxHeartbeats 4000000 in
set_option maxRecDepth 100000 in
theorem c_X_rec_xneg (l : Launch) (dC : Nat → ClassId) (dI : Nat → Nat → Nat) (tp te : Nat) (sz : Nat) (hlt : l.stackTraces = false) (h0 : Nat) (rp : Nat) (rt : Nat) (rc : Nat) (r1 : Nat) (r2 : Nat) (r3 : Nat) (r4 : Nat) (p0 : Int32) (p1 : Int32) (hvn : ¬ p0 < 0) (hvb : p0 < 10) (hvc : ¬ 10 ≤ p0) (hvnx : p1 < 0) : vx_Met l yX7_rec z_X_rec_xneg ({ frames := 7, cells := 1, slots := 6, locals := 101 }) (va_Pc [.ref h0, .int p0, .int p1] (Pw dC dI [(h0, .inr (8, [.ref rp, .int 0, .ref rt, .ref rc, .int ((-1)), .ref r1, .ref r2, .ref r3, .ref r4, .null, .int 0]))] [] sz tp te)) (va_Qi (fun (r : Int32) (_ : Unit) => False) (fun (_ : Unit) (_ : State) => True) (va_A [(h0, .inr (8, [.ref rp, .int 0, .ref rt, .ref rc, .int ((-1)), .ref r1, .ref r2, .ref r3, .ref r4, .null, .int 0]))] sz)) (vx_X (fun (_ : Unit) => True) (fun (E : String) (_ : Unit) (_ : State) => E = "java/lang/IndexOutOfBoundsException") (va_A [(h0, .inr (8, [.ref rp, .int 0, .ref rt, .ref rc, .int ((-1)), .ref r1, .ref r2, .ref r3, .ref r4, .null, .int 0]))] sz)) 1 6 (va_A [(h0, .inr (8, [.ref rp, .int 0, .ref rt, .ref rc, .int ((-1)), .ref r1, .ref r2, .ref r3, .ref r4, .null, .int 0]))] sz) := by
  refine vx_ofW (cc := cX7_rec) (maxL := 3) (ret := (some .int)) (by decide) rfl ?_
  intro p e s m args below meth c s₁ B hml htab hv
  obtain ⟨rfl, hsz, hP, hK, hD0, hG⟩ := hv
  have hx := B.exec
  have hb := B.bytes
  have hr := B.returns
  have hts := atoms_spec (ws := z_X_rec_xneg) B.pre
  have hown : s.vm.findClass RX7 = some m.cls := findClass_of_methodNamed B.named
  have hlocks := B.notSynchronized
  subst hsz
  have hD := hD0.self (sz := s.heap.size)
  generalize hAe : va_A [(h0, .inr (8, [.ref rp, .int 0, .ref rt, .ref rc, .int ((-1)), .ref r1, .ref r2, .ref r3, .ref r4, .null, .int 0]))] s.heap.size = A at hD hG ⊢
  have hA : ∀ q : Nat, s.heap.size ≤ q → A q := fun q h => by rw [← hAe]; exact Or.inr h
  have hS : va_S A s.heap s.heap [] := va_S.rf
  have hl := lv_entry ([.ref h0, .int p0, .int p1]) (n := 3) (Nat.le_of_ble_eq_true rfl)
  rw [lg_entry_eq]
  generalize (lg_sl ([.ref h0, .int p0, .int p1]) ++ List.replicate (3 - (lg_sl ([.ref h0, .int p0, .int p1])).length) Slot.unset).toArray = ls at hl ⊢
  have hl : lv_has ls 3 [(0, .ref h0), (1, .int p0), (2, .int p1)] := hl
  refine lv_iload_n hx hb dX7_rec_0 rfl (lv_at hl 1 rfl) ?_
  have hPc := hP.sub (ws' := []) [] rfl
  have hDc := hD.sub (ws' := []) [] (by decide) rfl
  have hKc := hK.sub (tys' := []) [] rfl
  have hFc := va_free (wc := []) hD hS hA [] rfl
  refine va_callv (va_runS (As := [.int p0]) (rest := []) ⟨hx, hb, hml, hown, hts⟩ (c_cN_ok l dC dI tp te s.heap.size p0 hvn hvb hvc) (va_cwS 1 hts g_X_rec_xneg_1 rfl rfl rfl (by decide +kernel) ⟨Nat.le_of_ble_eq_true rfl, Nat.le_of_ble_eq_true rfl⟩) ⟨Pw.blind, Pw.mk hPc hKc hDc hG hS hFc⟩ rfl rfl hl.1 rfl (lv_room (Nat.le_of_ble_eq_true rfl)) dX7_rec_1 ⟨Nat.le_of_ble_eq_true rfl, Nat.le_of_ble_eq_true rfl⟩) hS (fun q _ h => hFc q h) hFc (fun u t9 H_1 locs ht hvm hw hB hz1 hk1 hS => ?_)
  obtain ⟨hP, hD⟩ := va_join (wr := [(h0, .inr (8, [.ref rp, .int 0, .ref rt, .ref rc, .int ((-1)), .ref r1, .ref r2, .ref r3, .ref r4, .null, .int 0]))]) (w1 := []) hP hD [] [0] rfl rfl (by decide) (by decide) hk1 hFc va_P.nil va_D.nil
  have hK := hK.sub (tys' := []) [] rfl
  have hP : va_P (dC, dI) vwCl [(h0, .inr (8, [.ref rp, .int 0, .ref rt, .ref rc, .int ((-1)), .ref r1, .ref r2, .ref r3, .ref r4, .null, .int 0]))] H_1 := hP
  have hD : va_D A [(h0, .inr (8, [.ref rp, .int 0, .ref rt, .ref rc, .int ((-1)), .ref r1, .ref r2, .ref r3, .ref r4, .null, .int 0]))] := hD
  have hK : va_K (dC, dI) vwCl [] s := hK
  refine W.widen (k := 0) (n := 0) (Nat.le_of_ble_eq_true rfl) (Nat.le_of_ble_eq_true rfl) ?_
  refine lv_iload_n hx hb dX7_rec_4 rfl (lv_at hl 2 rfl) ?_
  have hPc := hP.sub (ws' := []) [] rfl
  have hDc := hD.sub (ws' := []) [] (by decide) rfl
  have hKc := hK.sub (tys' := []) [] rfl
  have hFc := va_free (wc := []) hD hS hA [] rfl
  refine vx_callv (vx_runS (As := [.int p1]) (rest := []) ⟨hx, hb, hml, hown, hts⟩ (c_cN_neg l dC dI tp te H_1.size hlt p1 hvnx) (va_cwS 1 hts g_X_rec_xneg_5 rfl rfl rfl (by decide +kernel) ⟨Nat.le_of_ble_eq_true rfl, Nat.le_of_ble_eq_true rfl⟩) ⟨Pw.blind, Pw.mk hPc hKc hDc hG hS hFc⟩ rfl rfl hl.1 rfl (lv_room (Nat.le_of_ble_eq_true rfl)) dX7_rec_5 ⟨Nat.le_of_ble_eq_true rfl, Nat.le_of_ble_eq_true rfl⟩) hS (fun q _ h => hFc q h) hFc (fun q _ h => hFc q h) (fun E ce q9 u t9 H1 locs ht hvm hpx hBX hz1 hk1 hS hce hcv hcl => ?_) (fun u t9 H_3 locs ht hvm hw hB hz1 hk1 hS => hw.elim)
  have hBX : E = "java/lang/IndexOutOfBoundsException" := hBX
  subst hBX
  exact vx_out (fun x9 h9 => (htab x9 h9).elim) hlocks hce hcv hcl (fun t9 ht9 _ => ⟨(), trivial, rfl, hS.F ht9⟩) hS.2.2 (Nat.le_of_ble_eq_true rfl) (Nat.le_of_ble_eq_true rfl)

set_option maxRecDepth 20000 in
def z_X_rec_xbig : List Cond := .code yX7_rec cX7_rec 3 (some .int) :: (([.methodLink RX7 62 yX7_checkName, .static yX7_checkName, .initialized RX7, .code yX7_checkName cX7_checkName 1 none, .classLink RX7 107 "java/lang/IndexOutOfBoundsException", .initialized "java/lang/IndexOutOfBoundsException"] : List Cond) ++ (vx_at0 RX7 109 "java/lang/IndexOutOfBoundsException" ["java/lang/RuntimeException", "java/lang/Exception"]).filter goodWord)
set_option maxRecDepth 20000 in
theorem g_X_rec_xbig_1 : GoodIn z_X_rec_xbig (va_wsS RX7 62 yX7_checkName z_cN_ok) := goodIn_p _ [4] rfl (by decide +kernel)
set_option maxRecDepth 20000 in
theorem gg_X_rec_xbig_5 : GoodIn z_X_rec_xbig z_cN_big := goodIn_ca (goodIn_p _ [4] rfl (by decide +kernel)) (goodIn_sub (fun _ h => List.mem_cons_of_mem _ (List.mem_append_right _ (h))) (by decide +kernel))
set_option maxRecDepth 20000 in
theorem g_X_rec_xbig_5 : GoodIn z_X_rec_xbig (va_wsS RX7 62 yX7_checkName z_cN_big) := goodIn_app (goodIn_of _ (by decide +kernel)) gg_X_rec_xbig_5
set_option maxHeartbeats 4000000 in
set_option maxRecDepth 100000 in
theorem c_X_rec_xbig (l : Launch) (dC : Nat → ClassId) (dI : Nat → Nat → Nat) (tp te : Nat) (sz : Nat) (hlt : l.stackTraces = false) (h0 : Nat) (rp : Nat) (rt : Nat) (rc : Nat) (r1 : Nat) (r2 : Nat) (r3 : Nat) (r4 : Nat) (p0 : Int32) (p1 : Int32) (hvn : ¬ p0 < 0) (hvb : p0 < 10) (hvc : ¬ 10 ≤ p0) (hvnx : ¬ p1 < 0) (hvbx : ¬ p1 < 10) (hvcx : 10 ≤ p1) : vx_Met l yX7_rec z_X_rec_xbig ({ frames := 7, cells := 1, slots := 6, locals := 101 }) (va_Pc [.ref h0, .int p0, .int p1] (Pw dC dI [(h0, .inr (8, [.ref rp, .int 0, .ref rt, .ref rc, .int ((-1)), .ref r1, .ref r2, .ref r3, .ref r4, .null, .int 0]))] [] sz tp te)) (va_Qi (fun (r : Int32) (_ : Unit) => False) (fun (_ : Unit) (_ : State) => True) (va_A [(h0, .inr (8, [.ref rp, .int 0, .ref rt, .ref rc, .int ((-1)), .ref r1, .ref r2, .ref r3, .ref r4, .null, .int 0]))] sz)) (vx_X (fun (_ : Unit) => True) (fun (E : String) (_ : Unit) (_ : State) => E = "java/lang/IndexOutOfBoundsException") (va_A [(h0, .inr (8, [.ref rp, .int 0, .ref rt, .ref rc, .int ((-1)), .ref r1, .ref r2, .ref r3, .ref r4, .null, .int 0]))] sz)) 1 6 (va_A [(h0, .inr (8, [.ref rp, .int 0, .ref rt, .ref rc, .int ((-1)), .ref r1, .ref r2, .ref r3, .ref r4, .null, .int 0]))] sz) := by
  refine vx_ofW (cc := cX7_rec) (maxL := 3) (ret := (some .int)) (by decide) rfl ?_
  intro p e s m args below meth c s₁ B hml htab hv
  obtain ⟨rfl, hsz, hP, hK, hD0, hG⟩ := hv
  have hx := B.exec
  have hb := B.bytes
  have hr := B.returns
  have hts := atoms_spec (ws := z_X_rec_xbig) B.pre
  have hown : s.vm.findClass RX7 = some m.cls := findClass_of_methodNamed B.named
  have hlocks := B.notSynchronized
  subst hsz
  have hD := hD0.self (sz := s.heap.size)
  generalize hAe : va_A [(h0, .inr (8, [.ref rp, .int 0, .ref rt, .ref rc, .int ((-1)), .ref r1, .ref r2, .ref r3, .ref r4, .null, .int 0]))] s.heap.size = A at hD hG ⊢
  have hA : ∀ q : Nat, s.heap.size ≤ q → A q := fun q h => by rw [← hAe]; exact Or.inr h
  have hS : va_S A s.heap s.heap [] := va_S.rf
  have hl := lv_entry ([.ref h0, .int p0, .int p1]) (n := 3) (Nat.le_of_ble_eq_true rfl)
  rw [lg_entry_eq]
  generalize (lg_sl ([.ref h0, .int p0, .int p1]) ++ List.replicate (3 - (lg_sl ([.ref h0, .int p0, .int p1])).length) Slot.unset).toArray = ls at hl ⊢
  have hl : lv_has ls 3 [(0, .ref h0), (1, .int p0), (2, .int p1)] := hl
  refine lv_iload_n hx hb dX7_rec_0 rfl (lv_at hl 1 rfl) ?_
  have hPc := hP.sub (ws' := []) [] rfl
  have hDc := hD.sub (ws' := []) [] (by decide) rfl
  have hKc := hK.sub (tys' := []) [] rfl
  have hFc := va_free (wc := []) hD hS hA [] rfl
  refine va_callv (va_runS (As := [.int p0]) (rest := []) ⟨hx, hb, hml, hown, hts⟩ (c_cN_ok l dC dI tp te s.heap.size p0 hvn hvb hvc) (va_cwS 1 hts g_X_rec_xbig_1 rfl rfl rfl (by decide +kernel) ⟨Nat.le_of_ble_eq_true rfl, Nat.le_of_ble_eq_true rfl⟩) ⟨Pw.blind, Pw.mk hPc hKc hDc hG hS hFc⟩ rfl rfl hl.1 rfl (lv_room (Nat.le_of_ble_eq_true rfl)) dX7_rec_1 ⟨Nat.le_of_ble_eq_true rfl, Nat.le_of_ble_eq_true rfl⟩) hS (fun q _ h => hFc q h) hFc (fun u t9 H_1 locs ht hvm hw hB hz1 hk1 hS => ?_)
  obtain ⟨hP, hD⟩ := va_join (wr := [(h0, .inr (8, [.ref rp, .int 0, .ref rt, .ref rc, .int ((-1)), .ref r1, .ref r2, .ref r3, .ref r4, .null, .int 0]))]) (w1 := []) hP hD [] [0] rfl rfl (by decide) (by decide) hk1 hFc va_P.nil va_D.nil
  have hK := hK.sub (tys' := []) [] rfl
  have hP : va_P (dC, dI) vwCl [(h0, .inr (8, [.ref rp, .int 0, .ref rt, .ref rc, .int ((-1)), .ref r1, .ref r2, .ref r3, .ref r4, .null, .int 0]))] H_1 := hP
  have hD : va_D A [(h0, .inr (8, [.ref rp, .int 0, .ref rt, .ref rc, .int ((-1)), .ref r1, .ref r2, .ref r3, .ref r4, .null, .int 0]))] := hD
  have hK : va_K (dC, dI) vwCl [] s := hK
  refine W.widen (k := 0) (n := 0) (Nat.le_of_ble_eq_true rfl) (Nat.le_of_ble_eq_true rfl) ?_
  refine lv_iload_n hx hb dX7_rec_4 rfl (lv_at hl 2 rfl) ?_
  have hPc := hP.sub (ws' := []) [] rfl
  have hDc := hD.sub (ws' := []) [] (by decide) rfl
  have hKc := hK.sub (tys' := []) [] rfl
  have hFc := va_free (wc := []) hD hS hA [] rfl
  refine vx_callv (vx_runS (As := [.int p1]) (rest := []) ⟨hx, hb, hml, hown, hts⟩ (c_cN_big l dC dI tp te H_1.size hlt p1 hvnx hvbx hvcx) (va_cwS 1 hts g_X_rec_xbig_5 rfl rfl rfl (by decide +kernel) ⟨Nat.le_of_ble_eq_true rfl, Nat.le_of_ble_eq_true rfl⟩) ⟨Pw.blind, Pw.mk hPc hKc hDc hG hS hFc⟩ rfl rfl hl.1 rfl (lv_room (Nat.le_of_ble_eq_true rfl)) dX7_rec_5 ⟨Nat.le_of_ble_eq_true rfl, Nat.le_of_ble_eq_true rfl⟩) hS (fun q _ h => hFc q h) hFc (fun q _ h => hFc q h) (fun E ce q9 u t9 H1 locs ht hvm hpx hBX hz1 hk1 hS hce hcv hcl => ?_) (fun u t9 H_3 locs ht hvm hw hB hz1 hk1 hS => hw.elim)
  have hBX : E = "java/lang/IndexOutOfBoundsException" := hBX
  subst hBX
  exact vx_out (fun x9 h9 => (htab x9 h9).elim) hlocks hce hcv hcl (fun t9 ht9 _ => ⟨(), trivial, rfl, hS.F ht9⟩) hS.2.2 (Nat.le_of_ble_eq_true rfl) (Nat.le_of_ble_eq_true rfl)

set_option maxRecDepth 20000 in
def z_X_rec_ok : List Cond := .code yX7_rec cX7_rec 3 (some .int) :: (([.methodLink RX7 62 yX7_checkName, .static yX7_checkName, .initialized RX7, .code yX7_checkName cX7_checkName 1 none, .methodLink RX7 65 yX7_join, .instanceMethod yX7_join, .selects RX7 yX7_join yX7_join, .code yX7_join cX7_join 5 (some .int), .methodLink RX7 173 yX5_partsOf, .static yX5_partsOf, .initialized RX5, .code yX5_partsOf cX5_partsOf 1 (some .int), .fieldLink RX5 34 "Selfkindle$Term" "PARTS_OF" "[I", .fieldLink RX7 72 "Selfkindle" "height" "I", .classLink RX7 75 "java/lang/IllegalStateException", .initialized "java/lang/IllegalStateException"] : List Cond) ++ wsX70 ++ (vx_at0 RX7 77 "java/lang/IllegalStateException" ["java/lang/RuntimeException", "java/lang/Exception"]).filter goodWord)
theorem in_z_X_rec_ok_X7 : ∀ w ∈ wsX70, w ∈ z_X_rec_ok := fun w h => List.mem_cons_of_mem _ (List.mem_append_left _ (List.mem_append_right _ (h)))
set_option maxRecDepth 20000 in
theorem g_X_rec_ok_1 : GoodIn z_X_rec_ok (va_wsS RX7 62 yX7_checkName z_cN_ok) := goodIn_p _ [4] rfl (by decide +kernel)
set_option maxRecDepth 20000 in
theorem g_X_rec_ok_5 : GoodIn z_X_rec_ok (va_wsS RX7 62 yX7_checkName z_cN_ok) := goodIn_p _ [4] rfl (by decide +kernel)
set_option maxRecDepth 20000 in
theorem gg_X_rec_ok_13 : GoodIn z_X_rec_ok z_jn7 := goodIn_ca (goodIn_p _ [8, 12] rfl (by decide +kernel)) (goodIn_sub (fun _ h => List.mem_cons_of_mem _ (List.mem_append_right _ (h))) (by decide +kernel))
set_option maxRecDepth 20000 in
theorem g_X_rec_ok_13 : GoodIn z_X_rec_ok (wsV RX7 65 RX7 yX7_join z_jn7) := goodIn_app (goodIn_of _ (by decide +kernel)) gg_X_rec_ok_13
set_option maxHeartbeats 4000000 in
set_option maxRecDepth 100000 in
theorem c_X_rec_ok (l : Launch) (dC : Nat → ClassId) (dI : Nat → Nat → Nat) (tp te : Nat) (sz : Nat) (hlt : l.stackTraces = false) (h0 : Nat) (rp : Nat) (rt : Nat) (rc : Nat) (r1 : Nat) (r2 : Nat) (r3 : Nat) (r4 : Nat) (p0 : Int32) (p1 : Int32) (hvn : ¬ p0 < 0) (hvb : p0 < 10) (hvc : ¬ 10 ≤ p0) (hvnx : ¬ p1 < 0) (hvbx : p1 < 10) (hvcx : ¬ 10 ≤ p1) : vx_Met l yX7_rec z_X_rec_ok ({ frames := 7, cells := 1, slots := 6, locals := 105 }) (va_Pc [.ref h0, .int p0, .int p1] (Pw dC dI [(h0, .inr (8, [.ref rp, .int 0, .ref rt, .ref rc, .int ((-1)), .ref r1, .ref r2, .ref r3, .ref r4, .null, .int 0]))] [] sz tp te)) (va_Qi (fun (r : Int32) (_ : Unit) => False) (fun (_ : Unit) (_ : State) => True) (va_A [(h0, .inr (8, [.ref rp, .int 0, .ref rt, .ref rc, .int ((-1)), .ref r1, .ref r2, .ref r3, .ref r4, .null, .int 0]))] sz)) (vx_X (fun (_ : Unit) => True) (fun (E : String) (_ : Unit) (_ : State) => E = "java/lang/IllegalStateException") (va_A [(h0, .inr (8, [.ref rp, .int 0, .ref rt, .ref rc, .int ((-1)), .ref r1, .ref r2, .ref r3, .ref r4, .null, .int 0]))] sz)) 1 6 (va_A [(h0, .inr (8, [.ref rp, .int 0, .ref rt, .ref rc, .int ((-1)), .ref r1, .ref r2, .ref r3, .ref r4, .null, .int 0]))] sz) := by
  refine vx_ofW (cc := cX7_rec) (maxL := 3) (ret := (some .int)) (by decide) rfl ?_
  intro p e s m args below meth c s₁ B hml htab hv
  obtain ⟨rfl, hsz, hP, hK, hD0, hG⟩ := hv
  have hx := B.exec
  have hb := B.bytes
  have hr := B.returns
  have hts := atoms_spec (ws := z_X_rec_ok) B.pre
  have hown : s.vm.findClass RX7 = some m.cls := findClass_of_methodNamed B.named
  have hlocks := B.notSynchronized
  subst hsz
  have hD := hD0.self (sz := s.heap.size)
  generalize hAe : va_A [(h0, .inr (8, [.ref rp, .int 0, .ref rt, .ref rc, .int ((-1)), .ref r1, .ref r2, .ref r3, .ref r4, .null, .int 0]))] s.heap.size = A at hD hG ⊢
  have hA : ∀ q : Nat, s.heap.size ≤ q → A q := fun q h => by rw [← hAe]; exact Or.inr h
  have hS : va_S A s.heap s.heap [] := va_S.rf
  have hl := lv_entry ([.ref h0, .int p0, .int p1]) (n := 3) (Nat.le_of_ble_eq_true rfl)
  rw [lg_entry_eq]
  generalize (lg_sl ([.ref h0, .int p0, .int p1]) ++ List.replicate (3 - (lg_sl ([.ref h0, .int p0, .int p1])).length) Slot.unset).toArray = ls at hl ⊢
  have hl : lv_has ls 3 [(0, .ref h0), (1, .int p0), (2, .int p1)] := hl
  refine lv_iload_n hx hb dX7_rec_0 rfl (lv_at hl 1 rfl) ?_
  have hPc := hP.sub (ws' := []) [] rfl
  have hDc := hD.sub (ws' := []) [] (by decide) rfl
  have hKc := hK.sub (tys' := []) [] rfl
  have hFc := va_free (wc := []) hD hS hA [] rfl
  refine va_callv (va_runS (As := [.int p0]) (rest := []) ⟨hx, hb, hml, hown, hts⟩ (c_cN_ok l dC dI tp te s.heap.size p0 hvn hvb hvc) (va_cwS 1 hts g_X_rec_ok_1 rfl rfl rfl (by decide +kernel) ⟨Nat.le_of_ble_eq_true rfl, Nat.le_of_ble_eq_true rfl⟩) ⟨Pw.blind, Pw.mk hPc hKc hDc hG hS hFc⟩ rfl rfl hl.1 rfl (lv_room (Nat.le_of_ble_eq_true rfl)) dX7_rec_1 ⟨Nat.le_of_ble_eq_true rfl, Nat.le_of_ble_eq_true rfl⟩) hS (fun q _ h => hFc q h) hFc (fun u t9 H_1 locs ht hvm hw hB hz1 hk1 hS => ?_)
  obtain ⟨hP, hD⟩ := va_join (wr := [(h0, .inr (8, [.ref rp, .int 0, .ref rt, .ref rc, .int ((-1)), .ref r1, .ref r2, .ref r3, .ref r4, .null, .int 0]))]) (w1 := []) hP hD [] [0] rfl rfl (by decide) (by decide) hk1 hFc va_P.nil va_D.nil
  have hK := hK.sub (tys' := []) [] rfl
  have hP : va_P (dC, dI) vwCl [(h0, .inr (8, [.ref rp, .int 0, .ref rt, .ref rc, .int ((-1)), .ref r1, .ref r2, .ref r3, .ref r4, .null, .int 0]))] H_1 := hP
  have hD : va_D A [(h0, .inr (8, [.ref rp, .int 0, .ref rt, .ref rc, .int ((-1)), .ref r1, .ref r2, .ref r3, .ref r4, .null, .int 0]))] := hD
  have hK : va_K (dC, dI) vwCl [] s := hK
  refine W.widen (k := 0) (n := 0) (Nat.le_of_ble_eq_true rfl) (Nat.le_of_ble_eq_true rfl) ?_
  refine lv_iload_n hx hb dX7_rec_4 rfl (lv_at hl 2 rfl) ?_
  have hPc := hP.sub (ws' := []) [] rfl
  have hDc := hD.sub (ws' := []) [] (by decide) rfl
  have hKc := hK.sub (tys' := []) [] rfl
  have hFc := va_free (wc := []) hD hS hA [] rfl
  refine va_callv (va_runS (As := [.int p1]) (rest := []) ⟨hx, hb, hml, hown, hts⟩ (c_cN_ok l dC dI tp te H_1.size p1 hvnx hvbx hvcx) (va_cwS 1 hts g_X_rec_ok_5 rfl rfl rfl (by decide +kernel) ⟨Nat.le_of_ble_eq_true rfl, Nat.le_of_ble_eq_true rfl⟩) ⟨Pw.blind, Pw.mk hPc hKc hDc hG hS hFc⟩ rfl rfl hl.1 rfl (lv_room (Nat.le_of_ble_eq_true rfl)) dX7_rec_5 ⟨Nat.le_of_ble_eq_true rfl, Nat.le_of_ble_eq_true rfl⟩) hS (fun q _ h => hFc q h) hFc (fun u t9 H_3 locs ht hvm hw hB hz1 hk1 hS => ?_)
  obtain ⟨hP, hD⟩ := va_join (wr := [(h0, .inr (8, [.ref rp, .int 0, .ref rt, .ref rc, .int ((-1)), .ref r1, .ref r2, .ref r3, .ref r4, .null, .int 0]))]) (w1 := []) hP hD [] [0] rfl rfl (by decide) (by decide) hk1 hFc va_P.nil va_D.nil
  have hK := hK.sub (tys' := []) [] rfl
  have hP : va_P (dC, dI) vwCl [(h0, .inr (8, [.ref rp, .int 0, .ref rt, .ref rc, .int ((-1)), .ref r1, .ref r2, .ref r3, .ref r4, .null, .int 0]))] H_3 := hP
  have hD : va_D A [(h0, .inr (8, [.ref rp, .int 0, .ref rt, .ref rc, .int ((-1)), .ref r1, .ref r2, .ref r3, .ref r4, .null, .int 0]))] := hD
  have hK : va_K (dC, dI) vwCl [] s := hK
  refine W.widen (k := 0) (n := 0) (Nat.le_of_ble_eq_true rfl) (Nat.le_of_ble_eq_true rfl) ?_
  refine lv_aload_n hx hb dX7_rec_8 rfl (lv_at hl 0 rfl) ?_
  refine lv_bipush (v := 7) hx hb dX7_rec_9 (by decide) ?_
  refine lv_iload_n hx hb dX7_rec_11 rfl (lv_at hl 1 rfl) ?_
  refine lv_iload_n hx hb dX7_rec_12 rfl (lv_at hl 2 rfl) ?_
  have hPc := hP.sub (ws' := [(h0, .inr (8, [.ref rp, .int 0, .ref rt, .ref rc, .int ((-1)), .ref r1, .ref r2, .ref r3, .ref r4, .null, .int 0]))]) [0] rfl
  have hDc := hD.sub (ws' := [(h0, .inr (8, [.ref rp, .int 0, .ref rt, .ref rc, .int ((-1)), .ref r1, .ref r2, .ref r3, .ref r4, .null, .int 0]))]) [0] (by decide) rfl
  have hKc := hK.sub (tys' := []) [] rfl
  have hFc := va_free (wc := [(h0, .inr (8, [.ref rp, .int 0, .ref rt, .ref rc, .int ((-1)), .ref r1, .ref r2, .ref r3, .ref r4, .null, .int 0]))]) hD hS hA [0] rfl
  refine vx_calli (vx_runV (As := [.int 7, .int p0, .int p1]) (rest := []) ⟨hx, hb, hml, hown, hts⟩ (c_jn7 l dC dI tp te H_3.size hlt h0 rp rt rc r1 r2 r3 r4 p0 p1) (cwV 3 hts g_X_rec_ok_13 rfl rfl rfl (by decide +kernel) ⟨Nat.le_of_ble_eq_true rfl, Nat.le_of_ble_eq_true rfl⟩) ⟨Pw.blind, va_recv hKc hPc (ci := 8) (q0 := 0) rfl rfl, Pw.mk hPc hKc hDc hG hS hFc⟩ rfl rfl hl.1 rfl (lv_room (Nat.le_of_ble_eq_true rfl)) dX7_rec_13 ⟨Nat.le_of_ble_eq_true rfl, Nat.le_of_ble_eq_true rfl⟩) hS (fun q _ h => hFc q h) hFc (fun q _ h => hFc q h) (fun E ce q9 u t9 H1 locs ht hvm hpx hBX hz1 hk1 hS hce hcv hcl => ?_) (fun r u t9 H_5 locs ht hvm hw hB hz1 hk1 hS => hw.elim)
  have hBX : E = "java/lang/IllegalStateException" := hBX
  subst hBX
  exact vx_out (fun x9 h9 => (htab x9 h9).elim) hlocks hce hcv hcl (fun t9 ht9 _ => ⟨(), trivial, rfl, hS.F ht9⟩) hS.2.2 (Nat.le_of_ble_eq_true rfl) (Nat.le_of_ble_eq_true rfl)

set_option maxRecDepth 20000 in
def z_X_two_neg : List Cond := .code yX7_two cX7_two 2 (some .int) :: (([.classLink RX7 69 "java/lang/IllegalArgumentException", .initialized "java/lang/IllegalArgumentException"] : List Cond) ++ (vx_at0 RX7 71 "java/lang/IllegalArgumentException" ["java/lang/RuntimeException", "java/lang/Exception"]).filter goodWord)
set_option maxHeartbeats 4000000 in
set_option maxRecDepth 100000 in
theorem c_X_two_neg (l : Launch) (dC : Nat → ClassId) (dI : Nat → Nat → Nat) (tp te : Nat) (sz : Nat) (hlt : l.stackTraces = false) (h0 : Nat) (rp : Nat) (rt : Nat) (rc : Nat) (r1 : Nat) (r2 : Nat) (r3 : Nat) (r4 : Nat) (p0 : Int32) (hv0 : p0 < 0) : vx_Met l yX7_two z_X_two_neg ({ frames := 6, cells := 1, slots := 6, locals := 81 }) (va_Pc [.ref h0, .int p0] (Pw dC dI [(h0, .inr (8, [.ref rp, .int 0, .ref rt, .ref rc, .int ((-1)), .ref r1, .ref r2, .ref r3, .ref r4, .null, .int 0]))] [] sz tp te)) (va_Qi (fun (r : Int32) (_ : Unit) => False) (fun (_ : Unit) (_ : State) => True) (va_A [(h0, .inr (8, [.ref rp, .int 0, .ref rt, .ref rc, .int ((-1)), .ref r1, .ref r2, .ref r3, .ref r4, .null, .int 0]))] sz)) (vx_X (fun (_ : Unit) => True) (fun (E : String) (_ : Unit) (_ : State) => E = "java/lang/IllegalArgumentException") (va_A [(h0, .inr (8, [.ref rp, .int 0, .ref rt, .ref rc, .int ((-1)), .ref r1, .ref r2, .ref r3, .ref r4, .null, .int 0]))] sz)) 1 6 (va_A [(h0, .inr (8, [.ref rp, .int 0, .ref rt, .ref rc, .int ((-1)), .ref r1, .ref r2, .ref r3, .ref r4, .null, .int 0]))] sz) := by
  refine vx_ofW (cc := cX7_two) (maxL := 2) (ret := (some .int)) (by decide) rfl ?_
  intro p e s m args below meth c s₁ B hml htab hv
  obtain ⟨rfl, hsz, hP, hK, hD0, hG⟩ := hv
  have hx := B.exec
  have hb := B.bytes
  have hr := B.returns
  have hts := atoms_spec (ws := z_X_two_neg) B.pre
  have hown : s.vm.findClass RX7 = some m.cls := findClass_of_methodNamed B.named
  have hlocks := B.notSynchronized
  subst hsz
  have hD := hD0.self (sz := s.heap.size)
  generalize hAe : va_A [(h0, .inr (8, [.ref rp, .int 0, .ref rt, .ref rc, .int ((-1)), .ref r1, .ref r2, .ref r3, .ref r4, .null, .int 0]))] s.heap.size = A at hD hG ⊢
  have hA : ∀ q : Nat, s.heap.size ≤ q → A q := fun q h => by rw [← hAe]; exact Or.inr h
  have hS : va_S A s.heap s.heap [] := va_S.rf
  have hl := lv_entry ([.ref h0, .int p0]) (n := 2) (Nat.le_of_ble_eq_true rfl)
  rw [lg_entry_eq]
  generalize (lg_sl ([.ref h0, .int p0]) ++ List.replicate (2 - (lg_sl ([.ref h0, .int p0])).length) Slot.unset).toArray = ls at hl ⊢
  have hl : lv_has ls 2 [(0, .ref h0), (1, .int p0)] := hl
  refine lv_iload_n hx hb dX7_two_0 rfl (lv_at hl 1 rfl) ?_
  refine lv_if_lt (tgt := 9) hx hb dX7_two_1 (by decide) (fun c9 => ?_) (fun c9 => absurd hv0 c9)
  exact vx_throw0 (A := A) (own := RX7) (cls := "java/lang/IllegalArgumentException") (names := ["java/lang/RuntimeException", "java/lang/Exception"]) (ik := 69) (ic := 71) hx hb hlt hown (by decide +kernel) (by decide +kernel) (hts (.classLink RX7 69 "java/lang/IllegalArgumentException") (List.mem_of_getElem? (i := 1) rfl)) (hts (.initialized "java/lang/IllegalArgumentException") (List.mem_of_getElem? (i := 2) rfl)) (vx_hat (B := [.castable "java/lang/IllegalArgumentException" "java/lang/IllegalArgumentException", .declares (Bundle.init0 "java/lang/RuntimeException"), .declares (Bundle.init0 "java/lang/Exception"), .declares (Bundle.init0 "java/lang/Throwable")]) (fun w9 h9 => hts w9 (List.mem_cons_of_mem _ (List.mem_append_right _ (h9)))) (by decide +kernel) (vx_c (va_Nw.use rfl hG.2.2.2.2.2.2.2.2.1) (vx_c (va_Nw.use rfl hG.2.2.2.2.2.2.2.2.2.2.2.2.2.2.1) (vx_c (va_Nw.use rfl hG.2.2.2.2.2.2.2.2.2.2.2.2.2.2.2.1) (vx_c (va_Nw.use rfl hG.2.2.2.2.2.2.2.2.2.2.2.2.2.2.2.2) vx_n))))) (by decide +kernel) hG.2.2.2.2.1 hG.2.2.2.2.2.1 hS (by rw [hml]; exact hl.1) dX7_two_9 dX7_two_12 dX7_two_13 dX7_two_16 (fun x9 h9 => (htab x9 h9).elim) (Nat.le_of_ble_eq_true rfl) (Nat.le_of_ble_eq_true rfl) (Nat.le_of_ble_eq_true rfl) (Nat.le_of_ble_eq_true rfl) hlocks (fun t9 _ hz9 hk9 => ⟨(), trivial, rfl, ⟨Nat.le_trans hS.1 hz9, fun q h1 h2 => (hk9 q (Nat.lt_of_lt_of_le h1 hS.1)).trans (hS.2.1 q h1 h2)⟩⟩) hS.2.2 (Nat.le_of_ble_eq_true rfl) (Nat.le_of_ble_eq_true rfl)

set_option maxRecDepth 20000 in
def z_X_two_big : List Cond := .code yX7_two cX7_two 2 (some .int) :: (([.classLink RX7 69 "java/lang/IllegalArgumentException", .initialized "java/lang/IllegalArgumentException"] : List Cond) ++ (vx_at0 RX7 71 "java/lang/IllegalArgumentException" ["java/lang/RuntimeException", "java/lang/Exception"]).filter goodWord)
set_option maxHeartbeats 4000000 in
set_option maxRecDepth 100000 in
theorem c_X_two_big (l : Launch) (dC : Nat → ClassId) (dI : Nat → Nat → Nat) (tp te : Nat) (sz : Nat) (hlt : l.stackTraces = false) (h0 : Nat) (rp : Nat) (rt : Nat) (rc : Nat) (r1 : Nat) (r2 : Nat) (r3 : Nat) (r4 : Nat) (p0 : Int32) (hv0 : ¬ p0 < 0) (hv1 : ¬ p0 < 4) (hv2 : ¬ p0 ≤ 3) : vx_Met l yX7_two z_X_two_big ({ frames := 6, cells := 1, slots := 6, locals := 81 }) (va_Pc [.ref h0, .int p0] (Pw dC dI [(h0, .inr (8, [.ref rp, .int 0, .ref rt, .ref rc, .int ((-1)), .ref r1, .ref r2, .ref r3, .ref r4, .null, .int 0]))] [] sz tp te)) (va_Qi (fun (r : Int32) (_ : Unit) => False) (fun (_ : Unit) (_ : State) => True) (va_A [(h0, .inr (8, [.ref rp, .int 0, .ref rt, .ref rc, .int ((-1)), .ref r1, .ref r2, .ref r3, .ref r4, .null, .int 0]))] sz)) (vx_X (fun (_ : Unit) => True) (fun (E : String) (_ : Unit) (_ : State) => E = "java/lang/IllegalArgumentException") (va_A [(h0, .inr (8, [.ref rp, .int 0, .ref rt, .ref rc, .int ((-1)), .ref r1, .ref r2, .ref r3, .ref r4, .null, .int 0]))] sz)) 1 6 (va_A [(h0, .inr (8, [.ref rp, .int 0, .ref rt, .ref rc, .int ((-1)), .ref r1, .ref r2, .ref r3, .ref r4, .null, .int 0]))] sz) := by
  refine vx_ofW (cc := cX7_two) (maxL := 2) (ret := (some .int)) (by decide) rfl ?_
  intro p e s m args below meth c s₁ B hml htab hv
  obtain ⟨rfl, hsz, hP, hK, hD0, hG⟩ := hv
  have hx := B.exec
  have hb := B.bytes
  have hr := B.returns
  have hts := atoms_spec (ws := z_X_two_big) B.pre
  have hown : s.vm.findClass RX7 = some m.cls := findClass_of_methodNamed B.named
  have hlocks := B.notSynchronized
  subst hsz
  have hD := hD0.self (sz := s.heap.size)
  generalize hAe : va_A [(h0, .inr (8, [.ref rp, .int 0, .ref rt, .ref rc, .int ((-1)), .ref r1, .ref r2, .ref r3, .ref r4, .null, .int 0]))] s.heap.size = A at hD hG ⊢
  have hA : ∀ q : Nat, s.heap.size ≤ q → A q := fun q h => by rw [← hAe]; exact Or.inr h
  have hS : va_S A s.heap s.heap [] := va_S.rf
  have hl := lv_entry ([.ref h0, .int p0]) (n := 2) (Nat.le_of_ble_eq_true rfl)
  rw [lg_entry_eq]
  generalize (lg_sl ([.ref h0, .int p0]) ++ List.replicate (2 - (lg_sl ([.ref h0, .int p0])).length) Slot.unset).toArray = ls at hl ⊢
  have hl : lv_has ls 2 [(0, .ref h0), (1, .int p0)] := hl
  refine lv_iload_n hx hb dX7_two_0 rfl (lv_at hl 1 rfl) ?_
  refine lv_if_lt (tgt := 9) hx hb dX7_two_1 (by decide) (fun c9 => absurd c9 hv0) (fun c9 => ?_)
  refine lv_iload_n hx hb dX7_two_4 rfl (lv_at hl 1 rfl) ?_
  refine lv_iconst (v := 4) hx hb dX7_two_5 (by decide) ?_
  refine lv_icmp_lt (tgt := 17) hx hb dX7_two_6 (by decide) (fun c9 => absurd c9 hv1) (fun c9 => ?_)
  exact vx_throw0 (A := A) (own := RX7) (cls := "java/lang/IllegalArgumentException") (names := ["java/lang/RuntimeException", "java/lang/Exception"]) (ik := 69) (ic := 71) hx hb hlt hown (by decide +kernel) (by decide +kernel) (hts (.classLink RX7 69 "java/lang/IllegalArgumentException") (List.mem_of_getElem? (i := 1) rfl)) (hts (.initialized "java/lang/IllegalArgumentException") (List.mem_of_getElem? (i := 2) rfl)) (vx_hat (B := [.castable "java/lang/IllegalArgumentException" "java/lang/IllegalArgumentException", .declares (Bundle.init0 "java/lang/RuntimeException"), .declares (Bundle.init0 "java/lang/Exception"), .declares (Bundle.init0 "java/lang/Throwable")]) (fun w9 h9 => hts w9 (List.mem_cons_of_mem _ (List.mem_append_right _ (h9)))) (by decide +kernel) (vx_c (va_Nw.use rfl hG.2.2.2.2.2.2.2.2.1) (vx_c (va_Nw.use rfl hG.2.2.2.2.2.2.2.2.2.2.2.2.2.2.1) (vx_c (va_Nw.use rfl hG.2.2.2.2.2.2.2.2.2.2.2.2.2.2.2.1) (vx_c (va_Nw.use rfl hG.2.2.2.2.2.2.2.2.2.2.2.2.2.2.2.2) vx_n))))) (by decide +kernel) hG.2.2.2.2.1 hG.2.2.2.2.2.1 hS (by rw [hml]; exact hl.1) dX7_two_9 dX7_two_12 dX7_two_13 dX7_two_16 (fun x9 h9 => (htab x9 h9).elim) (Nat.le_of_ble_eq_true rfl) (Nat.le_of_ble_eq_true rfl) (Nat.le_of_ble_eq_true rfl) (Nat.le_of_ble_eq_true rfl) hlocks (fun t9 _ hz9 hk9 => ⟨(), trivial, rfl, ⟨Nat.le_trans hS.1 hz9, fun q h1 h2 => (hk9 q (Nat.lt_of_lt_of_le h1 hS.1)).trans (hS.2.1 q h1 h2)⟩⟩) hS.2.2 (Nat.le_of_ble_eq_true rfl) (Nat.le_of_ble_eq_true rfl)

set_option maxRecDepth 20000 in
def z_X_two_ok : List Cond := .code yX7_two cX7_two 2 (some .int) :: (([.methodLink RX7 65 yX7_join, .instanceMethod yX7_join, .selects RX7 yX7_join yX7_join, .initialized RX7, .code yX7_join cX7_join 5 (some .int), .methodLink RX7 173 yX5_partsOf, .static yX5_partsOf, .initialized RX5, .code yX5_partsOf cX5_partsOf 1 (some .int), .fieldLink RX5 34 "Selfkindle$Term" "PARTS_OF" "[I", .fieldLink RX7 72 "Selfkindle" "height" "I", .classLink RX7 75 "java/lang/IllegalStateException", .initialized "java/lang/IllegalStateException"] : List Cond) ++ wsX70 ++ (vx_at0 RX7 77 "java/lang/IllegalStateException" ["java/lang/RuntimeException", "java/lang/Exception"]).filter goodWord)
theorem in_z_X_two_ok_X7 : ∀ w ∈ wsX70, w ∈ z_X_two_ok := fun w h => List.mem_cons_of_mem _ (List.mem_append_left _ (List.mem_append_right _ (h)))
set_option maxRecDepth 20000 in
theorem gg_X_two_ok_21 : GoodIn z_X_two_ok z_jn4 := goodIn_ca (goodIn_p _ [5, 9] rfl (by decide +kernel)) (goodIn_sub (fun _ h => List.mem_cons_of_mem _ (List.mem_append_right _ (h))) (by decide +kernel))
set_option maxRecDepth 20000 in
theorem g_X_two_ok_21 : GoodIn z_X_two_ok (wsV RX7 65 RX7 yX7_join z_jn4) := goodIn_app (goodIn_of _ (by decide +kernel)) gg_X_two_ok_21
set_option maxHeartbeats 4000000 in
set_option maxRecDepth 100000 in
theorem c_X_two_ok (l : Launch) (dC : Nat → ClassId) (dI : Nat → Nat → Nat) (tp te : Nat) (sz : Nat) (hlt : l.stackTraces = false) (h0 : Nat) (rp : Nat) (rt : Nat) (rc : Nat) (r1 : Nat) (r2 : Nat) (r3 : Nat) (r4 : Nat) (p0 : Int32) (hv0 : ¬ p0 < 0) (hv1 : p0 < 4) (hv2 : p0 ≤ 3) : vx_Met l yX7_two z_X_two_ok ({ frames := 7, cells := 1, slots := 6, locals := 105 }) (va_Pc [.ref h0, .int p0] (Pw dC dI [(h0, .inr (8, [.ref rp, .int 0, .ref rt, .ref rc, .int ((-1)), .ref r1, .ref r2, .ref r3, .ref r4, .null, .int 0]))] [] sz tp te)) (va_Qi (fun (r : Int32) (_ : Unit) => False) (fun (_ : Unit) (_ : State) => True) (va_A [(h0, .inr (8, [.ref rp, .int 0, .ref rt, .ref rc, .int ((-1)), .ref r1, .ref r2, .ref r3, .ref r4, .null, .int 0]))] sz)) (vx_X (fun (_ : Unit) => True) (fun (E : String) (_ : Unit) (_ : State) => E = "java/lang/IllegalStateException") (va_A [(h0, .inr (8, [.ref rp, .int 0, .ref rt, .ref rc, .int ((-1)), .ref r1, .ref r2, .ref r3, .ref r4, .null, .int 0]))] sz)) 1 6 (va_A [(h0, .inr (8, [.ref rp, .int 0, .ref rt, .ref rc, .int ((-1)), .ref r1, .ref r2, .ref r3, .ref r4, .null, .int 0]))] sz) := by
  refine vx_ofW (cc := cX7_two) (maxL := 2) (ret := (some .int)) (by decide) rfl ?_
  intro p e s m args below meth c s₁ B hml htab hv
  obtain ⟨rfl, hsz, hP, hK, hD0, hG⟩ := hv
  have hx := B.exec
  have hb := B.bytes
  have hr := B.returns
  have hts := atoms_spec (ws := z_X_two_ok) B.pre
  have hown : s.vm.findClass RX7 = some m.cls := findClass_of_methodNamed B.named
  have hlocks := B.notSynchronized
  subst hsz
  have hD := hD0.self (sz := s.heap.size)
  generalize hAe : va_A [(h0, .inr (8, [.ref rp, .int 0, .ref rt, .ref rc, .int ((-1)), .ref r1, .ref r2, .ref r3, .ref r4, .null, .int 0]))] s.heap.size = A at hD hG ⊢
  have hA : ∀ q : Nat, s.heap.size ≤ q → A q := fun q h => by rw [← hAe]; exact Or.inr h
  have hS : va_S A s.heap s.heap [] := va_S.rf
  have hl := lv_entry ([.ref h0, .int p0]) (n := 2) (Nat.le_of_ble_eq_true rfl)
  rw [lg_entry_eq]
  generalize (lg_sl ([.ref h0, .int p0]) ++ List.replicate (2 - (lg_sl ([.ref h0, .int p0])).length) Slot.unset).toArray = ls at hl ⊢
  have hl : lv_has ls 2 [(0, .ref h0), (1, .int p0)] := hl
  refine lv_iload_n hx hb dX7_two_0 rfl (lv_at hl 1 rfl) ?_
  refine lv_if_lt (tgt := 9) hx hb dX7_two_1 (by decide) (fun c9 => absurd c9 hv0) (fun c9 => ?_)
  refine lv_iload_n hx hb dX7_two_4 rfl (lv_at hl 1 rfl) ?_
  refine lv_iconst (v := 4) hx hb dX7_two_5 (by decide) ?_
  refine lv_icmp_lt (tgt := 17) hx hb dX7_two_6 (by decide) (fun c9 => ?_) (fun c9 => absurd hv1 c9)
  refine lv_aload_n hx hb dX7_two_17 rfl (lv_at hl 0 rfl) ?_
  refine lv_iconst (v := 4) hx hb dX7_two_18 (by decide) ?_
  refine lv_iconst (v := (-1)) hx hb dX7_two_19 (by decide) ?_
  refine lv_iload_n hx hb dX7_two_20 rfl (lv_at hl 1 rfl) ?_
  have hPc := hP.sub (ws' := [(h0, .inr (8, [.ref rp, .int 0, .ref rt, .ref rc, .int ((-1)), .ref r1, .ref r2, .ref r3, .ref r4, .null, .int 0]))]) [0] rfl
  have hDc := hD.sub (ws' := [(h0, .inr (8, [.ref rp, .int 0, .ref rt, .ref rc, .int ((-1)), .ref r1, .ref r2, .ref r3, .ref r4, .null, .int 0]))]) [0] (by decide) rfl
  have hKc := hK.sub (tys' := []) [] rfl
  have hFc := va_free (wc := [(h0, .inr (8, [.ref rp, .int 0, .ref rt, .ref rc, .int ((-1)), .ref r1, .ref r2, .ref r3, .ref r4, .null, .int 0]))]) hD hS hA [0] rfl
  refine vx_calli (vx_runV (As := [.int 4, .int ((-1)), .int p0]) (rest := []) ⟨hx, hb, hml, hown, hts⟩ (c_jn4 l dC dI tp te s.heap.size hlt h0 rp rt rc r1 r2 r3 r4 (-1) p0) (cwV 3 hts g_X_two_ok_21 rfl rfl rfl (by decide +kernel) ⟨Nat.le_of_ble_eq_true rfl, Nat.le_of_ble_eq_true rfl⟩) ⟨Pw.blind, va_recv hKc hPc (ci := 8) (q0 := 0) rfl rfl, Pw.mk hPc hKc hDc hG hS hFc⟩ rfl rfl hl.1 rfl (lv_room (Nat.le_of_ble_eq_true rfl)) dX7_two_21 ⟨Nat.le_of_ble_eq_true rfl, Nat.le_of_ble_eq_true rfl⟩) hS (fun q _ h => hFc q h) hFc (fun q _ h => hFc q h) (fun E ce q9 u t9 H1 locs ht hvm hpx hBX hz1 hk1 hS hce hcv hcl => ?_) (fun r u t9 H_1 locs ht hvm hw hB hz1 hk1 hS => hw.elim)
  have hBX : E = "java/lang/IllegalStateException" := hBX
  subst hBX
  exact vx_out (fun x9 h9 => (htab x9 h9).elim) hlocks hce hcv hcl (fun t9 ht9 _ => ⟨(), trivial, rfl, hS.F ht9⟩) hS.2.2 (Nat.le_of_ble_eq_true rfl) (Nat.le_of_ble_eq_true rfl)

set_option maxRecDepth 20000 in
def z_X_call : List Cond := .code yX7_call cX7_call 1 (some .int) :: (([.methodLink RX7 65 yX7_join, .instanceMethod yX7_join, .selects RX7 yX7_join yX7_join, .initialized RX7, .code yX7_join cX7_join 5 (some .int), .methodLink RX7 173 yX5_partsOf, .static yX5_partsOf, .initialized RX5, .code yX5_partsOf cX5_partsOf 1 (some .int), .fieldLink RX5 34 "Selfkindle$Term" "PARTS_OF" "[I", .fieldLink RX7 72 "Selfkindle" "height" "I", .classLink RX7 75 "java/lang/IllegalStateException", .initialized "java/lang/IllegalStateException"] : List Cond) ++ wsX70 ++ (vx_at0 RX7 77 "java/lang/IllegalStateException" ["java/lang/RuntimeException", "java/lang/Exception"]).filter goodWord)
theorem in_z_X_call_X7 : ∀ w ∈ wsX70, w ∈ z_X_call := fun w h => List.mem_cons_of_mem _ (List.mem_append_left _ (List.mem_append_right _ (h)))
set_option maxRecDepth 20000 in
theorem gg_X_call_4 : GoodIn z_X_call z_jn3 := goodIn_ca (goodIn_p _ [5, 9] rfl (by decide +kernel)) (goodIn_sub (fun _ h => List.mem_cons_of_mem _ (List.mem_append_right _ (h))) (by decide +kernel))
set_option maxRecDepth 20000 in
theorem g_X_call_4 : GoodIn z_X_call (wsV RX7 65 RX7 yX7_join z_jn3) := goodIn_app (goodIn_of _ (by decide +kernel)) gg_X_call_4
set_option maxHeartbeats 4000000 in
set_option maxRecDepth 100000 in
theorem c_X_call (l : Launch) (dC : Nat → ClassId) (dI : Nat → Nat → Nat) (tp te : Nat) (sz : Nat) (hlt : l.stackTraces = false) (h0 : Nat) (rp : Nat) (rt : Nat) (rc : Nat) (r1 : Nat) (r2 : Nat) (r3 : Nat) (r4 : Nat)  : vx_Met l yX7_call z_X_call ({ frames := 7, cells := 1, slots := 6, locals := 105 }) (va_Pc [.ref h0] (Pw dC dI [(h0, .inr (8, [.ref rp, .int 0, .ref rt, .ref rc, .int ((-1)), .ref r1, .ref r2, .ref r3, .ref r4, .null, .int 0]))] [] sz tp te)) (va_Qi (fun (r : Int32) (_ : Unit) => False) (fun (_ : Unit) (_ : State) => True) (va_A [(h0, .inr (8, [.ref rp, .int 0, .ref rt, .ref rc, .int ((-1)), .ref r1, .ref r2, .ref r3, .ref r4, .null, .int 0]))] sz)) (vx_X (fun (_ : Unit) => True) (fun (E : String) (_ : Unit) (_ : State) => E = "java/lang/IllegalStateException") (va_A [(h0, .inr (8, [.ref rp, .int 0, .ref rt, .ref rc, .int ((-1)), .ref r1, .ref r2, .ref r3, .ref r4, .null, .int 0]))] sz)) 1 6 (va_A [(h0, .inr (8, [.ref rp, .int 0, .ref rt, .ref rc, .int ((-1)), .ref r1, .ref r2, .ref r3, .ref r4, .null, .int 0]))] sz) := by
  refine vx_ofW (cc := cX7_call) (maxL := 1) (ret := (some .int)) (by decide) rfl ?_
  intro p e s m args below meth c s₁ B hml htab hv
  obtain ⟨rfl, hsz, hP, hK, hD0, hG⟩ := hv
  have hx := B.exec
  have hb := B.bytes
  have hr := B.returns
  have hts := atoms_spec (ws := z_X_call) B.pre
  have hown : s.vm.findClass RX7 = some m.cls := findClass_of_methodNamed B.named
  have hlocks := B.notSynchronized
  subst hsz
  have hD := hD0.self (sz := s.heap.size)
  generalize hAe : va_A [(h0, .inr (8, [.ref rp, .int 0, .ref rt, .ref rc, .int ((-1)), .ref r1, .ref r2, .ref r3, .ref r4, .null, .int 0]))] s.heap.size = A at hD hG ⊢
  have hA : ∀ q : Nat, s.heap.size ≤ q → A q := fun q h => by rw [← hAe]; exact Or.inr h
  have hS : va_S A s.heap s.heap [] := va_S.rf
  have hl := lv_entry ([.ref h0]) (n := 1) (Nat.le_of_ble_eq_true rfl)
  rw [lg_entry_eq]
  generalize (lg_sl ([.ref h0]) ++ List.replicate (1 - (lg_sl ([.ref h0])).length) Slot.unset).toArray = ls at hl ⊢
  have hl : lv_has ls 1 [(0, .ref h0)] := hl
  refine lv_aload_n hx hb dX7_call_0 rfl (lv_at hl 0 rfl) ?_
  refine lv_iconst (v := 3) hx hb dX7_call_1 (by decide) ?_
  refine lv_iconst (v := (-1)) hx hb dX7_call_2 (by decide) ?_
  refine lv_iconst (v := 0) hx hb dX7_call_3 (by decide) ?_
  have hPc := hP.sub (ws' := [(h0, .inr (8, [.ref rp, .int 0, .ref rt, .ref rc, .int ((-1)), .ref r1, .ref r2, .ref r3, .ref r4, .null, .int 0]))]) [0] rfl
  have hDc := hD.sub (ws' := [(h0, .inr (8, [.ref rp, .int 0, .ref rt, .ref rc, .int ((-1)), .ref r1, .ref r2, .ref r3, .ref r4, .null, .int 0]))]) [0] (by decide) rfl
  have hKc := hK.sub (tys' := []) [] rfl
  have hFc := va_free (wc := [(h0, .inr (8, [.ref rp, .int 0, .ref rt, .ref rc, .int ((-1)), .ref r1, .ref r2, .ref r3, .ref r4, .null, .int 0]))]) hD hS hA [0] rfl
  refine vx_calli (vx_runV (As := [.int 3, .int ((-1)), .int 0]) (rest := []) ⟨hx, hb, hml, hown, hts⟩ (c_jn3 l dC dI tp te s.heap.size hlt h0 rp rt rc r1 r2 r3 r4 (-1) 0) (cwV 3 hts g_X_call_4 rfl rfl rfl (by decide +kernel) ⟨Nat.le_of_ble_eq_true rfl, Nat.le_of_ble_eq_true rfl⟩) ⟨Pw.blind, va_recv hKc hPc (ci := 8) (q0 := 0) rfl rfl, Pw.mk hPc hKc hDc hG hS hFc⟩ rfl rfl hl.1 rfl (lv_room (Nat.le_of_ble_eq_true rfl)) dX7_call_4 ⟨Nat.le_of_ble_eq_true rfl, Nat.le_of_ble_eq_true rfl⟩) hS (fun q _ h => hFc q h) hFc (fun q _ h => hFc q h) (fun E ce q9 u t9 H1 locs ht hvm hpx hBX hz1 hk1 hS hce hcv hcl => ?_) (fun r u t9 H_1 locs ht hvm hw hB hz1 hk1 hS => hw.elim)
  have hBX : E = "java/lang/IllegalStateException" := hBX
  subst hBX
  exact vx_out (fun x9 h9 => (htab x9 h9).elim) hlocks hce hcv hcl (fun t9 ht9 _ => ⟨(), trivial, rfl, hS.F ht9⟩) hS.2.2 (Nat.le_of_ble_eq_true rfl) (Nat.le_of_ble_eq_true rfl)

set_option maxRecDepth 20000 in
def z_X_choose : List Cond := .code yX7_choose cX7_choose 1 (some .int) :: (([.methodLink RX7 65 yX7_join, .instanceMethod yX7_join, .selects RX7 yX7_join yX7_join, .initialized RX7, .code yX7_join cX7_join 5 (some .int), .methodLink RX7 173 yX5_partsOf, .static yX5_partsOf, .initialized RX5, .code yX5_partsOf cX5_partsOf 1 (some .int), .fieldLink RX5 34 "Selfkindle$Term" "PARTS_OF" "[I", .fieldLink RX7 72 "Selfkindle" "height" "I", .classLink RX7 75 "java/lang/IllegalStateException", .initialized "java/lang/IllegalStateException"] : List Cond) ++ wsX70 ++ (vx_at0 RX7 77 "java/lang/IllegalStateException" ["java/lang/RuntimeException", "java/lang/Exception"]).filter goodWord)
theorem in_z_X_choose_X7 : ∀ w ∈ wsX70, w ∈ z_X_choose := fun w h => List.mem_cons_of_mem _ (List.mem_append_left _ (List.mem_append_right _ (h)))
set_option maxRecDepth 20000 in
theorem gg_X_choose_4 : GoodIn z_X_choose z_jn5 := goodIn_ca (goodIn_p _ [5, 9] rfl (by decide +kernel)) (goodIn_sub (fun _ h => List.mem_cons_of_mem _ (List.mem_append_right _ (h))) (by decide +kernel))
set_option maxRecDepth 20000 in
theorem g_X_choose_4 : GoodIn z_X_choose (wsV RX7 65 RX7 yX7_join z_jn5) := goodIn_app (goodIn_of _ (by decide +kernel)) gg_X_choose_4
set_option maxHeartbeats 4000000 in
set_option maxRecDepth 100000 in
theorem c_X_choose (l : Launch) (dC : Nat → ClassId) (dI : Nat → Nat → Nat) (tp te : Nat) (sz : Nat) (hlt : l.stackTraces = false) (h0 : Nat) (rp : Nat) (rt : Nat) (rc : Nat) (r1 : Nat) (r2 : Nat) (r3 : Nat) (r4 : Nat)  : vx_Met l yX7_choose z_X_choose ({ frames := 7, cells := 1, slots := 6, locals := 105 }) (va_Pc [.ref h0] (Pw dC dI [(h0, .inr (8, [.ref rp, .int 0, .ref rt, .ref rc, .int ((-1)), .ref r1, .ref r2, .ref r3, .ref r4, .null, .int 0]))] [] sz tp te)) (va_Qi (fun (r : Int32) (_ : Unit) => False) (fun (_ : Unit) (_ : State) => True) (va_A [(h0, .inr (8, [.ref rp, .int 0, .ref rt, .ref rc, .int ((-1)), .ref r1, .ref r2, .ref r3, .ref r4, .null, .int 0]))] sz)) (vx_X (fun (_ : Unit) => True) (fun (E : String) (_ : Unit) (_ : State) => E = "java/lang/IllegalStateException") (va_A [(h0, .inr (8, [.ref rp, .int 0, .ref rt, .ref rc, .int ((-1)), .ref r1, .ref r2, .ref r3, .ref r4, .null, .int 0]))] sz)) 1 6 (va_A [(h0, .inr (8, [.ref rp, .int 0, .ref rt, .ref rc, .int ((-1)), .ref r1, .ref r2, .ref r3, .ref r4, .null, .int 0]))] sz) := by
  refine vx_ofW (cc := cX7_choose) (maxL := 1) (ret := (some .int)) (by decide) rfl ?_
  intro p e s m args below meth c s₁ B hml htab hv
  obtain ⟨rfl, hsz, hP, hK, hD0, hG⟩ := hv
  have hx := B.exec
  have hb := B.bytes
  have hr := B.returns
  have hts := atoms_spec (ws := z_X_choose) B.pre
  have hown : s.vm.findClass RX7 = some m.cls := findClass_of_methodNamed B.named
  have hlocks := B.notSynchronized
  subst hsz
  have hD := hD0.self (sz := s.heap.size)
  generalize hAe : va_A [(h0, .inr (8, [.ref rp, .int 0, .ref rt, .ref rc, .int ((-1)), .ref r1, .ref r2, .ref r3, .ref r4, .null, .int 0]))] s.heap.size = A at hD hG ⊢
  have hA : ∀ q : Nat, s.heap.size ≤ q → A q := fun q h => by rw [← hAe]; exact Or.inr h
  have hS : va_S A s.heap s.heap [] := va_S.rf
  have hl := lv_entry ([.ref h0]) (n := 1) (Nat.le_of_ble_eq_true rfl)
  rw [lg_entry_eq]
  generalize (lg_sl ([.ref h0]) ++ List.replicate (1 - (lg_sl ([.ref h0])).length) Slot.unset).toArray = ls at hl ⊢
  have hl : lv_has ls 1 [(0, .ref h0)] := hl
  refine lv_aload_n hx hb dX7_choose_0 rfl (lv_at hl 0 rfl) ?_
  refine lv_iconst (v := 5) hx hb dX7_choose_1 (by decide) ?_
  refine lv_iconst (v := (-1)) hx hb dX7_choose_2 (by decide) ?_
  refine lv_iconst (v := 0) hx hb dX7_choose_3 (by decide) ?_
  have hPc := hP.sub (ws' := [(h0, .inr (8, [.ref rp, .int 0, .ref rt, .ref rc, .int ((-1)), .ref r1, .ref r2, .ref r3, .ref r4, .null, .int 0]))]) [0] rfl
  have hDc := hD.sub (ws' := [(h0, .inr (8, [.ref rp, .int 0, .ref rt, .ref rc, .int ((-1)), .ref r1, .ref r2, .ref r3, .ref r4, .null, .int 0]))]) [0] (by decide) rfl
  have hKc := hK.sub (tys' := []) [] rfl
  have hFc := va_free (wc := [(h0, .inr (8, [.ref rp, .int 0, .ref rt, .ref rc, .int ((-1)), .ref r1, .ref r2, .ref r3, .ref r4, .null, .int 0]))]) hD hS hA [0] rfl
  refine vx_calli (vx_runV (As := [.int 5, .int ((-1)), .int 0]) (rest := []) ⟨hx, hb, hml, hown, hts⟩ (c_jn5 l dC dI tp te s.heap.size hlt h0 rp rt rc r1 r2 r3 r4 (-1) 0) (cwV 3 hts g_X_choose_4 rfl rfl rfl (by decide +kernel) ⟨Nat.le_of_ble_eq_true rfl, Nat.le_of_ble_eq_true rfl⟩) ⟨Pw.blind, va_recv hKc hPc (ci := 8) (q0 := 0) rfl rfl, Pw.mk hPc hKc hDc hG hS hFc⟩ rfl rfl hl.1 rfl (lv_room (Nat.le_of_ble_eq_true rfl)) dX7_choose_4 ⟨Nat.le_of_ble_eq_true rfl, Nat.le_of_ble_eq_true rfl⟩) hS (fun q _ h => hFc q h) hFc (fun q _ h => hFc q h) (fun E ce q9 u t9 H1 locs ht hvm hpx hBX hz1 hk1 hS hce hcv hcl => ?_) (fun r u t9 H_1 locs ht hvm hw hB hz1 hk1 hS => hw.elim)
  have hBX : E = "java/lang/IllegalStateException" := hBX
  subst hBX
  exact vx_out (fun x9 h9 => (htab x9 h9).elim) hlocks hce hcv hcl (fun t9 ht9 _ => ⟨(), trivial, rfl, hS.F ht9⟩) hS.2.2 (Nat.le_of_ble_eq_true rfl) (Nat.le_of_ble_eq_true rfl)

set_option maxRecDepth 20000 in
def z_X_pair : List Cond := .code yX7_pair cX7_pair 1 (some .int) :: (([.methodLink RX7 65 yX7_join, .instanceMethod yX7_join, .selects RX7 yX7_join yX7_join, .initialized RX7, .code yX7_join cX7_join 5 (some .int), .methodLink RX7 173 yX5_partsOf, .static yX5_partsOf, .initialized RX5, .code yX5_partsOf cX5_partsOf 1 (some .int), .fieldLink RX5 34 "Selfkindle$Term" "PARTS_OF" "[I", .fieldLink RX7 72 "Selfkindle" "height" "I", .classLink RX7 75 "java/lang/IllegalStateException", .initialized "java/lang/IllegalStateException"] : List Cond) ++ wsX70 ++ (vx_at0 RX7 77 "java/lang/IllegalStateException" ["java/lang/RuntimeException", "java/lang/Exception"]).filter goodWord)
theorem in_z_X_pair_X7 : ∀ w ∈ wsX70, w ∈ z_X_pair := fun w h => List.mem_cons_of_mem _ (List.mem_append_left _ (List.mem_append_right _ (h)))
set_option maxRecDepth 20000 in
theorem gg_X_pair_5 : GoodIn z_X_pair z_jn8 := goodIn_ca (goodIn_p _ [5, 9] rfl (by decide +kernel)) (goodIn_sub (fun _ h => List.mem_cons_of_mem _ (List.mem_append_right _ (h))) (by decide +kernel))
set_option maxRecDepth 20000 in
theorem g_X_pair_5 : GoodIn z_X_pair (wsV RX7 65 RX7 yX7_join z_jn8) := goodIn_app (goodIn_of _ (by decide +kernel)) gg_X_pair_5
set_option maxHeartbeats 4000000 in
set_option maxRecDepth 100000 in
theorem c_X_pair (l : Launch) (dC : Nat → ClassId) (dI : Nat → Nat → Nat) (tp te : Nat) (sz : Nat) (hlt : l.stackTraces = false) (h0 : Nat) (rp : Nat) (rt : Nat) (rc : Nat) (r1 : Nat) (r2 : Nat) (r3 : Nat) (r4 : Nat)  : vx_Met l yX7_pair z_X_pair ({ frames := 7, cells := 1, slots := 6, locals := 105 }) (va_Pc [.ref h0] (Pw dC dI [(h0, .inr (8, [.ref rp, .int 0, .ref rt, .ref rc, .int ((-1)), .ref r1, .ref r2, .ref r3, .ref r4, .null, .int 0]))] [] sz tp te)) (va_Qi (fun (r : Int32) (_ : Unit) => False) (fun (_ : Unit) (_ : State) => True) (va_A [(h0, .inr (8, [.ref rp, .int 0, .ref rt, .ref rc, .int ((-1)), .ref r1, .ref r2, .ref r3, .ref r4, .null, .int 0]))] sz)) (vx_X (fun (_ : Unit) => True) (fun (E : String) (_ : Unit) (_ : State) => E = "java/lang/IllegalStateException") (va_A [(h0, .inr (8, [.ref rp, .int 0, .ref rt, .ref rc, .int ((-1)), .ref r1, .ref r2, .ref r3, .ref r4, .null, .int 0]))] sz)) 1 6 (va_A [(h0, .inr (8, [.ref rp, .int 0, .ref rt, .ref rc, .int ((-1)), .ref r1, .ref r2, .ref r3, .ref r4, .null, .int 0]))] sz) := by
  refine vx_ofW (cc := cX7_pair) (maxL := 1) (ret := (some .int)) (by decide) rfl ?_
  intro p e s m args below meth c s₁ B hml htab hv
  obtain ⟨rfl, hsz, hP, hK, hD0, hG⟩ := hv
  have hx := B.exec
  have hb := B.bytes
  have hr := B.returns
  have hts := atoms_spec (ws := z_X_pair) B.pre
  have hown : s.vm.findClass RX7 = some m.cls := findClass_of_methodNamed B.named
  have hlocks := B.notSynchronized
  subst hsz
  have hD := hD0.self (sz := s.heap.size)
  generalize hAe : va_A [(h0, .inr (8, [.ref rp, .int 0, .ref rt, .ref rc, .int ((-1)), .ref r1, .ref r2, .ref r3, .ref r4, .null, .int 0]))] s.heap.size = A at hD hG ⊢
  have hA : ∀ q : Nat, s.heap.size ≤ q → A q := fun q h => by rw [← hAe]; exact Or.inr h
  have hS : va_S A s.heap s.heap [] := va_S.rf
  have hl := lv_entry ([.ref h0]) (n := 1) (Nat.le_of_ble_eq_true rfl)
  rw [lg_entry_eq]
  generalize (lg_sl ([.ref h0]) ++ List.replicate (1 - (lg_sl ([.ref h0])).length) Slot.unset).toArray = ls at hl ⊢
  have hl : lv_has ls 1 [(0, .ref h0)] := hl
  refine lv_aload_n hx hb dX7_pair_0 rfl (lv_at hl 0 rfl) ?_
  refine lv_bipush (v := 8) hx hb dX7_pair_1 (by decide) ?_
  refine lv_iconst (v := (-1)) hx hb dX7_pair_3 (by decide) ?_
  refine lv_iconst (v := 0) hx hb dX7_pair_4 (by decide) ?_
  have hPc := hP.sub (ws' := [(h0, .inr (8, [.ref rp, .int 0, .ref rt, .ref rc, .int ((-1)), .ref r1, .ref r2, .ref r3, .ref r4, .null, .int 0]))]) [0] rfl
  have hDc := hD.sub (ws' := [(h0, .inr (8, [.ref rp, .int 0, .ref rt, .ref rc, .int ((-1)), .ref r1, .ref r2, .ref r3, .ref r4, .null, .int 0]))]) [0] (by decide) rfl
  have hKc := hK.sub (tys' := []) [] rfl
  have hFc := va_free (wc := [(h0, .inr (8, [.ref rp, .int 0, .ref rt, .ref rc, .int ((-1)), .ref r1, .ref r2, .ref r3, .ref r4, .null, .int 0]))]) hD hS hA [0] rfl
  refine vx_calli (vx_runV (As := [.int 8, .int ((-1)), .int 0]) (rest := []) ⟨hx, hb, hml, hown, hts⟩ (c_jn8 l dC dI tp te s.heap.size hlt h0 rp rt rc r1 r2 r3 r4 (-1) 0) (cwV 3 hts g_X_pair_5 rfl rfl rfl (by decide +kernel) ⟨Nat.le_of_ble_eq_true rfl, Nat.le_of_ble_eq_true rfl⟩) ⟨Pw.blind, va_recv hKc hPc (ci := 8) (q0 := 0) rfl rfl, Pw.mk hPc hKc hDc hG hS hFc⟩ rfl rfl hl.1 rfl (lv_room (Nat.le_of_ble_eq_true rfl)) dX7_pair_5 ⟨Nat.le_of_ble_eq_true rfl, Nat.le_of_ble_eq_true rfl⟩) hS (fun q _ h => hFc q h) hFc (fun q _ h => hFc q h) (fun E ce q9 u t9 H1 locs ht hvm hpx hBX hz1 hk1 hS hce hcv hcl => ?_) (fun r u t9 H_1 locs ht hvm hw hB hz1 hk1 hS => hw.elim)
  have hBX : E = "java/lang/IllegalStateException" := hBX
  subst hBX
  exact vx_out (fun x9 h9 => (htab x9 h9).elim) hlocks hce hcv hcl (fun t9 ht9 _ => ⟨(), trivial, rfl, hS.F ht9⟩) hS.2.2 (Nat.le_of_ble_eq_true rfl) (Nat.le_of_ble_eq_true rfl)

set_option maxRecDepth 20000 in
def z_X_raise : List Cond := .code yX7_raise cX7_raise 1 (some .int) :: (([.methodLink RX7 65 yX7_join, .instanceMethod yX7_join, .selects RX7 yX7_join yX7_join, .initialized RX7, .code yX7_join cX7_join 5 (some .int), .methodLink RX7 173 yX5_partsOf, .static yX5_partsOf, .initialized RX5, .code yX5_partsOf cX5_partsOf 1 (some .int), .fieldLink RX5 34 "Selfkindle$Term" "PARTS_OF" "[I", .fieldLink RX7 72 "Selfkindle" "height" "I", .classLink RX7 75 "java/lang/IllegalStateException", .initialized "java/lang/IllegalStateException"] : List Cond) ++ wsX70 ++ (vx_at0 RX7 77 "java/lang/IllegalStateException" ["java/lang/RuntimeException", "java/lang/Exception"]).filter goodWord)
theorem in_z_X_raise_X7 : ∀ w ∈ wsX70, w ∈ z_X_raise := fun w h => List.mem_cons_of_mem _ (List.mem_append_left _ (List.mem_append_right _ (h)))
set_option maxRecDepth 20000 in
theorem gg_X_raise_5 : GoodIn z_X_raise z_jn10 := goodIn_ca (goodIn_p _ [5, 9] rfl (by decide +kernel)) (goodIn_sub (fun _ h => List.mem_cons_of_mem _ (List.mem_append_right _ (h))) (by decide +kernel))
set_option maxRecDepth 20000 in
theorem g_X_raise_5 : GoodIn z_X_raise (wsV RX7 65 RX7 yX7_join z_jn10) := goodIn_app (goodIn_of _ (by decide +kernel)) gg_X_raise_5
set_option maxHeartbeats 4000000 in
set_option maxRecDepth 100000 in
theorem c_X_raise (l : Launch) (dC : Nat → ClassId) (dI : Nat → Nat → Nat) (tp te : Nat) (sz : Nat) (hlt : l.stackTraces = false) (h0 : Nat) (rp : Nat) (rt : Nat) (rc : Nat) (r1 : Nat) (r2 : Nat) (r3 : Nat) (r4 : Nat)  : vx_Met l yX7_raise z_X_raise ({ frames := 7, cells := 1, slots := 6, locals := 105 }) (va_Pc [.ref h0] (Pw dC dI [(h0, .inr (8, [.ref rp, .int 0, .ref rt, .ref rc, .int ((-1)), .ref r1, .ref r2, .ref r3, .ref r4, .null, .int 0]))] [] sz tp te)) (va_Qi (fun (r : Int32) (_ : Unit) => False) (fun (_ : Unit) (_ : State) => True) (va_A [(h0, .inr (8, [.ref rp, .int 0, .ref rt, .ref rc, .int ((-1)), .ref r1, .ref r2, .ref r3, .ref r4, .null, .int 0]))] sz)) (vx_X (fun (_ : Unit) => True) (fun (E : String) (_ : Unit) (_ : State) => E = "java/lang/IllegalStateException") (va_A [(h0, .inr (8, [.ref rp, .int 0, .ref rt, .ref rc, .int ((-1)), .ref r1, .ref r2, .ref r3, .ref r4, .null, .int 0]))] sz)) 1 6 (va_A [(h0, .inr (8, [.ref rp, .int 0, .ref rt, .ref rc, .int ((-1)), .ref r1, .ref r2, .ref r3, .ref r4, .null, .int 0]))] sz) := by
  refine vx_ofW (cc := cX7_raise) (maxL := 1) (ret := (some .int)) (by decide) rfl ?_
  intro p e s m args below meth c s₁ B hml htab hv
  obtain ⟨rfl, hsz, hP, hK, hD0, hG⟩ := hv
  have hx := B.exec
  have hb := B.bytes
  have hr := B.returns
  have hts := atoms_spec (ws := z_X_raise) B.pre
  have hown : s.vm.findClass RX7 = some m.cls := findClass_of_methodNamed B.named
  have hlocks := B.notSynchronized
  subst hsz
  have hD := hD0.self (sz := s.heap.size)
  generalize hAe : va_A [(h0, .inr (8, [.ref rp, .int 0, .ref rt, .ref rc, .int ((-1)), .ref r1, .ref r2, .ref r3, .ref r4, .null, .int 0]))] s.heap.size = A at hD hG ⊢
  have hA : ∀ q : Nat, s.heap.size ≤ q → A q := fun q h => by rw [← hAe]; exact Or.inr h
  have hS : va_S A s.heap s.heap [] := va_S.rf
  have hl := lv_entry ([.ref h0]) (n := 1) (Nat.le_of_ble_eq_true rfl)
  rw [lg_entry_eq]
  generalize (lg_sl ([.ref h0]) ++ List.replicate (1 - (lg_sl ([.ref h0])).length) Slot.unset).toArray = ls at hl ⊢
  have hl : lv_has ls 1 [(0, .ref h0)] := hl
  refine lv_aload_n hx hb dX7_raise_0 rfl (lv_at hl 0 rfl) ?_
  refine lv_bipush (v := 10) hx hb dX7_raise_1 (by decide) ?_
  refine lv_iconst (v := (-1)) hx hb dX7_raise_3 (by decide) ?_
  refine lv_iconst (v := 0) hx hb dX7_raise_4 (by decide) ?_
  have hPc := hP.sub (ws' := [(h0, .inr (8, [.ref rp, .int 0, .ref rt, .ref rc, .int ((-1)), .ref r1, .ref r2, .ref r3, .ref r4, .null, .int 0]))]) [0] rfl
  have hDc := hD.sub (ws' := [(h0, .inr (8, [.ref rp, .int 0, .ref rt, .ref rc, .int ((-1)), .ref r1, .ref r2, .ref r3, .ref r4, .null, .int 0]))]) [0] (by decide) rfl
  have hKc := hK.sub (tys' := []) [] rfl
  have hFc := va_free (wc := [(h0, .inr (8, [.ref rp, .int 0, .ref rt, .ref rc, .int ((-1)), .ref r1, .ref r2, .ref r3, .ref r4, .null, .int 0]))]) hD hS hA [0] rfl
  refine vx_calli (vx_runV (As := [.int 10, .int ((-1)), .int 0]) (rest := []) ⟨hx, hb, hml, hown, hts⟩ (c_jn10 l dC dI tp te s.heap.size hlt h0 rp rt rc r1 r2 r3 r4 (-1) 0) (cwV 3 hts g_X_raise_5 rfl rfl rfl (by decide +kernel) ⟨Nat.le_of_ble_eq_true rfl, Nat.le_of_ble_eq_true rfl⟩) ⟨Pw.blind, va_recv hKc hPc (ci := 8) (q0 := 0) rfl rfl, Pw.mk hPc hKc hDc hG hS hFc⟩ rfl rfl hl.1 rfl (lv_room (Nat.le_of_ble_eq_true rfl)) dX7_raise_5 ⟨Nat.le_of_ble_eq_true rfl, Nat.le_of_ble_eq_true rfl⟩) hS (fun q _ h => hFc q h) hFc (fun q _ h => hFc q h) (fun E ce q9 u t9 H1 locs ht hvm hpx hBX hz1 hk1 hS hce hcv hcl => ?_) (fun r u t9 H_1 locs ht hvm hw hB hz1 hk1 hS => hw.elim)
  have hBX : E = "java/lang/IllegalStateException" := hBX
  subst hBX
  exact vx_out (fun x9 h9 => (htab x9 h9).elim) hlocks hce hcv hcl (fun t9 ht9 _ => ⟨(), trivial, rfl, hS.F ht9⟩) hS.2.2 (Nat.le_of_ble_eq_true rfl) (Nat.le_of_ble_eq_true rfl)

set_option maxRecDepth 20000 in
def z_X_program : List Cond := .code yX7_program cX7_program 2 (some .int) :: (([.fieldLink RX7 72 "Selfkindle" "height" "I", .classLink RX7 75 "java/lang/IllegalStateException", .initialized "java/lang/IllegalStateException"] : List Cond) ++ wsX70 ++ (vx_at0 RX7 77 "java/lang/IllegalStateException" ["java/lang/RuntimeException", "java/lang/Exception"]).filter goodWord)
theorem in_z_X_program_X7 : ∀ w ∈ wsX70, w ∈ z_X_program := fun w h => List.mem_cons_of_mem _ (List.mem_append_left _ (List.mem_append_right _ (h)))
set_option maxHeartbeats 4000000 in
set_option maxRecDepth 100000 in
theorem c_X_program (l : Launch) (dC : Nat → ClassId) (dI : Nat → Nat → Nat) (tp te : Nat) (sz : Nat) (hlt : l.stackTraces = false) (h0 : Nat) (rp : Nat) (rt : Nat) (rc : Nat) (r1 : Nat) (r2 : Nat) (r3 : Nat) (r4 : Nat)  : vx_Met l yX7_program z_X_program ({ frames := 6, cells := 1, slots := 6, locals := 81 }) (va_Pc [.ref h0] (Pw dC dI [(h0, .inr (8, [.ref rp, .int 0, .ref rt, .ref rc, .int ((-1)), .ref r1, .ref r2, .ref r3, .ref r4, .null, .int 0]))] [] sz tp te)) (va_Qi (fun (r : Int32) (_ : Unit) => False) (fun (_ : Unit) (_ : State) => True) (va_A [(h0, .inr (8, [.ref rp, .int 0, .ref rt, .ref rc, .int ((-1)), .ref r1, .ref r2, .ref r3, .ref r4, .null, .int 0]))] sz)) (vx_X (fun (_ : Unit) => True) (fun (E : String) (_ : Unit) (_ : State) => E = "java/lang/IllegalStateException") (va_A [(h0, .inr (8, [.ref rp, .int 0, .ref rt, .ref rc, .int ((-1)), .ref r1, .ref r2, .ref r3, .ref r4, .null, .int 0]))] sz)) 1 6 (va_A [(h0, .inr (8, [.ref rp, .int 0, .ref rt, .ref rc, .int ((-1)), .ref r1, .ref r2, .ref r3, .ref r4, .null, .int 0]))] sz) := by
  refine vx_ofW (cc := cX7_program) (maxL := 2) (ret := (some .int)) (by decide) rfl ?_
  intro p e s m args below meth c s₁ B hml htab hv
  obtain ⟨rfl, hsz, hP, hK, hD0, hG⟩ := hv
  have hx := B.exec
  have hb := B.bytes
  have hr := B.returns
  have hts := atoms_spec (ws := z_X_program) B.pre
  have hown : s.vm.findClass RX7 = some m.cls := findClass_of_methodNamed B.named
  have hlocks := B.notSynchronized
  subst hsz
  have hD := hD0.self (sz := s.heap.size)
  generalize hAe : va_A [(h0, .inr (8, [.ref rp, .int 0, .ref rt, .ref rc, .int ((-1)), .ref r1, .ref r2, .ref r3, .ref r4, .null, .int 0]))] s.heap.size = A at hD hG ⊢
  have hA : ∀ q : Nat, s.heap.size ≤ q → A q := fun q h => by rw [← hAe]; exact Or.inr h
  have hS : va_S A s.heap s.heap [] := va_S.rf
  have hl := lv_entry ([.ref h0]) (n := 2) (Nat.le_of_ble_eq_true rfl)
  rw [lg_entry_eq]
  generalize (lg_sl ([.ref h0]) ++ List.replicate (2 - (lg_sl ([.ref h0])).length) Slot.unset).toArray = ls at hl ⊢
  have hl : lv_has ls 2 [(0, .ref h0)] := hl
  refine lv_aload_n hx hb dX7_program_0 rfl (lv_at hl 0 rfl) ?_
  refine va_get (D := (dC, dI)) (ci := 8) (v := .int 0) (C := RX7) (T := TX7) (N := 11) hx hb hts in_z_X_program_X7 hown hK hP 0 rfl rfl 1 (by decide) (hts (.fieldLink RX7 72 "Selfkindle" "height" "I") (List.mem_of_getElem? (i := 1) rfl)) (fun _ h9 => h9) rfl dX7_program_1 ?_
  refine lv_if_ne (tgt := 15) hx hb dX7_program_4 (by decide) (fun c9 => absurd (by decide) c9) (fun c9 => ?_)
  exact vx_throw0 (A := A) (own := RX7) (cls := "java/lang/IllegalStateException") (names := ["java/lang/RuntimeException", "java/lang/Exception"]) (ik := 75) (ic := 77) hx hb hlt hown (by decide +kernel) (by decide +kernel) (hts (.classLink RX7 75 "java/lang/IllegalStateException") (List.mem_of_getElem? (i := 2) rfl)) (hts (.initialized "java/lang/IllegalStateException") (List.mem_of_getElem? (i := 3) rfl)) (vx_hat (B := [.castable "java/lang/IllegalStateException" "java/lang/IllegalStateException", .declares (Bundle.init0 "java/lang/RuntimeException"), .declares (Bundle.init0 "java/lang/Exception"), .declares (Bundle.init0 "java/lang/Throwable")]) (fun w9 h9 => hts w9 (List.mem_cons_of_mem _ (List.mem_append_right _ (h9)))) (by decide +kernel) (vx_c (va_Nw.use rfl hG.2.2.2.2.2.2.1) (vx_c (va_Nw.use rfl hG.2.2.2.2.2.2.2.2.2.2.2.2.2.2.1) (vx_c (va_Nw.use rfl hG.2.2.2.2.2.2.2.2.2.2.2.2.2.2.2.1) (vx_c (va_Nw.use rfl hG.2.2.2.2.2.2.2.2.2.2.2.2.2.2.2.2) vx_n))))) (by decide +kernel) hG.2.2.2.2.1 hG.2.2.2.2.2.1 hS (by rw [hml]; exact hl.1) dX7_program_7 dX7_program_10 dX7_program_11 dX7_program_14 (fun x9 h9 => (htab x9 h9).elim) (Nat.le_of_ble_eq_true rfl) (Nat.le_of_ble_eq_true rfl) (Nat.le_of_ble_eq_true rfl) (Nat.le_of_ble_eq_true rfl) hlocks (fun t9 _ hz9 hk9 => ⟨(), trivial, rfl, ⟨Nat.le_trans hS.1 hz9, fun q h1 h2 => (hk9 q (Nat.lt_of_lt_of_le h1 hS.1)).trans (hS.2.1 q h1 h2)⟩⟩) hS.2.2 (Nat.le_of_ble_eq_true rfl) (Nat.le_of_ble_eq_true rfl)

set_option maxRecDepth 20000 in
def z_X_fault : List Cond := .code yX7_fault cX7_fault 1 (some .int) :: (([.fieldLink RX7 24 "Selfkindle" "wrong" "I", .classLink RX7 75 "java/lang/IllegalStateException", .initialized "java/lang/IllegalStateException"] : List Cond) ++ wsX70 ++ (vx_at0 RX7 77 "java/lang/IllegalStateException" ["java/lang/RuntimeException", "java/lang/Exception"]).filter goodWord)
theorem in_z_X_fault_X7 : ∀ w ∈ wsX70, w ∈ z_X_fault := fun w h => List.mem_cons_of_mem _ (List.mem_append_left _ (List.mem_append_right _ (h)))
set_option maxHeartbeats 4000000 in
set_option maxRecDepth 100000 in
theorem c_X_fault (l : Launch) (dC : Nat → ClassId) (dI : Nat → Nat → Nat) (tp te : Nat) (sz : Nat) (hlt : l.stackTraces = false) (h0 : Nat) (rp : Nat) (rt : Nat) (rc : Nat) (r1 : Nat) (r2 : Nat) (r3 : Nat) (r4 : Nat)  : vx_Met l yX7_fault z_X_fault ({ frames := 6, cells := 1, slots := 6, locals := 81 }) (va_Pc [.ref h0] (Pw dC dI [(h0, .inr (8, [.ref rp, .int 0, .ref rt, .ref rc, .int ((-1)), .ref r1, .ref r2, .ref r3, .ref r4, .null, .int 0]))] [] sz tp te)) (va_Qi (fun (r : Int32) (_ : Unit) => False) (fun (_ : Unit) (_ : State) => True) (va_A [(h0, .inr (8, [.ref rp, .int 0, .ref rt, .ref rc, .int ((-1)), .ref r1, .ref r2, .ref r3, .ref r4, .null, .int 0]))] sz)) (vx_X (fun (_ : Unit) => True) (fun (E : String) (_ : Unit) (_ : State) => E = "java/lang/IllegalStateException") (va_A [(h0, .inr (8, [.ref rp, .int 0, .ref rt, .ref rc, .int ((-1)), .ref r1, .ref r2, .ref r3, .ref r4, .null, .int 0]))] sz)) 1 6 (va_A [(h0, .inr (8, [.ref rp, .int 0, .ref rt, .ref rc, .int ((-1)), .ref r1, .ref r2, .ref r3, .ref r4, .null, .int 0]))] sz) := by
  refine vx_ofW (cc := cX7_fault) (maxL := 1) (ret := (some .int)) (by decide) rfl ?_
  intro p e s m args below meth c s₁ B hml htab hv
  obtain ⟨rfl, hsz, hP, hK, hD0, hG⟩ := hv
  have hx := B.exec
  have hb := B.bytes
  have hr := B.returns
  have hts := atoms_spec (ws := z_X_fault) B.pre
  have hown : s.vm.findClass RX7 = some m.cls := findClass_of_methodNamed B.named
  have hlocks := B.notSynchronized
  subst hsz
  have hD := hD0.self (sz := s.heap.size)
  generalize hAe : va_A [(h0, .inr (8, [.ref rp, .int 0, .ref rt, .ref rc, .int ((-1)), .ref r1, .ref r2, .ref r3, .ref r4, .null, .int 0]))] s.heap.size = A at hD hG ⊢
  have hA : ∀ q : Nat, s.heap.size ≤ q → A q := fun q h => by rw [← hAe]; exact Or.inr h
  have hS : va_S A s.heap s.heap [] := va_S.rf
  have hl := lv_entry ([.ref h0]) (n := 1) (Nat.le_of_ble_eq_true rfl)
  rw [lg_entry_eq]
  generalize (lg_sl ([.ref h0]) ++ List.replicate (1 - (lg_sl ([.ref h0])).length) Slot.unset).toArray = ls at hl ⊢
  have hl : lv_has ls 1 [(0, .ref h0)] := hl
  refine lv_aload_n hx hb dX7_fault_0 rfl (lv_at hl 0 rfl) ?_
  refine va_get (D := (dC, dI)) (ci := 8) (v := .int ((-1))) (C := RX7) (T := TX7) (N := 11) hx hb hts in_z_X_fault_X7 hown hK hP 0 rfl rfl 4 (by decide) (hts (.fieldLink RX7 24 "Selfkindle" "wrong" "I") (List.mem_of_getElem? (i := 1) rfl)) (fun _ h9 => h9) rfl dX7_fault_1 ?_
  refine lv_iconst (v := (-1)) hx hb dX7_fault_4 (by decide) ?_
  refine lv_icmp_ne (tgt := 16) hx hb dX7_fault_5 (by decide) (fun c9 => absurd (by decide) c9) (fun c9 => ?_)
  exact vx_throw0 (A := A) (own := RX7) (cls := "java/lang/IllegalStateException") (names := ["java/lang/RuntimeException", "java/lang/Exception"]) (ik := 75) (ic := 77) hx hb hlt hown (by decide +kernel) (by decide +kernel) (hts (.classLink RX7 75 "java/lang/IllegalStateException") (List.mem_of_getElem? (i := 2) rfl)) (hts (.initialized "java/lang/IllegalStateException") (List.mem_of_getElem? (i := 3) rfl)) (vx_hat (B := [.castable "java/lang/IllegalStateException" "java/lang/IllegalStateException", .declares (Bundle.init0 "java/lang/RuntimeException"), .declares (Bundle.init0 "java/lang/Exception"), .declares (Bundle.init0 "java/lang/Throwable")]) (fun w9 h9 => hts w9 (List.mem_cons_of_mem _ (List.mem_append_right _ (h9)))) (by decide +kernel) (vx_c (va_Nw.use rfl hG.2.2.2.2.2.2.1) (vx_c (va_Nw.use rfl hG.2.2.2.2.2.2.2.2.2.2.2.2.2.2.1) (vx_c (va_Nw.use rfl hG.2.2.2.2.2.2.2.2.2.2.2.2.2.2.2.1) (vx_c (va_Nw.use rfl hG.2.2.2.2.2.2.2.2.2.2.2.2.2.2.2.2) vx_n))))) (by decide +kernel) hG.2.2.2.2.1 hG.2.2.2.2.2.1 hS (by rw [hml]; exact hl.1) dX7_fault_8 dX7_fault_11 dX7_fault_12 dX7_fault_15 (fun x9 h9 => (htab x9 h9).elim) (Nat.le_of_ble_eq_true rfl) (Nat.le_of_ble_eq_true rfl) (Nat.le_of_ble_eq_true rfl) (Nat.le_of_ble_eq_true rfl) hlocks (fun t9 _ hz9 hk9 => ⟨(), trivial, rfl, ⟨Nat.le_trans hS.1 hz9, fun q h1 h2 => (hk9 q (Nat.lt_of_lt_of_le h1 hS.1)).trans (hS.2.1 q h1 h2)⟩⟩) hS.2.2 (Nat.le_of_ble_eq_true rfl) (Nat.le_of_ble_eq_true rfl)

set_option maxRecDepth 20000 in
def z_X_half : List Cond := .code yX7_half cX7_half 2 (some .int) :: (([.methodLink RX7 65 yX7_join, .instanceMethod yX7_join, .selects RX7 yX7_join yX7_join, .initialized RX7, .code yX7_join cX7_join 5 (some .int), .methodLink RX7 173 yX5_partsOf, .static yX5_partsOf, .initialized RX5, .code yX5_partsOf cX5_partsOf 1 (some .int), .fieldLink RX5 34 "Selfkindle$Term" "PARTS_OF" "[I", .fieldLink RX7 72 "Selfkindle" "height" "I", .classLink RX7 75 "java/lang/IllegalStateException", .initialized "java/lang/IllegalStateException"] : List Cond) ++ wsX70 ++ (vx_at0 RX7 77 "java/lang/IllegalStateException" ["java/lang/RuntimeException", "java/lang/Exception"]).filter goodWord)
theorem in_z_X_half_X7 : ∀ w ∈ wsX70, w ∈ z_X_half := fun w h => List.mem_cons_of_mem _ (List.mem_append_left _ (List.mem_append_right _ (h)))
set_option maxRecDepth 20000 in
theorem gg_X_half_13 : GoodIn z_X_half z_jn9 := goodIn_ca (goodIn_p _ [5, 9] rfl (by decide +kernel)) (goodIn_sub (fun _ h => List.mem_cons_of_mem _ (List.mem_append_right _ (h))) (by decide +kernel))
set_option maxRecDepth 20000 in
theorem g_X_half_13 : GoodIn z_X_half (wsV RX7 65 RX7 yX7_join z_jn9) := goodIn_app (goodIn_of _ (by decide +kernel)) gg_X_half_13
set_option maxHeartbeats 4000000 in
set_option maxRecDepth 100000 in
theorem c_X_half (l : Launch) (dC : Nat → ClassId) (dI : Nat → Nat → Nat) (tp te : Nat) (sz : Nat) (hlt : l.stackTraces = false) (h0 : Nat) (rp : Nat) (rt : Nat) (rc : Nat) (r1 : Nat) (r2 : Nat) (r3 : Nat) (r4 : Nat) (p0 : Int32)  : vx_Met l yX7_half z_X_half ({ frames := 7, cells := 1, slots := 6, locals := 105 }) (va_Pc [.ref h0, .int p0] (Pw dC dI [(h0, .inr (8, [.ref rp, .int 0, .ref rt, .ref rc, .int ((-1)), .ref r1, .ref r2, .ref r3, .ref r4, .null, .int 0]))] [] sz tp te)) (va_Qi (fun (r : Int32) (_ : Unit) => False) (fun (_ : Unit) (_ : State) => True) (va_A [(h0, .inr (8, [.ref rp, .int 0, .ref rt, .ref rc, .int ((-1)), .ref r1, .ref r2, .ref r3, .ref r4, .null, .int 0]))] sz)) (vx_X (fun (_ : Unit) => True) (fun (E : String) (_ : Unit) (_ : State) => E = "java/lang/IllegalStateException") (va_A [(h0, .inr (8, [.ref rp, .int 0, .ref rt, .ref rc, .int ((-1)), .ref r1, .ref r2, .ref r3, .ref r4, .null, .int 0]))] sz)) 1 6 (va_A [(h0, .inr (8, [.ref rp, .int 0, .ref rt, .ref rc, .int ((-1)), .ref r1, .ref r2, .ref r3, .ref r4, .null, .int 0]))] sz) := by
  refine vx_ofW (cc := cX7_half) (maxL := 2) (ret := (some .int)) (by decide) rfl ?_
  intro p e s m args below meth c s₁ B hml htab hv
  obtain ⟨rfl, hsz, hP, hK, hD0, hG⟩ := hv
  have hx := B.exec
  have hb := B.bytes
  have hr := B.returns
  have hts := atoms_spec (ws := z_X_half) B.pre
  have hown : s.vm.findClass RX7 = some m.cls := findClass_of_methodNamed B.named
  have hlocks := B.notSynchronized
  subst hsz
  have hD := hD0.self (sz := s.heap.size)
  generalize hAe : va_A [(h0, .inr (8, [.ref rp, .int 0, .ref rt, .ref rc, .int ((-1)), .ref r1, .ref r2, .ref r3, .ref r4, .null, .int 0]))] s.heap.size = A at hD hG ⊢
  have hA : ∀ q : Nat, s.heap.size ≤ q → A q := fun q h => by rw [← hAe]; exact Or.inr h
  have hS : va_S A s.heap s.heap [] := va_S.rf
  have hl := lv_entry ([.ref h0, .int p0]) (n := 2) (Nat.le_of_ble_eq_true rfl)
  rw [lg_entry_eq]
  generalize (lg_sl ([.ref h0, .int p0]) ++ List.replicate (2 - (lg_sl ([.ref h0, .int p0])).length) Slot.unset).toArray = ls at hl ⊢
  have hl : lv_has ls 2 [(0, .ref h0), (1, .int p0)] := hl
  refine lv_aload_n hx hb dX7_half_0 rfl (lv_at hl 0 rfl) ?_
  refine lv_bipush (v := 9) hx hb dX7_half_1 (by decide) ?_
  refine lv_iconst (v := (-1)) hx hb dX7_half_3 (by decide) ?_
  refine lv_iload_n hx hb dX7_half_4 rfl (lv_at hl 1 rfl) ?_
  refine lv_if_eq (tgt := 12) hx hb dX7_half_5 (by decide) (fun c_1 => ?_) (fun c_1 => ?_)
  · skip
    refine lv_iconst (v := 0) hx hb dX7_half_12 (by decide) ?_
    have hPc := hP.sub (ws' := [(h0, .inr (8, [.ref rp, .int 0, .ref rt, .ref rc, .int ((-1)), .ref r1, .ref r2, .ref r3, .ref r4, .null, .int 0]))]) [0] rfl
    have hDc := hD.sub (ws' := [(h0, .inr (8, [.ref rp, .int 0, .ref rt, .ref rc, .int ((-1)), .ref r1, .ref r2, .ref r3, .ref r4, .null, .int 0]))]) [0] (by decide) rfl
    have hKc := hK.sub (tys' := []) [] rfl
    have hFc := va_free (wc := [(h0, .inr (8, [.ref rp, .int 0, .ref rt, .ref rc, .int ((-1)), .ref r1, .ref r2, .ref r3, .ref r4, .null, .int 0]))]) hD hS hA [0] rfl
    refine vx_calli (vx_runV (As := [.int 9, .int ((-1)), .int 0]) (rest := []) ⟨hx, hb, hml, hown, hts⟩ (c_jn9 l dC dI tp te s.heap.size hlt h0 rp rt rc r1 r2 r3 r4 (-1) 0) (cwV 3 hts g_X_half_13 rfl rfl rfl (by decide +kernel) ⟨Nat.le_of_ble_eq_true rfl, Nat.le_of_ble_eq_true rfl⟩) ⟨Pw.blind, va_recv hKc hPc (ci := 8) (q0 := 0) rfl rfl, Pw.mk hPc hKc hDc hG hS hFc⟩ rfl rfl hl.1 rfl (lv_room (Nat.le_of_ble_eq_true rfl)) dX7_half_13 ⟨Nat.le_of_ble_eq_true rfl, Nat.le_of_ble_eq_true rfl⟩) hS (fun q _ h => hFc q h) hFc (fun q _ h => hFc q h) (fun E ce q9 u t9 H1 locs ht hvm hpx hBX hz1 hk1 hS hce hcv hcl => ?_) (fun r u t9 H_2 locs ht hvm hw hB hz1 hk1 hS => hw.elim)
    have hBX : E = "java/lang/IllegalStateException" := hBX
    subst hBX
    exact vx_out (fun x9 h9 => (htab x9 h9).elim) hlocks hce hcv hcl (fun t9 ht9 _ => ⟨(), trivial, rfl, hS.F ht9⟩) hS.2.2 (Nat.le_of_ble_eq_true rfl) (Nat.le_of_ble_eq_true rfl)
  · skip
    refine lv_iconst (v := 1) hx hb dX7_half_8 (by decide) ?_
    refine lv_goto (tgt := 13) hx hb dX7_half_9 (by decide) ?_
    have hPc := hP.sub (ws' := [(h0, .inr (8, [.ref rp, .int 0, .ref rt, .ref rc, .int ((-1)), .ref r1, .ref r2, .ref r3, .ref r4, .null, .int 0]))]) [0] rfl
    have hDc := hD.sub (ws' := [(h0, .inr (8, [.ref rp, .int 0, .ref rt, .ref rc, .int ((-1)), .ref r1, .ref r2, .ref r3, .ref r4, .null, .int 0]))]) [0] (by decide) rfl
    have hKc := hK.sub (tys' := []) [] rfl
    have hFc := va_free (wc := [(h0, .inr (8, [.ref rp, .int 0, .ref rt, .ref rc, .int ((-1)), .ref r1, .ref r2, .ref r3, .ref r4, .null, .int 0]))]) hD hS hA [0] rfl
    refine vx_calli (vx_runV (As := [.int 9, .int ((-1)), .int 1]) (rest := []) ⟨hx, hb, hml, hown, hts⟩ (c_jn9 l dC dI tp te s.heap.size hlt h0 rp rt rc r1 r2 r3 r4 (-1) 1) (cwV 3 hts g_X_half_13 rfl rfl rfl (by decide +kernel) ⟨Nat.le_of_ble_eq_true rfl, Nat.le_of_ble_eq_true rfl⟩) ⟨Pw.blind, va_recv hKc hPc (ci := 8) (q0 := 0) rfl rfl, Pw.mk hPc hKc hDc hG hS hFc⟩ rfl rfl hl.1 rfl (lv_room (Nat.le_of_ble_eq_true rfl)) dX7_half_13 ⟨Nat.le_of_ble_eq_true rfl, Nat.le_of_ble_eq_true rfl⟩) hS (fun q _ h => hFc q h) hFc (fun q _ h => hFc q h) (fun E ce q9 u t9 H1 locs ht hvm hpx hBX hz1 hk1 hS hce hcv hcl => ?_) (fun r u t9 H_4 locs ht hvm hw hB hz1 hk1 hS => hw.elim)
    have hBX : E = "java/lang/IllegalStateException" := hBX
    subst hBX
    exact vx_out (fun x9 h9 => (htab x9 h9).elim) hlocks hce hcv hcl (fun t9 ht9 _ => ⟨(), trivial, rfl, hS.F ht9⟩) hS.2.2 (Nat.le_of_ble_eq_true rfl) (Nat.le_of_ble_eq_true rfl)

set_option maxRecDepth 20000 in
def z_cPr : List Cond := .code yX7_checkProgram cX7_checkProgram 1 none :: (([.fieldLink RX7 24 "Selfkindle" "wrong" "I", .classLink RX7 75 "java/lang/IllegalStateException", .initialized "java/lang/IllegalStateException"] : List Cond) ++ wsX70 ++ (vx_at0 RX7 77 "java/lang/IllegalStateException" ["java/lang/RuntimeException", "java/lang/Exception"]).filter goodWord)
theorem in_z_cPr_X7 : ∀ w ∈ wsX70, w ∈ z_cPr := fun w h => List.mem_cons_of_mem _ (List.mem_append_left _ (List.mem_append_right _ (h)))
set_option maxHeartbeats 4000000 in
set_option maxRecDepth 100000 in
theorem c_cPr (l : Launch) (dC : Nat → ClassId) (dI : Nat → Nat → Nat) (tp te : Nat) (sz : Nat) (hlt : l.stackTraces = false) (h0 : Nat) (rp : Nat) (rt : Nat) (rc : Nat) (r1 : Nat) (r2 : Nat) (r3 : Nat) (r4 : Nat)  : vx_Met l yX7_checkProgram z_cPr ({ frames := 6, cells := 1, slots := 6, locals := 81 }) (va_Pc [.ref h0] (Pw dC dI [(h0, .inr (8, [.ref rp, .int 0, .ref rt, .ref rc, .int ((-1)), .ref r1, .ref r2, .ref r3, .ref r4, .null, .int 0]))] [] sz tp te)) (va_Qv (fun (_ : Unit) => False) (fun (_ : Unit) (_ : State) => True) (va_A [(h0, .inr (8, [.ref rp, .int 0, .ref rt, .ref rc, .int ((-1)), .ref r1, .ref r2, .ref r3, .ref r4, .null, .int 0]))] sz)) (vx_X (fun (_ : Unit) => True) (fun (E : String) (_ : Unit) (_ : State) => E = "java/lang/IllegalStateException") (va_A [(h0, .inr (8, [.ref rp, .int 0, .ref rt, .ref rc, .int ((-1)), .ref r1, .ref r2, .ref r3, .ref r4, .null, .int 0]))] sz)) 1 6 (va_A [(h0, .inr (8, [.ref rp, .int 0, .ref rt, .ref rc, .int ((-1)), .ref r1, .ref r2, .ref r3, .ref r4, .null, .int 0]))] sz) := by
  refine vx_ofW (cc := cX7_checkProgram) (maxL := 1) (ret := none) (by decide) rfl ?_
  intro p e s m args below meth c s₁ B hml htab hv
  obtain ⟨rfl, hsz, hP, hK, hD0, hG⟩ := hv
  have hx := B.exec
  have hb := B.bytes
  have hr := B.returns
  have hts := atoms_spec (ws := z_cPr) B.pre
  have hown : s.vm.findClass RX7 = some m.cls := findClass_of_methodNamed B.named
  have hlocks := B.notSynchronized
  subst hsz
  have hD := hD0.self (sz := s.heap.size)
  generalize hAe : va_A [(h0, .inr (8, [.ref rp, .int 0, .ref rt, .ref rc, .int ((-1)), .ref r1, .ref r2, .ref r3, .ref r4, .null, .int 0]))] s.heap.size = A at hD hG ⊢
  have hA : ∀ q : Nat, s.heap.size ≤ q → A q := fun q h => by rw [← hAe]; exact Or.inr h
  have hS : va_S A s.heap s.heap [] := va_S.rf
  have hl := lv_entry ([.ref h0]) (n := 1) (Nat.le_of_ble_eq_true rfl)
  rw [lg_entry_eq]
  generalize (lg_sl ([.ref h0]) ++ List.replicate (1 - (lg_sl ([.ref h0])).length) Slot.unset).toArray = ls at hl ⊢
  have hl : lv_has ls 1 [(0, .ref h0)] := hl
  refine lv_aload_n hx hb dX7_checkProgram_0 rfl (lv_at hl 0 rfl) ?_
  refine va_get (D := (dC, dI)) (ci := 8) (v := .int ((-1))) (C := RX7) (T := TX7) (N := 11) hx hb hts in_z_cPr_X7 hown hK hP 0 rfl rfl 4 (by decide) (hts (.fieldLink RX7 24 "Selfkindle" "wrong" "I") (List.mem_of_getElem? (i := 1) rfl)) (fun _ h9 => h9) rfl dX7_checkProgram_1 ?_
  refine lv_if_eq (tgt := 15) hx hb dX7_checkProgram_4 (by decide) (fun c9 => absurd c9 (by decide)) (fun c9 => ?_)
  exact vx_throw0 (A := A) (own := RX7) (cls := "java/lang/IllegalStateException") (names := ["java/lang/RuntimeException", "java/lang/Exception"]) (ik := 75) (ic := 77) hx hb hlt hown (by decide +kernel) (by decide +kernel) (hts (.classLink RX7 75 "java/lang/IllegalStateException") (List.mem_of_getElem? (i := 2) rfl)) (hts (.initialized "java/lang/IllegalStateException") (List.mem_of_getElem? (i := 3) rfl)) (vx_hat (B := [.castable "java/lang/IllegalStateException" "java/lang/IllegalStateException", .declares (Bundle.init0 "java/lang/RuntimeException"), .declares (Bundle.init0 "java/lang/Exception"), .declares (Bundle.init0 "java/lang/Throwable")]) (fun w9 h9 => hts w9 (List.mem_cons_of_mem _ (List.mem_append_right _ (h9)))) (by decide +kernel) (vx_c (va_Nw.use rfl hG.2.2.2.2.2.2.1) (vx_c (va_Nw.use rfl hG.2.2.2.2.2.2.2.2.2.2.2.2.2.2.1) (vx_c (va_Nw.use rfl hG.2.2.2.2.2.2.2.2.2.2.2.2.2.2.2.1) (vx_c (va_Nw.use rfl hG.2.2.2.2.2.2.2.2.2.2.2.2.2.2.2.2) vx_n))))) (by decide +kernel) hG.2.2.2.2.1 hG.2.2.2.2.2.1 hS (by rw [hml]; exact hl.1) dX7_checkProgram_7 dX7_checkProgram_10 dX7_checkProgram_11 dX7_checkProgram_14 (fun x9 h9 => (htab x9 h9).elim) (Nat.le_of_ble_eq_true rfl) (Nat.le_of_ble_eq_true rfl) (Nat.le_of_ble_eq_true rfl) (Nat.le_of_ble_eq_true rfl) hlocks (fun t9 _ hz9 hk9 => ⟨(), trivial, rfl, ⟨Nat.le_trans hS.1 hz9, fun q h1 h2 => (hk9 q (Nat.lt_of_lt_of_le h1 hS.1)).trans (hS.2.1 q h1 h2)⟩⟩) hS.2.2 (Nat.le_of_ble_eq_true rfl) (Nat.le_of_ble_eq_true rfl)

set_option maxRecDepth 20000 in
def z_cOr : List Cond := .code yX7_checkOrder cX7_checkOrder 2 none :: (([.fieldLink RX7 24 "Selfkindle" "wrong" "I", .classLink RX7 107 "java/lang/IndexOutOfBoundsException", .initialized "java/lang/IndexOutOfBoundsException"] : List Cond) ++ wsX70 ++ (vx_at0 RX7 109 "java/lang/IndexOutOfBoundsException" ["java/lang/RuntimeException", "java/lang/Exception"]).filter goodWord)
theorem in_z_cOr_X7 : ∀ w ∈ wsX70, w ∈ z_cOr := fun w h => List.mem_cons_of_mem _ (List.mem_append_left _ (List.mem_append_right _ (h)))
set_option maxHeartbeats 4000000 in
set_option maxRecDepth 100000 in
theorem c_cOr (l : Launch) (dC : Nat → ClassId) (dI : Nat → Nat → Nat) (tp te : Nat) (sz : Nat) (hlt : l.stackTraces = false) (h0 : Nat) (rp : Nat) (rt : Nat) (rc : Nat) (r1 : Nat) (r2 : Nat) (r3 : Nat) (r4 : Nat) (p0 : Int32)  : vx_Met l yX7_checkOrder z_cOr ({ frames := 6, cells := 1, slots := 6, locals := 81 }) (va_Pc [.ref h0, .int p0] (Pw dC dI [(h0, .inr (8, [.ref rp, .int 0, .ref rt, .ref rc, .int ((-1)), .ref r1, .ref r2, .ref r3, .ref r4, .null, .int 0]))] [] sz tp te)) (va_Qv (fun (_ : Unit) => False) (fun (_ : Unit) (_ : State) => True) (va_A [(h0, .inr (8, [.ref rp, .int 0, .ref rt, .ref rc, .int ((-1)), .ref r1, .ref r2, .ref r3, .ref r4, .null, .int 0]))] sz)) (vx_X (fun (_ : Unit) => True) (fun (E : String) (_ : Unit) (_ : State) => E = "java/lang/IndexOutOfBoundsException") (va_A [(h0, .inr (8, [.ref rp, .int 0, .ref rt, .ref rc, .int ((-1)), .ref r1, .ref r2, .ref r3, .ref r4, .null, .int 0]))] sz)) 1 6 (va_A [(h0, .inr (8, [.ref rp, .int 0, .ref rt, .ref rc, .int ((-1)), .ref r1, .ref r2, .ref r3, .ref r4, .null, .int 0]))] sz) := by
  refine vx_ofW (cc := cX7_checkOrder) (maxL := 2) (ret := none) (by decide) rfl ?_
  intro p e s m args below meth c s₁ B hml htab hv
  obtain ⟨rfl, hsz, hP, hK, hD0, hG⟩ := hv
  have hx := B.exec
  have hb := B.bytes
  have hr := B.returns
  have hts := atoms_spec (ws := z_cOr) B.pre
  have hown : s.vm.findClass RX7 = some m.cls := findClass_of_methodNamed B.named
  have hlocks := B.notSynchronized
  subst hsz
  have hD := hD0.self (sz := s.heap.size)
  generalize hAe : va_A [(h0, .inr (8, [.ref rp, .int 0, .ref rt, .ref rc, .int ((-1)), .ref r1, .ref r2, .ref r3, .ref r4, .null, .int 0]))] s.heap.size = A at hD hG ⊢
  have hA : ∀ q : Nat, s.heap.size ≤ q → A q := fun q h => by rw [← hAe]; exact Or.inr h
  have hS : va_S A s.heap s.heap [] := va_S.rf
  have hl := lv_entry ([.ref h0, .int p0]) (n := 2) (Nat.le_of_ble_eq_true rfl)
  rw [lg_entry_eq]
  generalize (lg_sl ([.ref h0, .int p0]) ++ List.replicate (2 - (lg_sl ([.ref h0, .int p0])).length) Slot.unset).toArray = ls at hl ⊢
  have hl : lv_has ls 2 [(0, .ref h0), (1, .int p0)] := hl
  refine lv_aload_n hx hb dX7_checkOrder_0 rfl (lv_at hl 0 rfl) ?_
  refine va_get (D := (dC, dI)) (ci := 8) (v := .int ((-1))) (C := RX7) (T := TX7) (N := 11) hx hb hts in_z_cOr_X7 hown hK hP 0 rfl rfl 4 (by decide) (hts (.fieldLink RX7 24 "Selfkindle" "wrong" "I") (List.mem_of_getElem? (i := 1) rfl)) (fun _ h9 => h9) rfl dX7_checkOrder_1 ?_
  refine lv_if_ne (tgt := 22) hx hb dX7_checkOrder_4 (by decide) (fun c9 => ?_) (fun c9 => absurd c9 (by decide))
  exact vx_throw0 (A := A) (own := RX7) (cls := "java/lang/IndexOutOfBoundsException") (names := ["java/lang/RuntimeException", "java/lang/Exception"]) (ik := 107) (ic := 109) hx hb hlt hown (by decide +kernel) (by decide +kernel) (hts (.classLink RX7 107 "java/lang/IndexOutOfBoundsException") (List.mem_of_getElem? (i := 2) rfl)) (hts (.initialized "java/lang/IndexOutOfBoundsException") (List.mem_of_getElem? (i := 3) rfl)) (vx_hat (B := [.castable "java/lang/IndexOutOfBoundsException" "java/lang/IndexOutOfBoundsException", .declares (Bundle.init0 "java/lang/RuntimeException"), .declares (Bundle.init0 "java/lang/Exception"), .declares (Bundle.init0 "java/lang/Throwable")]) (fun w9 h9 => hts w9 (List.mem_cons_of_mem _ (List.mem_append_right _ (h9)))) (by decide +kernel) (vx_c (va_Nw.use rfl hG.2.2.2.2.2.2.2.1) (vx_c (va_Nw.use rfl hG.2.2.2.2.2.2.2.2.2.2.2.2.2.2.1) (vx_c (va_Nw.use rfl hG.2.2.2.2.2.2.2.2.2.2.2.2.2.2.2.1) (vx_c (va_Nw.use rfl hG.2.2.2.2.2.2.2.2.2.2.2.2.2.2.2.2) vx_n))))) (by decide +kernel) hG.2.2.2.2.1 hG.2.2.2.2.2.1 hS (by rw [hml]; exact hl.1) dX7_checkOrder_22 dX7_checkOrder_25 dX7_checkOrder_26 dX7_checkOrder_29 (fun x9 h9 => (htab x9 h9).elim) (Nat.le_of_ble_eq_true rfl) (Nat.le_of_ble_eq_true rfl) (Nat.le_of_ble_eq_true rfl) (Nat.le_of_ble_eq_true rfl) hlocks (fun t9 _ hz9 hk9 => ⟨(), trivial, rfl, ⟨Nat.le_trans hS.1 hz9, fun q h1 h2 => (hk9 q (Nat.lt_of_lt_of_le h1 hS.1)).trans (hS.2.1 q h1 h2)⟩⟩) hS.2.2 (Nat.le_of_ble_eq_true rfl) (Nat.le_of_ble_eq_true rfl)

set_option maxRecDepth 20000 in
def z_X_type_neg : List Cond := .code yX7_type cX7_type 2 (some .int) :: (([.classLink RX7 107 "java/lang/IndexOutOfBoundsException", .initialized "java/lang/IndexOutOfBoundsException"] : List Cond) ++ (vx_at0 RX7 109 "java/lang/IndexOutOfBoundsException" ["java/lang/RuntimeException", "java/lang/Exception"]).filter goodWord)
set_option maxHeartbeats 4000000 in
set_option maxRecDepth 100000 in
theorem c_X_type_neg (l : Launch) (dC : Nat → ClassId) (dI : Nat → Nat → Nat) (tp te : Nat) (sz : Nat) (hlt : l.stackTraces = false) (h0 : Nat) (rp : Nat) (rt : Nat) (rc : Nat) (r1 : Nat) (r2 : Nat) (r3 : Nat) (r4 : Nat) (p0 : Int32) (hv0 : ¬ 0 ≤ p0) : vx_Met l yX7_type z_X_type_neg ({ frames := 6, cells := 1, slots := 6, locals := 81 }) (va_Pc [.ref h0, .int p0] (Pw dC dI [(h0, .inr (8, [.ref rp, .int 0, .ref rt, .ref rc, .int ((-1)), .ref r1, .ref r2, .ref r3, .ref r4, .null, .int 0]))] [] sz tp te)) (va_Qi (fun (r : Int32) (_ : Unit) => False) (fun (_ : Unit) (_ : State) => True) (va_A [(h0, .inr (8, [.ref rp, .int 0, .ref rt, .ref rc, .int ((-1)), .ref r1, .ref r2, .ref r3, .ref r4, .null, .int 0]))] sz)) (vx_X (fun (_ : Unit) => True) (fun (E : String) (_ : Unit) (_ : State) => E = "java/lang/IndexOutOfBoundsException") (va_A [(h0, .inr (8, [.ref rp, .int 0, .ref rt, .ref rc, .int ((-1)), .ref r1, .ref r2, .ref r3, .ref r4, .null, .int 0]))] sz)) 1 6 (va_A [(h0, .inr (8, [.ref rp, .int 0, .ref rt, .ref rc, .int ((-1)), .ref r1, .ref r2, .ref r3, .ref r4, .null, .int 0]))] sz) := by
  refine vx_ofW (cc := cX7_type) (maxL := 2) (ret := (some .int)) (by decide) rfl ?_
  intro p e s m args below meth c s₁ B hml htab hv
  obtain ⟨rfl, hsz, hP, hK, hD0, hG⟩ := hv
  have hx := B.exec
  have hb := B.bytes
  have hr := B.returns
  have hts := atoms_spec (ws := z_X_type_neg) B.pre
  have hown : s.vm.findClass RX7 = some m.cls := findClass_of_methodNamed B.named
  have hlocks := B.notSynchronized
  subst hsz
  have hD := hD0.self (sz := s.heap.size)
  generalize hAe : va_A [(h0, .inr (8, [.ref rp, .int 0, .ref rt, .ref rc, .int ((-1)), .ref r1, .ref r2, .ref r3, .ref r4, .null, .int 0]))] s.heap.size = A at hD hG ⊢
  have hA : ∀ q : Nat, s.heap.size ≤ q → A q := fun q h => by rw [← hAe]; exact Or.inr h
  have hS : va_S A s.heap s.heap [] := va_S.rf
  have hl := lv_entry ([.ref h0, .int p0]) (n := 2) (Nat.le_of_ble_eq_true rfl)
  rw [lg_entry_eq]
  generalize (lg_sl ([.ref h0, .int p0]) ++ List.replicate (2 - (lg_sl ([.ref h0, .int p0])).length) Slot.unset).toArray = ls at hl ⊢
  have hl : lv_has ls 2 [(0, .ref h0), (1, .int p0)] := hl
  refine lv_iload_n hx hb dX7_type_0 rfl (lv_at hl 1 rfl) ?_
  refine lv_if_ge (tgt := 12) hx hb dX7_type_1 (by decide) (fun c9 => absurd c9 hv0) (fun c9 => ?_)
  exact vx_throw0 (A := A) (own := RX7) (cls := "java/lang/IndexOutOfBoundsException") (names := ["java/lang/RuntimeException", "java/lang/Exception"]) (ik := 107) (ic := 109) hx hb hlt hown (by decide +kernel) (by decide +kernel) (hts (.classLink RX7 107 "java/lang/IndexOutOfBoundsException") (List.mem_of_getElem? (i := 1) rfl)) (hts (.initialized "java/lang/IndexOutOfBoundsException") (List.mem_of_getElem? (i := 2) rfl)) (vx_hat (B := [.castable "java/lang/IndexOutOfBoundsException" "java/lang/IndexOutOfBoundsException", .declares (Bundle.init0 "java/lang/RuntimeException"), .declares (Bundle.init0 "java/lang/Exception"), .declares (Bundle.init0 "java/lang/Throwable")]) (fun w9 h9 => hts w9 (List.mem_cons_of_mem _ (List.mem_append_right _ (h9)))) (by decide +kernel) (vx_c (va_Nw.use rfl hG.2.2.2.2.2.2.2.1) (vx_c (va_Nw.use rfl hG.2.2.2.2.2.2.2.2.2.2.2.2.2.2.1) (vx_c (va_Nw.use rfl hG.2.2.2.2.2.2.2.2.2.2.2.2.2.2.2.1) (vx_c (va_Nw.use rfl hG.2.2.2.2.2.2.2.2.2.2.2.2.2.2.2.2) vx_n))))) (by decide +kernel) hG.2.2.2.2.1 hG.2.2.2.2.2.1 hS (by rw [hml]; exact hl.1) dX7_type_4 dX7_type_7 dX7_type_8 dX7_type_11 (fun x9 h9 => (htab x9 h9).elim) (Nat.le_of_ble_eq_true rfl) (Nat.le_of_ble_eq_true rfl) (Nat.le_of_ble_eq_true rfl) (Nat.le_of_ble_eq_true rfl) hlocks (fun t9 _ hz9 hk9 => ⟨(), trivial, rfl, ⟨Nat.le_trans hS.1 hz9, fun q h1 h2 => (hk9 q (Nat.lt_of_lt_of_le h1 hS.1)).trans (hS.2.1 q h1 h2)⟩⟩) hS.2.2 (Nat.le_of_ble_eq_true rfl) (Nat.le_of_ble_eq_true rfl)

set_option maxRecDepth 20000 in
def z_X_type_ok : List Cond := .code yX7_type cX7_type 2 (some .int) :: (([.methodLink RX7 110 yX7_checkProgram, .instanceMethod yX7_checkProgram, .selects RX7 yX7_checkProgram yX7_checkProgram, .initialized RX7, .code yX7_checkProgram cX7_checkProgram 1 none, .fieldLink RX7 24 "Selfkindle" "wrong" "I", .classLink RX7 75 "java/lang/IllegalStateException", .initialized "java/lang/IllegalStateException"] : List Cond) ++ wsX70 ++ (vx_at0 RX7 77 "java/lang/IllegalStateException" ["java/lang/RuntimeException", "java/lang/Exception"]).filter goodWord)
theorem in_z_X_type_ok_X7 : ∀ w ∈ wsX70, w ∈ z_X_type_ok := fun w h => List.mem_cons_of_mem _ (List.mem_append_left _ (List.mem_append_right _ (h)))
set_option maxRecDepth 20000 in
theorem gg_X_type_ok_13 : GoodIn z_X_type_ok z_cPr := goodIn_ca (goodIn_p _ [5] rfl (by decide +kernel)) (goodIn_sub (fun _ h => List.mem_cons_of_mem _ (List.mem_append_right _ (h))) (by decide +kernel))
set_option maxRecDepth 20000 in
theorem g_X_type_ok_13 : GoodIn z_X_type_ok (wsV RX7 110 RX7 yX7_checkProgram z_cPr) := goodIn_app (goodIn_of _ (by decide +kernel)) gg_X_type_ok_13
set_option maxHeartbeats 4000000 in
set_option maxRecDepth 100000 in
theorem c_X_type_ok (l : Launch) (dC : Nat → ClassId) (dI : Nat → Nat → Nat) (tp te : Nat) (sz : Nat) (hlt : l.stackTraces = false) (h0 : Nat) (rp : Nat) (rt : Nat) (rc : Nat) (r1 : Nat) (r2 : Nat) (r3 : Nat) (r4 : Nat) (p0 : Int32) (hv0 : 0 ≤ p0) : vx_Met l yX7_type z_X_type_ok ({ frames := 7, cells := 1, slots := 6, locals := 101 }) (va_Pc [.ref h0, .int p0] (Pw dC dI [(h0, .inr (8, [.ref rp, .int 0, .ref rt, .ref rc, .int ((-1)), .ref r1, .ref r2, .ref r3, .ref r4, .null, .int 0]))] [] sz tp te)) (va_Qi (fun (r : Int32) (_ : Unit) => False) (fun (_ : Unit) (_ : State) => True) (va_A [(h0, .inr (8, [.ref rp, .int 0, .ref rt, .ref rc, .int ((-1)), .ref r1, .ref r2, .ref r3, .ref r4, .null, .int 0]))] sz)) (vx_X (fun (_ : Unit) => True) (fun (E : String) (_ : Unit) (_ : State) => E = "java/lang/IllegalStateException") (va_A [(h0, .inr (8, [.ref rp, .int 0, .ref rt, .ref rc, .int ((-1)), .ref r1, .ref r2, .ref r3, .ref r4, .null, .int 0]))] sz)) 1 6 (va_A [(h0, .inr (8, [.ref rp, .int 0, .ref rt, .ref rc, .int ((-1)), .ref r1, .ref r2, .ref r3, .ref r4, .null, .int 0]))] sz) := by
  refine vx_ofW (cc := cX7_type) (maxL := 2) (ret := (some .int)) (by decide) rfl ?_
  intro p e s m args below meth c s₁ B hml htab hv
  obtain ⟨rfl, hsz, hP, hK, hD0, hG⟩ := hv
  have hx := B.exec
  have hb := B.bytes
  have hr := B.returns
  have hts := atoms_spec (ws := z_X_type_ok) B.pre
  have hown : s.vm.findClass RX7 = some m.cls := findClass_of_methodNamed B.named
  have hlocks := B.notSynchronized
  subst hsz
  have hD := hD0.self (sz := s.heap.size)
  generalize hAe : va_A [(h0, .inr (8, [.ref rp, .int 0, .ref rt, .ref rc, .int ((-1)), .ref r1, .ref r2, .ref r3, .ref r4, .null, .int 0]))] s.heap.size = A at hD hG ⊢
  have hA : ∀ q : Nat, s.heap.size ≤ q → A q := fun q h => by rw [← hAe]; exact Or.inr h
  have hS : va_S A s.heap s.heap [] := va_S.rf
  have hl := lv_entry ([.ref h0, .int p0]) (n := 2) (Nat.le_of_ble_eq_true rfl)
  rw [lg_entry_eq]
  generalize (lg_sl ([.ref h0, .int p0]) ++ List.replicate (2 - (lg_sl ([.ref h0, .int p0])).length) Slot.unset).toArray = ls at hl ⊢
  have hl : lv_has ls 2 [(0, .ref h0), (1, .int p0)] := hl
  refine lv_iload_n hx hb dX7_type_0 rfl (lv_at hl 1 rfl) ?_
  refine lv_if_ge (tgt := 12) hx hb dX7_type_1 (by decide) (fun c9 => ?_) (fun c9 => absurd hv0 c9)
  refine lv_aload_n hx hb dX7_type_12 rfl (lv_at hl 0 rfl) ?_
  have hPc := hP.sub (ws' := [(h0, .inr (8, [.ref rp, .int 0, .ref rt, .ref rc, .int ((-1)), .ref r1, .ref r2, .ref r3, .ref r4, .null, .int 0]))]) [0] rfl
  have hDc := hD.sub (ws' := [(h0, .inr (8, [.ref rp, .int 0, .ref rt, .ref rc, .int ((-1)), .ref r1, .ref r2, .ref r3, .ref r4, .null, .int 0]))]) [0] (by decide) rfl
  have hKc := hK.sub (tys' := []) [] rfl
  have hFc := va_free (wc := [(h0, .inr (8, [.ref rp, .int 0, .ref rt, .ref rc, .int ((-1)), .ref r1, .ref r2, .ref r3, .ref r4, .null, .int 0]))]) hD hS hA [0] rfl
  refine vx_callv (vx_runV (As := []) (rest := []) ⟨hx, hb, hml, hown, hts⟩ (c_cPr l dC dI tp te s.heap.size hlt h0 rp rt rc r1 r2 r3 r4) (cwV 0 hts g_X_type_ok_13 rfl rfl rfl (by decide +kernel) ⟨Nat.le_of_ble_eq_true rfl, Nat.le_of_ble_eq_true rfl⟩) ⟨Pw.blind, va_recv hKc hPc (ci := 8) (q0 := 0) rfl rfl, Pw.mk hPc hKc hDc hG hS hFc⟩ rfl rfl hl.1 rfl (lv_room (Nat.le_of_ble_eq_true rfl)) dX7_type_13 ⟨Nat.le_of_ble_eq_true rfl, Nat.le_of_ble_eq_true rfl⟩) hS (fun q _ h => hFc q h) hFc (fun q _ h => hFc q h) (fun E ce q9 u t9 H1 locs ht hvm hpx hBX hz1 hk1 hS hce hcv hcl => ?_) (fun u t9 H_1 locs ht hvm hw hB hz1 hk1 hS => hw.elim)
  have hBX : E = "java/lang/IllegalStateException" := hBX
  subst hBX
  exact vx_out (fun x9 h9 => (htab x9 h9).elim) hlocks hce hcv hcl (fun t9 ht9 _ => ⟨(), trivial, rfl, hS.F ht9⟩) hS.2.2 (Nat.le_of_ble_eq_true rfl) (Nat.le_of_ble_eq_true rfl)

set_option maxRecDepth 20000 in
def z_X_optimise_neg : List Cond := .code yX7_optimise cX7_optimise 4 (some .int) :: (([.classLink RX7 69 "java/lang/IllegalArgumentException", .initialized "java/lang/IllegalArgumentException"] : List Cond) ++ (vx_at0 RX7 71 "java/lang/IllegalArgumentException" ["java/lang/RuntimeException", "java/lang/Exception"]).filter goodWord)
set_option maxHeartbeats 4000000 in
set_option maxRecDepth 100000 in
theorem c_X_optimise_neg (l : Launch) (dC : Nat → ClassId) (dI : Nat → Nat → Nat) (tp te : Nat) (sz : Nat) (hlt : l.stackTraces = false) (h0 : Nat) (rp : Nat) (rt : Nat) (rc : Nat) (r1 : Nat) (r2 : Nat) (r3 : Nat) (r4 : Nat) (p0 : Int32) (hv0 : p0 < 0) : vx_Met l yX7_optimise z_X_optimise_neg ({ frames := 6, cells := 1, slots := 6, locals := 81 }) (va_Pc [.ref h0, .int p0] (Pw dC dI [(h0, .inr (8, [.ref rp, .int 0, .ref rt, .ref rc, .int ((-1)), .ref r1, .ref r2, .ref r3, .ref r4, .null, .int 0]))] [] sz tp te)) (va_Qi (fun (r : Int32) (_ : Unit) => False) (fun (_ : Unit) (_ : State) => True) (va_A [(h0, .inr (8, [.ref rp, .int 0, .ref rt, .ref rc, .int ((-1)), .ref r1, .ref r2, .ref r3, .ref r4, .null, .int 0]))] sz)) (vx_X (fun (_ : Unit) => True) (fun (E : String) (_ : Unit) (_ : State) => E = "java/lang/IllegalArgumentException") (va_A [(h0, .inr (8, [.ref rp, .int 0, .ref rt, .ref rc, .int ((-1)), .ref r1, .ref r2, .ref r3, .ref r4, .null, .int 0]))] sz)) 1 6 (va_A [(h0, .inr (8, [.ref rp, .int 0, .ref rt, .ref rc, .int ((-1)), .ref r1, .ref r2, .ref r3, .ref r4, .null, .int 0]))] sz) := by
  refine vx_ofW (cc := cX7_optimise) (maxL := 4) (ret := (some .int)) (by decide) rfl ?_
  intro p e s m args below meth c s₁ B hml htab hv
  obtain ⟨rfl, hsz, hP, hK, hD0, hG⟩ := hv
  have hx := B.exec
  have hb := B.bytes
  have hr := B.returns
  have hts := atoms_spec (ws := z_X_optimise_neg) B.pre
  have hown : s.vm.findClass RX7 = some m.cls := findClass_of_methodNamed B.named
  have hlocks := B.notSynchronized
  subst hsz
  have hD := hD0.self (sz := s.heap.size)
  generalize hAe : va_A [(h0, .inr (8, [.ref rp, .int 0, .ref rt, .ref rc, .int ((-1)), .ref r1, .ref r2, .ref r3, .ref r4, .null, .int 0]))] s.heap.size = A at hD hG ⊢
  have hA : ∀ q : Nat, s.heap.size ≤ q → A q := fun q h => by rw [← hAe]; exact Or.inr h
  have hS : va_S A s.heap s.heap [] := va_S.rf
  have hl := lv_entry ([.ref h0, .int p0]) (n := 4) (Nat.le_of_ble_eq_true rfl)
  rw [lg_entry_eq]
  generalize (lg_sl ([.ref h0, .int p0]) ++ List.replicate (4 - (lg_sl ([.ref h0, .int p0])).length) Slot.unset).toArray = ls at hl ⊢
  have hl : lv_has ls 4 [(0, .ref h0), (1, .int p0)] := hl
  refine lv_iload_n hx hb dX7_optimise_0 rfl (lv_at hl 1 rfl) ?_
  refine lv_if_lt (tgt := 10) hx hb dX7_optimise_1 (by decide) (fun c9 => ?_) (fun c9 => absurd hv0 c9)
  exact vx_throw0 (A := A) (own := RX7) (cls := "java/lang/IllegalArgumentException") (names := ["java/lang/RuntimeException", "java/lang/Exception"]) (ik := 69) (ic := 71) hx hb hlt hown (by decide +kernel) (by decide +kernel) (hts (.classLink RX7 69 "java/lang/IllegalArgumentException") (List.mem_of_getElem? (i := 1) rfl)) (hts (.initialized "java/lang/IllegalArgumentException") (List.mem_of_getElem? (i := 2) rfl)) (vx_hat (B := [.castable "java/lang/IllegalArgumentException" "java/lang/IllegalArgumentException", .declares (Bundle.init0 "java/lang/RuntimeException"), .declares (Bundle.init0 "java/lang/Exception"), .declares (Bundle.init0 "java/lang/Throwable")]) (fun w9 h9 => hts w9 (List.mem_cons_of_mem _ (List.mem_append_right _ (h9)))) (by decide +kernel) (vx_c (va_Nw.use rfl hG.2.2.2.2.2.2.2.2.1) (vx_c (va_Nw.use rfl hG.2.2.2.2.2.2.2.2.2.2.2.2.2.2.1) (vx_c (va_Nw.use rfl hG.2.2.2.2.2.2.2.2.2.2.2.2.2.2.2.1) (vx_c (va_Nw.use rfl hG.2.2.2.2.2.2.2.2.2.2.2.2.2.2.2.2) vx_n))))) (by decide +kernel) hG.2.2.2.2.1 hG.2.2.2.2.2.1 hS (by rw [hml]; exact hl.1) dX7_optimise_10 dX7_optimise_13 dX7_optimise_14 dX7_optimise_17 (fun x9 h9 => (htab x9 h9).elim) (Nat.le_of_ble_eq_true rfl) (Nat.le_of_ble_eq_true rfl) (Nat.le_of_ble_eq_true rfl) (Nat.le_of_ble_eq_true rfl) hlocks (fun t9 _ hz9 hk9 => ⟨(), trivial, rfl, ⟨Nat.le_trans hS.1 hz9, fun q h1 h2 => (hk9 q (Nat.lt_of_lt_of_le h1 hS.1)).trans (hS.2.1 q h1 h2)⟩⟩) hS.2.2 (Nat.le_of_ble_eq_true rfl) (Nat.le_of_ble_eq_true rfl)

set_option maxRecDepth 20000 in
def z_X_optimise_big : List Cond := .code yX7_optimise cX7_optimise 4 (some .int) :: (([.classLink RX7 69 "java/lang/IllegalArgumentException", .initialized "java/lang/IllegalArgumentException"] : List Cond) ++ (vx_at0 RX7 71 "java/lang/IllegalArgumentException" ["java/lang/RuntimeException", "java/lang/Exception"]).filter goodWord)
set_option maxHeartbeats 4000000 in
set_option maxRecDepth 100000 in
theorem c_X_optimise_big (l : Launch) (dC : Nat → ClassId) (dI : Nat → Nat → Nat) (tp te : Nat) (sz : Nat) (hlt : l.stackTraces = false) (h0 : Nat) (rp : Nat) (rt : Nat) (rc : Nat) (r1 : Nat) (r2 : Nat) (r3 : Nat) (r4 : Nat) (p0 : Int32) (hv0 : ¬ p0 < 0) (hv1 : ¬ p0 ≤ 15) : vx_Met l yX7_optimise z_X_optimise_big ({ frames := 6, cells := 1, slots := 6, locals := 81 }) (va_Pc [.ref h0, .int p0] (Pw dC dI [(h0, .inr (8, [.ref rp, .int 0, .ref rt, .ref rc, .int ((-1)), .ref r1, .ref r2, .ref r3, .ref r4, .null, .int 0]))] [] sz tp te)) (va_Qi (fun (r : Int32) (_ : Unit) => False) (fun (_ : Unit) (_ : State) => True) (va_A [(h0, .inr (8, [.ref rp, .int 0, .ref rt, .ref rc, .int ((-1)), .ref r1, .ref r2, .ref r3, .ref r4, .null, .int 0]))] sz)) (vx_X (fun (_ : Unit) => True) (fun (E : String) (_ : Unit) (_ : State) => E = "java/lang/IllegalArgumentException") (va_A [(h0, .inr (8, [.ref rp, .int 0, .ref rt, .ref rc, .int ((-1)), .ref r1, .ref r2, .ref r3, .ref r4, .null, .int 0]))] sz)) 1 6 (va_A [(h0, .inr (8, [.ref rp, .int 0, .ref rt, .ref rc, .int ((-1)), .ref r1, .ref r2, .ref r3, .ref r4, .null, .int 0]))] sz) := by
  refine vx_ofW (cc := cX7_optimise) (maxL := 4) (ret := (some .int)) (by decide) rfl ?_
  intro p e s m args below meth c s₁ B hml htab hv
  obtain ⟨rfl, hsz, hP, hK, hD0, hG⟩ := hv
  have hx := B.exec
  have hb := B.bytes
  have hr := B.returns
  have hts := atoms_spec (ws := z_X_optimise_big) B.pre
  have hown : s.vm.findClass RX7 = some m.cls := findClass_of_methodNamed B.named
  have hlocks := B.notSynchronized
  subst hsz
  have hD := hD0.self (sz := s.heap.size)
  generalize hAe : va_A [(h0, .inr (8, [.ref rp, .int 0, .ref rt, .ref rc, .int ((-1)), .ref r1, .ref r2, .ref r3, .ref r4, .null, .int 0]))] s.heap.size = A at hD hG ⊢
  have hA : ∀ q : Nat, s.heap.size ≤ q → A q := fun q h => by rw [← hAe]; exact Or.inr h
  have hS : va_S A s.heap s.heap [] := va_S.rf
  have hl := lv_entry ([.ref h0, .int p0]) (n := 4) (Nat.le_of_ble_eq_true rfl)
  rw [lg_entry_eq]
  generalize (lg_sl ([.ref h0, .int p0]) ++ List.replicate (4 - (lg_sl ([.ref h0, .int p0])).length) Slot.unset).toArray = ls at hl ⊢
  have hl : lv_has ls 4 [(0, .ref h0), (1, .int p0)] := hl
  refine lv_iload_n hx hb dX7_optimise_0 rfl (lv_at hl 1 rfl) ?_
  refine lv_if_lt (tgt := 10) hx hb dX7_optimise_1 (by decide) (fun c9 => absurd c9 hv0) (fun c9 => ?_)
  refine lv_iload_n hx hb dX7_optimise_4 rfl (lv_at hl 1 rfl) ?_
  refine lv_bipush (v := 15) hx hb dX7_optimise_5 (by decide) ?_
  refine lv_icmp_le (tgt := 18) hx hb dX7_optimise_7 (by decide) (fun c9 => absurd c9 hv1) (fun c9 => ?_)
  exact vx_throw0 (A := A) (own := RX7) (cls := "java/lang/IllegalArgumentException") (names := ["java/lang/RuntimeException", "java/lang/Exception"]) (ik := 69) (ic := 71) hx hb hlt hown (by decide +kernel) (by decide +kernel) (hts (.classLink RX7 69 "java/lang/IllegalArgumentException") (List.mem_of_getElem? (i := 1) rfl)) (hts (.initialized "java/lang/IllegalArgumentException") (List.mem_of_getElem? (i := 2) rfl)) (vx_hat (B := [.castable "java/lang/IllegalArgumentException" "java/lang/IllegalArgumentException", .declares (Bundle.init0 "java/lang/RuntimeException"), .declares (Bundle.init0 "java/lang/Exception"), .declares (Bundle.init0 "java/lang/Throwable")]) (fun w9 h9 => hts w9 (List.mem_cons_of_mem _ (List.mem_append_right _ (h9)))) (by decide +kernel) (vx_c (va_Nw.use rfl hG.2.2.2.2.2.2.2.2.1) (vx_c (va_Nw.use rfl hG.2.2.2.2.2.2.2.2.2.2.2.2.2.2.1) (vx_c (va_Nw.use rfl hG.2.2.2.2.2.2.2.2.2.2.2.2.2.2.2.1) (vx_c (va_Nw.use rfl hG.2.2.2.2.2.2.2.2.2.2.2.2.2.2.2.2) vx_n))))) (by decide +kernel) hG.2.2.2.2.1 hG.2.2.2.2.2.1 hS (by rw [hml]; exact hl.1) dX7_optimise_10 dX7_optimise_13 dX7_optimise_14 dX7_optimise_17 (fun x9 h9 => (htab x9 h9).elim) (Nat.le_of_ble_eq_true rfl) (Nat.le_of_ble_eq_true rfl) (Nat.le_of_ble_eq_true rfl) (Nat.le_of_ble_eq_true rfl) hlocks (fun t9 _ hz9 hk9 => ⟨(), trivial, rfl, ⟨Nat.le_trans hS.1 hz9, fun q h1 h2 => (hk9 q (Nat.lt_of_lt_of_le h1 hS.1)).trans (hS.2.1 q h1 h2)⟩⟩) hS.2.2 (Nat.le_of_ble_eq_true rfl) (Nat.le_of_ble_eq_true rfl)

set_option maxRecDepth 20000 in
def z_X_optimise_ok : List Cond := .code yX7_optimise cX7_optimise 4 (some .int) :: (([.methodLink RX7 110 yX7_checkProgram, .instanceMethod yX7_checkProgram, .selects RX7 yX7_checkProgram yX7_checkProgram, .initialized RX7, .code yX7_checkProgram cX7_checkProgram 1 none, .fieldLink RX7 24 "Selfkindle" "wrong" "I", .classLink RX7 75 "java/lang/IllegalStateException", .initialized "java/lang/IllegalStateException"] : List Cond) ++ wsX70 ++ (vx_at0 RX7 77 "java/lang/IllegalStateException" ["java/lang/RuntimeException", "java/lang/Exception"]).filter goodWord)
theorem in_z_X_optimise_ok_X7 : ∀ w ∈ wsX70, w ∈ z_X_optimise_ok := fun w h => List.mem_cons_of_mem _ (List.mem_append_left _ (List.mem_append_right _ (h)))
set_option maxRecDepth 20000 in
theorem gg_X_optimise_ok_19 : GoodIn z_X_optimise_ok z_cPr := goodIn_ca (goodIn_p _ [5] rfl (by decide +kernel)) (goodIn_sub (fun _ h => List.mem_cons_of_mem _ (List.mem_append_right _ (h))) (by decide +kernel))
set_option maxRecDepth 20000 in
theorem g_X_optimise_ok_19 : GoodIn z_X_optimise_ok (wsV RX7 110 RX7 yX7_checkProgram z_cPr) := goodIn_app (goodIn_of _ (by decide +kernel)) gg_X_optimise_ok_19
set_option maxHeartbeats 4000000 in
set_option maxRecDepth 100000 in
theorem c_X_optimise_ok (l : Launch) (dC : Nat → ClassId) (dI : Nat → Nat → Nat) (tp te : Nat) (sz : Nat) (hlt : l.stackTraces = false) (h0 : Nat) (rp : Nat) (rt : Nat) (rc : Nat) (r1 : Nat) (r2 : Nat) (r3 : Nat) (r4 : Nat) (p0 : Int32) (hv0 : ¬ p0 < 0) (hv1 : p0 ≤ 15) : vx_Met l yX7_optimise z_X_optimise_ok ({ frames := 7, cells := 1, slots := 6, locals := 101 }) (va_Pc [.ref h0, .int p0] (Pw dC dI [(h0, .inr (8, [.ref rp, .int 0, .ref rt, .ref rc, .int ((-1)), .ref r1, .ref r2, .ref r3, .ref r4, .null, .int 0]))] [] sz tp te)) (va_Qi (fun (r : Int32) (_ : Unit) => False) (fun (_ : Unit) (_ : State) => True) (va_A [(h0, .inr (8, [.ref rp, .int 0, .ref rt, .ref rc, .int ((-1)), .ref r1, .ref r2, .ref r3, .ref r4, .null, .int 0]))] sz)) (vx_X (fun (_ : Unit) => True) (fun (E : String) (_ : Unit) (_ : State) => E = "java/lang/IllegalStateException") (va_A [(h0, .inr (8, [.ref rp, .int 0, .ref rt, .ref rc, .int ((-1)), .ref r1, .ref r2, .ref r3, .ref r4, .null, .int 0]))] sz)) 1 6 (va_A [(h0, .inr (8, [.ref rp, .int 0, .ref rt, .ref rc, .int ((-1)), .ref r1, .ref r2, .ref r3, .ref r4, .null, .int 0]))] sz) := by
  refine vx_ofW (cc := cX7_optimise) (maxL := 4) (ret := (some .int)) (by decide) rfl ?_
  intro p e s m args below meth c s₁ B hml htab hv
  obtain ⟨rfl, hsz, hP, hK, hD0, hG⟩ := hv
  have hx := B.exec
  have hb := B.bytes
  have hr := B.returns
  have hts := atoms_spec (ws := z_X_optimise_ok) B.pre
  have hown : s.vm.findClass RX7 = some m.cls := findClass_of_methodNamed B.named
  have hlocks := B.notSynchronized
  subst hsz
  have hD := hD0.self (sz := s.heap.size)
  generalize hAe : va_A [(h0, .inr (8, [.ref rp, .int 0, .ref rt, .ref rc, .int ((-1)), .ref r1, .ref r2, .ref r3, .ref r4, .null, .int 0]))] s.heap.size = A at hD hG ⊢
  have hA : ∀ q : Nat, s.heap.size ≤ q → A q := fun q h => by rw [← hAe]; exact Or.inr h
  have hS : va_S A s.heap s.heap [] := va_S.rf
  have hl := lv_entry ([.ref h0, .int p0]) (n := 4) (Nat.le_of_ble_eq_true rfl)
  rw [lg_entry_eq]
  generalize (lg_sl ([.ref h0, .int p0]) ++ List.replicate (4 - (lg_sl ([.ref h0, .int p0])).length) Slot.unset).toArray = ls at hl ⊢
  have hl : lv_has ls 4 [(0, .ref h0), (1, .int p0)] := hl
  refine lv_iload_n hx hb dX7_optimise_0 rfl (lv_at hl 1 rfl) ?_
  refine lv_if_lt (tgt := 10) hx hb dX7_optimise_1 (by decide) (fun c9 => absurd c9 hv0) (fun c9 => ?_)
  refine lv_iload_n hx hb dX7_optimise_4 rfl (lv_at hl 1 rfl) ?_
  refine lv_bipush (v := 15) hx hb dX7_optimise_5 (by decide) ?_
  refine lv_icmp_le (tgt := 18) hx hb dX7_optimise_7 (by decide) (fun c9 => ?_) (fun c9 => absurd hv1 c9)
  refine lv_aload_n hx hb dX7_optimise_18 rfl (lv_at hl 0 rfl) ?_
  have hPc := hP.sub (ws' := [(h0, .inr (8, [.ref rp, .int 0, .ref rt, .ref rc, .int ((-1)), .ref r1, .ref r2, .ref r3, .ref r4, .null, .int 0]))]) [0] rfl
  have hDc := hD.sub (ws' := [(h0, .inr (8, [.ref rp, .int 0, .ref rt, .ref rc, .int ((-1)), .ref r1, .ref r2, .ref r3, .ref r4, .null, .int 0]))]) [0] (by decide) rfl
  have hKc := hK.sub (tys' := []) [] rfl
  have hFc := va_free (wc := [(h0, .inr (8, [.ref rp, .int 0, .ref rt, .ref rc, .int ((-1)), .ref r1, .ref r2, .ref r3, .ref r4, .null, .int 0]))]) hD hS hA [0] rfl
  refine vx_callv (vx_runV (As := []) (rest := []) ⟨hx, hb, hml, hown, hts⟩ (c_cPr l dC dI tp te s.heap.size hlt h0 rp rt rc r1 r2 r3 r4) (cwV 0 hts g_X_optimise_ok_19 rfl rfl rfl (by decide +kernel) ⟨Nat.le_of_ble_eq_true rfl, Nat.le_of_ble_eq_true rfl⟩) ⟨Pw.blind, va_recv hKc hPc (ci := 8) (q0 := 0) rfl rfl, Pw.mk hPc hKc hDc hG hS hFc⟩ rfl rfl hl.1 rfl (lv_room (Nat.le_of_ble_eq_true rfl)) dX7_optimise_19 ⟨Nat.le_of_ble_eq_true rfl, Nat.le_of_ble_eq_true rfl⟩) hS (fun q _ h => hFc q h) hFc (fun q _ h => hFc q h) (fun E ce q9 u t9 H1 locs ht hvm hpx hBX hz1 hk1 hS hce hcv hcl => ?_) (fun u t9 H_1 locs ht hvm hw hB hz1 hk1 hS => hw.elim)
  have hBX : E = "java/lang/IllegalStateException" := hBX
  subst hBX
  exact vx_out (fun x9 h9 => (htab x9 h9).elim) hlocks hce hcv hcl (fun t9 ht9 _ => ⟨(), trivial, rfl, hS.F ht9⟩) hS.2.2 (Nat.le_of_ble_eq_true rfl) (Nat.le_of_ble_eq_true rfl)

set_option maxRecDepth 20000 in
def z_X_size : List Cond := .code yX7_size cX7_size 1 (some .int) :: (([.fieldLink RX7 21 "Selfkindle" "current" "LSelfkindle$Term;", .fieldLink RX7 78 "Selfkindle$Term" "count" "I"] : List Cond) ++ wsX70 ++ wsX50)
theorem in_z_X_size_X7 : ∀ w ∈ wsX70, w ∈ z_X_size := fun w h => List.mem_cons_of_mem _ (List.mem_append_left _ (List.mem_append_right _ (h)))
theorem in_z_X_size_X5 : ∀ w ∈ wsX50, w ∈ z_X_size := fun w h => List.mem_cons_of_mem _ (List.mem_append_right _ (h))
set_option maxHeartbeats 4000000 in
set_option maxRecDepth 100000 in
theorem c_X_size (l : Launch) (dC : Nat → ClassId) (dI : Nat → Nat → Nat) (tp te : Nat) (sz : Nat) (h0 : Nat) (rp : Nat) (rt : Nat) (rc : Nat) (r1 : Nat) (r2 : Nat) (r3 : Nat) (r4 : Nat) (a1 : Nat) (a2 : Nat) (a3 : Nat) (a4 : Nat) (a5 : Nat) (a6 : Nat) (a7 : Nat)  : Met l yX7_size z_X_size ({ frames := 0, cells := 0, slots := 0, locals := 0 }) (va_Pc [.ref h0] (Pw dC dI [(h0, .inr (8, [.ref rp, .int 0, .ref rt, .ref rc, .int ((-1)), .ref r1, .ref r2, .ref r3, .ref r4, .null, .int 0])), (rc, .inr (6, [.ref a1, .ref a2, .ref a3, .ref a4, .ref a5, .ref a6, .ref a7, .int 0]))] [] sz tp te)) (va_Qi (fun (r : Int32) (_ : Unit) => r = 0) (fun (_ : Unit) (_ : State) => True) (va_A [(h0, .inr (8, [.ref rp, .int 0, .ref rt, .ref rc, .int ((-1)), .ref r1, .ref r2, .ref r3, .ref r4, .null, .int 0])), (rc, .inr (6, [.ref a1, .ref a2, .ref a3, .ref a4, .ref a5, .ref a6, .ref a7, .int 0]))] sz)) 0 0 (va_A [(h0, .inr (8, [.ref rp, .int 0, .ref rt, .ref rc, .int ((-1)), .ref r1, .ref r2, .ref r3, .ref r4, .null, .int 0])), (rc, .inr (6, [.ref a1, .ref a2, .ref a3, .ref a4, .ref a5, .ref a6, .ref a7, .int 0]))] sz) := by
  refine Met.ofW (cc := cX7_size) (maxL := 1) (ret := (some .int)) (by decide) rfl ?_
  intro p e s m args below meth c s₁ B hml hv
  obtain ⟨rfl, hsz, hP, hK, hD0, hG⟩ := hv
  have hx := B.exec
  have hb := B.bytes
  have hr := B.returns
  have hts := atoms_spec (ws := z_X_size) B.pre
  have hown : s.vm.findClass RX7 = some m.cls := findClass_of_methodNamed B.named
  have hlocks := B.notSynchronized
  subst hsz
  have hD := hD0.self (sz := s.heap.size)
  generalize hAe : va_A [(h0, .inr (8, [.ref rp, .int 0, .ref rt, .ref rc, .int ((-1)), .ref r1, .ref r2, .ref r3, .ref r4, .null, .int 0])), (rc, .inr (6, [.ref a1, .ref a2, .ref a3, .ref a4, .ref a5, .ref a6, .ref a7, .int 0]))] s.heap.size = A at hD hG ⊢
  have hA : ∀ q : Nat, s.heap.size ≤ q → A q := fun q h => by rw [← hAe]; exact Or.inr h
  have hS : va_S A s.heap s.heap [] := va_S.rf
  have hl := lv_entry ([.ref h0]) (n := 1) (Nat.le_of_ble_eq_true rfl)
  rw [lg_entry_eq]
  generalize (lg_sl ([.ref h0]) ++ List.replicate (1 - (lg_sl ([.ref h0])).length) Slot.unset).toArray = ls at hl ⊢
  have hl : lv_has ls 1 [(0, .ref h0)] := hl
  refine lv_aload_n hx hb dX7_size_0 rfl (lv_at hl 0 rfl) ?_
  refine va_get (D := (dC, dI)) (ci := 8) (v := .ref rc) (C := RX7) (T := TX7) (N := 11) hx hb hts in_z_X_size_X7 hown hK hP 0 rfl rfl 3 (by decide) (hts (.fieldLink RX7 21 "Selfkindle" "current" "LSelfkindle$Term;") (List.mem_of_getElem? (i := 1) rfl)) (fun _ h9 => h9) rfl dX7_size_1 ?_
  refine va_get (D := (dC, dI)) (ci := 6) (v := .int 0) (C := RX5) (T := TX5) (N := 8) hx hb hts in_z_X_size_X5 hown hK hP 1 rfl rfl 7 (by decide) (hts (.fieldLink RX7 78 "Selfkindle$Term" "count" "I") (List.mem_of_getElem? (i := 2) rfl)) (fun _ h9 => h9) rfl dX7_size_4 ?_
  refine W.widen (k := 0) (n := 0) (Nat.le_of_ble_eq_true rfl) (Nat.le_of_ble_eq_true rfl) ?_
  exact W.iret (v := 0) hx hb hr (fun t ht hW => ⟨⟨0, (), rfl, rfl, trivial⟩, hS.F ht⟩) hS.2.2 dX7_size_7

set_option maxRecDepth 20000 in
def z_X_orders : List Cond := .code yX7_orders cX7_orders 1 (some .int) :: (([.methodLink RX7 110 yX7_checkProgram, .instanceMethod yX7_checkProgram, .selects RX7 yX7_checkProgram yX7_checkProgram, .initialized RX7, .code yX7_checkProgram cX7_checkProgram 1 none, .fieldLink RX7 24 "Selfkindle" "wrong" "I", .classLink RX7 75 "java/lang/IllegalStateException", .initialized "java/lang/IllegalStateException"] : List Cond) ++ wsX70 ++ (vx_at0 RX7 77 "java/lang/IllegalStateException" ["java/lang/RuntimeException", "java/lang/Exception"]).filter goodWord)
theorem in_z_X_orders_X7 : ∀ w ∈ wsX70, w ∈ z_X_orders := fun w h => List.mem_cons_of_mem _ (List.mem_append_left _ (List.mem_append_right _ (h)))
set_option maxRecDepth 20000 in
theorem gg_X_orders_1 : GoodIn z_X_orders z_cPr := goodIn_ca (goodIn_p _ [5] rfl (by decide +kernel)) (goodIn_sub (fun _ h => List.mem_cons_of_mem _ (List.mem_append_right _ (h))) (by decide +kernel))
set_option maxRecDepth 20000 in
theorem g_X_orders_1 : GoodIn z_X_orders (wsV RX7 110 RX7 yX7_checkProgram z_cPr) := goodIn_app (goodIn_of _ (by decide +kernel)) gg_X_orders_1
set_option maxHeartbeats 4000000 in
set_option maxRecDepth 100000 in
theorem c_X_orders (l : Launch) (dC : Nat → ClassId) (dI : Nat → Nat → Nat) (tp te : Nat) (sz : Nat) (hlt : l.stackTraces = false) (h0 : Nat) (rp : Nat) (rt : Nat) (rc : Nat) (r1 : Nat) (r2 : Nat) (r3 : Nat) (r4 : Nat)  : vx_Met l yX7_orders z_X_orders ({ frames := 7, cells := 1, slots := 6, locals := 101 }) (va_Pc [.ref h0] (Pw dC dI [(h0, .inr (8, [.ref rp, .int 0, .ref rt, .ref rc, .int ((-1)), .ref r1, .ref r2, .ref r3, .ref r4, .null, .int 0]))] [] sz tp te)) (va_Qi (fun (r : Int32) (_ : Unit) => False) (fun (_ : Unit) (_ : State) => True) (va_A [(h0, .inr (8, [.ref rp, .int 0, .ref rt, .ref rc, .int ((-1)), .ref r1, .ref r2, .ref r3, .ref r4, .null, .int 0]))] sz)) (vx_X (fun (_ : Unit) => True) (fun (E : String) (_ : Unit) (_ : State) => E = "java/lang/IllegalStateException") (va_A [(h0, .inr (8, [.ref rp, .int 0, .ref rt, .ref rc, .int ((-1)), .ref r1, .ref r2, .ref r3, .ref r4, .null, .int 0]))] sz)) 1 6 (va_A [(h0, .inr (8, [.ref rp, .int 0, .ref rt, .ref rc, .int ((-1)), .ref r1, .ref r2, .ref r3, .ref r4, .null, .int 0]))] sz) := by
  refine vx_ofW (cc := cX7_orders) (maxL := 1) (ret := (some .int)) (by decide) rfl ?_
  intro p e s m args below meth c s₁ B hml htab hv
  obtain ⟨rfl, hsz, hP, hK, hD0, hG⟩ := hv
  have hx := B.exec
  have hb := B.bytes
  have hr := B.returns
  have hts := atoms_spec (ws := z_X_orders) B.pre
  have hown : s.vm.findClass RX7 = some m.cls := findClass_of_methodNamed B.named
  have hlocks := B.notSynchronized
  subst hsz
  have hD := hD0.self (sz := s.heap.size)
  generalize hAe : va_A [(h0, .inr (8, [.ref rp, .int 0, .ref rt, .ref rc, .int ((-1)), .ref r1, .ref r2, .ref r3, .ref r4, .null, .int 0]))] s.heap.size = A at hD hG ⊢
  have hA : ∀ q : Nat, s.heap.size ≤ q → A q := fun q h => by rw [← hAe]; exact Or.inr h
  have hS : va_S A s.heap s.heap [] := va_S.rf
  have hl := lv_entry ([.ref h0]) (n := 1) (Nat.le_of_ble_eq_true rfl)
  rw [lg_entry_eq]
  generalize (lg_sl ([.ref h0]) ++ List.replicate (1 - (lg_sl ([.ref h0])).length) Slot.unset).toArray = ls at hl ⊢
  have hl : lv_has ls 1 [(0, .ref h0)] := hl
  refine lv_aload_n hx hb dX7_orders_0 rfl (lv_at hl 0 rfl) ?_
  have hPc := hP.sub (ws' := [(h0, .inr (8, [.ref rp, .int 0, .ref rt, .ref rc, .int ((-1)), .ref r1, .ref r2, .ref r3, .ref r4, .null, .int 0]))]) [0] rfl
  have hDc := hD.sub (ws' := [(h0, .inr (8, [.ref rp, .int 0, .ref rt, .ref rc, .int ((-1)), .ref r1, .ref r2, .ref r3, .ref r4, .null, .int 0]))]) [0] (by decide) rfl
  have hKc := hK.sub (tys' := []) [] rfl
  have hFc := va_free (wc := [(h0, .inr (8, [.ref rp, .int 0, .ref rt, .ref rc, .int ((-1)), .ref r1, .ref r2, .ref r3, .ref r4, .null, .int 0]))]) hD hS hA [0] rfl
  refine vx_callv (vx_runV (As := []) (rest := []) ⟨hx, hb, hml, hown, hts⟩ (c_cPr l dC dI tp te s.heap.size hlt h0 rp rt rc r1 r2 r3 r4) (cwV 0 hts g_X_orders_1 rfl rfl rfl (by decide +kernel) ⟨Nat.le_of_ble_eq_true rfl, Nat.le_of_ble_eq_true rfl⟩) ⟨Pw.blind, va_recv hKc hPc (ci := 8) (q0 := 0) rfl rfl, Pw.mk hPc hKc hDc hG hS hFc⟩ rfl rfl hl.1 rfl (lv_room (Nat.le_of_ble_eq_true rfl)) dX7_orders_1 ⟨Nat.le_of_ble_eq_true rfl, Nat.le_of_ble_eq_true rfl⟩) hS (fun q _ h => hFc q h) hFc (fun q _ h => hFc q h) (fun E ce q9 u t9 H1 locs ht hvm hpx hBX hz1 hk1 hS hce hcv hcl => ?_) (fun u t9 H_1 locs ht hvm hw hB hz1 hk1 hS => hw.elim)
  have hBX : E = "java/lang/IllegalStateException" := hBX
  subst hBX
  exact vx_out (fun x9 h9 => (htab x9 h9).elim) hlocks hce hcv hcl (fun t9 ht9 _ => ⟨(), trivial, rfl, hS.F ht9⟩) hS.2.2 (Nat.le_of_ble_eq_true rfl) (Nat.le_of_ble_eq_true rfl)

set_option maxRecDepth 20000 in
def z_X_again : List Cond := .code yX7_again cX7_again 1 none :: (([.methodLink RX7 110 yX7_checkProgram, .instanceMethod yX7_checkProgram, .selects RX7 yX7_checkProgram yX7_checkProgram, .initialized RX7, .code yX7_checkProgram cX7_checkProgram 1 none, .fieldLink RX7 24 "Selfkindle" "wrong" "I", .classLink RX7 75 "java/lang/IllegalStateException", .initialized "java/lang/IllegalStateException"] : List Cond) ++ wsX70 ++ (vx_at0 RX7 77 "java/lang/IllegalStateException" ["java/lang/RuntimeException", "java/lang/Exception"]).filter goodWord)
theorem in_z_X_again_X7 : ∀ w ∈ wsX70, w ∈ z_X_again := fun w h => List.mem_cons_of_mem _ (List.mem_append_left _ (List.mem_append_right _ (h)))
set_option maxRecDepth 20000 in
theorem gg_X_again_1 : GoodIn z_X_again z_cPr := goodIn_ca (goodIn_p _ [5] rfl (by decide +kernel)) (goodIn_sub (fun _ h => List.mem_cons_of_mem _ (List.mem_append_right _ (h))) (by decide +kernel))
set_option maxRecDepth 20000 in
theorem g_X_again_1 : GoodIn z_X_again (wsV RX7 110 RX7 yX7_checkProgram z_cPr) := goodIn_app (goodIn_of _ (by decide +kernel)) gg_X_again_1
set_option maxHeartbeats 4000000 in
set_option maxRecDepth 100000 in
theorem c_X_again (l : Launch) (dC : Nat → ClassId) (dI : Nat → Nat → Nat) (tp te : Nat) (sz : Nat) (hlt : l.stackTraces = false) (h0 : Nat) (rp : Nat) (rt : Nat) (rc : Nat) (r1 : Nat) (r2 : Nat) (r3 : Nat) (r4 : Nat)  : vx_Met l yX7_again z_X_again ({ frames := 7, cells := 1, slots := 6, locals := 101 }) (va_Pc [.ref h0] (Pw dC dI [(h0, .inr (8, [.ref rp, .int 0, .ref rt, .ref rc, .int ((-1)), .ref r1, .ref r2, .ref r3, .ref r4, .null, .int 0]))] [] sz tp te)) (va_Qv (fun (_ : Unit) => False) (fun (_ : Unit) (_ : State) => True) (va_A [(h0, .inr (8, [.ref rp, .int 0, .ref rt, .ref rc, .int ((-1)), .ref r1, .ref r2, .ref r3, .ref r4, .null, .int 0]))] sz)) (vx_X (fun (_ : Unit) => True) (fun (E : String) (_ : Unit) (_ : State) => E = "java/lang/IllegalStateException") (va_A [(h0, .inr (8, [.ref rp, .int 0, .ref rt, .ref rc, .int ((-1)), .ref r1, .ref r2, .ref r3, .ref r4, .null, .int 0]))] sz)) 1 6 (va_A [(h0, .inr (8, [.ref rp, .int 0, .ref rt, .ref rc, .int ((-1)), .ref r1, .ref r2, .ref r3, .ref r4, .null, .int 0]))] sz) := by
  refine vx_ofW (cc := cX7_again) (maxL := 1) (ret := none) (by decide) rfl ?_
  intro p e s m args below meth c s₁ B hml htab hv
  obtain ⟨rfl, hsz, hP, hK, hD0, hG⟩ := hv
  have hx := B.exec
  have hb := B.bytes
  have hr := B.returns
  have hts := atoms_spec (ws := z_X_again) B.pre
  have hown : s.vm.findClass RX7 = some m.cls := findClass_of_methodNamed B.named
  have hlocks := B.notSynchronized
  subst hsz
  have hD := hD0.self (sz := s.heap.size)
  generalize hAe : va_A [(h0, .inr (8, [.ref rp, .int 0, .ref rt, .ref rc, .int ((-1)), .ref r1, .ref r2, .ref r3, .ref r4, .null, .int 0]))] s.heap.size = A at hD hG ⊢
  have hA : ∀ q : Nat, s.heap.size ≤ q → A q := fun q h => by rw [← hAe]; exact Or.inr h
  have hS : va_S A s.heap s.heap [] := va_S.rf
  have hl := lv_entry ([.ref h0]) (n := 1) (Nat.le_of_ble_eq_true rfl)
  rw [lg_entry_eq]
  generalize (lg_sl ([.ref h0]) ++ List.replicate (1 - (lg_sl ([.ref h0])).length) Slot.unset).toArray = ls at hl ⊢
  have hl : lv_has ls 1 [(0, .ref h0)] := hl
  refine lv_aload_n hx hb dX7_again_0 rfl (lv_at hl 0 rfl) ?_
  have hPc := hP.sub (ws' := [(h0, .inr (8, [.ref rp, .int 0, .ref rt, .ref rc, .int ((-1)), .ref r1, .ref r2, .ref r3, .ref r4, .null, .int 0]))]) [0] rfl
  have hDc := hD.sub (ws' := [(h0, .inr (8, [.ref rp, .int 0, .ref rt, .ref rc, .int ((-1)), .ref r1, .ref r2, .ref r3, .ref r4, .null, .int 0]))]) [0] (by decide) rfl
  have hKc := hK.sub (tys' := []) [] rfl
  have hFc := va_free (wc := [(h0, .inr (8, [.ref rp, .int 0, .ref rt, .ref rc, .int ((-1)), .ref r1, .ref r2, .ref r3, .ref r4, .null, .int 0]))]) hD hS hA [0] rfl
  refine vx_callv (vx_runV (As := []) (rest := []) ⟨hx, hb, hml, hown, hts⟩ (c_cPr l dC dI tp te s.heap.size hlt h0 rp rt rc r1 r2 r3 r4) (cwV 0 hts g_X_again_1 rfl rfl rfl (by decide +kernel) ⟨Nat.le_of_ble_eq_true rfl, Nat.le_of_ble_eq_true rfl⟩) ⟨Pw.blind, va_recv hKc hPc (ci := 8) (q0 := 0) rfl rfl, Pw.mk hPc hKc hDc hG hS hFc⟩ rfl rfl hl.1 rfl (lv_room (Nat.le_of_ble_eq_true rfl)) dX7_again_1 ⟨Nat.le_of_ble_eq_true rfl, Nat.le_of_ble_eq_true rfl⟩) hS (fun q _ h => hFc q h) hFc (fun q _ h => hFc q h) (fun E ce q9 u t9 H1 locs ht hvm hpx hBX hz1 hk1 hS hce hcv hcl => ?_) (fun u t9 H_1 locs ht hvm hw hB hz1 hk1 hS => hw.elim)
  have hBX : E = "java/lang/IllegalStateException" := hBX
  subst hBX
  exact vx_out (fun x9 h9 => (htab x9 h9).elim) hlocks hce hcv hcl (fun t9 ht9 _ => ⟨(), trivial, rfl, hS.F ht9⟩) hS.2.2 (Nat.le_of_ble_eq_true rfl) (Nat.le_of_ble_eq_true rfl)

set_option maxRecDepth 20000 in
def z_X_state : List Cond := .code yX7_state cX7_state 1 (some .int) :: (([.methodLink RX7 110 yX7_checkProgram, .instanceMethod yX7_checkProgram, .selects RX7 yX7_checkProgram yX7_checkProgram, .initialized RX7, .code yX7_checkProgram cX7_checkProgram 1 none, .fieldLink RX7 24 "Selfkindle" "wrong" "I", .classLink RX7 75 "java/lang/IllegalStateException", .initialized "java/lang/IllegalStateException"] : List Cond) ++ wsX70 ++ (vx_at0 RX7 77 "java/lang/IllegalStateException" ["java/lang/RuntimeException", "java/lang/Exception"]).filter goodWord)
theorem in_z_X_state_X7 : ∀ w ∈ wsX70, w ∈ z_X_state := fun w h => List.mem_cons_of_mem _ (List.mem_append_left _ (List.mem_append_right _ (h)))
set_option maxRecDepth 20000 in
theorem gg_X_state_1 : GoodIn z_X_state z_cPr := goodIn_ca (goodIn_p _ [5] rfl (by decide +kernel)) (goodIn_sub (fun _ h => List.mem_cons_of_mem _ (List.mem_append_right _ (h))) (by decide +kernel))
set_option maxRecDepth 20000 in
theorem g_X_state_1 : GoodIn z_X_state (wsV RX7 110 RX7 yX7_checkProgram z_cPr) := goodIn_app (goodIn_of _ (by decide +kernel)) gg_X_state_1
set_option maxHeartbeats 4000000 in
set_option maxRecDepth 100000 in
theorem c_X_state (l : Launch) (dC : Nat → ClassId) (dI : Nat → Nat → Nat) (tp te : Nat) (sz : Nat) (hlt : l.stackTraces = false) (h0 : Nat) (rp : Nat) (rt : Nat) (rc : Nat) (r1 : Nat) (r2 : Nat) (r3 : Nat) (r4 : Nat)  : vx_Met l yX7_state z_X_state ({ frames := 7, cells := 1, slots := 6, locals := 101 }) (va_Pc [.ref h0] (Pw dC dI [(h0, .inr (8, [.ref rp, .int 0, .ref rt, .ref rc, .int ((-1)), .ref r1, .ref r2, .ref r3, .ref r4, .null, .int 0]))] [] sz tp te)) (va_Qi (fun (r : Int32) (_ : Unit) => False) (fun (_ : Unit) (_ : State) => True) (va_A [(h0, .inr (8, [.ref rp, .int 0, .ref rt, .ref rc, .int ((-1)), .ref r1, .ref r2, .ref r3, .ref r4, .null, .int 0]))] sz)) (vx_X (fun (_ : Unit) => True) (fun (E : String) (_ : Unit) (_ : State) => E = "java/lang/IllegalStateException") (va_A [(h0, .inr (8, [.ref rp, .int 0, .ref rt, .ref rc, .int ((-1)), .ref r1, .ref r2, .ref r3, .ref r4, .null, .int 0]))] sz)) 1 6 (va_A [(h0, .inr (8, [.ref rp, .int 0, .ref rt, .ref rc, .int ((-1)), .ref r1, .ref r2, .ref r3, .ref r4, .null, .int 0]))] sz) := by
  refine vx_ofW (cc := cX7_state) (maxL := 1) (ret := (some .int)) (by decide) rfl ?_
  intro p e s m args below meth c s₁ B hml htab hv
  obtain ⟨rfl, hsz, hP, hK, hD0, hG⟩ := hv
  have hx := B.exec
  have hb := B.bytes
  have hr := B.returns
  have hts := atoms_spec (ws := z_X_state) B.pre
  have hown : s.vm.findClass RX7 = some m.cls := findClass_of_methodNamed B.named
  have hlocks := B.notSynchronized
  subst hsz
  have hD := hD0.self (sz := s.heap.size)
  generalize hAe : va_A [(h0, .inr (8, [.ref rp, .int 0, .ref rt, .ref rc, .int ((-1)), .ref r1, .ref r2, .ref r3, .ref r4, .null, .int 0]))] s.heap.size = A at hD hG ⊢
  have hA : ∀ q : Nat, s.heap.size ≤ q → A q := fun q h => by rw [← hAe]; exact Or.inr h
  have hS : va_S A s.heap s.heap [] := va_S.rf
  have hl := lv_entry ([.ref h0]) (n := 1) (Nat.le_of_ble_eq_true rfl)
  rw [lg_entry_eq]
  generalize (lg_sl ([.ref h0]) ++ List.replicate (1 - (lg_sl ([.ref h0])).length) Slot.unset).toArray = ls at hl ⊢
  have hl : lv_has ls 1 [(0, .ref h0)] := hl
  refine lv_aload_n hx hb dX7_state_0 rfl (lv_at hl 0 rfl) ?_
  have hPc := hP.sub (ws' := [(h0, .inr (8, [.ref rp, .int 0, .ref rt, .ref rc, .int ((-1)), .ref r1, .ref r2, .ref r3, .ref r4, .null, .int 0]))]) [0] rfl
  have hDc := hD.sub (ws' := [(h0, .inr (8, [.ref rp, .int 0, .ref rt, .ref rc, .int ((-1)), .ref r1, .ref r2, .ref r3, .ref r4, .null, .int 0]))]) [0] (by decide) rfl
  have hKc := hK.sub (tys' := []) [] rfl
  have hFc := va_free (wc := [(h0, .inr (8, [.ref rp, .int 0, .ref rt, .ref rc, .int ((-1)), .ref r1, .ref r2, .ref r3, .ref r4, .null, .int 0]))]) hD hS hA [0] rfl
  refine vx_callv (vx_runV (As := []) (rest := []) ⟨hx, hb, hml, hown, hts⟩ (c_cPr l dC dI tp te s.heap.size hlt h0 rp rt rc r1 r2 r3 r4) (cwV 0 hts g_X_state_1 rfl rfl rfl (by decide +kernel) ⟨Nat.le_of_ble_eq_true rfl, Nat.le_of_ble_eq_true rfl⟩) ⟨Pw.blind, va_recv hKc hPc (ci := 8) (q0 := 0) rfl rfl, Pw.mk hPc hKc hDc hG hS hFc⟩ rfl rfl hl.1 rfl (lv_room (Nat.le_of_ble_eq_true rfl)) dX7_state_1 ⟨Nat.le_of_ble_eq_true rfl, Nat.le_of_ble_eq_true rfl⟩) hS (fun q _ h => hFc q h) hFc (fun q _ h => hFc q h) (fun E ce q9 u t9 H1 locs ht hvm hpx hBX hz1 hk1 hS hce hcv hcl => ?_) (fun u t9 H_1 locs ht hvm hw hB hz1 hk1 hS => hw.elim)
  have hBX : E = "java/lang/IllegalStateException" := hBX
  subst hBX
  exact vx_out (fun x9 h9 => (htab x9 h9).elim) hlocks hce hcv hcl (fun t9 ht9 _ => ⟨(), trivial, rfl, hS.F ht9⟩) hS.2.2 (Nat.le_of_ble_eq_true rfl) (Nat.le_of_ble_eq_true rfl)

set_option maxRecDepth 20000 in
def z_X_value : List Cond := .code yX7_value cX7_value 1 (some .long) :: (([.methodLink RX7 110 yX7_checkProgram, .instanceMethod yX7_checkProgram, .selects RX7 yX7_checkProgram yX7_checkProgram, .initialized RX7, .code yX7_checkProgram cX7_checkProgram 1 none, .fieldLink RX7 24 "Selfkindle" "wrong" "I", .classLink RX7 75 "java/lang/IllegalStateException", .initialized "java/lang/IllegalStateException"] : List Cond) ++ wsX70 ++ (vx_at0 RX7 77 "java/lang/IllegalStateException" ["java/lang/RuntimeException", "java/lang/Exception"]).filter goodWord)
theorem in_z_X_value_X7 : ∀ w ∈ wsX70, w ∈ z_X_value := fun w h => List.mem_cons_of_mem _ (List.mem_append_left _ (List.mem_append_right _ (h)))
set_option maxRecDepth 20000 in
theorem gg_X_value_1 : GoodIn z_X_value z_cPr := goodIn_ca (goodIn_p _ [5] rfl (by decide +kernel)) (goodIn_sub (fun _ h => List.mem_cons_of_mem _ (List.mem_append_right _ (h))) (by decide +kernel))
set_option maxRecDepth 20000 in
theorem g_X_value_1 : GoodIn z_X_value (wsV RX7 110 RX7 yX7_checkProgram z_cPr) := goodIn_app (goodIn_of _ (by decide +kernel)) gg_X_value_1
set_option maxHeartbeats 4000000 in
set_option maxRecDepth 100000 in
theorem c_X_value (l : Launch) (dC : Nat → ClassId) (dI : Nat → Nat → Nat) (tp te : Nat) (sz : Nat) (hlt : l.stackTraces = false) (h0 : Nat) (rp : Nat) (rt : Nat) (rc : Nat) (r1 : Nat) (r2 : Nat) (r3 : Nat) (r4 : Nat)  : vx_Met l yX7_value z_X_value ({ frames := 7, cells := 1, slots := 6, locals := 101 }) (va_Pc [.ref h0] (Pw dC dI [(h0, .inr (8, [.ref rp, .int 0, .ref rt, .ref rc, .int ((-1)), .ref r1, .ref r2, .ref r3, .ref r4, .null, .int 0]))] [] sz tp te)) (va_Ql (fun (r : Int64) (_ : Unit) => False) (fun (_ : Unit) (_ : State) => True) (va_A [(h0, .inr (8, [.ref rp, .int 0, .ref rt, .ref rc, .int ((-1)), .ref r1, .ref r2, .ref r3, .ref r4, .null, .int 0]))] sz)) (vx_X (fun (_ : Unit) => True) (fun (E : String) (_ : Unit) (_ : State) => E = "java/lang/IllegalStateException") (va_A [(h0, .inr (8, [.ref rp, .int 0, .ref rt, .ref rc, .int ((-1)), .ref r1, .ref r2, .ref r3, .ref r4, .null, .int 0]))] sz)) 1 6 (va_A [(h0, .inr (8, [.ref rp, .int 0, .ref rt, .ref rc, .int ((-1)), .ref r1, .ref r2, .ref r3, .ref r4, .null, .int 0]))] sz) := by
  refine vx_ofW (cc := cX7_value) (maxL := 1) (ret := (some .long)) (by decide) rfl ?_
  intro p e s m args below meth c s₁ B hml htab hv
  obtain ⟨rfl, hsz, hP, hK, hD0, hG⟩ := hv
  have hx := B.exec
  have hb := B.bytes
  have hr := B.returns
  have hts := atoms_spec (ws := z_X_value) B.pre
  have hown : s.vm.findClass RX7 = some m.cls := findClass_of_methodNamed B.named
  have hlocks := B.notSynchronized
  subst hsz
  have hD := hD0.self (sz := s.heap.size)
  generalize hAe : va_A [(h0, .inr (8, [.ref rp, .int 0, .ref rt, .ref rc, .int ((-1)), .ref r1, .ref r2, .ref r3, .ref r4, .null, .int 0]))] s.heap.size = A at hD hG ⊢
  have hA : ∀ q : Nat, s.heap.size ≤ q → A q := fun q h => by rw [← hAe]; exact Or.inr h
  have hS : va_S A s.heap s.heap [] := va_S.rf
  have hl := lv_entry ([.ref h0]) (n := 1) (Nat.le_of_ble_eq_true rfl)
  rw [lg_entry_eq]
  generalize (lg_sl ([.ref h0]) ++ List.replicate (1 - (lg_sl ([.ref h0])).length) Slot.unset).toArray = ls at hl ⊢
  have hl : lv_has ls 1 [(0, .ref h0)] := hl
  refine lv_aload_n hx hb dX7_value_0 rfl (lv_at hl 0 rfl) ?_
  have hPc := hP.sub (ws' := [(h0, .inr (8, [.ref rp, .int 0, .ref rt, .ref rc, .int ((-1)), .ref r1, .ref r2, .ref r3, .ref r4, .null, .int 0]))]) [0] rfl
  have hDc := hD.sub (ws' := [(h0, .inr (8, [.ref rp, .int 0, .ref rt, .ref rc, .int ((-1)), .ref r1, .ref r2, .ref r3, .ref r4, .null, .int 0]))]) [0] (by decide) rfl
  have hKc := hK.sub (tys' := []) [] rfl
  have hFc := va_free (wc := [(h0, .inr (8, [.ref rp, .int 0, .ref rt, .ref rc, .int ((-1)), .ref r1, .ref r2, .ref r3, .ref r4, .null, .int 0]))]) hD hS hA [0] rfl
  refine vx_callv (vx_runV (As := []) (rest := []) ⟨hx, hb, hml, hown, hts⟩ (c_cPr l dC dI tp te s.heap.size hlt h0 rp rt rc r1 r2 r3 r4) (cwV 0 hts g_X_value_1 rfl rfl rfl (by decide +kernel) ⟨Nat.le_of_ble_eq_true rfl, Nat.le_of_ble_eq_true rfl⟩) ⟨Pw.blind, va_recv hKc hPc (ci := 8) (q0 := 0) rfl rfl, Pw.mk hPc hKc hDc hG hS hFc⟩ rfl rfl hl.1 rfl (lv_room (Nat.le_of_ble_eq_true rfl)) dX7_value_1 ⟨Nat.le_of_ble_eq_true rfl, Nat.le_of_ble_eq_true rfl⟩) hS (fun q _ h => hFc q h) hFc (fun q _ h => hFc q h) (fun E ce q9 u t9 H1 locs ht hvm hpx hBX hz1 hk1 hS hce hcv hcl => ?_) (fun u t9 H_1 locs ht hvm hw hB hz1 hk1 hS => hw.elim)
  have hBX : E = "java/lang/IllegalStateException" := hBX
  subst hBX
  exact vx_out (fun x9 h9 => (htab x9 h9).elim) hlocks hce hcv hcl (fun t9 ht9 _ => ⟨(), trivial, rfl, hS.F ht9⟩) hS.2.2 (Nat.le_of_ble_eq_true rfl) (Nat.le_of_ble_eq_true rfl)

set_option maxRecDepth 20000 in
def z_X_stateAnew : List Cond := .code yX7_stateAnew cX7_stateAnew 1 (some .int) :: (([.methodLink RX7 110 yX7_checkProgram, .instanceMethod yX7_checkProgram, .selects RX7 yX7_checkProgram yX7_checkProgram, .initialized RX7, .code yX7_checkProgram cX7_checkProgram 1 none, .fieldLink RX7 24 "Selfkindle" "wrong" "I", .classLink RX7 75 "java/lang/IllegalStateException", .initialized "java/lang/IllegalStateException"] : List Cond) ++ wsX70 ++ (vx_at0 RX7 77 "java/lang/IllegalStateException" ["java/lang/RuntimeException", "java/lang/Exception"]).filter goodWord)
theorem in_z_X_stateAnew_X7 : ∀ w ∈ wsX70, w ∈ z_X_stateAnew := fun w h => List.mem_cons_of_mem _ (List.mem_append_left _ (List.mem_append_right _ (h)))
set_option maxRecDepth 20000 in
theorem gg_X_stateAnew_1 : GoodIn z_X_stateAnew z_cPr := goodIn_ca (goodIn_p _ [5] rfl (by decide +kernel)) (goodIn_sub (fun _ h => List.mem_cons_of_mem _ (List.mem_append_right _ (h))) (by decide +kernel))
set_option maxRecDepth 20000 in
theorem g_X_stateAnew_1 : GoodIn z_X_stateAnew (wsV RX7 110 RX7 yX7_checkProgram z_cPr) := goodIn_app (goodIn_of _ (by decide +kernel)) gg_X_stateAnew_1
set_option maxHeartbeats 4000000 in
set_option maxRecDepth 100000 in
theorem c_X_stateAnew (l : Launch) (dC : Nat → ClassId) (dI : Nat → Nat → Nat) (tp te : Nat) (sz : Nat) (hlt : l.stackTraces = false) (h0 : Nat) (rp : Nat) (rt : Nat) (rc : Nat) (r1 : Nat) (r2 : Nat) (r3 : Nat) (r4 : Nat)  : vx_Met l yX7_stateAnew z_X_stateAnew ({ frames := 7, cells := 1, slots := 6, locals := 101 }) (va_Pc [.ref h0] (Pw dC dI [(h0, .inr (8, [.ref rp, .int 0, .ref rt, .ref rc, .int ((-1)), .ref r1, .ref r2, .ref r3, .ref r4, .null, .int 0]))] [] sz tp te)) (va_Qi (fun (r : Int32) (_ : Unit) => False) (fun (_ : Unit) (_ : State) => True) (va_A [(h0, .inr (8, [.ref rp, .int 0, .ref rt, .ref rc, .int ((-1)), .ref r1, .ref r2, .ref r3, .ref r4, .null, .int 0]))] sz)) (vx_X (fun (_ : Unit) => True) (fun (E : String) (_ : Unit) (_ : State) => E = "java/lang/IllegalStateException") (va_A [(h0, .inr (8, [.ref rp, .int 0, .ref rt, .ref rc, .int ((-1)), .ref r1, .ref r2, .ref r3, .ref r4, .null, .int 0]))] sz)) 1 6 (va_A [(h0, .inr (8, [.ref rp, .int 0, .ref rt, .ref rc, .int ((-1)), .ref r1, .ref r2, .ref r3, .ref r4, .null, .int 0]))] sz) := by
  refine vx_ofW (cc := cX7_stateAnew) (maxL := 1) (ret := (some .int)) (by decide) rfl ?_
  intro p e s m args below meth c s₁ B hml htab hv
  obtain ⟨rfl, hsz, hP, hK, hD0, hG⟩ := hv
  have hx := B.exec
  have hb := B.bytes
  have hr := B.returns
  have hts := atoms_spec (ws := z_X_stateAnew) B.pre
  have hown : s.vm.findClass RX7 = some m.cls := findClass_of_methodNamed B.named
  have hlocks := B.notSynchronized
  subst hsz
  have hD := hD0.self (sz := s.heap.size)
  generalize hAe : va_A [(h0, .inr (8, [.ref rp, .int 0, .ref rt, .ref rc, .int ((-1)), .ref r1, .ref r2, .ref r3, .ref r4, .null, .int 0]))] s.heap.size = A at hD hG ⊢
  have hA : ∀ q : Nat, s.heap.size ≤ q → A q := fun q h => by rw [← hAe]; exact Or.inr h
  have hS : va_S A s.heap s.heap [] := va_S.rf
  have hl := lv_entry ([.ref h0]) (n := 1) (Nat.le_of_ble_eq_true rfl)
  rw [lg_entry_eq]
  generalize (lg_sl ([.ref h0]) ++ List.replicate (1 - (lg_sl ([.ref h0])).length) Slot.unset).toArray = ls at hl ⊢
  have hl : lv_has ls 1 [(0, .ref h0)] := hl
  refine lv_aload_n hx hb dX7_stateAnew_0 rfl (lv_at hl 0 rfl) ?_
  have hPc := hP.sub (ws' := [(h0, .inr (8, [.ref rp, .int 0, .ref rt, .ref rc, .int ((-1)), .ref r1, .ref r2, .ref r3, .ref r4, .null, .int 0]))]) [0] rfl
  have hDc := hD.sub (ws' := [(h0, .inr (8, [.ref rp, .int 0, .ref rt, .ref rc, .int ((-1)), .ref r1, .ref r2, .ref r3, .ref r4, .null, .int 0]))]) [0] (by decide) rfl
  have hKc := hK.sub (tys' := []) [] rfl
  have hFc := va_free (wc := [(h0, .inr (8, [.ref rp, .int 0, .ref rt, .ref rc, .int ((-1)), .ref r1, .ref r2, .ref r3, .ref r4, .null, .int 0]))]) hD hS hA [0] rfl
  refine vx_callv (vx_runV (As := []) (rest := []) ⟨hx, hb, hml, hown, hts⟩ (c_cPr l dC dI tp te s.heap.size hlt h0 rp rt rc r1 r2 r3 r4) (cwV 0 hts g_X_stateAnew_1 rfl rfl rfl (by decide +kernel) ⟨Nat.le_of_ble_eq_true rfl, Nat.le_of_ble_eq_true rfl⟩) ⟨Pw.blind, va_recv hKc hPc (ci := 8) (q0 := 0) rfl rfl, Pw.mk hPc hKc hDc hG hS hFc⟩ rfl rfl hl.1 rfl (lv_room (Nat.le_of_ble_eq_true rfl)) dX7_stateAnew_1 ⟨Nat.le_of_ble_eq_true rfl, Nat.le_of_ble_eq_true rfl⟩) hS (fun q _ h => hFc q h) hFc (fun q _ h => hFc q h) (fun E ce q9 u t9 H1 locs ht hvm hpx hBX hz1 hk1 hS hce hcv hcl => ?_) (fun u t9 H_1 locs ht hvm hw hB hz1 hk1 hS => hw.elim)
  have hBX : E = "java/lang/IllegalStateException" := hBX
  subst hBX
  exact vx_out (fun x9 h9 => (htab x9 h9).elim) hlocks hce hcv hcl (fun t9 ht9 _ => ⟨(), trivial, rfl, hS.F ht9⟩) hS.2.2 (Nat.le_of_ble_eq_true rfl) (Nat.le_of_ble_eq_true rfl)

set_option maxRecDepth 20000 in
def z_X_valueAnew : List Cond := .code yX7_valueAnew cX7_valueAnew 2 (some .long) :: (([.methodLink RX7 110 yX7_checkProgram, .instanceMethod yX7_checkProgram, .selects RX7 yX7_checkProgram yX7_checkProgram, .initialized RX7, .code yX7_checkProgram cX7_checkProgram 1 none, .fieldLink RX7 24 "Selfkindle" "wrong" "I", .classLink RX7 75 "java/lang/IllegalStateException", .initialized "java/lang/IllegalStateException"] : List Cond) ++ wsX70 ++ (vx_at0 RX7 77 "java/lang/IllegalStateException" ["java/lang/RuntimeException", "java/lang/Exception"]).filter goodWord)
theorem in_z_X_valueAnew_X7 : ∀ w ∈ wsX70, w ∈ z_X_valueAnew := fun w h => List.mem_cons_of_mem _ (List.mem_append_left _ (List.mem_append_right _ (h)))
set_option maxRecDepth 20000 in
theorem gg_X_valueAnew_1 : GoodIn z_X_valueAnew z_cPr := goodIn_ca (goodIn_p _ [5] rfl (by decide +kernel)) (goodIn_sub (fun _ h => List.mem_cons_of_mem _ (List.mem_append_right _ (h))) (by decide +kernel))
set_option maxRecDepth 20000 in
theorem g_X_valueAnew_1 : GoodIn z_X_valueAnew (wsV RX7 110 RX7 yX7_checkProgram z_cPr) := goodIn_app (goodIn_of _ (by decide +kernel)) gg_X_valueAnew_1
set_option maxHeartbeats 4000000 in
set_option maxRecDepth 100000 in
theorem c_X_valueAnew (l : Launch) (dC : Nat → ClassId) (dI : Nat → Nat → Nat) (tp te : Nat) (sz : Nat) (hlt : l.stackTraces = false) (h0 : Nat) (rp : Nat) (rt : Nat) (rc : Nat) (r1 : Nat) (r2 : Nat) (r3 : Nat) (r4 : Nat)  : vx_Met l yX7_valueAnew z_X_valueAnew ({ frames := 7, cells := 1, slots := 6, locals := 101 }) (va_Pc [.ref h0] (Pw dC dI [(h0, .inr (8, [.ref rp, .int 0, .ref rt, .ref rc, .int ((-1)), .ref r1, .ref r2, .ref r3, .ref r4, .null, .int 0]))] [] sz tp te)) (va_Ql (fun (r : Int64) (_ : Unit) => False) (fun (_ : Unit) (_ : State) => True) (va_A [(h0, .inr (8, [.ref rp, .int 0, .ref rt, .ref rc, .int ((-1)), .ref r1, .ref r2, .ref r3, .ref r4, .null, .int 0]))] sz)) (vx_X (fun (_ : Unit) => True) (fun (E : String) (_ : Unit) (_ : State) => E = "java/lang/IllegalStateException") (va_A [(h0, .inr (8, [.ref rp, .int 0, .ref rt, .ref rc, .int ((-1)), .ref r1, .ref r2, .ref r3, .ref r4, .null, .int 0]))] sz)) 1 6 (va_A [(h0, .inr (8, [.ref rp, .int 0, .ref rt, .ref rc, .int ((-1)), .ref r1, .ref r2, .ref r3, .ref r4, .null, .int 0]))] sz) := by
  refine vx_ofW (cc := cX7_valueAnew) (maxL := 2) (ret := (some .long)) (by decide) rfl ?_
  intro p e s m args below meth c s₁ B hml htab hv
  obtain ⟨rfl, hsz, hP, hK, hD0, hG⟩ := hv
  have hx := B.exec
  have hb := B.bytes
  have hr := B.returns
  have hts := atoms_spec (ws := z_X_valueAnew) B.pre
  have hown : s.vm.findClass RX7 = some m.cls := findClass_of_methodNamed B.named
  have hlocks := B.notSynchronized
  subst hsz
  have hD := hD0.self (sz := s.heap.size)
  generalize hAe : va_A [(h0, .inr (8, [.ref rp, .int 0, .ref rt, .ref rc, .int ((-1)), .ref r1, .ref r2, .ref r3, .ref r4, .null, .int 0]))] s.heap.size = A at hD hG ⊢
  have hA : ∀ q : Nat, s.heap.size ≤ q → A q := fun q h => by rw [← hAe]; exact Or.inr h
  have hS : va_S A s.heap s.heap [] := va_S.rf
  have hl := lv_entry ([.ref h0]) (n := 2) (Nat.le_of_ble_eq_true rfl)
  rw [lg_entry_eq]
  generalize (lg_sl ([.ref h0]) ++ List.replicate (2 - (lg_sl ([.ref h0])).length) Slot.unset).toArray = ls at hl ⊢
  have hl : lv_has ls 2 [(0, .ref h0)] := hl
  refine lv_aload_n hx hb dX7_valueAnew_0 rfl (lv_at hl 0 rfl) ?_
  have hPc := hP.sub (ws' := [(h0, .inr (8, [.ref rp, .int 0, .ref rt, .ref rc, .int ((-1)), .ref r1, .ref r2, .ref r3, .ref r4, .null, .int 0]))]) [0] rfl
  have hDc := hD.sub (ws' := [(h0, .inr (8, [.ref rp, .int 0, .ref rt, .ref rc, .int ((-1)), .ref r1, .ref r2, .ref r3, .ref r4, .null, .int 0]))]) [0] (by decide) rfl
  have hKc := hK.sub (tys' := []) [] rfl
  have hFc := va_free (wc := [(h0, .inr (8, [.ref rp, .int 0, .ref rt, .ref rc, .int ((-1)), .ref r1, .ref r2, .ref r3, .ref r4, .null, .int 0]))]) hD hS hA [0] rfl
  refine vx_callv (vx_runV (As := []) (rest := []) ⟨hx, hb, hml, hown, hts⟩ (c_cPr l dC dI tp te s.heap.size hlt h0 rp rt rc r1 r2 r3 r4) (cwV 0 hts g_X_valueAnew_1 rfl rfl rfl (by decide +kernel) ⟨Nat.le_of_ble_eq_true rfl, Nat.le_of_ble_eq_true rfl⟩) ⟨Pw.blind, va_recv hKc hPc (ci := 8) (q0 := 0) rfl rfl, Pw.mk hPc hKc hDc hG hS hFc⟩ rfl rfl hl.1 rfl (lv_room (Nat.le_of_ble_eq_true rfl)) dX7_valueAnew_1 ⟨Nat.le_of_ble_eq_true rfl, Nat.le_of_ble_eq_true rfl⟩) hS (fun q _ h => hFc q h) hFc (fun q _ h => hFc q h) (fun E ce q9 u t9 H1 locs ht hvm hpx hBX hz1 hk1 hS hce hcv hcl => ?_) (fun u t9 H_1 locs ht hvm hw hB hz1 hk1 hS => hw.elim)
  have hBX : E = "java/lang/IllegalStateException" := hBX
  subst hBX
  exact vx_out (fun x9 h9 => (htab x9 h9).elim) hlocks hce hcv hcl (fun t9 ht9 _ => ⟨(), trivial, rfl, hS.F ht9⟩) hS.2.2 (Nat.le_of_ble_eq_true rfl) (Nat.le_of_ble_eq_true rfl)

set_option maxRecDepth 20000 in
def z_X_order : List Cond := .code yX7_order cX7_order 3 (some .long) :: (([.methodLink RX7 121 yX7_checkOrder, .instanceMethod yX7_checkOrder, .selects RX7 yX7_checkOrder yX7_checkOrder, .initialized RX7, .code yX7_checkOrder cX7_checkOrder 2 none, .fieldLink RX7 24 "Selfkindle" "wrong" "I", .classLink RX7 107 "java/lang/IndexOutOfBoundsException", .initialized "java/lang/IndexOutOfBoundsException"] : List Cond) ++ wsX70 ++ (vx_at0 RX7 109 "java/lang/IndexOutOfBoundsException" ["java/lang/RuntimeException", "java/lang/Exception"]).filter goodWord)
theorem in_z_X_order_X7 : ∀ w ∈ wsX70, w ∈ z_X_order := fun w h => List.mem_cons_of_mem _ (List.mem_append_left _ (List.mem_append_right _ (h)))
set_option maxRecDepth 20000 in
theorem gg_X_order_2 : GoodIn z_X_order z_cOr := goodIn_ca (goodIn_p _ [5] rfl (by decide +kernel)) (goodIn_sub (fun _ h => List.mem_cons_of_mem _ (List.mem_append_right _ (h))) (by decide +kernel))
set_option maxRecDepth 20000 in
theorem g_X_order_2 : GoodIn z_X_order (wsV RX7 121 RX7 yX7_checkOrder z_cOr) := goodIn_app (goodIn_of _ (by decide +kernel)) gg_X_order_2
set_option maxHeartbeats 4000000 in
set_option maxRecDepth 100000 in
theorem c_X_order (l : Launch) (dC : Nat → ClassId) (dI : Nat → Nat → Nat) (tp te : Nat) (sz : Nat) (hlt : l.stackTraces = false) (h0 : Nat) (rp : Nat) (rt : Nat) (rc : Nat) (r1 : Nat) (r2 : Nat) (r3 : Nat) (r4 : Nat) (p0 : Int32) (p1 : Int32)  : vx_Met l yX7_order z_X_order ({ frames := 7, cells := 1, slots := 6, locals := 102 }) (va_Pc [.ref h0, .int p0, .int p1] (Pw dC dI [(h0, .inr (8, [.ref rp, .int 0, .ref rt, .ref rc, .int ((-1)), .ref r1, .ref r2, .ref r3, .ref r4, .null, .int 0]))] [] sz tp te)) (va_Ql (fun (r : Int64) (_ : Unit) => False) (fun (_ : Unit) (_ : State) => True) (va_A [(h0, .inr (8, [.ref rp, .int 0, .ref rt, .ref rc, .int ((-1)), .ref r1, .ref r2, .ref r3, .ref r4, .null, .int 0]))] sz)) (vx_X (fun (_ : Unit) => True) (fun (E : String) (_ : Unit) (_ : State) => E = "java/lang/IndexOutOfBoundsException") (va_A [(h0, .inr (8, [.ref rp, .int 0, .ref rt, .ref rc, .int ((-1)), .ref r1, .ref r2, .ref r3, .ref r4, .null, .int 0]))] sz)) 1 6 (va_A [(h0, .inr (8, [.ref rp, .int 0, .ref rt, .ref rc, .int ((-1)), .ref r1, .ref r2, .ref r3, .ref r4, .null, .int 0]))] sz) := by
  refine vx_ofW (cc := cX7_order) (maxL := 3) (ret := (some .long)) (by decide) rfl ?_
  intro p e s m args below meth c s₁ B hml htab hv
  obtain ⟨rfl, hsz, hP, hK, hD0, hG⟩ := hv
  have hx := B.exec
  have hb := B.bytes
  have hr := B.returns
  have hts := atoms_spec (ws := z_X_order) B.pre
  have hown : s.vm.findClass RX7 = some m.cls := findClass_of_methodNamed B.named
  have hlocks := B.notSynchronized
  subst hsz
  have hD := hD0.self (sz := s.heap.size)
  generalize hAe : va_A [(h0, .inr (8, [.ref rp, .int 0, .ref rt, .ref rc, .int ((-1)), .ref r1, .ref r2, .ref r3, .ref r4, .null, .int 0]))] s.heap.size = A at hD hG ⊢
  have hA : ∀ q : Nat, s.heap.size ≤ q → A q := fun q h => by rw [← hAe]; exact Or.inr h
  have hS : va_S A s.heap s.heap [] := va_S.rf
  have hl := lv_entry ([.ref h0, .int p0, .int p1]) (n := 3) (Nat.le_of_ble_eq_true rfl)
  rw [lg_entry_eq]
  generalize (lg_sl ([.ref h0, .int p0, .int p1]) ++ List.replicate (3 - (lg_sl ([.ref h0, .int p0, .int p1])).length) Slot.unset).toArray = ls at hl ⊢
  have hl : lv_has ls 3 [(0, .ref h0), (1, .int p0), (2, .int p1)] := hl
  refine lv_aload_n hx hb dX7_order_0 rfl (lv_at hl 0 rfl) ?_
  refine lv_iload_n hx hb dX7_order_1 rfl (lv_at hl 1 rfl) ?_
  have hPc := hP.sub (ws' := [(h0, .inr (8, [.ref rp, .int 0, .ref rt, .ref rc, .int ((-1)), .ref r1, .ref r2, .ref r3, .ref r4, .null, .int 0]))]) [0] rfl
  have hDc := hD.sub (ws' := [(h0, .inr (8, [.ref rp, .int 0, .ref rt, .ref rc, .int ((-1)), .ref r1, .ref r2, .ref r3, .ref r4, .null, .int 0]))]) [0] (by decide) rfl
  have hKc := hK.sub (tys' := []) [] rfl
  have hFc := va_free (wc := [(h0, .inr (8, [.ref rp, .int 0, .ref rt, .ref rc, .int ((-1)), .ref r1, .ref r2, .ref r3, .ref r4, .null, .int 0]))]) hD hS hA [0] rfl
  refine vx_callv (vx_runV (As := [.int p0]) (rest := []) ⟨hx, hb, hml, hown, hts⟩ (c_cOr l dC dI tp te s.heap.size hlt h0 rp rt rc r1 r2 r3 r4 p0) (cwV 1 hts g_X_order_2 rfl rfl rfl (by decide +kernel) ⟨Nat.le_of_ble_eq_true rfl, Nat.le_of_ble_eq_true rfl⟩) ⟨Pw.blind, va_recv hKc hPc (ci := 8) (q0 := 0) rfl rfl, Pw.mk hPc hKc hDc hG hS hFc⟩ rfl rfl hl.1 rfl (lv_room (Nat.le_of_ble_eq_true rfl)) dX7_order_2 ⟨Nat.le_of_ble_eq_true rfl, Nat.le_of_ble_eq_true rfl⟩) hS (fun q _ h => hFc q h) hFc (fun q _ h => hFc q h) (fun E ce q9 u t9 H1 locs ht hvm hpx hBX hz1 hk1 hS hce hcv hcl => ?_) (fun u t9 H_1 locs ht hvm hw hB hz1 hk1 hS => hw.elim)
  have hBX : E = "java/lang/IndexOutOfBoundsException" := hBX
  subst hBX
  exact vx_out (fun x9 h9 => (htab x9 h9).elim) hlocks hce hcv hcl (fun t9 ht9 _ => ⟨(), trivial, rfl, hS.F ht9⟩) hS.2.2 (Nat.le_of_ble_eq_true rfl) (Nat.le_of_ble_eq_true rfl)

set_option maxRecDepth 20000 in
def z_X_stop : List Cond := .code yX7_stop cX7_stop 4 (some .boolean) :: (([.methodLink RX7 121 yX7_checkOrder, .instanceMethod yX7_checkOrder, .selects RX7 yX7_checkOrder yX7_checkOrder, .initialized RX7, .code yX7_checkOrder cX7_checkOrder 2 none, .fieldLink RX7 24 "Selfkindle" "wrong" "I", .classLink RX7 107 "java/lang/IndexOutOfBoundsException", .initialized "java/lang/IndexOutOfBoundsException"] : List Cond) ++ wsX70 ++ (vx_at0 RX7 109 "java/lang/IndexOutOfBoundsException" ["java/lang/RuntimeException", "java/lang/Exception"]).filter goodWord)
theorem in_z_X_stop_X7 : ∀ w ∈ wsX70, w ∈ z_X_stop := fun w h => List.mem_cons_of_mem _ (List.mem_append_left _ (List.mem_append_right _ (h)))
set_option maxRecDepth 20000 in
theorem gg_X_stop_2 : GoodIn z_X_stop z_cOr := goodIn_ca (goodIn_p _ [5] rfl (by decide +kernel)) (goodIn_sub (fun _ h => List.mem_cons_of_mem _ (List.mem_append_right _ (h))) (by decide +kernel))
set_option maxRecDepth 20000 in
theorem g_X_stop_2 : GoodIn z_X_stop (wsV RX7 121 RX7 yX7_checkOrder z_cOr) := goodIn_app (goodIn_of _ (by decide +kernel)) gg_X_stop_2
set_option maxHeartbeats 4000000 in
set_option maxRecDepth 100000 in
theorem c_X_stop (l : Launch) (dC : Nat → ClassId) (dI : Nat → Nat → Nat) (tp te : Nat) (sz : Nat) (hlt : l.stackTraces = false) (h0 : Nat) (rp : Nat) (rt : Nat) (rc : Nat) (r1 : Nat) (r2 : Nat) (r3 : Nat) (r4 : Nat) (p0 : Int32) (p1 : Int32)  : vx_Met l yX7_stop z_X_stop ({ frames := 7, cells := 1, slots := 6, locals := 102 }) (va_Pc [.ref h0, .int p0, .int p1] (Pw dC dI [(h0, .inr (8, [.ref rp, .int 0, .ref rt, .ref rc, .int ((-1)), .ref r1, .ref r2, .ref r3, .ref r4, .null, .int 0]))] [] sz tp te)) (va_Qi (fun (r : Int32) (_ : Unit) => False) (fun (_ : Unit) (_ : State) => True) (va_A [(h0, .inr (8, [.ref rp, .int 0, .ref rt, .ref rc, .int ((-1)), .ref r1, .ref r2, .ref r3, .ref r4, .null, .int 0]))] sz)) (vx_X (fun (_ : Unit) => True) (fun (E : String) (_ : Unit) (_ : State) => E = "java/lang/IndexOutOfBoundsException") (va_A [(h0, .inr (8, [.ref rp, .int 0, .ref rt, .ref rc, .int ((-1)), .ref r1, .ref r2, .ref r3, .ref r4, .null, .int 0]))] sz)) 1 6 (va_A [(h0, .inr (8, [.ref rp, .int 0, .ref rt, .ref rc, .int ((-1)), .ref r1, .ref r2, .ref r3, .ref r4, .null, .int 0]))] sz) := by
  refine vx_ofW (cc := cX7_stop) (maxL := 4) (ret := (some .boolean)) (by decide) rfl ?_
  intro p e s m args below meth c s₁ B hml htab hv
  obtain ⟨rfl, hsz, hP, hK, hD0, hG⟩ := hv
  have hx := B.exec
  have hb := B.bytes
  have hr := B.returns
  have hts := atoms_spec (ws := z_X_stop) B.pre
  have hown : s.vm.findClass RX7 = some m.cls := findClass_of_methodNamed B.named
  have hlocks := B.notSynchronized
  subst hsz
  have hD := hD0.self (sz := s.heap.size)
  generalize hAe : va_A [(h0, .inr (8, [.ref rp, .int 0, .ref rt, .ref rc, .int ((-1)), .ref r1, .ref r2, .ref r3, .ref r4, .null, .int 0]))] s.heap.size = A at hD hG ⊢
  have hA : ∀ q : Nat, s.heap.size ≤ q → A q := fun q h => by rw [← hAe]; exact Or.inr h
  have hS : va_S A s.heap s.heap [] := va_S.rf
  have hl := lv_entry ([.ref h0, .int p0, .int p1]) (n := 4) (Nat.le_of_ble_eq_true rfl)
  rw [lg_entry_eq]
  generalize (lg_sl ([.ref h0, .int p0, .int p1]) ++ List.replicate (4 - (lg_sl ([.ref h0, .int p0, .int p1])).length) Slot.unset).toArray = ls at hl ⊢
  have hl : lv_has ls 4 [(0, .ref h0), (1, .int p0), (2, .int p1)] := hl
  refine lv_aload_n hx hb dX7_stop_0 rfl (lv_at hl 0 rfl) ?_
  refine lv_iload_n hx hb dX7_stop_1 rfl (lv_at hl 1 rfl) ?_
  have hPc := hP.sub (ws' := [(h0, .inr (8, [.ref rp, .int 0, .ref rt, .ref rc, .int ((-1)), .ref r1, .ref r2, .ref r3, .ref r4, .null, .int 0]))]) [0] rfl
  have hDc := hD.sub (ws' := [(h0, .inr (8, [.ref rp, .int 0, .ref rt, .ref rc, .int ((-1)), .ref r1, .ref r2, .ref r3, .ref r4, .null, .int 0]))]) [0] (by decide) rfl
  have hKc := hK.sub (tys' := []) [] rfl
  have hFc := va_free (wc := [(h0, .inr (8, [.ref rp, .int 0, .ref rt, .ref rc, .int ((-1)), .ref r1, .ref r2, .ref r3, .ref r4, .null, .int 0]))]) hD hS hA [0] rfl
  refine vx_callv (vx_runV (As := [.int p0]) (rest := []) ⟨hx, hb, hml, hown, hts⟩ (c_cOr l dC dI tp te s.heap.size hlt h0 rp rt rc r1 r2 r3 r4 p0) (cwV 1 hts g_X_stop_2 rfl rfl rfl (by decide +kernel) ⟨Nat.le_of_ble_eq_true rfl, Nat.le_of_ble_eq_true rfl⟩) ⟨Pw.blind, va_recv hKc hPc (ci := 8) (q0 := 0) rfl rfl, Pw.mk hPc hKc hDc hG hS hFc⟩ rfl rfl hl.1 rfl (lv_room (Nat.le_of_ble_eq_true rfl)) dX7_stop_2 ⟨Nat.le_of_ble_eq_true rfl, Nat.le_of_ble_eq_true rfl⟩) hS (fun q _ h => hFc q h) hFc (fun q _ h => hFc q h) (fun E ce q9 u t9 H1 locs ht hvm hpx hBX hz1 hk1 hS hce hcv hcl => ?_) (fun u t9 H_1 locs ht hvm hw hB hz1 hk1 hS => hw.elim)
  have hBX : E = "java/lang/IndexOutOfBoundsException" := hBX
  subst hBX
  exact vx_out (fun x9 h9 => (htab x9 h9).elim) hlocks hce hcv hcl (fun t9 ht9 _ => ⟨(), trivial, rfl, hS.F ht9⟩) hS.2.2 (Nat.le_of_ble_eq_true rfl) (Nat.le_of_ble_eq_true rfl)

set_option maxRecDepth 20000 in
def z_X_go_neg : List Cond := .code yX7_go cX7_go 2 (some .int) :: (([.classLink RX7 69 "java/lang/IllegalArgumentException", .initialized "java/lang/IllegalArgumentException"] : List Cond) ++ (vx_at0 RX7 71 "java/lang/IllegalArgumentException" ["java/lang/RuntimeException", "java/lang/Exception"]).filter goodWord)
set_option maxHeartbeats 4000000 in
set_option maxRecDepth 100000 in
theorem c_X_go_neg (l : Launch) (dC : Nat → ClassId) (dI : Nat → Nat → Nat) (tp te : Nat) (sz : Nat) (hlt : l.stackTraces = false) (h0 : Nat) (rp : Nat) (rt : Nat) (rc : Nat) (r1 : Nat) (r2 : Nat) (r3 : Nat) (r4 : Nat) (p0 : Int32) (hv0 : p0 < 1) : vx_Met l yX7_go z_X_go_neg ({ frames := 6, cells := 1, slots := 6, locals := 81 }) (va_Pc [.ref h0, .int p0] (Pw dC dI [(h0, .inr (8, [.ref rp, .int 0, .ref rt, .ref rc, .int ((-1)), .ref r1, .ref r2, .ref r3, .ref r4, .null, .int 0]))] [] sz tp te)) (va_Qi (fun (r : Int32) (_ : Unit) => False) (fun (_ : Unit) (_ : State) => True) (va_A [(h0, .inr (8, [.ref rp, .int 0, .ref rt, .ref rc, .int ((-1)), .ref r1, .ref r2, .ref r3, .ref r4, .null, .int 0]))] sz)) (vx_X (fun (_ : Unit) => True) (fun (E : String) (_ : Unit) (_ : State) => E = "java/lang/IllegalArgumentException") (va_A [(h0, .inr (8, [.ref rp, .int 0, .ref rt, .ref rc, .int ((-1)), .ref r1, .ref r2, .ref r3, .ref r4, .null, .int 0]))] sz)) 1 6 (va_A [(h0, .inr (8, [.ref rp, .int 0, .ref rt, .ref rc, .int ((-1)), .ref r1, .ref r2, .ref r3, .ref r4, .null, .int 0]))] sz) := by
  refine vx_ofW (cc := cX7_go) (maxL := 2) (ret := (some .int)) (by decide) rfl ?_
  intro p e s m args below meth c s₁ B hml htab hv
  obtain ⟨rfl, hsz, hP, hK, hD0, hG⟩ := hv
  have hx := B.exec
  have hb := B.bytes
  have hr := B.returns
  have hts := atoms_spec (ws := z_X_go_neg) B.pre
  have hown : s.vm.findClass RX7 = some m.cls := findClass_of_methodNamed B.named
  have hlocks := B.notSynchronized
  subst hsz
  have hD := hD0.self (sz := s.heap.size)
  generalize hAe : va_A [(h0, .inr (8, [.ref rp, .int 0, .ref rt, .ref rc, .int ((-1)), .ref r1, .ref r2, .ref r3, .ref r4, .null, .int 0]))] s.heap.size = A at hD hG ⊢
  have hA : ∀ q : Nat, s.heap.size ≤ q → A q := fun q h => by rw [← hAe]; exact Or.inr h
  have hS : va_S A s.heap s.heap [] := va_S.rf
  have hl := lv_entry ([.ref h0, .int p0]) (n := 2) (Nat.le_of_ble_eq_true rfl)
  rw [lg_entry_eq]
  generalize (lg_sl ([.ref h0, .int p0]) ++ List.replicate (2 - (lg_sl ([.ref h0, .int p0])).length) Slot.unset).toArray = ls at hl ⊢
  have hl : lv_has ls 2 [(0, .ref h0), (1, .int p0)] := hl
  refine lv_iload_n hx hb dX7_go_0 rfl (lv_at hl 1 rfl) ?_
  refine lv_iconst (v := 1) hx hb dX7_go_1 (by decide) ?_
  refine lv_icmp_lt (tgt := 12) hx hb dX7_go_2 (by decide) (fun c9 => ?_) (fun c9 => absurd hv0 c9)
  exact vx_throw0 (A := A) (own := RX7) (cls := "java/lang/IllegalArgumentException") (names := ["java/lang/RuntimeException", "java/lang/Exception"]) (ik := 69) (ic := 71) hx hb hlt hown (by decide +kernel) (by decide +kernel) (hts (.classLink RX7 69 "java/lang/IllegalArgumentException") (List.mem_of_getElem? (i := 1) rfl)) (hts (.initialized "java/lang/IllegalArgumentException") (List.mem_of_getElem? (i := 2) rfl)) (vx_hat (B := [.castable "java/lang/IllegalArgumentException" "java/lang/IllegalArgumentException", .declares (Bundle.init0 "java/lang/RuntimeException"), .declares (Bundle.init0 "java/lang/Exception"), .declares (Bundle.init0 "java/lang/Throwable")]) (fun w9 h9 => hts w9 (List.mem_cons_of_mem _ (List.mem_append_right _ (h9)))) (by decide +kernel) (vx_c (va_Nw.use rfl hG.2.2.2.2.2.2.2.2.1) (vx_c (va_Nw.use rfl hG.2.2.2.2.2.2.2.2.2.2.2.2.2.2.1) (vx_c (va_Nw.use rfl hG.2.2.2.2.2.2.2.2.2.2.2.2.2.2.2.1) (vx_c (va_Nw.use rfl hG.2.2.2.2.2.2.2.2.2.2.2.2.2.2.2.2) vx_n))))) (by decide +kernel) hG.2.2.2.2.1 hG.2.2.2.2.2.1 hS (by rw [hml]; exact hl.1) dX7_go_12 dX7_go_15 dX7_go_16 dX7_go_19 (fun x9 h9 => (htab x9 h9).elim) (Nat.le_of_ble_eq_true rfl) (Nat.le_of_ble_eq_true rfl) (Nat.le_of_ble_eq_true rfl) (Nat.le_of_ble_eq_true rfl) hlocks (fun t9 _ hz9 hk9 => ⟨(), trivial, rfl, ⟨Nat.le_trans hS.1 hz9, fun q h1 h2 => (hk9 q (Nat.lt_of_lt_of_le h1 hS.1)).trans (hS.2.1 q h1 h2)⟩⟩) hS.2.2 (Nat.le_of_ble_eq_true rfl) (Nat.le_of_ble_eq_true rfl)

set_option maxRecDepth 20000 in
def z_X_go_big : List Cond := .code yX7_go cX7_go 2 (some .int) :: (([.classLink RX7 69 "java/lang/IllegalArgumentException", .initialized "java/lang/IllegalArgumentException"] : List Cond) ++ (vx_at0 RX7 71 "java/lang/IllegalArgumentException" ["java/lang/RuntimeException", "java/lang/Exception"]).filter goodWord)
set_option maxHeartbeats 4000000 in
set_option maxRecDepth 100000 in
theorem c_X_go_big (l : Launch) (dC : Nat → ClassId) (dI : Nat → Nat → Nat) (tp te : Nat) (sz : Nat) (hlt : l.stackTraces = false) (h0 : Nat) (rp : Nat) (rt : Nat) (rc : Nat) (r1 : Nat) (r2 : Nat) (r3 : Nat) (r4 : Nat) (p0 : Int32) (hv0 : ¬ p0 < 1) (hv1 : ¬ p0 ≤ 2000) : vx_Met l yX7_go z_X_go_big ({ frames := 6, cells := 1, slots := 6, locals := 81 }) (va_Pc [.ref h0, .int p0] (Pw dC dI [(h0, .inr (8, [.ref rp, .int 0, .ref rt, .ref rc, .int ((-1)), .ref r1, .ref r2, .ref r3, .ref r4, .null, .int 0]))] [] sz tp te)) (va_Qi (fun (r : Int32) (_ : Unit) => False) (fun (_ : Unit) (_ : State) => True) (va_A [(h0, .inr (8, [.ref rp, .int 0, .ref rt, .ref rc, .int ((-1)), .ref r1, .ref r2, .ref r3, .ref r4, .null, .int 0]))] sz)) (vx_X (fun (_ : Unit) => True) (fun (E : String) (_ : Unit) (_ : State) => E = "java/lang/IllegalArgumentException") (va_A [(h0, .inr (8, [.ref rp, .int 0, .ref rt, .ref rc, .int ((-1)), .ref r1, .ref r2, .ref r3, .ref r4, .null, .int 0]))] sz)) 1 6 (va_A [(h0, .inr (8, [.ref rp, .int 0, .ref rt, .ref rc, .int ((-1)), .ref r1, .ref r2, .ref r3, .ref r4, .null, .int 0]))] sz) := by
  refine vx_ofW (cc := cX7_go) (maxL := 2) (ret := (some .int)) (by decide) rfl ?_
  intro p e s m args below meth c s₁ B hml htab hv
  obtain ⟨rfl, hsz, hP, hK, hD0, hG⟩ := hv
  have hx := B.exec
  have hb := B.bytes
  have hr := B.returns
  have hts := atoms_spec (ws := z_X_go_big) B.pre
  have hown : s.vm.findClass RX7 = some m.cls := findClass_of_methodNamed B.named
  have hlocks := B.notSynchronized
  subst hsz
  have hD := hD0.self (sz := s.heap.size)
  generalize hAe : va_A [(h0, .inr (8, [.ref rp, .int 0, .ref rt, .ref rc, .int ((-1)), .ref r1, .ref r2, .ref r3, .ref r4, .null, .int 0]))] s.heap.size = A at hD hG ⊢
  have hA : ∀ q : Nat, s.heap.size ≤ q → A q := fun q h => by rw [← hAe]; exact Or.inr h
  have hS : va_S A s.heap s.heap [] := va_S.rf
  have hl := lv_entry ([.ref h0, .int p0]) (n := 2) (Nat.le_of_ble_eq_true rfl)
  rw [lg_entry_eq]
  generalize (lg_sl ([.ref h0, .int p0]) ++ List.replicate (2 - (lg_sl ([.ref h0, .int p0])).length) Slot.unset).toArray = ls at hl ⊢
  have hl : lv_has ls 2 [(0, .ref h0), (1, .int p0)] := hl
  refine lv_iload_n hx hb dX7_go_0 rfl (lv_at hl 1 rfl) ?_
  refine lv_iconst (v := 1) hx hb dX7_go_1 (by decide) ?_
  refine lv_icmp_lt (tgt := 12) hx hb dX7_go_2 (by decide) (fun c9 => absurd c9 hv0) (fun c9 => ?_)
  refine lv_iload_n hx hb dX7_go_5 rfl (lv_at hl 1 rfl) ?_
  refine lv_sipush (v := 2000) hx hb dX7_go_6 (by decide) ?_
  refine lv_icmp_le (tgt := 20) hx hb dX7_go_9 (by decide) (fun c9 => absurd c9 hv1) (fun c9 => ?_)
  exact vx_throw0 (A := A) (own := RX7) (cls := "java/lang/IllegalArgumentException") (names := ["java/lang/RuntimeException", "java/lang/Exception"]) (ik := 69) (ic := 71) hx hb hlt hown (by decide +kernel) (by decide +kernel) (hts (.classLink RX7 69 "java/lang/IllegalArgumentException") (List.mem_of_getElem? (i := 1) rfl)) (hts (.initialized "java/lang/IllegalArgumentException") (List.mem_of_getElem? (i := 2) rfl)) (vx_hat (B := [.castable "java/lang/IllegalArgumentException" "java/lang/IllegalArgumentException", .declares (Bundle.init0 "java/lang/RuntimeException"), .declares (Bundle.init0 "java/lang/Exception"), .declares (Bundle.init0 "java/lang/Throwable")]) (fun w9 h9 => hts w9 (List.mem_cons_of_mem _ (List.mem_append_right _ (h9)))) (by decide +kernel) (vx_c (va_Nw.use rfl hG.2.2.2.2.2.2.2.2.1) (vx_c (va_Nw.use rfl hG.2.2.2.2.2.2.2.2.2.2.2.2.2.2.1) (vx_c (va_Nw.use rfl hG.2.2.2.2.2.2.2.2.2.2.2.2.2.2.2.1) (vx_c (va_Nw.use rfl hG.2.2.2.2.2.2.2.2.2.2.2.2.2.2.2.2) vx_n))))) (by decide +kernel) hG.2.2.2.2.1 hG.2.2.2.2.2.1 hS (by rw [hml]; exact hl.1) dX7_go_12 dX7_go_15 dX7_go_16 dX7_go_19 (fun x9 h9 => (htab x9 h9).elim) (Nat.le_of_ble_eq_true rfl) (Nat.le_of_ble_eq_true rfl) (Nat.le_of_ble_eq_true rfl) (Nat.le_of_ble_eq_true rfl) hlocks (fun t9 _ hz9 hk9 => ⟨(), trivial, rfl, ⟨Nat.le_trans hS.1 hz9, fun q h1 h2 => (hk9 q (Nat.lt_of_lt_of_le h1 hS.1)).trans (hS.2.1 q h1 h2)⟩⟩) hS.2.2 (Nat.le_of_ble_eq_true rfl) (Nat.le_of_ble_eq_true rfl)

set_option maxRecDepth 20000 in
def z_X_go_ok : List Cond := .code yX7_go cX7_go 2 (some .int) :: (([.methodLink RX7 110 yX7_checkProgram, .instanceMethod yX7_checkProgram, .selects RX7 yX7_checkProgram yX7_checkProgram, .initialized RX7, .code yX7_checkProgram cX7_checkProgram 1 none, .fieldLink RX7 24 "Selfkindle" "wrong" "I", .classLink RX7 75 "java/lang/IllegalStateException", .initialized "java/lang/IllegalStateException"] : List Cond) ++ wsX70 ++ (vx_at0 RX7 77 "java/lang/IllegalStateException" ["java/lang/RuntimeException", "java/lang/Exception"]).filter goodWord)
theorem in_z_X_go_ok_X7 : ∀ w ∈ wsX70, w ∈ z_X_go_ok := fun w h => List.mem_cons_of_mem _ (List.mem_append_left _ (List.mem_append_right _ (h)))
set_option maxRecDepth 20000 in
theorem gg_X_go_ok_21 : GoodIn z_X_go_ok z_cPr := goodIn_ca (goodIn_p _ [5] rfl (by decide +kernel)) (goodIn_sub (fun _ h => List.mem_cons_of_mem _ (List.mem_append_right _ (h))) (by decide +kernel))
set_option maxRecDepth 20000 in
theorem g_X_go_ok_21 : GoodIn z_X_go_ok (wsV RX7 110 RX7 yX7_checkProgram z_cPr) := goodIn_app (goodIn_of _ (by decide +kernel)) gg_X_go_ok_21
set_option maxHeartbeats 4000000 in
set_option maxRecDepth 100000 in
theorem c_X_go_ok (l : Launch) (dC : Nat → ClassId) (dI : Nat → Nat → Nat) (tp te : Nat) (sz : Nat) (hlt : l.stackTraces = false) (h0 : Nat) (rp : Nat) (rt : Nat) (rc : Nat) (r1 : Nat) (r2 : Nat) (r3 : Nat) (r4 : Nat) (p0 : Int32) (hv0 : ¬ p0 < 1) (hv1 : p0 ≤ 2000) : vx_Met l yX7_go z_X_go_ok ({ frames := 7, cells := 1, slots := 6, locals := 101 }) (va_Pc [.ref h0, .int p0] (Pw dC dI [(h0, .inr (8, [.ref rp, .int 0, .ref rt, .ref rc, .int ((-1)), .ref r1, .ref r2, .ref r3, .ref r4, .null, .int 0]))] [] sz tp te)) (va_Qi (fun (r : Int32) (_ : Unit) => False) (fun (_ : Unit) (_ : State) => True) (va_A [(h0, .inr (8, [.ref rp, .int 0, .ref rt, .ref rc, .int ((-1)), .ref r1, .ref r2, .ref r3, .ref r4, .null, .int 0]))] sz)) (vx_X (fun (_ : Unit) => True) (fun (E : String) (_ : Unit) (_ : State) => E = "java/lang/IllegalStateException") (va_A [(h0, .inr (8, [.ref rp, .int 0, .ref rt, .ref rc, .int ((-1)), .ref r1, .ref r2, .ref r3, .ref r4, .null, .int 0]))] sz)) 1 6 (va_A [(h0, .inr (8, [.ref rp, .int 0, .ref rt, .ref rc, .int ((-1)), .ref r1, .ref r2, .ref r3, .ref r4, .null, .int 0]))] sz) := by
  refine vx_ofW (cc := cX7_go) (maxL := 2) (ret := (some .int)) (by decide) rfl ?_
  intro p e s m args below meth c s₁ B hml htab hv
  obtain ⟨rfl, hsz, hP, hK, hD0, hG⟩ := hv
  have hx := B.exec
  have hb := B.bytes
  have hr := B.returns
  have hts := atoms_spec (ws := z_X_go_ok) B.pre
  have hown : s.vm.findClass RX7 = some m.cls := findClass_of_methodNamed B.named
  have hlocks := B.notSynchronized
  subst hsz
  have hD := hD0.self (sz := s.heap.size)
  generalize hAe : va_A [(h0, .inr (8, [.ref rp, .int 0, .ref rt, .ref rc, .int ((-1)), .ref r1, .ref r2, .ref r3, .ref r4, .null, .int 0]))] s.heap.size = A at hD hG ⊢
  have hA : ∀ q : Nat, s.heap.size ≤ q → A q := fun q h => by rw [← hAe]; exact Or.inr h
  have hS : va_S A s.heap s.heap [] := va_S.rf
  have hl := lv_entry ([.ref h0, .int p0]) (n := 2) (Nat.le_of_ble_eq_true rfl)
  rw [lg_entry_eq]
  generalize (lg_sl ([.ref h0, .int p0]) ++ List.replicate (2 - (lg_sl ([.ref h0, .int p0])).length) Slot.unset).toArray = ls at hl ⊢
  have hl : lv_has ls 2 [(0, .ref h0), (1, .int p0)] := hl
  refine lv_iload_n hx hb dX7_go_0 rfl (lv_at hl 1 rfl) ?_
  refine lv_iconst (v := 1) hx hb dX7_go_1 (by decide) ?_
  refine lv_icmp_lt (tgt := 12) hx hb dX7_go_2 (by decide) (fun c9 => absurd c9 hv0) (fun c9 => ?_)
  refine lv_iload_n hx hb dX7_go_5 rfl (lv_at hl 1 rfl) ?_
  refine lv_sipush (v := 2000) hx hb dX7_go_6 (by decide) ?_
  refine lv_icmp_le (tgt := 20) hx hb dX7_go_9 (by decide) (fun c9 => ?_) (fun c9 => absurd hv1 c9)
  refine lv_aload_n hx hb dX7_go_20 rfl (lv_at hl 0 rfl) ?_
  have hPc := hP.sub (ws' := [(h0, .inr (8, [.ref rp, .int 0, .ref rt, .ref rc, .int ((-1)), .ref r1, .ref r2, .ref r3, .ref r4, .null, .int 0]))]) [0] rfl
  have hDc := hD.sub (ws' := [(h0, .inr (8, [.ref rp, .int 0, .ref rt, .ref rc, .int ((-1)), .ref r1, .ref r2, .ref r3, .ref r4, .null, .int 0]))]) [0] (by decide) rfl
  have hKc := hK.sub (tys' := []) [] rfl
  have hFc := va_free (wc := [(h0, .inr (8, [.ref rp, .int 0, .ref rt, .ref rc, .int ((-1)), .ref r1, .ref r2, .ref r3, .ref r4, .null, .int 0]))]) hD hS hA [0] rfl
  refine vx_callv (vx_runV (As := []) (rest := []) ⟨hx, hb, hml, hown, hts⟩ (c_cPr l dC dI tp te s.heap.size hlt h0 rp rt rc r1 r2 r3 r4) (cwV 0 hts g_X_go_ok_21 rfl rfl rfl (by decide +kernel) ⟨Nat.le_of_ble_eq_true rfl, Nat.le_of_ble_eq_true rfl⟩) ⟨Pw.blind, va_recv hKc hPc (ci := 8) (q0 := 0) rfl rfl, Pw.mk hPc hKc hDc hG hS hFc⟩ rfl rfl hl.1 rfl (lv_room (Nat.le_of_ble_eq_true rfl)) dX7_go_21 ⟨Nat.le_of_ble_eq_true rfl, Nat.le_of_ble_eq_true rfl⟩) hS (fun q _ h => hFc q h) hFc (fun q _ h => hFc q h) (fun E ce q9 u t9 H1 locs ht hvm hpx hBX hz1 hk1 hS hce hcv hcl => ?_) (fun u t9 H_1 locs ht hvm hw hB hz1 hk1 hS => hw.elim)
  have hBX : E = "java/lang/IllegalStateException" := hBX
  subst hBX
  exact vx_out (fun x9 h9 => (htab x9 h9).elim) hlocks hce hcv hcl (fun t9 ht9 _ => ⟨(), trivial, rfl, hS.F ht9⟩) hS.2.2 (Nat.le_of_ble_eq_true rfl) (Nat.le_of_ble_eq_true rfl)

set_option maxRecDepth 20000 in
def z_X_machine_neg : List Cond := .code yX7_machine cX7_machine 2 (some .int) :: (([.classLink RX7 69 "java/lang/IllegalArgumentException", .initialized "java/lang/IllegalArgumentException"] : List Cond) ++ (vx_at0 RX7 71 "java/lang/IllegalArgumentException" ["java/lang/RuntimeException", "java/lang/Exception"]).filter goodWord)
set_option maxHeartbeats 4000000 in
set_option maxRecDepth 100000 in
theorem c_X_machine_neg (l : Launch) (dC : Nat → ClassId) (dI : Nat → Nat → Nat) (tp te : Nat) (sz : Nat) (hlt : l.stackTraces = false) (h0 : Nat) (rp : Nat) (rt : Nat) (rc : Nat) (r1 : Nat) (r2 : Nat) (r3 : Nat) (r4 : Nat) (p0 : Int32) (hv0 : p0 < 0) : vx_Met l yX7_machine z_X_machine_neg ({ frames := 6, cells := 1, slots := 6, locals := 81 }) (va_Pc [.ref h0, .int p0] (Pw dC dI [(h0, .inr (8, [.ref rp, .int 0, .ref rt, .ref rc, .int ((-1)), .ref r1, .ref r2, .ref r3, .ref r4, .null, .int 0]))] [] sz tp te)) (va_Qi (fun (r : Int32) (_ : Unit) => False) (fun (_ : Unit) (_ : State) => True) (va_A [(h0, .inr (8, [.ref rp, .int 0, .ref rt, .ref rc, .int ((-1)), .ref r1, .ref r2, .ref r3, .ref r4, .null, .int 0]))] sz)) (vx_X (fun (_ : Unit) => True) (fun (E : String) (_ : Unit) (_ : State) => E = "java/lang/IllegalArgumentException") (va_A [(h0, .inr (8, [.ref rp, .int 0, .ref rt, .ref rc, .int ((-1)), .ref r1, .ref r2, .ref r3, .ref r4, .null, .int 0]))] sz)) 1 6 (va_A [(h0, .inr (8, [.ref rp, .int 0, .ref rt, .ref rc, .int ((-1)), .ref r1, .ref r2, .ref r3, .ref r4, .null, .int 0]))] sz) := by
  refine vx_ofW (cc := cX7_machine) (maxL := 2) (ret := (some .int)) (by decide) rfl ?_
  intro p e s m args below meth c s₁ B hml htab hv
  obtain ⟨rfl, hsz, hP, hK, hD0, hG⟩ := hv
  have hx := B.exec
  have hb := B.bytes
  have hr := B.returns
  have hts := atoms_spec (ws := z_X_machine_neg) B.pre
  have hown : s.vm.findClass RX7 = some m.cls := findClass_of_methodNamed B.named
  have hlocks := B.notSynchronized
  subst hsz
  have hD := hD0.self (sz := s.heap.size)
  generalize hAe : va_A [(h0, .inr (8, [.ref rp, .int 0, .ref rt, .ref rc, .int ((-1)), .ref r1, .ref r2, .ref r3, .ref r4, .null, .int 0]))] s.heap.size = A at hD hG ⊢
  have hA : ∀ q : Nat, s.heap.size ≤ q → A q := fun q h => by rw [← hAe]; exact Or.inr h
  have hS : va_S A s.heap s.heap [] := va_S.rf
  have hl := lv_entry ([.ref h0, .int p0]) (n := 2) (Nat.le_of_ble_eq_true rfl)
  rw [lg_entry_eq]
  generalize (lg_sl ([.ref h0, .int p0]) ++ List.replicate (2 - (lg_sl ([.ref h0, .int p0])).length) Slot.unset).toArray = ls at hl ⊢
  have hl : lv_has ls 2 [(0, .ref h0), (1, .int p0)] := hl
  refine lv_iload_n hx hb dX7_machine_0 rfl (lv_at hl 1 rfl) ?_
  refine lv_if_lt (tgt := 10) hx hb dX7_machine_1 (by decide) (fun c9 => ?_) (fun c9 => absurd hv0 c9)
  exact vx_throw0 (A := A) (own := RX7) (cls := "java/lang/IllegalArgumentException") (names := ["java/lang/RuntimeException", "java/lang/Exception"]) (ik := 69) (ic := 71) hx hb hlt hown (by decide +kernel) (by decide +kernel) (hts (.classLink RX7 69 "java/lang/IllegalArgumentException") (List.mem_of_getElem? (i := 1) rfl)) (hts (.initialized "java/lang/IllegalArgumentException") (List.mem_of_getElem? (i := 2) rfl)) (vx_hat (B := [.castable "java/lang/IllegalArgumentException" "java/lang/IllegalArgumentException", .declares (Bundle.init0 "java/lang/RuntimeException"), .declares (Bundle.init0 "java/lang/Exception"), .declares (Bundle.init0 "java/lang/Throwable")]) (fun w9 h9 => hts w9 (List.mem_cons_of_mem _ (List.mem_append_right _ (h9)))) (by decide +kernel) (vx_c (va_Nw.use rfl hG.2.2.2.2.2.2.2.2.1) (vx_c (va_Nw.use rfl hG.2.2.2.2.2.2.2.2.2.2.2.2.2.2.1) (vx_c (va_Nw.use rfl hG.2.2.2.2.2.2.2.2.2.2.2.2.2.2.2.1) (vx_c (va_Nw.use rfl hG.2.2.2.2.2.2.2.2.2.2.2.2.2.2.2.2) vx_n))))) (by decide +kernel) hG.2.2.2.2.1 hG.2.2.2.2.2.1 hS (by rw [hml]; exact hl.1) dX7_machine_10 dX7_machine_13 dX7_machine_14 dX7_machine_17 (fun x9 h9 => (htab x9 h9).elim) (Nat.le_of_ble_eq_true rfl) (Nat.le_of_ble_eq_true rfl) (Nat.le_of_ble_eq_true rfl) (Nat.le_of_ble_eq_true rfl) hlocks (fun t9 _ hz9 hk9 => ⟨(), trivial, rfl, ⟨Nat.le_trans hS.1 hz9, fun q h1 h2 => (hk9 q (Nat.lt_of_lt_of_le h1 hS.1)).trans (hS.2.1 q h1 h2)⟩⟩) hS.2.2 (Nat.le_of_ble_eq_true rfl) (Nat.le_of_ble_eq_true rfl)

set_option maxRecDepth 20000 in
def z_X_machine_big : List Cond := .code yX7_machine cX7_machine 2 (some .int) :: (([.classLink RX7 69 "java/lang/IllegalArgumentException", .initialized "java/lang/IllegalArgumentException"] : List Cond) ++ (vx_at0 RX7 71 "java/lang/IllegalArgumentException" ["java/lang/RuntimeException", "java/lang/Exception"]).filter goodWord)
set_option maxHeartbeats 4000000 in
set_option maxRecDepth 100000 in
theorem c_X_machine_big (l : Launch) (dC : Nat → ClassId) (dI : Nat → Nat → Nat) (tp te : Nat) (sz : Nat) (hlt : l.stackTraces = false) (h0 : Nat) (rp : Nat) (rt : Nat) (rc : Nat) (r1 : Nat) (r2 : Nat) (r3 : Nat) (r4 : Nat) (p0 : Int32) (hv0 : ¬ p0 < 0) (hv1 : ¬ p0 < 6) (hv2 : ¬ p0 ≤ 5) : vx_Met l yX7_machine z_X_machine_big ({ frames := 6, cells := 1, slots := 6, locals := 81 }) (va_Pc [.ref h0, .int p0] (Pw dC dI [(h0, .inr (8, [.ref rp, .int 0, .ref rt, .ref rc, .int ((-1)), .ref r1, .ref r2, .ref r3, .ref r4, .null, .int 0]))] [] sz tp te)) (va_Qi (fun (r : Int32) (_ : Unit) => False) (fun (_ : Unit) (_ : State) => True) (va_A [(h0, .inr (8, [.ref rp, .int 0, .ref rt, .ref rc, .int ((-1)), .ref r1, .ref r2, .ref r3, .ref r4, .null, .int 0]))] sz)) (vx_X (fun (_ : Unit) => True) (fun (E : String) (_ : Unit) (_ : State) => E = "java/lang/IllegalArgumentException") (va_A [(h0, .inr (8, [.ref rp, .int 0, .ref rt, .ref rc, .int ((-1)), .ref r1, .ref r2, .ref r3, .ref r4, .null, .int 0]))] sz)) 1 6 (va_A [(h0, .inr (8, [.ref rp, .int 0, .ref rt, .ref rc, .int ((-1)), .ref r1, .ref r2, .ref r3, .ref r4, .null, .int 0]))] sz) := by
  refine vx_ofW (cc := cX7_machine) (maxL := 2) (ret := (some .int)) (by decide) rfl ?_
  intro p e s m args below meth c s₁ B hml htab hv
  obtain ⟨rfl, hsz, hP, hK, hD0, hG⟩ := hv
  have hx := B.exec
  have hb := B.bytes
  have hr := B.returns
  have hts := atoms_spec (ws := z_X_machine_big) B.pre
  have hown : s.vm.findClass RX7 = some m.cls := findClass_of_methodNamed B.named
  have hlocks := B.notSynchronized
  subst hsz
  have hD := hD0.self (sz := s.heap.size)
  generalize hAe : va_A [(h0, .inr (8, [.ref rp, .int 0, .ref rt, .ref rc, .int ((-1)), .ref r1, .ref r2, .ref r3, .ref r4, .null, .int 0]))] s.heap.size = A at hD hG ⊢
  have hA : ∀ q : Nat, s.heap.size ≤ q → A q := fun q h => by rw [← hAe]; exact Or.inr h
  have hS : va_S A s.heap s.heap [] := va_S.rf
  have hl := lv_entry ([.ref h0, .int p0]) (n := 2) (Nat.le_of_ble_eq_true rfl)
  rw [lg_entry_eq]
  generalize (lg_sl ([.ref h0, .int p0]) ++ List.replicate (2 - (lg_sl ([.ref h0, .int p0])).length) Slot.unset).toArray = ls at hl ⊢
  have hl : lv_has ls 2 [(0, .ref h0), (1, .int p0)] := hl
  refine lv_iload_n hx hb dX7_machine_0 rfl (lv_at hl 1 rfl) ?_
  refine lv_if_lt (tgt := 10) hx hb dX7_machine_1 (by decide) (fun c9 => absurd c9 hv0) (fun c9 => ?_)
  refine lv_iload_n hx hb dX7_machine_4 rfl (lv_at hl 1 rfl) ?_
  refine lv_bipush (v := 6) hx hb dX7_machine_5 (by decide) ?_
  refine lv_icmp_lt (tgt := 18) hx hb dX7_machine_7 (by decide) (fun c9 => absurd c9 hv1) (fun c9 => ?_)
  exact vx_throw0 (A := A) (own := RX7) (cls := "java/lang/IllegalArgumentException") (names := ["java/lang/RuntimeException", "java/lang/Exception"]) (ik := 69) (ic := 71) hx hb hlt hown (by decide +kernel) (by decide +kernel) (hts (.classLink RX7 69 "java/lang/IllegalArgumentException") (List.mem_of_getElem? (i := 1) rfl)) (hts (.initialized "java/lang/IllegalArgumentException") (List.mem_of_getElem? (i := 2) rfl)) (vx_hat (B := [.castable "java/lang/IllegalArgumentException" "java/lang/IllegalArgumentException", .declares (Bundle.init0 "java/lang/RuntimeException"), .declares (Bundle.init0 "java/lang/Exception"), .declares (Bundle.init0 "java/lang/Throwable")]) (fun w9 h9 => hts w9 (List.mem_cons_of_mem _ (List.mem_append_right _ (h9)))) (by decide +kernel) (vx_c (va_Nw.use rfl hG.2.2.2.2.2.2.2.2.1) (vx_c (va_Nw.use rfl hG.2.2.2.2.2.2.2.2.2.2.2.2.2.2.1) (vx_c (va_Nw.use rfl hG.2.2.2.2.2.2.2.2.2.2.2.2.2.2.2.1) (vx_c (va_Nw.use rfl hG.2.2.2.2.2.2.2.2.2.2.2.2.2.2.2.2) vx_n))))) (by decide +kernel) hG.2.2.2.2.1 hG.2.2.2.2.2.1 hS (by rw [hml]; exact hl.1) dX7_machine_10 dX7_machine_13 dX7_machine_14 dX7_machine_17 (fun x9 h9 => (htab x9 h9).elim) (Nat.le_of_ble_eq_true rfl) (Nat.le_of_ble_eq_true rfl) (Nat.le_of_ble_eq_true rfl) (Nat.le_of_ble_eq_true rfl) hlocks (fun t9 _ hz9 hk9 => ⟨(), trivial, rfl, ⟨Nat.le_trans hS.1 hz9, fun q h1 h2 => (hk9 q (Nat.lt_of_lt_of_le h1 hS.1)).trans (hS.2.1 q h1 h2)⟩⟩) hS.2.2 (Nat.le_of_ble_eq_true rfl) (Nat.le_of_ble_eq_true rfl)

set_option maxRecDepth 20000 in
def z_X_machine_ok : List Cond := .code yX7_machine cX7_machine 2 (some .int) :: (([.methodLink RX7 110 yX7_checkProgram, .instanceMethod yX7_checkProgram, .selects RX7 yX7_checkProgram yX7_checkProgram, .initialized RX7, .code yX7_checkProgram cX7_checkProgram 1 none, .fieldLink RX7 24 "Selfkindle" "wrong" "I", .classLink RX7 75 "java/lang/IllegalStateException", .initialized "java/lang/IllegalStateException"] : List Cond) ++ wsX70 ++ (vx_at0 RX7 77 "java/lang/IllegalStateException" ["java/lang/RuntimeException", "java/lang/Exception"]).filter goodWord)
theorem in_z_X_machine_ok_X7 : ∀ w ∈ wsX70, w ∈ z_X_machine_ok := fun w h => List.mem_cons_of_mem _ (List.mem_append_left _ (List.mem_append_right _ (h)))
set_option maxRecDepth 20000 in
theorem gg_X_machine_ok_19 : GoodIn z_X_machine_ok z_cPr := goodIn_ca (goodIn_p _ [5] rfl (by decide +kernel)) (goodIn_sub (fun _ h => List.mem_cons_of_mem _ (List.mem_append_right _ (h))) (by decide +kernel))
set_option maxRecDepth 20000 in
theorem g_X_machine_ok_19 : GoodIn z_X_machine_ok (wsV RX7 110 RX7 yX7_checkProgram z_cPr) := goodIn_app (goodIn_of _ (by decide +kernel)) gg_X_machine_ok_19
set_option maxHeartbeats 4000000 in
set_option maxRecDepth 100000 in
theorem c_X_machine_ok (l : Launch) (dC : Nat → ClassId) (dI : Nat → Nat → Nat) (tp te : Nat) (sz : Nat) (hlt : l.stackTraces = false) (h0 : Nat) (rp : Nat) (rt : Nat) (rc : Nat) (r1 : Nat) (r2 : Nat) (r3 : Nat) (r4 : Nat) (p0 : Int32) (hv0 : ¬ p0 < 0) (hv1 : p0 < 6) (hv2 : p0 ≤ 5) : vx_Met l yX7_machine z_X_machine_ok ({ frames := 7, cells := 1, slots := 6, locals := 101 }) (va_Pc [.ref h0, .int p0] (Pw dC dI [(h0, .inr (8, [.ref rp, .int 0, .ref rt, .ref rc, .int ((-1)), .ref r1, .ref r2, .ref r3, .ref r4, .null, .int 0]))] [] sz tp te)) (va_Qi (fun (r : Int32) (_ : Unit) => False) (fun (_ : Unit) (_ : State) => True) (va_A [(h0, .inr (8, [.ref rp, .int 0, .ref rt, .ref rc, .int ((-1)), .ref r1, .ref r2, .ref r3, .ref r4, .null, .int 0]))] sz)) (vx_X (fun (_ : Unit) => True) (fun (E : String) (_ : Unit) (_ : State) => E = "java/lang/IllegalStateException") (va_A [(h0, .inr (8, [.ref rp, .int 0, .ref rt, .ref rc, .int ((-1)), .ref r1, .ref r2, .ref r3, .ref r4, .null, .int 0]))] sz)) 1 6 (va_A [(h0, .inr (8, [.ref rp, .int 0, .ref rt, .ref rc, .int ((-1)), .ref r1, .ref r2, .ref r3, .ref r4, .null, .int 0]))] sz) := by
  refine vx_ofW (cc := cX7_machine) (maxL := 2) (ret := (some .int)) (by decide) rfl ?_
  intro p e s m args below meth c s₁ B hml htab hv
  obtain ⟨rfl, hsz, hP, hK, hD0, hG⟩ := hv
  have hx := B.exec
  have hb := B.bytes
  have hr := B.returns
  have hts := atoms_spec (ws := z_X_machine_ok) B.pre
  have hown : s.vm.findClass RX7 = some m.cls := findClass_of_methodNamed B.named
  have hlocks := B.notSynchronized
  subst hsz
  have hD := hD0.self (sz := s.heap.size)
  generalize hAe : va_A [(h0, .inr (8, [.ref rp, .int 0, .ref rt, .ref rc, .int ((-1)), .ref r1, .ref r2, .ref r3, .ref r4, .null, .int 0]))] s.heap.size = A at hD hG ⊢
  have hA : ∀ q : Nat, s.heap.size ≤ q → A q := fun q h => by rw [← hAe]; exact Or.inr h
  have hS : va_S A s.heap s.heap [] := va_S.rf
  have hl := lv_entry ([.ref h0, .int p0]) (n := 2) (Nat.le_of_ble_eq_true rfl)
  rw [lg_entry_eq]
  generalize (lg_sl ([.ref h0, .int p0]) ++ List.replicate (2 - (lg_sl ([.ref h0, .int p0])).length) Slot.unset).toArray = ls at hl ⊢
  have hl : lv_has ls 2 [(0, .ref h0), (1, .int p0)] := hl
  refine lv_iload_n hx hb dX7_machine_0 rfl (lv_at hl 1 rfl) ?_
  refine lv_if_lt (tgt := 10) hx hb dX7_machine_1 (by decide) (fun c9 => absurd c9 hv0) (fun c9 => ?_)
  refine lv_iload_n hx hb dX7_machine_4 rfl (lv_at hl 1 rfl) ?_
  refine lv_bipush (v := 6) hx hb dX7_machine_5 (by decide) ?_
  refine lv_icmp_lt (tgt := 18) hx hb dX7_machine_7 (by decide) (fun c9 => ?_) (fun c9 => absurd hv1 c9)
  refine lv_aload_n hx hb dX7_machine_18 rfl (lv_at hl 0 rfl) ?_
  have hPc := hP.sub (ws' := [(h0, .inr (8, [.ref rp, .int 0, .ref rt, .ref rc, .int ((-1)), .ref r1, .ref r2, .ref r3, .ref r4, .null, .int 0]))]) [0] rfl
  have hDc := hD.sub (ws' := [(h0, .inr (8, [.ref rp, .int 0, .ref rt, .ref rc, .int ((-1)), .ref r1, .ref r2, .ref r3, .ref r4, .null, .int 0]))]) [0] (by decide) rfl
  have hKc := hK.sub (tys' := []) [] rfl
  have hFc := va_free (wc := [(h0, .inr (8, [.ref rp, .int 0, .ref rt, .ref rc, .int ((-1)), .ref r1, .ref r2, .ref r3, .ref r4, .null, .int 0]))]) hD hS hA [0] rfl
  refine vx_callv (vx_runV (As := []) (rest := []) ⟨hx, hb, hml, hown, hts⟩ (c_cPr l dC dI tp te s.heap.size hlt h0 rp rt rc r1 r2 r3 r4) (cwV 0 hts g_X_machine_ok_19 rfl rfl rfl (by decide +kernel) ⟨Nat.le_of_ble_eq_true rfl, Nat.le_of_ble_eq_true rfl⟩) ⟨Pw.blind, va_recv hKc hPc (ci := 8) (q0 := 0) rfl rfl, Pw.mk hPc hKc hDc hG hS hFc⟩ rfl rfl hl.1 rfl (lv_room (Nat.le_of_ble_eq_true rfl)) dX7_machine_19 ⟨Nat.le_of_ble_eq_true rfl, Nat.le_of_ble_eq_true rfl⟩) hS (fun q _ h => hFc q h) hFc (fun q _ h => hFc q h) (fun E ce q9 u t9 H1 locs ht hvm hpx hBX hz1 hk1 hS hce hcv hcl => ?_) (fun u t9 H_1 locs ht hvm hw hB hz1 hk1 hS => hw.elim)
  have hBX : E = "java/lang/IllegalStateException" := hBX
  subst hBX
  exact vx_out (fun x9 h9 => (htab x9 h9).elim) hlocks hce hcv hcl (fun t9 ht9 _ => ⟨(), trivial, rfl, hS.F ht9⟩) hS.2.2 (Nat.le_of_ble_eq_true rfl) (Nat.le_of_ble_eq_true rfl)
