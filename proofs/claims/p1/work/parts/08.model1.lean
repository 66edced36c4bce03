abbrev cX12_init : ByteArray := prog_15_method_1_code
def yX12_init : MethodName := ⟨RX12, "<init>", "(IJI[LSelfkindleModel$Term;)V"⟩
abbrev cX16_init : ByteArray := prog_10_method_1_code
def yX16_init : MethodName := ⟨RX16, "<init>", "()V"⟩
abbrev cX16_thrown : ByteArray := prog_10_method_2_code
def yX16_thrown : MethodName := ⟨RX16, "thrown", "()I"⟩
abbrev cX16_fits : ByteArray := prog_10_method_4_code
def yX16_fits : MethodName := ⟨RX16, "fits", "(I)Z"⟩
abbrev cX16_put : ByteArray := prog_10_method_5_code
def yX16_put : MethodName := ⟨RX16, "put", "(LSelfkindleModel$Term;)I"⟩
abbrev cX16_isName : ByteArray := prog_10_method_7_code
def yX16_isName : MethodName := ⟨RX16, "isName", "(I)Z"⟩
abbrev cX16_number : ByteArray := prog_10_method_8_code
def yX16_number : MethodName := ⟨RX16, "number", "(J)I"⟩
abbrev cX16_name : ByteArray := prog_10_method_9_code
def yX16_name : MethodName := ⟨RX16, "name", "(I)I"⟩
abbrev cX16_function : ByteArray := prog_10_method_10_code
def yX16_function : MethodName := ⟨RX16, "function", "(I)I"⟩
abbrev cX16_isRight : ByteArray := prog_10_method_39_code
def yX16_isRight : MethodName := ⟨RX16, "isRight", "()Z"⟩
abbrev cX16_isOrder : ByteArray := prog_10_method_58_code
def yX16_isOrder : MethodName := ⟨RX16, "isOrder", "(I)Z"⟩
def RJxa1e45 : String := "java/util/AbstractCollection"
abbrev cJxa1e45_init_da8c8 : ByteArray := prog_30_method_1_code
def yJxa1e45_init_da8c8 : MethodName := ⟨RJxa1e45, "<init>", "()V"⟩
def RJxc12de : String := "java/util/AbstractList"
abbrev cJxc12de_init_da8c8 : ByteArray := prog_31_method_1_code
def yJxc12de_init_da8c8 : MethodName := ⟨RJxc12de, "<init>", "()V"⟩
abbrev cJx4a65c_init_da8c8 : ByteArray := prog_32_method_2_code
def yJx4a65c_init_da8c8 : MethodName := ⟨RJx4a65c, "<init>", "()V"⟩
abbrev cJx4a65c_grow_92f84 : ByteArray := prog_32_method_6_code
def yJx4a65c_grow_92f84 : MethodName := ⟨RJx4a65c, "grow", "(I)[Ljava/lang/Object;"⟩
abbrev cJx4a65c_grow_d5877 : ByteArray := prog_32_method_7_code
def yJx4a65c_grow_d5877 : MethodName := ⟨RJx4a65c, "grow", "()[Ljava/lang/Object;"⟩
abbrev cJx4a65c_size_8abf5 : ByteArray := prog_32_method_8_code
def yJx4a65c_size_8abf5 : MethodName := ⟨RJx4a65c, "size", "()I"⟩
abbrev cJx4a65c_isEmpty_aae02 : ByteArray := prog_32_method_9_code
def yJx4a65c_isEmpty_aae02 : MethodName := ⟨RJx4a65c, "isEmpty", "()Z"⟩
abbrev cJx4a65c_add_72be8 : ByteArray := prog_32_method_24_code
def yJx4a65c_add_72be8 : MethodName := ⟨RJx4a65c, "add", "(Ljava/lang/Object;[Ljava/lang/Object;I)V"⟩
abbrev cJx4a65c_add_9ea2d : ByteArray := prog_32_method_25_code
def yJx4a65c_add_9ea2d : MethodName := ⟨RJx4a65c, "add", "(Ljava/lang/Object;)Z"⟩
theorem dX12_init_0 : decode cX12_init 0 = .ok (.aload_n 0, 1) := by decide +kernel
theorem dX12_init_1 : decode cX12_init 1 = .ok (.invokespecial 3, 3) := by decide +kernel
theorem dX12_init_4 : decode cX12_init 4 = .ok (.aload_n 0, 1) := by decide +kernel
theorem dX12_init_5 : decode cX12_init 5 = .ok (.iload_n 1, 1) := by decide +kernel
theorem dX12_init_6 : decode cX12_init 6 = .ok (.putfield 9, 3) := by decide +kernel
theorem dX12_init_9 : decode cX12_init 9 = .ok (.aload_n 0, 1) := by decide +kernel
theorem dX12_init_10 : decode cX12_init 10 = .ok (.lload_n 2, 1) := by decide +kernel
theorem dX12_init_11 : decode cX12_init 11 = .ok (.putfield 15, 3) := by decide +kernel
theorem dX12_init_14 : decode cX12_init 14 = .ok (.aload_n 0, 1) := by decide +kernel
theorem dX12_init_15 : decode cX12_init 15 = .ok (.iload 4, 2) := by decide +kernel
theorem dX12_init_17 : decode cX12_init 17 = .ok (.putfield 19, 3) := by decide +kernel
theorem dX12_init_20 : decode cX12_init 20 = .ok (.aload_n 0, 1) := by decide +kernel
theorem dX12_init_21 : decode cX12_init 21 = .ok (.aload 5, 2) := by decide +kernel
theorem dX12_init_23 : decode cX12_init 23 = .ok (.putfield 22, 3) := by decide +kernel
theorem dX12_init_26 : decode cX12_init 26 = .ok (.iconst 1, 1) := by decide +kernel
theorem dX12_init_27 : decode cX12_init 27 = .ok (.istore 6, 2) := by decide +kernel
theorem dX12_init_29 : decode cX12_init 29 = .ok (.iconst 0, 1) := by decide +kernel
theorem dX12_init_30 : decode cX12_init 30 = .ok (.istore 7, 2) := by decide +kernel
theorem dX12_init_32 : decode cX12_init 32 = .ok (.iload 7, 2) := by decide +kernel
theorem dX12_init_34 : decode cX12_init 34 = .ok (.aload 5, 2) := by decide +kernel
theorem dX12_init_36 : decode cX12_init 36 = .ok (.arraylength, 1) := by decide +kernel
theorem dX12_init_37 : decode cX12_init 37 = .ok (.if_icmp .ge 22, 3) := by decide +kernel
theorem dX12_init_59 : decode cX12_init 59 = .ok (.aload_n 0, 1) := by decide +kernel
theorem dX12_init_60 : decode cX12_init 60 = .ok (.iload 6, 2) := by decide +kernel
theorem dX12_init_62 : decode cX12_init 62 = .ok (.putfield 26, 3) := by decide +kernel
theorem dX12_init_65 : decode cX12_init 65 = .ok (.return_, 1) := by decide +kernel
theorem dX16_init_0 : decode cX16_init 0 = .ok (.aload_n 0, 1) := by decide +kernel
theorem dX16_init_1 : decode cX16_init 1 = .ok (.invokespecial 1, 3) := by decide +kernel
theorem dX16_init_4 : decode cX16_init 4 = .ok (.aload_n 0, 1) := by decide +kernel
theorem dX16_init_5 : decode cX16_init 5 = .ok (.new 7, 3) := by decide +kernel
theorem dX16_init_8 : decode cX16_init 8 = .ok (.dup, 1) := by decide +kernel
theorem dX16_init_9 : decode cX16_init 9 = .ok (.invokespecial 9, 3) := by decide +kernel
theorem dX16_init_12 : decode cX16_init 12 = .ok (.putfield 10, 3) := by decide +kernel
theorem dX16_init_15 : decode cX16_init 15 = .ok (.aload_n 0, 1) := by decide +kernel
theorem dX16_init_16 : decode cX16_init 16 = .ok (.new 7, 3) := by decide +kernel
theorem dX16_init_19 : decode cX16_init 19 = .ok (.dup, 1) := by decide +kernel
theorem dX16_init_20 : decode cX16_init 20 = .ok (.invokespecial 9, 3) := by decide +kernel
theorem dX16_init_23 : decode cX16_init 23 = .ok (.putfield 16, 3) := by decide +kernel
theorem dX16_init_26 : decode cX16_init 26 = .ok (.aload_n 0, 1) := by decide +kernel
theorem dX16_init_27 : decode cX16_init 27 = .ok (.new 7, 3) := by decide +kernel
theorem dX16_init_30 : decode cX16_init 30 = .ok (.dup, 1) := by decide +kernel
theorem dX16_init_31 : decode cX16_init 31 = .ok (.invokespecial 9, 3) := by decide +kernel
theorem dX16_init_34 : decode cX16_init 34 = .ok (.putfield 19, 3) := by decide +kernel
theorem dX16_init_37 : decode cX16_init 37 = .ok (.aload_n 0, 1) := by decide +kernel
theorem dX16_init_38 : decode cX16_init 38 = .ok (.new 7, 3) := by decide +kernel
theorem dX16_init_41 : decode cX16_init 41 = .ok (.dup, 1) := by decide +kernel
theorem dX16_init_42 : decode cX16_init 42 = .ok (.invokespecial 9, 3) := by decide +kernel
theorem dX16_init_45 : decode cX16_init 45 = .ok (.putfield 22, 3) := by decide +kernel
theorem dX16_init_48 : decode cX16_init 48 = .ok (.aload_n 0, 1) := by decide +kernel
theorem dX16_init_49 : decode cX16_init 49 = .ok (.new 7, 3) := by decide +kernel
theorem dX16_init_52 : decode cX16_init 52 = .ok (.dup, 1) := by decide +kernel
theorem dX16_init_53 : decode cX16_init 53 = .ok (.invokespecial 9, 3) := by decide +kernel
theorem dX16_init_56 : decode cX16_init 56 = .ok (.putfield 25, 3) := by decide +kernel
theorem dX16_init_59 : decode cX16_init 59 = .ok (.aload_n 0, 1) := by decide +kernel
theorem dX16_init_60 : decode cX16_init 60 = .ok (.new 7, 3) := by decide +kernel
theorem dX16_init_63 : decode cX16_init 63 = .ok (.dup, 1) := by decide +kernel
theorem dX16_init_64 : decode cX16_init 64 = .ok (.invokespecial 9, 3) := by decide +kernel
theorem dX16_init_67 : decode cX16_init 67 = .ok (.putfield 28, 3) := by decide +kernel
theorem dX16_init_70 : decode cX16_init 70 = .ok (.aload_n 0, 1) := by decide +kernel
theorem dX16_init_71 : decode cX16_init 71 = .ok (.new 7, 3) := by decide +kernel
theorem dX16_init_74 : decode cX16_init 74 = .ok (.dup, 1) := by decide +kernel
theorem dX16_init_75 : decode cX16_init 75 = .ok (.invokespecial 9, 3) := by decide +kernel
theorem dX16_init_78 : decode cX16_init 78 = .ok (.putfield 31, 3) := by decide +kernel
theorem dX16_init_81 : decode cX16_init 81 = .ok (.aload_n 0, 1) := by decide +kernel
theorem dX16_init_82 : decode cX16_init 82 = .ok (.new 7, 3) := by decide +kernel
theorem dX16_init_85 : decode cX16_init 85 = .ok (.dup, 1) := by decide +kernel
theorem dX16_init_86 : decode cX16_init 86 = .ok (.invokespecial 9, 3) := by decide +kernel
theorem dX16_init_89 : decode cX16_init 89 = .ok (.putfield 34, 3) := by decide +kernel
theorem dX16_init_92 : decode cX16_init 92 = .ok (.aload_n 0, 1) := by decide +kernel
theorem dX16_init_93 : decode cX16_init 93 = .ok (.new 7, 3) := by decide +kernel
theorem dX16_init_96 : decode cX16_init 96 = .ok (.dup, 1) := by decide +kernel
theorem dX16_init_97 : decode cX16_init 97 = .ok (.invokespecial 9, 3) := by decide +kernel
theorem dX16_init_100 : decode cX16_init 100 = .ok (.putfield 37, 3) := by decide +kernel
theorem dX16_init_103 : decode cX16_init 103 = .ok (.return_, 1) := by decide +kernel
theorem dX16_thrown_0 : decode cX16_thrown 0 = .ok (.aload_n 0, 1) := by decide +kernel
theorem dX16_thrown_1 : decode cX16_thrown 1 = .ok (.getfield 40, 3) := by decide +kernel
theorem dX16_thrown_4 : decode cX16_thrown 4 = .ok (.ireturn, 1) := by decide +kernel
theorem dX16_fits_0 : decode cX16_fits 0 = .ok (.aload_n 0, 1) := by decide +kernel
theorem dX16_fits_1 : decode cX16_fits 1 = .ok (.getfield 10, 3) := by decide +kernel
theorem dX16_fits_4 : decode cX16_fits 4 = .ok (.invokevirtual 44, 3) := by decide +kernel
theorem dX16_fits_7 : decode cX16_fits 7 = .ok (.iload_n 1, 1) := by decide +kernel
theorem dX16_fits_8 : decode cX16_fits 8 = .ok (.if_icmp .lt 7, 3) := by decide +kernel
theorem dX16_fits_15 : decode cX16_fits 15 = .ok (.iconst 0, 1) := by decide +kernel
theorem dX16_fits_16 : decode cX16_fits 16 = .ok (.istore_n 2, 1) := by decide +kernel
theorem dX16_fits_17 : decode cX16_fits 17 = .ok (.iconst 1, 1) := by decide +kernel
theorem dX16_fits_18 : decode cX16_fits 18 = .ok (.istore_n 3, 1) := by decide +kernel
theorem dX16_fits_19 : decode cX16_fits 19 = .ok (.iconst 0, 1) := by decide +kernel
theorem dX16_fits_20 : decode cX16_fits 20 = .ok (.istore 4, 2) := by decide +kernel
theorem dX16_fits_22 : decode cX16_fits 22 = .ok (.iload 4, 2) := by decide +kernel
theorem dX16_fits_24 : decode cX16_fits 24 = .ok (.iload_n 1, 1) := by decide +kernel
theorem dX16_fits_25 : decode cX16_fits 25 = .ok (.if_icmp .ge 25, 3) := by decide +kernel
theorem dX16_fits_28 : decode cX16_fits 28 = .ok (.iload_n 2, 1) := by decide +kernel
theorem dX16_fits_29 : decode cX16_fits 29 = .ok (.ifCond .eq 21, 3) := by decide +kernel
theorem dX16_fits_50 : decode cX16_fits 50 = .ok (.iload_n 2, 1) := by decide +kernel
theorem dX16_fits_51 : decode cX16_fits 51 = .ok (.ifCond .eq 13, 3) := by decide +kernel
theorem dX16_fits_64 : decode cX16_fits 64 = .ok (.iconst 0, 1) := by decide +kernel
theorem dX16_fits_65 : decode cX16_fits 65 = .ok (.ireturn, 1) := by decide +kernel
theorem dX16_put_0 : decode cX16_put 0 = .ok (.aload_n 0, 1) := by decide +kernel
theorem dX16_put_1 : decode cX16_put 1 = .ok (.getfield 10, 3) := by decide +kernel
theorem dX16_put_4 : decode cX16_put 4 = .ok (.aload_n 1, 1) := by decide +kernel
theorem dX16_put_5 : decode cX16_put 5 = .ok (.invokevirtual 60, 3) := by decide +kernel
theorem dX16_put_8 : decode cX16_put 8 = .ok (.pop, 1) := by decide +kernel
theorem dX16_put_9 : decode cX16_put 9 = .ok (.aload_n 0, 1) := by decide +kernel
theorem dX16_put_10 : decode cX16_put 10 = .ok (.getfield 10, 3) := by decide +kernel
theorem dX16_put_13 : decode cX16_put 13 = .ok (.invokevirtual 44, 3) := by decide +kernel
theorem dX16_put_16 : decode cX16_put 16 = .ok (.ireturn, 1) := by decide +kernel
theorem dX16_isName_0 : decode cX16_isName 0 = .ok (.iload_n 0, 1) := by decide +kernel
theorem dX16_isName_1 : decode cX16_isName 1 = .ok (.ifCond .lt 13, 3) := by decide +kernel
theorem dX16_isName_4 : decode cX16_isName 4 = .ok (.iload_n 0, 1) := by decide +kernel
theorem dX16_isName_5 : decode cX16_isName 5 = .ok (.bipush 10, 2) := by decide +kernel
theorem dX16_isName_7 : decode cX16_isName 7 = .ok (.if_icmp .ge 7, 3) := by decide +kernel
theorem dX16_isName_10 : decode cX16_isName 10 = .ok (.iconst 1, 1) := by decide +kernel
theorem dX16_isName_11 : decode cX16_isName 11 = .ok (.goto 4, 3) := by decide +kernel
theorem dX16_isName_14 : decode cX16_isName 14 = .ok (.iconst 0, 1) := by decide +kernel
theorem dX16_isName_15 : decode cX16_isName 15 = .ok (.ireturn, 1) := by decide +kernel
theorem dX16_number_0 : decode cX16_number 0 = .ok (.aload_n 0, 1) := by decide +kernel
theorem dX16_number_1 : decode cX16_number 1 = .ok (.aload_n 0, 1) := by decide +kernel
theorem dX16_number_2 : decode cX16_number 2 = .ok (.getfield 10, 3) := by decide +kernel
theorem dX16_number_5 : decode cX16_number 5 = .ok (.invokevirtual 44, 3) := by decide +kernel
theorem dX16_number_8 : decode cX16_number 8 = .ok (.bipush 20, 2) := by decide +kernel
theorem dX16_number_10 : decode cX16_number 10 = .ok (.if_icmp .ne 7, 3) := by decide +kernel
theorem dX16_number_17 : decode cX16_number 17 = .ok (.iconst 0, 1) := by decide +kernel
theorem dX16_number_18 : decode cX16_number 18 = .ok (.putfield 40, 3) := by decide +kernel
theorem dX16_number_21 : decode cX16_number 21 = .ok (.aload_n 0, 1) := by decide +kernel
theorem dX16_number_22 : decode cX16_number 22 = .ok (.getfield 40, 3) := by decide +kernel
theorem dX16_number_25 : decode cX16_number 25 = .ok (.ifCond .le 7, 3) := by decide +kernel
theorem dX16_number_32 : decode cX16_number 32 = .ok (.aload_n 0, 1) := by decide +kernel
theorem dX16_number_33 : decode cX16_number 33 = .ok (.new 52, 3) := by decide +kernel
theorem dX16_number_36 : decode cX16_number 36 = .ok (.dup, 1) := by decide +kernel
theorem dX16_number_37 : decode cX16_number 37 = .ok (.iconst 0, 1) := by decide +kernel
theorem dX16_number_38 : decode cX16_number 38 = .ok (.lload_n 1, 1) := by decide +kernel
theorem dX16_number_39 : decode cX16_number 39 = .ok (.iconst 0, 1) := by decide +kernel
theorem dX16_number_40 : decode cX16_number 40 = .ok (.iconst 0, 1) := by decide +kernel
theorem dX16_number_41 : decode cX16_number 41 = .ok (.anewarray 52, 3) := by decide +kernel
theorem dX16_number_44 : decode cX16_number 44 = .ok (.invokespecial 67, 3) := by decide +kernel
theorem dX16_number_47 : decode cX16_number 47 = .ok (.invokevirtual 70, 3) := by decide +kernel
theorem dX16_number_50 : decode cX16_number 50 = .ok (.ireturn, 1) := by decide +kernel
theorem dX16_name_0 : decode cX16_name 0 = .ok (.aload_n 0, 1) := by decide +kernel
theorem dX16_name_1 : decode cX16_name 1 = .ok (.iload_n 1, 1) := by decide +kernel
theorem dX16_name_2 : decode cX16_name 2 = .ok (.invokestatic 74, 3) := by decide +kernel
theorem dX16_name_5 : decode cX16_name 5 = .ok (.ifCond .ne 7, 3) := by decide +kernel
theorem dX16_name_8 : decode cX16_name 8 = .ok (.iconst 1, 1) := by decide +kernel
theorem dX16_name_9 : decode cX16_name 9 = .ok (.goto 20, 3) := by decide +kernel
theorem dX16_name_12 : decode cX16_name 12 = .ok (.aload_n 0, 1) := by decide +kernel
theorem dX16_name_13 : decode cX16_name 13 = .ok (.getfield 10, 3) := by decide +kernel
theorem dX16_name_16 : decode cX16_name 16 = .ok (.invokevirtual 44, 3) := by decide +kernel
theorem dX16_name_19 : decode cX16_name 19 = .ok (.bipush 20, 2) := by decide +kernel
theorem dX16_name_21 : decode cX16_name 21 = .ok (.if_icmp .ne 7, 3) := by decide +kernel
theorem dX16_name_28 : decode cX16_name 28 = .ok (.iconst 0, 1) := by decide +kernel
theorem dX16_name_29 : decode cX16_name 29 = .ok (.putfield 40, 3) := by decide +kernel
theorem dX16_name_32 : decode cX16_name 32 = .ok (.aload_n 0, 1) := by decide +kernel
theorem dX16_name_33 : decode cX16_name 33 = .ok (.getfield 40, 3) := by decide +kernel
theorem dX16_name_36 : decode cX16_name 36 = .ok (.ifCond .le 7, 3) := by decide +kernel
theorem dX16_name_39 : decode cX16_name 39 = .ok (.iconst 0, 1) := by decide +kernel
theorem dX16_name_40 : decode cX16_name 40 = .ok (.goto 22, 3) := by decide +kernel
theorem dX16_name_43 : decode cX16_name 43 = .ok (.aload_n 0, 1) := by decide +kernel
theorem dX16_name_44 : decode cX16_name 44 = .ok (.new 52, 3) := by decide +kernel
theorem dX16_name_47 : decode cX16_name 47 = .ok (.dup, 1) := by decide +kernel
theorem dX16_name_48 : decode cX16_name 48 = .ok (.iconst 1, 1) := by decide +kernel
theorem dX16_name_49 : decode cX16_name 49 = .ok (.iload_n 1, 1) := by decide +kernel
theorem dX16_name_50 : decode cX16_name 50 = .ok (.i2l, 1) := by decide +kernel
theorem dX16_name_51 : decode cX16_name 51 = .ok (.iconst 0, 1) := by decide +kernel
theorem dX16_name_52 : decode cX16_name 52 = .ok (.iconst 0, 1) := by decide +kernel
theorem dX16_name_53 : decode cX16_name 53 = .ok (.anewarray 52, 3) := by decide +kernel
theorem dX16_name_56 : decode cX16_name 56 = .ok (.invokespecial 67, 3) := by decide +kernel
theorem dX16_name_59 : decode cX16_name 59 = .ok (.invokevirtual 70, 3) := by decide +kernel
theorem dX16_name_62 : decode cX16_name 62 = .ok (.ireturn, 1) := by decide +kernel
theorem dX16_function_0 : decode cX16_function 0 = .ok (.aload_n 0, 1) := by decide +kernel
theorem dX16_function_1 : decode cX16_function 1 = .ok (.iload_n 1, 1) := by decide +kernel
theorem dX16_function_2 : decode cX16_function 2 = .ok (.invokestatic 74, 3) := by decide +kernel
theorem dX16_function_5 : decode cX16_function 5 = .ok (.ifCond .ne 7, 3) := by decide +kernel
theorem dX16_function_8 : decode cX16_function 8 = .ok (.iconst 1, 1) := by decide +kernel
theorem dX16_function_9 : decode cX16_function 9 = .ok (.goto 16, 3) := by decide +kernel
theorem dX16_function_12 : decode cX16_function 12 = .ok (.aload_n 0, 1) := by decide +kernel
theorem dX16_function_13 : decode cX16_function 13 = .ok (.iconst 1, 1) := by decide +kernel
theorem dX16_function_14 : decode cX16_function 14 = .ok (.invokevirtual 78, 3) := by decide +kernel
theorem dX16_function_17 : decode cX16_function 17 = .ok (.ifCond .ne 7, 3) := by decide +kernel
theorem dX16_function_20 : decode cX16_function 20 = .ok (.iconst 2, 1) := by decide +kernel
theorem dX16_function_21 : decode cX16_function 21 = .ok (.goto 4, 3) := by decide +kernel
theorem dX16_function_25 : decode cX16_function 25 = .ok (.putfield 40, 3) := by decide +kernel
theorem dX16_function_28 : decode cX16_function 28 = .ok (.aload_n 0, 1) := by decide +kernel
theorem dX16_function_29 : decode cX16_function 29 = .ok (.getfield 40, 3) := by decide +kernel
theorem dX16_function_32 : decode cX16_function 32 = .ok (.ifCond .le 7, 3) := by decide +kernel
theorem dX16_function_35 : decode cX16_function 35 = .ok (.iconst 0, 1) := by decide +kernel
theorem dX16_function_36 : decode cX16_function 36 = .ok (.goto 12, 3) := by decide +kernel
theorem dX16_function_48 : decode cX16_function 48 = .ok (.ireturn, 1) := by decide +kernel
theorem dX16_isRight_0 : decode cX16_isRight 0 = .ok (.aload_n 0, 1) := by decide +kernel
theorem dX16_isRight_1 : decode cX16_isRight 1 = .ok (.getfield 89, 3) := by decide +kernel
theorem dX16_isRight_4 : decode cX16_isRight 4 = .ok (.ifnull 14, 3) := by decide +kernel
theorem dX16_isRight_18 : decode cX16_isRight 18 = .ok (.iconst 0, 1) := by decide +kernel
theorem dX16_isRight_19 : decode cX16_isRight 19 = .ok (.ireturn, 1) := by decide +kernel
theorem dX16_isOrder_0 : decode cX16_isOrder 0 = .ok (.aload_n 0, 1) := by decide +kernel
theorem dX16_isOrder_1 : decode cX16_isOrder 1 = .ok (.invokevirtual 229, 3) := by decide +kernel
theorem dX16_isOrder_4 : decode cX16_isOrder 4 = .ok (.ifCond .eq 22, 3) := by decide +kernel
theorem dX16_isOrder_26 : decode cX16_isOrder 26 = .ok (.iconst 0, 1) := by decide +kernel
theorem dX16_isOrder_27 : decode cX16_isOrder 27 = .ok (.ireturn, 1) := by decide +kernel
theorem dJxa1e45_init_da8c8_0 : decode cJxa1e45_init_da8c8 0 = .ok (.aload_n 0, 1) := by decide +kernel
theorem dJxa1e45_init_da8c8_1 : decode cJxa1e45_init_da8c8 1 = .ok (.invokespecial 1, 3) := by decide +kernel
theorem dJxa1e45_init_da8c8_4 : decode cJxa1e45_init_da8c8 4 = .ok (.return_, 1) := by decide +kernel
theorem dJxc12de_init_da8c8_0 : decode cJxc12de_init_da8c8 0 = .ok (.aload_n 0, 1) := by decide +kernel
theorem dJxc12de_init_da8c8_1 : decode cJxc12de_init_da8c8 1 = .ok (.invokespecial 1, 3) := by decide +kernel
theorem dJxc12de_init_da8c8_4 : decode cJxc12de_init_da8c8 4 = .ok (.aload_n 0, 1) := by decide +kernel
theorem dJxc12de_init_da8c8_5 : decode cJxc12de_init_da8c8 5 = .ok (.iconst 0, 1) := by decide +kernel
theorem dJxc12de_init_da8c8_6 : decode cJxc12de_init_da8c8 6 = .ok (.putfield 7, 3) := by decide +kernel
theorem dJxc12de_init_da8c8_9 : decode cJxc12de_init_da8c8 9 = .ok (.return_, 1) := by decide +kernel
theorem dJx4a65c_init_da8c8_0 : decode cJx4a65c_init_da8c8 0 = .ok (.aload_n 0, 1) := by decide +kernel
theorem dJx4a65c_init_da8c8_1 : decode cJx4a65c_init_da8c8 1 = .ok (.invokespecial 1, 3) := by decide +kernel
theorem dJx4a65c_init_da8c8_4 : decode cJx4a65c_init_da8c8 4 = .ok (.aload_n 0, 1) := by decide +kernel
theorem dJx4a65c_init_da8c8_5 : decode cJx4a65c_init_da8c8 5 = .ok (.getstatic 39, 3) := by decide +kernel
theorem dJx4a65c_init_da8c8_8 : decode cJx4a65c_init_da8c8 8 = .ok (.putfield 9, 3) := by decide +kernel
theorem dJx4a65c_init_da8c8_11 : decode cJx4a65c_init_da8c8 11 = .ok (.return_, 1) := by decide +kernel
theorem dJx4a65c_grow_92f84_0 : decode cJx4a65c_grow_92f84 0 = .ok (.aload_n 0, 1) := by decide +kernel
theorem dJx4a65c_grow_92f84_1 : decode cJx4a65c_grow_92f84 1 = .ok (.getfield 9, 3) := by decide +kernel
theorem dJx4a65c_grow_92f84_4 : decode cJx4a65c_grow_92f84 4 = .ok (.arraylength, 1) := by decide +kernel
theorem dJx4a65c_grow_92f84_5 : decode cJx4a65c_grow_92f84 5 = .ok (.istore_n 2, 1) := by decide +kernel
theorem dJx4a65c_grow_92f84_6 : decode cJx4a65c_grow_92f84 6 = .ok (.iload_n 2, 1) := by decide +kernel
theorem dJx4a65c_grow_92f84_7 : decode cJx4a65c_grow_92f84 7 = .ok (.ifCond .gt 13, 3) := by decide +kernel
theorem dJx4a65c_grow_92f84_10 : decode cJx4a65c_grow_92f84 10 = .ok (.aload_n 0, 1) := by decide +kernel
theorem dJx4a65c_grow_92f84_11 : decode cJx4a65c_grow_92f84 11 = .ok (.getfield 9, 3) := by decide +kernel
theorem dJx4a65c_grow_92f84_14 : decode cJx4a65c_grow_92f84 14 = .ok (.getstatic 39, 3) := by decide +kernel
theorem dJx4a65c_grow_92f84_17 : decode cJx4a65c_grow_92f84 17 = .ok (.if_acmp .eq 28, 3) := by decide +kernel
theorem dJx4a65c_grow_92f84_45 : decode cJx4a65c_grow_92f84 45 = .ok (.aload_n 0, 1) := by decide +kernel
theorem dJx4a65c_grow_92f84_46 : decode cJx4a65c_grow_92f84 46 = .ok (.bipush 10, 2) := by decide +kernel
theorem dJx4a65c_grow_92f84_48 : decode cJx4a65c_grow_92f84 48 = .ok (.iload_n 1, 1) := by decide +kernel
theorem dJx4a65c_grow_92f84_49 : decode cJx4a65c_grow_92f84 49 = .ok (.invokestatic 79, 3) := by decide +kernel
theorem dJx4a65c_grow_92f84_52 : decode cJx4a65c_grow_92f84 52 = .ok (.anewarray 7, 3) := by decide +kernel
theorem dJx4a65c_grow_92f84_55 : decode cJx4a65c_grow_92f84 55 = .ok (.dup_x1, 1) := by decide +kernel
theorem dJx4a65c_grow_92f84_56 : decode cJx4a65c_grow_92f84 56 = .ok (.putfield 9, 3) := by decide +kernel
theorem dJx4a65c_grow_92f84_59 : decode cJx4a65c_grow_92f84 59 = .ok (.areturn, 1) := by decide +kernel
theorem dJx4a65c_grow_d5877_0 : decode cJx4a65c_grow_d5877 0 = .ok (.aload_n 0, 1) := by decide +kernel
theorem dJx4a65c_grow_d5877_1 : decode cJx4a65c_grow_d5877 1 = .ok (.aload_n 0, 1) := by decide +kernel
theorem dJx4a65c_grow_d5877_2 : decode cJx4a65c_grow_d5877 2 = .ok (.getfield 48, 3) := by decide +kernel
theorem dJx4a65c_grow_d5877_5 : decode cJx4a65c_grow_d5877 5 = .ok (.iconst 1, 1) := by decide +kernel
theorem dJx4a65c_grow_d5877_6 : decode cJx4a65c_grow_d5877 6 = .ok (.iadd, 1) := by decide +kernel
theorem dJx4a65c_grow_d5877_7 : decode cJx4a65c_grow_d5877 7 = .ok (.invokevirtual 69, 3) := by decide +kernel
theorem dJx4a65c_grow_d5877_10 : decode cJx4a65c_grow_d5877 10 = .ok (.areturn, 1) := by decide +kernel
theorem dJx4a65c_size_8abf5_0 : decode cJx4a65c_size_8abf5 0 = .ok (.aload_n 0, 1) := by decide +kernel
theorem dJx4a65c_size_8abf5_1 : decode cJx4a65c_size_8abf5 1 = .ok (.getfield 48, 3) := by decide +kernel
theorem dJx4a65c_size_8abf5_4 : decode cJx4a65c_size_8abf5 4 = .ok (.ireturn, 1) := by decide +kernel
theorem dJx4a65c_isEmpty_aae02_0 : decode cJx4a65c_isEmpty_aae02 0 = .ok (.aload_n 0, 1) := by decide +kernel
theorem dJx4a65c_isEmpty_aae02_1 : decode cJx4a65c_isEmpty_aae02 1 = .ok (.getfield 48, 3) := by decide +kernel
theorem dJx4a65c_isEmpty_aae02_4 : decode cJx4a65c_isEmpty_aae02 4 = .ok (.ifCond .ne 7, 3) := by decide +kernel
theorem dJx4a65c_isEmpty_aae02_7 : decode cJx4a65c_isEmpty_aae02 7 = .ok (.iconst 1, 1) := by decide +kernel
theorem dJx4a65c_isEmpty_aae02_8 : decode cJx4a65c_isEmpty_aae02 8 = .ok (.goto 4, 3) := by decide +kernel
theorem dJx4a65c_isEmpty_aae02_12 : decode cJx4a65c_isEmpty_aae02 12 = .ok (.ireturn, 1) := by decide +kernel
theorem dJx4a65c_add_72be8_0 : decode cJx4a65c_add_72be8 0 = .ok (.iload_n 3, 1) := by decide +kernel
theorem dJx4a65c_add_72be8_1 : decode cJx4a65c_add_72be8 1 = .ok (.aload_n 2, 1) := by decide +kernel
theorem dJx4a65c_add_72be8_2 : decode cJx4a65c_add_72be8 2 = .ok (.arraylength, 1) := by decide +kernel
theorem dJx4a65c_add_72be8_3 : decode cJx4a65c_add_72be8 3 = .ok (.if_icmp .ne 8, 3) := by decide +kernel
theorem dJx4a65c_add_72be8_6 : decode cJx4a65c_add_72be8 6 = .ok (.aload_n 0, 1) := by decide +kernel
theorem dJx4a65c_add_72be8_7 : decode cJx4a65c_add_72be8 7 = .ok (.invokevirtual 129, 3) := by decide +kernel
theorem dJx4a65c_add_72be8_10 : decode cJx4a65c_add_72be8 10 = .ok (.astore_n 2, 1) := by decide +kernel
theorem dJx4a65c_add_72be8_11 : decode cJx4a65c_add_72be8 11 = .ok (.aload_n 2, 1) := by decide +kernel
theorem dJx4a65c_add_72be8_12 : decode cJx4a65c_add_72be8 12 = .ok (.iload_n 3, 1) := by decide +kernel
theorem dJx4a65c_add_72be8_13 : decode cJx4a65c_add_72be8 13 = .ok (.aload_n 1, 1) := by decide +kernel
theorem dJx4a65c_add_72be8_14 : decode cJx4a65c_add_72be8 14 = .ok (.aastore, 1) := by decide +kernel
theorem dJx4a65c_add_72be8_15 : decode cJx4a65c_add_72be8 15 = .ok (.aload_n 0, 1) := by decide +kernel
theorem dJx4a65c_add_72be8_16 : decode cJx4a65c_add_72be8 16 = .ok (.iload_n 3, 1) := by decide +kernel
theorem dJx4a65c_add_72be8_17 : decode cJx4a65c_add_72be8 17 = .ok (.iconst 1, 1) := by decide +kernel
theorem dJx4a65c_add_72be8_18 : decode cJx4a65c_add_72be8 18 = .ok (.iadd, 1) := by decide +kernel
theorem dJx4a65c_add_72be8_19 : decode cJx4a65c_add_72be8 19 = .ok (.putfield 48, 3) := by decide +kernel
theorem dJx4a65c_add_72be8_22 : decode cJx4a65c_add_72be8 22 = .ok (.return_, 1) := by decide +kernel
theorem dJx4a65c_add_9ea2d_0 : decode cJx4a65c_add_9ea2d 0 = .ok (.aload_n 0, 1) := by decide +kernel
theorem dJx4a65c_add_9ea2d_1 : decode cJx4a65c_add_9ea2d 1 = .ok (.dup, 1) := by decide +kernel
theorem dJx4a65c_add_9ea2d_2 : decode cJx4a65c_add_9ea2d 2 = .ok (.getfield 63, 3) := by decide +kernel
theorem dJx4a65c_add_9ea2d_5 : decode cJx4a65c_add_9ea2d 5 = .ok (.iconst 1, 1) := by decide +kernel
theorem dJx4a65c_add_9ea2d_6 : decode cJx4a65c_add_9ea2d 6 = .ok (.iadd, 1) := by decide +kernel
theorem dJx4a65c_add_9ea2d_7 : decode cJx4a65c_add_9ea2d 7 = .ok (.putfield 63, 3) := by decide +kernel
theorem dJx4a65c_add_9ea2d_10 : decode cJx4a65c_add_9ea2d 10 = .ok (.aload_n 0, 1) := by decide +kernel
theorem dJx4a65c_add_9ea2d_11 : decode cJx4a65c_add_9ea2d 11 = .ok (.aload_n 1, 1) := by decide +kernel
theorem dJx4a65c_add_9ea2d_12 : decode cJx4a65c_add_9ea2d 12 = .ok (.aload_n 0, 1) := by decide +kernel
theorem dJx4a65c_add_9ea2d_13 : decode cJx4a65c_add_9ea2d 13 = .ok (.getfield 9, 3) := by decide +kernel
theorem dJx4a65c_add_9ea2d_16 : decode cJx4a65c_add_9ea2d 16 = .ok (.aload_n 0, 1) := by decide +kernel
theorem dJx4a65c_add_9ea2d_17 : decode cJx4a65c_add_9ea2d 17 = .ok (.getfield 48, 3) := by decide +kernel
theorem dJx4a65c_add_9ea2d_20 : decode cJx4a65c_add_9ea2d 20 = .ok (.invokevirtual 131, 3) := by decide +kernel
theorem dJx4a65c_add_9ea2d_23 : decode cJx4a65c_add_9ea2d 23 = .ok (.iconst 1, 1) := by decide +kernel
theorem dJx4a65c_add_9ea2d_24 : decode cJx4a65c_add_9ea2d 24 = .ok (.ireturn, 1) := by decide +kernel
theorem dflt_Jx4a65c : ∀ j, j < 3 → defaultValue (tyJx4a65c j) = vp_V [.int 0, .null, .int 0] j := fun j hj => by rcases (show j = 0 ∨ j = 1 ∨ j = 2 by omega) with rfl | rfl | rfl <;> rfl
theorem dflt_X12 : ∀ j, j < 5 → defaultValue (tyX12 j) = vp_V [.int 0, .long 0, .int 0, .null, .int 0] j := fun j hj => by rcases (show j = 0 ∨ j = 1 ∨ j = 2 ∨ j = 3 ∨ j = 4 by omega) with rfl | rfl | rfl | rfl | rfl <;> rfl
set_option maxRecDepth 20000 in
def z_ACi : List Cond := .code yJxa1e45_init_da8c8 cJxa1e45_init_da8c8 1 none :: (([.methodLink RJxa1e45 1 objectInit, .instanceMethod objectInit, .code objectInit ⟨#[0xb1]⟩ 1 none] : List Cond))
set_option maxHeartbeats 4000000 in
set_option maxRecDepth 100000 in
theorem c_ACi (l : Launch) (dC : Nat → ClassId) (dI : Nat → Nat → Nat) (tp te : Nat) (sz : Nat) (h0 : Nat)  : Met l yJxa1e45_init_da8c8 z_ACi ({ frames := 1, cells := 0, slots := 0, locals := 12 }) (va_Pc [.ref h0] (Pw dC dI [] [] sz tp te)) (va_Qv (fun (_ : Unit) => True) (fun (_ : Unit) (_ : State) => True) (va_A [] sz)) 0 0 (va_A [] sz) := by
  refine Met.ofW (cc := cJxa1e45_init_da8c8) (maxL := 1) (ret := none) (by decide) rfl ?_
  intro p e s m args below meth c s₁ B hml hv
  obtain ⟨rfl, hsz, hP, hK, hD0, hG⟩ := hv
  have hx := B.exec
  have hb := B.bytes
  have hr := B.returns
  have hts := atoms_spec (ws := z_ACi) B.pre
  have hown : s.vm.findClass RJxa1e45 = some m.cls := findClass_of_methodNamed B.named
  have hlocks := B.notSynchronized
  have hin : meth.name = "<init>" := (name_of_methodNamed B.named B.method).1
  subst hsz
  have hD := hD0.self (sz := s.heap.size)
  generalize hAe : va_A [] s.heap.size = A at hD hG ⊢
  have hA : ∀ q : Nat, s.heap.size ≤ q → A q := fun q h => by rw [← hAe]; exact Or.inr h
  have hS : va_S A s.heap s.heap [] := va_S.rf
  have hl := lv_entry ([.ref h0]) (n := 1) (Nat.le_of_ble_eq_true rfl)
  rw [lg_entry_eq]
  generalize (lg_sl ([.ref h0]) ++ List.replicate (1 - (lg_sl ([.ref h0])).length) Slot.unset).toArray = ls at hl ⊢
  have hl : lv_has ls 1 [(0, .ref h0)] := hl
  refine lv_aload_n hx hb dJxa1e45_init_da8c8_0 rfl (lv_at hl 0 rfl) ?_
  refine W.objInit hx hb hown (hts (.methodLink RJxa1e45 1 objectInit) (List.mem_of_getElem? (i := 1) rfl)) (hts (.instanceMethod objectInit) (List.mem_of_getElem? (i := 2) rfl)) (hts _ (List.mem_of_getElem? (i := 3) rfl)) rfl (by rw [hml]; exact hl.1) rfl dJxa1e45_init_da8c8_1 (Nat.le_of_ble_eq_true rfl) (Nat.le_of_ble_eq_true rfl) ?_
  refine W.eq (g2 := F0 m 4 ls []) rfl ?_
  refine W.widen (k := 0) (n := 0) (Nat.le_of_ble_eq_true rfl) (Nat.le_of_ble_eq_true rfl) ?_
  exact W.vret hx hb hr (fun t ht hW => ⟨⟨(), rfl, trivial, trivial⟩, hS.F ht⟩) hS.2.2 dJxa1e45_init_da8c8_4

set_option maxRecDepth 20000 in
def z_ALi : List Cond := .code yJxc12de_init_da8c8 cJxc12de_init_da8c8 1 none :: (([.methodLink RJxc12de 1 yJxa1e45_init_da8c8, .instanceMethod yJxa1e45_init_da8c8, .initialized RJxa1e45, .code yJxa1e45_init_da8c8 cJxa1e45_init_da8c8 1 none, .methodLink RJxa1e45 1 objectInit, .instanceMethod objectInit, .code objectInit ⟨#[0xb1]⟩ 1 none, .fieldLink RJxc12de 7 "java/util/AbstractList" "modCount" "I"] : List Cond) ++ wsJx4a65c0)
theorem in_z_ALi_Jx4a65c : ∀ w ∈ wsJx4a65c0, w ∈ z_ALi := fun w h => List.mem_cons_of_mem _ (List.mem_append_right _ (h))
set_option maxRecDepth 20000 in
theorem g_ALi_1 : GoodIn z_ALi (z_ACi) := goodIn_p _ [4, 7] rfl (by decide +kernel)
set_option maxHeartbeats 4000000 in
set_option maxRecDepth 100000 in
theorem c_ALi (l : Launch) (dC : Nat → ClassId) (dI : Nat → Nat → Nat) (tp te : Nat) (sz : Nat) (h0 : Nat)  : Met l yJxc12de_init_da8c8 z_ALi ({ frames := 2, cells := 0, slots := 0, locals := 32 }) (va_Pc [.ref h0] (Pw dC dI [(h0, .inr (0, [.int 0, .null, .int 0]))] [] sz tp te)) (va_Qv (fun (_ : Unit) => True) (fun (_ : Unit) (t : State) => Bw dC dI [(h0, .inr (0, [.int 0, .null, .int 0]))] [] (va_A [(h0, .inr (0, [.int 0, .null, .int 0]))] sz) t) (va_A [(h0, .inr (0, [.int 0, .null, .int 0]))] sz)) 0 0 (va_A [(h0, .inr (0, [.int 0, .null, .int 0]))] sz) := by
  refine Met.ofW (cc := cJxc12de_init_da8c8) (maxL := 1) (ret := none) (by decide) rfl ?_
  intro p e s m args below meth c s₁ B hml hv
  obtain ⟨rfl, hsz, hP, hK, hD0, hG⟩ := hv
  have hx := B.exec
  have hb := B.bytes
  have hr := B.returns
  have hts := atoms_spec (ws := z_ALi) B.pre
  have hown : s.vm.findClass RJxc12de = some m.cls := findClass_of_methodNamed B.named
  have hlocks := B.notSynchronized
  have hin : meth.name = "<init>" := (name_of_methodNamed B.named B.method).1
  subst hsz
  have hD := hD0.self (sz := s.heap.size)
  generalize hAe : va_A [(h0, .inr (0, [.int 0, .null, .int 0]))] s.heap.size = A at hD hG ⊢
  have hA : ∀ q : Nat, s.heap.size ≤ q → A q := fun q h => by rw [← hAe]; exact Or.inr h
  have hS : va_S A s.heap s.heap [] := va_S.rf
  have hl := lv_entry ([.ref h0]) (n := 1) (Nat.le_of_ble_eq_true rfl)
  rw [lg_entry_eq]
  generalize (lg_sl ([.ref h0]) ++ List.replicate (1 - (lg_sl ([.ref h0])).length) Slot.unset).toArray = ls at hl ⊢
  have hl : lv_has ls 1 [(0, .ref h0)] := hl
  refine lv_aload_n hx hb dJxc12de_init_da8c8_0 rfl (lv_at hl 0 rfl) ?_
  have hPc := hP.sub (ws' := []) [] rfl
  have hDc := hD.sub (ws' := []) [] (by decide) rfl
  have hKc := hK.sub (tys' := []) [] rfl
  have hFc := va_free (wc := []) hD hS hA [] rfl
  refine va_callv (va_runI (As := []) (rest := []) ⟨hx, hb, hml, hown, hts⟩ (c_ACi l dC dI tp te s.heap.size h0) (cwI 0 hts g_ALi_1 rfl rfl rfl (hts (.initialized RJxa1e45) (List.mem_of_getElem? (i := 3) rfl)) (hts (.methodLink RJxc12de 1 yJxa1e45_init_da8c8) (List.mem_of_getElem? (i := 1) rfl)) (hts (.instanceMethod yJxa1e45_init_da8c8) (List.mem_of_getElem? (i := 2) rfl)) rfl (by decide +kernel) ⟨Nat.le_of_ble_eq_true rfl, Nat.le_of_ble_eq_true rfl⟩) ⟨Pw.blind, Pw.mk hPc hKc hDc hG hS hFc⟩ rfl rfl hl.1 rfl (lv_room (Nat.le_of_ble_eq_true rfl)) dJxc12de_init_da8c8_1 ⟨Nat.le_of_ble_eq_true rfl, Nat.le_of_ble_eq_true rfl⟩) hS (fun q _ h => hFc q h) hFc (fun u t9 H_1 locs ht hvm hw hB hz1 hk1 hS => ?_)
  obtain ⟨hP, hD⟩ := va_join (wr := [(h0, .inr (0, [.int 0, .null, .int 0]))]) (w1 := []) hP hD [] [0] rfl rfl (by decide) (by decide) hk1 hFc va_P.nil va_D.nil
  have hK := hK.sub (tys' := []) [] rfl
  have hP : va_P (dC, dI) vwCl [(h0, .inr (0, [.int 0, .null, .int 0]))] H_1 := hP
  have hD : va_D A [(h0, .inr (0, [.int 0, .null, .int 0]))] := hD
  have hK : va_K (dC, dI) vwCl [] s := hK
  refine W.widen (k := 0) (n := 0) (Nat.le_of_ble_eq_true rfl) (Nat.le_of_ble_eq_true rfl) ?_
  refine lv_aload_n hx hb dJxc12de_init_da8c8_4 rfl (lv_at hl 0 rfl) ?_
  refine lv_iconst (v := 0) hx hb dJxc12de_init_da8c8_5 (by decide) ?_
  refine va_put (D := (dC, dI)) (ci := 0) (v := .int 0) (ty := .int) (C := RJx4a65c) (T := TJx4a65c) (N := 3) hx hb hts in_z_ALi_Jx4a65c tyJx4a65c tyJx4a65c_ok nmJx4a65c hown hK hP hD hS 0 rfl rfl 0 (by decide) (hts (.fieldLink RJxc12de 7 "java/util/AbstractList" "modCount" "I") (List.mem_of_getElem? (i := 8) rfl)) (fun _ h9 => h9) rfl (by decide +kernel) rfl rfl (Nat.le_of_ble_eq_true rfl) dJxc12de_init_da8c8_6 (fun H_3 locs hP hD hS => ?_)
  have hP : va_P (dC, dI) vwCl [(h0, .inr (0, [.int 0, .null, .int 0]))] H_3 := hP
  have hD : va_D A [(h0, .inr (0, [.int 0, .null, .int 0]))] := hD
  have hK : va_K (dC, dI) vwCl [] s := hK
  refine W.widen (k := 0) (n := 0) (Nat.le_of_ble_eq_true rfl) (Nat.le_of_ble_eq_true rfl) ?_
  exact W.vret hx hb hr (fun t ht hW => ⟨⟨(), rfl, trivial, ⟨by rw [ht]; exact hP, va_K.moved hW.alike hK, hD⟩⟩, hS.F ht⟩) hS.2.2 dJxc12de_init_da8c8_9

set_option maxRecDepth 20000 in
def z_ARi : List Cond := .code yJx4a65c_init_da8c8 cJx4a65c_init_da8c8 1 none :: (([.methodLink RJx4a65c 1 yJxc12de_init_da8c8, .instanceMethod yJxc12de_init_da8c8, .initialized RJxc12de, .code yJxc12de_init_da8c8 cJxc12de_init_da8c8 1 none, .methodLink RJxc12de 1 yJxa1e45_init_da8c8, .instanceMethod yJxa1e45_init_da8c8, .initialized RJxa1e45, .code yJxa1e45_init_da8c8 cJxa1e45_init_da8c8 1 none, .methodLink RJxa1e45 1 objectInit, .instanceMethod objectInit, .code objectInit ⟨#[0xb1]⟩ 1 none, .fieldLink RJxc12de 7 "java/util/AbstractList" "modCount" "I", .fieldLink RJx4a65c 39 "java/util/ArrayList" "DEFAULTCAPACITY_EMPTY_ELEMENTDATA" "[Ljava/lang/Object;", .fieldLink RJx4a65c 9 "java/util/ArrayList" "elementData" "[Ljava/lang/Object;"] : List Cond) ++ wsJx4a65c0)
theorem in_z_ARi_Jx4a65c : ∀ w ∈ wsJx4a65c0, w ∈ z_ARi := fun w h => List.mem_cons_of_mem _ (List.mem_append_right _ (h))
set_option maxRecDepth 20000 in
theorem g_ARi_1 : GoodIn z_ARi (z_ALi) := goodIn_p _ [4, 8, 11] rfl (by decide +kernel)
set_option maxHeartbeats 4000000 in
set_option maxRecDepth 100000 in
theorem c_ARi (l : Launch) (dC : Nat → ClassId) (dI : Nat → Nat → Nat) (tp te : Nat) (sz : Nat) (h0 : Nat)  : Met l yJx4a65c_init_da8c8 z_ARi ({ frames := 3, cells := 0, slots := 0, locals := 52 }) (va_Pc [.ref h0] (Pw dC dI [(h0, .inr (0, [.int 0, .null, .int 0]))] [] sz tp te)) (va_Qv (fun (_ : Unit) => True) (fun (_ : Unit) (t : State) => Bw dC dI [(h0, .inr (0, [.int 0, .ref te, .int 0]))] [] (va_A [(h0, .inr (0, [.int 0, .null, .int 0]))] sz) t) (va_A [(h0, .inr (0, [.int 0, .null, .int 0]))] sz)) 0 0 (va_A [(h0, .inr (0, [.int 0, .null, .int 0]))] sz) := by
  refine Met.ofW (cc := cJx4a65c_init_da8c8) (maxL := 1) (ret := none) (by decide) rfl ?_
  intro p e s m args below meth c s₁ B hml hv
  obtain ⟨rfl, hsz, hP, hK, hD0, hG⟩ := hv
  have hx := B.exec
  have hb := B.bytes
  have hr := B.returns
  have hts := atoms_spec (ws := z_ARi) B.pre
  have hown : s.vm.findClass RJx4a65c = some m.cls := findClass_of_methodNamed B.named
  have hlocks := B.notSynchronized
  have hin : meth.name = "<init>" := (name_of_methodNamed B.named B.method).1
  subst hsz
  have hD := hD0.self (sz := s.heap.size)
  generalize hAe : va_A [(h0, .inr (0, [.int 0, .null, .int 0]))] s.heap.size = A at hD hG ⊢
  have hA : ∀ q : Nat, s.heap.size ≤ q → A q := fun q h => by rw [← hAe]; exact Or.inr h
  have hS : va_S A s.heap s.heap [] := va_S.rf
  have hl := lv_entry ([.ref h0]) (n := 1) (Nat.le_of_ble_eq_true rfl)
  rw [lg_entry_eq]
  generalize (lg_sl ([.ref h0]) ++ List.replicate (1 - (lg_sl ([.ref h0])).length) Slot.unset).toArray = ls at hl ⊢
  have hl : lv_has ls 1 [(0, .ref h0)] := hl
  refine lv_aload_n hx hb dJx4a65c_init_da8c8_0 rfl (lv_at hl 0 rfl) ?_
  have hPc := hP.sub (ws' := [(h0, .inr (0, [.int 0, .null, .int 0]))]) [0] rfl
  have hDc := hD.sub (ws' := [(h0, .inr (0, [.int 0, .null, .int 0]))]) [0] (by decide) rfl
  have hKc := hK.sub (tys' := []) [] rfl
  have hFc := va_free (wc := [(h0, .inr (0, [.int 0, .null, .int 0]))]) hD hS hA [0] rfl
  refine va_callv (va_runI (As := []) (rest := []) ⟨hx, hb, hml, hown, hts⟩ (c_ALi l dC dI tp te s.heap.size h0) (cwI 0 hts g_ARi_1 rfl rfl rfl (hts (.initialized RJxc12de) (List.mem_of_getElem? (i := 3) rfl)) (hts (.methodLink RJx4a65c 1 yJxc12de_init_da8c8) (List.mem_of_getElem? (i := 1) rfl)) (hts (.instanceMethod yJxc12de_init_da8c8) (List.mem_of_getElem? (i := 2) rfl)) rfl (by decide +kernel) ⟨Nat.le_of_ble_eq_true rfl, Nat.le_of_ble_eq_true rfl⟩) ⟨Pw.blind, Pw.mk hPc hKc hDc hG hS hFc⟩ rfl rfl hl.1 rfl (lv_room (Nat.le_of_ble_eq_true rfl)) dJx4a65c_init_da8c8_1 ⟨Nat.le_of_ble_eq_true rfl, Nat.le_of_ble_eq_true rfl⟩) hS (fun q _ h => hFc q h) hFc (fun u t9 H_1 locs ht hvm hw hB hz1 hk1 hS => ?_)
  obtain ⟨hP1, hK1, hD1⟩ := hB
  rw [ht] at hP1
  have hK1 := va_K.moved hvm.symm hK1
  obtain ⟨hP, hD⟩ := va_join (wr := []) (w1 := [(h0, .inr (0, [.int 0, .null, .int 0]))]) hP hD [0] [] rfl rfl (by decide) (by decide) hk1 hFc hP1 hD1
  have hK := (hK.sub (tys' := []) [] rfl).app hK1
  have hP : va_P (dC, dI) vwCl [(h0, .inr (0, [.int 0, .null, .int 0]))] H_1 := hP
  have hD : va_D A [(h0, .inr (0, [.int 0, .null, .int 0]))] := hD
  have hK : va_K (dC, dI) vwCl [] s := hK
  refine W.widen (k := 0) (n := 0) (Nat.le_of_ble_eq_true rfl) (Nat.le_of_ble_eq_true rfl) ?_
  refine lv_aload_n hx hb dJx4a65c_init_da8c8_4 rfl (lv_at hl 0 rfl) ?_
  refine va_gets (v := .ref te) hx hb hG.2.2.1 hS hown (hts (.fieldLink RJx4a65c 39 "java/util/ArrayList" "DEFAULTCAPACITY_EMPTY_ELEMENTDATA" "[Ljava/lang/Object;") (List.mem_of_getElem? (i := 13) rfl)) (fun _ h9 => h9) dJx4a65c_init_da8c8_5 ?_
  refine va_put (D := (dC, dI)) (ci := 0) (v := .ref te) (ty := .array (.object "java/lang/Object")) (C := RJx4a65c) (T := TJx4a65c) (N := 3) hx hb hts in_z_ARi_Jx4a65c tyJx4a65c tyJx4a65c_ok nmJx4a65c hown hK hP hD hS 0 rfl rfl 1 (by decide) (hts (.fieldLink RJx4a65c 9 "java/util/ArrayList" "elementData" "[Ljava/lang/Object;") (List.mem_of_getElem? (i := 14) rfl)) (fun _ h9 => h9) rfl (by decide +kernel) rfl rfl (Nat.le_of_ble_eq_true rfl) dJx4a65c_init_da8c8_8 (fun H_3 locs hP hD hS => ?_)
  have hP : va_P (dC, dI) vwCl [(h0, .inr (0, [.int 0, .ref te, .int 0]))] H_3 := hP
  have hD : va_D A [(h0, .inr (0, [.int 0, .ref te, .int 0]))] := hD
  have hK : va_K (dC, dI) vwCl [] s := hK
  refine W.widen (k := 0) (n := 0) (Nat.le_of_ble_eq_true rfl) (Nat.le_of_ble_eq_true rfl) ?_
  exact W.vret hx hb hr (fun t ht hW => ⟨⟨(), rfl, trivial, ⟨by rw [ht]; exact hP, va_K.moved hW.alike hK, hD⟩⟩, hS.F ht⟩) hS.2.2 dJx4a65c_init_da8c8_11

set_option maxRecDepth 20000 in
def z_Mi : List Cond := .code yX16_init cX16_init 1 none :: (([.methodLink RX16 1 objectInit, .instanceMethod objectInit, .code objectInit ⟨#[0xb1]⟩ 1 none, .classLink RX16 7 RJx4a65c, .instantiable RJx4a65c 3, .initialized RJx4a65c, .methodLink RX16 9 yJx4a65c_init_da8c8, .instanceMethod yJx4a65c_init_da8c8, .code yJx4a65c_init_da8c8 cJx4a65c_init_da8c8 1 none, .methodLink RJx4a65c 1 yJxc12de_init_da8c8, .instanceMethod yJxc12de_init_da8c8, .initialized RJxc12de, .code yJxc12de_init_da8c8 cJxc12de_init_da8c8 1 none, .methodLink RJxc12de 1 yJxa1e45_init_da8c8, .instanceMethod yJxa1e45_init_da8c8, .initialized RJxa1e45, .code yJxa1e45_init_da8c8 cJxa1e45_init_da8c8 1 none, .methodLink RJxa1e45 1 objectInit, .fieldLink RJxc12de 7 "java/util/AbstractList" "modCount" "I", .fieldLink RJx4a65c 39 "java/util/ArrayList" "DEFAULTCAPACITY_EMPTY_ELEMENTDATA" "[Ljava/lang/Object;", .fieldLink RJx4a65c 9 "java/util/ArrayList" "elementData" "[Ljava/lang/Object;", .fieldLink RX16 10 "SelfkindleModel" "pile" "Ljava/util/ArrayList;", .fieldLink RX16 16 "SelfkindleModel" "found" "Ljava/util/ArrayList;", .fieldLink RX16 19 "SelfkindleModel" "counting" "Ljava/util/ArrayList;", .fieldLink RX16 22 "SelfkindleModel" "looking" "Ljava/util/ArrayList;", .fieldLink RX16 25 "SelfkindleModel" "looked" "Ljava/util/ArrayList;", .fieldLink RX16 28 "SelfkindleModel" "joining" "Ljava/util/ArrayList;", .fieldLink RX16 31 "SelfkindleModel" "orders" "Ljava/util/ArrayList;", .fieldLink RX16 34 "SelfkindleModel" "stack" "Ljava/util/ArrayList;", .fieldLink RX16 37 "SelfkindleModel" "marks" "Ljava/util/ArrayList;"] : List Cond) ++ wsJx4a65c0 ++ wsX160)
theorem in_z_Mi_Jx4a65c : ∀ w ∈ wsJx4a65c0, w ∈ z_Mi := fun w h => List.mem_cons_of_mem _ (List.mem_append_left _ (List.mem_append_right _ (h)))
theorem in_z_Mi_X16 : ∀ w ∈ wsX160, w ∈ z_Mi := fun w h => List.mem_cons_of_mem _ (List.mem_append_right _ (h))
set_option maxRecDepth 20000 in
theorem g_Mi_9 : GoodIn z_Mi (z_ARi) := goodIn_p _ [9, 13, 17, 3] rfl (by decide +kernel)
set_option maxRecDepth 20000 in
theorem g_Mi_20 : GoodIn z_Mi (z_ARi) := goodIn_p _ [9, 13, 17, 3] rfl (by decide +kernel)
set_option maxRecDepth 20000 in
theorem g_Mi_31 : GoodIn z_Mi (z_ARi) := goodIn_p _ [9, 13, 17, 3] rfl (by decide +kernel)
set_option maxRecDepth 20000 in
theorem g_Mi_42 : GoodIn z_Mi (z_ARi) := goodIn_p _ [9, 13, 17, 3] rfl (by decide +kernel)
set_option maxRecDepth 20000 in
theorem g_Mi_53 : GoodIn z_Mi (z_ARi) := goodIn_p _ [9, 13, 17, 3] rfl (by decide +kernel)
set_option maxRecDepth 20000 in
theorem g_Mi_64 : GoodIn z_Mi (z_ARi) := goodIn_p _ [9, 13, 17, 3] rfl (by decide +kernel)
set_option maxRecDepth 20000 in
theorem g_Mi_75 : GoodIn z_Mi (z_ARi) := goodIn_p _ [9, 13, 17, 3] rfl (by decide +kernel)
set_option maxRecDepth 20000 in
theorem g_Mi_86 : GoodIn z_Mi (z_ARi) := goodIn_p _ [9, 13, 17, 3] rfl (by decide +kernel)
set_option maxRecDepth 20000 in
theorem g_Mi_97 : GoodIn z_Mi (z_ARi) := goodIn_p _ [9, 13, 17, 3] rfl (by decide +kernel)
set_option maxHeartbeats 4000000 in
set_option maxRecDepth 100000 in
/-- SelfkindleModel() -/
theorem c_Mi (l : Launch) (dC : Nat → ClassId) (dI : Nat → Nat → Nat) (tp te : Nat) (sz : Nat) (h0 : Nat)  : Met l yX16_init z_Mi ({ frames := 4, cells := 9, slots := 27, locals := 72 }) (va_Pc [.ref h0] (Pw dC dI [(h0, .inr (17, [.null, .null, .null, .int 0, .int 0, .null, .null, .null, .null, .null, .null, .null, .int 0, .null, .int 0, .int 0, .int 0, .long 0, .null, .null, .null, .int 0, .int 0, .long 0]))] [] sz tp te)) (va_Qv (fun (_ : Unit) => True) (fun (_ : Unit) (t : State) => ∃ (q_1 : Nat), ∃ (q_6 : Nat), ∃ (q_11 : Nat), ∃ (q_16 : Nat), ∃ (q_21 : Nat), ∃ (q_26 : Nat), ∃ (q_31 : Nat), ∃ (q_36 : Nat), ∃ (q_41 : Nat), Bw dC dI [(h0, .inr (17, [.ref q_1, .null, .null, .int 0, .int 0, .ref q_6, .ref q_11, .ref q_16, .ref q_21, .ref q_26, .null, .null, .int 0, .ref q_31, .int 0, .int 0, .int 0, .long 0, .null, .ref q_36, .ref q_41, .int 0, .int 0, .long 0])), (q_1, .inr (0, [.int 0, .ref te, .int 0]))] [] (va_A [(h0, .inr (17, [.null, .null, .null, .int 0, .int 0, .null, .null, .null, .null, .null, .null, .null, .int 0, .null, .int 0, .int 0, .int 0, .long 0, .null, .null, .null, .int 0, .int 0, .long 0]))] sz) t) (va_A [(h0, .inr (17, [.null, .null, .null, .int 0, .int 0, .null, .null, .null, .null, .null, .null, .null, .int 0, .null, .int 0, .int 0, .int 0, .long 0, .null, .null, .null, .int 0, .int 0, .long 0]))] sz)) 9 27 (va_A [(h0, .inr (17, [.null, .null, .null, .int 0, .int 0, .null, .null, .null, .null, .null, .null, .null, .int 0, .null, .int 0, .int 0, .int 0, .long 0, .null, .null, .null, .int 0, .int 0, .long 0]))] sz) := by
  refine Met.ofW (cc := cX16_init) (maxL := 1) (ret := none) (by decide) rfl ?_
  intro p e s m args below meth c s₁ B hml hv
  obtain ⟨rfl, hsz, hP, hK, hD0, hG⟩ := hv
  have hx := B.exec
  have hb := B.bytes
  have hr := B.returns
  have hts := atoms_spec (ws := z_Mi) B.pre
  have hown : s.vm.findClass RX16 = some m.cls := findClass_of_methodNamed B.named
  have hlocks := B.notSynchronized
  have hin : meth.name = "<init>" := (name_of_methodNamed B.named B.method).1
  subst hsz
  have hD := hD0.self (sz := s.heap.size)
  generalize hAe : va_A [(h0, .inr (17, [.null, .null, .null, .int 0, .int 0, .null, .null, .null, .null, .null, .null, .null, .int 0, .null, .int 0, .int 0, .int 0, .long 0, .null, .null, .null, .int 0, .int 0, .long 0]))] s.heap.size = A at hD hG ⊢
  have hA : ∀ q : Nat, s.heap.size ≤ q → A q := fun q h => by rw [← hAe]; exact Or.inr h
  have hS : va_S A s.heap s.heap [] := va_S.rf
  have hl := lv_entry ([.ref h0]) (n := 1) (Nat.le_of_ble_eq_true rfl)
  rw [lg_entry_eq]
  generalize (lg_sl ([.ref h0]) ++ List.replicate (1 - (lg_sl ([.ref h0])).length) Slot.unset).toArray = ls at hl ⊢
  have hl : lv_has ls 1 [(0, .ref h0)] := hl
  refine lv_aload_n hx hb dX16_init_0 rfl (lv_at hl 0 rfl) ?_
  refine W.objInit hx hb hown (hts (.methodLink RX16 1 objectInit) (List.mem_of_getElem? (i := 1) rfl)) (hts (.instanceMethod objectInit) (List.mem_of_getElem? (i := 2) rfl)) (hts _ (List.mem_of_getElem? (i := 3) rfl)) rfl (by rw [hml]; exact hl.1) rfl dX16_init_1 (Nat.le_of_ble_eq_true rfl) (Nat.le_of_ble_eq_true rfl) ?_
  refine W.eq (g2 := F0 m 4 ls []) rfl ?_
  refine lv_aload_n hx hb dX16_init_4 rfl (lv_at hl 0 rfl) ?_
  refine va_new (D := (dC, dI)) (cl := vwCl) (ci := 0) (fs := [.int 0, .null, .int 0]) (C := RJx4a65c) (T := TJx4a65c) (N := 3) hx hb hts in_z_Mi_Jx4a65c tyJx4a65c tyJx4a65c_ok hown (hts (.classLink RX16 7 RJx4a65c) (List.mem_of_getElem? (i := 4) rfl)) (hts (.instantiable RJx4a65c 3) (List.mem_of_getElem? (i := 5) rfl)) (hts (.initialized RJx4a65c) (List.mem_of_getElem? (i := 6) rfl)) hK hP hD hS hA rfl dflt_Jx4a65c (Nat.le_of_ble_eq_true rfl) (Nat.le_of_ble_eq_true rfl) dX16_init_5 (fun q_1 H_2 hP hD hS => ?_)
  have hP : va_P (dC, dI) vwCl [(h0, .inr (17, [.null, .null, .null, .int 0, .int 0, .null, .null, .null, .null, .null, .null, .null, .int 0, .null, .int 0, .int 0, .int 0, .long 0, .null, .null, .null, .int 0, .int 0, .long 0])), (q_1, .inr (0, [.int 0, .null, .int 0]))] H_2 := hP
  have hD : va_D A [(h0, .inr (17, [.null, .null, .null, .int 0, .int 0, .null, .null, .null, .null, .null, .null, .null, .int 0, .null, .int 0, .int 0, .int 0, .long 0, .null, .null, .null, .int 0, .int 0, .long 0])), (q_1, .inr (0, [.int 0, .null, .int 0]))] := hD
  have hK : va_K (dC, dI) vwCl [] s := hK
  refine W.widen (k := 1) (n := 3) (Nat.le_of_ble_eq_true rfl) (Nat.le_of_ble_eq_true rfl) ?_
  refine lv_dup hx hb dX16_init_8 rfl ?_
  have hPc := hP.sub (ws' := [(q_1, .inr (0, [.int 0, .null, .int 0]))]) [1] rfl
  have hDc := hD.sub (ws' := [(q_1, .inr (0, [.int 0, .null, .int 0]))]) [1] (by decide) rfl
  have hKc := hK.sub (tys' := []) [] rfl
  have hFc := va_free (wc := [(q_1, .inr (0, [.int 0, .null, .int 0]))]) hD hS hA [1] rfl
  refine va_callv (va_runI (As := []) (rest := [.ref q_1, .ref h0]) ⟨hx, hb, hml, hown, hts⟩ (c_ARi l dC dI tp te H_2.size q_1) (cwI 0 hts g_Mi_9 rfl rfl rfl (hts (.initialized RJx4a65c) (List.mem_of_getElem? (i := 6) rfl)) (hts (.methodLink RX16 9 yJx4a65c_init_da8c8) (List.mem_of_getElem? (i := 7) rfl)) (hts (.instanceMethod yJx4a65c_init_da8c8) (List.mem_of_getElem? (i := 8) rfl)) rfl (by decide +kernel) ⟨Nat.le_of_ble_eq_true rfl, Nat.le_of_ble_eq_true rfl⟩) ⟨Pw.blind, Pw.mk hPc hKc hDc hG hS hFc⟩ rfl rfl hl.1 rfl (lv_room (Nat.le_of_ble_eq_true rfl)) dX16_init_9 ⟨Nat.le_of_ble_eq_true rfl, Nat.le_of_ble_eq_true rfl⟩) hS (fun q _ h => hFc q h) hFc (fun u t9 H_3 locs ht hvm hw hB hz1 hk1 hS => ?_)
  obtain ⟨hP1, hK1, hD1⟩ := hB
  rw [ht] at hP1
  have hK1 := va_K.moved hvm.symm hK1
  obtain ⟨hP, hD⟩ := va_join (wr := [(h0, .inr (17, [.null, .null, .null, .int 0, .int 0, .null, .null, .null, .null, .null, .null, .null, .int 0, .null, .int 0, .int 0, .int 0, .long 0, .null, .null, .null, .int 0, .int 0, .long 0]))]) (w1 := [(q_1, .inr (0, [.int 0, .ref te, .int 0]))]) hP hD [1] [0] rfl rfl (by decide) (by decide) hk1 hFc hP1 hD1
  have hK := (hK.sub (tys' := []) [] rfl).app hK1
  have hP : va_P (dC, dI) vwCl [(h0, .inr (17, [.null, .null, .null, .int 0, .int 0, .null, .null, .null, .null, .null, .null, .null, .int 0, .null, .int 0, .int 0, .int 0, .long 0, .null, .null, .null, .int 0, .int 0, .long 0])), (q_1, .inr (0, [.int 0, .ref te, .int 0]))] H_3 := hP
  have hD : va_D A [(h0, .inr (17, [.null, .null, .null, .int 0, .int 0, .null, .null, .null, .null, .null, .null, .null, .int 0, .null, .int 0, .int 0, .int 0, .long 0, .null, .null, .null, .int 0, .int 0, .long 0])), (q_1, .inr (0, [.int 0, .ref te, .int 0]))] := hD
  have hK : va_K (dC, dI) vwCl [] s := hK
  refine W.widen (k := 1) (n := 3) (Nat.le_of_ble_eq_true rfl) (Nat.le_of_ble_eq_true rfl) ?_
  refine va_putF (D := (dC, dI)) (ci := 17) (v := .ref q_1) (ty := .object "java/util/ArrayList") (C := RX16) (T := TX16) (N := 24) hx hb hts in_z_Mi_X16 tyX16 tyX16_ok nmX16 hown hK hP hD hS 0 rfl rfl 0 (by decide) (hts (.fieldLink RX16 10 "SelfkindleModel" "pile" "Ljava/util/ArrayList;") (List.mem_of_getElem? (i := 22) rfl)) (fun _ h9 => h9) rfl hin rfl (by decide +kernel) rfl rfl (Nat.le_of_ble_eq_true rfl) dX16_init_12 (fun H_5 locs hP hD hS => ?_)
  have hP : va_P (dC, dI) vwCl [(h0, .inr (17, [.ref q_1, .null, .null, .int 0, .int 0, .null, .null, .null, .null, .null, .null, .null, .int 0, .null, .int 0, .int 0, .int 0, .long 0, .null, .null, .null, .int 0, .int 0, .long 0])), (q_1, .inr (0, [.int 0, .ref te, .int 0]))] H_5 := hP
  have hD : va_D A [(h0, .inr (17, [.ref q_1, .null, .null, .int 0, .int 0, .null, .null, .null, .null, .null, .null, .null, .int 0, .null, .int 0, .int 0, .int 0, .long 0, .null, .null, .null, .int 0, .int 0, .long 0])), (q_1, .inr (0, [.int 0, .ref te, .int 0]))] := hD
  have hK : va_K (dC, dI) vwCl [] s := hK
  refine lv_aload_n hx hb dX16_init_15 rfl (lv_at hl 0 rfl) ?_
  refine va_new (D := (dC, dI)) (cl := vwCl) (ci := 0) (fs := [.int 0, .null, .int 0]) (C := RJx4a65c) (T := TJx4a65c) (N := 3) hx hb hts in_z_Mi_Jx4a65c tyJx4a65c tyJx4a65c_ok hown (hts (.classLink RX16 7 RJx4a65c) (List.mem_of_getElem? (i := 4) rfl)) (hts (.instantiable RJx4a65c 3) (List.mem_of_getElem? (i := 5) rfl)) (hts (.initialized RJx4a65c) (List.mem_of_getElem? (i := 6) rfl)) hK hP hD hS hA rfl dflt_Jx4a65c (Nat.le_of_ble_eq_true rfl) (Nat.le_of_ble_eq_true rfl) dX16_init_16 (fun q_6 H_7 hP hD hS => ?_)
  have hP : va_P (dC, dI) vwCl [(h0, .inr (17, [.ref q_1, .null, .null, .int 0, .int 0, .null, .null, .null, .null, .null, .null, .null, .int 0, .null, .int 0, .int 0, .int 0, .long 0, .null, .null, .null, .int 0, .int 0, .long 0])), (q_1, .inr (0, [.int 0, .ref te, .int 0])), (q_6, .inr (0, [.int 0, .null, .int 0]))] H_7 := hP
  have hD : va_D A [(h0, .inr (17, [.ref q_1, .null, .null, .int 0, .int 0, .null, .null, .null, .null, .null, .null, .null, .int 0, .null, .int 0, .int 0, .int 0, .long 0, .null, .null, .null, .int 0, .int 0, .long 0])), (q_1, .inr (0, [.int 0, .ref te, .int 0])), (q_6, .inr (0, [.int 0, .null, .int 0]))] := hD
  have hK : va_K (dC, dI) vwCl [] s := hK
  refine W.widen (k := 2) (n := 6) (Nat.le_of_ble_eq_true rfl) (Nat.le_of_ble_eq_true rfl) ?_
  refine lv_dup hx hb dX16_init_19 rfl ?_
  have hPc := hP.sub (ws' := [(q_6, .inr (0, [.int 0, .null, .int 0]))]) [2] rfl
  have hDc := hD.sub (ws' := [(q_6, .inr (0, [.int 0, .null, .int 0]))]) [2] (by decide) rfl
  have hKc := hK.sub (tys' := []) [] rfl
  have hFc := va_free (wc := [(q_6, .inr (0, [.int 0, .null, .int 0]))]) hD hS hA [2] rfl
  refine va_callv (va_runI (As := []) (rest := [.ref q_6, .ref h0]) ⟨hx, hb, hml, hown, hts⟩ (c_ARi l dC dI tp te H_7.size q_6) (cwI 0 hts g_Mi_20 rfl rfl rfl (hts (.initialized RJx4a65c) (List.mem_of_getElem? (i := 6) rfl)) (hts (.methodLink RX16 9 yJx4a65c_init_da8c8) (List.mem_of_getElem? (i := 7) rfl)) (hts (.instanceMethod yJx4a65c_init_da8c8) (List.mem_of_getElem? (i := 8) rfl)) rfl (by decide +kernel) ⟨Nat.le_of_ble_eq_true rfl, Nat.le_of_ble_eq_true rfl⟩) ⟨Pw.blind, Pw.mk hPc hKc hDc hG hS hFc⟩ rfl rfl hl.1 rfl (lv_room (Nat.le_of_ble_eq_true rfl)) dX16_init_20 ⟨Nat.le_of_ble_eq_true rfl, Nat.le_of_ble_eq_true rfl⟩) hS (fun q _ h => hFc q h) hFc (fun u t9 H_8 locs ht hvm hw hB hz1 hk1 hS => ?_)
  obtain ⟨hP1, hK1, hD1⟩ := hB
  rw [ht] at hP1
  have hK1 := va_K.moved hvm.symm hK1
  obtain ⟨hP, hD⟩ := va_join (wr := [(h0, .inr (17, [.ref q_1, .null, .null, .int 0, .int 0, .null, .null, .null, .null, .null, .null, .null, .int 0, .null, .int 0, .int 0, .int 0, .long 0, .null, .null, .null, .int 0, .int 0, .long 0])), (q_1, .inr (0, [.int 0, .ref te, .int 0]))]) (w1 := [(q_6, .inr (0, [.int 0, .ref te, .int 0]))]) hP hD [2] [0, 1] rfl rfl (by decide) (by decide) hk1 hFc hP1 hD1
  have hK := (hK.sub (tys' := []) [] rfl).app hK1
  have hP : va_P (dC, dI) vwCl [(h0, .inr (17, [.ref q_1, .null, .null, .int 0, .int 0, .null, .null, .null, .null, .null, .null, .null, .int 0, .null, .int 0, .int 0, .int 0, .long 0, .null, .null, .null, .int 0, .int 0, .long 0])), (q_1, .inr (0, [.int 0, .ref te, .int 0])), (q_6, .inr (0, [.int 0, .ref te, .int 0]))] H_8 := hP
  have hD : va_D A [(h0, .inr (17, [.ref q_1, .null, .null, .int 0, .int 0, .null, .null, .null, .null, .null, .null, .null, .int 0, .null, .int 0, .int 0, .int 0, .long 0, .null, .null, .null, .int 0, .int 0, .long 0])), (q_1, .inr (0, [.int 0, .ref te, .int 0])), (q_6, .inr (0, [.int 0, .ref te, .int 0]))] := hD
  have hK : va_K (dC, dI) vwCl [] s := hK
  refine W.widen (k := 2) (n := 6) (Nat.le_of_ble_eq_true rfl) (Nat.le_of_ble_eq_true rfl) ?_
  refine va_putF (D := (dC, dI)) (ci := 17) (v := .ref q_6) (ty := .object "java/util/ArrayList") (C := RX16) (T := TX16) (N := 24) hx hb hts in_z_Mi_X16 tyX16 tyX16_ok nmX16 hown hK hP hD hS 0 rfl rfl 5 (by decide) (hts (.fieldLink RX16 16 "SelfkindleModel" "found" "Ljava/util/ArrayList;") (List.mem_of_getElem? (i := 23) rfl)) (fun _ h9 => h9) rfl hin rfl (by decide +kernel) rfl rfl (Nat.le_of_ble_eq_true rfl) dX16_init_23 (fun H_10 locs hP hD hS => ?_)
  have hP : va_P (dC, dI) vwCl [(h0, .inr (17, [.ref q_1, .null, .null, .int 0, .int 0, .ref q_6, .null, .null, .null, .null, .null, .null, .int 0, .null, .int 0, .int 0, .int 0, .long 0, .null, .null, .null, .int 0, .int 0, .long 0])), (q_1, .inr (0, [.int 0, .ref te, .int 0])), (q_6, .inr (0, [.int 0, .ref te, .int 0]))] H_10 := hP
  have hD : va_D A [(h0, .inr (17, [.ref q_1, .null, .null, .int 0, .int 0, .ref q_6, .null, .null, .null, .null, .null, .null, .int 0, .null, .int 0, .int 0, .int 0, .long 0, .null, .null, .null, .int 0, .int 0, .long 0])), (q_1, .inr (0, [.int 0, .ref te, .int 0])), (q_6, .inr (0, [.int 0, .ref te, .int 0]))] := hD
  have hK : va_K (dC, dI) vwCl [] s := hK
  refine lv_aload_n hx hb dX16_init_26 rfl (lv_at hl 0 rfl) ?_
  refine va_new (D := (dC, dI)) (cl := vwCl) (ci := 0) (fs := [.int 0, .null, .int 0]) (C := RJx4a65c) (T := TJx4a65c) (N := 3) hx hb hts in_z_Mi_Jx4a65c tyJx4a65c tyJx4a65c_ok hown (hts (.classLink RX16 7 RJx4a65c) (List.mem_of_getElem? (i := 4) rfl)) (hts (.instantiable RJx4a65c 3) (List.mem_of_getElem? (i := 5) rfl)) (hts (.initialized RJx4a65c) (List.mem_of_getElem? (i := 6) rfl)) hK hP hD hS hA rfl dflt_Jx4a65c (Nat.le_of_ble_eq_true rfl) (Nat.le_of_ble_eq_true rfl) dX16_init_27 (fun q_11 H_12 hP hD hS => ?_)
  have hP : va_P (dC, dI) vwCl [(h0, .inr (17, [.ref q_1, .null, .null, .int 0, .int 0, .ref q_6, .null, .null, .null, .null, .null, .null, .int 0, .null, .int 0, .int 0, .int 0, .long 0, .null, .null, .null, .int 0, .int 0, .long 0])), (q_1, .inr (0, [.int 0, .ref te, .int 0])), (q_6, .inr (0, [.int 0, .ref te, .int 0])), (q_11, .inr (0, [.int 0, .null, .int 0]))] H_12 := hP
  have hD : va_D A [(h0, .inr (17, [.ref q_1, .null, .null, .int 0, .int 0, .ref q_6, .null, .null, .null, .null, .null, .null, .int 0, .null, .int 0, .int 0, .int 0, .long 0, .null, .null, .null, .int 0, .int 0, .long 0])), (q_1, .inr (0, [.int 0, .ref te, .int 0])), (q_6, .inr (0, [.int 0, .ref te, .int 0])), (q_11, .inr (0, [.int 0, .null, .int 0]))] := hD
  have hK : va_K (dC, dI) vwCl [] s := hK
  refine W.widen (k := 3) (n := 9) (Nat.le_of_ble_eq_true rfl) (Nat.le_of_ble_eq_true rfl) ?_
  refine lv_dup hx hb dX16_init_30 rfl ?_
  have hPc := hP.sub (ws' := [(q_11, .inr (0, [.int 0, .null, .int 0]))]) [3] rfl
  have hDc := hD.sub (ws' := [(q_11, .inr (0, [.int 0, .null, .int 0]))]) [3] (by decide) rfl
  have hKc := hK.sub (tys' := []) [] rfl
  have hFc := va_free (wc := [(q_11, .inr (0, [.int 0, .null, .int 0]))]) hD hS hA [3] rfl
  refine va_callv (va_runI (As := []) (rest := [.ref q_11, .ref h0]) ⟨hx, hb, hml, hown, hts⟩ (c_ARi l dC dI tp te H_12.size q_11) (cwI 0 hts g_Mi_31 rfl rfl rfl (hts (.initialized RJx4a65c) (List.mem_of_getElem? (i := 6) rfl)) (hts (.methodLink RX16 9 yJx4a65c_init_da8c8) (List.mem_of_getElem? (i := 7) rfl)) (hts (.instanceMethod yJx4a65c_init_da8c8) (List.mem_of_getElem? (i := 8) rfl)) rfl (by decide +kernel) ⟨Nat.le_of_ble_eq_true rfl, Nat.le_of_ble_eq_true rfl⟩) ⟨Pw.blind, Pw.mk hPc hKc hDc hG hS hFc⟩ rfl rfl hl.1 rfl (lv_room (Nat.le_of_ble_eq_true rfl)) dX16_init_31 ⟨Nat.le_of_ble_eq_true rfl, Nat.le_of_ble_eq_true rfl⟩) hS (fun q _ h => hFc q h) hFc (fun u t9 H_13 locs ht hvm hw hB hz1 hk1 hS => ?_)
  obtain ⟨hP1, hK1, hD1⟩ := hB
  rw [ht] at hP1
  have hK1 := va_K.moved hvm.symm hK1
  obtain ⟨hP, hD⟩ := va_join (wr := [(h0, .inr (17, [.ref q_1, .null, .null, .int 0, .int 0, .ref q_6, .null, .null, .null, .null, .null, .null, .int 0, .null, .int 0, .int 0, .int 0, .long 0, .null, .null, .null, .int 0, .int 0, .long 0])), (q_1, .inr (0, [.int 0, .ref te, .int 0])), (q_6, .inr (0, [.int 0, .ref te, .int 0]))]) (w1 := [(q_11, .inr (0, [.int 0, .ref te, .int 0]))]) hP hD [3] [0, 1, 2] rfl rfl (by decide) (by decide) hk1 hFc hP1 hD1
  have hK := (hK.sub (tys' := []) [] rfl).app hK1
  have hP : va_P (dC, dI) vwCl [(h0, .inr (17, [.ref q_1, .null, .null, .int 0, .int 0, .ref q_6, .null, .null, .null, .null, .null, .null, .int 0, .null, .int 0, .int 0, .int 0, .long 0, .null, .null, .null, .int 0, .int 0, .long 0])), (q_1, .inr (0, [.int 0, .ref te, .int 0])), (q_6, .inr (0, [.int 0, .ref te, .int 0])), (q_11, .inr (0, [.int 0, .ref te, .int 0]))] H_13 := hP
  have hD : va_D A [(h0, .inr (17, [.ref q_1, .null, .null, .int 0, .int 0, .ref q_6, .null, .null, .null, .null, .null, .null, .int 0, .null, .int 0, .int 0, .int 0, .long 0, .null, .null, .null, .int 0, .int 0, .long 0])), (q_1, .inr (0, [.int 0, .ref te, .int 0])), (q_6, .inr (0, [.int 0, .ref te, .int 0])), (q_11, .inr (0, [.int 0, .ref te, .int 0]))] := hD
  have hK : va_K (dC, dI) vwCl [] s := hK
  refine W.widen (k := 3) (n := 9) (Nat.le_of_ble_eq_true rfl) (Nat.le_of_ble_eq_true rfl) ?_
  refine va_putF (D := (dC, dI)) (ci := 17) (v := .ref q_11) (ty := .object "java/util/ArrayList") (C := RX16) (T := TX16) (N := 24) hx hb hts in_z_Mi_X16 tyX16 tyX16_ok nmX16 hown hK hP hD hS 0 rfl rfl 6 (by decide) (hts (.fieldLink RX16 19 "SelfkindleModel" "counting" "Ljava/util/ArrayList;") (List.mem_of_getElem? (i := 24) rfl)) (fun _ h9 => h9) rfl hin rfl (by decide +kernel) rfl rfl (Nat.le_of_ble_eq_true rfl) dX16_init_34 (fun H_15 locs hP hD hS => ?_)
  have hP : va_P (dC, dI) vwCl [(h0, .inr (17, [.ref q_1, .null, .null, .int 0, .int 0, .ref q_6, .ref q_11, .null, .null, .null, .null, .null, .int 0, .null, .int 0, .int 0, .int 0, .long 0, .null, .null, .null, .int 0, .int 0, .long 0])), (q_1, .inr (0, [.int 0, .ref te, .int 0])), (q_6, .inr (0, [.int 0, .ref te, .int 0])), (q_11, .inr (0, [.int 0, .ref te, .int 0]))] H_15 := hP
  have hD : va_D A [(h0, .inr (17, [.ref q_1, .null, .null, .int 0, .int 0, .ref q_6, .ref q_11, .null, .null, .null, .null, .null, .int 0, .null, .int 0, .int 0, .int 0, .long 0, .null, .null, .null, .int 0, .int 0, .long 0])), (q_1, .inr (0, [.int 0, .ref te, .int 0])), (q_6, .inr (0, [.int 0, .ref te, .int 0])), (q_11, .inr (0, [.int 0, .ref te, .int 0]))] := hD
  have hK : va_K (dC, dI) vwCl [] s := hK
  refine lv_aload_n hx hb dX16_init_37 rfl (lv_at hl 0 rfl) ?_
  refine va_new (D := (dC, dI)) (cl := vwCl) (ci := 0) (fs := [.int 0, .null, .int 0]) (C := RJx4a65c) (T := TJx4a65c) (N := 3) hx hb hts in_z_Mi_Jx4a65c tyJx4a65c tyJx4a65c_ok hown (hts (.classLink RX16 7 RJx4a65c) (List.mem_of_getElem? (i := 4) rfl)) (hts (.instantiable RJx4a65c 3) (List.mem_of_getElem? (i := 5) rfl)) (hts (.initialized RJx4a65c) (List.mem_of_getElem? (i := 6) rfl)) hK hP hD hS hA rfl dflt_Jx4a65c (Nat.le_of_ble_eq_true rfl) (Nat.le_of_ble_eq_true rfl) dX16_init_38 (fun q_16 H_17 hP hD hS => ?_)
  have hP : va_P (dC, dI) vwCl [(h0, .inr (17, [.ref q_1, .null, .null, .int 0, .int 0, .ref q_6, .ref q_11, .null, .null, .null, .null, .null, .int 0, .null, .int 0, .int 0, .int 0, .long 0, .null, .null, .null, .int 0, .int 0, .long 0])), (q_1, .inr (0, [.int 0, .ref te, .int 0])), (q_6, .inr (0, [.int 0, .ref te, .int 0])), (q_11, .inr (0, [.int 0, .ref te, .int 0])), (q_16, .inr (0, [.int 0, .null, .int 0]))] H_17 := hP
  have hD : va_D A [(h0, .inr (17, [.ref q_1, .null, .null, .int 0, .int 0, .ref q_6, .ref q_11, .null, .null, .null, .null, .null, .int 0, .null, .int 0, .int 0, .int 0, .long 0, .null, .null, .null, .int 0, .int 0, .long 0])), (q_1, .inr (0, [.int 0, .ref te, .int 0])), (q_6, .inr (0, [.int 0, .ref te, .int 0])), (q_11, .inr (0, [.int 0, .ref te, .int 0])), (q_16, .inr (0, [.int 0, .null, .int 0]))] := hD
  have hK : va_K (dC, dI) vwCl [] s := hK
  refine W.widen (k := 4) (n := 12) (Nat.le_of_ble_eq_true rfl) (Nat.le_of_ble_eq_true rfl) ?_
  refine lv_dup hx hb dX16_init_41 rfl ?_
  have hPc := hP.sub (ws' := [(q_16, .inr (0, [.int 0, .null, .int 0]))]) [4] rfl
  have hDc := hD.sub (ws' := [(q_16, .inr (0, [.int 0, .null, .int 0]))]) [4] (by decide) rfl
  have hKc := hK.sub (tys' := []) [] rfl
  have hFc := va_free (wc := [(q_16, .inr (0, [.int 0, .null, .int 0]))]) hD hS hA [4] rfl
  refine va_callv (va_runI (As := []) (rest := [.ref q_16, .ref h0]) ⟨hx, hb, hml, hown, hts⟩ (c_ARi l dC dI tp te H_17.size q_16) (cwI 0 hts g_Mi_42 rfl rfl rfl (hts (.initialized RJx4a65c) (List.mem_of_getElem? (i := 6) rfl)) (hts (.methodLink RX16 9 yJx4a65c_init_da8c8) (List.mem_of_getElem? (i := 7) rfl)) (hts (.instanceMethod yJx4a65c_init_da8c8) (List.mem_of_getElem? (i := 8) rfl)) rfl (by decide +kernel) ⟨Nat.le_of_ble_eq_true rfl, Nat.le_of_ble_eq_true rfl⟩) ⟨Pw.blind, Pw.mk hPc hKc hDc hG hS hFc⟩ rfl rfl hl.1 rfl (lv_room (Nat.le_of_ble_eq_true rfl)) dX16_init_42 ⟨Nat.le_of_ble_eq_true rfl, Nat.le_of_ble_eq_true rfl⟩) hS (fun q _ h => hFc q h) hFc (fun u t9 H_18 locs ht hvm hw hB hz1 hk1 hS => ?_)
  obtain ⟨hP1, hK1, hD1⟩ := hB
  rw [ht] at hP1
  have hK1 := va_K.moved hvm.symm hK1
  obtain ⟨hP, hD⟩ := va_join (wr := [(h0, .inr (17, [.ref q_1, .null, .null, .int 0, .int 0, .ref q_6, .ref q_11, .null, .null, .null, .null, .null, .int 0, .null, .int 0, .int 0, .int 0, .long 0, .null, .null, .null, .int 0, .int 0, .long 0])), (q_1, .inr (0, [.int 0, .ref te, .int 0])), (q_6, .inr (0, [.int 0, .ref te, .int 0])), (q_11, .inr (0, [.int 0, .ref te, .int 0]))]) (w1 := [(q_16, .inr (0, [.int 0, .ref te, .int 0]))]) hP hD [4] [0, 1, 2, 3] rfl rfl (by decide) (by decide) hk1 hFc hP1 hD1
  have hK := (hK.sub (tys' := []) [] rfl).app hK1
  have hP : va_P (dC, dI) vwCl [(h0, .inr (17, [.ref q_1, .null, .null, .int 0, .int 0, .ref q_6, .ref q_11, .null, .null, .null, .null, .null, .int 0, .null, .int 0, .int 0, .int 0, .long 0, .null, .null, .null, .int 0, .int 0, .long 0])), (q_1, .inr (0, [.int 0, .ref te, .int 0])), (q_6, .inr (0, [.int 0, .ref te, .int 0])), (q_11, .inr (0, [.int 0, .ref te, .int 0])), (q_16, .inr (0, [.int 0, .ref te, .int 0]))] H_18 := hP
  have hD : va_D A [(h0, .inr (17, [.ref q_1, .null, .null, .int 0, .int 0, .ref q_6, .ref q_11, .null, .null, .null, .null, .null, .int 0, .null, .int 0, .int 0, .int 0, .long 0, .null, .null, .null, .int 0, .int 0, .long 0])), (q_1, .inr (0, [.int 0, .ref te, .int 0])), (q_6, .inr (0, [.int 0, .ref te, .int 0])), (q_11, .inr (0, [.int 0, .ref te, .int 0])), (q_16, .inr (0, [.int 0, .ref te, .int 0]))] := hD
  have hK : va_K (dC, dI) vwCl [] s := hK
  refine W.widen (k := 4) (n := 12) (Nat.le_of_ble_eq_true rfl) (Nat.le_of_ble_eq_true rfl) ?_
  refine va_putF (D := (dC, dI)) (ci := 17) (v := .ref q_16) (ty := .object "java/util/ArrayList") (C := RX16) (T := TX16) (N := 24) hx hb hts in_z_Mi_X16 tyX16 tyX16_ok nmX16 hown hK hP hD hS 0 rfl rfl 7 (by decide) (hts (.fieldLink RX16 22 "SelfkindleModel" "looking" "Ljava/util/ArrayList;") (List.mem_of_getElem? (i := 25) rfl)) (fun _ h9 => h9) rfl hin rfl (by decide +kernel) rfl rfl (Nat.le_of_ble_eq_true rfl) dX16_init_45 (fun H_20 locs hP hD hS => ?_)
  have hP : va_P (dC, dI) vwCl [(h0, .inr (17, [.ref q_1, .null, .null, .int 0, .int 0, .ref q_6, .ref q_11, .ref q_16, .null, .null, .null, .null, .int 0, .null, .int 0, .int 0, .int 0, .long 0, .null, .null, .null, .int 0, .int 0, .long 0])), (q_1, .inr (0, [.int 0, .ref te, .int 0])), (q_6, .inr (0, [.int 0, .ref te, .int 0])), (q_11, .inr (0, [.int 0, .ref te, .int 0])), (q_16, .inr (0, [.int 0, .ref te, .int 0]))] H_20 := hP
  have hD : va_D A [(h0, .inr (17, [.ref q_1, .null, .null, .int 0, .int 0, .ref q_6, .ref q_11, .ref q_16, .null, .null, .null, .null, .int 0, .null, .int 0, .int 0, .int 0, .long 0, .null, .null, .null, .int 0, .int 0, .long 0])), (q_1, .inr (0, [.int 0, .ref te, .int 0])), (q_6, .inr (0, [.int 0, .ref te, .int 0])), (q_11, .inr (0, [.int 0, .ref te, .int 0])), (q_16, .inr (0, [.int 0, .ref te, .int 0]))] := hD
  have hK : va_K (dC, dI) vwCl [] s := hK
  refine lv_aload_n hx hb dX16_init_48 rfl (lv_at hl 0 rfl) ?_
  refine va_new (D := (dC, dI)) (cl := vwCl) (ci := 0) (fs := [.int 0, .null, .int 0]) (C := RJx4a65c) (T := TJx4a65c) (N := 3) hx hb hts in_z_Mi_Jx4a65c tyJx4a65c tyJx4a65c_ok hown (hts (.classLink RX16 7 RJx4a65c) (List.mem_of_getElem? (i := 4) rfl)) (hts (.instantiable RJx4a65c 3) (List.mem_of_getElem? (i := 5) rfl)) (hts (.initialized RJx4a65c) (List.mem_of_getElem? (i := 6) rfl)) hK hP hD hS hA rfl dflt_Jx4a65c (Nat.le_of_ble_eq_true rfl) (Nat.le_of_ble_eq_true rfl) dX16_init_49 (fun q_21 H_22 hP hD hS => ?_)
  have hP : va_P (dC, dI) vwCl [(h0, .inr (17, [.ref q_1, .null, .null, .int 0, .int 0, .ref q_6, .ref q_11, .ref q_16, .null, .null, .null, .null, .int 0, .null, .int 0, .int 0, .int 0, .long 0, .null, .null, .null, .int 0, .int 0, .long 0])), (q_1, .inr (0, [.int 0, .ref te, .int 0])), (q_6, .inr (0, [.int 0, .ref te, .int 0])), (q_11, .inr (0, [.int 0, .ref te, .int 0])), (q_16, .inr (0, [.int 0, .ref te, .int 0])), (q_21, .inr (0, [.int 0, .null, .int 0]))] H_22 := hP
  have hD : va_D A [(h0, .inr (17, [.ref q_1, .null, .null, .int 0, .int 0, .ref q_6, .ref q_11, .ref q_16, .null, .null, .null, .null, .int 0, .null, .int 0, .int 0, .int 0, .long 0, .null, .null, .null, .int 0, .int 0, .long 0])), (q_1, .inr (0, [.int 0, .ref te, .int 0])), (q_6, .inr (0, [.int 0, .ref te, .int 0])), (q_11, .inr (0, [.int 0, .ref te, .int 0])), (q_16, .inr (0, [.int 0, .ref te, .int 0])), (q_21, .inr (0, [.int 0, .null, .int 0]))] := hD
  have hK : va_K (dC, dI) vwCl [] s := hK
  refine W.widen (k := 5) (n := 15) (Nat.le_of_ble_eq_true rfl) (Nat.le_of_ble_eq_true rfl) ?_
  refine lv_dup hx hb dX16_init_52 rfl ?_
  have hPc := hP.sub (ws' := [(q_21, .inr (0, [.int 0, .null, .int 0]))]) [5] rfl
  have hDc := hD.sub (ws' := [(q_21, .inr (0, [.int 0, .null, .int 0]))]) [5] (by decide) rfl
  have hKc := hK.sub (tys' := []) [] rfl
  have hFc := va_free (wc := [(q_21, .inr (0, [.int 0, .null, .int 0]))]) hD hS hA [5] rfl
  refine va_callv (va_runI (As := []) (rest := [.ref q_21, .ref h0]) ⟨hx, hb, hml, hown, hts⟩ (c_ARi l dC dI tp te H_22.size q_21) (cwI 0 hts g_Mi_53 rfl rfl rfl (hts (.initialized RJx4a65c) (List.mem_of_getElem? (i := 6) rfl)) (hts (.methodLink RX16 9 yJx4a65c_init_da8c8) (List.mem_of_getElem? (i := 7) rfl)) (hts (.instanceMethod yJx4a65c_init_da8c8) (List.mem_of_getElem? (i := 8) rfl)) rfl (by decide +kernel) ⟨Nat.le_of_ble_eq_true rfl, Nat.le_of_ble_eq_true rfl⟩) ⟨Pw.blind, Pw.mk hPc hKc hDc hG hS hFc⟩ rfl rfl hl.1 rfl (lv_room (Nat.le_of_ble_eq_true rfl)) dX16_init_53 ⟨Nat.le_of_ble_eq_true rfl, Nat.le_of_ble_eq_true rfl⟩) hS (fun q _ h => hFc q h) hFc (fun u t9 H_23 locs ht hvm hw hB hz1 hk1 hS => ?_)
  obtain ⟨hP1, hK1, hD1⟩ := hB
  rw [ht] at hP1
  have hK1 := va_K.moved hvm.symm hK1
  obtain ⟨hP, hD⟩ := va_join (wr := [(h0, .inr (17, [.ref q_1, .null, .null, .int 0, .int 0, .ref q_6, .ref q_11, .ref q_16, .null, .null, .null, .null, .int 0, .null, .int 0, .int 0, .int 0, .long 0, .null, .null, .null, .int 0, .int 0, .long 0])), (q_1, .inr (0, [.int 0, .ref te, .int 0])), (q_6, .inr (0, [.int 0, .ref te, .int 0])), (q_11, .inr (0, [.int 0, .ref te, .int 0])), (q_16, .inr (0, [.int 0, .ref te, .int 0]))]) (w1 := [(q_21, .inr (0, [.int 0, .ref te, .int 0]))]) hP hD [5] [0, 1, 2, 3, 4] rfl rfl (by decide) (by decide) hk1 hFc hP1 hD1
  have hK := (hK.sub (tys' := []) [] rfl).app hK1
  have hP : va_P (dC, dI) vwCl [(h0, .inr (17, [.ref q_1, .null, .null, .int 0, .int 0, .ref q_6, .ref q_11, .ref q_16, .null, .null, .null, .null, .int 0, .null, .int 0, .int 0, .int 0, .long 0, .null, .null, .null, .int 0, .int 0, .long 0])), (q_1, .inr (0, [.int 0, .ref te, .int 0])), (q_6, .inr (0, [.int 0, .ref te, .int 0])), (q_11, .inr (0, [.int 0, .ref te, .int 0])), (q_16, .inr (0, [.int 0, .ref te, .int 0])), (q_21, .inr (0, [.int 0, .ref te, .int 0]))] H_23 := hP
  have hD : va_D A [(h0, .inr (17, [.ref q_1, .null, .null, .int 0, .int 0, .ref q_6, .ref q_11, .ref q_16, .null, .null, .null, .null, .int 0, .null, .int 0, .int 0, .int 0, .long 0, .null, .null, .null, .int 0, .int 0, .long 0])), (q_1, .inr (0, [.int 0, .ref te, .int 0])), (q_6, .inr (0, [.int 0, .ref te, .int 0])), (q_11, .inr (0, [.int 0, .ref te, .int 0])), (q_16, .inr (0, [.int 0, .ref te, .int 0])), (q_21, .inr (0, [.int 0, .ref te, .int 0]))] := hD
  have hK : va_K (dC, dI) vwCl [] s := hK
  refine W.widen (k := 5) (n := 15) (Nat.le_of_ble_eq_true rfl) (Nat.le_of_ble_eq_true rfl) ?_
  refine va_putF (D := (dC, dI)) (ci := 17) (v := .ref q_21) (ty := .object "java/util/ArrayList") (C := RX16) (T := TX16) (N := 24) hx hb hts in_z_Mi_X16 tyX16 tyX16_ok nmX16 hown hK hP hD hS 0 rfl rfl 8 (by decide) (hts (.fieldLink RX16 25 "SelfkindleModel" "looked" "Ljava/util/ArrayList;") (List.mem_of_getElem? (i := 26) rfl)) (fun _ h9 => h9) rfl hin rfl (by decide +kernel) rfl rfl (Nat.le_of_ble_eq_true rfl) dX16_init_56 (fun H_25 locs hP hD hS => ?_)
  have hP : va_P (dC, dI) vwCl [(h0, .inr (17, [.ref q_1, .null, .null, .int 0, .int 0, .ref q_6, .ref q_11, .ref q_16, .ref q_21, .null, .null, .null, .int 0, .null, .int 0, .int 0, .int 0, .long 0, .null, .null, .null, .int 0, .int 0, .long 0])), (q_1, .inr (0, [.int 0, .ref te, .int 0])), (q_6, .inr (0, [.int 0, .ref te, .int 0])), (q_11, .inr (0, [.int 0, .ref te, .int 0])), (q_16, .inr (0, [.int 0, .ref te, .int 0])), (q_21, .inr (0, [.int 0, .ref te, .int 0]))] H_25 := hP
  have hD : va_D A [(h0, .inr (17, [.ref q_1, .null, .null, .int 0, .int 0, .ref q_6, .ref q_11, .ref q_16, .ref q_21, .null, .null, .null, .int 0, .null, .int 0, .int 0, .int 0, .long 0, .null, .null, .null, .int 0, .int 0, .long 0])), (q_1, .inr (0, [.int 0, .ref te, .int 0])), (q_6, .inr (0, [.int 0, .ref te, .int 0])), (q_11, .inr (0, [.int 0, .ref te, .int 0])), (q_16, .inr (0, [.int 0, .ref te, .int 0])), (q_21, .inr (0, [.int 0, .ref te, .int 0]))] := hD
  have hK : va_K (dC, dI) vwCl [] s := hK
  refine lv_aload_n hx hb dX16_init_59 rfl (lv_at hl 0 rfl) ?_
  refine va_new (D := (dC, dI)) (cl := vwCl) (ci := 0) (fs := [.int 0, .null, .int 0]) (C := RJx4a65c) (T := TJx4a65c) (N := 3) hx hb hts in_z_Mi_Jx4a65c tyJx4a65c tyJx4a65c_ok hown (hts (.classLink RX16 7 RJx4a65c) (List.mem_of_getElem? (i := 4) rfl)) (hts (.instantiable RJx4a65c 3) (List.mem_of_getElem? (i := 5) rfl)) (hts (.initialized RJx4a65c) (List.mem_of_getElem? (i := 6) rfl)) hK hP hD hS hA rfl dflt_Jx4a65c (Nat.le_of_ble_eq_true rfl) (Nat.le_of_ble_eq_true rfl) dX16_init_60 (fun q_26 H_27 hP hD hS => ?_)
  have hP : va_P (dC, dI) vwCl [(h0, .inr (17, [.ref q_1, .null, .null, .int 0, .int 0, .ref q_6, .ref q_11, .ref q_16, .ref q_21, .null, .null, .null, .int 0, .null, .int 0, .int 0, .int 0, .long 0, .null, .null, .null, .int 0, .int 0, .long 0])), (q_1, .inr (0, [.int 0, .ref te, .int 0])), (q_6, .inr (0, [.int 0, .ref te, .int 0])), (q_11, .inr (0, [.int 0, .ref te, .int 0])), (q_16, .inr (0, [.int 0, .ref te, .int 0])), (q_21, .inr (0, [.int 0, .ref te, .int 0])), (q_26, .inr (0, [.int 0, .null, .int 0]))] H_27 := hP
  have hD : va_D A [(h0, .inr (17, [.ref q_1, .null, .null, .int 0, .int 0, .ref q_6, .ref q_11, .ref q_16, .ref q_21, .null, .null, .null, .int 0, .null, .int 0, .int 0, .int 0, .long 0, .null, .null, .null, .int 0, .int 0, .long 0])), (q_1, .inr (0, [.int 0, .ref te, .int 0])), (q_6, .inr (0, [.int 0, .ref te, .int 0])), (q_11, .inr (0, [.int 0, .ref te, .int 0])), (q_16, .inr (0, [.int 0, .ref te, .int 0])), (q_21, .inr (0, [.int 0, .ref te, .int 0])), (q_26, .inr (0, [.int 0, .null, .int 0]))] := hD
  have hK : va_K (dC, dI) vwCl [] s := hK
  refine W.widen (k := 6) (n := 18) (Nat.le_of_ble_eq_true rfl) (Nat.le_of_ble_eq_true rfl) ?_
  refine lv_dup hx hb dX16_init_63 rfl ?_
  have hPc := hP.sub (ws' := [(q_26, .inr (0, [.int 0, .null, .int 0]))]) [6] rfl
  have hDc := hD.sub (ws' := [(q_26, .inr (0, [.int 0, .null, .int 0]))]) [6] (by decide) rfl
  have hKc := hK.sub (tys' := []) [] rfl
  have hFc := va_free (wc := [(q_26, .inr (0, [.int 0, .null, .int 0]))]) hD hS hA [6] rfl
  refine va_callv (va_runI (As := []) (rest := [.ref q_26, .ref h0]) ⟨hx, hb, hml, hown, hts⟩ (c_ARi l dC dI tp te H_27.size q_26) (cwI 0 hts g_Mi_64 rfl rfl rfl (hts (.initialized RJx4a65c) (List.mem_of_getElem? (i := 6) rfl)) (hts (.methodLink RX16 9 yJx4a65c_init_da8c8) (List.mem_of_getElem? (i := 7) rfl)) (hts (.instanceMethod yJx4a65c_init_da8c8) (List.mem_of_getElem? (i := 8) rfl)) rfl (by decide +kernel) ⟨Nat.le_of_ble_eq_true rfl, Nat.le_of_ble_eq_true rfl⟩) ⟨Pw.blind, Pw.mk hPc hKc hDc hG hS hFc⟩ rfl rfl hl.1 rfl (lv_room (Nat.le_of_ble_eq_true rfl)) dX16_init_64 ⟨Nat.le_of_ble_eq_true rfl, Nat.le_of_ble_eq_true rfl⟩) hS (fun q _ h => hFc q h) hFc (fun u t9 H_28 locs ht hvm hw hB hz1 hk1 hS => ?_)
  obtain ⟨hP1, hK1, hD1⟩ := hB
  rw [ht] at hP1
  have hK1 := va_K.moved hvm.symm hK1
  obtain ⟨hP, hD⟩ := va_join (wr := [(h0, .inr (17, [.ref q_1, .null, .null, .int 0, .int 0, .ref q_6, .ref q_11, .ref q_16, .ref q_21, .null, .null, .null, .int 0, .null, .int 0, .int 0, .int 0, .long 0, .null, .null, .null, .int 0, .int 0, .long 0])), (q_1, .inr (0, [.int 0, .ref te, .int 0])), (q_6, .inr (0, [.int 0, .ref te, .int 0])), (q_11, .inr (0, [.int 0, .ref te, .int 0])), (q_16, .inr (0, [.int 0, .ref te, .int 0])), (q_21, .inr (0, [.int 0, .ref te, .int 0]))]) (w1 := [(q_26, .inr (0, [.int 0, .ref te, .int 0]))]) hP hD [6] [0, 1, 2, 3, 4, 5] rfl rfl (by decide) (by decide) hk1 hFc hP1 hD1
  have hK := (hK.sub (tys' := []) [] rfl).app hK1
  have hP : va_P (dC, dI) vwCl [(h0, .inr (17, [.ref q_1, .null, .null, .int 0, .int 0, .ref q_6, .ref q_11, .ref q_16, .ref q_21, .null, .null, .null, .int 0, .null, .int 0, .int 0, .int 0, .long 0, .null, .null, .null, .int 0, .int 0, .long 0])), (q_1, .inr (0, [.int 0, .ref te, .int 0])), (q_6, .inr (0, [.int 0, .ref te, .int 0])), (q_11, .inr (0, [.int 0, .ref te, .int 0])), (q_16, .inr (0, [.int 0, .ref te, .int 0])), (q_21, .inr (0, [.int 0, .ref te, .int 0])), (q_26, .inr (0, [.int 0, .ref te, .int 0]))] H_28 := hP
  have hD : va_D A [(h0, .inr (17, [.ref q_1, .null, .null, .int 0, .int 0, .ref q_6, .ref q_11, .ref q_16, .ref q_21, .null, .null, .null, .int 0, .null, .int 0, .int 0, .int 0, .long 0, .null, .null, .null, .int 0, .int 0, .long 0])), (q_1, .inr (0, [.int 0, .ref te, .int 0])), (q_6, .inr (0, [.int 0, .ref te, .int 0])), (q_11, .inr (0, [.int 0, .ref te, .int 0])), (q_16, .inr (0, [.int 0, .ref te, .int 0])), (q_21, .inr (0, [.int 0, .ref te, .int 0])), (q_26, .inr (0, [.int 0, .ref te, .int 0]))] := hD
  have hK : va_K (dC, dI) vwCl [] s := hK
  refine W.widen (k := 6) (n := 18) (Nat.le_of_ble_eq_true rfl) (Nat.le_of_ble_eq_true rfl) ?_
  refine va_putF (D := (dC, dI)) (ci := 17) (v := .ref q_26) (ty := .object "java/util/ArrayList") (C := RX16) (T := TX16) (N := 24) hx hb hts in_z_Mi_X16 tyX16 tyX16_ok nmX16 hown hK hP hD hS 0 rfl rfl 9 (by decide) (hts (.fieldLink RX16 28 "SelfkindleModel" "joining" "Ljava/util/ArrayList;") (List.mem_of_getElem? (i := 27) rfl)) (fun _ h9 => h9) rfl hin rfl (by decide +kernel) rfl rfl (Nat.le_of_ble_eq_true rfl) dX16_init_67 (fun H_30 locs hP hD hS => ?_)
  have hP : va_P (dC, dI) vwCl [(h0, .inr (17, [.ref q_1, .null, .null, .int 0, .int 0, .ref q_6, .ref q_11, .ref q_16, .ref q_21, .ref q_26, .null, .null, .int 0, .null, .int 0, .int 0, .int 0, .long 0, .null, .null, .null, .int 0, .int 0, .long 0])), (q_1, .inr (0, [.int 0, .ref te, .int 0])), (q_6, .inr (0, [.int 0, .ref te, .int 0])), (q_11, .inr (0, [.int 0, .ref te, .int 0])), (q_16, .inr (0, [.int 0, .ref te, .int 0])), (q_21, .inr (0, [.int 0, .ref te, .int 0])), (q_26, .inr (0, [.int 0, .ref te, .int 0]))] H_30 := hP
  have hD : va_D A [(h0, .inr (17, [.ref q_1, .null, .null, .int 0, .int 0, .ref q_6, .ref q_11, .ref q_16, .ref q_21, .ref q_26, .null, .null, .int 0, .null, .int 0, .int 0, .int 0, .long 0, .null, .null, .null, .int 0, .int 0, .long 0])), (q_1, .inr (0, [.int 0, .ref te, .int 0])), (q_6, .inr (0, [.int 0, .ref te, .int 0])), (q_11, .inr (0, [.int 0, .ref te, .int 0])), (q_16, .inr (0, [.int 0, .ref te, .int 0])), (q_21, .inr (0, [.int 0, .ref te, .int 0])), (q_26, .inr (0, [.int 0, .ref te, .int 0]))] := hD
  have hK : va_K (dC, dI) vwCl [] s := hK
  refine lv_aload_n hx hb dX16_init_70 rfl (lv_at hl 0 rfl) ?_
  refine va_new (D := (dC, dI)) (cl := vwCl) (ci := 0) (fs := [.int 0, .null, .int 0]) (C := RJx4a65c) (T := TJx4a65c) (N := 3) hx hb hts in_z_Mi_Jx4a65c tyJx4a65c tyJx4a65c_ok hown (hts (.classLink RX16 7 RJx4a65c) (List.mem_of_getElem? (i := 4) rfl)) (hts (.instantiable RJx4a65c 3) (List.mem_of_getElem? (i := 5) rfl)) (hts (.initialized RJx4a65c) (List.mem_of_getElem? (i := 6) rfl)) hK hP hD hS hA rfl dflt_Jx4a65c (Nat.le_of_ble_eq_true rfl) (Nat.le_of_ble_eq_true rfl) dX16_init_71 (fun q_31 H_32 hP hD hS => ?_)
  have hP : va_P (dC, dI) vwCl [(h0, .inr (17, [.ref q_1, .null, .null, .int 0, .int 0, .ref q_6, .ref q_11, .ref q_16, .ref q_21, .ref q_26, .null, .null, .int 0, .null, .int 0, .int 0, .int 0, .long 0, .null, .null, .null, .int 0, .int 0, .long 0])), (q_1, .inr (0, [.int 0, .ref te, .int 0])), (q_6, .inr (0, [.int 0, .ref te, .int 0])), (q_11, .inr (0, [.int 0, .ref te, .int 0])), (q_16, .inr (0, [.int 0, .ref te, .int 0])), (q_21, .inr (0, [.int 0, .ref te, .int 0])), (q_26, .inr (0, [.int 0, .ref te, .int 0])), (q_31, .inr (0, [.int 0, .null, .int 0]))] H_32 := hP
  have hD : va_D A [(h0, .inr (17, [.ref q_1, .null, .null, .int 0, .int 0, .ref q_6, .ref q_11, .ref q_16, .ref q_21, .ref q_26, .null, .null, .int 0, .null, .int 0, .int 0, .int 0, .long 0, .null, .null, .null, .int 0, .int 0, .long 0])), (q_1, .inr (0, [.int 0, .ref te, .int 0])), (q_6, .inr (0, [.int 0, .ref te, .int 0])), (q_11, .inr (0, [.int 0, .ref te, .int 0])), (q_16, .inr (0, [.int 0, .ref te, .int 0])), (q_21, .inr (0, [.int 0, .ref te, .int 0])), (q_26, .inr (0, [.int 0, .ref te, .int 0])), (q_31, .inr (0, [.int 0, .null, .int 0]))] := hD
  have hK : va_K (dC, dI) vwCl [] s := hK
  refine W.widen (k := 7) (n := 21) (Nat.le_of_ble_eq_true rfl) (Nat.le_of_ble_eq_true rfl) ?_
  refine lv_dup hx hb dX16_init_74 rfl ?_
  have hPc := hP.sub (ws' := [(q_31, .inr (0, [.int 0, .null, .int 0]))]) [7] rfl
  have hDc := hD.sub (ws' := [(q_31, .inr (0, [.int 0, .null, .int 0]))]) [7] (by decide) rfl
  have hKc := hK.sub (tys' := []) [] rfl
  have hFc := va_free (wc := [(q_31, .inr (0, [.int 0, .null, .int 0]))]) hD hS hA [7] rfl
  refine va_callv (va_runI (As := []) (rest := [.ref q_31, .ref h0]) ⟨hx, hb, hml, hown, hts⟩ (c_ARi l dC dI tp te H_32.size q_31) (cwI 0 hts g_Mi_75 rfl rfl rfl (hts (.initialized RJx4a65c) (List.mem_of_getElem? (i := 6) rfl)) (hts (.methodLink RX16 9 yJx4a65c_init_da8c8) (List.mem_of_getElem? (i := 7) rfl)) (hts (.instanceMethod yJx4a65c_init_da8c8) (List.mem_of_getElem? (i := 8) rfl)) rfl (by decide +kernel) ⟨Nat.le_of_ble_eq_true rfl, Nat.le_of_ble_eq_true rfl⟩) ⟨Pw.blind, Pw.mk hPc hKc hDc hG hS hFc⟩ rfl rfl hl.1 rfl (lv_room (Nat.le_of_ble_eq_true rfl)) dX16_init_75 ⟨Nat.le_of_ble_eq_true rfl, Nat.le_of_ble_eq_true rfl⟩) hS (fun q _ h => hFc q h) hFc (fun u t9 H_33 locs ht hvm hw hB hz1 hk1 hS => ?_)
  obtain ⟨hP1, hK1, hD1⟩ := hB
  rw [ht] at hP1
  have hK1 := va_K.moved hvm.symm hK1
  obtain ⟨hP, hD⟩ := va_join (wr := [(h0, .inr (17, [.ref q_1, .null, .null, .int 0, .int 0, .ref q_6, .ref q_11, .ref q_16, .ref q_21, .ref q_26, .null, .null, .int 0, .null, .int 0, .int 0, .int 0, .long 0, .null, .null, .null, .int 0, .int 0, .long 0])), (q_1, .inr (0, [.int 0, .ref te, .int 0])), (q_6, .inr (0, [.int 0, .ref te, .int 0])), (q_11, .inr (0, [.int 0, .ref te, .int 0])), (q_16, .inr (0, [.int 0, .ref te, .int 0])), (q_21, .inr (0, [.int 0, .ref te, .int 0])), (q_26, .inr (0, [.int 0, .ref te, .int 0]))]) (w1 := [(q_31, .inr (0, [.int 0, .ref te, .int 0]))]) hP hD [7] [0, 1, 2, 3, 4, 5, 6] rfl rfl (by decide) (by decide) hk1 hFc hP1 hD1
  have hK := (hK.sub (tys' := []) [] rfl).app hK1
  have hP : va_P (dC, dI) vwCl [(h0, .inr (17, [.ref q_1, .null, .null, .int 0, .int 0, .ref q_6, .ref q_11, .ref q_16, .ref q_21, .ref q_26, .null, .null, .int 0, .null, .int 0, .int 0, .int 0, .long 0, .null, .null, .null, .int 0, .int 0, .long 0])), (q_1, .inr (0, [.int 0, .ref te, .int 0])), (q_6, .inr (0, [.int 0, .ref te, .int 0])), (q_11, .inr (0, [.int 0, .ref te, .int 0])), (q_16, .inr (0, [.int 0, .ref te, .int 0])), (q_21, .inr (0, [.int 0, .ref te, .int 0])), (q_26, .inr (0, [.int 0, .ref te, .int 0])), (q_31, .inr (0, [.int 0, .ref te, .int 0]))] H_33 := hP
  have hD : va_D A [(h0, .inr (17, [.ref q_1, .null, .null, .int 0, .int 0, .ref q_6, .ref q_11, .ref q_16, .ref q_21, .ref q_26, .null, .null, .int 0, .null, .int 0, .int 0, .int 0, .long 0, .null, .null, .null, .int 0, .int 0, .long 0])), (q_1, .inr (0, [.int 0, .ref te, .int 0])), (q_6, .inr (0, [.int 0, .ref te, .int 0])), (q_11, .inr (0, [.int 0, .ref te, .int 0])), (q_16, .inr (0, [.int 0, .ref te, .int 0])), (q_21, .inr (0, [.int 0, .ref te, .int 0])), (q_26, .inr (0, [.int 0, .ref te, .int 0])), (q_31, .inr (0, [.int 0, .ref te, .int 0]))] := hD
  have hK : va_K (dC, dI) vwCl [] s := hK
  refine W.widen (k := 7) (n := 21) (Nat.le_of_ble_eq_true rfl) (Nat.le_of_ble_eq_true rfl) ?_
  refine va_putF (D := (dC, dI)) (ci := 17) (v := .ref q_31) (ty := .object "java/util/ArrayList") (C := RX16) (T := TX16) (N := 24) hx hb hts in_z_Mi_X16 tyX16 tyX16_ok nmX16 hown hK hP hD hS 0 rfl rfl 13 (by decide) (hts (.fieldLink RX16 31 "SelfkindleModel" "orders" "Ljava/util/ArrayList;") (List.mem_of_getElem? (i := 28) rfl)) (fun _ h9 => h9) rfl hin rfl (by decide +kernel) rfl rfl (Nat.le_of_ble_eq_true rfl) dX16_init_78 (fun H_35 locs hP hD hS => ?_)
  have hP : va_P (dC, dI) vwCl [(h0, .inr (17, [.ref q_1, .null, .null, .int 0, .int 0, .ref q_6, .ref q_11, .ref q_16, .ref q_21, .ref q_26, .null, .null, .int 0, .ref q_31, .int 0, .int 0, .int 0, .long 0, .null, .null, .null, .int 0, .int 0, .long 0])), (q_1, .inr (0, [.int 0, .ref te, .int 0])), (q_6, .inr (0, [.int 0, .ref te, .int 0])), (q_11, .inr (0, [.int 0, .ref te, .int 0])), (q_16, .inr (0, [.int 0, .ref te, .int 0])), (q_21, .inr (0, [.int 0, .ref te, .int 0])), (q_26, .inr (0, [.int 0, .ref te, .int 0])), (q_31, .inr (0, [.int 0, .ref te, .int 0]))] H_35 := hP
  have hD : va_D A [(h0, .inr (17, [.ref q_1, .null, .null, .int 0, .int 0, .ref q_6, .ref q_11, .ref q_16, .ref q_21, .ref q_26, .null, .null, .int 0, .ref q_31, .int 0, .int 0, .int 0, .long 0, .null, .null, .null, .int 0, .int 0, .long 0])), (q_1, .inr (0, [.int 0, .ref te, .int 0])), (q_6, .inr (0, [.int 0, .ref te, .int 0])), (q_11, .inr (0, [.int 0, .ref te, .int 0])), (q_16, .inr (0, [.int 0, .ref te, .int 0])), (q_21, .inr (0, [.int 0, .ref te, .int 0])), (q_26, .inr (0, [.int 0, .ref te, .int 0])), (q_31, .inr (0, [.int 0, .ref te, .int 0]))] := hD
  have hK : va_K (dC, dI) vwCl [] s := hK
  refine lv_aload_n hx hb dX16_init_81 rfl (lv_at hl 0 rfl) ?_
  refine va_new (D := (dC, dI)) (cl := vwCl) (ci := 0) (fs := [.int 0, .null, .int 0]) (C := RJx4a65c) (T := TJx4a65c) (N := 3) hx hb hts in_z_Mi_Jx4a65c tyJx4a65c tyJx4a65c_ok hown (hts (.classLink RX16 7 RJx4a65c) (List.mem_of_getElem? (i := 4) rfl)) (hts (.instantiable RJx4a65c 3) (List.mem_of_getElem? (i := 5) rfl)) (hts (.initialized RJx4a65c) (List.mem_of_getElem? (i := 6) rfl)) hK hP hD hS hA rfl dflt_Jx4a65c (Nat.le_of_ble_eq_true rfl) (Nat.le_of_ble_eq_true rfl) dX16_init_82 (fun q_36 H_37 hP hD hS => ?_)
  have hP : va_P (dC, dI) vwCl [(h0, .inr (17, [.ref q_1, .null, .null, .int 0, .int 0, .ref q_6, .ref q_11, .ref q_16, .ref q_21, .ref q_26, .null, .null, .int 0, .ref q_31, .int 0, .int 0, .int 0, .long 0, .null, .null, .null, .int 0, .int 0, .long 0])), (q_1, .inr (0, [.int 0, .ref te, .int 0])), (q_6, .inr (0, [.int 0, .ref te, .int 0])), (q_11, .inr (0, [.int 0, .ref te, .int 0])), (q_16, .inr (0, [.int 0, .ref te, .int 0])), (q_21, .inr (0, [.int 0, .ref te, .int 0])), (q_26, .inr (0, [.int 0, .ref te, .int 0])), (q_31, .inr (0, [.int 0, .ref te, .int 0])), (q_36, .inr (0, [.int 0, .null, .int 0]))] H_37 := hP
  have hD : va_D A [(h0, .inr (17, [.ref q_1, .null, .null, .int 0, .int 0, .ref q_6, .ref q_11, .ref q_16, .ref q_21, .ref q_26, .null, .null, .int 0, .ref q_31, .int 0, .int 0, .int 0, .long 0, .null, .null, .null, .int 0, .int 0, .long 0])), (q_1, .inr (0, [.int 0, .ref te, .int 0])), (q_6, .inr (0, [.int 0, .ref te, .int 0])), (q_11, .inr (0, [.int 0, .ref te, .int 0])), (q_16, .inr (0, [.int 0, .ref te, .int 0])), (q_21, .inr (0, [.int 0, .ref te, .int 0])), (q_26, .inr (0, [.int 0, .ref te, .int 0])), (q_31, .inr (0, [.int 0, .ref te, .int 0])), (q_36, .inr (0, [.int 0, .null, .int 0]))] := hD
  have hK : va_K (dC, dI) vwCl [] s := hK
  refine W.widen (k := 8) (n := 24) (Nat.le_of_ble_eq_true rfl) (Nat.le_of_ble_eq_true rfl) ?_
  refine lv_dup hx hb dX16_init_85 rfl ?_
  have hPc := hP.sub (ws' := [(q_36, .inr (0, [.int 0, .null, .int 0]))]) [8] rfl
  have hDc := hD.sub (ws' := [(q_36, .inr (0, [.int 0, .null, .int 0]))]) [8] (by decide) rfl
  have hKc := hK.sub (tys' := []) [] rfl
  have hFc := va_free (wc := [(q_36, .inr (0, [.int 0, .null, .int 0]))]) hD hS hA [8] rfl
  refine va_callv (va_runI (As := []) (rest := [.ref q_36, .ref h0]) ⟨hx, hb, hml, hown, hts⟩ (c_ARi l dC dI tp te H_37.size q_36) (cwI 0 hts g_Mi_86 rfl rfl rfl (hts (.initialized RJx4a65c) (List.mem_of_getElem? (i := 6) rfl)) (hts (.methodLink RX16 9 yJx4a65c_init_da8c8) (List.mem_of_getElem? (i := 7) rfl)) (hts (.instanceMethod yJx4a65c_init_da8c8) (List.mem_of_getElem? (i := 8) rfl)) rfl (by decide +kernel) ⟨Nat.le_of_ble_eq_true rfl, Nat.le_of_ble_eq_true rfl⟩) ⟨Pw.blind, Pw.mk hPc hKc hDc hG hS hFc⟩ rfl rfl hl.1 rfl (lv_room (Nat.le_of_ble_eq_true rfl)) dX16_init_86 ⟨Nat.le_of_ble_eq_true rfl, Nat.le_of_ble_eq_true rfl⟩) hS (fun q _ h => hFc q h) hFc (fun u t9 H_38 locs ht hvm hw hB hz1 hk1 hS => ?_)
  obtain ⟨hP1, hK1, hD1⟩ := hB
  rw [ht] at hP1
  have hK1 := va_K.moved hvm.symm hK1
  obtain ⟨hP, hD⟩ := va_join (wr := [(h0, .inr (17, [.ref q_1, .null, .null, .int 0, .int 0, .ref q_6, .ref q_11, .ref q_16, .ref q_21, .ref q_26, .null, .null, .int 0, .ref q_31, .int 0, .int 0, .int 0, .long 0, .null, .null, .null, .int 0, .int 0, .long 0])), (q_1, .inr (0, [.int 0, .ref te, .int 0])), (q_6, .inr (0, [.int 0, .ref te, .int 0])), (q_11, .inr (0, [.int 0, .ref te, .int 0])), (q_16, .inr (0, [.int 0, .ref te, .int 0])), (q_21, .inr (0, [.int 0, .ref te, .int 0])), (q_26, .inr (0, [.int 0, .ref te, .int 0])), (q_31, .inr (0, [.int 0, .ref te, .int 0]))]) (w1 := [(q_36, .inr (0, [.int 0, .ref te, .int 0]))]) hP hD [8] [0, 1, 2, 3, 4, 5, 6, 7] rfl rfl (by decide) (by decide) hk1 hFc hP1 hD1
  have hK := (hK.sub (tys' := []) [] rfl).app hK1
  have hP : va_P (dC, dI) vwCl [(h0, .inr (17, [.ref q_1, .null, .null, .int 0, .int 0, .ref q_6, .ref q_11, .ref q_16, .ref q_21, .ref q_26, .null, .null, .int 0, .ref q_31, .int 0, .int 0, .int 0, .long 0, .null, .null, .null, .int 0, .int 0, .long 0])), (q_1, .inr (0, [.int 0, .ref te, .int 0])), (q_6, .inr (0, [.int 0, .ref te, .int 0])), (q_11, .inr (0, [.int 0, .ref te, .int 0])), (q_16, .inr (0, [.int 0, .ref te, .int 0])), (q_21, .inr (0, [.int 0, .ref te, .int 0])), (q_26, .inr (0, [.int 0, .ref te, .int 0])), (q_31, .inr (0, [.int 0, .ref te, .int 0])), (q_36, .inr (0, [.int 0, .ref te, .int 0]))] H_38 := hP
  have hD : va_D A [(h0, .inr (17, [.ref q_1, .null, .null, .int 0, .int 0, .ref q_6, .ref q_11, .ref q_16, .ref q_21, .ref q_26, .null, .null, .int 0, .ref q_31, .int 0, .int 0, .int 0, .long 0, .null, .null, .null, .int 0, .int 0, .long 0])), (q_1, .inr (0, [.int 0, .ref te, .int 0])), (q_6, .inr (0, [.int 0, .ref te, .int 0])), (q_11, .inr (0, [.int 0, .ref te, .int 0])), (q_16, .inr (0, [.int 0, .ref te, .int 0])), (q_21, .inr (0, [.int 0, .ref te, .int 0])), (q_26, .inr (0, [.int 0, .ref te, .int 0])), (q_31, .inr (0, [.int 0, .ref te, .int 0])), (q_36, .inr (0, [.int 0, .ref te, .int 0]))] := hD
  have hK : va_K (dC, dI) vwCl [] s := hK
  refine W.widen (k := 8) (n := 24) (Nat.le_of_ble_eq_true rfl) (Nat.le_of_ble_eq_true rfl) ?_
  refine va_putF (D := (dC, dI)) (ci := 17) (v := .ref q_36) (ty := .object "java/util/ArrayList") (C := RX16) (T := TX16) (N := 24) hx hb hts in_z_Mi_X16 tyX16 tyX16_ok nmX16 hown hK hP hD hS 0 rfl rfl 19 (by decide) (hts (.fieldLink RX16 34 "SelfkindleModel" "stack" "Ljava/util/ArrayList;") (List.mem_of_getElem? (i := 29) rfl)) (fun _ h9 => h9) rfl hin rfl (by decide +kernel) rfl rfl (Nat.le_of_ble_eq_true rfl) dX16_init_89 (fun H_40 locs hP hD hS => ?_)
  have hP : va_P (dC, dI) vwCl [(h0, .inr (17, [.ref q_1, .null, .null, .int 0, .int 0, .ref q_6, .ref q_11, .ref q_16, .ref q_21, .ref q_26, .null, .null, .int 0, .ref q_31, .int 0, .int 0, .int 0, .long 0, .null, .ref q_36, .null, .int 0, .int 0, .long 0])), (q_1, .inr (0, [.int 0, .ref te, .int 0])), (q_6, .inr (0, [.int 0, .ref te, .int 0])), (q_11, .inr (0, [.int 0, .ref te, .int 0])), (q_16, .inr (0, [.int 0, .ref te, .int 0])), (q_21, .inr (0, [.int 0, .ref te, .int 0])), (q_26, .inr (0, [.int 0, .ref te, .int 0])), (q_31, .inr (0, [.int 0, .ref te, .int 0])), (q_36, .inr (0, [.int 0, .ref te, .int 0]))] H_40 := hP
  have hD : va_D A [(h0, .inr (17, [.ref q_1, .null, .null, .int 0, .int 0, .ref q_6, .ref q_11, .ref q_16, .ref q_21, .ref q_26, .null, .null, .int 0, .ref q_31, .int 0, .int 0, .int 0, .long 0, .null, .ref q_36, .null, .int 0, .int 0, .long 0])), (q_1, .inr (0, [.int 0, .ref te, .int 0])), (q_6, .inr (0, [.int 0, .ref te, .int 0])), (q_11, .inr (0, [.int 0, .ref te, .int 0])), (q_16, .inr (0, [.int 0, .ref te, .int 0])), (q_21, .inr (0, [.int 0, .ref te, .int 0])), (q_26, .inr (0, [.int 0, .ref te, .int 0])), (q_31, .inr (0, [.int 0, .ref te, .int 0])), (q_36, .inr (0, [.int 0, .ref te, .int 0]))] := hD
  have hK : va_K (dC, dI) vwCl [] s := hK
  refine lv_aload_n hx hb dX16_init_92 rfl (lv_at hl 0 rfl) ?_
  refine va_new (D := (dC, dI)) (cl := vwCl) (ci := 0) (fs := [.int 0, .null, .int 0]) (C := RJx4a65c) (T := TJx4a65c) (N := 3) hx hb hts in_z_Mi_Jx4a65c tyJx4a65c tyJx4a65c_ok hown (hts (.classLink RX16 7 RJx4a65c) (List.mem_of_getElem? (i := 4) rfl)) (hts (.instantiable RJx4a65c 3) (List.mem_of_getElem? (i := 5) rfl)) (hts (.initialized RJx4a65c) (List.mem_of_getElem? (i := 6) rfl)) hK hP hD hS hA rfl dflt_Jx4a65c (Nat.le_of_ble_eq_true rfl) (Nat.le_of_ble_eq_true rfl) dX16_init_93 (fun q_41 H_42 hP hD hS => ?_)
  have hP : va_P (dC, dI) vwCl [(h0, .inr (17, [.ref q_1, .null, .null, .int 0, .int 0, .ref q_6, .ref q_11, .ref q_16, .ref q_21, .ref q_26, .null, .null, .int 0, .ref q_31, .int 0, .int 0, .int 0, .long 0, .null, .ref q_36, .null, .int 0, .int 0, .long 0])), (q_1, .inr (0, [.int 0, .ref te, .int 0])), (q_6, .inr (0, [.int 0, .ref te, .int 0])), (q_11, .inr (0, [.int 0, .ref te, .int 0])), (q_16, .inr (0, [.int 0, .ref te, .int 0])), (q_21, .inr (0, [.int 0, .ref te, .int 0])), (q_26, .inr (0, [.int 0, .ref te, .int 0])), (q_31, .inr (0, [.int 0, .ref te, .int 0])), (q_36, .inr (0, [.int 0, .ref te, .int 0])), (q_41, .inr (0, [.int 0, .null, .int 0]))] H_42 := hP
  have hD : va_D A [(h0, .inr (17, [.ref q_1, .null, .null, .int 0, .int 0, .ref q_6, .ref q_11, .ref q_16, .ref q_21, .ref q_26, .null, .null, .int 0, .ref q_31, .int 0, .int 0, .int 0, .long 0, .null, .ref q_36, .null, .int 0, .int 0, .long 0])), (q_1, .inr (0, [.int 0, .ref te, .int 0])), (q_6, .inr (0, [.int 0, .ref te, .int 0])), (q_11, .inr (0, [.int 0, .ref te, .int 0])), (q_16, .inr (0, [.int 0, .ref te, .int 0])), (q_21, .inr (0, [.int 0, .ref te, .int 0])), (q_26, .inr (0, [.int 0, .ref te, .int 0])), (q_31, .inr (0, [.int 0, .ref te, .int 0])), (q_36, .inr (0, [.int 0, .ref te, .int 0])), (q_41, .inr (0, [.int 0, .null, .int 0]))] := hD
  have hK : va_K (dC, dI) vwCl [] s := hK
  refine W.widen (k := 9) (n := 27) (Nat.le_of_ble_eq_true rfl) (Nat.le_of_ble_eq_true rfl) ?_
  refine lv_dup hx hb dX16_init_96 rfl ?_
  have hPc := hP.sub (ws' := [(q_41, .inr (0, [.int 0, .null, .int 0]))]) [9] rfl
  have hDc := hD.sub (ws' := [(q_41, .inr (0, [.int 0, .null, .int 0]))]) [9] (by decide) rfl
  have hKc := hK.sub (tys' := []) [] rfl
  have hFc := va_free (wc := [(q_41, .inr (0, [.int 0, .null, .int 0]))]) hD hS hA [9] rfl
  refine va_callv (va_runI (As := []) (rest := [.ref q_41, .ref h0]) ⟨hx, hb, hml, hown, hts⟩ (c_ARi l dC dI tp te H_42.size q_41) (cwI 0 hts g_Mi_97 rfl rfl rfl (hts (.initialized RJx4a65c) (List.mem_of_getElem? (i := 6) rfl)) (hts (.methodLink RX16 9 yJx4a65c_init_da8c8) (List.mem_of_getElem? (i := 7) rfl)) (hts (.instanceMethod yJx4a65c_init_da8c8) (List.mem_of_getElem? (i := 8) rfl)) rfl (by decide +kernel) ⟨Nat.le_of_ble_eq_true rfl, Nat.le_of_ble_eq_true rfl⟩) ⟨Pw.blind, Pw.mk hPc hKc hDc hG hS hFc⟩ rfl rfl hl.1 rfl (lv_room (Nat.le_of_ble_eq_true rfl)) dX16_init_97 ⟨Nat.le_of_ble_eq_true rfl, Nat.le_of_ble_eq_true rfl⟩) hS (fun q _ h => hFc q h) hFc (fun u t9 H_43 locs ht hvm hw hB hz1 hk1 hS => ?_)
  obtain ⟨hP1, hK1, hD1⟩ := hB
  rw [ht] at hP1
  have hK1 := va_K.moved hvm.symm hK1
  obtain ⟨hP, hD⟩ := va_join (wr := [(h0, .inr (17, [.ref q_1, .null, .null, .int 0, .int 0, .ref q_6, .ref q_11, .ref q_16, .ref q_21, .ref q_26, .null, .null, .int 0, .ref q_31, .int 0, .int 0, .int 0, .long 0, .null, .ref q_36, .null, .int 0, .int 0, .long 0])), (q_1, .inr (0, [.int 0, .ref te, .int 0])), (q_6, .inr (0, [.int 0, .ref te, .int 0])), (q_11, .inr (0, [.int 0, .ref te, .int 0])), (q_16, .inr (0, [.int 0, .ref te, .int 0])), (q_21, .inr (0, [.int 0, .ref te, .int 0])), (q_26, .inr (0, [.int 0, .ref te, .int 0])), (q_31, .inr (0, [.int 0, .ref te, .int 0])), (q_36, .inr (0, [.int 0, .ref te, .int 0]))]) (w1 := [(q_41, .inr (0, [.int 0, .ref te, .int 0]))]) hP hD [9] [0, 1, 2, 3, 4, 5, 6, 7, 8] rfl rfl (by decide) (by decide) hk1 hFc hP1 hD1
  have hK := (hK.sub (tys' := []) [] rfl).app hK1
  have hP : va_P (dC, dI) vwCl [(h0, .inr (17, [.ref q_1, .null, .null, .int 0, .int 0, .ref q_6, .ref q_11, .ref q_16, .ref q_21, .ref q_26, .null, .null, .int 0, .ref q_31, .int 0, .int 0, .int 0, .long 0, .null, .ref q_36, .null, .int 0, .int 0, .long 0])), (q_1, .inr (0, [.int 0, .ref te, .int 0])), (q_6, .inr (0, [.int 0, .ref te, .int 0])), (q_11, .inr (0, [.int 0, .ref te, .int 0])), (q_16, .inr (0, [.int 0, .ref te, .int 0])), (q_21, .inr (0, [.int 0, .ref te, .int 0])), (q_26, .inr (0, [.int 0, .ref te, .int 0])), (q_31, .inr (0, [.int 0, .ref te, .int 0])), (q_36, .inr (0, [.int 0, .ref te, .int 0])), (q_41, .inr (0, [.int 0, .ref te, .int 0]))] H_43 := hP
  have hD : va_D A [(h0, .inr (17, [.ref q_1, .null, .null, .int 0, .int 0, .ref q_6, .ref q_11, .ref q_16, .ref q_21, .ref q_26, .null, .null, .int 0, .ref q_31, .int 0, .int 0, .int 0, .long 0, .null, .ref q_36, .null, .int 0, .int 0, .long 0])), (q_1, .inr (0, [.int 0, .ref te, .int 0])), (q_6, .inr (0, [.int 0, .ref te, .int 0])), (q_11, .inr (0, [.int 0, .ref te, .int 0])), (q_16, .inr (0, [.int 0, .ref te, .int 0])), (q_21, .inr (0, [.int 0, .ref te, .int 0])), (q_26, .inr (0, [.int 0, .ref te, .int 0])), (q_31, .inr (0, [.int 0, .ref te, .int 0])), (q_36, .inr (0, [.int 0, .ref te, .int 0])), (q_41, .inr (0, [.int 0, .ref te, .int 0]))] := hD
  have hK : va_K (dC, dI) vwCl [] s := hK
  refine W.widen (k := 9) (n := 27) (Nat.le_of_ble_eq_true rfl) (Nat.le_of_ble_eq_true rfl) ?_
  refine va_putF (D := (dC, dI)) (ci := 17) (v := .ref q_41) (ty := .object "java/util/ArrayList") (C := RX16) (T := TX16) (N := 24) hx hb hts in_z_Mi_X16 tyX16 tyX16_ok nmX16 hown hK hP hD hS 0 rfl rfl 20 (by decide) (hts (.fieldLink RX16 37 "SelfkindleModel" "marks" "Ljava/util/ArrayList;") (List.mem_of_getElem? (i := 30) rfl)) (fun _ h9 => h9) rfl hin rfl (by decide +kernel) rfl rfl (Nat.le_of_ble_eq_true rfl) dX16_init_100 (fun H_45 locs hP hD hS => ?_)
  have hP : va_P (dC, dI) vwCl [(h0, .inr (17, [.ref q_1, .null, .null, .int 0, .int 0, .ref q_6, .ref q_11, .ref q_16, .ref q_21, .ref q_26, .null, .null, .int 0, .ref q_31, .int 0, .int 0, .int 0, .long 0, .null, .ref q_36, .ref q_41, .int 0, .int 0, .long 0])), (q_1, .inr (0, [.int 0, .ref te, .int 0])), (q_6, .inr (0, [.int 0, .ref te, .int 0])), (q_11, .inr (0, [.int 0, .ref te, .int 0])), (q_16, .inr (0, [.int 0, .ref te, .int 0])), (q_21, .inr (0, [.int 0, .ref te, .int 0])), (q_26, .inr (0, [.int 0, .ref te, .int 0])), (q_31, .inr (0, [.int 0, .ref te, .int 0])), (q_36, .inr (0, [.int 0, .ref te, .int 0])), (q_41, .inr (0, [.int 0, .ref te, .int 0]))] H_45 := hP
  have hD : va_D A [(h0, .inr (17, [.ref q_1, .null, .null, .int 0, .int 0, .ref q_6, .ref q_11, .ref q_16, .ref q_21, .ref q_26, .null, .null, .int 0, .ref q_31, .int 0, .int 0, .int 0, .long 0, .null, .ref q_36, .ref q_41, .int 0, .int 0, .long 0])), (q_1, .inr (0, [.int 0, .ref te, .int 0])), (q_6, .inr (0, [.int 0, .ref te, .int 0])), (q_11, .inr (0, [.int 0, .ref te, .int 0])), (q_16, .inr (0, [.int 0, .ref te, .int 0])), (q_21, .inr (0, [.int 0, .ref te, .int 0])), (q_26, .inr (0, [.int 0, .ref te, .int 0])), (q_31, .inr (0, [.int 0, .ref te, .int 0])), (q_36, .inr (0, [.int 0, .ref te, .int 0])), (q_41, .inr (0, [.int 0, .ref te, .int 0]))] := hD
  have hK : va_K (dC, dI) vwCl [] s := hK
  have hP := hP.sub (ws' := [(h0, .inr (17, [.ref q_1, .null, .null, .int 0, .int 0, .ref q_6, .ref q_11, .ref q_16, .ref q_21, .ref q_26, .null, .null, .int 0, .ref q_31, .int 0, .int 0, .int 0, .long 0, .null, .ref q_36, .ref q_41, .int 0, .int 0, .long 0])), (q_1, .inr (0, [.int 0, .ref te, .int 0]))]) [0, 1] rfl
  have hD := hD.sub (ws' := [(h0, .inr (17, [.ref q_1, .null, .null, .int 0, .int 0, .ref q_6, .ref q_11, .ref q_16, .ref q_21, .ref q_26, .null, .null, .int 0, .ref q_31, .int 0, .int 0, .int 0, .long 0, .null, .ref q_36, .ref q_41, .int 0, .int 0, .long 0])), (q_1, .inr (0, [.int 0, .ref te, .int 0]))]) [0, 1] (by decide) rfl
  have hK := hK.sub (tys' := []) [] rfl
  refine W.widen (k := 9) (n := 27) (Nat.le_of_ble_eq_true rfl) (Nat.le_of_ble_eq_true rfl) ?_
  exact W.vret hx hb hr (fun t ht hW => ⟨⟨(), rfl, trivial, ⟨q_1, q_6, q_11, q_16, q_21, q_26, q_31, q_36, q_41, by rw [ht]; exact hP, va_K.moved hW.alike hK, hD⟩⟩, hS.F ht⟩) hS.2.2 dX16_init_103

set_option maxRecDepth 20000 in
def z_ASz : List Cond := .code yJx4a65c_size_8abf5 cJx4a65c_size_8abf5 1 (some .int) :: (([.fieldLink RJx4a65c 48 "java/util/ArrayList" "size" "I"] : List Cond) ++ wsJx4a65c0)
theorem in_z_ASz_Jx4a65c : ∀ w ∈ wsJx4a65c0, w ∈ z_ASz := fun w h => List.mem_cons_of_mem _ (List.mem_append_right _ (h))
set_option maxHeartbeats 4000000 in
set_option maxRecDepth 100000 in
theorem c_ASz (l : Launch) (dC : Nat → ClassId) (dI : Nat → Nat → Nat) (tp te : Nat) (sz : Nat) (h0 : Nat) (h1 : Nat) (n0 : Int32) (n1 : Int32)  : Met l yJx4a65c_size_8abf5 z_ASz ({ frames := 0, cells := 0, slots := 0, locals := 0 }) (va_Pc [.ref h0] (Pw dC dI [(h0, .inr (0, [.int n0, .ref h1, .int n1]))] [] sz tp te)) (va_Qi (fun (r : Int32) (_ : Unit) => r = n1) (fun (_ : Unit) (t : State) => Bw dC dI [(h0, .inr (0, [.int n0, .ref h1, .int n1]))] [] (va_A [(h0, .inr (0, [.int n0, .ref h1, .int n1]))] sz) t) (va_A [(h0, .inr (0, [.int n0, .ref h1, .int n1]))] sz)) 0 0 (va_A [(h0, .inr (0, [.int n0, .ref h1, .int n1]))] sz) := by
  refine Met.ofW (cc := cJx4a65c_size_8abf5) (maxL := 1) (ret := (some .int)) (by decide) rfl ?_
  intro p e s m args below meth c s₁ B hml hv
  obtain ⟨rfl, hsz, hP, hK, hD0, hG⟩ := hv
  have hx := B.exec
  have hb := B.bytes
  have hr := B.returns
  have hts := atoms_spec (ws := z_ASz) B.pre
  have hown : s.vm.findClass RJx4a65c = some m.cls := findClass_of_methodNamed B.named
  have hlocks := B.notSynchronized
  subst hsz
  have hD := hD0.self (sz := s.heap.size)
  generalize hAe : va_A [(h0, .inr (0, [.int n0, .ref h1, .int n1]))] s.heap.size = A at hD hG ⊢
  have hA : ∀ q : Nat, s.heap.size ≤ q → A q := fun q h => by rw [← hAe]; exact Or.inr h
  have hS : va_S A s.heap s.heap [] := va_S.rf
  have hl := lv_entry ([.ref h0]) (n := 1) (Nat.le_of_ble_eq_true rfl)
  rw [lg_entry_eq]
  generalize (lg_sl ([.ref h0]) ++ List.replicate (1 - (lg_sl ([.ref h0])).length) Slot.unset).toArray = ls at hl ⊢
  have hl : lv_has ls 1 [(0, .ref h0)] := hl
  refine lv_aload_n hx hb dJx4a65c_size_8abf5_0 rfl (lv_at hl 0 rfl) ?_
  refine va_get (D := (dC, dI)) (ci := 0) (v := .int n1) (C := RJx4a65c) (T := TJx4a65c) (N := 3) hx hb hts in_z_ASz_Jx4a65c hown hK hP 0 rfl rfl 2 (by decide) (hts (.fieldLink RJx4a65c 48 "java/util/ArrayList" "size" "I") (List.mem_of_getElem? (i := 1) rfl)) (fun _ h9 => h9) rfl dJx4a65c_size_8abf5_1 ?_
  refine W.widen (k := 0) (n := 0) (Nat.le_of_ble_eq_true rfl) (Nat.le_of_ble_eq_true rfl) ?_
  exact W.iret (v := n1) hx hb hr (fun t ht hW => ⟨⟨n1, (), rfl, rfl, ⟨by rw [ht]; exact hP, va_K.moved hW.alike hK, hD⟩⟩, hS.F ht⟩) hS.2.2 dJx4a65c_size_8abf5_4

set_option maxRecDepth 20000 in
def z_AEm : List Cond := .code yJx4a65c_isEmpty_aae02 cJx4a65c_isEmpty_aae02 1 (some .boolean) :: (([.fieldLink RJx4a65c 48 "java/util/ArrayList" "size" "I"] : List Cond) ++ wsJx4a65c0)
theorem in_z_AEm_Jx4a65c : ∀ w ∈ wsJx4a65c0, w ∈ z_AEm := fun w h => List.mem_cons_of_mem _ (List.mem_append_right _ (h))
set_option maxHeartbeats 4000000 in
set_option maxRecDepth 100000 in
theorem c_AEm (l : Launch) (dC : Nat → ClassId) (dI : Nat → Nat → Nat) (tp te : Nat) (sz : Nat) (h0 : Nat)  : Met l yJx4a65c_isEmpty_aae02 z_AEm ({ frames := 0, cells := 0, slots := 0, locals := 0 }) (va_Pc [.ref h0] (Pw dC dI [(h0, .inr (0, [.int 0, .ref te, .int 0]))] [] sz tp te)) (va_Qi (fun (r : Int32) (_ : Unit) => r = 1) (fun (_ : Unit) (t : State) => Bw dC dI [(h0, .inr (0, [.int 0, .ref te, .int 0]))] [] (va_A [(h0, .inr (0, [.int 0, .ref te, .int 0]))] sz) t) (va_A [(h0, .inr (0, [.int 0, .ref te, .int 0]))] sz)) 0 0 (va_A [(h0, .inr (0, [.int 0, .ref te, .int 0]))] sz) := by
  refine Met.ofW (cc := cJx4a65c_isEmpty_aae02) (maxL := 1) (ret := (some .boolean)) (by decide) rfl ?_
  intro p e s m args below meth c s₁ B hml hv
  obtain ⟨rfl, hsz, hP, hK, hD0, hG⟩ := hv
  have hx := B.exec
  have hb := B.bytes
  have hr := B.returns
  have hts := atoms_spec (ws := z_AEm) B.pre
  have hown : s.vm.findClass RJx4a65c = some m.cls := findClass_of_methodNamed B.named
  have hlocks := B.notSynchronized
  subst hsz
  have hD := hD0.self (sz := s.heap.size)
  generalize hAe : va_A [(h0, .inr (0, [.int 0, .ref te, .int 0]))] s.heap.size = A at hD hG ⊢
  have hA : ∀ q : Nat, s.heap.size ≤ q → A q := fun q h => by rw [← hAe]; exact Or.inr h
  have hS : va_S A s.heap s.heap [] := va_S.rf
  have hl := lv_entry ([.ref h0]) (n := 1) (Nat.le_of_ble_eq_true rfl)
  rw [lg_entry_eq]
  generalize (lg_sl ([.ref h0]) ++ List.replicate (1 - (lg_sl ([.ref h0])).length) Slot.unset).toArray = ls at hl ⊢
  have hl : lv_has ls 1 [(0, .ref h0)] := hl
  refine lv_aload_n hx hb dJx4a65c_isEmpty_aae02_0 rfl (lv_at hl 0 rfl) ?_
  refine va_get (D := (dC, dI)) (ci := 0) (v := .int 0) (C := RJx4a65c) (T := TJx4a65c) (N := 3) hx hb hts in_z_AEm_Jx4a65c hown hK hP 0 rfl rfl 2 (by decide) (hts (.fieldLink RJx4a65c 48 "java/util/ArrayList" "size" "I") (List.mem_of_getElem? (i := 1) rfl)) (fun _ h9 => h9) rfl dJx4a65c_isEmpty_aae02_1 ?_
  refine lv_if_ne (tgt := 11) hx hb dJx4a65c_isEmpty_aae02_4 (by decide) (fun c9 => absurd (by decide) c9) (fun c9 => ?_)
  refine lv_iconst (v := 1) hx hb dJx4a65c_isEmpty_aae02_7 (by decide) ?_
  refine lv_goto (tgt := 12) hx hb dJx4a65c_isEmpty_aae02_8 (by decide) ?_
  refine W.widen (k := 0) (n := 0) (Nat.le_of_ble_eq_true rfl) (Nat.le_of_ble_eq_true rfl) ?_
  exact W.zret (v := 1) (ty := .boolean) hx hb hr rfl (fun t ht hW => ⟨⟨1, (), rfl, rfl, ⟨by rw [ht]; exact hP, va_K.moved hW.alike hK, hD⟩⟩, hS.F ht⟩) hS.2.2 dJx4a65c_isEmpty_aae02_12

set_option maxRecDepth 20000 in
def z_gr1 : List Cond := .code yJx4a65c_grow_92f84 cJx4a65c_grow_92f84 4 (some (.array (.object "java/lang/Object"))) :: (([.fieldLink RJx4a65c 9 "java/util/ArrayList" "elementData" "[Ljava/lang/Object;", .fieldLink RJx4a65c 39 "java/util/ArrayList" "DEFAULTCAPACITY_EMPTY_ELEMENTDATA" "[Ljava/lang/Object;", .methodLink RJx4a65c 79 Lib.Math.max.name, .static Lib.Math.max.name, .initialized "java/lang/Math", .code Lib.Math.max.name Lib.Math.max.code 2 (some .int), .classLink RJx4a65c 7 "java/lang/Object"] : List Cond) ++ wsJx4a65c0)
theorem in_z_gr1_Jx4a65c : ∀ w ∈ wsJx4a65c0, w ∈ z_gr1 := fun w h => List.mem_cons_of_mem _ (List.mem_append_right _ (h))
set_option maxHeartbeats 4000000 in
set_option maxRecDepth 100000 in
theorem c_gr1 (l : Launch) (dC : Nat → ClassId) (dI : Nat → Nat → Nat) (tp te : Nat) (sz : Nat) (h0 : Nat)  : Met l yJx4a65c_grow_92f84 z_gr1 ({ frames := 1, cells := 1, slots := 10, locals := 14 }) (va_Pc [.ref h0, .int 1] (Pw dC dI [(h0, .inr (0, [.int 1, .ref te, .int 0]))] [] sz tp te)) (va_Qr (fun (_ : Unit) => True) (fun (_ : Unit) (ra : Nat) (t : State) => ∃ (cA_3 : ClassId), Bw dC dI [(h0, .inr (0, [.int 1, .ref ra, .int 0])), (ra, .inl (cA_3, 10, .inr (.inr (.inr (.inr (fun _ => none))))))] [(cA_3, .object "java/lang/Object")] (va_A [(h0, .inr (0, [.int 1, .ref te, .int 0]))] sz) t) (va_A [(h0, .inr (0, [.int 1, .ref te, .int 0]))] sz)) 1 10 (va_A [(h0, .inr (0, [.int 1, .ref te, .int 0]))] sz) := by
  refine Met.ofW (cc := cJx4a65c_grow_92f84) (maxL := 4) (ret := (some (.array (.object "java/lang/Object")))) (by decide) rfl ?_
  intro p e s m args below meth c s₁ B hml hv
  obtain ⟨rfl, hsz, hP, hK, hD0, hG⟩ := hv
  have hx := B.exec
  have hb := B.bytes
  have hr := B.returns
  have hts := atoms_spec (ws := z_gr1) B.pre
  have hown : s.vm.findClass RJx4a65c = some m.cls := findClass_of_methodNamed B.named
  have hlocks := B.notSynchronized
  subst hsz
  have hD := hD0.self (sz := s.heap.size)
  generalize hAe : va_A [(h0, .inr (0, [.int 1, .ref te, .int 0]))] s.heap.size = A at hD hG ⊢
  have hA : ∀ q : Nat, s.heap.size ≤ q → A q := fun q h => by rw [← hAe]; exact Or.inr h
  have hS : va_S A s.heap s.heap [] := va_S.rf
  have hl := lv_entry ([.ref h0, .int 1]) (n := 4) (Nat.le_of_ble_eq_true rfl)
  rw [lg_entry_eq]
  generalize (lg_sl ([.ref h0, .int 1]) ++ List.replicate (4 - (lg_sl ([.ref h0, .int 1])).length) Slot.unset).toArray = ls at hl ⊢
  have hl : lv_has ls 4 [(0, .ref h0), (1, .int 1)] := hl
  refine lv_aload_n hx hb dJx4a65c_grow_92f84_0 rfl (lv_at hl 0 rfl) ?_
  refine va_get (D := (dC, dI)) (ci := 0) (v := .ref te) (C := RJx4a65c) (T := TJx4a65c) (N := 3) hx hb hts in_z_gr1_Jx4a65c hown hK hP 0 rfl rfl 1 (by decide) (hts (.fieldLink RJx4a65c 9 "java/util/ArrayList" "elementData" "[Ljava/lang/Object;") (List.mem_of_getElem? (i := 1) rfl)) (fun _ h9 => h9) rfl dJx4a65c_grow_92f84_1 ?_
  refine va_tlen (v := 0) hx hb hG.2.2.2.1 hS (by decide) dJx4a65c_grow_92f84_4 ?_
  refine lv_istore_n (lv' := [(2, .int 0), (0, .ref h0), (1, .int 1)]) hx hb dJx4a65c_grow_92f84_5 rfl hl (by decide) rfl (fun ls hl => ?_)
  refine lv_iload_n hx hb dJx4a65c_grow_92f84_6 rfl (lv_at hl 0 rfl) ?_
  refine lv_if_gt (tgt := 20) hx hb dJx4a65c_grow_92f84_7 (by decide) (fun c9 => absurd c9 (by decide)) (fun c9 => ?_)
  refine lv_aload_n hx hb dJx4a65c_grow_92f84_10 rfl (lv_at hl 1 rfl) ?_
  refine va_get (D := (dC, dI)) (ci := 0) (v := .ref te) (C := RJx4a65c) (T := TJx4a65c) (N := 3) hx hb hts in_z_gr1_Jx4a65c hown hK hP 0 rfl rfl 1 (by decide) (hts (.fieldLink RJx4a65c 9 "java/util/ArrayList" "elementData" "[Ljava/lang/Object;") (List.mem_of_getElem? (i := 1) rfl)) (fun _ h9 => h9) rfl dJx4a65c_grow_92f84_11 ?_
  refine va_gets (v := .ref te) hx hb hG.2.2.1 hS hown (hts (.fieldLink RJx4a65c 39 "java/util/ArrayList" "DEFAULTCAPACITY_EMPTY_ELEMENTDATA" "[Ljava/lang/Object;") (List.mem_of_getElem? (i := 2) rfl)) (fun _ h9 => h9) dJx4a65c_grow_92f84_14 ?_
  refine lv_acmp_eq (rx := some te) (ry := some te) (tgt := 45) hx hb dJx4a65c_grow_92f84_17 (by decide) (fun _ => ?_) (fun c9 => absurd rfl c9)
  refine lv_aload_n hx hb dJx4a65c_grow_92f84_45 rfl (lv_at hl 1 rfl) ?_
  refine lv_bipush (v := 10) hx hb dJx4a65c_grow_92f84_46 (by decide) ?_
  refine lv_iload_n hx hb dJx4a65c_grow_92f84_48 rfl (lv_at hl 2 rfl) ?_
  refine va_mmax hx hb (by rw [hml]; exact hl.1.symm) hown (hts (.methodLink RJx4a65c 79 Lib.Math.max.name) (List.mem_of_getElem? (i := 3) rfl)) (hts (.static Lib.Math.max.name) (List.mem_of_getElem? (i := 4) rfl)) (hts (.initialized "java/lang/Math") (List.mem_of_getElem? (i := 5) rfl)) (hts _ (List.mem_of_getElem? (i := 6) rfl)) (Nat.le_of_ble_eq_true rfl) (Nat.le_of_ble_eq_true rfl) (Nat.le_of_ble_eq_true rfl) (Nat.le_of_ble_eq_true rfl) dJx4a65c_grow_92f84_49 ?_
  refine lv_topi (fun z_1 ez_1 => ?_)
  obtain rfl : z_1 = 10 := ez_1.trans (by decide)
  refine va_newq (C := "java/lang/Object") (N' := 10) hx hb hown (hts (.classLink RJx4a65c 7 "java/lang/Object") (List.mem_of_getElem? (i := 7) rfl)) hG.2.2.2.2.2.2.2.2.2.2.2.2.2.1 hK hP hD hS hA (by decide) (by decide +kernel) (Nat.le_of_ble_eq_true rfl) (Nat.le_of_ble_eq_true rfl) (Nat.le_of_ble_eq_true rfl) dJx4a65c_grow_92f84_52 (fun q_2 cA_3 H_4 hK hP hD hS => ?_)
  have hP : va_P (dC, dI) vwCl [(h0, .inr (0, [.int 1, .ref te, .int 0])), (q_2, .inl (cA_3, 10, .inr (.inr (.inr (.inr (fun _ => none))))))] H_4 := hP
  have hD : va_D A [(h0, .inr (0, [.int 1, .ref te, .int 0])), (q_2, .inl (cA_3, 10, .inr (.inr (.inr (.inr (fun _ => none))))))] := hD
  have hK : va_K (dC, dI) vwCl [(cA_3, .object "java/lang/Object")] s := hK
  refine W.widen (k := 1) (n := 10) (Nat.le_of_ble_eq_true rfl) (Nat.le_of_ble_eq_true rfl) ?_
  refine lv_dup_x1 hx hb dJx4a65c_grow_92f84_55 rfl rfl ?_
  refine va_put (D := (dC, dI)) (ci := 0) (v := .ref q_2) (ty := .array (.object "java/lang/Object")) (C := RJx4a65c) (T := TJx4a65c) (N := 3) hx hb hts in_z_gr1_Jx4a65c tyJx4a65c tyJx4a65c_ok nmJx4a65c hown hK hP hD hS 0 rfl rfl 1 (by decide) (hts (.fieldLink RJx4a65c 9 "java/util/ArrayList" "elementData" "[Ljava/lang/Object;") (List.mem_of_getElem? (i := 1) rfl)) (fun _ h9 => h9) rfl (by decide +kernel) rfl rfl (Nat.le_of_ble_eq_true rfl) dJx4a65c_grow_92f84_56 (fun H_5 locs hP hD hS => ?_)
  have hP : va_P (dC, dI) vwCl [(h0, .inr (0, [.int 1, .ref q_2, .int 0])), (q_2, .inl (cA_3, 10, .inr (.inr (.inr (.inr (fun _ => none))))))] H_5 := hP
  have hD : va_D A [(h0, .inr (0, [.int 1, .ref q_2, .int 0])), (q_2, .inl (cA_3, 10, .inr (.inr (.inr (.inr (fun _ => none))))))] := hD
  have hK : va_K (dC, dI) vwCl [(cA_3, .object "java/lang/Object")] s := hK
  refine W.widen (k := 1) (n := 10) (Nat.le_of_ble_eq_true rfl) (Nat.le_of_ble_eq_true rfl) ?_
  exact W.aret (v := .ref q_2) (rt := .array (.object "java/lang/Object")) hx hb hr (Or.inr ⟨_, rfl⟩) (Or.inr ⟨_, rfl⟩) (fun t ht hW => ⟨⟨(), q_2, rfl, trivial, ⟨cA_3, by rw [ht]; exact hP, va_K.moved hW.alike hK, hD⟩⟩, hS.F ht⟩) hS.2.2 dJx4a65c_grow_92f84_59

set_option maxRecDepth 20000 in
def z_gr0 : List Cond := .code yJx4a65c_grow_d5877 cJx4a65c_grow_d5877 1 (some (.array (.object "java/lang/Object"))) :: (([.fieldLink RJx4a65c 48 "java/util/ArrayList" "size" "I", .methodLink RJx4a65c 69 yJx4a65c_grow_92f84, .instanceMethod yJx4a65c_grow_92f84, .selects RJx4a65c yJx4a65c_grow_92f84 yJx4a65c_grow_92f84, .initialized RJx4a65c, .code yJx4a65c_grow_92f84 cJx4a65c_grow_92f84 4 (some (.array (.object "java/lang/Object"))), .fieldLink RJx4a65c 9 "java/util/ArrayList" "elementData" "[Ljava/lang/Object;", .fieldLink RJx4a65c 39 "java/util/ArrayList" "DEFAULTCAPACITY_EMPTY_ELEMENTDATA" "[Ljava/lang/Object;", .methodLink RJx4a65c 79 Lib.Math.max.name, .static Lib.Math.max.name, .initialized "java/lang/Math", .code Lib.Math.max.name Lib.Math.max.code 2 (some .int), .classLink RJx4a65c 7 "java/lang/Object"] : List Cond) ++ wsJx4a65c0)
theorem in_z_gr0_Jx4a65c : ∀ w ∈ wsJx4a65c0, w ∈ z_gr0 := fun w h => List.mem_cons_of_mem _ (List.mem_append_right _ (h))
set_option maxRecDepth 20000 in
theorem g_gr0_7 : GoodIn z_gr0 (wsV RJx4a65c 69 RJx4a65c yJx4a65c_grow_92f84 z_gr1) := goodIn_p _ [6, 12] rfl (by decide +kernel)
set_option maxHeartbeats 4000000 in
set_option maxRecDepth 100000 in
theorem c_gr0 (l : Launch) (dC : Nat → ClassId) (dI : Nat → Nat → Nat) (tp te : Nat) (sz : Nat) (h0 : Nat)  : Met l yJx4a65c_grow_d5877 z_gr0 ({ frames := 2, cells := 1, slots := 10, locals := 37 }) (va_Pc [.ref h0] (Pw dC dI [(h0, .inr (0, [.int 1, .ref te, .int 0]))] [] sz tp te)) (va_Qr (fun (_ : Unit) => True) (fun (_ : Unit) (ra : Nat) (t : State) => ∃ (cA_4 : ClassId), Bw dC dI [(h0, .inr (0, [.int 1, .ref ra, .int 0])), (ra, .inl (cA_4, 10, .inr (.inr (.inr (.inr (fun _ => none))))))] [(cA_4, .object "java/lang/Object")] (va_A [(h0, .inr (0, [.int 1, .ref te, .int 0]))] sz) t) (va_A [(h0, .inr (0, [.int 1, .ref te, .int 0]))] sz)) 1 10 (va_A [(h0, .inr (0, [.int 1, .ref te, .int 0]))] sz) := by
  refine Met.ofW (cc := cJx4a65c_grow_d5877) (maxL := 1) (ret := (some (.array (.object "java/lang/Object")))) (by decide) rfl ?_
  intro p e s m args below meth c s₁ B hml hv
  obtain ⟨rfl, hsz, hP, hK, hD0, hG⟩ := hv
  have hx := B.exec
  have hb := B.bytes
  have hr := B.returns
  have hts := atoms_spec (ws := z_gr0) B.pre
  have hown : s.vm.findClass RJx4a65c = some m.cls := findClass_of_methodNamed B.named
  have hlocks := B.notSynchronized
  subst hsz
  have hD := hD0.self (sz := s.heap.size)
  generalize hAe : va_A [(h0, .inr (0, [.int 1, .ref te, .int 0]))] s.heap.size = A at hD hG ⊢
  have hA : ∀ q : Nat, s.heap.size ≤ q → A q := fun q h => by rw [← hAe]; exact Or.inr h
  have hS : va_S A s.heap s.heap [] := va_S.rf
  have hl := lv_entry ([.ref h0]) (n := 1) (Nat.le_of_ble_eq_true rfl)
  rw [lg_entry_eq]
  generalize (lg_sl ([.ref h0]) ++ List.replicate (1 - (lg_sl ([.ref h0])).length) Slot.unset).toArray = ls at hl ⊢
  have hl : lv_has ls 1 [(0, .ref h0)] := hl
  refine lv_aload_n hx hb dJx4a65c_grow_d5877_0 rfl (lv_at hl 0 rfl) ?_
  refine lv_aload_n hx hb dJx4a65c_grow_d5877_1 rfl (lv_at hl 0 rfl) ?_
  refine va_get (D := (dC, dI)) (ci := 0) (v := .int 0) (C := RJx4a65c) (T := TJx4a65c) (N := 3) hx hb hts in_z_gr0_Jx4a65c hown hK hP 0 rfl rfl 2 (by decide) (hts (.fieldLink RJx4a65c 48 "java/util/ArrayList" "size" "I") (List.mem_of_getElem? (i := 1) rfl)) (fun _ h9 => h9) rfl dJx4a65c_grow_d5877_2 ?_
  refine lv_iconst (v := 1) hx hb dJx4a65c_grow_d5877_5 (by decide) ?_
  refine lv_iadd hx hb dJx4a65c_grow_d5877_6 ?_
  refine lv_topi (fun z_1 ez_1 => ?_)
  obtain rfl : z_1 = 1 := ez_1.trans (by decide)
  have hPc := hP.sub (ws' := [(h0, .inr (0, [.int 1, .ref te, .int 0]))]) [0] rfl
  have hDc := hD.sub (ws' := [(h0, .inr (0, [.int 1, .ref te, .int 0]))]) [0] (by decide) rfl
  have hKc := hK.sub (tys' := []) [] rfl
  have hFc := va_free (wc := [(h0, .inr (0, [.int 1, .ref te, .int 0]))]) hD hS hA [0] rfl
  refine va_callr (va_runV (As := [.int 1]) (rest := []) ⟨hx, hb, hml, hown, hts⟩ (c_gr1 l dC dI tp te s.heap.size h0) (cwV 1 hts g_gr0_7 rfl rfl rfl (by decide +kernel) ⟨Nat.le_of_ble_eq_true rfl, Nat.le_of_ble_eq_true rfl⟩) ⟨Pw.blind, va_recv hKc hPc (ci := 0) (q0 := 0) rfl rfl, Pw.mk hPc hKc hDc hG hS hFc⟩ rfl rfl hl.1 rfl (lv_room (Nat.le_of_ble_eq_true rfl)) dJx4a65c_grow_d5877_7 ⟨Nat.le_of_ble_eq_true rfl, Nat.le_of_ble_eq_true rfl⟩) hS (fun q _ h => hFc q h) hFc (fun u ra_3 t9 H_2 locs ht hvm hw hB hz1 hk1 hS => ?_)
  obtain ⟨cA_4, hP1, hK1, hD1⟩ := hB
  rw [ht] at hP1
  have hK1 := va_K.moved hvm.symm hK1
  obtain ⟨hP, hD⟩ := va_join (wr := []) (w1 := [(h0, .inr (0, [.int 1, .ref ra_3, .int 0])), (ra_3, .inl (cA_4, 10, .inr (.inr (.inr (.inr (fun _ => none))))))]) hP hD [0] [] rfl rfl (by decide) (by decide) hk1 hFc hP1 hD1
  have hK := (hK.sub (tys' := []) [] rfl).app hK1
  have hP : va_P (dC, dI) vwCl [(h0, .inr (0, [.int 1, .ref ra_3, .int 0])), (ra_3, .inl (cA_4, 10, .inr (.inr (.inr (.inr (fun _ => none))))))] H_2 := hP
  have hD : va_D A [(h0, .inr (0, [.int 1, .ref ra_3, .int 0])), (ra_3, .inl (cA_4, 10, .inr (.inr (.inr (.inr (fun _ => none))))))] := hD
  have hK : va_K (dC, dI) vwCl [(cA_4, .object "java/lang/Object")] s := hK
  refine W.widen (k := 1) (n := 10) (Nat.le_of_ble_eq_true rfl) (Nat.le_of_ble_eq_true rfl) ?_
  refine W.widen (k := 1) (n := 10) (Nat.le_of_ble_eq_true rfl) (Nat.le_of_ble_eq_true rfl) ?_
  exact W.aret (v := .ref ra_3) (rt := .array (.object "java/lang/Object")) hx hb hr (Or.inr ⟨_, rfl⟩) (Or.inr ⟨_, rfl⟩) (fun t ht hW => ⟨⟨(), ra_3, rfl, trivial, ⟨cA_4, by rw [ht]; exact hP, va_K.moved hW.alike hK, hD⟩⟩, hS.F ht⟩) hS.2.2 dJx4a65c_grow_d5877_10

set_option maxRecDepth 20000 in
def z_ad3 : List Cond := .code yJx4a65c_add_72be8 cJx4a65c_add_72be8 4 none :: (([.methodLink RJx4a65c 129 yJx4a65c_grow_d5877, .instanceMethod yJx4a65c_grow_d5877, .selects RJx4a65c yJx4a65c_grow_d5877 yJx4a65c_grow_d5877, .initialized RJx4a65c, .code yJx4a65c_grow_d5877 cJx4a65c_grow_d5877 1 (some (.array (.object "java/lang/Object"))), .fieldLink RJx4a65c 48 "java/util/ArrayList" "size" "I", .methodLink RJx4a65c 69 yJx4a65c_grow_92f84, .instanceMethod yJx4a65c_grow_92f84, .selects RJx4a65c yJx4a65c_grow_92f84 yJx4a65c_grow_92f84, .code yJx4a65c_grow_92f84 cJx4a65c_grow_92f84 4 (some (.array (.object "java/lang/Object"))), .fieldLink RJx4a65c 9 "java/util/ArrayList" "elementData" "[Ljava/lang/Object;", .fieldLink RJx4a65c 39 "java/util/ArrayList" "DEFAULTCAPACITY_EMPTY_ELEMENTDATA" "[Ljava/lang/Object;", .methodLink RJx4a65c 79 Lib.Math.max.name, .static Lib.Math.max.name, .initialized "java/lang/Math", .code Lib.Math.max.name Lib.Math.max.code 2 (some .int), .classLink RJx4a65c 7 "java/lang/Object"] : List Cond) ++ wsJx4a65c0)
theorem in_z_ad3_Jx4a65c : ∀ w ∈ wsJx4a65c0, w ∈ z_ad3 := fun w h => List.mem_cons_of_mem _ (List.mem_append_right _ (h))
set_option maxRecDepth 20000 in
theorem g_ad3_7 : GoodIn z_ad3 (wsV RJx4a65c 129 RJx4a65c yJx4a65c_grow_d5877 z_gr0) := goodIn_p _ [5, 10, 16] rfl (by decide +kernel)
set_option maxHeartbeats 4000000 in
set_option maxRecDepth 100000 in
theorem c_ad3 (l : Launch) (dC : Nat → ClassId) (dI : Nat → Nat → Nat) (tp te : Nat) (sz : Nat) (h0 : Nat) (h1 : Nat) (p1 : Int32) (p2 : Int64) (p3 : Int32) (b1 : Nat)  : Met l yJx4a65c_add_72be8 z_ad3 ({ frames := 3, cells := 1, slots := 10, locals := 57 }) (va_Pc [.ref h0, .ref h1, .ref te, .int 0] (Pw dC dI [(h0, .inr (0, [.int 1, .ref te, .int 0])), (h1, .inr (13, [.int p1, .long p2, .int p3, .ref b1, .int 1]))] [] sz tp te)) (va_Qv (fun (_ : Unit) => True) (fun (_ : Unit) (t : State) => ∃ (ra_2 : Nat), Bw dC dI [(h0, .inr (0, [.int 1, .ref ra_2, .int 1]))] [] (va_A [(h0, .inr (0, [.int 1, .ref te, .int 0])), (h1, .inr (13, [.int p1, .long p2, .int p3, .ref b1, .int 1]))] sz) t) (va_A [(h0, .inr (0, [.int 1, .ref te, .int 0])), (h1, .inr (13, [.int p1, .long p2, .int p3, .ref b1, .int 1]))] sz)) 1 10 (va_A [(h0, .inr (0, [.int 1, .ref te, .int 0])), (h1, .inr (13, [.int p1, .long p2, .int p3, .ref b1, .int 1]))] sz) := by
  refine Met.ofW (cc := cJx4a65c_add_72be8) (maxL := 4) (ret := none) (by decide) rfl ?_
  intro p e s m args below meth c s₁ B hml hv
  obtain ⟨rfl, hsz, hP, hK, hD0, hG⟩ := hv
  have hx := B.exec
  have hb := B.bytes
  have hr := B.returns
  have hts := atoms_spec (ws := z_ad3) B.pre
  have hown : s.vm.findClass RJx4a65c = some m.cls := findClass_of_methodNamed B.named
  have hlocks := B.notSynchronized
  subst hsz
  have hD := hD0.self (sz := s.heap.size)
  generalize hAe : va_A [(h0, .inr (0, [.int 1, .ref te, .int 0])), (h1, .inr (13, [.int p1, .long p2, .int p3, .ref b1, .int 1]))] s.heap.size = A at hD hG ⊢
  have hA : ∀ q : Nat, s.heap.size ≤ q → A q := fun q h => by rw [← hAe]; exact Or.inr h
  have hS : va_S A s.heap s.heap [] := va_S.rf
  have hl := lv_entry ([.ref h0, .ref h1, .ref te, .int 0]) (n := 4) (Nat.le_of_ble_eq_true rfl)
  rw [lg_entry_eq]
  generalize (lg_sl ([.ref h0, .ref h1, .ref te, .int 0]) ++ List.replicate (4 - (lg_sl ([.ref h0, .ref h1, .ref te, .int 0])).length) Slot.unset).toArray = ls at hl ⊢
  have hl : lv_has ls 4 [(0, .ref h0), (1, .ref h1), (2, .ref te), (3, .int 0)] := hl
  refine lv_iload_n hx hb dJx4a65c_add_72be8_0 rfl (lv_at hl 3 rfl) ?_
  refine lv_aload_n hx hb dJx4a65c_add_72be8_1 rfl (lv_at hl 2 rfl) ?_
  refine va_tlen (v := 0) hx hb hG.2.2.2.1 hS (by decide) dJx4a65c_add_72be8_2 ?_
  refine lv_icmp_ne (tgt := 11) hx hb dJx4a65c_add_72be8_3 (by decide) (fun c9 => absurd (by decide) c9) (fun c9 => ?_)
  refine lv_aload_n hx hb dJx4a65c_add_72be8_6 rfl (lv_at hl 0 rfl) ?_
  have hPc := hP.sub (ws' := [(h0, .inr (0, [.int 1, .ref te, .int 0]))]) [0] rfl
  have hDc := hD.sub (ws' := [(h0, .inr (0, [.int 1, .ref te, .int 0]))]) [0] (by decide) rfl
  have hKc := hK.sub (tys' := []) [] rfl
  have hFc := va_free (wc := [(h0, .inr (0, [.int 1, .ref te, .int 0]))]) hD hS hA [0] rfl
  refine va_callr (va_runV (As := []) (rest := []) ⟨hx, hb, hml, hown, hts⟩ (c_gr0 l dC dI tp te s.heap.size h0) (cwV 0 hts g_ad3_7 rfl rfl rfl (by decide +kernel) ⟨Nat.le_of_ble_eq_true rfl, Nat.le_of_ble_eq_true rfl⟩) ⟨Pw.blind, va_recv hKc hPc (ci := 0) (q0 := 0) rfl rfl, Pw.mk hPc hKc hDc hG hS hFc⟩ rfl rfl hl.1 rfl (lv_room (Nat.le_of_ble_eq_true rfl)) dJx4a65c_add_72be8_7 ⟨Nat.le_of_ble_eq_true rfl, Nat.le_of_ble_eq_true rfl⟩) hS (fun q _ h => hFc q h) hFc (fun u ra_2 t9 H_1 locs ht hvm hw hB hz1 hk1 hS => ?_)
  obtain ⟨cA_3, hP1, hK1, hD1⟩ := hB
  rw [ht] at hP1
  have hK1 := va_K.moved hvm.symm hK1
  obtain ⟨hP, hD⟩ := va_join (wr := [(h1, .inr (13, [.int p1, .long p2, .int p3, .ref b1, .int 1]))]) (w1 := [(h0, .inr (0, [.int 1, .ref ra_2, .int 0])), (ra_2, .inl (cA_3, 10, .inr (.inr (.inr (.inr (fun _ => none))))))]) hP hD [0] [1] rfl rfl (by decide) (by decide) hk1 hFc hP1 hD1
  have hK := (hK.sub (tys' := []) [] rfl).app hK1
  have hP : va_P (dC, dI) vwCl [(h1, .inr (13, [.int p1, .long p2, .int p3, .ref b1, .int 1])), (h0, .inr (0, [.int 1, .ref ra_2, .int 0])), (ra_2, .inl (cA_3, 10, .inr (.inr (.inr (.inr (fun _ => none))))))] H_1 := hP
  have hD : va_D A [(h1, .inr (13, [.int p1, .long p2, .int p3, .ref b1, .int 1])), (h0, .inr (0, [.int 1, .ref ra_2, .int 0])), (ra_2, .inl (cA_3, 10, .inr (.inr (.inr (.inr (fun _ => none))))))] := hD
  have hK : va_K (dC, dI) vwCl [(cA_3, .object "java/lang/Object")] s := hK
  refine W.widen (k := 1) (n := 10) (Nat.le_of_ble_eq_true rfl) (Nat.le_of_ble_eq_true rfl) ?_
  refine lv_astore_n (lv' := [(2, .ref ra_2), (0, .ref h0), (1, .ref h1), (3, .int 0)]) hx hb dJx4a65c_add_72be8_10 rfl hl (by decide) rfl (fun ls hl => ?_)
  refine lv_aload_n hx hb dJx4a65c_add_72be8_11 rfl (lv_at hl 0 rfl) ?_
  refine lv_iload_n hx hb dJx4a65c_add_72be8_12 rfl (lv_at hl 3 rfl) ?_
  refine lv_aload_n hx hb dJx4a65c_add_72be8_13 rfl (lv_at hl 2 rfl) ?_
  refine va_astqO (cl := vwCl) (r := (RX12, TX12, 5)) hx hb hK hP hD hS 2 0 0 13 rfl rfl hG.2.2.2.2.2.2.2.2.2.1 rfl rfl (by unfold vp_in; decide +kernel) dJx4a65c_add_72be8_14 (fun H_4 locs hP hD hS => ?_)
  have hP : va_P (dC, dI) vwCl [(h1, .inr (13, [.int p1, .long p2, .int p3, .ref b1, .int 1])), (h0, .inr (0, [.int 1, .ref ra_2, .int 0])), (ra_2, .inl (cA_3, 10, .inr (.inr (.inr (.inr (va_up (fun _ => none) (0 : Int32).toNatClampNeg (some h1)))))))] H_4 := hP
  have hD : va_D A [(h1, .inr (13, [.int p1, .long p2, .int p3, .ref b1, .int 1])), (h0, .inr (0, [.int 1, .ref ra_2, .int 0])), (ra_2, .inl (cA_3, 10, .inr (.inr (.inr (.inr (va_up (fun _ => none) (0 : Int32).toNatClampNeg (some h1)))))))] := hD
  have hK : va_K (dC, dI) vwCl [(cA_3, .object "java/lang/Object")] s := hK
  refine lv_aload_n hx hb dJx4a65c_add_72be8_15 rfl (lv_at hl 1 rfl) ?_
  refine lv_iload_n hx hb dJx4a65c_add_72be8_16 rfl (lv_at hl 3 rfl) ?_
  refine lv_iconst (v := 1) hx hb dJx4a65c_add_72be8_17 (by decide) ?_
  refine lv_iadd hx hb dJx4a65c_add_72be8_18 ?_
  refine lv_topi (fun z_5 ez_5 => ?_)
  obtain rfl : z_5 = 1 := ez_5.trans (by decide)
  refine va_put (D := (dC, dI)) (ci := 0) (v := .int 1) (ty := .int) (C := RJx4a65c) (T := TJx4a65c) (N := 3) hx hb hts in_z_ad3_Jx4a65c tyJx4a65c tyJx4a65c_ok nmJx4a65c hown hK hP hD hS 1 rfl rfl 2 (by decide) (hts (.fieldLink RJx4a65c 48 "java/util/ArrayList" "size" "I") (List.mem_of_getElem? (i := 6) rfl)) (fun _ h9 => h9) rfl (by decide +kernel) rfl rfl (Nat.le_of_ble_eq_true rfl) dJx4a65c_add_72be8_19 (fun H_6 locs hP hD hS => ?_)
  have hP : va_P (dC, dI) vwCl [(h1, .inr (13, [.int p1, .long p2, .int p3, .ref b1, .int 1])), (h0, .inr (0, [.int 1, .ref ra_2, .int 1])), (ra_2, .inl (cA_3, 10, .inr (.inr (.inr (.inr (va_up (fun _ => none) (0 : Int32).toNatClampNeg (some h1)))))))] H_6 := hP
  have hD : va_D A [(h1, .inr (13, [.int p1, .long p2, .int p3, .ref b1, .int 1])), (h0, .inr (0, [.int 1, .ref ra_2, .int 1])), (ra_2, .inl (cA_3, 10, .inr (.inr (.inr (.inr (va_up (fun _ => none) (0 : Int32).toNatClampNeg (some h1)))))))] := hD
  have hK : va_K (dC, dI) vwCl [(cA_3, .object "java/lang/Object")] s := hK
  have hP := hP.sub (ws' := [(h0, .inr (0, [.int 1, .ref ra_2, .int 1]))]) [1] rfl
  have hD := hD.sub (ws' := [(h0, .inr (0, [.int 1, .ref ra_2, .int 1]))]) [1] (by decide) rfl
  have hK := hK.sub (tys' := []) [] rfl
  refine W.widen (k := 1) (n := 10) (Nat.le_of_ble_eq_true rfl) (Nat.le_of_ble_eq_true rfl) ?_
  exact W.vret hx hb hr (fun t ht hW => ⟨⟨(), rfl, trivial, ⟨ra_2, by rw [ht]; exact hP, va_K.moved hW.alike hK, hD⟩⟩, hS.F ht⟩) hS.2.2 dJx4a65c_add_72be8_22

set_option maxRecDepth 20000 in
def z_ad1 : List Cond := .code yJx4a65c_add_9ea2d cJx4a65c_add_9ea2d 2 (some .boolean) :: (([.fieldLink RJx4a65c 63 "java/util/ArrayList" "modCount" "I", .sameField "java/util/ArrayList" "java/util/AbstractList" "modCount" "I", .fieldLink RJx4a65c 9 "java/util/ArrayList" "elementData" "[Ljava/lang/Object;", .fieldLink RJx4a65c 48 "java/util/ArrayList" "size" "I", .methodLink RJx4a65c 131 yJx4a65c_add_72be8, .instanceMethod yJx4a65c_add_72be8, .selects RJx4a65c yJx4a65c_add_72be8 yJx4a65c_add_72be8, .initialized RJx4a65c, .code yJx4a65c_add_72be8 cJx4a65c_add_72be8 4 none, .methodLink RJx4a65c 129 yJx4a65c_grow_d5877, .instanceMethod yJx4a65c_grow_d5877, .selects RJx4a65c yJx4a65c_grow_d5877 yJx4a65c_grow_d5877, .code yJx4a65c_grow_d5877 cJx4a65c_grow_d5877 1 (some (.array (.object "java/lang/Object"))), .methodLink RJx4a65c 69 yJx4a65c_grow_92f84, .instanceMethod yJx4a65c_grow_92f84, .selects RJx4a65c yJx4a65c_grow_92f84 yJx4a65c_grow_92f84, .code yJx4a65c_grow_92f84 cJx4a65c_grow_92f84 4 (some (.array (.object "java/lang/Object"))), .fieldLink RJx4a65c 39 "java/util/ArrayList" "DEFAULTCAPACITY_EMPTY_ELEMENTDATA" "[Ljava/lang/Object;", .methodLink RJx4a65c 79 Lib.Math.max.name, .static Lib.Math.max.name, .initialized "java/lang/Math", .code Lib.Math.max.name Lib.Math.max.code 2 (some .int), .classLink RJx4a65c 7 "java/lang/Object"] : List Cond) ++ wsJx4a65c0)
theorem in_z_ad1_Jx4a65c : ∀ w ∈ wsJx4a65c0, w ∈ z_ad1 := fun w h => List.mem_cons_of_mem _ (List.mem_append_right _ (h))
set_option maxRecDepth 20000 in
theorem g_ad1_20 : GoodIn z_ad1 (wsV RJx4a65c 131 RJx4a65c yJx4a65c_add_72be8 z_ad3) := goodIn_p _ [9, 13, 17, 22] rfl (by decide +kernel)
set_option maxHeartbeats 4000000 in
set_option maxRecDepth 100000 in
theorem c_ad1 (l : Launch) (dC : Nat → ClassId) (dI : Nat → Nat → Nat) (tp te : Nat) (sz : Nat) (h0 : Nat) (h1 : Nat) (p1 : Int32) (p2 : Int64) (p3 : Int32) (b1 : Nat)  : Met l yJx4a65c_add_9ea2d z_ad1 ({ frames := 4, cells := 1, slots := 10, locals := 80 }) (va_Pc [.ref h0, .ref h1] (Pw dC dI [(h0, .inr (0, [.int 0, .ref te, .int 0])), (h1, .inr (13, [.int p1, .long p2, .int p3, .ref b1, .int 1]))] [] sz tp te)) (va_Qi (fun (r : Int32) (_ : Unit) => r = 1) (fun (_ : Unit) (t : State) => ∃ (ra_5 : Nat), Bw dC dI [(h0, .inr (0, [.int 1, .ref ra_5, .int 1]))] [] (va_A [(h0, .inr (0, [.int 0, .ref te, .int 0])), (h1, .inr (13, [.int p1, .long p2, .int p3, .ref b1, .int 1]))] sz) t) (va_A [(h0, .inr (0, [.int 0, .ref te, .int 0])), (h1, .inr (13, [.int p1, .long p2, .int p3, .ref b1, .int 1]))] sz)) 1 10 (va_A [(h0, .inr (0, [.int 0, .ref te, .int 0])), (h1, .inr (13, [.int p1, .long p2, .int p3, .ref b1, .int 1]))] sz) := by
  refine Met.ofW (cc := cJx4a65c_add_9ea2d) (maxL := 2) (ret := (some .boolean)) (by decide) rfl ?_
  intro p e s m args below meth c s₁ B hml hv
  obtain ⟨rfl, hsz, hP, hK, hD0, hG⟩ := hv
  have hx := B.exec
  have hb := B.bytes
  have hr := B.returns
  have hts := atoms_spec (ws := z_ad1) B.pre
  have hown : s.vm.findClass RJx4a65c = some m.cls := findClass_of_methodNamed B.named
  have hlocks := B.notSynchronized
  subst hsz
  have hD := hD0.self (sz := s.heap.size)
  generalize hAe : va_A [(h0, .inr (0, [.int 0, .ref te, .int 0])), (h1, .inr (13, [.int p1, .long p2, .int p3, .ref b1, .int 1]))] s.heap.size = A at hD hG ⊢
  have hA : ∀ q : Nat, s.heap.size ≤ q → A q := fun q h => by rw [← hAe]; exact Or.inr h
  have hS : va_S A s.heap s.heap [] := va_S.rf
  have hl := lv_entry ([.ref h0, .ref h1]) (n := 2) (Nat.le_of_ble_eq_true rfl)
  rw [lg_entry_eq]
  generalize (lg_sl ([.ref h0, .ref h1]) ++ List.replicate (2 - (lg_sl ([.ref h0, .ref h1])).length) Slot.unset).toArray = ls at hl ⊢
  have hl : lv_has ls 2 [(0, .ref h0), (1, .ref h1)] := hl
  refine lv_aload_n hx hb dJx4a65c_add_9ea2d_0 rfl (lv_at hl 0 rfl) ?_
  refine lv_dup hx hb dJx4a65c_add_9ea2d_1 rfl ?_
  refine va_get (D := (dC, dI)) (ci := 0) (v := .int 0) (C := RJx4a65c) (T := TJx4a65c) (N := 3) hx hb hts in_z_ad1_Jx4a65c hown hK hP 0 rfl rfl 0 (by decide) (hts (.fieldLink RJx4a65c 63 "java/util/ArrayList" "modCount" "I") (List.mem_of_getElem? (i := 1) rfl)) (fun x h9 => u_same (hts (.sameField "java/util/ArrayList" "java/util/AbstractList" "modCount" "I") (List.mem_of_getElem? (i := 2) rfl)) x h9) rfl dJx4a65c_add_9ea2d_2 ?_
  refine lv_iconst (v := 1) hx hb dJx4a65c_add_9ea2d_5 (by decide) ?_
  refine lv_iadd hx hb dJx4a65c_add_9ea2d_6 ?_
  refine lv_topi (fun z_1 ez_1 => ?_)
  obtain rfl : z_1 = 1 := ez_1.trans (by decide)
  refine va_put (D := (dC, dI)) (ci := 0) (v := .int 1) (ty := .int) (C := RJx4a65c) (T := TJx4a65c) (N := 3) hx hb hts in_z_ad1_Jx4a65c tyJx4a65c tyJx4a65c_ok nmJx4a65c hown hK hP hD hS 0 rfl rfl 0 (by decide) (hts (.fieldLink RJx4a65c 63 "java/util/ArrayList" "modCount" "I") (List.mem_of_getElem? (i := 1) rfl)) (fun x h9 => u_same (hts (.sameField "java/util/ArrayList" "java/util/AbstractList" "modCount" "I") (List.mem_of_getElem? (i := 2) rfl)) x h9) rfl (by decide +kernel) rfl rfl (Nat.le_of_ble_eq_true rfl) dJx4a65c_add_9ea2d_7 (fun H_2 locs hP hD hS => ?_)
  have hP : va_P (dC, dI) vwCl [(h0, .inr (0, [.int 1, .ref te, .int 0])), (h1, .inr (13, [.int p1, .long p2, .int p3, .ref b1, .int 1]))] H_2 := hP
  have hD : va_D A [(h0, .inr (0, [.int 1, .ref te, .int 0])), (h1, .inr (13, [.int p1, .long p2, .int p3, .ref b1, .int 1]))] := hD
  have hK : va_K (dC, dI) vwCl [] s := hK
  refine lv_aload_n hx hb dJx4a65c_add_9ea2d_10 rfl (lv_at hl 0 rfl) ?_
  refine lv_aload_n hx hb dJx4a65c_add_9ea2d_11 rfl (lv_at hl 1 rfl) ?_
  refine lv_aload_n hx hb dJx4a65c_add_9ea2d_12 rfl (lv_at hl 0 rfl) ?_
  refine va_get (D := (dC, dI)) (ci := 0) (v := .ref te) (C := RJx4a65c) (T := TJx4a65c) (N := 3) hx hb hts in_z_ad1_Jx4a65c hown hK hP 0 rfl rfl 1 (by decide) (hts (.fieldLink RJx4a65c 9 "java/util/ArrayList" "elementData" "[Ljava/lang/Object;") (List.mem_of_getElem? (i := 3) rfl)) (fun _ h9 => h9) rfl dJx4a65c_add_9ea2d_13 ?_
  refine lv_aload_n hx hb dJx4a65c_add_9ea2d_16 rfl (lv_at hl 0 rfl) ?_
  refine va_get (D := (dC, dI)) (ci := 0) (v := .int 0) (C := RJx4a65c) (T := TJx4a65c) (N := 3) hx hb hts in_z_ad1_Jx4a65c hown hK hP 0 rfl rfl 2 (by decide) (hts (.fieldLink RJx4a65c 48 "java/util/ArrayList" "size" "I") (List.mem_of_getElem? (i := 4) rfl)) (fun _ h9 => h9) rfl dJx4a65c_add_9ea2d_17 ?_
  have hPc := hP.sub (ws' := [(h0, .inr (0, [.int 1, .ref te, .int 0])), (h1, .inr (13, [.int p1, .long p2, .int p3, .ref b1, .int 1]))]) [0, 1] rfl
  have hDc := hD.sub (ws' := [(h0, .inr (0, [.int 1, .ref te, .int 0])), (h1, .inr (13, [.int p1, .long p2, .int p3, .ref b1, .int 1]))]) [0, 1] (by decide) rfl
  have hKc := hK.sub (tys' := []) [] rfl
  have hFc := va_free (wc := [(h0, .inr (0, [.int 1, .ref te, .int 0])), (h1, .inr (13, [.int p1, .long p2, .int p3, .ref b1, .int 1]))]) hD hS hA [0, 1] rfl
  refine va_callv (va_runV (As := [.ref h1, .ref te, .int 0]) (rest := []) ⟨hx, hb, hml, hown, hts⟩ (c_ad3 l dC dI tp te H_2.size h0 h1 p1 p2 p3 b1) (cwV 3 hts g_ad1_20 rfl rfl rfl (by decide +kernel) ⟨Nat.le_of_ble_eq_true rfl, Nat.le_of_ble_eq_true rfl⟩) ⟨Pw.blind, va_recv hKc hPc (ci := 0) (q0 := 0) rfl rfl, Pw.mk hPc hKc hDc hG hS hFc⟩ rfl rfl hl.1 rfl (lv_room (Nat.le_of_ble_eq_true rfl)) dJx4a65c_add_9ea2d_20 ⟨Nat.le_of_ble_eq_true rfl, Nat.le_of_ble_eq_true rfl⟩) hS (fun q _ h => hFc q h) hFc (fun u t9 H_3 locs ht hvm hw hB hz1 hk1 hS => ?_)
  obtain ⟨ra_5, hP1, hK1, hD1⟩ := hB
  rw [ht] at hP1
  have hK1 := va_K.moved hvm.symm hK1
  obtain ⟨hP, hD⟩ := va_join (wr := []) (w1 := [(h0, .inr (0, [.int 1, .ref ra_5, .int 1]))]) hP hD [0, 1] [] rfl rfl (by decide) (by decide) hk1 hFc hP1 hD1
  have hK := (hK.sub (tys' := []) [] rfl).app hK1
  have hP : va_P (dC, dI) vwCl [(h0, .inr (0, [.int 1, .ref ra_5, .int 1]))] H_3 := hP
  have hD : va_D A [(h0, .inr (0, [.int 1, .ref ra_5, .int 1]))] := hD
  have hK : va_K (dC, dI) vwCl [] s := hK
  refine W.widen (k := 1) (n := 10) (Nat.le_of_ble_eq_true rfl) (Nat.le_of_ble_eq_true rfl) ?_
  refine lv_iconst (v := 1) hx hb dJx4a65c_add_9ea2d_23 (by decide) ?_
  refine W.widen (k := 1) (n := 10) (Nat.le_of_ble_eq_true rfl) (Nat.le_of_ble_eq_true rfl) ?_
  exact W.zret (v := 1) (ty := .boolean) hx hb hr rfl (fun t ht hW => ⟨⟨1, (), rfl, rfl, ⟨ra_5, by rw [ht]; exact hP, va_K.moved hW.alike hK, hD⟩⟩, hS.F ht⟩) hS.2.2 dJx4a65c_add_9ea2d_24

set_option maxRecDepth 20000 in
def z_MTi : List Cond := .code yX12_init cX12_init 8 none :: (([.methodLink RX12 3 objectInit, .instanceMethod objectInit, .code objectInit ⟨#[0xb1]⟩ 1 none, .fieldLink RX12 9 "SelfkindleModel$Term" "kind" "I", .fieldLink RX12 15 "SelfkindleModel$Term" "number" "J", .fieldLink RX12 19 "SelfkindleModel$Term" "x" "I", .fieldLink RX12 22 "SelfkindleModel$Term" "parts" "[LSelfkindleModel$Term;", .fieldLink RX12 26 "SelfkindleModel$Term" "size" "I"] : List Cond) ++ wsX120)
theorem in_z_MTi_X12 : ∀ w ∈ wsX120, w ∈ z_MTi := fun w h => List.mem_cons_of_mem _ (List.mem_append_right _ (h))
set_option maxHeartbeats 4000000 in
set_option maxRecDepth 100000 in
theorem c_MTi (l : Launch) (dC : Nat → ClassId) (dI : Nat → Nat → Nat) (tp te : Nat) (sz : Nat) (h0 : Nat) (b1 : Nat) (k1 : ClassId) (p1 : Int32) (p2 : Int64) (p3 : Int32)  : Met l yX12_init z_MTi ({ frames := 1, cells := 0, slots := 0, locals := 12 }) (va_Pc [.ref h0, .int p1, .long p2, .int p3, .ref b1] (Pw dC dI [(h0, .inr (13, [.int 0, .long 0, .int 0, .null, .int 0])), (b1, .inl (k1, 0, .inr (.inr (.inr (.inr (fun _ => none))))))] [(k1, .object "SelfkindleModel$Term")] sz tp te)) (va_Qv (fun (_ : Unit) => True) (fun (_ : Unit) (t : State) => Bw dC dI [(h0, .inr (13, [.int p1, .long p2, .int p3, .ref b1, .int 1]))] [] (va_A [(h0, .inr (13, [.int 0, .long 0, .int 0, .null, .int 0])), (b1, .inl (k1, 0, .inr (.inr (.inr (.inr (fun _ => none))))))] sz) t) (va_A [(h0, .inr (13, [.int 0, .long 0, .int 0, .null, .int 0])), (b1, .inl (k1, 0, .inr (.inr (.inr (.inr (fun _ => none))))))] sz)) 0 0 (va_A [(h0, .inr (13, [.int 0, .long 0, .int 0, .null, .int 0])), (b1, .inl (k1, 0, .inr (.inr (.inr (.inr (fun _ => none))))))] sz) := by
  refine Met.ofW (cc := cX12_init) (maxL := 8) (ret := none) (by decide) rfl ?_
  intro p e s m args below meth c s₁ B hml hv
  obtain ⟨rfl, hsz, hP, hK, hD0, hG⟩ := hv
  have hx := B.exec
  have hb := B.bytes
  have hr := B.returns
  have hts := atoms_spec (ws := z_MTi) B.pre
  have hown : s.vm.findClass RX12 = some m.cls := findClass_of_methodNamed B.named
  have hlocks := B.notSynchronized
  have hin : meth.name = "<init>" := (name_of_methodNamed B.named B.method).1
  subst hsz
  have hD := hD0.self (sz := s.heap.size)
  generalize hAe : va_A [(h0, .inr (13, [.int 0, .long 0, .int 0, .null, .int 0])), (b1, .inl (k1, 0, .inr (.inr (.inr (.inr (fun _ => none))))))] s.heap.size = A at hD hG ⊢
  have hA : ∀ q : Nat, s.heap.size ≤ q → A q := fun q h => by rw [← hAe]; exact Or.inr h
  have hS : va_S A s.heap s.heap [] := va_S.rf
  have hl := lv_entry ([.ref h0, .int p1, .long p2, .int p3, .ref b1]) (n := 8) (Nat.le_of_ble_eq_true rfl)
  rw [lg_entry_eq]
  generalize (lg_sl ([.ref h0, .int p1, .long p2, .int p3, .ref b1]) ++ List.replicate (8 - (lg_sl ([.ref h0, .int p1, .long p2, .int p3, .ref b1])).length) Slot.unset).toArray = ls at hl ⊢
  have hl : lv_has ls 8 [(0, .ref h0), (1, .int p1), (2, .long p2), (4, .int p3), (5, .ref b1)] := hl
  refine lv_aload_n hx hb dX12_init_0 rfl (lv_at hl 0 rfl) ?_
  refine W.objInit hx hb hown (hts (.methodLink RX12 3 objectInit) (List.mem_of_getElem? (i := 1) rfl)) (hts (.instanceMethod objectInit) (List.mem_of_getElem? (i := 2) rfl)) (hts _ (List.mem_of_getElem? (i := 3) rfl)) rfl (by rw [hml]; exact hl.1) rfl dX12_init_1 (Nat.le_of_ble_eq_true rfl) (Nat.le_of_ble_eq_true rfl) ?_
  refine W.eq (g2 := F0 m 4 ls []) rfl ?_
  refine lv_aload_n hx hb dX12_init_4 rfl (lv_at hl 0 rfl) ?_
  refine lv_iload_n hx hb dX12_init_5 rfl (lv_at hl 1 rfl) ?_
  refine va_putF (D := (dC, dI)) (ci := 13) (v := .int p1) (ty := .int) (C := RX12) (T := TX12) (N := 5) hx hb hts in_z_MTi_X12 tyX12 tyX12_ok nmX12 hown hK hP hD hS 0 rfl rfl 0 (by decide) (hts (.fieldLink RX12 9 "SelfkindleModel$Term" "kind" "I") (List.mem_of_getElem? (i := 4) rfl)) (fun _ h9 => h9) rfl hin rfl (by decide +kernel) rfl rfl (Nat.le_of_ble_eq_true rfl) dX12_init_6 (fun H_1 locs hP hD hS => ?_)
  have hP : va_P (dC, dI) vwCl [(h0, .inr (13, [.int p1, .long 0, .int 0, .null, .int 0])), (b1, .inl (k1, 0, .inr (.inr (.inr (.inr (fun _ => none))))))] H_1 := hP
  have hD : va_D A [(h0, .inr (13, [.int p1, .long 0, .int 0, .null, .int 0])), (b1, .inl (k1, 0, .inr (.inr (.inr (.inr (fun _ => none))))))] := hD
  have hK : va_K (dC, dI) vwCl [(k1, .object "SelfkindleModel$Term")] s := hK
  refine lv_aload_n hx hb dX12_init_9 rfl (lv_at hl 0 rfl) ?_
  refine lv_lload_n hx hb dX12_init_10 rfl (lv_at hl 2 rfl) ?_
  refine va_putF (D := (dC, dI)) (ci := 13) (v := .long p2) (ty := .long) (C := RX12) (T := TX12) (N := 5) hx hb hts in_z_MTi_X12 tyX12 tyX12_ok nmX12 hown hK hP hD hS 0 rfl rfl 1 (by decide) (hts (.fieldLink RX12 15 "SelfkindleModel$Term" "number" "J") (List.mem_of_getElem? (i := 5) rfl)) (fun _ h9 => h9) rfl hin rfl (by decide +kernel) rfl rfl (Nat.le_of_ble_eq_true rfl) dX12_init_11 (fun H_2 locs hP hD hS => ?_)
  have hP : va_P (dC, dI) vwCl [(h0, .inr (13, [.int p1, .long p2, .int 0, .null, .int 0])), (b1, .inl (k1, 0, .inr (.inr (.inr (.inr (fun _ => none))))))] H_2 := hP
  have hD : va_D A [(h0, .inr (13, [.int p1, .long p2, .int 0, .null, .int 0])), (b1, .inl (k1, 0, .inr (.inr (.inr (.inr (fun _ => none))))))] := hD
  have hK : va_K (dC, dI) vwCl [(k1, .object "SelfkindleModel$Term")] s := hK
  refine lv_aload_n hx hb dX12_init_14 rfl (lv_at hl 0 rfl) ?_
  refine lv_iload hx hb dX12_init_15 (lv_at hl 3 rfl) ?_
  refine va_putF (D := (dC, dI)) (ci := 13) (v := .int p3) (ty := .int) (C := RX12) (T := TX12) (N := 5) hx hb hts in_z_MTi_X12 tyX12 tyX12_ok nmX12 hown hK hP hD hS 0 rfl rfl 2 (by decide) (hts (.fieldLink RX12 19 "SelfkindleModel$Term" "x" "I") (List.mem_of_getElem? (i := 6) rfl)) (fun _ h9 => h9) rfl hin rfl (by decide +kernel) rfl rfl (Nat.le_of_ble_eq_true rfl) dX12_init_17 (fun H_3 locs hP hD hS => ?_)
  have hP : va_P (dC, dI) vwCl [(h0, .inr (13, [.int p1, .long p2, .int p3, .null, .int 0])), (b1, .inl (k1, 0, .inr (.inr (.inr (.inr (fun _ => none))))))] H_3 := hP
  have hD : va_D A [(h0, .inr (13, [.int p1, .long p2, .int p3, .null, .int 0])), (b1, .inl (k1, 0, .inr (.inr (.inr (.inr (fun _ => none))))))] := hD
  have hK : va_K (dC, dI) vwCl [(k1, .object "SelfkindleModel$Term")] s := hK
  refine lv_aload_n hx hb dX12_init_20 rfl (lv_at hl 0 rfl) ?_
  refine lv_aload hx hb dX12_init_21 (lv_at hl 4 rfl) ?_
  refine va_putF (D := (dC, dI)) (ci := 13) (v := .ref b1) (ty := .array (.object "SelfkindleModel$Term")) (C := RX12) (T := TX12) (N := 5) hx hb hts in_z_MTi_X12 tyX12 tyX12_ok nmX12 hown hK hP hD hS 0 rfl rfl 3 (by decide) (hts (.fieldLink RX12 22 "SelfkindleModel$Term" "parts" "[LSelfkindleModel$Term;") (List.mem_of_getElem? (i := 7) rfl)) (fun _ h9 => h9) rfl hin rfl (by decide +kernel) rfl rfl (Nat.le_of_ble_eq_true rfl) dX12_init_23 (fun H_4 locs hP hD hS => ?_)
  have hP : va_P (dC, dI) vwCl [(h0, .inr (13, [.int p1, .long p2, .int p3, .ref b1, .int 0])), (b1, .inl (k1, 0, .inr (.inr (.inr (.inr (fun _ => none))))))] H_4 := hP
  have hD : va_D A [(h0, .inr (13, [.int p1, .long p2, .int p3, .ref b1, .int 0])), (b1, .inl (k1, 0, .inr (.inr (.inr (.inr (fun _ => none))))))] := hD
  have hK : va_K (dC, dI) vwCl [(k1, .object "SelfkindleModel$Term")] s := hK
  refine lv_iconst (v := 1) hx hb dX12_init_26 (by decide) ?_
  refine lv_istore (lv' := [(6, .int 1), (0, .ref h0), (1, .int p1), (2, .long p2), (4, .int p3), (5, .ref b1)]) hx hb dX12_init_27 hl (by decide) rfl (fun ls hl => ?_)
  refine lv_iconst (v := 0) hx hb dX12_init_29 (by decide) ?_
  refine lv_istore (lv' := [(7, .int 0), (6, .int 1), (0, .ref h0), (1, .int p1), (2, .long p2), (4, .int p3), (5, .ref b1)]) hx hb dX12_init_30 hl (by decide) rfl (fun ls hl => ?_)
  refine lv_iload hx hb dX12_init_32 (lv_at hl 0 rfl) ?_
  refine lv_aload hx hb dX12_init_34 (lv_at hl 6 rfl) ?_
  refine va_alen (v := 0) hx hb hK hP 1 0 rfl rfl (by decide) dX12_init_36 ?_
  refine lv_icmp_ge (tgt := 59) hx hb dX12_init_37 (by decide) (fun c9 => ?_) (fun c9 => absurd (by decide) c9)
  refine lv_aload_n hx hb dX12_init_59 rfl (lv_at hl 2 rfl) ?_
  refine lv_iload hx hb dX12_init_60 (lv_at hl 1 rfl) ?_
  refine va_putF (D := (dC, dI)) (ci := 13) (v := .int 1) (ty := .int) (C := RX12) (T := TX12) (N := 5) hx hb hts in_z_MTi_X12 tyX12 tyX12_ok nmX12 hown hK hP hD hS 0 rfl rfl 4 (by decide) (hts (.fieldLink RX12 26 "SelfkindleModel$Term" "size" "I") (List.mem_of_getElem? (i := 8) rfl)) (fun _ h9 => h9) rfl hin rfl (by decide +kernel) rfl rfl (Nat.le_of_ble_eq_true rfl) dX12_init_62 (fun H_5 locs hP hD hS => ?_)
  have hP : va_P (dC, dI) vwCl [(h0, .inr (13, [.int p1, .long p2, .int p3, .ref b1, .int 1])), (b1, .inl (k1, 0, .inr (.inr (.inr (.inr (fun _ => none))))))] H_5 := hP
  have hD : va_D A [(h0, .inr (13, [.int p1, .long p2, .int p3, .ref b1, .int 1])), (b1, .inl (k1, 0, .inr (.inr (.inr (.inr (fun _ => none))))))] := hD
  have hK : va_K (dC, dI) vwCl [(k1, .object "SelfkindleModel$Term")] s := hK
  have hP := hP.sub (ws' := [(h0, .inr (13, [.int p1, .long p2, .int p3, .ref b1, .int 1]))]) [0] rfl
  have hD := hD.sub (ws' := [(h0, .inr (13, [.int p1, .long p2, .int p3, .ref b1, .int 1]))]) [0] (by decide) rfl
  have hK := hK.sub (tys' := []) [] rfl
  refine W.widen (k := 0) (n := 0) (Nat.le_of_ble_eq_true rfl) (Nat.le_of_ble_eq_true rfl) ?_
  exact W.vret hx hb hr (fun t ht hW => ⟨⟨(), rfl, trivial, ⟨by rw [ht]; exact hP, va_K.moved hW.alike hK, hD⟩⟩, hS.F ht⟩) hS.2.2 dX12_init_65

set_option maxRecDepth 20000 in
def z_put : List Cond := .code yX16_put cX16_put 2 (some .int) :: (([.fieldLink RX16 10 "SelfkindleModel" "pile" "Ljava/util/ArrayList;", .methodLink RX16 60 yJx4a65c_add_9ea2d, .instanceMethod yJx4a65c_add_9ea2d, .selects RJx4a65c yJx4a65c_add_9ea2d yJx4a65c_add_9ea2d, .initialized RJx4a65c, .code yJx4a65c_add_9ea2d cJx4a65c_add_9ea2d 2 (some .boolean), .fieldLink RJx4a65c 63 "java/util/ArrayList" "modCount" "I", .sameField "java/util/ArrayList" "java/util/AbstractList" "modCount" "I", .fieldLink RJx4a65c 9 "java/util/ArrayList" "elementData" "[Ljava/lang/Object;", .fieldLink RJx4a65c 48 "java/util/ArrayList" "size" "I", .methodLink RJx4a65c 131 yJx4a65c_add_72be8, .instanceMethod yJx4a65c_add_72be8, .selects RJx4a65c yJx4a65c_add_72be8 yJx4a65c_add_72be8, .code yJx4a65c_add_72be8 cJx4a65c_add_72be8 4 none, .methodLink RJx4a65c 129 yJx4a65c_grow_d5877, .instanceMethod yJx4a65c_grow_d5877, .selects RJx4a65c yJx4a65c_grow_d5877 yJx4a65c_grow_d5877, .code yJx4a65c_grow_d5877 cJx4a65c_grow_d5877 1 (some (.array (.object "java/lang/Object"))), .methodLink RJx4a65c 69 yJx4a65c_grow_92f84, .instanceMethod yJx4a65c_grow_92f84, .selects RJx4a65c yJx4a65c_grow_92f84 yJx4a65c_grow_92f84, .code yJx4a65c_grow_92f84 cJx4a65c_grow_92f84 4 (some (.array (.object "java/lang/Object"))), .fieldLink RJx4a65c 39 "java/util/ArrayList" "DEFAULTCAPACITY_EMPTY_ELEMENTDATA" "[Ljava/lang/Object;", .methodLink RJx4a65c 79 Lib.Math.max.name, .static Lib.Math.max.name, .initialized "java/lang/Math", .code Lib.Math.max.name Lib.Math.max.code 2 (some .int), .classLink RJx4a65c 7 "java/lang/Object", .methodLink RX16 44 yJx4a65c_size_8abf5, .instanceMethod yJx4a65c_size_8abf5, .selects RJx4a65c yJx4a65c_size_8abf5 yJx4a65c_size_8abf5, .code yJx4a65c_size_8abf5 cJx4a65c_size_8abf5 1 (some .int)] : List Cond) ++ wsX160 ++ wsJx4a65c0)
theorem in_z_put_X16 : ∀ w ∈ wsX160, w ∈ z_put := fun w h => List.mem_cons_of_mem _ (List.mem_append_left _ (List.mem_append_right _ (h)))
theorem in_z_put_Jx4a65c : ∀ w ∈ wsJx4a65c0, w ∈ z_put := fun w h => List.mem_cons_of_mem _ (List.mem_append_right _ (h))
set_option maxRecDepth 20000 in
theorem g_put_5 : GoodIn z_put (wsV RX16 60 RJx4a65c yJx4a65c_add_9ea2d z_ad1) := goodIn_p _ [6, 14, 18, 22, 27] rfl (by decide +kernel)
set_option maxRecDepth 20000 in
theorem g_put_13 : GoodIn z_put (wsV RX16 44 RJx4a65c yJx4a65c_size_8abf5 z_ASz) := goodIn_p _ [32] rfl (by decide +kernel)
set_option maxHeartbeats 4000000 in
set_option maxRecDepth 100000 in
theorem c_put (l : Launch) (dC : Nat → ClassId) (dI : Nat → Nat → Nat) (tp te : Nat) (sz : Nat) (h0 : Nat) (lp : Nat) (m1 : Nat) (m2 : Nat) (m3 : Nat) (m4 : Nat) (m5 : Nat) (m6 : Nat) (m7 : Nat) (m8 : Nat) (h1 : Nat) (p1 : Int32) (p2 : Int64) (p3 : Int32) (b1 : Nat)  : Met l yX16_put z_put ({ frames := 5, cells := 1, slots := 10, locals := 101 }) (va_Pc [.ref h0, .ref h1] (Pw dC dI [(h0, .inr (17, [.ref lp, .null, .null, .int 0, .int 0, .ref m1, .ref m2, .ref m3, .ref m4, .ref m5, .null, .null, .int 0, .ref m6, .int 0, .int 0, .int 0, .long 0, .null, .ref m7, .ref m8, .int 0, .int 0, .long 0])), (lp, .inr (0, [.int 0, .ref te, .int 0])), (h1, .inr (13, [.int p1, .long p2, .int p3, .ref b1, .int 1]))] [] sz tp te)) (va_Qi (fun (r : Int32) (_ : Unit) => r = 1) (fun (_ : Unit) (t : State) => Bw dC dI [(h0, .inr (17, [.ref lp, .null, .null, .int 0, .int 0, .ref m1, .ref m2, .ref m3, .ref m4, .ref m5, .null, .null, .int 0, .ref m6, .int 0, .int 0, .int 0, .long 0, .null, .ref m7, .ref m8, .int 0, .int 0, .long 0]))] [] (va_A [(h0, .inr (17, [.ref lp, .null, .null, .int 0, .int 0, .ref m1, .ref m2, .ref m3, .ref m4, .ref m5, .null, .null, .int 0, .ref m6, .int 0, .int 0, .int 0, .long 0, .null, .ref m7, .ref m8, .int 0, .int 0, .long 0])), (lp, .inr (0, [.int 0, .ref te, .int 0])), (h1, .inr (13, [.int p1, .long p2, .int p3, .ref b1, .int 1]))] sz) t) (va_A [(h0, .inr (17, [.ref lp, .null, .null, .int 0, .int 0, .ref m1, .ref m2, .ref m3, .ref m4, .ref m5, .null, .null, .int 0, .ref m6, .int 0, .int 0, .int 0, .long 0, .null, .ref m7, .ref m8, .int 0, .int 0, .long 0])), (lp, .inr (0, [.int 0, .ref te, .int 0])), (h1, .inr (13, [.int p1, .long p2, .int p3, .ref b1, .int 1]))] sz)) 1 10 (va_A [(h0, .inr (17, [.ref lp, .null, .null, .int 0, .int 0, .ref m1, .ref m2, .ref m3, .ref m4, .ref m5, .null, .null, .int 0, .ref m6, .int 0, .int 0, .int 0, .long 0, .null, .ref m7, .ref m8, .int 0, .int 0, .long 0])), (lp, .inr (0, [.int 0, .ref te, .int 0])), (h1, .inr (13, [.int p1, .long p2, .int p3, .ref b1, .int 1]))] sz) := by
  refine Met.ofW (cc := cX16_put) (maxL := 2) (ret := (some .int)) (by decide) rfl ?_
  intro p e s m args below meth c s₁ B hml hv
  obtain ⟨rfl, hsz, hP, hK, hD0, hG⟩ := hv
  have hx := B.exec
  have hb := B.bytes
  have hr := B.returns
  have hts := atoms_spec (ws := z_put) B.pre
  have hown : s.vm.findClass RX16 = some m.cls := findClass_of_methodNamed B.named
  have hlocks := B.notSynchronized
  subst hsz
  have hD := hD0.self (sz := s.heap.size)
  generalize hAe : va_A [(h0, .inr (17, [.ref lp, .null, .null, .int 0, .int 0, .ref m1, .ref m2, .ref m3, .ref m4, .ref m5, .null, .null, .int 0, .ref m6, .int 0, .int 0, .int 0, .long 0, .null, .ref m7, .ref m8, .int 0, .int 0, .long 0])), (lp, .inr (0, [.int 0, .ref te, .int 0])), (h1, .inr (13, [.int p1, .long p2, .int p3, .ref b1, .int 1]))] s.heap.size = A at hD hG ⊢
  have hA : ∀ q : Nat, s.heap.size ≤ q → A q := fun q h => by rw [← hAe]; exact Or.inr h
  have hS : va_S A s.heap s.heap [] := va_S.rf
  have hl := lv_entry ([.ref h0, .ref h1]) (n := 2) (Nat.le_of_ble_eq_true rfl)
  rw [lg_entry_eq]
  generalize (lg_sl ([.ref h0, .ref h1]) ++ List.replicate (2 - (lg_sl ([.ref h0, .ref h1])).length) Slot.unset).toArray = ls at hl ⊢
  have hl : lv_has ls 2 [(0, .ref h0), (1, .ref h1)] := hl
  refine lv_aload_n hx hb dX16_put_0 rfl (lv_at hl 0 rfl) ?_
  refine va_get (D := (dC, dI)) (ci := 17) (v := .ref lp) (C := RX16) (T := TX16) (N := 24) hx hb hts in_z_put_X16 hown hK hP 0 rfl rfl 0 (by decide) (hts (.fieldLink RX16 10 "SelfkindleModel" "pile" "Ljava/util/ArrayList;") (List.mem_of_getElem? (i := 1) rfl)) (fun _ h9 => h9) rfl dX16_put_1 ?_
  refine lv_aload_n hx hb dX16_put_4 rfl (lv_at hl 1 rfl) ?_
  have hPc := hP.sub (ws' := [(lp, .inr (0, [.int 0, .ref te, .int 0])), (h1, .inr (13, [.int p1, .long p2, .int p3, .ref b1, .int 1]))]) [1, 2] rfl
  have hDc := hD.sub (ws' := [(lp, .inr (0, [.int 0, .ref te, .int 0])), (h1, .inr (13, [.int p1, .long p2, .int p3, .ref b1, .int 1]))]) [1, 2] (by decide) rfl
  have hKc := hK.sub (tys' := []) [] rfl
  have hFc := va_free (wc := [(lp, .inr (0, [.int 0, .ref te, .int 0])), (h1, .inr (13, [.int p1, .long p2, .int p3, .ref b1, .int 1]))]) hD hS hA [1, 2] rfl
  refine va_calli (va_runV (As := [.ref h1]) (rest := []) ⟨hx, hb, hml, hown, hts⟩ (c_ad1 l dC dI tp te s.heap.size lp h1 p1 p2 p3 b1) (cwV 1 hts g_put_5 rfl rfl rfl (by decide +kernel) ⟨Nat.le_of_ble_eq_true rfl, Nat.le_of_ble_eq_true rfl⟩) ⟨Pw.blind, va_recv hKc hPc (ci := 0) (q0 := 0) rfl rfl, Pw.mk hPc hKc hDc hG hS hFc⟩ rfl rfl hl.1 rfl (lv_room (Nat.le_of_ble_eq_true rfl)) dX16_put_5 ⟨Nat.le_of_ble_eq_true rfl, Nat.le_of_ble_eq_true rfl⟩) hS (fun q _ h => hFc q h) hFc (fun r u t9 H_1 locs ht hvm hw hB hz1 hk1 hS => ?_)
  have hw : r = 1 := hw
  subst hw
  obtain ⟨ra_3, hP1, hK1, hD1⟩ := hB
  rw [ht] at hP1
  have hK1 := va_K.moved hvm.symm hK1
  obtain ⟨hP, hD⟩ := va_join (wr := [(h0, .inr (17, [.ref lp, .null, .null, .int 0, .int 0, .ref m1, .ref m2, .ref m3, .ref m4, .ref m5, .null, .null, .int 0, .ref m6, .int 0, .int 0, .int 0, .long 0, .null, .ref m7, .ref m8, .int 0, .int 0, .long 0]))]) (w1 := [(lp, .inr (0, [.int 1, .ref ra_3, .int 1]))]) hP hD [1, 2] [0] rfl rfl (by decide) (by decide) hk1 hFc hP1 hD1
  have hK := (hK.sub (tys' := []) [] rfl).app hK1
  have hP : va_P (dC, dI) vwCl [(h0, .inr (17, [.ref lp, .null, .null, .int 0, .int 0, .ref m1, .ref m2, .ref m3, .ref m4, .ref m5, .null, .null, .int 0, .ref m6, .int 0, .int 0, .int 0, .long 0, .null, .ref m7, .ref m8, .int 0, .int 0, .long 0])), (lp, .inr (0, [.int 1, .ref ra_3, .int 1]))] H_1 := hP
  have hD : va_D A [(h0, .inr (17, [.ref lp, .null, .null, .int 0, .int 0, .ref m1, .ref m2, .ref m3, .ref m4, .ref m5, .null, .null, .int 0, .ref m6, .int 0, .int 0, .int 0, .long 0, .null, .ref m7, .ref m8, .int 0, .int 0, .long 0])), (lp, .inr (0, [.int 1, .ref ra_3, .int 1]))] := hD
  have hK : va_K (dC, dI) vwCl [] s := hK
  refine W.widen (k := 1) (n := 10) (Nat.le_of_ble_eq_true rfl) (Nat.le_of_ble_eq_true rfl) ?_
  refine lv_pop hx hb dX16_put_8 rfl ?_
  refine lv_aload_n hx hb dX16_put_9 rfl (lv_at hl 0 rfl) ?_
  refine va_get (D := (dC, dI)) (ci := 17) (v := .ref lp) (C := RX16) (T := TX16) (N := 24) hx hb hts in_z_put_X16 hown hK hP 0 rfl rfl 0 (by decide) (hts (.fieldLink RX16 10 "SelfkindleModel" "pile" "Ljava/util/ArrayList;") (List.mem_of_getElem? (i := 1) rfl)) (fun _ h9 => h9) rfl dX16_put_10 ?_
  have hPc := hP.sub (ws' := [(lp, .inr (0, [.int 1, .ref ra_3, .int 1]))]) [1] rfl
  have hDc := hD.sub (ws' := [(lp, .inr (0, [.int 1, .ref ra_3, .int 1]))]) [1] (by decide) rfl
  have hKc := hK.sub (tys' := []) [] rfl
  have hFc := va_free (wc := [(lp, .inr (0, [.int 1, .ref ra_3, .int 1]))]) hD hS hA [1] rfl
  refine va_calli (va_runV (As := []) (rest := []) ⟨hx, hb, hml, hown, hts⟩ (c_ASz l dC dI tp te H_1.size lp ra_3 1 1) (cwV 0 hts g_put_13 rfl rfl rfl (by decide +kernel) ⟨Nat.le_of_ble_eq_true rfl, Nat.le_of_ble_eq_true rfl⟩) ⟨Pw.blind, va_recv hKc hPc (ci := 0) (q0 := 0) rfl rfl, Pw.mk hPc hKc hDc hG hS hFc⟩ rfl rfl hl.1 rfl (lv_room (Nat.le_of_ble_eq_true rfl)) dX16_put_13 ⟨Nat.le_of_ble_eq_true rfl, Nat.le_of_ble_eq_true rfl⟩) hS (fun q _ h => hFc q h) hFc (fun r u t9 H_4 locs ht hvm hw hB hz1 hk1 hS => ?_)
  have hw : r = 1 := hw
  subst hw
  obtain ⟨hP1, hK1, hD1⟩ := hB
  rw [ht] at hP1
  have hK1 := va_K.moved hvm.symm hK1
  obtain ⟨hP, hD⟩ := va_join (wr := [(h0, .inr (17, [.ref lp, .null, .null, .int 0, .int 0, .ref m1, .ref m2, .ref m3, .ref m4, .ref m5, .null, .null, .int 0, .ref m6, .int 0, .int 0, .int 0, .long 0, .null, .ref m7, .ref m8, .int 0, .int 0, .long 0]))]) (w1 := [(lp, .inr (0, [.int 1, .ref ra_3, .int 1]))]) hP hD [1] [0] rfl rfl (by decide) (by decide) hk1 hFc hP1 hD1
  have hK := (hK.sub (tys' := []) [] rfl).app hK1
  have hP : va_P (dC, dI) vwCl [(h0, .inr (17, [.ref lp, .null, .null, .int 0, .int 0, .ref m1, .ref m2, .ref m3, .ref m4, .ref m5, .null, .null, .int 0, .ref m6, .int 0, .int 0, .int 0, .long 0, .null, .ref m7, .ref m8, .int 0, .int 0, .long 0])), (lp, .inr (0, [.int 1, .ref ra_3, .int 1]))] H_4 := hP
  have hD : va_D A [(h0, .inr (17, [.ref lp, .null, .null, .int 0, .int 0, .ref m1, .ref m2, .ref m3, .ref m4, .ref m5, .null, .null, .int 0, .ref m6, .int 0, .int 0, .int 0, .long 0, .null, .ref m7, .ref m8, .int 0, .int 0, .long 0])), (lp, .inr (0, [.int 1, .ref ra_3, .int 1]))] := hD
  have hK : va_K (dC, dI) vwCl [] s := hK
  refine W.widen (k := 1) (n := 10) (Nat.le_of_ble_eq_true rfl) (Nat.le_of_ble_eq_true rfl) ?_
  have hP := hP.sub (ws' := [(h0, .inr (17, [.ref lp, .null, .null, .int 0, .int 0, .ref m1, .ref m2, .ref m3, .ref m4, .ref m5, .null, .null, .int 0, .ref m6, .int 0, .int 0, .int 0, .long 0, .null, .ref m7, .ref m8, .int 0, .int 0, .long 0]))]) [0] rfl
  have hD := hD.sub (ws' := [(h0, .inr (17, [.ref lp, .null, .null, .int 0, .int 0, .ref m1, .ref m2, .ref m3, .ref m4, .ref m5, .null, .null, .int 0, .ref m6, .int 0, .int 0, .int 0, .long 0, .null, .ref m7, .ref m8, .int 0, .int 0, .long 0]))]) [0] (by decide) rfl
  have hK := hK.sub (tys' := []) [] rfl
  refine W.widen (k := 1) (n := 10) (Nat.le_of_ble_eq_true rfl) (Nat.le_of_ble_eq_true rfl) ?_
  exact W.iret (v := 1) hx hb hr (fun t ht hW => ⟨⟨1, (), rfl, rfl, ⟨by rw [ht]; exact hP, va_K.moved hW.alike hK, hD⟩⟩, hS.F ht⟩) hS.2.2 dX16_put_16

set_option maxRecDepth 20000 in
def z_thrown : List Cond := .code yX16_thrown cX16_thrown 1 (some .int) :: (([.fieldLink RX16 40 "SelfkindleModel" "thrown" "I"] : List Cond) ++ wsX160)
theorem in_z_thrown_X16 : ∀ w ∈ wsX160, w ∈ z_thrown := fun w h => List.mem_cons_of_mem _ (List.mem_append_right _ (h))
set_option maxHeartbeats 4000000 in
set_option maxRecDepth 100000 in
theorem c_thrown (l : Launch) (dC : Nat → ClassId) (dI : Nat → Nat → Nat) (tp te : Nat) (sz : Nat) (h0 : Nat) (lp : Nat) (m1 : Nat) (m2 : Nat) (m3 : Nat) (m4 : Nat) (m5 : Nat) (m6 : Nat) (m7 : Nat) (m8 : Nat) (th : Int32)  : Met l yX16_thrown z_thrown ({ frames := 0, cells := 0, slots := 0, locals := 0 }) (va_Pc [.ref h0] (Pw dC dI [(h0, .inr (17, [.ref lp, .null, .null, .int 0, .int th, .ref m1, .ref m2, .ref m3, .ref m4, .ref m5, .null, .null, .int 0, .ref m6, .int 0, .int 0, .int 0, .long 0, .null, .ref m7, .ref m8, .int 0, .int 0, .long 0]))] [] sz tp te)) (va_Qi (fun (r : Int32) (_ : Unit) => r = th) (fun (_ : Unit) (t : State) => Bw dC dI [(h0, .inr (17, [.ref lp, .null, .null, .int 0, .int th, .ref m1, .ref m2, .ref m3, .ref m4, .ref m5, .null, .null, .int 0, .ref m6, .int 0, .int 0, .int 0, .long 0, .null, .ref m7, .ref m8, .int 0, .int 0, .long 0]))] [] (va_A [(h0, .inr (17, [.ref lp, .null, .null, .int 0, .int th, .ref m1, .ref m2, .ref m3, .ref m4, .ref m5, .null, .null, .int 0, .ref m6, .int 0, .int 0, .int 0, .long 0, .null, .ref m7, .ref m8, .int 0, .int 0, .long 0]))] sz) t) (va_A [(h0, .inr (17, [.ref lp, .null, .null, .int 0, .int th, .ref m1, .ref m2, .ref m3, .ref m4, .ref m5, .null, .null, .int 0, .ref m6, .int 0, .int 0, .int 0, .long 0, .null, .ref m7, .ref m8, .int 0, .int 0, .long 0]))] sz)) 0 0 (va_A [(h0, .inr (17, [.ref lp, .null, .null, .int 0, .int th, .ref m1, .ref m2, .ref m3, .ref m4, .ref m5, .null, .null, .int 0, .ref m6, .int 0, .int 0, .int 0, .long 0, .null, .ref m7, .ref m8, .int 0, .int 0, .long 0]))] sz) := by
  refine Met.ofW (cc := cX16_thrown) (maxL := 1) (ret := (some .int)) (by decide) rfl ?_
  intro p e s m args below meth c s₁ B hml hv
  obtain ⟨rfl, hsz, hP, hK, hD0, hG⟩ := hv
  have hx := B.exec
  have hb := B.bytes
  have hr := B.returns
  have hts := atoms_spec (ws := z_thrown) B.pre
  have hown : s.vm.findClass RX16 = some m.cls := findClass_of_methodNamed B.named
  have hlocks := B.notSynchronized
  subst hsz
  have hD := hD0.self (sz := s.heap.size)
  generalize hAe : va_A [(h0, .inr (17, [.ref lp, .null, .null, .int 0, .int th, .ref m1, .ref m2, .ref m3, .ref m4, .ref m5, .null, .null, .int 0, .ref m6, .int 0, .int 0, .int 0, .long 0, .null, .ref m7, .ref m8, .int 0, .int 0, .long 0]))] s.heap.size = A at hD hG ⊢
  have hA : ∀ q : Nat, s.heap.size ≤ q → A q := fun q h => by rw [← hAe]; exact Or.inr h
  have hS : va_S A s.heap s.heap [] := va_S.rf
  have hl := lv_entry ([.ref h0]) (n := 1) (Nat.le_of_ble_eq_true rfl)
  rw [lg_entry_eq]
  generalize (lg_sl ([.ref h0]) ++ List.replicate (1 - (lg_sl ([.ref h0])).length) Slot.unset).toArray = ls at hl ⊢
  have hl : lv_has ls 1 [(0, .ref h0)] := hl
  refine lv_aload_n hx hb dX16_thrown_0 rfl (lv_at hl 0 rfl) ?_
  refine va_get (D := (dC, dI)) (ci := 17) (v := .int th) (C := RX16) (T := TX16) (N := 24) hx hb hts in_z_thrown_X16 hown hK hP 0 rfl rfl 4 (by decide) (hts (.fieldLink RX16 40 "SelfkindleModel" "thrown" "I") (List.mem_of_getElem? (i := 1) rfl)) (fun _ h9 => h9) rfl dX16_thrown_1 ?_
  refine W.widen (k := 0) (n := 0) (Nat.le_of_ble_eq_true rfl) (Nat.le_of_ble_eq_true rfl) ?_
  exact W.iret (v := th) hx hb hr (fun t ht hW => ⟨⟨th, (), rfl, rfl, ⟨by rw [ht]; exact hP, va_K.moved hW.alike hK, hD⟩⟩, hS.F ht⟩) hS.2.2 dX16_thrown_4

set_option maxRecDepth 20000 in
def z_fits1 : List Cond := .code yX16_fits cX16_fits 5 (some .boolean) :: (([.fieldLink RX16 10 "SelfkindleModel" "pile" "Ljava/util/ArrayList;", .methodLink RX16 44 yJx4a65c_size_8abf5, .instanceMethod yJx4a65c_size_8abf5, .selects RJx4a65c yJx4a65c_size_8abf5 yJx4a65c_size_8abf5, .initialized RJx4a65c, .code yJx4a65c_size_8abf5 cJx4a65c_size_8abf5 1 (some .int), .fieldLink RJx4a65c 48 "java/util/ArrayList" "size" "I"] : List Cond) ++ wsX160 ++ wsJx4a65c0)
theorem in_z_fits1_X16 : ∀ w ∈ wsX160, w ∈ z_fits1 := fun w h => List.mem_cons_of_mem _ (List.mem_append_left _ (List.mem_append_right _ (h)))
theorem in_z_fits1_Jx4a65c : ∀ w ∈ wsJx4a65c0, w ∈ z_fits1 := fun w h => List.mem_cons_of_mem _ (List.mem_append_right _ (h))
set_option maxRecDepth 20000 in
theorem g_fits1_4 : GoodIn z_fits1 (wsV RX16 44 RJx4a65c yJx4a65c_size_8abf5 z_ASz) := goodIn_p _ [6] rfl (by decide +kernel)
set_option maxHeartbeats 4000000 in
set_option maxRecDepth 100000 in
theorem c_fits1 (l : Launch) (dC : Nat → ClassId) (dI : Nat → Nat → Nat) (tp te : Nat) (sz : Nat) (h0 : Nat) (lp : Nat) (m1 : Nat) (m2 : Nat) (m3 : Nat) (m4 : Nat) (m5 : Nat) (m6 : Nat) (m7 : Nat) (m8 : Nat)  : Met l yX16_fits z_fits1 ({ frames := 1, cells := 0, slots := 0, locals := 20 }) (va_Pc [.ref h0, .int 1] (Pw dC dI [(h0, .inr (17, [.ref lp, .null, .null, .int 0, .int 0, .ref m1, .ref m2, .ref m3, .ref m4, .ref m5, .null, .null, .int 0, .ref m6, .int 0, .int 0, .int 0, .long 0, .null, .ref m7, .ref m8, .int 0, .int 0, .long 0])), (lp, .inr (0, [.int 0, .ref te, .int 0]))] [] sz tp te)) (va_Qi (fun (r : Int32) (_ : Unit) => r = 0) (fun (_ : Unit) (t : State) => Bw dC dI [(h0, .inr (17, [.ref lp, .null, .null, .int 0, .int 0, .ref m1, .ref m2, .ref m3, .ref m4, .ref m5, .null, .null, .int 0, .ref m6, .int 0, .int 0, .int 0, .long 0, .null, .ref m7, .ref m8, .int 0, .int 0, .long 0])), (lp, .inr (0, [.int 0, .ref te, .int 0]))] [] (va_A [(h0, .inr (17, [.ref lp, .null, .null, .int 0, .int 0, .ref m1, .ref m2, .ref m3, .ref m4, .ref m5, .null, .null, .int 0, .ref m6, .int 0, .int 0, .int 0, .long 0, .null, .ref m7, .ref m8, .int 0, .int 0, .long 0])), (lp, .inr (0, [.int 0, .ref te, .int 0]))] sz) t) (va_A [(h0, .inr (17, [.ref lp, .null, .null, .int 0, .int 0, .ref m1, .ref m2, .ref m3, .ref m4, .ref m5, .null, .null, .int 0, .ref m6, .int 0, .int 0, .int 0, .long 0, .null, .ref m7, .ref m8, .int 0, .int 0, .long 0])), (lp, .inr (0, [.int 0, .ref te, .int 0]))] sz)) 0 0 (va_A [(h0, .inr (17, [.ref lp, .null, .null, .int 0, .int 0, .ref m1, .ref m2, .ref m3, .ref m4, .ref m5, .null, .null, .int 0, .ref m6, .int 0, .int 0, .int 0, .long 0, .null, .ref m7, .ref m8, .int 0, .int 0, .long 0])), (lp, .inr (0, [.int 0, .ref te, .int 0]))] sz) := by
  refine Met.ofW (cc := cX16_fits) (maxL := 5) (ret := (some .boolean)) (by decide) rfl ?_
  intro p e s m args below meth c s₁ B hml hv
  obtain ⟨rfl, hsz, hP, hK, hD0, hG⟩ := hv
  have hx := B.exec
  have hb := B.bytes
  have hr := B.returns
  have hts := atoms_spec (ws := z_fits1) B.pre
  have hown : s.vm.findClass RX16 = some m.cls := findClass_of_methodNamed B.named
  have hlocks := B.notSynchronized
  subst hsz
  have hD := hD0.self (sz := s.heap.size)
  generalize hAe : va_A [(h0, .inr (17, [.ref lp, .null, .null, .int 0, .int 0, .ref m1, .ref m2, .ref m3, .ref m4, .ref m5, .null, .null, .int 0, .ref m6, .int 0, .int 0, .int 0, .long 0, .null, .ref m7, .ref m8, .int 0, .int 0, .long 0])), (lp, .inr (0, [.int 0, .ref te, .int 0]))] s.heap.size = A at hD hG ⊢
  have hA : ∀ q : Nat, s.heap.size ≤ q → A q := fun q h => by rw [← hAe]; exact Or.inr h
  have hS : va_S A s.heap s.heap [] := va_S.rf
  have hl := lv_entry ([.ref h0, .int 1]) (n := 5) (Nat.le_of_ble_eq_true rfl)
  rw [lg_entry_eq]
  generalize (lg_sl ([.ref h0, .int 1]) ++ List.replicate (5 - (lg_sl ([.ref h0, .int 1])).length) Slot.unset).toArray = ls at hl ⊢
  have hl : lv_has ls 5 [(0, .ref h0), (1, .int 1)] := hl
  refine lv_aload_n hx hb dX16_fits_0 rfl (lv_at hl 0 rfl) ?_
  refine va_get (D := (dC, dI)) (ci := 17) (v := .ref lp) (C := RX16) (T := TX16) (N := 24) hx hb hts in_z_fits1_X16 hown hK hP 0 rfl rfl 0 (by decide) (hts (.fieldLink RX16 10 "SelfkindleModel" "pile" "Ljava/util/ArrayList;") (List.mem_of_getElem? (i := 1) rfl)) (fun _ h9 => h9) rfl dX16_fits_1 ?_
  have hPc := hP.sub (ws' := [(lp, .inr (0, [.int 0, .ref te, .int 0]))]) [1] rfl
  have hDc := hD.sub (ws' := [(lp, .inr (0, [.int 0, .ref te, .int 0]))]) [1] (by decide) rfl
  have hKc := hK.sub (tys' := []) [] rfl
  have hFc := va_free (wc := [(lp, .inr (0, [.int 0, .ref te, .int 0]))]) hD hS hA [1] rfl
  refine va_calli (va_runV (As := []) (rest := []) ⟨hx, hb, hml, hown, hts⟩ (c_ASz l dC dI tp te s.heap.size lp te 0 0) (cwV 0 hts g_fits1_4 rfl rfl rfl (by decide +kernel) ⟨Nat.le_of_ble_eq_true rfl, Nat.le_of_ble_eq_true rfl⟩) ⟨Pw.blind, va_recv hKc hPc (ci := 0) (q0 := 0) rfl rfl, Pw.mk hPc hKc hDc hG hS hFc⟩ rfl rfl hl.1 rfl (lv_room (Nat.le_of_ble_eq_true rfl)) dX16_fits_4 ⟨Nat.le_of_ble_eq_true rfl, Nat.le_of_ble_eq_true rfl⟩) hS (fun q _ h => hFc q h) hFc (fun r u t9 H_1 locs ht hvm hw hB hz1 hk1 hS => ?_)
  have hw : r = 0 := hw
  subst hw
  obtain ⟨hP1, hK1, hD1⟩ := hB
  rw [ht] at hP1
  have hK1 := va_K.moved hvm.symm hK1
  obtain ⟨hP, hD⟩ := va_join (wr := [(h0, .inr (17, [.ref lp, .null, .null, .int 0, .int 0, .ref m1, .ref m2, .ref m3, .ref m4, .ref m5, .null, .null, .int 0, .ref m6, .int 0, .int 0, .int 0, .long 0, .null, .ref m7, .ref m8, .int 0, .int 0, .long 0]))]) (w1 := [(lp, .inr (0, [.int 0, .ref te, .int 0]))]) hP hD [1] [0] rfl rfl (by decide) (by decide) hk1 hFc hP1 hD1
  have hK := (hK.sub (tys' := []) [] rfl).app hK1
  have hP : va_P (dC, dI) vwCl [(h0, .inr (17, [.ref lp, .null, .null, .int 0, .int 0, .ref m1, .ref m2, .ref m3, .ref m4, .ref m5, .null, .null, .int 0, .ref m6, .int 0, .int 0, .int 0, .long 0, .null, .ref m7, .ref m8, .int 0, .int 0, .long 0])), (lp, .inr (0, [.int 0, .ref te, .int 0]))] H_1 := hP
  have hD : va_D A [(h0, .inr (17, [.ref lp, .null, .null, .int 0, .int 0, .ref m1, .ref m2, .ref m3, .ref m4, .ref m5, .null, .null, .int 0, .ref m6, .int 0, .int 0, .int 0, .long 0, .null, .ref m7, .ref m8, .int 0, .int 0, .long 0])), (lp, .inr (0, [.int 0, .ref te, .int 0]))] := hD
  have hK : va_K (dC, dI) vwCl [] s := hK
  refine W.widen (k := 0) (n := 0) (Nat.le_of_ble_eq_true rfl) (Nat.le_of_ble_eq_true rfl) ?_
  refine lv_iload_n hx hb dX16_fits_7 rfl (lv_at hl 1 rfl) ?_
  refine lv_icmp_lt (tgt := 15) hx hb dX16_fits_8 (by decide) (fun c9 => ?_) (fun c9 => absurd (by decide) c9)
  refine lv_iconst (v := 0) hx hb dX16_fits_15 (by decide) ?_
  refine lv_istore_n (lv' := [(2, .int 0), (0, .ref h0), (1, .int 1)]) hx hb dX16_fits_16 rfl hl (by decide) rfl (fun ls hl => ?_)
  refine lv_iconst (v := 1) hx hb dX16_fits_17 (by decide) ?_
  refine lv_istore_n (lv' := [(3, .int 1), (2, .int 0), (0, .ref h0), (1, .int 1)]) hx hb dX16_fits_18 rfl hl (by decide) rfl (fun ls hl => ?_)
  refine lv_iconst (v := 0) hx hb dX16_fits_19 (by decide) ?_
  refine lv_istore (lv' := [(4, .int 0), (3, .int 1), (2, .int 0), (0, .ref h0), (1, .int 1)]) hx hb dX16_fits_20 hl (by decide) rfl (fun ls hl => ?_)
  refine lv_iload hx hb dX16_fits_22 (lv_at hl 0 rfl) ?_
  refine lv_iload_n hx hb dX16_fits_24 rfl (lv_at hl 4 rfl) ?_
  refine lv_icmp_ge (tgt := 50) hx hb dX16_fits_25 (by decide) (fun c9 => absurd c9 (by decide)) (fun c9 => ?_)
  refine lv_iload_n hx hb dX16_fits_28 rfl (lv_at hl 2 rfl) ?_
  refine lv_if_eq (tgt := 50) hx hb dX16_fits_29 (by decide) (fun c9 => ?_) (fun c9 => absurd (by decide) c9)
  refine lv_iload_n hx hb dX16_fits_50 rfl (lv_at hl 2 rfl) ?_
  refine lv_if_eq (tgt := 64) hx hb dX16_fits_51 (by decide) (fun c9 => ?_) (fun c9 => absurd (by decide) c9)
  refine lv_iconst (v := 0) hx hb dX16_fits_64 (by decide) ?_
  refine W.widen (k := 0) (n := 0) (Nat.le_of_ble_eq_true rfl) (Nat.le_of_ble_eq_true rfl) ?_
  exact W.zret (v := 0) (ty := .boolean) hx hb hr rfl (fun t ht hW => ⟨⟨0, (), rfl, rfl, ⟨by rw [ht]; exact hP, va_K.moved hW.alike hK, hD⟩⟩, hS.F ht⟩) hS.2.2 dX16_fits_65

set_option maxRecDepth 20000 in
def z_fits2 : List Cond := .code yX16_fits cX16_fits 5 (some .boolean) :: (([.fieldLink RX16 10 "SelfkindleModel" "pile" "Ljava/util/ArrayList;", .methodLink RX16 44 yJx4a65c_size_8abf5, .instanceMethod yJx4a65c_size_8abf5, .selects RJx4a65c yJx4a65c_size_8abf5 yJx4a65c_size_8abf5, .initialized RJx4a65c, .code yJx4a65c_size_8abf5 cJx4a65c_size_8abf5 1 (some .int), .fieldLink RJx4a65c 48 "java/util/ArrayList" "size" "I"] : List Cond) ++ wsX160 ++ wsJx4a65c0)
theorem in_z_fits2_X16 : ∀ w ∈ wsX160, w ∈ z_fits2 := fun w h => List.mem_cons_of_mem _ (List.mem_append_left _ (List.mem_append_right _ (h)))
theorem in_z_fits2_Jx4a65c : ∀ w ∈ wsJx4a65c0, w ∈ z_fits2 := fun w h => List.mem_cons_of_mem _ (List.mem_append_right _ (h))
set_option maxRecDepth 20000 in
theorem g_fits2_4 : GoodIn z_fits2 (wsV RX16 44 RJx4a65c yJx4a65c_size_8abf5 z_ASz) := goodIn_p _ [6] rfl (by decide +kernel)
set_option maxHeartbeats 4000000 in
set_option maxRecDepth 100000 in
theorem c_fits2 (l : Launch) (dC : Nat → ClassId) (dI : Nat → Nat → Nat) (tp te : Nat) (sz : Nat) (h0 : Nat) (lp : Nat) (m1 : Nat) (m2 : Nat) (m3 : Nat) (m4 : Nat) (m5 : Nat) (m6 : Nat) (m7 : Nat) (m8 : Nat)  : Met l yX16_fits z_fits2 ({ frames := 1, cells := 0, slots := 0, locals := 20 }) (va_Pc [.ref h0, .int 2] (Pw dC dI [(h0, .inr (17, [.ref lp, .null, .null, .int 0, .int 0, .ref m1, .ref m2, .ref m3, .ref m4, .ref m5, .null, .null, .int 0, .ref m6, .int 0, .int 0, .int 0, .long 0, .null, .ref m7, .ref m8, .int 0, .int 0, .long 0])), (lp, .inr (0, [.int 0, .ref te, .int 0]))] [] sz tp te)) (va_Qi (fun (r : Int32) (_ : Unit) => r = 0) (fun (_ : Unit) (t : State) => Bw dC dI [(h0, .inr (17, [.ref lp, .null, .null, .int 0, .int 0, .ref m1, .ref m2, .ref m3, .ref m4, .ref m5, .null, .null, .int 0, .ref m6, .int 0, .int 0, .int 0, .long 0, .null, .ref m7, .ref m8, .int 0, .int 0, .long 0])), (lp, .inr (0, [.int 0, .ref te, .int 0]))] [] (va_A [(h0, .inr (17, [.ref lp, .null, .null, .int 0, .int 0, .ref m1, .ref m2, .ref m3, .ref m4, .ref m5, .null, .null, .int 0, .ref m6, .int 0, .int 0, .int 0, .long 0, .null, .ref m7, .ref m8, .int 0, .int 0, .long 0])), (lp, .inr (0, [.int 0, .ref te, .int 0]))] sz) t) (va_A [(h0, .inr (17, [.ref lp, .null, .null, .int 0, .int 0, .ref m1, .ref m2, .ref m3, .ref m4, .ref m5, .null, .null, .int 0, .ref m6, .int 0, .int 0, .int 0, .long 0, .null, .ref m7, .ref m8, .int 0, .int 0, .long 0])), (lp, .inr (0, [.int 0, .ref te, .int 0]))] sz)) 0 0 (va_A [(h0, .inr (17, [.ref lp, .null, .null, .int 0, .int 0, .ref m1, .ref m2, .ref m3, .ref m4, .ref m5, .null, .null, .int 0, .ref m6, .int 0, .int 0, .int 0, .long 0, .null, .ref m7, .ref m8, .int 0, .int 0, .long 0])), (lp, .inr (0, [.int 0, .ref te, .int 0]))] sz) := by
  refine Met.ofW (cc := cX16_fits) (maxL := 5) (ret := (some .boolean)) (by decide) rfl ?_
  intro p e s m args below meth c s₁ B hml hv
  obtain ⟨rfl, hsz, hP, hK, hD0, hG⟩ := hv
  have hx := B.exec
  have hb := B.bytes
  have hr := B.returns
  have hts := atoms_spec (ws := z_fits2) B.pre
  have hown : s.vm.findClass RX16 = some m.cls := findClass_of_methodNamed B.named
  have hlocks := B.notSynchronized
  subst hsz
  have hD := hD0.self (sz := s.heap.size)
  generalize hAe : va_A [(h0, .inr (17, [.ref lp, .null, .null, .int 0, .int 0, .ref m1, .ref m2, .ref m3, .ref m4, .ref m5, .null, .null, .int 0, .ref m6, .int 0, .int 0, .int 0, .long 0, .null, .ref m7, .ref m8, .int 0, .int 0, .long 0])), (lp, .inr (0, [.int 0, .ref te, .int 0]))] s.heap.size = A at hD hG ⊢
  have hA : ∀ q : Nat, s.heap.size ≤ q → A q := fun q h => by rw [← hAe]; exact Or.inr h
  have hS : va_S A s.heap s.heap [] := va_S.rf
  have hl := lv_entry ([.ref h0, .int 2]) (n := 5) (Nat.le_of_ble_eq_true rfl)
  rw [lg_entry_eq]
  generalize (lg_sl ([.ref h0, .int 2]) ++ List.replicate (5 - (lg_sl ([.ref h0, .int 2])).length) Slot.unset).toArray = ls at hl ⊢
  have hl : lv_has ls 5 [(0, .ref h0), (1, .int 2)] := hl
  refine lv_aload_n hx hb dX16_fits_0 rfl (lv_at hl 0 rfl) ?_
  refine va_get (D := (dC, dI)) (ci := 17) (v := .ref lp) (C := RX16) (T := TX16) (N := 24) hx hb hts in_z_fits2_X16 hown hK hP 0 rfl rfl 0 (by decide) (hts (.fieldLink RX16 10 "SelfkindleModel" "pile" "Ljava/util/ArrayList;") (List.mem_of_getElem? (i := 1) rfl)) (fun _ h9 => h9) rfl dX16_fits_1 ?_
  have hPc := hP.sub (ws' := [(lp, .inr (0, [.int 0, .ref te, .int 0]))]) [1] rfl
  have hDc := hD.sub (ws' := [(lp, .inr (0, [.int 0, .ref te, .int 0]))]) [1] (by decide) rfl
  have hKc := hK.sub (tys' := []) [] rfl
  have hFc := va_free (wc := [(lp, .inr (0, [.int 0, .ref te, .int 0]))]) hD hS hA [1] rfl
  refine va_calli (va_runV (As := []) (rest := []) ⟨hx, hb, hml, hown, hts⟩ (c_ASz l dC dI tp te s.heap.size lp te 0 0) (cwV 0 hts g_fits2_4 rfl rfl rfl (by decide +kernel) ⟨Nat.le_of_ble_eq_true rfl, Nat.le_of_ble_eq_true rfl⟩) ⟨Pw.blind, va_recv hKc hPc (ci := 0) (q0 := 0) rfl rfl, Pw.mk hPc hKc hDc hG hS hFc⟩ rfl rfl hl.1 rfl (lv_room (Nat.le_of_ble_eq_true rfl)) dX16_fits_4 ⟨Nat.le_of_ble_eq_true rfl, Nat.le_of_ble_eq_true rfl⟩) hS (fun q _ h => hFc q h) hFc (fun r u t9 H_1 locs ht hvm hw hB hz1 hk1 hS => ?_)
  have hw : r = 0 := hw
  subst hw
  obtain ⟨hP1, hK1, hD1⟩ := hB
  rw [ht] at hP1
  have hK1 := va_K.moved hvm.symm hK1
  obtain ⟨hP, hD⟩ := va_join (wr := [(h0, .inr (17, [.ref lp, .null, .null, .int 0, .int 0, .ref m1, .ref m2, .ref m3, .ref m4, .ref m5, .null, .null, .int 0, .ref m6, .int 0, .int 0, .int 0, .long 0, .null, .ref m7, .ref m8, .int 0, .int 0, .long 0]))]) (w1 := [(lp, .inr (0, [.int 0, .ref te, .int 0]))]) hP hD [1] [0] rfl rfl (by decide) (by decide) hk1 hFc hP1 hD1
  have hK := (hK.sub (tys' := []) [] rfl).app hK1
  have hP : va_P (dC, dI) vwCl [(h0, .inr (17, [.ref lp, .null, .null, .int 0, .int 0, .ref m1, .ref m2, .ref m3, .ref m4, .ref m5, .null, .null, .int 0, .ref m6, .int 0, .int 0, .int 0, .long 0, .null, .ref m7, .ref m8, .int 0, .int 0, .long 0])), (lp, .inr (0, [.int 0, .ref te, .int 0]))] H_1 := hP
  have hD : va_D A [(h0, .inr (17, [.ref lp, .null, .null, .int 0, .int 0, .ref m1, .ref m2, .ref m3, .ref m4, .ref m5, .null, .null, .int 0, .ref m6, .int 0, .int 0, .int 0, .long 0, .null, .ref m7, .ref m8, .int 0, .int 0, .long 0])), (lp, .inr (0, [.int 0, .ref te, .int 0]))] := hD
  have hK : va_K (dC, dI) vwCl [] s := hK
  refine W.widen (k := 0) (n := 0) (Nat.le_of_ble_eq_true rfl) (Nat.le_of_ble_eq_true rfl) ?_
  refine lv_iload_n hx hb dX16_fits_7 rfl (lv_at hl 1 rfl) ?_
  refine lv_icmp_lt (tgt := 15) hx hb dX16_fits_8 (by decide) (fun c9 => ?_) (fun c9 => absurd (by decide) c9)
  refine lv_iconst (v := 0) hx hb dX16_fits_15 (by decide) ?_
  refine lv_istore_n (lv' := [(2, .int 0), (0, .ref h0), (1, .int 2)]) hx hb dX16_fits_16 rfl hl (by decide) rfl (fun ls hl => ?_)
  refine lv_iconst (v := 1) hx hb dX16_fits_17 (by decide) ?_
  refine lv_istore_n (lv' := [(3, .int 1), (2, .int 0), (0, .ref h0), (1, .int 2)]) hx hb dX16_fits_18 rfl hl (by decide) rfl (fun ls hl => ?_)
  refine lv_iconst (v := 0) hx hb dX16_fits_19 (by decide) ?_
  refine lv_istore (lv' := [(4, .int 0), (3, .int 1), (2, .int 0), (0, .ref h0), (1, .int 2)]) hx hb dX16_fits_20 hl (by decide) rfl (fun ls hl => ?_)
  refine lv_iload hx hb dX16_fits_22 (lv_at hl 0 rfl) ?_
  refine lv_iload_n hx hb dX16_fits_24 rfl (lv_at hl 4 rfl) ?_
  refine lv_icmp_ge (tgt := 50) hx hb dX16_fits_25 (by decide) (fun c9 => absurd c9 (by decide)) (fun c9 => ?_)
  refine lv_iload_n hx hb dX16_fits_28 rfl (lv_at hl 2 rfl) ?_
  refine lv_if_eq (tgt := 50) hx hb dX16_fits_29 (by decide) (fun c9 => ?_) (fun c9 => absurd (by decide) c9)
  refine lv_iload_n hx hb dX16_fits_50 rfl (lv_at hl 2 rfl) ?_
  refine lv_if_eq (tgt := 64) hx hb dX16_fits_51 (by decide) (fun c9 => ?_) (fun c9 => absurd (by decide) c9)
  refine lv_iconst (v := 0) hx hb dX16_fits_64 (by decide) ?_
  refine W.widen (k := 0) (n := 0) (Nat.le_of_ble_eq_true rfl) (Nat.le_of_ble_eq_true rfl) ?_
  exact W.zret (v := 0) (ty := .boolean) hx hb hr rfl (fun t ht hW => ⟨⟨0, (), rfl, rfl, ⟨by rw [ht]; exact hP, va_K.moved hW.alike hK, hD⟩⟩, hS.F ht⟩) hS.2.2 dX16_fits_65

set_option maxRecDepth 20000 in
def z_fits3 : List Cond := .code yX16_fits cX16_fits 5 (some .boolean) :: (([.fieldLink RX16 10 "SelfkindleModel" "pile" "Ljava/util/ArrayList;", .methodLink RX16 44 yJx4a65c_size_8abf5, .instanceMethod yJx4a65c_size_8abf5, .selects RJx4a65c yJx4a65c_size_8abf5 yJx4a65c_size_8abf5, .initialized RJx4a65c, .code yJx4a65c_size_8abf5 cJx4a65c_size_8abf5 1 (some .int), .fieldLink RJx4a65c 48 "java/util/ArrayList" "size" "I"] : List Cond) ++ wsX160 ++ wsJx4a65c0)
theorem in_z_fits3_X16 : ∀ w ∈ wsX160, w ∈ z_fits3 := fun w h => List.mem_cons_of_mem _ (List.mem_append_left _ (List.mem_append_right _ (h)))
theorem in_z_fits3_Jx4a65c : ∀ w ∈ wsJx4a65c0, w ∈ z_fits3 := fun w h => List.mem_cons_of_mem _ (List.mem_append_right _ (h))
set_option maxRecDepth 20000 in
theorem g_fits3_4 : GoodIn z_fits3 (wsV RX16 44 RJx4a65c yJx4a65c_size_8abf5 z_ASz) := goodIn_p _ [6] rfl (by decide +kernel)
set_option maxHeartbeats 4000000 in
set_option maxRecDepth 100000 in
theorem c_fits3 (l : Launch) (dC : Nat → ClassId) (dI : Nat → Nat → Nat) (tp te : Nat) (sz : Nat) (h0 : Nat) (lp : Nat) (m1 : Nat) (m2 : Nat) (m3 : Nat) (m4 : Nat) (m5 : Nat) (m6 : Nat) (m7 : Nat) (m8 : Nat)  : Met l yX16_fits z_fits3 ({ frames := 1, cells := 0, slots := 0, locals := 20 }) (va_Pc [.ref h0, .int 3] (Pw dC dI [(h0, .inr (17, [.ref lp, .null, .null, .int 0, .int 0, .ref m1, .ref m2, .ref m3, .ref m4, .ref m5, .null, .null, .int 0, .ref m6, .int 0, .int 0, .int 0, .long 0, .null, .ref m7, .ref m8, .int 0, .int 0, .long 0])), (lp, .inr (0, [.int 0, .ref te, .int 0]))] [] sz tp te)) (va_Qi (fun (r : Int32) (_ : Unit) => r = 0) (fun (_ : Unit) (t : State) => Bw dC dI [(h0, .inr (17, [.ref lp, .null, .null, .int 0, .int 0, .ref m1, .ref m2, .ref m3, .ref m4, .ref m5, .null, .null, .int 0, .ref m6, .int 0, .int 0, .int 0, .long 0, .null, .ref m7, .ref m8, .int 0, .int 0, .long 0])), (lp, .inr (0, [.int 0, .ref te, .int 0]))] [] (va_A [(h0, .inr (17, [.ref lp, .null, .null, .int 0, .int 0, .ref m1, .ref m2, .ref m3, .ref m4, .ref m5, .null, .null, .int 0, .ref m6, .int 0, .int 0, .int 0, .long 0, .null, .ref m7, .ref m8, .int 0, .int 0, .long 0])), (lp, .inr (0, [.int 0, .ref te, .int 0]))] sz) t) (va_A [(h0, .inr (17, [.ref lp, .null, .null, .int 0, .int 0, .ref m1, .ref m2, .ref m3, .ref m4, .ref m5, .null, .null, .int 0, .ref m6, .int 0, .int 0, .int 0, .long 0, .null, .ref m7, .ref m8, .int 0, .int 0, .long 0])), (lp, .inr (0, [.int 0, .ref te, .int 0]))] sz)) 0 0 (va_A [(h0, .inr (17, [.ref lp, .null, .null, .int 0, .int 0, .ref m1, .ref m2, .ref m3, .ref m4, .ref m5, .null, .null, .int 0, .ref m6, .int 0, .int 0, .int 0, .long 0, .null, .ref m7, .ref m8, .int 0, .int 0, .long 0])), (lp, .inr (0, [.int 0, .ref te, .int 0]))] sz) := by
  refine Met.ofW (cc := cX16_fits) (maxL := 5) (ret := (some .boolean)) (by decide) rfl ?_
  intro p e s m args below meth c s₁ B hml hv
  obtain ⟨rfl, hsz, hP, hK, hD0, hG⟩ := hv
  have hx := B.exec
  have hb := B.bytes
  have hr := B.returns
  have hts := atoms_spec (ws := z_fits3) B.pre
  have hown : s.vm.findClass RX16 = some m.cls := findClass_of_methodNamed B.named
  have hlocks := B.notSynchronized
  subst hsz
  have hD := hD0.self (sz := s.heap.size)
  generalize hAe : va_A [(h0, .inr (17, [.ref lp, .null, .null, .int 0, .int 0, .ref m1, .ref m2, .ref m3, .ref m4, .ref m5, .null, .null, .int 0, .ref m6, .int 0, .int 0, .int 0, .long 0, .null, .ref m7, .ref m8, .int 0, .int 0, .long 0])), (lp, .inr (0, [.int 0, .ref te, .int 0]))] s.heap.size = A at hD hG ⊢
  have hA : ∀ q : Nat, s.heap.size ≤ q → A q := fun q h => by rw [← hAe]; exact Or.inr h
  have hS : va_S A s.heap s.heap [] := va_S.rf
  have hl := lv_entry ([.ref h0, .int 3]) (n := 5) (Nat.le_of_ble_eq_true rfl)
  rw [lg_entry_eq]
  generalize (lg_sl ([.ref h0, .int 3]) ++ List.replicate (5 - (lg_sl ([.ref h0, .int 3])).length) Slot.unset).toArray = ls at hl ⊢
  have hl : lv_has ls 5 [(0, .ref h0), (1, .int 3)] := hl
  refine lv_aload_n hx hb dX16_fits_0 rfl (lv_at hl 0 rfl) ?_
  refine va_get (D := (dC, dI)) (ci := 17) (v := .ref lp) (C := RX16) (T := TX16) (N := 24) hx hb hts in_z_fits3_X16 hown hK hP 0 rfl rfl 0 (by decide) (hts (.fieldLink RX16 10 "SelfkindleModel" "pile" "Ljava/util/ArrayList;") (List.mem_of_getElem? (i := 1) rfl)) (fun _ h9 => h9) rfl dX16_fits_1 ?_
  have hPc := hP.sub (ws' := [(lp, .inr (0, [.int 0, .ref te, .int 0]))]) [1] rfl
  have hDc := hD.sub (ws' := [(lp, .inr (0, [.int 0, .ref te, .int 0]))]) [1] (by decide) rfl
  have hKc := hK.sub (tys' := []) [] rfl
  have hFc := va_free (wc := [(lp, .inr (0, [.int 0, .ref te, .int 0]))]) hD hS hA [1] rfl
  refine va_calli (va_runV (As := []) (rest := []) ⟨hx, hb, hml, hown, hts⟩ (c_ASz l dC dI tp te s.heap.size lp te 0 0) (cwV 0 hts g_fits3_4 rfl rfl rfl (by decide +kernel) ⟨Nat.le_of_ble_eq_true rfl, Nat.le_of_ble_eq_true rfl⟩) ⟨Pw.blind, va_recv hKc hPc (ci := 0) (q0 := 0) rfl rfl, Pw.mk hPc hKc hDc hG hS hFc⟩ rfl rfl hl.1 rfl (lv_room (Nat.le_of_ble_eq_true rfl)) dX16_fits_4 ⟨Nat.le_of_ble_eq_true rfl, Nat.le_of_ble_eq_true rfl⟩) hS (fun q _ h => hFc q h) hFc (fun r u t9 H_1 locs ht hvm hw hB hz1 hk1 hS => ?_)
  have hw : r = 0 := hw
  subst hw
  obtain ⟨hP1, hK1, hD1⟩ := hB
  rw [ht] at hP1
  have hK1 := va_K.moved hvm.symm hK1
  obtain ⟨hP, hD⟩ := va_join (wr := [(h0, .inr (17, [.ref lp, .null, .null, .int 0, .int 0, .ref m1, .ref m2, .ref m3, .ref m4, .ref m5, .null, .null, .int 0, .ref m6, .int 0, .int 0, .int 0, .long 0, .null, .ref m7, .ref m8, .int 0, .int 0, .long 0]))]) (w1 := [(lp, .inr (0, [.int 0, .ref te, .int 0]))]) hP hD [1] [0] rfl rfl (by decide) (by decide) hk1 hFc hP1 hD1
  have hK := (hK.sub (tys' := []) [] rfl).app hK1
  have hP : va_P (dC, dI) vwCl [(h0, .inr (17, [.ref lp, .null, .null, .int 0, .int 0, .ref m1, .ref m2, .ref m3, .ref m4, .ref m5, .null, .null, .int 0, .ref m6, .int 0, .int 0, .int 0, .long 0, .null, .ref m7, .ref m8, .int 0, .int 0, .long 0])), (lp, .inr (0, [.int 0, .ref te, .int 0]))] H_1 := hP
  have hD : va_D A [(h0, .inr (17, [.ref lp, .null, .null, .int 0, .int 0, .ref m1, .ref m2, .ref m3, .ref m4, .ref m5, .null, .null, .int 0, .ref m6, .int 0, .int 0, .int 0, .long 0, .null, .ref m7, .ref m8, .int 0, .int 0, .long 0])), (lp, .inr (0, [.int 0, .ref te, .int 0]))] := hD
  have hK : va_K (dC, dI) vwCl [] s := hK
  refine W.widen (k := 0) (n := 0) (Nat.le_of_ble_eq_true rfl) (Nat.le_of_ble_eq_true rfl) ?_
  refine lv_iload_n hx hb dX16_fits_7 rfl (lv_at hl 1 rfl) ?_
  refine lv_icmp_lt (tgt := 15) hx hb dX16_fits_8 (by decide) (fun c9 => ?_) (fun c9 => absurd (by decide) c9)
  refine lv_iconst (v := 0) hx hb dX16_fits_15 (by decide) ?_
  refine lv_istore_n (lv' := [(2, .int 0), (0, .ref h0), (1, .int 3)]) hx hb dX16_fits_16 rfl hl (by decide) rfl (fun ls hl => ?_)
  refine lv_iconst (v := 1) hx hb dX16_fits_17 (by decide) ?_
  refine lv_istore_n (lv' := [(3, .int 1), (2, .int 0), (0, .ref h0), (1, .int 3)]) hx hb dX16_fits_18 rfl hl (by decide) rfl (fun ls hl => ?_)
  refine lv_iconst (v := 0) hx hb dX16_fits_19 (by decide) ?_
  refine lv_istore (lv' := [(4, .int 0), (3, .int 1), (2, .int 0), (0, .ref h0), (1, .int 3)]) hx hb dX16_fits_20 hl (by decide) rfl (fun ls hl => ?_)
  refine lv_iload hx hb dX16_fits_22 (lv_at hl 0 rfl) ?_
  refine lv_iload_n hx hb dX16_fits_24 rfl (lv_at hl 4 rfl) ?_
  refine lv_icmp_ge (tgt := 50) hx hb dX16_fits_25 (by decide) (fun c9 => absurd c9 (by decide)) (fun c9 => ?_)
  refine lv_iload_n hx hb dX16_fits_28 rfl (lv_at hl 2 rfl) ?_
  refine lv_if_eq (tgt := 50) hx hb dX16_fits_29 (by decide) (fun c9 => ?_) (fun c9 => absurd (by decide) c9)
  refine lv_iload_n hx hb dX16_fits_50 rfl (lv_at hl 2 rfl) ?_
  refine lv_if_eq (tgt := 64) hx hb dX16_fits_51 (by decide) (fun c9 => ?_) (fun c9 => absurd (by decide) c9)
  refine lv_iconst (v := 0) hx hb dX16_fits_64 (by decide) ?_
  refine W.widen (k := 0) (n := 0) (Nat.le_of_ble_eq_true rfl) (Nat.le_of_ble_eq_true rfl) ?_
  exact W.zret (v := 0) (ty := .boolean) hx hb hr rfl (fun t ht hW => ⟨⟨0, (), rfl, rfl, ⟨by rw [ht]; exact hP, va_K.moved hW.alike hK, hD⟩⟩, hS.F ht⟩) hS.2.2 dX16_fits_65

set_option maxRecDepth 20000 in
def z_isN_neg : List Cond := .code yX16_isName cX16_isName 1 (some .boolean) :: (([] : List Cond))
set_option maxHeartbeats 4000000 in
set_option maxRecDepth 100000 in
theorem c_isN_neg (l : Launch) (dC : Nat → ClassId) (dI : Nat → Nat → Nat) (tp te : Nat) (sz : Nat) (p0 : Int32) (hvn : p0 < 0) : Met l yX16_isName z_isN_neg ({ frames := 0, cells := 0, slots := 0, locals := 0 }) (va_Pc [.int p0] (Pw dC dI [] [] sz tp te)) (va_Qi (fun (r : Int32) (_ : Unit) => r = 0) (fun (_ : Unit) (_ : State) => True) (va_A [] sz)) 0 0 (va_A [] sz) := by
  refine Met.ofW (cc := cX16_isName) (maxL := 1) (ret := (some .boolean)) (by decide) rfl ?_
  intro p e s m args below meth c s₁ B hml hv
  obtain ⟨rfl, hsz, hP, hK, hD0, hG⟩ := hv
  have hx := B.exec
  have hb := B.bytes
  have hr := B.returns
  have hts := atoms_spec (ws := z_isN_neg) B.pre
  have hown : s.vm.findClass RX16 = some m.cls := findClass_of_methodNamed B.named
  have hlocks := B.notSynchronized
  subst hsz
  have hD := hD0.self (sz := s.heap.size)
  generalize hAe : va_A [] s.heap.size = A at hD hG ⊢
  have hA : ∀ q : Nat, s.heap.size ≤ q → A q := fun q h => by rw [← hAe]; exact Or.inr h
  have hS : va_S A s.heap s.heap [] := va_S.rf
  have hl := lv_entry ([.int p0]) (n := 1) (Nat.le_of_ble_eq_true rfl)
  rw [lg_entry_eq]
  generalize (lg_sl ([.int p0]) ++ List.replicate (1 - (lg_sl ([.int p0])).length) Slot.unset).toArray = ls at hl ⊢
  have hl : lv_has ls 1 [(0, .int p0)] := hl
  refine lv_iload_n hx hb dX16_isName_0 rfl (lv_at hl 0 rfl) ?_
  refine lv_if_lt (tgt := 14) hx hb dX16_isName_1 (by decide) (fun c9 => ?_) (fun c9 => absurd hvn c9)
  refine lv_iconst (v := 0) hx hb dX16_isName_14 (by decide) ?_
  refine W.widen (k := 0) (n := 0) (Nat.le_of_ble_eq_true rfl) (Nat.le_of_ble_eq_true rfl) ?_
  exact W.zret (v := 0) (ty := .boolean) hx hb hr rfl (fun t ht hW => ⟨⟨0, (), rfl, rfl, trivial⟩, hS.F ht⟩) hS.2.2 dX16_isName_15

set_option maxRecDepth 20000 in
def z_isN_big : List Cond := .code yX16_isName cX16_isName 1 (some .boolean) :: (([] : List Cond))
set_option maxHeartbeats 4000000 in
set_option maxRecDepth 100000 in
theorem c_isN_big (l : Launch) (dC : Nat → ClassId) (dI : Nat → Nat → Nat) (tp te : Nat) (sz : Nat) (p0 : Int32) (hvn : ¬ p0 < 0) (hvb : ¬ p0 < 10) (hvc : 10 ≤ p0) : Met l yX16_isName z_isN_big ({ frames := 0, cells := 0, slots := 0, locals := 0 }) (va_Pc [.int p0] (Pw dC dI [] [] sz tp te)) (va_Qi (fun (r : Int32) (_ : Unit) => r = 0) (fun (_ : Unit) (_ : State) => True) (va_A [] sz)) 0 0 (va_A [] sz) := by
  refine Met.ofW (cc := cX16_isName) (maxL := 1) (ret := (some .boolean)) (by decide) rfl ?_
  intro p e s m args below meth c s₁ B hml hv
  obtain ⟨rfl, hsz, hP, hK, hD0, hG⟩ := hv
  have hx := B.exec
  have hb := B.bytes
  have hr := B.returns
  have hts := atoms_spec (ws := z_isN_big) B.pre
  have hown : s.vm.findClass RX16 = some m.cls := findClass_of_methodNamed B.named
  have hlocks := B.notSynchronized
  subst hsz
  have hD := hD0.self (sz := s.heap.size)
  generalize hAe : va_A [] s.heap.size = A at hD hG ⊢
  have hA : ∀ q : Nat, s.heap.size ≤ q → A q := fun q h => by rw [← hAe]; exact Or.inr h
  have hS : va_S A s.heap s.heap [] := va_S.rf
  have hl := lv_entry ([.int p0]) (n := 1) (Nat.le_of_ble_eq_true rfl)
  rw [lg_entry_eq]
  generalize (lg_sl ([.int p0]) ++ List.replicate (1 - (lg_sl ([.int p0])).length) Slot.unset).toArray = ls at hl ⊢
  have hl : lv_has ls 1 [(0, .int p0)] := hl
  refine lv_iload_n hx hb dX16_isName_0 rfl (lv_at hl 0 rfl) ?_
  refine lv_if_lt (tgt := 14) hx hb dX16_isName_1 (by decide) (fun c9 => absurd c9 hvn) (fun c9 => ?_)
  refine lv_iload_n hx hb dX16_isName_4 rfl (lv_at hl 0 rfl) ?_
  refine lv_bipush (v := 10) hx hb dX16_isName_5 (by decide) ?_
  refine lv_icmp_ge (tgt := 14) hx hb dX16_isName_7 (by decide) (fun c9 => ?_) (fun c9 => absurd hvc c9)
  refine lv_iconst (v := 0) hx hb dX16_isName_14 (by decide) ?_
  refine W.widen (k := 0) (n := 0) (Nat.le_of_ble_eq_true rfl) (Nat.le_of_ble_eq_true rfl) ?_
  exact W.zret (v := 0) (ty := .boolean) hx hb hr rfl (fun t ht hW => ⟨⟨0, (), rfl, rfl, trivial⟩, hS.F ht⟩) hS.2.2 dX16_isName_15

set_option maxRecDepth 20000 in
def z_isN_ok : List Cond := .code yX16_isName cX16_isName 1 (some .boolean) :: (([] : List Cond))
set_option maxHeartbeats 4000000 in
set_option maxRecDepth 100000 in
theorem c_isN_ok (l : Launch) (dC : Nat → ClassId) (dI : Nat → Nat → Nat) (tp te : Nat) (sz : Nat) (p0 : Int32) (hvn : ¬ p0 < 0) (hvb : p0 < 10) (hvc : ¬ 10 ≤ p0) : Met l yX16_isName z_isN_ok ({ frames := 0, cells := 0, slots := 0, locals := 0 }) (va_Pc [.int p0] (Pw dC dI [] [] sz tp te)) (va_Qi (fun (r : Int32) (_ : Unit) => r = 1) (fun (_ : Unit) (_ : State) => True) (va_A [] sz)) 0 0 (va_A [] sz) := by
  refine Met.ofW (cc := cX16_isName) (maxL := 1) (ret := (some .boolean)) (by decide) rfl ?_
  intro p e s m args below meth c s₁ B hml hv
  obtain ⟨rfl, hsz, hP, hK, hD0, hG⟩ := hv
  have hx := B.exec
  have hb := B.bytes
  have hr := B.returns
  have hts := atoms_spec (ws := z_isN_ok) B.pre
  have hown : s.vm.findClass RX16 = some m.cls := findClass_of_methodNamed B.named
  have hlocks := B.notSynchronized
  subst hsz
  have hD := hD0.self (sz := s.heap.size)
  generalize hAe : va_A [] s.heap.size = A at hD hG ⊢
  have hA : ∀ q : Nat, s.heap.size ≤ q → A q := fun q h => by rw [← hAe]; exact Or.inr h
  have hS : va_S A s.heap s.heap [] := va_S.rf
  have hl := lv_entry ([.int p0]) (n := 1) (Nat.le_of_ble_eq_true rfl)
  rw [lg_entry_eq]
  generalize (lg_sl ([.int p0]) ++ List.replicate (1 - (lg_sl ([.int p0])).length) Slot.unset).toArray = ls at hl ⊢
  have hl : lv_has ls 1 [(0, .int p0)] := hl
  refine lv_iload_n hx hb dX16_isName_0 rfl (lv_at hl 0 rfl) ?_
  refine lv_if_lt (tgt := 14) hx hb dX16_isName_1 (by decide) (fun c9 => absurd c9 hvn) (fun c9 => ?_)
  refine lv_iload_n hx hb dX16_isName_4 rfl (lv_at hl 0 rfl) ?_
  refine lv_bipush (v := 10) hx hb dX16_isName_5 (by decide) ?_
  refine lv_icmp_ge (tgt := 14) hx hb dX16_isName_7 (by decide) (fun c9 => absurd c9 hvc) (fun c9 => ?_)
  refine lv_iconst (v := 1) hx hb dX16_isName_10 (by decide) ?_
  refine lv_goto (tgt := 15) hx hb dX16_isName_11 (by decide) ?_
  refine W.widen (k := 0) (n := 0) (Nat.le_of_ble_eq_true rfl) (Nat.le_of_ble_eq_true rfl) ?_
  exact W.zret (v := 1) (ty := .boolean) hx hb hr rfl (fun t ht hW => ⟨⟨1, (), rfl, rfl, trivial⟩, hS.F ht⟩) hS.2.2 dX16_isName_15

set_option maxRecDepth 20000 in
def z_isR : List Cond := .code yX16_isRight cX16_isRight 1 (some .boolean) :: (([.fieldLink RX16 89 "SelfkindleModel" "told" "LSelfkindleModel$Term;"] : List Cond) ++ wsX160)
theorem in_z_isR_X16 : ∀ w ∈ wsX160, w ∈ z_isR := fun w h => List.mem_cons_of_mem _ (List.mem_append_right _ (h))
set_option maxHeartbeats 4000000 in
set_option maxRecDepth 100000 in
theorem c_isR (l : Launch) (dC : Nat → ClassId) (dI : Nat → Nat → Nat) (tp te : Nat) (sz : Nat) (h0 : Nat) (lp : Nat) (m1 : Nat) (m2 : Nat) (m3 : Nat) (m4 : Nat) (m5 : Nat) (m6 : Nat) (m7 : Nat) (m8 : Nat)  : Met l yX16_isRight z_isR ({ frames := 0, cells := 0, slots := 0, locals := 0 }) (va_Pc [.ref h0] (Pw dC dI [(h0, .inr (17, [.ref lp, .null, .null, .int 0, .int 0, .ref m1, .ref m2, .ref m3, .ref m4, .ref m5, .null, .null, .int 0, .ref m6, .int 0, .int 0, .int 0, .long 0, .null, .ref m7, .ref m8, .int 0, .int 0, .long 0]))] [] sz tp te)) (va_Qi (fun (r : Int32) (_ : Unit) => r = 0) (fun (_ : Unit) (t : State) => Bw dC dI [(h0, .inr (17, [.ref lp, .null, .null, .int 0, .int 0, .ref m1, .ref m2, .ref m3, .ref m4, .ref m5, .null, .null, .int 0, .ref m6, .int 0, .int 0, .int 0, .long 0, .null, .ref m7, .ref m8, .int 0, .int 0, .long 0]))] [] (va_A [(h0, .inr (17, [.ref lp, .null, .null, .int 0, .int 0, .ref m1, .ref m2, .ref m3, .ref m4, .ref m5, .null, .null, .int 0, .ref m6, .int 0, .int 0, .int 0, .long 0, .null, .ref m7, .ref m8, .int 0, .int 0, .long 0]))] sz) t) (va_A [(h0, .inr (17, [.ref lp, .null, .null, .int 0, .int 0, .ref m1, .ref m2, .ref m3, .ref m4, .ref m5, .null, .null, .int 0, .ref m6, .int 0, .int 0, .int 0, .long 0, .null, .ref m7, .ref m8, .int 0, .int 0, .long 0]))] sz)) 0 0 (va_A [(h0, .inr (17, [.ref lp, .null, .null, .int 0, .int 0, .ref m1, .ref m2, .ref m3, .ref m4, .ref m5, .null, .null, .int 0, .ref m6, .int 0, .int 0, .int 0, .long 0, .null, .ref m7, .ref m8, .int 0, .int 0, .long 0]))] sz) := by
  refine Met.ofW (cc := cX16_isRight) (maxL := 1) (ret := (some .boolean)) (by decide) rfl ?_
  intro p e s m args below meth c s₁ B hml hv
  obtain ⟨rfl, hsz, hP, hK, hD0, hG⟩ := hv
  have hx := B.exec
  have hb := B.bytes
  have hr := B.returns
  have hts := atoms_spec (ws := z_isR) B.pre
  have hown : s.vm.findClass RX16 = some m.cls := findClass_of_methodNamed B.named
  have hlocks := B.notSynchronized
  subst hsz
  have hD := hD0.self (sz := s.heap.size)
  generalize hAe : va_A [(h0, .inr (17, [.ref lp, .null, .null, .int 0, .int 0, .ref m1, .ref m2, .ref m3, .ref m4, .ref m5, .null, .null, .int 0, .ref m6, .int 0, .int 0, .int 0, .long 0, .null, .ref m7, .ref m8, .int 0, .int 0, .long 0]))] s.heap.size = A at hD hG ⊢
  have hA : ∀ q : Nat, s.heap.size ≤ q → A q := fun q h => by rw [← hAe]; exact Or.inr h
  have hS : va_S A s.heap s.heap [] := va_S.rf
  have hl := lv_entry ([.ref h0]) (n := 1) (Nat.le_of_ble_eq_true rfl)
  rw [lg_entry_eq]
  generalize (lg_sl ([.ref h0]) ++ List.replicate (1 - (lg_sl ([.ref h0])).length) Slot.unset).toArray = ls at hl ⊢
  have hl : lv_has ls 1 [(0, .ref h0)] := hl
  refine lv_aload_n hx hb dX16_isRight_0 rfl (lv_at hl 0 rfl) ?_
  refine va_get (D := (dC, dI)) (ci := 17) (v := .null) (C := RX16) (T := TX16) (N := 24) hx hb hts in_z_isR_X16 hown hK hP 0 rfl rfl 1 (by decide) (hts (.fieldLink RX16 89 "SelfkindleModel" "told" "LSelfkindleModel$Term;") (List.mem_of_getElem? (i := 1) rfl)) (fun _ h9 => h9) rfl dX16_isRight_1 ?_
  refine lv_ifnullN (tgt := 18) hx hb dX16_isRight_4 (by decide) ?_
  refine lv_iconst (v := 0) hx hb dX16_isRight_18 (by decide) ?_
  refine W.widen (k := 0) (n := 0) (Nat.le_of_ble_eq_true rfl) (Nat.le_of_ble_eq_true rfl) ?_
  exact W.zret (v := 0) (ty := .boolean) hx hb hr rfl (fun t ht hW => ⟨⟨0, (), rfl, rfl, ⟨by rw [ht]; exact hP, va_K.moved hW.alike hK, hD⟩⟩, hS.F ht⟩) hS.2.2 dX16_isRight_19

set_option maxRecDepth 20000 in
def z_isO : List Cond := .code yX16_isOrder cX16_isOrder 2 (some .boolean) :: (([.methodLink RX16 229 yX16_isRight, .instanceMethod yX16_isRight, .selects RX16 yX16_isRight yX16_isRight, .initialized RX16, .code yX16_isRight cX16_isRight 1 (some .boolean), .fieldLink RX16 89 "SelfkindleModel" "told" "LSelfkindleModel$Term;"] : List Cond) ++ wsX160)
theorem in_z_isO_X16 : ∀ w ∈ wsX160, w ∈ z_isO := fun w h => List.mem_cons_of_mem _ (List.mem_append_right _ (h))
set_option maxRecDepth 20000 in
theorem g_isO_1 : GoodIn z_isO (wsV RX16 229 RX16 yX16_isRight z_isR) := goodIn_p _ [5] rfl (by decide +kernel)
set_option maxHeartbeats 4000000 in
set_option maxRecDepth 100000 in
theorem c_isO (l : Launch) (dC : Nat → ClassId) (dI : Nat → Nat → Nat) (tp te : Nat) (sz : Nat) (h0 : Nat) (lp : Nat) (m1 : Nat) (m2 : Nat) (m3 : Nat) (m4 : Nat) (m5 : Nat) (m6 : Nat) (m7 : Nat) (m8 : Nat) (p0 : Int32)  : Met l yX16_isOrder z_isO ({ frames := 1, cells := 0, slots := 0, locals := 20 }) (va_Pc [.ref h0, .int p0] (Pw dC dI [(h0, .inr (17, [.ref lp, .null, .null, .int 0, .int 0, .ref m1, .ref m2, .ref m3, .ref m4, .ref m5, .null, .null, .int 0, .ref m6, .int 0, .int 0, .int 0, .long 0, .null, .ref m7, .ref m8, .int 0, .int 0, .long 0]))] [] sz tp te)) (va_Qi (fun (r : Int32) (_ : Unit) => r = 0) (fun (_ : Unit) (t : State) => Bw dC dI [(h0, .inr (17, [.ref lp, .null, .null, .int 0, .int 0, .ref m1, .ref m2, .ref m3, .ref m4, .ref m5, .null, .null, .int 0, .ref m6, .int 0, .int 0, .int 0, .long 0, .null, .ref m7, .ref m8, .int 0, .int 0, .long 0]))] [] (va_A [(h0, .inr (17, [.ref lp, .null, .null, .int 0, .int 0, .ref m1, .ref m2, .ref m3, .ref m4, .ref m5, .null, .null, .int 0, .ref m6, .int 0, .int 0, .int 0, .long 0, .null, .ref m7, .ref m8, .int 0, .int 0, .long 0]))] sz) t) (va_A [(h0, .inr (17, [.ref lp, .null, .null, .int 0, .int 0, .ref m1, .ref m2, .ref m3, .ref m4, .ref m5, .null, .null, .int 0, .ref m6, .int 0, .int 0, .int 0, .long 0, .null, .ref m7, .ref m8, .int 0, .int 0, .long 0]))] sz)) 0 0 (va_A [(h0, .inr (17, [.ref lp, .null, .null, .int 0, .int 0, .ref m1, .ref m2, .ref m3, .ref m4, .ref m5, .null, .null, .int 0, .ref m6, .int 0, .int 0, .int 0, .long 0, .null, .ref m7, .ref m8, .int 0, .int 0, .long 0]))] sz) := by
  refine Met.ofW (cc := cX16_isOrder) (maxL := 2) (ret := (some .boolean)) (by decide) rfl ?_
  intro p e s m args below meth c s₁ B hml hv
  obtain ⟨rfl, hsz, hP, hK, hD0, hG⟩ := hv
  have hx := B.exec
  have hb := B.bytes
  have hr := B.returns
  have hts := atoms_spec (ws := z_isO) B.pre
  have hown : s.vm.findClass RX16 = some m.cls := findClass_of_methodNamed B.named
  have hlocks := B.notSynchronized
  subst hsz
  have hD := hD0.self (sz := s.heap.size)
  generalize hAe : va_A [(h0, .inr (17, [.ref lp, .null, .null, .int 0, .int 0, .ref m1, .ref m2, .ref m3, .ref m4, .ref m5, .null, .null, .int 0, .ref m6, .int 0, .int 0, .int 0, .long 0, .null, .ref m7, .ref m8, .int 0, .int 0, .long 0]))] s.heap.size = A at hD hG ⊢
  have hA : ∀ q : Nat, s.heap.size ≤ q → A q := fun q h => by rw [← hAe]; exact Or.inr h
  have hS : va_S A s.heap s.heap [] := va_S.rf
  have hl := lv_entry ([.ref h0, .int p0]) (n := 2) (Nat.le_of_ble_eq_true rfl)
  rw [lg_entry_eq]
  generalize (lg_sl ([.ref h0, .int p0]) ++ List.replicate (2 - (lg_sl ([.ref h0, .int p0])).length) Slot.unset).toArray = ls at hl ⊢
  have hl : lv_has ls 2 [(0, .ref h0), (1, .int p0)] := hl
  refine lv_aload_n hx hb dX16_isOrder_0 rfl (lv_at hl 0 rfl) ?_
  have hPc := hP.sub (ws' := [(h0, .inr (17, [.ref lp, .null, .null, .int 0, .int 0, .ref m1, .ref m2, .ref m3, .ref m4, .ref m5, .null, .null, .int 0, .ref m6, .int 0, .int 0, .int 0, .long 0, .null, .ref m7, .ref m8, .int 0, .int 0, .long 0]))]) [0] rfl
  have hDc := hD.sub (ws' := [(h0, .inr (17, [.ref lp, .null, .null, .int 0, .int 0, .ref m1, .ref m2, .ref m3, .ref m4, .ref m5, .null, .null, .int 0, .ref m6, .int 0, .int 0, .int 0, .long 0, .null, .ref m7, .ref m8, .int 0, .int 0, .long 0]))]) [0] (by decide) rfl
  have hKc := hK.sub (tys' := []) [] rfl
  have hFc := va_free (wc := [(h0, .inr (17, [.ref lp, .null, .null, .int 0, .int 0, .ref m1, .ref m2, .ref m3, .ref m4, .ref m5, .null, .null, .int 0, .ref m6, .int 0, .int 0, .int 0, .long 0, .null, .ref m7, .ref m8, .int 0, .int 0, .long 0]))]) hD hS hA [0] rfl
  refine va_calli (va_runV (As := []) (rest := []) ⟨hx, hb, hml, hown, hts⟩ (c_isR l dC dI tp te s.heap.size h0 lp m1 m2 m3 m4 m5 m6 m7 m8) (cwV 0 hts g_isO_1 rfl rfl rfl (by decide +kernel) ⟨Nat.le_of_ble_eq_true rfl, Nat.le_of_ble_eq_true rfl⟩) ⟨Pw.blind, va_recv hKc hPc (ci := 17) (q0 := 0) rfl rfl, Pw.mk hPc hKc hDc hG hS hFc⟩ rfl rfl hl.1 rfl (lv_room (Nat.le_of_ble_eq_true rfl)) dX16_isOrder_1 ⟨Nat.le_of_ble_eq_true rfl, Nat.le_of_ble_eq_true rfl⟩) hS (fun q _ h => hFc q h) hFc (fun r u t9 H_1 locs ht hvm hw hB hz1 hk1 hS => ?_)
  have hw : r = 0 := hw
  subst hw
  obtain ⟨hP1, hK1, hD1⟩ := hB
  rw [ht] at hP1
  have hK1 := va_K.moved hvm.symm hK1
  obtain ⟨hP, hD⟩ := va_join (wr := []) (w1 := [(h0, .inr (17, [.ref lp, .null, .null, .int 0, .int 0, .ref m1, .ref m2, .ref m3, .ref m4, .ref m5, .null, .null, .int 0, .ref m6, .int 0, .int 0, .int 0, .long 0, .null, .ref m7, .ref m8, .int 0, .int 0, .long 0]))]) hP hD [0] [] rfl rfl (by decide) (by decide) hk1 hFc hP1 hD1
  have hK := (hK.sub (tys' := []) [] rfl).app hK1
  have hP : va_P (dC, dI) vwCl [(h0, .inr (17, [.ref lp, .null, .null, .int 0, .int 0, .ref m1, .ref m2, .ref m3, .ref m4, .ref m5, .null, .null, .int 0, .ref m6, .int 0, .int 0, .int 0, .long 0, .null, .ref m7, .ref m8, .int 0, .int 0, .long 0]))] H_1 := hP
  have hD : va_D A [(h0, .inr (17, [.ref lp, .null, .null, .int 0, .int 0, .ref m1, .ref m2, .ref m3, .ref m4, .ref m5, .null, .null, .int 0, .ref m6, .int 0, .int 0, .int 0, .long 0, .null, .ref m7, .ref m8, .int 0, .int 0, .long 0]))] := hD
  have hK : va_K (dC, dI) vwCl [] s := hK
  refine W.widen (k := 0) (n := 0) (Nat.le_of_ble_eq_true rfl) (Nat.le_of_ble_eq_true rfl) ?_
  refine lv_if_eq (tgt := 26) hx hb dX16_isOrder_4 (by decide) (fun c9 => ?_) (fun c9 => absurd (by decide) c9)
  refine lv_iconst (v := 0) hx hb dX16_isOrder_26 (by decide) ?_
  refine W.widen (k := 0) (n := 0) (Nat.le_of_ble_eq_true rfl) (Nat.le_of_ble_eq_true rfl) ?_
  exact W.zret (v := 0) (ty := .boolean) hx hb hr rfl (fun t ht hW => ⟨⟨0, (), rfl, rfl, ⟨by rw [ht]; exact hP, va_K.moved hW.alike hK, hD⟩⟩, hS.F ht⟩) hS.2.2 dX16_isOrder_27

set_option maxRecDepth 20000 in
def z_M_number : List Cond := .code yX16_number cX16_number 3 (some .int) :: (([.fieldLink RX16 10 "SelfkindleModel" "pile" "Ljava/util/ArrayList;", .methodLink RX16 44 yJx4a65c_size_8abf5, .instanceMethod yJx4a65c_size_8abf5, .selects RJx4a65c yJx4a65c_size_8abf5 yJx4a65c_size_8abf5, .initialized RJx4a65c, .code yJx4a65c_size_8abf5 cJx4a65c_size_8abf5 1 (some .int), .fieldLink RJx4a65c 48 "java/util/ArrayList" "size" "I", .fieldLink RX16 40 "SelfkindleModel" "thrown" "I", .classLink RX16 52 RX12, .instantiable RX12 5, .initialized RX12, .methodLink RX16 67 yX12_init, .instanceMethod yX12_init, .code yX12_init cX12_init 8 none, .methodLink RX12 3 objectInit, .instanceMethod objectInit, .code objectInit ⟨#[0xb1]⟩ 1 none, .fieldLink RX12 9 "SelfkindleModel$Term" "kind" "I", .fieldLink RX12 15 "SelfkindleModel$Term" "number" "J", .fieldLink RX12 19 "SelfkindleModel$Term" "x" "I", .fieldLink RX12 22 "SelfkindleModel$Term" "parts" "[LSelfkindleModel$Term;", .fieldLink RX12 26 "SelfkindleModel$Term" "size" "I", .methodLink RX16 70 yX16_put, .instanceMethod yX16_put, .selects RX16 yX16_put yX16_put, .initialized RX16, .code yX16_put cX16_put 2 (some .int), .methodLink RX16 60 yJx4a65c_add_9ea2d, .instanceMethod yJx4a65c_add_9ea2d, .selects RJx4a65c yJx4a65c_add_9ea2d yJx4a65c_add_9ea2d, .code yJx4a65c_add_9ea2d cJx4a65c_add_9ea2d 2 (some .boolean), .fieldLink RJx4a65c 63 "java/util/ArrayList" "modCount" "I", .sameField "java/util/ArrayList" "java/util/AbstractList" "modCount" "I", .fieldLink RJx4a65c 9 "java/util/ArrayList" "elementData" "[Ljava/lang/Object;", .methodLink RJx4a65c 131 yJx4a65c_add_72be8, .instanceMethod yJx4a65c_add_72be8, .selects RJx4a65c yJx4a65c_add_72be8 yJx4a65c_add_72be8, .code yJx4a65c_add_72be8 cJx4a65c_add_72be8 4 none, .methodLink RJx4a65c 129 yJx4a65c_grow_d5877, .instanceMethod yJx4a65c_grow_d5877, .selects RJx4a65c yJx4a65c_grow_d5877 yJx4a65c_grow_d5877, .code yJx4a65c_grow_d5877 cJx4a65c_grow_d5877 1 (some (.array (.object "java/lang/Object"))), .methodLink RJx4a65c 69 yJx4a65c_grow_92f84, .instanceMethod yJx4a65c_grow_92f84, .selects RJx4a65c yJx4a65c_grow_92f84 yJx4a65c_grow_92f84, .code yJx4a65c_grow_92f84 cJx4a65c_grow_92f84 4 (some (.array (.object "java/lang/Object"))), .fieldLink RJx4a65c 39 "java/util/ArrayList" "DEFAULTCAPACITY_EMPTY_ELEMENTDATA" "[Ljava/lang/Object;", .methodLink RJx4a65c 79 Lib.Math.max.name, .static Lib.Math.max.name, .initialized "java/lang/Math", .code Lib.Math.max.name Lib.Math.max.code 2 (some .int), .classLink RJx4a65c 7 "java/lang/Object"] : List Cond) ++ wsX160 ++ wsJx4a65c0 ++ wsX120)
theorem in_z_M_number_X16 : ∀ w ∈ wsX160, w ∈ z_M_number := fun w h => List.mem_cons_of_mem _ (List.mem_append_left _ (List.mem_append_left _ (List.mem_append_right _ (h))))
theorem in_z_M_number_Jx4a65c : ∀ w ∈ wsJx4a65c0, w ∈ z_M_number := fun w h => List.mem_cons_of_mem _ (List.mem_append_left _ (List.mem_append_right _ (h)))
theorem in_z_M_number_X12 : ∀ w ∈ wsX120, w ∈ z_M_number := fun w h => List.mem_cons_of_mem _ (List.mem_append_right _ (h))
set_option maxRecDepth 20000 in
theorem g_M_number_5 : GoodIn z_M_number (wsV RX16 44 RJx4a65c yJx4a65c_size_8abf5 z_ASz) := goodIn_p _ [6] rfl (by decide +kernel)
set_option maxRecDepth 20000 in
theorem g_M_number_44 : GoodIn z_M_number (z_MTi) := goodIn_p _ [14, 17] rfl (by decide +kernel)
set_option maxRecDepth 20000 in
theorem g_M_number_47 : GoodIn z_M_number (wsV RX16 70 RX16 yX16_put z_put) := goodIn_p _ [27, 31, 38, 42, 46, 51, 6] rfl (by decide +kernel)
set_option maxHeartbeats 4000000 in
set_option maxRecDepth 100000 in
theorem c_M_number (l : Launch) (dC : Nat → ClassId) (dI : Nat → Nat → Nat) (tp te : Nat) (sz : Nat) (h0 : Nat) (lp : Nat) (m1 : Nat) (m2 : Nat) (m3 : Nat) (m4 : Nat) (m5 : Nat) (m6 : Nat) (m7 : Nat) (m8 : Nat) (p2 : Int64)  : Met l yX16_number z_M_number ({ frames := 6, cells := 3, slots := 15, locals := 122 }) (va_Pc [.ref h0, .long p2] (Pw dC dI [(h0, .inr (17, [.ref lp, .null, .null, .int 0, .int 0, .ref m1, .ref m2, .ref m3, .ref m4, .ref m5, .null, .null, .int 0, .ref m6, .int 0, .int 0, .int 0, .long 0, .null, .ref m7, .ref m8, .int 0, .int 0, .long 0])), (lp, .inr (0, [.int 0, .ref te, .int 0]))] [] sz tp te)) (va_Qi (fun (r : Int32) (_ : Unit) => r = 1) (fun (_ : Unit) (t : State) => Bw dC dI [(h0, .inr (17, [.ref lp, .null, .null, .int 0, .int 0, .ref m1, .ref m2, .ref m3, .ref m4, .ref m5, .null, .null, .int 0, .ref m6, .int 0, .int 0, .int 0, .long 0, .null, .ref m7, .ref m8, .int 0, .int 0, .long 0]))] [] (va_A [(h0, .inr (17, [.ref lp, .null, .null, .int 0, .int 0, .ref m1, .ref m2, .ref m3, .ref m4, .ref m5, .null, .null, .int 0, .ref m6, .int 0, .int 0, .int 0, .long 0, .null, .ref m7, .ref m8, .int 0, .int 0, .long 0])), (lp, .inr (0, [.int 0, .ref te, .int 0]))] sz) t) (va_A [(h0, .inr (17, [.ref lp, .null, .null, .int 0, .int 0, .ref m1, .ref m2, .ref m3, .ref m4, .ref m5, .null, .null, .int 0, .ref m6, .int 0, .int 0, .int 0, .long 0, .null, .ref m7, .ref m8, .int 0, .int 0, .long 0])), (lp, .inr (0, [.int 0, .ref te, .int 0]))] sz)) 3 15 (va_A [(h0, .inr (17, [.ref lp, .null, .null, .int 0, .int 0, .ref m1, .ref m2, .ref m3, .ref m4, .ref m5, .null, .null, .int 0, .ref m6, .int 0, .int 0, .int 0, .long 0, .null, .ref m7, .ref m8, .int 0, .int 0, .long 0])), (lp, .inr (0, [.int 0, .ref te, .int 0]))] sz) := by
  refine Met.ofW (cc := cX16_number) (maxL := 3) (ret := (some .int)) (by decide) rfl ?_
  intro p e s m args below meth c s₁ B hml hv
  obtain ⟨rfl, hsz, hP, hK, hD0, hG⟩ := hv
  have hx := B.exec
  have hb := B.bytes
  have hr := B.returns
  have hts := atoms_spec (ws := z_M_number) B.pre
  have hown : s.vm.findClass RX16 = some m.cls := findClass_of_methodNamed B.named
  have hlocks := B.notSynchronized
  subst hsz
  have hD := hD0.self (sz := s.heap.size)
  generalize hAe : va_A [(h0, .inr (17, [.ref lp, .null, .null, .int 0, .int 0, .ref m1, .ref m2, .ref m3, .ref m4, .ref m5, .null, .null, .int 0, .ref m6, .int 0, .int 0, .int 0, .long 0, .null, .ref m7, .ref m8, .int 0, .int 0, .long 0])), (lp, .inr (0, [.int 0, .ref te, .int 0]))] s.heap.size = A at hD hG ⊢
  have hA : ∀ q : Nat, s.heap.size ≤ q → A q := fun q h => by rw [← hAe]; exact Or.inr h
  have hS : va_S A s.heap s.heap [] := va_S.rf
  have hl := lv_entry ([.ref h0, .long p2]) (n := 3) (Nat.le_of_ble_eq_true rfl)
  rw [lg_entry_eq]
  generalize (lg_sl ([.ref h0, .long p2]) ++ List.replicate (3 - (lg_sl ([.ref h0, .long p2])).length) Slot.unset).toArray = ls at hl ⊢
  have hl : lv_has ls 3 [(0, .ref h0), (1, .long p2)] := hl
  refine lv_aload_n hx hb dX16_number_0 rfl (lv_at hl 0 rfl) ?_
  refine lv_aload_n hx hb dX16_number_1 rfl (lv_at hl 0 rfl) ?_
  refine va_get (D := (dC, dI)) (ci := 17) (v := .ref lp) (C := RX16) (T := TX16) (N := 24) hx hb hts in_z_M_number_X16 hown hK hP 0 rfl rfl 0 (by decide) (hts (.fieldLink RX16 10 "SelfkindleModel" "pile" "Ljava/util/ArrayList;") (List.mem_of_getElem? (i := 1) rfl)) (fun _ h9 => h9) rfl dX16_number_2 ?_
  have hPc := hP.sub (ws' := [(lp, .inr (0, [.int 0, .ref te, .int 0]))]) [1] rfl
  have hDc := hD.sub (ws' := [(lp, .inr (0, [.int 0, .ref te, .int 0]))]) [1] (by decide) rfl
  have hKc := hK.sub (tys' := []) [] rfl
  have hFc := va_free (wc := [(lp, .inr (0, [.int 0, .ref te, .int 0]))]) hD hS hA [1] rfl
  refine va_calli (va_runV (As := []) (rest := [.ref h0]) ⟨hx, hb, hml, hown, hts⟩ (c_ASz l dC dI tp te s.heap.size lp te 0 0) (cwV 0 hts g_M_number_5 rfl rfl rfl (by decide +kernel) ⟨Nat.le_of_ble_eq_true rfl, Nat.le_of_ble_eq_true rfl⟩) ⟨Pw.blind, va_recv hKc hPc (ci := 0) (q0 := 0) rfl rfl, Pw.mk hPc hKc hDc hG hS hFc⟩ rfl rfl hl.1 rfl (lv_room (Nat.le_of_ble_eq_true rfl)) dX16_number_5 ⟨Nat.le_of_ble_eq_true rfl, Nat.le_of_ble_eq_true rfl⟩) hS (fun q _ h => hFc q h) hFc (fun r u t9 H_1 locs ht hvm hw hB hz1 hk1 hS => ?_)
  have hw : r = 0 := hw
  subst hw
  obtain ⟨hP1, hK1, hD1⟩ := hB
  rw [ht] at hP1
  have hK1 := va_K.moved hvm.symm hK1
  obtain ⟨hP, hD⟩ := va_join (wr := [(h0, .inr (17, [.ref lp, .null, .null, .int 0, .int 0, .ref m1, .ref m2, .ref m3, .ref m4, .ref m5, .null, .null, .int 0, .ref m6, .int 0, .int 0, .int 0, .long 0, .null, .ref m7, .ref m8, .int 0, .int 0, .long 0]))]) (w1 := [(lp, .inr (0, [.int 0, .ref te, .int 0]))]) hP hD [1] [0] rfl rfl (by decide) (by decide) hk1 hFc hP1 hD1
  have hK := (hK.sub (tys' := []) [] rfl).app hK1
  have hP : va_P (dC, dI) vwCl [(h0, .inr (17, [.ref lp, .null, .null, .int 0, .int 0, .ref m1, .ref m2, .ref m3, .ref m4, .ref m5, .null, .null, .int 0, .ref m6, .int 0, .int 0, .int 0, .long 0, .null, .ref m7, .ref m8, .int 0, .int 0, .long 0])), (lp, .inr (0, [.int 0, .ref te, .int 0]))] H_1 := hP
  have hD : va_D A [(h0, .inr (17, [.ref lp, .null, .null, .int 0, .int 0, .ref m1, .ref m2, .ref m3, .ref m4, .ref m5, .null, .null, .int 0, .ref m6, .int 0, .int 0, .int 0, .long 0, .null, .ref m7, .ref m8, .int 0, .int 0, .long 0])), (lp, .inr (0, [.int 0, .ref te, .int 0]))] := hD
  have hK : va_K (dC, dI) vwCl [] s := hK
  refine W.widen (k := 0) (n := 0) (Nat.le_of_ble_eq_true rfl) (Nat.le_of_ble_eq_true rfl) ?_
  refine lv_bipush (v := 20) hx hb dX16_number_8 (by decide) ?_
  refine lv_icmp_ne (tgt := 17) hx hb dX16_number_10 (by decide) (fun c9 => ?_) (fun c9 => absurd c9 (by decide))
  refine lv_iconst (v := 0) hx hb dX16_number_17 (by decide) ?_
  refine va_put (D := (dC, dI)) (ci := 17) (v := .int 0) (ty := .int) (C := RX16) (T := TX16) (N := 24) hx hb hts in_z_M_number_X16 tyX16 tyX16_ok nmX16 hown hK hP hD hS 0 rfl rfl 4 (by decide) (hts (.fieldLink RX16 40 "SelfkindleModel" "thrown" "I") (List.mem_of_getElem? (i := 8) rfl)) (fun _ h9 => h9) rfl (by decide +kernel) rfl rfl (Nat.le_of_ble_eq_true rfl) dX16_number_18 (fun H_3 locs hP hD hS => ?_)
  have hP : va_P (dC, dI) vwCl [(h0, .inr (17, [.ref lp, .null, .null, .int 0, .int 0, .ref m1, .ref m2, .ref m3, .ref m4, .ref m5, .null, .null, .int 0, .ref m6, .int 0, .int 0, .int 0, .long 0, .null, .ref m7, .ref m8, .int 0, .int 0, .long 0])), (lp, .inr (0, [.int 0, .ref te, .int 0]))] H_3 := hP
  have hD : va_D A [(h0, .inr (17, [.ref lp, .null, .null, .int 0, .int 0, .ref m1, .ref m2, .ref m3, .ref m4, .ref m5, .null, .null, .int 0, .ref m6, .int 0, .int 0, .int 0, .long 0, .null, .ref m7, .ref m8, .int 0, .int 0, .long 0])), (lp, .inr (0, [.int 0, .ref te, .int 0]))] := hD
  have hK : va_K (dC, dI) vwCl [] s := hK
  refine lv_aload_n hx hb dX16_number_21 rfl (lv_at hl 0 rfl) ?_
  refine va_get (D := (dC, dI)) (ci := 17) (v := .int 0) (C := RX16) (T := TX16) (N := 24) hx hb hts in_z_M_number_X16 hown hK hP 0 rfl rfl 4 (by decide) (hts (.fieldLink RX16 40 "SelfkindleModel" "thrown" "I") (List.mem_of_getElem? (i := 8) rfl)) (fun _ h9 => h9) rfl dX16_number_22 ?_
  refine lv_if_le (tgt := 32) hx hb dX16_number_25 (by decide) (fun c9 => ?_) (fun c9 => absurd (by decide) c9)
  refine lv_aload_n hx hb dX16_number_32 rfl (lv_at hl 0 rfl) ?_
  refine va_new (D := (dC, dI)) (cl := vwCl) (ci := 13) (fs := [.int 0, .long 0, .int 0, .null, .int 0]) (C := RX12) (T := TX12) (N := 5) hx hb hts in_z_M_number_X12 tyX12 tyX12_ok hown (hts (.classLink RX16 52 RX12) (List.mem_of_getElem? (i := 9) rfl)) (hts (.instantiable RX12 5) (List.mem_of_getElem? (i := 10) rfl)) (hts (.initialized RX12) (List.mem_of_getElem? (i := 11) rfl)) hK hP hD hS hA rfl dflt_X12 (Nat.le_of_ble_eq_true rfl) (Nat.le_of_ble_eq_true rfl) dX16_number_33 (fun q_4 H_5 hP hD hS => ?_)
  have hP : va_P (dC, dI) vwCl [(h0, .inr (17, [.ref lp, .null, .null, .int 0, .int 0, .ref m1, .ref m2, .ref m3, .ref m4, .ref m5, .null, .null, .int 0, .ref m6, .int 0, .int 0, .int 0, .long 0, .null, .ref m7, .ref m8, .int 0, .int 0, .long 0])), (lp, .inr (0, [.int 0, .ref te, .int 0])), (q_4, .inr (13, [.int 0, .long 0, .int 0, .null, .int 0]))] H_5 := hP
  have hD : va_D A [(h0, .inr (17, [.ref lp, .null, .null, .int 0, .int 0, .ref m1, .ref m2, .ref m3, .ref m4, .ref m5, .null, .null, .int 0, .ref m6, .int 0, .int 0, .int 0, .long 0, .null, .ref m7, .ref m8, .int 0, .int 0, .long 0])), (lp, .inr (0, [.int 0, .ref te, .int 0])), (q_4, .inr (13, [.int 0, .long 0, .int 0, .null, .int 0]))] := hD
  have hK : va_K (dC, dI) vwCl [] s := hK
  refine W.widen (k := 1) (n := 5) (Nat.le_of_ble_eq_true rfl) (Nat.le_of_ble_eq_true rfl) ?_
  refine lv_dup hx hb dX16_number_36 rfl ?_
  refine lv_iconst (v := 0) hx hb dX16_number_37 (by decide) ?_
  refine lv_lload_n hx hb dX16_number_38 rfl (lv_at hl 1 rfl) ?_
  refine lv_iconst (v := 0) hx hb dX16_number_39 (by decide) ?_
  refine lv_iconst (v := 0) hx hb dX16_number_40 (by decide) ?_
  refine va_newq (C := "SelfkindleModel$Term") (N' := 0) hx hb hown (hts (.classLink RX16 52 RX12) (List.mem_of_getElem? (i := 9) rfl)) hG.2.2.2.2.2.2.2.2.2.2.2.2.1 hK hP hD hS hA (by decide) (by decide +kernel) (Nat.le_of_ble_eq_true rfl) (Nat.le_of_ble_eq_true rfl) (Nat.le_of_ble_eq_true rfl) dX16_number_41 (fun q_6 cA_7 H_8 hK hP hD hS => ?_)
  have hP : va_P (dC, dI) vwCl [(h0, .inr (17, [.ref lp, .null, .null, .int 0, .int 0, .ref m1, .ref m2, .ref m3, .ref m4, .ref m5, .null, .null, .int 0, .ref m6, .int 0, .int 0, .int 0, .long 0, .null, .ref m7, .ref m8, .int 0, .int 0, .long 0])), (lp, .inr (0, [.int 0, .ref te, .int 0])), (q_4, .inr (13, [.int 0, .long 0, .int 0, .null, .int 0])), (q_6, .inl (cA_7, 0, .inr (.inr (.inr (.inr (fun _ => none))))))] H_8 := hP
  have hD : va_D A [(h0, .inr (17, [.ref lp, .null, .null, .int 0, .int 0, .ref m1, .ref m2, .ref m3, .ref m4, .ref m5, .null, .null, .int 0, .ref m6, .int 0, .int 0, .int 0, .long 0, .null, .ref m7, .ref m8, .int 0, .int 0, .long 0])), (lp, .inr (0, [.int 0, .ref te, .int 0])), (q_4, .inr (13, [.int 0, .long 0, .int 0, .null, .int 0])), (q_6, .inl (cA_7, 0, .inr (.inr (.inr (.inr (fun _ => none))))))] := hD
  have hK : va_K (dC, dI) vwCl [(cA_7, .object "SelfkindleModel$Term")] s := hK
  refine W.widen (k := 2) (n := 5) (Nat.le_of_ble_eq_true rfl) (Nat.le_of_ble_eq_true rfl) ?_
  have hPc := hP.sub (ws' := [(q_4, .inr (13, [.int 0, .long 0, .int 0, .null, .int 0])), (q_6, .inl (cA_7, 0, .inr (.inr (.inr (.inr (fun _ => none))))))]) [2, 3] rfl
  have hDc := hD.sub (ws' := [(q_4, .inr (13, [.int 0, .long 0, .int 0, .null, .int 0])), (q_6, .inl (cA_7, 0, .inr (.inr (.inr (.inr (fun _ => none))))))]) [2, 3] (by decide) rfl
  have hKc := hK.sub (tys' := [(cA_7, .object "SelfkindleModel$Term")]) [0] rfl
  have hFc := va_free (wc := [(q_4, .inr (13, [.int 0, .long 0, .int 0, .null, .int 0])), (q_6, .inl (cA_7, 0, .inr (.inr (.inr (.inr (fun _ => none))))))]) hD hS hA [2, 3] rfl
  refine va_callv (va_runI (As := [.int 0, .long p2, .int 0, .ref q_6]) (rest := [.ref q_4, .ref h0]) ⟨hx, hb, hml, hown, hts⟩ (c_MTi l dC dI tp te H_8.size q_4 q_6 cA_7 0 p2 0) (cwI 4 hts g_M_number_44 rfl rfl rfl (hts (.initialized RX12) (List.mem_of_getElem? (i := 11) rfl)) (hts (.methodLink RX16 67 yX12_init) (List.mem_of_getElem? (i := 12) rfl)) (hts (.instanceMethod yX12_init) (List.mem_of_getElem? (i := 13) rfl)) rfl (by decide +kernel) ⟨Nat.le_of_ble_eq_true rfl, Nat.le_of_ble_eq_true rfl⟩) ⟨Pw.blind, Pw.mk hPc hKc hDc hG hS hFc⟩ rfl rfl hl.1 rfl (lv_room (Nat.le_of_ble_eq_true rfl)) dX16_number_44 ⟨Nat.le_of_ble_eq_true rfl, Nat.le_of_ble_eq_true rfl⟩) hS (fun q _ h => hFc q h) hFc (fun u t9 H_9 locs ht hvm hw hB hz1 hk1 hS => ?_)
  obtain ⟨hP1, hK1, hD1⟩ := hB
  rw [ht] at hP1
  have hK1 := va_K.moved hvm.symm hK1
  obtain ⟨hP, hD⟩ := va_join (wr := [(h0, .inr (17, [.ref lp, .null, .null, .int 0, .int 0, .ref m1, .ref m2, .ref m3, .ref m4, .ref m5, .null, .null, .int 0, .ref m6, .int 0, .int 0, .int 0, .long 0, .null, .ref m7, .ref m8, .int 0, .int 0, .long 0])), (lp, .inr (0, [.int 0, .ref te, .int 0]))]) (w1 := [(q_4, .inr (13, [.int 0, .long p2, .int 0, .ref q_6, .int 1]))]) hP hD [2, 3] [0, 1] rfl rfl (by decide) (by decide) hk1 hFc hP1 hD1
  have hK := (hK.sub (tys' := []) [] rfl).app hK1
  have hP : va_P (dC, dI) vwCl [(h0, .inr (17, [.ref lp, .null, .null, .int 0, .int 0, .ref m1, .ref m2, .ref m3, .ref m4, .ref m5, .null, .null, .int 0, .ref m6, .int 0, .int 0, .int 0, .long 0, .null, .ref m7, .ref m8, .int 0, .int 0, .long 0])), (lp, .inr (0, [.int 0, .ref te, .int 0])), (q_4, .inr (13, [.int 0, .long p2, .int 0, .ref q_6, .int 1]))] H_9 := hP
  have hD : va_D A [(h0, .inr (17, [.ref lp, .null, .null, .int 0, .int 0, .ref m1, .ref m2, .ref m3, .ref m4, .ref m5, .null, .null, .int 0, .ref m6, .int 0, .int 0, .int 0, .long 0, .null, .ref m7, .ref m8, .int 0, .int 0, .long 0])), (lp, .inr (0, [.int 0, .ref te, .int 0])), (q_4, .inr (13, [.int 0, .long p2, .int 0, .ref q_6, .int 1]))] := hD
  have hK : va_K (dC, dI) vwCl [] s := hK
  refine W.widen (k := 2) (n := 5) (Nat.le_of_ble_eq_true rfl) (Nat.le_of_ble_eq_true rfl) ?_
  have hPc := hP.sub (ws' := [(h0, .inr (17, [.ref lp, .null, .null, .int 0, .int 0, .ref m1, .ref m2, .ref m3, .ref m4, .ref m5, .null, .null, .int 0, .ref m6, .int 0, .int 0, .int 0, .long 0, .null, .ref m7, .ref m8, .int 0, .int 0, .long 0])), (lp, .inr (0, [.int 0, .ref te, .int 0])), (q_4, .inr (13, [.int 0, .long p2, .int 0, .ref q_6, .int 1]))]) [0, 1, 2] rfl
  have hDc := hD.sub (ws' := [(h0, .inr (17, [.ref lp, .null, .null, .int 0, .int 0, .ref m1, .ref m2, .ref m3, .ref m4, .ref m5, .null, .null, .int 0, .ref m6, .int 0, .int 0, .int 0, .long 0, .null, .ref m7, .ref m8, .int 0, .int 0, .long 0])), (lp, .inr (0, [.int 0, .ref te, .int 0])), (q_4, .inr (13, [.int 0, .long p2, .int 0, .ref q_6, .int 1]))]) [0, 1, 2] (by decide) rfl
  have hKc := hK.sub (tys' := []) [] rfl
  have hFc := va_free (wc := [(h0, .inr (17, [.ref lp, .null, .null, .int 0, .int 0, .ref m1, .ref m2, .ref m3, .ref m4, .ref m5, .null, .null, .int 0, .ref m6, .int 0, .int 0, .int 0, .long 0, .null, .ref m7, .ref m8, .int 0, .int 0, .long 0])), (lp, .inr (0, [.int 0, .ref te, .int 0])), (q_4, .inr (13, [.int 0, .long p2, .int 0, .ref q_6, .int 1]))]) hD hS hA [0, 1, 2] rfl
  refine va_calli (va_runV (As := [.ref q_4]) (rest := []) ⟨hx, hb, hml, hown, hts⟩ (c_put l dC dI tp te H_9.size h0 lp m1 m2 m3 m4 m5 m6 m7 m8 q_4 0 p2 0 q_6) (cwV 1 hts g_M_number_47 rfl rfl rfl (by decide +kernel) ⟨Nat.le_of_ble_eq_true rfl, Nat.le_of_ble_eq_true rfl⟩) ⟨Pw.blind, va_recv hKc hPc (ci := 17) (q0 := 0) rfl rfl, Pw.mk hPc hKc hDc hG hS hFc⟩ rfl rfl hl.1 rfl (lv_room (Nat.le_of_ble_eq_true rfl)) dX16_number_47 ⟨Nat.le_of_ble_eq_true rfl, Nat.le_of_ble_eq_true rfl⟩) hS (fun q _ h => hFc q h) hFc (fun r u t9 H_11 locs ht hvm hw hB hz1 hk1 hS => ?_)
  have hw : r = 1 := hw
  subst hw
  obtain ⟨hP1, hK1, hD1⟩ := hB
  rw [ht] at hP1
  have hK1 := va_K.moved hvm.symm hK1
  obtain ⟨hP, hD⟩ := va_join (wr := []) (w1 := [(h0, .inr (17, [.ref lp, .null, .null, .int 0, .int 0, .ref m1, .ref m2, .ref m3, .ref m4, .ref m5, .null, .null, .int 0, .ref m6, .int 0, .int 0, .int 0, .long 0, .null, .ref m7, .ref m8, .int 0, .int 0, .long 0]))]) hP hD [0, 1, 2] [] rfl rfl (by decide) (by decide) hk1 hFc hP1 hD1
  have hK := (hK.sub (tys' := []) [] rfl).app hK1
  have hP : va_P (dC, dI) vwCl [(h0, .inr (17, [.ref lp, .null, .null, .int 0, .int 0, .ref m1, .ref m2, .ref m3, .ref m4, .ref m5, .null, .null, .int 0, .ref m6, .int 0, .int 0, .int 0, .long 0, .null, .ref m7, .ref m8, .int 0, .int 0, .long 0]))] H_11 := hP
  have hD : va_D A [(h0, .inr (17, [.ref lp, .null, .null, .int 0, .int 0, .ref m1, .ref m2, .ref m3, .ref m4, .ref m5, .null, .null, .int 0, .ref m6, .int 0, .int 0, .int 0, .long 0, .null, .ref m7, .ref m8, .int 0, .int 0, .long 0]))] := hD
  have hK : va_K (dC, dI) vwCl [] s := hK
  refine W.widen (k := 3) (n := 15) (Nat.le_of_ble_eq_true rfl) (Nat.le_of_ble_eq_true rfl) ?_
  refine W.widen (k := 3) (n := 15) (Nat.le_of_ble_eq_true rfl) (Nat.le_of_ble_eq_true rfl) ?_
  exact W.iret (v := 1) hx hb hr (fun t ht hW => ⟨⟨1, (), rfl, rfl, ⟨by rw [ht]; exact hP, va_K.moved hW.alike hK, hD⟩⟩, hS.F ht⟩) hS.2.2 dX16_number_50

set_option maxRecDepth 20000 in
def z_M_name_ok : List Cond := .code yX16_name cX16_name 2 (some .int) :: (([.methodLink RX16 74 yX16_isName, .static yX16_isName, .initialized RX16, .code yX16_isName cX16_isName 1 (some .boolean), .fieldLink RX16 10 "SelfkindleModel" "pile" "Ljava/util/ArrayList;", .methodLink RX16 44 yJx4a65c_size_8abf5, .instanceMethod yJx4a65c_size_8abf5, .selects RJx4a65c yJx4a65c_size_8abf5 yJx4a65c_size_8abf5, .initialized RJx4a65c, .code yJx4a65c_size_8abf5 cJx4a65c_size_8abf5 1 (some .int), .fieldLink RJx4a65c 48 "java/util/ArrayList" "size" "I", .fieldLink RX16 40 "SelfkindleModel" "thrown" "I", .classLink RX16 52 RX12, .instantiable RX12 5, .initialized RX12, .methodLink RX16 67 yX12_init, .instanceMethod yX12_init, .code yX12_init cX12_init 8 none, .methodLink RX12 3 objectInit, .instanceMethod objectInit, .code objectInit ⟨#[0xb1]⟩ 1 none, .fieldLink RX12 9 "SelfkindleModel$Term" "kind" "I", .fieldLink RX12 15 "SelfkindleModel$Term" "number" "J", .fieldLink RX12 19 "SelfkindleModel$Term" "x" "I", .fieldLink RX12 22 "SelfkindleModel$Term" "parts" "[LSelfkindleModel$Term;", .fieldLink RX12 26 "SelfkindleModel$Term" "size" "I", .methodLink RX16 70 yX16_put, .instanceMethod yX16_put, .selects RX16 yX16_put yX16_put, .code yX16_put cX16_put 2 (some .int), .methodLink RX16 60 yJx4a65c_add_9ea2d, .instanceMethod yJx4a65c_add_9ea2d, .selects RJx4a65c yJx4a65c_add_9ea2d yJx4a65c_add_9ea2d, .code yJx4a65c_add_9ea2d cJx4a65c_add_9ea2d 2 (some .boolean), .fieldLink RJx4a65c 63 "java/util/ArrayList" "modCount" "I", .sameField "java/util/ArrayList" "java/util/AbstractList" "modCount" "I", .fieldLink RJx4a65c 9 "java/util/ArrayList" "elementData" "[Ljava/lang/Object;", .methodLink RJx4a65c 131 yJx4a65c_add_72be8, .instanceMethod yJx4a65c_add_72be8, .selects RJx4a65c yJx4a65c_add_72be8 yJx4a65c_add_72be8, .code yJx4a65c_add_72be8 cJx4a65c_add_72be8 4 none, .methodLink RJx4a65c 129 yJx4a65c_grow_d5877, .instanceMethod yJx4a65c_grow_d5877, .selects RJx4a65c yJx4a65c_grow_d5877 yJx4a65c_grow_d5877, .code yJx4a65c_grow_d5877 cJx4a65c_grow_d5877 1 (some (.array (.object "java/lang/Object"))), .methodLink RJx4a65c 69 yJx4a65c_grow_92f84, .instanceMethod yJx4a65c_grow_92f84, .selects RJx4a65c yJx4a65c_grow_92f84 yJx4a65c_grow_92f84, .code yJx4a65c_grow_92f84 cJx4a65c_grow_92f84 4 (some (.array (.object "java/lang/Object"))), .fieldLink RJx4a65c 39 "java/util/ArrayList" "DEFAULTCAPACITY_EMPTY_ELEMENTDATA" "[Ljava/lang/Object;", .methodLink RJx4a65c 79 Lib.Math.max.name, .static Lib.Math.max.name, .initialized "java/lang/Math", .code Lib.Math.max.name Lib.Math.max.code 2 (some .int), .classLink RJx4a65c 7 "java/lang/Object"] : List Cond) ++ wsX160 ++ wsJx4a65c0 ++ wsX120)
theorem in_z_M_name_ok_X16 : ∀ w ∈ wsX160, w ∈ z_M_name_ok := fun w h => List.mem_cons_of_mem _ (List.mem_append_left _ (List.mem_append_left _ (List.mem_append_right _ (h))))
theorem in_z_M_name_ok_Jx4a65c : ∀ w ∈ wsJx4a65c0, w ∈ z_M_name_ok := fun w h => List.mem_cons_of_mem _ (List.mem_append_left _ (List.mem_append_right _ (h)))
theorem in_z_M_name_ok_X12 : ∀ w ∈ wsX120, w ∈ z_M_name_ok := fun w h => List.mem_cons_of_mem _ (List.mem_append_right _ (h))
set_option maxRecDepth 20000 in
theorem g_M_name_ok_2 : GoodIn z_M_name_ok (va_wsS RX16 74 yX16_isName z_isN_ok) := goodIn_p _ [4] rfl (by decide +kernel)
set_option maxRecDepth 20000 in
theorem g_M_name_ok_16 : GoodIn z_M_name_ok (wsV RX16 44 RJx4a65c yJx4a65c_size_8abf5 z_ASz) := goodIn_p _ [10] rfl (by decide +kernel)
set_option maxRecDepth 20000 in
theorem g_M_name_ok_56 : GoodIn z_M_name_ok (z_MTi) := goodIn_p _ [18, 21] rfl (by decide +kernel)
set_option maxRecDepth 20000 in
theorem g_M_name_ok_59 : GoodIn z_M_name_ok (wsV RX16 70 RX16 yX16_put z_put) := goodIn_p _ [30, 34, 41, 45, 49, 54, 10] rfl (by decide +kernel)
set_option maxHeartbeats 4000000 in
set_option maxRecDepth 100000 in
theorem c_M_name_ok (l : Launch) (dC : Nat → ClassId) (dI : Nat → Nat → Nat) (tp te : Nat) (sz : Nat) (h0 : Nat) (lp : Nat) (m1 : Nat) (m2 : Nat) (m3 : Nat) (m4 : Nat) (m5 : Nat) (m6 : Nat) (m7 : Nat) (m8 : Nat) (p0 : Int32) (hvn : ¬ p0 < 0) (hvb : p0 < 10) (hvc : ¬ 10 ≤ p0) : Met l yX16_name z_M_name_ok ({ frames := 6, cells := 3, slots := 15, locals := 122 }) (va_Pc [.ref h0, .int p0] (Pw dC dI [(h0, .inr (17, [.ref lp, .null, .null, .int 0, .int 0, .ref m1, .ref m2, .ref m3, .ref m4, .ref m5, .null, .null, .int 0, .ref m6, .int 0, .int 0, .int 0, .long 0, .null, .ref m7, .ref m8, .int 0, .int 0, .long 0])), (lp, .inr (0, [.int 0, .ref te, .int 0]))] [] sz tp te)) (va_Qi (fun (r : Int32) (_ : Unit) => r = 1) (fun (_ : Unit) (t : State) => Bw dC dI [(h0, .inr (17, [.ref lp, .null, .null, .int 0, .int 0, .ref m1, .ref m2, .ref m3, .ref m4, .ref m5, .null, .null, .int 0, .ref m6, .int 0, .int 0, .int 0, .long 0, .null, .ref m7, .ref m8, .int 0, .int 0, .long 0]))] [] (va_A [(h0, .inr (17, [.ref lp, .null, .null, .int 0, .int 0, .ref m1, .ref m2, .ref m3, .ref m4, .ref m5, .null, .null, .int 0, .ref m6, .int 0, .int 0, .int 0, .long 0, .null, .ref m7, .ref m8, .int 0, .int 0, .long 0])), (lp, .inr (0, [.int 0, .ref te, .int 0]))] sz) t) (va_A [(h0, .inr (17, [.ref lp, .null, .null, .int 0, .int 0, .ref m1, .ref m2, .ref m3, .ref m4, .ref m5, .null, .null, .int 0, .ref m6, .int 0, .int 0, .int 0, .long 0, .null, .ref m7, .ref m8, .int 0, .int 0, .long 0])), (lp, .inr (0, [.int 0, .ref te, .int 0]))] sz)) 3 15 (va_A [(h0, .inr (17, [.ref lp, .null, .null, .int 0, .int 0, .ref m1, .ref m2, .ref m3, .ref m4, .ref m5, .null, .null, .int 0, .ref m6, .int 0, .int 0, .int 0, .long 0, .null, .ref m7, .ref m8, .int 0, .int 0, .long 0])), (lp, .inr (0, [.int 0, .ref te, .int 0]))] sz) := by
  refine Met.ofW (cc := cX16_name) (maxL := 2) (ret := (some .int)) (by decide) rfl ?_
  intro p e s m args below meth c s₁ B hml hv
  obtain ⟨rfl, hsz, hP, hK, hD0, hG⟩ := hv
  have hx := B.exec
  have hb := B.bytes
  have hr := B.returns
  have hts := atoms_spec (ws := z_M_name_ok) B.pre
  have hown : s.vm.findClass RX16 = some m.cls := findClass_of_methodNamed B.named
  have hlocks := B.notSynchronized
  subst hsz
  have hD := hD0.self (sz := s.heap.size)
  generalize hAe : va_A [(h0, .inr (17, [.ref lp, .null, .null, .int 0, .int 0, .ref m1, .ref m2, .ref m3, .ref m4, .ref m5, .null, .null, .int 0, .ref m6, .int 0, .int 0, .int 0, .long 0, .null, .ref m7, .ref m8, .int 0, .int 0, .long 0])), (lp, .inr (0, [.int 0, .ref te, .int 0]))] s.heap.size = A at hD hG ⊢
  have hA : ∀ q : Nat, s.heap.size ≤ q → A q := fun q h => by rw [← hAe]; exact Or.inr h
  have hS : va_S A s.heap s.heap [] := va_S.rf
  have hl := lv_entry ([.ref h0, .int p0]) (n := 2) (Nat.le_of_ble_eq_true rfl)
  rw [lg_entry_eq]
  generalize (lg_sl ([.ref h0, .int p0]) ++ List.replicate (2 - (lg_sl ([.ref h0, .int p0])).length) Slot.unset).toArray = ls at hl ⊢
  have hl : lv_has ls 2 [(0, .ref h0), (1, .int p0)] := hl
  refine lv_aload_n hx hb dX16_name_0 rfl (lv_at hl 0 rfl) ?_
  refine lv_iload_n hx hb dX16_name_1 rfl (lv_at hl 1 rfl) ?_
  have hPc := hP.sub (ws' := []) [] rfl
  have hDc := hD.sub (ws' := []) [] (by decide) rfl
  have hKc := hK.sub (tys' := []) [] rfl
  have hFc := va_free (wc := []) hD hS hA [] rfl
  refine va_calli (va_runS (As := [.int p0]) (rest := [.ref h0]) ⟨hx, hb, hml, hown, hts⟩ (c_isN_ok l dC dI tp te s.heap.size p0 hvn hvb hvc) (va_cwS 1 hts g_M_name_ok_2 rfl rfl rfl (by decide +kernel) ⟨Nat.le_of_ble_eq_true rfl, Nat.le_of_ble_eq_true rfl⟩) ⟨Pw.blind, Pw.mk hPc hKc hDc hG hS hFc⟩ rfl rfl hl.1 rfl (lv_room (Nat.le_of_ble_eq_true rfl)) dX16_name_2 ⟨Nat.le_of_ble_eq_true rfl, Nat.le_of_ble_eq_true rfl⟩) hS (fun q _ h => hFc q h) hFc (fun r u t9 H_1 locs ht hvm hw hB hz1 hk1 hS => ?_)
  have hw : r = 1 := hw
  subst hw
  obtain ⟨hP, hD⟩ := va_join (wr := [(h0, .inr (17, [.ref lp, .null, .null, .int 0, .int 0, .ref m1, .ref m2, .ref m3, .ref m4, .ref m5, .null, .null, .int 0, .ref m6, .int 0, .int 0, .int 0, .long 0, .null, .ref m7, .ref m8, .int 0, .int 0, .long 0])), (lp, .inr (0, [.int 0, .ref te, .int 0]))]) (w1 := []) hP hD [] [0, 1] rfl rfl (by decide) (by decide) hk1 hFc va_P.nil va_D.nil
  have hK := hK.sub (tys' := []) [] rfl
  have hP : va_P (dC, dI) vwCl [(h0, .inr (17, [.ref lp, .null, .null, .int 0, .int 0, .ref m1, .ref m2, .ref m3, .ref m4, .ref m5, .null, .null, .int 0, .ref m6, .int 0, .int 0, .int 0, .long 0, .null, .ref m7, .ref m8, .int 0, .int 0, .long 0])), (lp, .inr (0, [.int 0, .ref te, .int 0]))] H_1 := hP
  have hD : va_D A [(h0, .inr (17, [.ref lp, .null, .null, .int 0, .int 0, .ref m1, .ref m2, .ref m3, .ref m4, .ref m5, .null, .null, .int 0, .ref m6, .int 0, .int 0, .int 0, .long 0, .null, .ref m7, .ref m8, .int 0, .int 0, .long 0])), (lp, .inr (0, [.int 0, .ref te, .int 0]))] := hD
  have hK : va_K (dC, dI) vwCl [] s := hK
  refine W.widen (k := 0) (n := 0) (Nat.le_of_ble_eq_true rfl) (Nat.le_of_ble_eq_true rfl) ?_
  refine lv_if_ne (tgt := 12) hx hb dX16_name_5 (by decide) (fun c9 => ?_) (fun c9 => absurd c9 (by decide))
  refine lv_aload_n hx hb dX16_name_12 rfl (lv_at hl 0 rfl) ?_
  refine va_get (D := (dC, dI)) (ci := 17) (v := .ref lp) (C := RX16) (T := TX16) (N := 24) hx hb hts in_z_M_name_ok_X16 hown hK hP 0 rfl rfl 0 (by decide) (hts (.fieldLink RX16 10 "SelfkindleModel" "pile" "Ljava/util/ArrayList;") (List.mem_of_getElem? (i := 5) rfl)) (fun _ h9 => h9) rfl dX16_name_13 ?_
  have hPc := hP.sub (ws' := [(lp, .inr (0, [.int 0, .ref te, .int 0]))]) [1] rfl
  have hDc := hD.sub (ws' := [(lp, .inr (0, [.int 0, .ref te, .int 0]))]) [1] (by decide) rfl
  have hKc := hK.sub (tys' := []) [] rfl
  have hFc := va_free (wc := [(lp, .inr (0, [.int 0, .ref te, .int 0]))]) hD hS hA [1] rfl
  refine va_calli (va_runV (As := []) (rest := [.ref h0]) ⟨hx, hb, hml, hown, hts⟩ (c_ASz l dC dI tp te H_1.size lp te 0 0) (cwV 0 hts g_M_name_ok_16 rfl rfl rfl (by decide +kernel) ⟨Nat.le_of_ble_eq_true rfl, Nat.le_of_ble_eq_true rfl⟩) ⟨Pw.blind, va_recv hKc hPc (ci := 0) (q0 := 0) rfl rfl, Pw.mk hPc hKc hDc hG hS hFc⟩ rfl rfl hl.1 rfl (lv_room (Nat.le_of_ble_eq_true rfl)) dX16_name_16 ⟨Nat.le_of_ble_eq_true rfl, Nat.le_of_ble_eq_true rfl⟩) hS (fun q _ h => hFc q h) hFc (fun r u t9 H_3 locs ht hvm hw hB hz1 hk1 hS => ?_)
  have hw : r = 0 := hw
  subst hw
  obtain ⟨hP1, hK1, hD1⟩ := hB
  rw [ht] at hP1
  have hK1 := va_K.moved hvm.symm hK1
  obtain ⟨hP, hD⟩ := va_join (wr := [(h0, .inr (17, [.ref lp, .null, .null, .int 0, .int 0, .ref m1, .ref m2, .ref m3, .ref m4, .ref m5, .null, .null, .int 0, .ref m6, .int 0, .int 0, .int 0, .long 0, .null, .ref m7, .ref m8, .int 0, .int 0, .long 0]))]) (w1 := [(lp, .inr (0, [.int 0, .ref te, .int 0]))]) hP hD [1] [0] rfl rfl (by decide) (by decide) hk1 hFc hP1 hD1
  have hK := (hK.sub (tys' := []) [] rfl).app hK1
  have hP : va_P (dC, dI) vwCl [(h0, .inr (17, [.ref lp, .null, .null, .int 0, .int 0, .ref m1, .ref m2, .ref m3, .ref m4, .ref m5, .null, .null, .int 0, .ref m6, .int 0, .int 0, .int 0, .long 0, .null, .ref m7, .ref m8, .int 0, .int 0, .long 0])), (lp, .inr (0, [.int 0, .ref te, .int 0]))] H_3 := hP
  have hD : va_D A [(h0, .inr (17, [.ref lp, .null, .null, .int 0, .int 0, .ref m1, .ref m2, .ref m3, .ref m4, .ref m5, .null, .null, .int 0, .ref m6, .int 0, .int 0, .int 0, .long 0, .null, .ref m7, .ref m8, .int 0, .int 0, .long 0])), (lp, .inr (0, [.int 0, .ref te, .int 0]))] := hD
  have hK : va_K (dC, dI) vwCl [] s := hK
  refine W.widen (k := 0) (n := 0) (Nat.le_of_ble_eq_true rfl) (Nat.le_of_ble_eq_true rfl) ?_
  refine lv_bipush (v := 20) hx hb dX16_name_19 (by decide) ?_
  refine lv_icmp_ne (tgt := 28) hx hb dX16_name_21 (by decide) (fun c9 => ?_) (fun c9 => absurd c9 (by decide))
  refine lv_iconst (v := 0) hx hb dX16_name_28 (by decide) ?_
  refine va_put (D := (dC, dI)) (ci := 17) (v := .int 0) (ty := .int) (C := RX16) (T := TX16) (N := 24) hx hb hts in_z_M_name_ok_X16 tyX16 tyX16_ok nmX16 hown hK hP hD hS 0 rfl rfl 4 (by decide) (hts (.fieldLink RX16 40 "SelfkindleModel" "thrown" "I") (List.mem_of_getElem? (i := 12) rfl)) (fun _ h9 => h9) rfl (by decide +kernel) rfl rfl (Nat.le_of_ble_eq_true rfl) dX16_name_29 (fun H_5 locs hP hD hS => ?_)
  have hP : va_P (dC, dI) vwCl [(h0, .inr (17, [.ref lp, .null, .null, .int 0, .int 0, .ref m1, .ref m2, .ref m3, .ref m4, .ref m5, .null, .null, .int 0, .ref m6, .int 0, .int 0, .int 0, .long 0, .null, .ref m7, .ref m8, .int 0, .int 0, .long 0])), (lp, .inr (0, [.int 0, .ref te, .int 0]))] H_5 := hP
  have hD : va_D A [(h0, .inr (17, [.ref lp, .null, .null, .int 0, .int 0, .ref m1, .ref m2, .ref m3, .ref m4, .ref m5, .null, .null, .int 0, .ref m6, .int 0, .int 0, .int 0, .long 0, .null, .ref m7, .ref m8, .int 0, .int 0, .long 0])), (lp, .inr (0, [.int 0, .ref te, .int 0]))] := hD
  have hK : va_K (dC, dI) vwCl [] s := hK
  refine lv_aload_n hx hb dX16_name_32 rfl (lv_at hl 0 rfl) ?_
  refine va_get (D := (dC, dI)) (ci := 17) (v := .int 0) (C := RX16) (T := TX16) (N := 24) hx hb hts in_z_M_name_ok_X16 hown hK hP 0 rfl rfl 4 (by decide) (hts (.fieldLink RX16 40 "SelfkindleModel" "thrown" "I") (List.mem_of_getElem? (i := 12) rfl)) (fun _ h9 => h9) rfl dX16_name_33 ?_
  refine lv_if_le (tgt := 43) hx hb dX16_name_36 (by decide) (fun c9 => ?_) (fun c9 => absurd (by decide) c9)
  refine lv_aload_n hx hb dX16_name_43 rfl (lv_at hl 0 rfl) ?_
  refine va_new (D := (dC, dI)) (cl := vwCl) (ci := 13) (fs := [.int 0, .long 0, .int 0, .null, .int 0]) (C := RX12) (T := TX12) (N := 5) hx hb hts in_z_M_name_ok_X12 tyX12 tyX12_ok hown (hts (.classLink RX16 52 RX12) (List.mem_of_getElem? (i := 13) rfl)) (hts (.instantiable RX12 5) (List.mem_of_getElem? (i := 14) rfl)) (hts (.initialized RX12) (List.mem_of_getElem? (i := 15) rfl)) hK hP hD hS hA rfl dflt_X12 (Nat.le_of_ble_eq_true rfl) (Nat.le_of_ble_eq_true rfl) dX16_name_44 (fun q_6 H_7 hP hD hS => ?_)
  have hP : va_P (dC, dI) vwCl [(h0, .inr (17, [.ref lp, .null, .null, .int 0, .int 0, .ref m1, .ref m2, .ref m3, .ref m4, .ref m5, .null, .null, .int 0, .ref m6, .int 0, .int 0, .int 0, .long 0, .null, .ref m7, .ref m8, .int 0, .int 0, .long 0])), (lp, .inr (0, [.int 0, .ref te, .int 0])), (q_6, .inr (13, [.int 0, .long 0, .int 0, .null, .int 0]))] H_7 := hP
  have hD : va_D A [(h0, .inr (17, [.ref lp, .null, .null, .int 0, .int 0, .ref m1, .ref m2, .ref m3, .ref m4, .ref m5, .null, .null, .int 0, .ref m6, .int 0, .int 0, .int 0, .long 0, .null, .ref m7, .ref m8, .int 0, .int 0, .long 0])), (lp, .inr (0, [.int 0, .ref te, .int 0])), (q_6, .inr (13, [.int 0, .long 0, .int 0, .null, .int 0]))] := hD
  have hK : va_K (dC, dI) vwCl [] s := hK
  refine W.widen (k := 1) (n := 5) (Nat.le_of_ble_eq_true rfl) (Nat.le_of_ble_eq_true rfl) ?_
  refine lv_dup hx hb dX16_name_47 rfl ?_
  refine lv_iconst (v := 1) hx hb dX16_name_48 (by decide) ?_
  refine lv_iload_n hx hb dX16_name_49 rfl (lv_at hl 1 rfl) ?_
  refine lv_i2l (v := p0.toInt64) hx hb dX16_name_50 rfl ?_
  refine lv_iconst (v := 0) hx hb dX16_name_51 (by decide) ?_
  refine lv_iconst (v := 0) hx hb dX16_name_52 (by decide) ?_
  refine va_newq (C := "SelfkindleModel$Term") (N' := 0) hx hb hown (hts (.classLink RX16 52 RX12) (List.mem_of_getElem? (i := 13) rfl)) hG.2.2.2.2.2.2.2.2.2.2.2.2.1 hK hP hD hS hA (by decide) (by decide +kernel) (Nat.le_of_ble_eq_true rfl) (Nat.le_of_ble_eq_true rfl) (Nat.le_of_ble_eq_true rfl) dX16_name_53 (fun q_8 cA_9 H_10 hK hP hD hS => ?_)
  have hP : va_P (dC, dI) vwCl [(h0, .inr (17, [.ref lp, .null, .null, .int 0, .int 0, .ref m1, .ref m2, .ref m3, .ref m4, .ref m5, .null, .null, .int 0, .ref m6, .int 0, .int 0, .int 0, .long 0, .null, .ref m7, .ref m8, .int 0, .int 0, .long 0])), (lp, .inr (0, [.int 0, .ref te, .int 0])), (q_6, .inr (13, [.int 0, .long 0, .int 0, .null, .int 0])), (q_8, .inl (cA_9, 0, .inr (.inr (.inr (.inr (fun _ => none))))))] H_10 := hP
  have hD : va_D A [(h0, .inr (17, [.ref lp, .null, .null, .int 0, .int 0, .ref m1, .ref m2, .ref m3, .ref m4, .ref m5, .null, .null, .int 0, .ref m6, .int 0, .int 0, .int 0, .long 0, .null, .ref m7, .ref m8, .int 0, .int 0, .long 0])), (lp, .inr (0, [.int 0, .ref te, .int 0])), (q_6, .inr (13, [.int 0, .long 0, .int 0, .null, .int 0])), (q_8, .inl (cA_9, 0, .inr (.inr (.inr (.inr (fun _ => none))))))] := hD
  have hK : va_K (dC, dI) vwCl [(cA_9, .object "SelfkindleModel$Term")] s := hK
  refine W.widen (k := 2) (n := 5) (Nat.le_of_ble_eq_true rfl) (Nat.le_of_ble_eq_true rfl) ?_
  have hPc := hP.sub (ws' := [(q_6, .inr (13, [.int 0, .long 0, .int 0, .null, .int 0])), (q_8, .inl (cA_9, 0, .inr (.inr (.inr (.inr (fun _ => none))))))]) [2, 3] rfl
  have hDc := hD.sub (ws' := [(q_6, .inr (13, [.int 0, .long 0, .int 0, .null, .int 0])), (q_8, .inl (cA_9, 0, .inr (.inr (.inr (.inr (fun _ => none))))))]) [2, 3] (by decide) rfl
  have hKc := hK.sub (tys' := [(cA_9, .object "SelfkindleModel$Term")]) [0] rfl
  have hFc := va_free (wc := [(q_6, .inr (13, [.int 0, .long 0, .int 0, .null, .int 0])), (q_8, .inl (cA_9, 0, .inr (.inr (.inr (.inr (fun _ => none))))))]) hD hS hA [2, 3] rfl
  refine va_callv (va_runI (As := [.int 1, .long (p0.toInt64), .int 0, .ref q_8]) (rest := [.ref q_6, .ref h0]) ⟨hx, hb, hml, hown, hts⟩ (c_MTi l dC dI tp te H_10.size q_6 q_8 cA_9 1 p0.toInt64 0) (cwI 4 hts g_M_name_ok_56 rfl rfl rfl (hts (.initialized RX12) (List.mem_of_getElem? (i := 15) rfl)) (hts (.methodLink RX16 67 yX12_init) (List.mem_of_getElem? (i := 16) rfl)) (hts (.instanceMethod yX12_init) (List.mem_of_getElem? (i := 17) rfl)) rfl (by decide +kernel) ⟨Nat.le_of_ble_eq_true rfl, Nat.le_of_ble_eq_true rfl⟩) ⟨Pw.blind, Pw.mk hPc hKc hDc hG hS hFc⟩ rfl rfl hl.1 rfl (lv_room (Nat.le_of_ble_eq_true rfl)) dX16_name_56 ⟨Nat.le_of_ble_eq_true rfl, Nat.le_of_ble_eq_true rfl⟩) hS (fun q _ h => hFc q h) hFc (fun u t9 H_11 locs ht hvm hw hB hz1 hk1 hS => ?_)
  obtain ⟨hP1, hK1, hD1⟩ := hB
  rw [ht] at hP1
  have hK1 := va_K.moved hvm.symm hK1
  obtain ⟨hP, hD⟩ := va_join (wr := [(h0, .inr (17, [.ref lp, .null, .null, .int 0, .int 0, .ref m1, .ref m2, .ref m3, .ref m4, .ref m5, .null, .null, .int 0, .ref m6, .int 0, .int 0, .int 0, .long 0, .null, .ref m7, .ref m8, .int 0, .int 0, .long 0])), (lp, .inr (0, [.int 0, .ref te, .int 0]))]) (w1 := [(q_6, .inr (13, [.int 1, .long (p0.toInt64), .int 0, .ref q_8, .int 1]))]) hP hD [2, 3] [0, 1] rfl rfl (by decide) (by decide) hk1 hFc hP1 hD1
  have hK := (hK.sub (tys' := []) [] rfl).app hK1
  have hP : va_P (dC, dI) vwCl [(h0, .inr (17, [.ref lp, .null, .null, .int 0, .int 0, .ref m1, .ref m2, .ref m3, .ref m4, .ref m5, .null, .null, .int 0, .ref m6, .int 0, .int 0, .int 0, .long 0, .null, .ref m7, .ref m8, .int 0, .int 0, .long 0])), (lp, .inr (0, [.int 0, .ref te, .int 0])), (q_6, .inr (13, [.int 1, .long (p0.toInt64), .int 0, .ref q_8, .int 1]))] H_11 := hP
  have hD : va_D A [(h0, .inr (17, [.ref lp, .null, .null, .int 0, .int 0, .ref m1, .ref m2, .ref m3, .ref m4, .ref m5, .null, .null, .int 0, .ref m6, .int 0, .int 0, .int 0, .long 0, .null, .ref m7, .ref m8, .int 0, .int 0, .long 0])), (lp, .inr (0, [.int 0, .ref te, .int 0])), (q_6, .inr (13, [.int 1, .long (p0.toInt64), .int 0, .ref q_8, .int 1]))] := hD
  have hK : va_K (dC, dI) vwCl [] s := hK
  refine W.widen (k := 2) (n := 5) (Nat.le_of_ble_eq_true rfl) (Nat.le_of_ble_eq_true rfl) ?_
  have hPc := hP.sub (ws' := [(h0, .inr (17, [.ref lp, .null, .null, .int 0, .int 0, .ref m1, .ref m2, .ref m3, .ref m4, .ref m5, .null, .null, .int 0, .ref m6, .int 0, .int 0, .int 0, .long 0, .null, .ref m7, .ref m8, .int 0, .int 0, .long 0])), (lp, .inr (0, [.int 0, .ref te, .int 0])), (q_6, .inr (13, [.int 1, .long (p0.toInt64), .int 0, .ref q_8, .int 1]))]) [0, 1, 2] rfl
  have hDc := hD.sub (ws' := [(h0, .inr (17, [.ref lp, .null, .null, .int 0, .int 0, .ref m1, .ref m2, .ref m3, .ref m4, .ref m5, .null, .null, .int 0, .ref m6, .int 0, .int 0, .int 0, .long 0, .null, .ref m7, .ref m8, .int 0, .int 0, .long 0])), (lp, .inr (0, [.int 0, .ref te, .int 0])), (q_6, .inr (13, [.int 1, .long (p0.toInt64), .int 0, .ref q_8, .int 1]))]) [0, 1, 2] (by decide) rfl
  have hKc := hK.sub (tys' := []) [] rfl
  have hFc := va_free (wc := [(h0, .inr (17, [.ref lp, .null, .null, .int 0, .int 0, .ref m1, .ref m2, .ref m3, .ref m4, .ref m5, .null, .null, .int 0, .ref m6, .int 0, .int 0, .int 0, .long 0, .null, .ref m7, .ref m8, .int 0, .int 0, .long 0])), (lp, .inr (0, [.int 0, .ref te, .int 0])), (q_6, .inr (13, [.int 1, .long (p0.toInt64), .int 0, .ref q_8, .int 1]))]) hD hS hA [0, 1, 2] rfl
  refine va_calli (va_runV (As := [.ref q_6]) (rest := []) ⟨hx, hb, hml, hown, hts⟩ (c_put l dC dI tp te H_11.size h0 lp m1 m2 m3 m4 m5 m6 m7 m8 q_6 1 p0.toInt64 0 q_8) (cwV 1 hts g_M_name_ok_59 rfl rfl rfl (by decide +kernel) ⟨Nat.le_of_ble_eq_true rfl, Nat.le_of_ble_eq_true rfl⟩) ⟨Pw.blind, va_recv hKc hPc (ci := 17) (q0 := 0) rfl rfl, Pw.mk hPc hKc hDc hG hS hFc⟩ rfl rfl hl.1 rfl (lv_room (Nat.le_of_ble_eq_true rfl)) dX16_name_59 ⟨Nat.le_of_ble_eq_true rfl, Nat.le_of_ble_eq_true rfl⟩) hS (fun q _ h => hFc q h) hFc (fun r u t9 H_13 locs ht hvm hw hB hz1 hk1 hS => ?_)
  have hw : r = 1 := hw
  subst hw
  obtain ⟨hP1, hK1, hD1⟩ := hB
  rw [ht] at hP1
  have hK1 := va_K.moved hvm.symm hK1
  obtain ⟨hP, hD⟩ := va_join (wr := []) (w1 := [(h0, .inr (17, [.ref lp, .null, .null, .int 0, .int 0, .ref m1, .ref m2, .ref m3, .ref m4, .ref m5, .null, .null, .int 0, .ref m6, .int 0, .int 0, .int 0, .long 0, .null, .ref m7, .ref m8, .int 0, .int 0, .long 0]))]) hP hD [0, 1, 2] [] rfl rfl (by decide) (by decide) hk1 hFc hP1 hD1
  have hK := (hK.sub (tys' := []) [] rfl).app hK1
  have hP : va_P (dC, dI) vwCl [(h0, .inr (17, [.ref lp, .null, .null, .int 0, .int 0, .ref m1, .ref m2, .ref m3, .ref m4, .ref m5, .null, .null, .int 0, .ref m6, .int 0, .int 0, .int 0, .long 0, .null, .ref m7, .ref m8, .int 0, .int 0, .long 0]))] H_13 := hP
  have hD : va_D A [(h0, .inr (17, [.ref lp, .null, .null, .int 0, .int 0, .ref m1, .ref m2, .ref m3, .ref m4, .ref m5, .null, .null, .int 0, .ref m6, .int 0, .int 0, .int 0, .long 0, .null, .ref m7, .ref m8, .int 0, .int 0, .long 0]))] := hD
  have hK : va_K (dC, dI) vwCl [] s := hK
  refine W.widen (k := 3) (n := 15) (Nat.le_of_ble_eq_true rfl) (Nat.le_of_ble_eq_true rfl) ?_
  refine W.widen (k := 3) (n := 15) (Nat.le_of_ble_eq_true rfl) (Nat.le_of_ble_eq_true rfl) ?_
  exact W.iret (v := 1) hx hb hr (fun t ht hW => ⟨⟨1, (), rfl, rfl, ⟨by rw [ht]; exact hP, va_K.moved hW.alike hK, hD⟩⟩, hS.F ht⟩) hS.2.2 dX16_name_62

set_option maxRecDepth 20000 in
def z_M_name_neg : List Cond := .code yX16_name cX16_name 2 (some .int) :: (([.methodLink RX16 74 yX16_isName, .static yX16_isName, .initialized RX16, .code yX16_isName cX16_isName 1 (some .boolean), .fieldLink RX16 40 "SelfkindleModel" "thrown" "I"] : List Cond) ++ wsX160)
theorem in_z_M_name_neg_X16 : ∀ w ∈ wsX160, w ∈ z_M_name_neg := fun w h => List.mem_cons_of_mem _ (List.mem_append_right _ (h))
set_option maxRecDepth 20000 in
theorem g_M_name_neg_2 : GoodIn z_M_name_neg (va_wsS RX16 74 yX16_isName z_isN_neg) := goodIn_p _ [4] rfl (by decide +kernel)
set_option maxHeartbeats 4000000 in
set_option maxRecDepth 100000 in
theorem c_M_name_neg (l : Launch) (dC : Nat → ClassId) (dI : Nat → Nat → Nat) (tp te : Nat) (sz : Nat) (h0 : Nat) (lp : Nat) (m1 : Nat) (m2 : Nat) (m3 : Nat) (m4 : Nat) (m5 : Nat) (m6 : Nat) (m7 : Nat) (m8 : Nat) (p0 : Int32) (hvn : p0 < 0) : Met l yX16_name z_M_name_neg ({ frames := 1, cells := 0, slots := 0, locals := 20 }) (va_Pc [.ref h0, .int p0] (Pw dC dI [(h0, .inr (17, [.ref lp, .null, .null, .int 0, .int 0, .ref m1, .ref m2, .ref m3, .ref m4, .ref m5, .null, .null, .int 0, .ref m6, .int 0, .int 0, .int 0, .long 0, .null, .ref m7, .ref m8, .int 0, .int 0, .long 0])), (lp, .inr (0, [.int 0, .ref te, .int 0]))] [] sz tp te)) (va_Qi (fun (r : Int32) (_ : Unit) => r = 0) (fun (_ : Unit) (t : State) => Bw dC dI [(h0, .inr (17, [.ref lp, .null, .null, .int 0, .int 1, .ref m1, .ref m2, .ref m3, .ref m4, .ref m5, .null, .null, .int 0, .ref m6, .int 0, .int 0, .int 0, .long 0, .null, .ref m7, .ref m8, .int 0, .int 0, .long 0]))] [] (va_A [(h0, .inr (17, [.ref lp, .null, .null, .int 0, .int 0, .ref m1, .ref m2, .ref m3, .ref m4, .ref m5, .null, .null, .int 0, .ref m6, .int 0, .int 0, .int 0, .long 0, .null, .ref m7, .ref m8, .int 0, .int 0, .long 0])), (lp, .inr (0, [.int 0, .ref te, .int 0]))] sz) t) (va_A [(h0, .inr (17, [.ref lp, .null, .null, .int 0, .int 0, .ref m1, .ref m2, .ref m3, .ref m4, .ref m5, .null, .null, .int 0, .ref m6, .int 0, .int 0, .int 0, .long 0, .null, .ref m7, .ref m8, .int 0, .int 0, .long 0])), (lp, .inr (0, [.int 0, .ref te, .int 0]))] sz)) 0 0 (va_A [(h0, .inr (17, [.ref lp, .null, .null, .int 0, .int 0, .ref m1, .ref m2, .ref m3, .ref m4, .ref m5, .null, .null, .int 0, .ref m6, .int 0, .int 0, .int 0, .long 0, .null, .ref m7, .ref m8, .int 0, .int 0, .long 0])), (lp, .inr (0, [.int 0, .ref te, .int 0]))] sz) := by
  refine Met.ofW (cc := cX16_name) (maxL := 2) (ret := (some .int)) (by decide) rfl ?_
  intro p e s m args below meth c s₁ B hml hv
  obtain ⟨rfl, hsz, hP, hK, hD0, hG⟩ := hv
  have hx := B.exec
  have hb := B.bytes
  have hr := B.returns
  have hts := atoms_spec (ws := z_M_name_neg) B.pre
  have hown : s.vm.findClass RX16 = some m.cls := findClass_of_methodNamed B.named
  have hlocks := B.notSynchronized
  subst hsz
  have hD := hD0.self (sz := s.heap.size)
  generalize hAe : va_A [(h0, .inr (17, [.ref lp, .null, .null, .int 0, .int 0, .ref m1, .ref m2, .ref m3, .ref m4, .ref m5, .null, .null, .int 0, .ref m6, .int 0, .int 0, .int 0, .long 0, .null, .ref m7, .ref m8, .int 0, .int 0, .long 0])), (lp, .inr (0, [.int 0, .ref te, .int 0]))] s.heap.size = A at hD hG ⊢
  have hA : ∀ q : Nat, s.heap.size ≤ q → A q := fun q h => by rw [← hAe]; exact Or.inr h
  have hS : va_S A s.heap s.heap [] := va_S.rf
  have hl := lv_entry ([.ref h0, .int p0]) (n := 2) (Nat.le_of_ble_eq_true rfl)
  rw [lg_entry_eq]
  generalize (lg_sl ([.ref h0, .int p0]) ++ List.replicate (2 - (lg_sl ([.ref h0, .int p0])).length) Slot.unset).toArray = ls at hl ⊢
  have hl : lv_has ls 2 [(0, .ref h0), (1, .int p0)] := hl
  refine lv_aload_n hx hb dX16_name_0 rfl (lv_at hl 0 rfl) ?_
  refine lv_iload_n hx hb dX16_name_1 rfl (lv_at hl 1 rfl) ?_
  have hPc := hP.sub (ws' := []) [] rfl
  have hDc := hD.sub (ws' := []) [] (by decide) rfl
  have hKc := hK.sub (tys' := []) [] rfl
  have hFc := va_free (wc := []) hD hS hA [] rfl
  refine va_calli (va_runS (As := [.int p0]) (rest := [.ref h0]) ⟨hx, hb, hml, hown, hts⟩ (c_isN_neg l dC dI tp te s.heap.size p0 hvn) (va_cwS 1 hts g_M_name_neg_2 rfl rfl rfl (by decide +kernel) ⟨Nat.le_of_ble_eq_true rfl, Nat.le_of_ble_eq_true rfl⟩) ⟨Pw.blind, Pw.mk hPc hKc hDc hG hS hFc⟩ rfl rfl hl.1 rfl (lv_room (Nat.le_of_ble_eq_true rfl)) dX16_name_2 ⟨Nat.le_of_ble_eq_true rfl, Nat.le_of_ble_eq_true rfl⟩) hS (fun q _ h => hFc q h) hFc (fun r u t9 H_1 locs ht hvm hw hB hz1 hk1 hS => ?_)
  have hw : r = 0 := hw
  subst hw
  obtain ⟨hP, hD⟩ := va_join (wr := [(h0, .inr (17, [.ref lp, .null, .null, .int 0, .int 0, .ref m1, .ref m2, .ref m3, .ref m4, .ref m5, .null, .null, .int 0, .ref m6, .int 0, .int 0, .int 0, .long 0, .null, .ref m7, .ref m8, .int 0, .int 0, .long 0])), (lp, .inr (0, [.int 0, .ref te, .int 0]))]) (w1 := []) hP hD [] [0, 1] rfl rfl (by decide) (by decide) hk1 hFc va_P.nil va_D.nil
  have hK := hK.sub (tys' := []) [] rfl
  have hP : va_P (dC, dI) vwCl [(h0, .inr (17, [.ref lp, .null, .null, .int 0, .int 0, .ref m1, .ref m2, .ref m3, .ref m4, .ref m5, .null, .null, .int 0, .ref m6, .int 0, .int 0, .int 0, .long 0, .null, .ref m7, .ref m8, .int 0, .int 0, .long 0])), (lp, .inr (0, [.int 0, .ref te, .int 0]))] H_1 := hP
  have hD : va_D A [(h0, .inr (17, [.ref lp, .null, .null, .int 0, .int 0, .ref m1, .ref m2, .ref m3, .ref m4, .ref m5, .null, .null, .int 0, .ref m6, .int 0, .int 0, .int 0, .long 0, .null, .ref m7, .ref m8, .int 0, .int 0, .long 0])), (lp, .inr (0, [.int 0, .ref te, .int 0]))] := hD
  have hK : va_K (dC, dI) vwCl [] s := hK
  refine W.widen (k := 0) (n := 0) (Nat.le_of_ble_eq_true rfl) (Nat.le_of_ble_eq_true rfl) ?_
  refine lv_if_ne (tgt := 12) hx hb dX16_name_5 (by decide) (fun c9 => absurd (by decide) c9) (fun c9 => ?_)
  refine lv_iconst (v := 1) hx hb dX16_name_8 (by decide) ?_
  refine lv_goto (tgt := 29) hx hb dX16_name_9 (by decide) ?_
  refine va_put (D := (dC, dI)) (ci := 17) (v := .int 1) (ty := .int) (C := RX16) (T := TX16) (N := 24) hx hb hts in_z_M_name_neg_X16 tyX16 tyX16_ok nmX16 hown hK hP hD hS 0 rfl rfl 4 (by decide) (hts (.fieldLink RX16 40 "SelfkindleModel" "thrown" "I") (List.mem_of_getElem? (i := 5) rfl)) (fun _ h9 => h9) rfl (by decide +kernel) rfl rfl (Nat.le_of_ble_eq_true rfl) dX16_name_29 (fun H_3 locs hP hD hS => ?_)
  have hP : va_P (dC, dI) vwCl [(h0, .inr (17, [.ref lp, .null, .null, .int 0, .int 1, .ref m1, .ref m2, .ref m3, .ref m4, .ref m5, .null, .null, .int 0, .ref m6, .int 0, .int 0, .int 0, .long 0, .null, .ref m7, .ref m8, .int 0, .int 0, .long 0])), (lp, .inr (0, [.int 0, .ref te, .int 0]))] H_3 := hP
  have hD : va_D A [(h0, .inr (17, [.ref lp, .null, .null, .int 0, .int 1, .ref m1, .ref m2, .ref m3, .ref m4, .ref m5, .null, .null, .int 0, .ref m6, .int 0, .int 0, .int 0, .long 0, .null, .ref m7, .ref m8, .int 0, .int 0, .long 0])), (lp, .inr (0, [.int 0, .ref te, .int 0]))] := hD
  have hK : va_K (dC, dI) vwCl [] s := hK
  refine lv_aload_n hx hb dX16_name_32 rfl (lv_at hl 0 rfl) ?_
  refine va_get (D := (dC, dI)) (ci := 17) (v := .int 1) (C := RX16) (T := TX16) (N := 24) hx hb hts in_z_M_name_neg_X16 hown hK hP 0 rfl rfl 4 (by decide) (hts (.fieldLink RX16 40 "SelfkindleModel" "thrown" "I") (List.mem_of_getElem? (i := 5) rfl)) (fun _ h9 => h9) rfl dX16_name_33 ?_
  refine lv_if_le (tgt := 43) hx hb dX16_name_36 (by decide) (fun c9 => absurd c9 (by decide)) (fun c9 => ?_)
  refine lv_iconst (v := 0) hx hb dX16_name_39 (by decide) ?_
  refine lv_goto (tgt := 62) hx hb dX16_name_40 (by decide) ?_
  have hP := hP.sub (ws' := [(h0, .inr (17, [.ref lp, .null, .null, .int 0, .int 1, .ref m1, .ref m2, .ref m3, .ref m4, .ref m5, .null, .null, .int 0, .ref m6, .int 0, .int 0, .int 0, .long 0, .null, .ref m7, .ref m8, .int 0, .int 0, .long 0]))]) [0] rfl
  have hD := hD.sub (ws' := [(h0, .inr (17, [.ref lp, .null, .null, .int 0, .int 1, .ref m1, .ref m2, .ref m3, .ref m4, .ref m5, .null, .null, .int 0, .ref m6, .int 0, .int 0, .int 0, .long 0, .null, .ref m7, .ref m8, .int 0, .int 0, .long 0]))]) [0] (by decide) rfl
  have hK := hK.sub (tys' := []) [] rfl
  refine W.widen (k := 0) (n := 0) (Nat.le_of_ble_eq_true rfl) (Nat.le_of_ble_eq_true rfl) ?_
  exact W.iret (v := 0) hx hb hr (fun t ht hW => ⟨⟨0, (), rfl, rfl, ⟨by rw [ht]; exact hP, va_K.moved hW.alike hK, hD⟩⟩, hS.F ht⟩) hS.2.2 dX16_name_62

set_option maxRecDepth 20000 in
def z_M_name_big : List Cond := .code yX16_name cX16_name 2 (some .int) :: (([.methodLink RX16 74 yX16_isName, .static yX16_isName, .initialized RX16, .code yX16_isName cX16_isName 1 (some .boolean), .fieldLink RX16 40 "SelfkindleModel" "thrown" "I"] : List Cond) ++ wsX160)
theorem in_z_M_name_big_X16 : ∀ w ∈ wsX160, w ∈ z_M_name_big := fun w h => List.mem_cons_of_mem _ (List.mem_append_right _ (h))
set_option maxRecDepth 20000 in
theorem g_M_name_big_2 : GoodIn z_M_name_big (va_wsS RX16 74 yX16_isName z_isN_big) := goodIn_p _ [4] rfl (by decide +kernel)
set_option maxHeartbeats 4000000 in
set_option maxRecDepth 100000 in
theorem c_M_name_big (l : Launch) (dC : Nat → ClassId) (dI : Nat → Nat → Nat) (tp te : Nat) (sz : Nat) (h0 : Nat) (lp : Nat) (m1 : Nat) (m2 : Nat) (m3 : Nat) (m4 : Nat) (m5 : Nat) (m6 : Nat) (m7 : Nat) (m8 : Nat) (p0 : Int32) (hvn : ¬ p0 < 0) (hvb : ¬ p0 < 10) (hvc : 10 ≤ p0) : Met l yX16_name z_M_name_big ({ frames := 1, cells := 0, slots := 0, locals := 20 }) (va_Pc [.ref h0, .int p0] (Pw dC dI [(h0, .inr (17, [.ref lp, .null, .null, .int 0, .int 0, .ref m1, .ref m2, .ref m3, .ref m4, .ref m5, .null, .null, .int 0, .ref m6, .int 0, .int 0, .int 0, .long 0, .null, .ref m7, .ref m8, .int 0, .int 0, .long 0])), (lp, .inr (0, [.int 0, .ref te, .int 0]))] [] sz tp te)) (va_Qi (fun (r : Int32) (_ : Unit) => r = 0) (fun (_ : Unit) (t : State) => Bw dC dI [(h0, .inr (17, [.ref lp, .null, .null, .int 0, .int 1, .ref m1, .ref m2, .ref m3, .ref m4, .ref m5, .null, .null, .int 0, .ref m6, .int 0, .int 0, .int 0, .long 0, .null, .ref m7, .ref m8, .int 0, .int 0, .long 0]))] [] (va_A [(h0, .inr (17, [.ref lp, .null, .null, .int 0, .int 0, .ref m1, .ref m2, .ref m3, .ref m4, .ref m5, .null, .null, .int 0, .ref m6, .int 0, .int 0, .int 0, .long 0, .null, .ref m7, .ref m8, .int 0, .int 0, .long 0])), (lp, .inr (0, [.int 0, .ref te, .int 0]))] sz) t) (va_A [(h0, .inr (17, [.ref lp, .null, .null, .int 0, .int 0, .ref m1, .ref m2, .ref m3, .ref m4, .ref m5, .null, .null, .int 0, .ref m6, .int 0, .int 0, .int 0, .long 0, .null, .ref m7, .ref m8, .int 0, .int 0, .long 0])), (lp, .inr (0, [.int 0, .ref te, .int 0]))] sz)) 0 0 (va_A [(h0, .inr (17, [.ref lp, .null, .null, .int 0, .int 0, .ref m1, .ref m2, .ref m3, .ref m4, .ref m5, .null, .null, .int 0, .ref m6, .int 0, .int 0, .int 0, .long 0, .null, .ref m7, .ref m8, .int 0, .int 0, .long 0])), (lp, .inr (0, [.int 0, .ref te, .int 0]))] sz) := by
  refine Met.ofW (cc := cX16_name) (maxL := 2) (ret := (some .int)) (by decide) rfl ?_
  intro p e s m args below meth c s₁ B hml hv
  obtain ⟨rfl, hsz, hP, hK, hD0, hG⟩ := hv
  have hx := B.exec
  have hb := B.bytes
  have hr := B.returns
  have hts := atoms_spec (ws := z_M_name_big) B.pre
  have hown : s.vm.findClass RX16 = some m.cls := findClass_of_methodNamed B.named
  have hlocks := B.notSynchronized
  subst hsz
  have hD := hD0.self (sz := s.heap.size)
  generalize hAe : va_A [(h0, .inr (17, [.ref lp, .null, .null, .int 0, .int 0, .ref m1, .ref m2, .ref m3, .ref m4, .ref m5, .null, .null, .int 0, .ref m6, .int 0, .int 0, .int 0, .long 0, .null, .ref m7, .ref m8, .int 0, .int 0, .long 0])), (lp, .inr (0, [.int 0, .ref te, .int 0]))] s.heap.size = A at hD hG ⊢
  have hA : ∀ q : Nat, s.heap.size ≤ q → A q := fun q h => by rw [← hAe]; exact Or.inr h
  have hS : va_S A s.heap s.heap [] := va_S.rf
  have hl := lv_entry ([.ref h0, .int p0]) (n := 2) (Nat.le_of_ble_eq_true rfl)
  rw [lg_entry_eq]
  generalize (lg_sl ([.ref h0, .int p0]) ++ List.replicate (2 - (lg_sl ([.ref h0, .int p0])).length) Slot.unset).toArray = ls at hl ⊢
  have hl : lv_has ls 2 [(0, .ref h0), (1, .int p0)] := hl
  refine lv_aload_n hx hb dX16_name_0 rfl (lv_at hl 0 rfl) ?_
  refine lv_iload_n hx hb dX16_name_1 rfl (lv_at hl 1 rfl) ?_
  have hPc := hP.sub (ws' := []) [] rfl
  have hDc := hD.sub (ws' := []) [] (by decide) rfl
  have hKc := hK.sub (tys' := []) [] rfl
  have hFc := va_free (wc := []) hD hS hA [] rfl
  refine va_calli (va_runS (As := [.int p0]) (rest := [.ref h0]) ⟨hx, hb, hml, hown, hts⟩ (c_isN_big l dC dI tp te s.heap.size p0 hvn hvb hvc) (va_cwS 1 hts g_M_name_big_2 rfl rfl rfl (by decide +kernel) ⟨Nat.le_of_ble_eq_true rfl, Nat.le_of_ble_eq_true rfl⟩) ⟨Pw.blind, Pw.mk hPc hKc hDc hG hS hFc⟩ rfl rfl hl.1 rfl (lv_room (Nat.le_of_ble_eq_true rfl)) dX16_name_2 ⟨Nat.le_of_ble_eq_true rfl, Nat.le_of_ble_eq_true rfl⟩) hS (fun q _ h => hFc q h) hFc (fun r u t9 H_1 locs ht hvm hw hB hz1 hk1 hS => ?_)
  have hw : r = 0 := hw
  subst hw
  obtain ⟨hP, hD⟩ := va_join (wr := [(h0, .inr (17, [.ref lp, .null, .null, .int 0, .int 0, .ref m1, .ref m2, .ref m3, .ref m4, .ref m5, .null, .null, .int 0, .ref m6, .int 0, .int 0, .int 0, .long 0, .null, .ref m7, .ref m8, .int 0, .int 0, .long 0])), (lp, .inr (0, [.int 0, .ref te, .int 0]))]) (w1 := []) hP hD [] [0, 1] rfl rfl (by decide) (by decide) hk1 hFc va_P.nil va_D.nil
  have hK := hK.sub (tys' := []) [] rfl
  have hP : va_P (dC, dI) vwCl [(h0, .inr (17, [.ref lp, .null, .null, .int 0, .int 0, .ref m1, .ref m2, .ref m3, .ref m4, .ref m5, .null, .null, .int 0, .ref m6, .int 0, .int 0, .int 0, .long 0, .null, .ref m7, .ref m8, .int 0, .int 0, .long 0])), (lp, .inr (0, [.int 0, .ref te, .int 0]))] H_1 := hP
  have hD : va_D A [(h0, .inr (17, [.ref lp, .null, .null, .int 0, .int 0, .ref m1, .ref m2, .ref m3, .ref m4, .ref m5, .null, .null, .int 0, .ref m6, .int 0, .int 0, .int 0, .long 0, .null, .ref m7, .ref m8, .int 0, .int 0, .long 0])), (lp, .inr (0, [.int 0, .ref te, .int 0]))] := hD
  have hK : va_K (dC, dI) vwCl [] s := hK
  refine W.widen (k := 0) (n := 0) (Nat.le_of_ble_eq_true rfl) (Nat.le_of_ble_eq_true rfl) ?_
  refine lv_if_ne (tgt := 12) hx hb dX16_name_5 (by decide) (fun c9 => absurd (by decide) c9) (fun c9 => ?_)
  refine lv_iconst (v := 1) hx hb dX16_name_8 (by decide) ?_
  refine lv_goto (tgt := 29) hx hb dX16_name_9 (by decide) ?_
  refine va_put (D := (dC, dI)) (ci := 17) (v := .int 1) (ty := .int) (C := RX16) (T := TX16) (N := 24) hx hb hts in_z_M_name_big_X16 tyX16 tyX16_ok nmX16 hown hK hP hD hS 0 rfl rfl 4 (by decide) (hts (.fieldLink RX16 40 "SelfkindleModel" "thrown" "I") (List.mem_of_getElem? (i := 5) rfl)) (fun _ h9 => h9) rfl (by decide +kernel) rfl rfl (Nat.le_of_ble_eq_true rfl) dX16_name_29 (fun H_3 locs hP hD hS => ?_)
  have hP : va_P (dC, dI) vwCl [(h0, .inr (17, [.ref lp, .null, .null, .int 0, .int 1, .ref m1, .ref m2, .ref m3, .ref m4, .ref m5, .null, .null, .int 0, .ref m6, .int 0, .int 0, .int 0, .long 0, .null, .ref m7, .ref m8, .int 0, .int 0, .long 0])), (lp, .inr (0, [.int 0, .ref te, .int 0]))] H_3 := hP
  have hD : va_D A [(h0, .inr (17, [.ref lp, .null, .null, .int 0, .int 1, .ref m1, .ref m2, .ref m3, .ref m4, .ref m5, .null, .null, .int 0, .ref m6, .int 0, .int 0, .int 0, .long 0, .null, .ref m7, .ref m8, .int 0, .int 0, .long 0])), (lp, .inr (0, [.int 0, .ref te, .int 0]))] := hD
  have hK : va_K (dC, dI) vwCl [] s := hK
  refine lv_aload_n hx hb dX16_name_32 rfl (lv_at hl 0 rfl) ?_
  refine va_get (D := (dC, dI)) (ci := 17) (v := .int 1) (C := RX16) (T := TX16) (N := 24) hx hb hts in_z_M_name_big_X16 hown hK hP 0 rfl rfl 4 (by decide) (hts (.fieldLink RX16 40 "SelfkindleModel" "thrown" "I") (List.mem_of_getElem? (i := 5) rfl)) (fun _ h9 => h9) rfl dX16_name_33 ?_
  refine lv_if_le (tgt := 43) hx hb dX16_name_36 (by decide) (fun c9 => absurd c9 (by decide)) (fun c9 => ?_)
  refine lv_iconst (v := 0) hx hb dX16_name_39 (by decide) ?_
  refine lv_goto (tgt := 62) hx hb dX16_name_40 (by decide) ?_
  have hP := hP.sub (ws' := [(h0, .inr (17, [.ref lp, .null, .null, .int 0, .int 1, .ref m1, .ref m2, .ref m3, .ref m4, .ref m5, .null, .null, .int 0, .ref m6, .int 0, .int 0, .int 0, .long 0, .null, .ref m7, .ref m8, .int 0, .int 0, .long 0]))]) [0] rfl
  have hD := hD.sub (ws' := [(h0, .inr (17, [.ref lp, .null, .null, .int 0, .int 1, .ref m1, .ref m2, .ref m3, .ref m4, .ref m5, .null, .null, .int 0, .ref m6, .int 0, .int 0, .int 0, .long 0, .null, .ref m7, .ref m8, .int 0, .int 0, .long 0]))]) [0] (by decide) rfl
  have hK := hK.sub (tys' := []) [] rfl
  refine W.widen (k := 0) (n := 0) (Nat.le_of_ble_eq_true rfl) (Nat.le_of_ble_eq_true rfl) ?_
  exact W.iret (v := 0) hx hb hr (fun t ht hW => ⟨⟨0, (), rfl, rfl, ⟨by rw [ht]; exact hP, va_K.moved hW.alike hK, hD⟩⟩, hS.F ht⟩) hS.2.2 dX16_name_62

set_option maxRecDepth 20000 in
def z_M_function_neg : List Cond := .code yX16_function cX16_function 2 (some .int) :: (([.methodLink RX16 74 yX16_isName, .static yX16_isName, .initialized RX16, .code yX16_isName cX16_isName 1 (some .boolean), .fieldLink RX16 40 "SelfkindleModel" "thrown" "I"] : List Cond) ++ wsX160)
theorem in_z_M_function_neg_X16 : ∀ w ∈ wsX160, w ∈ z_M_function_neg := fun w h => List.mem_cons_of_mem _ (List.mem_append_right _ (h))
set_option maxRecDepth 20000 in
theorem g_M_function_neg_2 : GoodIn z_M_function_neg (va_wsS RX16 74 yX16_isName z_isN_neg) := goodIn_p _ [4] rfl (by decide +kernel)
set_option maxHeartbeats 4000000 in
set_option maxRecDepth 100000 in
theorem c_M_function_neg (l : Launch) (dC : Nat → ClassId) (dI : Nat → Nat → Nat) (tp te : Nat) (sz : Nat) (h0 : Nat) (lp : Nat) (m1 : Nat) (m2 : Nat) (m3 : Nat) (m4 : Nat) (m5 : Nat) (m6 : Nat) (m7 : Nat) (m8 : Nat) (p0 : Int32) (hvn : p0 < 0) : Met l yX16_function z_M_function_neg ({ frames := 1, cells := 0, slots := 0, locals := 20 }) (va_Pc [.ref h0, .int p0] (Pw dC dI [(h0, .inr (17, [.ref lp, .null, .null, .int 0, .int 0, .ref m1, .ref m2, .ref m3, .ref m4, .ref m5, .null, .null, .int 0, .ref m6, .int 0, .int 0, .int 0, .long 0, .null, .ref m7, .ref m8, .int 0, .int 0, .long 0])), (lp, .inr (0, [.int 0, .ref te, .int 0]))] [] sz tp te)) (va_Qi (fun (r : Int32) (_ : Unit) => r = 0) (fun (_ : Unit) (t : State) => Bw dC dI [(h0, .inr (17, [.ref lp, .null, .null, .int 0, .int 1, .ref m1, .ref m2, .ref m3, .ref m4, .ref m5, .null, .null, .int 0, .ref m6, .int 0, .int 0, .int 0, .long 0, .null, .ref m7, .ref m8, .int 0, .int 0, .long 0]))] [] (va_A [(h0, .inr (17, [.ref lp, .null, .null, .int 0, .int 0, .ref m1, .ref m2, .ref m3, .ref m4, .ref m5, .null, .null, .int 0, .ref m6, .int 0, .int 0, .int 0, .long 0, .null, .ref m7, .ref m8, .int 0, .int 0, .long 0])), (lp, .inr (0, [.int 0, .ref te, .int 0]))] sz) t) (va_A [(h0, .inr (17, [.ref lp, .null, .null, .int 0, .int 0, .ref m1, .ref m2, .ref m3, .ref m4, .ref m5, .null, .null, .int 0, .ref m6, .int 0, .int 0, .int 0, .long 0, .null, .ref m7, .ref m8, .int 0, .int 0, .long 0])), (lp, .inr (0, [.int 0, .ref te, .int 0]))] sz)) 0 0 (va_A [(h0, .inr (17, [.ref lp, .null, .null, .int 0, .int 0, .ref m1, .ref m2, .ref m3, .ref m4, .ref m5, .null, .null, .int 0, .ref m6, .int 0, .int 0, .int 0, .long 0, .null, .ref m7, .ref m8, .int 0, .int 0, .long 0])), (lp, .inr (0, [.int 0, .ref te, .int 0]))] sz) := by
  refine Met.ofW (cc := cX16_function) (maxL := 2) (ret := (some .int)) (by decide) rfl ?_
  intro p e s m args below meth c s₁ B hml hv
  obtain ⟨rfl, hsz, hP, hK, hD0, hG⟩ := hv
  have hx := B.exec
  have hb := B.bytes
  have hr := B.returns
  have hts := atoms_spec (ws := z_M_function_neg) B.pre
  have hown : s.vm.findClass RX16 = some m.cls := findClass_of_methodNamed B.named
  have hlocks := B.notSynchronized
  subst hsz
  have hD := hD0.self (sz := s.heap.size)
  generalize hAe : va_A [(h0, .inr (17, [.ref lp, .null, .null, .int 0, .int 0, .ref m1, .ref m2, .ref m3, .ref m4, .ref m5, .null, .null, .int 0, .ref m6, .int 0, .int 0, .int 0, .long 0, .null, .ref m7, .ref m8, .int 0, .int 0, .long 0])), (lp, .inr (0, [.int 0, .ref te, .int 0]))] s.heap.size = A at hD hG ⊢
  have hA : ∀ q : Nat, s.heap.size ≤ q → A q := fun q h => by rw [← hAe]; exact Or.inr h
  have hS : va_S A s.heap s.heap [] := va_S.rf
  have hl := lv_entry ([.ref h0, .int p0]) (n := 2) (Nat.le_of_ble_eq_true rfl)
  rw [lg_entry_eq]
  generalize (lg_sl ([.ref h0, .int p0]) ++ List.replicate (2 - (lg_sl ([.ref h0, .int p0])).length) Slot.unset).toArray = ls at hl ⊢
  have hl : lv_has ls 2 [(0, .ref h0), (1, .int p0)] := hl
  refine lv_aload_n hx hb dX16_function_0 rfl (lv_at hl 0 rfl) ?_
  refine lv_iload_n hx hb dX16_function_1 rfl (lv_at hl 1 rfl) ?_
  have hPc := hP.sub (ws' := []) [] rfl
  have hDc := hD.sub (ws' := []) [] (by decide) rfl
  have hKc := hK.sub (tys' := []) [] rfl
  have hFc := va_free (wc := []) hD hS hA [] rfl
  refine va_calli (va_runS (As := [.int p0]) (rest := [.ref h0]) ⟨hx, hb, hml, hown, hts⟩ (c_isN_neg l dC dI tp te s.heap.size p0 hvn) (va_cwS 1 hts g_M_function_neg_2 rfl rfl rfl (by decide +kernel) ⟨Nat.le_of_ble_eq_true rfl, Nat.le_of_ble_eq_true rfl⟩) ⟨Pw.blind, Pw.mk hPc hKc hDc hG hS hFc⟩ rfl rfl hl.1 rfl (lv_room (Nat.le_of_ble_eq_true rfl)) dX16_function_2 ⟨Nat.le_of_ble_eq_true rfl, Nat.le_of_ble_eq_true rfl⟩) hS (fun q _ h => hFc q h) hFc (fun r u t9 H_1 locs ht hvm hw hB hz1 hk1 hS => ?_)
  have hw : r = 0 := hw
  subst hw
  obtain ⟨hP, hD⟩ := va_join (wr := [(h0, .inr (17, [.ref lp, .null, .null, .int 0, .int 0, .ref m1, .ref m2, .ref m3, .ref m4, .ref m5, .null, .null, .int 0, .ref m6, .int 0, .int 0, .int 0, .long 0, .null, .ref m7, .ref m8, .int 0, .int 0, .long 0])), (lp, .inr (0, [.int 0, .ref te, .int 0]))]) (w1 := []) hP hD [] [0, 1] rfl rfl (by decide) (by decide) hk1 hFc va_P.nil va_D.nil
  have hK := hK.sub (tys' := []) [] rfl
  have hP : va_P (dC, dI) vwCl [(h0, .inr (17, [.ref lp, .null, .null, .int 0, .int 0, .ref m1, .ref m2, .ref m3, .ref m4, .ref m5, .null, .null, .int 0, .ref m6, .int 0, .int 0, .int 0, .long 0, .null, .ref m7, .ref m8, .int 0, .int 0, .long 0])), (lp, .inr (0, [.int 0, .ref te, .int 0]))] H_1 := hP
  have hD : va_D A [(h0, .inr (17, [.ref lp, .null, .null, .int 0, .int 0, .ref m1, .ref m2, .ref m3, .ref m4, .ref m5, .null, .null, .int 0, .ref m6, .int 0, .int 0, .int 0, .long 0, .null, .ref m7, .ref m8, .int 0, .int 0, .long 0])), (lp, .inr (0, [.int 0, .ref te, .int 0]))] := hD
  have hK : va_K (dC, dI) vwCl [] s := hK
  refine W.widen (k := 0) (n := 0) (Nat.le_of_ble_eq_true rfl) (Nat.le_of_ble_eq_true rfl) ?_
  refine lv_if_ne (tgt := 12) hx hb dX16_function_5 (by decide) (fun c9 => absurd (by decide) c9) (fun c9 => ?_)
  refine lv_iconst (v := 1) hx hb dX16_function_8 (by decide) ?_
  refine lv_goto (tgt := 25) hx hb dX16_function_9 (by decide) ?_
  refine va_put (D := (dC, dI)) (ci := 17) (v := .int 1) (ty := .int) (C := RX16) (T := TX16) (N := 24) hx hb hts in_z_M_function_neg_X16 tyX16 tyX16_ok nmX16 hown hK hP hD hS 0 rfl rfl 4 (by decide) (hts (.fieldLink RX16 40 "SelfkindleModel" "thrown" "I") (List.mem_of_getElem? (i := 5) rfl)) (fun _ h9 => h9) rfl (by decide +kernel) rfl rfl (Nat.le_of_ble_eq_true rfl) dX16_function_25 (fun H_3 locs hP hD hS => ?_)
  have hP : va_P (dC, dI) vwCl [(h0, .inr (17, [.ref lp, .null, .null, .int 0, .int 1, .ref m1, .ref m2, .ref m3, .ref m4, .ref m5, .null, .null, .int 0, .ref m6, .int 0, .int 0, .int 0, .long 0, .null, .ref m7, .ref m8, .int 0, .int 0, .long 0])), (lp, .inr (0, [.int 0, .ref te, .int 0]))] H_3 := hP
  have hD : va_D A [(h0, .inr (17, [.ref lp, .null, .null, .int 0, .int 1, .ref m1, .ref m2, .ref m3, .ref m4, .ref m5, .null, .null, .int 0, .ref m6, .int 0, .int 0, .int 0, .long 0, .null, .ref m7, .ref m8, .int 0, .int 0, .long 0])), (lp, .inr (0, [.int 0, .ref te, .int 0]))] := hD
  have hK : va_K (dC, dI) vwCl [] s := hK
  refine lv_aload_n hx hb dX16_function_28 rfl (lv_at hl 0 rfl) ?_
  refine va_get (D := (dC, dI)) (ci := 17) (v := .int 1) (C := RX16) (T := TX16) (N := 24) hx hb hts in_z_M_function_neg_X16 hown hK hP 0 rfl rfl 4 (by decide) (hts (.fieldLink RX16 40 "SelfkindleModel" "thrown" "I") (List.mem_of_getElem? (i := 5) rfl)) (fun _ h9 => h9) rfl dX16_function_29 ?_
  refine lv_if_le (tgt := 39) hx hb dX16_function_32 (by decide) (fun c9 => absurd c9 (by decide)) (fun c9 => ?_)
  refine lv_iconst (v := 0) hx hb dX16_function_35 (by decide) ?_
  refine lv_goto (tgt := 48) hx hb dX16_function_36 (by decide) ?_
  have hP := hP.sub (ws' := [(h0, .inr (17, [.ref lp, .null, .null, .int 0, .int 1, .ref m1, .ref m2, .ref m3, .ref m4, .ref m5, .null, .null, .int 0, .ref m6, .int 0, .int 0, .int 0, .long 0, .null, .ref m7, .ref m8, .int 0, .int 0, .long 0]))]) [0] rfl
  have hD := hD.sub (ws' := [(h0, .inr (17, [.ref lp, .null, .null, .int 0, .int 1, .ref m1, .ref m2, .ref m3, .ref m4, .ref m5, .null, .null, .int 0, .ref m6, .int 0, .int 0, .int 0, .long 0, .null, .ref m7, .ref m8, .int 0, .int 0, .long 0]))]) [0] (by decide) rfl
  have hK := hK.sub (tys' := []) [] rfl
  refine W.widen (k := 0) (n := 0) (Nat.le_of_ble_eq_true rfl) (Nat.le_of_ble_eq_true rfl) ?_
  exact W.iret (v := 0) hx hb hr (fun t ht hW => ⟨⟨0, (), rfl, rfl, ⟨by rw [ht]; exact hP, va_K.moved hW.alike hK, hD⟩⟩, hS.F ht⟩) hS.2.2 dX16_function_48

set_option maxRecDepth 20000 in
def z_M_function_big : List Cond := .code yX16_function cX16_function 2 (some .int) :: (([.methodLink RX16 74 yX16_isName, .static yX16_isName, .initialized RX16, .code yX16_isName cX16_isName 1 (some .boolean), .fieldLink RX16 40 "SelfkindleModel" "thrown" "I"] : List Cond) ++ wsX160)
theorem in_z_M_function_big_X16 : ∀ w ∈ wsX160, w ∈ z_M_function_big := fun w h => List.mem_cons_of_mem _ (List.mem_append_right _ (h))
set_option maxRecDepth 20000 in
theorem g_M_function_big_2 : GoodIn z_M_function_big (va_wsS RX16 74 yX16_isName z_isN_big) := goodIn_p _ [4] rfl (by decide +kernel)
set_option maxHeartbeats 4000000 in
set_option maxRecDepth 100000 in
theorem c_M_function_big (l : Launch) (dC : Nat → ClassId) (dI : Nat → Nat → Nat) (tp te : Nat) (sz : Nat) (h0 : Nat) (lp : Nat) (m1 : Nat) (m2 : Nat) (m3 : Nat) (m4 : Nat) (m5 : Nat) (m6 : Nat) (m7 : Nat) (m8 : Nat) (p0 : Int32) (hvn : ¬ p0 < 0) (hvb : ¬ p0 < 10) (hvc : 10 ≤ p0) : Met l yX16_function z_M_function_big ({ frames := 1, cells := 0, slots := 0, locals := 20 }) (va_Pc [.ref h0, .int p0] (Pw dC dI [(h0, .inr (17, [.ref lp, .null, .null, .int 0, .int 0, .ref m1, .ref m2, .ref m3, .ref m4, .ref m5, .null, .null, .int 0, .ref m6, .int 0, .int 0, .int 0, .long 0, .null, .ref m7, .ref m8, .int 0, .int 0, .long 0])), (lp, .inr (0, [.int 0, .ref te, .int 0]))] [] sz tp te)) (va_Qi (fun (r : Int32) (_ : Unit) => r = 0) (fun (_ : Unit) (t : State) => Bw dC dI [(h0, .inr (17, [.ref lp, .null, .null, .int 0, .int 1, .ref m1, .ref m2, .ref m3, .ref m4, .ref m5, .null, .null, .int 0, .ref m6, .int 0, .int 0, .int 0, .long 0, .null, .ref m7, .ref m8, .int 0, .int 0, .long 0]))] [] (va_A [(h0, .inr (17, [.ref lp, .null, .null, .int 0, .int 0, .ref m1, .ref m2, .ref m3, .ref m4, .ref m5, .null, .null, .int 0, .ref m6, .int 0, .int 0, .int 0, .long 0, .null, .ref m7, .ref m8, .int 0, .int 0, .long 0])), (lp, .inr (0, [.int 0, .ref te, .int 0]))] sz) t) (va_A [(h0, .inr (17, [.ref lp, .null, .null, .int 0, .int 0, .ref m1, .ref m2, .ref m3, .ref m4, .ref m5, .null, .null, .int 0, .ref m6, .int 0, .int 0, .int 0, .long 0, .null, .ref m7, .ref m8, .int 0, .int 0, .long 0])), (lp, .inr (0, [.int 0, .ref te, .int 0]))] sz)) 0 0 (va_A [(h0, .inr (17, [.ref lp, .null, .null, .int 0, .int 0, .ref m1, .ref m2, .ref m3, .ref m4, .ref m5, .null, .null, .int 0, .ref m6, .int 0, .int 0, .int 0, .long 0, .null, .ref m7, .ref m8, .int 0, .int 0, .long 0])), (lp, .inr (0, [.int 0, .ref te, .int 0]))] sz) := by
  refine Met.ofW (cc := cX16_function) (maxL := 2) (ret := (some .int)) (by decide) rfl ?_
  intro p e s m args below meth c s₁ B hml hv
  obtain ⟨rfl, hsz, hP, hK, hD0, hG⟩ := hv
  have hx := B.exec
  have hb := B.bytes
  have hr := B.returns
  have hts := atoms_spec (ws := z_M_function_big) B.pre
  have hown : s.vm.findClass RX16 = some m.cls := findClass_of_methodNamed B.named
  have hlocks := B.notSynchronized
  subst hsz
  have hD := hD0.self (sz := s.heap.size)
  generalize hAe : va_A [(h0, .inr (17, [.ref lp, .null, .null, .int 0, .int 0, .ref m1, .ref m2, .ref m3, .ref m4, .ref m5, .null, .null, .int 0, .ref m6, .int 0, .int 0, .int 0, .long 0, .null, .ref m7, .ref m8, .int 0, .int 0, .long 0])), (lp, .inr (0, [.int 0, .ref te, .int 0]))] s.heap.size = A at hD hG ⊢
  have hA : ∀ q : Nat, s.heap.size ≤ q → A q := fun q h => by rw [← hAe]; exact Or.inr h
  have hS : va_S A s.heap s.heap [] := va_S.rf
  have hl := lv_entry ([.ref h0, .int p0]) (n := 2) (Nat.le_of_ble_eq_true rfl)
  rw [lg_entry_eq]
  generalize (lg_sl ([.ref h0, .int p0]) ++ List.replicate (2 - (lg_sl ([.ref h0, .int p0])).length) Slot.unset).toArray = ls at hl ⊢
  have hl : lv_has ls 2 [(0, .ref h0), (1, .int p0)] := hl
  refine lv_aload_n hx hb dX16_function_0 rfl (lv_at hl 0 rfl) ?_
  refine lv_iload_n hx hb dX16_function_1 rfl (lv_at hl 1 rfl) ?_
  have hPc := hP.sub (ws' := []) [] rfl
  have hDc := hD.sub (ws' := []) [] (by decide) rfl
  have hKc := hK.sub (tys' := []) [] rfl
  have hFc := va_free (wc := []) hD hS hA [] rfl
  refine va_calli (va_runS (As := [.int p0]) (rest := [.ref h0]) ⟨hx, hb, hml, hown, hts⟩ (c_isN_big l dC dI tp te s.heap.size p0 hvn hvb hvc) (va_cwS 1 hts g_M_function_big_2 rfl rfl rfl (by decide +kernel) ⟨Nat.le_of_ble_eq_true rfl, Nat.le_of_ble_eq_true rfl⟩) ⟨Pw.blind, Pw.mk hPc hKc hDc hG hS hFc⟩ rfl rfl hl.1 rfl (lv_room (Nat.le_of_ble_eq_true rfl)) dX16_function_2 ⟨Nat.le_of_ble_eq_true rfl, Nat.le_of_ble_eq_true rfl⟩) hS (fun q _ h => hFc q h) hFc (fun r u t9 H_1 locs ht hvm hw hB hz1 hk1 hS => ?_)
  have hw : r = 0 := hw
  subst hw
  obtain ⟨hP, hD⟩ := va_join (wr := [(h0, .inr (17, [.ref lp, .null, .null, .int 0, .int 0, .ref m1, .ref m2, .ref m3, .ref m4, .ref m5, .null, .null, .int 0, .ref m6, .int 0, .int 0, .int 0, .long 0, .null, .ref m7, .ref m8, .int 0, .int 0, .long 0])), (lp, .inr (0, [.int 0, .ref te, .int 0]))]) (w1 := []) hP hD [] [0, 1] rfl rfl (by decide) (by decide) hk1 hFc va_P.nil va_D.nil
  have hK := hK.sub (tys' := []) [] rfl
  have hP : va_P (dC, dI) vwCl [(h0, .inr (17, [.ref lp, .null, .null, .int 0, .int 0, .ref m1, .ref m2, .ref m3, .ref m4, .ref m5, .null, .null, .int 0, .ref m6, .int 0, .int 0, .int 0, .long 0, .null, .ref m7, .ref m8, .int 0, .int 0, .long 0])), (lp, .inr (0, [.int 0, .ref te, .int 0]))] H_1 := hP
  have hD : va_D A [(h0, .inr (17, [.ref lp, .null, .null, .int 0, .int 0, .ref m1, .ref m2, .ref m3, .ref m4, .ref m5, .null, .null, .int 0, .ref m6, .int 0, .int 0, .int 0, .long 0, .null, .ref m7, .ref m8, .int 0, .int 0, .long 0])), (lp, .inr (0, [.int 0, .ref te, .int 0]))] := hD
  have hK : va_K (dC, dI) vwCl [] s := hK
  refine W.widen (k := 0) (n := 0) (Nat.le_of_ble_eq_true rfl) (Nat.le_of_ble_eq_true rfl) ?_
  refine lv_if_ne (tgt := 12) hx hb dX16_function_5 (by decide) (fun c9 => absurd (by decide) c9) (fun c9 => ?_)
  refine lv_iconst (v := 1) hx hb dX16_function_8 (by decide) ?_
  refine lv_goto (tgt := 25) hx hb dX16_function_9 (by decide) ?_
  refine va_put (D := (dC, dI)) (ci := 17) (v := .int 1) (ty := .int) (C := RX16) (T := TX16) (N := 24) hx hb hts in_z_M_function_big_X16 tyX16 tyX16_ok nmX16 hown hK hP hD hS 0 rfl rfl 4 (by decide) (hts (.fieldLink RX16 40 "SelfkindleModel" "thrown" "I") (List.mem_of_getElem? (i := 5) rfl)) (fun _ h9 => h9) rfl (by decide +kernel) rfl rfl (Nat.le_of_ble_eq_true rfl) dX16_function_25 (fun H_3 locs hP hD hS => ?_)
  have hP : va_P (dC, dI) vwCl [(h0, .inr (17, [.ref lp, .null, .null, .int 0, .int 1, .ref m1, .ref m2, .ref m3, .ref m4, .ref m5, .null, .null, .int 0, .ref m6, .int 0, .int 0, .int 0, .long 0, .null, .ref m7, .ref m8, .int 0, .int 0, .long 0])), (lp, .inr (0, [.int 0, .ref te, .int 0]))] H_3 := hP
  have hD : va_D A [(h0, .inr (17, [.ref lp, .null, .null, .int 0, .int 1, .ref m1, .ref m2, .ref m3, .ref m4, .ref m5, .null, .null, .int 0, .ref m6, .int 0, .int 0, .int 0, .long 0, .null, .ref m7, .ref m8, .int 0, .int 0, .long 0])), (lp, .inr (0, [.int 0, .ref te, .int 0]))] := hD
  have hK : va_K (dC, dI) vwCl [] s := hK
  refine lv_aload_n hx hb dX16_function_28 rfl (lv_at hl 0 rfl) ?_
  refine va_get (D := (dC, dI)) (ci := 17) (v := .int 1) (C := RX16) (T := TX16) (N := 24) hx hb hts in_z_M_function_big_X16 hown hK hP 0 rfl rfl 4 (by decide) (hts (.fieldLink RX16 40 "SelfkindleModel" "thrown" "I") (List.mem_of_getElem? (i := 5) rfl)) (fun _ h9 => h9) rfl dX16_function_29 ?_
  refine lv_if_le (tgt := 39) hx hb dX16_function_32 (by decide) (fun c9 => absurd c9 (by decide)) (fun c9 => ?_)
  refine lv_iconst (v := 0) hx hb dX16_function_35 (by decide) ?_
  refine lv_goto (tgt := 48) hx hb dX16_function_36 (by decide) ?_
  have hP := hP.sub (ws' := [(h0, .inr (17, [.ref lp, .null, .null, .int 0, .int 1, .ref m1, .ref m2, .ref m3, .ref m4, .ref m5, .null, .null, .int 0, .ref m6, .int 0, .int 0, .int 0, .long 0, .null, .ref m7, .ref m8, .int 0, .int 0, .long 0]))]) [0] rfl
  have hD := hD.sub (ws' := [(h0, .inr (17, [.ref lp, .null, .null, .int 0, .int 1, .ref m1, .ref m2, .ref m3, .ref m4, .ref m5, .null, .null, .int 0, .ref m6, .int 0, .int 0, .int 0, .long 0, .null, .ref m7, .ref m8, .int 0, .int 0, .long 0]))]) [0] (by decide) rfl
  have hK := hK.sub (tys' := []) [] rfl
  refine W.widen (k := 0) (n := 0) (Nat.le_of_ble_eq_true rfl) (Nat.le_of_ble_eq_true rfl) ?_
  exact W.iret (v := 0) hx hb hr (fun t ht hW => ⟨⟨0, (), rfl, rfl, ⟨by rw [ht]; exact hP, va_K.moved hW.alike hK, hD⟩⟩, hS.F ht⟩) hS.2.2 dX16_function_48

set_option maxRecDepth 20000 in
def z_M_function_ok : List Cond := .code yX16_function cX16_function 2 (some .int) :: (([.methodLink RX16 74 yX16_isName, .static yX16_isName, .initialized RX16, .code yX16_isName cX16_isName 1 (some .boolean), .methodLink RX16 78 yX16_fits, .instanceMethod yX16_fits, .selects RX16 yX16_fits yX16_fits, .code yX16_fits cX16_fits 5 (some .boolean), .fieldLink RX16 10 "SelfkindleModel" "pile" "Ljava/util/ArrayList;", .methodLink RX16 44 yJx4a65c_size_8abf5, .instanceMethod yJx4a65c_size_8abf5, .selects RJx4a65c yJx4a65c_size_8abf5 yJx4a65c_size_8abf5, .initialized RJx4a65c, .code yJx4a65c_size_8abf5 cJx4a65c_size_8abf5 1 (some .int), .fieldLink RJx4a65c 48 "java/util/ArrayList" "size" "I", .fieldLink RX16 40 "SelfkindleModel" "thrown" "I"] : List Cond) ++ wsX160 ++ wsJx4a65c0)
theorem in_z_M_function_ok_X16 : ∀ w ∈ wsX160, w ∈ z_M_function_ok := fun w h => List.mem_cons_of_mem _ (List.mem_append_left _ (List.mem_append_right _ (h)))
theorem in_z_M_function_ok_Jx4a65c : ∀ w ∈ wsJx4a65c0, w ∈ z_M_function_ok := fun w h => List.mem_cons_of_mem _ (List.mem_append_right _ (h))
set_option maxRecDepth 20000 in
theorem g_M_function_ok_2 : GoodIn z_M_function_ok (va_wsS RX16 74 yX16_isName z_isN_ok) := goodIn_p _ [4] rfl (by decide +kernel)
set_option maxRecDepth 20000 in
theorem g_M_function_ok_14 : GoodIn z_M_function_ok (wsV RX16 78 RX16 yX16_fits z_fits1) := goodIn_p _ [8, 14] rfl (by decide +kernel)
set_option maxHeartbeats 4000000 in
set_option maxRecDepth 100000 in
theorem c_M_function_ok (l : Launch) (dC : Nat → ClassId) (dI : Nat → Nat → Nat) (tp te : Nat) (sz : Nat) (h0 : Nat) (lp : Nat) (m1 : Nat) (m2 : Nat) (m3 : Nat) (m4 : Nat) (m5 : Nat) (m6 : Nat) (m7 : Nat) (m8 : Nat) (p0 : Int32) (hvn : ¬ p0 < 0) (hvb : p0 < 10) (hvc : ¬ 10 ≤ p0) : Met l yX16_function z_M_function_ok ({ frames := 2, cells := 0, slots := 0, locals := 44 }) (va_Pc [.ref h0, .int p0] (Pw dC dI [(h0, .inr (17, [.ref lp, .null, .null, .int 0, .int 0, .ref m1, .ref m2, .ref m3, .ref m4, .ref m5, .null, .null, .int 0, .ref m6, .int 0, .int 0, .int 0, .long 0, .null, .ref m7, .ref m8, .int 0, .int 0, .long 0])), (lp, .inr (0, [.int 0, .ref te, .int 0]))] [] sz tp te)) (va_Qi (fun (r : Int32) (_ : Unit) => r = 0) (fun (_ : Unit) (t : State) => Bw dC dI [(h0, .inr (17, [.ref lp, .null, .null, .int 0, .int 2, .ref m1, .ref m2, .ref m3, .ref m4, .ref m5, .null, .null, .int 0, .ref m6, .int 0, .int 0, .int 0, .long 0, .null, .ref m7, .ref m8, .int 0, .int 0, .long 0]))] [] (va_A [(h0, .inr (17, [.ref lp, .null, .null, .int 0, .int 0, .ref m1, .ref m2, .ref m3, .ref m4, .ref m5, .null, .null, .int 0, .ref m6, .int 0, .int 0, .int 0, .long 0, .null, .ref m7, .ref m8, .int 0, .int 0, .long 0])), (lp, .inr (0, [.int 0, .ref te, .int 0]))] sz) t) (va_A [(h0, .inr (17, [.ref lp, .null, .null, .int 0, .int 0, .ref m1, .ref m2, .ref m3, .ref m4, .ref m5, .null, .null, .int 0, .ref m6, .int 0, .int 0, .int 0, .long 0, .null, .ref m7, .ref m8, .int 0, .int 0, .long 0])), (lp, .inr (0, [.int 0, .ref te, .int 0]))] sz)) 0 0 (va_A [(h0, .inr (17, [.ref lp, .null, .null, .int 0, .int 0, .ref m1, .ref m2, .ref m3, .ref m4, .ref m5, .null, .null, .int 0, .ref m6, .int 0, .int 0, .int 0, .long 0, .null, .ref m7, .ref m8, .int 0, .int 0, .long 0])), (lp, .inr (0, [.int 0, .ref te, .int 0]))] sz) := by
  refine Met.ofW (cc := cX16_function) (maxL := 2) (ret := (some .int)) (by decide) rfl ?_
  intro p e s m args below meth c s₁ B hml hv
  obtain ⟨rfl, hsz, hP, hK, hD0, hG⟩ := hv
  have hx := B.exec
  have hb := B.bytes
  have hr := B.returns
  have hts := atoms_spec (ws := z_M_function_ok) B.pre
  have hown : s.vm.findClass RX16 = some m.cls := findClass_of_methodNamed B.named
  have hlocks := B.notSynchronized
  subst hsz
  have hD := hD0.self (sz := s.heap.size)
  generalize hAe : va_A [(h0, .inr (17, [.ref lp, .null, .null, .int 0, .int 0, .ref m1, .ref m2, .ref m3, .ref m4, .ref m5, .null, .null, .int 0, .ref m6, .int 0, .int 0, .int 0, .long 0, .null, .ref m7, .ref m8, .int 0, .int 0, .long 0])), (lp, .inr (0, [.int 0, .ref te, .int 0]))] s.heap.size = A at hD hG ⊢
  have hA : ∀ q : Nat, s.heap.size ≤ q → A q := fun q h => by rw [← hAe]; exact Or.inr h
  have hS : va_S A s.heap s.heap [] := va_S.rf
  have hl := lv_entry ([.ref h0, .int p0]) (n := 2) (Nat.le_of_ble_eq_true rfl)
  rw [lg_entry_eq]
  generalize (lg_sl ([.ref h0, .int p0]) ++ List.replicate (2 - (lg_sl ([.ref h0, .int p0])).length) Slot.unset).toArray = ls at hl ⊢
  have hl : lv_has ls 2 [(0, .ref h0), (1, .int p0)] := hl
  refine lv_aload_n hx hb dX16_function_0 rfl (lv_at hl 0 rfl) ?_
  refine lv_iload_n hx hb dX16_function_1 rfl (lv_at hl 1 rfl) ?_
  have hPc := hP.sub (ws' := []) [] rfl
  have hDc := hD.sub (ws' := []) [] (by decide) rfl
  have hKc := hK.sub (tys' := []) [] rfl
  have hFc := va_free (wc := []) hD hS hA [] rfl
  refine va_calli (va_runS (As := [.int p0]) (rest := [.ref h0]) ⟨hx, hb, hml, hown, hts⟩ (c_isN_ok l dC dI tp te s.heap.size p0 hvn hvb hvc) (va_cwS 1 hts g_M_function_ok_2 rfl rfl rfl (by decide +kernel) ⟨Nat.le_of_ble_eq_true rfl, Nat.le_of_ble_eq_true rfl⟩) ⟨Pw.blind, Pw.mk hPc hKc hDc hG hS hFc⟩ rfl rfl hl.1 rfl (lv_room (Nat.le_of_ble_eq_true rfl)) dX16_function_2 ⟨Nat.le_of_ble_eq_true rfl, Nat.le_of_ble_eq_true rfl⟩) hS (fun q _ h => hFc q h) hFc (fun r u t9 H_1 locs ht hvm hw hB hz1 hk1 hS => ?_)
  have hw : r = 1 := hw
  subst hw
  obtain ⟨hP, hD⟩ := va_join (wr := [(h0, .inr (17, [.ref lp, .null, .null, .int 0, .int 0, .ref m1, .ref m2, .ref m3, .ref m4, .ref m5, .null, .null, .int 0, .ref m6, .int 0, .int 0, .int 0, .long 0, .null, .ref m7, .ref m8, .int 0, .int 0, .long 0])), (lp, .inr (0, [.int 0, .ref te, .int 0]))]) (w1 := []) hP hD [] [0, 1] rfl rfl (by decide) (by decide) hk1 hFc va_P.nil va_D.nil
  have hK := hK.sub (tys' := []) [] rfl
  have hP : va_P (dC, dI) vwCl [(h0, .inr (17, [.ref lp, .null, .null, .int 0, .int 0, .ref m1, .ref m2, .ref m3, .ref m4, .ref m5, .null, .null, .int 0, .ref m6, .int 0, .int 0, .int 0, .long 0, .null, .ref m7, .ref m8, .int 0, .int 0, .long 0])), (lp, .inr (0, [.int 0, .ref te, .int 0]))] H_1 := hP
  have hD : va_D A [(h0, .inr (17, [.ref lp, .null, .null, .int 0, .int 0, .ref m1, .ref m2, .ref m3, .ref m4, .ref m5, .null, .null, .int 0, .ref m6, .int 0, .int 0, .int 0, .long 0, .null, .ref m7, .ref m8, .int 0, .int 0, .long 0])), (lp, .inr (0, [.int 0, .ref te, .int 0]))] := hD
  have hK : va_K (dC, dI) vwCl [] s := hK
  refine W.widen (k := 0) (n := 0) (Nat.le_of_ble_eq_true rfl) (Nat.le_of_ble_eq_true rfl) ?_
  refine lv_if_ne (tgt := 12) hx hb dX16_function_5 (by decide) (fun c9 => ?_) (fun c9 => absurd c9 (by decide))
  refine lv_aload_n hx hb dX16_function_12 rfl (lv_at hl 0 rfl) ?_
  refine lv_iconst (v := 1) hx hb dX16_function_13 (by decide) ?_
  have hPc := hP.sub (ws' := [(h0, .inr (17, [.ref lp, .null, .null, .int 0, .int 0, .ref m1, .ref m2, .ref m3, .ref m4, .ref m5, .null, .null, .int 0, .ref m6, .int 0, .int 0, .int 0, .long 0, .null, .ref m7, .ref m8, .int 0, .int 0, .long 0])), (lp, .inr (0, [.int 0, .ref te, .int 0]))]) [0, 1] rfl
  have hDc := hD.sub (ws' := [(h0, .inr (17, [.ref lp, .null, .null, .int 0, .int 0, .ref m1, .ref m2, .ref m3, .ref m4, .ref m5, .null, .null, .int 0, .ref m6, .int 0, .int 0, .int 0, .long 0, .null, .ref m7, .ref m8, .int 0, .int 0, .long 0])), (lp, .inr (0, [.int 0, .ref te, .int 0]))]) [0, 1] (by decide) rfl
  have hKc := hK.sub (tys' := []) [] rfl
  have hFc := va_free (wc := [(h0, .inr (17, [.ref lp, .null, .null, .int 0, .int 0, .ref m1, .ref m2, .ref m3, .ref m4, .ref m5, .null, .null, .int 0, .ref m6, .int 0, .int 0, .int 0, .long 0, .null, .ref m7, .ref m8, .int 0, .int 0, .long 0])), (lp, .inr (0, [.int 0, .ref te, .int 0]))]) hD hS hA [0, 1] rfl
  refine va_calli (va_runV (As := [.int 1]) (rest := [.ref h0]) ⟨hx, hb, hml, hown, hts⟩ (c_fits1 l dC dI tp te H_1.size h0 lp m1 m2 m3 m4 m5 m6 m7 m8) (cwV 1 hts g_M_function_ok_14 rfl rfl rfl (by decide +kernel) ⟨Nat.le_of_ble_eq_true rfl, Nat.le_of_ble_eq_true rfl⟩) ⟨Pw.blind, va_recv hKc hPc (ci := 17) (q0 := 0) rfl rfl, Pw.mk hPc hKc hDc hG hS hFc⟩ rfl rfl hl.1 rfl (lv_room (Nat.le_of_ble_eq_true rfl)) dX16_function_14 ⟨Nat.le_of_ble_eq_true rfl, Nat.le_of_ble_eq_true rfl⟩) hS (fun q _ h => hFc q h) hFc (fun r u t9 H_3 locs ht hvm hw hB hz1 hk1 hS => ?_)
  have hw : r = 0 := hw
  subst hw
  obtain ⟨hP1, hK1, hD1⟩ := hB
  rw [ht] at hP1
  have hK1 := va_K.moved hvm.symm hK1
  obtain ⟨hP, hD⟩ := va_join (wr := []) (w1 := [(h0, .inr (17, [.ref lp, .null, .null, .int 0, .int 0, .ref m1, .ref m2, .ref m3, .ref m4, .ref m5, .null, .null, .int 0, .ref m6, .int 0, .int 0, .int 0, .long 0, .null, .ref m7, .ref m8, .int 0, .int 0, .long 0])), (lp, .inr (0, [.int 0, .ref te, .int 0]))]) hP hD [0, 1] [] rfl rfl (by decide) (by decide) hk1 hFc hP1 hD1
  have hK := (hK.sub (tys' := []) [] rfl).app hK1
  have hP : va_P (dC, dI) vwCl [(h0, .inr (17, [.ref lp, .null, .null, .int 0, .int 0, .ref m1, .ref m2, .ref m3, .ref m4, .ref m5, .null, .null, .int 0, .ref m6, .int 0, .int 0, .int 0, .long 0, .null, .ref m7, .ref m8, .int 0, .int 0, .long 0])), (lp, .inr (0, [.int 0, .ref te, .int 0]))] H_3 := hP
  have hD : va_D A [(h0, .inr (17, [.ref lp, .null, .null, .int 0, .int 0, .ref m1, .ref m2, .ref m3, .ref m4, .ref m5, .null, .null, .int 0, .ref m6, .int 0, .int 0, .int 0, .long 0, .null, .ref m7, .ref m8, .int 0, .int 0, .long 0])), (lp, .inr (0, [.int 0, .ref te, .int 0]))] := hD
  have hK : va_K (dC, dI) vwCl [] s := hK
  refine W.widen (k := 0) (n := 0) (Nat.le_of_ble_eq_true rfl) (Nat.le_of_ble_eq_true rfl) ?_
  refine lv_if_ne (tgt := 24) hx hb dX16_function_17 (by decide) (fun c9 => absurd (by decide) c9) (fun c9 => ?_)
  refine lv_iconst (v := 2) hx hb dX16_function_20 (by decide) ?_
  refine lv_goto (tgt := 25) hx hb dX16_function_21 (by decide) ?_
  refine va_put (D := (dC, dI)) (ci := 17) (v := .int 2) (ty := .int) (C := RX16) (T := TX16) (N := 24) hx hb hts in_z_M_function_ok_X16 tyX16 tyX16_ok nmX16 hown hK hP hD hS 0 rfl rfl 4 (by decide) (hts (.fieldLink RX16 40 "SelfkindleModel" "thrown" "I") (List.mem_of_getElem? (i := 16) rfl)) (fun _ h9 => h9) rfl (by decide +kernel) rfl rfl (Nat.le_of_ble_eq_true rfl) dX16_function_25 (fun H_5 locs hP hD hS => ?_)
  have hP : va_P (dC, dI) vwCl [(h0, .inr (17, [.ref lp, .null, .null, .int 0, .int 2, .ref m1, .ref m2, .ref m3, .ref m4, .ref m5, .null, .null, .int 0, .ref m6, .int 0, .int 0, .int 0, .long 0, .null, .ref m7, .ref m8, .int 0, .int 0, .long 0])), (lp, .inr (0, [.int 0, .ref te, .int 0]))] H_5 := hP
  have hD : va_D A [(h0, .inr (17, [.ref lp, .null, .null, .int 0, .int 2, .ref m1, .ref m2, .ref m3, .ref m4, .ref m5, .null, .null, .int 0, .ref m6, .int 0, .int 0, .int 0, .long 0, .null, .ref m7, .ref m8, .int 0, .int 0, .long 0])), (lp, .inr (0, [.int 0, .ref te, .int 0]))] := hD
  have hK : va_K (dC, dI) vwCl [] s := hK
  refine lv_aload_n hx hb dX16_function_28 rfl (lv_at hl 0 rfl) ?_
  refine va_get (D := (dC, dI)) (ci := 17) (v := .int 2) (C := RX16) (T := TX16) (N := 24) hx hb hts in_z_M_function_ok_X16 hown hK hP 0 rfl rfl 4 (by decide) (hts (.fieldLink RX16 40 "SelfkindleModel" "thrown" "I") (List.mem_of_getElem? (i := 16) rfl)) (fun _ h9 => h9) rfl dX16_function_29 ?_
  refine lv_if_le (tgt := 39) hx hb dX16_function_32 (by decide) (fun c9 => absurd c9 (by decide)) (fun c9 => ?_)
  refine lv_iconst (v := 0) hx hb dX16_function_35 (by decide) ?_
  refine lv_goto (tgt := 48) hx hb dX16_function_36 (by decide) ?_
  have hP := hP.sub (ws' := [(h0, .inr (17, [.ref lp, .null, .null, .int 0, .int 2, .ref m1, .ref m2, .ref m3, .ref m4, .ref m5, .null, .null, .int 0, .ref m6, .int 0, .int 0, .int 0, .long 0, .null, .ref m7, .ref m8, .int 0, .int 0, .long 0]))]) [0] rfl
  have hD := hD.sub (ws' := [(h0, .inr (17, [.ref lp, .null, .null, .int 0, .int 2, .ref m1, .ref m2, .ref m3, .ref m4, .ref m5, .null, .null, .int 0, .ref m6, .int 0, .int 0, .int 0, .long 0, .null, .ref m7, .ref m8, .int 0, .int 0, .long 0]))]) [0] (by decide) rfl
  have hK := hK.sub (tys' := []) [] rfl
  refine W.widen (k := 0) (n := 0) (Nat.le_of_ble_eq_true rfl) (Nat.le_of_ble_eq_true rfl) ?_
  exact W.iret (v := 0) hx hb hr (fun t ht hW => ⟨⟨0, (), rfl, rfl, ⟨by rw [ht]; exact hP, va_K.moved hW.alike hK, hD⟩⟩, hS.F ht⟩) hS.2.2 dX16_function_48
