abbrev cX0_init : ByteArray := prog_2_method_1_code
def yX0_init : MethodName := ⟨RX0, "<init>", "()V"⟩
abbrev cX1_init : ByteArray := prog_3_method_1_code
def yX1_init : MethodName := ⟨RX1, "<init>", "(I)V"⟩
abbrev cX3_init : ByteArray := prog_5_method_1_code
def yX3_init : MethodName := ⟨RX3, "<init>", "(LSelfkindle$Code;)V"⟩
abbrev cX4_init : ByteArray := prog_6_method_1_code
def yX4_init : MethodName := ⟨RX4, "<init>", "()V"⟩
abbrev cX5_init : ByteArray := prog_7_method_1_code
def yX5_init : MethodName := ⟨RX5, "<init>", "(I)V"⟩
abbrev cX6_init : ByteArray := prog_8_method_1_code
def yX6_init : MethodName := ⟨RX6, "<init>", "()V"⟩
abbrev cX7_init : ByteArray := prog_1_method_1_code
def yX7_init : MethodName := ⟨RX7, "<init>", "()V"⟩
theorem dX0_init_0 : decode cX0_init 0 = .ok (.aload_n 0, 1) := by decide +kernel
theorem dX0_init_1 : decode cX0_init 1 = .ok (.invokespecial 5, 3) := by decide +kernel
theorem dX0_init_4 : decode cX0_init 4 = .ok (.aload_n 0, 1) := by decide +kernel
theorem dX0_init_5 : decode cX0_init 5 = .ok (.sipush 240, 3) := by decide +kernel
theorem dX0_init_8 : decode cX0_init 8 = .ok (.newarray .int, 2) := by decide +kernel
theorem dX0_init_10 : decode cX0_init 10 = .ok (.putfield 11, 3) := by decide +kernel
theorem dX0_init_13 : decode cX0_init 13 = .ok (.aload_n 0, 1) := by decide +kernel
theorem dX0_init_14 : decode cX0_init 14 = .ok (.sipush 240, 3) := by decide +kernel
theorem dX0_init_17 : decode cX0_init 17 = .ok (.newarray .long, 2) := by decide +kernel
theorem dX0_init_19 : decode cX0_init 19 = .ok (.putfield 15, 3) := by decide +kernel
theorem dX0_init_22 : decode cX0_init 22 = .ok (.aload_n 0, 1) := by decide +kernel
theorem dX0_init_23 : decode cX0_init 23 = .ok (.sipush 240, 3) := by decide +kernel
theorem dX0_init_26 : decode cX0_init 26 = .ok (.newarray .int, 2) := by decide +kernel
theorem dX0_init_28 : decode cX0_init 28 = .ok (.putfield 19, 3) := by decide +kernel
theorem dX0_init_31 : decode cX0_init 31 = .ok (.aload_n 0, 1) := by decide +kernel
theorem dX0_init_32 : decode cX0_init 32 = .ok (.sipush 240, 3) := by decide +kernel
theorem dX0_init_35 : decode cX0_init 35 = .ok (.newarray .boolean, 2) := by decide +kernel
theorem dX0_init_37 : decode cX0_init 37 = .ok (.putfield 22, 3) := by decide +kernel
theorem dX0_init_40 : decode cX0_init 40 = .ok (.aload_n 0, 1) := by decide +kernel
theorem dX0_init_41 : decode cX0_init 41 = .ok (.bipush 60, 2) := by decide +kernel
theorem dX0_init_43 : decode cX0_init 43 = .ok (.newarray .int, 2) := by decide +kernel
theorem dX0_init_45 : decode cX0_init 45 = .ok (.putfield 26, 3) := by decide +kernel
theorem dX0_init_48 : decode cX0_init 48 = .ok (.aload_n 0, 1) := by decide +kernel
theorem dX0_init_49 : decode cX0_init 49 = .ok (.bipush 60, 2) := by decide +kernel
theorem dX0_init_51 : decode cX0_init 51 = .ok (.newarray .int, 2) := by decide +kernel
theorem dX0_init_53 : decode cX0_init 53 = .ok (.putfield 29, 3) := by decide +kernel
theorem dX0_init_56 : decode cX0_init 56 = .ok (.return_, 1) := by decide +kernel
theorem dX1_init_0 : decode cX1_init 0 = .ok (.aload_n 0, 1) := by decide +kernel
theorem dX1_init_1 : decode cX1_init 1 = .ok (.invokespecial 3, 3) := by decide +kernel
theorem dX1_init_4 : decode cX1_init 4 = .ok (.aload_n 0, 1) := by decide +kernel
theorem dX1_init_5 : decode cX1_init 5 = .ok (.iload_n 1, 1) := by decide +kernel
theorem dX1_init_6 : decode cX1_init 6 = .ok (.ifCond .le 7, 3) := by decide +kernel
theorem dX1_init_9 : decode cX1_init 9 = .ok (.iload_n 1, 1) := by decide +kernel
theorem dX1_init_10 : decode cX1_init 10 = .ok (.goto 4, 3) := by decide +kernel
theorem dX1_init_14 : decode cX1_init 14 = .ok (.putfield 9, 3) := by decide +kernel
theorem dX1_init_17 : decode cX1_init 17 = .ok (.aload_n 0, 1) := by decide +kernel
theorem dX1_init_18 : decode cX1_init 18 = .ok (.aload_n 0, 1) := by decide +kernel
theorem dX1_init_19 : decode cX1_init 19 = .ok (.getfield 9, 3) := by decide +kernel
theorem dX1_init_22 : decode cX1_init 22 = .ok (.newarray .int, 2) := by decide +kernel
theorem dX1_init_24 : decode cX1_init 24 = .ok (.putfield 15, 3) := by decide +kernel
theorem dX1_init_27 : decode cX1_init 27 = .ok (.aload_n 0, 1) := by decide +kernel
theorem dX1_init_28 : decode cX1_init 28 = .ok (.aload_n 0, 1) := by decide +kernel
theorem dX1_init_29 : decode cX1_init 29 = .ok (.getfield 9, 3) := by decide +kernel
theorem dX1_init_32 : decode cX1_init 32 = .ok (.newarray .long, 2) := by decide +kernel
theorem dX1_init_34 : decode cX1_init 34 = .ok (.putfield 19, 3) := by decide +kernel
theorem dX1_init_37 : decode cX1_init 37 = .ok (.aload_n 0, 1) := by decide +kernel
theorem dX1_init_38 : decode cX1_init 38 = .ok (.aload_n 0, 1) := by decide +kernel
theorem dX1_init_39 : decode cX1_init 39 = .ok (.getfield 9, 3) := by decide +kernel
theorem dX1_init_42 : decode cX1_init 42 = .ok (.newarray .int, 2) := by decide +kernel
theorem dX1_init_44 : decode cX1_init 44 = .ok (.putfield 23, 3) := by decide +kernel
theorem dX1_init_47 : decode cX1_init 47 = .ok (.aload_n 0, 1) := by decide +kernel
theorem dX1_init_48 : decode cX1_init 48 = .ok (.aload_n 0, 1) := by decide +kernel
theorem dX1_init_49 : decode cX1_init 49 = .ok (.getfield 9, 3) := by decide +kernel
theorem dX1_init_52 : decode cX1_init 52 = .ok (.newarray .int, 2) := by decide +kernel
theorem dX1_init_54 : decode cX1_init 54 = .ok (.putfield 26, 3) := by decide +kernel
theorem dX1_init_57 : decode cX1_init 57 = .ok (.aload_n 0, 1) := by decide +kernel
theorem dX1_init_58 : decode cX1_init 58 = .ok (.aload_n 0, 1) := by decide +kernel
theorem dX1_init_59 : decode cX1_init 59 = .ok (.getfield 9, 3) := by decide +kernel
theorem dX1_init_62 : decode cX1_init 62 = .ok (.newarray .int, 2) := by decide +kernel
theorem dX1_init_64 : decode cX1_init 64 = .ok (.putfield 29, 3) := by decide +kernel
theorem dX1_init_67 : decode cX1_init 67 = .ok (.aload_n 0, 1) := by decide +kernel
theorem dX1_init_68 : decode cX1_init 68 = .ok (.aload_n 0, 1) := by decide +kernel
theorem dX1_init_69 : decode cX1_init 69 = .ok (.getfield 9, 3) := by decide +kernel
theorem dX1_init_72 : decode cX1_init 72 = .ok (.newarray .int, 2) := by decide +kernel
theorem dX1_init_74 : decode cX1_init 74 = .ok (.putfield 32, 3) := by decide +kernel
theorem dX1_init_77 : decode cX1_init 77 = .ok (.aload_n 0, 1) := by decide +kernel
theorem dX1_init_78 : decode cX1_init 78 = .ok (.aload_n 0, 1) := by decide +kernel
theorem dX1_init_79 : decode cX1_init 79 = .ok (.getfield 9, 3) := by decide +kernel
theorem dX1_init_82 : decode cX1_init 82 = .ok (.newarray .int, 2) := by decide +kernel
theorem dX1_init_84 : decode cX1_init 84 = .ok (.putfield 35, 3) := by decide +kernel
theorem dX1_init_87 : decode cX1_init 87 = .ok (.return_, 1) := by decide +kernel
theorem dX3_init_0 : decode cX3_init 0 = .ok (.aload_n 0, 1) := by decide +kernel
theorem dX3_init_1 : decode cX3_init 1 = .ok (.invokespecial 3, 3) := by decide +kernel
theorem dX3_init_4 : decode cX3_init 4 = .ok (.aload_n 0, 1) := by decide +kernel
theorem dX3_init_5 : decode cX3_init 5 = .ok (.aload_n 1, 1) := by decide +kernel
theorem dX3_init_6 : decode cX3_init 6 = .ok (.putfield 9, 3) := by decide +kernel
theorem dX3_init_9 : decode cX3_init 9 = .ok (.aload_n 0, 1) := by decide +kernel
theorem dX3_init_10 : decode cX3_init 10 = .ok (.new 15, 3) := by decide +kernel
theorem dX3_init_13 : decode cX3_init 13 = .ok (.dup, 1) := by decide +kernel
theorem dX3_init_14 : decode cX3_init 14 = .ok (.sipush 2000, 3) := by decide +kernel
theorem dX3_init_17 : decode cX3_init 17 = .ok (.invokespecial 17, 3) := by decide +kernel
theorem dX3_init_20 : decode cX3_init 20 = .ok (.putfield 20, 3) := by decide +kernel
theorem dX3_init_23 : decode cX3_init 23 = .ok (.aload_n 0, 1) := by decide +kernel
theorem dX3_init_24 : decode cX3_init 24 = .ok (.sipush 2000, 3) := by decide +kernel
theorem dX3_init_27 : decode cX3_init 27 = .ok (.newarray .int, 2) := by decide +kernel
theorem dX3_init_29 : decode cX3_init 29 = .ok (.putfield 24, 3) := by decide +kernel
theorem dX3_init_32 : decode cX3_init 32 = .ok (.aload_n 0, 1) := by decide +kernel
theorem dX3_init_33 : decode cX3_init 33 = .ok (.sipush 200, 3) := by decide +kernel
theorem dX3_init_36 : decode cX3_init 36 = .ok (.newarray .int, 2) := by decide +kernel
theorem dX3_init_38 : decode cX3_init 38 = .ok (.putfield 28, 3) := by decide +kernel
theorem dX3_init_41 : decode cX3_init 41 = .ok (.aload_n 0, 1) := by decide +kernel
theorem dX3_init_42 : decode cX3_init 42 = .ok (.sipush 200, 3) := by decide +kernel
theorem dX3_init_45 : decode cX3_init 45 = .ok (.newarray .int, 2) := by decide +kernel
theorem dX3_init_47 : decode cX3_init 47 = .ok (.putfield 31, 3) := by decide +kernel
theorem dX3_init_50 : decode cX3_init 50 = .ok (.aload_n 0, 1) := by decide +kernel
theorem dX3_init_51 : decode cX3_init 51 = .ok (.sipush 200, 3) := by decide +kernel
theorem dX3_init_54 : decode cX3_init 54 = .ok (.newarray .int, 2) := by decide +kernel
theorem dX3_init_56 : decode cX3_init 56 = .ok (.putfield 34, 3) := by decide +kernel
theorem dX3_init_59 : decode cX3_init 59 = .ok (.aload_n 0, 1) := by decide +kernel
theorem dX3_init_60 : decode cX3_init 60 = .ok (.sipush 200, 3) := by decide +kernel
theorem dX3_init_63 : decode cX3_init 63 = .ok (.newarray .int, 2) := by decide +kernel
theorem dX3_init_65 : decode cX3_init 65 = .ok (.putfield 37, 3) := by decide +kernel
theorem dX3_init_68 : decode cX3_init 68 = .ok (.aload_n 0, 1) := by decide +kernel
theorem dX3_init_69 : decode cX3_init 69 = .ok (.sipush 200, 3) := by decide +kernel
theorem dX3_init_72 : decode cX3_init 72 = .ok (.newarray .int, 2) := by decide +kernel
theorem dX3_init_74 : decode cX3_init 74 = .ok (.putfield 40, 3) := by decide +kernel
theorem dX3_init_77 : decode cX3_init 77 = .ok (.aload_n 0, 1) := by decide +kernel
theorem dX3_init_78 : decode cX3_init 78 = .ok (.sipush 200, 3) := by decide +kernel
theorem dX3_init_81 : decode cX3_init 81 = .ok (.newarray .int, 2) := by decide +kernel
theorem dX3_init_83 : decode cX3_init 83 = .ok (.putfield 43, 3) := by decide +kernel
theorem dX3_init_86 : decode cX3_init 86 = .ok (.aload_n 0, 1) := by decide +kernel
theorem dX3_init_87 : decode cX3_init 87 = .ok (.iconst (-1), 1) := by decide +kernel
theorem dX3_init_88 : decode cX3_init 88 = .ok (.putfield 46, 3) := by decide +kernel
theorem dX3_init_91 : decode cX3_init 91 = .ok (.return_, 1) := by decide +kernel
theorem dX4_init_0 : decode cX4_init 0 = .ok (.aload_n 0, 1) := by decide +kernel
theorem dX4_init_1 : decode cX4_init 1 = .ok (.invokespecial 3, 3) := by decide +kernel
theorem dX4_init_4 : decode cX4_init 4 = .ok (.aload_n 0, 1) := by decide +kernel
theorem dX4_init_5 : decode cX4_init 5 = .ok (.new 9, 3) := by decide +kernel
theorem dX4_init_8 : decode cX4_init 8 = .ok (.dup, 1) := by decide +kernel
theorem dX4_init_9 : decode cX4_init 9 = .ok (.bipush 60, 2) := by decide +kernel
theorem dX4_init_11 : decode cX4_init 11 = .ok (.invokespecial 11, 3) := by decide +kernel
theorem dX4_init_14 : decode cX4_init 14 = .ok (.putfield 14, 3) := by decide +kernel
theorem dX4_init_17 : decode cX4_init 17 = .ok (.aload_n 0, 1) := by decide +kernel
theorem dX4_init_18 : decode cX4_init 18 = .ok (.new 9, 3) := by decide +kernel
theorem dX4_init_21 : decode cX4_init 21 = .ok (.dup, 1) := by decide +kernel
theorem dX4_init_22 : decode cX4_init 22 = .ok (.bipush 60, 2) := by decide +kernel
theorem dX4_init_24 : decode cX4_init 24 = .ok (.invokespecial 11, 3) := by decide +kernel
theorem dX4_init_27 : decode cX4_init 27 = .ok (.putfield 20, 3) := by decide +kernel
theorem dX4_init_30 : decode cX4_init 30 = .ok (.return_, 1) := by decide +kernel
theorem dX5_init_0 : decode cX5_init 0 = .ok (.aload_n 0, 1) := by decide +kernel
theorem dX5_init_1 : decode cX5_init 1 = .ok (.invokespecial 3, 3) := by decide +kernel
theorem dX5_init_4 : decode cX5_init 4 = .ok (.iload_n 1, 1) := by decide +kernel
theorem dX5_init_5 : decode cX5_init 5 = .ok (.ifCond .le 7, 3) := by decide +kernel
theorem dX5_init_8 : decode cX5_init 8 = .ok (.iload_n 1, 1) := by decide +kernel
theorem dX5_init_9 : decode cX5_init 9 = .ok (.goto 4, 3) := by decide +kernel
theorem dX5_init_13 : decode cX5_init 13 = .ok (.istore_n 2, 1) := by decide +kernel
theorem dX5_init_14 : decode cX5_init 14 = .ok (.aload_n 0, 1) := by decide +kernel
theorem dX5_init_15 : decode cX5_init 15 = .ok (.iload_n 2, 1) := by decide +kernel
theorem dX5_init_16 : decode cX5_init 16 = .ok (.newarray .int, 2) := by decide +kernel
theorem dX5_init_18 : decode cX5_init 18 = .ok (.putfield 9, 3) := by decide +kernel
theorem dX5_init_21 : decode cX5_init 21 = .ok (.aload_n 0, 1) := by decide +kernel
theorem dX5_init_22 : decode cX5_init 22 = .ok (.iload_n 2, 1) := by decide +kernel
theorem dX5_init_23 : decode cX5_init 23 = .ok (.newarray .int, 2) := by decide +kernel
theorem dX5_init_25 : decode cX5_init 25 = .ok (.putfield 15, 3) := by decide +kernel
theorem dX5_init_28 : decode cX5_init 28 = .ok (.aload_n 0, 1) := by decide +kernel
theorem dX5_init_29 : decode cX5_init 29 = .ok (.iload_n 2, 1) := by decide +kernel
theorem dX5_init_30 : decode cX5_init 30 = .ok (.newarray .int, 2) := by decide +kernel
theorem dX5_init_32 : decode cX5_init 32 = .ok (.putfield 18, 3) := by decide +kernel
theorem dX5_init_35 : decode cX5_init 35 = .ok (.aload_n 0, 1) := by decide +kernel
theorem dX5_init_36 : decode cX5_init 36 = .ok (.iload_n 2, 1) := by decide +kernel
theorem dX5_init_37 : decode cX5_init 37 = .ok (.newarray .long, 2) := by decide +kernel
theorem dX5_init_39 : decode cX5_init 39 = .ok (.putfield 21, 3) := by decide +kernel
theorem dX5_init_42 : decode cX5_init 42 = .ok (.aload_n 0, 1) := by decide +kernel
theorem dX5_init_43 : decode cX5_init 43 = .ok (.iload_n 2, 1) := by decide +kernel
theorem dX5_init_44 : decode cX5_init 44 = .ok (.newarray .int, 2) := by decide +kernel
theorem dX5_init_46 : decode cX5_init 46 = .ok (.putfield 25, 3) := by decide +kernel
theorem dX5_init_49 : decode cX5_init 49 = .ok (.aload_n 0, 1) := by decide +kernel
theorem dX5_init_50 : decode cX5_init 50 = .ok (.iload_n 2, 1) := by decide +kernel
theorem dX5_init_51 : decode cX5_init 51 = .ok (.newarray .int, 2) := by decide +kernel
theorem dX5_init_53 : decode cX5_init 53 = .ok (.putfield 28, 3) := by decide +kernel
theorem dX5_init_56 : decode cX5_init 56 = .ok (.aload_n 0, 1) := by decide +kernel
theorem dX5_init_57 : decode cX5_init 57 = .ok (.iload_n 2, 1) := by decide +kernel
theorem dX5_init_58 : decode cX5_init 58 = .ok (.newarray .int, 2) := by decide +kernel
theorem dX5_init_60 : decode cX5_init 60 = .ok (.putfield 31, 3) := by decide +kernel
theorem dX5_init_63 : decode cX5_init 63 = .ok (.return_, 1) := by decide +kernel
theorem dX6_init_0 : decode cX6_init 0 = .ok (.aload_n 0, 1) := by decide +kernel
theorem dX6_init_1 : decode cX6_init 1 = .ok (.invokespecial 5, 3) := by decide +kernel
theorem dX6_init_4 : decode cX6_init 4 = .ok (.aload_n 0, 1) := by decide +kernel
theorem dX6_init_5 : decode cX6_init 5 = .ok (.sipush 12061, 3) := by decide +kernel
theorem dX6_init_8 : decode cX6_init 8 = .ok (.newarray .int, 2) := by decide +kernel
theorem dX6_init_10 : decode cX6_init 10 = .ok (.putfield 11, 3) := by decide +kernel
theorem dX6_init_13 : decode cX6_init 13 = .ok (.aload_n 0, 1) := by decide +kernel
theorem dX6_init_14 : decode cX6_init 14 = .ok (.sipush 12061, 3) := by decide +kernel
theorem dX6_init_17 : decode cX6_init 17 = .ok (.newarray .int, 2) := by decide +kernel
theorem dX6_init_19 : decode cX6_init 19 = .ok (.putfield 15, 3) := by decide +kernel
theorem dX6_init_22 : decode cX6_init 22 = .ok (.aload_n 0, 1) := by decide +kernel
theorem dX6_init_23 : decode cX6_init 23 = .ok (.sipush 12061, 3) := by decide +kernel
theorem dX6_init_26 : decode cX6_init 26 = .ok (.newarray .int, 2) := by decide +kernel
theorem dX6_init_28 : decode cX6_init 28 = .ok (.putfield 18, 3) := by decide +kernel
theorem dX6_init_31 : decode cX6_init 31 = .ok (.aload_n 0, 1) := by decide +kernel
theorem dX6_init_32 : decode cX6_init 32 = .ok (.sipush 12061, 3) := by decide +kernel
theorem dX6_init_35 : decode cX6_init 35 = .ok (.newarray .int, 2) := by decide +kernel
theorem dX6_init_37 : decode cX6_init 37 = .ok (.putfield 21, 3) := by decide +kernel
theorem dX6_init_40 : decode cX6_init 40 = .ok (.aload_n 0, 1) := by decide +kernel
theorem dX6_init_41 : decode cX6_init 41 = .ok (.sipush 200, 3) := by decide +kernel
theorem dX6_init_44 : decode cX6_init 44 = .ok (.newarray .int, 2) := by decide +kernel
theorem dX6_init_46 : decode cX6_init 46 = .ok (.putfield 24, 3) := by decide +kernel
theorem dX6_init_49 : decode cX6_init 49 = .ok (.aload_n 0, 1) := by decide +kernel
theorem dX6_init_50 : decode cX6_init 50 = .ok (.sipush 202, 3) := by decide +kernel
theorem dX6_init_53 : decode cX6_init 53 = .ok (.newarray .int, 2) := by decide +kernel
theorem dX6_init_55 : decode cX6_init 55 = .ok (.putfield 27, 3) := by decide +kernel
theorem dX6_init_58 : decode cX6_init 58 = .ok (.aload_n 0, 1) := by decide +kernel
theorem dX6_init_59 : decode cX6_init 59 = .ok (.sipush 404, 3) := by decide +kernel
theorem dX6_init_62 : decode cX6_init 62 = .ok (.newarray .int, 2) := by decide +kernel
theorem dX6_init_64 : decode cX6_init 64 = .ok (.putfield 30, 3) := by decide +kernel
theorem dX6_init_67 : decode cX6_init 67 = .ok (.aload_n 0, 1) := by decide +kernel
theorem dX6_init_68 : decode cX6_init 68 = .ok (.bipush 60, 2) := by decide +kernel
theorem dX6_init_70 : decode cX6_init 70 = .ok (.newarray .int, 2) := by decide +kernel
theorem dX6_init_72 : decode cX6_init 72 = .ok (.putfield 33, 3) := by decide +kernel
theorem dX6_init_75 : decode cX6_init 75 = .ok (.aload_n 0, 1) := by decide +kernel
theorem dX6_init_76 : decode cX6_init 76 = .ok (.bipush 60, 2) := by decide +kernel
theorem dX6_init_78 : decode cX6_init 78 = .ok (.newarray .int, 2) := by decide +kernel
theorem dX6_init_80 : decode cX6_init 80 = .ok (.putfield 36, 3) := by decide +kernel
theorem dX6_init_83 : decode cX6_init 83 = .ok (.aload_n 0, 1) := by decide +kernel
theorem dX6_init_84 : decode cX6_init 84 = .ok (.bipush 60, 2) := by decide +kernel
theorem dX6_init_86 : decode cX6_init 86 = .ok (.newarray .int, 2) := by decide +kernel
theorem dX6_init_88 : decode cX6_init 88 = .ok (.putfield 39, 3) := by decide +kernel
theorem dX6_init_91 : decode cX6_init 91 = .ok (.aload_n 0, 1) := by decide +kernel
theorem dX6_init_92 : decode cX6_init 92 = .ok (.bipush 60, 2) := by decide +kernel
theorem dX6_init_94 : decode cX6_init 94 = .ok (.newarray .int, 2) := by decide +kernel
theorem dX6_init_96 : decode cX6_init 96 = .ok (.putfield 42, 3) := by decide +kernel
theorem dX6_init_99 : decode cX6_init 99 = .ok (.aload_n 0, 1) := by decide +kernel
theorem dX6_init_100 : decode cX6_init 100 = .ok (.sipush 200, 3) := by decide +kernel
theorem dX6_init_103 : decode cX6_init 103 = .ok (.newarray .int, 2) := by decide +kernel
theorem dX6_init_105 : decode cX6_init 105 = .ok (.putfield 45, 3) := by decide +kernel
theorem dX6_init_108 : decode cX6_init 108 = .ok (.return_, 1) := by decide +kernel
theorem dX7_init_0 : decode cX7_init 0 = .ok (.aload_n 0, 1) := by decide +kernel
theorem dX7_init_1 : decode cX7_init 1 = .ok (.invokespecial 1, 3) := by decide +kernel
theorem dX7_init_4 : decode cX7_init 4 = .ok (.aload_n 0, 1) := by decide +kernel
theorem dX7_init_5 : decode cX7_init 5 = .ok (.new 7, 3) := by decide +kernel
theorem dX7_init_8 : decode cX7_init 8 = .ok (.dup, 1) := by decide +kernel
theorem dX7_init_9 : decode cX7_init 9 = .ok (.sipush 1200, 3) := by decide +kernel
theorem dX7_init_12 : decode cX7_init 12 = .ok (.invokespecial 11, 3) := by decide +kernel
theorem dX7_init_15 : decode cX7_init 15 = .ok (.putfield 14, 3) := by decide +kernel
theorem dX7_init_18 : decode cX7_init 18 = .ok (.aload_n 0, 1) := by decide +kernel
theorem dX7_init_19 : decode cX7_init 19 = .ok (.new 7, 3) := by decide +kernel
theorem dX7_init_22 : decode cX7_init 22 = .ok (.dup, 1) := by decide +kernel
theorem dX7_init_23 : decode cX7_init 23 = .ok (.bipush 60, 2) := by decide +kernel
theorem dX7_init_25 : decode cX7_init 25 = .ok (.invokespecial 11, 3) := by decide +kernel
theorem dX7_init_28 : decode cX7_init 28 = .ok (.putfield 18, 3) := by decide +kernel
theorem dX7_init_31 : decode cX7_init 31 = .ok (.aload_n 0, 1) := by decide +kernel
theorem dX7_init_32 : decode cX7_init 32 = .ok (.new 7, 3) := by decide +kernel
theorem dX7_init_35 : decode cX7_init 35 = .ok (.dup, 1) := by decide +kernel
theorem dX7_init_36 : decode cX7_init 36 = .ok (.bipush 60, 2) := by decide +kernel
theorem dX7_init_38 : decode cX7_init 38 = .ok (.invokespecial 11, 3) := by decide +kernel
theorem dX7_init_41 : decode cX7_init 41 = .ok (.putfield 21, 3) := by decide +kernel
theorem dX7_init_44 : decode cX7_init 44 = .ok (.aload_n 0, 1) := by decide +kernel
theorem dX7_init_45 : decode cX7_init 45 = .ok (.iconst (-1), 1) := by decide +kernel
theorem dX7_init_46 : decode cX7_init 46 = .ok (.putfield 24, 3) := by decide +kernel
theorem dX7_init_49 : decode cX7_init 49 = .ok (.aload_n 0, 1) := by decide +kernel
theorem dX7_init_50 : decode cX7_init 50 = .ok (.new 28, 3) := by decide +kernel
theorem dX7_init_53 : decode cX7_init 53 = .ok (.dup, 1) := by decide +kernel
theorem dX7_init_54 : decode cX7_init 54 = .ok (.invokespecial 30, 3) := by decide +kernel
theorem dX7_init_57 : decode cX7_init 57 = .ok (.putfield 31, 3) := by decide +kernel
theorem dX7_init_60 : decode cX7_init 60 = .ok (.aload_n 0, 1) := by decide +kernel
theorem dX7_init_61 : decode cX7_init 61 = .ok (.new 35, 3) := by decide +kernel
theorem dX7_init_64 : decode cX7_init 64 = .ok (.dup, 1) := by decide +kernel
theorem dX7_init_65 : decode cX7_init 65 = .ok (.invokespecial 37, 3) := by decide +kernel
theorem dX7_init_68 : decode cX7_init 68 = .ok (.putfield 38, 3) := by decide +kernel
theorem dX7_init_71 : decode cX7_init 71 = .ok (.aload_n 0, 1) := by decide +kernel
theorem dX7_init_72 : decode cX7_init 72 = .ok (.new 42, 3) := by decide +kernel
theorem dX7_init_75 : decode cX7_init 75 = .ok (.dup, 1) := by decide +kernel
theorem dX7_init_76 : decode cX7_init 76 = .ok (.invokespecial 44, 3) := by decide +kernel
theorem dX7_init_79 : decode cX7_init 79 = .ok (.putfield 45, 3) := by decide +kernel
theorem dX7_init_82 : decode cX7_init 82 = .ok (.aload_n 0, 1) := by decide +kernel
theorem dX7_init_83 : decode cX7_init 83 = .ok (.new 49, 3) := by decide +kernel
theorem dX7_init_86 : decode cX7_init 86 = .ok (.dup, 1) := by decide +kernel
theorem dX7_init_87 : decode cX7_init 87 = .ok (.aload_n 0, 1) := by decide +kernel
theorem dX7_init_88 : decode cX7_init 88 = .ok (.getfield 45, 3) := by decide +kernel
theorem dX7_init_91 : decode cX7_init 91 = .ok (.invokespecial 51, 3) := by decide +kernel
theorem dX7_init_94 : decode cX7_init 94 = .ok (.putfield 54, 3) := by decide +kernel
theorem dX7_init_97 : decode cX7_init 97 = .ok (.return_, 1) := by decide +kernel
theorem dflt_X5 : ∀ j, j < 8 → defaultValue (tyX5 j) = vp_V [.null, .null, .null, .null, .null, .null, .null, .int 0] j := fun j hj => by rcases (show j = 0 ∨ j = 1 ∨ j = 2 ∨ j = 3 ∨ j = 4 ∨ j = 5 ∨ j = 6 ∨ j = 7 by omega) with rfl | rfl | rfl | rfl | rfl | rfl | rfl | rfl <;> rfl
theorem dflt_X4 : ∀ j, j < 2 → defaultValue (tyX4 j) = vp_V [.null, .null] j := fun j hj => by rcases (show j = 0 ∨ j = 1 by omega) with rfl | rfl <;> rfl
theorem dflt_X6 : ∀ j, j < 15 → defaultValue (tyX6 j) = vp_V [.null, .null, .null, .null, .int 0, .null, .null, .null, .null, .null, .null, .null, .null, .int 0, .int 0] j := fun j hj => by rcases (show j = 0 ∨ j = 1 ∨ j = 2 ∨ j = 3 ∨ j = 4 ∨ j = 5 ∨ j = 6 ∨ j = 7 ∨ j = 8 ∨ j = 9 ∨ j = 10 ∨ j = 11 ∨ j = 12 ∨ j = 13 ∨ j = 14 by omega) with rfl | rfl | rfl | rfl | rfl | rfl | rfl | rfl | rfl | rfl | rfl | rfl | rfl | rfl | rfl <;> rfl
theorem dflt_X0 : ∀ j, j < 7 → defaultValue (tyX0 j) = vp_V [.null, .null, .null, .null, .null, .null, .int 0] j := fun j hj => by rcases (show j = 0 ∨ j = 1 ∨ j = 2 ∨ j = 3 ∨ j = 4 ∨ j = 5 ∨ j = 6 by omega) with rfl | rfl | rfl | rfl | rfl | rfl | rfl <;> rfl
theorem dflt_X1 : ∀ j, j < 10 → defaultValue (tyX1 j) = vp_V [.int 0, .null, .null, .null, .null, .int 0, .null, .null, .null, .int 0] j := fun j hj => by rcases (show j = 0 ∨ j = 1 ∨ j = 2 ∨ j = 3 ∨ j = 4 ∨ j = 5 ∨ j = 6 ∨ j = 7 ∨ j = 8 ∨ j = 9 by omega) with rfl | rfl | rfl | rfl | rfl | rfl | rfl | rfl | rfl | rfl <;> rfl
theorem dflt_X3 : ∀ j, j < 16 → defaultValue (tyX3 j) = vp_V [.null, .null, .null, .null, .null, .null, .null, .null, .null, .int 0, .int 0, .int 0, .int 0, .int 0, .int 0, .int 0] j := fun j hj => by rcases (show j = 0 ∨ j = 1 ∨ j = 2 ∨ j = 3 ∨ j = 4 ∨ j = 5 ∨ j = 6 ∨ j = 7 ∨ j = 8 ∨ j = 9 ∨ j = 10 ∨ j = 11 ∨ j = 12 ∨ j = 13 ∨ j = 14 ∨ j = 15 by omega) with rfl | rfl | rfl | rfl | rfl | rfl | rfl | rfl | rfl | rfl | rfl | rfl | rfl | rfl | rfl | rfl <;> rfl
set_option maxRecDepth 20000 in
def z_Ti60 : List Cond := .code yX5_init cX5_init 3 none :: (([.methodLink RX5 3 objectInit, .instanceMethod objectInit, .code objectInit ⟨#[0xb1]⟩ 1 none, .arrayClass .int, .fieldLink RX5 9 "Selfkindle$Term" "kinds" "[I", .fieldLink RX5 15 "Selfkindle$Term" "names" "[I", .fieldLink RX5 18 "Selfkindle$Term" "others" "[I", .arrayClass .long, .fieldLink RX5 21 "Selfkindle$Term" "numbers" "[J", .fieldLink RX5 25 "Selfkindle$Term" "sizes" "[I", .fieldLink RX5 28 "Selfkindle$Term" "binders" "[I", .fieldLink RX5 31 "Selfkindle$Term" "distances" "[I"] : List Cond) ++ wsX50)
theorem in_z_Ti60_X5 : ∀ w ∈ wsX50, w ∈ z_Ti60 := fun w h => List.mem_cons_of_mem _ (List.mem_append_right _ (h))
set_option maxHeartbeats 4000000 in
set_option maxRecDepth 100000 in
/-- Term(60) -/
theorem c_Ti60 (l : Launch) (dC : Nat → ClassId) (dI : Nat → Nat → Nat) (tp te : Nat) (sz : Nat) (h0 : Nat)  : Met l yX5_init z_Ti60 ({ frames := 1, cells := 7, slots := 420, locals := 12 }) (va_Pc [.ref h0, .int 60] (Pw dC dI [(h0, .inr (6, [.null, .null, .null, .null, .null, .null, .null, .int 0]))] [] sz tp te)) (va_Qv (fun (_ : Unit) => True) (fun (_ : Unit) (t : State) => ∃ (q_1 : Nat), ∃ (q_5 : Nat), ∃ (q_9 : Nat), ∃ (q_13 : Nat), ∃ (q_17 : Nat), ∃ (q_21 : Nat), ∃ (q_25 : Nat), Bw dC dI [(h0, .inr (6, [.ref q_1, .ref q_5, .ref q_9, .ref q_13, .ref q_17, .ref q_21, .ref q_25, .int 0]))] [] (va_A [(h0, .inr (6, [.null, .null, .null, .null, .null, .null, .null, .int 0]))] sz) t) (va_A [(h0, .inr (6, [.null, .null, .null, .null, .null, .null, .null, .int 0]))] sz)) 7 420 (va_A [(h0, .inr (6, [.null, .null, .null, .null, .null, .null, .null, .int 0]))] sz) := by
  refine Met.ofW (cc := cX5_init) (maxL := 3) (ret := none) (by decide) rfl ?_
  intro p e s m args below meth c s₁ B hml hv
  obtain ⟨rfl, hsz, hP, hK, hD0, hG⟩ := hv
  have hx := B.exec
  have hb := B.bytes
  have hr := B.returns
  have hts := atoms_spec (ws := z_Ti60) B.pre
  have hown : s.vm.findClass RX5 = some m.cls := findClass_of_methodNamed B.named
  have hlocks := B.notSynchronized
  have hin : meth.name = "<init>" := (name_of_methodNamed B.named B.method).1
  subst hsz
  have hD := hD0.self (sz := s.heap.size)
  generalize hAe : va_A [(h0, .inr (6, [.null, .null, .null, .null, .null, .null, .null, .int 0]))] s.heap.size = A at hD hG ⊢
  have hA : ∀ q : Nat, s.heap.size ≤ q → A q := fun q h => by rw [← hAe]; exact Or.inr h
  have hS : va_S A s.heap s.heap [] := va_S.rf
  have hl := lv_entry ([.ref h0, .int 60]) (n := 3) (Nat.le_of_ble_eq_true rfl)
  rw [lg_entry_eq]
  generalize (lg_sl ([.ref h0, .int 60]) ++ List.replicate (3 - (lg_sl ([.ref h0, .int 60])).length) Slot.unset).toArray = ls at hl ⊢
  have hl : lv_has ls 3 [(0, .ref h0), (1, .int 60)] := hl
  refine lv_aload_n hx hb dX5_init_0 rfl (lv_at hl 0 rfl) ?_
  refine W.objInit hx hb hown (hts (.methodLink RX5 3 objectInit) (List.mem_of_getElem? (i := 1) rfl)) (hts (.instanceMethod objectInit) (List.mem_of_getElem? (i := 2) rfl)) (hts _ (List.mem_of_getElem? (i := 3) rfl)) rfl (by rw [hml]; exact hl.1) rfl dX5_init_1 (Nat.le_of_ble_eq_true rfl) (Nat.le_of_ble_eq_true rfl) ?_
  refine W.eq (g2 := F0 m 4 ls []) rfl ?_
  refine lv_iload_n hx hb dX5_init_4 rfl (lv_at hl 1 rfl) ?_
  refine lv_if_le (tgt := 12) hx hb dX5_init_5 (by decide) (fun c9 => absurd c9 (by decide)) (fun c9 => ?_)
  refine lv_iload_n hx hb dX5_init_8 rfl (lv_at hl 1 rfl) ?_
  refine lv_goto (tgt := 13) hx hb dX5_init_9 (by decide) ?_
  refine lv_istore_n (lv' := [(2, .int 60), (0, .ref h0), (1, .int 60)]) hx hb dX5_init_13 rfl hl (by decide) rfl (fun ls hl => ?_)
  refine lv_aload_n hx hb dX5_init_14 rfl (lv_at hl 1 rfl) ?_
  refine lv_iload_n hx hb dX5_init_15 rfl (lv_at hl 0 rfl) ?_
  refine va_newa (atype := .int) (ty := .int) (a0 := (60, .inl (fun _ => 0))) hx hb (hts (.arrayClass .int) (List.mem_of_getElem? (i := 4) rfl)) rfl hK hP hD hS hA (fun _ => rfl) (by decide) (by decide +kernel) (Nat.le_of_ble_eq_true rfl) (Nat.le_of_ble_eq_true rfl) (Nat.le_of_ble_eq_true rfl) dX5_init_16 (fun q_1 cA_2 H_3 hK hP hD hS => ?_)
  have hP : va_P (dC, dI) vwCl [(h0, .inr (6, [.null, .null, .null, .null, .null, .null, .null, .int 0])), (q_1, .inl (cA_2, 60, .inl (fun _ => 0)))] H_3 := hP
  have hD : va_D A [(h0, .inr (6, [.null, .null, .null, .null, .null, .null, .null, .int 0])), (q_1, .inl (cA_2, 60, .inl (fun _ => 0)))] := hD
  have hK : va_K (dC, dI) vwCl [(cA_2, .int)] s := hK
  refine W.widen (k := 1) (n := 60) (Nat.le_of_ble_eq_true rfl) (Nat.le_of_ble_eq_true rfl) ?_
  refine va_putF (D := (dC, dI)) (ci := 6) (v := .ref q_1) (ty := .array .int) (C := RX5) (T := TX5) (N := 8) hx hb hts in_z_Ti60_X5 tyX5 tyX5_ok nmX5 hown hK hP hD hS 0 rfl rfl 0 (by decide) (hts (.fieldLink RX5 9 "Selfkindle$Term" "kinds" "[I") (List.mem_of_getElem? (i := 5) rfl)) (fun _ h9 => h9) rfl hin rfl (by decide +kernel) rfl rfl (Nat.le_of_ble_eq_true rfl) dX5_init_18 (fun H_4 locs hP hD hS => ?_)
  have hP : va_P (dC, dI) vwCl [(h0, .inr (6, [.ref q_1, .null, .null, .null, .null, .null, .null, .int 0])), (q_1, .inl (cA_2, 60, .inl (fun _ => 0)))] H_4 := hP
  have hD : va_D A [(h0, .inr (6, [.ref q_1, .null, .null, .null, .null, .null, .null, .int 0])), (q_1, .inl (cA_2, 60, .inl (fun _ => 0)))] := hD
  have hK : va_K (dC, dI) vwCl [(cA_2, .int)] s := hK
  have hP := hP.sub (ws' := [(h0, .inr (6, [.ref q_1, .null, .null, .null, .null, .null, .null, .int 0]))]) [0] rfl
  have hD := hD.sub (ws' := [(h0, .inr (6, [.ref q_1, .null, .null, .null, .null, .null, .null, .int 0]))]) [0] (by decide) rfl
  have hK := hK.sub (tys' := []) [] rfl
  have hP : va_P (dC, dI) vwCl [(h0, .inr (6, [.ref q_1, .null, .null, .null, .null, .null, .null, .int 0]))] H_4 := hP
  have hD : va_D A [(h0, .inr (6, [.ref q_1, .null, .null, .null, .null, .null, .null, .int 0]))] := hD
  have hK : va_K (dC, dI) vwCl [] s := hK
  refine lv_aload_n hx hb dX5_init_21 rfl (lv_at hl 1 rfl) ?_
  refine lv_iload_n hx hb dX5_init_22 rfl (lv_at hl 0 rfl) ?_
  refine va_newa (atype := .int) (ty := .int) (a0 := (60, .inl (fun _ => 0))) hx hb (hts (.arrayClass .int) (List.mem_of_getElem? (i := 4) rfl)) rfl hK hP hD hS hA (fun _ => rfl) (by decide) (by decide +kernel) (Nat.le_of_ble_eq_true rfl) (Nat.le_of_ble_eq_true rfl) (Nat.le_of_ble_eq_true rfl) dX5_init_23 (fun q_5 cA_6 H_7 hK hP hD hS => ?_)
  have hP : va_P (dC, dI) vwCl [(h0, .inr (6, [.ref q_1, .null, .null, .null, .null, .null, .null, .int 0])), (q_5, .inl (cA_6, 60, .inl (fun _ => 0)))] H_7 := hP
  have hD : va_D A [(h0, .inr (6, [.ref q_1, .null, .null, .null, .null, .null, .null, .int 0])), (q_5, .inl (cA_6, 60, .inl (fun _ => 0)))] := hD
  have hK : va_K (dC, dI) vwCl [(cA_6, .int)] s := hK
  refine W.widen (k := 2) (n := 120) (Nat.le_of_ble_eq_true rfl) (Nat.le_of_ble_eq_true rfl) ?_
  refine va_putF (D := (dC, dI)) (ci := 6) (v := .ref q_5) (ty := .array .int) (C := RX5) (T := TX5) (N := 8) hx hb hts in_z_Ti60_X5 tyX5 tyX5_ok nmX5 hown hK hP hD hS 0 rfl rfl 1 (by decide) (hts (.fieldLink RX5 15 "Selfkindle$Term" "names" "[I") (List.mem_of_getElem? (i := 6) rfl)) (fun _ h9 => h9) rfl hin rfl (by decide +kernel) rfl rfl (Nat.le_of_ble_eq_true rfl) dX5_init_25 (fun H_8 locs hP hD hS => ?_)
  have hP : va_P (dC, dI) vwCl [(h0, .inr (6, [.ref q_1, .ref q_5, .null, .null, .null, .null, .null, .int 0])), (q_5, .inl (cA_6, 60, .inl (fun _ => 0)))] H_8 := hP
  have hD : va_D A [(h0, .inr (6, [.ref q_1, .ref q_5, .null, .null, .null, .null, .null, .int 0])), (q_5, .inl (cA_6, 60, .inl (fun _ => 0)))] := hD
  have hK : va_K (dC, dI) vwCl [(cA_6, .int)] s := hK
  have hP := hP.sub (ws' := [(h0, .inr (6, [.ref q_1, .ref q_5, .null, .null, .null, .null, .null, .int 0]))]) [0] rfl
  have hD := hD.sub (ws' := [(h0, .inr (6, [.ref q_1, .ref q_5, .null, .null, .null, .null, .null, .int 0]))]) [0] (by decide) rfl
  have hK := hK.sub (tys' := []) [] rfl
  have hP : va_P (dC, dI) vwCl [(h0, .inr (6, [.ref q_1, .ref q_5, .null, .null, .null, .null, .null, .int 0]))] H_8 := hP
  have hD : va_D A [(h0, .inr (6, [.ref q_1, .ref q_5, .null, .null, .null, .null, .null, .int 0]))] := hD
  have hK : va_K (dC, dI) vwCl [] s := hK
  refine lv_aload_n hx hb dX5_init_28 rfl (lv_at hl 1 rfl) ?_
  refine lv_iload_n hx hb dX5_init_29 rfl (lv_at hl 0 rfl) ?_
  refine va_newa (atype := .int) (ty := .int) (a0 := (60, .inl (fun _ => 0))) hx hb (hts (.arrayClass .int) (List.mem_of_getElem? (i := 4) rfl)) rfl hK hP hD hS hA (fun _ => rfl) (by decide) (by decide +kernel) (Nat.le_of_ble_eq_true rfl) (Nat.le_of_ble_eq_true rfl) (Nat.le_of_ble_eq_true rfl) dX5_init_30 (fun q_9 cA_10 H_11 hK hP hD hS => ?_)
  have hP : va_P (dC, dI) vwCl [(h0, .inr (6, [.ref q_1, .ref q_5, .null, .null, .null, .null, .null, .int 0])), (q_9, .inl (cA_10, 60, .inl (fun _ => 0)))] H_11 := hP
  have hD : va_D A [(h0, .inr (6, [.ref q_1, .ref q_5, .null, .null, .null, .null, .null, .int 0])), (q_9, .inl (cA_10, 60, .inl (fun _ => 0)))] := hD
  have hK : va_K (dC, dI) vwCl [(cA_10, .int)] s := hK
  refine W.widen (k := 3) (n := 180) (Nat.le_of_ble_eq_true rfl) (Nat.le_of_ble_eq_true rfl) ?_
  refine va_putF (D := (dC, dI)) (ci := 6) (v := .ref q_9) (ty := .array .int) (C := RX5) (T := TX5) (N := 8) hx hb hts in_z_Ti60_X5 tyX5 tyX5_ok nmX5 hown hK hP hD hS 0 rfl rfl 2 (by decide) (hts (.fieldLink RX5 18 "Selfkindle$Term" "others" "[I") (List.mem_of_getElem? (i := 7) rfl)) (fun _ h9 => h9) rfl hin rfl (by decide +kernel) rfl rfl (Nat.le_of_ble_eq_true rfl) dX5_init_32 (fun H_12 locs hP hD hS => ?_)
  have hP : va_P (dC, dI) vwCl [(h0, .inr (6, [.ref q_1, .ref q_5, .ref q_9, .null, .null, .null, .null, .int 0])), (q_9, .inl (cA_10, 60, .inl (fun _ => 0)))] H_12 := hP
  have hD : va_D A [(h0, .inr (6, [.ref q_1, .ref q_5, .ref q_9, .null, .null, .null, .null, .int 0])), (q_9, .inl (cA_10, 60, .inl (fun _ => 0)))] := hD
  have hK : va_K (dC, dI) vwCl [(cA_10, .int)] s := hK
  have hP := hP.sub (ws' := [(h0, .inr (6, [.ref q_1, .ref q_5, .ref q_9, .null, .null, .null, .null, .int 0]))]) [0] rfl
  have hD := hD.sub (ws' := [(h0, .inr (6, [.ref q_1, .ref q_5, .ref q_9, .null, .null, .null, .null, .int 0]))]) [0] (by decide) rfl
  have hK := hK.sub (tys' := []) [] rfl
  have hP : va_P (dC, dI) vwCl [(h0, .inr (6, [.ref q_1, .ref q_5, .ref q_9, .null, .null, .null, .null, .int 0]))] H_12 := hP
  have hD : va_D A [(h0, .inr (6, [.ref q_1, .ref q_5, .ref q_9, .null, .null, .null, .null, .int 0]))] := hD
  have hK : va_K (dC, dI) vwCl [] s := hK
  refine lv_aload_n hx hb dX5_init_35 rfl (lv_at hl 1 rfl) ?_
  refine lv_iload_n hx hb dX5_init_36 rfl (lv_at hl 0 rfl) ?_
  refine va_newa (atype := .long) (ty := .long) (a0 := (60, .inr (.inl (fun _ => 0)))) hx hb (hts (.arrayClass .long) (List.mem_of_getElem? (i := 8) rfl)) rfl hK hP hD hS hA (fun _ => rfl) (by decide) (by decide +kernel) (Nat.le_of_ble_eq_true rfl) (Nat.le_of_ble_eq_true rfl) (Nat.le_of_ble_eq_true rfl) dX5_init_37 (fun q_13 cA_14 H_15 hK hP hD hS => ?_)
  have hP : va_P (dC, dI) vwCl [(h0, .inr (6, [.ref q_1, .ref q_5, .ref q_9, .null, .null, .null, .null, .int 0])), (q_13, .inl (cA_14, 60, .inr (.inl (fun _ => 0))))] H_15 := hP
  have hD : va_D A [(h0, .inr (6, [.ref q_1, .ref q_5, .ref q_9, .null, .null, .null, .null, .int 0])), (q_13, .inl (cA_14, 60, .inr (.inl (fun _ => 0))))] := hD
  have hK : va_K (dC, dI) vwCl [(cA_14, .long)] s := hK
  refine W.widen (k := 4) (n := 240) (Nat.le_of_ble_eq_true rfl) (Nat.le_of_ble_eq_true rfl) ?_
  refine va_putF (D := (dC, dI)) (ci := 6) (v := .ref q_13) (ty := .array .long) (C := RX5) (T := TX5) (N := 8) hx hb hts in_z_Ti60_X5 tyX5 tyX5_ok nmX5 hown hK hP hD hS 0 rfl rfl 3 (by decide) (hts (.fieldLink RX5 21 "Selfkindle$Term" "numbers" "[J") (List.mem_of_getElem? (i := 9) rfl)) (fun _ h9 => h9) rfl hin rfl (by decide +kernel) rfl rfl (Nat.le_of_ble_eq_true rfl) dX5_init_39 (fun H_16 locs hP hD hS => ?_)
  have hP : va_P (dC, dI) vwCl [(h0, .inr (6, [.ref q_1, .ref q_5, .ref q_9, .ref q_13, .null, .null, .null, .int 0])), (q_13, .inl (cA_14, 60, .inr (.inl (fun _ => 0))))] H_16 := hP
  have hD : va_D A [(h0, .inr (6, [.ref q_1, .ref q_5, .ref q_9, .ref q_13, .null, .null, .null, .int 0])), (q_13, .inl (cA_14, 60, .inr (.inl (fun _ => 0))))] := hD
  have hK : va_K (dC, dI) vwCl [(cA_14, .long)] s := hK
  have hP := hP.sub (ws' := [(h0, .inr (6, [.ref q_1, .ref q_5, .ref q_9, .ref q_13, .null, .null, .null, .int 0]))]) [0] rfl
  have hD := hD.sub (ws' := [(h0, .inr (6, [.ref q_1, .ref q_5, .ref q_9, .ref q_13, .null, .null, .null, .int 0]))]) [0] (by decide) rfl
  have hK := hK.sub (tys' := []) [] rfl
  have hP : va_P (dC, dI) vwCl [(h0, .inr (6, [.ref q_1, .ref q_5, .ref q_9, .ref q_13, .null, .null, .null, .int 0]))] H_16 := hP
  have hD : va_D A [(h0, .inr (6, [.ref q_1, .ref q_5, .ref q_9, .ref q_13, .null, .null, .null, .int 0]))] := hD
  have hK : va_K (dC, dI) vwCl [] s := hK
  refine lv_aload_n hx hb dX5_init_42 rfl (lv_at hl 1 rfl) ?_
  refine lv_iload_n hx hb dX5_init_43 rfl (lv_at hl 0 rfl) ?_
  refine va_newa (atype := .int) (ty := .int) (a0 := (60, .inl (fun _ => 0))) hx hb (hts (.arrayClass .int) (List.mem_of_getElem? (i := 4) rfl)) rfl hK hP hD hS hA (fun _ => rfl) (by decide) (by decide +kernel) (Nat.le_of_ble_eq_true rfl) (Nat.le_of_ble_eq_true rfl) (Nat.le_of_ble_eq_true rfl) dX5_init_44 (fun q_17 cA_18 H_19 hK hP hD hS => ?_)
  have hP : va_P (dC, dI) vwCl [(h0, .inr (6, [.ref q_1, .ref q_5, .ref q_9, .ref q_13, .null, .null, .null, .int 0])), (q_17, .inl (cA_18, 60, .inl (fun _ => 0)))] H_19 := hP
  have hD : va_D A [(h0, .inr (6, [.ref q_1, .ref q_5, .ref q_9, .ref q_13, .null, .null, .null, .int 0])), (q_17, .inl (cA_18, 60, .inl (fun _ => 0)))] := hD
  have hK : va_K (dC, dI) vwCl [(cA_18, .int)] s := hK
  refine W.widen (k := 5) (n := 300) (Nat.le_of_ble_eq_true rfl) (Nat.le_of_ble_eq_true rfl) ?_
  refine va_putF (D := (dC, dI)) (ci := 6) (v := .ref q_17) (ty := .array .int) (C := RX5) (T := TX5) (N := 8) hx hb hts in_z_Ti60_X5 tyX5 tyX5_ok nmX5 hown hK hP hD hS 0 rfl rfl 4 (by decide) (hts (.fieldLink RX5 25 "Selfkindle$Term" "sizes" "[I") (List.mem_of_getElem? (i := 10) rfl)) (fun _ h9 => h9) rfl hin rfl (by decide +kernel) rfl rfl (Nat.le_of_ble_eq_true rfl) dX5_init_46 (fun H_20 locs hP hD hS => ?_)
  have hP : va_P (dC, dI) vwCl [(h0, .inr (6, [.ref q_1, .ref q_5, .ref q_9, .ref q_13, .ref q_17, .null, .null, .int 0])), (q_17, .inl (cA_18, 60, .inl (fun _ => 0)))] H_20 := hP
  have hD : va_D A [(h0, .inr (6, [.ref q_1, .ref q_5, .ref q_9, .ref q_13, .ref q_17, .null, .null, .int 0])), (q_17, .inl (cA_18, 60, .inl (fun _ => 0)))] := hD
  have hK : va_K (dC, dI) vwCl [(cA_18, .int)] s := hK
  have hP := hP.sub (ws' := [(h0, .inr (6, [.ref q_1, .ref q_5, .ref q_9, .ref q_13, .ref q_17, .null, .null, .int 0]))]) [0] rfl
  have hD := hD.sub (ws' := [(h0, .inr (6, [.ref q_1, .ref q_5, .ref q_9, .ref q_13, .ref q_17, .null, .null, .int 0]))]) [0] (by decide) rfl
  have hK := hK.sub (tys' := []) [] rfl
  have hP : va_P (dC, dI) vwCl [(h0, .inr (6, [.ref q_1, .ref q_5, .ref q_9, .ref q_13, .ref q_17, .null, .null, .int 0]))] H_20 := hP
  have hD : va_D A [(h0, .inr (6, [.ref q_1, .ref q_5, .ref q_9, .ref q_13, .ref q_17, .null, .null, .int 0]))] := hD
  have hK : va_K (dC, dI) vwCl [] s := hK
  refine lv_aload_n hx hb dX5_init_49 rfl (lv_at hl 1 rfl) ?_
  refine lv_iload_n hx hb dX5_init_50 rfl (lv_at hl 0 rfl) ?_
  refine va_newa (atype := .int) (ty := .int) (a0 := (60, .inl (fun _ => 0))) hx hb (hts (.arrayClass .int) (List.mem_of_getElem? (i := 4) rfl)) rfl hK hP hD hS hA (fun _ => rfl) (by decide) (by decide +kernel) (Nat.le_of_ble_eq_true rfl) (Nat.le_of_ble_eq_true rfl) (Nat.le_of_ble_eq_true rfl) dX5_init_51 (fun q_21 cA_22 H_23 hK hP hD hS => ?_)
  have hP : va_P (dC, dI) vwCl [(h0, .inr (6, [.ref q_1, .ref q_5, .ref q_9, .ref q_13, .ref q_17, .null, .null, .int 0])), (q_21, .inl (cA_22, 60, .inl (fun _ => 0)))] H_23 := hP
  have hD : va_D A [(h0, .inr (6, [.ref q_1, .ref q_5, .ref q_9, .ref q_13, .ref q_17, .null, .null, .int 0])), (q_21, .inl (cA_22, 60, .inl (fun _ => 0)))] := hD
  have hK : va_K (dC, dI) vwCl [(cA_22, .int)] s := hK
  refine W.widen (k := 6) (n := 360) (Nat.le_of_ble_eq_true rfl) (Nat.le_of_ble_eq_true rfl) ?_
  refine va_putF (D := (dC, dI)) (ci := 6) (v := .ref q_21) (ty := .array .int) (C := RX5) (T := TX5) (N := 8) hx hb hts in_z_Ti60_X5 tyX5 tyX5_ok nmX5 hown hK hP hD hS 0 rfl rfl 5 (by decide) (hts (.fieldLink RX5 28 "Selfkindle$Term" "binders" "[I") (List.mem_of_getElem? (i := 11) rfl)) (fun _ h9 => h9) rfl hin rfl (by decide +kernel) rfl rfl (Nat.le_of_ble_eq_true rfl) dX5_init_53 (fun H_24 locs hP hD hS => ?_)
  have hP : va_P (dC, dI) vwCl [(h0, .inr (6, [.ref q_1, .ref q_5, .ref q_9, .ref q_13, .ref q_17, .ref q_21, .null, .int 0])), (q_21, .inl (cA_22, 60, .inl (fun _ => 0)))] H_24 := hP
  have hD : va_D A [(h0, .inr (6, [.ref q_1, .ref q_5, .ref q_9, .ref q_13, .ref q_17, .ref q_21, .null, .int 0])), (q_21, .inl (cA_22, 60, .inl (fun _ => 0)))] := hD
  have hK : va_K (dC, dI) vwCl [(cA_22, .int)] s := hK
  have hP := hP.sub (ws' := [(h0, .inr (6, [.ref q_1, .ref q_5, .ref q_9, .ref q_13, .ref q_17, .ref q_21, .null, .int 0]))]) [0] rfl
  have hD := hD.sub (ws' := [(h0, .inr (6, [.ref q_1, .ref q_5, .ref q_9, .ref q_13, .ref q_17, .ref q_21, .null, .int 0]))]) [0] (by decide) rfl
  have hK := hK.sub (tys' := []) [] rfl
  have hP : va_P (dC, dI) vwCl [(h0, .inr (6, [.ref q_1, .ref q_5, .ref q_9, .ref q_13, .ref q_17, .ref q_21, .null, .int 0]))] H_24 := hP
  have hD : va_D A [(h0, .inr (6, [.ref q_1, .ref q_5, .ref q_9, .ref q_13, .ref q_17, .ref q_21, .null, .int 0]))] := hD
  have hK : va_K (dC, dI) vwCl [] s := hK
  refine lv_aload_n hx hb dX5_init_56 rfl (lv_at hl 1 rfl) ?_
  refine lv_iload_n hx hb dX5_init_57 rfl (lv_at hl 0 rfl) ?_
  refine va_newa (atype := .int) (ty := .int) (a0 := (60, .inl (fun _ => 0))) hx hb (hts (.arrayClass .int) (List.mem_of_getElem? (i := 4) rfl)) rfl hK hP hD hS hA (fun _ => rfl) (by decide) (by decide +kernel) (Nat.le_of_ble_eq_true rfl) (Nat.le_of_ble_eq_true rfl) (Nat.le_of_ble_eq_true rfl) dX5_init_58 (fun q_25 cA_26 H_27 hK hP hD hS => ?_)
  have hP : va_P (dC, dI) vwCl [(h0, .inr (6, [.ref q_1, .ref q_5, .ref q_9, .ref q_13, .ref q_17, .ref q_21, .null, .int 0])), (q_25, .inl (cA_26, 60, .inl (fun _ => 0)))] H_27 := hP
  have hD : va_D A [(h0, .inr (6, [.ref q_1, .ref q_5, .ref q_9, .ref q_13, .ref q_17, .ref q_21, .null, .int 0])), (q_25, .inl (cA_26, 60, .inl (fun _ => 0)))] := hD
  have hK : va_K (dC, dI) vwCl [(cA_26, .int)] s := hK
  refine W.widen (k := 7) (n := 420) (Nat.le_of_ble_eq_true rfl) (Nat.le_of_ble_eq_true rfl) ?_
  refine va_putF (D := (dC, dI)) (ci := 6) (v := .ref q_25) (ty := .array .int) (C := RX5) (T := TX5) (N := 8) hx hb hts in_z_Ti60_X5 tyX5 tyX5_ok nmX5 hown hK hP hD hS 0 rfl rfl 6 (by decide) (hts (.fieldLink RX5 31 "Selfkindle$Term" "distances" "[I") (List.mem_of_getElem? (i := 12) rfl)) (fun _ h9 => h9) rfl hin rfl (by decide +kernel) rfl rfl (Nat.le_of_ble_eq_true rfl) dX5_init_60 (fun H_28 locs hP hD hS => ?_)
  have hP : va_P (dC, dI) vwCl [(h0, .inr (6, [.ref q_1, .ref q_5, .ref q_9, .ref q_13, .ref q_17, .ref q_21, .ref q_25, .int 0])), (q_25, .inl (cA_26, 60, .inl (fun _ => 0)))] H_28 := hP
  have hD : va_D A [(h0, .inr (6, [.ref q_1, .ref q_5, .ref q_9, .ref q_13, .ref q_17, .ref q_21, .ref q_25, .int 0])), (q_25, .inl (cA_26, 60, .inl (fun _ => 0)))] := hD
  have hK : va_K (dC, dI) vwCl [(cA_26, .int)] s := hK
  have hP := hP.sub (ws' := [(h0, .inr (6, [.ref q_1, .ref q_5, .ref q_9, .ref q_13, .ref q_17, .ref q_21, .ref q_25, .int 0]))]) [0] rfl
  have hD := hD.sub (ws' := [(h0, .inr (6, [.ref q_1, .ref q_5, .ref q_9, .ref q_13, .ref q_17, .ref q_21, .ref q_25, .int 0]))]) [0] (by decide) rfl
  have hK := hK.sub (tys' := []) [] rfl
  have hP : va_P (dC, dI) vwCl [(h0, .inr (6, [.ref q_1, .ref q_5, .ref q_9, .ref q_13, .ref q_17, .ref q_21, .ref q_25, .int 0]))] H_28 := hP
  have hD : va_D A [(h0, .inr (6, [.ref q_1, .ref q_5, .ref q_9, .ref q_13, .ref q_17, .ref q_21, .ref q_25, .int 0]))] := hD
  have hK : va_K (dC, dI) vwCl [] s := hK
  refine W.widen (k := 7) (n := 420) (Nat.le_of_ble_eq_true rfl) (Nat.le_of_ble_eq_true rfl) ?_
  exact W.vret hx hb hr (fun t ht hW => ⟨⟨(), rfl, trivial, ⟨q_1, q_5, q_9, q_13, q_17, q_21, q_25, by rw [ht]; exact hP, va_K.moved hW.alike hK, hD⟩⟩, hS.F ht⟩) hS.2.2 dX5_init_63

set_option maxRecDepth 20000 in
def z_Ti1200 : List Cond := .code yX5_init cX5_init 3 none :: (([.methodLink RX5 3 objectInit, .instanceMethod objectInit, .code objectInit ⟨#[0xb1]⟩ 1 none, .arrayClass .int, .fieldLink RX5 9 "Selfkindle$Term" "kinds" "[I", .fieldLink RX5 15 "Selfkindle$Term" "names" "[I", .fieldLink RX5 18 "Selfkindle$Term" "others" "[I", .arrayClass .long, .fieldLink RX5 21 "Selfkindle$Term" "numbers" "[J", .fieldLink RX5 25 "Selfkindle$Term" "sizes" "[I", .fieldLink RX5 28 "Selfkindle$Term" "binders" "[I", .fieldLink RX5 31 "Selfkindle$Term" "distances" "[I"] : List Cond) ++ wsX50)
theorem in_z_Ti1200_X5 : ∀ w ∈ wsX50, w ∈ z_Ti1200 := fun w h => List.mem_cons_of_mem _ (List.mem_append_right _ (h))
set_option maxHeartbeats 4000000 in
set_option maxRecDepth 100000 in
/-- Term(1200) -/
theorem c_Ti1200 (l : Launch) (dC : Nat → ClassId) (dI : Nat → Nat → Nat) (tp te : Nat) (sz : Nat) (h0 : Nat)  : Met l yX5_init z_Ti1200 ({ frames := 1, cells := 7, slots := 8400, locals := 12 }) (va_Pc [.ref h0, .int 1200] (Pw dC dI [(h0, .inr (6, [.null, .null, .null, .null, .null, .null, .null, .int 0]))] [] sz tp te)) (va_Qv (fun (_ : Unit) => True) (fun (_ : Unit) (t : State) => ∃ (q_1 : Nat), ∃ (q_5 : Nat), ∃ (q_9 : Nat), ∃ (q_13 : Nat), ∃ (q_17 : Nat), ∃ (q_21 : Nat), ∃ (q_25 : Nat), ∃ (cA_2 : ClassId), ∃ (cA_6 : ClassId), ∃ (cA_10 : ClassId), ∃ (cA_14 : ClassId), ∃ (cA_18 : ClassId), ∃ (cA_22 : ClassId), ∃ (cA_26 : ClassId), Bw dC dI [(h0, .inr (6, [.ref q_1, .ref q_5, .ref q_9, .ref q_13, .ref q_17, .ref q_21, .ref q_25, .int 0])), (q_1, .inl (cA_2, 1200, .inl (fun _ => 0))), (q_5, .inl (cA_6, 1200, .inl (fun _ => 0))), (q_9, .inl (cA_10, 1200, .inl (fun _ => 0))), (q_13, .inl (cA_14, 1200, .inr (.inl (fun _ => 0)))), (q_17, .inl (cA_18, 1200, .inl (fun _ => 0))), (q_21, .inl (cA_22, 1200, .inl (fun _ => 0))), (q_25, .inl (cA_26, 1200, .inl (fun _ => 0)))] [(cA_2, .int), (cA_6, .int), (cA_10, .int), (cA_14, .long), (cA_18, .int), (cA_22, .int), (cA_26, .int)] (va_A [(h0, .inr (6, [.null, .null, .null, .null, .null, .null, .null, .int 0]))] sz) t) (va_A [(h0, .inr (6, [.null, .null, .null, .null, .null, .null, .null, .int 0]))] sz)) 7 8400 (va_A [(h0, .inr (6, [.null, .null, .null, .null, .null, .null, .null, .int 0]))] sz) := by
  refine Met.ofW (cc := cX5_init) (maxL := 3) (ret := none) (by decide) rfl ?_
  intro p e s m args below meth c s₁ B hml hv
  obtain ⟨rfl, hsz, hP, hK, hD0, hG⟩ := hv
  have hx := B.exec
  have hb := B.bytes
  have hr := B.returns
  have hts := atoms_spec (ws := z_Ti1200) B.pre
  have hown : s.vm.findClass RX5 = some m.cls := findClass_of_methodNamed B.named
  have hlocks := B.notSynchronized
  have hin : meth.name = "<init>" := (name_of_methodNamed B.named B.method).1
  subst hsz
  have hD := hD0.self (sz := s.heap.size)
  generalize hAe : va_A [(h0, .inr (6, [.null, .null, .null, .null, .null, .null, .null, .int 0]))] s.heap.size = A at hD hG ⊢
  have hA : ∀ q : Nat, s.heap.size ≤ q → A q := fun q h => by rw [← hAe]; exact Or.inr h
  have hS : va_S A s.heap s.heap [] := va_S.rf
  have hl := lv_entry ([.ref h0, .int 1200]) (n := 3) (Nat.le_of_ble_eq_true rfl)
  rw [lg_entry_eq]
  generalize (lg_sl ([.ref h0, .int 1200]) ++ List.replicate (3 - (lg_sl ([.ref h0, .int 1200])).length) Slot.unset).toArray = ls at hl ⊢
  have hl : lv_has ls 3 [(0, .ref h0), (1, .int 1200)] := hl
  refine lv_aload_n hx hb dX5_init_0 rfl (lv_at hl 0 rfl) ?_
  refine W.objInit hx hb hown (hts (.methodLink RX5 3 objectInit) (List.mem_of_getElem? (i := 1) rfl)) (hts (.instanceMethod objectInit) (List.mem_of_getElem? (i := 2) rfl)) (hts _ (List.mem_of_getElem? (i := 3) rfl)) rfl (by rw [hml]; exact hl.1) rfl dX5_init_1 (Nat.le_of_ble_eq_true rfl) (Nat.le_of_ble_eq_true rfl) ?_
  refine W.eq (g2 := F0 m 4 ls []) rfl ?_
  refine lv_iload_n hx hb dX5_init_4 rfl (lv_at hl 1 rfl) ?_
  refine lv_if_le (tgt := 12) hx hb dX5_init_5 (by decide) (fun c9 => absurd c9 (by decide)) (fun c9 => ?_)
  refine lv_iload_n hx hb dX5_init_8 rfl (lv_at hl 1 rfl) ?_
  refine lv_goto (tgt := 13) hx hb dX5_init_9 (by decide) ?_
  refine lv_istore_n (lv' := [(2, .int 1200), (0, .ref h0), (1, .int 1200)]) hx hb dX5_init_13 rfl hl (by decide) rfl (fun ls hl => ?_)
  refine lv_aload_n hx hb dX5_init_14 rfl (lv_at hl 1 rfl) ?_
  refine lv_iload_n hx hb dX5_init_15 rfl (lv_at hl 0 rfl) ?_
  refine va_newa (atype := .int) (ty := .int) (a0 := (1200, .inl (fun _ => 0))) hx hb (hts (.arrayClass .int) (List.mem_of_getElem? (i := 4) rfl)) rfl hK hP hD hS hA (fun _ => rfl) (by decide) (by decide +kernel) (Nat.le_of_ble_eq_true rfl) (Nat.le_of_ble_eq_true rfl) (Nat.le_of_ble_eq_true rfl) dX5_init_16 (fun q_1 cA_2 H_3 hK hP hD hS => ?_)
  have hP : va_P (dC, dI) vwCl [(h0, .inr (6, [.null, .null, .null, .null, .null, .null, .null, .int 0])), (q_1, .inl (cA_2, 1200, .inl (fun _ => 0)))] H_3 := hP
  have hD : va_D A [(h0, .inr (6, [.null, .null, .null, .null, .null, .null, .null, .int 0])), (q_1, .inl (cA_2, 1200, .inl (fun _ => 0)))] := hD
  have hK : va_K (dC, dI) vwCl [(cA_2, .int)] s := hK
  refine W.widen (k := 1) (n := 1200) (Nat.le_of_ble_eq_true rfl) (Nat.le_of_ble_eq_true rfl) ?_
  refine va_putF (D := (dC, dI)) (ci := 6) (v := .ref q_1) (ty := .array .int) (C := RX5) (T := TX5) (N := 8) hx hb hts in_z_Ti1200_X5 tyX5 tyX5_ok nmX5 hown hK hP hD hS 0 rfl rfl 0 (by decide) (hts (.fieldLink RX5 9 "Selfkindle$Term" "kinds" "[I") (List.mem_of_getElem? (i := 5) rfl)) (fun _ h9 => h9) rfl hin rfl (by decide +kernel) rfl rfl (Nat.le_of_ble_eq_true rfl) dX5_init_18 (fun H_4 locs hP hD hS => ?_)
  have hP : va_P (dC, dI) vwCl [(h0, .inr (6, [.ref q_1, .null, .null, .null, .null, .null, .null, .int 0])), (q_1, .inl (cA_2, 1200, .inl (fun _ => 0)))] H_4 := hP
  have hD : va_D A [(h0, .inr (6, [.ref q_1, .null, .null, .null, .null, .null, .null, .int 0])), (q_1, .inl (cA_2, 1200, .inl (fun _ => 0)))] := hD
  have hK : va_K (dC, dI) vwCl [(cA_2, .int)] s := hK
  refine lv_aload_n hx hb dX5_init_21 rfl (lv_at hl 1 rfl) ?_
  refine lv_iload_n hx hb dX5_init_22 rfl (lv_at hl 0 rfl) ?_
  refine va_newa (atype := .int) (ty := .int) (a0 := (1200, .inl (fun _ => 0))) hx hb (hts (.arrayClass .int) (List.mem_of_getElem? (i := 4) rfl)) rfl hK hP hD hS hA (fun _ => rfl) (by decide) (by decide +kernel) (Nat.le_of_ble_eq_true rfl) (Nat.le_of_ble_eq_true rfl) (Nat.le_of_ble_eq_true rfl) dX5_init_23 (fun q_5 cA_6 H_7 hK hP hD hS => ?_)
  have hP : va_P (dC, dI) vwCl [(h0, .inr (6, [.ref q_1, .null, .null, .null, .null, .null, .null, .int 0])), (q_1, .inl (cA_2, 1200, .inl (fun _ => 0))), (q_5, .inl (cA_6, 1200, .inl (fun _ => 0)))] H_7 := hP
  have hD : va_D A [(h0, .inr (6, [.ref q_1, .null, .null, .null, .null, .null, .null, .int 0])), (q_1, .inl (cA_2, 1200, .inl (fun _ => 0))), (q_5, .inl (cA_6, 1200, .inl (fun _ => 0)))] := hD
  have hK : va_K (dC, dI) vwCl [(cA_2, .int), (cA_6, .int)] s := hK
  refine W.widen (k := 2) (n := 2400) (Nat.le_of_ble_eq_true rfl) (Nat.le_of_ble_eq_true rfl) ?_
  refine va_putF (D := (dC, dI)) (ci := 6) (v := .ref q_5) (ty := .array .int) (C := RX5) (T := TX5) (N := 8) hx hb hts in_z_Ti1200_X5 tyX5 tyX5_ok nmX5 hown hK hP hD hS 0 rfl rfl 1 (by decide) (hts (.fieldLink RX5 15 "Selfkindle$Term" "names" "[I") (List.mem_of_getElem? (i := 6) rfl)) (fun _ h9 => h9) rfl hin rfl (by decide +kernel) rfl rfl (Nat.le_of_ble_eq_true rfl) dX5_init_25 (fun H_8 locs hP hD hS => ?_)
  have hP : va_P (dC, dI) vwCl [(h0, .inr (6, [.ref q_1, .ref q_5, .null, .null, .null, .null, .null, .int 0])), (q_1, .inl (cA_2, 1200, .inl (fun _ => 0))), (q_5, .inl (cA_6, 1200, .inl (fun _ => 0)))] H_8 := hP
  have hD : va_D A [(h0, .inr (6, [.ref q_1, .ref q_5, .null, .null, .null, .null, .null, .int 0])), (q_1, .inl (cA_2, 1200, .inl (fun _ => 0))), (q_5, .inl (cA_6, 1200, .inl (fun _ => 0)))] := hD
  have hK : va_K (dC, dI) vwCl [(cA_2, .int), (cA_6, .int)] s := hK
  refine lv_aload_n hx hb dX5_init_28 rfl (lv_at hl 1 rfl) ?_
  refine lv_iload_n hx hb dX5_init_29 rfl (lv_at hl 0 rfl) ?_
  refine va_newa (atype := .int) (ty := .int) (a0 := (1200, .inl (fun _ => 0))) hx hb (hts (.arrayClass .int) (List.mem_of_getElem? (i := 4) rfl)) rfl hK hP hD hS hA (fun _ => rfl) (by decide) (by decide +kernel) (Nat.le_of_ble_eq_true rfl) (Nat.le_of_ble_eq_true rfl) (Nat.le_of_ble_eq_true rfl) dX5_init_30 (fun q_9 cA_10 H_11 hK hP hD hS => ?_)
  have hP : va_P (dC, dI) vwCl [(h0, .inr (6, [.ref q_1, .ref q_5, .null, .null, .null, .null, .null, .int 0])), (q_1, .inl (cA_2, 1200, .inl (fun _ => 0))), (q_5, .inl (cA_6, 1200, .inl (fun _ => 0))), (q_9, .inl (cA_10, 1200, .inl (fun _ => 0)))] H_11 := hP
  have hD : va_D A [(h0, .inr (6, [.ref q_1, .ref q_5, .null, .null, .null, .null, .null, .int 0])), (q_1, .inl (cA_2, 1200, .inl (fun _ => 0))), (q_5, .inl (cA_6, 1200, .inl (fun _ => 0))), (q_9, .inl (cA_10, 1200, .inl (fun _ => 0)))] := hD
  have hK : va_K (dC, dI) vwCl [(cA_2, .int), (cA_6, .int), (cA_10, .int)] s := hK
  refine W.widen (k := 3) (n := 3600) (Nat.le_of_ble_eq_true rfl) (Nat.le_of_ble_eq_true rfl) ?_
  refine va_putF (D := (dC, dI)) (ci := 6) (v := .ref q_9) (ty := .array .int) (C := RX5) (T := TX5) (N := 8) hx hb hts in_z_Ti1200_X5 tyX5 tyX5_ok nmX5 hown hK hP hD hS 0 rfl rfl 2 (by decide) (hts (.fieldLink RX5 18 "Selfkindle$Term" "others" "[I") (List.mem_of_getElem? (i := 7) rfl)) (fun _ h9 => h9) rfl hin rfl (by decide +kernel) rfl rfl (Nat.le_of_ble_eq_true rfl) dX5_init_32 (fun H_12 locs hP hD hS => ?_)
  have hP : va_P (dC, dI) vwCl [(h0, .inr (6, [.ref q_1, .ref q_5, .ref q_9, .null, .null, .null, .null, .int 0])), (q_1, .inl (cA_2, 1200, .inl (fun _ => 0))), (q_5, .inl (cA_6, 1200, .inl (fun _ => 0))), (q_9, .inl (cA_10, 1200, .inl (fun _ => 0)))] H_12 := hP
  have hD : va_D A [(h0, .inr (6, [.ref q_1, .ref q_5, .ref q_9, .null, .null, .null, .null, .int 0])), (q_1, .inl (cA_2, 1200, .inl (fun _ => 0))), (q_5, .inl (cA_6, 1200, .inl (fun _ => 0))), (q_9, .inl (cA_10, 1200, .inl (fun _ => 0)))] := hD
  have hK : va_K (dC, dI) vwCl [(cA_2, .int), (cA_6, .int), (cA_10, .int)] s := hK
  refine lv_aload_n hx hb dX5_init_35 rfl (lv_at hl 1 rfl) ?_
  refine lv_iload_n hx hb dX5_init_36 rfl (lv_at hl 0 rfl) ?_
  refine va_newa (atype := .long) (ty := .long) (a0 := (1200, .inr (.inl (fun _ => 0)))) hx hb (hts (.arrayClass .long) (List.mem_of_getElem? (i := 8) rfl)) rfl hK hP hD hS hA (fun _ => rfl) (by decide) (by decide +kernel) (Nat.le_of_ble_eq_true rfl) (Nat.le_of_ble_eq_true rfl) (Nat.le_of_ble_eq_true rfl) dX5_init_37 (fun q_13 cA_14 H_15 hK hP hD hS => ?_)
  have hP : va_P (dC, dI) vwCl [(h0, .inr (6, [.ref q_1, .ref q_5, .ref q_9, .null, .null, .null, .null, .int 0])), (q_1, .inl (cA_2, 1200, .inl (fun _ => 0))), (q_5, .inl (cA_6, 1200, .inl (fun _ => 0))), (q_9, .inl (cA_10, 1200, .inl (fun _ => 0))), (q_13, .inl (cA_14, 1200, .inr (.inl (fun _ => 0))))] H_15 := hP
  have hD : va_D A [(h0, .inr (6, [.ref q_1, .ref q_5, .ref q_9, .null, .null, .null, .null, .int 0])), (q_1, .inl (cA_2, 1200, .inl (fun _ => 0))), (q_5, .inl (cA_6, 1200, .inl (fun _ => 0))), (q_9, .inl (cA_10, 1200, .inl (fun _ => 0))), (q_13, .inl (cA_14, 1200, .inr (.inl (fun _ => 0))))] := hD
  have hK : va_K (dC, dI) vwCl [(cA_2, .int), (cA_6, .int), (cA_10, .int), (cA_14, .long)] s := hK
  refine W.widen (k := 4) (n := 4800) (Nat.le_of_ble_eq_true rfl) (Nat.le_of_ble_eq_true rfl) ?_
  refine va_putF (D := (dC, dI)) (ci := 6) (v := .ref q_13) (ty := .array .long) (C := RX5) (T := TX5) (N := 8) hx hb hts in_z_Ti1200_X5 tyX5 tyX5_ok nmX5 hown hK hP hD hS 0 rfl rfl 3 (by decide) (hts (.fieldLink RX5 21 "Selfkindle$Term" "numbers" "[J") (List.mem_of_getElem? (i := 9) rfl)) (fun _ h9 => h9) rfl hin rfl (by decide +kernel) rfl rfl (Nat.le_of_ble_eq_true rfl) dX5_init_39 (fun H_16 locs hP hD hS => ?_)
  have hP : va_P (dC, dI) vwCl [(h0, .inr (6, [.ref q_1, .ref q_5, .ref q_9, .ref q_13, .null, .null, .null, .int 0])), (q_1, .inl (cA_2, 1200, .inl (fun _ => 0))), (q_5, .inl (cA_6, 1200, .inl (fun _ => 0))), (q_9, .inl (cA_10, 1200, .inl (fun _ => 0))), (q_13, .inl (cA_14, 1200, .inr (.inl (fun _ => 0))))] H_16 := hP
  have hD : va_D A [(h0, .inr (6, [.ref q_1, .ref q_5, .ref q_9, .ref q_13, .null, .null, .null, .int 0])), (q_1, .inl (cA_2, 1200, .inl (fun _ => 0))), (q_5, .inl (cA_6, 1200, .inl (fun _ => 0))), (q_9, .inl (cA_10, 1200, .inl (fun _ => 0))), (q_13, .inl (cA_14, 1200, .inr (.inl (fun _ => 0))))] := hD
  have hK : va_K (dC, dI) vwCl [(cA_2, .int), (cA_6, .int), (cA_10, .int), (cA_14, .long)] s := hK
  refine lv_aload_n hx hb dX5_init_42 rfl (lv_at hl 1 rfl) ?_
  refine lv_iload_n hx hb dX5_init_43 rfl (lv_at hl 0 rfl) ?_
  refine va_newa (atype := .int) (ty := .int) (a0 := (1200, .inl (fun _ => 0))) hx hb (hts (.arrayClass .int) (List.mem_of_getElem? (i := 4) rfl)) rfl hK hP hD hS hA (fun _ => rfl) (by decide) (by decide +kernel) (Nat.le_of_ble_eq_true rfl) (Nat.le_of_ble_eq_true rfl) (Nat.le_of_ble_eq_true rfl) dX5_init_44 (fun q_17 cA_18 H_19 hK hP hD hS => ?_)
  have hP : va_P (dC, dI) vwCl [(h0, .inr (6, [.ref q_1, .ref q_5, .ref q_9, .ref q_13, .null, .null, .null, .int 0])), (q_1, .inl (cA_2, 1200, .inl (fun _ => 0))), (q_5, .inl (cA_6, 1200, .inl (fun _ => 0))), (q_9, .inl (cA_10, 1200, .inl (fun _ => 0))), (q_13, .inl (cA_14, 1200, .inr (.inl (fun _ => 0)))), (q_17, .inl (cA_18, 1200, .inl (fun _ => 0)))] H_19 := hP
  have hD : va_D A [(h0, .inr (6, [.ref q_1, .ref q_5, .ref q_9, .ref q_13, .null, .null, .null, .int 0])), (q_1, .inl (cA_2, 1200, .inl (fun _ => 0))), (q_5, .inl (cA_6, 1200, .inl (fun _ => 0))), (q_9, .inl (cA_10, 1200, .inl (fun _ => 0))), (q_13, .inl (cA_14, 1200, .inr (.inl (fun _ => 0)))), (q_17, .inl (cA_18, 1200, .inl (fun _ => 0)))] := hD
  have hK : va_K (dC, dI) vwCl [(cA_2, .int), (cA_6, .int), (cA_10, .int), (cA_14, .long), (cA_18, .int)] s := hK
  refine W.widen (k := 5) (n := 6000) (Nat.le_of_ble_eq_true rfl) (Nat.le_of_ble_eq_true rfl) ?_
  refine va_putF (D := (dC, dI)) (ci := 6) (v := .ref q_17) (ty := .array .int) (C := RX5) (T := TX5) (N := 8) hx hb hts in_z_Ti1200_X5 tyX5 tyX5_ok nmX5 hown hK hP hD hS 0 rfl rfl 4 (by decide) (hts (.fieldLink RX5 25 "Selfkindle$Term" "sizes" "[I") (List.mem_of_getElem? (i := 10) rfl)) (fun _ h9 => h9) rfl hin rfl (by decide +kernel) rfl rfl (Nat.le_of_ble_eq_true rfl) dX5_init_46 (fun H_20 locs hP hD hS => ?_)
  have hP : va_P (dC, dI) vwCl [(h0, .inr (6, [.ref q_1, .ref q_5, .ref q_9, .ref q_13, .ref q_17, .null, .null, .int 0])), (q_1, .inl (cA_2, 1200, .inl (fun _ => 0))), (q_5, .inl (cA_6, 1200, .inl (fun _ => 0))), (q_9, .inl (cA_10, 1200, .inl (fun _ => 0))), (q_13, .inl (cA_14, 1200, .inr (.inl (fun _ => 0)))), (q_17, .inl (cA_18, 1200, .inl (fun _ => 0)))] H_20 := hP
  have hD : va_D A [(h0, .inr (6, [.ref q_1, .ref q_5, .ref q_9, .ref q_13, .ref q_17, .null, .null, .int 0])), (q_1, .inl (cA_2, 1200, .inl (fun _ => 0))), (q_5, .inl (cA_6, 1200, .inl (fun _ => 0))), (q_9, .inl (cA_10, 1200, .inl (fun _ => 0))), (q_13, .inl (cA_14, 1200, .inr (.inl (fun _ => 0)))), (q_17, .inl (cA_18, 1200, .inl (fun _ => 0)))] := hD
  have hK : va_K (dC, dI) vwCl [(cA_2, .int), (cA_6, .int), (cA_10, .int), (cA_14, .long), (cA_18, .int)] s := hK
  refine lv_aload_n hx hb dX5_init_49 rfl (lv_at hl 1 rfl) ?_
  refine lv_iload_n hx hb dX5_init_50 rfl (lv_at hl 0 rfl) ?_
  refine va_newa (atype := .int) (ty := .int) (a0 := (1200, .inl (fun _ => 0))) hx hb (hts (.arrayClass .int) (List.mem_of_getElem? (i := 4) rfl)) rfl hK hP hD hS hA (fun _ => rfl) (by decide) (by decide +kernel) (Nat.le_of_ble_eq_true rfl) (Nat.le_of_ble_eq_true rfl) (Nat.le_of_ble_eq_true rfl) dX5_init_51 (fun q_21 cA_22 H_23 hK hP hD hS => ?_)
  have hP : va_P (dC, dI) vwCl [(h0, .inr (6, [.ref q_1, .ref q_5, .ref q_9, .ref q_13, .ref q_17, .null, .null, .int 0])), (q_1, .inl (cA_2, 1200, .inl (fun _ => 0))), (q_5, .inl (cA_6, 1200, .inl (fun _ => 0))), (q_9, .inl (cA_10, 1200, .inl (fun _ => 0))), (q_13, .inl (cA_14, 1200, .inr (.inl (fun _ => 0)))), (q_17, .inl (cA_18, 1200, .inl (fun _ => 0))), (q_21, .inl (cA_22, 1200, .inl (fun _ => 0)))] H_23 := hP
  have hD : va_D A [(h0, .inr (6, [.ref q_1, .ref q_5, .ref q_9, .ref q_13, .ref q_17, .null, .null, .int 0])), (q_1, .inl (cA_2, 1200, .inl (fun _ => 0))), (q_5, .inl (cA_6, 1200, .inl (fun _ => 0))), (q_9, .inl (cA_10, 1200, .inl (fun _ => 0))), (q_13, .inl (cA_14, 1200, .inr (.inl (fun _ => 0)))), (q_17, .inl (cA_18, 1200, .inl (fun _ => 0))), (q_21, .inl (cA_22, 1200, .inl (fun _ => 0)))] := hD
  have hK : va_K (dC, dI) vwCl [(cA_2, .int), (cA_6, .int), (cA_10, .int), (cA_14, .long), (cA_18, .int), (cA_22, .int)] s := hK
  refine W.widen (k := 6) (n := 7200) (Nat.le_of_ble_eq_true rfl) (Nat.le_of_ble_eq_true rfl) ?_
  refine va_putF (D := (dC, dI)) (ci := 6) (v := .ref q_21) (ty := .array .int) (C := RX5) (T := TX5) (N := 8) hx hb hts in_z_Ti1200_X5 tyX5 tyX5_ok nmX5 hown hK hP hD hS 0 rfl rfl 5 (by decide) (hts (.fieldLink RX5 28 "Selfkindle$Term" "binders" "[I") (List.mem_of_getElem? (i := 11) rfl)) (fun _ h9 => h9) rfl hin rfl (by decide +kernel) rfl rfl (Nat.le_of_ble_eq_true rfl) dX5_init_53 (fun H_24 locs hP hD hS => ?_)
  have hP : va_P (dC, dI) vwCl [(h0, .inr (6, [.ref q_1, .ref q_5, .ref q_9, .ref q_13, .ref q_17, .ref q_21, .null, .int 0])), (q_1, .inl (cA_2, 1200, .inl (fun _ => 0))), (q_5, .inl (cA_6, 1200, .inl (fun _ => 0))), (q_9, .inl (cA_10, 1200, .inl (fun _ => 0))), (q_13, .inl (cA_14, 1200, .inr (.inl (fun _ => 0)))), (q_17, .inl (cA_18, 1200, .inl (fun _ => 0))), (q_21, .inl (cA_22, 1200, .inl (fun _ => 0)))] H_24 := hP
  have hD : va_D A [(h0, .inr (6, [.ref q_1, .ref q_5, .ref q_9, .ref q_13, .ref q_17, .ref q_21, .null, .int 0])), (q_1, .inl (cA_2, 1200, .inl (fun _ => 0))), (q_5, .inl (cA_6, 1200, .inl (fun _ => 0))), (q_9, .inl (cA_10, 1200, .inl (fun _ => 0))), (q_13, .inl (cA_14, 1200, .inr (.inl (fun _ => 0)))), (q_17, .inl (cA_18, 1200, .inl (fun _ => 0))), (q_21, .inl (cA_22, 1200, .inl (fun _ => 0)))] := hD
  have hK : va_K (dC, dI) vwCl [(cA_2, .int), (cA_6, .int), (cA_10, .int), (cA_14, .long), (cA_18, .int), (cA_22, .int)] s := hK
  refine lv_aload_n hx hb dX5_init_56 rfl (lv_at hl 1 rfl) ?_
  refine lv_iload_n hx hb dX5_init_57 rfl (lv_at hl 0 rfl) ?_
  refine va_newa (atype := .int) (ty := .int) (a0 := (1200, .inl (fun _ => 0))) hx hb (hts (.arrayClass .int) (List.mem_of_getElem? (i := 4) rfl)) rfl hK hP hD hS hA (fun _ => rfl) (by decide) (by decide +kernel) (Nat.le_of_ble_eq_true rfl) (Nat.le_of_ble_eq_true rfl) (Nat.le_of_ble_eq_true rfl) dX5_init_58 (fun q_25 cA_26 H_27 hK hP hD hS => ?_)
  have hP : va_P (dC, dI) vwCl [(h0, .inr (6, [.ref q_1, .ref q_5, .ref q_9, .ref q_13, .ref q_17, .ref q_21, .null, .int 0])), (q_1, .inl (cA_2, 1200, .inl (fun _ => 0))), (q_5, .inl (cA_6, 1200, .inl (fun _ => 0))), (q_9, .inl (cA_10, 1200, .inl (fun _ => 0))), (q_13, .inl (cA_14, 1200, .inr (.inl (fun _ => 0)))), (q_17, .inl (cA_18, 1200, .inl (fun _ => 0))), (q_21, .inl (cA_22, 1200, .inl (fun _ => 0))), (q_25, .inl (cA_26, 1200, .inl (fun _ => 0)))] H_27 := hP
  have hD : va_D A [(h0, .inr (6, [.ref q_1, .ref q_5, .ref q_9, .ref q_13, .ref q_17, .ref q_21, .null, .int 0])), (q_1, .inl (cA_2, 1200, .inl (fun _ => 0))), (q_5, .inl (cA_6, 1200, .inl (fun _ => 0))), (q_9, .inl (cA_10, 1200, .inl (fun _ => 0))), (q_13, .inl (cA_14, 1200, .inr (.inl (fun _ => 0)))), (q_17, .inl (cA_18, 1200, .inl (fun _ => 0))), (q_21, .inl (cA_22, 1200, .inl (fun _ => 0))), (q_25, .inl (cA_26, 1200, .inl (fun _ => 0)))] := hD
  have hK : va_K (dC, dI) vwCl [(cA_2, .int), (cA_6, .int), (cA_10, .int), (cA_14, .long), (cA_18, .int), (cA_22, .int), (cA_26, .int)] s := hK
  refine W.widen (k := 7) (n := 8400) (Nat.le_of_ble_eq_true rfl) (Nat.le_of_ble_eq_true rfl) ?_
  refine va_putF (D := (dC, dI)) (ci := 6) (v := .ref q_25) (ty := .array .int) (C := RX5) (T := TX5) (N := 8) hx hb hts in_z_Ti1200_X5 tyX5 tyX5_ok nmX5 hown hK hP hD hS 0 rfl rfl 6 (by decide) (hts (.fieldLink RX5 31 "Selfkindle$Term" "distances" "[I") (List.mem_of_getElem? (i := 12) rfl)) (fun _ h9 => h9) rfl hin rfl (by decide +kernel) rfl rfl (Nat.le_of_ble_eq_true rfl) dX5_init_60 (fun H_28 locs hP hD hS => ?_)
  have hP : va_P (dC, dI) vwCl [(h0, .inr (6, [.ref q_1, .ref q_5, .ref q_9, .ref q_13, .ref q_17, .ref q_21, .ref q_25, .int 0])), (q_1, .inl (cA_2, 1200, .inl (fun _ => 0))), (q_5, .inl (cA_6, 1200, .inl (fun _ => 0))), (q_9, .inl (cA_10, 1200, .inl (fun _ => 0))), (q_13, .inl (cA_14, 1200, .inr (.inl (fun _ => 0)))), (q_17, .inl (cA_18, 1200, .inl (fun _ => 0))), (q_21, .inl (cA_22, 1200, .inl (fun _ => 0))), (q_25, .inl (cA_26, 1200, .inl (fun _ => 0)))] H_28 := hP
  have hD : va_D A [(h0, .inr (6, [.ref q_1, .ref q_5, .ref q_9, .ref q_13, .ref q_17, .ref q_21, .ref q_25, .int 0])), (q_1, .inl (cA_2, 1200, .inl (fun _ => 0))), (q_5, .inl (cA_6, 1200, .inl (fun _ => 0))), (q_9, .inl (cA_10, 1200, .inl (fun _ => 0))), (q_13, .inl (cA_14, 1200, .inr (.inl (fun _ => 0)))), (q_17, .inl (cA_18, 1200, .inl (fun _ => 0))), (q_21, .inl (cA_22, 1200, .inl (fun _ => 0))), (q_25, .inl (cA_26, 1200, .inl (fun _ => 0)))] := hD
  have hK : va_K (dC, dI) vwCl [(cA_2, .int), (cA_6, .int), (cA_10, .int), (cA_14, .long), (cA_18, .int), (cA_22, .int), (cA_26, .int)] s := hK
  refine W.widen (k := 7) (n := 8400) (Nat.le_of_ble_eq_true rfl) (Nat.le_of_ble_eq_true rfl) ?_
  exact W.vret hx hb hr (fun t ht hW => ⟨⟨(), rfl, trivial, ⟨q_1, q_5, q_9, q_13, q_17, q_21, q_25, cA_2, cA_6, cA_10, cA_14, cA_18, cA_22, cA_26, by rw [ht]; exact hP, va_K.moved hW.alike hK, hD⟩⟩, hS.F ht⟩) hS.2.2 dX5_init_63

set_option maxRecDepth 20000 in
def z_Ri : List Cond := .code yX4_init cX4_init 1 none :: (([.methodLink RX4 3 objectInit, .instanceMethod objectInit, .code objectInit ⟨#[0xb1]⟩ 1 none, .classLink RX4 9 RX5, .instantiable RX5 8, .initialized RX5, .methodLink RX4 11 yX5_init, .instanceMethod yX5_init, .code yX5_init cX5_init 3 none, .methodLink RX5 3 objectInit, .arrayClass .int, .fieldLink RX5 9 "Selfkindle$Term" "kinds" "[I", .fieldLink RX5 15 "Selfkindle$Term" "names" "[I", .fieldLink RX5 18 "Selfkindle$Term" "others" "[I", .arrayClass .long, .fieldLink RX5 21 "Selfkindle$Term" "numbers" "[J", .fieldLink RX5 25 "Selfkindle$Term" "sizes" "[I", .fieldLink RX5 28 "Selfkindle$Term" "binders" "[I", .fieldLink RX5 31 "Selfkindle$Term" "distances" "[I", .fieldLink RX4 14 "Selfkindle$Rewriter" "made" "LSelfkindle$Term;", .fieldLink RX4 20 "Selfkindle$Rewriter" "spare" "LSelfkindle$Term;"] : List Cond) ++ wsX50 ++ wsX40)
theorem in_z_Ri_X5 : ∀ w ∈ wsX50, w ∈ z_Ri := fun w h => List.mem_cons_of_mem _ (List.mem_append_left _ (List.mem_append_right _ (h)))
theorem in_z_Ri_X4 : ∀ w ∈ wsX40, w ∈ z_Ri := fun w h => List.mem_cons_of_mem _ (List.mem_append_right _ (h))
set_option maxRecDepth 20000 in
theorem g_Ri_11 : GoodIn z_Ri (z_Ti60) := goodIn_p _ [9, 3] rfl (by decide +kernel)
set_option maxRecDepth 20000 in
theorem g_Ri_24 : GoodIn z_Ri (z_Ti60) := goodIn_p _ [9, 3] rfl (by decide +kernel)
set_option maxHeartbeats 4000000 in
set_option maxRecDepth 100000 in
/-- Rewriter() -/
theorem c_Ri (l : Launch) (dC : Nat → ClassId) (dI : Nat → Nat → Nat) (tp te : Nat) (sz : Nat) (h0 : Nat)  : Met l yX4_init z_Ri ({ frames := 2, cells := 16, slots := 856, locals := 34 }) (va_Pc [.ref h0] (Pw dC dI [(h0, .inr (5, [.null, .null]))] [] sz tp te)) (va_Qv (fun (_ : Unit) => True) (fun (_ : Unit) (_ : State) => True) (va_A [(h0, .inr (5, [.null, .null]))] sz)) 16 856 (va_A [(h0, .inr (5, [.null, .null]))] sz) := by
  refine Met.ofW (cc := cX4_init) (maxL := 1) (ret := none) (by decide) rfl ?_
  intro p e s m args below meth c s₁ B hml hv
  obtain ⟨rfl, hsz, hP, hK, hD0, hG⟩ := hv
  have hx := B.exec
  have hb := B.bytes
  have hr := B.returns
  have hts := atoms_spec (ws := z_Ri) B.pre
  have hown : s.vm.findClass RX4 = some m.cls := findClass_of_methodNamed B.named
  have hlocks := B.notSynchronized
  have hin : meth.name = "<init>" := (name_of_methodNamed B.named B.method).1
  subst hsz
  have hD := hD0.self (sz := s.heap.size)
  generalize hAe : va_A [(h0, .inr (5, [.null, .null]))] s.heap.size = A at hD hG ⊢
  have hA : ∀ q : Nat, s.heap.size ≤ q → A q := fun q h => by rw [← hAe]; exact Or.inr h
  have hS : va_S A s.heap s.heap [] := va_S.rf
  have hl := lv_entry ([.ref h0]) (n := 1) (Nat.le_of_ble_eq_true rfl)
  rw [lg_entry_eq]
  generalize (lg_sl ([.ref h0]) ++ List.replicate (1 - (lg_sl ([.ref h0])).length) Slot.unset).toArray = ls at hl ⊢
  have hl : lv_has ls 1 [(0, .ref h0)] := hl
  refine lv_aload_n hx hb dX4_init_0 rfl (lv_at hl 0 rfl) ?_
  refine W.objInit hx hb hown (hts (.methodLink RX4 3 objectInit) (List.mem_of_getElem? (i := 1) rfl)) (hts (.instanceMethod objectInit) (List.mem_of_getElem? (i := 2) rfl)) (hts _ (List.mem_of_getElem? (i := 3) rfl)) rfl (by rw [hml]; exact hl.1) rfl dX4_init_1 (Nat.le_of_ble_eq_true rfl) (Nat.le_of_ble_eq_true rfl) ?_
  refine W.eq (g2 := F0 m 4 ls []) rfl ?_
  refine lv_aload_n hx hb dX4_init_4 rfl (lv_at hl 0 rfl) ?_
  refine va_new (D := (dC, dI)) (cl := vwCl) (ci := 6) (fs := [.null, .null, .null, .null, .null, .null, .null, .int 0]) (C := RX5) (T := TX5) (N := 8) hx hb hts in_z_Ri_X5 tyX5 tyX5_ok hown (hts (.classLink RX4 9 RX5) (List.mem_of_getElem? (i := 4) rfl)) (hts (.instantiable RX5 8) (List.mem_of_getElem? (i := 5) rfl)) (hts (.initialized RX5) (List.mem_of_getElem? (i := 6) rfl)) hK hP hD hS hA rfl dflt_X5 (Nat.le_of_ble_eq_true rfl) (Nat.le_of_ble_eq_true rfl) dX4_init_5 (fun q_1 H_2 hP hD hS => ?_)
  have hP : va_P (dC, dI) vwCl [(h0, .inr (5, [.null, .null])), (q_1, .inr (6, [.null, .null, .null, .null, .null, .null, .null, .int 0]))] H_2 := hP
  have hD : va_D A [(h0, .inr (5, [.null, .null])), (q_1, .inr (6, [.null, .null, .null, .null, .null, .null, .null, .int 0]))] := hD
  have hK : va_K (dC, dI) vwCl [] s := hK
  refine W.widen (k := 1) (n := 8) (Nat.le_of_ble_eq_true rfl) (Nat.le_of_ble_eq_true rfl) ?_
  refine lv_dup hx hb dX4_init_8 rfl ?_
  refine lv_bipush (v := 60) hx hb dX4_init_9 (by decide) ?_
  have hPc := hP.sub (ws' := [(q_1, .inr (6, [.null, .null, .null, .null, .null, .null, .null, .int 0]))]) [1] rfl
  have hDc := hD.sub (ws' := [(q_1, .inr (6, [.null, .null, .null, .null, .null, .null, .null, .int 0]))]) [1] (by decide) rfl
  have hKc := hK.sub (tys' := []) [] rfl
  have hFc := va_free (wc := [(q_1, .inr (6, [.null, .null, .null, .null, .null, .null, .null, .int 0]))]) hD hS hA [1] rfl
  refine va_callv (va_runI (As := [.int 60]) (rest := [.ref q_1, .ref h0]) ⟨hx, hb, hml, hown, hts⟩ (c_Ti60 l dC dI tp te H_2.size q_1) (cwI 1 hts g_Ri_11 rfl rfl rfl (hts (.initialized RX5) (List.mem_of_getElem? (i := 6) rfl)) (hts (.methodLink RX4 11 yX5_init) (List.mem_of_getElem? (i := 7) rfl)) (hts (.instanceMethod yX5_init) (List.mem_of_getElem? (i := 8) rfl)) rfl (by decide +kernel) ⟨Nat.le_of_ble_eq_true rfl, Nat.le_of_ble_eq_true rfl⟩) ⟨Pw.blind, Pw.mk hPc hKc hDc hG hS hFc⟩ rfl rfl hl.1 rfl (lv_room (Nat.le_of_ble_eq_true rfl)) dX4_init_11 ⟨Nat.le_of_ble_eq_true rfl, Nat.le_of_ble_eq_true rfl⟩) hS (fun q _ h => hFc q h) hFc (fun u t9 H_3 locs ht hvm hw hB hz1 hk1 hS => ?_)
  obtain ⟨q_5, q_6, q_7, q_8, q_9, q_10, q_11, hP1, hK1, hD1⟩ := hB
  rw [ht] at hP1
  have hK1 := va_K.moved hvm.symm hK1
  obtain ⟨hP, hD⟩ := va_join (wr := [(h0, .inr (5, [.null, .null]))]) (w1 := [(q_1, .inr (6, [.ref q_5, .ref q_6, .ref q_7, .ref q_8, .ref q_9, .ref q_10, .ref q_11, .int 0]))]) hP hD [1] [0] rfl rfl (by decide) (by decide) hk1 hFc hP1 hD1
  have hK := (hK.sub (tys' := []) [] rfl).app hK1
  have hP : va_P (dC, dI) vwCl [(h0, .inr (5, [.null, .null])), (q_1, .inr (6, [.ref q_5, .ref q_6, .ref q_7, .ref q_8, .ref q_9, .ref q_10, .ref q_11, .int 0]))] H_3 := hP
  have hD : va_D A [(h0, .inr (5, [.null, .null])), (q_1, .inr (6, [.ref q_5, .ref q_6, .ref q_7, .ref q_8, .ref q_9, .ref q_10, .ref q_11, .int 0]))] := hD
  have hK : va_K (dC, dI) vwCl [] s := hK
  refine W.widen (k := 8) (n := 428) (Nat.le_of_ble_eq_true rfl) (Nat.le_of_ble_eq_true rfl) ?_
  refine va_putF (D := (dC, dI)) (ci := 5) (v := .ref q_1) (ty := .object "Selfkindle$Term") (C := RX4) (T := TX4) (N := 2) hx hb hts in_z_Ri_X4 tyX4 tyX4_ok nmX4 hown hK hP hD hS 0 rfl rfl 0 (by decide) (hts (.fieldLink RX4 14 "Selfkindle$Rewriter" "made" "LSelfkindle$Term;") (List.mem_of_getElem? (i := 20) rfl)) (fun _ h9 => h9) rfl hin rfl (by decide +kernel) rfl rfl (Nat.le_of_ble_eq_true rfl) dX4_init_14 (fun H_12 locs hP hD hS => ?_)
  have hP : va_P (dC, dI) vwCl [(h0, .inr (5, [.ref q_1, .null])), (q_1, .inr (6, [.ref q_5, .ref q_6, .ref q_7, .ref q_8, .ref q_9, .ref q_10, .ref q_11, .int 0]))] H_12 := hP
  have hD : va_D A [(h0, .inr (5, [.ref q_1, .null])), (q_1, .inr (6, [.ref q_5, .ref q_6, .ref q_7, .ref q_8, .ref q_9, .ref q_10, .ref q_11, .int 0]))] := hD
  have hK : va_K (dC, dI) vwCl [] s := hK
  have hP := hP.sub (ws' := [(h0, .inr (5, [.ref q_1, .null]))]) [0] rfl
  have hD := hD.sub (ws' := [(h0, .inr (5, [.ref q_1, .null]))]) [0] (by decide) rfl
  have hK := hK.sub (tys' := []) [] rfl
  have hP : va_P (dC, dI) vwCl [(h0, .inr (5, [.ref q_1, .null]))] H_12 := hP
  have hD : va_D A [(h0, .inr (5, [.ref q_1, .null]))] := hD
  have hK : va_K (dC, dI) vwCl [] s := hK
  refine lv_aload_n hx hb dX4_init_17 rfl (lv_at hl 0 rfl) ?_
  refine va_new (D := (dC, dI)) (cl := vwCl) (ci := 6) (fs := [.null, .null, .null, .null, .null, .null, .null, .int 0]) (C := RX5) (T := TX5) (N := 8) hx hb hts in_z_Ri_X5 tyX5 tyX5_ok hown (hts (.classLink RX4 9 RX5) (List.mem_of_getElem? (i := 4) rfl)) (hts (.instantiable RX5 8) (List.mem_of_getElem? (i := 5) rfl)) (hts (.initialized RX5) (List.mem_of_getElem? (i := 6) rfl)) hK hP hD hS hA rfl dflt_X5 (Nat.le_of_ble_eq_true rfl) (Nat.le_of_ble_eq_true rfl) dX4_init_18 (fun q_13 H_14 hP hD hS => ?_)
  have hP : va_P (dC, dI) vwCl [(h0, .inr (5, [.ref q_1, .null])), (q_13, .inr (6, [.null, .null, .null, .null, .null, .null, .null, .int 0]))] H_14 := hP
  have hD : va_D A [(h0, .inr (5, [.ref q_1, .null])), (q_13, .inr (6, [.null, .null, .null, .null, .null, .null, .null, .int 0]))] := hD
  have hK : va_K (dC, dI) vwCl [] s := hK
  refine W.widen (k := 9) (n := 436) (Nat.le_of_ble_eq_true rfl) (Nat.le_of_ble_eq_true rfl) ?_
  refine lv_dup hx hb dX4_init_21 rfl ?_
  refine lv_bipush (v := 60) hx hb dX4_init_22 (by decide) ?_
  have hPc := hP.sub (ws' := [(q_13, .inr (6, [.null, .null, .null, .null, .null, .null, .null, .int 0]))]) [1] rfl
  have hDc := hD.sub (ws' := [(q_13, .inr (6, [.null, .null, .null, .null, .null, .null, .null, .int 0]))]) [1] (by decide) rfl
  have hKc := hK.sub (tys' := []) [] rfl
  have hFc := va_free (wc := [(q_13, .inr (6, [.null, .null, .null, .null, .null, .null, .null, .int 0]))]) hD hS hA [1] rfl
  refine va_callv (va_runI (As := [.int 60]) (rest := [.ref q_13, .ref h0]) ⟨hx, hb, hml, hown, hts⟩ (c_Ti60 l dC dI tp te H_14.size q_13) (cwI 1 hts g_Ri_24 rfl rfl rfl (hts (.initialized RX5) (List.mem_of_getElem? (i := 6) rfl)) (hts (.methodLink RX4 11 yX5_init) (List.mem_of_getElem? (i := 7) rfl)) (hts (.instanceMethod yX5_init) (List.mem_of_getElem? (i := 8) rfl)) rfl (by decide +kernel) ⟨Nat.le_of_ble_eq_true rfl, Nat.le_of_ble_eq_true rfl⟩) ⟨Pw.blind, Pw.mk hPc hKc hDc hG hS hFc⟩ rfl rfl hl.1 rfl (lv_room (Nat.le_of_ble_eq_true rfl)) dX4_init_24 ⟨Nat.le_of_ble_eq_true rfl, Nat.le_of_ble_eq_true rfl⟩) hS (fun q _ h => hFc q h) hFc (fun u t9 H_15 locs ht hvm hw hB hz1 hk1 hS => ?_)
  obtain ⟨q_17, q_18, q_19, q_20, q_21, q_22, q_23, hP1, hK1, hD1⟩ := hB
  rw [ht] at hP1
  have hK1 := va_K.moved hvm.symm hK1
  obtain ⟨hP, hD⟩ := va_join (wr := [(h0, .inr (5, [.ref q_1, .null]))]) (w1 := [(q_13, .inr (6, [.ref q_17, .ref q_18, .ref q_19, .ref q_20, .ref q_21, .ref q_22, .ref q_23, .int 0]))]) hP hD [1] [0] rfl rfl (by decide) (by decide) hk1 hFc hP1 hD1
  have hK := (hK.sub (tys' := []) [] rfl).app hK1
  have hP : va_P (dC, dI) vwCl [(h0, .inr (5, [.ref q_1, .null])), (q_13, .inr (6, [.ref q_17, .ref q_18, .ref q_19, .ref q_20, .ref q_21, .ref q_22, .ref q_23, .int 0]))] H_15 := hP
  have hD : va_D A [(h0, .inr (5, [.ref q_1, .null])), (q_13, .inr (6, [.ref q_17, .ref q_18, .ref q_19, .ref q_20, .ref q_21, .ref q_22, .ref q_23, .int 0]))] := hD
  have hK : va_K (dC, dI) vwCl [] s := hK
  refine W.widen (k := 16) (n := 856) (Nat.le_of_ble_eq_true rfl) (Nat.le_of_ble_eq_true rfl) ?_
  refine va_putF (D := (dC, dI)) (ci := 5) (v := .ref q_13) (ty := .object "Selfkindle$Term") (C := RX4) (T := TX4) (N := 2) hx hb hts in_z_Ri_X4 tyX4 tyX4_ok nmX4 hown hK hP hD hS 0 rfl rfl 1 (by decide) (hts (.fieldLink RX4 20 "Selfkindle$Rewriter" "spare" "LSelfkindle$Term;") (List.mem_of_getElem? (i := 21) rfl)) (fun _ h9 => h9) rfl hin rfl (by decide +kernel) rfl rfl (Nat.le_of_ble_eq_true rfl) dX4_init_27 (fun H_24 locs hP hD hS => ?_)
  have hP : va_P (dC, dI) vwCl [(h0, .inr (5, [.ref q_1, .ref q_13])), (q_13, .inr (6, [.ref q_17, .ref q_18, .ref q_19, .ref q_20, .ref q_21, .ref q_22, .ref q_23, .int 0]))] H_24 := hP
  have hD : va_D A [(h0, .inr (5, [.ref q_1, .ref q_13])), (q_13, .inr (6, [.ref q_17, .ref q_18, .ref q_19, .ref q_20, .ref q_21, .ref q_22, .ref q_23, .int 0]))] := hD
  have hK : va_K (dC, dI) vwCl [] s := hK
  have hP := hP.sub (ws' := [(h0, .inr (5, [.ref q_1, .ref q_13]))]) [0] rfl
  have hD := hD.sub (ws' := [(h0, .inr (5, [.ref q_1, .ref q_13]))]) [0] (by decide) rfl
  have hK := hK.sub (tys' := []) [] rfl
  have hP : va_P (dC, dI) vwCl [(h0, .inr (5, [.ref q_1, .ref q_13]))] H_24 := hP
  have hD : va_D A [(h0, .inr (5, [.ref q_1, .ref q_13]))] := hD
  have hK : va_K (dC, dI) vwCl [] s := hK
  refine W.widen (k := 16) (n := 856) (Nat.le_of_ble_eq_true rfl) (Nat.le_of_ble_eq_true rfl) ?_
  exact W.vret hx hb hr (fun t ht hW => ⟨⟨(), rfl, trivial, trivial⟩, hS.F ht⟩) hS.2.2 dX4_init_30

set_option maxRecDepth 20000 in
def z_Ty : List Cond := .code yX6_init cX6_init 1 none :: (([.methodLink RX6 5 objectInit, .instanceMethod objectInit, .code objectInit ⟨#[0xb1]⟩ 1 none, .arrayClass .int, .fieldLink RX6 11 "Selfkindle$Types" "heads" "[I", .fieldLink RX6 15 "Selfkindle$Types" "lefts" "[I", .fieldLink RX6 18 "Selfkindle$Types" "rights" "[I", .fieldLink RX6 21 "Selfkindle$Types" "copies" "[I", .fieldLink RX6 24 "Selfkindle$Types" "row" "[I", .fieldLink RX6 27 "Selfkindle$Types" "work" "[I", .fieldLink RX6 30 "Selfkindle$Types" "pairs" "[I", .fieldLink RX6 33 "Selfkindle$Types" "typeOfPart" "[I", .fieldLink RX6 36 "Selfkindle$Types" "typeOfName" "[I", .fieldLink RX6 39 "Selfkindle$Types" "levels" "[I", .fieldLink RX6 42 "Selfkindle$Types" "parents" "[I", .fieldLink RX6 45 "Selfkindle$Types" "answer" "[I"] : List Cond) ++ wsX60)
theorem in_z_Ty_X6 : ∀ w ∈ wsX60, w ∈ z_Ty := fun w h => List.mem_cons_of_mem _ (List.mem_append_right _ (h))
set_option maxHeartbeats 4000000 in
set_option maxRecDepth 100000 in
/-- Types() -/
theorem c_Ty (l : Launch) (dC : Nat → ClassId) (dI : Nat → Nat → Nat) (tp te : Nat) (sz : Nat) (h0 : Nat)  : Met l yX6_init z_Ty ({ frames := 1, cells := 12, slots := 49490, locals := 12 }) (va_Pc [.ref h0] (Pw dC dI [(h0, .inr (7, [.null, .null, .null, .null, .int 0, .null, .null, .null, .null, .null, .null, .null, .null, .int 0, .int 0]))] [] sz tp te)) (va_Qv (fun (_ : Unit) => True) (fun (_ : Unit) (_ : State) => True) (va_A [(h0, .inr (7, [.null, .null, .null, .null, .int 0, .null, .null, .null, .null, .null, .null, .null, .null, .int 0, .int 0]))] sz)) 12 49490 (va_A [(h0, .inr (7, [.null, .null, .null, .null, .int 0, .null, .null, .null, .null, .null, .null, .null, .null, .int 0, .int 0]))] sz) := by
  refine Met.ofW (cc := cX6_init) (maxL := 1) (ret := none) (by decide) rfl ?_
  intro p e s m args below meth c s₁ B hml hv
  obtain ⟨rfl, hsz, hP, hK, hD0, hG⟩ := hv
  have hx := B.exec
  have hb := B.bytes
  have hr := B.returns
  have hts := atoms_spec (ws := z_Ty) B.pre
  have hown : s.vm.findClass RX6 = some m.cls := findClass_of_methodNamed B.named
  have hlocks := B.notSynchronized
  have hin : meth.name = "<init>" := (name_of_methodNamed B.named B.method).1
  subst hsz
  have hD := hD0.self (sz := s.heap.size)
  generalize hAe : va_A [(h0, .inr (7, [.null, .null, .null, .null, .int 0, .null, .null, .null, .null, .null, .null, .null, .null, .int 0, .int 0]))] s.heap.size = A at hD hG ⊢
  have hA : ∀ q : Nat, s.heap.size ≤ q → A q := fun q h => by rw [← hAe]; exact Or.inr h
  have hS : va_S A s.heap s.heap [] := va_S.rf
  have hl := lv_entry ([.ref h0]) (n := 1) (Nat.le_of_ble_eq_true rfl)
  rw [lg_entry_eq]
  generalize (lg_sl ([.ref h0]) ++ List.replicate (1 - (lg_sl ([.ref h0])).length) Slot.unset).toArray = ls at hl ⊢
  have hl : lv_has ls 1 [(0, .ref h0)] := hl
  refine lv_aload_n hx hb dX6_init_0 rfl (lv_at hl 0 rfl) ?_
  refine W.objInit hx hb hown (hts (.methodLink RX6 5 objectInit) (List.mem_of_getElem? (i := 1) rfl)) (hts (.instanceMethod objectInit) (List.mem_of_getElem? (i := 2) rfl)) (hts _ (List.mem_of_getElem? (i := 3) rfl)) rfl (by rw [hml]; exact hl.1) rfl dX6_init_1 (Nat.le_of_ble_eq_true rfl) (Nat.le_of_ble_eq_true rfl) ?_
  refine W.eq (g2 := F0 m 4 ls []) rfl ?_
  refine lv_aload_n hx hb dX6_init_4 rfl (lv_at hl 0 rfl) ?_
  refine lv_sipush (v := 12061) hx hb dX6_init_5 (by decide) ?_
  refine va_newa (atype := .int) (ty := .int) (a0 := (12061, .inl (fun _ => 0))) hx hb (hts (.arrayClass .int) (List.mem_of_getElem? (i := 4) rfl)) rfl hK hP hD hS hA (fun _ => rfl) (by decide) (by decide +kernel) (Nat.le_of_ble_eq_true rfl) (Nat.le_of_ble_eq_true rfl) (Nat.le_of_ble_eq_true rfl) dX6_init_8 (fun q_1 cA_2 H_3 hK hP hD hS => ?_)
  have hP : va_P (dC, dI) vwCl [(h0, .inr (7, [.null, .null, .null, .null, .int 0, .null, .null, .null, .null, .null, .null, .null, .null, .int 0, .int 0])), (q_1, .inl (cA_2, 12061, .inl (fun _ => 0)))] H_3 := hP
  have hD : va_D A [(h0, .inr (7, [.null, .null, .null, .null, .int 0, .null, .null, .null, .null, .null, .null, .null, .null, .int 0, .int 0])), (q_1, .inl (cA_2, 12061, .inl (fun _ => 0)))] := hD
  have hK : va_K (dC, dI) vwCl [(cA_2, .int)] s := hK
  refine W.widen (k := 1) (n := 12061) (Nat.le_of_ble_eq_true rfl) (Nat.le_of_ble_eq_true rfl) ?_
  refine va_putF (D := (dC, dI)) (ci := 7) (v := .ref q_1) (ty := .array .int) (C := RX6) (T := TX6) (N := 15) hx hb hts in_z_Ty_X6 tyX6 tyX6_ok nmX6 hown hK hP hD hS 0 rfl rfl 0 (by decide) (hts (.fieldLink RX6 11 "Selfkindle$Types" "heads" "[I") (List.mem_of_getElem? (i := 5) rfl)) (fun _ h9 => h9) rfl hin rfl (by decide +kernel) rfl rfl (Nat.le_of_ble_eq_true rfl) dX6_init_10 (fun H_4 locs hP hD hS => ?_)
  have hP : va_P (dC, dI) vwCl [(h0, .inr (7, [.ref q_1, .null, .null, .null, .int 0, .null, .null, .null, .null, .null, .null, .null, .null, .int 0, .int 0])), (q_1, .inl (cA_2, 12061, .inl (fun _ => 0)))] H_4 := hP
  have hD : va_D A [(h0, .inr (7, [.ref q_1, .null, .null, .null, .int 0, .null, .null, .null, .null, .null, .null, .null, .null, .int 0, .int 0])), (q_1, .inl (cA_2, 12061, .inl (fun _ => 0)))] := hD
  have hK : va_K (dC, dI) vwCl [(cA_2, .int)] s := hK
  have hP := hP.sub (ws' := [(h0, .inr (7, [.ref q_1, .null, .null, .null, .int 0, .null, .null, .null, .null, .null, .null, .null, .null, .int 0, .int 0]))]) [0] rfl
  have hD := hD.sub (ws' := [(h0, .inr (7, [.ref q_1, .null, .null, .null, .int 0, .null, .null, .null, .null, .null, .null, .null, .null, .int 0, .int 0]))]) [0] (by decide) rfl
  have hK := hK.sub (tys' := []) [] rfl
  have hP : va_P (dC, dI) vwCl [(h0, .inr (7, [.ref q_1, .null, .null, .null, .int 0, .null, .null, .null, .null, .null, .null, .null, .null, .int 0, .int 0]))] H_4 := hP
  have hD : va_D A [(h0, .inr (7, [.ref q_1, .null, .null, .null, .int 0, .null, .null, .null, .null, .null, .null, .null, .null, .int 0, .int 0]))] := hD
  have hK : va_K (dC, dI) vwCl [] s := hK
  refine lv_aload_n hx hb dX6_init_13 rfl (lv_at hl 0 rfl) ?_
  refine lv_sipush (v := 12061) hx hb dX6_init_14 (by decide) ?_
  refine va_newa (atype := .int) (ty := .int) (a0 := (12061, .inl (fun _ => 0))) hx hb (hts (.arrayClass .int) (List.mem_of_getElem? (i := 4) rfl)) rfl hK hP hD hS hA (fun _ => rfl) (by decide) (by decide +kernel) (Nat.le_of_ble_eq_true rfl) (Nat.le_of_ble_eq_true rfl) (Nat.le_of_ble_eq_true rfl) dX6_init_17 (fun q_5 cA_6 H_7 hK hP hD hS => ?_)
  have hP : va_P (dC, dI) vwCl [(h0, .inr (7, [.ref q_1, .null, .null, .null, .int 0, .null, .null, .null, .null, .null, .null, .null, .null, .int 0, .int 0])), (q_5, .inl (cA_6, 12061, .inl (fun _ => 0)))] H_7 := hP
  have hD : va_D A [(h0, .inr (7, [.ref q_1, .null, .null, .null, .int 0, .null, .null, .null, .null, .null, .null, .null, .null, .int 0, .int 0])), (q_5, .inl (cA_6, 12061, .inl (fun _ => 0)))] := hD
  have hK : va_K (dC, dI) vwCl [(cA_6, .int)] s := hK
  refine W.widen (k := 2) (n := 24122) (Nat.le_of_ble_eq_true rfl) (Nat.le_of_ble_eq_true rfl) ?_
  refine va_putF (D := (dC, dI)) (ci := 7) (v := .ref q_5) (ty := .array .int) (C := RX6) (T := TX6) (N := 15) hx hb hts in_z_Ty_X6 tyX6 tyX6_ok nmX6 hown hK hP hD hS 0 rfl rfl 1 (by decide) (hts (.fieldLink RX6 15 "Selfkindle$Types" "lefts" "[I") (List.mem_of_getElem? (i := 6) rfl)) (fun _ h9 => h9) rfl hin rfl (by decide +kernel) rfl rfl (Nat.le_of_ble_eq_true rfl) dX6_init_19 (fun H_8 locs hP hD hS => ?_)
  have hP : va_P (dC, dI) vwCl [(h0, .inr (7, [.ref q_1, .ref q_5, .null, .null, .int 0, .null, .null, .null, .null, .null, .null, .null, .null, .int 0, .int 0])), (q_5, .inl (cA_6, 12061, .inl (fun _ => 0)))] H_8 := hP
  have hD : va_D A [(h0, .inr (7, [.ref q_1, .ref q_5, .null, .null, .int 0, .null, .null, .null, .null, .null, .null, .null, .null, .int 0, .int 0])), (q_5, .inl (cA_6, 12061, .inl (fun _ => 0)))] := hD
  have hK : va_K (dC, dI) vwCl [(cA_6, .int)] s := hK
  have hP := hP.sub (ws' := [(h0, .inr (7, [.ref q_1, .ref q_5, .null, .null, .int 0, .null, .null, .null, .null, .null, .null, .null, .null, .int 0, .int 0]))]) [0] rfl
  have hD := hD.sub (ws' := [(h0, .inr (7, [.ref q_1, .ref q_5, .null, .null, .int 0, .null, .null, .null, .null, .null, .null, .null, .null, .int 0, .int 0]))]) [0] (by decide) rfl
  have hK := hK.sub (tys' := []) [] rfl
  have hP : va_P (dC, dI) vwCl [(h0, .inr (7, [.ref q_1, .ref q_5, .null, .null, .int 0, .null, .null, .null, .null, .null, .null, .null, .null, .int 0, .int 0]))] H_8 := hP
  have hD : va_D A [(h0, .inr (7, [.ref q_1, .ref q_5, .null, .null, .int 0, .null, .null, .null, .null, .null, .null, .null, .null, .int 0, .int 0]))] := hD
  have hK : va_K (dC, dI) vwCl [] s := hK
  refine lv_aload_n hx hb dX6_init_22 rfl (lv_at hl 0 rfl) ?_
  refine lv_sipush (v := 12061) hx hb dX6_init_23 (by decide) ?_
  refine va_newa (atype := .int) (ty := .int) (a0 := (12061, .inl (fun _ => 0))) hx hb (hts (.arrayClass .int) (List.mem_of_getElem? (i := 4) rfl)) rfl hK hP hD hS hA (fun _ => rfl) (by decide) (by decide +kernel) (Nat.le_of_ble_eq_true rfl) (Nat.le_of_ble_eq_true rfl) (Nat.le_of_ble_eq_true rfl) dX6_init_26 (fun q_9 cA_10 H_11 hK hP hD hS => ?_)
  have hP : va_P (dC, dI) vwCl [(h0, .inr (7, [.ref q_1, .ref q_5, .null, .null, .int 0, .null, .null, .null, .null, .null, .null, .null, .null, .int 0, .int 0])), (q_9, .inl (cA_10, 12061, .inl (fun _ => 0)))] H_11 := hP
  have hD : va_D A [(h0, .inr (7, [.ref q_1, .ref q_5, .null, .null, .int 0, .null, .null, .null, .null, .null, .null, .null, .null, .int 0, .int 0])), (q_9, .inl (cA_10, 12061, .inl (fun _ => 0)))] := hD
  have hK : va_K (dC, dI) vwCl [(cA_10, .int)] s := hK
  refine W.widen (k := 3) (n := 36183) (Nat.le_of_ble_eq_true rfl) (Nat.le_of_ble_eq_true rfl) ?_
  refine va_putF (D := (dC, dI)) (ci := 7) (v := .ref q_9) (ty := .array .int) (C := RX6) (T := TX6) (N := 15) hx hb hts in_z_Ty_X6 tyX6 tyX6_ok nmX6 hown hK hP hD hS 0 rfl rfl 2 (by decide) (hts (.fieldLink RX6 18 "Selfkindle$Types" "rights" "[I") (List.mem_of_getElem? (i := 7) rfl)) (fun _ h9 => h9) rfl hin rfl (by decide +kernel) rfl rfl (Nat.le_of_ble_eq_true rfl) dX6_init_28 (fun H_12 locs hP hD hS => ?_)
  have hP : va_P (dC, dI) vwCl [(h0, .inr (7, [.ref q_1, .ref q_5, .ref q_9, .null, .int 0, .null, .null, .null, .null, .null, .null, .null, .null, .int 0, .int 0])), (q_9, .inl (cA_10, 12061, .inl (fun _ => 0)))] H_12 := hP
  have hD : va_D A [(h0, .inr (7, [.ref q_1, .ref q_5, .ref q_9, .null, .int 0, .null, .null, .null, .null, .null, .null, .null, .null, .int 0, .int 0])), (q_9, .inl (cA_10, 12061, .inl (fun _ => 0)))] := hD
  have hK : va_K (dC, dI) vwCl [(cA_10, .int)] s := hK
  have hP := hP.sub (ws' := [(h0, .inr (7, [.ref q_1, .ref q_5, .ref q_9, .null, .int 0, .null, .null, .null, .null, .null, .null, .null, .null, .int 0, .int 0]))]) [0] rfl
  have hD := hD.sub (ws' := [(h0, .inr (7, [.ref q_1, .ref q_5, .ref q_9, .null, .int 0, .null, .null, .null, .null, .null, .null, .null, .null, .int 0, .int 0]))]) [0] (by decide) rfl
  have hK := hK.sub (tys' := []) [] rfl
  have hP : va_P (dC, dI) vwCl [(h0, .inr (7, [.ref q_1, .ref q_5, .ref q_9, .null, .int 0, .null, .null, .null, .null, .null, .null, .null, .null, .int 0, .int 0]))] H_12 := hP
  have hD : va_D A [(h0, .inr (7, [.ref q_1, .ref q_5, .ref q_9, .null, .int 0, .null, .null, .null, .null, .null, .null, .null, .null, .int 0, .int 0]))] := hD
  have hK : va_K (dC, dI) vwCl [] s := hK
  refine lv_aload_n hx hb dX6_init_31 rfl (lv_at hl 0 rfl) ?_
  refine lv_sipush (v := 12061) hx hb dX6_init_32 (by decide) ?_
  refine va_newa (atype := .int) (ty := .int) (a0 := (12061, .inl (fun _ => 0))) hx hb (hts (.arrayClass .int) (List.mem_of_getElem? (i := 4) rfl)) rfl hK hP hD hS hA (fun _ => rfl) (by decide) (by decide +kernel) (Nat.le_of_ble_eq_true rfl) (Nat.le_of_ble_eq_true rfl) (Nat.le_of_ble_eq_true rfl) dX6_init_35 (fun q_13 cA_14 H_15 hK hP hD hS => ?_)
  have hP : va_P (dC, dI) vwCl [(h0, .inr (7, [.ref q_1, .ref q_5, .ref q_9, .null, .int 0, .null, .null, .null, .null, .null, .null, .null, .null, .int 0, .int 0])), (q_13, .inl (cA_14, 12061, .inl (fun _ => 0)))] H_15 := hP
  have hD : va_D A [(h0, .inr (7, [.ref q_1, .ref q_5, .ref q_9, .null, .int 0, .null, .null, .null, .null, .null, .null, .null, .null, .int 0, .int 0])), (q_13, .inl (cA_14, 12061, .inl (fun _ => 0)))] := hD
  have hK : va_K (dC, dI) vwCl [(cA_14, .int)] s := hK
  refine W.widen (k := 4) (n := 48244) (Nat.le_of_ble_eq_true rfl) (Nat.le_of_ble_eq_true rfl) ?_
  refine va_putF (D := (dC, dI)) (ci := 7) (v := .ref q_13) (ty := .array .int) (C := RX6) (T := TX6) (N := 15) hx hb hts in_z_Ty_X6 tyX6 tyX6_ok nmX6 hown hK hP hD hS 0 rfl rfl 3 (by decide) (hts (.fieldLink RX6 21 "Selfkindle$Types" "copies" "[I") (List.mem_of_getElem? (i := 8) rfl)) (fun _ h9 => h9) rfl hin rfl (by decide +kernel) rfl rfl (Nat.le_of_ble_eq_true rfl) dX6_init_37 (fun H_16 locs hP hD hS => ?_)
  have hP : va_P (dC, dI) vwCl [(h0, .inr (7, [.ref q_1, .ref q_5, .ref q_9, .ref q_13, .int 0, .null, .null, .null, .null, .null, .null, .null, .null, .int 0, .int 0])), (q_13, .inl (cA_14, 12061, .inl (fun _ => 0)))] H_16 := hP
  have hD : va_D A [(h0, .inr (7, [.ref q_1, .ref q_5, .ref q_9, .ref q_13, .int 0, .null, .null, .null, .null, .null, .null, .null, .null, .int 0, .int 0])), (q_13, .inl (cA_14, 12061, .inl (fun _ => 0)))] := hD
  have hK : va_K (dC, dI) vwCl [(cA_14, .int)] s := hK
  have hP := hP.sub (ws' := [(h0, .inr (7, [.ref q_1, .ref q_5, .ref q_9, .ref q_13, .int 0, .null, .null, .null, .null, .null, .null, .null, .null, .int 0, .int 0]))]) [0] rfl
  have hD := hD.sub (ws' := [(h0, .inr (7, [.ref q_1, .ref q_5, .ref q_9, .ref q_13, .int 0, .null, .null, .null, .null, .null, .null, .null, .null, .int 0, .int 0]))]) [0] (by decide) rfl
  have hK := hK.sub (tys' := []) [] rfl
  have hP : va_P (dC, dI) vwCl [(h0, .inr (7, [.ref q_1, .ref q_5, .ref q_9, .ref q_13, .int 0, .null, .null, .null, .null, .null, .null, .null, .null, .int 0, .int 0]))] H_16 := hP
  have hD : va_D A [(h0, .inr (7, [.ref q_1, .ref q_5, .ref q_9, .ref q_13, .int 0, .null, .null, .null, .null, .null, .null, .null, .null, .int 0, .int 0]))] := hD
  have hK : va_K (dC, dI) vwCl [] s := hK
  refine lv_aload_n hx hb dX6_init_40 rfl (lv_at hl 0 rfl) ?_
  refine lv_sipush (v := 200) hx hb dX6_init_41 (by decide) ?_
  refine va_newa (atype := .int) (ty := .int) (a0 := (200, .inl (fun _ => 0))) hx hb (hts (.arrayClass .int) (List.mem_of_getElem? (i := 4) rfl)) rfl hK hP hD hS hA (fun _ => rfl) (by decide) (by decide +kernel) (Nat.le_of_ble_eq_true rfl) (Nat.le_of_ble_eq_true rfl) (Nat.le_of_ble_eq_true rfl) dX6_init_44 (fun q_17 cA_18 H_19 hK hP hD hS => ?_)
  have hP : va_P (dC, dI) vwCl [(h0, .inr (7, [.ref q_1, .ref q_5, .ref q_9, .ref q_13, .int 0, .null, .null, .null, .null, .null, .null, .null, .null, .int 0, .int 0])), (q_17, .inl (cA_18, 200, .inl (fun _ => 0)))] H_19 := hP
  have hD : va_D A [(h0, .inr (7, [.ref q_1, .ref q_5, .ref q_9, .ref q_13, .int 0, .null, .null, .null, .null, .null, .null, .null, .null, .int 0, .int 0])), (q_17, .inl (cA_18, 200, .inl (fun _ => 0)))] := hD
  have hK : va_K (dC, dI) vwCl [(cA_18, .int)] s := hK
  refine W.widen (k := 5) (n := 48444) (Nat.le_of_ble_eq_true rfl) (Nat.le_of_ble_eq_true rfl) ?_
  refine va_putF (D := (dC, dI)) (ci := 7) (v := .ref q_17) (ty := .array .int) (C := RX6) (T := TX6) (N := 15) hx hb hts in_z_Ty_X6 tyX6 tyX6_ok nmX6 hown hK hP hD hS 0 rfl rfl 5 (by decide) (hts (.fieldLink RX6 24 "Selfkindle$Types" "row" "[I") (List.mem_of_getElem? (i := 9) rfl)) (fun _ h9 => h9) rfl hin rfl (by decide +kernel) rfl rfl (Nat.le_of_ble_eq_true rfl) dX6_init_46 (fun H_20 locs hP hD hS => ?_)
  have hP : va_P (dC, dI) vwCl [(h0, .inr (7, [.ref q_1, .ref q_5, .ref q_9, .ref q_13, .int 0, .ref q_17, .null, .null, .null, .null, .null, .null, .null, .int 0, .int 0])), (q_17, .inl (cA_18, 200, .inl (fun _ => 0)))] H_20 := hP
  have hD : va_D A [(h0, .inr (7, [.ref q_1, .ref q_5, .ref q_9, .ref q_13, .int 0, .ref q_17, .null, .null, .null, .null, .null, .null, .null, .int 0, .int 0])), (q_17, .inl (cA_18, 200, .inl (fun _ => 0)))] := hD
  have hK : va_K (dC, dI) vwCl [(cA_18, .int)] s := hK
  have hP := hP.sub (ws' := [(h0, .inr (7, [.ref q_1, .ref q_5, .ref q_9, .ref q_13, .int 0, .ref q_17, .null, .null, .null, .null, .null, .null, .null, .int 0, .int 0]))]) [0] rfl
  have hD := hD.sub (ws' := [(h0, .inr (7, [.ref q_1, .ref q_5, .ref q_9, .ref q_13, .int 0, .ref q_17, .null, .null, .null, .null, .null, .null, .null, .int 0, .int 0]))]) [0] (by decide) rfl
  have hK := hK.sub (tys' := []) [] rfl
  have hP : va_P (dC, dI) vwCl [(h0, .inr (7, [.ref q_1, .ref q_5, .ref q_9, .ref q_13, .int 0, .ref q_17, .null, .null, .null, .null, .null, .null, .null, .int 0, .int 0]))] H_20 := hP
  have hD : va_D A [(h0, .inr (7, [.ref q_1, .ref q_5, .ref q_9, .ref q_13, .int 0, .ref q_17, .null, .null, .null, .null, .null, .null, .null, .int 0, .int 0]))] := hD
  have hK : va_K (dC, dI) vwCl [] s := hK
  refine lv_aload_n hx hb dX6_init_49 rfl (lv_at hl 0 rfl) ?_
  refine lv_sipush (v := 202) hx hb dX6_init_50 (by decide) ?_
  refine va_newa (atype := .int) (ty := .int) (a0 := (202, .inl (fun _ => 0))) hx hb (hts (.arrayClass .int) (List.mem_of_getElem? (i := 4) rfl)) rfl hK hP hD hS hA (fun _ => rfl) (by decide) (by decide +kernel) (Nat.le_of_ble_eq_true rfl) (Nat.le_of_ble_eq_true rfl) (Nat.le_of_ble_eq_true rfl) dX6_init_53 (fun q_21 cA_22 H_23 hK hP hD hS => ?_)
  have hP : va_P (dC, dI) vwCl [(h0, .inr (7, [.ref q_1, .ref q_5, .ref q_9, .ref q_13, .int 0, .ref q_17, .null, .null, .null, .null, .null, .null, .null, .int 0, .int 0])), (q_21, .inl (cA_22, 202, .inl (fun _ => 0)))] H_23 := hP
  have hD : va_D A [(h0, .inr (7, [.ref q_1, .ref q_5, .ref q_9, .ref q_13, .int 0, .ref q_17, .null, .null, .null, .null, .null, .null, .null, .int 0, .int 0])), (q_21, .inl (cA_22, 202, .inl (fun _ => 0)))] := hD
  have hK : va_K (dC, dI) vwCl [(cA_22, .int)] s := hK
  refine W.widen (k := 6) (n := 48646) (Nat.le_of_ble_eq_true rfl) (Nat.le_of_ble_eq_true rfl) ?_
  refine va_putF (D := (dC, dI)) (ci := 7) (v := .ref q_21) (ty := .array .int) (C := RX6) (T := TX6) (N := 15) hx hb hts in_z_Ty_X6 tyX6 tyX6_ok nmX6 hown hK hP hD hS 0 rfl rfl 6 (by decide) (hts (.fieldLink RX6 27 "Selfkindle$Types" "work" "[I") (List.mem_of_getElem? (i := 10) rfl)) (fun _ h9 => h9) rfl hin rfl (by decide +kernel) rfl rfl (Nat.le_of_ble_eq_true rfl) dX6_init_55 (fun H_24 locs hP hD hS => ?_)
  have hP : va_P (dC, dI) vwCl [(h0, .inr (7, [.ref q_1, .ref q_5, .ref q_9, .ref q_13, .int 0, .ref q_17, .ref q_21, .null, .null, .null, .null, .null, .null, .int 0, .int 0])), (q_21, .inl (cA_22, 202, .inl (fun _ => 0)))] H_24 := hP
  have hD : va_D A [(h0, .inr (7, [.ref q_1, .ref q_5, .ref q_9, .ref q_13, .int 0, .ref q_17, .ref q_21, .null, .null, .null, .null, .null, .null, .int 0, .int 0])), (q_21, .inl (cA_22, 202, .inl (fun _ => 0)))] := hD
  have hK : va_K (dC, dI) vwCl [(cA_22, .int)] s := hK
  have hP := hP.sub (ws' := [(h0, .inr (7, [.ref q_1, .ref q_5, .ref q_9, .ref q_13, .int 0, .ref q_17, .ref q_21, .null, .null, .null, .null, .null, .null, .int 0, .int 0]))]) [0] rfl
  have hD := hD.sub (ws' := [(h0, .inr (7, [.ref q_1, .ref q_5, .ref q_9, .ref q_13, .int 0, .ref q_17, .ref q_21, .null, .null, .null, .null, .null, .null, .int 0, .int 0]))]) [0] (by decide) rfl
  have hK := hK.sub (tys' := []) [] rfl
  have hP : va_P (dC, dI) vwCl [(h0, .inr (7, [.ref q_1, .ref q_5, .ref q_9, .ref q_13, .int 0, .ref q_17, .ref q_21, .null, .null, .null, .null, .null, .null, .int 0, .int 0]))] H_24 := hP
  have hD : va_D A [(h0, .inr (7, [.ref q_1, .ref q_5, .ref q_9, .ref q_13, .int 0, .ref q_17, .ref q_21, .null, .null, .null, .null, .null, .null, .int 0, .int 0]))] := hD
  have hK : va_K (dC, dI) vwCl [] s := hK
  refine lv_aload_n hx hb dX6_init_58 rfl (lv_at hl 0 rfl) ?_
  refine lv_sipush (v := 404) hx hb dX6_init_59 (by decide) ?_
  refine va_newa (atype := .int) (ty := .int) (a0 := (404, .inl (fun _ => 0))) hx hb (hts (.arrayClass .int) (List.mem_of_getElem? (i := 4) rfl)) rfl hK hP hD hS hA (fun _ => rfl) (by decide) (by decide +kernel) (Nat.le_of_ble_eq_true rfl) (Nat.le_of_ble_eq_true rfl) (Nat.le_of_ble_eq_true rfl) dX6_init_62 (fun q_25 cA_26 H_27 hK hP hD hS => ?_)
  have hP : va_P (dC, dI) vwCl [(h0, .inr (7, [.ref q_1, .ref q_5, .ref q_9, .ref q_13, .int 0, .ref q_17, .ref q_21, .null, .null, .null, .null, .null, .null, .int 0, .int 0])), (q_25, .inl (cA_26, 404, .inl (fun _ => 0)))] H_27 := hP
  have hD : va_D A [(h0, .inr (7, [.ref q_1, .ref q_5, .ref q_9, .ref q_13, .int 0, .ref q_17, .ref q_21, .null, .null, .null, .null, .null, .null, .int 0, .int 0])), (q_25, .inl (cA_26, 404, .inl (fun _ => 0)))] := hD
  have hK : va_K (dC, dI) vwCl [(cA_26, .int)] s := hK
  refine W.widen (k := 7) (n := 49050) (Nat.le_of_ble_eq_true rfl) (Nat.le_of_ble_eq_true rfl) ?_
  refine va_putF (D := (dC, dI)) (ci := 7) (v := .ref q_25) (ty := .array .int) (C := RX6) (T := TX6) (N := 15) hx hb hts in_z_Ty_X6 tyX6 tyX6_ok nmX6 hown hK hP hD hS 0 rfl rfl 7 (by decide) (hts (.fieldLink RX6 30 "Selfkindle$Types" "pairs" "[I") (List.mem_of_getElem? (i := 11) rfl)) (fun _ h9 => h9) rfl hin rfl (by decide +kernel) rfl rfl (Nat.le_of_ble_eq_true rfl) dX6_init_64 (fun H_28 locs hP hD hS => ?_)
  have hP : va_P (dC, dI) vwCl [(h0, .inr (7, [.ref q_1, .ref q_5, .ref q_9, .ref q_13, .int 0, .ref q_17, .ref q_21, .ref q_25, .null, .null, .null, .null, .null, .int 0, .int 0])), (q_25, .inl (cA_26, 404, .inl (fun _ => 0)))] H_28 := hP
  have hD : va_D A [(h0, .inr (7, [.ref q_1, .ref q_5, .ref q_9, .ref q_13, .int 0, .ref q_17, .ref q_21, .ref q_25, .null, .null, .null, .null, .null, .int 0, .int 0])), (q_25, .inl (cA_26, 404, .inl (fun _ => 0)))] := hD
  have hK : va_K (dC, dI) vwCl [(cA_26, .int)] s := hK
  have hP := hP.sub (ws' := [(h0, .inr (7, [.ref q_1, .ref q_5, .ref q_9, .ref q_13, .int 0, .ref q_17, .ref q_21, .ref q_25, .null, .null, .null, .null, .null, .int 0, .int 0]))]) [0] rfl
  have hD := hD.sub (ws' := [(h0, .inr (7, [.ref q_1, .ref q_5, .ref q_9, .ref q_13, .int 0, .ref q_17, .ref q_21, .ref q_25, .null, .null, .null, .null, .null, .int 0, .int 0]))]) [0] (by decide) rfl
  have hK := hK.sub (tys' := []) [] rfl
  have hP : va_P (dC, dI) vwCl [(h0, .inr (7, [.ref q_1, .ref q_5, .ref q_9, .ref q_13, .int 0, .ref q_17, .ref q_21, .ref q_25, .null, .null, .null, .null, .null, .int 0, .int 0]))] H_28 := hP
  have hD : va_D A [(h0, .inr (7, [.ref q_1, .ref q_5, .ref q_9, .ref q_13, .int 0, .ref q_17, .ref q_21, .ref q_25, .null, .null, .null, .null, .null, .int 0, .int 0]))] := hD
  have hK : va_K (dC, dI) vwCl [] s := hK
  refine lv_aload_n hx hb dX6_init_67 rfl (lv_at hl 0 rfl) ?_
  refine lv_bipush (v := 60) hx hb dX6_init_68 (by decide) ?_
  refine va_newa (atype := .int) (ty := .int) (a0 := (60, .inl (fun _ => 0))) hx hb (hts (.arrayClass .int) (List.mem_of_getElem? (i := 4) rfl)) rfl hK hP hD hS hA (fun _ => rfl) (by decide) (by decide +kernel) (Nat.le_of_ble_eq_true rfl) (Nat.le_of_ble_eq_true rfl) (Nat.le_of_ble_eq_true rfl) dX6_init_70 (fun q_29 cA_30 H_31 hK hP hD hS => ?_)
  have hP : va_P (dC, dI) vwCl [(h0, .inr (7, [.ref q_1, .ref q_5, .ref q_9, .ref q_13, .int 0, .ref q_17, .ref q_21, .ref q_25, .null, .null, .null, .null, .null, .int 0, .int 0])), (q_29, .inl (cA_30, 60, .inl (fun _ => 0)))] H_31 := hP
  have hD : va_D A [(h0, .inr (7, [.ref q_1, .ref q_5, .ref q_9, .ref q_13, .int 0, .ref q_17, .ref q_21, .ref q_25, .null, .null, .null, .null, .null, .int 0, .int 0])), (q_29, .inl (cA_30, 60, .inl (fun _ => 0)))] := hD
  have hK : va_K (dC, dI) vwCl [(cA_30, .int)] s := hK
  refine W.widen (k := 8) (n := 49110) (Nat.le_of_ble_eq_true rfl) (Nat.le_of_ble_eq_true rfl) ?_
  refine va_putF (D := (dC, dI)) (ci := 7) (v := .ref q_29) (ty := .array .int) (C := RX6) (T := TX6) (N := 15) hx hb hts in_z_Ty_X6 tyX6 tyX6_ok nmX6 hown hK hP hD hS 0 rfl rfl 8 (by decide) (hts (.fieldLink RX6 33 "Selfkindle$Types" "typeOfPart" "[I") (List.mem_of_getElem? (i := 12) rfl)) (fun _ h9 => h9) rfl hin rfl (by decide +kernel) rfl rfl (Nat.le_of_ble_eq_true rfl) dX6_init_72 (fun H_32 locs hP hD hS => ?_)
  have hP : va_P (dC, dI) vwCl [(h0, .inr (7, [.ref q_1, .ref q_5, .ref q_9, .ref q_13, .int 0, .ref q_17, .ref q_21, .ref q_25, .ref q_29, .null, .null, .null, .null, .int 0, .int 0])), (q_29, .inl (cA_30, 60, .inl (fun _ => 0)))] H_32 := hP
  have hD : va_D A [(h0, .inr (7, [.ref q_1, .ref q_5, .ref q_9, .ref q_13, .int 0, .ref q_17, .ref q_21, .ref q_25, .ref q_29, .null, .null, .null, .null, .int 0, .int 0])), (q_29, .inl (cA_30, 60, .inl (fun _ => 0)))] := hD
  have hK : va_K (dC, dI) vwCl [(cA_30, .int)] s := hK
  have hP := hP.sub (ws' := [(h0, .inr (7, [.ref q_1, .ref q_5, .ref q_9, .ref q_13, .int 0, .ref q_17, .ref q_21, .ref q_25, .ref q_29, .null, .null, .null, .null, .int 0, .int 0]))]) [0] rfl
  have hD := hD.sub (ws' := [(h0, .inr (7, [.ref q_1, .ref q_5, .ref q_9, .ref q_13, .int 0, .ref q_17, .ref q_21, .ref q_25, .ref q_29, .null, .null, .null, .null, .int 0, .int 0]))]) [0] (by decide) rfl
  have hK := hK.sub (tys' := []) [] rfl
  have hP : va_P (dC, dI) vwCl [(h0, .inr (7, [.ref q_1, .ref q_5, .ref q_9, .ref q_13, .int 0, .ref q_17, .ref q_21, .ref q_25, .ref q_29, .null, .null, .null, .null, .int 0, .int 0]))] H_32 := hP
  have hD : va_D A [(h0, .inr (7, [.ref q_1, .ref q_5, .ref q_9, .ref q_13, .int 0, .ref q_17, .ref q_21, .ref q_25, .ref q_29, .null, .null, .null, .null, .int 0, .int 0]))] := hD
  have hK : va_K (dC, dI) vwCl [] s := hK
  refine lv_aload_n hx hb dX6_init_75 rfl (lv_at hl 0 rfl) ?_
  refine lv_bipush (v := 60) hx hb dX6_init_76 (by decide) ?_
  refine va_newa (atype := .int) (ty := .int) (a0 := (60, .inl (fun _ => 0))) hx hb (hts (.arrayClass .int) (List.mem_of_getElem? (i := 4) rfl)) rfl hK hP hD hS hA (fun _ => rfl) (by decide) (by decide +kernel) (Nat.le_of_ble_eq_true rfl) (Nat.le_of_ble_eq_true rfl) (Nat.le_of_ble_eq_true rfl) dX6_init_78 (fun q_33 cA_34 H_35 hK hP hD hS => ?_)
  have hP : va_P (dC, dI) vwCl [(h0, .inr (7, [.ref q_1, .ref q_5, .ref q_9, .ref q_13, .int 0, .ref q_17, .ref q_21, .ref q_25, .ref q_29, .null, .null, .null, .null, .int 0, .int 0])), (q_33, .inl (cA_34, 60, .inl (fun _ => 0)))] H_35 := hP
  have hD : va_D A [(h0, .inr (7, [.ref q_1, .ref q_5, .ref q_9, .ref q_13, .int 0, .ref q_17, .ref q_21, .ref q_25, .ref q_29, .null, .null, .null, .null, .int 0, .int 0])), (q_33, .inl (cA_34, 60, .inl (fun _ => 0)))] := hD
  have hK : va_K (dC, dI) vwCl [(cA_34, .int)] s := hK
  refine W.widen (k := 9) (n := 49170) (Nat.le_of_ble_eq_true rfl) (Nat.le_of_ble_eq_true rfl) ?_
  refine va_putF (D := (dC, dI)) (ci := 7) (v := .ref q_33) (ty := .array .int) (C := RX6) (T := TX6) (N := 15) hx hb hts in_z_Ty_X6 tyX6 tyX6_ok nmX6 hown hK hP hD hS 0 rfl rfl 9 (by decide) (hts (.fieldLink RX6 36 "Selfkindle$Types" "typeOfName" "[I") (List.mem_of_getElem? (i := 13) rfl)) (fun _ h9 => h9) rfl hin rfl (by decide +kernel) rfl rfl (Nat.le_of_ble_eq_true rfl) dX6_init_80 (fun H_36 locs hP hD hS => ?_)
  have hP : va_P (dC, dI) vwCl [(h0, .inr (7, [.ref q_1, .ref q_5, .ref q_9, .ref q_13, .int 0, .ref q_17, .ref q_21, .ref q_25, .ref q_29, .ref q_33, .null, .null, .null, .int 0, .int 0])), (q_33, .inl (cA_34, 60, .inl (fun _ => 0)))] H_36 := hP
  have hD : va_D A [(h0, .inr (7, [.ref q_1, .ref q_5, .ref q_9, .ref q_13, .int 0, .ref q_17, .ref q_21, .ref q_25, .ref q_29, .ref q_33, .null, .null, .null, .int 0, .int 0])), (q_33, .inl (cA_34, 60, .inl (fun _ => 0)))] := hD
  have hK : va_K (dC, dI) vwCl [(cA_34, .int)] s := hK
  have hP := hP.sub (ws' := [(h0, .inr (7, [.ref q_1, .ref q_5, .ref q_9, .ref q_13, .int 0, .ref q_17, .ref q_21, .ref q_25, .ref q_29, .ref q_33, .null, .null, .null, .int 0, .int 0]))]) [0] rfl
  have hD := hD.sub (ws' := [(h0, .inr (7, [.ref q_1, .ref q_5, .ref q_9, .ref q_13, .int 0, .ref q_17, .ref q_21, .ref q_25, .ref q_29, .ref q_33, .null, .null, .null, .int 0, .int 0]))]) [0] (by decide) rfl
  have hK := hK.sub (tys' := []) [] rfl
  have hP : va_P (dC, dI) vwCl [(h0, .inr (7, [.ref q_1, .ref q_5, .ref q_9, .ref q_13, .int 0, .ref q_17, .ref q_21, .ref q_25, .ref q_29, .ref q_33, .null, .null, .null, .int 0, .int 0]))] H_36 := hP
  have hD : va_D A [(h0, .inr (7, [.ref q_1, .ref q_5, .ref q_9, .ref q_13, .int 0, .ref q_17, .ref q_21, .ref q_25, .ref q_29, .ref q_33, .null, .null, .null, .int 0, .int 0]))] := hD
  have hK : va_K (dC, dI) vwCl [] s := hK
  refine lv_aload_n hx hb dX6_init_83 rfl (lv_at hl 0 rfl) ?_
  refine lv_bipush (v := 60) hx hb dX6_init_84 (by decide) ?_
  refine va_newa (atype := .int) (ty := .int) (a0 := (60, .inl (fun _ => 0))) hx hb (hts (.arrayClass .int) (List.mem_of_getElem? (i := 4) rfl)) rfl hK hP hD hS hA (fun _ => rfl) (by decide) (by decide +kernel) (Nat.le_of_ble_eq_true rfl) (Nat.le_of_ble_eq_true rfl) (Nat.le_of_ble_eq_true rfl) dX6_init_86 (fun q_37 cA_38 H_39 hK hP hD hS => ?_)
  have hP : va_P (dC, dI) vwCl [(h0, .inr (7, [.ref q_1, .ref q_5, .ref q_9, .ref q_13, .int 0, .ref q_17, .ref q_21, .ref q_25, .ref q_29, .ref q_33, .null, .null, .null, .int 0, .int 0])), (q_37, .inl (cA_38, 60, .inl (fun _ => 0)))] H_39 := hP
  have hD : va_D A [(h0, .inr (7, [.ref q_1, .ref q_5, .ref q_9, .ref q_13, .int 0, .ref q_17, .ref q_21, .ref q_25, .ref q_29, .ref q_33, .null, .null, .null, .int 0, .int 0])), (q_37, .inl (cA_38, 60, .inl (fun _ => 0)))] := hD
  have hK : va_K (dC, dI) vwCl [(cA_38, .int)] s := hK
  refine W.widen (k := 10) (n := 49230) (Nat.le_of_ble_eq_true rfl) (Nat.le_of_ble_eq_true rfl) ?_
  refine va_putF (D := (dC, dI)) (ci := 7) (v := .ref q_37) (ty := .array .int) (C := RX6) (T := TX6) (N := 15) hx hb hts in_z_Ty_X6 tyX6 tyX6_ok nmX6 hown hK hP hD hS 0 rfl rfl 10 (by decide) (hts (.fieldLink RX6 39 "Selfkindle$Types" "levels" "[I") (List.mem_of_getElem? (i := 14) rfl)) (fun _ h9 => h9) rfl hin rfl (by decide +kernel) rfl rfl (Nat.le_of_ble_eq_true rfl) dX6_init_88 (fun H_40 locs hP hD hS => ?_)
  have hP : va_P (dC, dI) vwCl [(h0, .inr (7, [.ref q_1, .ref q_5, .ref q_9, .ref q_13, .int 0, .ref q_17, .ref q_21, .ref q_25, .ref q_29, .ref q_33, .ref q_37, .null, .null, .int 0, .int 0])), (q_37, .inl (cA_38, 60, .inl (fun _ => 0)))] H_40 := hP
  have hD : va_D A [(h0, .inr (7, [.ref q_1, .ref q_5, .ref q_9, .ref q_13, .int 0, .ref q_17, .ref q_21, .ref q_25, .ref q_29, .ref q_33, .ref q_37, .null, .null, .int 0, .int 0])), (q_37, .inl (cA_38, 60, .inl (fun _ => 0)))] := hD
  have hK : va_K (dC, dI) vwCl [(cA_38, .int)] s := hK
  have hP := hP.sub (ws' := [(h0, .inr (7, [.ref q_1, .ref q_5, .ref q_9, .ref q_13, .int 0, .ref q_17, .ref q_21, .ref q_25, .ref q_29, .ref q_33, .ref q_37, .null, .null, .int 0, .int 0]))]) [0] rfl
  have hD := hD.sub (ws' := [(h0, .inr (7, [.ref q_1, .ref q_5, .ref q_9, .ref q_13, .int 0, .ref q_17, .ref q_21, .ref q_25, .ref q_29, .ref q_33, .ref q_37, .null, .null, .int 0, .int 0]))]) [0] (by decide) rfl
  have hK := hK.sub (tys' := []) [] rfl
  have hP : va_P (dC, dI) vwCl [(h0, .inr (7, [.ref q_1, .ref q_5, .ref q_9, .ref q_13, .int 0, .ref q_17, .ref q_21, .ref q_25, .ref q_29, .ref q_33, .ref q_37, .null, .null, .int 0, .int 0]))] H_40 := hP
  have hD : va_D A [(h0, .inr (7, [.ref q_1, .ref q_5, .ref q_9, .ref q_13, .int 0, .ref q_17, .ref q_21, .ref q_25, .ref q_29, .ref q_33, .ref q_37, .null, .null, .int 0, .int 0]))] := hD
  have hK : va_K (dC, dI) vwCl [] s := hK
  refine lv_aload_n hx hb dX6_init_91 rfl (lv_at hl 0 rfl) ?_
  refine lv_bipush (v := 60) hx hb dX6_init_92 (by decide) ?_
  refine va_newa (atype := .int) (ty := .int) (a0 := (60, .inl (fun _ => 0))) hx hb (hts (.arrayClass .int) (List.mem_of_getElem? (i := 4) rfl)) rfl hK hP hD hS hA (fun _ => rfl) (by decide) (by decide +kernel) (Nat.le_of_ble_eq_true rfl) (Nat.le_of_ble_eq_true rfl) (Nat.le_of_ble_eq_true rfl) dX6_init_94 (fun q_41 cA_42 H_43 hK hP hD hS => ?_)
  have hP : va_P (dC, dI) vwCl [(h0, .inr (7, [.ref q_1, .ref q_5, .ref q_9, .ref q_13, .int 0, .ref q_17, .ref q_21, .ref q_25, .ref q_29, .ref q_33, .ref q_37, .null, .null, .int 0, .int 0])), (q_41, .inl (cA_42, 60, .inl (fun _ => 0)))] H_43 := hP
  have hD : va_D A [(h0, .inr (7, [.ref q_1, .ref q_5, .ref q_9, .ref q_13, .int 0, .ref q_17, .ref q_21, .ref q_25, .ref q_29, .ref q_33, .ref q_37, .null, .null, .int 0, .int 0])), (q_41, .inl (cA_42, 60, .inl (fun _ => 0)))] := hD
  have hK : va_K (dC, dI) vwCl [(cA_42, .int)] s := hK
  refine W.widen (k := 11) (n := 49290) (Nat.le_of_ble_eq_true rfl) (Nat.le_of_ble_eq_true rfl) ?_
  refine va_putF (D := (dC, dI)) (ci := 7) (v := .ref q_41) (ty := .array .int) (C := RX6) (T := TX6) (N := 15) hx hb hts in_z_Ty_X6 tyX6 tyX6_ok nmX6 hown hK hP hD hS 0 rfl rfl 11 (by decide) (hts (.fieldLink RX6 42 "Selfkindle$Types" "parents" "[I") (List.mem_of_getElem? (i := 15) rfl)) (fun _ h9 => h9) rfl hin rfl (by decide +kernel) rfl rfl (Nat.le_of_ble_eq_true rfl) dX6_init_96 (fun H_44 locs hP hD hS => ?_)
  have hP : va_P (dC, dI) vwCl [(h0, .inr (7, [.ref q_1, .ref q_5, .ref q_9, .ref q_13, .int 0, .ref q_17, .ref q_21, .ref q_25, .ref q_29, .ref q_33, .ref q_37, .ref q_41, .null, .int 0, .int 0])), (q_41, .inl (cA_42, 60, .inl (fun _ => 0)))] H_44 := hP
  have hD : va_D A [(h0, .inr (7, [.ref q_1, .ref q_5, .ref q_9, .ref q_13, .int 0, .ref q_17, .ref q_21, .ref q_25, .ref q_29, .ref q_33, .ref q_37, .ref q_41, .null, .int 0, .int 0])), (q_41, .inl (cA_42, 60, .inl (fun _ => 0)))] := hD
  have hK : va_K (dC, dI) vwCl [(cA_42, .int)] s := hK
  have hP := hP.sub (ws' := [(h0, .inr (7, [.ref q_1, .ref q_5, .ref q_9, .ref q_13, .int 0, .ref q_17, .ref q_21, .ref q_25, .ref q_29, .ref q_33, .ref q_37, .ref q_41, .null, .int 0, .int 0]))]) [0] rfl
  have hD := hD.sub (ws' := [(h0, .inr (7, [.ref q_1, .ref q_5, .ref q_9, .ref q_13, .int 0, .ref q_17, .ref q_21, .ref q_25, .ref q_29, .ref q_33, .ref q_37, .ref q_41, .null, .int 0, .int 0]))]) [0] (by decide) rfl
  have hK := hK.sub (tys' := []) [] rfl
  have hP : va_P (dC, dI) vwCl [(h0, .inr (7, [.ref q_1, .ref q_5, .ref q_9, .ref q_13, .int 0, .ref q_17, .ref q_21, .ref q_25, .ref q_29, .ref q_33, .ref q_37, .ref q_41, .null, .int 0, .int 0]))] H_44 := hP
  have hD : va_D A [(h0, .inr (7, [.ref q_1, .ref q_5, .ref q_9, .ref q_13, .int 0, .ref q_17, .ref q_21, .ref q_25, .ref q_29, .ref q_33, .ref q_37, .ref q_41, .null, .int 0, .int 0]))] := hD
  have hK : va_K (dC, dI) vwCl [] s := hK
  refine lv_aload_n hx hb dX6_init_99 rfl (lv_at hl 0 rfl) ?_
  refine lv_sipush (v := 200) hx hb dX6_init_100 (by decide) ?_
  refine va_newa (atype := .int) (ty := .int) (a0 := (200, .inl (fun _ => 0))) hx hb (hts (.arrayClass .int) (List.mem_of_getElem? (i := 4) rfl)) rfl hK hP hD hS hA (fun _ => rfl) (by decide) (by decide +kernel) (Nat.le_of_ble_eq_true rfl) (Nat.le_of_ble_eq_true rfl) (Nat.le_of_ble_eq_true rfl) dX6_init_103 (fun q_45 cA_46 H_47 hK hP hD hS => ?_)
  have hP : va_P (dC, dI) vwCl [(h0, .inr (7, [.ref q_1, .ref q_5, .ref q_9, .ref q_13, .int 0, .ref q_17, .ref q_21, .ref q_25, .ref q_29, .ref q_33, .ref q_37, .ref q_41, .null, .int 0, .int 0])), (q_45, .inl (cA_46, 200, .inl (fun _ => 0)))] H_47 := hP
  have hD : va_D A [(h0, .inr (7, [.ref q_1, .ref q_5, .ref q_9, .ref q_13, .int 0, .ref q_17, .ref q_21, .ref q_25, .ref q_29, .ref q_33, .ref q_37, .ref q_41, .null, .int 0, .int 0])), (q_45, .inl (cA_46, 200, .inl (fun _ => 0)))] := hD
  have hK : va_K (dC, dI) vwCl [(cA_46, .int)] s := hK
  refine W.widen (k := 12) (n := 49490) (Nat.le_of_ble_eq_true rfl) (Nat.le_of_ble_eq_true rfl) ?_
  refine va_putF (D := (dC, dI)) (ci := 7) (v := .ref q_45) (ty := .array .int) (C := RX6) (T := TX6) (N := 15) hx hb hts in_z_Ty_X6 tyX6 tyX6_ok nmX6 hown hK hP hD hS 0 rfl rfl 12 (by decide) (hts (.fieldLink RX6 45 "Selfkindle$Types" "answer" "[I") (List.mem_of_getElem? (i := 16) rfl)) (fun _ h9 => h9) rfl hin rfl (by decide +kernel) rfl rfl (Nat.le_of_ble_eq_true rfl) dX6_init_105 (fun H_48 locs hP hD hS => ?_)
  have hP : va_P (dC, dI) vwCl [(h0, .inr (7, [.ref q_1, .ref q_5, .ref q_9, .ref q_13, .int 0, .ref q_17, .ref q_21, .ref q_25, .ref q_29, .ref q_33, .ref q_37, .ref q_41, .ref q_45, .int 0, .int 0])), (q_45, .inl (cA_46, 200, .inl (fun _ => 0)))] H_48 := hP
  have hD : va_D A [(h0, .inr (7, [.ref q_1, .ref q_5, .ref q_9, .ref q_13, .int 0, .ref q_17, .ref q_21, .ref q_25, .ref q_29, .ref q_33, .ref q_37, .ref q_41, .ref q_45, .int 0, .int 0])), (q_45, .inl (cA_46, 200, .inl (fun _ => 0)))] := hD
  have hK : va_K (dC, dI) vwCl [(cA_46, .int)] s := hK
  have hP := hP.sub (ws' := [(h0, .inr (7, [.ref q_1, .ref q_5, .ref q_9, .ref q_13, .int 0, .ref q_17, .ref q_21, .ref q_25, .ref q_29, .ref q_33, .ref q_37, .ref q_41, .ref q_45, .int 0, .int 0]))]) [0] rfl
  have hD := hD.sub (ws' := [(h0, .inr (7, [.ref q_1, .ref q_5, .ref q_9, .ref q_13, .int 0, .ref q_17, .ref q_21, .ref q_25, .ref q_29, .ref q_33, .ref q_37, .ref q_41, .ref q_45, .int 0, .int 0]))]) [0] (by decide) rfl
  have hK := hK.sub (tys' := []) [] rfl
  have hP : va_P (dC, dI) vwCl [(h0, .inr (7, [.ref q_1, .ref q_5, .ref q_9, .ref q_13, .int 0, .ref q_17, .ref q_21, .ref q_25, .ref q_29, .ref q_33, .ref q_37, .ref q_41, .ref q_45, .int 0, .int 0]))] H_48 := hP
  have hD : va_D A [(h0, .inr (7, [.ref q_1, .ref q_5, .ref q_9, .ref q_13, .int 0, .ref q_17, .ref q_21, .ref q_25, .ref q_29, .ref q_33, .ref q_37, .ref q_41, .ref q_45, .int 0, .int 0]))] := hD
  have hK : va_K (dC, dI) vwCl [] s := hK
  refine W.widen (k := 12) (n := 49490) (Nat.le_of_ble_eq_true rfl) (Nat.le_of_ble_eq_true rfl) ?_
  exact W.vret hx hb hr (fun t ht hW => ⟨⟨(), rfl, trivial, trivial⟩, hS.F ht⟩) hS.2.2 dX6_init_108

set_option maxRecDepth 20000 in
def z_Co : List Cond := .code yX0_init cX0_init 1 none :: (([.methodLink RX0 5 objectInit, .instanceMethod objectInit, .code objectInit ⟨#[0xb1]⟩ 1 none, .arrayClass .int, .fieldLink RX0 11 "Selfkindle$Code" "whats" "[I", .arrayClass .long, .fieldLink RX0 15 "Selfkindle$Code" "numbers" "[J", .fieldLink RX0 19 "Selfkindle$Code" "times" "[I", .arrayClass .boolean, .fieldLink RX0 22 "Selfkindle$Code" "stops" "[Z", .fieldLink RX0 26 "Selfkindle$Code" "lengths" "[I", .fieldLink RX0 29 "Selfkindle$Code" "places" "[I"] : List Cond) ++ wsX00)
theorem in_z_Co_X0 : ∀ w ∈ wsX00, w ∈ z_Co := fun w h => List.mem_cons_of_mem _ (List.mem_append_right _ (h))
set_option maxHeartbeats 4000000 in
set_option maxRecDepth 100000 in
/-- Code() -/
theorem c_Co (l : Launch) (dC : Nat → ClassId) (dI : Nat → Nat → Nat) (tp te : Nat) (sz : Nat) (h0 : Nat)  : Met l yX0_init z_Co ({ frames := 1, cells := 6, slots := 1080, locals := 12 }) (va_Pc [.ref h0] (Pw dC dI [(h0, .inr (1, [.null, .null, .null, .null, .null, .null, .int 0]))] [] sz tp te)) (va_Qv (fun (_ : Unit) => True) (fun (_ : Unit) (_ : State) => True) (va_A [(h0, .inr (1, [.null, .null, .null, .null, .null, .null, .int 0]))] sz)) 6 1080 (va_A [(h0, .inr (1, [.null, .null, .null, .null, .null, .null, .int 0]))] sz) := by
  refine Met.ofW (cc := cX0_init) (maxL := 1) (ret := none) (by decide) rfl ?_
  intro p e s m args below meth c s₁ B hml hv
  obtain ⟨rfl, hsz, hP, hK, hD0, hG⟩ := hv
  have hx := B.exec
  have hb := B.bytes
  have hr := B.returns
  have hts := atoms_spec (ws := z_Co) B.pre
  have hown : s.vm.findClass RX0 = some m.cls := findClass_of_methodNamed B.named
  have hlocks := B.notSynchronized
  have hin : meth.name = "<init>" := (name_of_methodNamed B.named B.method).1
  subst hsz
  have hD := hD0.self (sz := s.heap.size)
  generalize hAe : va_A [(h0, .inr (1, [.null, .null, .null, .null, .null, .null, .int 0]))] s.heap.size = A at hD hG ⊢
  have hA : ∀ q : Nat, s.heap.size ≤ q → A q := fun q h => by rw [← hAe]; exact Or.inr h
  have hS : va_S A s.heap s.heap [] := va_S.rf
  have hl := lv_entry ([.ref h0]) (n := 1) (Nat.le_of_ble_eq_true rfl)
  rw [lg_entry_eq]
  generalize (lg_sl ([.ref h0]) ++ List.replicate (1 - (lg_sl ([.ref h0])).length) Slot.unset).toArray = ls at hl ⊢
  have hl : lv_has ls 1 [(0, .ref h0)] := hl
  refine lv_aload_n hx hb dX0_init_0 rfl (lv_at hl 0 rfl) ?_
  refine W.objInit hx hb hown (hts (.methodLink RX0 5 objectInit) (List.mem_of_getElem? (i := 1) rfl)) (hts (.instanceMethod objectInit) (List.mem_of_getElem? (i := 2) rfl)) (hts _ (List.mem_of_getElem? (i := 3) rfl)) rfl (by rw [hml]; exact hl.1) rfl dX0_init_1 (Nat.le_of_ble_eq_true rfl) (Nat.le_of_ble_eq_true rfl) ?_
  refine W.eq (g2 := F0 m 4 ls []) rfl ?_
  refine lv_aload_n hx hb dX0_init_4 rfl (lv_at hl 0 rfl) ?_
  refine lv_sipush (v := 240) hx hb dX0_init_5 (by decide) ?_
  refine va_newa (atype := .int) (ty := .int) (a0 := (240, .inl (fun _ => 0))) hx hb (hts (.arrayClass .int) (List.mem_of_getElem? (i := 4) rfl)) rfl hK hP hD hS hA (fun _ => rfl) (by decide) (by decide +kernel) (Nat.le_of_ble_eq_true rfl) (Nat.le_of_ble_eq_true rfl) (Nat.le_of_ble_eq_true rfl) dX0_init_8 (fun q_1 cA_2 H_3 hK hP hD hS => ?_)
  have hP : va_P (dC, dI) vwCl [(h0, .inr (1, [.null, .null, .null, .null, .null, .null, .int 0])), (q_1, .inl (cA_2, 240, .inl (fun _ => 0)))] H_3 := hP
  have hD : va_D A [(h0, .inr (1, [.null, .null, .null, .null, .null, .null, .int 0])), (q_1, .inl (cA_2, 240, .inl (fun _ => 0)))] := hD
  have hK : va_K (dC, dI) vwCl [(cA_2, .int)] s := hK
  refine W.widen (k := 1) (n := 240) (Nat.le_of_ble_eq_true rfl) (Nat.le_of_ble_eq_true rfl) ?_
  refine va_putF (D := (dC, dI)) (ci := 1) (v := .ref q_1) (ty := .array .int) (C := RX0) (T := TX0) (N := 7) hx hb hts in_z_Co_X0 tyX0 tyX0_ok nmX0 hown hK hP hD hS 0 rfl rfl 0 (by decide) (hts (.fieldLink RX0 11 "Selfkindle$Code" "whats" "[I") (List.mem_of_getElem? (i := 5) rfl)) (fun _ h9 => h9) rfl hin rfl (by decide +kernel) rfl rfl (Nat.le_of_ble_eq_true rfl) dX0_init_10 (fun H_4 locs hP hD hS => ?_)
  have hP : va_P (dC, dI) vwCl [(h0, .inr (1, [.ref q_1, .null, .null, .null, .null, .null, .int 0])), (q_1, .inl (cA_2, 240, .inl (fun _ => 0)))] H_4 := hP
  have hD : va_D A [(h0, .inr (1, [.ref q_1, .null, .null, .null, .null, .null, .int 0])), (q_1, .inl (cA_2, 240, .inl (fun _ => 0)))] := hD
  have hK : va_K (dC, dI) vwCl [(cA_2, .int)] s := hK
  have hP := hP.sub (ws' := [(h0, .inr (1, [.ref q_1, .null, .null, .null, .null, .null, .int 0]))]) [0] rfl
  have hD := hD.sub (ws' := [(h0, .inr (1, [.ref q_1, .null, .null, .null, .null, .null, .int 0]))]) [0] (by decide) rfl
  have hK := hK.sub (tys' := []) [] rfl
  have hP : va_P (dC, dI) vwCl [(h0, .inr (1, [.ref q_1, .null, .null, .null, .null, .null, .int 0]))] H_4 := hP
  have hD : va_D A [(h0, .inr (1, [.ref q_1, .null, .null, .null, .null, .null, .int 0]))] := hD
  have hK : va_K (dC, dI) vwCl [] s := hK
  refine lv_aload_n hx hb dX0_init_13 rfl (lv_at hl 0 rfl) ?_
  refine lv_sipush (v := 240) hx hb dX0_init_14 (by decide) ?_
  refine va_newa (atype := .long) (ty := .long) (a0 := (240, .inr (.inl (fun _ => 0)))) hx hb (hts (.arrayClass .long) (List.mem_of_getElem? (i := 6) rfl)) rfl hK hP hD hS hA (fun _ => rfl) (by decide) (by decide +kernel) (Nat.le_of_ble_eq_true rfl) (Nat.le_of_ble_eq_true rfl) (Nat.le_of_ble_eq_true rfl) dX0_init_17 (fun q_5 cA_6 H_7 hK hP hD hS => ?_)
  have hP : va_P (dC, dI) vwCl [(h0, .inr (1, [.ref q_1, .null, .null, .null, .null, .null, .int 0])), (q_5, .inl (cA_6, 240, .inr (.inl (fun _ => 0))))] H_7 := hP
  have hD : va_D A [(h0, .inr (1, [.ref q_1, .null, .null, .null, .null, .null, .int 0])), (q_5, .inl (cA_6, 240, .inr (.inl (fun _ => 0))))] := hD
  have hK : va_K (dC, dI) vwCl [(cA_6, .long)] s := hK
  refine W.widen (k := 2) (n := 480) (Nat.le_of_ble_eq_true rfl) (Nat.le_of_ble_eq_true rfl) ?_
  refine va_putF (D := (dC, dI)) (ci := 1) (v := .ref q_5) (ty := .array .long) (C := RX0) (T := TX0) (N := 7) hx hb hts in_z_Co_X0 tyX0 tyX0_ok nmX0 hown hK hP hD hS 0 rfl rfl 1 (by decide) (hts (.fieldLink RX0 15 "Selfkindle$Code" "numbers" "[J") (List.mem_of_getElem? (i := 7) rfl)) (fun _ h9 => h9) rfl hin rfl (by decide +kernel) rfl rfl (Nat.le_of_ble_eq_true rfl) dX0_init_19 (fun H_8 locs hP hD hS => ?_)
  have hP : va_P (dC, dI) vwCl [(h0, .inr (1, [.ref q_1, .ref q_5, .null, .null, .null, .null, .int 0])), (q_5, .inl (cA_6, 240, .inr (.inl (fun _ => 0))))] H_8 := hP
  have hD : va_D A [(h0, .inr (1, [.ref q_1, .ref q_5, .null, .null, .null, .null, .int 0])), (q_5, .inl (cA_6, 240, .inr (.inl (fun _ => 0))))] := hD
  have hK : va_K (dC, dI) vwCl [(cA_6, .long)] s := hK
  have hP := hP.sub (ws' := [(h0, .inr (1, [.ref q_1, .ref q_5, .null, .null, .null, .null, .int 0]))]) [0] rfl
  have hD := hD.sub (ws' := [(h0, .inr (1, [.ref q_1, .ref q_5, .null, .null, .null, .null, .int 0]))]) [0] (by decide) rfl
  have hK := hK.sub (tys' := []) [] rfl
  have hP : va_P (dC, dI) vwCl [(h0, .inr (1, [.ref q_1, .ref q_5, .null, .null, .null, .null, .int 0]))] H_8 := hP
  have hD : va_D A [(h0, .inr (1, [.ref q_1, .ref q_5, .null, .null, .null, .null, .int 0]))] := hD
  have hK : va_K (dC, dI) vwCl [] s := hK
  refine lv_aload_n hx hb dX0_init_22 rfl (lv_at hl 0 rfl) ?_
  refine lv_sipush (v := 240) hx hb dX0_init_23 (by decide) ?_
  refine va_newa (atype := .int) (ty := .int) (a0 := (240, .inl (fun _ => 0))) hx hb (hts (.arrayClass .int) (List.mem_of_getElem? (i := 4) rfl)) rfl hK hP hD hS hA (fun _ => rfl) (by decide) (by decide +kernel) (Nat.le_of_ble_eq_true rfl) (Nat.le_of_ble_eq_true rfl) (Nat.le_of_ble_eq_true rfl) dX0_init_26 (fun q_9 cA_10 H_11 hK hP hD hS => ?_)
  have hP : va_P (dC, dI) vwCl [(h0, .inr (1, [.ref q_1, .ref q_5, .null, .null, .null, .null, .int 0])), (q_9, .inl (cA_10, 240, .inl (fun _ => 0)))] H_11 := hP
  have hD : va_D A [(h0, .inr (1, [.ref q_1, .ref q_5, .null, .null, .null, .null, .int 0])), (q_9, .inl (cA_10, 240, .inl (fun _ => 0)))] := hD
  have hK : va_K (dC, dI) vwCl [(cA_10, .int)] s := hK
  refine W.widen (k := 3) (n := 720) (Nat.le_of_ble_eq_true rfl) (Nat.le_of_ble_eq_true rfl) ?_
  refine va_putF (D := (dC, dI)) (ci := 1) (v := .ref q_9) (ty := .array .int) (C := RX0) (T := TX0) (N := 7) hx hb hts in_z_Co_X0 tyX0 tyX0_ok nmX0 hown hK hP hD hS 0 rfl rfl 2 (by decide) (hts (.fieldLink RX0 19 "Selfkindle$Code" "times" "[I") (List.mem_of_getElem? (i := 8) rfl)) (fun _ h9 => h9) rfl hin rfl (by decide +kernel) rfl rfl (Nat.le_of_ble_eq_true rfl) dX0_init_28 (fun H_12 locs hP hD hS => ?_)
  have hP : va_P (dC, dI) vwCl [(h0, .inr (1, [.ref q_1, .ref q_5, .ref q_9, .null, .null, .null, .int 0])), (q_9, .inl (cA_10, 240, .inl (fun _ => 0)))] H_12 := hP
  have hD : va_D A [(h0, .inr (1, [.ref q_1, .ref q_5, .ref q_9, .null, .null, .null, .int 0])), (q_9, .inl (cA_10, 240, .inl (fun _ => 0)))] := hD
  have hK : va_K (dC, dI) vwCl [(cA_10, .int)] s := hK
  have hP := hP.sub (ws' := [(h0, .inr (1, [.ref q_1, .ref q_5, .ref q_9, .null, .null, .null, .int 0]))]) [0] rfl
  have hD := hD.sub (ws' := [(h0, .inr (1, [.ref q_1, .ref q_5, .ref q_9, .null, .null, .null, .int 0]))]) [0] (by decide) rfl
  have hK := hK.sub (tys' := []) [] rfl
  have hP : va_P (dC, dI) vwCl [(h0, .inr (1, [.ref q_1, .ref q_5, .ref q_9, .null, .null, .null, .int 0]))] H_12 := hP
  have hD : va_D A [(h0, .inr (1, [.ref q_1, .ref q_5, .ref q_9, .null, .null, .null, .int 0]))] := hD
  have hK : va_K (dC, dI) vwCl [] s := hK
  refine lv_aload_n hx hb dX0_init_31 rfl (lv_at hl 0 rfl) ?_
  refine lv_sipush (v := 240) hx hb dX0_init_32 (by decide) ?_
  refine va_newa (atype := .boolean) (ty := .boolean) (a0 := (240, .inl (fun _ => 0))) hx hb (hts (.arrayClass .boolean) (List.mem_of_getElem? (i := 9) rfl)) rfl hK hP hD hS hA (fun _ => rfl) (by decide) (by decide +kernel) (Nat.le_of_ble_eq_true rfl) (Nat.le_of_ble_eq_true rfl) (Nat.le_of_ble_eq_true rfl) dX0_init_35 (fun q_13 cA_14 H_15 hK hP hD hS => ?_)
  have hP : va_P (dC, dI) vwCl [(h0, .inr (1, [.ref q_1, .ref q_5, .ref q_9, .null, .null, .null, .int 0])), (q_13, .inl (cA_14, 240, .inl (fun _ => 0)))] H_15 := hP
  have hD : va_D A [(h0, .inr (1, [.ref q_1, .ref q_5, .ref q_9, .null, .null, .null, .int 0])), (q_13, .inl (cA_14, 240, .inl (fun _ => 0)))] := hD
  have hK : va_K (dC, dI) vwCl [(cA_14, .boolean)] s := hK
  refine W.widen (k := 4) (n := 960) (Nat.le_of_ble_eq_true rfl) (Nat.le_of_ble_eq_true rfl) ?_
  refine va_putF (D := (dC, dI)) (ci := 1) (v := .ref q_13) (ty := .array .boolean) (C := RX0) (T := TX0) (N := 7) hx hb hts in_z_Co_X0 tyX0 tyX0_ok nmX0 hown hK hP hD hS 0 rfl rfl 3 (by decide) (hts (.fieldLink RX0 22 "Selfkindle$Code" "stops" "[Z") (List.mem_of_getElem? (i := 10) rfl)) (fun _ h9 => h9) rfl hin rfl (by decide +kernel) rfl rfl (Nat.le_of_ble_eq_true rfl) dX0_init_37 (fun H_16 locs hP hD hS => ?_)
  have hP : va_P (dC, dI) vwCl [(h0, .inr (1, [.ref q_1, .ref q_5, .ref q_9, .ref q_13, .null, .null, .int 0])), (q_13, .inl (cA_14, 240, .inl (fun _ => 0)))] H_16 := hP
  have hD : va_D A [(h0, .inr (1, [.ref q_1, .ref q_5, .ref q_9, .ref q_13, .null, .null, .int 0])), (q_13, .inl (cA_14, 240, .inl (fun _ => 0)))] := hD
  have hK : va_K (dC, dI) vwCl [(cA_14, .boolean)] s := hK
  have hP := hP.sub (ws' := [(h0, .inr (1, [.ref q_1, .ref q_5, .ref q_9, .ref q_13, .null, .null, .int 0]))]) [0] rfl
  have hD := hD.sub (ws' := [(h0, .inr (1, [.ref q_1, .ref q_5, .ref q_9, .ref q_13, .null, .null, .int 0]))]) [0] (by decide) rfl
  have hK := hK.sub (tys' := []) [] rfl
  have hP : va_P (dC, dI) vwCl [(h0, .inr (1, [.ref q_1, .ref q_5, .ref q_9, .ref q_13, .null, .null, .int 0]))] H_16 := hP
  have hD : va_D A [(h0, .inr (1, [.ref q_1, .ref q_5, .ref q_9, .ref q_13, .null, .null, .int 0]))] := hD
  have hK : va_K (dC, dI) vwCl [] s := hK
  refine lv_aload_n hx hb dX0_init_40 rfl (lv_at hl 0 rfl) ?_
  refine lv_bipush (v := 60) hx hb dX0_init_41 (by decide) ?_
  refine va_newa (atype := .int) (ty := .int) (a0 := (60, .inl (fun _ => 0))) hx hb (hts (.arrayClass .int) (List.mem_of_getElem? (i := 4) rfl)) rfl hK hP hD hS hA (fun _ => rfl) (by decide) (by decide +kernel) (Nat.le_of_ble_eq_true rfl) (Nat.le_of_ble_eq_true rfl) (Nat.le_of_ble_eq_true rfl) dX0_init_43 (fun q_17 cA_18 H_19 hK hP hD hS => ?_)
  have hP : va_P (dC, dI) vwCl [(h0, .inr (1, [.ref q_1, .ref q_5, .ref q_9, .ref q_13, .null, .null, .int 0])), (q_17, .inl (cA_18, 60, .inl (fun _ => 0)))] H_19 := hP
  have hD : va_D A [(h0, .inr (1, [.ref q_1, .ref q_5, .ref q_9, .ref q_13, .null, .null, .int 0])), (q_17, .inl (cA_18, 60, .inl (fun _ => 0)))] := hD
  have hK : va_K (dC, dI) vwCl [(cA_18, .int)] s := hK
  refine W.widen (k := 5) (n := 1020) (Nat.le_of_ble_eq_true rfl) (Nat.le_of_ble_eq_true rfl) ?_
  refine va_putF (D := (dC, dI)) (ci := 1) (v := .ref q_17) (ty := .array .int) (C := RX0) (T := TX0) (N := 7) hx hb hts in_z_Co_X0 tyX0 tyX0_ok nmX0 hown hK hP hD hS 0 rfl rfl 4 (by decide) (hts (.fieldLink RX0 26 "Selfkindle$Code" "lengths" "[I") (List.mem_of_getElem? (i := 11) rfl)) (fun _ h9 => h9) rfl hin rfl (by decide +kernel) rfl rfl (Nat.le_of_ble_eq_true rfl) dX0_init_45 (fun H_20 locs hP hD hS => ?_)
  have hP : va_P (dC, dI) vwCl [(h0, .inr (1, [.ref q_1, .ref q_5, .ref q_9, .ref q_13, .ref q_17, .null, .int 0])), (q_17, .inl (cA_18, 60, .inl (fun _ => 0)))] H_20 := hP
  have hD : va_D A [(h0, .inr (1, [.ref q_1, .ref q_5, .ref q_9, .ref q_13, .ref q_17, .null, .int 0])), (q_17, .inl (cA_18, 60, .inl (fun _ => 0)))] := hD
  have hK : va_K (dC, dI) vwCl [(cA_18, .int)] s := hK
  have hP := hP.sub (ws' := [(h0, .inr (1, [.ref q_1, .ref q_5, .ref q_9, .ref q_13, .ref q_17, .null, .int 0]))]) [0] rfl
  have hD := hD.sub (ws' := [(h0, .inr (1, [.ref q_1, .ref q_5, .ref q_9, .ref q_13, .ref q_17, .null, .int 0]))]) [0] (by decide) rfl
  have hK := hK.sub (tys' := []) [] rfl
  have hP : va_P (dC, dI) vwCl [(h0, .inr (1, [.ref q_1, .ref q_5, .ref q_9, .ref q_13, .ref q_17, .null, .int 0]))] H_20 := hP
  have hD : va_D A [(h0, .inr (1, [.ref q_1, .ref q_5, .ref q_9, .ref q_13, .ref q_17, .null, .int 0]))] := hD
  have hK : va_K (dC, dI) vwCl [] s := hK
  refine lv_aload_n hx hb dX0_init_48 rfl (lv_at hl 0 rfl) ?_
  refine lv_bipush (v := 60) hx hb dX0_init_49 (by decide) ?_
  refine va_newa (atype := .int) (ty := .int) (a0 := (60, .inl (fun _ => 0))) hx hb (hts (.arrayClass .int) (List.mem_of_getElem? (i := 4) rfl)) rfl hK hP hD hS hA (fun _ => rfl) (by decide) (by decide +kernel) (Nat.le_of_ble_eq_true rfl) (Nat.le_of_ble_eq_true rfl) (Nat.le_of_ble_eq_true rfl) dX0_init_51 (fun q_21 cA_22 H_23 hK hP hD hS => ?_)
  have hP : va_P (dC, dI) vwCl [(h0, .inr (1, [.ref q_1, .ref q_5, .ref q_9, .ref q_13, .ref q_17, .null, .int 0])), (q_21, .inl (cA_22, 60, .inl (fun _ => 0)))] H_23 := hP
  have hD : va_D A [(h0, .inr (1, [.ref q_1, .ref q_5, .ref q_9, .ref q_13, .ref q_17, .null, .int 0])), (q_21, .inl (cA_22, 60, .inl (fun _ => 0)))] := hD
  have hK : va_K (dC, dI) vwCl [(cA_22, .int)] s := hK
  refine W.widen (k := 6) (n := 1080) (Nat.le_of_ble_eq_true rfl) (Nat.le_of_ble_eq_true rfl) ?_
  refine va_putF (D := (dC, dI)) (ci := 1) (v := .ref q_21) (ty := .array .int) (C := RX0) (T := TX0) (N := 7) hx hb hts in_z_Co_X0 tyX0 tyX0_ok nmX0 hown hK hP hD hS 0 rfl rfl 5 (by decide) (hts (.fieldLink RX0 29 "Selfkindle$Code" "places" "[I") (List.mem_of_getElem? (i := 12) rfl)) (fun _ h9 => h9) rfl hin rfl (by decide +kernel) rfl rfl (Nat.le_of_ble_eq_true rfl) dX0_init_53 (fun H_24 locs hP hD hS => ?_)
  have hP : va_P (dC, dI) vwCl [(h0, .inr (1, [.ref q_1, .ref q_5, .ref q_9, .ref q_13, .ref q_17, .ref q_21, .int 0])), (q_21, .inl (cA_22, 60, .inl (fun _ => 0)))] H_24 := hP
  have hD : va_D A [(h0, .inr (1, [.ref q_1, .ref q_5, .ref q_9, .ref q_13, .ref q_17, .ref q_21, .int 0])), (q_21, .inl (cA_22, 60, .inl (fun _ => 0)))] := hD
  have hK : va_K (dC, dI) vwCl [(cA_22, .int)] s := hK
  have hP := hP.sub (ws' := [(h0, .inr (1, [.ref q_1, .ref q_5, .ref q_9, .ref q_13, .ref q_17, .ref q_21, .int 0]))]) [0] rfl
  have hD := hD.sub (ws' := [(h0, .inr (1, [.ref q_1, .ref q_5, .ref q_9, .ref q_13, .ref q_17, .ref q_21, .int 0]))]) [0] (by decide) rfl
  have hK := hK.sub (tys' := []) [] rfl
  have hP : va_P (dC, dI) vwCl [(h0, .inr (1, [.ref q_1, .ref q_5, .ref q_9, .ref q_13, .ref q_17, .ref q_21, .int 0]))] H_24 := hP
  have hD : va_D A [(h0, .inr (1, [.ref q_1, .ref q_5, .ref q_9, .ref q_13, .ref q_17, .ref q_21, .int 0]))] := hD
  have hK : va_K (dC, dI) vwCl [] s := hK
  refine W.widen (k := 6) (n := 1080) (Nat.le_of_ble_eq_true rfl) (Nat.le_of_ble_eq_true rfl) ?_
  exact W.vret hx hb hr (fun t ht hW => ⟨⟨(), rfl, trivial, trivial⟩, hS.F ht⟩) hS.2.2 dX0_init_56

set_option maxRecDepth 20000 in
def z_He2000 : List Cond := .code yX1_init cX1_init 2 none :: (([.methodLink RX1 3 objectInit, .instanceMethod objectInit, .code objectInit ⟨#[0xb1]⟩ 1 none, .fieldLink RX1 9 "Selfkindle$Heap" "room" "I", .arrayClass .int, .fieldLink RX1 15 "Selfkindle$Heap" "kinds" "[I", .arrayClass .long, .fieldLink RX1 19 "Selfkindle$Heap" "numbers" "[J", .fieldLink RX1 23 "Selfkindle$Heap" "firsts" "[I", .fieldLink RX1 26 "Selfkindle$Heap" "seconds" "[I", .fieldLink RX1 29 "Selfkindle$Heap" "bound" "[I", .fieldLink RX1 32 "Selfkindle$Heap" "outers" "[I", .fieldLink RX1 35 "Selfkindle$Heap" "depths" "[I"] : List Cond) ++ wsX10)
theorem in_z_He2000_X1 : ∀ w ∈ wsX10, w ∈ z_He2000 := fun w h => List.mem_cons_of_mem _ (List.mem_append_right _ (h))
set_option maxHeartbeats 4000000 in
set_option maxRecDepth 100000 in
/-- Heap(2000) -/
theorem c_He2000 (l : Launch) (dC : Nat → ClassId) (dI : Nat → Nat → Nat) (tp te : Nat) (sz : Nat) (h0 : Nat)  : Met l yX1_init z_He2000 ({ frames := 1, cells := 7, slots := 14000, locals := 12 }) (va_Pc [.ref h0, .int 2000] (Pw dC dI [(h0, .inr (2, [.int 0, .null, .null, .null, .null, .int 0, .null, .null, .null, .int 0]))] [] sz tp te)) (va_Qv (fun (_ : Unit) => True) (fun (_ : Unit) (_ : State) => True) (va_A [(h0, .inr (2, [.int 0, .null, .null, .null, .null, .int 0, .null, .null, .null, .int 0]))] sz)) 7 14000 (va_A [(h0, .inr (2, [.int 0, .null, .null, .null, .null, .int 0, .null, .null, .null, .int 0]))] sz) := by
  refine Met.ofW (cc := cX1_init) (maxL := 2) (ret := none) (by decide) rfl ?_
  intro p e s m args below meth c s₁ B hml hv
  obtain ⟨rfl, hsz, hP, hK, hD0, hG⟩ := hv
  have hx := B.exec
  have hb := B.bytes
  have hr := B.returns
  have hts := atoms_spec (ws := z_He2000) B.pre
  have hown : s.vm.findClass RX1 = some m.cls := findClass_of_methodNamed B.named
  have hlocks := B.notSynchronized
  have hin : meth.name = "<init>" := (name_of_methodNamed B.named B.method).1
  subst hsz
  have hD := hD0.self (sz := s.heap.size)
  generalize hAe : va_A [(h0, .inr (2, [.int 0, .null, .null, .null, .null, .int 0, .null, .null, .null, .int 0]))] s.heap.size = A at hD hG ⊢
  have hA : ∀ q : Nat, s.heap.size ≤ q → A q := fun q h => by rw [← hAe]; exact Or.inr h
  have hS : va_S A s.heap s.heap [] := va_S.rf
  have hl := lv_entry ([.ref h0, .int 2000]) (n := 2) (Nat.le_of_ble_eq_true rfl)
  rw [lg_entry_eq]
  generalize (lg_sl ([.ref h0, .int 2000]) ++ List.replicate (2 - (lg_sl ([.ref h0, .int 2000])).length) Slot.unset).toArray = ls at hl ⊢
  have hl : lv_has ls 2 [(0, .ref h0), (1, .int 2000)] := hl
  refine lv_aload_n hx hb dX1_init_0 rfl (lv_at hl 0 rfl) ?_
  refine W.objInit hx hb hown (hts (.methodLink RX1 3 objectInit) (List.mem_of_getElem? (i := 1) rfl)) (hts (.instanceMethod objectInit) (List.mem_of_getElem? (i := 2) rfl)) (hts _ (List.mem_of_getElem? (i := 3) rfl)) rfl (by rw [hml]; exact hl.1) rfl dX1_init_1 (Nat.le_of_ble_eq_true rfl) (Nat.le_of_ble_eq_true rfl) ?_
  refine W.eq (g2 := F0 m 4 ls []) rfl ?_
  refine lv_aload_n hx hb dX1_init_4 rfl (lv_at hl 0 rfl) ?_
  refine lv_iload_n hx hb dX1_init_5 rfl (lv_at hl 1 rfl) ?_
  refine lv_if_le (tgt := 13) hx hb dX1_init_6 (by decide) (fun c9 => absurd c9 (by decide)) (fun c9 => ?_)
  refine lv_iload_n hx hb dX1_init_9 rfl (lv_at hl 1 rfl) ?_
  refine lv_goto (tgt := 14) hx hb dX1_init_10 (by decide) ?_
  refine va_putF (D := (dC, dI)) (ci := 2) (v := .int 2000) (ty := .int) (C := RX1) (T := TX1) (N := 10) hx hb hts in_z_He2000_X1 tyX1 tyX1_ok nmX1 hown hK hP hD hS 0 rfl rfl 0 (by decide) (hts (.fieldLink RX1 9 "Selfkindle$Heap" "room" "I") (List.mem_of_getElem? (i := 4) rfl)) (fun _ h9 => h9) rfl hin rfl (by decide +kernel) rfl rfl (Nat.le_of_ble_eq_true rfl) dX1_init_14 (fun H_1 locs hP hD hS => ?_)
  have hP : va_P (dC, dI) vwCl [(h0, .inr (2, [.int 2000, .null, .null, .null, .null, .int 0, .null, .null, .null, .int 0]))] H_1 := hP
  have hD : va_D A [(h0, .inr (2, [.int 2000, .null, .null, .null, .null, .int 0, .null, .null, .null, .int 0]))] := hD
  have hK : va_K (dC, dI) vwCl [] s := hK
  refine lv_aload_n hx hb dX1_init_17 rfl (lv_at hl 0 rfl) ?_
  refine lv_aload_n hx hb dX1_init_18 rfl (lv_at hl 0 rfl) ?_
  refine va_get (D := (dC, dI)) (ci := 2) (v := .int 2000) (C := RX1) (T := TX1) (N := 10) hx hb hts in_z_He2000_X1 hown hK hP 0 rfl rfl 0 (by decide) (hts (.fieldLink RX1 9 "Selfkindle$Heap" "room" "I") (List.mem_of_getElem? (i := 4) rfl)) (fun _ h9 => h9) rfl dX1_init_19 ?_
  refine va_newa (atype := .int) (ty := .int) (a0 := (2000, .inl (fun _ => 0))) hx hb (hts (.arrayClass .int) (List.mem_of_getElem? (i := 5) rfl)) rfl hK hP hD hS hA (fun _ => rfl) (by decide) (by decide +kernel) (Nat.le_of_ble_eq_true rfl) (Nat.le_of_ble_eq_true rfl) (Nat.le_of_ble_eq_true rfl) dX1_init_22 (fun q_2 cA_3 H_4 hK hP hD hS => ?_)
  have hP : va_P (dC, dI) vwCl [(h0, .inr (2, [.int 2000, .null, .null, .null, .null, .int 0, .null, .null, .null, .int 0])), (q_2, .inl (cA_3, 2000, .inl (fun _ => 0)))] H_4 := hP
  have hD : va_D A [(h0, .inr (2, [.int 2000, .null, .null, .null, .null, .int 0, .null, .null, .null, .int 0])), (q_2, .inl (cA_3, 2000, .inl (fun _ => 0)))] := hD
  have hK : va_K (dC, dI) vwCl [(cA_3, .int)] s := hK
  refine W.widen (k := 1) (n := 2000) (Nat.le_of_ble_eq_true rfl) (Nat.le_of_ble_eq_true rfl) ?_
  refine va_putF (D := (dC, dI)) (ci := 2) (v := .ref q_2) (ty := .array .int) (C := RX1) (T := TX1) (N := 10) hx hb hts in_z_He2000_X1 tyX1 tyX1_ok nmX1 hown hK hP hD hS 0 rfl rfl 1 (by decide) (hts (.fieldLink RX1 15 "Selfkindle$Heap" "kinds" "[I") (List.mem_of_getElem? (i := 6) rfl)) (fun _ h9 => h9) rfl hin rfl (by decide +kernel) rfl rfl (Nat.le_of_ble_eq_true rfl) dX1_init_24 (fun H_5 locs hP hD hS => ?_)
  have hP : va_P (dC, dI) vwCl [(h0, .inr (2, [.int 2000, .ref q_2, .null, .null, .null, .int 0, .null, .null, .null, .int 0])), (q_2, .inl (cA_3, 2000, .inl (fun _ => 0)))] H_5 := hP
  have hD : va_D A [(h0, .inr (2, [.int 2000, .ref q_2, .null, .null, .null, .int 0, .null, .null, .null, .int 0])), (q_2, .inl (cA_3, 2000, .inl (fun _ => 0)))] := hD
  have hK : va_K (dC, dI) vwCl [(cA_3, .int)] s := hK
  have hP := hP.sub (ws' := [(h0, .inr (2, [.int 2000, .ref q_2, .null, .null, .null, .int 0, .null, .null, .null, .int 0]))]) [0] rfl
  have hD := hD.sub (ws' := [(h0, .inr (2, [.int 2000, .ref q_2, .null, .null, .null, .int 0, .null, .null, .null, .int 0]))]) [0] (by decide) rfl
  have hK := hK.sub (tys' := []) [] rfl
  have hP : va_P (dC, dI) vwCl [(h0, .inr (2, [.int 2000, .ref q_2, .null, .null, .null, .int 0, .null, .null, .null, .int 0]))] H_5 := hP
  have hD : va_D A [(h0, .inr (2, [.int 2000, .ref q_2, .null, .null, .null, .int 0, .null, .null, .null, .int 0]))] := hD
  have hK : va_K (dC, dI) vwCl [] s := hK
  refine lv_aload_n hx hb dX1_init_27 rfl (lv_at hl 0 rfl) ?_
  refine lv_aload_n hx hb dX1_init_28 rfl (lv_at hl 0 rfl) ?_
  refine va_get (D := (dC, dI)) (ci := 2) (v := .int 2000) (C := RX1) (T := TX1) (N := 10) hx hb hts in_z_He2000_X1 hown hK hP 0 rfl rfl 0 (by decide) (hts (.fieldLink RX1 9 "Selfkindle$Heap" "room" "I") (List.mem_of_getElem? (i := 4) rfl)) (fun _ h9 => h9) rfl dX1_init_29 ?_
  refine va_newa (atype := .long) (ty := .long) (a0 := (2000, .inr (.inl (fun _ => 0)))) hx hb (hts (.arrayClass .long) (List.mem_of_getElem? (i := 7) rfl)) rfl hK hP hD hS hA (fun _ => rfl) (by decide) (by decide +kernel) (Nat.le_of_ble_eq_true rfl) (Nat.le_of_ble_eq_true rfl) (Nat.le_of_ble_eq_true rfl) dX1_init_32 (fun q_6 cA_7 H_8 hK hP hD hS => ?_)
  have hP : va_P (dC, dI) vwCl [(h0, .inr (2, [.int 2000, .ref q_2, .null, .null, .null, .int 0, .null, .null, .null, .int 0])), (q_6, .inl (cA_7, 2000, .inr (.inl (fun _ => 0))))] H_8 := hP
  have hD : va_D A [(h0, .inr (2, [.int 2000, .ref q_2, .null, .null, .null, .int 0, .null, .null, .null, .int 0])), (q_6, .inl (cA_7, 2000, .inr (.inl (fun _ => 0))))] := hD
  have hK : va_K (dC, dI) vwCl [(cA_7, .long)] s := hK
  refine W.widen (k := 2) (n := 4000) (Nat.le_of_ble_eq_true rfl) (Nat.le_of_ble_eq_true rfl) ?_
  refine va_putF (D := (dC, dI)) (ci := 2) (v := .ref q_6) (ty := .array .long) (C := RX1) (T := TX1) (N := 10) hx hb hts in_z_He2000_X1 tyX1 tyX1_ok nmX1 hown hK hP hD hS 0 rfl rfl 2 (by decide) (hts (.fieldLink RX1 19 "Selfkindle$Heap" "numbers" "[J") (List.mem_of_getElem? (i := 8) rfl)) (fun _ h9 => h9) rfl hin rfl (by decide +kernel) rfl rfl (Nat.le_of_ble_eq_true rfl) dX1_init_34 (fun H_9 locs hP hD hS => ?_)
  have hP : va_P (dC, dI) vwCl [(h0, .inr (2, [.int 2000, .ref q_2, .ref q_6, .null, .null, .int 0, .null, .null, .null, .int 0])), (q_6, .inl (cA_7, 2000, .inr (.inl (fun _ => 0))))] H_9 := hP
  have hD : va_D A [(h0, .inr (2, [.int 2000, .ref q_2, .ref q_6, .null, .null, .int 0, .null, .null, .null, .int 0])), (q_6, .inl (cA_7, 2000, .inr (.inl (fun _ => 0))))] := hD
  have hK : va_K (dC, dI) vwCl [(cA_7, .long)] s := hK
  have hP := hP.sub (ws' := [(h0, .inr (2, [.int 2000, .ref q_2, .ref q_6, .null, .null, .int 0, .null, .null, .null, .int 0]))]) [0] rfl
  have hD := hD.sub (ws' := [(h0, .inr (2, [.int 2000, .ref q_2, .ref q_6, .null, .null, .int 0, .null, .null, .null, .int 0]))]) [0] (by decide) rfl
  have hK := hK.sub (tys' := []) [] rfl
  have hP : va_P (dC, dI) vwCl [(h0, .inr (2, [.int 2000, .ref q_2, .ref q_6, .null, .null, .int 0, .null, .null, .null, .int 0]))] H_9 := hP
  have hD : va_D A [(h0, .inr (2, [.int 2000, .ref q_2, .ref q_6, .null, .null, .int 0, .null, .null, .null, .int 0]))] := hD
  have hK : va_K (dC, dI) vwCl [] s := hK
  refine lv_aload_n hx hb dX1_init_37 rfl (lv_at hl 0 rfl) ?_
  refine lv_aload_n hx hb dX1_init_38 rfl (lv_at hl 0 rfl) ?_
  refine va_get (D := (dC, dI)) (ci := 2) (v := .int 2000) (C := RX1) (T := TX1) (N := 10) hx hb hts in_z_He2000_X1 hown hK hP 0 rfl rfl 0 (by decide) (hts (.fieldLink RX1 9 "Selfkindle$Heap" "room" "I") (List.mem_of_getElem? (i := 4) rfl)) (fun _ h9 => h9) rfl dX1_init_39 ?_
  refine va_newa (atype := .int) (ty := .int) (a0 := (2000, .inl (fun _ => 0))) hx hb (hts (.arrayClass .int) (List.mem_of_getElem? (i := 5) rfl)) rfl hK hP hD hS hA (fun _ => rfl) (by decide) (by decide +kernel) (Nat.le_of_ble_eq_true rfl) (Nat.le_of_ble_eq_true rfl) (Nat.le_of_ble_eq_true rfl) dX1_init_42 (fun q_10 cA_11 H_12 hK hP hD hS => ?_)
  have hP : va_P (dC, dI) vwCl [(h0, .inr (2, [.int 2000, .ref q_2, .ref q_6, .null, .null, .int 0, .null, .null, .null, .int 0])), (q_10, .inl (cA_11, 2000, .inl (fun _ => 0)))] H_12 := hP
  have hD : va_D A [(h0, .inr (2, [.int 2000, .ref q_2, .ref q_6, .null, .null, .int 0, .null, .null, .null, .int 0])), (q_10, .inl (cA_11, 2000, .inl (fun _ => 0)))] := hD
  have hK : va_K (dC, dI) vwCl [(cA_11, .int)] s := hK
  refine W.widen (k := 3) (n := 6000) (Nat.le_of_ble_eq_true rfl) (Nat.le_of_ble_eq_true rfl) ?_
  refine va_putF (D := (dC, dI)) (ci := 2) (v := .ref q_10) (ty := .array .int) (C := RX1) (T := TX1) (N := 10) hx hb hts in_z_He2000_X1 tyX1 tyX1_ok nmX1 hown hK hP hD hS 0 rfl rfl 3 (by decide) (hts (.fieldLink RX1 23 "Selfkindle$Heap" "firsts" "[I") (List.mem_of_getElem? (i := 9) rfl)) (fun _ h9 => h9) rfl hin rfl (by decide +kernel) rfl rfl (Nat.le_of_ble_eq_true rfl) dX1_init_44 (fun H_13 locs hP hD hS => ?_)
  have hP : va_P (dC, dI) vwCl [(h0, .inr (2, [.int 2000, .ref q_2, .ref q_6, .ref q_10, .null, .int 0, .null, .null, .null, .int 0])), (q_10, .inl (cA_11, 2000, .inl (fun _ => 0)))] H_13 := hP
  have hD : va_D A [(h0, .inr (2, [.int 2000, .ref q_2, .ref q_6, .ref q_10, .null, .int 0, .null, .null, .null, .int 0])), (q_10, .inl (cA_11, 2000, .inl (fun _ => 0)))] := hD
  have hK : va_K (dC, dI) vwCl [(cA_11, .int)] s := hK
  have hP := hP.sub (ws' := [(h0, .inr (2, [.int 2000, .ref q_2, .ref q_6, .ref q_10, .null, .int 0, .null, .null, .null, .int 0]))]) [0] rfl
  have hD := hD.sub (ws' := [(h0, .inr (2, [.int 2000, .ref q_2, .ref q_6, .ref q_10, .null, .int 0, .null, .null, .null, .int 0]))]) [0] (by decide) rfl
  have hK := hK.sub (tys' := []) [] rfl
  have hP : va_P (dC, dI) vwCl [(h0, .inr (2, [.int 2000, .ref q_2, .ref q_6, .ref q_10, .null, .int 0, .null, .null, .null, .int 0]))] H_13 := hP
  have hD : va_D A [(h0, .inr (2, [.int 2000, .ref q_2, .ref q_6, .ref q_10, .null, .int 0, .null, .null, .null, .int 0]))] := hD
  have hK : va_K (dC, dI) vwCl [] s := hK
  refine lv_aload_n hx hb dX1_init_47 rfl (lv_at hl 0 rfl) ?_
  refine lv_aload_n hx hb dX1_init_48 rfl (lv_at hl 0 rfl) ?_
  refine va_get (D := (dC, dI)) (ci := 2) (v := .int 2000) (C := RX1) (T := TX1) (N := 10) hx hb hts in_z_He2000_X1 hown hK hP 0 rfl rfl 0 (by decide) (hts (.fieldLink RX1 9 "Selfkindle$Heap" "room" "I") (List.mem_of_getElem? (i := 4) rfl)) (fun _ h9 => h9) rfl dX1_init_49 ?_
  refine va_newa (atype := .int) (ty := .int) (a0 := (2000, .inl (fun _ => 0))) hx hb (hts (.arrayClass .int) (List.mem_of_getElem? (i := 5) rfl)) rfl hK hP hD hS hA (fun _ => rfl) (by decide) (by decide +kernel) (Nat.le_of_ble_eq_true rfl) (Nat.le_of_ble_eq_true rfl) (Nat.le_of_ble_eq_true rfl) dX1_init_52 (fun q_14 cA_15 H_16 hK hP hD hS => ?_)
  have hP : va_P (dC, dI) vwCl [(h0, .inr (2, [.int 2000, .ref q_2, .ref q_6, .ref q_10, .null, .int 0, .null, .null, .null, .int 0])), (q_14, .inl (cA_15, 2000, .inl (fun _ => 0)))] H_16 := hP
  have hD : va_D A [(h0, .inr (2, [.int 2000, .ref q_2, .ref q_6, .ref q_10, .null, .int 0, .null, .null, .null, .int 0])), (q_14, .inl (cA_15, 2000, .inl (fun _ => 0)))] := hD
  have hK : va_K (dC, dI) vwCl [(cA_15, .int)] s := hK
  refine W.widen (k := 4) (n := 8000) (Nat.le_of_ble_eq_true rfl) (Nat.le_of_ble_eq_true rfl) ?_
  refine va_putF (D := (dC, dI)) (ci := 2) (v := .ref q_14) (ty := .array .int) (C := RX1) (T := TX1) (N := 10) hx hb hts in_z_He2000_X1 tyX1 tyX1_ok nmX1 hown hK hP hD hS 0 rfl rfl 4 (by decide) (hts (.fieldLink RX1 26 "Selfkindle$Heap" "seconds" "[I") (List.mem_of_getElem? (i := 10) rfl)) (fun _ h9 => h9) rfl hin rfl (by decide +kernel) rfl rfl (Nat.le_of_ble_eq_true rfl) dX1_init_54 (fun H_17 locs hP hD hS => ?_)
  have hP : va_P (dC, dI) vwCl [(h0, .inr (2, [.int 2000, .ref q_2, .ref q_6, .ref q_10, .ref q_14, .int 0, .null, .null, .null, .int 0])), (q_14, .inl (cA_15, 2000, .inl (fun _ => 0)))] H_17 := hP
  have hD : va_D A [(h0, .inr (2, [.int 2000, .ref q_2, .ref q_6, .ref q_10, .ref q_14, .int 0, .null, .null, .null, .int 0])), (q_14, .inl (cA_15, 2000, .inl (fun _ => 0)))] := hD
  have hK : va_K (dC, dI) vwCl [(cA_15, .int)] s := hK
  have hP := hP.sub (ws' := [(h0, .inr (2, [.int 2000, .ref q_2, .ref q_6, .ref q_10, .ref q_14, .int 0, .null, .null, .null, .int 0]))]) [0] rfl
  have hD := hD.sub (ws' := [(h0, .inr (2, [.int 2000, .ref q_2, .ref q_6, .ref q_10, .ref q_14, .int 0, .null, .null, .null, .int 0]))]) [0] (by decide) rfl
  have hK := hK.sub (tys' := []) [] rfl
  have hP : va_P (dC, dI) vwCl [(h0, .inr (2, [.int 2000, .ref q_2, .ref q_6, .ref q_10, .ref q_14, .int 0, .null, .null, .null, .int 0]))] H_17 := hP
  have hD : va_D A [(h0, .inr (2, [.int 2000, .ref q_2, .ref q_6, .ref q_10, .ref q_14, .int 0, .null, .null, .null, .int 0]))] := hD
  have hK : va_K (dC, dI) vwCl [] s := hK
  refine lv_aload_n hx hb dX1_init_57 rfl (lv_at hl 0 rfl) ?_
  refine lv_aload_n hx hb dX1_init_58 rfl (lv_at hl 0 rfl) ?_
  refine va_get (D := (dC, dI)) (ci := 2) (v := .int 2000) (C := RX1) (T := TX1) (N := 10) hx hb hts in_z_He2000_X1 hown hK hP 0 rfl rfl 0 (by decide) (hts (.fieldLink RX1 9 "Selfkindle$Heap" "room" "I") (List.mem_of_getElem? (i := 4) rfl)) (fun _ h9 => h9) rfl dX1_init_59 ?_
  refine va_newa (atype := .int) (ty := .int) (a0 := (2000, .inl (fun _ => 0))) hx hb (hts (.arrayClass .int) (List.mem_of_getElem? (i := 5) rfl)) rfl hK hP hD hS hA (fun _ => rfl) (by decide) (by decide +kernel) (Nat.le_of_ble_eq_true rfl) (Nat.le_of_ble_eq_true rfl) (Nat.le_of_ble_eq_true rfl) dX1_init_62 (fun q_18 cA_19 H_20 hK hP hD hS => ?_)
  have hP : va_P (dC, dI) vwCl [(h0, .inr (2, [.int 2000, .ref q_2, .ref q_6, .ref q_10, .ref q_14, .int 0, .null, .null, .null, .int 0])), (q_18, .inl (cA_19, 2000, .inl (fun _ => 0)))] H_20 := hP
  have hD : va_D A [(h0, .inr (2, [.int 2000, .ref q_2, .ref q_6, .ref q_10, .ref q_14, .int 0, .null, .null, .null, .int 0])), (q_18, .inl (cA_19, 2000, .inl (fun _ => 0)))] := hD
  have hK : va_K (dC, dI) vwCl [(cA_19, .int)] s := hK
  refine W.widen (k := 5) (n := 10000) (Nat.le_of_ble_eq_true rfl) (Nat.le_of_ble_eq_true rfl) ?_
  refine va_putF (D := (dC, dI)) (ci := 2) (v := .ref q_18) (ty := .array .int) (C := RX1) (T := TX1) (N := 10) hx hb hts in_z_He2000_X1 tyX1 tyX1_ok nmX1 hown hK hP hD hS 0 rfl rfl 6 (by decide) (hts (.fieldLink RX1 29 "Selfkindle$Heap" "bound" "[I") (List.mem_of_getElem? (i := 11) rfl)) (fun _ h9 => h9) rfl hin rfl (by decide +kernel) rfl rfl (Nat.le_of_ble_eq_true rfl) dX1_init_64 (fun H_21 locs hP hD hS => ?_)
  have hP : va_P (dC, dI) vwCl [(h0, .inr (2, [.int 2000, .ref q_2, .ref q_6, .ref q_10, .ref q_14, .int 0, .ref q_18, .null, .null, .int 0])), (q_18, .inl (cA_19, 2000, .inl (fun _ => 0)))] H_21 := hP
  have hD : va_D A [(h0, .inr (2, [.int 2000, .ref q_2, .ref q_6, .ref q_10, .ref q_14, .int 0, .ref q_18, .null, .null, .int 0])), (q_18, .inl (cA_19, 2000, .inl (fun _ => 0)))] := hD
  have hK : va_K (dC, dI) vwCl [(cA_19, .int)] s := hK
  have hP := hP.sub (ws' := [(h0, .inr (2, [.int 2000, .ref q_2, .ref q_6, .ref q_10, .ref q_14, .int 0, .ref q_18, .null, .null, .int 0]))]) [0] rfl
  have hD := hD.sub (ws' := [(h0, .inr (2, [.int 2000, .ref q_2, .ref q_6, .ref q_10, .ref q_14, .int 0, .ref q_18, .null, .null, .int 0]))]) [0] (by decide) rfl
  have hK := hK.sub (tys' := []) [] rfl
  have hP : va_P (dC, dI) vwCl [(h0, .inr (2, [.int 2000, .ref q_2, .ref q_6, .ref q_10, .ref q_14, .int 0, .ref q_18, .null, .null, .int 0]))] H_21 := hP
  have hD : va_D A [(h0, .inr (2, [.int 2000, .ref q_2, .ref q_6, .ref q_10, .ref q_14, .int 0, .ref q_18, .null, .null, .int 0]))] := hD
  have hK : va_K (dC, dI) vwCl [] s := hK
  refine lv_aload_n hx hb dX1_init_67 rfl (lv_at hl 0 rfl) ?_
  refine lv_aload_n hx hb dX1_init_68 rfl (lv_at hl 0 rfl) ?_
  refine va_get (D := (dC, dI)) (ci := 2) (v := .int 2000) (C := RX1) (T := TX1) (N := 10) hx hb hts in_z_He2000_X1 hown hK hP 0 rfl rfl 0 (by decide) (hts (.fieldLink RX1 9 "Selfkindle$Heap" "room" "I") (List.mem_of_getElem? (i := 4) rfl)) (fun _ h9 => h9) rfl dX1_init_69 ?_
  refine va_newa (atype := .int) (ty := .int) (a0 := (2000, .inl (fun _ => 0))) hx hb (hts (.arrayClass .int) (List.mem_of_getElem? (i := 5) rfl)) rfl hK hP hD hS hA (fun _ => rfl) (by decide) (by decide +kernel) (Nat.le_of_ble_eq_true rfl) (Nat.le_of_ble_eq_true rfl) (Nat.le_of_ble_eq_true rfl) dX1_init_72 (fun q_22 cA_23 H_24 hK hP hD hS => ?_)
  have hP : va_P (dC, dI) vwCl [(h0, .inr (2, [.int 2000, .ref q_2, .ref q_6, .ref q_10, .ref q_14, .int 0, .ref q_18, .null, .null, .int 0])), (q_22, .inl (cA_23, 2000, .inl (fun _ => 0)))] H_24 := hP
  have hD : va_D A [(h0, .inr (2, [.int 2000, .ref q_2, .ref q_6, .ref q_10, .ref q_14, .int 0, .ref q_18, .null, .null, .int 0])), (q_22, .inl (cA_23, 2000, .inl (fun _ => 0)))] := hD
  have hK : va_K (dC, dI) vwCl [(cA_23, .int)] s := hK
  refine W.widen (k := 6) (n := 12000) (Nat.le_of_ble_eq_true rfl) (Nat.le_of_ble_eq_true rfl) ?_
  refine va_putF (D := (dC, dI)) (ci := 2) (v := .ref q_22) (ty := .array .int) (C := RX1) (T := TX1) (N := 10) hx hb hts in_z_He2000_X1 tyX1 tyX1_ok nmX1 hown hK hP hD hS 0 rfl rfl 7 (by decide) (hts (.fieldLink RX1 32 "Selfkindle$Heap" "outers" "[I") (List.mem_of_getElem? (i := 12) rfl)) (fun _ h9 => h9) rfl hin rfl (by decide +kernel) rfl rfl (Nat.le_of_ble_eq_true rfl) dX1_init_74 (fun H_25 locs hP hD hS => ?_)
  have hP : va_P (dC, dI) vwCl [(h0, .inr (2, [.int 2000, .ref q_2, .ref q_6, .ref q_10, .ref q_14, .int 0, .ref q_18, .ref q_22, .null, .int 0])), (q_22, .inl (cA_23, 2000, .inl (fun _ => 0)))] H_25 := hP
  have hD : va_D A [(h0, .inr (2, [.int 2000, .ref q_2, .ref q_6, .ref q_10, .ref q_14, .int 0, .ref q_18, .ref q_22, .null, .int 0])), (q_22, .inl (cA_23, 2000, .inl (fun _ => 0)))] := hD
  have hK : va_K (dC, dI) vwCl [(cA_23, .int)] s := hK
  have hP := hP.sub (ws' := [(h0, .inr (2, [.int 2000, .ref q_2, .ref q_6, .ref q_10, .ref q_14, .int 0, .ref q_18, .ref q_22, .null, .int 0]))]) [0] rfl
  have hD := hD.sub (ws' := [(h0, .inr (2, [.int 2000, .ref q_2, .ref q_6, .ref q_10, .ref q_14, .int 0, .ref q_18, .ref q_22, .null, .int 0]))]) [0] (by decide) rfl
  have hK := hK.sub (tys' := []) [] rfl
  have hP : va_P (dC, dI) vwCl [(h0, .inr (2, [.int 2000, .ref q_2, .ref q_6, .ref q_10, .ref q_14, .int 0, .ref q_18, .ref q_22, .null, .int 0]))] H_25 := hP
  have hD : va_D A [(h0, .inr (2, [.int 2000, .ref q_2, .ref q_6, .ref q_10, .ref q_14, .int 0, .ref q_18, .ref q_22, .null, .int 0]))] := hD
  have hK : va_K (dC, dI) vwCl [] s := hK
  refine lv_aload_n hx hb dX1_init_77 rfl (lv_at hl 0 rfl) ?_
  refine lv_aload_n hx hb dX1_init_78 rfl (lv_at hl 0 rfl) ?_
  refine va_get (D := (dC, dI)) (ci := 2) (v := .int 2000) (C := RX1) (T := TX1) (N := 10) hx hb hts in_z_He2000_X1 hown hK hP 0 rfl rfl 0 (by decide) (hts (.fieldLink RX1 9 "Selfkindle$Heap" "room" "I") (List.mem_of_getElem? (i := 4) rfl)) (fun _ h9 => h9) rfl dX1_init_79 ?_
  refine va_newa (atype := .int) (ty := .int) (a0 := (2000, .inl (fun _ => 0))) hx hb (hts (.arrayClass .int) (List.mem_of_getElem? (i := 5) rfl)) rfl hK hP hD hS hA (fun _ => rfl) (by decide) (by decide +kernel) (Nat.le_of_ble_eq_true rfl) (Nat.le_of_ble_eq_true rfl) (Nat.le_of_ble_eq_true rfl) dX1_init_82 (fun q_26 cA_27 H_28 hK hP hD hS => ?_)
  have hP : va_P (dC, dI) vwCl [(h0, .inr (2, [.int 2000, .ref q_2, .ref q_6, .ref q_10, .ref q_14, .int 0, .ref q_18, .ref q_22, .null, .int 0])), (q_26, .inl (cA_27, 2000, .inl (fun _ => 0)))] H_28 := hP
  have hD : va_D A [(h0, .inr (2, [.int 2000, .ref q_2, .ref q_6, .ref q_10, .ref q_14, .int 0, .ref q_18, .ref q_22, .null, .int 0])), (q_26, .inl (cA_27, 2000, .inl (fun _ => 0)))] := hD
  have hK : va_K (dC, dI) vwCl [(cA_27, .int)] s := hK
  refine W.widen (k := 7) (n := 14000) (Nat.le_of_ble_eq_true rfl) (Nat.le_of_ble_eq_true rfl) ?_
  refine va_putF (D := (dC, dI)) (ci := 2) (v := .ref q_26) (ty := .array .int) (C := RX1) (T := TX1) (N := 10) hx hb hts in_z_He2000_X1 tyX1 tyX1_ok nmX1 hown hK hP hD hS 0 rfl rfl 8 (by decide) (hts (.fieldLink RX1 35 "Selfkindle$Heap" "depths" "[I") (List.mem_of_getElem? (i := 13) rfl)) (fun _ h9 => h9) rfl hin rfl (by decide +kernel) rfl rfl (Nat.le_of_ble_eq_true rfl) dX1_init_84 (fun H_29 locs hP hD hS => ?_)
  have hP : va_P (dC, dI) vwCl [(h0, .inr (2, [.int 2000, .ref q_2, .ref q_6, .ref q_10, .ref q_14, .int 0, .ref q_18, .ref q_22, .ref q_26, .int 0])), (q_26, .inl (cA_27, 2000, .inl (fun _ => 0)))] H_29 := hP
  have hD : va_D A [(h0, .inr (2, [.int 2000, .ref q_2, .ref q_6, .ref q_10, .ref q_14, .int 0, .ref q_18, .ref q_22, .ref q_26, .int 0])), (q_26, .inl (cA_27, 2000, .inl (fun _ => 0)))] := hD
  have hK : va_K (dC, dI) vwCl [(cA_27, .int)] s := hK
  have hP := hP.sub (ws' := [(h0, .inr (2, [.int 2000, .ref q_2, .ref q_6, .ref q_10, .ref q_14, .int 0, .ref q_18, .ref q_22, .ref q_26, .int 0]))]) [0] rfl
  have hD := hD.sub (ws' := [(h0, .inr (2, [.int 2000, .ref q_2, .ref q_6, .ref q_10, .ref q_14, .int 0, .ref q_18, .ref q_22, .ref q_26, .int 0]))]) [0] (by decide) rfl
  have hK := hK.sub (tys' := []) [] rfl
  have hP : va_P (dC, dI) vwCl [(h0, .inr (2, [.int 2000, .ref q_2, .ref q_6, .ref q_10, .ref q_14, .int 0, .ref q_18, .ref q_22, .ref q_26, .int 0]))] H_29 := hP
  have hD : va_D A [(h0, .inr (2, [.int 2000, .ref q_2, .ref q_6, .ref q_10, .ref q_14, .int 0, .ref q_18, .ref q_22, .ref q_26, .int 0]))] := hD
  have hK : va_K (dC, dI) vwCl [] s := hK
  refine W.widen (k := 7) (n := 14000) (Nat.le_of_ble_eq_true rfl) (Nat.le_of_ble_eq_true rfl) ?_
  exact W.vret hx hb hr (fun t ht hW => ⟨⟨(), rfl, trivial, trivial⟩, hS.F ht⟩) hS.2.2 dX1_init_87

set_option maxRecDepth 20000 in
def z_Ma : List Cond := .code yX3_init cX3_init 2 none :: (([.methodLink RX3 3 objectInit, .instanceMethod objectInit, .code objectInit ⟨#[0xb1]⟩ 1 none, .fieldLink RX3 9 "Selfkindle$Machine" "code" "LSelfkindle$Code;", .classLink RX3 15 RX1, .instantiable RX1 10, .initialized RX1, .methodLink RX3 17 yX1_init, .instanceMethod yX1_init, .code yX1_init cX1_init 2 none, .methodLink RX1 3 objectInit, .fieldLink RX1 9 "Selfkindle$Heap" "room" "I", .arrayClass .int, .fieldLink RX1 15 "Selfkindle$Heap" "kinds" "[I", .arrayClass .long, .fieldLink RX1 19 "Selfkindle$Heap" "numbers" "[J", .fieldLink RX1 23 "Selfkindle$Heap" "firsts" "[I", .fieldLink RX1 26 "Selfkindle$Heap" "seconds" "[I", .fieldLink RX1 29 "Selfkindle$Heap" "bound" "[I", .fieldLink RX1 32 "Selfkindle$Heap" "outers" "[I", .fieldLink RX1 35 "Selfkindle$Heap" "depths" "[I", .fieldLink RX3 20 "Selfkindle$Machine" "heap" "LSelfkindle$Heap;", .fieldLink RX3 24 "Selfkindle$Machine" "stack" "[I", .fieldLink RX3 28 "Selfkindle$Machine" "callPlaces" "[I", .fieldLink RX3 31 "Selfkindle$Machine" "callNames" "[I", .fieldLink RX3 34 "Selfkindle$Machine" "tryPlaces" "[I", .fieldLink RX3 37 "Selfkindle$Machine" "tryHeights" "[I", .fieldLink RX3 40 "Selfkindle$Machine" "tryNames" "[I", .fieldLink RX3 43 "Selfkindle$Machine" "tryCalls" "[I", .fieldLink RX3 46 "Selfkindle$Machine" "names" "I"] : List Cond) ++ wsX30 ++ wsX10)
theorem in_z_Ma_X3 : ∀ w ∈ wsX30, w ∈ z_Ma := fun w h => List.mem_cons_of_mem _ (List.mem_append_left _ (List.mem_append_right _ (h)))
theorem in_z_Ma_X1 : ∀ w ∈ wsX10, w ∈ z_Ma := fun w h => List.mem_cons_of_mem _ (List.mem_append_right _ (h))
set_option maxRecDepth 20000 in
theorem g_Ma_17 : GoodIn z_Ma (z_He2000) := goodIn_p _ [10, 3] rfl (by decide +kernel)
set_option maxHeartbeats 4000000 in
set_option maxRecDepth 100000 in
/-- Machine(code) -/
theorem c_Ma (l : Launch) (dC : Nat → ClassId) (dI : Nat → Nat → Nat) (tp te : Nat) (sz : Nat) (h0 : Nat) (h1 : Nat)  : Met l yX3_init z_Ma ({ frames := 2, cells := 15, slots := 17210, locals := 33 }) (va_Pc [.ref h0, .ref h1] (Pw dC dI [(h0, .inr (4, [.null, .null, .null, .null, .null, .null, .null, .null, .null, .int 0, .int 0, .int 0, .int 0, .int 0, .int 0, .int 0]))] [] sz tp te)) (va_Qv (fun (_ : Unit) => True) (fun (_ : Unit) (_ : State) => True) (va_A [(h0, .inr (4, [.null, .null, .null, .null, .null, .null, .null, .null, .null, .int 0, .int 0, .int 0, .int 0, .int 0, .int 0, .int 0]))] sz)) 15 17210 (va_A [(h0, .inr (4, [.null, .null, .null, .null, .null, .null, .null, .null, .null, .int 0, .int 0, .int 0, .int 0, .int 0, .int 0, .int 0]))] sz) := by
  refine Met.ofW (cc := cX3_init) (maxL := 2) (ret := none) (by decide) rfl ?_
  intro p e s m args below meth c s₁ B hml hv
  obtain ⟨rfl, hsz, hP, hK, hD0, hG⟩ := hv
  have hx := B.exec
  have hb := B.bytes
  have hr := B.returns
  have hts := atoms_spec (ws := z_Ma) B.pre
  have hown : s.vm.findClass RX3 = some m.cls := findClass_of_methodNamed B.named
  have hlocks := B.notSynchronized
  have hin : meth.name = "<init>" := (name_of_methodNamed B.named B.method).1
  subst hsz
  have hD := hD0.self (sz := s.heap.size)
  generalize hAe : va_A [(h0, .inr (4, [.null, .null, .null, .null, .null, .null, .null, .null, .null, .int 0, .int 0, .int 0, .int 0, .int 0, .int 0, .int 0]))] s.heap.size = A at hD hG ⊢
  have hA : ∀ q : Nat, s.heap.size ≤ q → A q := fun q h => by rw [← hAe]; exact Or.inr h
  have hS : va_S A s.heap s.heap [] := va_S.rf
  have hl := lv_entry ([.ref h0, .ref h1]) (n := 2) (Nat.le_of_ble_eq_true rfl)
  rw [lg_entry_eq]
  generalize (lg_sl ([.ref h0, .ref h1]) ++ List.replicate (2 - (lg_sl ([.ref h0, .ref h1])).length) Slot.unset).toArray = ls at hl ⊢
  have hl : lv_has ls 2 [(0, .ref h0), (1, .ref h1)] := hl
  refine lv_aload_n hx hb dX3_init_0 rfl (lv_at hl 0 rfl) ?_
  refine W.objInit hx hb hown (hts (.methodLink RX3 3 objectInit) (List.mem_of_getElem? (i := 1) rfl)) (hts (.instanceMethod objectInit) (List.mem_of_getElem? (i := 2) rfl)) (hts _ (List.mem_of_getElem? (i := 3) rfl)) rfl (by rw [hml]; exact hl.1) rfl dX3_init_1 (Nat.le_of_ble_eq_true rfl) (Nat.le_of_ble_eq_true rfl) ?_
  refine W.eq (g2 := F0 m 4 ls []) rfl ?_
  refine lv_aload_n hx hb dX3_init_4 rfl (lv_at hl 0 rfl) ?_
  refine lv_aload_n hx hb dX3_init_5 rfl (lv_at hl 1 rfl) ?_
  refine va_putF (D := (dC, dI)) (ci := 4) (v := .ref h1) (ty := .object "Selfkindle$Code") (C := RX3) (T := TX3) (N := 16) hx hb hts in_z_Ma_X3 tyX3 tyX3_ok nmX3 hown hK hP hD hS 0 rfl rfl 0 (by decide) (hts (.fieldLink RX3 9 "Selfkindle$Machine" "code" "LSelfkindle$Code;") (List.mem_of_getElem? (i := 4) rfl)) (fun _ h9 => h9) rfl hin rfl (by decide +kernel) rfl rfl (Nat.le_of_ble_eq_true rfl) dX3_init_6 (fun H_1 locs hP hD hS => ?_)
  have hP : va_P (dC, dI) vwCl [(h0, .inr (4, [.ref h1, .null, .null, .null, .null, .null, .null, .null, .null, .int 0, .int 0, .int 0, .int 0, .int 0, .int 0, .int 0]))] H_1 := hP
  have hD : va_D A [(h0, .inr (4, [.ref h1, .null, .null, .null, .null, .null, .null, .null, .null, .int 0, .int 0, .int 0, .int 0, .int 0, .int 0, .int 0]))] := hD
  have hK : va_K (dC, dI) vwCl [] s := hK
  refine lv_aload_n hx hb dX3_init_9 rfl (lv_at hl 0 rfl) ?_
  refine va_new (D := (dC, dI)) (cl := vwCl) (ci := 2) (fs := [.int 0, .null, .null, .null, .null, .int 0, .null, .null, .null, .int 0]) (C := RX1) (T := TX1) (N := 10) hx hb hts in_z_Ma_X1 tyX1 tyX1_ok hown (hts (.classLink RX3 15 RX1) (List.mem_of_getElem? (i := 5) rfl)) (hts (.instantiable RX1 10) (List.mem_of_getElem? (i := 6) rfl)) (hts (.initialized RX1) (List.mem_of_getElem? (i := 7) rfl)) hK hP hD hS hA rfl dflt_X1 (Nat.le_of_ble_eq_true rfl) (Nat.le_of_ble_eq_true rfl) dX3_init_10 (fun q_2 H_3 hP hD hS => ?_)
  have hP : va_P (dC, dI) vwCl [(h0, .inr (4, [.ref h1, .null, .null, .null, .null, .null, .null, .null, .null, .int 0, .int 0, .int 0, .int 0, .int 0, .int 0, .int 0])), (q_2, .inr (2, [.int 0, .null, .null, .null, .null, .int 0, .null, .null, .null, .int 0]))] H_3 := hP
  have hD : va_D A [(h0, .inr (4, [.ref h1, .null, .null, .null, .null, .null, .null, .null, .null, .int 0, .int 0, .int 0, .int 0, .int 0, .int 0, .int 0])), (q_2, .inr (2, [.int 0, .null, .null, .null, .null, .int 0, .null, .null, .null, .int 0]))] := hD
  have hK : va_K (dC, dI) vwCl [] s := hK
  refine W.widen (k := 1) (n := 10) (Nat.le_of_ble_eq_true rfl) (Nat.le_of_ble_eq_true rfl) ?_
  refine lv_dup hx hb dX3_init_13 rfl ?_
  refine lv_sipush (v := 2000) hx hb dX3_init_14 (by decide) ?_
  have hPc := hP.sub (ws' := [(q_2, .inr (2, [.int 0, .null, .null, .null, .null, .int 0, .null, .null, .null, .int 0]))]) [1] rfl
  have hDc := hD.sub (ws' := [(q_2, .inr (2, [.int 0, .null, .null, .null, .null, .int 0, .null, .null, .null, .int 0]))]) [1] (by decide) rfl
  have hKc := hK.sub (tys' := []) [] rfl
  have hFc := va_free (wc := [(q_2, .inr (2, [.int 0, .null, .null, .null, .null, .int 0, .null, .null, .null, .int 0]))]) hD hS hA [1] rfl
  refine va_callv (va_runI (As := [.int 2000]) (rest := [.ref q_2, .ref h0]) ⟨hx, hb, hml, hown, hts⟩ (c_He2000 l dC dI tp te H_3.size q_2) (cwI 1 hts g_Ma_17 rfl rfl rfl (hts (.initialized RX1) (List.mem_of_getElem? (i := 7) rfl)) (hts (.methodLink RX3 17 yX1_init) (List.mem_of_getElem? (i := 8) rfl)) (hts (.instanceMethod yX1_init) (List.mem_of_getElem? (i := 9) rfl)) rfl (by decide +kernel) ⟨Nat.le_of_ble_eq_true rfl, Nat.le_of_ble_eq_true rfl⟩) ⟨Pw.blind, Pw.mk hPc hKc hDc hG hS hFc⟩ rfl rfl hl.1 rfl (lv_room (Nat.le_of_ble_eq_true rfl)) dX3_init_17 ⟨Nat.le_of_ble_eq_true rfl, Nat.le_of_ble_eq_true rfl⟩) hS (fun q _ h => hFc q h) hFc (fun u t9 H_4 locs ht hvm hw hB hz1 hk1 hS => ?_)
  obtain ⟨hP, hD⟩ := va_join (wr := [(h0, .inr (4, [.ref h1, .null, .null, .null, .null, .null, .null, .null, .null, .int 0, .int 0, .int 0, .int 0, .int 0, .int 0, .int 0]))]) (w1 := []) hP hD [1] [0] rfl rfl (by decide) (by decide) hk1 hFc va_P.nil va_D.nil
  have hK := hK.sub (tys' := []) [] rfl
  have hP : va_P (dC, dI) vwCl [(h0, .inr (4, [.ref h1, .null, .null, .null, .null, .null, .null, .null, .null, .int 0, .int 0, .int 0, .int 0, .int 0, .int 0, .int 0]))] H_4 := hP
  have hD : va_D A [(h0, .inr (4, [.ref h1, .null, .null, .null, .null, .null, .null, .null, .null, .int 0, .int 0, .int 0, .int 0, .int 0, .int 0, .int 0]))] := hD
  have hK : va_K (dC, dI) vwCl [] s := hK
  refine W.widen (k := 8) (n := 14010) (Nat.le_of_ble_eq_true rfl) (Nat.le_of_ble_eq_true rfl) ?_
  refine va_putF (D := (dC, dI)) (ci := 4) (v := .ref q_2) (ty := .object "Selfkindle$Heap") (C := RX3) (T := TX3) (N := 16) hx hb hts in_z_Ma_X3 tyX3 tyX3_ok nmX3 hown hK hP hD hS 0 rfl rfl 1 (by decide) (hts (.fieldLink RX3 20 "Selfkindle$Machine" "heap" "LSelfkindle$Heap;") (List.mem_of_getElem? (i := 22) rfl)) (fun _ h9 => h9) rfl hin rfl (by decide +kernel) rfl rfl (Nat.le_of_ble_eq_true rfl) dX3_init_20 (fun H_6 locs hP hD hS => ?_)
  have hP : va_P (dC, dI) vwCl [(h0, .inr (4, [.ref h1, .ref q_2, .null, .null, .null, .null, .null, .null, .null, .int 0, .int 0, .int 0, .int 0, .int 0, .int 0, .int 0]))] H_6 := hP
  have hD : va_D A [(h0, .inr (4, [.ref h1, .ref q_2, .null, .null, .null, .null, .null, .null, .null, .int 0, .int 0, .int 0, .int 0, .int 0, .int 0, .int 0]))] := hD
  have hK : va_K (dC, dI) vwCl [] s := hK
  refine lv_aload_n hx hb dX3_init_23 rfl (lv_at hl 0 rfl) ?_
  refine lv_sipush (v := 2000) hx hb dX3_init_24 (by decide) ?_
  refine va_newa (atype := .int) (ty := .int) (a0 := (2000, .inl (fun _ => 0))) hx hb (hts (.arrayClass .int) (List.mem_of_getElem? (i := 13) rfl)) rfl hK hP hD hS hA (fun _ => rfl) (by decide) (by decide +kernel) (Nat.le_of_ble_eq_true rfl) (Nat.le_of_ble_eq_true rfl) (Nat.le_of_ble_eq_true rfl) dX3_init_27 (fun q_7 cA_8 H_9 hK hP hD hS => ?_)
  have hP : va_P (dC, dI) vwCl [(h0, .inr (4, [.ref h1, .ref q_2, .null, .null, .null, .null, .null, .null, .null, .int 0, .int 0, .int 0, .int 0, .int 0, .int 0, .int 0])), (q_7, .inl (cA_8, 2000, .inl (fun _ => 0)))] H_9 := hP
  have hD : va_D A [(h0, .inr (4, [.ref h1, .ref q_2, .null, .null, .null, .null, .null, .null, .null, .int 0, .int 0, .int 0, .int 0, .int 0, .int 0, .int 0])), (q_7, .inl (cA_8, 2000, .inl (fun _ => 0)))] := hD
  have hK : va_K (dC, dI) vwCl [(cA_8, .int)] s := hK
  refine W.widen (k := 9) (n := 16010) (Nat.le_of_ble_eq_true rfl) (Nat.le_of_ble_eq_true rfl) ?_
  refine va_putF (D := (dC, dI)) (ci := 4) (v := .ref q_7) (ty := .array .int) (C := RX3) (T := TX3) (N := 16) hx hb hts in_z_Ma_X3 tyX3 tyX3_ok nmX3 hown hK hP hD hS 0 rfl rfl 2 (by decide) (hts (.fieldLink RX3 24 "Selfkindle$Machine" "stack" "[I") (List.mem_of_getElem? (i := 23) rfl)) (fun _ h9 => h9) rfl hin rfl (by decide +kernel) rfl rfl (Nat.le_of_ble_eq_true rfl) dX3_init_29 (fun H_10 locs hP hD hS => ?_)
  have hP : va_P (dC, dI) vwCl [(h0, .inr (4, [.ref h1, .ref q_2, .ref q_7, .null, .null, .null, .null, .null, .null, .int 0, .int 0, .int 0, .int 0, .int 0, .int 0, .int 0])), (q_7, .inl (cA_8, 2000, .inl (fun _ => 0)))] H_10 := hP
  have hD : va_D A [(h0, .inr (4, [.ref h1, .ref q_2, .ref q_7, .null, .null, .null, .null, .null, .null, .int 0, .int 0, .int 0, .int 0, .int 0, .int 0, .int 0])), (q_7, .inl (cA_8, 2000, .inl (fun _ => 0)))] := hD
  have hK : va_K (dC, dI) vwCl [(cA_8, .int)] s := hK
  have hP := hP.sub (ws' := [(h0, .inr (4, [.ref h1, .ref q_2, .ref q_7, .null, .null, .null, .null, .null, .null, .int 0, .int 0, .int 0, .int 0, .int 0, .int 0, .int 0]))]) [0] rfl
  have hD := hD.sub (ws' := [(h0, .inr (4, [.ref h1, .ref q_2, .ref q_7, .null, .null, .null, .null, .null, .null, .int 0, .int 0, .int 0, .int 0, .int 0, .int 0, .int 0]))]) [0] (by decide) rfl
  have hK := hK.sub (tys' := []) [] rfl
  have hP : va_P (dC, dI) vwCl [(h0, .inr (4, [.ref h1, .ref q_2, .ref q_7, .null, .null, .null, .null, .null, .null, .int 0, .int 0, .int 0, .int 0, .int 0, .int 0, .int 0]))] H_10 := hP
  have hD : va_D A [(h0, .inr (4, [.ref h1, .ref q_2, .ref q_7, .null, .null, .null, .null, .null, .null, .int 0, .int 0, .int 0, .int 0, .int 0, .int 0, .int 0]))] := hD
  have hK : va_K (dC, dI) vwCl [] s := hK
  refine lv_aload_n hx hb dX3_init_32 rfl (lv_at hl 0 rfl) ?_
  refine lv_sipush (v := 200) hx hb dX3_init_33 (by decide) ?_
  refine va_newa (atype := .int) (ty := .int) (a0 := (200, .inl (fun _ => 0))) hx hb (hts (.arrayClass .int) (List.mem_of_getElem? (i := 13) rfl)) rfl hK hP hD hS hA (fun _ => rfl) (by decide) (by decide +kernel) (Nat.le_of_ble_eq_true rfl) (Nat.le_of_ble_eq_true rfl) (Nat.le_of_ble_eq_true rfl) dX3_init_36 (fun q_11 cA_12 H_13 hK hP hD hS => ?_)
  have hP : va_P (dC, dI) vwCl [(h0, .inr (4, [.ref h1, .ref q_2, .ref q_7, .null, .null, .null, .null, .null, .null, .int 0, .int 0, .int 0, .int 0, .int 0, .int 0, .int 0])), (q_11, .inl (cA_12, 200, .inl (fun _ => 0)))] H_13 := hP
  have hD : va_D A [(h0, .inr (4, [.ref h1, .ref q_2, .ref q_7, .null, .null, .null, .null, .null, .null, .int 0, .int 0, .int 0, .int 0, .int 0, .int 0, .int 0])), (q_11, .inl (cA_12, 200, .inl (fun _ => 0)))] := hD
  have hK : va_K (dC, dI) vwCl [(cA_12, .int)] s := hK
  refine W.widen (k := 10) (n := 16210) (Nat.le_of_ble_eq_true rfl) (Nat.le_of_ble_eq_true rfl) ?_
  refine va_putF (D := (dC, dI)) (ci := 4) (v := .ref q_11) (ty := .array .int) (C := RX3) (T := TX3) (N := 16) hx hb hts in_z_Ma_X3 tyX3 tyX3_ok nmX3 hown hK hP hD hS 0 rfl rfl 3 (by decide) (hts (.fieldLink RX3 28 "Selfkindle$Machine" "callPlaces" "[I") (List.mem_of_getElem? (i := 24) rfl)) (fun _ h9 => h9) rfl hin rfl (by decide +kernel) rfl rfl (Nat.le_of_ble_eq_true rfl) dX3_init_38 (fun H_14 locs hP hD hS => ?_)
  have hP : va_P (dC, dI) vwCl [(h0, .inr (4, [.ref h1, .ref q_2, .ref q_7, .ref q_11, .null, .null, .null, .null, .null, .int 0, .int 0, .int 0, .int 0, .int 0, .int 0, .int 0])), (q_11, .inl (cA_12, 200, .inl (fun _ => 0)))] H_14 := hP
  have hD : va_D A [(h0, .inr (4, [.ref h1, .ref q_2, .ref q_7, .ref q_11, .null, .null, .null, .null, .null, .int 0, .int 0, .int 0, .int 0, .int 0, .int 0, .int 0])), (q_11, .inl (cA_12, 200, .inl (fun _ => 0)))] := hD
  have hK : va_K (dC, dI) vwCl [(cA_12, .int)] s := hK
  have hP := hP.sub (ws' := [(h0, .inr (4, [.ref h1, .ref q_2, .ref q_7, .ref q_11, .null, .null, .null, .null, .null, .int 0, .int 0, .int 0, .int 0, .int 0, .int 0, .int 0]))]) [0] rfl
  have hD := hD.sub (ws' := [(h0, .inr (4, [.ref h1, .ref q_2, .ref q_7, .ref q_11, .null, .null, .null, .null, .null, .int 0, .int 0, .int 0, .int 0, .int 0, .int 0, .int 0]))]) [0] (by decide) rfl
  have hK := hK.sub (tys' := []) [] rfl
  have hP : va_P (dC, dI) vwCl [(h0, .inr (4, [.ref h1, .ref q_2, .ref q_7, .ref q_11, .null, .null, .null, .null, .null, .int 0, .int 0, .int 0, .int 0, .int 0, .int 0, .int 0]))] H_14 := hP
  have hD : va_D A [(h0, .inr (4, [.ref h1, .ref q_2, .ref q_7, .ref q_11, .null, .null, .null, .null, .null, .int 0, .int 0, .int 0, .int 0, .int 0, .int 0, .int 0]))] := hD
  have hK : va_K (dC, dI) vwCl [] s := hK
  refine lv_aload_n hx hb dX3_init_41 rfl (lv_at hl 0 rfl) ?_
  refine lv_sipush (v := 200) hx hb dX3_init_42 (by decide) ?_
  refine va_newa (atype := .int) (ty := .int) (a0 := (200, .inl (fun _ => 0))) hx hb (hts (.arrayClass .int) (List.mem_of_getElem? (i := 13) rfl)) rfl hK hP hD hS hA (fun _ => rfl) (by decide) (by decide +kernel) (Nat.le_of_ble_eq_true rfl) (Nat.le_of_ble_eq_true rfl) (Nat.le_of_ble_eq_true rfl) dX3_init_45 (fun q_15 cA_16 H_17 hK hP hD hS => ?_)
  have hP : va_P (dC, dI) vwCl [(h0, .inr (4, [.ref h1, .ref q_2, .ref q_7, .ref q_11, .null, .null, .null, .null, .null, .int 0, .int 0, .int 0, .int 0, .int 0, .int 0, .int 0])), (q_15, .inl (cA_16, 200, .inl (fun _ => 0)))] H_17 := hP
  have hD : va_D A [(h0, .inr (4, [.ref h1, .ref q_2, .ref q_7, .ref q_11, .null, .null, .null, .null, .null, .int 0, .int 0, .int 0, .int 0, .int 0, .int 0, .int 0])), (q_15, .inl (cA_16, 200, .inl (fun _ => 0)))] := hD
  have hK : va_K (dC, dI) vwCl [(cA_16, .int)] s := hK
  refine W.widen (k := 11) (n := 16410) (Nat.le_of_ble_eq_true rfl) (Nat.le_of_ble_eq_true rfl) ?_
  refine va_putF (D := (dC, dI)) (ci := 4) (v := .ref q_15) (ty := .array .int) (C := RX3) (T := TX3) (N := 16) hx hb hts in_z_Ma_X3 tyX3 tyX3_ok nmX3 hown hK hP hD hS 0 rfl rfl 4 (by decide) (hts (.fieldLink RX3 31 "Selfkindle$Machine" "callNames" "[I") (List.mem_of_getElem? (i := 25) rfl)) (fun _ h9 => h9) rfl hin rfl (by decide +kernel) rfl rfl (Nat.le_of_ble_eq_true rfl) dX3_init_47 (fun H_18 locs hP hD hS => ?_)
  have hP : va_P (dC, dI) vwCl [(h0, .inr (4, [.ref h1, .ref q_2, .ref q_7, .ref q_11, .ref q_15, .null, .null, .null, .null, .int 0, .int 0, .int 0, .int 0, .int 0, .int 0, .int 0])), (q_15, .inl (cA_16, 200, .inl (fun _ => 0)))] H_18 := hP
  have hD : va_D A [(h0, .inr (4, [.ref h1, .ref q_2, .ref q_7, .ref q_11, .ref q_15, .null, .null, .null, .null, .int 0, .int 0, .int 0, .int 0, .int 0, .int 0, .int 0])), (q_15, .inl (cA_16, 200, .inl (fun _ => 0)))] := hD
  have hK : va_K (dC, dI) vwCl [(cA_16, .int)] s := hK
  have hP := hP.sub (ws' := [(h0, .inr (4, [.ref h1, .ref q_2, .ref q_7, .ref q_11, .ref q_15, .null, .null, .null, .null, .int 0, .int 0, .int 0, .int 0, .int 0, .int 0, .int 0]))]) [0] rfl
  have hD := hD.sub (ws' := [(h0, .inr (4, [.ref h1, .ref q_2, .ref q_7, .ref q_11, .ref q_15, .null, .null, .null, .null, .int 0, .int 0, .int 0, .int 0, .int 0, .int 0, .int 0]))]) [0] (by decide) rfl
  have hK := hK.sub (tys' := []) [] rfl
  have hP : va_P (dC, dI) vwCl [(h0, .inr (4, [.ref h1, .ref q_2, .ref q_7, .ref q_11, .ref q_15, .null, .null, .null, .null, .int 0, .int 0, .int 0, .int 0, .int 0, .int 0, .int 0]))] H_18 := hP
  have hD : va_D A [(h0, .inr (4, [.ref h1, .ref q_2, .ref q_7, .ref q_11, .ref q_15, .null, .null, .null, .null, .int 0, .int 0, .int 0, .int 0, .int 0, .int 0, .int 0]))] := hD
  have hK : va_K (dC, dI) vwCl [] s := hK
  refine lv_aload_n hx hb dX3_init_50 rfl (lv_at hl 0 rfl) ?_
  refine lv_sipush (v := 200) hx hb dX3_init_51 (by decide) ?_
  refine va_newa (atype := .int) (ty := .int) (a0 := (200, .inl (fun _ => 0))) hx hb (hts (.arrayClass .int) (List.mem_of_getElem? (i := 13) rfl)) rfl hK hP hD hS hA (fun _ => rfl) (by decide) (by decide +kernel) (Nat.le_of_ble_eq_true rfl) (Nat.le_of_ble_eq_true rfl) (Nat.le_of_ble_eq_true rfl) dX3_init_54 (fun q_19 cA_20 H_21 hK hP hD hS => ?_)
  have hP : va_P (dC, dI) vwCl [(h0, .inr (4, [.ref h1, .ref q_2, .ref q_7, .ref q_11, .ref q_15, .null, .null, .null, .null, .int 0, .int 0, .int 0, .int 0, .int 0, .int 0, .int 0])), (q_19, .inl (cA_20, 200, .inl (fun _ => 0)))] H_21 := hP
  have hD : va_D A [(h0, .inr (4, [.ref h1, .ref q_2, .ref q_7, .ref q_11, .ref q_15, .null, .null, .null, .null, .int 0, .int 0, .int 0, .int 0, .int 0, .int 0, .int 0])), (q_19, .inl (cA_20, 200, .inl (fun _ => 0)))] := hD
  have hK : va_K (dC, dI) vwCl [(cA_20, .int)] s := hK
  refine W.widen (k := 12) (n := 16610) (Nat.le_of_ble_eq_true rfl) (Nat.le_of_ble_eq_true rfl) ?_
  refine va_putF (D := (dC, dI)) (ci := 4) (v := .ref q_19) (ty := .array .int) (C := RX3) (T := TX3) (N := 16) hx hb hts in_z_Ma_X3 tyX3 tyX3_ok nmX3 hown hK hP hD hS 0 rfl rfl 5 (by decide) (hts (.fieldLink RX3 34 "Selfkindle$Machine" "tryPlaces" "[I") (List.mem_of_getElem? (i := 26) rfl)) (fun _ h9 => h9) rfl hin rfl (by decide +kernel) rfl rfl (Nat.le_of_ble_eq_true rfl) dX3_init_56 (fun H_22 locs hP hD hS => ?_)
  have hP : va_P (dC, dI) vwCl [(h0, .inr (4, [.ref h1, .ref q_2, .ref q_7, .ref q_11, .ref q_15, .ref q_19, .null, .null, .null, .int 0, .int 0, .int 0, .int 0, .int 0, .int 0, .int 0])), (q_19, .inl (cA_20, 200, .inl (fun _ => 0)))] H_22 := hP
  have hD : va_D A [(h0, .inr (4, [.ref h1, .ref q_2, .ref q_7, .ref q_11, .ref q_15, .ref q_19, .null, .null, .null, .int 0, .int 0, .int 0, .int 0, .int 0, .int 0, .int 0])), (q_19, .inl (cA_20, 200, .inl (fun _ => 0)))] := hD
  have hK : va_K (dC, dI) vwCl [(cA_20, .int)] s := hK
  have hP := hP.sub (ws' := [(h0, .inr (4, [.ref h1, .ref q_2, .ref q_7, .ref q_11, .ref q_15, .ref q_19, .null, .null, .null, .int 0, .int 0, .int 0, .int 0, .int 0, .int 0, .int 0]))]) [0] rfl
  have hD := hD.sub (ws' := [(h0, .inr (4, [.ref h1, .ref q_2, .ref q_7, .ref q_11, .ref q_15, .ref q_19, .null, .null, .null, .int 0, .int 0, .int 0, .int 0, .int 0, .int 0, .int 0]))]) [0] (by decide) rfl
  have hK := hK.sub (tys' := []) [] rfl
  have hP : va_P (dC, dI) vwCl [(h0, .inr (4, [.ref h1, .ref q_2, .ref q_7, .ref q_11, .ref q_15, .ref q_19, .null, .null, .null, .int 0, .int 0, .int 0, .int 0, .int 0, .int 0, .int 0]))] H_22 := hP
  have hD : va_D A [(h0, .inr (4, [.ref h1, .ref q_2, .ref q_7, .ref q_11, .ref q_15, .ref q_19, .null, .null, .null, .int 0, .int 0, .int 0, .int 0, .int 0, .int 0, .int 0]))] := hD
  have hK : va_K (dC, dI) vwCl [] s := hK
  refine lv_aload_n hx hb dX3_init_59 rfl (lv_at hl 0 rfl) ?_
  refine lv_sipush (v := 200) hx hb dX3_init_60 (by decide) ?_
  refine va_newa (atype := .int) (ty := .int) (a0 := (200, .inl (fun _ => 0))) hx hb (hts (.arrayClass .int) (List.mem_of_getElem? (i := 13) rfl)) rfl hK hP hD hS hA (fun _ => rfl) (by decide) (by decide +kernel) (Nat.le_of_ble_eq_true rfl) (Nat.le_of_ble_eq_true rfl) (Nat.le_of_ble_eq_true rfl) dX3_init_63 (fun q_23 cA_24 H_25 hK hP hD hS => ?_)
  have hP : va_P (dC, dI) vwCl [(h0, .inr (4, [.ref h1, .ref q_2, .ref q_7, .ref q_11, .ref q_15, .ref q_19, .null, .null, .null, .int 0, .int 0, .int 0, .int 0, .int 0, .int 0, .int 0])), (q_23, .inl (cA_24, 200, .inl (fun _ => 0)))] H_25 := hP
  have hD : va_D A [(h0, .inr (4, [.ref h1, .ref q_2, .ref q_7, .ref q_11, .ref q_15, .ref q_19, .null, .null, .null, .int 0, .int 0, .int 0, .int 0, .int 0, .int 0, .int 0])), (q_23, .inl (cA_24, 200, .inl (fun _ => 0)))] := hD
  have hK : va_K (dC, dI) vwCl [(cA_24, .int)] s := hK
  refine W.widen (k := 13) (n := 16810) (Nat.le_of_ble_eq_true rfl) (Nat.le_of_ble_eq_true rfl) ?_
  refine va_putF (D := (dC, dI)) (ci := 4) (v := .ref q_23) (ty := .array .int) (C := RX3) (T := TX3) (N := 16) hx hb hts in_z_Ma_X3 tyX3 tyX3_ok nmX3 hown hK hP hD hS 0 rfl rfl 6 (by decide) (hts (.fieldLink RX3 37 "Selfkindle$Machine" "tryHeights" "[I") (List.mem_of_getElem? (i := 27) rfl)) (fun _ h9 => h9) rfl hin rfl (by decide +kernel) rfl rfl (Nat.le_of_ble_eq_true rfl) dX3_init_65 (fun H_26 locs hP hD hS => ?_)
  have hP : va_P (dC, dI) vwCl [(h0, .inr (4, [.ref h1, .ref q_2, .ref q_7, .ref q_11, .ref q_15, .ref q_19, .ref q_23, .null, .null, .int 0, .int 0, .int 0, .int 0, .int 0, .int 0, .int 0])), (q_23, .inl (cA_24, 200, .inl (fun _ => 0)))] H_26 := hP
  have hD : va_D A [(h0, .inr (4, [.ref h1, .ref q_2, .ref q_7, .ref q_11, .ref q_15, .ref q_19, .ref q_23, .null, .null, .int 0, .int 0, .int 0, .int 0, .int 0, .int 0, .int 0])), (q_23, .inl (cA_24, 200, .inl (fun _ => 0)))] := hD
  have hK : va_K (dC, dI) vwCl [(cA_24, .int)] s := hK
  have hP := hP.sub (ws' := [(h0, .inr (4, [.ref h1, .ref q_2, .ref q_7, .ref q_11, .ref q_15, .ref q_19, .ref q_23, .null, .null, .int 0, .int 0, .int 0, .int 0, .int 0, .int 0, .int 0]))]) [0] rfl
  have hD := hD.sub (ws' := [(h0, .inr (4, [.ref h1, .ref q_2, .ref q_7, .ref q_11, .ref q_15, .ref q_19, .ref q_23, .null, .null, .int 0, .int 0, .int 0, .int 0, .int 0, .int 0, .int 0]))]) [0] (by decide) rfl
  have hK := hK.sub (tys' := []) [] rfl
  have hP : va_P (dC, dI) vwCl [(h0, .inr (4, [.ref h1, .ref q_2, .ref q_7, .ref q_11, .ref q_15, .ref q_19, .ref q_23, .null, .null, .int 0, .int 0, .int 0, .int 0, .int 0, .int 0, .int 0]))] H_26 := hP
  have hD : va_D A [(h0, .inr (4, [.ref h1, .ref q_2, .ref q_7, .ref q_11, .ref q_15, .ref q_19, .ref q_23, .null, .null, .int 0, .int 0, .int 0, .int 0, .int 0, .int 0, .int 0]))] := hD
  have hK : va_K (dC, dI) vwCl [] s := hK
  refine lv_aload_n hx hb dX3_init_68 rfl (lv_at hl 0 rfl) ?_
  refine lv_sipush (v := 200) hx hb dX3_init_69 (by decide) ?_
  refine va_newa (atype := .int) (ty := .int) (a0 := (200, .inl (fun _ => 0))) hx hb (hts (.arrayClass .int) (List.mem_of_getElem? (i := 13) rfl)) rfl hK hP hD hS hA (fun _ => rfl) (by decide) (by decide +kernel) (Nat.le_of_ble_eq_true rfl) (Nat.le_of_ble_eq_true rfl) (Nat.le_of_ble_eq_true rfl) dX3_init_72 (fun q_27 cA_28 H_29 hK hP hD hS => ?_)
  have hP : va_P (dC, dI) vwCl [(h0, .inr (4, [.ref h1, .ref q_2, .ref q_7, .ref q_11, .ref q_15, .ref q_19, .ref q_23, .null, .null, .int 0, .int 0, .int 0, .int 0, .int 0, .int 0, .int 0])), (q_27, .inl (cA_28, 200, .inl (fun _ => 0)))] H_29 := hP
  have hD : va_D A [(h0, .inr (4, [.ref h1, .ref q_2, .ref q_7, .ref q_11, .ref q_15, .ref q_19, .ref q_23, .null, .null, .int 0, .int 0, .int 0, .int 0, .int 0, .int 0, .int 0])), (q_27, .inl (cA_28, 200, .inl (fun _ => 0)))] := hD
  have hK : va_K (dC, dI) vwCl [(cA_28, .int)] s := hK
  refine W.widen (k := 14) (n := 17010) (Nat.le_of_ble_eq_true rfl) (Nat.le_of_ble_eq_true rfl) ?_
  refine va_putF (D := (dC, dI)) (ci := 4) (v := .ref q_27) (ty := .array .int) (C := RX3) (T := TX3) (N := 16) hx hb hts in_z_Ma_X3 tyX3 tyX3_ok nmX3 hown hK hP hD hS 0 rfl rfl 7 (by decide) (hts (.fieldLink RX3 40 "Selfkindle$Machine" "tryNames" "[I") (List.mem_of_getElem? (i := 28) rfl)) (fun _ h9 => h9) rfl hin rfl (by decide +kernel) rfl rfl (Nat.le_of_ble_eq_true rfl) dX3_init_74 (fun H_30 locs hP hD hS => ?_)
  have hP : va_P (dC, dI) vwCl [(h0, .inr (4, [.ref h1, .ref q_2, .ref q_7, .ref q_11, .ref q_15, .ref q_19, .ref q_23, .ref q_27, .null, .int 0, .int 0, .int 0, .int 0, .int 0, .int 0, .int 0])), (q_27, .inl (cA_28, 200, .inl (fun _ => 0)))] H_30 := hP
  have hD : va_D A [(h0, .inr (4, [.ref h1, .ref q_2, .ref q_7, .ref q_11, .ref q_15, .ref q_19, .ref q_23, .ref q_27, .null, .int 0, .int 0, .int 0, .int 0, .int 0, .int 0, .int 0])), (q_27, .inl (cA_28, 200, .inl (fun _ => 0)))] := hD
  have hK : va_K (dC, dI) vwCl [(cA_28, .int)] s := hK
  have hP := hP.sub (ws' := [(h0, .inr (4, [.ref h1, .ref q_2, .ref q_7, .ref q_11, .ref q_15, .ref q_19, .ref q_23, .ref q_27, .null, .int 0, .int 0, .int 0, .int 0, .int 0, .int 0, .int 0]))]) [0] rfl
  have hD := hD.sub (ws' := [(h0, .inr (4, [.ref h1, .ref q_2, .ref q_7, .ref q_11, .ref q_15, .ref q_19, .ref q_23, .ref q_27, .null, .int 0, .int 0, .int 0, .int 0, .int 0, .int 0, .int 0]))]) [0] (by decide) rfl
  have hK := hK.sub (tys' := []) [] rfl
  have hP : va_P (dC, dI) vwCl [(h0, .inr (4, [.ref h1, .ref q_2, .ref q_7, .ref q_11, .ref q_15, .ref q_19, .ref q_23, .ref q_27, .null, .int 0, .int 0, .int 0, .int 0, .int 0, .int 0, .int 0]))] H_30 := hP
  have hD : va_D A [(h0, .inr (4, [.ref h1, .ref q_2, .ref q_7, .ref q_11, .ref q_15, .ref q_19, .ref q_23, .ref q_27, .null, .int 0, .int 0, .int 0, .int 0, .int 0, .int 0, .int 0]))] := hD
  have hK : va_K (dC, dI) vwCl [] s := hK
  refine lv_aload_n hx hb dX3_init_77 rfl (lv_at hl 0 rfl) ?_
  refine lv_sipush (v := 200) hx hb dX3_init_78 (by decide) ?_
  refine va_newa (atype := .int) (ty := .int) (a0 := (200, .inl (fun _ => 0))) hx hb (hts (.arrayClass .int) (List.mem_of_getElem? (i := 13) rfl)) rfl hK hP hD hS hA (fun _ => rfl) (by decide) (by decide +kernel) (Nat.le_of_ble_eq_true rfl) (Nat.le_of_ble_eq_true rfl) (Nat.le_of_ble_eq_true rfl) dX3_init_81 (fun q_31 cA_32 H_33 hK hP hD hS => ?_)
  have hP : va_P (dC, dI) vwCl [(h0, .inr (4, [.ref h1, .ref q_2, .ref q_7, .ref q_11, .ref q_15, .ref q_19, .ref q_23, .ref q_27, .null, .int 0, .int 0, .int 0, .int 0, .int 0, .int 0, .int 0])), (q_31, .inl (cA_32, 200, .inl (fun _ => 0)))] H_33 := hP
  have hD : va_D A [(h0, .inr (4, [.ref h1, .ref q_2, .ref q_7, .ref q_11, .ref q_15, .ref q_19, .ref q_23, .ref q_27, .null, .int 0, .int 0, .int 0, .int 0, .int 0, .int 0, .int 0])), (q_31, .inl (cA_32, 200, .inl (fun _ => 0)))] := hD
  have hK : va_K (dC, dI) vwCl [(cA_32, .int)] s := hK
  refine W.widen (k := 15) (n := 17210) (Nat.le_of_ble_eq_true rfl) (Nat.le_of_ble_eq_true rfl) ?_
  refine va_putF (D := (dC, dI)) (ci := 4) (v := .ref q_31) (ty := .array .int) (C := RX3) (T := TX3) (N := 16) hx hb hts in_z_Ma_X3 tyX3 tyX3_ok nmX3 hown hK hP hD hS 0 rfl rfl 8 (by decide) (hts (.fieldLink RX3 43 "Selfkindle$Machine" "tryCalls" "[I") (List.mem_of_getElem? (i := 29) rfl)) (fun _ h9 => h9) rfl hin rfl (by decide +kernel) rfl rfl (Nat.le_of_ble_eq_true rfl) dX3_init_83 (fun H_34 locs hP hD hS => ?_)
  have hP : va_P (dC, dI) vwCl [(h0, .inr (4, [.ref h1, .ref q_2, .ref q_7, .ref q_11, .ref q_15, .ref q_19, .ref q_23, .ref q_27, .ref q_31, .int 0, .int 0, .int 0, .int 0, .int 0, .int 0, .int 0])), (q_31, .inl (cA_32, 200, .inl (fun _ => 0)))] H_34 := hP
  have hD : va_D A [(h0, .inr (4, [.ref h1, .ref q_2, .ref q_7, .ref q_11, .ref q_15, .ref q_19, .ref q_23, .ref q_27, .ref q_31, .int 0, .int 0, .int 0, .int 0, .int 0, .int 0, .int 0])), (q_31, .inl (cA_32, 200, .inl (fun _ => 0)))] := hD
  have hK : va_K (dC, dI) vwCl [(cA_32, .int)] s := hK
  have hP := hP.sub (ws' := [(h0, .inr (4, [.ref h1, .ref q_2, .ref q_7, .ref q_11, .ref q_15, .ref q_19, .ref q_23, .ref q_27, .ref q_31, .int 0, .int 0, .int 0, .int 0, .int 0, .int 0, .int 0]))]) [0] rfl
  have hD := hD.sub (ws' := [(h0, .inr (4, [.ref h1, .ref q_2, .ref q_7, .ref q_11, .ref q_15, .ref q_19, .ref q_23, .ref q_27, .ref q_31, .int 0, .int 0, .int 0, .int 0, .int 0, .int 0, .int 0]))]) [0] (by decide) rfl
  have hK := hK.sub (tys' := []) [] rfl
  have hP : va_P (dC, dI) vwCl [(h0, .inr (4, [.ref h1, .ref q_2, .ref q_7, .ref q_11, .ref q_15, .ref q_19, .ref q_23, .ref q_27, .ref q_31, .int 0, .int 0, .int 0, .int 0, .int 0, .int 0, .int 0]))] H_34 := hP
  have hD : va_D A [(h0, .inr (4, [.ref h1, .ref q_2, .ref q_7, .ref q_11, .ref q_15, .ref q_19, .ref q_23, .ref q_27, .ref q_31, .int 0, .int 0, .int 0, .int 0, .int 0, .int 0, .int 0]))] := hD
  have hK : va_K (dC, dI) vwCl [] s := hK
  refine lv_aload_n hx hb dX3_init_86 rfl (lv_at hl 0 rfl) ?_
  refine lv_iconst (v := (-1)) hx hb dX3_init_87 (by decide) ?_
  refine va_put (D := (dC, dI)) (ci := 4) (v := .int ((-1))) (ty := .int) (C := RX3) (T := TX3) (N := 16) hx hb hts in_z_Ma_X3 tyX3 tyX3_ok nmX3 hown hK hP hD hS 0 rfl rfl 10 (by decide) (hts (.fieldLink RX3 46 "Selfkindle$Machine" "names" "I") (List.mem_of_getElem? (i := 30) rfl)) (fun _ h9 => h9) rfl (by decide +kernel) rfl rfl (Nat.le_of_ble_eq_true rfl) dX3_init_88 (fun H_35 locs hP hD hS => ?_)
  have hP : va_P (dC, dI) vwCl [(h0, .inr (4, [.ref h1, .ref q_2, .ref q_7, .ref q_11, .ref q_15, .ref q_19, .ref q_23, .ref q_27, .ref q_31, .int 0, .int ((-1)), .int 0, .int 0, .int 0, .int 0, .int 0]))] H_35 := hP
  have hD : va_D A [(h0, .inr (4, [.ref h1, .ref q_2, .ref q_7, .ref q_11, .ref q_15, .ref q_19, .ref q_23, .ref q_27, .ref q_31, .int 0, .int ((-1)), .int 0, .int 0, .int 0, .int 0, .int 0]))] := hD
  have hK : va_K (dC, dI) vwCl [] s := hK
  refine W.widen (k := 15) (n := 17210) (Nat.le_of_ble_eq_true rfl) (Nat.le_of_ble_eq_true rfl) ?_
  exact W.vret hx hb hr (fun t ht hW => ⟨⟨(), rfl, trivial, trivial⟩, hS.F ht⟩) hS.2.2 dX3_init_91

set_option maxRecDepth 20000 in
def z_Se : List Cond := .code yX7_init cX7_init 1 none :: (([.methodLink RX7 1 objectInit, .instanceMethod objectInit, .code objectInit ⟨#[0xb1]⟩ 1 none, .classLink RX7 7 RX5, .instantiable RX5 8, .initialized RX5, .methodLink RX7 11 yX5_init, .instanceMethod yX5_init, .code yX5_init cX5_init 3 none, .methodLink RX5 3 objectInit, .arrayClass .int, .fieldLink RX5 9 "Selfkindle$Term" "kinds" "[I", .fieldLink RX5 15 "Selfkindle$Term" "names" "[I", .fieldLink RX5 18 "Selfkindle$Term" "others" "[I", .arrayClass .long, .fieldLink RX5 21 "Selfkindle$Term" "numbers" "[J", .fieldLink RX5 25 "Selfkindle$Term" "sizes" "[I", .fieldLink RX5 28 "Selfkindle$Term" "binders" "[I", .fieldLink RX5 31 "Selfkindle$Term" "distances" "[I", .fieldLink RX7 14 "Selfkindle" "pile" "LSelfkindle$Term;", .fieldLink RX7 18 "Selfkindle" "told" "LSelfkindle$Term;", .fieldLink RX7 21 "Selfkindle" "current" "LSelfkindle$Term;", .fieldLink RX7 24 "Selfkindle" "wrong" "I", .classLink RX7 28 RX4, .instantiable RX4 2, .initialized RX4, .methodLink RX7 30 yX4_init, .instanceMethod yX4_init, .code yX4_init cX4_init 1 none, .methodLink RX4 3 objectInit, .classLink RX4 9 RX5, .methodLink RX4 11 yX5_init, .fieldLink RX4 14 "Selfkindle$Rewriter" "made" "LSelfkindle$Term;", .fieldLink RX4 20 "Selfkindle$Rewriter" "spare" "LSelfkindle$Term;", .fieldLink RX7 31 "Selfkindle" "rewriter" "LSelfkindle$Rewriter;", .classLink RX7 35 RX6, .instantiable RX6 15, .initialized RX6, .methodLink RX7 37 yX6_init, .instanceMethod yX6_init, .code yX6_init cX6_init 1 none, .methodLink RX6 5 objectInit, .fieldLink RX6 11 "Selfkindle$Types" "heads" "[I", .fieldLink RX6 15 "Selfkindle$Types" "lefts" "[I", .fieldLink RX6 18 "Selfkindle$Types" "rights" "[I", .fieldLink RX6 21 "Selfkindle$Types" "copies" "[I", .fieldLink RX6 24 "Selfkindle$Types" "row" "[I", .fieldLink RX6 27 "Selfkindle$Types" "work" "[I", .fieldLink RX6 30 "Selfkindle$Types" "pairs" "[I", .fieldLink RX6 33 "Selfkindle$Types" "typeOfPart" "[I", .fieldLink RX6 36 "Selfkindle$Types" "typeOfName" "[I", .fieldLink RX6 39 "Selfkindle$Types" "levels" "[I", .fieldLink RX6 42 "Selfkindle$Types" "parents" "[I", .fieldLink RX6 45 "Selfkindle$Types" "answer" "[I", .fieldLink RX7 38 "Selfkindle" "types" "LSelfkindle$Types;", .classLink RX7 42 RX0, .instantiable RX0 7, .initialized RX0, .methodLink RX7 44 yX0_init, .instanceMethod yX0_init, .code yX0_init cX0_init 1 none, .methodLink RX0 5 objectInit, .fieldLink RX0 11 "Selfkindle$Code" "whats" "[I", .fieldLink RX0 15 "Selfkindle$Code" "numbers" "[J", .fieldLink RX0 19 "Selfkindle$Code" "times" "[I", .arrayClass .boolean, .fieldLink RX0 22 "Selfkindle$Code" "stops" "[Z", .fieldLink RX0 26 "Selfkindle$Code" "lengths" "[I", .fieldLink RX0 29 "Selfkindle$Code" "places" "[I", .fieldLink RX7 45 "Selfkindle" "code" "LSelfkindle$Code;", .classLink RX7 49 RX3, .instantiable RX3 16, .initialized RX3, .methodLink RX7 51 yX3_init, .instanceMethod yX3_init, .code yX3_init cX3_init 2 none, .methodLink RX3 3 objectInit, .fieldLink RX3 9 "Selfkindle$Machine" "code" "LSelfkindle$Code;", .classLink RX3 15 RX1, .instantiable RX1 10, .initialized RX1, .methodLink RX3 17 yX1_init, .instanceMethod yX1_init, .code yX1_init cX1_init 2 none, .methodLink RX1 3 objectInit, .fieldLink RX1 9 "Selfkindle$Heap" "room" "I", .fieldLink RX1 15 "Selfkindle$Heap" "kinds" "[I", .fieldLink RX1 19 "Selfkindle$Heap" "numbers" "[J", .fieldLink RX1 23 "Selfkindle$Heap" "firsts" "[I", .fieldLink RX1 26 "Selfkindle$Heap" "seconds" "[I", .fieldLink RX1 29 "Selfkindle$Heap" "bound" "[I", .fieldLink RX1 32 "Selfkindle$Heap" "outers" "[I", .fieldLink RX1 35 "Selfkindle$Heap" "depths" "[I", .fieldLink RX3 20 "Selfkindle$Machine" "heap" "LSelfkindle$Heap;", .fieldLink RX3 24 "Selfkindle$Machine" "stack" "[I", .fieldLink RX3 28 "Selfkindle$Machine" "callPlaces" "[I", .fieldLink RX3 31 "Selfkindle$Machine" "callNames" "[I", .fieldLink RX3 34 "Selfkindle$Machine" "tryPlaces" "[I", .fieldLink RX3 37 "Selfkindle$Machine" "tryHeights" "[I", .fieldLink RX3 40 "Selfkindle$Machine" "tryNames" "[I", .fieldLink RX3 43 "Selfkindle$Machine" "tryCalls" "[I", .fieldLink RX3 46 "Selfkindle$Machine" "names" "I", .fieldLink RX7 54 "Selfkindle" "runner" "LSelfkindle$Machine;"] : List Cond) ++ wsX50 ++ wsX70 ++ wsX40 ++ wsX60 ++ wsX00 ++ wsX30 ++ wsX10)
theorem in_z_Se_X5 : ∀ w ∈ wsX50, w ∈ z_Se := fun w h => List.mem_cons_of_mem _ (List.mem_append_left _ (List.mem_append_left _ (List.mem_append_left _ (List.mem_append_left _ (List.mem_append_left _ (List.mem_append_left _ (List.mem_append_right _ (h))))))))
theorem in_z_Se_X7 : ∀ w ∈ wsX70, w ∈ z_Se := fun w h => List.mem_cons_of_mem _ (List.mem_append_left _ (List.mem_append_left _ (List.mem_append_left _ (List.mem_append_left _ (List.mem_append_left _ (List.mem_append_right _ (h)))))))
theorem in_z_Se_X4 : ∀ w ∈ wsX40, w ∈ z_Se := fun w h => List.mem_cons_of_mem _ (List.mem_append_left _ (List.mem_append_left _ (List.mem_append_left _ (List.mem_append_left _ (List.mem_append_right _ (h))))))
theorem in_z_Se_X6 : ∀ w ∈ wsX60, w ∈ z_Se := fun w h => List.mem_cons_of_mem _ (List.mem_append_left _ (List.mem_append_left _ (List.mem_append_left _ (List.mem_append_right _ (h)))))
theorem in_z_Se_X0 : ∀ w ∈ wsX00, w ∈ z_Se := fun w h => List.mem_cons_of_mem _ (List.mem_append_left _ (List.mem_append_left _ (List.mem_append_right _ (h))))
theorem in_z_Se_X3 : ∀ w ∈ wsX30, w ∈ z_Se := fun w h => List.mem_cons_of_mem _ (List.mem_append_left _ (List.mem_append_right _ (h)))
theorem in_z_Se_X1 : ∀ w ∈ wsX10, w ∈ z_Se := fun w h => List.mem_cons_of_mem _ (List.mem_append_right _ (h))
set_option maxRecDepth 20000 in
theorem g_Se_12 : GoodIn z_Se (z_Ti1200) := goodIn_p _ [9, 3] rfl (by decide +kernel)
set_option maxRecDepth 20000 in
theorem g_Se_25 : GoodIn z_Se (z_Ti60) := goodIn_p _ [9, 3] rfl (by decide +kernel)
set_option maxRecDepth 20000 in
theorem g_Se_38 : GoodIn z_Se (z_Ti60) := goodIn_p _ [9, 3] rfl (by decide +kernel)
set_option maxRecDepth 20000 in
theorem g_Se_54 : GoodIn z_Se (z_Ri) := goodIn_p _ [29, 3, 9] rfl (by decide +kernel)
set_option maxRecDepth 20000 in
theorem g_Se_65 : GoodIn z_Se (z_Ty) := goodIn_p _ [41, 3] rfl (by decide +kernel)
set_option maxRecDepth 20000 in
theorem g_Se_76 : GoodIn z_Se (z_Co) := goodIn_p _ [61, 3] rfl (by decide +kernel)
set_option maxRecDepth 20000 in
theorem g_Se_91 : GoodIn z_Se (z_Ma) := goodIn_p _ [76, 3, 84] rfl (by decide +kernel)
set_option maxHeartbeats 4000000 in
set_option maxRecDepth 100000 in
/-- Selfkindle() -/
theorem c_Se (l : Launch) (dC : Nat → ClassId) (dI : Nat → Nat → Nat) (tp te : Nat) (sz : Nat) (h0 : Nat)  : Met l yX7_init z_Se ({ frames := 3, cells := 77, slots := 77940, locals := 54 }) (va_Pc [.ref h0] (Pw dC dI [(h0, .inr (8, [.null, .int 0, .null, .null, .int 0, .null, .null, .null, .null, .null, .int 0]))] [] sz tp te)) (va_Qv (fun (_ : Unit) => True) (fun (_ : Unit) (t : State) => ∃ (q_1 : Nat), ∃ (q_20 : Nat), ∃ (q_32 : Nat), ∃ (q_45 : Nat), ∃ (q_50 : Nat), ∃ (q_55 : Nat), ∃ (q_60 : Nat), ∃ (q_5 : Nat), ∃ (q_6 : Nat), ∃ (q_7 : Nat), ∃ (q_8 : Nat), ∃ (q_9 : Nat), ∃ (q_10 : Nat), ∃ (q_11 : Nat), ∃ (cA_12 : ClassId), ∃ (cA_13 : ClassId), ∃ (cA_14 : ClassId), ∃ (cA_15 : ClassId), ∃ (cA_16 : ClassId), ∃ (cA_17 : ClassId), ∃ (cA_18 : ClassId), ∃ (q_24 : Nat), ∃ (q_25 : Nat), ∃ (q_26 : Nat), ∃ (q_27 : Nat), ∃ (q_28 : Nat), ∃ (q_29 : Nat), ∃ (q_30 : Nat), ∃ (q_36 : Nat), ∃ (q_37 : Nat), ∃ (q_38 : Nat), ∃ (q_39 : Nat), ∃ (q_40 : Nat), ∃ (q_41 : Nat), ∃ (q_42 : Nat), Bw dC dI [(h0, .inr (8, [.ref q_1, .int 0, .ref q_20, .ref q_32, .int ((-1)), .ref q_45, .ref q_50, .ref q_55, .ref q_60, .null, .int 0])), (q_1, .inr (6, [.ref q_5, .ref q_6, .ref q_7, .ref q_8, .ref q_9, .ref q_10, .ref q_11, .int 0])), (q_5, .inl (cA_12, 1200, .inl (fun _ => 0))), (q_6, .inl (cA_13, 1200, .inl (fun _ => 0))), (q_7, .inl (cA_14, 1200, .inl (fun _ => 0))), (q_8, .inl (cA_15, 1200, .inr (.inl (fun _ => 0)))), (q_9, .inl (cA_16, 1200, .inl (fun _ => 0))), (q_10, .inl (cA_17, 1200, .inl (fun _ => 0))), (q_11, .inl (cA_18, 1200, .inl (fun _ => 0))), (q_20, .inr (6, [.ref q_24, .ref q_25, .ref q_26, .ref q_27, .ref q_28, .ref q_29, .ref q_30, .int 0])), (q_32, .inr (6, [.ref q_36, .ref q_37, .ref q_38, .ref q_39, .ref q_40, .ref q_41, .ref q_42, .int 0]))] [(cA_12, .int), (cA_13, .int), (cA_14, .int), (cA_15, .long), (cA_16, .int), (cA_17, .int), (cA_18, .int)] (va_A [(h0, .inr (8, [.null, .int 0, .null, .null, .int 0, .null, .null, .null, .null, .null, .int 0]))] sz) t) (va_A [(h0, .inr (8, [.null, .int 0, .null, .null, .int 0, .null, .null, .null, .null, .null, .int 0]))] sz)) 77 77940 (va_A [(h0, .inr (8, [.null, .int 0, .null, .null, .int 0, .null, .null, .null, .null, .null, .int 0]))] sz) := by
  refine Met.ofW (cc := cX7_init) (maxL := 1) (ret := none) (by decide) rfl ?_
  intro p e s m args below meth c s₁ B hml hv
  obtain ⟨rfl, hsz, hP, hK, hD0, hG⟩ := hv
  have hx := B.exec
  have hb := B.bytes
  have hr := B.returns
  have hts := atoms_spec (ws := z_Se) B.pre
  have hown : s.vm.findClass RX7 = some m.cls := findClass_of_methodNamed B.named
  have hlocks := B.notSynchronized
  have hin : meth.name = "<init>" := (name_of_methodNamed B.named B.method).1
  subst hsz
  have hD := hD0.self (sz := s.heap.size)
  generalize hAe : va_A [(h0, .inr (8, [.null, .int 0, .null, .null, .int 0, .null, .null, .null, .null, .null, .int 0]))] s.heap.size = A at hD hG ⊢
  have hA : ∀ q : Nat, s.heap.size ≤ q → A q := fun q h => by rw [← hAe]; exact Or.inr h
  have hS : va_S A s.heap s.heap [] := va_S.rf
  have hl := lv_entry ([.ref h0]) (n := 1) (Nat.le_of_ble_eq_true rfl)
  rw [lg_entry_eq]
  generalize (lg_sl ([.ref h0]) ++ List.replicate (1 - (lg_sl ([.ref h0])).length) Slot.unset).toArray = ls at hl ⊢
  have hl : lv_has ls 1 [(0, .ref h0)] := hl
  refine lv_aload_n hx hb dX7_init_0 rfl (lv_at hl 0 rfl) ?_
  refine W.objInit hx hb hown (hts (.methodLink RX7 1 objectInit) (List.mem_of_getElem? (i := 1) rfl)) (hts (.instanceMethod objectInit) (List.mem_of_getElem? (i := 2) rfl)) (hts _ (List.mem_of_getElem? (i := 3) rfl)) rfl (by rw [hml]; exact hl.1) rfl dX7_init_1 (Nat.le_of_ble_eq_true rfl) (Nat.le_of_ble_eq_true rfl) ?_
  refine W.eq (g2 := F0 m 4 ls []) rfl ?_
  refine lv_aload_n hx hb dX7_init_4 rfl (lv_at hl 0 rfl) ?_
  refine va_new (D := (dC, dI)) (cl := vwCl) (ci := 6) (fs := [.null, .null, .null, .null, .null, .null, .null, .int 0]) (C := RX5) (T := TX5) (N := 8) hx hb hts in_z_Se_X5 tyX5 tyX5_ok hown (hts (.classLink RX7 7 RX5) (List.mem_of_getElem? (i := 4) rfl)) (hts (.instantiable RX5 8) (List.mem_of_getElem? (i := 5) rfl)) (hts (.initialized RX5) (List.mem_of_getElem? (i := 6) rfl)) hK hP hD hS hA rfl dflt_X5 (Nat.le_of_ble_eq_true rfl) (Nat.le_of_ble_eq_true rfl) dX7_init_5 (fun q_1 H_2 hP hD hS => ?_)
  have hP : va_P (dC, dI) vwCl [(h0, .inr (8, [.null, .int 0, .null, .null, .int 0, .null, .null, .null, .null, .null, .int 0])), (q_1, .inr (6, [.null, .null, .null, .null, .null, .null, .null, .int 0]))] H_2 := hP
  have hD : va_D A [(h0, .inr (8, [.null, .int 0, .null, .null, .int 0, .null, .null, .null, .null, .null, .int 0])), (q_1, .inr (6, [.null, .null, .null, .null, .null, .null, .null, .int 0]))] := hD
  have hK : va_K (dC, dI) vwCl [] s := hK
  refine W.widen (k := 1) (n := 8) (Nat.le_of_ble_eq_true rfl) (Nat.le_of_ble_eq_true rfl) ?_
  refine lv_dup hx hb dX7_init_8 rfl ?_
  refine lv_sipush (v := 1200) hx hb dX7_init_9 (by decide) ?_
  have hPc := hP.sub (ws' := [(q_1, .inr (6, [.null, .null, .null, .null, .null, .null, .null, .int 0]))]) [1] rfl
  have hDc := hD.sub (ws' := [(q_1, .inr (6, [.null, .null, .null, .null, .null, .null, .null, .int 0]))]) [1] (by decide) rfl
  have hKc := hK.sub (tys' := []) [] rfl
  have hFc := va_free (wc := [(q_1, .inr (6, [.null, .null, .null, .null, .null, .null, .null, .int 0]))]) hD hS hA [1] rfl
  refine va_callv (va_runI (As := [.int 1200]) (rest := [.ref q_1, .ref h0]) ⟨hx, hb, hml, hown, hts⟩ (c_Ti1200 l dC dI tp te H_2.size q_1) (cwI 1 hts g_Se_12 rfl rfl rfl (hts (.initialized RX5) (List.mem_of_getElem? (i := 6) rfl)) (hts (.methodLink RX7 11 yX5_init) (List.mem_of_getElem? (i := 7) rfl)) (hts (.instanceMethod yX5_init) (List.mem_of_getElem? (i := 8) rfl)) rfl (by decide +kernel) ⟨Nat.le_of_ble_eq_true rfl, Nat.le_of_ble_eq_true rfl⟩) ⟨Pw.blind, Pw.mk hPc hKc hDc hG hS hFc⟩ rfl rfl hl.1 rfl (lv_room (Nat.le_of_ble_eq_true rfl)) dX7_init_12 ⟨Nat.le_of_ble_eq_true rfl, Nat.le_of_ble_eq_true rfl⟩) hS (fun q _ h => hFc q h) hFc (fun u t9 H_3 locs ht hvm hw hB hz1 hk1 hS => ?_)
  obtain ⟨q_5, q_6, q_7, q_8, q_9, q_10, q_11, cA_12, cA_13, cA_14, cA_15, cA_16, cA_17, cA_18, hP1, hK1, hD1⟩ := hB
  rw [ht] at hP1
  have hK1 := va_K.moved hvm.symm hK1
  obtain ⟨hP, hD⟩ := va_join (wr := [(h0, .inr (8, [.null, .int 0, .null, .null, .int 0, .null, .null, .null, .null, .null, .int 0]))]) (w1 := [(q_1, .inr (6, [.ref q_5, .ref q_6, .ref q_7, .ref q_8, .ref q_9, .ref q_10, .ref q_11, .int 0])), (q_5, .inl (cA_12, 1200, .inl (fun _ => 0))), (q_6, .inl (cA_13, 1200, .inl (fun _ => 0))), (q_7, .inl (cA_14, 1200, .inl (fun _ => 0))), (q_8, .inl (cA_15, 1200, .inr (.inl (fun _ => 0)))), (q_9, .inl (cA_16, 1200, .inl (fun _ => 0))), (q_10, .inl (cA_17, 1200, .inl (fun _ => 0))), (q_11, .inl (cA_18, 1200, .inl (fun _ => 0)))]) hP hD [1] [0] rfl rfl (by decide) (by decide) hk1 hFc hP1 hD1
  have hK := (hK.sub (tys' := []) [] rfl).app hK1
  have hP : va_P (dC, dI) vwCl [(h0, .inr (8, [.null, .int 0, .null, .null, .int 0, .null, .null, .null, .null, .null, .int 0])), (q_1, .inr (6, [.ref q_5, .ref q_6, .ref q_7, .ref q_8, .ref q_9, .ref q_10, .ref q_11, .int 0])), (q_5, .inl (cA_12, 1200, .inl (fun _ => 0))), (q_6, .inl (cA_13, 1200, .inl (fun _ => 0))), (q_7, .inl (cA_14, 1200, .inl (fun _ => 0))), (q_8, .inl (cA_15, 1200, .inr (.inl (fun _ => 0)))), (q_9, .inl (cA_16, 1200, .inl (fun _ => 0))), (q_10, .inl (cA_17, 1200, .inl (fun _ => 0))), (q_11, .inl (cA_18, 1200, .inl (fun _ => 0)))] H_3 := hP
  have hD : va_D A [(h0, .inr (8, [.null, .int 0, .null, .null, .int 0, .null, .null, .null, .null, .null, .int 0])), (q_1, .inr (6, [.ref q_5, .ref q_6, .ref q_7, .ref q_8, .ref q_9, .ref q_10, .ref q_11, .int 0])), (q_5, .inl (cA_12, 1200, .inl (fun _ => 0))), (q_6, .inl (cA_13, 1200, .inl (fun _ => 0))), (q_7, .inl (cA_14, 1200, .inl (fun _ => 0))), (q_8, .inl (cA_15, 1200, .inr (.inl (fun _ => 0)))), (q_9, .inl (cA_16, 1200, .inl (fun _ => 0))), (q_10, .inl (cA_17, 1200, .inl (fun _ => 0))), (q_11, .inl (cA_18, 1200, .inl (fun _ => 0)))] := hD
  have hK : va_K (dC, dI) vwCl [(cA_12, .int), (cA_13, .int), (cA_14, .int), (cA_15, .long), (cA_16, .int), (cA_17, .int), (cA_18, .int)] s := hK
  refine W.widen (k := 8) (n := 8408) (Nat.le_of_ble_eq_true rfl) (Nat.le_of_ble_eq_true rfl) ?_
  refine va_putF (D := (dC, dI)) (ci := 8) (v := .ref q_1) (ty := .object "Selfkindle$Term") (C := RX7) (T := TX7) (N := 11) hx hb hts in_z_Se_X7 tyX7 tyX7_ok nmX7 hown hK hP hD hS 0 rfl rfl 0 (by decide) (hts (.fieldLink RX7 14 "Selfkindle" "pile" "LSelfkindle$Term;") (List.mem_of_getElem? (i := 20) rfl)) (fun _ h9 => h9) rfl hin rfl (by decide +kernel) rfl rfl (Nat.le_of_ble_eq_true rfl) dX7_init_15 (fun H_19 locs hP hD hS => ?_)
  have hP : va_P (dC, dI) vwCl [(h0, .inr (8, [.ref q_1, .int 0, .null, .null, .int 0, .null, .null, .null, .null, .null, .int 0])), (q_1, .inr (6, [.ref q_5, .ref q_6, .ref q_7, .ref q_8, .ref q_9, .ref q_10, .ref q_11, .int 0])), (q_5, .inl (cA_12, 1200, .inl (fun _ => 0))), (q_6, .inl (cA_13, 1200, .inl (fun _ => 0))), (q_7, .inl (cA_14, 1200, .inl (fun _ => 0))), (q_8, .inl (cA_15, 1200, .inr (.inl (fun _ => 0)))), (q_9, .inl (cA_16, 1200, .inl (fun _ => 0))), (q_10, .inl (cA_17, 1200, .inl (fun _ => 0))), (q_11, .inl (cA_18, 1200, .inl (fun _ => 0)))] H_19 := hP
  have hD : va_D A [(h0, .inr (8, [.ref q_1, .int 0, .null, .null, .int 0, .null, .null, .null, .null, .null, .int 0])), (q_1, .inr (6, [.ref q_5, .ref q_6, .ref q_7, .ref q_8, .ref q_9, .ref q_10, .ref q_11, .int 0])), (q_5, .inl (cA_12, 1200, .inl (fun _ => 0))), (q_6, .inl (cA_13, 1200, .inl (fun _ => 0))), (q_7, .inl (cA_14, 1200, .inl (fun _ => 0))), (q_8, .inl (cA_15, 1200, .inr (.inl (fun _ => 0)))), (q_9, .inl (cA_16, 1200, .inl (fun _ => 0))), (q_10, .inl (cA_17, 1200, .inl (fun _ => 0))), (q_11, .inl (cA_18, 1200, .inl (fun _ => 0)))] := hD
  have hK : va_K (dC, dI) vwCl [(cA_12, .int), (cA_13, .int), (cA_14, .int), (cA_15, .long), (cA_16, .int), (cA_17, .int), (cA_18, .int)] s := hK
  refine lv_aload_n hx hb dX7_init_18 rfl (lv_at hl 0 rfl) ?_
  refine va_new (D := (dC, dI)) (cl := vwCl) (ci := 6) (fs := [.null, .null, .null, .null, .null, .null, .null, .int 0]) (C := RX5) (T := TX5) (N := 8) hx hb hts in_z_Se_X5 tyX5 tyX5_ok hown (hts (.classLink RX7 7 RX5) (List.mem_of_getElem? (i := 4) rfl)) (hts (.instantiable RX5 8) (List.mem_of_getElem? (i := 5) rfl)) (hts (.initialized RX5) (List.mem_of_getElem? (i := 6) rfl)) hK hP hD hS hA rfl dflt_X5 (Nat.le_of_ble_eq_true rfl) (Nat.le_of_ble_eq_true rfl) dX7_init_19 (fun q_20 H_21 hP hD hS => ?_)
  have hP : va_P (dC, dI) vwCl [(h0, .inr (8, [.ref q_1, .int 0, .null, .null, .int 0, .null, .null, .null, .null, .null, .int 0])), (q_1, .inr (6, [.ref q_5, .ref q_6, .ref q_7, .ref q_8, .ref q_9, .ref q_10, .ref q_11, .int 0])), (q_5, .inl (cA_12, 1200, .inl (fun _ => 0))), (q_6, .inl (cA_13, 1200, .inl (fun _ => 0))), (q_7, .inl (cA_14, 1200, .inl (fun _ => 0))), (q_8, .inl (cA_15, 1200, .inr (.inl (fun _ => 0)))), (q_9, .inl (cA_16, 1200, .inl (fun _ => 0))), (q_10, .inl (cA_17, 1200, .inl (fun _ => 0))), (q_11, .inl (cA_18, 1200, .inl (fun _ => 0))), (q_20, .inr (6, [.null, .null, .null, .null, .null, .null, .null, .int 0]))] H_21 := hP
  have hD : va_D A [(h0, .inr (8, [.ref q_1, .int 0, .null, .null, .int 0, .null, .null, .null, .null, .null, .int 0])), (q_1, .inr (6, [.ref q_5, .ref q_6, .ref q_7, .ref q_8, .ref q_9, .ref q_10, .ref q_11, .int 0])), (q_5, .inl (cA_12, 1200, .inl (fun _ => 0))), (q_6, .inl (cA_13, 1200, .inl (fun _ => 0))), (q_7, .inl (cA_14, 1200, .inl (fun _ => 0))), (q_8, .inl (cA_15, 1200, .inr (.inl (fun _ => 0)))), (q_9, .inl (cA_16, 1200, .inl (fun _ => 0))), (q_10, .inl (cA_17, 1200, .inl (fun _ => 0))), (q_11, .inl (cA_18, 1200, .inl (fun _ => 0))), (q_20, .inr (6, [.null, .null, .null, .null, .null, .null, .null, .int 0]))] := hD
  have hK : va_K (dC, dI) vwCl [(cA_12, .int), (cA_13, .int), (cA_14, .int), (cA_15, .long), (cA_16, .int), (cA_17, .int), (cA_18, .int)] s := hK
  refine W.widen (k := 9) (n := 8416) (Nat.le_of_ble_eq_true rfl) (Nat.le_of_ble_eq_true rfl) ?_
  refine lv_dup hx hb dX7_init_22 rfl ?_
  refine lv_bipush (v := 60) hx hb dX7_init_23 (by decide) ?_
  have hPc := hP.sub (ws' := [(q_20, .inr (6, [.null, .null, .null, .null, .null, .null, .null, .int 0]))]) [9] rfl
  have hDc := hD.sub (ws' := [(q_20, .inr (6, [.null, .null, .null, .null, .null, .null, .null, .int 0]))]) [9] (by decide) rfl
  have hKc := hK.sub (tys' := []) [] rfl
  have hFc := va_free (wc := [(q_20, .inr (6, [.null, .null, .null, .null, .null, .null, .null, .int 0]))]) hD hS hA [9] rfl
  refine va_callv (va_runI (As := [.int 60]) (rest := [.ref q_20, .ref h0]) ⟨hx, hb, hml, hown, hts⟩ (c_Ti60 l dC dI tp te H_21.size q_20) (cwI 1 hts g_Se_25 rfl rfl rfl (hts (.initialized RX5) (List.mem_of_getElem? (i := 6) rfl)) (hts (.methodLink RX7 11 yX5_init) (List.mem_of_getElem? (i := 7) rfl)) (hts (.instanceMethod yX5_init) (List.mem_of_getElem? (i := 8) rfl)) rfl (by decide +kernel) ⟨Nat.le_of_ble_eq_true rfl, Nat.le_of_ble_eq_true rfl⟩) ⟨Pw.blind, Pw.mk hPc hKc hDc hG hS hFc⟩ rfl rfl hl.1 rfl (lv_room (Nat.le_of_ble_eq_true rfl)) dX7_init_25 ⟨Nat.le_of_ble_eq_true rfl, Nat.le_of_ble_eq_true rfl⟩) hS (fun q _ h => hFc q h) hFc (fun u t9 H_22 locs ht hvm hw hB hz1 hk1 hS => ?_)
  obtain ⟨q_24, q_25, q_26, q_27, q_28, q_29, q_30, hP1, hK1, hD1⟩ := hB
  rw [ht] at hP1
  have hK1 := va_K.moved hvm.symm hK1
  obtain ⟨hP, hD⟩ := va_join (wr := [(h0, .inr (8, [.ref q_1, .int 0, .null, .null, .int 0, .null, .null, .null, .null, .null, .int 0])), (q_1, .inr (6, [.ref q_5, .ref q_6, .ref q_7, .ref q_8, .ref q_9, .ref q_10, .ref q_11, .int 0])), (q_5, .inl (cA_12, 1200, .inl (fun _ => 0))), (q_6, .inl (cA_13, 1200, .inl (fun _ => 0))), (q_7, .inl (cA_14, 1200, .inl (fun _ => 0))), (q_8, .inl (cA_15, 1200, .inr (.inl (fun _ => 0)))), (q_9, .inl (cA_16, 1200, .inl (fun _ => 0))), (q_10, .inl (cA_17, 1200, .inl (fun _ => 0))), (q_11, .inl (cA_18, 1200, .inl (fun _ => 0)))]) (w1 := [(q_20, .inr (6, [.ref q_24, .ref q_25, .ref q_26, .ref q_27, .ref q_28, .ref q_29, .ref q_30, .int 0]))]) hP hD [9] [0, 1, 2, 3, 4, 5, 6, 7, 8] rfl rfl (by decide) (by decide) hk1 hFc hP1 hD1
  have hK := (hK.sub (tys' := [(cA_12, .int), (cA_13, .int), (cA_14, .int), (cA_15, .long), (cA_16, .int), (cA_17, .int), (cA_18, .int)]) [0, 1, 2, 3, 4, 5, 6] rfl).app hK1
  have hP : va_P (dC, dI) vwCl [(h0, .inr (8, [.ref q_1, .int 0, .null, .null, .int 0, .null, .null, .null, .null, .null, .int 0])), (q_1, .inr (6, [.ref q_5, .ref q_6, .ref q_7, .ref q_8, .ref q_9, .ref q_10, .ref q_11, .int 0])), (q_5, .inl (cA_12, 1200, .inl (fun _ => 0))), (q_6, .inl (cA_13, 1200, .inl (fun _ => 0))), (q_7, .inl (cA_14, 1200, .inl (fun _ => 0))), (q_8, .inl (cA_15, 1200, .inr (.inl (fun _ => 0)))), (q_9, .inl (cA_16, 1200, .inl (fun _ => 0))), (q_10, .inl (cA_17, 1200, .inl (fun _ => 0))), (q_11, .inl (cA_18, 1200, .inl (fun _ => 0))), (q_20, .inr (6, [.ref q_24, .ref q_25, .ref q_26, .ref q_27, .ref q_28, .ref q_29, .ref q_30, .int 0]))] H_22 := hP
  have hD : va_D A [(h0, .inr (8, [.ref q_1, .int 0, .null, .null, .int 0, .null, .null, .null, .null, .null, .int 0])), (q_1, .inr (6, [.ref q_5, .ref q_6, .ref q_7, .ref q_8, .ref q_9, .ref q_10, .ref q_11, .int 0])), (q_5, .inl (cA_12, 1200, .inl (fun _ => 0))), (q_6, .inl (cA_13, 1200, .inl (fun _ => 0))), (q_7, .inl (cA_14, 1200, .inl (fun _ => 0))), (q_8, .inl (cA_15, 1200, .inr (.inl (fun _ => 0)))), (q_9, .inl (cA_16, 1200, .inl (fun _ => 0))), (q_10, .inl (cA_17, 1200, .inl (fun _ => 0))), (q_11, .inl (cA_18, 1200, .inl (fun _ => 0))), (q_20, .inr (6, [.ref q_24, .ref q_25, .ref q_26, .ref q_27, .ref q_28, .ref q_29, .ref q_30, .int 0]))] := hD
  have hK : va_K (dC, dI) vwCl [(cA_12, .int), (cA_13, .int), (cA_14, .int), (cA_15, .long), (cA_16, .int), (cA_17, .int), (cA_18, .int)] s := hK
  refine W.widen (k := 16) (n := 8836) (Nat.le_of_ble_eq_true rfl) (Nat.le_of_ble_eq_true rfl) ?_
  refine va_putF (D := (dC, dI)) (ci := 8) (v := .ref q_20) (ty := .object "Selfkindle$Term") (C := RX7) (T := TX7) (N := 11) hx hb hts in_z_Se_X7 tyX7 tyX7_ok nmX7 hown hK hP hD hS 0 rfl rfl 2 (by decide) (hts (.fieldLink RX7 18 "Selfkindle" "told" "LSelfkindle$Term;") (List.mem_of_getElem? (i := 21) rfl)) (fun _ h9 => h9) rfl hin rfl (by decide +kernel) rfl rfl (Nat.le_of_ble_eq_true rfl) dX7_init_28 (fun H_31 locs hP hD hS => ?_)
  have hP : va_P (dC, dI) vwCl [(h0, .inr (8, [.ref q_1, .int 0, .ref q_20, .null, .int 0, .null, .null, .null, .null, .null, .int 0])), (q_1, .inr (6, [.ref q_5, .ref q_6, .ref q_7, .ref q_8, .ref q_9, .ref q_10, .ref q_11, .int 0])), (q_5, .inl (cA_12, 1200, .inl (fun _ => 0))), (q_6, .inl (cA_13, 1200, .inl (fun _ => 0))), (q_7, .inl (cA_14, 1200, .inl (fun _ => 0))), (q_8, .inl (cA_15, 1200, .inr (.inl (fun _ => 0)))), (q_9, .inl (cA_16, 1200, .inl (fun _ => 0))), (q_10, .inl (cA_17, 1200, .inl (fun _ => 0))), (q_11, .inl (cA_18, 1200, .inl (fun _ => 0))), (q_20, .inr (6, [.ref q_24, .ref q_25, .ref q_26, .ref q_27, .ref q_28, .ref q_29, .ref q_30, .int 0]))] H_31 := hP
  have hD : va_D A [(h0, .inr (8, [.ref q_1, .int 0, .ref q_20, .null, .int 0, .null, .null, .null, .null, .null, .int 0])), (q_1, .inr (6, [.ref q_5, .ref q_6, .ref q_7, .ref q_8, .ref q_9, .ref q_10, .ref q_11, .int 0])), (q_5, .inl (cA_12, 1200, .inl (fun _ => 0))), (q_6, .inl (cA_13, 1200, .inl (fun _ => 0))), (q_7, .inl (cA_14, 1200, .inl (fun _ => 0))), (q_8, .inl (cA_15, 1200, .inr (.inl (fun _ => 0)))), (q_9, .inl (cA_16, 1200, .inl (fun _ => 0))), (q_10, .inl (cA_17, 1200, .inl (fun _ => 0))), (q_11, .inl (cA_18, 1200, .inl (fun _ => 0))), (q_20, .inr (6, [.ref q_24, .ref q_25, .ref q_26, .ref q_27, .ref q_28, .ref q_29, .ref q_30, .int 0]))] := hD
  have hK : va_K (dC, dI) vwCl [(cA_12, .int), (cA_13, .int), (cA_14, .int), (cA_15, .long), (cA_16, .int), (cA_17, .int), (cA_18, .int)] s := hK
  refine lv_aload_n hx hb dX7_init_31 rfl (lv_at hl 0 rfl) ?_
  refine va_new (D := (dC, dI)) (cl := vwCl) (ci := 6) (fs := [.null, .null, .null, .null, .null, .null, .null, .int 0]) (C := RX5) (T := TX5) (N := 8) hx hb hts in_z_Se_X5 tyX5 tyX5_ok hown (hts (.classLink RX7 7 RX5) (List.mem_of_getElem? (i := 4) rfl)) (hts (.instantiable RX5 8) (List.mem_of_getElem? (i := 5) rfl)) (hts (.initialized RX5) (List.mem_of_getElem? (i := 6) rfl)) hK hP hD hS hA rfl dflt_X5 (Nat.le_of_ble_eq_true rfl) (Nat.le_of_ble_eq_true rfl) dX7_init_32 (fun q_32 H_33 hP hD hS => ?_)
  have hP : va_P (dC, dI) vwCl [(h0, .inr (8, [.ref q_1, .int 0, .ref q_20, .null, .int 0, .null, .null, .null, .null, .null, .int 0])), (q_1, .inr (6, [.ref q_5, .ref q_6, .ref q_7, .ref q_8, .ref q_9, .ref q_10, .ref q_11, .int 0])), (q_5, .inl (cA_12, 1200, .inl (fun _ => 0))), (q_6, .inl (cA_13, 1200, .inl (fun _ => 0))), (q_7, .inl (cA_14, 1200, .inl (fun _ => 0))), (q_8, .inl (cA_15, 1200, .inr (.inl (fun _ => 0)))), (q_9, .inl (cA_16, 1200, .inl (fun _ => 0))), (q_10, .inl (cA_17, 1200, .inl (fun _ => 0))), (q_11, .inl (cA_18, 1200, .inl (fun _ => 0))), (q_20, .inr (6, [.ref q_24, .ref q_25, .ref q_26, .ref q_27, .ref q_28, .ref q_29, .ref q_30, .int 0])), (q_32, .inr (6, [.null, .null, .null, .null, .null, .null, .null, .int 0]))] H_33 := hP
  have hD : va_D A [(h0, .inr (8, [.ref q_1, .int 0, .ref q_20, .null, .int 0, .null, .null, .null, .null, .null, .int 0])), (q_1, .inr (6, [.ref q_5, .ref q_6, .ref q_7, .ref q_8, .ref q_9, .ref q_10, .ref q_11, .int 0])), (q_5, .inl (cA_12, 1200, .inl (fun _ => 0))), (q_6, .inl (cA_13, 1200, .inl (fun _ => 0))), (q_7, .inl (cA_14, 1200, .inl (fun _ => 0))), (q_8, .inl (cA_15, 1200, .inr (.inl (fun _ => 0)))), (q_9, .inl (cA_16, 1200, .inl (fun _ => 0))), (q_10, .inl (cA_17, 1200, .inl (fun _ => 0))), (q_11, .inl (cA_18, 1200, .inl (fun _ => 0))), (q_20, .inr (6, [.ref q_24, .ref q_25, .ref q_26, .ref q_27, .ref q_28, .ref q_29, .ref q_30, .int 0])), (q_32, .inr (6, [.null, .null, .null, .null, .null, .null, .null, .int 0]))] := hD
  have hK : va_K (dC, dI) vwCl [(cA_12, .int), (cA_13, .int), (cA_14, .int), (cA_15, .long), (cA_16, .int), (cA_17, .int), (cA_18, .int)] s := hK
  refine W.widen (k := 17) (n := 8844) (Nat.le_of_ble_eq_true rfl) (Nat.le_of_ble_eq_true rfl) ?_
  refine lv_dup hx hb dX7_init_35 rfl ?_
  refine lv_bipush (v := 60) hx hb dX7_init_36 (by decide) ?_
  have hPc := hP.sub (ws' := [(q_32, .inr (6, [.null, .null, .null, .null, .null, .null, .null, .int 0]))]) [10] rfl
  have hDc := hD.sub (ws' := [(q_32, .inr (6, [.null, .null, .null, .null, .null, .null, .null, .int 0]))]) [10] (by decide) rfl
  have hKc := hK.sub (tys' := []) [] rfl
  have hFc := va_free (wc := [(q_32, .inr (6, [.null, .null, .null, .null, .null, .null, .null, .int 0]))]) hD hS hA [10] rfl
  refine va_callv (va_runI (As := [.int 60]) (rest := [.ref q_32, .ref h0]) ⟨hx, hb, hml, hown, hts⟩ (c_Ti60 l dC dI tp te H_33.size q_32) (cwI 1 hts g_Se_38 rfl rfl rfl (hts (.initialized RX5) (List.mem_of_getElem? (i := 6) rfl)) (hts (.methodLink RX7 11 yX5_init) (List.mem_of_getElem? (i := 7) rfl)) (hts (.instanceMethod yX5_init) (List.mem_of_getElem? (i := 8) rfl)) rfl (by decide +kernel) ⟨Nat.le_of_ble_eq_true rfl, Nat.le_of_ble_eq_true rfl⟩) ⟨Pw.blind, Pw.mk hPc hKc hDc hG hS hFc⟩ rfl rfl hl.1 rfl (lv_room (Nat.le_of_ble_eq_true rfl)) dX7_init_38 ⟨Nat.le_of_ble_eq_true rfl, Nat.le_of_ble_eq_true rfl⟩) hS (fun q _ h => hFc q h) hFc (fun u t9 H_34 locs ht hvm hw hB hz1 hk1 hS => ?_)
  obtain ⟨q_36, q_37, q_38, q_39, q_40, q_41, q_42, hP1, hK1, hD1⟩ := hB
  rw [ht] at hP1
  have hK1 := va_K.moved hvm.symm hK1
  obtain ⟨hP, hD⟩ := va_join (wr := [(h0, .inr (8, [.ref q_1, .int 0, .ref q_20, .null, .int 0, .null, .null, .null, .null, .null, .int 0])), (q_1, .inr (6, [.ref q_5, .ref q_6, .ref q_7, .ref q_8, .ref q_9, .ref q_10, .ref q_11, .int 0])), (q_5, .inl (cA_12, 1200, .inl (fun _ => 0))), (q_6, .inl (cA_13, 1200, .inl (fun _ => 0))), (q_7, .inl (cA_14, 1200, .inl (fun _ => 0))), (q_8, .inl (cA_15, 1200, .inr (.inl (fun _ => 0)))), (q_9, .inl (cA_16, 1200, .inl (fun _ => 0))), (q_10, .inl (cA_17, 1200, .inl (fun _ => 0))), (q_11, .inl (cA_18, 1200, .inl (fun _ => 0))), (q_20, .inr (6, [.ref q_24, .ref q_25, .ref q_26, .ref q_27, .ref q_28, .ref q_29, .ref q_30, .int 0]))]) (w1 := [(q_32, .inr (6, [.ref q_36, .ref q_37, .ref q_38, .ref q_39, .ref q_40, .ref q_41, .ref q_42, .int 0]))]) hP hD [10] [0, 1, 2, 3, 4, 5, 6, 7, 8, 9] rfl rfl (by decide) (by decide) hk1 hFc hP1 hD1
  have hK := (hK.sub (tys' := [(cA_12, .int), (cA_13, .int), (cA_14, .int), (cA_15, .long), (cA_16, .int), (cA_17, .int), (cA_18, .int)]) [0, 1, 2, 3, 4, 5, 6] rfl).app hK1
  have hP : va_P (dC, dI) vwCl [(h0, .inr (8, [.ref q_1, .int 0, .ref q_20, .null, .int 0, .null, .null, .null, .null, .null, .int 0])), (q_1, .inr (6, [.ref q_5, .ref q_6, .ref q_7, .ref q_8, .ref q_9, .ref q_10, .ref q_11, .int 0])), (q_5, .inl (cA_12, 1200, .inl (fun _ => 0))), (q_6, .inl (cA_13, 1200, .inl (fun _ => 0))), (q_7, .inl (cA_14, 1200, .inl (fun _ => 0))), (q_8, .inl (cA_15, 1200, .inr (.inl (fun _ => 0)))), (q_9, .inl (cA_16, 1200, .inl (fun _ => 0))), (q_10, .inl (cA_17, 1200, .inl (fun _ => 0))), (q_11, .inl (cA_18, 1200, .inl (fun _ => 0))), (q_20, .inr (6, [.ref q_24, .ref q_25, .ref q_26, .ref q_27, .ref q_28, .ref q_29, .ref q_30, .int 0])), (q_32, .inr (6, [.ref q_36, .ref q_37, .ref q_38, .ref q_39, .ref q_40, .ref q_41, .ref q_42, .int 0]))] H_34 := hP
  have hD : va_D A [(h0, .inr (8, [.ref q_1, .int 0, .ref q_20, .null, .int 0, .null, .null, .null, .null, .null, .int 0])), (q_1, .inr (6, [.ref q_5, .ref q_6, .ref q_7, .ref q_8, .ref q_9, .ref q_10, .ref q_11, .int 0])), (q_5, .inl (cA_12, 1200, .inl (fun _ => 0))), (q_6, .inl (cA_13, 1200, .inl (fun _ => 0))), (q_7, .inl (cA_14, 1200, .inl (fun _ => 0))), (q_8, .inl (cA_15, 1200, .inr (.inl (fun _ => 0)))), (q_9, .inl (cA_16, 1200, .inl (fun _ => 0))), (q_10, .inl (cA_17, 1200, .inl (fun _ => 0))), (q_11, .inl (cA_18, 1200, .inl (fun _ => 0))), (q_20, .inr (6, [.ref q_24, .ref q_25, .ref q_26, .ref q_27, .ref q_28, .ref q_29, .ref q_30, .int 0])), (q_32, .inr (6, [.ref q_36, .ref q_37, .ref q_38, .ref q_39, .ref q_40, .ref q_41, .ref q_42, .int 0]))] := hD
  have hK : va_K (dC, dI) vwCl [(cA_12, .int), (cA_13, .int), (cA_14, .int), (cA_15, .long), (cA_16, .int), (cA_17, .int), (cA_18, .int)] s := hK
  refine W.widen (k := 24) (n := 9264) (Nat.le_of_ble_eq_true rfl) (Nat.le_of_ble_eq_true rfl) ?_
  refine va_putF (D := (dC, dI)) (ci := 8) (v := .ref q_32) (ty := .object "Selfkindle$Term") (C := RX7) (T := TX7) (N := 11) hx hb hts in_z_Se_X7 tyX7 tyX7_ok nmX7 hown hK hP hD hS 0 rfl rfl 3 (by decide) (hts (.fieldLink RX7 21 "Selfkindle" "current" "LSelfkindle$Term;") (List.mem_of_getElem? (i := 22) rfl)) (fun _ h9 => h9) rfl hin rfl (by decide +kernel) rfl rfl (Nat.le_of_ble_eq_true rfl) dX7_init_41 (fun H_43 locs hP hD hS => ?_)
  have hP : va_P (dC, dI) vwCl [(h0, .inr (8, [.ref q_1, .int 0, .ref q_20, .ref q_32, .int 0, .null, .null, .null, .null, .null, .int 0])), (q_1, .inr (6, [.ref q_5, .ref q_6, .ref q_7, .ref q_8, .ref q_9, .ref q_10, .ref q_11, .int 0])), (q_5, .inl (cA_12, 1200, .inl (fun _ => 0))), (q_6, .inl (cA_13, 1200, .inl (fun _ => 0))), (q_7, .inl (cA_14, 1200, .inl (fun _ => 0))), (q_8, .inl (cA_15, 1200, .inr (.inl (fun _ => 0)))), (q_9, .inl (cA_16, 1200, .inl (fun _ => 0))), (q_10, .inl (cA_17, 1200, .inl (fun _ => 0))), (q_11, .inl (cA_18, 1200, .inl (fun _ => 0))), (q_20, .inr (6, [.ref q_24, .ref q_25, .ref q_26, .ref q_27, .ref q_28, .ref q_29, .ref q_30, .int 0])), (q_32, .inr (6, [.ref q_36, .ref q_37, .ref q_38, .ref q_39, .ref q_40, .ref q_41, .ref q_42, .int 0]))] H_43 := hP
  have hD : va_D A [(h0, .inr (8, [.ref q_1, .int 0, .ref q_20, .ref q_32, .int 0, .null, .null, .null, .null, .null, .int 0])), (q_1, .inr (6, [.ref q_5, .ref q_6, .ref q_7, .ref q_8, .ref q_9, .ref q_10, .ref q_11, .int 0])), (q_5, .inl (cA_12, 1200, .inl (fun _ => 0))), (q_6, .inl (cA_13, 1200, .inl (fun _ => 0))), (q_7, .inl (cA_14, 1200, .inl (fun _ => 0))), (q_8, .inl (cA_15, 1200, .inr (.inl (fun _ => 0)))), (q_9, .inl (cA_16, 1200, .inl (fun _ => 0))), (q_10, .inl (cA_17, 1200, .inl (fun _ => 0))), (q_11, .inl (cA_18, 1200, .inl (fun _ => 0))), (q_20, .inr (6, [.ref q_24, .ref q_25, .ref q_26, .ref q_27, .ref q_28, .ref q_29, .ref q_30, .int 0])), (q_32, .inr (6, [.ref q_36, .ref q_37, .ref q_38, .ref q_39, .ref q_40, .ref q_41, .ref q_42, .int 0]))] := hD
  have hK : va_K (dC, dI) vwCl [(cA_12, .int), (cA_13, .int), (cA_14, .int), (cA_15, .long), (cA_16, .int), (cA_17, .int), (cA_18, .int)] s := hK
  refine lv_aload_n hx hb dX7_init_44 rfl (lv_at hl 0 rfl) ?_
  refine lv_iconst (v := (-1)) hx hb dX7_init_45 (by decide) ?_
  refine va_put (D := (dC, dI)) (ci := 8) (v := .int ((-1))) (ty := .int) (C := RX7) (T := TX7) (N := 11) hx hb hts in_z_Se_X7 tyX7 tyX7_ok nmX7 hown hK hP hD hS 0 rfl rfl 4 (by decide) (hts (.fieldLink RX7 24 "Selfkindle" "wrong" "I") (List.mem_of_getElem? (i := 23) rfl)) (fun _ h9 => h9) rfl (by decide +kernel) rfl rfl (Nat.le_of_ble_eq_true rfl) dX7_init_46 (fun H_44 locs hP hD hS => ?_)
  have hP : va_P (dC, dI) vwCl [(h0, .inr (8, [.ref q_1, .int 0, .ref q_20, .ref q_32, .int ((-1)), .null, .null, .null, .null, .null, .int 0])), (q_1, .inr (6, [.ref q_5, .ref q_6, .ref q_7, .ref q_8, .ref q_9, .ref q_10, .ref q_11, .int 0])), (q_5, .inl (cA_12, 1200, .inl (fun _ => 0))), (q_6, .inl (cA_13, 1200, .inl (fun _ => 0))), (q_7, .inl (cA_14, 1200, .inl (fun _ => 0))), (q_8, .inl (cA_15, 1200, .inr (.inl (fun _ => 0)))), (q_9, .inl (cA_16, 1200, .inl (fun _ => 0))), (q_10, .inl (cA_17, 1200, .inl (fun _ => 0))), (q_11, .inl (cA_18, 1200, .inl (fun _ => 0))), (q_20, .inr (6, [.ref q_24, .ref q_25, .ref q_26, .ref q_27, .ref q_28, .ref q_29, .ref q_30, .int 0])), (q_32, .inr (6, [.ref q_36, .ref q_37, .ref q_38, .ref q_39, .ref q_40, .ref q_41, .ref q_42, .int 0]))] H_44 := hP
  have hD : va_D A [(h0, .inr (8, [.ref q_1, .int 0, .ref q_20, .ref q_32, .int ((-1)), .null, .null, .null, .null, .null, .int 0])), (q_1, .inr (6, [.ref q_5, .ref q_6, .ref q_7, .ref q_8, .ref q_9, .ref q_10, .ref q_11, .int 0])), (q_5, .inl (cA_12, 1200, .inl (fun _ => 0))), (q_6, .inl (cA_13, 1200, .inl (fun _ => 0))), (q_7, .inl (cA_14, 1200, .inl (fun _ => 0))), (q_8, .inl (cA_15, 1200, .inr (.inl (fun _ => 0)))), (q_9, .inl (cA_16, 1200, .inl (fun _ => 0))), (q_10, .inl (cA_17, 1200, .inl (fun _ => 0))), (q_11, .inl (cA_18, 1200, .inl (fun _ => 0))), (q_20, .inr (6, [.ref q_24, .ref q_25, .ref q_26, .ref q_27, .ref q_28, .ref q_29, .ref q_30, .int 0])), (q_32, .inr (6, [.ref q_36, .ref q_37, .ref q_38, .ref q_39, .ref q_40, .ref q_41, .ref q_42, .int 0]))] := hD
  have hK : va_K (dC, dI) vwCl [(cA_12, .int), (cA_13, .int), (cA_14, .int), (cA_15, .long), (cA_16, .int), (cA_17, .int), (cA_18, .int)] s := hK
  refine lv_aload_n hx hb dX7_init_49 rfl (lv_at hl 0 rfl) ?_
  refine va_new (D := (dC, dI)) (cl := vwCl) (ci := 5) (fs := [.null, .null]) (C := RX4) (T := TX4) (N := 2) hx hb hts in_z_Se_X4 tyX4 tyX4_ok hown (hts (.classLink RX7 28 RX4) (List.mem_of_getElem? (i := 24) rfl)) (hts (.instantiable RX4 2) (List.mem_of_getElem? (i := 25) rfl)) (hts (.initialized RX4) (List.mem_of_getElem? (i := 26) rfl)) hK hP hD hS hA rfl dflt_X4 (Nat.le_of_ble_eq_true rfl) (Nat.le_of_ble_eq_true rfl) dX7_init_50 (fun q_45 H_46 hP hD hS => ?_)
  have hP : va_P (dC, dI) vwCl [(h0, .inr (8, [.ref q_1, .int 0, .ref q_20, .ref q_32, .int ((-1)), .null, .null, .null, .null, .null, .int 0])), (q_1, .inr (6, [.ref q_5, .ref q_6, .ref q_7, .ref q_8, .ref q_9, .ref q_10, .ref q_11, .int 0])), (q_5, .inl (cA_12, 1200, .inl (fun _ => 0))), (q_6, .inl (cA_13, 1200, .inl (fun _ => 0))), (q_7, .inl (cA_14, 1200, .inl (fun _ => 0))), (q_8, .inl (cA_15, 1200, .inr (.inl (fun _ => 0)))), (q_9, .inl (cA_16, 1200, .inl (fun _ => 0))), (q_10, .inl (cA_17, 1200, .inl (fun _ => 0))), (q_11, .inl (cA_18, 1200, .inl (fun _ => 0))), (q_20, .inr (6, [.ref q_24, .ref q_25, .ref q_26, .ref q_27, .ref q_28, .ref q_29, .ref q_30, .int 0])), (q_32, .inr (6, [.ref q_36, .ref q_37, .ref q_38, .ref q_39, .ref q_40, .ref q_41, .ref q_42, .int 0])), (q_45, .inr (5, [.null, .null]))] H_46 := hP
  have hD : va_D A [(h0, .inr (8, [.ref q_1, .int 0, .ref q_20, .ref q_32, .int ((-1)), .null, .null, .null, .null, .null, .int 0])), (q_1, .inr (6, [.ref q_5, .ref q_6, .ref q_7, .ref q_8, .ref q_9, .ref q_10, .ref q_11, .int 0])), (q_5, .inl (cA_12, 1200, .inl (fun _ => 0))), (q_6, .inl (cA_13, 1200, .inl (fun _ => 0))), (q_7, .inl (cA_14, 1200, .inl (fun _ => 0))), (q_8, .inl (cA_15, 1200, .inr (.inl (fun _ => 0)))), (q_9, .inl (cA_16, 1200, .inl (fun _ => 0))), (q_10, .inl (cA_17, 1200, .inl (fun _ => 0))), (q_11, .inl (cA_18, 1200, .inl (fun _ => 0))), (q_20, .inr (6, [.ref q_24, .ref q_25, .ref q_26, .ref q_27, .ref q_28, .ref q_29, .ref q_30, .int 0])), (q_32, .inr (6, [.ref q_36, .ref q_37, .ref q_38, .ref q_39, .ref q_40, .ref q_41, .ref q_42, .int 0])), (q_45, .inr (5, [.null, .null]))] := hD
  have hK : va_K (dC, dI) vwCl [(cA_12, .int), (cA_13, .int), (cA_14, .int), (cA_15, .long), (cA_16, .int), (cA_17, .int), (cA_18, .int)] s := hK
  refine W.widen (k := 25) (n := 9266) (Nat.le_of_ble_eq_true rfl) (Nat.le_of_ble_eq_true rfl) ?_
  refine lv_dup hx hb dX7_init_53 rfl ?_
  have hPc := hP.sub (ws' := [(q_45, .inr (5, [.null, .null]))]) [11] rfl
  have hDc := hD.sub (ws' := [(q_45, .inr (5, [.null, .null]))]) [11] (by decide) rfl
  have hKc := hK.sub (tys' := []) [] rfl
  have hFc := va_free (wc := [(q_45, .inr (5, [.null, .null]))]) hD hS hA [11] rfl
  refine va_callv (va_runI (As := []) (rest := [.ref q_45, .ref h0]) ⟨hx, hb, hml, hown, hts⟩ (c_Ri l dC dI tp te H_46.size q_45) (cwI 0 hts g_Se_54 rfl rfl rfl (hts (.initialized RX4) (List.mem_of_getElem? (i := 26) rfl)) (hts (.methodLink RX7 30 yX4_init) (List.mem_of_getElem? (i := 27) rfl)) (hts (.instanceMethod yX4_init) (List.mem_of_getElem? (i := 28) rfl)) rfl (by decide +kernel) ⟨Nat.le_of_ble_eq_true rfl, Nat.le_of_ble_eq_true rfl⟩) ⟨Pw.blind, Pw.mk hPc hKc hDc hG hS hFc⟩ rfl rfl hl.1 rfl (lv_room (Nat.le_of_ble_eq_true rfl)) dX7_init_54 ⟨Nat.le_of_ble_eq_true rfl, Nat.le_of_ble_eq_true rfl⟩) hS (fun q _ h => hFc q h) hFc (fun u t9 H_47 locs ht hvm hw hB hz1 hk1 hS => ?_)
  obtain ⟨hP, hD⟩ := va_join (wr := [(h0, .inr (8, [.ref q_1, .int 0, .ref q_20, .ref q_32, .int ((-1)), .null, .null, .null, .null, .null, .int 0])), (q_1, .inr (6, [.ref q_5, .ref q_6, .ref q_7, .ref q_8, .ref q_9, .ref q_10, .ref q_11, .int 0])), (q_5, .inl (cA_12, 1200, .inl (fun _ => 0))), (q_6, .inl (cA_13, 1200, .inl (fun _ => 0))), (q_7, .inl (cA_14, 1200, .inl (fun _ => 0))), (q_8, .inl (cA_15, 1200, .inr (.inl (fun _ => 0)))), (q_9, .inl (cA_16, 1200, .inl (fun _ => 0))), (q_10, .inl (cA_17, 1200, .inl (fun _ => 0))), (q_11, .inl (cA_18, 1200, .inl (fun _ => 0))), (q_20, .inr (6, [.ref q_24, .ref q_25, .ref q_26, .ref q_27, .ref q_28, .ref q_29, .ref q_30, .int 0])), (q_32, .inr (6, [.ref q_36, .ref q_37, .ref q_38, .ref q_39, .ref q_40, .ref q_41, .ref q_42, .int 0]))]) (w1 := []) hP hD [11] [0, 1, 2, 3, 4, 5, 6, 7, 8, 9, 10] rfl rfl (by decide) (by decide) hk1 hFc va_P.nil va_D.nil
  have hK := hK.sub (tys' := [(cA_12, .int), (cA_13, .int), (cA_14, .int), (cA_15, .long), (cA_16, .int), (cA_17, .int), (cA_18, .int)]) [0, 1, 2, 3, 4, 5, 6] rfl
  have hP : va_P (dC, dI) vwCl [(h0, .inr (8, [.ref q_1, .int 0, .ref q_20, .ref q_32, .int ((-1)), .null, .null, .null, .null, .null, .int 0])), (q_1, .inr (6, [.ref q_5, .ref q_6, .ref q_7, .ref q_8, .ref q_9, .ref q_10, .ref q_11, .int 0])), (q_5, .inl (cA_12, 1200, .inl (fun _ => 0))), (q_6, .inl (cA_13, 1200, .inl (fun _ => 0))), (q_7, .inl (cA_14, 1200, .inl (fun _ => 0))), (q_8, .inl (cA_15, 1200, .inr (.inl (fun _ => 0)))), (q_9, .inl (cA_16, 1200, .inl (fun _ => 0))), (q_10, .inl (cA_17, 1200, .inl (fun _ => 0))), (q_11, .inl (cA_18, 1200, .inl (fun _ => 0))), (q_20, .inr (6, [.ref q_24, .ref q_25, .ref q_26, .ref q_27, .ref q_28, .ref q_29, .ref q_30, .int 0])), (q_32, .inr (6, [.ref q_36, .ref q_37, .ref q_38, .ref q_39, .ref q_40, .ref q_41, .ref q_42, .int 0]))] H_47 := hP
  have hD : va_D A [(h0, .inr (8, [.ref q_1, .int 0, .ref q_20, .ref q_32, .int ((-1)), .null, .null, .null, .null, .null, .int 0])), (q_1, .inr (6, [.ref q_5, .ref q_6, .ref q_7, .ref q_8, .ref q_9, .ref q_10, .ref q_11, .int 0])), (q_5, .inl (cA_12, 1200, .inl (fun _ => 0))), (q_6, .inl (cA_13, 1200, .inl (fun _ => 0))), (q_7, .inl (cA_14, 1200, .inl (fun _ => 0))), (q_8, .inl (cA_15, 1200, .inr (.inl (fun _ => 0)))), (q_9, .inl (cA_16, 1200, .inl (fun _ => 0))), (q_10, .inl (cA_17, 1200, .inl (fun _ => 0))), (q_11, .inl (cA_18, 1200, .inl (fun _ => 0))), (q_20, .inr (6, [.ref q_24, .ref q_25, .ref q_26, .ref q_27, .ref q_28, .ref q_29, .ref q_30, .int 0])), (q_32, .inr (6, [.ref q_36, .ref q_37, .ref q_38, .ref q_39, .ref q_40, .ref q_41, .ref q_42, .int 0]))] := hD
  have hK : va_K (dC, dI) vwCl [(cA_12, .int), (cA_13, .int), (cA_14, .int), (cA_15, .long), (cA_16, .int), (cA_17, .int), (cA_18, .int)] s := hK
  refine W.widen (k := 41) (n := 10122) (Nat.le_of_ble_eq_true rfl) (Nat.le_of_ble_eq_true rfl) ?_
  refine va_putF (D := (dC, dI)) (ci := 8) (v := .ref q_45) (ty := .object "Selfkindle$Rewriter") (C := RX7) (T := TX7) (N := 11) hx hb hts in_z_Se_X7 tyX7 tyX7_ok nmX7 hown hK hP hD hS 0 rfl rfl 5 (by decide) (hts (.fieldLink RX7 31 "Selfkindle" "rewriter" "LSelfkindle$Rewriter;") (List.mem_of_getElem? (i := 35) rfl)) (fun _ h9 => h9) rfl hin rfl (by decide +kernel) rfl rfl (Nat.le_of_ble_eq_true rfl) dX7_init_57 (fun H_49 locs hP hD hS => ?_)
  have hP : va_P (dC, dI) vwCl [(h0, .inr (8, [.ref q_1, .int 0, .ref q_20, .ref q_32, .int ((-1)), .ref q_45, .null, .null, .null, .null, .int 0])), (q_1, .inr (6, [.ref q_5, .ref q_6, .ref q_7, .ref q_8, .ref q_9, .ref q_10, .ref q_11, .int 0])), (q_5, .inl (cA_12, 1200, .inl (fun _ => 0))), (q_6, .inl (cA_13, 1200, .inl (fun _ => 0))), (q_7, .inl (cA_14, 1200, .inl (fun _ => 0))), (q_8, .inl (cA_15, 1200, .inr (.inl (fun _ => 0)))), (q_9, .inl (cA_16, 1200, .inl (fun _ => 0))), (q_10, .inl (cA_17, 1200, .inl (fun _ => 0))), (q_11, .inl (cA_18, 1200, .inl (fun _ => 0))), (q_20, .inr (6, [.ref q_24, .ref q_25, .ref q_26, .ref q_27, .ref q_28, .ref q_29, .ref q_30, .int 0])), (q_32, .inr (6, [.ref q_36, .ref q_37, .ref q_38, .ref q_39, .ref q_40, .ref q_41, .ref q_42, .int 0]))] H_49 := hP
  have hD : va_D A [(h0, .inr (8, [.ref q_1, .int 0, .ref q_20, .ref q_32, .int ((-1)), .ref q_45, .null, .null, .null, .null, .int 0])), (q_1, .inr (6, [.ref q_5, .ref q_6, .ref q_7, .ref q_8, .ref q_9, .ref q_10, .ref q_11, .int 0])), (q_5, .inl (cA_12, 1200, .inl (fun _ => 0))), (q_6, .inl (cA_13, 1200, .inl (fun _ => 0))), (q_7, .inl (cA_14, 1200, .inl (fun _ => 0))), (q_8, .inl (cA_15, 1200, .inr (.inl (fun _ => 0)))), (q_9, .inl (cA_16, 1200, .inl (fun _ => 0))), (q_10, .inl (cA_17, 1200, .inl (fun _ => 0))), (q_11, .inl (cA_18, 1200, .inl (fun _ => 0))), (q_20, .inr (6, [.ref q_24, .ref q_25, .ref q_26, .ref q_27, .ref q_28, .ref q_29, .ref q_30, .int 0])), (q_32, .inr (6, [.ref q_36, .ref q_37, .ref q_38, .ref q_39, .ref q_40, .ref q_41, .ref q_42, .int 0]))] := hD
  have hK : va_K (dC, dI) vwCl [(cA_12, .int), (cA_13, .int), (cA_14, .int), (cA_15, .long), (cA_16, .int), (cA_17, .int), (cA_18, .int)] s := hK
  refine lv_aload_n hx hb dX7_init_60 rfl (lv_at hl 0 rfl) ?_
  refine va_new (D := (dC, dI)) (cl := vwCl) (ci := 7) (fs := [.null, .null, .null, .null, .int 0, .null, .null, .null, .null, .null, .null, .null, .null, .int 0, .int 0]) (C := RX6) (T := TX6) (N := 15) hx hb hts in_z_Se_X6 tyX6 tyX6_ok hown (hts (.classLink RX7 35 RX6) (List.mem_of_getElem? (i := 36) rfl)) (hts (.instantiable RX6 15) (List.mem_of_getElem? (i := 37) rfl)) (hts (.initialized RX6) (List.mem_of_getElem? (i := 38) rfl)) hK hP hD hS hA rfl dflt_X6 (Nat.le_of_ble_eq_true rfl) (Nat.le_of_ble_eq_true rfl) dX7_init_61 (fun q_50 H_51 hP hD hS => ?_)
  have hP : va_P (dC, dI) vwCl [(h0, .inr (8, [.ref q_1, .int 0, .ref q_20, .ref q_32, .int ((-1)), .ref q_45, .null, .null, .null, .null, .int 0])), (q_1, .inr (6, [.ref q_5, .ref q_6, .ref q_7, .ref q_8, .ref q_9, .ref q_10, .ref q_11, .int 0])), (q_5, .inl (cA_12, 1200, .inl (fun _ => 0))), (q_6, .inl (cA_13, 1200, .inl (fun _ => 0))), (q_7, .inl (cA_14, 1200, .inl (fun _ => 0))), (q_8, .inl (cA_15, 1200, .inr (.inl (fun _ => 0)))), (q_9, .inl (cA_16, 1200, .inl (fun _ => 0))), (q_10, .inl (cA_17, 1200, .inl (fun _ => 0))), (q_11, .inl (cA_18, 1200, .inl (fun _ => 0))), (q_20, .inr (6, [.ref q_24, .ref q_25, .ref q_26, .ref q_27, .ref q_28, .ref q_29, .ref q_30, .int 0])), (q_32, .inr (6, [.ref q_36, .ref q_37, .ref q_38, .ref q_39, .ref q_40, .ref q_41, .ref q_42, .int 0])), (q_50, .inr (7, [.null, .null, .null, .null, .int 0, .null, .null, .null, .null, .null, .null, .null, .null, .int 0, .int 0]))] H_51 := hP
  have hD : va_D A [(h0, .inr (8, [.ref q_1, .int 0, .ref q_20, .ref q_32, .int ((-1)), .ref q_45, .null, .null, .null, .null, .int 0])), (q_1, .inr (6, [.ref q_5, .ref q_6, .ref q_7, .ref q_8, .ref q_9, .ref q_10, .ref q_11, .int 0])), (q_5, .inl (cA_12, 1200, .inl (fun _ => 0))), (q_6, .inl (cA_13, 1200, .inl (fun _ => 0))), (q_7, .inl (cA_14, 1200, .inl (fun _ => 0))), (q_8, .inl (cA_15, 1200, .inr (.inl (fun _ => 0)))), (q_9, .inl (cA_16, 1200, .inl (fun _ => 0))), (q_10, .inl (cA_17, 1200, .inl (fun _ => 0))), (q_11, .inl (cA_18, 1200, .inl (fun _ => 0))), (q_20, .inr (6, [.ref q_24, .ref q_25, .ref q_26, .ref q_27, .ref q_28, .ref q_29, .ref q_30, .int 0])), (q_32, .inr (6, [.ref q_36, .ref q_37, .ref q_38, .ref q_39, .ref q_40, .ref q_41, .ref q_42, .int 0])), (q_50, .inr (7, [.null, .null, .null, .null, .int 0, .null, .null, .null, .null, .null, .null, .null, .null, .int 0, .int 0]))] := hD
  have hK : va_K (dC, dI) vwCl [(cA_12, .int), (cA_13, .int), (cA_14, .int), (cA_15, .long), (cA_16, .int), (cA_17, .int), (cA_18, .int)] s := hK
  refine W.widen (k := 42) (n := 10137) (Nat.le_of_ble_eq_true rfl) (Nat.le_of_ble_eq_true rfl) ?_
  refine lv_dup hx hb dX7_init_64 rfl ?_
  have hPc := hP.sub (ws' := [(q_50, .inr (7, [.null, .null, .null, .null, .int 0, .null, .null, .null, .null, .null, .null, .null, .null, .int 0, .int 0]))]) [11] rfl
  have hDc := hD.sub (ws' := [(q_50, .inr (7, [.null, .null, .null, .null, .int 0, .null, .null, .null, .null, .null, .null, .null, .null, .int 0, .int 0]))]) [11] (by decide) rfl
  have hKc := hK.sub (tys' := []) [] rfl
  have hFc := va_free (wc := [(q_50, .inr (7, [.null, .null, .null, .null, .int 0, .null, .null, .null, .null, .null, .null, .null, .null, .int 0, .int 0]))]) hD hS hA [11] rfl
  refine va_callv (va_runI (As := []) (rest := [.ref q_50, .ref h0]) ⟨hx, hb, hml, hown, hts⟩ (c_Ty l dC dI tp te H_51.size q_50) (cwI 0 hts g_Se_65 rfl rfl rfl (hts (.initialized RX6) (List.mem_of_getElem? (i := 38) rfl)) (hts (.methodLink RX7 37 yX6_init) (List.mem_of_getElem? (i := 39) rfl)) (hts (.instanceMethod yX6_init) (List.mem_of_getElem? (i := 40) rfl)) rfl (by decide +kernel) ⟨Nat.le_of_ble_eq_true rfl, Nat.le_of_ble_eq_true rfl⟩) ⟨Pw.blind, Pw.mk hPc hKc hDc hG hS hFc⟩ rfl rfl hl.1 rfl (lv_room (Nat.le_of_ble_eq_true rfl)) dX7_init_65 ⟨Nat.le_of_ble_eq_true rfl, Nat.le_of_ble_eq_true rfl⟩) hS (fun q _ h => hFc q h) hFc (fun u t9 H_52 locs ht hvm hw hB hz1 hk1 hS => ?_)
  obtain ⟨hP, hD⟩ := va_join (wr := [(h0, .inr (8, [.ref q_1, .int 0, .ref q_20, .ref q_32, .int ((-1)), .ref q_45, .null, .null, .null, .null, .int 0])), (q_1, .inr (6, [.ref q_5, .ref q_6, .ref q_7, .ref q_8, .ref q_9, .ref q_10, .ref q_11, .int 0])), (q_5, .inl (cA_12, 1200, .inl (fun _ => 0))), (q_6, .inl (cA_13, 1200, .inl (fun _ => 0))), (q_7, .inl (cA_14, 1200, .inl (fun _ => 0))), (q_8, .inl (cA_15, 1200, .inr (.inl (fun _ => 0)))), (q_9, .inl (cA_16, 1200, .inl (fun _ => 0))), (q_10, .inl (cA_17, 1200, .inl (fun _ => 0))), (q_11, .inl (cA_18, 1200, .inl (fun _ => 0))), (q_20, .inr (6, [.ref q_24, .ref q_25, .ref q_26, .ref q_27, .ref q_28, .ref q_29, .ref q_30, .int 0])), (q_32, .inr (6, [.ref q_36, .ref q_37, .ref q_38, .ref q_39, .ref q_40, .ref q_41, .ref q_42, .int 0]))]) (w1 := []) hP hD [11] [0, 1, 2, 3, 4, 5, 6, 7, 8, 9, 10] rfl rfl (by decide) (by decide) hk1 hFc va_P.nil va_D.nil
  have hK := hK.sub (tys' := [(cA_12, .int), (cA_13, .int), (cA_14, .int), (cA_15, .long), (cA_16, .int), (cA_17, .int), (cA_18, .int)]) [0, 1, 2, 3, 4, 5, 6] rfl
  have hP : va_P (dC, dI) vwCl [(h0, .inr (8, [.ref q_1, .int 0, .ref q_20, .ref q_32, .int ((-1)), .ref q_45, .null, .null, .null, .null, .int 0])), (q_1, .inr (6, [.ref q_5, .ref q_6, .ref q_7, .ref q_8, .ref q_9, .ref q_10, .ref q_11, .int 0])), (q_5, .inl (cA_12, 1200, .inl (fun _ => 0))), (q_6, .inl (cA_13, 1200, .inl (fun _ => 0))), (q_7, .inl (cA_14, 1200, .inl (fun _ => 0))), (q_8, .inl (cA_15, 1200, .inr (.inl (fun _ => 0)))), (q_9, .inl (cA_16, 1200, .inl (fun _ => 0))), (q_10, .inl (cA_17, 1200, .inl (fun _ => 0))), (q_11, .inl (cA_18, 1200, .inl (fun _ => 0))), (q_20, .inr (6, [.ref q_24, .ref q_25, .ref q_26, .ref q_27, .ref q_28, .ref q_29, .ref q_30, .int 0])), (q_32, .inr (6, [.ref q_36, .ref q_37, .ref q_38, .ref q_39, .ref q_40, .ref q_41, .ref q_42, .int 0]))] H_52 := hP
  have hD : va_D A [(h0, .inr (8, [.ref q_1, .int 0, .ref q_20, .ref q_32, .int ((-1)), .ref q_45, .null, .null, .null, .null, .int 0])), (q_1, .inr (6, [.ref q_5, .ref q_6, .ref q_7, .ref q_8, .ref q_9, .ref q_10, .ref q_11, .int 0])), (q_5, .inl (cA_12, 1200, .inl (fun _ => 0))), (q_6, .inl (cA_13, 1200, .inl (fun _ => 0))), (q_7, .inl (cA_14, 1200, .inl (fun _ => 0))), (q_8, .inl (cA_15, 1200, .inr (.inl (fun _ => 0)))), (q_9, .inl (cA_16, 1200, .inl (fun _ => 0))), (q_10, .inl (cA_17, 1200, .inl (fun _ => 0))), (q_11, .inl (cA_18, 1200, .inl (fun _ => 0))), (q_20, .inr (6, [.ref q_24, .ref q_25, .ref q_26, .ref q_27, .ref q_28, .ref q_29, .ref q_30, .int 0])), (q_32, .inr (6, [.ref q_36, .ref q_37, .ref q_38, .ref q_39, .ref q_40, .ref q_41, .ref q_42, .int 0]))] := hD
  have hK : va_K (dC, dI) vwCl [(cA_12, .int), (cA_13, .int), (cA_14, .int), (cA_15, .long), (cA_16, .int), (cA_17, .int), (cA_18, .int)] s := hK
  refine W.widen (k := 54) (n := 59627) (Nat.le_of_ble_eq_true rfl) (Nat.le_of_ble_eq_true rfl) ?_
  refine va_putF (D := (dC, dI)) (ci := 8) (v := .ref q_50) (ty := .object "Selfkindle$Types") (C := RX7) (T := TX7) (N := 11) hx hb hts in_z_Se_X7 tyX7 tyX7_ok nmX7 hown hK hP hD hS 0 rfl rfl 6 (by decide) (hts (.fieldLink RX7 38 "Selfkindle" "types" "LSelfkindle$Types;") (List.mem_of_getElem? (i := 55) rfl)) (fun _ h9 => h9) rfl hin rfl (by decide +kernel) rfl rfl (Nat.le_of_ble_eq_true rfl) dX7_init_68 (fun H_54 locs hP hD hS => ?_)
  have hP : va_P (dC, dI) vwCl [(h0, .inr (8, [.ref q_1, .int 0, .ref q_20, .ref q_32, .int ((-1)), .ref q_45, .ref q_50, .null, .null, .null, .int 0])), (q_1, .inr (6, [.ref q_5, .ref q_6, .ref q_7, .ref q_8, .ref q_9, .ref q_10, .ref q_11, .int 0])), (q_5, .inl (cA_12, 1200, .inl (fun _ => 0))), (q_6, .inl (cA_13, 1200, .inl (fun _ => 0))), (q_7, .inl (cA_14, 1200, .inl (fun _ => 0))), (q_8, .inl (cA_15, 1200, .inr (.inl (fun _ => 0)))), (q_9, .inl (cA_16, 1200, .inl (fun _ => 0))), (q_10, .inl (cA_17, 1200, .inl (fun _ => 0))), (q_11, .inl (cA_18, 1200, .inl (fun _ => 0))), (q_20, .inr (6, [.ref q_24, .ref q_25, .ref q_26, .ref q_27, .ref q_28, .ref q_29, .ref q_30, .int 0])), (q_32, .inr (6, [.ref q_36, .ref q_37, .ref q_38, .ref q_39, .ref q_40, .ref q_41, .ref q_42, .int 0]))] H_54 := hP
  have hD : va_D A [(h0, .inr (8, [.ref q_1, .int 0, .ref q_20, .ref q_32, .int ((-1)), .ref q_45, .ref q_50, .null, .null, .null, .int 0])), (q_1, .inr (6, [.ref q_5, .ref q_6, .ref q_7, .ref q_8, .ref q_9, .ref q_10, .ref q_11, .int 0])), (q_5, .inl (cA_12, 1200, .inl (fun _ => 0))), (q_6, .inl (cA_13, 1200, .inl (fun _ => 0))), (q_7, .inl (cA_14, 1200, .inl (fun _ => 0))), (q_8, .inl (cA_15, 1200, .inr (.inl (fun _ => 0)))), (q_9, .inl (cA_16, 1200, .inl (fun _ => 0))), (q_10, .inl (cA_17, 1200, .inl (fun _ => 0))), (q_11, .inl (cA_18, 1200, .inl (fun _ => 0))), (q_20, .inr (6, [.ref q_24, .ref q_25, .ref q_26, .ref q_27, .ref q_28, .ref q_29, .ref q_30, .int 0])), (q_32, .inr (6, [.ref q_36, .ref q_37, .ref q_38, .ref q_39, .ref q_40, .ref q_41, .ref q_42, .int 0]))] := hD
  have hK : va_K (dC, dI) vwCl [(cA_12, .int), (cA_13, .int), (cA_14, .int), (cA_15, .long), (cA_16, .int), (cA_17, .int), (cA_18, .int)] s := hK
  refine lv_aload_n hx hb dX7_init_71 rfl (lv_at hl 0 rfl) ?_
  refine va_new (D := (dC, dI)) (cl := vwCl) (ci := 1) (fs := [.null, .null, .null, .null, .null, .null, .int 0]) (C := RX0) (T := TX0) (N := 7) hx hb hts in_z_Se_X0 tyX0 tyX0_ok hown (hts (.classLink RX7 42 RX0) (List.mem_of_getElem? (i := 56) rfl)) (hts (.instantiable RX0 7) (List.mem_of_getElem? (i := 57) rfl)) (hts (.initialized RX0) (List.mem_of_getElem? (i := 58) rfl)) hK hP hD hS hA rfl dflt_X0 (Nat.le_of_ble_eq_true rfl) (Nat.le_of_ble_eq_true rfl) dX7_init_72 (fun q_55 H_56 hP hD hS => ?_)
  have hP : va_P (dC, dI) vwCl [(h0, .inr (8, [.ref q_1, .int 0, .ref q_20, .ref q_32, .int ((-1)), .ref q_45, .ref q_50, .null, .null, .null, .int 0])), (q_1, .inr (6, [.ref q_5, .ref q_6, .ref q_7, .ref q_8, .ref q_9, .ref q_10, .ref q_11, .int 0])), (q_5, .inl (cA_12, 1200, .inl (fun _ => 0))), (q_6, .inl (cA_13, 1200, .inl (fun _ => 0))), (q_7, .inl (cA_14, 1200, .inl (fun _ => 0))), (q_8, .inl (cA_15, 1200, .inr (.inl (fun _ => 0)))), (q_9, .inl (cA_16, 1200, .inl (fun _ => 0))), (q_10, .inl (cA_17, 1200, .inl (fun _ => 0))), (q_11, .inl (cA_18, 1200, .inl (fun _ => 0))), (q_20, .inr (6, [.ref q_24, .ref q_25, .ref q_26, .ref q_27, .ref q_28, .ref q_29, .ref q_30, .int 0])), (q_32, .inr (6, [.ref q_36, .ref q_37, .ref q_38, .ref q_39, .ref q_40, .ref q_41, .ref q_42, .int 0])), (q_55, .inr (1, [.null, .null, .null, .null, .null, .null, .int 0]))] H_56 := hP
  have hD : va_D A [(h0, .inr (8, [.ref q_1, .int 0, .ref q_20, .ref q_32, .int ((-1)), .ref q_45, .ref q_50, .null, .null, .null, .int 0])), (q_1, .inr (6, [.ref q_5, .ref q_6, .ref q_7, .ref q_8, .ref q_9, .ref q_10, .ref q_11, .int 0])), (q_5, .inl (cA_12, 1200, .inl (fun _ => 0))), (q_6, .inl (cA_13, 1200, .inl (fun _ => 0))), (q_7, .inl (cA_14, 1200, .inl (fun _ => 0))), (q_8, .inl (cA_15, 1200, .inr (.inl (fun _ => 0)))), (q_9, .inl (cA_16, 1200, .inl (fun _ => 0))), (q_10, .inl (cA_17, 1200, .inl (fun _ => 0))), (q_11, .inl (cA_18, 1200, .inl (fun _ => 0))), (q_20, .inr (6, [.ref q_24, .ref q_25, .ref q_26, .ref q_27, .ref q_28, .ref q_29, .ref q_30, .int 0])), (q_32, .inr (6, [.ref q_36, .ref q_37, .ref q_38, .ref q_39, .ref q_40, .ref q_41, .ref q_42, .int 0])), (q_55, .inr (1, [.null, .null, .null, .null, .null, .null, .int 0]))] := hD
  have hK : va_K (dC, dI) vwCl [(cA_12, .int), (cA_13, .int), (cA_14, .int), (cA_15, .long), (cA_16, .int), (cA_17, .int), (cA_18, .int)] s := hK
  refine W.widen (k := 55) (n := 59634) (Nat.le_of_ble_eq_true rfl) (Nat.le_of_ble_eq_true rfl) ?_
  refine lv_dup hx hb dX7_init_75 rfl ?_
  have hPc := hP.sub (ws' := [(q_55, .inr (1, [.null, .null, .null, .null, .null, .null, .int 0]))]) [11] rfl
  have hDc := hD.sub (ws' := [(q_55, .inr (1, [.null, .null, .null, .null, .null, .null, .int 0]))]) [11] (by decide) rfl
  have hKc := hK.sub (tys' := []) [] rfl
  have hFc := va_free (wc := [(q_55, .inr (1, [.null, .null, .null, .null, .null, .null, .int 0]))]) hD hS hA [11] rfl
  refine va_callv (va_runI (As := []) (rest := [.ref q_55, .ref h0]) ⟨hx, hb, hml, hown, hts⟩ (c_Co l dC dI tp te H_56.size q_55) (cwI 0 hts g_Se_76 rfl rfl rfl (hts (.initialized RX0) (List.mem_of_getElem? (i := 58) rfl)) (hts (.methodLink RX7 44 yX0_init) (List.mem_of_getElem? (i := 59) rfl)) (hts (.instanceMethod yX0_init) (List.mem_of_getElem? (i := 60) rfl)) rfl (by decide +kernel) ⟨Nat.le_of_ble_eq_true rfl, Nat.le_of_ble_eq_true rfl⟩) ⟨Pw.blind, Pw.mk hPc hKc hDc hG hS hFc⟩ rfl rfl hl.1 rfl (lv_room (Nat.le_of_ble_eq_true rfl)) dX7_init_76 ⟨Nat.le_of_ble_eq_true rfl, Nat.le_of_ble_eq_true rfl⟩) hS (fun q _ h => hFc q h) hFc (fun u t9 H_57 locs ht hvm hw hB hz1 hk1 hS => ?_)
  obtain ⟨hP, hD⟩ := va_join (wr := [(h0, .inr (8, [.ref q_1, .int 0, .ref q_20, .ref q_32, .int ((-1)), .ref q_45, .ref q_50, .null, .null, .null, .int 0])), (q_1, .inr (6, [.ref q_5, .ref q_6, .ref q_7, .ref q_8, .ref q_9, .ref q_10, .ref q_11, .int 0])), (q_5, .inl (cA_12, 1200, .inl (fun _ => 0))), (q_6, .inl (cA_13, 1200, .inl (fun _ => 0))), (q_7, .inl (cA_14, 1200, .inl (fun _ => 0))), (q_8, .inl (cA_15, 1200, .inr (.inl (fun _ => 0)))), (q_9, .inl (cA_16, 1200, .inl (fun _ => 0))), (q_10, .inl (cA_17, 1200, .inl (fun _ => 0))), (q_11, .inl (cA_18, 1200, .inl (fun _ => 0))), (q_20, .inr (6, [.ref q_24, .ref q_25, .ref q_26, .ref q_27, .ref q_28, .ref q_29, .ref q_30, .int 0])), (q_32, .inr (6, [.ref q_36, .ref q_37, .ref q_38, .ref q_39, .ref q_40, .ref q_41, .ref q_42, .int 0]))]) (w1 := []) hP hD [11] [0, 1, 2, 3, 4, 5, 6, 7, 8, 9, 10] rfl rfl (by decide) (by decide) hk1 hFc va_P.nil va_D.nil
  have hK := hK.sub (tys' := [(cA_12, .int), (cA_13, .int), (cA_14, .int), (cA_15, .long), (cA_16, .int), (cA_17, .int), (cA_18, .int)]) [0, 1, 2, 3, 4, 5, 6] rfl
  have hP : va_P (dC, dI) vwCl [(h0, .inr (8, [.ref q_1, .int 0, .ref q_20, .ref q_32, .int ((-1)), .ref q_45, .ref q_50, .null, .null, .null, .int 0])), (q_1, .inr (6, [.ref q_5, .ref q_6, .ref q_7, .ref q_8, .ref q_9, .ref q_10, .ref q_11, .int 0])), (q_5, .inl (cA_12, 1200, .inl (fun _ => 0))), (q_6, .inl (cA_13, 1200, .inl (fun _ => 0))), (q_7, .inl (cA_14, 1200, .inl (fun _ => 0))), (q_8, .inl (cA_15, 1200, .inr (.inl (fun _ => 0)))), (q_9, .inl (cA_16, 1200, .inl (fun _ => 0))), (q_10, .inl (cA_17, 1200, .inl (fun _ => 0))), (q_11, .inl (cA_18, 1200, .inl (fun _ => 0))), (q_20, .inr (6, [.ref q_24, .ref q_25, .ref q_26, .ref q_27, .ref q_28, .ref q_29, .ref q_30, .int 0])), (q_32, .inr (6, [.ref q_36, .ref q_37, .ref q_38, .ref q_39, .ref q_40, .ref q_41, .ref q_42, .int 0]))] H_57 := hP
  have hD : va_D A [(h0, .inr (8, [.ref q_1, .int 0, .ref q_20, .ref q_32, .int ((-1)), .ref q_45, .ref q_50, .null, .null, .null, .int 0])), (q_1, .inr (6, [.ref q_5, .ref q_6, .ref q_7, .ref q_8, .ref q_9, .ref q_10, .ref q_11, .int 0])), (q_5, .inl (cA_12, 1200, .inl (fun _ => 0))), (q_6, .inl (cA_13, 1200, .inl (fun _ => 0))), (q_7, .inl (cA_14, 1200, .inl (fun _ => 0))), (q_8, .inl (cA_15, 1200, .inr (.inl (fun _ => 0)))), (q_9, .inl (cA_16, 1200, .inl (fun _ => 0))), (q_10, .inl (cA_17, 1200, .inl (fun _ => 0))), (q_11, .inl (cA_18, 1200, .inl (fun _ => 0))), (q_20, .inr (6, [.ref q_24, .ref q_25, .ref q_26, .ref q_27, .ref q_28, .ref q_29, .ref q_30, .int 0])), (q_32, .inr (6, [.ref q_36, .ref q_37, .ref q_38, .ref q_39, .ref q_40, .ref q_41, .ref q_42, .int 0]))] := hD
  have hK : va_K (dC, dI) vwCl [(cA_12, .int), (cA_13, .int), (cA_14, .int), (cA_15, .long), (cA_16, .int), (cA_17, .int), (cA_18, .int)] s := hK
  refine W.widen (k := 61) (n := 60714) (Nat.le_of_ble_eq_true rfl) (Nat.le_of_ble_eq_true rfl) ?_
  refine va_putF (D := (dC, dI)) (ci := 8) (v := .ref q_55) (ty := .object "Selfkindle$Code") (C := RX7) (T := TX7) (N := 11) hx hb hts in_z_Se_X7 tyX7 tyX7_ok nmX7 hown hK hP hD hS 0 rfl rfl 7 (by decide) (hts (.fieldLink RX7 45 "Selfkindle" "code" "LSelfkindle$Code;") (List.mem_of_getElem? (i := 70) rfl)) (fun _ h9 => h9) rfl hin rfl (by decide +kernel) rfl rfl (Nat.le_of_ble_eq_true rfl) dX7_init_79 (fun H_59 locs hP hD hS => ?_)
  have hP : va_P (dC, dI) vwCl [(h0, .inr (8, [.ref q_1, .int 0, .ref q_20, .ref q_32, .int ((-1)), .ref q_45, .ref q_50, .ref q_55, .null, .null, .int 0])), (q_1, .inr (6, [.ref q_5, .ref q_6, .ref q_7, .ref q_8, .ref q_9, .ref q_10, .ref q_11, .int 0])), (q_5, .inl (cA_12, 1200, .inl (fun _ => 0))), (q_6, .inl (cA_13, 1200, .inl (fun _ => 0))), (q_7, .inl (cA_14, 1200, .inl (fun _ => 0))), (q_8, .inl (cA_15, 1200, .inr (.inl (fun _ => 0)))), (q_9, .inl (cA_16, 1200, .inl (fun _ => 0))), (q_10, .inl (cA_17, 1200, .inl (fun _ => 0))), (q_11, .inl (cA_18, 1200, .inl (fun _ => 0))), (q_20, .inr (6, [.ref q_24, .ref q_25, .ref q_26, .ref q_27, .ref q_28, .ref q_29, .ref q_30, .int 0])), (q_32, .inr (6, [.ref q_36, .ref q_37, .ref q_38, .ref q_39, .ref q_40, .ref q_41, .ref q_42, .int 0]))] H_59 := hP
  have hD : va_D A [(h0, .inr (8, [.ref q_1, .int 0, .ref q_20, .ref q_32, .int ((-1)), .ref q_45, .ref q_50, .ref q_55, .null, .null, .int 0])), (q_1, .inr (6, [.ref q_5, .ref q_6, .ref q_7, .ref q_8, .ref q_9, .ref q_10, .ref q_11, .int 0])), (q_5, .inl (cA_12, 1200, .inl (fun _ => 0))), (q_6, .inl (cA_13, 1200, .inl (fun _ => 0))), (q_7, .inl (cA_14, 1200, .inl (fun _ => 0))), (q_8, .inl (cA_15, 1200, .inr (.inl (fun _ => 0)))), (q_9, .inl (cA_16, 1200, .inl (fun _ => 0))), (q_10, .inl (cA_17, 1200, .inl (fun _ => 0))), (q_11, .inl (cA_18, 1200, .inl (fun _ => 0))), (q_20, .inr (6, [.ref q_24, .ref q_25, .ref q_26, .ref q_27, .ref q_28, .ref q_29, .ref q_30, .int 0])), (q_32, .inr (6, [.ref q_36, .ref q_37, .ref q_38, .ref q_39, .ref q_40, .ref q_41, .ref q_42, .int 0]))] := hD
  have hK : va_K (dC, dI) vwCl [(cA_12, .int), (cA_13, .int), (cA_14, .int), (cA_15, .long), (cA_16, .int), (cA_17, .int), (cA_18, .int)] s := hK
  refine lv_aload_n hx hb dX7_init_82 rfl (lv_at hl 0 rfl) ?_
  refine va_new (D := (dC, dI)) (cl := vwCl) (ci := 4) (fs := [.null, .null, .null, .null, .null, .null, .null, .null, .null, .int 0, .int 0, .int 0, .int 0, .int 0, .int 0, .int 0]) (C := RX3) (T := TX3) (N := 16) hx hb hts in_z_Se_X3 tyX3 tyX3_ok hown (hts (.classLink RX7 49 RX3) (List.mem_of_getElem? (i := 71) rfl)) (hts (.instantiable RX3 16) (List.mem_of_getElem? (i := 72) rfl)) (hts (.initialized RX3) (List.mem_of_getElem? (i := 73) rfl)) hK hP hD hS hA rfl dflt_X3 (Nat.le_of_ble_eq_true rfl) (Nat.le_of_ble_eq_true rfl) dX7_init_83 (fun q_60 H_61 hP hD hS => ?_)
  have hP : va_P (dC, dI) vwCl [(h0, .inr (8, [.ref q_1, .int 0, .ref q_20, .ref q_32, .int ((-1)), .ref q_45, .ref q_50, .ref q_55, .null, .null, .int 0])), (q_1, .inr (6, [.ref q_5, .ref q_6, .ref q_7, .ref q_8, .ref q_9, .ref q_10, .ref q_11, .int 0])), (q_5, .inl (cA_12, 1200, .inl (fun _ => 0))), (q_6, .inl (cA_13, 1200, .inl (fun _ => 0))), (q_7, .inl (cA_14, 1200, .inl (fun _ => 0))), (q_8, .inl (cA_15, 1200, .inr (.inl (fun _ => 0)))), (q_9, .inl (cA_16, 1200, .inl (fun _ => 0))), (q_10, .inl (cA_17, 1200, .inl (fun _ => 0))), (q_11, .inl (cA_18, 1200, .inl (fun _ => 0))), (q_20, .inr (6, [.ref q_24, .ref q_25, .ref q_26, .ref q_27, .ref q_28, .ref q_29, .ref q_30, .int 0])), (q_32, .inr (6, [.ref q_36, .ref q_37, .ref q_38, .ref q_39, .ref q_40, .ref q_41, .ref q_42, .int 0])), (q_60, .inr (4, [.null, .null, .null, .null, .null, .null, .null, .null, .null, .int 0, .int 0, .int 0, .int 0, .int 0, .int 0, .int 0]))] H_61 := hP
  have hD : va_D A [(h0, .inr (8, [.ref q_1, .int 0, .ref q_20, .ref q_32, .int ((-1)), .ref q_45, .ref q_50, .ref q_55, .null, .null, .int 0])), (q_1, .inr (6, [.ref q_5, .ref q_6, .ref q_7, .ref q_8, .ref q_9, .ref q_10, .ref q_11, .int 0])), (q_5, .inl (cA_12, 1200, .inl (fun _ => 0))), (q_6, .inl (cA_13, 1200, .inl (fun _ => 0))), (q_7, .inl (cA_14, 1200, .inl (fun _ => 0))), (q_8, .inl (cA_15, 1200, .inr (.inl (fun _ => 0)))), (q_9, .inl (cA_16, 1200, .inl (fun _ => 0))), (q_10, .inl (cA_17, 1200, .inl (fun _ => 0))), (q_11, .inl (cA_18, 1200, .inl (fun _ => 0))), (q_20, .inr (6, [.ref q_24, .ref q_25, .ref q_26, .ref q_27, .ref q_28, .ref q_29, .ref q_30, .int 0])), (q_32, .inr (6, [.ref q_36, .ref q_37, .ref q_38, .ref q_39, .ref q_40, .ref q_41, .ref q_42, .int 0])), (q_60, .inr (4, [.null, .null, .null, .null, .null, .null, .null, .null, .null, .int 0, .int 0, .int 0, .int 0, .int 0, .int 0, .int 0]))] := hD
  have hK : va_K (dC, dI) vwCl [(cA_12, .int), (cA_13, .int), (cA_14, .int), (cA_15, .long), (cA_16, .int), (cA_17, .int), (cA_18, .int)] s := hK
  refine W.widen (k := 62) (n := 60730) (Nat.le_of_ble_eq_true rfl) (Nat.le_of_ble_eq_true rfl) ?_
  refine lv_dup hx hb dX7_init_86 rfl ?_
  refine lv_aload_n hx hb dX7_init_87 rfl (lv_at hl 0 rfl) ?_
  refine va_get (D := (dC, dI)) (ci := 8) (v := .ref q_55) (C := RX7) (T := TX7) (N := 11) hx hb hts in_z_Se_X7 hown hK hP 0 rfl rfl 7 (by decide) (hts (.fieldLink RX7 45 "Selfkindle" "code" "LSelfkindle$Code;") (List.mem_of_getElem? (i := 70) rfl)) (fun _ h9 => h9) rfl dX7_init_88 ?_
  have hPc := hP.sub (ws' := [(q_60, .inr (4, [.null, .null, .null, .null, .null, .null, .null, .null, .null, .int 0, .int 0, .int 0, .int 0, .int 0, .int 0, .int 0]))]) [11] rfl
  have hDc := hD.sub (ws' := [(q_60, .inr (4, [.null, .null, .null, .null, .null, .null, .null, .null, .null, .int 0, .int 0, .int 0, .int 0, .int 0, .int 0, .int 0]))]) [11] (by decide) rfl
  have hKc := hK.sub (tys' := []) [] rfl
  have hFc := va_free (wc := [(q_60, .inr (4, [.null, .null, .null, .null, .null, .null, .null, .null, .null, .int 0, .int 0, .int 0, .int 0, .int 0, .int 0, .int 0]))]) hD hS hA [11] rfl
  refine va_callv (va_runI (As := [.ref q_55]) (rest := [.ref q_60, .ref h0]) ⟨hx, hb, hml, hown, hts⟩ (c_Ma l dC dI tp te H_61.size q_60 q_55) (cwI 1 hts g_Se_91 rfl rfl rfl (hts (.initialized RX3) (List.mem_of_getElem? (i := 73) rfl)) (hts (.methodLink RX7 51 yX3_init) (List.mem_of_getElem? (i := 74) rfl)) (hts (.instanceMethod yX3_init) (List.mem_of_getElem? (i := 75) rfl)) rfl (by decide +kernel) ⟨Nat.le_of_ble_eq_true rfl, Nat.le_of_ble_eq_true rfl⟩) ⟨Pw.blind, Pw.mk hPc hKc hDc hG hS hFc⟩ rfl rfl hl.1 rfl (lv_room (Nat.le_of_ble_eq_true rfl)) dX7_init_91 ⟨Nat.le_of_ble_eq_true rfl, Nat.le_of_ble_eq_true rfl⟩) hS (fun q _ h => hFc q h) hFc (fun u t9 H_62 locs ht hvm hw hB hz1 hk1 hS => ?_)
  obtain ⟨hP, hD⟩ := va_join (wr := [(h0, .inr (8, [.ref q_1, .int 0, .ref q_20, .ref q_32, .int ((-1)), .ref q_45, .ref q_50, .ref q_55, .null, .null, .int 0])), (q_1, .inr (6, [.ref q_5, .ref q_6, .ref q_7, .ref q_8, .ref q_9, .ref q_10, .ref q_11, .int 0])), (q_5, .inl (cA_12, 1200, .inl (fun _ => 0))), (q_6, .inl (cA_13, 1200, .inl (fun _ => 0))), (q_7, .inl (cA_14, 1200, .inl (fun _ => 0))), (q_8, .inl (cA_15, 1200, .inr (.inl (fun _ => 0)))), (q_9, .inl (cA_16, 1200, .inl (fun _ => 0))), (q_10, .inl (cA_17, 1200, .inl (fun _ => 0))), (q_11, .inl (cA_18, 1200, .inl (fun _ => 0))), (q_20, .inr (6, [.ref q_24, .ref q_25, .ref q_26, .ref q_27, .ref q_28, .ref q_29, .ref q_30, .int 0])), (q_32, .inr (6, [.ref q_36, .ref q_37, .ref q_38, .ref q_39, .ref q_40, .ref q_41, .ref q_42, .int 0]))]) (w1 := []) hP hD [11] [0, 1, 2, 3, 4, 5, 6, 7, 8, 9, 10] rfl rfl (by decide) (by decide) hk1 hFc va_P.nil va_D.nil
  have hK := hK.sub (tys' := [(cA_12, .int), (cA_13, .int), (cA_14, .int), (cA_15, .long), (cA_16, .int), (cA_17, .int), (cA_18, .int)]) [0, 1, 2, 3, 4, 5, 6] rfl
  have hP : va_P (dC, dI) vwCl [(h0, .inr (8, [.ref q_1, .int 0, .ref q_20, .ref q_32, .int ((-1)), .ref q_45, .ref q_50, .ref q_55, .null, .null, .int 0])), (q_1, .inr (6, [.ref q_5, .ref q_6, .ref q_7, .ref q_8, .ref q_9, .ref q_10, .ref q_11, .int 0])), (q_5, .inl (cA_12, 1200, .inl (fun _ => 0))), (q_6, .inl (cA_13, 1200, .inl (fun _ => 0))), (q_7, .inl (cA_14, 1200, .inl (fun _ => 0))), (q_8, .inl (cA_15, 1200, .inr (.inl (fun _ => 0)))), (q_9, .inl (cA_16, 1200, .inl (fun _ => 0))), (q_10, .inl (cA_17, 1200, .inl (fun _ => 0))), (q_11, .inl (cA_18, 1200, .inl (fun _ => 0))), (q_20, .inr (6, [.ref q_24, .ref q_25, .ref q_26, .ref q_27, .ref q_28, .ref q_29, .ref q_30, .int 0])), (q_32, .inr (6, [.ref q_36, .ref q_37, .ref q_38, .ref q_39, .ref q_40, .ref q_41, .ref q_42, .int 0]))] H_62 := hP
  have hD : va_D A [(h0, .inr (8, [.ref q_1, .int 0, .ref q_20, .ref q_32, .int ((-1)), .ref q_45, .ref q_50, .ref q_55, .null, .null, .int 0])), (q_1, .inr (6, [.ref q_5, .ref q_6, .ref q_7, .ref q_8, .ref q_9, .ref q_10, .ref q_11, .int 0])), (q_5, .inl (cA_12, 1200, .inl (fun _ => 0))), (q_6, .inl (cA_13, 1200, .inl (fun _ => 0))), (q_7, .inl (cA_14, 1200, .inl (fun _ => 0))), (q_8, .inl (cA_15, 1200, .inr (.inl (fun _ => 0)))), (q_9, .inl (cA_16, 1200, .inl (fun _ => 0))), (q_10, .inl (cA_17, 1200, .inl (fun _ => 0))), (q_11, .inl (cA_18, 1200, .inl (fun _ => 0))), (q_20, .inr (6, [.ref q_24, .ref q_25, .ref q_26, .ref q_27, .ref q_28, .ref q_29, .ref q_30, .int 0])), (q_32, .inr (6, [.ref q_36, .ref q_37, .ref q_38, .ref q_39, .ref q_40, .ref q_41, .ref q_42, .int 0]))] := hD
  have hK : va_K (dC, dI) vwCl [(cA_12, .int), (cA_13, .int), (cA_14, .int), (cA_15, .long), (cA_16, .int), (cA_17, .int), (cA_18, .int)] s := hK
  refine W.widen (k := 77) (n := 77940) (Nat.le_of_ble_eq_true rfl) (Nat.le_of_ble_eq_true rfl) ?_
  refine va_putF (D := (dC, dI)) (ci := 8) (v := .ref q_60) (ty := .object "Selfkindle$Machine") (C := RX7) (T := TX7) (N := 11) hx hb hts in_z_Se_X7 tyX7 tyX7_ok nmX7 hown hK hP hD hS 0 rfl rfl 8 (by decide) (hts (.fieldLink RX7 54 "Selfkindle" "runner" "LSelfkindle$Machine;") (List.mem_of_getElem? (i := 103) rfl)) (fun _ h9 => h9) rfl hin rfl (by decide +kernel) rfl rfl (Nat.le_of_ble_eq_true rfl) dX7_init_94 (fun H_64 locs hP hD hS => ?_)
  have hP : va_P (dC, dI) vwCl [(h0, .inr (8, [.ref q_1, .int 0, .ref q_20, .ref q_32, .int ((-1)), .ref q_45, .ref q_50, .ref q_55, .ref q_60, .null, .int 0])), (q_1, .inr (6, [.ref q_5, .ref q_6, .ref q_7, .ref q_8, .ref q_9, .ref q_10, .ref q_11, .int 0])), (q_5, .inl (cA_12, 1200, .inl (fun _ => 0))), (q_6, .inl (cA_13, 1200, .inl (fun _ => 0))), (q_7, .inl (cA_14, 1200, .inl (fun _ => 0))), (q_8, .inl (cA_15, 1200, .inr (.inl (fun _ => 0)))), (q_9, .inl (cA_16, 1200, .inl (fun _ => 0))), (q_10, .inl (cA_17, 1200, .inl (fun _ => 0))), (q_11, .inl (cA_18, 1200, .inl (fun _ => 0))), (q_20, .inr (6, [.ref q_24, .ref q_25, .ref q_26, .ref q_27, .ref q_28, .ref q_29, .ref q_30, .int 0])), (q_32, .inr (6, [.ref q_36, .ref q_37, .ref q_38, .ref q_39, .ref q_40, .ref q_41, .ref q_42, .int 0]))] H_64 := hP
  have hD : va_D A [(h0, .inr (8, [.ref q_1, .int 0, .ref q_20, .ref q_32, .int ((-1)), .ref q_45, .ref q_50, .ref q_55, .ref q_60, .null, .int 0])), (q_1, .inr (6, [.ref q_5, .ref q_6, .ref q_7, .ref q_8, .ref q_9, .ref q_10, .ref q_11, .int 0])), (q_5, .inl (cA_12, 1200, .inl (fun _ => 0))), (q_6, .inl (cA_13, 1200, .inl (fun _ => 0))), (q_7, .inl (cA_14, 1200, .inl (fun _ => 0))), (q_8, .inl (cA_15, 1200, .inr (.inl (fun _ => 0)))), (q_9, .inl (cA_16, 1200, .inl (fun _ => 0))), (q_10, .inl (cA_17, 1200, .inl (fun _ => 0))), (q_11, .inl (cA_18, 1200, .inl (fun _ => 0))), (q_20, .inr (6, [.ref q_24, .ref q_25, .ref q_26, .ref q_27, .ref q_28, .ref q_29, .ref q_30, .int 0])), (q_32, .inr (6, [.ref q_36, .ref q_37, .ref q_38, .ref q_39, .ref q_40, .ref q_41, .ref q_42, .int 0]))] := hD
  have hK : va_K (dC, dI) vwCl [(cA_12, .int), (cA_13, .int), (cA_14, .int), (cA_15, .long), (cA_16, .int), (cA_17, .int), (cA_18, .int)] s := hK
  refine W.widen (k := 77) (n := 77940) (Nat.le_of_ble_eq_true rfl) (Nat.le_of_ble_eq_true rfl) ?_
  exact W.vret hx hb hr (fun t ht hW => ⟨⟨(), rfl, trivial, ⟨q_1, q_20, q_32, q_45, q_50, q_55, q_60, q_5, q_6, q_7, q_8, q_9, q_10, q_11, cA_12, cA_13, cA_14, cA_15, cA_16, cA_17, cA_18, q_24, q_25, q_26, q_27, q_28, q_29, q_30, q_36, q_37, q_38, q_39, q_40, q_41, q_42, by rw [ht]; exact hP, va_K.moved hW.alike hK, hD⟩⟩, hS.F ht⟩) hS.2.2 dX7_init_97
