abbrev cX7_atSign : ByteArray := prog_9_method_6_code
def yX7_atSign : MethodName := ⟨RX7, "atSign", "()Z"⟩
theorem dX7_atSign_0 : decode cX7_atSign 0 = .ok (.aload_n 0, 1) := by decide +kernel
theorem dX7_atSign_1 : decode cX7_atSign 1 = .ok (.getfield 32, 3) := by decide +kernel
theorem dX7_atSign_4 : decode cX7_atSign 4 = .ok (.aload_n 0, 1) := by decide +kernel
theorem dX7_atSign_5 : decode cX7_atSign 5 = .ok (.getfield 36, 3) := by decide +kernel
theorem dX7_atSign_8 : decode cX7_atSign 8 = .ok (.if_icmp .ge 35, 3) := by decide +kernel
theorem dX7_atSign_43 : decode cX7_atSign 43 = .ok (.iconst 0, 1) := by decide +kernel
theorem dX7_atSign_44 : decode cX7_atSign 44 = .ok (.ireturn, 1) := by decide +kernel
abbrev cX7_atDigit : ByteArray := prog_9_method_7_code
def yX7_atDigit : MethodName := ⟨RX7, "atDigit", "()Z"⟩
theorem dX7_atDigit_0 : decode cX7_atDigit 0 = .ok (.aload_n 0, 1) := by decide +kernel
theorem dX7_atDigit_1 : decode cX7_atDigit 1 = .ok (.getfield 32, 3) := by decide +kernel
theorem dX7_atDigit_4 : decode cX7_atDigit 4 = .ok (.aload_n 0, 1) := by decide +kernel
theorem dX7_atDigit_5 : decode cX7_atDigit 5 = .ok (.getfield 36, 3) := by decide +kernel
theorem dX7_atDigit_8 : decode cX7_atDigit 8 = .ok (.if_icmp .ge 35, 3) := by decide +kernel
theorem dX7_atDigit_43 : decode cX7_atDigit 43 = .ok (.iconst 0, 1) := by decide +kernel
theorem dX7_atDigit_44 : decode cX7_atDigit 44 = .ok (.ireturn, 1) := by decide +kernel
abbrev cX7_step : ByteArray := prog_9_method_5_code
def yX7_step : MethodName := ⟨RX7, "step", "()V"⟩
theorem dX7_step_0 : decode cX7_step 0 = .ok (.aload_n 0, 1) := by decide +kernel
theorem dX7_step_1 : decode cX7_step 1 = .ok (.aload_n 0, 1) := by decide +kernel
theorem dX7_step_2 : decode cX7_step 2 = .ok (.getfield 32, 3) := by decide +kernel
theorem dX7_step_5 : decode cX7_step 5 = .ok (.iconst 1, 1) := by decide +kernel
theorem dX7_step_6 : decode cX7_step 6 = .ok (.iadd, 1) := by decide +kernel
theorem dX7_step_7 : decode cX7_step 7 = .ok (.aload_n 0, 1) := by decide +kernel
theorem dX7_step_8 : decode cX7_step 8 = .ok (.getfield 36, 3) := by decide +kernel
theorem dX7_step_11 : decode cX7_step 11 = .ok (.invokestatic 49, 3) := by decide +kernel
theorem dX7_step_14 : decode cX7_step 14 = .ok (.putfield 32, 3) := by decide +kernel
theorem dX7_step_17 : decode cX7_step 17 = .ok (.aload_n 0, 1) := by decide +kernel
theorem dX7_step_18 : decode cX7_step 18 = .ok (.getfield 32, 3) := by decide +kernel
theorem dX7_step_21 : decode cX7_step 21 = .ok (.istore_n 1, 1) := by decide +kernel
theorem dX7_step_22 : decode cX7_step 22 = .ok (.iload_n 1, 1) := by decide +kernel
theorem dX7_step_23 : decode cX7_step 23 = .ok (.aload_n 0, 1) := by decide +kernel
theorem dX7_step_24 : decode cX7_step 24 = .ok (.getfield 36, 3) := by decide +kernel
theorem dX7_step_27 : decode cX7_step 27 = .ok (.if_icmp .ge 38, 3) := by decide +kernel
theorem dX7_step_65 : decode cX7_step 65 = .ok (.return_, 1) := by decide +kernel
abbrev cX7_readTerm : ByteArray := prog_9_method_9_code
def yX7_readTerm : MethodName := ⟨RX7, "readTerm", "(Z)I"⟩
theorem dX7_readTerm_0 : decode cX7_readTerm 0 = .ok (.aload_n 0, 1) := by decide +kernel
theorem dX7_readTerm_1 : decode cX7_readTerm 1 = .ok (.getfield 32, 3) := by decide +kernel
theorem dX7_readTerm_4 : decode cX7_readTerm 4 = .ok (.istore_n 2, 1) := by decide +kernel
theorem dX7_readTerm_5 : decode cX7_readTerm 5 = .ok (.iconst 0, 1) := by decide +kernel
theorem dX7_readTerm_6 : decode cX7_readTerm 6 = .ok (.istore_n 3, 1) := by decide +kernel
theorem dX7_readTerm_7 : decode cX7_readTerm 7 = .ok (.iconst 0, 1) := by decide +kernel
theorem dX7_readTerm_8 : decode cX7_readTerm 8 = .ok (.istore 4, 2) := by decide +kernel
theorem dX7_readTerm_10 : decode cX7_readTerm 10 = .ok (.iload 4, 2) := by decide +kernel
theorem dX7_readTerm_12 : decode cX7_readTerm 12 = .ok (.iconst 4, 1) := by decide +kernel
theorem dX7_readTerm_13 : decode cX7_readTerm 13 = .ok (.if_icmp .ge 38, 3) := by decide +kernel
theorem dX7_readTerm_16 : decode cX7_readTerm 16 = .ok (.aload_n 0, 1) := by decide +kernel
theorem dX7_readTerm_17 : decode cX7_readTerm 17 = .ok (.invokevirtual 75, 3) := by decide +kernel
theorem dX7_readTerm_20 : decode cX7_readTerm 20 = .ok (.ifCond .eq 31, 3) := by decide +kernel
theorem dX7_readTerm_51 : decode cX7_readTerm 51 = .ok (.aload_n 0, 1) := by decide +kernel
theorem dX7_readTerm_52 : decode cX7_readTerm 52 = .ok (.getfield 32, 3) := by decide +kernel
theorem dX7_readTerm_55 : decode cX7_readTerm 55 = .ok (.iload_n 2, 1) := by decide +kernel
theorem dX7_readTerm_56 : decode cX7_readTerm 56 = .ok (.if_icmp .ne 7, 3) := by decide +kernel
theorem dX7_readTerm_59 : decode cX7_readTerm 59 = .ok (.iconst 1, 1) := by decide +kernel
theorem dX7_readTerm_60 : decode cX7_readTerm 60 = .ok (.goto 4, 3) := by decide +kernel
theorem dX7_readTerm_64 : decode cX7_readTerm 64 = .ok (.istore 4, 2) := by decide +kernel
theorem dX7_readTerm_66 : decode cX7_readTerm 66 = .ok (.iload 4, 2) := by decide +kernel
theorem dX7_readTerm_68 : decode cX7_readTerm 68 = .ok (.ifCond .eq 5, 3) := by decide +kernel
theorem dX7_readTerm_71 : decode cX7_readTerm 71 = .ok (.iconst 1, 1) := by decide +kernel
theorem dX7_readTerm_72 : decode cX7_readTerm 72 = .ok (.istore_n 3, 1) := by decide +kernel
theorem dX7_readTerm_73 : decode cX7_readTerm 73 = .ok (.iconst 0, 1) := by decide +kernel
theorem dX7_readTerm_74 : decode cX7_readTerm 74 = .ok (.istore 5, 2) := by decide +kernel
theorem dX7_readTerm_76 : decode cX7_readTerm 76 = .ok (.iconst 0, 1) := by decide +kernel
theorem dX7_readTerm_77 : decode cX7_readTerm 77 = .ok (.istore 6, 2) := by decide +kernel
theorem dX7_readTerm_79 : decode cX7_readTerm 79 = .ok (.iconst 0, 1) := by decide +kernel
theorem dX7_readTerm_80 : decode cX7_readTerm 80 = .ok (.istore 7, 2) := by decide +kernel
theorem dX7_readTerm_82 : decode cX7_readTerm 82 = .ok (.iconst 0, 1) := by decide +kernel
theorem dX7_readTerm_83 : decode cX7_readTerm 83 = .ok (.istore 8, 2) := by decide +kernel
theorem dX7_readTerm_85 : decode cX7_readTerm 85 = .ok (.iload 8, 2) := by decide +kernel
theorem dX7_readTerm_87 : decode cX7_readTerm 87 = .ok (.sipush 800, 3) := by decide +kernel
theorem dX7_readTerm_90 : decode cX7_readTerm 90 = .ok (.if_icmp .ge 139, 3) := by decide +kernel
theorem dX7_readTerm_93 : decode cX7_readTerm 93 = .ok (.aload_n 0, 1) := by decide +kernel
theorem dX7_readTerm_94 : decode cX7_readTerm 94 = .ok (.getfield 32, 3) := by decide +kernel
theorem dX7_readTerm_97 : decode cX7_readTerm 97 = .ok (.aload_n 0, 1) := by decide +kernel
theorem dX7_readTerm_98 : decode cX7_readTerm 98 = .ok (.getfield 36, 3) := by decide +kernel
theorem dX7_readTerm_101 : decode cX7_readTerm 101 = .ok (.if_icmp .ge 128, 3) := by decide +kernel
theorem dX7_readTerm_229 : decode cX7_readTerm 229 = .ok (.iload 4, 2) := by decide +kernel
theorem dX7_readTerm_231 : decode cX7_readTerm 231 = .ok (.ifCond .eq 16, 3) := by decide +kernel
theorem dX7_readTerm_234 : decode cX7_readTerm 234 = .ok (.aload_n 0, 1) := by decide +kernel
theorem dX7_readTerm_235 : decode cX7_readTerm 235 = .ok (.getfield 32, 3) := by decide +kernel
theorem dX7_readTerm_238 : decode cX7_readTerm 238 = .ok (.iload_n 2, 1) := by decide +kernel
theorem dX7_readTerm_239 : decode cX7_readTerm 239 = .ok (.if_icmp .ne 8, 3) := by decide +kernel
theorem dX7_readTerm_242 : decode cX7_readTerm 242 = .ok (.aload_n 0, 1) := by decide +kernel
theorem dX7_readTerm_243 : decode cX7_readTerm 243 = .ok (.getfield 32, 3) := by decide +kernel
theorem dX7_readTerm_246 : decode cX7_readTerm 246 = .ok (.ireturn, 1) := by decide +kernel
abbrev cX7_readPolynomial : ByteArray := prog_9_method_8_code
def yX7_readPolynomial : MethodName := ⟨RX7, "readPolynomial", "()I"⟩
theorem dX7_readPolynomial_0 : decode cX7_readPolynomial 0 = .ok (.iconst (-1), 1) := by decide +kernel
theorem dX7_readPolynomial_1 : decode cX7_readPolynomial 1 = .ok (.istore_n 1, 1) := by decide +kernel
theorem dX7_readPolynomial_2 : decode cX7_readPolynomial 2 = .ok (.aload_n 0, 1) := by decide +kernel
theorem dX7_readPolynomial_3 : decode cX7_readPolynomial 3 = .ok (.getfield 25, 3) := by decide +kernel
theorem dX7_readPolynomial_6 : decode cX7_readPolynomial 6 = .ok (.aload_n 0, 1) := by decide +kernel
theorem dX7_readPolynomial_7 : decode cX7_readPolynomial 7 = .ok (.getfield 64, 3) := by decide +kernel
theorem dX7_readPolynomial_10 : decode cX7_readPolynomial 10 = .ok (.aload_n 0, 1) := by decide +kernel
theorem dX7_readPolynomial_11 : decode cX7_readPolynomial 11 = .ok (.getfield 61, 3) := by decide +kernel
theorem dX7_readPolynomial_14 : decode cX7_readPolynomial 14 = .ok (.iastore, 1) := by decide +kernel
theorem dX7_readPolynomial_15 : decode cX7_readPolynomial 15 = .ok (.iconst 0, 1) := by decide +kernel
theorem dX7_readPolynomial_16 : decode cX7_readPolynomial 16 = .ok (.istore_n 2, 1) := by decide +kernel
theorem dX7_readPolynomial_17 : decode cX7_readPolynomial 17 = .ok (.iload_n 2, 1) := by decide +kernel
theorem dX7_readPolynomial_18 : decode cX7_readPolynomial 18 = .ok (.sipush 800, 3) := by decide +kernel
theorem dX7_readPolynomial_21 : decode cX7_readPolynomial 21 = .ok (.if_icmp .ge 71, 3) := by decide +kernel
theorem dX7_readPolynomial_24 : decode cX7_readPolynomial 24 = .ok (.iload_n 1, 1) := by decide +kernel
theorem dX7_readPolynomial_25 : decode cX7_readPolynomial 25 = .ok (.ifCond .ge 67, 3) := by decide +kernel
theorem dX7_readPolynomial_28 : decode cX7_readPolynomial 28 = .ok (.aload_n 0, 1) := by decide +kernel
theorem dX7_readPolynomial_29 : decode cX7_readPolynomial 29 = .ok (.getfield 32, 3) := by decide +kernel
theorem dX7_readPolynomial_32 : decode cX7_readPolynomial 32 = .ok (.aload_n 0, 1) := by decide +kernel
theorem dX7_readPolynomial_33 : decode cX7_readPolynomial 33 = .ok (.getfield 36, 3) := by decide +kernel
theorem dX7_readPolynomial_36 : decode cX7_readPolynomial 36 = .ok (.if_icmp .ge 21, 3) := by decide +kernel
theorem dX7_readPolynomial_57 : decode cX7_readPolynomial 57 = .ok (.iconst 0, 1) := by decide +kernel
theorem dX7_readPolynomial_58 : decode cX7_readPolynomial 58 = .ok (.istore_n 3, 1) := by decide +kernel
theorem dX7_readPolynomial_59 : decode cX7_readPolynomial 59 = .ok (.aload_n 0, 1) := by decide +kernel
theorem dX7_readPolynomial_60 : decode cX7_readPolynomial 60 = .ok (.invokevirtual 67, 3) := by decide +kernel
theorem dX7_readPolynomial_63 : decode cX7_readPolynomial 63 = .ok (.ifCond .eq 7, 3) := by decide +kernel
theorem dX7_readPolynomial_70 : decode cX7_readPolynomial 70 = .ok (.aload_n 0, 1) := by decide +kernel
theorem dX7_readPolynomial_71 : decode cX7_readPolynomial 71 = .ok (.iload_n 3, 1) := by decide +kernel
theorem dX7_readPolynomial_72 : decode cX7_readPolynomial 72 = .ok (.invokevirtual 71, 3) := by decide +kernel
theorem dX7_readPolynomial_75 : decode cX7_readPolynomial 75 = .ok (.istore_n 1, 1) := by decide +kernel
theorem dX7_readPolynomial_76 : decode cX7_readPolynomial 76 = .ok (.aload_n 0, 1) := by decide +kernel
theorem dX7_readPolynomial_77 : decode cX7_readPolynomial 77 = .ok (.invokevirtual 67, 3) := by decide +kernel
theorem dX7_readPolynomial_80 : decode cX7_readPolynomial 80 = .ok (.ifCond .ne 6, 3) := by decide +kernel
theorem dX7_readPolynomial_83 : decode cX7_readPolynomial 83 = .ok (.goto 9, 3) := by decide +kernel
theorem dX7_readPolynomial_92 : decode cX7_readPolynomial 92 = .ok (.aload_n 0, 1) := by decide +kernel
theorem dX7_readPolynomial_93 : decode cX7_readPolynomial 93 = .ok (.dup, 1) := by decide +kernel
theorem dX7_readPolynomial_94 : decode cX7_readPolynomial 94 = .ok (.getfield 64, 3) := by decide +kernel
theorem dX7_readPolynomial_97 : decode cX7_readPolynomial 97 = .ok (.iconst 1, 1) := by decide +kernel
theorem dX7_readPolynomial_98 : decode cX7_readPolynomial 98 = .ok (.iadd, 1) := by decide +kernel
theorem dX7_readPolynomial_99 : decode cX7_readPolynomial 99 = .ok (.putfield 64, 3) := by decide +kernel
theorem dX7_readPolynomial_102 : decode cX7_readPolynomial 102 = .ok (.aload_n 0, 1) := by decide +kernel
theorem dX7_readPolynomial_103 : decode cX7_readPolynomial 103 = .ok (.getfield 25, 3) := by decide +kernel
theorem dX7_readPolynomial_106 : decode cX7_readPolynomial 106 = .ok (.aload_n 0, 1) := by decide +kernel
theorem dX7_readPolynomial_107 : decode cX7_readPolynomial 107 = .ok (.getfield 64, 3) := by decide +kernel
theorem dX7_readPolynomial_110 : decode cX7_readPolynomial 110 = .ok (.aload_n 0, 1) := by decide +kernel
theorem dX7_readPolynomial_111 : decode cX7_readPolynomial 111 = .ok (.getfield 61, 3) := by decide +kernel
theorem dX7_readPolynomial_114 : decode cX7_readPolynomial 114 = .ok (.iastore, 1) := by decide +kernel
theorem dX7_readPolynomial_115 : decode cX7_readPolynomial 115 = .ok (.iload_n 1, 1) := by decide +kernel
theorem dX7_readPolynomial_116 : decode cX7_readPolynomial 116 = .ok (.ireturn, 1) := by decide +kernel
abbrev cX7_begin : ByteArray := prog_9_method_4_code
def yX7_begin : MethodName := ⟨RX7, "begin", "([BIII)V"⟩
theorem dX7_begin_0 : decode cX7_begin 0 = .ok (.aload_n 0, 1) := by decide +kernel
theorem dX7_begin_1 : decode cX7_begin 1 = .ok (.aload_n 1, 1) := by decide +kernel
theorem dX7_begin_2 : decode cX7_begin 2 = .ok (.putfield 9, 3) := by decide +kernel
theorem dX7_begin_5 : decode cX7_begin 5 = .ok (.aload_n 0, 1) := by decide +kernel
theorem dX7_begin_6 : decode cX7_begin 6 = .ok (.iload_n 2, 1) := by decide +kernel
theorem dX7_begin_7 : decode cX7_begin 7 = .ok (.aload_n 1, 1) := by decide +kernel
theorem dX7_begin_8 : decode cX7_begin 8 = .ok (.arraylength, 1) := by decide +kernel
theorem dX7_begin_9 : decode cX7_begin 9 = .ok (.invokestatic 49, 3) := by decide +kernel
theorem dX7_begin_12 : decode cX7_begin 12 = .ok (.putfield 36, 3) := by decide +kernel
theorem dX7_begin_15 : decode cX7_begin 15 = .ok (.aload_n 0, 1) := by decide +kernel
theorem dX7_begin_16 : decode cX7_begin 16 = .ok (.iload_n 3, 1) := by decide +kernel
theorem dX7_begin_17 : decode cX7_begin 17 = .ok (.putfield 55, 3) := by decide +kernel
theorem dX7_begin_20 : decode cX7_begin 20 = .ok (.aload_n 0, 1) := by decide +kernel
theorem dX7_begin_21 : decode cX7_begin 21 = .ok (.iload 4, 2) := by decide +kernel
theorem dX7_begin_23 : decode cX7_begin 23 = .ok (.putfield 58, 3) := by decide +kernel
theorem dX7_begin_26 : decode cX7_begin 26 = .ok (.aload_n 0, 1) := by decide +kernel
theorem dX7_begin_27 : decode cX7_begin 27 = .ok (.iconst 0, 1) := by decide +kernel
theorem dX7_begin_28 : decode cX7_begin 28 = .ok (.putfield 61, 3) := by decide +kernel
theorem dX7_begin_31 : decode cX7_begin 31 = .ok (.aload_n 0, 1) := by decide +kernel
theorem dX7_begin_32 : decode cX7_begin 32 = .ok (.iconst 0, 1) := by decide +kernel
theorem dX7_begin_33 : decode cX7_begin 33 = .ok (.putfield 64, 3) := by decide +kernel
theorem dX7_begin_36 : decode cX7_begin 36 = .ok (.aload_n 0, 1) := by decide +kernel
theorem dX7_begin_37 : decode cX7_begin 37 = .ok (.iconst (-1), 1) := by decide +kernel
theorem dX7_begin_38 : decode cX7_begin 38 = .ok (.putfield 32, 3) := by decide +kernel
theorem dX7_begin_41 : decode cX7_begin 41 = .ok (.aload_n 0, 1) := by decide +kernel
theorem dX7_begin_42 : decode cX7_begin 42 = .ok (.invokevirtual 43, 3) := by decide +kernel
theorem dX7_begin_45 : decode cX7_begin 45 = .ok (.return_, 1) := by decide +kernel
abbrev cX7_readSystem : ByteArray := prog_9_method_2_code
def yX7_readSystem : MethodName := ⟨RX7, "readSystem", "([BII)I"⟩
theorem dX7_readSystem_0 : decode cX7_readSystem 0 = .ok (.aload_n 0, 1) := by decide +kernel
theorem dX7_readSystem_1 : decode cX7_readSystem 1 = .ok (.aload_n 1, 1) := by decide +kernel
theorem dX7_readSystem_2 : decode cX7_readSystem 2 = .ok (.iload_n 2, 1) := by decide +kernel
theorem dX7_readSystem_3 : decode cX7_readSystem 3 = .ok (.iload_n 3, 1) := by decide +kernel
theorem dX7_readSystem_4 : decode cX7_readSystem 4 = .ok (.iload_n 3, 1) := by decide +kernel
theorem dX7_readSystem_5 : decode cX7_readSystem 5 = .ok (.iconst 1, 1) := by decide +kernel
theorem dX7_readSystem_6 : decode cX7_readSystem 6 = .ok (.if_icmp .ne 8, 3) := by decide +kernel
theorem dX7_readSystem_14 : decode cX7_readSystem 14 = .ok (.iload_n 3, 1) := by decide +kernel
theorem dX7_readSystem_15 : decode cX7_readSystem 15 = .ok (.iconst 2, 1) := by decide +kernel
theorem dX7_readSystem_16 : decode cX7_readSystem 16 = .ok (.if_icmp .ne 7, 3) := by decide +kernel
theorem dX7_readSystem_19 : decode cX7_readSystem 19 = .ok (.iconst 3, 1) := by decide +kernel
theorem dX7_readSystem_20 : decode cX7_readSystem 20 = .ok (.goto 4, 3) := by decide +kernel
theorem dX7_readSystem_24 : decode cX7_readSystem 24 = .ok (.invokevirtual 28, 3) := by decide +kernel
theorem dX7_readSystem_27 : decode cX7_readSystem 27 = .ok (.iconst 0, 1) := by decide +kernel
theorem dX7_readSystem_28 : decode cX7_readSystem 28 = .ok (.istore 4, 2) := by decide +kernel
theorem dX7_readSystem_30 : decode cX7_readSystem 30 = .ok (.iload 4, 2) := by decide +kernel
theorem dX7_readSystem_32 : decode cX7_readSystem 32 = .ok (.iconst 5, 1) := by decide +kernel
theorem dX7_readSystem_33 : decode cX7_readSystem 33 = .ok (.if_icmp .gt 86, 3) := by decide +kernel
theorem dX7_readSystem_36 : decode cX7_readSystem 36 = .ok (.aload_n 0, 1) := by decide +kernel
theorem dX7_readSystem_37 : decode cX7_readSystem 37 = .ok (.getfield 32, 3) := by decide +kernel
theorem dX7_readSystem_40 : decode cX7_readSystem 40 = .ok (.aload_n 0, 1) := by decide +kernel
theorem dX7_readSystem_41 : decode cX7_readSystem 41 = .ok (.getfield 36, 3) := by decide +kernel
theorem dX7_readSystem_44 : decode cX7_readSystem 44 = .ok (.if_icmp .ne 10, 3) := by decide +kernel
theorem dX7_readSystem_47 : decode cX7_readSystem 47 = .ok (.iload 4, 2) := by decide +kernel
theorem dX7_readSystem_49 : decode cX7_readSystem 49 = .ok (.ifCond .le 5, 3) := by decide +kernel
theorem dX7_readSystem_54 : decode cX7_readSystem 54 = .ok (.iload 4, 2) := by decide +kernel
theorem dX7_readSystem_56 : decode cX7_readSystem 56 = .ok (.iconst 5, 1) := by decide +kernel
theorem dX7_readSystem_57 : decode cX7_readSystem 57 = .ok (.if_icmp .ne 6, 3) := by decide +kernel
theorem dX7_readSystem_63 : decode cX7_readSystem 63 = .ok (.aload_n 0, 1) := by decide +kernel
theorem dX7_readSystem_64 : decode cX7_readSystem 64 = .ok (.invokevirtual 39, 3) := by decide +kernel
theorem dX7_readSystem_67 : decode cX7_readSystem 67 = .ok (.istore 5, 2) := by decide +kernel
theorem dX7_readSystem_69 : decode cX7_readSystem 69 = .ok (.iload 5, 2) := by decide +kernel
theorem dX7_readSystem_71 : decode cX7_readSystem 71 = .ok (.ifCond .lt 6, 3) := by decide +kernel
theorem dX7_readSystem_74 : decode cX7_readSystem 74 = .ok (.iload 5, 2) := by decide +kernel
theorem dX7_readSystem_76 : decode cX7_readSystem 76 = .ok (.ireturn, 1) := by decide +kernel
abbrev cX11_takeTape : ByteArray := prog_1_method_30_code
def yX11_takeTape : MethodName := ⟨RX11, "takeTape", "()I"⟩
theorem dX11_takeTape_0 : decode cX11_takeTape 0 = .ok (.aload_n 0, 1) := by decide +kernel
theorem dX11_takeTape_1 : decode cX11_takeTape 1 = .ok (.getfield 82, 3) := by decide +kernel
theorem dX11_takeTape_4 : decode cX11_takeTape 4 = .ok (.istore_n 1, 1) := by decide +kernel
theorem dX11_takeTape_5 : decode cX11_takeTape 5 = .ok (.aload_n 0, 1) := by decide +kernel
theorem dX11_takeTape_6 : decode cX11_takeTape 6 = .ok (.iconst 0, 1) := by decide +kernel
theorem dX11_takeTape_7 : decode cX11_takeTape 7 = .ok (.putfield 82, 3) := by decide +kernel
theorem dX11_takeTape_10 : decode cX11_takeTape 10 = .ok (.iload_n 1, 1) := by decide +kernel
theorem dX11_takeTape_11 : decode cX11_takeTape 11 = .ok (.ireturn, 1) := by decide +kernel
abbrev cX11_solve : ByteArray := prog_1_method_5_code
def yX11_solve : MethodName := ⟨RX11, "solve", "()I"⟩
theorem dX11_solve_0 : decode cX11_solve 0 = .ok (.aload_n 0, 1) := by decide +kernel
theorem dX11_solve_1 : decode cX11_solve 1 = .ok (.aload_n 0, 1) := by decide +kernel
theorem dX11_solve_2 : decode cX11_solve 2 = .ok (.getfield 32, 3) := by decide +kernel
theorem dX11_solve_5 : decode cX11_solve 5 = .ok (.aload_n 0, 1) := by decide +kernel
theorem dX11_solve_6 : decode cX11_solve 6 = .ok (.getfield 9, 3) := by decide +kernel
theorem dX11_solve_9 : decode cX11_solve 9 = .ok (.aload_n 0, 1) := by decide +kernel
theorem dX11_solve_10 : decode cX11_solve 10 = .ok (.invokevirtual 89, 3) := by decide +kernel
theorem dX11_solve_13 : decode cX11_solve 13 = .ok (.aload_n 0, 1) := by decide +kernel
theorem dX11_solve_14 : decode cX11_solve 14 = .ok (.getfield 61, 3) := by decide +kernel
theorem dX11_solve_17 : decode cX11_solve 17 = .ok (.invokevirtual 93, 3) := by decide +kernel
theorem dX11_solve_20 : decode cX11_solve 20 = .ok (.putfield 68, 3) := by decide +kernel
theorem dX11_solve_23 : decode cX11_solve 23 = .ok (.aload_n 0, 1) := by decide +kernel
theorem dX11_solve_24 : decode cX11_solve 24 = .ok (.getfield 68, 3) := by decide +kernel
theorem dX11_solve_27 : decode cX11_solve 27 = .ok (.ifCond .lt 9, 3) := by decide +kernel
theorem dX11_solve_30 : decode cX11_solve 30 = .ok (.aload_n 0, 1) := by decide +kernel
theorem dX11_solve_31 : decode cX11_solve 31 = .ok (.iconst 1, 1) := by decide +kernel
theorem dX11_solve_32 : decode cX11_solve 32 = .ok (.invokevirtual 71, 3) := by decide +kernel
theorem dX11_solve_35 : decode cX11_solve 35 = .ok (.ireturn, 1) := by decide +kernel
def w_X7_atSign : List Cond := .code yX7_atSign cX7_atSign 1 (some .boolean) :: ([.fieldLink RX7 32 "RealSolver$Reader" "at" "I", .fieldLink RX7 36 "RealSolver$Reader" "size" "I"] ++ (wsX70 ++ ([] : List Cond)))
theorem in_X7_atSign_X7 : ∀ w ∈ wsX70, w ∈ w_X7_atSign := fun _ h => List.mem_cons_of_mem _ (List.mem_append_right _ (List.mem_append_left _ h))
set_option maxHeartbeats 4000000 in
set_option maxRecDepth 100000 in
theorem k_X7_atSign (l : Launch) (dC : Nat → ClassId) (dI : Nat → Nat → Nat) (h0 : Nat) (b0 : Value) (b3 : Value) (b4 : Value) (b5 : Value) (b6 : Value) (b7 : Value) (b8 : Value) (b9 : Value) (b10 : Value) (sz : Nat) : Met l yX7_atSign w_X7_atSign ({ frames := 0, cells := 0, slots := 0, locals := 0 }) (va_Pc [.ref h0] (fun U => U.heap.size = sz ∧ va_P (dC, dI) cls_ [(h0, .inr (6, [b0, .int 0, .int 0, b3, b4, b5, b6, b7, b8, b9, b10]))] U.heap ∧ va_K (dC, dI) cls_ [] U ∧ va_D (fun _ => True) [(h0, .inr (6, [b0, .int 0, .int 0, b3, b4, b5, b6, b7, b8, b9, b10]))] ∧ nx_ U)) (va_Qi (fun (r : Int32) (_ : Unit) => r = 0) (fun _ t => va_P (dC, dI) cls_ [(h0, .inr (6, [b0, .int 0, .int 0, b3, b4, b5, b6, b7, b8, b9, b10]))] t.heap ∧ va_K (dC, dI) cls_ [] t ∧ va_D (va_A [(h0, .inr (6, [b0, .int 0, .int 0, b3, b4, b5, b6, b7, b8, b9, b10]))] sz) [(h0, .inr (6, [b0, .int 0, .int 0, b3, b4, b5, b6, b7, b8, b9, b10]))]) (va_A [(h0, .inr (6, [b0, .int 0, .int 0, b3, b4, b5, b6, b7, b8, b9, b10]))] sz)) 0 0 (va_A [(h0, .inr (6, [b0, .int 0, .int 0, b3, b4, b5, b6, b7, b8, b9, b10]))] sz) := by
  refine Met.ofW (cc := cX7_atSign) (maxL := 1) (ret := (some .boolean)) (by decide) rfl ?_
  intro p e s m args below meth c s₁ B hml hv
  obtain ⟨rfl, hsz, hP, hK, hD0, hNx⟩ := hv
  have hx := B.exec
  have hb := B.bytes
  have hr := B.returns
  have hts := atoms_spec (ws := w_X7_atSign) B.pre
  have hown : s.vm.findClass RX7 = some m.cls := findClass_of_methodNamed B.named
  have hlocks := B.notSynchronized
  subst hsz
  have hD := hD0.self (sz := s.heap.size)
  generalize hAe : va_A [(h0, .inr (6, [b0, .int 0, .int 0, b3, b4, b5, b6, b7, b8, b9, b10]))] s.heap.size = A at hD ⊢
  have hA : ∀ q : Nat, s.heap.size ≤ q → A q := fun q h => by rw [← hAe]; exact Or.inr h
  have hS : va_S A s.heap s.heap [] := va_S.rf
  have hP : va_P (dC, dI) cls_ [(h0, .inr (6, [b0, .int 0, .int 0, b3, b4, b5, b6, b7, b8, b9, b10]))] s.heap := hP
  have hl := lv_entry ([.ref h0]) (n := 1) (Nat.le_of_ble_eq_true rfl)
  rw [lg_entry_eq]
  generalize (lg_sl ([.ref h0]) ++ List.replicate (1 - (lg_sl ([.ref h0])).length) Slot.unset).toArray = ls at hl ⊢
  have hl : lv_has ls 1 [(0, .ref h0)] := hl
  refine lv_aload_n hx hb dX7_atSign_0 rfl (lv_at hl 0 rfl) ?_
  refine va_get (D := (dC, dI)) (ci := 6) (v := .int 0) (C := RX7) (T := TX7) (N := 11) hx hb hts in_X7_atSign_X7 hown hK hP 0 rfl rfl 2 (by decide) (hts (.fieldLink RX7 32 "RealSolver$Reader" "at" "I") (List.mem_of_getElem? (i := 1) rfl)) (fun _ h9 => h9) rfl dX7_atSign_1 ?_
  refine lv_aload_n hx hb dX7_atSign_4 rfl (lv_at hl 0 rfl) ?_
  refine va_get (D := (dC, dI)) (ci := 6) (v := .int 0) (C := RX7) (T := TX7) (N := 11) hx hb hts in_X7_atSign_X7 hown hK hP 0 rfl rfl 1 (by decide) (hts (.fieldLink RX7 36 "RealSolver$Reader" "size" "I") (List.mem_of_getElem? (i := 2) rfl)) (fun _ h9 => h9) rfl dX7_atSign_5 ?_
  refine lv_icmp_ge (tgt := 43) hx hb dX7_atSign_8 (by decide) (fun c_1 => ?_) (fun c_1 => absurd (by decide) c_1)
  refine lv_iconst (v := 0) hx hb dX7_atSign_43 (by decide) ?_
  refine W.widen (k := 0) (n := 0) (Nat.le_of_ble_eq_true rfl) (Nat.le_of_ble_eq_true rfl) ?_
  have hP9 := hP.sub (ws' := [(h0, .inr (6, [b0, .int 0, .int 0, b3, b4, b5, b6, b7, b8, b9, b10]))]) [0] rfl
  have hD9 := hD.sub (ws' := [(h0, .inr (6, [b0, .int 0, .int 0, b3, b4, b5, b6, b7, b8, b9, b10]))]) [0] (by decide) rfl
  have hK9 := hK.sub (tys' := []) [] rfl
  exact W.zret (v := 0) hx hb hr rfl (fun t ht hW => ⟨⟨0, (), rfl, rfl, ⟨by rw [ht]; exact hP9, va_K.moved hW.alike hK9, hD9⟩⟩, hS.F ht⟩) hS.2.2 dX7_atSign_44

def w_X7_atDigit : List Cond := .code yX7_atDigit cX7_atDigit 1 (some .boolean) :: ([.fieldLink RX7 32 "RealSolver$Reader" "at" "I", .fieldLink RX7 36 "RealSolver$Reader" "size" "I"] ++ (wsX70 ++ ([] : List Cond)))
theorem in_X7_atDigit_X7 : ∀ w ∈ wsX70, w ∈ w_X7_atDigit := fun _ h => List.mem_cons_of_mem _ (List.mem_append_right _ (List.mem_append_left _ h))
set_option maxHeartbeats 4000000 in
set_option maxRecDepth 100000 in
theorem k_X7_atDigit (l : Launch) (dC : Nat → ClassId) (dI : Nat → Nat → Nat) (h0 : Nat) (b0 : Value) (b3 : Value) (b4 : Value) (b5 : Value) (b6 : Value) (b7 : Value) (b8 : Value) (b9 : Value) (b10 : Value) (sz : Nat) : Met l yX7_atDigit w_X7_atDigit ({ frames := 0, cells := 0, slots := 0, locals := 0 }) (va_Pc [.ref h0] (fun U => U.heap.size = sz ∧ va_P (dC, dI) cls_ [(h0, .inr (6, [b0, .int 0, .int 0, b3, b4, b5, b6, b7, b8, b9, b10]))] U.heap ∧ va_K (dC, dI) cls_ [] U ∧ va_D (fun _ => True) [(h0, .inr (6, [b0, .int 0, .int 0, b3, b4, b5, b6, b7, b8, b9, b10]))] ∧ nx_ U)) (va_Qi (fun (r : Int32) (_ : Unit) => r = 0) (fun _ t => va_P (dC, dI) cls_ [(h0, .inr (6, [b0, .int 0, .int 0, b3, b4, b5, b6, b7, b8, b9, b10]))] t.heap ∧ va_K (dC, dI) cls_ [] t ∧ va_D (va_A [(h0, .inr (6, [b0, .int 0, .int 0, b3, b4, b5, b6, b7, b8, b9, b10]))] sz) [(h0, .inr (6, [b0, .int 0, .int 0, b3, b4, b5, b6, b7, b8, b9, b10]))]) (va_A [(h0, .inr (6, [b0, .int 0, .int 0, b3, b4, b5, b6, b7, b8, b9, b10]))] sz)) 0 0 (va_A [(h0, .inr (6, [b0, .int 0, .int 0, b3, b4, b5, b6, b7, b8, b9, b10]))] sz) := by
  refine Met.ofW (cc := cX7_atDigit) (maxL := 1) (ret := (some .boolean)) (by decide) rfl ?_
  intro p e s m args below meth c s₁ B hml hv
  obtain ⟨rfl, hsz, hP, hK, hD0, hNx⟩ := hv
  have hx := B.exec
  have hb := B.bytes
  have hr := B.returns
  have hts := atoms_spec (ws := w_X7_atDigit) B.pre
  have hown : s.vm.findClass RX7 = some m.cls := findClass_of_methodNamed B.named
  have hlocks := B.notSynchronized
  subst hsz
  have hD := hD0.self (sz := s.heap.size)
  generalize hAe : va_A [(h0, .inr (6, [b0, .int 0, .int 0, b3, b4, b5, b6, b7, b8, b9, b10]))] s.heap.size = A at hD ⊢
  have hA : ∀ q : Nat, s.heap.size ≤ q → A q := fun q h => by rw [← hAe]; exact Or.inr h
  have hS : va_S A s.heap s.heap [] := va_S.rf
  have hP : va_P (dC, dI) cls_ [(h0, .inr (6, [b0, .int 0, .int 0, b3, b4, b5, b6, b7, b8, b9, b10]))] s.heap := hP
  have hl := lv_entry ([.ref h0]) (n := 1) (Nat.le_of_ble_eq_true rfl)
  rw [lg_entry_eq]
  generalize (lg_sl ([.ref h0]) ++ List.replicate (1 - (lg_sl ([.ref h0])).length) Slot.unset).toArray = ls at hl ⊢
  have hl : lv_has ls 1 [(0, .ref h0)] := hl
  refine lv_aload_n hx hb dX7_atDigit_0 rfl (lv_at hl 0 rfl) ?_
  refine va_get (D := (dC, dI)) (ci := 6) (v := .int 0) (C := RX7) (T := TX7) (N := 11) hx hb hts in_X7_atDigit_X7 hown hK hP 0 rfl rfl 2 (by decide) (hts (.fieldLink RX7 32 "RealSolver$Reader" "at" "I") (List.mem_of_getElem? (i := 1) rfl)) (fun _ h9 => h9) rfl dX7_atDigit_1 ?_
  refine lv_aload_n hx hb dX7_atDigit_4 rfl (lv_at hl 0 rfl) ?_
  refine va_get (D := (dC, dI)) (ci := 6) (v := .int 0) (C := RX7) (T := TX7) (N := 11) hx hb hts in_X7_atDigit_X7 hown hK hP 0 rfl rfl 1 (by decide) (hts (.fieldLink RX7 36 "RealSolver$Reader" "size" "I") (List.mem_of_getElem? (i := 2) rfl)) (fun _ h9 => h9) rfl dX7_atDigit_5 ?_
  refine lv_icmp_ge (tgt := 43) hx hb dX7_atDigit_8 (by decide) (fun c_1 => ?_) (fun c_1 => absurd (by decide) c_1)
  refine lv_iconst (v := 0) hx hb dX7_atDigit_43 (by decide) ?_
  refine W.widen (k := 0) (n := 0) (Nat.le_of_ble_eq_true rfl) (Nat.le_of_ble_eq_true rfl) ?_
  have hP9 := hP.sub (ws' := [(h0, .inr (6, [b0, .int 0, .int 0, b3, b4, b5, b6, b7, b8, b9, b10]))]) [0] rfl
  have hD9 := hD.sub (ws' := [(h0, .inr (6, [b0, .int 0, .int 0, b3, b4, b5, b6, b7, b8, b9, b10]))]) [0] (by decide) rfl
  have hK9 := hK.sub (tys' := []) [] rfl
  exact W.zret (v := 0) hx hb hr rfl (fun t ht hW => ⟨⟨0, (), rfl, rfl, ⟨by rw [ht]; exact hP9, va_K.moved hW.alike hK9, hD9⟩⟩, hS.F ht⟩) hS.2.2 dX7_atDigit_44

def w_X7_step : List Cond := .code yX7_step cX7_step 2 none :: ([.fieldLink RX7 32 "RealSolver$Reader" "at" "I", .fieldLink RX7 36 "RealSolver$Reader" "size" "I", .methodLink RX7 49 Lib.Math.min.name, .static Lib.Math.min.name, .initialized "java/lang/Math", .code Lib.Math.min.name Lib.Math.min.code 2 (some .int)] ++ (wsX70 ++ ([] : List Cond)))
theorem in_X7_step_X7 : ∀ w ∈ wsX70, w ∈ w_X7_step := fun _ h => List.mem_cons_of_mem _ (List.mem_append_right _ (List.mem_append_left _ h))
set_option maxHeartbeats 4000000 in
set_option maxRecDepth 100000 in
theorem k_X7_step (l : Launch) (dC : Nat → ClassId) (dI : Nat → Nat → Nat) (h0 : Nat) (b0 : Value) (b3 : Value) (b4 : Value) (b5 : Value) (b6 : Value) (b7 : Value) (b8 : Value) (b9 : Value) (b10 : Value) (sz : Nat) : Met l yX7_step w_X7_step ({ frames := 1, cells := 0, slots := 0, locals := 14 }) (va_Pc [.ref h0] (fun U => U.heap.size = sz ∧ va_P (dC, dI) cls_ [(h0, .inr (6, [b0, .int 0, .int (-1), b3, b4, b5, b6, b7, b8, b9, b10]))] U.heap ∧ va_K (dC, dI) cls_ [] U ∧ va_D (fun _ => True) [(h0, .inr (6, [b0, .int 0, .int (-1), b3, b4, b5, b6, b7, b8, b9, b10]))] ∧ nx_ U)) (va_Qv (fun _ : Unit => True) (fun _ t => va_P (dC, dI) cls_ [(h0, .inr (6, [b0, .int 0, .int 0, b3, b4, b5, b6, b7, b8, b9, b10]))] t.heap ∧ va_K (dC, dI) cls_ [] t ∧ va_D (va_A [(h0, .inr (6, [b0, .int 0, .int (-1), b3, b4, b5, b6, b7, b8, b9, b10]))] sz) [(h0, .inr (6, [b0, .int 0, .int 0, b3, b4, b5, b6, b7, b8, b9, b10]))]) (va_A [(h0, .inr (6, [b0, .int 0, .int (-1), b3, b4, b5, b6, b7, b8, b9, b10]))] sz)) 0 0 (va_A [(h0, .inr (6, [b0, .int 0, .int (-1), b3, b4, b5, b6, b7, b8, b9, b10]))] sz) := by
  refine Met.ofW (cc := cX7_step) (maxL := 2) (ret := none) (by decide) rfl ?_
  intro p e s m args below meth c s₁ B hml hv
  obtain ⟨rfl, hsz, hP, hK, hD0, hNx⟩ := hv
  have hx := B.exec
  have hb := B.bytes
  have hr := B.returns
  have hts := atoms_spec (ws := w_X7_step) B.pre
  have hown : s.vm.findClass RX7 = some m.cls := findClass_of_methodNamed B.named
  have hlocks := B.notSynchronized
  subst hsz
  have hD := hD0.self (sz := s.heap.size)
  generalize hAe : va_A [(h0, .inr (6, [b0, .int 0, .int (-1), b3, b4, b5, b6, b7, b8, b9, b10]))] s.heap.size = A at hD ⊢
  have hA : ∀ q : Nat, s.heap.size ≤ q → A q := fun q h => by rw [← hAe]; exact Or.inr h
  have hS : va_S A s.heap s.heap [] := va_S.rf
  have hP : va_P (dC, dI) cls_ [(h0, .inr (6, [b0, .int 0, .int (-1), b3, b4, b5, b6, b7, b8, b9, b10]))] s.heap := hP
  have hl := lv_entry ([.ref h0]) (n := 2) (Nat.le_of_ble_eq_true rfl)
  rw [lg_entry_eq]
  generalize (lg_sl ([.ref h0]) ++ List.replicate (2 - (lg_sl ([.ref h0])).length) Slot.unset).toArray = ls at hl ⊢
  have hl : lv_has ls 2 [(0, .ref h0)] := hl
  refine lv_aload_n hx hb dX7_step_0 rfl (lv_at hl 0 rfl) ?_
  refine lv_aload_n hx hb dX7_step_1 rfl (lv_at hl 0 rfl) ?_
  refine va_get (D := (dC, dI)) (ci := 6) (v := .int (-1)) (C := RX7) (T := TX7) (N := 11) hx hb hts in_X7_step_X7 hown hK hP 0 rfl rfl 2 (by decide) (hts (.fieldLink RX7 32 "RealSolver$Reader" "at" "I") (List.mem_of_getElem? (i := 1) rfl)) (fun _ h9 => h9) rfl dX7_step_2 ?_
  refine lv_iconst (v := 1) hx hb dX7_step_5 (by decide) ?_
  refine lv_iadd hx hb dX7_step_6 ?_
  refine lv_topi (fun f_1 ef_1 => ?_)
  obtain rfl : f_1 = 0 := ef_1.trans (by decide)
  refine lv_aload_n hx hb dX7_step_7 rfl (lv_at hl 0 rfl) ?_
  refine va_get (D := (dC, dI)) (ci := 6) (v := .int 0) (C := RX7) (T := TX7) (N := 11) hx hb hts in_X7_step_X7 hown hK hP 0 rfl rfl 1 (by decide) (hts (.fieldLink RX7 36 "RealSolver$Reader" "size" "I") (List.mem_of_getElem? (i := 2) rfl)) (fun _ h9 => h9) rfl dX7_step_8 ?_
  refine va_mmin hx hb (by rw [hml]; exact hl.1.symm) hown (hts (.methodLink RX7 49 Lib.Math.min.name) (List.mem_of_getElem? (i := 3) rfl)) (hts (.static Lib.Math.min.name) (List.mem_of_getElem? (i := 4) rfl)) (hts (.initialized "java/lang/Math") (List.mem_of_getElem? (i := 5) rfl)) (hts (.code Lib.Math.min.name Lib.Math.min.code 2 (some .int)) (List.mem_of_getElem? (i := 6) rfl)) (Nat.le_of_ble_eq_true rfl) (Nat.le_of_ble_eq_true rfl) (Nat.le_of_ble_eq_true rfl) (Nat.le_of_ble_eq_true rfl) dX7_step_11 ?_
  refine lv_topi (fun f_2 ef_2 => ?_)
  obtain rfl : f_2 = 0 := ef_2.trans (by decide)
  refine va_put (D := (dC, dI)) (ci := 6) (v := .int 0) (ty := .int) (C := RX7) (T := TX7) (N := 11) hx hb hts in_X7_step_X7 tyX7 tyX7_ok nmX7 hown hK hP hD hS 0 rfl rfl 2 (by decide) (hts (.fieldLink RX7 32 "RealSolver$Reader" "at" "I") (List.mem_of_getElem? (i := 1) rfl)) (fun _ h9 => h9) rfl (by decide +kernel) rfl rfl (Nat.le_of_ble_eq_true rfl) dX7_step_14 (fun H locs hP hD hS => ?_)
  have hP : va_P (dC, dI) cls_ [(h0, .inr (6, [b0, .int 0, .int 0, b3, b4, b5, b6, b7, b8, b9, b10]))] H := hP
  have hD : va_D A [(h0, .inr (6, [b0, .int 0, .int 0, b3, b4, b5, b6, b7, b8, b9, b10]))] := hD
  refine lv_aload_n hx hb dX7_step_17 rfl (lv_at hl 0 rfl) ?_
  refine va_get (D := (dC, dI)) (ci := 6) (v := .int 0) (C := RX7) (T := TX7) (N := 11) hx hb hts in_X7_step_X7 hown hK hP 0 rfl rfl 2 (by decide) (hts (.fieldLink RX7 32 "RealSolver$Reader" "at" "I") (List.mem_of_getElem? (i := 1) rfl)) (fun _ h9 => h9) rfl dX7_step_18 ?_
  refine lv_istore_n (lv' := [(1, .int 0), (0, .ref h0)]) hx hb dX7_step_21 rfl hl (by decide) rfl (fun ls hl => ?_)
  refine lv_iload_n hx hb dX7_step_22 rfl (lv_at hl 0 rfl) ?_
  refine lv_aload_n hx hb dX7_step_23 rfl (lv_at hl 1 rfl) ?_
  refine va_get (D := (dC, dI)) (ci := 6) (v := .int 0) (C := RX7) (T := TX7) (N := 11) hx hb hts in_X7_step_X7 hown hK hP 0 rfl rfl 1 (by decide) (hts (.fieldLink RX7 36 "RealSolver$Reader" "size" "I") (List.mem_of_getElem? (i := 2) rfl)) (fun _ h9 => h9) rfl dX7_step_24 ?_
  refine lv_icmp_ge (tgt := 65) hx hb dX7_step_27 (by decide) (fun c_3 => ?_) (fun c_3 => absurd (by decide) c_3)
  refine W.widen (k := 0) (n := 0) (Nat.le_of_ble_eq_true rfl) (Nat.le_of_ble_eq_true rfl) ?_
  have hP9 := hP.sub (ws' := [(h0, .inr (6, [b0, .int 0, .int 0, b3, b4, b5, b6, b7, b8, b9, b10]))]) [0] rfl
  have hD9 := hD.sub (ws' := [(h0, .inr (6, [b0, .int 0, .int 0, b3, b4, b5, b6, b7, b8, b9, b10]))]) [0] (by decide) rfl
  have hK9 := hK.sub (tys' := []) [] rfl
  exact W.vret hx hb hr (fun t ht hW => ⟨⟨(), rfl, trivial, ⟨by rw [ht]; exact hP9, va_K.moved hW.alike hK9, hD9⟩⟩, hS.F ht⟩) hS.2.2 dX7_step_65

def w_X7_readTerm : List Cond := .code yX7_readTerm cX7_readTerm 11 (some .int) :: ([.fieldLink RX7 32 "RealSolver$Reader" "at" "I", .fieldLink RX7 36 "RealSolver$Reader" "size" "I", .code yX7_atDigit cX7_atDigit 1 (some .boolean), .methodLink RX7 75 yX7_atDigit, .instanceMethod yX7_atDigit, .selects RX7 yX7_atDigit yX7_atDigit, .initialized RX7] ++ (wsX70 ++ ([] : List Cond)))
theorem in_X7_readTerm_X7 : ∀ w ∈ wsX70, w ∈ w_X7_readTerm := fun _ h => List.mem_cons_of_mem _ (List.mem_append_right _ (List.mem_append_left _ h))
set_option maxRecDepth 20000 in
theorem g_X7_readTerm_X7_atDigit_75 : GoodIn w_X7_readTerm (wsV RX7 75 RX7 yX7_atDigit w_X7_atDigit) := goodIn_r _ [4, 5, 6, 7, 3, 1, 2, 8, 9, 10, 11, 12, 13, 14, 15, 16, 17, 18] (by decide +kernel) (by decide +kernel)
set_option maxHeartbeats 4000000 in
set_option maxRecDepth 100000 in
theorem k_X7_readTerm (l : Launch) (dC : Nat → ClassId) (dI : Nat → Nat → Nat) (h0 : Nat) (b0 : Value) (b3 : Value) (b4 : Value) (b5 : Value) (b6 : Value) (b7 : Value) (b8 : Value) (b9 : Value) (b10 : Value) (sz : Nat) : Met l yX7_readTerm w_X7_readTerm ({ frames := 1, cells := 0, slots := 0, locals := 20 }) (va_Pc [.ref h0, .int 0] (fun U => U.heap.size = sz ∧ va_P (dC, dI) cls_ [(h0, .inr (6, [b0, .int 0, .int 0, b3, b4, b5, b6, b7, b8, b9, b10]))] U.heap ∧ va_K (dC, dI) cls_ [] U ∧ va_D (fun _ => True) [(h0, .inr (6, [b0, .int 0, .int 0, b3, b4, b5, b6, b7, b8, b9, b10]))] ∧ nx_ U)) (va_Qi (fun (r : Int32) (_ : Unit) => r = 0) (fun _ t => va_P (dC, dI) cls_ [(h0, .inr (6, [b0, .int 0, .int 0, b3, b4, b5, b6, b7, b8, b9, b10]))] t.heap ∧ va_K (dC, dI) cls_ [] t ∧ va_D (va_A [(h0, .inr (6, [b0, .int 0, .int 0, b3, b4, b5, b6, b7, b8, b9, b10]))] sz) [(h0, .inr (6, [b0, .int 0, .int 0, b3, b4, b5, b6, b7, b8, b9, b10]))]) (va_A [(h0, .inr (6, [b0, .int 0, .int 0, b3, b4, b5, b6, b7, b8, b9, b10]))] sz)) 0 0 (va_A [(h0, .inr (6, [b0, .int 0, .int 0, b3, b4, b5, b6, b7, b8, b9, b10]))] sz) := by
  refine Met.ofW (cc := cX7_readTerm) (maxL := 11) (ret := (some .int)) (by decide) rfl ?_
  intro p e s m args below meth c s₁ B hml hv
  obtain ⟨rfl, hsz, hP, hK, hD0, hNx⟩ := hv
  have hx := B.exec
  have hb := B.bytes
  have hr := B.returns
  have hts := atoms_spec (ws := w_X7_readTerm) B.pre
  have hown : s.vm.findClass RX7 = some m.cls := findClass_of_methodNamed B.named
  have hlocks := B.notSynchronized
  subst hsz
  have hD := hD0.self (sz := s.heap.size)
  generalize hAe : va_A [(h0, .inr (6, [b0, .int 0, .int 0, b3, b4, b5, b6, b7, b8, b9, b10]))] s.heap.size = A at hD ⊢
  have hA : ∀ q : Nat, s.heap.size ≤ q → A q := fun q h => by rw [← hAe]; exact Or.inr h
  have hS : va_S A s.heap s.heap [] := va_S.rf
  have hP : va_P (dC, dI) cls_ [(h0, .inr (6, [b0, .int 0, .int 0, b3, b4, b5, b6, b7, b8, b9, b10]))] s.heap := hP
  have hl := lv_entry ([.ref h0, .int 0]) (n := 11) (Nat.le_of_ble_eq_true rfl)
  rw [lg_entry_eq]
  generalize (lg_sl ([.ref h0, .int 0]) ++ List.replicate (11 - (lg_sl ([.ref h0, .int 0])).length) Slot.unset).toArray = ls at hl ⊢
  have hl : lv_has ls 11 [(0, .ref h0), (1, .int 0)] := hl
  refine lv_aload_n hx hb dX7_readTerm_0 rfl (lv_at hl 0 rfl) ?_
  refine va_get (D := (dC, dI)) (ci := 6) (v := .int 0) (C := RX7) (T := TX7) (N := 11) hx hb hts in_X7_readTerm_X7 hown hK hP 0 rfl rfl 2 (by decide) (hts (.fieldLink RX7 32 "RealSolver$Reader" "at" "I") (List.mem_of_getElem? (i := 1) rfl)) (fun _ h9 => h9) rfl dX7_readTerm_1 ?_
  refine lv_istore_n (lv' := [(2, .int 0), (0, .ref h0), (1, .int 0)]) hx hb dX7_readTerm_4 rfl hl (by decide) rfl (fun ls hl => ?_)
  refine lv_iconst (v := 0) hx hb dX7_readTerm_5 (by decide) ?_
  refine lv_istore_n (lv' := [(3, .int 0), (2, .int 0), (0, .ref h0), (1, .int 0)]) hx hb dX7_readTerm_6 rfl hl (by decide) rfl (fun ls hl => ?_)
  refine lv_iconst (v := 0) hx hb dX7_readTerm_7 (by decide) ?_
  refine lv_istore (lv' := [(4, .int 0), (3, .int 0), (2, .int 0), (0, .ref h0), (1, .int 0)]) hx hb dX7_readTerm_8 hl (by decide) rfl (fun ls hl => ?_)
  refine lv_iload hx hb dX7_readTerm_10 (lv_at hl 0 rfl) ?_
  refine lv_iconst (v := 4) hx hb dX7_readTerm_12 (by decide) ?_
  refine lv_icmp_ge (tgt := 51) hx hb dX7_readTerm_13 (by decide) (fun c_1 => absurd c_1 (by decide)) (fun c_1 => ?_)
  refine lv_aload_n hx hb dX7_readTerm_16 rfl (lv_at hl 3 rfl) ?_
  have hPc := hP.sub (ws' := [(h0, .inr (6, [b0, .int 0, .int 0, b3, b4, b5, b6, b7, b8, b9, b10]))]) [0] rfl
  have hDc := hD.sub (ws' := [(h0, .inr (6, [b0, .int 0, .int 0, b3, b4, b5, b6, b7, b8, b9, b10]))]) [0] (by decide) rfl
  have hKc := hK.sub (tys' := []) [] rfl
  have hFc := va_free (wc := [(h0, .inr (6, [b0, .int 0, .int 0, b3, b4, b5, b6, b7, b8, b9, b10]))]) hD hS hA [0] rfl
  refine va_calli (va_runV (As := []) (rest := []) ⟨hx, hb, hml, hown, hts⟩ (k_X7_atDigit l dC dI h0 b0 b3 b4 b5 b6 b7 b8 b9 b10 s.heap.size) (cwV 0 hts g_X7_readTerm_X7_atDigit_75 rfl rfl rfl (by decide +kernel) ⟨Nat.le_of_ble_eq_true rfl, Nat.le_of_ble_eq_true rfl⟩) ⟨fun a U g mk q => by obtain ⟨q0, q1, qP, qK, qD, qN⟩ := q; exact ⟨q0, q1, qP, va_K.moved (u := U) (U := U.calling g mk a) (Vm.Alike.refl U.vm) qK, qD, nx_.same rfl qN⟩, va_recv hKc hPc (ci := 6) (q0 := 0) rfl rfl, fun U hU hW => ⟨rfl, by rw [hU], by rw [hU]; exact hPc, va_K.moved hW.alike hKc, hDc.weaken (fun _ _ _ _ => trivial), nx_.warm hW hNx⟩⟩ rfl rfl hl.1 rfl (lv_room (Nat.le_of_ble_eq_true rfl)) dX7_readTerm_17 ⟨Nat.le_of_ble_eq_true rfl, Nat.le_of_ble_eq_true rfl⟩) hS (fun q _ h => hFc q h) hFc (fun r_2 u t H1 locs ht hvm hw hB hz1 hk1 hS => ?_)
  try dsimp only at hw
  obtain ⟨hP1, hK1, hD1⟩ := hB
  rw [ht] at hP1
  obtain ⟨hP, hD⟩ := va_join (wr := []) (w1 := [(h0, .inr (6, [b0, .int 0, .int 0, b3, b4, b5, b6, b7, b8, b9, b10]))]) hP hD [0] [] rfl rfl (by decide) (by decide) hk1 hFc hP1 hD1
  generalize H1 = H at hP hS ⊢
  have hP : va_P (dC, dI) cls_ [(h0, .inr (6, [b0, .int 0, .int 0, b3, b4, b5, b6, b7, b8, b9, b10]))] H := hP
  have hD : va_D A [(h0, .inr (6, [b0, .int 0, .int 0, b3, b4, b5, b6, b7, b8, b9, b10]))] := hD
  refine W.widen (k := 0) (n := 0) (Nat.le_of_ble_eq_true rfl) (Nat.le_of_ble_eq_true rfl) ?_
  obtain rfl : (0 : Int32) = r_2 := Eq.symm hw
  refine lv_if_eq (tgt := 51) hx hb dX7_readTerm_20 (by decide) (fun c_3 => ?_) (fun c_3 => absurd (by decide) c_3)
  refine lv_aload_n hx hb dX7_readTerm_51 rfl (lv_at hl 3 rfl) ?_
  refine va_get (D := (dC, dI)) (ci := 6) (v := .int 0) (C := RX7) (T := TX7) (N := 11) hx hb hts in_X7_readTerm_X7 hown hK hP 0 rfl rfl 2 (by decide) (hts (.fieldLink RX7 32 "RealSolver$Reader" "at" "I") (List.mem_of_getElem? (i := 1) rfl)) (fun _ h9 => h9) rfl dX7_readTerm_52 ?_
  refine lv_iload_n hx hb dX7_readTerm_55 rfl (lv_at hl 2 rfl) ?_
  refine lv_icmp_ne (tgt := 63) hx hb dX7_readTerm_56 (by decide) (fun c_4 => absurd (by decide) c_4) (fun c_4 => ?_)
  refine lv_iconst (v := 1) hx hb dX7_readTerm_59 (by decide) ?_
  refine lv_goto (tgt := 64) hx hb dX7_readTerm_60 (by decide) ?_
  refine lv_istore (lv' := [(4, .int 1), (3, .int 0), (2, .int 0), (0, .ref h0), (1, .int 0)]) hx hb dX7_readTerm_64 hl (by decide) rfl (fun ls hl => ?_)
  refine lv_iload hx hb dX7_readTerm_66 (lv_at hl 0 rfl) ?_
  refine lv_if_eq (tgt := 73) hx hb dX7_readTerm_68 (by decide) (fun c_5 => absurd c_5 (by decide)) (fun c_5 => ?_)
  refine lv_iconst (v := 1) hx hb dX7_readTerm_71 (by decide) ?_
  refine lv_istore_n (lv' := [(3, .int 1), (4, .int 1), (2, .int 0), (0, .ref h0), (1, .int 0)]) hx hb dX7_readTerm_72 rfl hl (by decide) rfl (fun ls hl => ?_)
  refine lv_iconst (v := 0) hx hb dX7_readTerm_73 (by decide) ?_
  refine lv_istore (lv' := [(5, .int 0), (3, .int 1), (4, .int 1), (2, .int 0), (0, .ref h0), (1, .int 0)]) hx hb dX7_readTerm_74 hl (by decide) rfl (fun ls hl => ?_)
  refine lv_iconst (v := 0) hx hb dX7_readTerm_76 (by decide) ?_
  refine lv_istore (lv' := [(6, .int 0), (5, .int 0), (3, .int 1), (4, .int 1), (2, .int 0), (0, .ref h0), (1, .int 0)]) hx hb dX7_readTerm_77 hl (by decide) rfl (fun ls hl => ?_)
  refine lv_iconst (v := 0) hx hb dX7_readTerm_79 (by decide) ?_
  refine lv_istore (lv' := [(7, .int 0), (6, .int 0), (5, .int 0), (3, .int 1), (4, .int 1), (2, .int 0), (0, .ref h0), (1, .int 0)]) hx hb dX7_readTerm_80 hl (by decide) rfl (fun ls hl => ?_)
  refine lv_iconst (v := 0) hx hb dX7_readTerm_82 (by decide) ?_
  refine lv_istore (lv' := [(8, .int 0), (7, .int 0), (6, .int 0), (5, .int 0), (3, .int 1), (4, .int 1), (2, .int 0), (0, .ref h0), (1, .int 0)]) hx hb dX7_readTerm_83 hl (by decide) rfl (fun ls hl => ?_)
  refine lv_iload hx hb dX7_readTerm_85 (lv_at hl 0 rfl) ?_
  refine lv_sipush (v := 800) hx hb dX7_readTerm_87 (by decide) ?_
  refine lv_icmp_ge (tgt := 229) hx hb dX7_readTerm_90 (by decide) (fun c_6 => absurd c_6 (by decide)) (fun c_6 => ?_)
  refine lv_aload_n hx hb dX7_readTerm_93 rfl (lv_at hl 7 rfl) ?_
  refine va_get (D := (dC, dI)) (ci := 6) (v := .int 0) (C := RX7) (T := TX7) (N := 11) hx hb hts in_X7_readTerm_X7 hown hK hP 0 rfl rfl 2 (by decide) (hts (.fieldLink RX7 32 "RealSolver$Reader" "at" "I") (List.mem_of_getElem? (i := 1) rfl)) (fun _ h9 => h9) rfl dX7_readTerm_94 ?_
  refine lv_aload_n hx hb dX7_readTerm_97 rfl (lv_at hl 7 rfl) ?_
  refine va_get (D := (dC, dI)) (ci := 6) (v := .int 0) (C := RX7) (T := TX7) (N := 11) hx hb hts in_X7_readTerm_X7 hown hK hP 0 rfl rfl 1 (by decide) (hts (.fieldLink RX7 36 "RealSolver$Reader" "size" "I") (List.mem_of_getElem? (i := 2) rfl)) (fun _ h9 => h9) rfl dX7_readTerm_98 ?_
  refine lv_icmp_ge (tgt := 229) hx hb dX7_readTerm_101 (by decide) (fun c_7 => ?_) (fun c_7 => absurd (by decide) c_7)
  refine lv_iload hx hb dX7_readTerm_229 (lv_at hl 5 rfl) ?_
  refine lv_if_eq (tgt := 247) hx hb dX7_readTerm_231 (by decide) (fun c_8 => absurd c_8 (by decide)) (fun c_8 => ?_)
  refine lv_aload_n hx hb dX7_readTerm_234 rfl (lv_at hl 7 rfl) ?_
  refine va_get (D := (dC, dI)) (ci := 6) (v := .int 0) (C := RX7) (T := TX7) (N := 11) hx hb hts in_X7_readTerm_X7 hown hK hP 0 rfl rfl 2 (by decide) (hts (.fieldLink RX7 32 "RealSolver$Reader" "at" "I") (List.mem_of_getElem? (i := 1) rfl)) (fun _ h9 => h9) rfl dX7_readTerm_235 ?_
  refine lv_iload_n hx hb dX7_readTerm_238 rfl (lv_at hl 6 rfl) ?_
  refine lv_icmp_ne (tgt := 247) hx hb dX7_readTerm_239 (by decide) (fun c_9 => absurd (by decide) c_9) (fun c_9 => ?_)
  refine lv_aload_n hx hb dX7_readTerm_242 rfl (lv_at hl 7 rfl) ?_
  refine va_get (D := (dC, dI)) (ci := 6) (v := .int 0) (C := RX7) (T := TX7) (N := 11) hx hb hts in_X7_readTerm_X7 hown hK hP 0 rfl rfl 2 (by decide) (hts (.fieldLink RX7 32 "RealSolver$Reader" "at" "I") (List.mem_of_getElem? (i := 1) rfl)) (fun _ h9 => h9) rfl dX7_readTerm_243 ?_
  refine W.widen (k := 0) (n := 0) (Nat.le_of_ble_eq_true rfl) (Nat.le_of_ble_eq_true rfl) ?_
  have hP9 := hP.sub (ws' := [(h0, .inr (6, [b0, .int 0, .int 0, b3, b4, b5, b6, b7, b8, b9, b10]))]) [0] rfl
  have hD9 := hD.sub (ws' := [(h0, .inr (6, [b0, .int 0, .int 0, b3, b4, b5, b6, b7, b8, b9, b10]))]) [0] (by decide) rfl
  have hK9 := hK.sub (tys' := []) [] rfl
  exact W.iret (v := 0) hx hb hr (fun t ht hW => ⟨⟨0, (), rfl, rfl, ⟨by rw [ht]; exact hP9, va_K.moved hW.alike hK9, hD9⟩⟩, hS.F ht⟩) hS.2.2 dX7_readTerm_246

def w_X7_readPolynomial : List Cond := .code yX7_readPolynomial cX7_readPolynomial 4 (some .int) :: ([.fieldLink RX7 25 "RealSolver$Reader" "firstTerm" "[I", .fieldLink RX7 64 "RealSolver$Reader" "polynomials" "I", .fieldLink RX7 61 "RealSolver$Reader" "terms" "I", .fieldLink RX7 32 "RealSolver$Reader" "at" "I", .fieldLink RX7 36 "RealSolver$Reader" "size" "I", .code yX7_atSign cX7_atSign 1 (some .boolean), .methodLink RX7 67 yX7_atSign, .instanceMethod yX7_atSign, .selects RX7 yX7_atSign yX7_atSign, .initialized RX7, .code yX7_atDigit cX7_atDigit 1 (some .boolean), .methodLink RX7 75 yX7_atDigit, .instanceMethod yX7_atDigit, .selects RX7 yX7_atDigit yX7_atDigit, .code yX7_readTerm cX7_readTerm 11 (some .int), .methodLink RX7 71 yX7_readTerm, .instanceMethod yX7_readTerm, .selects RX7 yX7_readTerm yX7_readTerm] ++ (wsX70 ++ ([] : List Cond)))
theorem in_X7_readPolynomial_X7 : ∀ w ∈ wsX70, w ∈ w_X7_readPolynomial := fun _ h => List.mem_cons_of_mem _ (List.mem_append_right _ (List.mem_append_left _ h))
set_option maxRecDepth 20000 in
theorem g_X7_readPolynomial_X7_atSign_67 : GoodIn w_X7_readPolynomial (wsV RX7 67 RX7 yX7_atSign w_X7_atSign) := goodIn_r _ [7, 8, 9, 10, 6, 4, 5, 19, 20, 21, 22, 23, 24, 25, 26, 27, 28, 29] (by decide +kernel) (by decide +kernel)
set_option maxRecDepth 20000 in
theorem g_X7_readPolynomial_X7_readTerm_71 : GoodIn w_X7_readPolynomial (wsV RX7 71 RX7 yX7_readTerm w_X7_readTerm) := goodIn_r _ [16, 17, 18, 10, 15, 4, 5, 11, 12, 13, 14, 10, 19, 20, 21, 22, 23, 24, 25, 26, 27, 28, 29] (by decide +kernel) (by decide +kernel)
set_option maxHeartbeats 4000000 in
set_option maxRecDepth 100000 in
theorem k_X7_readPolynomial (l : Launch) (dC : Nat → ClassId) (dI : Nat → Nat → Nat) (h0 : Nat) (b0 : Value) (b3 : Value) (b4 : Value) (b5 : Value) (b6 : Value) (b7 : Value) (qf : Nat) (cI : ClassId) (f : Nat → Int32) (sz : Nat) : Met l yX7_readPolynomial w_X7_readPolynomial ({ frames := 2, cells := 0, slots := 0, locals := 50 }) (va_Pc [.ref h0] (fun U => U.heap.size = sz ∧ va_P (dC, dI) cls_ [(h0, .inr (6, [b0, .int 0, .int 0, b3, b4, b5, b6, b7, .int 0, .ref qf, .int 0])), (qf, .inl (cI, 7, .inl f))] U.heap ∧ va_K (dC, dI) cls_ [(cI, .int)] U ∧ va_D (fun _ => True) [(h0, .inr (6, [b0, .int 0, .int 0, b3, b4, b5, b6, b7, .int 0, .ref qf, .int 0])), (qf, .inl (cI, 7, .inl f))] ∧ nx_ U)) (va_Qi (fun (r : Int32) (_ : Unit) => r = 0) (fun _ _ => True) (va_A [(h0, .inr (6, [b0, .int 0, .int 0, b3, b4, b5, b6, b7, .int 0, .ref qf, .int 0])), (qf, .inl (cI, 7, .inl f))] sz)) 0 0 (va_A [(h0, .inr (6, [b0, .int 0, .int 0, b3, b4, b5, b6, b7, .int 0, .ref qf, .int 0])), (qf, .inl (cI, 7, .inl f))] sz) := by
  refine Met.ofW (cc := cX7_readPolynomial) (maxL := 4) (ret := (some .int)) (by decide) rfl ?_
  intro p e s m args below meth c s₁ B hml hv
  obtain ⟨rfl, hsz, hP, hK, hD0, hNx⟩ := hv
  have hx := B.exec
  have hb := B.bytes
  have hr := B.returns
  have hts := atoms_spec (ws := w_X7_readPolynomial) B.pre
  have hown : s.vm.findClass RX7 = some m.cls := findClass_of_methodNamed B.named
  have hlocks := B.notSynchronized
  subst hsz
  have hD := hD0.self (sz := s.heap.size)
  generalize hAe : va_A [(h0, .inr (6, [b0, .int 0, .int 0, b3, b4, b5, b6, b7, .int 0, .ref qf, .int 0])), (qf, .inl (cI, 7, .inl f))] s.heap.size = A at hD ⊢
  have hA : ∀ q : Nat, s.heap.size ≤ q → A q := fun q h => by rw [← hAe]; exact Or.inr h
  have hS : va_S A s.heap s.heap [] := va_S.rf
  have hP : va_P (dC, dI) cls_ [(h0, .inr (6, [b0, .int 0, .int 0, b3, b4, b5, b6, b7, .int 0, .ref qf, .int 0])), (qf, .inl (cI, 7, .inl f))] s.heap := hP
  have hl := lv_entry ([.ref h0]) (n := 4) (Nat.le_of_ble_eq_true rfl)
  rw [lg_entry_eq]
  generalize (lg_sl ([.ref h0]) ++ List.replicate (4 - (lg_sl ([.ref h0])).length) Slot.unset).toArray = ls at hl ⊢
  have hl : lv_has ls 4 [(0, .ref h0)] := hl
  refine lv_iconst (v := -1) hx hb dX7_readPolynomial_0 (by decide) ?_
  refine lv_istore_n (lv' := [(1, .int (-1)), (0, .ref h0)]) hx hb dX7_readPolynomial_1 rfl hl (by decide) rfl (fun ls hl => ?_)
  refine lv_aload_n hx hb dX7_readPolynomial_2 rfl (lv_at hl 1 rfl) ?_
  refine va_get (D := (dC, dI)) (ci := 6) (v := .ref qf) (C := RX7) (T := TX7) (N := 11) hx hb hts in_X7_readPolynomial_X7 hown hK hP 0 rfl rfl 9 (by decide) (hts (.fieldLink RX7 25 "RealSolver$Reader" "firstTerm" "[I") (List.mem_of_getElem? (i := 1) rfl)) (fun _ h9 => h9) rfl dX7_readPolynomial_3 ?_
  refine lv_aload_n hx hb dX7_readPolynomial_6 rfl (lv_at hl 1 rfl) ?_
  refine va_get (D := (dC, dI)) (ci := 6) (v := .int 0) (C := RX7) (T := TX7) (N := 11) hx hb hts in_X7_readPolynomial_X7 hown hK hP 0 rfl rfl 10 (by decide) (hts (.fieldLink RX7 64 "RealSolver$Reader" "polynomials" "I") (List.mem_of_getElem? (i := 2) rfl)) (fun _ h9 => h9) rfl dX7_readPolynomial_7 ?_
  refine lv_aload_n hx hb dX7_readPolynomial_10 rfl (lv_at hl 1 rfl) ?_
  refine va_get (D := (dC, dI)) (ci := 6) (v := .int 0) (C := RX7) (T := TX7) (N := 11) hx hb hts in_X7_readPolynomial_X7 hown hK hP 0 rfl rfl 8 (by decide) (hts (.fieldLink RX7 61 "RealSolver$Reader" "terms" "I") (List.mem_of_getElem? (i := 3) rfl)) (fun _ h9 => h9) rfl dX7_readPolynomial_11 ?_
  refine va_iast hx hb hK hP hD hS 1 0 rfl rfl (by unfold vp_in; decide +kernel) dX7_readPolynomial_14 (fun H locs hP hD hS => ?_)
  obtain ⟨g_1, eg_1⟩ : ∃ g : Nat → Int32, g = upd f (Int32.toNatClampNeg 0) 0 := ⟨_, rfl⟩
  have hP : va_P (dC, dI) cls_ [(h0, .inr (6, [b0, .int 0, .int 0, b3, b4, b5, b6, b7, .int 0, .ref qf, .int 0])), (qf, .inl (cI, 7, .inl g_1))] H := by rw [eg_1]; exact hP
  have hD : va_D A [(h0, .inr (6, [b0, .int 0, .int 0, b3, b4, b5, b6, b7, .int 0, .ref qf, .int 0])), (qf, .inl (cI, 7, .inl g_1))] := by rw [eg_1]; exact hD
  refine lv_iconst (v := 0) hx hb dX7_readPolynomial_15 (by decide) ?_
  refine lv_istore_n (lv' := [(2, .int 0), (1, .int (-1)), (0, .ref h0)]) hx hb dX7_readPolynomial_16 rfl hl (by decide) rfl (fun ls hl => ?_)
  refine lv_iload_n hx hb dX7_readPolynomial_17 rfl (lv_at hl 0 rfl) ?_
  refine lv_sipush (v := 800) hx hb dX7_readPolynomial_18 (by decide) ?_
  refine lv_icmp_ge (tgt := 92) hx hb dX7_readPolynomial_21 (by decide) (fun c_2 => absurd c_2 (by decide)) (fun c_2 => ?_)
  refine lv_iload_n hx hb dX7_readPolynomial_24 rfl (lv_at hl 1 rfl) ?_
  refine lv_if_ge (tgt := 92) hx hb dX7_readPolynomial_25 (by decide) (fun c_3 => absurd c_3 (by decide)) (fun c_3 => ?_)
  refine lv_aload_n hx hb dX7_readPolynomial_28 rfl (lv_at hl 2 rfl) ?_
  refine va_get (D := (dC, dI)) (ci := 6) (v := .int 0) (C := RX7) (T := TX7) (N := 11) hx hb hts in_X7_readPolynomial_X7 hown hK hP 0 rfl rfl 2 (by decide) (hts (.fieldLink RX7 32 "RealSolver$Reader" "at" "I") (List.mem_of_getElem? (i := 4) rfl)) (fun _ h9 => h9) rfl dX7_readPolynomial_29 ?_
  refine lv_aload_n hx hb dX7_readPolynomial_32 rfl (lv_at hl 2 rfl) ?_
  refine va_get (D := (dC, dI)) (ci := 6) (v := .int 0) (C := RX7) (T := TX7) (N := 11) hx hb hts in_X7_readPolynomial_X7 hown hK hP 0 rfl rfl 1 (by decide) (hts (.fieldLink RX7 36 "RealSolver$Reader" "size" "I") (List.mem_of_getElem? (i := 5) rfl)) (fun _ h9 => h9) rfl dX7_readPolynomial_33 ?_
  refine lv_icmp_ge (tgt := 57) hx hb dX7_readPolynomial_36 (by decide) (fun c_4 => ?_) (fun c_4 => absurd (by decide) c_4)
  refine lv_iconst (v := 0) hx hb dX7_readPolynomial_57 (by decide) ?_
  refine lv_istore_n (lv' := [(3, .int 0), (2, .int 0), (1, .int (-1)), (0, .ref h0)]) hx hb dX7_readPolynomial_58 rfl hl (by decide) rfl (fun ls hl => ?_)
  refine lv_aload_n hx hb dX7_readPolynomial_59 rfl (lv_at hl 3 rfl) ?_
  have hPc := hP.sub (ws' := [(h0, .inr (6, [b0, .int 0, .int 0, b3, b4, b5, b6, b7, .int 0, .ref qf, .int 0]))]) [0] rfl
  have hDc := hD.sub (ws' := [(h0, .inr (6, [b0, .int 0, .int 0, b3, b4, b5, b6, b7, .int 0, .ref qf, .int 0]))]) [0] (by decide) rfl
  have hKc := hK.sub (tys' := []) [] rfl
  have hFc := va_free (wc := [(h0, .inr (6, [b0, .int 0, .int 0, b3, b4, b5, b6, b7, .int 0, .ref qf, .int 0]))]) hD hS hA [0] rfl
  refine va_calli (va_runV (As := []) (rest := []) ⟨hx, hb, hml, hown, hts⟩ (k_X7_atSign l dC dI h0 b0 b3 b4 b5 b6 b7 (.int 0) (.ref qf) (.int 0) H.size) (cwV 0 hts g_X7_readPolynomial_X7_atSign_67 rfl rfl rfl (by decide +kernel) ⟨Nat.le_of_ble_eq_true rfl, Nat.le_of_ble_eq_true rfl⟩) ⟨fun a U g mk q => by obtain ⟨q0, q1, qP, qK, qD, qN⟩ := q; exact ⟨q0, q1, qP, va_K.moved (u := U) (U := U.calling g mk a) (Vm.Alike.refl U.vm) qK, qD, nx_.same rfl qN⟩, va_recv hKc hPc (ci := 6) (q0 := 0) rfl rfl, fun U hU hW => ⟨rfl, by rw [hU], by rw [hU]; exact hPc, va_K.moved hW.alike hKc, hDc.weaken (fun _ _ _ _ => trivial), nx_.warm hW hNx⟩⟩ rfl rfl hl.1 rfl (lv_room (Nat.le_of_ble_eq_true rfl)) dX7_readPolynomial_60 ⟨Nat.le_of_ble_eq_true rfl, Nat.le_of_ble_eq_true rfl⟩) hS (fun q _ h => hFc q h) hFc (fun r_5 u t H1 locs ht hvm hw hB hz1 hk1 hS => ?_)
  try dsimp only at hw
  obtain ⟨hP1, hK1, hD1⟩ := hB
  rw [ht] at hP1
  obtain ⟨hP, hD⟩ := va_join (wr := [(qf, .inl (cI, 7, .inl g_1))]) (w1 := [(h0, .inr (6, [b0, .int 0, .int 0, b3, b4, b5, b6, b7, .int 0, .ref qf, .int 0]))]) hP hD [0] [1] rfl rfl (by decide) (by decide) hk1 hFc hP1 hD1
  generalize H1 = H at hP hS ⊢
  have hP : va_P (dC, dI) cls_ [(qf, .inl (cI, 7, .inl g_1)), (h0, .inr (6, [b0, .int 0, .int 0, b3, b4, b5, b6, b7, .int 0, .ref qf, .int 0]))] H := hP
  have hD : va_D A [(qf, .inl (cI, 7, .inl g_1)), (h0, .inr (6, [b0, .int 0, .int 0, b3, b4, b5, b6, b7, .int 0, .ref qf, .int 0]))] := hD
  refine W.widen (k := 0) (n := 0) (Nat.le_of_ble_eq_true rfl) (Nat.le_of_ble_eq_true rfl) ?_
  obtain rfl : (0 : Int32) = r_5 := Eq.symm hw
  refine lv_if_eq (tgt := 70) hx hb dX7_readPolynomial_63 (by decide) (fun c_6 => ?_) (fun c_6 => absurd (by decide) c_6)
  refine lv_aload_n hx hb dX7_readPolynomial_70 rfl (lv_at hl 3 rfl) ?_
  refine lv_iload_n hx hb dX7_readPolynomial_71 rfl (lv_at hl 0 rfl) ?_
  have hPc := hP.sub (ws' := [(h0, .inr (6, [b0, .int 0, .int 0, b3, b4, b5, b6, b7, .int 0, .ref qf, .int 0]))]) [1] rfl
  have hDc := hD.sub (ws' := [(h0, .inr (6, [b0, .int 0, .int 0, b3, b4, b5, b6, b7, .int 0, .ref qf, .int 0]))]) [1] (by decide) rfl
  have hKc := hK.sub (tys' := []) [] rfl
  have hFc := va_free (wc := [(h0, .inr (6, [b0, .int 0, .int 0, b3, b4, b5, b6, b7, .int 0, .ref qf, .int 0]))]) hD hS hA [1] rfl
  refine va_calli (va_runV (As := [.int 0]) (rest := []) ⟨hx, hb, hml, hown, hts⟩ (k_X7_readTerm l dC dI h0 b0 b3 b4 b5 b6 b7 (.int 0) (.ref qf) (.int 0) H.size) (cwV 1 hts g_X7_readPolynomial_X7_readTerm_71 rfl rfl rfl (by decide +kernel) ⟨Nat.le_of_ble_eq_true rfl, Nat.le_of_ble_eq_true rfl⟩) ⟨fun a U g mk q => by obtain ⟨q0, q1, qP, qK, qD, qN⟩ := q; exact ⟨q0, q1, qP, va_K.moved (u := U) (U := U.calling g mk a) (Vm.Alike.refl U.vm) qK, qD, nx_.same rfl qN⟩, va_recv hKc hPc (ci := 6) (q0 := 0) rfl rfl, fun U hU hW => ⟨rfl, by rw [hU], by rw [hU]; exact hPc, va_K.moved hW.alike hKc, hDc.weaken (fun _ _ _ _ => trivial), nx_.warm hW hNx⟩⟩ rfl rfl hl.1 rfl (lv_room (Nat.le_of_ble_eq_true rfl)) dX7_readPolynomial_72 ⟨Nat.le_of_ble_eq_true rfl, Nat.le_of_ble_eq_true rfl⟩) hS (fun q _ h => hFc q h) hFc (fun r_7 u t H1 locs ht hvm hw hB hz1 hk1 hS => ?_)
  try dsimp only at hw
  obtain ⟨hP1, hK1, hD1⟩ := hB
  rw [ht] at hP1
  obtain ⟨hP, hD⟩ := va_join (wr := [(qf, .inl (cI, 7, .inl g_1))]) (w1 := [(h0, .inr (6, [b0, .int 0, .int 0, b3, b4, b5, b6, b7, .int 0, .ref qf, .int 0]))]) hP hD [1] [0] rfl rfl (by decide) (by decide) hk1 hFc hP1 hD1
  generalize H1 = H at hP hS ⊢
  have hP : va_P (dC, dI) cls_ [(qf, .inl (cI, 7, .inl g_1)), (h0, .inr (6, [b0, .int 0, .int 0, b3, b4, b5, b6, b7, .int 0, .ref qf, .int 0]))] H := hP
  have hD : va_D A [(qf, .inl (cI, 7, .inl g_1)), (h0, .inr (6, [b0, .int 0, .int 0, b3, b4, b5, b6, b7, .int 0, .ref qf, .int 0]))] := hD
  refine W.widen (k := 0) (n := 0) (Nat.le_of_ble_eq_true rfl) (Nat.le_of_ble_eq_true rfl) ?_
  obtain rfl : (0 : Int32) = r_7 := Eq.symm hw
  refine lv_istore_n (lv' := [(1, .int 0), (3, .int 0), (2, .int 0), (0, .ref h0)]) hx hb dX7_readPolynomial_75 rfl hl (by decide) rfl (fun ls hl => ?_)
  refine lv_aload_n hx hb dX7_readPolynomial_76 rfl (lv_at hl 3 rfl) ?_
  have hPc := hP.sub (ws' := [(h0, .inr (6, [b0, .int 0, .int 0, b3, b4, b5, b6, b7, .int 0, .ref qf, .int 0]))]) [1] rfl
  have hDc := hD.sub (ws' := [(h0, .inr (6, [b0, .int 0, .int 0, b3, b4, b5, b6, b7, .int 0, .ref qf, .int 0]))]) [1] (by decide) rfl
  have hKc := hK.sub (tys' := []) [] rfl
  have hFc := va_free (wc := [(h0, .inr (6, [b0, .int 0, .int 0, b3, b4, b5, b6, b7, .int 0, .ref qf, .int 0]))]) hD hS hA [1] rfl
  refine va_calli (va_runV (As := []) (rest := []) ⟨hx, hb, hml, hown, hts⟩ (k_X7_atSign l dC dI h0 b0 b3 b4 b5 b6 b7 (.int 0) (.ref qf) (.int 0) H.size) (cwV 0 hts g_X7_readPolynomial_X7_atSign_67 rfl rfl rfl (by decide +kernel) ⟨Nat.le_of_ble_eq_true rfl, Nat.le_of_ble_eq_true rfl⟩) ⟨fun a U g mk q => by obtain ⟨q0, q1, qP, qK, qD, qN⟩ := q; exact ⟨q0, q1, qP, va_K.moved (u := U) (U := U.calling g mk a) (Vm.Alike.refl U.vm) qK, qD, nx_.same rfl qN⟩, va_recv hKc hPc (ci := 6) (q0 := 0) rfl rfl, fun U hU hW => ⟨rfl, by rw [hU], by rw [hU]; exact hPc, va_K.moved hW.alike hKc, hDc.weaken (fun _ _ _ _ => trivial), nx_.warm hW hNx⟩⟩ rfl rfl hl.1 rfl (lv_room (Nat.le_of_ble_eq_true rfl)) dX7_readPolynomial_77 ⟨Nat.le_of_ble_eq_true rfl, Nat.le_of_ble_eq_true rfl⟩) hS (fun q _ h => hFc q h) hFc (fun r_8 u t H1 locs ht hvm hw hB hz1 hk1 hS => ?_)
  try dsimp only at hw
  obtain ⟨hP1, hK1, hD1⟩ := hB
  rw [ht] at hP1
  obtain ⟨hP, hD⟩ := va_join (wr := [(qf, .inl (cI, 7, .inl g_1))]) (w1 := [(h0, .inr (6, [b0, .int 0, .int 0, b3, b4, b5, b6, b7, .int 0, .ref qf, .int 0]))]) hP hD [1] [0] rfl rfl (by decide) (by decide) hk1 hFc hP1 hD1
  generalize H1 = H at hP hS ⊢
  have hP : va_P (dC, dI) cls_ [(qf, .inl (cI, 7, .inl g_1)), (h0, .inr (6, [b0, .int 0, .int 0, b3, b4, b5, b6, b7, .int 0, .ref qf, .int 0]))] H := hP
  have hD : va_D A [(qf, .inl (cI, 7, .inl g_1)), (h0, .inr (6, [b0, .int 0, .int 0, b3, b4, b5, b6, b7, .int 0, .ref qf, .int 0]))] := hD
  refine W.widen (k := 0) (n := 0) (Nat.le_of_ble_eq_true rfl) (Nat.le_of_ble_eq_true rfl) ?_
  obtain rfl : (0 : Int32) = r_8 := Eq.symm hw
  refine lv_if_ne (tgt := 86) hx hb dX7_readPolynomial_80 (by decide) (fun c_9 => absurd (by decide) c_9) (fun c_9 => ?_)
  refine lv_goto (tgt := 92) hx hb dX7_readPolynomial_83 (by decide) ?_
  refine lv_aload_n hx hb dX7_readPolynomial_92 rfl (lv_at hl 3 rfl) ?_
  refine lv_dup hx hb dX7_readPolynomial_93 rfl ?_
  refine va_get (D := (dC, dI)) (ci := 6) (v := .int 0) (C := RX7) (T := TX7) (N := 11) hx hb hts in_X7_readPolynomial_X7 hown hK hP 1 rfl rfl 10 (by decide) (hts (.fieldLink RX7 64 "RealSolver$Reader" "polynomials" "I") (List.mem_of_getElem? (i := 2) rfl)) (fun _ h9 => h9) rfl dX7_readPolynomial_94 ?_
  refine lv_iconst (v := 1) hx hb dX7_readPolynomial_97 (by decide) ?_
  refine lv_iadd hx hb dX7_readPolynomial_98 ?_
  refine lv_topi (fun f_10 ef_10 => ?_)
  obtain rfl : f_10 = 1 := ef_10.trans (by decide)
  refine va_put (D := (dC, dI)) (ci := 6) (v := .int 1) (ty := .int) (C := RX7) (T := TX7) (N := 11) hx hb hts in_X7_readPolynomial_X7 tyX7 tyX7_ok nmX7 hown hK hP hD hS 1 rfl rfl 10 (by decide) (hts (.fieldLink RX7 64 "RealSolver$Reader" "polynomials" "I") (List.mem_of_getElem? (i := 2) rfl)) (fun _ h9 => h9) rfl (by decide +kernel) rfl rfl (Nat.le_of_ble_eq_true rfl) dX7_readPolynomial_99 (fun H locs hP hD hS => ?_)
  have hP : va_P (dC, dI) cls_ [(qf, .inl (cI, 7, .inl g_1)), (h0, .inr (6, [b0, .int 0, .int 0, b3, b4, b5, b6, b7, .int 0, .ref qf, .int 1]))] H := hP
  have hD : va_D A [(qf, .inl (cI, 7, .inl g_1)), (h0, .inr (6, [b0, .int 0, .int 0, b3, b4, b5, b6, b7, .int 0, .ref qf, .int 1]))] := hD
  refine lv_aload_n hx hb dX7_readPolynomial_102 rfl (lv_at hl 3 rfl) ?_
  refine va_get (D := (dC, dI)) (ci := 6) (v := .ref qf) (C := RX7) (T := TX7) (N := 11) hx hb hts in_X7_readPolynomial_X7 hown hK hP 1 rfl rfl 9 (by decide) (hts (.fieldLink RX7 25 "RealSolver$Reader" "firstTerm" "[I") (List.mem_of_getElem? (i := 1) rfl)) (fun _ h9 => h9) rfl dX7_readPolynomial_103 ?_
  refine lv_aload_n hx hb dX7_readPolynomial_106 rfl (lv_at hl 3 rfl) ?_
  refine va_get (D := (dC, dI)) (ci := 6) (v := .int 1) (C := RX7) (T := TX7) (N := 11) hx hb hts in_X7_readPolynomial_X7 hown hK hP 1 rfl rfl 10 (by decide) (hts (.fieldLink RX7 64 "RealSolver$Reader" "polynomials" "I") (List.mem_of_getElem? (i := 2) rfl)) (fun _ h9 => h9) rfl dX7_readPolynomial_107 ?_
  refine lv_aload_n hx hb dX7_readPolynomial_110 rfl (lv_at hl 3 rfl) ?_
  refine va_get (D := (dC, dI)) (ci := 6) (v := .int 0) (C := RX7) (T := TX7) (N := 11) hx hb hts in_X7_readPolynomial_X7 hown hK hP 1 rfl rfl 8 (by decide) (hts (.fieldLink RX7 61 "RealSolver$Reader" "terms" "I") (List.mem_of_getElem? (i := 3) rfl)) (fun _ h9 => h9) rfl dX7_readPolynomial_111 ?_
  refine va_iast hx hb hK hP hD hS 0 0 rfl rfl (by unfold vp_in; decide +kernel) dX7_readPolynomial_114 (fun H locs hP hD hS => ?_)
  obtain ⟨g_11, eg_11⟩ : ∃ g : Nat → Int32, g = upd g_1 (Int32.toNatClampNeg 1) 0 := ⟨_, rfl⟩
  have hP : va_P (dC, dI) cls_ [(qf, .inl (cI, 7, .inl g_11)), (h0, .inr (6, [b0, .int 0, .int 0, b3, b4, b5, b6, b7, .int 0, .ref qf, .int 1]))] H := by rw [eg_11]; exact hP
  have hD : va_D A [(qf, .inl (cI, 7, .inl g_11)), (h0, .inr (6, [b0, .int 0, .int 0, b3, b4, b5, b6, b7, .int 0, .ref qf, .int 1]))] := by rw [eg_11]; exact hD
  refine lv_iload_n hx hb dX7_readPolynomial_115 rfl (lv_at hl 0 rfl) ?_
  refine W.widen (k := 0) (n := 0) (Nat.le_of_ble_eq_true rfl) (Nat.le_of_ble_eq_true rfl) ?_
  exact W.iret (v := 0) hx hb hr (fun t ht hW => ⟨⟨0, (), rfl, rfl, trivial⟩, hS.F ht⟩) hS.2.2 dX7_readPolynomial_116

def w_X7_begin : List Cond := .code yX7_begin cX7_begin 5 none :: ([.fieldLink RX7 9 "RealSolver$Reader" "bytes" "[B", .methodLink RX7 49 Lib.Math.min.name, .static Lib.Math.min.name, .initialized "java/lang/Math", .code Lib.Math.min.name Lib.Math.min.code 2 (some .int), .fieldLink RX7 36 "RealSolver$Reader" "size" "I", .fieldLink RX7 55 "RealSolver$Reader" "variableCount" "I", .fieldLink RX7 58 "RealSolver$Reader" "mostDegree" "I", .fieldLink RX7 61 "RealSolver$Reader" "terms" "I", .fieldLink RX7 64 "RealSolver$Reader" "polynomials" "I", .fieldLink RX7 32 "RealSolver$Reader" "at" "I", .code yX7_step cX7_step 2 none, .methodLink RX7 43 yX7_step, .instanceMethod yX7_step, .selects RX7 yX7_step yX7_step, .initialized RX7] ++ (wsX70 ++ ([] : List Cond)))
theorem in_X7_begin_X7 : ∀ w ∈ wsX70, w ∈ w_X7_begin := fun _ h => List.mem_cons_of_mem _ (List.mem_append_right _ (List.mem_append_left _ h))
set_option maxRecDepth 20000 in
theorem g_X7_begin_X7_step_43 : GoodIn w_X7_begin (wsV RX7 43 RX7 yX7_step w_X7_step) := goodIn_r _ [13, 14, 15, 16, 12, 11, 6, 2, 3, 4, 5, 17, 18, 19, 20, 21, 22, 23, 24, 25, 26, 27] (by decide +kernel) (by decide +kernel)
set_option maxHeartbeats 4000000 in
set_option maxRecDepth 100000 in
theorem k_X7_begin (l : Launch) (dC : Nat → ClassId) (dI : Nat → Nat → Nat) (h0 : Nat) (b0 : Value) (b1 : Value) (b2 : Value) (b3 : Value) (b4 : Value) (b5 : Value) (b6 : Value) (b7 : Value) (b8 : Value) (b9 : Value) (b10 : Value) (qt : Nat) (cB : ClassId) (f : Nat → Int32) (sz : Nat) : Met l yX7_begin w_X7_begin ({ frames := 2, cells := 0, slots := 0, locals := 35 }) (va_Pc [.ref h0, .ref qt, .int 0, .int 2, .int 3] (fun U => U.heap.size = sz ∧ va_P (dC, dI) cls_ [(h0, .inr (6, [b0, b1, b2, b3, b4, b5, b6, b7, b8, b9, b10])), (qt, .inl (cB, 800, .inl f))] U.heap ∧ va_K (dC, dI) cls_ [(cB, .byte)] U ∧ va_D (fun _ => True) [(h0, .inr (6, [b0, b1, b2, b3, b4, b5, b6, b7, b8, b9, b10])), (qt, .inl (cB, 800, .inl f))] ∧ nx_ U)) (va_Qv (fun _ : Unit => True) (fun _ t => va_P (dC, dI) cls_ [(h0, .inr (6, [.ref qt, .int 0, .int 0, .int 2, .int 3, b5, b6, b7, .int 0, b9, .int 0]))] t.heap ∧ va_K (dC, dI) cls_ [] t ∧ va_D (va_A [(h0, .inr (6, [b0, b1, b2, b3, b4, b5, b6, b7, b8, b9, b10])), (qt, .inl (cB, 800, .inl f))] sz) [(h0, .inr (6, [.ref qt, .int 0, .int 0, .int 2, .int 3, b5, b6, b7, .int 0, b9, .int 0]))]) (va_A [(h0, .inr (6, [b0, b1, b2, b3, b4, b5, b6, b7, b8, b9, b10])), (qt, .inl (cB, 800, .inl f))] sz)) 0 0 (va_A [(h0, .inr (6, [b0, b1, b2, b3, b4, b5, b6, b7, b8, b9, b10])), (qt, .inl (cB, 800, .inl f))] sz) := by
  refine Met.ofW (cc := cX7_begin) (maxL := 5) (ret := none) (by decide) rfl ?_
  intro p e s m args below meth c s₁ B hml hv
  obtain ⟨rfl, hsz, hP, hK, hD0, hNx⟩ := hv
  have hx := B.exec
  have hb := B.bytes
  have hr := B.returns
  have hts := atoms_spec (ws := w_X7_begin) B.pre
  have hown : s.vm.findClass RX7 = some m.cls := findClass_of_methodNamed B.named
  have hlocks := B.notSynchronized
  subst hsz
  have hD := hD0.self (sz := s.heap.size)
  generalize hAe : va_A [(h0, .inr (6, [b0, b1, b2, b3, b4, b5, b6, b7, b8, b9, b10])), (qt, .inl (cB, 800, .inl f))] s.heap.size = A at hD ⊢
  have hA : ∀ q : Nat, s.heap.size ≤ q → A q := fun q h => by rw [← hAe]; exact Or.inr h
  have hS : va_S A s.heap s.heap [] := va_S.rf
  have hP : va_P (dC, dI) cls_ [(h0, .inr (6, [b0, b1, b2, b3, b4, b5, b6, b7, b8, b9, b10])), (qt, .inl (cB, 800, .inl f))] s.heap := hP
  have hl := lv_entry ([.ref h0, .ref qt, .int 0, .int 2, .int 3]) (n := 5) (Nat.le_of_ble_eq_true rfl)
  rw [lg_entry_eq]
  generalize (lg_sl ([.ref h0, .ref qt, .int 0, .int 2, .int 3]) ++ List.replicate (5 - (lg_sl ([.ref h0, .ref qt, .int 0, .int 2, .int 3])).length) Slot.unset).toArray = ls at hl ⊢
  have hl : lv_has ls 5 [(0, .ref h0), (1, .ref qt), (2, .int 0), (3, .int 2), (4, .int 3)] := hl
  refine lv_aload_n hx hb dX7_begin_0 rfl (lv_at hl 0 rfl) ?_
  refine lv_aload_n hx hb dX7_begin_1 rfl (lv_at hl 1 rfl) ?_
  refine va_put (D := (dC, dI)) (ci := 6) (v := .ref qt) (ty := .array .byte) (C := RX7) (T := TX7) (N := 11) hx hb hts in_X7_begin_X7 tyX7 tyX7_ok nmX7 hown hK hP hD hS 0 rfl rfl 0 (by decide) (hts (.fieldLink RX7 9 "RealSolver$Reader" "bytes" "[B") (List.mem_of_getElem? (i := 1) rfl)) (fun _ h9 => h9) rfl (by decide +kernel) rfl rfl (Nat.le_of_ble_eq_true rfl) dX7_begin_2 (fun H locs hP hD hS => ?_)
  have hP : va_P (dC, dI) cls_ [(h0, .inr (6, [.ref qt, b1, b2, b3, b4, b5, b6, b7, b8, b9, b10])), (qt, .inl (cB, 800, .inl f))] H := hP
  have hD : va_D A [(h0, .inr (6, [.ref qt, b1, b2, b3, b4, b5, b6, b7, b8, b9, b10])), (qt, .inl (cB, 800, .inl f))] := hD
  refine lv_aload_n hx hb dX7_begin_5 rfl (lv_at hl 0 rfl) ?_
  refine lv_iload_n hx hb dX7_begin_6 rfl (lv_at hl 2 rfl) ?_
  refine lv_aload_n hx hb dX7_begin_7 rfl (lv_at hl 1 rfl) ?_
  refine va_alen (v := 800) hx hb hK hP 1 0 rfl rfl rfl dX7_begin_8 ?_
  refine va_mmin hx hb (by rw [hml]; exact hl.1.symm) hown (hts (.methodLink RX7 49 Lib.Math.min.name) (List.mem_of_getElem? (i := 2) rfl)) (hts (.static Lib.Math.min.name) (List.mem_of_getElem? (i := 3) rfl)) (hts (.initialized "java/lang/Math") (List.mem_of_getElem? (i := 4) rfl)) (hts (.code Lib.Math.min.name Lib.Math.min.code 2 (some .int)) (List.mem_of_getElem? (i := 5) rfl)) (Nat.le_of_ble_eq_true rfl) (Nat.le_of_ble_eq_true rfl) (Nat.le_of_ble_eq_true rfl) (Nat.le_of_ble_eq_true rfl) dX7_begin_9 ?_
  refine lv_topi (fun f_1 ef_1 => ?_)
  obtain rfl : f_1 = 0 := ef_1.trans (by decide)
  refine va_put (D := (dC, dI)) (ci := 6) (v := .int 0) (ty := .int) (C := RX7) (T := TX7) (N := 11) hx hb hts in_X7_begin_X7 tyX7 tyX7_ok nmX7 hown hK hP hD hS 0 rfl rfl 1 (by decide) (hts (.fieldLink RX7 36 "RealSolver$Reader" "size" "I") (List.mem_of_getElem? (i := 6) rfl)) (fun _ h9 => h9) rfl (by decide +kernel) rfl rfl (Nat.le_of_ble_eq_true rfl) dX7_begin_12 (fun H locs hP hD hS => ?_)
  have hP : va_P (dC, dI) cls_ [(h0, .inr (6, [.ref qt, .int 0, b2, b3, b4, b5, b6, b7, b8, b9, b10])), (qt, .inl (cB, 800, .inl f))] H := hP
  have hD : va_D A [(h0, .inr (6, [.ref qt, .int 0, b2, b3, b4, b5, b6, b7, b8, b9, b10])), (qt, .inl (cB, 800, .inl f))] := hD
  refine lv_aload_n hx hb dX7_begin_15 rfl (lv_at hl 0 rfl) ?_
  refine lv_iload_n hx hb dX7_begin_16 rfl (lv_at hl 3 rfl) ?_
  refine va_put (D := (dC, dI)) (ci := 6) (v := .int 2) (ty := .int) (C := RX7) (T := TX7) (N := 11) hx hb hts in_X7_begin_X7 tyX7 tyX7_ok nmX7 hown hK hP hD hS 0 rfl rfl 3 (by decide) (hts (.fieldLink RX7 55 "RealSolver$Reader" "variableCount" "I") (List.mem_of_getElem? (i := 7) rfl)) (fun _ h9 => h9) rfl (by decide +kernel) rfl rfl (Nat.le_of_ble_eq_true rfl) dX7_begin_17 (fun H locs hP hD hS => ?_)
  have hP : va_P (dC, dI) cls_ [(h0, .inr (6, [.ref qt, .int 0, b2, .int 2, b4, b5, b6, b7, b8, b9, b10])), (qt, .inl (cB, 800, .inl f))] H := hP
  have hD : va_D A [(h0, .inr (6, [.ref qt, .int 0, b2, .int 2, b4, b5, b6, b7, b8, b9, b10])), (qt, .inl (cB, 800, .inl f))] := hD
  refine lv_aload_n hx hb dX7_begin_20 rfl (lv_at hl 0 rfl) ?_
  refine lv_iload hx hb dX7_begin_21 (lv_at hl 4 rfl) ?_
  refine va_put (D := (dC, dI)) (ci := 6) (v := .int 3) (ty := .int) (C := RX7) (T := TX7) (N := 11) hx hb hts in_X7_begin_X7 tyX7 tyX7_ok nmX7 hown hK hP hD hS 0 rfl rfl 4 (by decide) (hts (.fieldLink RX7 58 "RealSolver$Reader" "mostDegree" "I") (List.mem_of_getElem? (i := 8) rfl)) (fun _ h9 => h9) rfl (by decide +kernel) rfl rfl (Nat.le_of_ble_eq_true rfl) dX7_begin_23 (fun H locs hP hD hS => ?_)
  have hP : va_P (dC, dI) cls_ [(h0, .inr (6, [.ref qt, .int 0, b2, .int 2, .int 3, b5, b6, b7, b8, b9, b10])), (qt, .inl (cB, 800, .inl f))] H := hP
  have hD : va_D A [(h0, .inr (6, [.ref qt, .int 0, b2, .int 2, .int 3, b5, b6, b7, b8, b9, b10])), (qt, .inl (cB, 800, .inl f))] := hD
  refine lv_aload_n hx hb dX7_begin_26 rfl (lv_at hl 0 rfl) ?_
  refine lv_iconst (v := 0) hx hb dX7_begin_27 (by decide) ?_
  refine va_put (D := (dC, dI)) (ci := 6) (v := .int 0) (ty := .int) (C := RX7) (T := TX7) (N := 11) hx hb hts in_X7_begin_X7 tyX7 tyX7_ok nmX7 hown hK hP hD hS 0 rfl rfl 8 (by decide) (hts (.fieldLink RX7 61 "RealSolver$Reader" "terms" "I") (List.mem_of_getElem? (i := 9) rfl)) (fun _ h9 => h9) rfl (by decide +kernel) rfl rfl (Nat.le_of_ble_eq_true rfl) dX7_begin_28 (fun H locs hP hD hS => ?_)
  have hP : va_P (dC, dI) cls_ [(h0, .inr (6, [.ref qt, .int 0, b2, .int 2, .int 3, b5, b6, b7, .int 0, b9, b10])), (qt, .inl (cB, 800, .inl f))] H := hP
  have hD : va_D A [(h0, .inr (6, [.ref qt, .int 0, b2, .int 2, .int 3, b5, b6, b7, .int 0, b9, b10])), (qt, .inl (cB, 800, .inl f))] := hD
  refine lv_aload_n hx hb dX7_begin_31 rfl (lv_at hl 0 rfl) ?_
  refine lv_iconst (v := 0) hx hb dX7_begin_32 (by decide) ?_
  refine va_put (D := (dC, dI)) (ci := 6) (v := .int 0) (ty := .int) (C := RX7) (T := TX7) (N := 11) hx hb hts in_X7_begin_X7 tyX7 tyX7_ok nmX7 hown hK hP hD hS 0 rfl rfl 10 (by decide) (hts (.fieldLink RX7 64 "RealSolver$Reader" "polynomials" "I") (List.mem_of_getElem? (i := 10) rfl)) (fun _ h9 => h9) rfl (by decide +kernel) rfl rfl (Nat.le_of_ble_eq_true rfl) dX7_begin_33 (fun H locs hP hD hS => ?_)
  have hP : va_P (dC, dI) cls_ [(h0, .inr (6, [.ref qt, .int 0, b2, .int 2, .int 3, b5, b6, b7, .int 0, b9, .int 0])), (qt, .inl (cB, 800, .inl f))] H := hP
  have hD : va_D A [(h0, .inr (6, [.ref qt, .int 0, b2, .int 2, .int 3, b5, b6, b7, .int 0, b9, .int 0])), (qt, .inl (cB, 800, .inl f))] := hD
  refine lv_aload_n hx hb dX7_begin_36 rfl (lv_at hl 0 rfl) ?_
  refine lv_iconst (v := -1) hx hb dX7_begin_37 (by decide) ?_
  refine va_put (D := (dC, dI)) (ci := 6) (v := .int (-1)) (ty := .int) (C := RX7) (T := TX7) (N := 11) hx hb hts in_X7_begin_X7 tyX7 tyX7_ok nmX7 hown hK hP hD hS 0 rfl rfl 2 (by decide) (hts (.fieldLink RX7 32 "RealSolver$Reader" "at" "I") (List.mem_of_getElem? (i := 11) rfl)) (fun _ h9 => h9) rfl (by decide +kernel) rfl rfl (Nat.le_of_ble_eq_true rfl) dX7_begin_38 (fun H locs hP hD hS => ?_)
  have hP : va_P (dC, dI) cls_ [(h0, .inr (6, [.ref qt, .int 0, .int (-1), .int 2, .int 3, b5, b6, b7, .int 0, b9, .int 0])), (qt, .inl (cB, 800, .inl f))] H := hP
  have hD : va_D A [(h0, .inr (6, [.ref qt, .int 0, .int (-1), .int 2, .int 3, b5, b6, b7, .int 0, b9, .int 0])), (qt, .inl (cB, 800, .inl f))] := hD
  refine lv_aload_n hx hb dX7_begin_41 rfl (lv_at hl 0 rfl) ?_
  have hPc := hP.sub (ws' := [(h0, .inr (6, [.ref qt, .int 0, .int (-1), .int 2, .int 3, b5, b6, b7, .int 0, b9, .int 0]))]) [0] rfl
  have hDc := hD.sub (ws' := [(h0, .inr (6, [.ref qt, .int 0, .int (-1), .int 2, .int 3, b5, b6, b7, .int 0, b9, .int 0]))]) [0] (by decide) rfl
  have hKc := hK.sub (tys' := []) [] rfl
  have hFc := va_free (wc := [(h0, .inr (6, [.ref qt, .int 0, .int (-1), .int 2, .int 3, b5, b6, b7, .int 0, b9, .int 0]))]) hD hS hA [0] rfl
  refine va_callv (va_runV (As := []) (rest := []) ⟨hx, hb, hml, hown, hts⟩ (k_X7_step l dC dI h0 (.ref qt) (.int 2) (.int 3) b5 b6 b7 (.int 0) b9 (.int 0) H.size) (cwV 0 hts g_X7_begin_X7_step_43 rfl rfl rfl (by decide +kernel) ⟨Nat.le_of_ble_eq_true rfl, Nat.le_of_ble_eq_true rfl⟩) ⟨fun a U g mk q => by obtain ⟨q0, q1, qP, qK, qD, qN⟩ := q; exact ⟨q0, q1, qP, va_K.moved (u := U) (U := U.calling g mk a) (Vm.Alike.refl U.vm) qK, qD, nx_.same rfl qN⟩, va_recv hKc hPc (ci := 6) (q0 := 0) rfl rfl, fun U hU hW => ⟨rfl, by rw [hU], by rw [hU]; exact hPc, va_K.moved hW.alike hKc, hDc.weaken (fun _ _ _ _ => trivial), nx_.warm hW hNx⟩⟩ rfl rfl hl.1 rfl (lv_room (Nat.le_of_ble_eq_true rfl)) dX7_begin_42 ⟨Nat.le_of_ble_eq_true rfl, Nat.le_of_ble_eq_true rfl⟩) hS (fun q _ h => hFc q h) hFc (fun u t H1 locs ht hvm hw hB hz1 hk1 hS => ?_)
  try dsimp only at hw
  obtain ⟨hP1, hK1, hD1⟩ := hB
  rw [ht] at hP1
  obtain ⟨hP, hD⟩ := va_join (wr := [(qt, .inl (cB, 800, .inl f))]) (w1 := [(h0, .inr (6, [.ref qt, .int 0, .int 0, .int 2, .int 3, b5, b6, b7, .int 0, b9, .int 0]))]) hP hD [0] [1] rfl rfl (by decide) (by decide) hk1 hFc hP1 hD1
  generalize H1 = H at hP hS ⊢
  have hP : va_P (dC, dI) cls_ [(qt, .inl (cB, 800, .inl f)), (h0, .inr (6, [.ref qt, .int 0, .int 0, .int 2, .int 3, b5, b6, b7, .int 0, b9, .int 0]))] H := hP
  have hD : va_D A [(qt, .inl (cB, 800, .inl f)), (h0, .inr (6, [.ref qt, .int 0, .int 0, .int 2, .int 3, b5, b6, b7, .int 0, b9, .int 0]))] := hD
  refine W.widen (k := 0) (n := 0) (Nat.le_of_ble_eq_true rfl) (Nat.le_of_ble_eq_true rfl) ?_
  refine W.widen (k := 0) (n := 0) (Nat.le_of_ble_eq_true rfl) (Nat.le_of_ble_eq_true rfl) ?_
  have hP9 := hP.sub (ws' := [(h0, .inr (6, [.ref qt, .int 0, .int 0, .int 2, .int 3, b5, b6, b7, .int 0, b9, .int 0]))]) [1] rfl
  have hD9 := hD.sub (ws' := [(h0, .inr (6, [.ref qt, .int 0, .int 0, .int 2, .int 3, b5, b6, b7, .int 0, b9, .int 0]))]) [1] (by decide) rfl
  have hK9 := hK.sub (tys' := []) [] rfl
  exact W.vret hx hb hr (fun t ht hW => ⟨⟨(), rfl, trivial, ⟨by rw [ht]; exact hP9, va_K.moved hW.alike hK9, hD9⟩⟩, hS.F ht⟩) hS.2.2 dX7_begin_45

def w_X7_readSystem : List Cond := .code yX7_readSystem cX7_readSystem 6 (some .int) :: ([.fieldLink RX7 9 "RealSolver$Reader" "bytes" "[B", .methodLink RX7 49 Lib.Math.min.name, .static Lib.Math.min.name, .initialized "java/lang/Math", .code Lib.Math.min.name Lib.Math.min.code 2 (some .int), .fieldLink RX7 36 "RealSolver$Reader" "size" "I", .fieldLink RX7 55 "RealSolver$Reader" "variableCount" "I", .fieldLink RX7 58 "RealSolver$Reader" "mostDegree" "I", .fieldLink RX7 61 "RealSolver$Reader" "terms" "I", .fieldLink RX7 64 "RealSolver$Reader" "polynomials" "I", .fieldLink RX7 32 "RealSolver$Reader" "at" "I", .code yX7_step cX7_step 2 none, .methodLink RX7 43 yX7_step, .instanceMethod yX7_step, .selects RX7 yX7_step yX7_step, .initialized RX7, .code yX7_begin cX7_begin 5 none, .methodLink RX7 28 yX7_begin, .instanceMethod yX7_begin, .selects RX7 yX7_begin yX7_begin, .fieldLink RX7 25 "RealSolver$Reader" "firstTerm" "[I", .code yX7_atSign cX7_atSign 1 (some .boolean), .methodLink RX7 67 yX7_atSign, .instanceMethod yX7_atSign, .selects RX7 yX7_atSign yX7_atSign, .code yX7_atDigit cX7_atDigit 1 (some .boolean), .methodLink RX7 75 yX7_atDigit, .instanceMethod yX7_atDigit, .selects RX7 yX7_atDigit yX7_atDigit, .code yX7_readTerm cX7_readTerm 11 (some .int), .methodLink RX7 71 yX7_readTerm, .instanceMethod yX7_readTerm, .selects RX7 yX7_readTerm yX7_readTerm, .code yX7_readPolynomial cX7_readPolynomial 4 (some .int), .methodLink RX7 39 yX7_readPolynomial, .instanceMethod yX7_readPolynomial, .selects RX7 yX7_readPolynomial yX7_readPolynomial] ++ (wsX70 ++ ([] : List Cond)))
theorem in_X7_readSystem_X7 : ∀ w ∈ wsX70, w ∈ w_X7_readSystem := fun _ h => List.mem_cons_of_mem _ (List.mem_append_right _ (List.mem_append_left _ h))
set_option maxRecDepth 20000 in
theorem g_X7_readSystem_X7_begin_28 : GoodIn w_X7_readSystem (wsV RX7 28 RX7 yX7_begin w_X7_begin) := goodIn_r _ [18, 19, 20, 16, 17, 1, 2, 3, 4, 5, 6, 7, 8, 9, 10, 11, 12, 13, 14, 15, 16, 38, 39, 40, 41, 42, 43, 44, 45, 46, 47, 48] (by decide +kernel) (by decide +kernel)
set_option maxRecDepth 20000 in
theorem g_X7_readSystem_X7_readPolynomial_39 : GoodIn w_X7_readSystem (wsV RX7 39 RX7 yX7_readPolynomial w_X7_readPolynomial) := goodIn_r _ [35, 36, 37, 16, 34, 21, 10, 9, 11, 6, 22, 23, 24, 25, 16, 26, 27, 28, 29, 30, 31, 32, 33, 38, 39, 40, 41, 42, 43, 44, 45, 46, 47, 48] (by decide +kernel) (by decide +kernel)
set_option maxHeartbeats 4000000 in
set_option maxRecDepth 100000 in
theorem k_X7_readSystem (l : Launch) (dC : Nat → ClassId) (dI : Nat → Nat → Nat) (h0 : Nat) (b0 : Value) (b1 : Value) (b2 : Value) (b3 : Value) (b4 : Value) (b5 : Value) (b6 : Value) (b7 : Value) (b8 : Value) (b10 : Value) (qt : Nat) (qf : Nat) (cB : ClassId) (cI : ClassId) (f : Nat → Int32) (g : Nat → Int32) (sz : Nat) : Met l yX7_readSystem w_X7_readSystem ({ frames := 3, cells := 0, slots := 0, locals := 73 }) (va_Pc [.ref h0, .ref qt, .int 0, .int 2] (fun U => U.heap.size = sz ∧ va_P (dC, dI) cls_ [(h0, .inr (6, [b0, b1, b2, b3, b4, b5, b6, b7, b8, .ref qf, b10])), (qt, .inl (cB, 800, .inl f)), (qf, .inl (cI, 7, .inl g))] U.heap ∧ va_K (dC, dI) cls_ [(cB, .byte), (cI, .int)] U ∧ va_D (fun _ => True) [(h0, .inr (6, [b0, b1, b2, b3, b4, b5, b6, b7, b8, .ref qf, b10])), (qt, .inl (cB, 800, .inl f)), (qf, .inl (cI, 7, .inl g))] ∧ nx_ U)) (va_Qi (fun (r : Int32) (_ : Unit) => r = 0) (fun _ _ => True) (va_A [(h0, .inr (6, [b0, b1, b2, b3, b4, b5, b6, b7, b8, .ref qf, b10])), (qt, .inl (cB, 800, .inl f)), (qf, .inl (cI, 7, .inl g))] sz)) 0 0 (va_A [(h0, .inr (6, [b0, b1, b2, b3, b4, b5, b6, b7, b8, .ref qf, b10])), (qt, .inl (cB, 800, .inl f)), (qf, .inl (cI, 7, .inl g))] sz) := by
  refine Met.ofW (cc := cX7_readSystem) (maxL := 6) (ret := (some .int)) (by decide) rfl ?_
  intro p e s m args below meth c s₁ B hml hv
  obtain ⟨rfl, hsz, hP, hK, hD0, hNx⟩ := hv
  have hx := B.exec
  have hb := B.bytes
  have hr := B.returns
  have hts := atoms_spec (ws := w_X7_readSystem) B.pre
  have hown : s.vm.findClass RX7 = some m.cls := findClass_of_methodNamed B.named
  have hlocks := B.notSynchronized
  subst hsz
  have hD := hD0.self (sz := s.heap.size)
  generalize hAe : va_A [(h0, .inr (6, [b0, b1, b2, b3, b4, b5, b6, b7, b8, .ref qf, b10])), (qt, .inl (cB, 800, .inl f)), (qf, .inl (cI, 7, .inl g))] s.heap.size = A at hD ⊢
  have hA : ∀ q : Nat, s.heap.size ≤ q → A q := fun q h => by rw [← hAe]; exact Or.inr h
  have hS : va_S A s.heap s.heap [] := va_S.rf
  have hP : va_P (dC, dI) cls_ [(h0, .inr (6, [b0, b1, b2, b3, b4, b5, b6, b7, b8, .ref qf, b10])), (qt, .inl (cB, 800, .inl f)), (qf, .inl (cI, 7, .inl g))] s.heap := hP
  have hl := lv_entry ([.ref h0, .ref qt, .int 0, .int 2]) (n := 6) (Nat.le_of_ble_eq_true rfl)
  rw [lg_entry_eq]
  generalize (lg_sl ([.ref h0, .ref qt, .int 0, .int 2]) ++ List.replicate (6 - (lg_sl ([.ref h0, .ref qt, .int 0, .int 2])).length) Slot.unset).toArray = ls at hl ⊢
  have hl : lv_has ls 6 [(0, .ref h0), (1, .ref qt), (2, .int 0), (3, .int 2)] := hl
  refine lv_aload_n hx hb dX7_readSystem_0 rfl (lv_at hl 0 rfl) ?_
  refine lv_aload_n hx hb dX7_readSystem_1 rfl (lv_at hl 1 rfl) ?_
  refine lv_iload_n hx hb dX7_readSystem_2 rfl (lv_at hl 2 rfl) ?_
  refine lv_iload_n hx hb dX7_readSystem_3 rfl (lv_at hl 3 rfl) ?_
  refine lv_iload_n hx hb dX7_readSystem_4 rfl (lv_at hl 3 rfl) ?_
  refine lv_iconst (v := 1) hx hb dX7_readSystem_5 (by decide) ?_
  refine lv_icmp_ne (tgt := 14) hx hb dX7_readSystem_6 (by decide) (fun c_1 => ?_) (fun c_1 => absurd c_1 (by decide))
  refine lv_iload_n hx hb dX7_readSystem_14 rfl (lv_at hl 3 rfl) ?_
  refine lv_iconst (v := 2) hx hb dX7_readSystem_15 (by decide) ?_
  refine lv_icmp_ne (tgt := 23) hx hb dX7_readSystem_16 (by decide) (fun c_2 => absurd (by decide) c_2) (fun c_2 => ?_)
  refine lv_iconst (v := 3) hx hb dX7_readSystem_19 (by decide) ?_
  refine lv_goto (tgt := 24) hx hb dX7_readSystem_20 (by decide) ?_
  have hPc := hP.sub (ws' := [(h0, .inr (6, [b0, b1, b2, b3, b4, b5, b6, b7, b8, .ref qf, b10])), (qt, .inl (cB, 800, .inl f))]) [0, 1] rfl
  have hDc := hD.sub (ws' := [(h0, .inr (6, [b0, b1, b2, b3, b4, b5, b6, b7, b8, .ref qf, b10])), (qt, .inl (cB, 800, .inl f))]) [0, 1] (by decide) rfl
  have hKc := hK.sub (tys' := [(cB, .byte)]) [0] rfl
  have hFc := va_free (wc := [(h0, .inr (6, [b0, b1, b2, b3, b4, b5, b6, b7, b8, .ref qf, b10])), (qt, .inl (cB, 800, .inl f))]) hD hS hA [0, 1] rfl
  refine va_callv (va_runV (As := [.ref qt, .int 0, .int 2, .int 3]) (rest := []) ⟨hx, hb, hml, hown, hts⟩ (k_X7_begin l dC dI h0 b0 b1 b2 b3 b4 b5 b6 b7 b8 (.ref qf) b10 qt cB f s.heap.size) (cwV 4 hts g_X7_readSystem_X7_begin_28 rfl rfl rfl (by decide +kernel) ⟨Nat.le_of_ble_eq_true rfl, Nat.le_of_ble_eq_true rfl⟩) ⟨fun a U g mk q => by obtain ⟨q0, q1, qP, qK, qD, qN⟩ := q; exact ⟨q0, q1, qP, va_K.moved (u := U) (U := U.calling g mk a) (Vm.Alike.refl U.vm) qK, qD, nx_.same rfl qN⟩, va_recv hKc hPc (ci := 6) (q0 := 0) rfl rfl, fun U hU hW => ⟨rfl, by rw [hU], by rw [hU]; exact hPc, va_K.moved hW.alike hKc, hDc.weaken (fun _ _ _ _ => trivial), nx_.warm hW hNx⟩⟩ rfl rfl hl.1 rfl (lv_room (Nat.le_of_ble_eq_true rfl)) dX7_readSystem_24 ⟨Nat.le_of_ble_eq_true rfl, Nat.le_of_ble_eq_true rfl⟩) hS (fun q _ h => hFc q h) hFc (fun u t H1 locs ht hvm hw hB hz1 hk1 hS => ?_)
  try dsimp only at hw
  obtain ⟨hP1, hK1, hD1⟩ := hB
  rw [ht] at hP1
  obtain ⟨hP, hD⟩ := va_join (wr := [(qf, .inl (cI, 7, .inl g))]) (w1 := [(h0, .inr (6, [.ref qt, .int 0, .int 0, .int 2, .int 3, b5, b6, b7, .int 0, .ref qf, .int 0]))]) hP hD [0, 1] [2] rfl rfl (by decide) (by decide) hk1 hFc hP1 hD1
  generalize H1 = H at hP hS ⊢
  have hP : va_P (dC, dI) cls_ [(qf, .inl (cI, 7, .inl g)), (h0, .inr (6, [.ref qt, .int 0, .int 0, .int 2, .int 3, b5, b6, b7, .int 0, .ref qf, .int 0]))] H := hP
  have hD : va_D A [(qf, .inl (cI, 7, .inl g)), (h0, .inr (6, [.ref qt, .int 0, .int 0, .int 2, .int 3, b5, b6, b7, .int 0, .ref qf, .int 0]))] := hD
  refine W.widen (k := 0) (n := 0) (Nat.le_of_ble_eq_true rfl) (Nat.le_of_ble_eq_true rfl) ?_
  refine lv_iconst (v := 0) hx hb dX7_readSystem_27 (by decide) ?_
  refine lv_istore (lv' := [(4, .int 0), (0, .ref h0), (1, .ref qt), (2, .int 0), (3, .int 2)]) hx hb dX7_readSystem_28 hl (by decide) rfl (fun ls hl => ?_)
  refine lv_iload hx hb dX7_readSystem_30 (lv_at hl 0 rfl) ?_
  refine lv_iconst (v := 5) hx hb dX7_readSystem_32 (by decide) ?_
  refine lv_icmp_gt (tgt := 119) hx hb dX7_readSystem_33 (by decide) (fun c_4 => absurd c_4 (by decide)) (fun c_4 => ?_)
  refine lv_aload_n hx hb dX7_readSystem_36 rfl (lv_at hl 1 rfl) ?_
  refine va_get (D := (dC, dI)) (ci := 6) (v := .int 0) (C := RX7) (T := TX7) (N := 11) hx hb hts in_X7_readSystem_X7 hown hK hP 1 rfl rfl 2 (by decide) (hts (.fieldLink RX7 32 "RealSolver$Reader" "at" "I") (List.mem_of_getElem? (i := 11) rfl)) (fun _ h9 => h9) rfl dX7_readSystem_37 ?_
  refine lv_aload_n hx hb dX7_readSystem_40 rfl (lv_at hl 1 rfl) ?_
  refine va_get (D := (dC, dI)) (ci := 6) (v := .int 0) (C := RX7) (T := TX7) (N := 11) hx hb hts in_X7_readSystem_X7 hown hK hP 1 rfl rfl 1 (by decide) (hts (.fieldLink RX7 36 "RealSolver$Reader" "size" "I") (List.mem_of_getElem? (i := 6) rfl)) (fun _ h9 => h9) rfl dX7_readSystem_41 ?_
  refine lv_icmp_ne (tgt := 54) hx hb dX7_readSystem_44 (by decide) (fun c_5 => absurd (by decide) c_5) (fun c_5 => ?_)
  refine lv_iload hx hb dX7_readSystem_47 (lv_at hl 0 rfl) ?_
  refine lv_if_le (tgt := 54) hx hb dX7_readSystem_49 (by decide) (fun c_6 => ?_) (fun c_6 => absurd (by decide) c_6)
  refine lv_iload hx hb dX7_readSystem_54 (lv_at hl 0 rfl) ?_
  refine lv_iconst (v := 5) hx hb dX7_readSystem_56 (by decide) ?_
  refine lv_icmp_ne (tgt := 63) hx hb dX7_readSystem_57 (by decide) (fun c_7 => ?_) (fun c_7 => absurd c_7 (by decide))
  refine lv_aload_n hx hb dX7_readSystem_63 rfl (lv_at hl 1 rfl) ?_
  have hPc := hP.sub (ws' := [(h0, .inr (6, [.ref qt, .int 0, .int 0, .int 2, .int 3, b5, b6, b7, .int 0, .ref qf, .int 0])), (qf, .inl (cI, 7, .inl g))]) [1, 0] rfl
  have hDc := hD.sub (ws' := [(h0, .inr (6, [.ref qt, .int 0, .int 0, .int 2, .int 3, b5, b6, b7, .int 0, .ref qf, .int 0])), (qf, .inl (cI, 7, .inl g))]) [1, 0] (by decide) rfl
  have hKc := hK.sub (tys' := [(cI, .int)]) [1] rfl
  have hFc := va_free (wc := [(h0, .inr (6, [.ref qt, .int 0, .int 0, .int 2, .int 3, b5, b6, b7, .int 0, .ref qf, .int 0])), (qf, .inl (cI, 7, .inl g))]) hD hS hA [1, 0] rfl
  refine va_calli (va_runV (As := []) (rest := []) ⟨hx, hb, hml, hown, hts⟩ (k_X7_readPolynomial l dC dI h0 (.ref qt) (.int 2) (.int 3) b5 b6 b7 qf cI g H.size) (cwV 0 hts g_X7_readSystem_X7_readPolynomial_39 rfl rfl rfl (by decide +kernel) ⟨Nat.le_of_ble_eq_true rfl, Nat.le_of_ble_eq_true rfl⟩) ⟨fun a U g mk q => by obtain ⟨q0, q1, qP, qK, qD, qN⟩ := q; exact ⟨q0, q1, qP, va_K.moved (u := U) (U := U.calling g mk a) (Vm.Alike.refl U.vm) qK, qD, nx_.same rfl qN⟩, va_recv hKc hPc (ci := 6) (q0 := 0) rfl rfl, fun U hU hW => ⟨rfl, by rw [hU], by rw [hU]; exact hPc, va_K.moved hW.alike hKc, hDc.weaken (fun _ _ _ _ => trivial), nx_.warm hW hNx⟩⟩ rfl rfl hl.1 rfl (lv_room (Nat.le_of_ble_eq_true rfl)) dX7_readSystem_64 ⟨Nat.le_of_ble_eq_true rfl, Nat.le_of_ble_eq_true rfl⟩) hS (fun q _ h => hFc q h) hFc (fun r_8 u t H1 locs ht hvm hw hB hz1 hk1 hS => ?_)
  try dsimp only at hw
  have hP1 : va_P (dC, dI) cls_ [] H1 := fun k q h => by simp at h
  have hD1 : va_D (va_A [(h0, .inr (6, [.ref qt, .int 0, .int 0, .int 2, .int 3, b5, b6, b7, .int 0, .ref qf, .int 0])), (qf, .inl (cI, 7, .inl g))] H.size) [] := ⟨fun i j p q h => by simp at h, fun k q h => by simp at h⟩
  obtain ⟨hP, hD⟩ := va_join (wr := []) (w1 := []) hP hD [1, 0] [] rfl rfl (by decide) (by decide) hk1 hFc hP1 hD1
  generalize H1 = H at hP hS ⊢
  have hP : va_P (dC, dI) cls_ [] H := hP
  have hD : va_D A [] := hD
  refine W.widen (k := 0) (n := 0) (Nat.le_of_ble_eq_true rfl) (Nat.le_of_ble_eq_true rfl) ?_
  obtain rfl : (0 : Int32) = r_8 := Eq.symm hw
  refine lv_istore (lv' := [(5, .int 0), (4, .int 0), (0, .ref h0), (1, .ref qt), (2, .int 0), (3, .int 2)]) hx hb dX7_readSystem_67 hl (by decide) rfl (fun ls hl => ?_)
  refine lv_iload hx hb dX7_readSystem_69 (lv_at hl 0 rfl) ?_
  refine lv_if_lt (tgt := 77) hx hb dX7_readSystem_71 (by decide) (fun c_9 => absurd c_9 (by decide)) (fun c_9 => ?_)
  refine lv_iload hx hb dX7_readSystem_74 (lv_at hl 0 rfl) ?_
  refine W.widen (k := 0) (n := 0) (Nat.le_of_ble_eq_true rfl) (Nat.le_of_ble_eq_true rfl) ?_
  exact W.iret (v := 0) hx hb hr (fun t ht hW => ⟨⟨0, (), rfl, rfl, trivial⟩, hS.F ht⟩) hS.2.2 dX7_readSystem_76

def w_X11_takeTape : List Cond := .code yX11_takeTape cX11_takeTape 2 (some .int) :: ([.fieldLink RX11 82 "RealSolver" "onTape" "I"] ++ (wsX110 ++ ([] : List Cond)))
theorem in_X11_takeTape_X11 : ∀ w ∈ wsX110, w ∈ w_X11_takeTape := fun _ h => List.mem_cons_of_mem _ (List.mem_append_right _ (List.mem_append_left _ h))
set_option maxHeartbeats 4000000 in
set_option maxRecDepth 100000 in
theorem k_X11_takeTape (l : Launch) (dC : Nat → ClassId) (dI : Nat → Nat → Nat) (h0 : Nat) (a0 : Value) (a1 : Value) (a2 : Value) (a3 : Value) (a4 : Value) (a5 : Value) (a6 : Value) (a8 : Value) (a9 : Value) (a10 : Value) (a11 : Value) (sz : Nat) : Met l yX11_takeTape w_X11_takeTape ({ frames := 0, cells := 0, slots := 0, locals := 0 }) (va_Pc [.ref h0] (fun U => U.heap.size = sz ∧ va_P (dC, dI) cls_ [(h0, .inr (10, [a0, a1, a2, a3, a4, a5, a6, .int 0, a8, a9, a10, a11]))] U.heap ∧ va_K (dC, dI) cls_ [] U ∧ va_D (fun _ => True) [(h0, .inr (10, [a0, a1, a2, a3, a4, a5, a6, .int 0, a8, a9, a10, a11]))] ∧ nx_ U)) (va_Qi (fun (r : Int32) (_ : Unit) => r = 0) (fun _ t => va_P (dC, dI) cls_ [(h0, .inr (10, [a0, a1, a2, a3, a4, a5, a6, .int 0, a8, a9, a10, a11]))] t.heap ∧ va_K (dC, dI) cls_ [] t ∧ va_D (va_A [(h0, .inr (10, [a0, a1, a2, a3, a4, a5, a6, .int 0, a8, a9, a10, a11]))] sz) [(h0, .inr (10, [a0, a1, a2, a3, a4, a5, a6, .int 0, a8, a9, a10, a11]))]) (va_A [(h0, .inr (10, [a0, a1, a2, a3, a4, a5, a6, .int 0, a8, a9, a10, a11]))] sz)) 0 0 (va_A [(h0, .inr (10, [a0, a1, a2, a3, a4, a5, a6, .int 0, a8, a9, a10, a11]))] sz) := by
  refine Met.ofW (cc := cX11_takeTape) (maxL := 2) (ret := (some .int)) (by decide) rfl ?_
  intro p e s m args below meth c s₁ B hml hv
  obtain ⟨rfl, hsz, hP, hK, hD0, hNx⟩ := hv
  have hx := B.exec
  have hb := B.bytes
  have hr := B.returns
  have hts := atoms_spec (ws := w_X11_takeTape) B.pre
  have hown : s.vm.findClass RX11 = some m.cls := findClass_of_methodNamed B.named
  have hlocks := B.notSynchronized
  subst hsz
  have hD := hD0.self (sz := s.heap.size)
  generalize hAe : va_A [(h0, .inr (10, [a0, a1, a2, a3, a4, a5, a6, .int 0, a8, a9, a10, a11]))] s.heap.size = A at hD ⊢
  have hA : ∀ q : Nat, s.heap.size ≤ q → A q := fun q h => by rw [← hAe]; exact Or.inr h
  have hS : va_S A s.heap s.heap [] := va_S.rf
  have hP : va_P (dC, dI) cls_ [(h0, .inr (10, [a0, a1, a2, a3, a4, a5, a6, .int 0, a8, a9, a10, a11]))] s.heap := hP
  have hl := lv_entry ([.ref h0]) (n := 2) (Nat.le_of_ble_eq_true rfl)
  rw [lg_entry_eq]
  generalize (lg_sl ([.ref h0]) ++ List.replicate (2 - (lg_sl ([.ref h0])).length) Slot.unset).toArray = ls at hl ⊢
  have hl : lv_has ls 2 [(0, .ref h0)] := hl
  refine lv_aload_n hx hb dX11_takeTape_0 rfl (lv_at hl 0 rfl) ?_
  refine va_get (D := (dC, dI)) (ci := 10) (v := .int 0) (C := RX11) (T := TX11) (N := 12) hx hb hts in_X11_takeTape_X11 hown hK hP 0 rfl rfl 7 (by decide) (hts (.fieldLink RX11 82 "RealSolver" "onTape" "I") (List.mem_of_getElem? (i := 1) rfl)) (fun _ h9 => h9) rfl dX11_takeTape_1 ?_
  refine lv_istore_n (lv' := [(1, .int 0), (0, .ref h0)]) hx hb dX11_takeTape_4 rfl hl (by decide) rfl (fun ls hl => ?_)
  refine lv_aload_n hx hb dX11_takeTape_5 rfl (lv_at hl 1 rfl) ?_
  refine lv_iconst (v := 0) hx hb dX11_takeTape_6 (by decide) ?_
  refine va_put (D := (dC, dI)) (ci := 10) (v := .int 0) (ty := .int) (C := RX11) (T := TX11) (N := 12) hx hb hts in_X11_takeTape_X11 tyX11 tyX11_ok nmX11 hown hK hP hD hS 0 rfl rfl 7 (by decide) (hts (.fieldLink RX11 82 "RealSolver" "onTape" "I") (List.mem_of_getElem? (i := 1) rfl)) (fun _ h9 => h9) rfl (by decide +kernel) rfl rfl (Nat.le_of_ble_eq_true rfl) dX11_takeTape_7 (fun H locs hP hD hS => ?_)
  have hP : va_P (dC, dI) cls_ [(h0, .inr (10, [a0, a1, a2, a3, a4, a5, a6, .int 0, a8, a9, a10, a11]))] H := hP
  have hD : va_D A [(h0, .inr (10, [a0, a1, a2, a3, a4, a5, a6, .int 0, a8, a9, a10, a11]))] := hD
  refine lv_iload_n hx hb dX11_takeTape_10 rfl (lv_at hl 0 rfl) ?_
  refine W.widen (k := 0) (n := 0) (Nat.le_of_ble_eq_true rfl) (Nat.le_of_ble_eq_true rfl) ?_
  have hP9 := hP.sub (ws' := [(h0, .inr (10, [a0, a1, a2, a3, a4, a5, a6, .int 0, a8, a9, a10, a11]))]) [0] rfl
  have hD9 := hD.sub (ws' := [(h0, .inr (10, [a0, a1, a2, a3, a4, a5, a6, .int 0, a8, a9, a10, a11]))]) [0] (by decide) rfl
  have hK9 := hK.sub (tys' := []) [] rfl
  exact W.iret (v := 0) hx hb hr (fun t ht hW => ⟨⟨0, (), rfl, rfl, ⟨by rw [ht]; exact hP9, va_K.moved hW.alike hK9, hD9⟩⟩, hS.F ht⟩) hS.2.2 dX11_takeTape_11

def w_X11_solve : List Cond := .code yX11_solve cX11_solve 2 (some .int) :: ([.fieldLink RX11 32 "RealSolver" "reader" "LRealSolver$Reader;", .fieldLink RX11 9 "RealSolver" "tape" "[B", .fieldLink RX11 82 "RealSolver" "onTape" "I", .code yX11_takeTape cX11_takeTape 2 (some .int), .methodLink RX11 89 yX11_takeTape, .instanceMethod yX11_takeTape, .selects RX11 yX11_takeTape yX11_takeTape, .initialized RX11, .fieldLink RX11 61 "RealSolver" "variableCount" "I", .fieldLink RX7 9 "RealSolver$Reader" "bytes" "[B", .methodLink RX7 49 Lib.Math.min.name, .static Lib.Math.min.name, .initialized "java/lang/Math", .code Lib.Math.min.name Lib.Math.min.code 2 (some .int), .fieldLink RX7 36 "RealSolver$Reader" "size" "I", .fieldLink RX7 55 "RealSolver$Reader" "variableCount" "I", .fieldLink RX7 58 "RealSolver$Reader" "mostDegree" "I", .fieldLink RX7 61 "RealSolver$Reader" "terms" "I", .fieldLink RX7 64 "RealSolver$Reader" "polynomials" "I", .fieldLink RX7 32 "RealSolver$Reader" "at" "I", .code yX7_step cX7_step 2 none, .methodLink RX7 43 yX7_step, .instanceMethod yX7_step, .selects RX7 yX7_step yX7_step, .initialized RX7, .code yX7_begin cX7_begin 5 none, .methodLink RX7 28 yX7_begin, .instanceMethod yX7_begin, .selects RX7 yX7_begin yX7_begin, .fieldLink RX7 25 "RealSolver$Reader" "firstTerm" "[I", .code yX7_atSign cX7_atSign 1 (some .boolean), .methodLink RX7 67 yX7_atSign, .instanceMethod yX7_atSign, .selects RX7 yX7_atSign yX7_atSign, .code yX7_atDigit cX7_atDigit 1 (some .boolean), .methodLink RX7 75 yX7_atDigit, .instanceMethod yX7_atDigit, .selects RX7 yX7_atDigit yX7_atDigit, .code yX7_readTerm cX7_readTerm 11 (some .int), .methodLink RX7 71 yX7_readTerm, .instanceMethod yX7_readTerm, .selects RX7 yX7_readTerm yX7_readTerm, .code yX7_readPolynomial cX7_readPolynomial 4 (some .int), .methodLink RX7 39 yX7_readPolynomial, .instanceMethod yX7_readPolynomial, .selects RX7 yX7_readPolynomial yX7_readPolynomial, .code yX7_readSystem cX7_readSystem 6 (some .int), .methodLink RX11 93 yX7_readSystem, .instanceMethod yX7_readSystem, .selects RX7 yX7_readSystem yX7_readSystem, .fieldLink RX11 68 "RealSolver" "faultPlace" "I", .fieldLink RX11 65 "RealSolver" "outcome" "I", .code yX11_refuse cX11_refuse 2 (some .int), .methodLink RX11 71 yX11_refuse, .instanceMethod yX11_refuse, .selects RX11 yX11_refuse yX11_refuse] ++ (wsX110 ++ (wsX70 ++ ([] : List Cond))))
theorem in_X11_solve_X11 : ∀ w ∈ wsX110, w ∈ w_X11_solve := fun _ h => List.mem_cons_of_mem _ (List.mem_append_right _ (List.mem_append_left _ h))
theorem in_X11_solve_X7 : ∀ w ∈ wsX70, w ∈ w_X11_solve := fun _ h => List.mem_cons_of_mem _ (List.mem_append_right _ (List.mem_append_right _ (List.mem_append_left _ h)))
set_option maxRecDepth 20000 in
theorem g_X11_solve_X11_takeTape_89 : GoodIn w_X11_solve (wsV RX11 89 RX11 yX11_takeTape w_X11_takeTape) := goodIn_r _ [5, 6, 7, 8, 4, 3, 57, 58, 59, 60, 61, 62, 63, 64, 65, 66, 67, 68] (by decide +kernel) (by decide +kernel)
set_option maxRecDepth 20000 in
theorem g_X11_solve_X7_readSystem_93 : GoodIn w_X11_solve (wsV RX11 93 RX7 yX7_readSystem w_X7_readSystem) := goodIn_r _ [48, 49, 50, 25, 47, 10, 11, 12, 13, 14, 15, 16, 17, 18, 19, 20, 21, 22, 23, 24, 25, 26, 27, 28, 29, 30, 31, 32, 33, 34, 35, 36, 37, 38, 39, 40, 41, 42, 43, 44, 45, 46, 69, 70, 71, 72, 73, 74, 75, 76, 77, 78, 79] (by decide +kernel) (by decide +kernel)
set_option maxRecDepth 20000 in
theorem g_X11_solve_X11_refuse_71 : GoodIn w_X11_solve (wsV RX11 71 RX11 yX11_refuse w_X11_refuse) := goodIn_r _ [54, 55, 56, 8, 53, 52, 57, 58, 59, 60, 61, 62, 63, 64, 65, 66, 67, 68] (by decide +kernel) (by decide +kernel)
set_option maxHeartbeats 4000000 in
set_option maxRecDepth 100000 in
theorem k_X11_solve (l : Launch) (dC : Nat → ClassId) (dI : Nat → Nat → Nat) (h0 : Nat) (a1 : Value) (a2 : Value) (a4 : Value) (a5 : Value) (a6 : Value) (a9 : Value) (a10 : Value) (a11 : Value) (qt : Nat) (qr : Nat) (qf : Nat) (b0 : Value) (b1 : Value) (b2 : Value) (b3 : Value) (b4 : Value) (b5 : Value) (b6 : Value) (b7 : Value) (b8 : Value) (b10 : Value) (cB : ClassId) (cI : ClassId) (f : Nat → Int32) (g : Nat → Int32) (sz : Nat) : Met l yX11_solve w_X11_solve ({ frames := 4, cells := 0, slots := 0, locals := 98 }) (va_Pc [.ref h0] (fun U => U.heap.size = sz ∧ va_P (dC, dI) cls_ [(h0, .inr (10, [.ref qt, a1, a2, .ref qr, a4, a5, a6, .int 0, .int 2, a9, a10, a11])), (qr, .inr (6, [b0, b1, b2, b3, b4, b5, b6, b7, b8, .ref qf, b10])), (qt, .inl (cB, 800, .inl f)), (qf, .inl (cI, 7, .inl g))] U.heap ∧ va_K (dC, dI) cls_ [(cB, .byte), (cI, .int)] U ∧ va_D (fun _ => True) [(h0, .inr (10, [.ref qt, a1, a2, .ref qr, a4, a5, a6, .int 0, .int 2, a9, a10, a11])), (qr, .inr (6, [b0, b1, b2, b3, b4, b5, b6, b7, b8, .ref qf, b10])), (qt, .inl (cB, 800, .inl f)), (qf, .inl (cI, 7, .inl g))] ∧ nx_ U)) (va_Qi (fun (r : Int32) (_ : Unit) => r = (-1)) (fun _ _ => True) (va_A [(h0, .inr (10, [.ref qt, a1, a2, .ref qr, a4, a5, a6, .int 0, .int 2, a9, a10, a11])), (qr, .inr (6, [b0, b1, b2, b3, b4, b5, b6, b7, b8, .ref qf, b10])), (qt, .inl (cB, 800, .inl f)), (qf, .inl (cI, 7, .inl g))] sz)) 0 0 (va_A [(h0, .inr (10, [.ref qt, a1, a2, .ref qr, a4, a5, a6, .int 0, .int 2, a9, a10, a11])), (qr, .inr (6, [b0, b1, b2, b3, b4, b5, b6, b7, b8, .ref qf, b10])), (qt, .inl (cB, 800, .inl f)), (qf, .inl (cI, 7, .inl g))] sz) := by
  refine Met.ofW (cc := cX11_solve) (maxL := 2) (ret := (some .int)) (by decide) rfl ?_
  intro p e s m args below meth c s₁ B hml hv
  obtain ⟨rfl, hsz, hP, hK, hD0, hNx⟩ := hv
  have hx := B.exec
  have hb := B.bytes
  have hr := B.returns
  have hts := atoms_spec (ws := w_X11_solve) B.pre
  have hown : s.vm.findClass RX11 = some m.cls := findClass_of_methodNamed B.named
  have hlocks := B.notSynchronized
  subst hsz
  have hD := hD0.self (sz := s.heap.size)
  generalize hAe : va_A [(h0, .inr (10, [.ref qt, a1, a2, .ref qr, a4, a5, a6, .int 0, .int 2, a9, a10, a11])), (qr, .inr (6, [b0, b1, b2, b3, b4, b5, b6, b7, b8, .ref qf, b10])), (qt, .inl (cB, 800, .inl f)), (qf, .inl (cI, 7, .inl g))] s.heap.size = A at hD ⊢
  have hA : ∀ q : Nat, s.heap.size ≤ q → A q := fun q h => by rw [← hAe]; exact Or.inr h
  have hS : va_S A s.heap s.heap [] := va_S.rf
  have hP : va_P (dC, dI) cls_ [(h0, .inr (10, [.ref qt, a1, a2, .ref qr, a4, a5, a6, .int 0, .int 2, a9, a10, a11])), (qr, .inr (6, [b0, b1, b2, b3, b4, b5, b6, b7, b8, .ref qf, b10])), (qt, .inl (cB, 800, .inl f)), (qf, .inl (cI, 7, .inl g))] s.heap := hP
  have hl := lv_entry ([.ref h0]) (n := 2) (Nat.le_of_ble_eq_true rfl)
  rw [lg_entry_eq]
  generalize (lg_sl ([.ref h0]) ++ List.replicate (2 - (lg_sl ([.ref h0])).length) Slot.unset).toArray = ls at hl ⊢
  have hl : lv_has ls 2 [(0, .ref h0)] := hl
  refine lv_aload_n hx hb dX11_solve_0 rfl (lv_at hl 0 rfl) ?_
  refine lv_aload_n hx hb dX11_solve_1 rfl (lv_at hl 0 rfl) ?_
  refine va_get (D := (dC, dI)) (ci := 10) (v := .ref qr) (C := RX11) (T := TX11) (N := 12) hx hb hts in_X11_solve_X11 hown hK hP 0 rfl rfl 3 (by decide) (hts (.fieldLink RX11 32 "RealSolver" "reader" "LRealSolver$Reader;") (List.mem_of_getElem? (i := 1) rfl)) (fun _ h9 => h9) rfl dX11_solve_2 ?_
  refine lv_aload_n hx hb dX11_solve_5 rfl (lv_at hl 0 rfl) ?_
  refine va_get (D := (dC, dI)) (ci := 10) (v := .ref qt) (C := RX11) (T := TX11) (N := 12) hx hb hts in_X11_solve_X11 hown hK hP 0 rfl rfl 0 (by decide) (hts (.fieldLink RX11 9 "RealSolver" "tape" "[B") (List.mem_of_getElem? (i := 2) rfl)) (fun _ h9 => h9) rfl dX11_solve_6 ?_
  refine lv_aload_n hx hb dX11_solve_9 rfl (lv_at hl 0 rfl) ?_
  have hPc := hP.sub (ws' := [(h0, .inr (10, [.ref qt, a1, a2, .ref qr, a4, a5, a6, .int 0, .int 2, a9, a10, a11]))]) [0] rfl
  have hDc := hD.sub (ws' := [(h0, .inr (10, [.ref qt, a1, a2, .ref qr, a4, a5, a6, .int 0, .int 2, a9, a10, a11]))]) [0] (by decide) rfl
  have hKc := hK.sub (tys' := []) [] rfl
  have hFc := va_free (wc := [(h0, .inr (10, [.ref qt, a1, a2, .ref qr, a4, a5, a6, .int 0, .int 2, a9, a10, a11]))]) hD hS hA [0] rfl
  refine va_calli (va_runV (As := []) (rest := [.ref qt, .ref qr, .ref h0]) ⟨hx, hb, hml, hown, hts⟩ (k_X11_takeTape l dC dI h0 (.ref qt) a1 a2 (.ref qr) a4 a5 a6 (.int 2) a9 a10 a11 s.heap.size) (cwV 0 hts g_X11_solve_X11_takeTape_89 rfl rfl rfl (by decide +kernel) ⟨Nat.le_of_ble_eq_true rfl, Nat.le_of_ble_eq_true rfl⟩) ⟨fun a U g mk q => by obtain ⟨q0, q1, qP, qK, qD, qN⟩ := q; exact ⟨q0, q1, qP, va_K.moved (u := U) (U := U.calling g mk a) (Vm.Alike.refl U.vm) qK, qD, nx_.same rfl qN⟩, va_recv hKc hPc (ci := 10) (q0 := 0) rfl rfl, fun U hU hW => ⟨rfl, by rw [hU], by rw [hU]; exact hPc, va_K.moved hW.alike hKc, hDc.weaken (fun _ _ _ _ => trivial), nx_.warm hW hNx⟩⟩ rfl rfl hl.1 rfl (lv_room (Nat.le_of_ble_eq_true rfl)) dX11_solve_10 ⟨Nat.le_of_ble_eq_true rfl, Nat.le_of_ble_eq_true rfl⟩) hS (fun q _ h => hFc q h) hFc (fun r_1 u t H1 locs ht hvm hw hB hz1 hk1 hS => ?_)
  try dsimp only at hw
  obtain ⟨hP1, hK1, hD1⟩ := hB
  rw [ht] at hP1
  obtain ⟨hP, hD⟩ := va_join (wr := [(qr, .inr (6, [b0, b1, b2, b3, b4, b5, b6, b7, b8, .ref qf, b10])), (qt, .inl (cB, 800, .inl f)), (qf, .inl (cI, 7, .inl g))]) (w1 := [(h0, .inr (10, [.ref qt, a1, a2, .ref qr, a4, a5, a6, .int 0, .int 2, a9, a10, a11]))]) hP hD [0] [1, 2, 3] rfl rfl (by decide) (by decide) hk1 hFc hP1 hD1
  generalize H1 = H at hP hS ⊢
  have hP : va_P (dC, dI) cls_ [(qr, .inr (6, [b0, b1, b2, b3, b4, b5, b6, b7, b8, .ref qf, b10])), (qt, .inl (cB, 800, .inl f)), (qf, .inl (cI, 7, .inl g)), (h0, .inr (10, [.ref qt, a1, a2, .ref qr, a4, a5, a6, .int 0, .int 2, a9, a10, a11]))] H := hP
  have hD : va_D A [(qr, .inr (6, [b0, b1, b2, b3, b4, b5, b6, b7, b8, .ref qf, b10])), (qt, .inl (cB, 800, .inl f)), (qf, .inl (cI, 7, .inl g)), (h0, .inr (10, [.ref qt, a1, a2, .ref qr, a4, a5, a6, .int 0, .int 2, a9, a10, a11]))] := hD
  refine W.widen (k := 0) (n := 0) (Nat.le_of_ble_eq_true rfl) (Nat.le_of_ble_eq_true rfl) ?_
  obtain rfl : (0 : Int32) = r_1 := Eq.symm hw
  refine lv_aload_n hx hb dX11_solve_13 rfl (lv_at hl 0 rfl) ?_
  refine va_get (D := (dC, dI)) (ci := 10) (v := .int 2) (C := RX11) (T := TX11) (N := 12) hx hb hts in_X11_solve_X11 hown hK hP 3 rfl rfl 8 (by decide) (hts (.fieldLink RX11 61 "RealSolver" "variableCount" "I") (List.mem_of_getElem? (i := 9) rfl)) (fun _ h9 => h9) rfl dX11_solve_14 ?_
  have hPc := hP.sub (ws' := [(qr, .inr (6, [b0, b1, b2, b3, b4, b5, b6, b7, b8, .ref qf, b10])), (qt, .inl (cB, 800, .inl f)), (qf, .inl (cI, 7, .inl g))]) [0, 1, 2] rfl
  have hDc := hD.sub (ws' := [(qr, .inr (6, [b0, b1, b2, b3, b4, b5, b6, b7, b8, .ref qf, b10])), (qt, .inl (cB, 800, .inl f)), (qf, .inl (cI, 7, .inl g))]) [0, 1, 2] (by decide) rfl
  have hKc := hK.sub (tys' := [(cB, .byte), (cI, .int)]) [0, 1] rfl
  have hFc := va_free (wc := [(qr, .inr (6, [b0, b1, b2, b3, b4, b5, b6, b7, b8, .ref qf, b10])), (qt, .inl (cB, 800, .inl f)), (qf, .inl (cI, 7, .inl g))]) hD hS hA [0, 1, 2] rfl
  refine va_calli (va_runV (As := [.ref qt, .int 0, .int 2]) (rest := [.ref h0]) ⟨hx, hb, hml, hown, hts⟩ (k_X7_readSystem l dC dI qr b0 b1 b2 b3 b4 b5 b6 b7 b8 b10 qt qf cB cI f g H.size) (cwV 3 hts g_X11_solve_X7_readSystem_93 rfl rfl rfl (by decide +kernel) ⟨Nat.le_of_ble_eq_true rfl, Nat.le_of_ble_eq_true rfl⟩) ⟨fun a U g mk q => by obtain ⟨q0, q1, qP, qK, qD, qN⟩ := q; exact ⟨q0, q1, qP, va_K.moved (u := U) (U := U.calling g mk a) (Vm.Alike.refl U.vm) qK, qD, nx_.same rfl qN⟩, va_recv hKc hPc (ci := 6) (q0 := 0) rfl rfl, fun U hU hW => ⟨rfl, by rw [hU], by rw [hU]; exact hPc, va_K.moved hW.alike hKc, hDc.weaken (fun _ _ _ _ => trivial), nx_.warm hW hNx⟩⟩ rfl rfl hl.1 rfl (lv_room (Nat.le_of_ble_eq_true rfl)) dX11_solve_17 ⟨Nat.le_of_ble_eq_true rfl, Nat.le_of_ble_eq_true rfl⟩) hS (fun q _ h => hFc q h) hFc (fun r_2 u t H1 locs ht hvm hw hB hz1 hk1 hS => ?_)
  try dsimp only at hw
  have hP1 : va_P (dC, dI) cls_ [] H1 := fun k q h => by simp at h
  have hD1 : va_D (va_A [(qr, .inr (6, [b0, b1, b2, b3, b4, b5, b6, b7, b8, .ref qf, b10])), (qt, .inl (cB, 800, .inl f)), (qf, .inl (cI, 7, .inl g))] H.size) [] := ⟨fun i j p q h => by simp at h, fun k q h => by simp at h⟩
  obtain ⟨hP, hD⟩ := va_join (wr := [(h0, .inr (10, [.ref qt, a1, a2, .ref qr, a4, a5, a6, .int 0, .int 2, a9, a10, a11]))]) (w1 := []) hP hD [0, 1, 2] [3] rfl rfl (by decide) (by decide) hk1 hFc hP1 hD1
  generalize H1 = H at hP hS ⊢
  have hP : va_P (dC, dI) cls_ [(h0, .inr (10, [.ref qt, a1, a2, .ref qr, a4, a5, a6, .int 0, .int 2, a9, a10, a11]))] H := hP
  have hD : va_D A [(h0, .inr (10, [.ref qt, a1, a2, .ref qr, a4, a5, a6, .int 0, .int 2, a9, a10, a11]))] := hD
  refine W.widen (k := 0) (n := 0) (Nat.le_of_ble_eq_true rfl) (Nat.le_of_ble_eq_true rfl) ?_
  obtain rfl : (0 : Int32) = r_2 := Eq.symm hw
  refine va_put (D := (dC, dI)) (ci := 10) (v := .int 0) (ty := .int) (C := RX11) (T := TX11) (N := 12) hx hb hts in_X11_solve_X11 tyX11 tyX11_ok nmX11 hown hK hP hD hS 0 rfl rfl 10 (by decide) (hts (.fieldLink RX11 68 "RealSolver" "faultPlace" "I") (List.mem_of_getElem? (i := 51) rfl)) (fun _ h9 => h9) rfl (by decide +kernel) rfl rfl (Nat.le_of_ble_eq_true rfl) dX11_solve_20 (fun H locs hP hD hS => ?_)
  have hP : va_P (dC, dI) cls_ [(h0, .inr (10, [.ref qt, a1, a2, .ref qr, a4, a5, a6, .int 0, .int 2, a9, .int 0, a11]))] H := hP
  have hD : va_D A [(h0, .inr (10, [.ref qt, a1, a2, .ref qr, a4, a5, a6, .int 0, .int 2, a9, .int 0, a11]))] := hD
  refine lv_aload_n hx hb dX11_solve_23 rfl (lv_at hl 0 rfl) ?_
  refine va_get (D := (dC, dI)) (ci := 10) (v := .int 0) (C := RX11) (T := TX11) (N := 12) hx hb hts in_X11_solve_X11 hown hK hP 0 rfl rfl 10 (by decide) (hts (.fieldLink RX11 68 "RealSolver" "faultPlace" "I") (List.mem_of_getElem? (i := 51) rfl)) (fun _ h9 => h9) rfl dX11_solve_24 ?_
  refine lv_if_lt (tgt := 36) hx hb dX11_solve_27 (by decide) (fun c_3 => absurd c_3 (by decide)) (fun c_3 => ?_)
  refine lv_aload_n hx hb dX11_solve_30 rfl (lv_at hl 0 rfl) ?_
  refine lv_iconst (v := 1) hx hb dX11_solve_31 (by decide) ?_
  have hPc := hP.sub (ws' := [(h0, .inr (10, [.ref qt, a1, a2, .ref qr, a4, a5, a6, .int 0, .int 2, a9, .int 0, a11]))]) [0] rfl
  have hDc := hD.sub (ws' := [(h0, .inr (10, [.ref qt, a1, a2, .ref qr, a4, a5, a6, .int 0, .int 2, a9, .int 0, a11]))]) [0] (by decide) rfl
  have hKc := hK.sub (tys' := []) [] rfl
  have hFc := va_free (wc := [(h0, .inr (10, [.ref qt, a1, a2, .ref qr, a4, a5, a6, .int 0, .int 2, a9, .int 0, a11]))]) hD hS hA [0] rfl
  refine va_calli (va_runV (As := [.int 1]) (rest := []) ⟨hx, hb, hml, hown, hts⟩ (k_X11_refuse l dC dI h0 (.ref qt) a1 a2 (.ref qr) a4 a5 a6 (.int 0) (.int 2) a9 (.int 0) a11 1 H.size) (cwV 1 hts g_X11_solve_X11_refuse_71 rfl rfl rfl (by decide +kernel) ⟨Nat.le_of_ble_eq_true rfl, Nat.le_of_ble_eq_true rfl⟩) ⟨fun a U g mk q => by obtain ⟨q0, q1, qP, qK, qD, qN⟩ := q; exact ⟨q0, q1, qP, va_K.moved (u := U) (U := U.calling g mk a) (Vm.Alike.refl U.vm) qK, qD, nx_.same rfl qN⟩, va_recv hKc hPc (ci := 10) (q0 := 0) rfl rfl, fun U hU hW => ⟨rfl, by rw [hU], by rw [hU]; exact hPc, va_K.moved hW.alike hKc, hDc.weaken (fun _ _ _ _ => trivial), nx_.warm hW hNx⟩⟩ rfl rfl hl.1 rfl (lv_room (Nat.le_of_ble_eq_true rfl)) dX11_solve_32 ⟨Nat.le_of_ble_eq_true rfl, Nat.le_of_ble_eq_true rfl⟩) hS (fun q _ h => hFc q h) hFc (fun r_4 u t H1 locs ht hvm hw hB hz1 hk1 hS => ?_)
  try dsimp only at hw
  have hP1 : va_P (dC, dI) cls_ [] H1 := fun k q h => by simp at h
  have hD1 : va_D (va_A [(h0, .inr (10, [.ref qt, a1, a2, .ref qr, a4, a5, a6, .int 0, .int 2, a9, .int 0, a11]))] H.size) [] := ⟨fun i j p q h => by simp at h, fun k q h => by simp at h⟩
  obtain ⟨hP, hD⟩ := va_join (wr := []) (w1 := []) hP hD [0] [] rfl rfl (by decide) (by decide) hk1 hFc hP1 hD1
  generalize H1 = H at hP hS ⊢
  have hP : va_P (dC, dI) cls_ [] H := hP
  have hD : va_D A [] := hD
  refine W.widen (k := 0) (n := 0) (Nat.le_of_ble_eq_true rfl) (Nat.le_of_ble_eq_true rfl) ?_
  obtain rfl : ((-1) : Int32) = r_4 := Eq.symm hw
  refine W.widen (k := 0) (n := 0) (Nat.le_of_ble_eq_true rfl) (Nat.le_of_ble_eq_true rfl) ?_
  exact W.iret (v := (-1)) hx hb hr (fun t ht hW => ⟨⟨(-1), (), rfl, rfl, trivial⟩, hS.F ht⟩) hS.2.2 dX11_solve_35
