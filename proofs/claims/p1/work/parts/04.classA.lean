abbrev cX11_refuse : ByteArray := prog_1_method_28_code
def yX11_refuse : MethodName := ⟨RX11, "refuse", "(I)I"⟩
theorem dX11_refuse_0 : decode cX11_refuse 0 = .ok (.aload_n 0, 1) := by decide +kernel
theorem dX11_refuse_1 : decode cX11_refuse 1 = .ok (.iload_n 1, 1) := by decide +kernel
theorem dX11_refuse_2 : decode cX11_refuse 2 = .ok (.putfield 65, 3) := by decide +kernel
theorem dX11_refuse_5 : decode cX11_refuse 5 = .ok (.iconst (-1), 1) := by decide +kernel
theorem dX11_refuse_6 : decode cX11_refuse 6 = .ok (.ireturn, 1) := by decide +kernel
abbrev cX11_answer : ByteArray := prog_1_method_27_code
def yX11_answer : MethodName := ⟨RX11, "answer", "(I)I"⟩
theorem dX11_answer_0 : decode cX11_answer 0 = .ok (.aload_n 0, 1) := by decide +kernel
theorem dX11_answer_1 : decode cX11_answer 1 = .ok (.iconst 0, 1) := by decide +kernel
theorem dX11_answer_2 : decode cX11_answer 2 = .ok (.putfield 65, 3) := by decide +kernel
theorem dX11_answer_5 : decode cX11_answer 5 = .ok (.iload_n 1, 1) := by decide +kernel
theorem dX11_answer_6 : decode cX11_answer 6 = .ok (.ireturn, 1) := by decide +kernel
abbrev cX11_lackOfZeros : ByteArray := prog_1_method_32_code
def yX11_lackOfZeros : MethodName := ⟨RX11, "lackOfZeros", "()I"⟩
theorem dX11_lackOfZeros_0 : decode cX11_lackOfZeros 0 = .ok (.aload_n 0, 1) := by decide +kernel
theorem dX11_lackOfZeros_1 : decode cX11_lackOfZeros 1 = .ok (.getfield 75, 3) := by decide +kernel
theorem dX11_lackOfZeros_4 : decode cX11_lackOfZeros 4 = .ok (.ifCond .ne 5, 3) := by decide +kernel
theorem dX11_lackOfZeros_7 : decode cX11_lackOfZeros 7 = .ok (.iconst 4, 1) := by decide +kernel
theorem dX11_lackOfZeros_8 : decode cX11_lackOfZeros 8 = .ok (.ireturn, 1) := by decide +kernel
abbrev cX11_lackOfVariable : ByteArray := prog_1_method_33_code
def yX11_lackOfVariable : MethodName := ⟨RX11, "lackOfVariable", "(II)I"⟩
theorem dX11_lackOfVariable_0 : decode cX11_lackOfVariable 0 = .ok (.aload_n 0, 1) := by decide +kernel
theorem dX11_lackOfVariable_1 : decode cX11_lackOfVariable 1 = .ok (.invokevirtual 171, 3) := by decide +kernel
theorem dX11_lackOfVariable_4 : decode cX11_lackOfVariable 4 = .ok (.istore_n 3, 1) := by decide +kernel
theorem dX11_lackOfVariable_5 : decode cX11_lackOfVariable 5 = .ok (.iload_n 3, 1) := by decide +kernel
theorem dX11_lackOfVariable_6 : decode cX11_lackOfVariable 6 = .ok (.ifCond .eq 5, 3) := by decide +kernel
theorem dX11_lackOfVariable_9 : decode cX11_lackOfVariable 9 = .ok (.iload_n 3, 1) := by decide +kernel
theorem dX11_lackOfVariable_10 : decode cX11_lackOfVariable 10 = .ok (.ireturn, 1) := by decide +kernel
abbrev cX11_lackOfReal : ByteArray := prog_1_method_34_code
def yX11_lackOfReal : MethodName := ⟨RX11, "lackOfReal", "(I)I"⟩
theorem dX11_lackOfReal_0 : decode cX11_lackOfReal 0 = .ok (.aload_n 0, 1) := by decide +kernel
theorem dX11_lackOfReal_1 : decode cX11_lackOfReal 1 = .ok (.invokevirtual 171, 3) := by decide +kernel
theorem dX11_lackOfReal_4 : decode cX11_lackOfReal 4 = .ok (.istore_n 2, 1) := by decide +kernel
theorem dX11_lackOfReal_5 : decode cX11_lackOfReal 5 = .ok (.iload_n 2, 1) := by decide +kernel
theorem dX11_lackOfReal_6 : decode cX11_lackOfReal 6 = .ok (.ifCond .eq 5, 3) := by decide +kernel
theorem dX11_lackOfReal_9 : decode cX11_lackOfReal 9 = .ok (.iload_n 2, 1) := by decide +kernel
theorem dX11_lackOfReal_10 : decode cX11_lackOfReal 10 = .ok (.ireturn, 1) := by decide +kernel
abbrev cX11_lackOfCoordinate : ByteArray := prog_1_method_35_code
def yX11_lackOfCoordinate : MethodName := ⟨RX11, "lackOfCoordinate", "(II)I"⟩
theorem dX11_lackOfCoordinate_0 : decode cX11_lackOfCoordinate 0 = .ok (.aload_n 0, 1) := by decide +kernel
theorem dX11_lackOfCoordinate_1 : decode cX11_lackOfCoordinate 1 = .ok (.iload_n 2, 1) := by decide +kernel
theorem dX11_lackOfCoordinate_2 : decode cX11_lackOfCoordinate 2 = .ok (.iconst 1, 1) := by decide +kernel
theorem dX11_lackOfCoordinate_3 : decode cX11_lackOfCoordinate 3 = .ok (.invokevirtual 202, 3) := by decide +kernel
theorem dX11_lackOfCoordinate_6 : decode cX11_lackOfCoordinate 6 = .ok (.istore_n 3, 1) := by decide +kernel
theorem dX11_lackOfCoordinate_7 : decode cX11_lackOfCoordinate 7 = .ok (.iload_n 3, 1) := by decide +kernel
theorem dX11_lackOfCoordinate_8 : decode cX11_lackOfCoordinate 8 = .ok (.ifCond .eq 7, 3) := by decide +kernel
theorem dX11_lackOfCoordinate_11 : decode cX11_lackOfCoordinate 11 = .ok (.iload_n 3, 1) := by decide +kernel
theorem dX11_lackOfCoordinate_12 : decode cX11_lackOfCoordinate 12 = .ok (.goto 8, 3) := by decide +kernel
theorem dX11_lackOfCoordinate_20 : decode cX11_lackOfCoordinate 20 = .ok (.ireturn, 1) := by decide +kernel
abbrev cX11_variables : ByteArray := prog_1_method_2_code
def yX11_variables : MethodName := ⟨RX11, "variables", "(I)I"⟩
theorem dX11_variables_0 : decode cX11_variables 0 = .ok (.iload_n 1, 1) := by decide +kernel
theorem dX11_variables_1 : decode cX11_variables 1 = .ok (.iconst 1, 1) := by decide +kernel
theorem dX11_variables_2 : decode cX11_variables 2 = .ok (.if_icmp .lt 8, 3) := by decide +kernel
theorem dX11_variables_5 : decode cX11_variables 5 = .ok (.iload_n 1, 1) := by decide +kernel
theorem dX11_variables_6 : decode cX11_variables 6 = .ok (.iconst 3, 1) := by decide +kernel
theorem dX11_variables_7 : decode cX11_variables 7 = .ok (.if_icmp .le 9, 3) := by decide +kernel
theorem dX11_variables_10 : decode cX11_variables 10 = .ok (.aload_n 0, 1) := by decide +kernel
theorem dX11_variables_11 : decode cX11_variables 11 = .ok (.iconst 2, 1) := by decide +kernel
theorem dX11_variables_12 : decode cX11_variables 12 = .ok (.invokevirtual 71, 3) := by decide +kernel
theorem dX11_variables_15 : decode cX11_variables 15 = .ok (.ireturn, 1) := by decide +kernel
theorem dX11_variables_16 : decode cX11_variables 16 = .ok (.aload_n 0, 1) := by decide +kernel
theorem dX11_variables_17 : decode cX11_variables 17 = .ok (.iload_n 1, 1) := by decide +kernel
theorem dX11_variables_18 : decode cX11_variables 18 = .ok (.putfield 61, 3) := by decide +kernel
theorem dX11_variables_21 : decode cX11_variables 21 = .ok (.aload_n 0, 1) := by decide +kernel
theorem dX11_variables_22 : decode cX11_variables 22 = .ok (.iconst 0, 1) := by decide +kernel
theorem dX11_variables_23 : decode cX11_variables 23 = .ok (.putfield 75, 3) := by decide +kernel
theorem dX11_variables_26 : decode cX11_variables 26 = .ok (.aload_n 0, 1) := by decide +kernel
theorem dX11_variables_27 : decode cX11_variables 27 = .ok (.iload_n 1, 1) := by decide +kernel
theorem dX11_variables_28 : decode cX11_variables 28 = .ok (.invokevirtual 79, 3) := by decide +kernel
theorem dX11_variables_31 : decode cX11_variables 31 = .ok (.ireturn, 1) := by decide +kernel
abbrev cX11_basis : ByteArray := prog_1_method_7_code
def yX11_basis : MethodName := ⟨RX11, "basis", "()I"⟩
theorem dX11_basis_0 : decode cX11_basis 0 = .ok (.aload_n 0, 1) := by decide +kernel
theorem dX11_basis_1 : decode cX11_basis 1 = .ok (.getfield 75, 3) := by decide +kernel
theorem dX11_basis_4 : decode cX11_basis 4 = .ok (.ifCond .ne 9, 3) := by decide +kernel
theorem dX11_basis_7 : decode cX11_basis 7 = .ok (.aload_n 0, 1) := by decide +kernel
theorem dX11_basis_8 : decode cX11_basis 8 = .ok (.iconst 4, 1) := by decide +kernel
theorem dX11_basis_9 : decode cX11_basis 9 = .ok (.invokevirtual 71, 3) := by decide +kernel
theorem dX11_basis_12 : decode cX11_basis 12 = .ok (.ireturn, 1) := by decide +kernel
abbrev cX11_stairs : ByteArray := prog_1_method_9_code
def yX11_stairs : MethodName := ⟨RX11, "stairs", "()I"⟩
theorem dX11_stairs_0 : decode cX11_stairs 0 = .ok (.aload_n 0, 1) := by decide +kernel
theorem dX11_stairs_1 : decode cX11_stairs 1 = .ok (.invokevirtual 171, 3) := by decide +kernel
theorem dX11_stairs_4 : decode cX11_stairs 4 = .ok (.istore_n 1, 1) := by decide +kernel
theorem dX11_stairs_5 : decode cX11_stairs 5 = .ok (.iload_n 1, 1) := by decide +kernel
theorem dX11_stairs_6 : decode cX11_stairs 6 = .ok (.ifCond .eq 11, 3) := by decide +kernel
theorem dX11_stairs_9 : decode cX11_stairs 9 = .ok (.aload_n 0, 1) := by decide +kernel
theorem dX11_stairs_10 : decode cX11_stairs 10 = .ok (.iload_n 1, 1) := by decide +kernel
theorem dX11_stairs_11 : decode cX11_stairs 11 = .ok (.invokevirtual 71, 3) := by decide +kernel
theorem dX11_stairs_14 : decode cX11_stairs 14 = .ok (.goto 14, 3) := by decide +kernel
theorem dX11_stairs_28 : decode cX11_stairs 28 = .ok (.ireturn, 1) := by decide +kernel
abbrev cX11_rest : ByteArray := prog_1_method_11_code
def yX11_rest : MethodName := ⟨RX11, "rest", "()I"⟩
theorem dX11_rest_0 : decode cX11_rest 0 = .ok (.aload_n 0, 1) := by decide +kernel
theorem dX11_rest_1 : decode cX11_rest 1 = .ok (.getfield 75, 3) := by decide +kernel
theorem dX11_rest_4 : decode cX11_rest 4 = .ok (.ifCond .ne 9, 3) := by decide +kernel
theorem dX11_rest_7 : decode cX11_rest 7 = .ok (.aload_n 0, 1) := by decide +kernel
theorem dX11_rest_8 : decode cX11_rest 8 = .ok (.iconst 4, 1) := by decide +kernel
theorem dX11_rest_9 : decode cX11_rest 9 = .ok (.invokevirtual 71, 3) := by decide +kernel
theorem dX11_rest_12 : decode cX11_rest 12 = .ok (.ireturn, 1) := by decide +kernel
abbrev cX11_zeros : ByteArray := prog_1_method_12_code
def yX11_zeros : MethodName := ⟨RX11, "zeros", "()I"⟩
theorem dX11_zeros_0 : decode cX11_zeros 0 = .ok (.aload_n 0, 1) := by decide +kernel
theorem dX11_zeros_1 : decode cX11_zeros 1 = .ok (.invokevirtual 171, 3) := by decide +kernel
theorem dX11_zeros_4 : decode cX11_zeros 4 = .ok (.istore_n 1, 1) := by decide +kernel
theorem dX11_zeros_5 : decode cX11_zeros 5 = .ok (.iload_n 1, 1) := by decide +kernel
theorem dX11_zeros_6 : decode cX11_zeros 6 = .ok (.ifCond .eq 11, 3) := by decide +kernel
theorem dX11_zeros_9 : decode cX11_zeros 9 = .ok (.aload_n 0, 1) := by decide +kernel
theorem dX11_zeros_10 : decode cX11_zeros 10 = .ok (.iload_n 1, 1) := by decide +kernel
theorem dX11_zeros_11 : decode cX11_zeros 11 = .ok (.invokevirtual 71, 3) := by decide +kernel
theorem dX11_zeros_14 : decode cX11_zeros 14 = .ok (.goto 14, 3) := by decide +kernel
theorem dX11_zeros_28 : decode cX11_zeros 28 = .ok (.ireturn, 1) := by decide +kernel
abbrev cX11_form : ByteArray := prog_1_method_13_code
def yX11_form : MethodName := ⟨RX11, "form", "()I"⟩
theorem dX11_form_0 : decode cX11_form 0 = .ok (.aload_n 0, 1) := by decide +kernel
theorem dX11_form_1 : decode cX11_form 1 = .ok (.invokevirtual 171, 3) := by decide +kernel
theorem dX11_form_4 : decode cX11_form 4 = .ok (.istore_n 1, 1) := by decide +kernel
theorem dX11_form_5 : decode cX11_form 5 = .ok (.iload_n 1, 1) := by decide +kernel
theorem dX11_form_6 : decode cX11_form 6 = .ok (.ifCond .eq 11, 3) := by decide +kernel
theorem dX11_form_9 : decode cX11_form 9 = .ok (.aload_n 0, 1) := by decide +kernel
theorem dX11_form_10 : decode cX11_form 10 = .ok (.iload_n 1, 1) := by decide +kernel
theorem dX11_form_11 : decode cX11_form 11 = .ok (.invokevirtual 71, 3) := by decide +kernel
theorem dX11_form_14 : decode cX11_form 14 = .ok (.goto 14, 3) := by decide +kernel
theorem dX11_form_28 : decode cX11_form 28 = .ok (.ireturn, 1) := by decide +kernel
abbrev cX11_real : ByteArray := prog_1_method_16_code
def yX11_real : MethodName := ⟨RX11, "real", "()I"⟩
theorem dX11_real_0 : decode cX11_real 0 = .ok (.aload_n 0, 1) := by decide +kernel
theorem dX11_real_1 : decode cX11_real 1 = .ok (.invokevirtual 171, 3) := by decide +kernel
theorem dX11_real_4 : decode cX11_real 4 = .ok (.istore_n 1, 1) := by decide +kernel
theorem dX11_real_5 : decode cX11_real 5 = .ok (.iload_n 1, 1) := by decide +kernel
theorem dX11_real_6 : decode cX11_real 6 = .ok (.ifCond .eq 11, 3) := by decide +kernel
theorem dX11_real_9 : decode cX11_real 9 = .ok (.aload_n 0, 1) := by decide +kernel
theorem dX11_real_10 : decode cX11_real 10 = .ok (.iload_n 1, 1) := by decide +kernel
theorem dX11_real_11 : decode cX11_real 11 = .ok (.invokevirtual 71, 3) := by decide +kernel
theorem dX11_real_14 : decode cX11_real 14 = .ok (.goto 14, 3) := by decide +kernel
theorem dX11_real_28 : decode cX11_real 28 = .ok (.ireturn, 1) := by decide +kernel
abbrev cX11_apart : ByteArray := prog_1_method_21_code
def yX11_apart : MethodName := ⟨RX11, "apart", "()I"⟩
theorem dX11_apart_0 : decode cX11_apart 0 = .ok (.aload_n 0, 1) := by decide +kernel
theorem dX11_apart_1 : decode cX11_apart 1 = .ok (.invokevirtual 171, 3) := by decide +kernel
theorem dX11_apart_4 : decode cX11_apart 4 = .ok (.istore_n 1, 1) := by decide +kernel
theorem dX11_apart_5 : decode cX11_apart 5 = .ok (.iload_n 1, 1) := by decide +kernel
theorem dX11_apart_6 : decode cX11_apart 6 = .ok (.ifCond .eq 9, 3) := by decide +kernel
theorem dX11_apart_9 : decode cX11_apart 9 = .ok (.aload_n 0, 1) := by decide +kernel
theorem dX11_apart_10 : decode cX11_apart 10 = .ok (.iload_n 1, 1) := by decide +kernel
theorem dX11_apart_11 : decode cX11_apart 11 = .ok (.invokevirtual 71, 3) := by decide +kernel
theorem dX11_apart_14 : decode cX11_apart 14 = .ok (.ireturn, 1) := by decide +kernel
abbrev cX11_poly : ByteArray := prog_1_method_8_code
def yX11_poly : MethodName := ⟨RX11, "poly", "(I)I"⟩
theorem dX11_poly_0 : decode cX11_poly 0 = .ok (.aload_n 0, 1) := by decide +kernel
theorem dX11_poly_1 : decode cX11_poly 1 = .ok (.getfield 75, 3) := by decide +kernel
theorem dX11_poly_4 : decode cX11_poly 4 = .ok (.ifCond .ne 9, 3) := by decide +kernel
theorem dX11_poly_7 : decode cX11_poly 7 = .ok (.aload_n 0, 1) := by decide +kernel
theorem dX11_poly_8 : decode cX11_poly 8 = .ok (.iconst 4, 1) := by decide +kernel
theorem dX11_poly_9 : decode cX11_poly 9 = .ok (.invokevirtual 71, 3) := by decide +kernel
theorem dX11_poly_12 : decode cX11_poly 12 = .ok (.ireturn, 1) := by decide +kernel
abbrev cX11_stair : ByteArray := prog_1_method_10_code
def yX11_stair : MethodName := ⟨RX11, "stair", "(I)I"⟩
theorem dX11_stair_0 : decode cX11_stair 0 = .ok (.aload_n 0, 1) := by decide +kernel
theorem dX11_stair_1 : decode cX11_stair 1 = .ok (.invokevirtual 171, 3) := by decide +kernel
theorem dX11_stair_4 : decode cX11_stair 4 = .ok (.istore_n 2, 1) := by decide +kernel
theorem dX11_stair_5 : decode cX11_stair 5 = .ok (.iload_n 2, 1) := by decide +kernel
theorem dX11_stair_6 : decode cX11_stair 6 = .ok (.ifCond .eq 9, 3) := by decide +kernel
theorem dX11_stair_9 : decode cX11_stair 9 = .ok (.aload_n 0, 1) := by decide +kernel
theorem dX11_stair_10 : decode cX11_stair 10 = .ok (.iload_n 2, 1) := by decide +kernel
theorem dX11_stair_11 : decode cX11_stair 11 = .ok (.invokevirtual 71, 3) := by decide +kernel
theorem dX11_stair_14 : decode cX11_stair 14 = .ok (.ireturn, 1) := by decide +kernel
abbrev cX11_eliminant : ByteArray := prog_1_method_14_code
def yX11_eliminant : MethodName := ⟨RX11, "eliminant", "(I)I"⟩
theorem dX11_eliminant_0 : decode cX11_eliminant 0 = .ok (.aload_n 0, 1) := by decide +kernel
theorem dX11_eliminant_1 : decode cX11_eliminant 1 = .ok (.iload_n 1, 1) := by decide +kernel
theorem dX11_eliminant_2 : decode cX11_eliminant 2 = .ok (.iconst 0, 1) := by decide +kernel
theorem dX11_eliminant_3 : decode cX11_eliminant 3 = .ok (.invokevirtual 202, 3) := by decide +kernel
theorem dX11_eliminant_6 : decode cX11_eliminant 6 = .ok (.istore_n 2, 1) := by decide +kernel
theorem dX11_eliminant_7 : decode cX11_eliminant 7 = .ok (.iload_n 2, 1) := by decide +kernel
theorem dX11_eliminant_8 : decode cX11_eliminant 8 = .ok (.ifCond .eq 9, 3) := by decide +kernel
theorem dX11_eliminant_11 : decode cX11_eliminant 11 = .ok (.aload_n 0, 1) := by decide +kernel
theorem dX11_eliminant_12 : decode cX11_eliminant 12 = .ok (.iload_n 2, 1) := by decide +kernel
theorem dX11_eliminant_13 : decode cX11_eliminant 13 = .ok (.invokevirtual 71, 3) := by decide +kernel
theorem dX11_eliminant_16 : decode cX11_eliminant 16 = .ok (.ireturn, 1) := by decide +kernel
abbrev cX11_fraction : ByteArray := prog_1_method_15_code
def yX11_fraction : MethodName := ⟨RX11, "fraction", "(I)I"⟩
theorem dX11_fraction_0 : decode cX11_fraction 0 = .ok (.aload_n 0, 1) := by decide +kernel
theorem dX11_fraction_1 : decode cX11_fraction 1 = .ok (.iload_n 1, 1) := by decide +kernel
theorem dX11_fraction_2 : decode cX11_fraction 2 = .ok (.iconst 0, 1) := by decide +kernel
theorem dX11_fraction_3 : decode cX11_fraction 3 = .ok (.invokevirtual 202, 3) := by decide +kernel
theorem dX11_fraction_6 : decode cX11_fraction 6 = .ok (.istore_n 2, 1) := by decide +kernel
theorem dX11_fraction_7 : decode cX11_fraction 7 = .ok (.iload_n 2, 1) := by decide +kernel
theorem dX11_fraction_8 : decode cX11_fraction 8 = .ok (.ifCond .eq 9, 3) := by decide +kernel
theorem dX11_fraction_11 : decode cX11_fraction 11 = .ok (.aload_n 0, 1) := by decide +kernel
theorem dX11_fraction_12 : decode cX11_fraction 12 = .ok (.iload_n 2, 1) := by decide +kernel
theorem dX11_fraction_13 : decode cX11_fraction 13 = .ok (.invokevirtual 71, 3) := by decide +kernel
theorem dX11_fraction_16 : decode cX11_fraction 16 = .ok (.ireturn, 1) := by decide +kernel
abbrev cX11_multiplicity : ByteArray := prog_1_method_17_code
def yX11_multiplicity : MethodName := ⟨RX11, "multiplicity", "(I)I"⟩
theorem dX11_multiplicity_0 : decode cX11_multiplicity 0 = .ok (.aload_n 0, 1) := by decide +kernel
theorem dX11_multiplicity_1 : decode cX11_multiplicity 1 = .ok (.iload_n 1, 1) := by decide +kernel
theorem dX11_multiplicity_2 : decode cX11_multiplicity 2 = .ok (.invokevirtual 220, 3) := by decide +kernel
theorem dX11_multiplicity_5 : decode cX11_multiplicity 5 = .ok (.istore_n 2, 1) := by decide +kernel
theorem dX11_multiplicity_6 : decode cX11_multiplicity 6 = .ok (.iload_n 2, 1) := by decide +kernel
theorem dX11_multiplicity_7 : decode cX11_multiplicity 7 = .ok (.ifCond .eq 11, 3) := by decide +kernel
theorem dX11_multiplicity_10 : decode cX11_multiplicity 10 = .ok (.aload_n 0, 1) := by decide +kernel
theorem dX11_multiplicity_11 : decode cX11_multiplicity 11 = .ok (.iload_n 2, 1) := by decide +kernel
theorem dX11_multiplicity_12 : decode cX11_multiplicity 12 = .ok (.invokevirtual 71, 3) := by decide +kernel
theorem dX11_multiplicity_15 : decode cX11_multiplicity 15 = .ok (.goto 16, 3) := by decide +kernel
theorem dX11_multiplicity_31 : decode cX11_multiplicity 31 = .ok (.ireturn, 1) := by decide +kernel
abbrev cX11_sign : ByteArray := prog_1_method_22_code
def yX11_sign : MethodName := ⟨RX11, "sign", "(I)I"⟩
theorem dX11_sign_0 : decode cX11_sign 0 = .ok (.aload_n 0, 1) := by decide +kernel
theorem dX11_sign_1 : decode cX11_sign 1 = .ok (.iload_n 1, 1) := by decide +kernel
theorem dX11_sign_2 : decode cX11_sign 2 = .ok (.invokevirtual 220, 3) := by decide +kernel
theorem dX11_sign_5 : decode cX11_sign 5 = .ok (.istore_n 2, 1) := by decide +kernel
theorem dX11_sign_6 : decode cX11_sign 6 = .ok (.iload_n 2, 1) := by decide +kernel
theorem dX11_sign_7 : decode cX11_sign 7 = .ok (.ifCond .eq 9, 3) := by decide +kernel
theorem dX11_sign_10 : decode cX11_sign 10 = .ok (.aload_n 0, 1) := by decide +kernel
theorem dX11_sign_11 : decode cX11_sign 11 = .ok (.iload_n 2, 1) := by decide +kernel
theorem dX11_sign_12 : decode cX11_sign 12 = .ok (.invokevirtual 71, 3) := by decide +kernel
theorem dX11_sign_15 : decode cX11_sign 15 = .ok (.ireturn, 1) := by decide +kernel
abbrev cX11_rank : ByteArray := prog_1_method_18_code
def yX11_rank : MethodName := ⟨RX11, "rank", "(II)I"⟩
theorem dX11_rank_0 : decode cX11_rank 0 = .ok (.aload_n 0, 1) := by decide +kernel
theorem dX11_rank_1 : decode cX11_rank 1 = .ok (.iload_n 1, 1) := by decide +kernel
theorem dX11_rank_2 : decode cX11_rank 2 = .ok (.iload_n 2, 1) := by decide +kernel
theorem dX11_rank_3 : decode cX11_rank 3 = .ok (.invokevirtual 226, 3) := by decide +kernel
theorem dX11_rank_6 : decode cX11_rank 6 = .ok (.istore_n 3, 1) := by decide +kernel
theorem dX11_rank_7 : decode cX11_rank 7 = .ok (.iload_n 3, 1) := by decide +kernel
theorem dX11_rank_8 : decode cX11_rank 8 = .ok (.ifCond .eq 11, 3) := by decide +kernel
theorem dX11_rank_11 : decode cX11_rank 11 = .ok (.aload_n 0, 1) := by decide +kernel
theorem dX11_rank_12 : decode cX11_rank 12 = .ok (.iload_n 3, 1) := by decide +kernel
theorem dX11_rank_13 : decode cX11_rank 13 = .ok (.invokevirtual 71, 3) := by decide +kernel
theorem dX11_rank_16 : decode cX11_rank 16 = .ok (.goto 16, 3) := by decide +kernel
theorem dX11_rank_32 : decode cX11_rank 32 = .ok (.ireturn, 1) := by decide +kernel
abbrev cX11_floor : ByteArray := prog_1_method_19_code
def yX11_floor : MethodName := ⟨RX11, "floor", "(III)I"⟩
theorem dX11_floor_0 : decode cX11_floor 0 = .ok (.iload_n 3, 1) := by decide +kernel
theorem dX11_floor_1 : decode cX11_floor 1 = .ok (.ifCond .lt 10, 3) := by decide +kernel
theorem dX11_floor_4 : decode cX11_floor 4 = .ok (.iload_n 3, 1) := by decide +kernel
theorem dX11_floor_5 : decode cX11_floor 5 = .ok (.sipush 128, 3) := by decide +kernel
theorem dX11_floor_8 : decode cX11_floor 8 = .ok (.if_icmp .le 9, 3) := by decide +kernel
theorem dX11_floor_11 : decode cX11_floor 11 = .ok (.aload_n 0, 1) := by decide +kernel
theorem dX11_floor_12 : decode cX11_floor 12 = .ok (.iconst 2, 1) := by decide +kernel
theorem dX11_floor_13 : decode cX11_floor 13 = .ok (.invokevirtual 71, 3) := by decide +kernel
theorem dX11_floor_16 : decode cX11_floor 16 = .ok (.ireturn, 1) := by decide +kernel
theorem dX11_floor_17 : decode cX11_floor 17 = .ok (.aload_n 0, 1) := by decide +kernel
theorem dX11_floor_18 : decode cX11_floor 18 = .ok (.iload_n 1, 1) := by decide +kernel
theorem dX11_floor_19 : decode cX11_floor 19 = .ok (.iload_n 2, 1) := by decide +kernel
theorem dX11_floor_20 : decode cX11_floor 20 = .ok (.invokevirtual 226, 3) := by decide +kernel
theorem dX11_floor_23 : decode cX11_floor 23 = .ok (.istore 4, 2) := by decide +kernel
theorem dX11_floor_25 : decode cX11_floor 25 = .ok (.iload 4, 2) := by decide +kernel
theorem dX11_floor_27 : decode cX11_floor 27 = .ok (.ifCond .eq 10, 3) := by decide +kernel
theorem dX11_floor_30 : decode cX11_floor 30 = .ok (.aload_n 0, 1) := by decide +kernel
theorem dX11_floor_31 : decode cX11_floor 31 = .ok (.iload 4, 2) := by decide +kernel
theorem dX11_floor_33 : decode cX11_floor 33 = .ok (.invokevirtual 71, 3) := by decide +kernel
theorem dX11_floor_36 : decode cX11_floor 36 = .ok (.ireturn, 1) := by decide +kernel
abbrev cX11_exact : ByteArray := prog_1_method_20_code
def yX11_exact : MethodName := ⟨RX11, "exact", "(III)I"⟩
theorem dX11_exact_0 : decode cX11_exact 0 = .ok (.iload_n 3, 1) := by decide +kernel
theorem dX11_exact_1 : decode cX11_exact 1 = .ok (.ifCond .lt 10, 3) := by decide +kernel
theorem dX11_exact_4 : decode cX11_exact 4 = .ok (.iload_n 3, 1) := by decide +kernel
theorem dX11_exact_5 : decode cX11_exact 5 = .ok (.sipush 128, 3) := by decide +kernel
theorem dX11_exact_8 : decode cX11_exact 8 = .ok (.if_icmp .le 9, 3) := by decide +kernel
theorem dX11_exact_11 : decode cX11_exact 11 = .ok (.aload_n 0, 1) := by decide +kernel
theorem dX11_exact_12 : decode cX11_exact 12 = .ok (.iconst 2, 1) := by decide +kernel
theorem dX11_exact_13 : decode cX11_exact 13 = .ok (.invokevirtual 71, 3) := by decide +kernel
theorem dX11_exact_16 : decode cX11_exact 16 = .ok (.ireturn, 1) := by decide +kernel
theorem dX11_exact_17 : decode cX11_exact 17 = .ok (.aload_n 0, 1) := by decide +kernel
theorem dX11_exact_18 : decode cX11_exact 18 = .ok (.iload_n 1, 1) := by decide +kernel
theorem dX11_exact_19 : decode cX11_exact 19 = .ok (.iload_n 2, 1) := by decide +kernel
theorem dX11_exact_20 : decode cX11_exact 20 = .ok (.invokevirtual 226, 3) := by decide +kernel
theorem dX11_exact_23 : decode cX11_exact 23 = .ok (.istore 4, 2) := by decide +kernel
theorem dX11_exact_25 : decode cX11_exact 25 = .ok (.iload 4, 2) := by decide +kernel
theorem dX11_exact_27 : decode cX11_exact 27 = .ok (.ifCond .eq 10, 3) := by decide +kernel
theorem dX11_exact_30 : decode cX11_exact 30 = .ok (.aload_n 0, 1) := by decide +kernel
theorem dX11_exact_31 : decode cX11_exact 31 = .ok (.iload 4, 2) := by decide +kernel
theorem dX11_exact_33 : decode cX11_exact 33 = .ok (.invokevirtual 71, 3) := by decide +kernel
theorem dX11_exact_36 : decode cX11_exact 36 = .ok (.ireturn, 1) := by decide +kernel
def w_X11_refuse : List Cond := .code yX11_refuse cX11_refuse 2 (some .int) :: ([.fieldLink RX11 65 "RealSolver" "outcome" "I"] ++ (wsX110 ++ ([] : List Cond)))
theorem in_X11_refuse_X11 : ∀ w ∈ wsX110, w ∈ w_X11_refuse := fun _ h => List.mem_cons_of_mem _ (List.mem_append_right _ (List.mem_append_left _ h))
set_option maxHeartbeats 4000000 in
set_option maxRecDepth 100000 in
theorem k_X11_refuse (l : Launch) (dC : Nat → ClassId) (dI : Nat → Nat → Nat) (h0 : Nat) (a0 : Value) (a1 : Value) (a2 : Value) (a3 : Value) (a4 : Value) (a5 : Value) (a6 : Value) (a7 : Value) (a8 : Value) (a9 : Value) (a10 : Value) (a11 : Value) (w : Int32) (sz : Nat) : Met l yX11_refuse w_X11_refuse ({ frames := 0, cells := 0, slots := 0, locals := 0 }) (va_Pc [.ref h0, .int w] (fun U => U.heap.size = sz ∧ va_P (dC, dI) cls_ [(h0, .inr (10, [a0, a1, a2, a3, a4, a5, a6, a7, a8, a9, a10, a11]))] U.heap ∧ va_K (dC, dI) cls_ [] U ∧ va_D (fun _ => True) [(h0, .inr (10, [a0, a1, a2, a3, a4, a5, a6, a7, a8, a9, a10, a11]))] ∧ nx_ U)) (va_Qi (fun (r : Int32) (_ : Unit) => r = (-1)) (fun _ _ => True) (va_A [(h0, .inr (10, [a0, a1, a2, a3, a4, a5, a6, a7, a8, a9, a10, a11]))] sz)) 0 0 (va_A [(h0, .inr (10, [a0, a1, a2, a3, a4, a5, a6, a7, a8, a9, a10, a11]))] sz) := by
  refine Met.ofW (cc := cX11_refuse) (maxL := 2) (ret := (some .int)) (by decide) rfl ?_
  intro p e s m args below meth c s₁ B hml hv
  obtain ⟨rfl, hsz, hP, hK, hD0, hNx⟩ := hv
  have hx := B.exec
  have hb := B.bytes
  have hr := B.returns
  have hts := atoms_spec (ws := w_X11_refuse) B.pre
  have hown : s.vm.findClass RX11 = some m.cls := findClass_of_methodNamed B.named
  have hlocks := B.notSynchronized
  subst hsz
  have hD := hD0.self (sz := s.heap.size)
  generalize hAe : va_A [(h0, .inr (10, [a0, a1, a2, a3, a4, a5, a6, a7, a8, a9, a10, a11]))] s.heap.size = A at hD ⊢
  have hA : ∀ q : Nat, s.heap.size ≤ q → A q := fun q h => by rw [← hAe]; exact Or.inr h
  have hS : va_S A s.heap s.heap [] := va_S.rf
  have hP : va_P (dC, dI) cls_ [(h0, .inr (10, [a0, a1, a2, a3, a4, a5, a6, a7, a8, a9, a10, a11]))] s.heap := hP
  have hl := lv_entry ([.ref h0, .int w]) (n := 2) (Nat.le_of_ble_eq_true rfl)
  rw [lg_entry_eq]
  generalize (lg_sl ([.ref h0, .int w]) ++ List.replicate (2 - (lg_sl ([.ref h0, .int w])).length) Slot.unset).toArray = ls at hl ⊢
  have hl : lv_has ls 2 [(0, .ref h0), (1, .int w)] := hl
  refine lv_aload_n hx hb dX11_refuse_0 rfl (lv_at hl 0 rfl) ?_
  refine lv_iload_n hx hb dX11_refuse_1 rfl (lv_at hl 1 rfl) ?_
  refine va_put (D := (dC, dI)) (ci := 10) (v := .int w) (ty := .int) (C := RX11) (T := TX11) (N := 12) hx hb hts in_X11_refuse_X11 tyX11 tyX11_ok nmX11 hown hK hP hD hS 0 rfl rfl 9 (by decide) (hts (.fieldLink RX11 65 "RealSolver" "outcome" "I") (List.mem_of_getElem? (i := 1) rfl)) (fun _ h9 => h9) rfl (by decide +kernel) rfl rfl (Nat.le_of_ble_eq_true rfl) dX11_refuse_2 (fun H locs hP hD hS => ?_)
  have hP : va_P (dC, dI) cls_ [(h0, .inr (10, [a0, a1, a2, a3, a4, a5, a6, a7, a8, .int w, a10, a11]))] H := hP
  have hD : va_D A [(h0, .inr (10, [a0, a1, a2, a3, a4, a5, a6, a7, a8, .int w, a10, a11]))] := hD
  refine lv_iconst (v := -1) hx hb dX11_refuse_5 (by decide) ?_
  refine W.widen (k := 0) (n := 0) (Nat.le_of_ble_eq_true rfl) (Nat.le_of_ble_eq_true rfl) ?_
  exact W.iret (v := (-1)) hx hb hr (fun t ht hW => ⟨⟨(-1), (), rfl, rfl, trivial⟩, hS.F ht⟩) hS.2.2 dX11_refuse_6

def w_X11_answer : List Cond := .code yX11_answer cX11_answer 2 (some .int) :: ([.fieldLink RX11 65 "RealSolver" "outcome" "I"] ++ (wsX110 ++ ([] : List Cond)))
theorem in_X11_answer_X11 : ∀ w ∈ wsX110, w ∈ w_X11_answer := fun _ h => List.mem_cons_of_mem _ (List.mem_append_right _ (List.mem_append_left _ h))
set_option maxHeartbeats 4000000 in
set_option maxRecDepth 100000 in
theorem k_X11_answer (l : Launch) (dC : Nat → ClassId) (dI : Nat → Nat → Nat) (h0 : Nat) (a0 : Value) (a1 : Value) (a2 : Value) (a3 : Value) (a4 : Value) (a5 : Value) (a6 : Value) (a7 : Value) (a8 : Value) (a9 : Value) (a10 : Value) (a11 : Value) (w : Int32) (sz : Nat) : Met l yX11_answer w_X11_answer ({ frames := 0, cells := 0, slots := 0, locals := 0 }) (va_Pc [.ref h0, .int w] (fun U => U.heap.size = sz ∧ va_P (dC, dI) cls_ [(h0, .inr (10, [a0, a1, a2, a3, a4, a5, a6, a7, a8, a9, a10, a11]))] U.heap ∧ va_K (dC, dI) cls_ [] U ∧ va_D (fun _ => True) [(h0, .inr (10, [a0, a1, a2, a3, a4, a5, a6, a7, a8, a9, a10, a11]))] ∧ nx_ U)) (va_Qi (fun (r : Int32) (_ : Unit) => r = w) (fun _ _ => True) (va_A [(h0, .inr (10, [a0, a1, a2, a3, a4, a5, a6, a7, a8, a9, a10, a11]))] sz)) 0 0 (va_A [(h0, .inr (10, [a0, a1, a2, a3, a4, a5, a6, a7, a8, a9, a10, a11]))] sz) := by
  refine Met.ofW (cc := cX11_answer) (maxL := 2) (ret := (some .int)) (by decide) rfl ?_
  intro p e s m args below meth c s₁ B hml hv
  obtain ⟨rfl, hsz, hP, hK, hD0, hNx⟩ := hv
  have hx := B.exec
  have hb := B.bytes
  have hr := B.returns
  have hts := atoms_spec (ws := w_X11_answer) B.pre
  have hown : s.vm.findClass RX11 = some m.cls := findClass_of_methodNamed B.named
  have hlocks := B.notSynchronized
  subst hsz
  have hD := hD0.self (sz := s.heap.size)
  generalize hAe : va_A [(h0, .inr (10, [a0, a1, a2, a3, a4, a5, a6, a7, a8, a9, a10, a11]))] s.heap.size = A at hD ⊢
  have hA : ∀ q : Nat, s.heap.size ≤ q → A q := fun q h => by rw [← hAe]; exact Or.inr h
  have hS : va_S A s.heap s.heap [] := va_S.rf
  have hP : va_P (dC, dI) cls_ [(h0, .inr (10, [a0, a1, a2, a3, a4, a5, a6, a7, a8, a9, a10, a11]))] s.heap := hP
  have hl := lv_entry ([.ref h0, .int w]) (n := 2) (Nat.le_of_ble_eq_true rfl)
  rw [lg_entry_eq]
  generalize (lg_sl ([.ref h0, .int w]) ++ List.replicate (2 - (lg_sl ([.ref h0, .int w])).length) Slot.unset).toArray = ls at hl ⊢
  have hl : lv_has ls 2 [(0, .ref h0), (1, .int w)] := hl
  refine lv_aload_n hx hb dX11_answer_0 rfl (lv_at hl 0 rfl) ?_
  refine lv_iconst (v := 0) hx hb dX11_answer_1 (by decide) ?_
  refine va_put (D := (dC, dI)) (ci := 10) (v := .int 0) (ty := .int) (C := RX11) (T := TX11) (N := 12) hx hb hts in_X11_answer_X11 tyX11 tyX11_ok nmX11 hown hK hP hD hS 0 rfl rfl 9 (by decide) (hts (.fieldLink RX11 65 "RealSolver" "outcome" "I") (List.mem_of_getElem? (i := 1) rfl)) (fun _ h9 => h9) rfl (by decide +kernel) rfl rfl (Nat.le_of_ble_eq_true rfl) dX11_answer_2 (fun H locs hP hD hS => ?_)
  have hP : va_P (dC, dI) cls_ [(h0, .inr (10, [a0, a1, a2, a3, a4, a5, a6, a7, a8, .int 0, a10, a11]))] H := hP
  have hD : va_D A [(h0, .inr (10, [a0, a1, a2, a3, a4, a5, a6, a7, a8, .int 0, a10, a11]))] := hD
  refine lv_iload_n hx hb dX11_answer_5 rfl (lv_at hl 1 rfl) ?_
  refine W.widen (k := 0) (n := 0) (Nat.le_of_ble_eq_true rfl) (Nat.le_of_ble_eq_true rfl) ?_
  exact W.iret (v := w) hx hb hr (fun t ht hW => ⟨⟨w, (), rfl, rfl, trivial⟩, hS.F ht⟩) hS.2.2 dX11_answer_6

def w_X11_lackOfZeros : List Cond := .code yX11_lackOfZeros cX11_lackOfZeros 1 (some .int) :: ([.fieldLink RX11 75 "RealSolver" "solved" "Z"] ++ (wsX110 ++ ([] : List Cond)))
theorem in_X11_lackOfZeros_X11 : ∀ w ∈ wsX110, w ∈ w_X11_lackOfZeros := fun _ h => List.mem_cons_of_mem _ (List.mem_append_right _ (List.mem_append_left _ h))
set_option maxHeartbeats 4000000 in
set_option maxRecDepth 100000 in
theorem k_X11_lackOfZeros (l : Launch) (dC : Nat → ClassId) (dI : Nat → Nat → Nat) (h0 : Nat) (a0 : Value) (a1 : Value) (a2 : Value) (a3 : Value) (a4 : Value) (a5 : Value) (a6 : Value) (a7 : Value) (a8 : Value) (a9 : Value) (a10 : Value) (sz : Nat) : Met l yX11_lackOfZeros w_X11_lackOfZeros ({ frames := 0, cells := 0, slots := 0, locals := 0 }) (va_Pc [.ref h0] (fun U => U.heap.size = sz ∧ va_P (dC, dI) cls_ [(h0, .inr (10, [a0, a1, a2, a3, a4, a5, a6, a7, a8, a9, a10, .int 0]))] U.heap ∧ va_K (dC, dI) cls_ [] U ∧ va_D (fun _ => True) [(h0, .inr (10, [a0, a1, a2, a3, a4, a5, a6, a7, a8, a9, a10, .int 0]))] ∧ nx_ U)) (va_Qi (fun (r : Int32) (_ : Unit) => r = 4) (fun _ t => va_P (dC, dI) cls_ [(h0, .inr (10, [a0, a1, a2, a3, a4, a5, a6, a7, a8, a9, a10, .int 0]))] t.heap ∧ va_K (dC, dI) cls_ [] t ∧ va_D (va_A [(h0, .inr (10, [a0, a1, a2, a3, a4, a5, a6, a7, a8, a9, a10, .int 0]))] sz) [(h0, .inr (10, [a0, a1, a2, a3, a4, a5, a6, a7, a8, a9, a10, .int 0]))]) (va_A [(h0, .inr (10, [a0, a1, a2, a3, a4, a5, a6, a7, a8, a9, a10, .int 0]))] sz)) 0 0 (va_A [(h0, .inr (10, [a0, a1, a2, a3, a4, a5, a6, a7, a8, a9, a10, .int 0]))] sz) := by
  refine Met.ofW (cc := cX11_lackOfZeros) (maxL := 1) (ret := (some .int)) (by decide) rfl ?_
  intro p e s m args below meth c s₁ B hml hv
  obtain ⟨rfl, hsz, hP, hK, hD0, hNx⟩ := hv
  have hx := B.exec
  have hb := B.bytes
  have hr := B.returns
  have hts := atoms_spec (ws := w_X11_lackOfZeros) B.pre
  have hown : s.vm.findClass RX11 = some m.cls := findClass_of_methodNamed B.named
  have hlocks := B.notSynchronized
  subst hsz
  have hD := hD0.self (sz := s.heap.size)
  generalize hAe : va_A [(h0, .inr (10, [a0, a1, a2, a3, a4, a5, a6, a7, a8, a9, a10, .int 0]))] s.heap.size = A at hD ⊢
  have hA : ∀ q : Nat, s.heap.size ≤ q → A q := fun q h => by rw [← hAe]; exact Or.inr h
  have hS : va_S A s.heap s.heap [] := va_S.rf
  have hP : va_P (dC, dI) cls_ [(h0, .inr (10, [a0, a1, a2, a3, a4, a5, a6, a7, a8, a9, a10, .int 0]))] s.heap := hP
  have hl := lv_entry ([.ref h0]) (n := 1) (Nat.le_of_ble_eq_true rfl)
  rw [lg_entry_eq]
  generalize (lg_sl ([.ref h0]) ++ List.replicate (1 - (lg_sl ([.ref h0])).length) Slot.unset).toArray = ls at hl ⊢
  have hl : lv_has ls 1 [(0, .ref h0)] := hl
  refine lv_aload_n hx hb dX11_lackOfZeros_0 rfl (lv_at hl 0 rfl) ?_
  refine va_get (D := (dC, dI)) (ci := 10) (v := .int 0) (C := RX11) (T := TX11) (N := 12) hx hb hts in_X11_lackOfZeros_X11 hown hK hP 0 rfl rfl 11 (by decide) (hts (.fieldLink RX11 75 "RealSolver" "solved" "Z") (List.mem_of_getElem? (i := 1) rfl)) (fun _ h9 => h9) rfl dX11_lackOfZeros_1 ?_
  refine lv_if_ne (tgt := 9) hx hb dX11_lackOfZeros_4 (by decide) (fun c_1 => absurd (by decide) c_1) (fun c_1 => ?_)
  refine lv_iconst (v := 4) hx hb dX11_lackOfZeros_7 (by decide) ?_
  refine W.widen (k := 0) (n := 0) (Nat.le_of_ble_eq_true rfl) (Nat.le_of_ble_eq_true rfl) ?_
  have hP9 := hP.sub (ws' := [(h0, .inr (10, [a0, a1, a2, a3, a4, a5, a6, a7, a8, a9, a10, .int 0]))]) [0] rfl
  have hD9 := hD.sub (ws' := [(h0, .inr (10, [a0, a1, a2, a3, a4, a5, a6, a7, a8, a9, a10, .int 0]))]) [0] (by decide) rfl
  have hK9 := hK.sub (tys' := []) [] rfl
  exact W.iret (v := 4) hx hb hr (fun t ht hW => ⟨⟨4, (), rfl, rfl, ⟨by rw [ht]; exact hP9, va_K.moved hW.alike hK9, hD9⟩⟩, hS.F ht⟩) hS.2.2 dX11_lackOfZeros_8

def w_X11_lackOfVariable : List Cond := .code yX11_lackOfVariable cX11_lackOfVariable 4 (some .int) :: ([.fieldLink RX11 75 "RealSolver" "solved" "Z", .code yX11_lackOfZeros cX11_lackOfZeros 1 (some .int), .methodLink RX11 171 yX11_lackOfZeros, .instanceMethod yX11_lackOfZeros, .selects RX11 yX11_lackOfZeros yX11_lackOfZeros, .initialized RX11] ++ (wsX110 ++ ([] : List Cond)))
theorem in_X11_lackOfVariable_X11 : ∀ w ∈ wsX110, w ∈ w_X11_lackOfVariable := fun _ h => List.mem_cons_of_mem _ (List.mem_append_right _ (List.mem_append_left _ h))
set_option maxRecDepth 20000 in
theorem g_X11_lackOfVariable_X11_lackOfZeros_171 : GoodIn w_X11_lackOfVariable (wsV RX11 171 RX11 yX11_lackOfZeros w_X11_lackOfZeros) := goodIn_r _ [3, 4, 5, 6, 2, 1, 7, 8, 9, 10, 11, 12, 13, 14, 15, 16, 17, 18] (by decide +kernel) (by decide +kernel)
set_option maxHeartbeats 4000000 in
set_option maxRecDepth 100000 in
theorem k_X11_lackOfVariable (l : Launch) (dC : Nat → ClassId) (dI : Nat → Nat → Nat) (h0 : Nat) (a0 : Value) (a1 : Value) (a2 : Value) (a3 : Value) (a4 : Value) (a5 : Value) (a6 : Value) (a7 : Value) (a8 : Value) (a9 : Value) (a10 : Value) (v : Int32) (w : Int32) (sz : Nat) : Met l yX11_lackOfVariable w_X11_lackOfVariable ({ frames := 1, cells := 0, slots := 0, locals := 20 }) (va_Pc [.ref h0, .int v, .int w] (fun U => U.heap.size = sz ∧ va_P (dC, dI) cls_ [(h0, .inr (10, [a0, a1, a2, a3, a4, a5, a6, a7, a8, a9, a10, .int 0]))] U.heap ∧ va_K (dC, dI) cls_ [] U ∧ va_D (fun _ => True) [(h0, .inr (10, [a0, a1, a2, a3, a4, a5, a6, a7, a8, a9, a10, .int 0]))] ∧ nx_ U)) (va_Qi (fun (r : Int32) (_ : Unit) => r = 4) (fun _ t => va_P (dC, dI) cls_ [(h0, .inr (10, [a0, a1, a2, a3, a4, a5, a6, a7, a8, a9, a10, .int 0]))] t.heap ∧ va_K (dC, dI) cls_ [] t ∧ va_D (va_A [(h0, .inr (10, [a0, a1, a2, a3, a4, a5, a6, a7, a8, a9, a10, .int 0]))] sz) [(h0, .inr (10, [a0, a1, a2, a3, a4, a5, a6, a7, a8, a9, a10, .int 0]))]) (va_A [(h0, .inr (10, [a0, a1, a2, a3, a4, a5, a6, a7, a8, a9, a10, .int 0]))] sz)) 0 0 (va_A [(h0, .inr (10, [a0, a1, a2, a3, a4, a5, a6, a7, a8, a9, a10, .int 0]))] sz) := by
  refine Met.ofW (cc := cX11_lackOfVariable) (maxL := 4) (ret := (some .int)) (by decide) rfl ?_
  intro p e s m args below meth c s₁ B hml hv
  obtain ⟨rfl, hsz, hP, hK, hD0, hNx⟩ := hv
  have hx := B.exec
  have hb := B.bytes
  have hr := B.returns
  have hts := atoms_spec (ws := w_X11_lackOfVariable) B.pre
  have hown : s.vm.findClass RX11 = some m.cls := findClass_of_methodNamed B.named
  have hlocks := B.notSynchronized
  subst hsz
  have hD := hD0.self (sz := s.heap.size)
  generalize hAe : va_A [(h0, .inr (10, [a0, a1, a2, a3, a4, a5, a6, a7, a8, a9, a10, .int 0]))] s.heap.size = A at hD ⊢
  have hA : ∀ q : Nat, s.heap.size ≤ q → A q := fun q h => by rw [← hAe]; exact Or.inr h
  have hS : va_S A s.heap s.heap [] := va_S.rf
  have hP : va_P (dC, dI) cls_ [(h0, .inr (10, [a0, a1, a2, a3, a4, a5, a6, a7, a8, a9, a10, .int 0]))] s.heap := hP
  have hl := lv_entry ([.ref h0, .int v, .int w]) (n := 4) (Nat.le_of_ble_eq_true rfl)
  rw [lg_entry_eq]
  generalize (lg_sl ([.ref h0, .int v, .int w]) ++ List.replicate (4 - (lg_sl ([.ref h0, .int v, .int w])).length) Slot.unset).toArray = ls at hl ⊢
  have hl : lv_has ls 4 [(0, .ref h0), (1, .int v), (2, .int w)] := hl
  refine lv_aload_n hx hb dX11_lackOfVariable_0 rfl (lv_at hl 0 rfl) ?_
  have hPc := hP.sub (ws' := [(h0, .inr (10, [a0, a1, a2, a3, a4, a5, a6, a7, a8, a9, a10, .int 0]))]) [0] rfl
  have hDc := hD.sub (ws' := [(h0, .inr (10, [a0, a1, a2, a3, a4, a5, a6, a7, a8, a9, a10, .int 0]))]) [0] (by decide) rfl
  have hKc := hK.sub (tys' := []) [] rfl
  have hFc := va_free (wc := [(h0, .inr (10, [a0, a1, a2, a3, a4, a5, a6, a7, a8, a9, a10, .int 0]))]) hD hS hA [0] rfl
  refine va_calli (va_runV (As := []) (rest := []) ⟨hx, hb, hml, hown, hts⟩ (k_X11_lackOfZeros l dC dI h0 a0 a1 a2 a3 a4 a5 a6 a7 a8 a9 a10 s.heap.size) (cwV 0 hts g_X11_lackOfVariable_X11_lackOfZeros_171 rfl rfl rfl (by decide +kernel) ⟨Nat.le_of_ble_eq_true rfl, Nat.le_of_ble_eq_true rfl⟩) ⟨fun a U g mk q => by obtain ⟨q0, q1, qP, qK, qD, qN⟩ := q; exact ⟨q0, q1, qP, va_K.moved (u := U) (U := U.calling g mk a) (Vm.Alike.refl U.vm) qK, qD, nx_.same rfl qN⟩, va_recv hKc hPc (ci := 10) (q0 := 0) rfl rfl, fun U hU hW => ⟨rfl, by rw [hU], by rw [hU]; exact hPc, va_K.moved hW.alike hKc, hDc.weaken (fun _ _ _ _ => trivial), nx_.warm hW hNx⟩⟩ rfl rfl hl.1 rfl (lv_room (Nat.le_of_ble_eq_true rfl)) dX11_lackOfVariable_1 ⟨Nat.le_of_ble_eq_true rfl, Nat.le_of_ble_eq_true rfl⟩) hS (fun q _ h => hFc q h) hFc (fun r_1 u t H1 locs ht hvm hw hB hz1 hk1 hS => ?_)
  try dsimp only at hw
  obtain ⟨hP1, hK1, hD1⟩ := hB
  rw [ht] at hP1
  obtain ⟨hP, hD⟩ := va_join (wr := []) (w1 := [(h0, .inr (10, [a0, a1, a2, a3, a4, a5, a6, a7, a8, a9, a10, .int 0]))]) hP hD [0] [] rfl rfl (by decide) (by decide) hk1 hFc hP1 hD1
  generalize H1 = H at hP hS ⊢
  have hP : va_P (dC, dI) cls_ [(h0, .inr (10, [a0, a1, a2, a3, a4, a5, a6, a7, a8, a9, a10, .int 0]))] H := hP
  have hD : va_D A [(h0, .inr (10, [a0, a1, a2, a3, a4, a5, a6, a7, a8, a9, a10, .int 0]))] := hD
  refine W.widen (k := 0) (n := 0) (Nat.le_of_ble_eq_true rfl) (Nat.le_of_ble_eq_true rfl) ?_
  obtain rfl : (4 : Int32) = r_1 := Eq.symm hw
  refine lv_istore_n (lv' := [(3, .int 4), (0, .ref h0), (1, .int v), (2, .int w)]) hx hb dX11_lackOfVariable_4 rfl hl (by decide) rfl (fun ls hl => ?_)
  refine lv_iload_n hx hb dX11_lackOfVariable_5 rfl (lv_at hl 0 rfl) ?_
  refine lv_if_eq (tgt := 11) hx hb dX11_lackOfVariable_6 (by decide) (fun c_2 => absurd c_2 (by decide)) (fun c_2 => ?_)
  refine lv_iload_n hx hb dX11_lackOfVariable_9 rfl (lv_at hl 0 rfl) ?_
  refine W.widen (k := 0) (n := 0) (Nat.le_of_ble_eq_true rfl) (Nat.le_of_ble_eq_true rfl) ?_
  have hP9 := hP.sub (ws' := [(h0, .inr (10, [a0, a1, a2, a3, a4, a5, a6, a7, a8, a9, a10, .int 0]))]) [0] rfl
  have hD9 := hD.sub (ws' := [(h0, .inr (10, [a0, a1, a2, a3, a4, a5, a6, a7, a8, a9, a10, .int 0]))]) [0] (by decide) rfl
  have hK9 := hK.sub (tys' := []) [] rfl
  exact W.iret (v := 4) hx hb hr (fun t ht hW => ⟨⟨4, (), rfl, rfl, ⟨by rw [ht]; exact hP9, va_K.moved hW.alike hK9, hD9⟩⟩, hS.F ht⟩) hS.2.2 dX11_lackOfVariable_10

def w_X11_lackOfReal : List Cond := .code yX11_lackOfReal cX11_lackOfReal 3 (some .int) :: ([.fieldLink RX11 75 "RealSolver" "solved" "Z", .code yX11_lackOfZeros cX11_lackOfZeros 1 (some .int), .methodLink RX11 171 yX11_lackOfZeros, .instanceMethod yX11_lackOfZeros, .selects RX11 yX11_lackOfZeros yX11_lackOfZeros, .initialized RX11] ++ (wsX110 ++ ([] : List Cond)))
theorem in_X11_lackOfReal_X11 : ∀ w ∈ wsX110, w ∈ w_X11_lackOfReal := fun _ h => List.mem_cons_of_mem _ (List.mem_append_right _ (List.mem_append_left _ h))
set_option maxRecDepth 20000 in
theorem g_X11_lackOfReal_X11_lackOfZeros_171 : GoodIn w_X11_lackOfReal (wsV RX11 171 RX11 yX11_lackOfZeros w_X11_lackOfZeros) := goodIn_r _ [3, 4, 5, 6, 2, 1, 7, 8, 9, 10, 11, 12, 13, 14, 15, 16, 17, 18] (by decide +kernel) (by decide +kernel)
set_option maxHeartbeats 4000000 in
set_option maxRecDepth 100000 in
theorem k_X11_lackOfReal (l : Launch) (dC : Nat → ClassId) (dI : Nat → Nat → Nat) (h0 : Nat) (a0 : Value) (a1 : Value) (a2 : Value) (a3 : Value) (a4 : Value) (a5 : Value) (a6 : Value) (a7 : Value) (a8 : Value) (a9 : Value) (a10 : Value) (v : Int32) (sz : Nat) : Met l yX11_lackOfReal w_X11_lackOfReal ({ frames := 1, cells := 0, slots := 0, locals := 20 }) (va_Pc [.ref h0, .int v] (fun U => U.heap.size = sz ∧ va_P (dC, dI) cls_ [(h0, .inr (10, [a0, a1, a2, a3, a4, a5, a6, a7, a8, a9, a10, .int 0]))] U.heap ∧ va_K (dC, dI) cls_ [] U ∧ va_D (fun _ => True) [(h0, .inr (10, [a0, a1, a2, a3, a4, a5, a6, a7, a8, a9, a10, .int 0]))] ∧ nx_ U)) (va_Qi (fun (r : Int32) (_ : Unit) => r = 4) (fun _ t => va_P (dC, dI) cls_ [(h0, .inr (10, [a0, a1, a2, a3, a4, a5, a6, a7, a8, a9, a10, .int 0]))] t.heap ∧ va_K (dC, dI) cls_ [] t ∧ va_D (va_A [(h0, .inr (10, [a0, a1, a2, a3, a4, a5, a6, a7, a8, a9, a10, .int 0]))] sz) [(h0, .inr (10, [a0, a1, a2, a3, a4, a5, a6, a7, a8, a9, a10, .int 0]))]) (va_A [(h0, .inr (10, [a0, a1, a2, a3, a4, a5, a6, a7, a8, a9, a10, .int 0]))] sz)) 0 0 (va_A [(h0, .inr (10, [a0, a1, a2, a3, a4, a5, a6, a7, a8, a9, a10, .int 0]))] sz) := by
  refine Met.ofW (cc := cX11_lackOfReal) (maxL := 3) (ret := (some .int)) (by decide) rfl ?_
  intro p e s m args below meth c s₁ B hml hv
  obtain ⟨rfl, hsz, hP, hK, hD0, hNx⟩ := hv
  have hx := B.exec
  have hb := B.bytes
  have hr := B.returns
  have hts := atoms_spec (ws := w_X11_lackOfReal) B.pre
  have hown : s.vm.findClass RX11 = some m.cls := findClass_of_methodNamed B.named
  have hlocks := B.notSynchronized
  subst hsz
  have hD := hD0.self (sz := s.heap.size)
  generalize hAe : va_A [(h0, .inr (10, [a0, a1, a2, a3, a4, a5, a6, a7, a8, a9, a10, .int 0]))] s.heap.size = A at hD ⊢
  have hA : ∀ q : Nat, s.heap.size ≤ q → A q := fun q h => by rw [← hAe]; exact Or.inr h
  have hS : va_S A s.heap s.heap [] := va_S.rf
  have hP : va_P (dC, dI) cls_ [(h0, .inr (10, [a0, a1, a2, a3, a4, a5, a6, a7, a8, a9, a10, .int 0]))] s.heap := hP
  have hl := lv_entry ([.ref h0, .int v]) (n := 3) (Nat.le_of_ble_eq_true rfl)
  rw [lg_entry_eq]
  generalize (lg_sl ([.ref h0, .int v]) ++ List.replicate (3 - (lg_sl ([.ref h0, .int v])).length) Slot.unset).toArray = ls at hl ⊢
  have hl : lv_has ls 3 [(0, .ref h0), (1, .int v)] := hl
  refine lv_aload_n hx hb dX11_lackOfReal_0 rfl (lv_at hl 0 rfl) ?_
  have hPc := hP.sub (ws' := [(h0, .inr (10, [a0, a1, a2, a3, a4, a5, a6, a7, a8, a9, a10, .int 0]))]) [0] rfl
  have hDc := hD.sub (ws' := [(h0, .inr (10, [a0, a1, a2, a3, a4, a5, a6, a7, a8, a9, a10, .int 0]))]) [0] (by decide) rfl
  have hKc := hK.sub (tys' := []) [] rfl
  have hFc := va_free (wc := [(h0, .inr (10, [a0, a1, a2, a3, a4, a5, a6, a7, a8, a9, a10, .int 0]))]) hD hS hA [0] rfl
  refine va_calli (va_runV (As := []) (rest := []) ⟨hx, hb, hml, hown, hts⟩ (k_X11_lackOfZeros l dC dI h0 a0 a1 a2 a3 a4 a5 a6 a7 a8 a9 a10 s.heap.size) (cwV 0 hts g_X11_lackOfReal_X11_lackOfZeros_171 rfl rfl rfl (by decide +kernel) ⟨Nat.le_of_ble_eq_true rfl, Nat.le_of_ble_eq_true rfl⟩) ⟨fun a U g mk q => by obtain ⟨q0, q1, qP, qK, qD, qN⟩ := q; exact ⟨q0, q1, qP, va_K.moved (u := U) (U := U.calling g mk a) (Vm.Alike.refl U.vm) qK, qD, nx_.same rfl qN⟩, va_recv hKc hPc (ci := 10) (q0 := 0) rfl rfl, fun U hU hW => ⟨rfl, by rw [hU], by rw [hU]; exact hPc, va_K.moved hW.alike hKc, hDc.weaken (fun _ _ _ _ => trivial), nx_.warm hW hNx⟩⟩ rfl rfl hl.1 rfl (lv_room (Nat.le_of_ble_eq_true rfl)) dX11_lackOfReal_1 ⟨Nat.le_of_ble_eq_true rfl, Nat.le_of_ble_eq_true rfl⟩) hS (fun q _ h => hFc q h) hFc (fun r_1 u t H1 locs ht hvm hw hB hz1 hk1 hS => ?_)
  try dsimp only at hw
  obtain ⟨hP1, hK1, hD1⟩ := hB
  rw [ht] at hP1
  obtain ⟨hP, hD⟩ := va_join (wr := []) (w1 := [(h0, .inr (10, [a0, a1, a2, a3, a4, a5, a6, a7, a8, a9, a10, .int 0]))]) hP hD [0] [] rfl rfl (by decide) (by decide) hk1 hFc hP1 hD1
  generalize H1 = H at hP hS ⊢
  have hP : va_P (dC, dI) cls_ [(h0, .inr (10, [a0, a1, a2, a3, a4, a5, a6, a7, a8, a9, a10, .int 0]))] H := hP
  have hD : va_D A [(h0, .inr (10, [a0, a1, a2, a3, a4, a5, a6, a7, a8, a9, a10, .int 0]))] := hD
  refine W.widen (k := 0) (n := 0) (Nat.le_of_ble_eq_true rfl) (Nat.le_of_ble_eq_true rfl) ?_
  obtain rfl : (4 : Int32) = r_1 := Eq.symm hw
  refine lv_istore_n (lv' := [(2, .int 4), (0, .ref h0), (1, .int v)]) hx hb dX11_lackOfReal_4 rfl hl (by decide) rfl (fun ls hl => ?_)
  refine lv_iload_n hx hb dX11_lackOfReal_5 rfl (lv_at hl 0 rfl) ?_
  refine lv_if_eq (tgt := 11) hx hb dX11_lackOfReal_6 (by decide) (fun c_2 => absurd c_2 (by decide)) (fun c_2 => ?_)
  refine lv_iload_n hx hb dX11_lackOfReal_9 rfl (lv_at hl 0 rfl) ?_
  refine W.widen (k := 0) (n := 0) (Nat.le_of_ble_eq_true rfl) (Nat.le_of_ble_eq_true rfl) ?_
  have hP9 := hP.sub (ws' := [(h0, .inr (10, [a0, a1, a2, a3, a4, a5, a6, a7, a8, a9, a10, .int 0]))]) [0] rfl
  have hD9 := hD.sub (ws' := [(h0, .inr (10, [a0, a1, a2, a3, a4, a5, a6, a7, a8, a9, a10, .int 0]))]) [0] (by decide) rfl
  have hK9 := hK.sub (tys' := []) [] rfl
  exact W.iret (v := 4) hx hb hr (fun t ht hW => ⟨⟨4, (), rfl, rfl, ⟨by rw [ht]; exact hP9, va_K.moved hW.alike hK9, hD9⟩⟩, hS.F ht⟩) hS.2.2 dX11_lackOfReal_10

def w_X11_lackOfCoordinate : List Cond := .code yX11_lackOfCoordinate cX11_lackOfCoordinate 4 (some .int) :: ([.fieldLink RX11 75 "RealSolver" "solved" "Z", .code yX11_lackOfZeros cX11_lackOfZeros 1 (some .int), .methodLink RX11 171 yX11_lackOfZeros, .instanceMethod yX11_lackOfZeros, .selects RX11 yX11_lackOfZeros yX11_lackOfZeros, .initialized RX11, .code yX11_lackOfVariable cX11_lackOfVariable 4 (some .int), .methodLink RX11 202 yX11_lackOfVariable, .instanceMethod yX11_lackOfVariable, .selects RX11 yX11_lackOfVariable yX11_lackOfVariable] ++ (wsX110 ++ ([] : List Cond)))
theorem in_X11_lackOfCoordinate_X11 : ∀ w ∈ wsX110, w ∈ w_X11_lackOfCoordinate := fun _ h => List.mem_cons_of_mem _ (List.mem_append_right _ (List.mem_append_left _ h))
set_option maxRecDepth 20000 in
theorem g_X11_lackOfCoordinate_X11_lackOfVariable_202 : GoodIn w_X11_lackOfCoordinate (wsV RX11 202 RX11 yX11_lackOfVariable w_X11_lackOfVariable) := goodIn_r _ [8, 9, 10, 6, 7, 1, 2, 3, 4, 5, 6, 11, 12, 13, 14, 15, 16, 17, 18, 19, 20, 21, 22] (by decide +kernel) (by decide +kernel)
set_option maxHeartbeats 4000000 in
set_option maxRecDepth 100000 in
theorem k_X11_lackOfCoordinate (l : Launch) (dC : Nat → ClassId) (dI : Nat → Nat → Nat) (h0 : Nat) (a0 : Value) (a1 : Value) (a2 : Value) (a3 : Value) (a4 : Value) (a5 : Value) (a6 : Value) (a7 : Value) (a8 : Value) (a9 : Value) (a10 : Value) (v : Int32) (w : Int32) (sz : Nat) : Met l yX11_lackOfCoordinate w_X11_lackOfCoordinate ({ frames := 2, cells := 0, slots := 0, locals := 43 }) (va_Pc [.ref h0, .int v, .int w] (fun U => U.heap.size = sz ∧ va_P (dC, dI) cls_ [(h0, .inr (10, [a0, a1, a2, a3, a4, a5, a6, a7, a8, a9, a10, .int 0]))] U.heap ∧ va_K (dC, dI) cls_ [] U ∧ va_D (fun _ => True) [(h0, .inr (10, [a0, a1, a2, a3, a4, a5, a6, a7, a8, a9, a10, .int 0]))] ∧ nx_ U)) (va_Qi (fun (r : Int32) (_ : Unit) => r = 4) (fun _ t => va_P (dC, dI) cls_ [(h0, .inr (10, [a0, a1, a2, a3, a4, a5, a6, a7, a8, a9, a10, .int 0]))] t.heap ∧ va_K (dC, dI) cls_ [] t ∧ va_D (va_A [(h0, .inr (10, [a0, a1, a2, a3, a4, a5, a6, a7, a8, a9, a10, .int 0]))] sz) [(h0, .inr (10, [a0, a1, a2, a3, a4, a5, a6, a7, a8, a9, a10, .int 0]))]) (va_A [(h0, .inr (10, [a0, a1, a2, a3, a4, a5, a6, a7, a8, a9, a10, .int 0]))] sz)) 0 0 (va_A [(h0, .inr (10, [a0, a1, a2, a3, a4, a5, a6, a7, a8, a9, a10, .int 0]))] sz) := by
  refine Met.ofW (cc := cX11_lackOfCoordinate) (maxL := 4) (ret := (some .int)) (by decide) rfl ?_
  intro p e s m args below meth c s₁ B hml hv
  obtain ⟨rfl, hsz, hP, hK, hD0, hNx⟩ := hv
  have hx := B.exec
  have hb := B.bytes
  have hr := B.returns
  have hts := atoms_spec (ws := w_X11_lackOfCoordinate) B.pre
  have hown : s.vm.findClass RX11 = some m.cls := findClass_of_methodNamed B.named
  have hlocks := B.notSynchronized
  subst hsz
  have hD := hD0.self (sz := s.heap.size)
  generalize hAe : va_A [(h0, .inr (10, [a0, a1, a2, a3, a4, a5, a6, a7, a8, a9, a10, .int 0]))] s.heap.size = A at hD ⊢
  have hA : ∀ q : Nat, s.heap.size ≤ q → A q := fun q h => by rw [← hAe]; exact Or.inr h
  have hS : va_S A s.heap s.heap [] := va_S.rf
  have hP : va_P (dC, dI) cls_ [(h0, .inr (10, [a0, a1, a2, a3, a4, a5, a6, a7, a8, a9, a10, .int 0]))] s.heap := hP
  have hl := lv_entry ([.ref h0, .int v, .int w]) (n := 4) (Nat.le_of_ble_eq_true rfl)
  rw [lg_entry_eq]
  generalize (lg_sl ([.ref h0, .int v, .int w]) ++ List.replicate (4 - (lg_sl ([.ref h0, .int v, .int w])).length) Slot.unset).toArray = ls at hl ⊢
  have hl : lv_has ls 4 [(0, .ref h0), (1, .int v), (2, .int w)] := hl
  refine lv_aload_n hx hb dX11_lackOfCoordinate_0 rfl (lv_at hl 0 rfl) ?_
  refine lv_iload_n hx hb dX11_lackOfCoordinate_1 rfl (lv_at hl 2 rfl) ?_
  refine lv_iconst (v := 1) hx hb dX11_lackOfCoordinate_2 (by decide) ?_
  have hPc := hP.sub (ws' := [(h0, .inr (10, [a0, a1, a2, a3, a4, a5, a6, a7, a8, a9, a10, .int 0]))]) [0] rfl
  have hDc := hD.sub (ws' := [(h0, .inr (10, [a0, a1, a2, a3, a4, a5, a6, a7, a8, a9, a10, .int 0]))]) [0] (by decide) rfl
  have hKc := hK.sub (tys' := []) [] rfl
  have hFc := va_free (wc := [(h0, .inr (10, [a0, a1, a2, a3, a4, a5, a6, a7, a8, a9, a10, .int 0]))]) hD hS hA [0] rfl
  refine va_calli (va_runV (As := [.int w, .int 1]) (rest := []) ⟨hx, hb, hml, hown, hts⟩ (k_X11_lackOfVariable l dC dI h0 a0 a1 a2 a3 a4 a5 a6 a7 a8 a9 a10 w 1 s.heap.size) (cwV 2 hts g_X11_lackOfCoordinate_X11_lackOfVariable_202 rfl rfl rfl (by decide +kernel) ⟨Nat.le_of_ble_eq_true rfl, Nat.le_of_ble_eq_true rfl⟩) ⟨fun a U g mk q => by obtain ⟨q0, q1, qP, qK, qD, qN⟩ := q; exact ⟨q0, q1, qP, va_K.moved (u := U) (U := U.calling g mk a) (Vm.Alike.refl U.vm) qK, qD, nx_.same rfl qN⟩, va_recv hKc hPc (ci := 10) (q0 := 0) rfl rfl, fun U hU hW => ⟨rfl, by rw [hU], by rw [hU]; exact hPc, va_K.moved hW.alike hKc, hDc.weaken (fun _ _ _ _ => trivial), nx_.warm hW hNx⟩⟩ rfl rfl hl.1 rfl (lv_room (Nat.le_of_ble_eq_true rfl)) dX11_lackOfCoordinate_3 ⟨Nat.le_of_ble_eq_true rfl, Nat.le_of_ble_eq_true rfl⟩) hS (fun q _ h => hFc q h) hFc (fun r_1 u t H1 locs ht hvm hw hB hz1 hk1 hS => ?_)
  try dsimp only at hw
  obtain ⟨hP1, hK1, hD1⟩ := hB
  rw [ht] at hP1
  obtain ⟨hP, hD⟩ := va_join (wr := []) (w1 := [(h0, .inr (10, [a0, a1, a2, a3, a4, a5, a6, a7, a8, a9, a10, .int 0]))]) hP hD [0] [] rfl rfl (by decide) (by decide) hk1 hFc hP1 hD1
  generalize H1 = H at hP hS ⊢
  have hP : va_P (dC, dI) cls_ [(h0, .inr (10, [a0, a1, a2, a3, a4, a5, a6, a7, a8, a9, a10, .int 0]))] H := hP
  have hD : va_D A [(h0, .inr (10, [a0, a1, a2, a3, a4, a5, a6, a7, a8, a9, a10, .int 0]))] := hD
  refine W.widen (k := 0) (n := 0) (Nat.le_of_ble_eq_true rfl) (Nat.le_of_ble_eq_true rfl) ?_
  obtain rfl : (4 : Int32) = r_1 := Eq.symm hw
  refine lv_istore_n (lv' := [(3, .int 4), (0, .ref h0), (1, .int v), (2, .int w)]) hx hb dX11_lackOfCoordinate_6 rfl hl (by decide) rfl (fun ls hl => ?_)
  refine lv_iload_n hx hb dX11_lackOfCoordinate_7 rfl (lv_at hl 0 rfl) ?_
  refine lv_if_eq (tgt := 15) hx hb dX11_lackOfCoordinate_8 (by decide) (fun c_2 => absurd c_2 (by decide)) (fun c_2 => ?_)
  refine lv_iload_n hx hb dX11_lackOfCoordinate_11 rfl (lv_at hl 0 rfl) ?_
  refine lv_goto (tgt := 20) hx hb dX11_lackOfCoordinate_12 (by decide) ?_
  refine W.widen (k := 0) (n := 0) (Nat.le_of_ble_eq_true rfl) (Nat.le_of_ble_eq_true rfl) ?_
  have hP9 := hP.sub (ws' := [(h0, .inr (10, [a0, a1, a2, a3, a4, a5, a6, a7, a8, a9, a10, .int 0]))]) [0] rfl
  have hD9 := hD.sub (ws' := [(h0, .inr (10, [a0, a1, a2, a3, a4, a5, a6, a7, a8, a9, a10, .int 0]))]) [0] (by decide) rfl
  have hK9 := hK.sub (tys' := []) [] rfl
  exact W.iret (v := 4) hx hb hr (fun t ht hW => ⟨⟨4, (), rfl, rfl, ⟨by rw [ht]; exact hP9, va_K.moved hW.alike hK9, hD9⟩⟩, hS.F ht⟩) hS.2.2 dX11_lackOfCoordinate_20

def w_X11_variables : List Cond := .code yX11_variables cX11_variables 2 (some .int) :: ([.fieldLink RX11 65 "RealSolver" "outcome" "I", .code yX11_refuse cX11_refuse 2 (some .int), .methodLink RX11 71 yX11_refuse, .instanceMethod yX11_refuse, .selects RX11 yX11_refuse yX11_refuse, .initialized RX11, .fieldLink RX11 61 "RealSolver" "variableCount" "I", .fieldLink RX11 75 "RealSolver" "solved" "Z", .code yX11_answer cX11_answer 2 (some .int), .methodLink RX11 79 yX11_answer, .instanceMethod yX11_answer, .selects RX11 yX11_answer yX11_answer] ++ (wsX110 ++ ([] : List Cond)))
theorem in_X11_variables_X11 : ∀ w ∈ wsX110, w ∈ w_X11_variables := fun _ h => List.mem_cons_of_mem _ (List.mem_append_right _ (List.mem_append_left _ h))
set_option maxRecDepth 20000 in
theorem g_X11_variables_X11_refuse_71 : GoodIn w_X11_variables (wsV RX11 71 RX11 yX11_refuse w_X11_refuse) := goodIn_r _ [3, 4, 5, 6, 2, 1, 13, 14, 15, 16, 17, 18, 19, 20, 21, 22, 23, 24] (by decide +kernel) (by decide +kernel)
set_option maxRecDepth 20000 in
theorem g_X11_variables_X11_answer_79 : GoodIn w_X11_variables (wsV RX11 79 RX11 yX11_answer w_X11_answer) := goodIn_r _ [10, 11, 12, 6, 9, 1, 13, 14, 15, 16, 17, 18, 19, 20, 21, 22, 23, 24] (by decide +kernel) (by decide +kernel)
set_option maxHeartbeats 4000000 in
set_option maxRecDepth 100000 in
theorem k_X11_variables (l : Launch) (dC : Nat → ClassId) (dI : Nat → Nat → Nat) (h0 : Nat) (a0 : Value) (a1 : Value) (a2 : Value) (a3 : Value) (a4 : Value) (a5 : Value) (a6 : Value) (a7 : Value) (a8 : Value) (a9 : Value) (a10 : Value) (a11 : Value) (n : Int32) (sz : Nat) : Met l yX11_variables w_X11_variables ({ frames := 1, cells := 0, slots := 0, locals := 21 }) (va_Pc [.ref h0, .int n] (fun U => U.heap.size = sz ∧ va_P (dC, dI) cls_ [(h0, .inr (10, [a0, a1, a2, a3, a4, a5, a6, a7, a8, a9, a10, a11]))] U.heap ∧ va_K (dC, dI) cls_ [] U ∧ va_D (fun _ => True) [(h0, .inr (10, [a0, a1, a2, a3, a4, a5, a6, a7, a8, a9, a10, a11]))] ∧ nx_ U)) (va_Qi (fun (r : Int32) (_ : Unit) => r = if n < 1 then -1 else if n ≤ 3 then n else -1) (fun _ _ => True) (va_A [(h0, .inr (10, [a0, a1, a2, a3, a4, a5, a6, a7, a8, a9, a10, a11]))] sz)) 0 0 (va_A [(h0, .inr (10, [a0, a1, a2, a3, a4, a5, a6, a7, a8, a9, a10, a11]))] sz) := by
  refine Met.ofW (cc := cX11_variables) (maxL := 2) (ret := (some .int)) (by decide) rfl ?_
  intro p e s m args below meth c s₁ B hml hv
  obtain ⟨rfl, hsz, hP, hK, hD0, hNx⟩ := hv
  have hx := B.exec
  have hb := B.bytes
  have hr := B.returns
  have hts := atoms_spec (ws := w_X11_variables) B.pre
  have hown : s.vm.findClass RX11 = some m.cls := findClass_of_methodNamed B.named
  have hlocks := B.notSynchronized
  subst hsz
  have hD := hD0.self (sz := s.heap.size)
  generalize hAe : va_A [(h0, .inr (10, [a0, a1, a2, a3, a4, a5, a6, a7, a8, a9, a10, a11]))] s.heap.size = A at hD ⊢
  have hA : ∀ q : Nat, s.heap.size ≤ q → A q := fun q h => by rw [← hAe]; exact Or.inr h
  have hS : va_S A s.heap s.heap [] := va_S.rf
  have hP : va_P (dC, dI) cls_ [(h0, .inr (10, [a0, a1, a2, a3, a4, a5, a6, a7, a8, a9, a10, a11]))] s.heap := hP
  have hl := lv_entry ([.ref h0, .int n]) (n := 2) (Nat.le_of_ble_eq_true rfl)
  rw [lg_entry_eq]
  generalize (lg_sl ([.ref h0, .int n]) ++ List.replicate (2 - (lg_sl ([.ref h0, .int n])).length) Slot.unset).toArray = ls at hl ⊢
  have hl : lv_has ls 2 [(0, .ref h0), (1, .int n)] := hl
  refine lv_iload_n hx hb dX11_variables_0 rfl (lv_at hl 1 rfl) ?_
  refine lv_iconst (v := 1) hx hb dX11_variables_1 (by decide) ?_
  refine lv_icmp_lt (tgt := 10) hx hb dX11_variables_2 (by decide) (fun c_1 => ?_) (fun c_1 => ?_)
  · refine lv_aload_n hx hb dX11_variables_10 rfl (lv_at hl 0 rfl) ?_
    refine lv_iconst (v := 2) hx hb dX11_variables_11 (by decide) ?_
    have hPc := hP.sub (ws' := [(h0, .inr (10, [a0, a1, a2, a3, a4, a5, a6, a7, a8, a9, a10, a11]))]) [0] rfl
    have hDc := hD.sub (ws' := [(h0, .inr (10, [a0, a1, a2, a3, a4, a5, a6, a7, a8, a9, a10, a11]))]) [0] (by decide) rfl
    have hKc := hK.sub (tys' := []) [] rfl
    have hFc := va_free (wc := [(h0, .inr (10, [a0, a1, a2, a3, a4, a5, a6, a7, a8, a9, a10, a11]))]) hD hS hA [0] rfl
    refine va_calli (va_runV (As := [.int 2]) (rest := []) ⟨hx, hb, hml, hown, hts⟩ (k_X11_refuse l dC dI h0 a0 a1 a2 a3 a4 a5 a6 a7 a8 a9 a10 a11 2 s.heap.size) (cwV 1 hts g_X11_variables_X11_refuse_71 rfl rfl rfl (by decide +kernel) ⟨Nat.le_of_ble_eq_true rfl, Nat.le_of_ble_eq_true rfl⟩) ⟨fun a U g mk q => by obtain ⟨q0, q1, qP, qK, qD, qN⟩ := q; exact ⟨q0, q1, qP, va_K.moved (u := U) (U := U.calling g mk a) (Vm.Alike.refl U.vm) qK, qD, nx_.same rfl qN⟩, va_recv hKc hPc (ci := 10) (q0 := 0) rfl rfl, fun U hU hW => ⟨rfl, by rw [hU], by rw [hU]; exact hPc, va_K.moved hW.alike hKc, hDc.weaken (fun _ _ _ _ => trivial), nx_.warm hW hNx⟩⟩ rfl rfl hl.1 rfl (lv_room (Nat.le_of_ble_eq_true rfl)) dX11_variables_12 ⟨Nat.le_of_ble_eq_true rfl, Nat.le_of_ble_eq_true rfl⟩) hS (fun q _ h => hFc q h) hFc (fun r_2 u t H1 locs ht hvm hw hB hz1 hk1 hS => ?_)
    try dsimp only at hw
    have hP1 : va_P (dC, dI) cls_ [] H1 := fun k q h => by simp at h
    have hD1 : va_D (va_A [(h0, .inr (10, [a0, a1, a2, a3, a4, a5, a6, a7, a8, a9, a10, a11]))] s.heap.size) [] := ⟨fun i j p q h => by simp at h, fun k q h => by simp at h⟩
    obtain ⟨hP, hD⟩ := va_join (wr := []) (w1 := []) hP hD [0] [] rfl rfl (by decide) (by decide) hk1 hFc hP1 hD1
    generalize H1 = H at hP hS ⊢
    have hP : va_P (dC, dI) cls_ [] H := hP
    have hD : va_D A [] := hD
    refine W.widen (k := 0) (n := 0) (Nat.le_of_ble_eq_true rfl) (Nat.le_of_ble_eq_true rfl) ?_
    obtain rfl : ((-1) : Int32) = r_2 := Eq.symm hw
    refine W.widen (k := 0) (n := 0) (Nat.le_of_ble_eq_true rfl) (Nat.le_of_ble_eq_true rfl) ?_
    exact W.iret (v := (-1)) hx hb hr (fun t ht hW => ⟨⟨(-1), (), rfl, (by simp [c_1]), trivial⟩, hS.F ht⟩) hS.2.2 dX11_variables_15
  · refine lv_iload_n hx hb dX11_variables_5 rfl (lv_at hl 1 rfl) ?_
    refine lv_iconst (v := 3) hx hb dX11_variables_6 (by decide) ?_
    refine lv_icmp_le (tgt := 16) hx hb dX11_variables_7 (by decide) (fun c_3 => ?_) (fun c_3 => ?_)
    · refine lv_aload_n hx hb dX11_variables_16 rfl (lv_at hl 0 rfl) ?_
      refine lv_iload_n hx hb dX11_variables_17 rfl (lv_at hl 1 rfl) ?_
      refine va_put (D := (dC, dI)) (ci := 10) (v := .int n) (ty := .int) (C := RX11) (T := TX11) (N := 12) hx hb hts in_X11_variables_X11 tyX11 tyX11_ok nmX11 hown hK hP hD hS 0 rfl rfl 8 (by decide) (hts (.fieldLink RX11 61 "RealSolver" "variableCount" "I") (List.mem_of_getElem? (i := 7) rfl)) (fun _ h9 => h9) rfl (by decide +kernel) rfl rfl (Nat.le_of_ble_eq_true rfl) dX11_variables_18 (fun H locs hP hD hS => ?_)
      have hP : va_P (dC, dI) cls_ [(h0, .inr (10, [a0, a1, a2, a3, a4, a5, a6, a7, .int n, a9, a10, a11]))] H := hP
      have hD : va_D A [(h0, .inr (10, [a0, a1, a2, a3, a4, a5, a6, a7, .int n, a9, a10, a11]))] := hD
      refine lv_aload_n hx hb dX11_variables_21 rfl (lv_at hl 0 rfl) ?_
      refine lv_iconst (v := 0) hx hb dX11_variables_22 (by decide) ?_
      refine va_put (D := (dC, dI)) (ci := 10) (v := .int 0) (ty := .boolean) (C := RX11) (T := TX11) (N := 12) hx hb hts in_X11_variables_X11 tyX11 tyX11_ok nmX11 hown hK hP hD hS 0 rfl rfl 11 (by decide) (hts (.fieldLink RX11 75 "RealSolver" "solved" "Z") (List.mem_of_getElem? (i := 8) rfl)) (fun _ h9 => h9) rfl (by decide +kernel) rfl rfl (Nat.le_of_ble_eq_true rfl) dX11_variables_23 (fun H locs hP hD hS => ?_)
      have hP : va_P (dC, dI) cls_ [(h0, .inr (10, [a0, a1, a2, a3, a4, a5, a6, a7, .int n, a9, a10, .int 0]))] H := hP
      have hD : va_D A [(h0, .inr (10, [a0, a1, a2, a3, a4, a5, a6, a7, .int n, a9, a10, .int 0]))] := hD
      refine lv_aload_n hx hb dX11_variables_26 rfl (lv_at hl 0 rfl) ?_
      refine lv_iload_n hx hb dX11_variables_27 rfl (lv_at hl 1 rfl) ?_
      have hPc := hP.sub (ws' := [(h0, .inr (10, [a0, a1, a2, a3, a4, a5, a6, a7, .int n, a9, a10, .int 0]))]) [0] rfl
      have hDc := hD.sub (ws' := [(h0, .inr (10, [a0, a1, a2, a3, a4, a5, a6, a7, .int n, a9, a10, .int 0]))]) [0] (by decide) rfl
      have hKc := hK.sub (tys' := []) [] rfl
      have hFc := va_free (wc := [(h0, .inr (10, [a0, a1, a2, a3, a4, a5, a6, a7, .int n, a9, a10, .int 0]))]) hD hS hA [0] rfl
      refine va_calli (va_runV (As := [.int n]) (rest := []) ⟨hx, hb, hml, hown, hts⟩ (k_X11_answer l dC dI h0 a0 a1 a2 a3 a4 a5 a6 a7 (.int n) a9 a10 (.int 0) n H.size) (cwV 1 hts g_X11_variables_X11_answer_79 rfl rfl rfl (by decide +kernel) ⟨Nat.le_of_ble_eq_true rfl, Nat.le_of_ble_eq_true rfl⟩) ⟨fun a U g mk q => by obtain ⟨q0, q1, qP, qK, qD, qN⟩ := q; exact ⟨q0, q1, qP, va_K.moved (u := U) (U := U.calling g mk a) (Vm.Alike.refl U.vm) qK, qD, nx_.same rfl qN⟩, va_recv hKc hPc (ci := 10) (q0 := 0) rfl rfl, fun U hU hW => ⟨rfl, by rw [hU], by rw [hU]; exact hPc, va_K.moved hW.alike hKc, hDc.weaken (fun _ _ _ _ => trivial), nx_.warm hW hNx⟩⟩ rfl rfl hl.1 rfl (lv_room (Nat.le_of_ble_eq_true rfl)) dX11_variables_28 ⟨Nat.le_of_ble_eq_true rfl, Nat.le_of_ble_eq_true rfl⟩) hS (fun q _ h => hFc q h) hFc (fun r_4 u t H1 locs ht hvm hw hB hz1 hk1 hS => ?_)
      try dsimp only at hw
      have hP1 : va_P (dC, dI) cls_ [] H1 := fun k q h => by simp at h
      have hD1 : va_D (va_A [(h0, .inr (10, [a0, a1, a2, a3, a4, a5, a6, a7, .int n, a9, a10, .int 0]))] H.size) [] := ⟨fun i j p q h => by simp at h, fun k q h => by simp at h⟩
      obtain ⟨hP, hD⟩ := va_join (wr := []) (w1 := []) hP hD [0] [] rfl rfl (by decide) (by decide) hk1 hFc hP1 hD1
      generalize H1 = H at hP hS ⊢
      have hP : va_P (dC, dI) cls_ [] H := hP
      have hD : va_D A [] := hD
      refine W.widen (k := 0) (n := 0) (Nat.le_of_ble_eq_true rfl) (Nat.le_of_ble_eq_true rfl) ?_
      obtain rfl : n = r_4 := Eq.symm hw
      refine W.widen (k := 0) (n := 0) (Nat.le_of_ble_eq_true rfl) (Nat.le_of_ble_eq_true rfl) ?_
      exact W.iret (v := n) hx hb hr (fun t ht hW => ⟨⟨n, (), rfl, (by simp [c_1, c_3]), trivial⟩, hS.F ht⟩) hS.2.2 dX11_variables_31
    · refine lv_aload_n hx hb dX11_variables_10 rfl (lv_at hl 0 rfl) ?_
      refine lv_iconst (v := 2) hx hb dX11_variables_11 (by decide) ?_
      have hPc := hP.sub (ws' := [(h0, .inr (10, [a0, a1, a2, a3, a4, a5, a6, a7, a8, a9, a10, a11]))]) [0] rfl
      have hDc := hD.sub (ws' := [(h0, .inr (10, [a0, a1, a2, a3, a4, a5, a6, a7, a8, a9, a10, a11]))]) [0] (by decide) rfl
      have hKc := hK.sub (tys' := []) [] rfl
      have hFc := va_free (wc := [(h0, .inr (10, [a0, a1, a2, a3, a4, a5, a6, a7, a8, a9, a10, a11]))]) hD hS hA [0] rfl
      refine va_calli (va_runV (As := [.int 2]) (rest := []) ⟨hx, hb, hml, hown, hts⟩ (k_X11_refuse l dC dI h0 a0 a1 a2 a3 a4 a5 a6 a7 a8 a9 a10 a11 2 s.heap.size) (cwV 1 hts g_X11_variables_X11_refuse_71 rfl rfl rfl (by decide +kernel) ⟨Nat.le_of_ble_eq_true rfl, Nat.le_of_ble_eq_true rfl⟩) ⟨fun a U g mk q => by obtain ⟨q0, q1, qP, qK, qD, qN⟩ := q; exact ⟨q0, q1, qP, va_K.moved (u := U) (U := U.calling g mk a) (Vm.Alike.refl U.vm) qK, qD, nx_.same rfl qN⟩, va_recv hKc hPc (ci := 10) (q0 := 0) rfl rfl, fun U hU hW => ⟨rfl, by rw [hU], by rw [hU]; exact hPc, va_K.moved hW.alike hKc, hDc.weaken (fun _ _ _ _ => trivial), nx_.warm hW hNx⟩⟩ rfl rfl hl.1 rfl (lv_room (Nat.le_of_ble_eq_true rfl)) dX11_variables_12 ⟨Nat.le_of_ble_eq_true rfl, Nat.le_of_ble_eq_true rfl⟩) hS (fun q _ h => hFc q h) hFc (fun r_5 u t H1 locs ht hvm hw hB hz1 hk1 hS => ?_)
      try dsimp only at hw
      have hP1 : va_P (dC, dI) cls_ [] H1 := fun k q h => by simp at h
      have hD1 : va_D (va_A [(h0, .inr (10, [a0, a1, a2, a3, a4, a5, a6, a7, a8, a9, a10, a11]))] s.heap.size) [] := ⟨fun i j p q h => by simp at h, fun k q h => by simp at h⟩
      obtain ⟨hP, hD⟩ := va_join (wr := []) (w1 := []) hP hD [0] [] rfl rfl (by decide) (by decide) hk1 hFc hP1 hD1
      generalize H1 = H at hP hS ⊢
      have hP : va_P (dC, dI) cls_ [] H := hP
      have hD : va_D A [] := hD
      refine W.widen (k := 0) (n := 0) (Nat.le_of_ble_eq_true rfl) (Nat.le_of_ble_eq_true rfl) ?_
      obtain rfl : ((-1) : Int32) = r_5 := Eq.symm hw
      refine W.widen (k := 0) (n := 0) (Nat.le_of_ble_eq_true rfl) (Nat.le_of_ble_eq_true rfl) ?_
      exact W.iret (v := (-1)) hx hb hr (fun t ht hW => ⟨⟨(-1), (), rfl, (by simp [c_1, c_3]), trivial⟩, hS.F ht⟩) hS.2.2 dX11_variables_15

def w_X11_basis : List Cond := .code yX11_basis cX11_basis 1 (some .int) :: ([.fieldLink RX11 75 "RealSolver" "solved" "Z", .fieldLink RX11 65 "RealSolver" "outcome" "I", .code yX11_refuse cX11_refuse 2 (some .int), .methodLink RX11 71 yX11_refuse, .instanceMethod yX11_refuse, .selects RX11 yX11_refuse yX11_refuse, .initialized RX11] ++ (wsX110 ++ ([] : List Cond)))
theorem in_X11_basis_X11 : ∀ w ∈ wsX110, w ∈ w_X11_basis := fun _ h => List.mem_cons_of_mem _ (List.mem_append_right _ (List.mem_append_left _ h))
set_option maxRecDepth 20000 in
theorem g_X11_basis_X11_refuse_71 : GoodIn w_X11_basis (wsV RX11 71 RX11 yX11_refuse w_X11_refuse) := goodIn_r _ [4, 5, 6, 7, 3, 2, 8, 9, 10, 11, 12, 13, 14, 15, 16, 17, 18, 19] (by decide +kernel) (by decide +kernel)
set_option maxHeartbeats 4000000 in
set_option maxRecDepth 100000 in
theorem k_X11_basis (l : Launch) (dC : Nat → ClassId) (dI : Nat → Nat → Nat) (h0 : Nat) (a0 : Value) (a1 : Value) (a2 : Value) (a3 : Value) (a4 : Value) (a5 : Value) (a6 : Value) (a7 : Value) (a8 : Value) (a9 : Value) (a10 : Value) (sz : Nat) : Met l yX11_basis w_X11_basis ({ frames := 1, cells := 0, slots := 0, locals := 21 }) (va_Pc [.ref h0] (fun U => U.heap.size = sz ∧ va_P (dC, dI) cls_ [(h0, .inr (10, [a0, a1, a2, a3, a4, a5, a6, a7, a8, a9, a10, .int 0]))] U.heap ∧ va_K (dC, dI) cls_ [] U ∧ va_D (fun _ => True) [(h0, .inr (10, [a0, a1, a2, a3, a4, a5, a6, a7, a8, a9, a10, .int 0]))] ∧ nx_ U)) (va_Qi (fun (r : Int32) (_ : Unit) => r = (-1)) (fun _ _ => True) (va_A [(h0, .inr (10, [a0, a1, a2, a3, a4, a5, a6, a7, a8, a9, a10, .int 0]))] sz)) 0 0 (va_A [(h0, .inr (10, [a0, a1, a2, a3, a4, a5, a6, a7, a8, a9, a10, .int 0]))] sz) := by
  refine Met.ofW (cc := cX11_basis) (maxL := 1) (ret := (some .int)) (by decide) rfl ?_
  intro p e s m args below meth c s₁ B hml hv
  obtain ⟨rfl, hsz, hP, hK, hD0, hNx⟩ := hv
  have hx := B.exec
  have hb := B.bytes
  have hr := B.returns
  have hts := atoms_spec (ws := w_X11_basis) B.pre
  have hown : s.vm.findClass RX11 = some m.cls := findClass_of_methodNamed B.named
  have hlocks := B.notSynchronized
  subst hsz
  have hD := hD0.self (sz := s.heap.size)
  generalize hAe : va_A [(h0, .inr (10, [a0, a1, a2, a3, a4, a5, a6, a7, a8, a9, a10, .int 0]))] s.heap.size = A at hD ⊢
  have hA : ∀ q : Nat, s.heap.size ≤ q → A q := fun q h => by rw [← hAe]; exact Or.inr h
  have hS : va_S A s.heap s.heap [] := va_S.rf
  have hP : va_P (dC, dI) cls_ [(h0, .inr (10, [a0, a1, a2, a3, a4, a5, a6, a7, a8, a9, a10, .int 0]))] s.heap := hP
  have hl := lv_entry ([.ref h0]) (n := 1) (Nat.le_of_ble_eq_true rfl)
  rw [lg_entry_eq]
  generalize (lg_sl ([.ref h0]) ++ List.replicate (1 - (lg_sl ([.ref h0])).length) Slot.unset).toArray = ls at hl ⊢
  have hl : lv_has ls 1 [(0, .ref h0)] := hl
  refine lv_aload_n hx hb dX11_basis_0 rfl (lv_at hl 0 rfl) ?_
  refine va_get (D := (dC, dI)) (ci := 10) (v := .int 0) (C := RX11) (T := TX11) (N := 12) hx hb hts in_X11_basis_X11 hown hK hP 0 rfl rfl 11 (by decide) (hts (.fieldLink RX11 75 "RealSolver" "solved" "Z") (List.mem_of_getElem? (i := 1) rfl)) (fun _ h9 => h9) rfl dX11_basis_1 ?_
  refine lv_if_ne (tgt := 13) hx hb dX11_basis_4 (by decide) (fun c_1 => absurd (by decide) c_1) (fun c_1 => ?_)
  refine lv_aload_n hx hb dX11_basis_7 rfl (lv_at hl 0 rfl) ?_
  refine lv_iconst (v := 4) hx hb dX11_basis_8 (by decide) ?_
  have hPc := hP.sub (ws' := [(h0, .inr (10, [a0, a1, a2, a3, a4, a5, a6, a7, a8, a9, a10, .int 0]))]) [0] rfl
  have hDc := hD.sub (ws' := [(h0, .inr (10, [a0, a1, a2, a3, a4, a5, a6, a7, a8, a9, a10, .int 0]))]) [0] (by decide) rfl
  have hKc := hK.sub (tys' := []) [] rfl
  have hFc := va_free (wc := [(h0, .inr (10, [a0, a1, a2, a3, a4, a5, a6, a7, a8, a9, a10, .int 0]))]) hD hS hA [0] rfl
  refine va_calli (va_runV (As := [.int 4]) (rest := []) ⟨hx, hb, hml, hown, hts⟩ (k_X11_refuse l dC dI h0 a0 a1 a2 a3 a4 a5 a6 a7 a8 a9 a10 (.int 0) 4 s.heap.size) (cwV 1 hts g_X11_basis_X11_refuse_71 rfl rfl rfl (by decide +kernel) ⟨Nat.le_of_ble_eq_true rfl, Nat.le_of_ble_eq_true rfl⟩) ⟨fun a U g mk q => by obtain ⟨q0, q1, qP, qK, qD, qN⟩ := q; exact ⟨q0, q1, qP, va_K.moved (u := U) (U := U.calling g mk a) (Vm.Alike.refl U.vm) qK, qD, nx_.same rfl qN⟩, va_recv hKc hPc (ci := 10) (q0 := 0) rfl rfl, fun U hU hW => ⟨rfl, by rw [hU], by rw [hU]; exact hPc, va_K.moved hW.alike hKc, hDc.weaken (fun _ _ _ _ => trivial), nx_.warm hW hNx⟩⟩ rfl rfl hl.1 rfl (lv_room (Nat.le_of_ble_eq_true rfl)) dX11_basis_9 ⟨Nat.le_of_ble_eq_true rfl, Nat.le_of_ble_eq_true rfl⟩) hS (fun q _ h => hFc q h) hFc (fun r_2 u t H1 locs ht hvm hw hB hz1 hk1 hS => ?_)
  try dsimp only at hw
  have hP1 : va_P (dC, dI) cls_ [] H1 := fun k q h => by simp at h
  have hD1 : va_D (va_A [(h0, .inr (10, [a0, a1, a2, a3, a4, a5, a6, a7, a8, a9, a10, .int 0]))] s.heap.size) [] := ⟨fun i j p q h => by simp at h, fun k q h => by simp at h⟩
  obtain ⟨hP, hD⟩ := va_join (wr := []) (w1 := []) hP hD [0] [] rfl rfl (by decide) (by decide) hk1 hFc hP1 hD1
  generalize H1 = H at hP hS ⊢
  have hP : va_P (dC, dI) cls_ [] H := hP
  have hD : va_D A [] := hD
  refine W.widen (k := 0) (n := 0) (Nat.le_of_ble_eq_true rfl) (Nat.le_of_ble_eq_true rfl) ?_
  obtain rfl : ((-1) : Int32) = r_2 := Eq.symm hw
  refine W.widen (k := 0) (n := 0) (Nat.le_of_ble_eq_true rfl) (Nat.le_of_ble_eq_true rfl) ?_
  exact W.iret (v := (-1)) hx hb hr (fun t ht hW => ⟨⟨(-1), (), rfl, rfl, trivial⟩, hS.F ht⟩) hS.2.2 dX11_basis_12

def w_X11_stairs : List Cond := .code yX11_stairs cX11_stairs 2 (some .int) :: ([.fieldLink RX11 75 "RealSolver" "solved" "Z", .code yX11_lackOfZeros cX11_lackOfZeros 1 (some .int), .methodLink RX11 171 yX11_lackOfZeros, .instanceMethod yX11_lackOfZeros, .selects RX11 yX11_lackOfZeros yX11_lackOfZeros, .initialized RX11, .fieldLink RX11 65 "RealSolver" "outcome" "I", .code yX11_refuse cX11_refuse 2 (some .int), .methodLink RX11 71 yX11_refuse, .instanceMethod yX11_refuse, .selects RX11 yX11_refuse yX11_refuse] ++ (wsX110 ++ ([] : List Cond)))
theorem in_X11_stairs_X11 : ∀ w ∈ wsX110, w ∈ w_X11_stairs := fun _ h => List.mem_cons_of_mem _ (List.mem_append_right _ (List.mem_append_left _ h))
set_option maxRecDepth 20000 in
theorem g_X11_stairs_X11_lackOfZeros_171 : GoodIn w_X11_stairs (wsV RX11 171 RX11 yX11_lackOfZeros w_X11_lackOfZeros) := goodIn_r _ [3, 4, 5, 6, 2, 1, 12, 13, 14, 15, 16, 17, 18, 19, 20, 21, 22, 23] (by decide +kernel) (by decide +kernel)
set_option maxRecDepth 20000 in
theorem g_X11_stairs_X11_refuse_71 : GoodIn w_X11_stairs (wsV RX11 71 RX11 yX11_refuse w_X11_refuse) := goodIn_r _ [9, 10, 11, 6, 8, 7, 12, 13, 14, 15, 16, 17, 18, 19, 20, 21, 22, 23] (by decide +kernel) (by decide +kernel)
set_option maxHeartbeats 4000000 in
set_option maxRecDepth 100000 in
theorem k_X11_stairs (l : Launch) (dC : Nat → ClassId) (dI : Nat → Nat → Nat) (h0 : Nat) (a0 : Value) (a1 : Value) (a2 : Value) (a3 : Value) (a4 : Value) (a5 : Value) (a6 : Value) (a7 : Value) (a8 : Value) (a9 : Value) (a10 : Value) (sz : Nat) : Met l yX11_stairs w_X11_stairs ({ frames := 1, cells := 0, slots := 0, locals := 21 }) (va_Pc [.ref h0] (fun U => U.heap.size = sz ∧ va_P (dC, dI) cls_ [(h0, .inr (10, [a0, a1, a2, a3, a4, a5, a6, a7, a8, a9, a10, .int 0]))] U.heap ∧ va_K (dC, dI) cls_ [] U ∧ va_D (fun _ => True) [(h0, .inr (10, [a0, a1, a2, a3, a4, a5, a6, a7, a8, a9, a10, .int 0]))] ∧ nx_ U)) (va_Qi (fun (r : Int32) (_ : Unit) => r = (-1)) (fun _ _ => True) (va_A [(h0, .inr (10, [a0, a1, a2, a3, a4, a5, a6, a7, a8, a9, a10, .int 0]))] sz)) 0 0 (va_A [(h0, .inr (10, [a0, a1, a2, a3, a4, a5, a6, a7, a8, a9, a10, .int 0]))] sz) := by
  refine Met.ofW (cc := cX11_stairs) (maxL := 2) (ret := (some .int)) (by decide) rfl ?_
  intro p e s m args below meth c s₁ B hml hv
  obtain ⟨rfl, hsz, hP, hK, hD0, hNx⟩ := hv
  have hx := B.exec
  have hb := B.bytes
  have hr := B.returns
  have hts := atoms_spec (ws := w_X11_stairs) B.pre
  have hown : s.vm.findClass RX11 = some m.cls := findClass_of_methodNamed B.named
  have hlocks := B.notSynchronized
  subst hsz
  have hD := hD0.self (sz := s.heap.size)
  generalize hAe : va_A [(h0, .inr (10, [a0, a1, a2, a3, a4, a5, a6, a7, a8, a9, a10, .int 0]))] s.heap.size = A at hD ⊢
  have hA : ∀ q : Nat, s.heap.size ≤ q → A q := fun q h => by rw [← hAe]; exact Or.inr h
  have hS : va_S A s.heap s.heap [] := va_S.rf
  have hP : va_P (dC, dI) cls_ [(h0, .inr (10, [a0, a1, a2, a3, a4, a5, a6, a7, a8, a9, a10, .int 0]))] s.heap := hP
  have hl := lv_entry ([.ref h0]) (n := 2) (Nat.le_of_ble_eq_true rfl)
  rw [lg_entry_eq]
  generalize (lg_sl ([.ref h0]) ++ List.replicate (2 - (lg_sl ([.ref h0])).length) Slot.unset).toArray = ls at hl ⊢
  have hl : lv_has ls 2 [(0, .ref h0)] := hl
  refine lv_aload_n hx hb dX11_stairs_0 rfl (lv_at hl 0 rfl) ?_
  have hPc := hP.sub (ws' := [(h0, .inr (10, [a0, a1, a2, a3, a4, a5, a6, a7, a8, a9, a10, .int 0]))]) [0] rfl
  have hDc := hD.sub (ws' := [(h0, .inr (10, [a0, a1, a2, a3, a4, a5, a6, a7, a8, a9, a10, .int 0]))]) [0] (by decide) rfl
  have hKc := hK.sub (tys' := []) [] rfl
  have hFc := va_free (wc := [(h0, .inr (10, [a0, a1, a2, a3, a4, a5, a6, a7, a8, a9, a10, .int 0]))]) hD hS hA [0] rfl
  refine va_calli (va_runV (As := []) (rest := []) ⟨hx, hb, hml, hown, hts⟩ (k_X11_lackOfZeros l dC dI h0 a0 a1 a2 a3 a4 a5 a6 a7 a8 a9 a10 s.heap.size) (cwV 0 hts g_X11_stairs_X11_lackOfZeros_171 rfl rfl rfl (by decide +kernel) ⟨Nat.le_of_ble_eq_true rfl, Nat.le_of_ble_eq_true rfl⟩) ⟨fun a U g mk q => by obtain ⟨q0, q1, qP, qK, qD, qN⟩ := q; exact ⟨q0, q1, qP, va_K.moved (u := U) (U := U.calling g mk a) (Vm.Alike.refl U.vm) qK, qD, nx_.same rfl qN⟩, va_recv hKc hPc (ci := 10) (q0 := 0) rfl rfl, fun U hU hW => ⟨rfl, by rw [hU], by rw [hU]; exact hPc, va_K.moved hW.alike hKc, hDc.weaken (fun _ _ _ _ => trivial), nx_.warm hW hNx⟩⟩ rfl rfl hl.1 rfl (lv_room (Nat.le_of_ble_eq_true rfl)) dX11_stairs_1 ⟨Nat.le_of_ble_eq_true rfl, Nat.le_of_ble_eq_true rfl⟩) hS (fun q _ h => hFc q h) hFc (fun r_1 u t H1 locs ht hvm hw hB hz1 hk1 hS => ?_)
  try dsimp only at hw
  obtain ⟨hP1, hK1, hD1⟩ := hB
  rw [ht] at hP1
  obtain ⟨hP, hD⟩ := va_join (wr := []) (w1 := [(h0, .inr (10, [a0, a1, a2, a3, a4, a5, a6, a7, a8, a9, a10, .int 0]))]) hP hD [0] [] rfl rfl (by decide) (by decide) hk1 hFc hP1 hD1
  generalize H1 = H at hP hS ⊢
  have hP : va_P (dC, dI) cls_ [(h0, .inr (10, [a0, a1, a2, a3, a4, a5, a6, a7, a8, a9, a10, .int 0]))] H := hP
  have hD : va_D A [(h0, .inr (10, [a0, a1, a2, a3, a4, a5, a6, a7, a8, a9, a10, .int 0]))] := hD
  refine W.widen (k := 0) (n := 0) (Nat.le_of_ble_eq_true rfl) (Nat.le_of_ble_eq_true rfl) ?_
  obtain rfl : (4 : Int32) = r_1 := Eq.symm hw
  refine lv_istore_n (lv' := [(1, .int 4), (0, .ref h0)]) hx hb dX11_stairs_4 rfl hl (by decide) rfl (fun ls hl => ?_)
  refine lv_iload_n hx hb dX11_stairs_5 rfl (lv_at hl 0 rfl) ?_
  refine lv_if_eq (tgt := 17) hx hb dX11_stairs_6 (by decide) (fun c_2 => absurd c_2 (by decide)) (fun c_2 => ?_)
  refine lv_aload_n hx hb dX11_stairs_9 rfl (lv_at hl 1 rfl) ?_
  refine lv_iload_n hx hb dX11_stairs_10 rfl (lv_at hl 0 rfl) ?_
  have hPc := hP.sub (ws' := [(h0, .inr (10, [a0, a1, a2, a3, a4, a5, a6, a7, a8, a9, a10, .int 0]))]) [0] rfl
  have hDc := hD.sub (ws' := [(h0, .inr (10, [a0, a1, a2, a3, a4, a5, a6, a7, a8, a9, a10, .int 0]))]) [0] (by decide) rfl
  have hKc := hK.sub (tys' := []) [] rfl
  have hFc := va_free (wc := [(h0, .inr (10, [a0, a1, a2, a3, a4, a5, a6, a7, a8, a9, a10, .int 0]))]) hD hS hA [0] rfl
  refine va_calli (va_runV (As := [.int 4]) (rest := []) ⟨hx, hb, hml, hown, hts⟩ (k_X11_refuse l dC dI h0 a0 a1 a2 a3 a4 a5 a6 a7 a8 a9 a10 (.int 0) 4 H.size) (cwV 1 hts g_X11_stairs_X11_refuse_71 rfl rfl rfl (by decide +kernel) ⟨Nat.le_of_ble_eq_true rfl, Nat.le_of_ble_eq_true rfl⟩) ⟨fun a U g mk q => by obtain ⟨q0, q1, qP, qK, qD, qN⟩ := q; exact ⟨q0, q1, qP, va_K.moved (u := U) (U := U.calling g mk a) (Vm.Alike.refl U.vm) qK, qD, nx_.same rfl qN⟩, va_recv hKc hPc (ci := 10) (q0 := 0) rfl rfl, fun U hU hW => ⟨rfl, by rw [hU], by rw [hU]; exact hPc, va_K.moved hW.alike hKc, hDc.weaken (fun _ _ _ _ => trivial), nx_.warm hW hNx⟩⟩ rfl rfl hl.1 rfl (lv_room (Nat.le_of_ble_eq_true rfl)) dX11_stairs_11 ⟨Nat.le_of_ble_eq_true rfl, Nat.le_of_ble_eq_true rfl⟩) hS (fun q _ h => hFc q h) hFc (fun r_3 u t H1 locs ht hvm hw hB hz1 hk1 hS => ?_)
  try dsimp only at hw
  have hP1 : va_P (dC, dI) cls_ [] H1 := fun k q h => by simp at h
  have hD1 : va_D (va_A [(h0, .inr (10, [a0, a1, a2, a3, a4, a5, a6, a7, a8, a9, a10, .int 0]))] H.size) [] := ⟨fun i j p q h => by simp at h, fun k q h => by simp at h⟩
  obtain ⟨hP, hD⟩ := va_join (wr := []) (w1 := []) hP hD [0] [] rfl rfl (by decide) (by decide) hk1 hFc hP1 hD1
  generalize H1 = H at hP hS ⊢
  have hP : va_P (dC, dI) cls_ [] H := hP
  have hD : va_D A [] := hD
  refine W.widen (k := 0) (n := 0) (Nat.le_of_ble_eq_true rfl) (Nat.le_of_ble_eq_true rfl) ?_
  obtain rfl : ((-1) : Int32) = r_3 := Eq.symm hw
  refine lv_goto (tgt := 28) hx hb dX11_stairs_14 (by decide) ?_
  refine W.widen (k := 0) (n := 0) (Nat.le_of_ble_eq_true rfl) (Nat.le_of_ble_eq_true rfl) ?_
  exact W.iret (v := (-1)) hx hb hr (fun t ht hW => ⟨⟨(-1), (), rfl, rfl, trivial⟩, hS.F ht⟩) hS.2.2 dX11_stairs_28

def w_X11_rest : List Cond := .code yX11_rest cX11_rest 3 (some .int) :: ([.fieldLink RX11 75 "RealSolver" "solved" "Z", .fieldLink RX11 65 "RealSolver" "outcome" "I", .code yX11_refuse cX11_refuse 2 (some .int), .methodLink RX11 71 yX11_refuse, .instanceMethod yX11_refuse, .selects RX11 yX11_refuse yX11_refuse, .initialized RX11] ++ (wsX110 ++ ([] : List Cond)))
theorem in_X11_rest_X11 : ∀ w ∈ wsX110, w ∈ w_X11_rest := fun _ h => List.mem_cons_of_mem _ (List.mem_append_right _ (List.mem_append_left _ h))
set_option maxRecDepth 20000 in
theorem g_X11_rest_X11_refuse_71 : GoodIn w_X11_rest (wsV RX11 71 RX11 yX11_refuse w_X11_refuse) := goodIn_r _ [4, 5, 6, 7, 3, 2, 8, 9, 10, 11, 12, 13, 14, 15, 16, 17, 18, 19] (by decide +kernel) (by decide +kernel)
set_option maxHeartbeats 4000000 in
set_option maxRecDepth 100000 in
theorem k_X11_rest (l : Launch) (dC : Nat → ClassId) (dI : Nat → Nat → Nat) (h0 : Nat) (a0 : Value) (a1 : Value) (a2 : Value) (a3 : Value) (a4 : Value) (a5 : Value) (a6 : Value) (a7 : Value) (a8 : Value) (a9 : Value) (a10 : Value) (sz : Nat) : Met l yX11_rest w_X11_rest ({ frames := 1, cells := 0, slots := 0, locals := 21 }) (va_Pc [.ref h0] (fun U => U.heap.size = sz ∧ va_P (dC, dI) cls_ [(h0, .inr (10, [a0, a1, a2, a3, a4, a5, a6, a7, a8, a9, a10, .int 0]))] U.heap ∧ va_K (dC, dI) cls_ [] U ∧ va_D (fun _ => True) [(h0, .inr (10, [a0, a1, a2, a3, a4, a5, a6, a7, a8, a9, a10, .int 0]))] ∧ nx_ U)) (va_Qi (fun (r : Int32) (_ : Unit) => r = (-1)) (fun _ _ => True) (va_A [(h0, .inr (10, [a0, a1, a2, a3, a4, a5, a6, a7, a8, a9, a10, .int 0]))] sz)) 0 0 (va_A [(h0, .inr (10, [a0, a1, a2, a3, a4, a5, a6, a7, a8, a9, a10, .int 0]))] sz) := by
  refine Met.ofW (cc := cX11_rest) (maxL := 3) (ret := (some .int)) (by decide) rfl ?_
  intro p e s m args below meth c s₁ B hml hv
  obtain ⟨rfl, hsz, hP, hK, hD0, hNx⟩ := hv
  have hx := B.exec
  have hb := B.bytes
  have hr := B.returns
  have hts := atoms_spec (ws := w_X11_rest) B.pre
  have hown : s.vm.findClass RX11 = some m.cls := findClass_of_methodNamed B.named
  have hlocks := B.notSynchronized
  subst hsz
  have hD := hD0.self (sz := s.heap.size)
  generalize hAe : va_A [(h0, .inr (10, [a0, a1, a2, a3, a4, a5, a6, a7, a8, a9, a10, .int 0]))] s.heap.size = A at hD ⊢
  have hA : ∀ q : Nat, s.heap.size ≤ q → A q := fun q h => by rw [← hAe]; exact Or.inr h
  have hS : va_S A s.heap s.heap [] := va_S.rf
  have hP : va_P (dC, dI) cls_ [(h0, .inr (10, [a0, a1, a2, a3, a4, a5, a6, a7, a8, a9, a10, .int 0]))] s.heap := hP
  have hl := lv_entry ([.ref h0]) (n := 3) (Nat.le_of_ble_eq_true rfl)
  rw [lg_entry_eq]
  generalize (lg_sl ([.ref h0]) ++ List.replicate (3 - (lg_sl ([.ref h0])).length) Slot.unset).toArray = ls at hl ⊢
  have hl : lv_has ls 3 [(0, .ref h0)] := hl
  refine lv_aload_n hx hb dX11_rest_0 rfl (lv_at hl 0 rfl) ?_
  refine va_get (D := (dC, dI)) (ci := 10) (v := .int 0) (C := RX11) (T := TX11) (N := 12) hx hb hts in_X11_rest_X11 hown hK hP 0 rfl rfl 11 (by decide) (hts (.fieldLink RX11 75 "RealSolver" "solved" "Z") (List.mem_of_getElem? (i := 1) rfl)) (fun _ h9 => h9) rfl dX11_rest_1 ?_
  refine lv_if_ne (tgt := 13) hx hb dX11_rest_4 (by decide) (fun c_1 => absurd (by decide) c_1) (fun c_1 => ?_)
  refine lv_aload_n hx hb dX11_rest_7 rfl (lv_at hl 0 rfl) ?_
  refine lv_iconst (v := 4) hx hb dX11_rest_8 (by decide) ?_
  have hPc := hP.sub (ws' := [(h0, .inr (10, [a0, a1, a2, a3, a4, a5, a6, a7, a8, a9, a10, .int 0]))]) [0] rfl
  have hDc := hD.sub (ws' := [(h0, .inr (10, [a0, a1, a2, a3, a4, a5, a6, a7, a8, a9, a10, .int 0]))]) [0] (by decide) rfl
  have hKc := hK.sub (tys' := []) [] rfl
  have hFc := va_free (wc := [(h0, .inr (10, [a0, a1, a2, a3, a4, a5, a6, a7, a8, a9, a10, .int 0]))]) hD hS hA [0] rfl
  refine va_calli (va_runV (As := [.int 4]) (rest := []) ⟨hx, hb, hml, hown, hts⟩ (k_X11_refuse l dC dI h0 a0 a1 a2 a3 a4 a5 a6 a7 a8 a9 a10 (.int 0) 4 s.heap.size) (cwV 1 hts g_X11_rest_X11_refuse_71 rfl rfl rfl (by decide +kernel) ⟨Nat.le_of_ble_eq_true rfl, Nat.le_of_ble_eq_true rfl⟩) ⟨fun a U g mk q => by obtain ⟨q0, q1, qP, qK, qD, qN⟩ := q; exact ⟨q0, q1, qP, va_K.moved (u := U) (U := U.calling g mk a) (Vm.Alike.refl U.vm) qK, qD, nx_.same rfl qN⟩, va_recv hKc hPc (ci := 10) (q0 := 0) rfl rfl, fun U hU hW => ⟨rfl, by rw [hU], by rw [hU]; exact hPc, va_K.moved hW.alike hKc, hDc.weaken (fun _ _ _ _ => trivial), nx_.warm hW hNx⟩⟩ rfl rfl hl.1 rfl (lv_room (Nat.le_of_ble_eq_true rfl)) dX11_rest_9 ⟨Nat.le_of_ble_eq_true rfl, Nat.le_of_ble_eq_true rfl⟩) hS (fun q _ h => hFc q h) hFc (fun r_2 u t H1 locs ht hvm hw hB hz1 hk1 hS => ?_)
  try dsimp only at hw
  have hP1 : va_P (dC, dI) cls_ [] H1 := fun k q h => by simp at h
  have hD1 : va_D (va_A [(h0, .inr (10, [a0, a1, a2, a3, a4, a5, a6, a7, a8, a9, a10, .int 0]))] s.heap.size) [] := ⟨fun i j p q h => by simp at h, fun k q h => by simp at h⟩
  obtain ⟨hP, hD⟩ := va_join (wr := []) (w1 := []) hP hD [0] [] rfl rfl (by decide) (by decide) hk1 hFc hP1 hD1
  generalize H1 = H at hP hS ⊢
  have hP : va_P (dC, dI) cls_ [] H := hP
  have hD : va_D A [] := hD
  refine W.widen (k := 0) (n := 0) (Nat.le_of_ble_eq_true rfl) (Nat.le_of_ble_eq_true rfl) ?_
  obtain rfl : ((-1) : Int32) = r_2 := Eq.symm hw
  refine W.widen (k := 0) (n := 0) (Nat.le_of_ble_eq_true rfl) (Nat.le_of_ble_eq_true rfl) ?_
  exact W.iret (v := (-1)) hx hb hr (fun t ht hW => ⟨⟨(-1), (), rfl, rfl, trivial⟩, hS.F ht⟩) hS.2.2 dX11_rest_12

def w_X11_zeros : List Cond := .code yX11_zeros cX11_zeros 2 (some .int) :: ([.fieldLink RX11 75 "RealSolver" "solved" "Z", .code yX11_lackOfZeros cX11_lackOfZeros 1 (some .int), .methodLink RX11 171 yX11_lackOfZeros, .instanceMethod yX11_lackOfZeros, .selects RX11 yX11_lackOfZeros yX11_lackOfZeros, .initialized RX11, .fieldLink RX11 65 "RealSolver" "outcome" "I", .code yX11_refuse cX11_refuse 2 (some .int), .methodLink RX11 71 yX11_refuse, .instanceMethod yX11_refuse, .selects RX11 yX11_refuse yX11_refuse] ++ (wsX110 ++ ([] : List Cond)))
theorem in_X11_zeros_X11 : ∀ w ∈ wsX110, w ∈ w_X11_zeros := fun _ h => List.mem_cons_of_mem _ (List.mem_append_right _ (List.mem_append_left _ h))
set_option maxRecDepth 20000 in
theorem g_X11_zeros_X11_lackOfZeros_171 : GoodIn w_X11_zeros (wsV RX11 171 RX11 yX11_lackOfZeros w_X11_lackOfZeros) := goodIn_r _ [3, 4, 5, 6, 2, 1, 12, 13, 14, 15, 16, 17, 18, 19, 20, 21, 22, 23] (by decide +kernel) (by decide +kernel)
set_option maxRecDepth 20000 in
theorem g_X11_zeros_X11_refuse_71 : GoodIn w_X11_zeros (wsV RX11 71 RX11 yX11_refuse w_X11_refuse) := goodIn_r _ [9, 10, 11, 6, 8, 7, 12, 13, 14, 15, 16, 17, 18, 19, 20, 21, 22, 23] (by decide +kernel) (by decide +kernel)
set_option maxHeartbeats 4000000 in
set_option maxRecDepth 100000 in
theorem k_X11_zeros (l : Launch) (dC : Nat → ClassId) (dI : Nat → Nat → Nat) (h0 : Nat) (a0 : Value) (a1 : Value) (a2 : Value) (a3 : Value) (a4 : Value) (a5 : Value) (a6 : Value) (a7 : Value) (a8 : Value) (a9 : Value) (a10 : Value) (sz : Nat) : Met l yX11_zeros w_X11_zeros ({ frames := 1, cells := 0, slots := 0, locals := 21 }) (va_Pc [.ref h0] (fun U => U.heap.size = sz ∧ va_P (dC, dI) cls_ [(h0, .inr (10, [a0, a1, a2, a3, a4, a5, a6, a7, a8, a9, a10, .int 0]))] U.heap ∧ va_K (dC, dI) cls_ [] U ∧ va_D (fun _ => True) [(h0, .inr (10, [a0, a1, a2, a3, a4, a5, a6, a7, a8, a9, a10, .int 0]))] ∧ nx_ U)) (va_Qi (fun (r : Int32) (_ : Unit) => r = (-1)) (fun _ _ => True) (va_A [(h0, .inr (10, [a0, a1, a2, a3, a4, a5, a6, a7, a8, a9, a10, .int 0]))] sz)) 0 0 (va_A [(h0, .inr (10, [a0, a1, a2, a3, a4, a5, a6, a7, a8, a9, a10, .int 0]))] sz) := by
  refine Met.ofW (cc := cX11_zeros) (maxL := 2) (ret := (some .int)) (by decide) rfl ?_
  intro p e s m args below meth c s₁ B hml hv
  obtain ⟨rfl, hsz, hP, hK, hD0, hNx⟩ := hv
  have hx := B.exec
  have hb := B.bytes
  have hr := B.returns
  have hts := atoms_spec (ws := w_X11_zeros) B.pre
  have hown : s.vm.findClass RX11 = some m.cls := findClass_of_methodNamed B.named
  have hlocks := B.notSynchronized
  subst hsz
  have hD := hD0.self (sz := s.heap.size)
  generalize hAe : va_A [(h0, .inr (10, [a0, a1, a2, a3, a4, a5, a6, a7, a8, a9, a10, .int 0]))] s.heap.size = A at hD ⊢
  have hA : ∀ q : Nat, s.heap.size ≤ q → A q := fun q h => by rw [← hAe]; exact Or.inr h
  have hS : va_S A s.heap s.heap [] := va_S.rf
  have hP : va_P (dC, dI) cls_ [(h0, .inr (10, [a0, a1, a2, a3, a4, a5, a6, a7, a8, a9, a10, .int 0]))] s.heap := hP
  have hl := lv_entry ([.ref h0]) (n := 2) (Nat.le_of_ble_eq_true rfl)
  rw [lg_entry_eq]
  generalize (lg_sl ([.ref h0]) ++ List.replicate (2 - (lg_sl ([.ref h0])).length) Slot.unset).toArray = ls at hl ⊢
  have hl : lv_has ls 2 [(0, .ref h0)] := hl
  refine lv_aload_n hx hb dX11_zeros_0 rfl (lv_at hl 0 rfl) ?_
  have hPc := hP.sub (ws' := [(h0, .inr (10, [a0, a1, a2, a3, a4, a5, a6, a7, a8, a9, a10, .int 0]))]) [0] rfl
  have hDc := hD.sub (ws' := [(h0, .inr (10, [a0, a1, a2, a3, a4, a5, a6, a7, a8, a9, a10, .int 0]))]) [0] (by decide) rfl
  have hKc := hK.sub (tys' := []) [] rfl
  have hFc := va_free (wc := [(h0, .inr (10, [a0, a1, a2, a3, a4, a5, a6, a7, a8, a9, a10, .int 0]))]) hD hS hA [0] rfl
  refine va_calli (va_runV (As := []) (rest := []) ⟨hx, hb, hml, hown, hts⟩ (k_X11_lackOfZeros l dC dI h0 a0 a1 a2 a3 a4 a5 a6 a7 a8 a9 a10 s.heap.size) (cwV 0 hts g_X11_zeros_X11_lackOfZeros_171 rfl rfl rfl (by decide +kernel) ⟨Nat.le_of_ble_eq_true rfl, Nat.le_of_ble_eq_true rfl⟩) ⟨fun a U g mk q => by obtain ⟨q0, q1, qP, qK, qD, qN⟩ := q; exact ⟨q0, q1, qP, va_K.moved (u := U) (U := U.calling g mk a) (Vm.Alike.refl U.vm) qK, qD, nx_.same rfl qN⟩, va_recv hKc hPc (ci := 10) (q0 := 0) rfl rfl, fun U hU hW => ⟨rfl, by rw [hU], by rw [hU]; exact hPc, va_K.moved hW.alike hKc, hDc.weaken (fun _ _ _ _ => trivial), nx_.warm hW hNx⟩⟩ rfl rfl hl.1 rfl (lv_room (Nat.le_of_ble_eq_true rfl)) dX11_zeros_1 ⟨Nat.le_of_ble_eq_true rfl, Nat.le_of_ble_eq_true rfl⟩) hS (fun q _ h => hFc q h) hFc (fun r_1 u t H1 locs ht hvm hw hB hz1 hk1 hS => ?_)
  try dsimp only at hw
  obtain ⟨hP1, hK1, hD1⟩ := hB
  rw [ht] at hP1
  obtain ⟨hP, hD⟩ := va_join (wr := []) (w1 := [(h0, .inr (10, [a0, a1, a2, a3, a4, a5, a6, a7, a8, a9, a10, .int 0]))]) hP hD [0] [] rfl rfl (by decide) (by decide) hk1 hFc hP1 hD1
  generalize H1 = H at hP hS ⊢
  have hP : va_P (dC, dI) cls_ [(h0, .inr (10, [a0, a1, a2, a3, a4, a5, a6, a7, a8, a9, a10, .int 0]))] H := hP
  have hD : va_D A [(h0, .inr (10, [a0, a1, a2, a3, a4, a5, a6, a7, a8, a9, a10, .int 0]))] := hD
  refine W.widen (k := 0) (n := 0) (Nat.le_of_ble_eq_true rfl) (Nat.le_of_ble_eq_true rfl) ?_
  obtain rfl : (4 : Int32) = r_1 := Eq.symm hw
  refine lv_istore_n (lv' := [(1, .int 4), (0, .ref h0)]) hx hb dX11_zeros_4 rfl hl (by decide) rfl (fun ls hl => ?_)
  refine lv_iload_n hx hb dX11_zeros_5 rfl (lv_at hl 0 rfl) ?_
  refine lv_if_eq (tgt := 17) hx hb dX11_zeros_6 (by decide) (fun c_2 => absurd c_2 (by decide)) (fun c_2 => ?_)
  refine lv_aload_n hx hb dX11_zeros_9 rfl (lv_at hl 1 rfl) ?_
  refine lv_iload_n hx hb dX11_zeros_10 rfl (lv_at hl 0 rfl) ?_
  have hPc := hP.sub (ws' := [(h0, .inr (10, [a0, a1, a2, a3, a4, a5, a6, a7, a8, a9, a10, .int 0]))]) [0] rfl
  have hDc := hD.sub (ws' := [(h0, .inr (10, [a0, a1, a2, a3, a4, a5, a6, a7, a8, a9, a10, .int 0]))]) [0] (by decide) rfl
  have hKc := hK.sub (tys' := []) [] rfl
  have hFc := va_free (wc := [(h0, .inr (10, [a0, a1, a2, a3, a4, a5, a6, a7, a8, a9, a10, .int 0]))]) hD hS hA [0] rfl
  refine va_calli (va_runV (As := [.int 4]) (rest := []) ⟨hx, hb, hml, hown, hts⟩ (k_X11_refuse l dC dI h0 a0 a1 a2 a3 a4 a5 a6 a7 a8 a9 a10 (.int 0) 4 H.size) (cwV 1 hts g_X11_zeros_X11_refuse_71 rfl rfl rfl (by decide +kernel) ⟨Nat.le_of_ble_eq_true rfl, Nat.le_of_ble_eq_true rfl⟩) ⟨fun a U g mk q => by obtain ⟨q0, q1, qP, qK, qD, qN⟩ := q; exact ⟨q0, q1, qP, va_K.moved (u := U) (U := U.calling g mk a) (Vm.Alike.refl U.vm) qK, qD, nx_.same rfl qN⟩, va_recv hKc hPc (ci := 10) (q0 := 0) rfl rfl, fun U hU hW => ⟨rfl, by rw [hU], by rw [hU]; exact hPc, va_K.moved hW.alike hKc, hDc.weaken (fun _ _ _ _ => trivial), nx_.warm hW hNx⟩⟩ rfl rfl hl.1 rfl (lv_room (Nat.le_of_ble_eq_true rfl)) dX11_zeros_11 ⟨Nat.le_of_ble_eq_true rfl, Nat.le_of_ble_eq_true rfl⟩) hS (fun q _ h => hFc q h) hFc (fun r_3 u t H1 locs ht hvm hw hB hz1 hk1 hS => ?_)
  try dsimp only at hw
  have hP1 : va_P (dC, dI) cls_ [] H1 := fun k q h => by simp at h
  have hD1 : va_D (va_A [(h0, .inr (10, [a0, a1, a2, a3, a4, a5, a6, a7, a8, a9, a10, .int 0]))] H.size) [] := ⟨fun i j p q h => by simp at h, fun k q h => by simp at h⟩
  obtain ⟨hP, hD⟩ := va_join (wr := []) (w1 := []) hP hD [0] [] rfl rfl (by decide) (by decide) hk1 hFc hP1 hD1
  generalize H1 = H at hP hS ⊢
  have hP : va_P (dC, dI) cls_ [] H := hP
  have hD : va_D A [] := hD
  refine W.widen (k := 0) (n := 0) (Nat.le_of_ble_eq_true rfl) (Nat.le_of_ble_eq_true rfl) ?_
  obtain rfl : ((-1) : Int32) = r_3 := Eq.symm hw
  refine lv_goto (tgt := 28) hx hb dX11_zeros_14 (by decide) ?_
  refine W.widen (k := 0) (n := 0) (Nat.le_of_ble_eq_true rfl) (Nat.le_of_ble_eq_true rfl) ?_
  exact W.iret (v := (-1)) hx hb hr (fun t ht hW => ⟨⟨(-1), (), rfl, rfl, trivial⟩, hS.F ht⟩) hS.2.2 dX11_zeros_28

def w_X11_form : List Cond := .code yX11_form cX11_form 2 (some .int) :: ([.fieldLink RX11 75 "RealSolver" "solved" "Z", .code yX11_lackOfZeros cX11_lackOfZeros 1 (some .int), .methodLink RX11 171 yX11_lackOfZeros, .instanceMethod yX11_lackOfZeros, .selects RX11 yX11_lackOfZeros yX11_lackOfZeros, .initialized RX11, .fieldLink RX11 65 "RealSolver" "outcome" "I", .code yX11_refuse cX11_refuse 2 (some .int), .methodLink RX11 71 yX11_refuse, .instanceMethod yX11_refuse, .selects RX11 yX11_refuse yX11_refuse] ++ (wsX110 ++ ([] : List Cond)))
theorem in_X11_form_X11 : ∀ w ∈ wsX110, w ∈ w_X11_form := fun _ h => List.mem_cons_of_mem _ (List.mem_append_right _ (List.mem_append_left _ h))
set_option maxRecDepth 20000 in
theorem g_X11_form_X11_lackOfZeros_171 : GoodIn w_X11_form (wsV RX11 171 RX11 yX11_lackOfZeros w_X11_lackOfZeros) := goodIn_r _ [3, 4, 5, 6, 2, 1, 12, 13, 14, 15, 16, 17, 18, 19, 20, 21, 22, 23] (by decide +kernel) (by decide +kernel)
set_option maxRecDepth 20000 in
theorem g_X11_form_X11_refuse_71 : GoodIn w_X11_form (wsV RX11 71 RX11 yX11_refuse w_X11_refuse) := goodIn_r _ [9, 10, 11, 6, 8, 7, 12, 13, 14, 15, 16, 17, 18, 19, 20, 21, 22, 23] (by decide +kernel) (by decide +kernel)
set_option maxHeartbeats 4000000 in
set_option maxRecDepth 100000 in
theorem k_X11_form (l : Launch) (dC : Nat → ClassId) (dI : Nat → Nat → Nat) (h0 : Nat) (a0 : Value) (a1 : Value) (a2 : Value) (a3 : Value) (a4 : Value) (a5 : Value) (a6 : Value) (a7 : Value) (a8 : Value) (a9 : Value) (a10 : Value) (sz : Nat) : Met l yX11_form w_X11_form ({ frames := 1, cells := 0, slots := 0, locals := 21 }) (va_Pc [.ref h0] (fun U => U.heap.size = sz ∧ va_P (dC, dI) cls_ [(h0, .inr (10, [a0, a1, a2, a3, a4, a5, a6, a7, a8, a9, a10, .int 0]))] U.heap ∧ va_K (dC, dI) cls_ [] U ∧ va_D (fun _ => True) [(h0, .inr (10, [a0, a1, a2, a3, a4, a5, a6, a7, a8, a9, a10, .int 0]))] ∧ nx_ U)) (va_Qi (fun (r : Int32) (_ : Unit) => r = (-1)) (fun _ _ => True) (va_A [(h0, .inr (10, [a0, a1, a2, a3, a4, a5, a6, a7, a8, a9, a10, .int 0]))] sz)) 0 0 (va_A [(h0, .inr (10, [a0, a1, a2, a3, a4, a5, a6, a7, a8, a9, a10, .int 0]))] sz) := by
  refine Met.ofW (cc := cX11_form) (maxL := 2) (ret := (some .int)) (by decide) rfl ?_
  intro p e s m args below meth c s₁ B hml hv
  obtain ⟨rfl, hsz, hP, hK, hD0, hNx⟩ := hv
  have hx := B.exec
  have hb := B.bytes
  have hr := B.returns
  have hts := atoms_spec (ws := w_X11_form) B.pre
  have hown : s.vm.findClass RX11 = some m.cls := findClass_of_methodNamed B.named
  have hlocks := B.notSynchronized
  subst hsz
  have hD := hD0.self (sz := s.heap.size)
  generalize hAe : va_A [(h0, .inr (10, [a0, a1, a2, a3, a4, a5, a6, a7, a8, a9, a10, .int 0]))] s.heap.size = A at hD ⊢
  have hA : ∀ q : Nat, s.heap.size ≤ q → A q := fun q h => by rw [← hAe]; exact Or.inr h
  have hS : va_S A s.heap s.heap [] := va_S.rf
  have hP : va_P (dC, dI) cls_ [(h0, .inr (10, [a0, a1, a2, a3, a4, a5, a6, a7, a8, a9, a10, .int 0]))] s.heap := hP
  have hl := lv_entry ([.ref h0]) (n := 2) (Nat.le_of_ble_eq_true rfl)
  rw [lg_entry_eq]
  generalize (lg_sl ([.ref h0]) ++ List.replicate (2 - (lg_sl ([.ref h0])).length) Slot.unset).toArray = ls at hl ⊢
  have hl : lv_has ls 2 [(0, .ref h0)] := hl
  refine lv_aload_n hx hb dX11_form_0 rfl (lv_at hl 0 rfl) ?_
  have hPc := hP.sub (ws' := [(h0, .inr (10, [a0, a1, a2, a3, a4, a5, a6, a7, a8, a9, a10, .int 0]))]) [0] rfl
  have hDc := hD.sub (ws' := [(h0, .inr (10, [a0, a1, a2, a3, a4, a5, a6, a7, a8, a9, a10, .int 0]))]) [0] (by decide) rfl
  have hKc := hK.sub (tys' := []) [] rfl
  have hFc := va_free (wc := [(h0, .inr (10, [a0, a1, a2, a3, a4, a5, a6, a7, a8, a9, a10, .int 0]))]) hD hS hA [0] rfl
  refine va_calli (va_runV (As := []) (rest := []) ⟨hx, hb, hml, hown, hts⟩ (k_X11_lackOfZeros l dC dI h0 a0 a1 a2 a3 a4 a5 a6 a7 a8 a9 a10 s.heap.size) (cwV 0 hts g_X11_form_X11_lackOfZeros_171 rfl rfl rfl (by decide +kernel) ⟨Nat.le_of_ble_eq_true rfl, Nat.le_of_ble_eq_true rfl⟩) ⟨fun a U g mk q => by obtain ⟨q0, q1, qP, qK, qD, qN⟩ := q; exact ⟨q0, q1, qP, va_K.moved (u := U) (U := U.calling g mk a) (Vm.Alike.refl U.vm) qK, qD, nx_.same rfl qN⟩, va_recv hKc hPc (ci := 10) (q0 := 0) rfl rfl, fun U hU hW => ⟨rfl, by rw [hU], by rw [hU]; exact hPc, va_K.moved hW.alike hKc, hDc.weaken (fun _ _ _ _ => trivial), nx_.warm hW hNx⟩⟩ rfl rfl hl.1 rfl (lv_room (Nat.le_of_ble_eq_true rfl)) dX11_form_1 ⟨Nat.le_of_ble_eq_true rfl, Nat.le_of_ble_eq_true rfl⟩) hS (fun q _ h => hFc q h) hFc (fun r_1 u t H1 locs ht hvm hw hB hz1 hk1 hS => ?_)
  try dsimp only at hw
  obtain ⟨hP1, hK1, hD1⟩ := hB
  rw [ht] at hP1
  obtain ⟨hP, hD⟩ := va_join (wr := []) (w1 := [(h0, .inr (10, [a0, a1, a2, a3, a4, a5, a6, a7, a8, a9, a10, .int 0]))]) hP hD [0] [] rfl rfl (by decide) (by decide) hk1 hFc hP1 hD1
  generalize H1 = H at hP hS ⊢
  have hP : va_P (dC, dI) cls_ [(h0, .inr (10, [a0, a1, a2, a3, a4, a5, a6, a7, a8, a9, a10, .int 0]))] H := hP
  have hD : va_D A [(h0, .inr (10, [a0, a1, a2, a3, a4, a5, a6, a7, a8, a9, a10, .int 0]))] := hD
  refine W.widen (k := 0) (n := 0) (Nat.le_of_ble_eq_true rfl) (Nat.le_of_ble_eq_true rfl) ?_
  obtain rfl : (4 : Int32) = r_1 := Eq.symm hw
  refine lv_istore_n (lv' := [(1, .int 4), (0, .ref h0)]) hx hb dX11_form_4 rfl hl (by decide) rfl (fun ls hl => ?_)
  refine lv_iload_n hx hb dX11_form_5 rfl (lv_at hl 0 rfl) ?_
  refine lv_if_eq (tgt := 17) hx hb dX11_form_6 (by decide) (fun c_2 => absurd c_2 (by decide)) (fun c_2 => ?_)
  refine lv_aload_n hx hb dX11_form_9 rfl (lv_at hl 1 rfl) ?_
  refine lv_iload_n hx hb dX11_form_10 rfl (lv_at hl 0 rfl) ?_
  have hPc := hP.sub (ws' := [(h0, .inr (10, [a0, a1, a2, a3, a4, a5, a6, a7, a8, a9, a10, .int 0]))]) [0] rfl
  have hDc := hD.sub (ws' := [(h0, .inr (10, [a0, a1, a2, a3, a4, a5, a6, a7, a8, a9, a10, .int 0]))]) [0] (by decide) rfl
  have hKc := hK.sub (tys' := []) [] rfl
  have hFc := va_free (wc := [(h0, .inr (10, [a0, a1, a2, a3, a4, a5, a6, a7, a8, a9, a10, .int 0]))]) hD hS hA [0] rfl
  refine va_calli (va_runV (As := [.int 4]) (rest := []) ⟨hx, hb, hml, hown, hts⟩ (k_X11_refuse l dC dI h0 a0 a1 a2 a3 a4 a5 a6 a7 a8 a9 a10 (.int 0) 4 H.size) (cwV 1 hts g_X11_form_X11_refuse_71 rfl rfl rfl (by decide +kernel) ⟨Nat.le_of_ble_eq_true rfl, Nat.le_of_ble_eq_true rfl⟩) ⟨fun a U g mk q => by obtain ⟨q0, q1, qP, qK, qD, qN⟩ := q; exact ⟨q0, q1, qP, va_K.moved (u := U) (U := U.calling g mk a) (Vm.Alike.refl U.vm) qK, qD, nx_.same rfl qN⟩, va_recv hKc hPc (ci := 10) (q0 := 0) rfl rfl, fun U hU hW => ⟨rfl, by rw [hU], by rw [hU]; exact hPc, va_K.moved hW.alike hKc, hDc.weaken (fun _ _ _ _ => trivial), nx_.warm hW hNx⟩⟩ rfl rfl hl.1 rfl (lv_room (Nat.le_of_ble_eq_true rfl)) dX11_form_11 ⟨Nat.le_of_ble_eq_true rfl, Nat.le_of_ble_eq_true rfl⟩) hS (fun q _ h => hFc q h) hFc (fun r_3 u t H1 locs ht hvm hw hB hz1 hk1 hS => ?_)
  try dsimp only at hw
  have hP1 : va_P (dC, dI) cls_ [] H1 := fun k q h => by simp at h
  have hD1 : va_D (va_A [(h0, .inr (10, [a0, a1, a2, a3, a4, a5, a6, a7, a8, a9, a10, .int 0]))] H.size) [] := ⟨fun i j p q h => by simp at h, fun k q h => by simp at h⟩
  obtain ⟨hP, hD⟩ := va_join (wr := []) (w1 := []) hP hD [0] [] rfl rfl (by decide) (by decide) hk1 hFc hP1 hD1
  generalize H1 = H at hP hS ⊢
  have hP : va_P (dC, dI) cls_ [] H := hP
  have hD : va_D A [] := hD
  refine W.widen (k := 0) (n := 0) (Nat.le_of_ble_eq_true rfl) (Nat.le_of_ble_eq_true rfl) ?_
  obtain rfl : ((-1) : Int32) = r_3 := Eq.symm hw
  refine lv_goto (tgt := 28) hx hb dX11_form_14 (by decide) ?_
  refine W.widen (k := 0) (n := 0) (Nat.le_of_ble_eq_true rfl) (Nat.le_of_ble_eq_true rfl) ?_
  exact W.iret (v := (-1)) hx hb hr (fun t ht hW => ⟨⟨(-1), (), rfl, rfl, trivial⟩, hS.F ht⟩) hS.2.2 dX11_form_28

def w_X11_real : List Cond := .code yX11_real cX11_real 2 (some .int) :: ([.fieldLink RX11 75 "RealSolver" "solved" "Z", .code yX11_lackOfZeros cX11_lackOfZeros 1 (some .int), .methodLink RX11 171 yX11_lackOfZeros, .instanceMethod yX11_lackOfZeros, .selects RX11 yX11_lackOfZeros yX11_lackOfZeros, .initialized RX11, .fieldLink RX11 65 "RealSolver" "outcome" "I", .code yX11_refuse cX11_refuse 2 (some .int), .methodLink RX11 71 yX11_refuse, .instanceMethod yX11_refuse, .selects RX11 yX11_refuse yX11_refuse] ++ (wsX110 ++ ([] : List Cond)))
theorem in_X11_real_X11 : ∀ w ∈ wsX110, w ∈ w_X11_real := fun _ h => List.mem_cons_of_mem _ (List.mem_append_right _ (List.mem_append_left _ h))
set_option maxRecDepth 20000 in
theorem g_X11_real_X11_lackOfZeros_171 : GoodIn w_X11_real (wsV RX11 171 RX11 yX11_lackOfZeros w_X11_lackOfZeros) := goodIn_r _ [3, 4, 5, 6, 2, 1, 12, 13, 14, 15, 16, 17, 18, 19, 20, 21, 22, 23] (by decide +kernel) (by decide +kernel)
set_option maxRecDepth 20000 in
theorem g_X11_real_X11_refuse_71 : GoodIn w_X11_real (wsV RX11 71 RX11 yX11_refuse w_X11_refuse) := goodIn_r _ [9, 10, 11, 6, 8, 7, 12, 13, 14, 15, 16, 17, 18, 19, 20, 21, 22, 23] (by decide +kernel) (by decide +kernel)
set_option maxHeartbeats 4000000 in
set_option maxRecDepth 100000 in
theorem k_X11_real (l : Launch) (dC : Nat → ClassId) (dI : Nat → Nat → Nat) (h0 : Nat) (a0 : Value) (a1 : Value) (a2 : Value) (a3 : Value) (a4 : Value) (a5 : Value) (a6 : Value) (a7 : Value) (a8 : Value) (a9 : Value) (a10 : Value) (sz : Nat) : Met l yX11_real w_X11_real ({ frames := 1, cells := 0, slots := 0, locals := 21 }) (va_Pc [.ref h0] (fun U => U.heap.size = sz ∧ va_P (dC, dI) cls_ [(h0, .inr (10, [a0, a1, a2, a3, a4, a5, a6, a7, a8, a9, a10, .int 0]))] U.heap ∧ va_K (dC, dI) cls_ [] U ∧ va_D (fun _ => True) [(h0, .inr (10, [a0, a1, a2, a3, a4, a5, a6, a7, a8, a9, a10, .int 0]))] ∧ nx_ U)) (va_Qi (fun (r : Int32) (_ : Unit) => r = (-1)) (fun _ _ => True) (va_A [(h0, .inr (10, [a0, a1, a2, a3, a4, a5, a6, a7, a8, a9, a10, .int 0]))] sz)) 0 0 (va_A [(h0, .inr (10, [a0, a1, a2, a3, a4, a5, a6, a7, a8, a9, a10, .int 0]))] sz) := by
  refine Met.ofW (cc := cX11_real) (maxL := 2) (ret := (some .int)) (by decide) rfl ?_
  intro p e s m args below meth c s₁ B hml hv
  obtain ⟨rfl, hsz, hP, hK, hD0, hNx⟩ := hv
  have hx := B.exec
  have hb := B.bytes
  have hr := B.returns
  have hts := atoms_spec (ws := w_X11_real) B.pre
  have hown : s.vm.findClass RX11 = some m.cls := findClass_of_methodNamed B.named
  have hlocks := B.notSynchronized
  subst hsz
  have hD := hD0.self (sz := s.heap.size)
  generalize hAe : va_A [(h0, .inr (10, [a0, a1, a2, a3, a4, a5, a6, a7, a8, a9, a10, .int 0]))] s.heap.size = A at hD ⊢
  have hA : ∀ q : Nat, s.heap.size ≤ q → A q := fun q h => by rw [← hAe]; exact Or.inr h
  have hS : va_S A s.heap s.heap [] := va_S.rf
  have hP : va_P (dC, dI) cls_ [(h0, .inr (10, [a0, a1, a2, a3, a4, a5, a6, a7, a8, a9, a10, .int 0]))] s.heap := hP
  have hl := lv_entry ([.ref h0]) (n := 2) (Nat.le_of_ble_eq_true rfl)
  rw [lg_entry_eq]
  generalize (lg_sl ([.ref h0]) ++ List.replicate (2 - (lg_sl ([.ref h0])).length) Slot.unset).toArray = ls at hl ⊢
  have hl : lv_has ls 2 [(0, .ref h0)] := hl
  refine lv_aload_n hx hb dX11_real_0 rfl (lv_at hl 0 rfl) ?_
  have hPc := hP.sub (ws' := [(h0, .inr (10, [a0, a1, a2, a3, a4, a5, a6, a7, a8, a9, a10, .int 0]))]) [0] rfl
  have hDc := hD.sub (ws' := [(h0, .inr (10, [a0, a1, a2, a3, a4, a5, a6, a7, a8, a9, a10, .int 0]))]) [0] (by decide) rfl
  have hKc := hK.sub (tys' := []) [] rfl
  have hFc := va_free (wc := [(h0, .inr (10, [a0, a1, a2, a3, a4, a5, a6, a7, a8, a9, a10, .int 0]))]) hD hS hA [0] rfl
  refine va_calli (va_runV (As := []) (rest := []) ⟨hx, hb, hml, hown, hts⟩ (k_X11_lackOfZeros l dC dI h0 a0 a1 a2 a3 a4 a5 a6 a7 a8 a9 a10 s.heap.size) (cwV 0 hts g_X11_real_X11_lackOfZeros_171 rfl rfl rfl (by decide +kernel) ⟨Nat.le_of_ble_eq_true rfl, Nat.le_of_ble_eq_true rfl⟩) ⟨fun a U g mk q => by obtain ⟨q0, q1, qP, qK, qD, qN⟩ := q; exact ⟨q0, q1, qP, va_K.moved (u := U) (U := U.calling g mk a) (Vm.Alike.refl U.vm) qK, qD, nx_.same rfl qN⟩, va_recv hKc hPc (ci := 10) (q0 := 0) rfl rfl, fun U hU hW => ⟨rfl, by rw [hU], by rw [hU]; exact hPc, va_K.moved hW.alike hKc, hDc.weaken (fun _ _ _ _ => trivial), nx_.warm hW hNx⟩⟩ rfl rfl hl.1 rfl (lv_room (Nat.le_of_ble_eq_true rfl)) dX11_real_1 ⟨Nat.le_of_ble_eq_true rfl, Nat.le_of_ble_eq_true rfl⟩) hS (fun q _ h => hFc q h) hFc (fun r_1 u t H1 locs ht hvm hw hB hz1 hk1 hS => ?_)
  try dsimp only at hw
  obtain ⟨hP1, hK1, hD1⟩ := hB
  rw [ht] at hP1
  obtain ⟨hP, hD⟩ := va_join (wr := []) (w1 := [(h0, .inr (10, [a0, a1, a2, a3, a4, a5, a6, a7, a8, a9, a10, .int 0]))]) hP hD [0] [] rfl rfl (by decide) (by decide) hk1 hFc hP1 hD1
  generalize H1 = H at hP hS ⊢
  have hP : va_P (dC, dI) cls_ [(h0, .inr (10, [a0, a1, a2, a3, a4, a5, a6, a7, a8, a9, a10, .int 0]))] H := hP
  have hD : va_D A [(h0, .inr (10, [a0, a1, a2, a3, a4, a5, a6, a7, a8, a9, a10, .int 0]))] := hD
  refine W.widen (k := 0) (n := 0) (Nat.le_of_ble_eq_true rfl) (Nat.le_of_ble_eq_true rfl) ?_
  obtain rfl : (4 : Int32) = r_1 := Eq.symm hw
  refine lv_istore_n (lv' := [(1, .int 4), (0, .ref h0)]) hx hb dX11_real_4 rfl hl (by decide) rfl (fun ls hl => ?_)
  refine lv_iload_n hx hb dX11_real_5 rfl (lv_at hl 0 rfl) ?_
  refine lv_if_eq (tgt := 17) hx hb dX11_real_6 (by decide) (fun c_2 => absurd c_2 (by decide)) (fun c_2 => ?_)
  refine lv_aload_n hx hb dX11_real_9 rfl (lv_at hl 1 rfl) ?_
  refine lv_iload_n hx hb dX11_real_10 rfl (lv_at hl 0 rfl) ?_
  have hPc := hP.sub (ws' := [(h0, .inr (10, [a0, a1, a2, a3, a4, a5, a6, a7, a8, a9, a10, .int 0]))]) [0] rfl
  have hDc := hD.sub (ws' := [(h0, .inr (10, [a0, a1, a2, a3, a4, a5, a6, a7, a8, a9, a10, .int 0]))]) [0] (by decide) rfl
  have hKc := hK.sub (tys' := []) [] rfl
  have hFc := va_free (wc := [(h0, .inr (10, [a0, a1, a2, a3, a4, a5, a6, a7, a8, a9, a10, .int 0]))]) hD hS hA [0] rfl
  refine va_calli (va_runV (As := [.int 4]) (rest := []) ⟨hx, hb, hml, hown, hts⟩ (k_X11_refuse l dC dI h0 a0 a1 a2 a3 a4 a5 a6 a7 a8 a9 a10 (.int 0) 4 H.size) (cwV 1 hts g_X11_real_X11_refuse_71 rfl rfl rfl (by decide +kernel) ⟨Nat.le_of_ble_eq_true rfl, Nat.le_of_ble_eq_true rfl⟩) ⟨fun a U g mk q => by obtain ⟨q0, q1, qP, qK, qD, qN⟩ := q; exact ⟨q0, q1, qP, va_K.moved (u := U) (U := U.calling g mk a) (Vm.Alike.refl U.vm) qK, qD, nx_.same rfl qN⟩, va_recv hKc hPc (ci := 10) (q0 := 0) rfl rfl, fun U hU hW => ⟨rfl, by rw [hU], by rw [hU]; exact hPc, va_K.moved hW.alike hKc, hDc.weaken (fun _ _ _ _ => trivial), nx_.warm hW hNx⟩⟩ rfl rfl hl.1 rfl (lv_room (Nat.le_of_ble_eq_true rfl)) dX11_real_11 ⟨Nat.le_of_ble_eq_true rfl, Nat.le_of_ble_eq_true rfl⟩) hS (fun q _ h => hFc q h) hFc (fun r_3 u t H1 locs ht hvm hw hB hz1 hk1 hS => ?_)
  try dsimp only at hw
  have hP1 : va_P (dC, dI) cls_ [] H1 := fun k q h => by simp at h
  have hD1 : va_D (va_A [(h0, .inr (10, [a0, a1, a2, a3, a4, a5, a6, a7, a8, a9, a10, .int 0]))] H.size) [] := ⟨fun i j p q h => by simp at h, fun k q h => by simp at h⟩
  obtain ⟨hP, hD⟩ := va_join (wr := []) (w1 := []) hP hD [0] [] rfl rfl (by decide) (by decide) hk1 hFc hP1 hD1
  generalize H1 = H at hP hS ⊢
  have hP : va_P (dC, dI) cls_ [] H := hP
  have hD : va_D A [] := hD
  refine W.widen (k := 0) (n := 0) (Nat.le_of_ble_eq_true rfl) (Nat.le_of_ble_eq_true rfl) ?_
  obtain rfl : ((-1) : Int32) = r_3 := Eq.symm hw
  refine lv_goto (tgt := 28) hx hb dX11_real_14 (by decide) ?_
  refine W.widen (k := 0) (n := 0) (Nat.le_of_ble_eq_true rfl) (Nat.le_of_ble_eq_true rfl) ?_
  exact W.iret (v := (-1)) hx hb hr (fun t ht hW => ⟨⟨(-1), (), rfl, rfl, trivial⟩, hS.F ht⟩) hS.2.2 dX11_real_28

def w_X11_apart : List Cond := .code yX11_apart cX11_apart 5 (some .int) :: ([.fieldLink RX11 75 "RealSolver" "solved" "Z", .code yX11_lackOfZeros cX11_lackOfZeros 1 (some .int), .methodLink RX11 171 yX11_lackOfZeros, .instanceMethod yX11_lackOfZeros, .selects RX11 yX11_lackOfZeros yX11_lackOfZeros, .initialized RX11, .fieldLink RX11 65 "RealSolver" "outcome" "I", .code yX11_refuse cX11_refuse 2 (some .int), .methodLink RX11 71 yX11_refuse, .instanceMethod yX11_refuse, .selects RX11 yX11_refuse yX11_refuse] ++ (wsX110 ++ ([] : List Cond)))
theorem in_X11_apart_X11 : ∀ w ∈ wsX110, w ∈ w_X11_apart := fun _ h => List.mem_cons_of_mem _ (List.mem_append_right _ (List.mem_append_left _ h))
set_option maxRecDepth 20000 in
theorem g_X11_apart_X11_lackOfZeros_171 : GoodIn w_X11_apart (wsV RX11 171 RX11 yX11_lackOfZeros w_X11_lackOfZeros) := goodIn_r _ [3, 4, 5, 6, 2, 1, 12, 13, 14, 15, 16, 17, 18, 19, 20, 21, 22, 23] (by decide +kernel) (by decide +kernel)
set_option maxRecDepth 20000 in
theorem g_X11_apart_X11_refuse_71 : GoodIn w_X11_apart (wsV RX11 71 RX11 yX11_refuse w_X11_refuse) := goodIn_r _ [9, 10, 11, 6, 8, 7, 12, 13, 14, 15, 16, 17, 18, 19, 20, 21, 22, 23] (by decide +kernel) (by decide +kernel)
set_option maxHeartbeats 4000000 in
set_option maxRecDepth 100000 in
theorem k_X11_apart (l : Launch) (dC : Nat → ClassId) (dI : Nat → Nat → Nat) (h0 : Nat) (a0 : Value) (a1 : Value) (a2 : Value) (a3 : Value) (a4 : Value) (a5 : Value) (a6 : Value) (a7 : Value) (a8 : Value) (a9 : Value) (a10 : Value) (sz : Nat) : Met l yX11_apart w_X11_apart ({ frames := 1, cells := 0, slots := 0, locals := 21 }) (va_Pc [.ref h0] (fun U => U.heap.size = sz ∧ va_P (dC, dI) cls_ [(h0, .inr (10, [a0, a1, a2, a3, a4, a5, a6, a7, a8, a9, a10, .int 0]))] U.heap ∧ va_K (dC, dI) cls_ [] U ∧ va_D (fun _ => True) [(h0, .inr (10, [a0, a1, a2, a3, a4, a5, a6, a7, a8, a9, a10, .int 0]))] ∧ nx_ U)) (va_Qi (fun (r : Int32) (_ : Unit) => r = (-1)) (fun _ _ => True) (va_A [(h0, .inr (10, [a0, a1, a2, a3, a4, a5, a6, a7, a8, a9, a10, .int 0]))] sz)) 0 0 (va_A [(h0, .inr (10, [a0, a1, a2, a3, a4, a5, a6, a7, a8, a9, a10, .int 0]))] sz) := by
  refine Met.ofW (cc := cX11_apart) (maxL := 5) (ret := (some .int)) (by decide) rfl ?_
  intro p e s m args below meth c s₁ B hml hv
  obtain ⟨rfl, hsz, hP, hK, hD0, hNx⟩ := hv
  have hx := B.exec
  have hb := B.bytes
  have hr := B.returns
  have hts := atoms_spec (ws := w_X11_apart) B.pre
  have hown : s.vm.findClass RX11 = some m.cls := findClass_of_methodNamed B.named
  have hlocks := B.notSynchronized
  subst hsz
  have hD := hD0.self (sz := s.heap.size)
  generalize hAe : va_A [(h0, .inr (10, [a0, a1, a2, a3, a4, a5, a6, a7, a8, a9, a10, .int 0]))] s.heap.size = A at hD ⊢
  have hA : ∀ q : Nat, s.heap.size ≤ q → A q := fun q h => by rw [← hAe]; exact Or.inr h
  have hS : va_S A s.heap s.heap [] := va_S.rf
  have hP : va_P (dC, dI) cls_ [(h0, .inr (10, [a0, a1, a2, a3, a4, a5, a6, a7, a8, a9, a10, .int 0]))] s.heap := hP
  have hl := lv_entry ([.ref h0]) (n := 5) (Nat.le_of_ble_eq_true rfl)
  rw [lg_entry_eq]
  generalize (lg_sl ([.ref h0]) ++ List.replicate (5 - (lg_sl ([.ref h0])).length) Slot.unset).toArray = ls at hl ⊢
  have hl : lv_has ls 5 [(0, .ref h0)] := hl
  refine lv_aload_n hx hb dX11_apart_0 rfl (lv_at hl 0 rfl) ?_
  have hPc := hP.sub (ws' := [(h0, .inr (10, [a0, a1, a2, a3, a4, a5, a6, a7, a8, a9, a10, .int 0]))]) [0] rfl
  have hDc := hD.sub (ws' := [(h0, .inr (10, [a0, a1, a2, a3, a4, a5, a6, a7, a8, a9, a10, .int 0]))]) [0] (by decide) rfl
  have hKc := hK.sub (tys' := []) [] rfl
  have hFc := va_free (wc := [(h0, .inr (10, [a0, a1, a2, a3, a4, a5, a6, a7, a8, a9, a10, .int 0]))]) hD hS hA [0] rfl
  refine va_calli (va_runV (As := []) (rest := []) ⟨hx, hb, hml, hown, hts⟩ (k_X11_lackOfZeros l dC dI h0 a0 a1 a2 a3 a4 a5 a6 a7 a8 a9 a10 s.heap.size) (cwV 0 hts g_X11_apart_X11_lackOfZeros_171 rfl rfl rfl (by decide +kernel) ⟨Nat.le_of_ble_eq_true rfl, Nat.le_of_ble_eq_true rfl⟩) ⟨fun a U g mk q => by obtain ⟨q0, q1, qP, qK, qD, qN⟩ := q; exact ⟨q0, q1, qP, va_K.moved (u := U) (U := U.calling g mk a) (Vm.Alike.refl U.vm) qK, qD, nx_.same rfl qN⟩, va_recv hKc hPc (ci := 10) (q0 := 0) rfl rfl, fun U hU hW => ⟨rfl, by rw [hU], by rw [hU]; exact hPc, va_K.moved hW.alike hKc, hDc.weaken (fun _ _ _ _ => trivial), nx_.warm hW hNx⟩⟩ rfl rfl hl.1 rfl (lv_room (Nat.le_of_ble_eq_true rfl)) dX11_apart_1 ⟨Nat.le_of_ble_eq_true rfl, Nat.le_of_ble_eq_true rfl⟩) hS (fun q _ h => hFc q h) hFc (fun r_1 u t H1 locs ht hvm hw hB hz1 hk1 hS => ?_)
  try dsimp only at hw
  obtain ⟨hP1, hK1, hD1⟩ := hB
  rw [ht] at hP1
  obtain ⟨hP, hD⟩ := va_join (wr := []) (w1 := [(h0, .inr (10, [a0, a1, a2, a3, a4, a5, a6, a7, a8, a9, a10, .int 0]))]) hP hD [0] [] rfl rfl (by decide) (by decide) hk1 hFc hP1 hD1
  generalize H1 = H at hP hS ⊢
  have hP : va_P (dC, dI) cls_ [(h0, .inr (10, [a0, a1, a2, a3, a4, a5, a6, a7, a8, a9, a10, .int 0]))] H := hP
  have hD : va_D A [(h0, .inr (10, [a0, a1, a2, a3, a4, a5, a6, a7, a8, a9, a10, .int 0]))] := hD
  refine W.widen (k := 0) (n := 0) (Nat.le_of_ble_eq_true rfl) (Nat.le_of_ble_eq_true rfl) ?_
  obtain rfl : (4 : Int32) = r_1 := Eq.symm hw
  refine lv_istore_n (lv' := [(1, .int 4), (0, .ref h0)]) hx hb dX11_apart_4 rfl hl (by decide) rfl (fun ls hl => ?_)
  refine lv_iload_n hx hb dX11_apart_5 rfl (lv_at hl 0 rfl) ?_
  refine lv_if_eq (tgt := 15) hx hb dX11_apart_6 (by decide) (fun c_2 => absurd c_2 (by decide)) (fun c_2 => ?_)
  refine lv_aload_n hx hb dX11_apart_9 rfl (lv_at hl 1 rfl) ?_
  refine lv_iload_n hx hb dX11_apart_10 rfl (lv_at hl 0 rfl) ?_
  have hPc := hP.sub (ws' := [(h0, .inr (10, [a0, a1, a2, a3, a4, a5, a6, a7, a8, a9, a10, .int 0]))]) [0] rfl
  have hDc := hD.sub (ws' := [(h0, .inr (10, [a0, a1, a2, a3, a4, a5, a6, a7, a8, a9, a10, .int 0]))]) [0] (by decide) rfl
  have hKc := hK.sub (tys' := []) [] rfl
  have hFc := va_free (wc := [(h0, .inr (10, [a0, a1, a2, a3, a4, a5, a6, a7, a8, a9, a10, .int 0]))]) hD hS hA [0] rfl
  refine va_calli (va_runV (As := [.int 4]) (rest := []) ⟨hx, hb, hml, hown, hts⟩ (k_X11_refuse l dC dI h0 a0 a1 a2 a3 a4 a5 a6 a7 a8 a9 a10 (.int 0) 4 H.size) (cwV 1 hts g_X11_apart_X11_refuse_71 rfl rfl rfl (by decide +kernel) ⟨Nat.le_of_ble_eq_true rfl, Nat.le_of_ble_eq_true rfl⟩) ⟨fun a U g mk q => by obtain ⟨q0, q1, qP, qK, qD, qN⟩ := q; exact ⟨q0, q1, qP, va_K.moved (u := U) (U := U.calling g mk a) (Vm.Alike.refl U.vm) qK, qD, nx_.same rfl qN⟩, va_recv hKc hPc (ci := 10) (q0 := 0) rfl rfl, fun U hU hW => ⟨rfl, by rw [hU], by rw [hU]; exact hPc, va_K.moved hW.alike hKc, hDc.weaken (fun _ _ _ _ => trivial), nx_.warm hW hNx⟩⟩ rfl rfl hl.1 rfl (lv_room (Nat.le_of_ble_eq_true rfl)) dX11_apart_11 ⟨Nat.le_of_ble_eq_true rfl, Nat.le_of_ble_eq_true rfl⟩) hS (fun q _ h => hFc q h) hFc (fun r_3 u t H1 locs ht hvm hw hB hz1 hk1 hS => ?_)
  try dsimp only at hw
  have hP1 : va_P (dC, dI) cls_ [] H1 := fun k q h => by simp at h
  have hD1 : va_D (va_A [(h0, .inr (10, [a0, a1, a2, a3, a4, a5, a6, a7, a8, a9, a10, .int 0]))] H.size) [] := ⟨fun i j p q h => by simp at h, fun k q h => by simp at h⟩
  obtain ⟨hP, hD⟩ := va_join (wr := []) (w1 := []) hP hD [0] [] rfl rfl (by decide) (by decide) hk1 hFc hP1 hD1
  generalize H1 = H at hP hS ⊢
  have hP : va_P (dC, dI) cls_ [] H := hP
  have hD : va_D A [] := hD
  refine W.widen (k := 0) (n := 0) (Nat.le_of_ble_eq_true rfl) (Nat.le_of_ble_eq_true rfl) ?_
  obtain rfl : ((-1) : Int32) = r_3 := Eq.symm hw
  refine W.widen (k := 0) (n := 0) (Nat.le_of_ble_eq_true rfl) (Nat.le_of_ble_eq_true rfl) ?_
  exact W.iret (v := (-1)) hx hb hr (fun t ht hW => ⟨⟨(-1), (), rfl, rfl, trivial⟩, hS.F ht⟩) hS.2.2 dX11_apart_14

def w_X11_poly : List Cond := .code yX11_poly cX11_poly 2 (some .int) :: ([.fieldLink RX11 75 "RealSolver" "solved" "Z", .fieldLink RX11 65 "RealSolver" "outcome" "I", .code yX11_refuse cX11_refuse 2 (some .int), .methodLink RX11 71 yX11_refuse, .instanceMethod yX11_refuse, .selects RX11 yX11_refuse yX11_refuse, .initialized RX11] ++ (wsX110 ++ ([] : List Cond)))
theorem in_X11_poly_X11 : ∀ w ∈ wsX110, w ∈ w_X11_poly := fun _ h => List.mem_cons_of_mem _ (List.mem_append_right _ (List.mem_append_left _ h))
set_option maxRecDepth 20000 in
theorem g_X11_poly_X11_refuse_71 : GoodIn w_X11_poly (wsV RX11 71 RX11 yX11_refuse w_X11_refuse) := goodIn_r _ [4, 5, 6, 7, 3, 2, 8, 9, 10, 11, 12, 13, 14, 15, 16, 17, 18, 19] (by decide +kernel) (by decide +kernel)
set_option maxHeartbeats 4000000 in
set_option maxRecDepth 100000 in
theorem k_X11_poly (l : Launch) (dC : Nat → ClassId) (dI : Nat → Nat → Nat) (h0 : Nat) (a0 : Value) (a1 : Value) (a2 : Value) (a3 : Value) (a4 : Value) (a5 : Value) (a6 : Value) (a7 : Value) (a8 : Value) (a9 : Value) (a10 : Value) (v : Int32) (sz : Nat) : Met l yX11_poly w_X11_poly ({ frames := 1, cells := 0, slots := 0, locals := 21 }) (va_Pc [.ref h0, .int v] (fun U => U.heap.size = sz ∧ va_P (dC, dI) cls_ [(h0, .inr (10, [a0, a1, a2, a3, a4, a5, a6, a7, a8, a9, a10, .int 0]))] U.heap ∧ va_K (dC, dI) cls_ [] U ∧ va_D (fun _ => True) [(h0, .inr (10, [a0, a1, a2, a3, a4, a5, a6, a7, a8, a9, a10, .int 0]))] ∧ nx_ U)) (va_Qi (fun (r : Int32) (_ : Unit) => r = (-1)) (fun _ _ => True) (va_A [(h0, .inr (10, [a0, a1, a2, a3, a4, a5, a6, a7, a8, a9, a10, .int 0]))] sz)) 0 0 (va_A [(h0, .inr (10, [a0, a1, a2, a3, a4, a5, a6, a7, a8, a9, a10, .int 0]))] sz) := by
  refine Met.ofW (cc := cX11_poly) (maxL := 2) (ret := (some .int)) (by decide) rfl ?_
  intro p e s m args below meth c s₁ B hml hv
  obtain ⟨rfl, hsz, hP, hK, hD0, hNx⟩ := hv
  have hx := B.exec
  have hb := B.bytes
  have hr := B.returns
  have hts := atoms_spec (ws := w_X11_poly) B.pre
  have hown : s.vm.findClass RX11 = some m.cls := findClass_of_methodNamed B.named
  have hlocks := B.notSynchronized
  subst hsz
  have hD := hD0.self (sz := s.heap.size)
  generalize hAe : va_A [(h0, .inr (10, [a0, a1, a2, a3, a4, a5, a6, a7, a8, a9, a10, .int 0]))] s.heap.size = A at hD ⊢
  have hA : ∀ q : Nat, s.heap.size ≤ q → A q := fun q h => by rw [← hAe]; exact Or.inr h
  have hS : va_S A s.heap s.heap [] := va_S.rf
  have hP : va_P (dC, dI) cls_ [(h0, .inr (10, [a0, a1, a2, a3, a4, a5, a6, a7, a8, a9, a10, .int 0]))] s.heap := hP
  have hl := lv_entry ([.ref h0, .int v]) (n := 2) (Nat.le_of_ble_eq_true rfl)
  rw [lg_entry_eq]
  generalize (lg_sl ([.ref h0, .int v]) ++ List.replicate (2 - (lg_sl ([.ref h0, .int v])).length) Slot.unset).toArray = ls at hl ⊢
  have hl : lv_has ls 2 [(0, .ref h0), (1, .int v)] := hl
  refine lv_aload_n hx hb dX11_poly_0 rfl (lv_at hl 0 rfl) ?_
  refine va_get (D := (dC, dI)) (ci := 10) (v := .int 0) (C := RX11) (T := TX11) (N := 12) hx hb hts in_X11_poly_X11 hown hK hP 0 rfl rfl 11 (by decide) (hts (.fieldLink RX11 75 "RealSolver" "solved" "Z") (List.mem_of_getElem? (i := 1) rfl)) (fun _ h9 => h9) rfl dX11_poly_1 ?_
  refine lv_if_ne (tgt := 13) hx hb dX11_poly_4 (by decide) (fun c_1 => absurd (by decide) c_1) (fun c_1 => ?_)
  refine lv_aload_n hx hb dX11_poly_7 rfl (lv_at hl 0 rfl) ?_
  refine lv_iconst (v := 4) hx hb dX11_poly_8 (by decide) ?_
  have hPc := hP.sub (ws' := [(h0, .inr (10, [a0, a1, a2, a3, a4, a5, a6, a7, a8, a9, a10, .int 0]))]) [0] rfl
  have hDc := hD.sub (ws' := [(h0, .inr (10, [a0, a1, a2, a3, a4, a5, a6, a7, a8, a9, a10, .int 0]))]) [0] (by decide) rfl
  have hKc := hK.sub (tys' := []) [] rfl
  have hFc := va_free (wc := [(h0, .inr (10, [a0, a1, a2, a3, a4, a5, a6, a7, a8, a9, a10, .int 0]))]) hD hS hA [0] rfl
  refine va_calli (va_runV (As := [.int 4]) (rest := []) ⟨hx, hb, hml, hown, hts⟩ (k_X11_refuse l dC dI h0 a0 a1 a2 a3 a4 a5 a6 a7 a8 a9 a10 (.int 0) 4 s.heap.size) (cwV 1 hts g_X11_poly_X11_refuse_71 rfl rfl rfl (by decide +kernel) ⟨Nat.le_of_ble_eq_true rfl, Nat.le_of_ble_eq_true rfl⟩) ⟨fun a U g mk q => by obtain ⟨q0, q1, qP, qK, qD, qN⟩ := q; exact ⟨q0, q1, qP, va_K.moved (u := U) (U := U.calling g mk a) (Vm.Alike.refl U.vm) qK, qD, nx_.same rfl qN⟩, va_recv hKc hPc (ci := 10) (q0 := 0) rfl rfl, fun U hU hW => ⟨rfl, by rw [hU], by rw [hU]; exact hPc, va_K.moved hW.alike hKc, hDc.weaken (fun _ _ _ _ => trivial), nx_.warm hW hNx⟩⟩ rfl rfl hl.1 rfl (lv_room (Nat.le_of_ble_eq_true rfl)) dX11_poly_9 ⟨Nat.le_of_ble_eq_true rfl, Nat.le_of_ble_eq_true rfl⟩) hS (fun q _ h => hFc q h) hFc (fun r_2 u t H1 locs ht hvm hw hB hz1 hk1 hS => ?_)
  try dsimp only at hw
  have hP1 : va_P (dC, dI) cls_ [] H1 := fun k q h => by simp at h
  have hD1 : va_D (va_A [(h0, .inr (10, [a0, a1, a2, a3, a4, a5, a6, a7, a8, a9, a10, .int 0]))] s.heap.size) [] := ⟨fun i j p q h => by simp at h, fun k q h => by simp at h⟩
  obtain ⟨hP, hD⟩ := va_join (wr := []) (w1 := []) hP hD [0] [] rfl rfl (by decide) (by decide) hk1 hFc hP1 hD1
  generalize H1 = H at hP hS ⊢
  have hP : va_P (dC, dI) cls_ [] H := hP
  have hD : va_D A [] := hD
  refine W.widen (k := 0) (n := 0) (Nat.le_of_ble_eq_true rfl) (Nat.le_of_ble_eq_true rfl) ?_
  obtain rfl : ((-1) : Int32) = r_2 := Eq.symm hw
  refine W.widen (k := 0) (n := 0) (Nat.le_of_ble_eq_true rfl) (Nat.le_of_ble_eq_true rfl) ?_
  exact W.iret (v := (-1)) hx hb hr (fun t ht hW => ⟨⟨(-1), (), rfl, rfl, trivial⟩, hS.F ht⟩) hS.2.2 dX11_poly_12

def w_X11_stair : List Cond := .code yX11_stair cX11_stair 3 (some .int) :: ([.fieldLink RX11 75 "RealSolver" "solved" "Z", .code yX11_lackOfZeros cX11_lackOfZeros 1 (some .int), .methodLink RX11 171 yX11_lackOfZeros, .instanceMethod yX11_lackOfZeros, .selects RX11 yX11_lackOfZeros yX11_lackOfZeros, .initialized RX11, .fieldLink RX11 65 "RealSolver" "outcome" "I", .code yX11_refuse cX11_refuse 2 (some .int), .methodLink RX11 71 yX11_refuse, .instanceMethod yX11_refuse, .selects RX11 yX11_refuse yX11_refuse] ++ (wsX110 ++ ([] : List Cond)))
theorem in_X11_stair_X11 : ∀ w ∈ wsX110, w ∈ w_X11_stair := fun _ h => List.mem_cons_of_mem _ (List.mem_append_right _ (List.mem_append_left _ h))
set_option maxRecDepth 20000 in
theorem g_X11_stair_X11_lackOfZeros_171 : GoodIn w_X11_stair (wsV RX11 171 RX11 yX11_lackOfZeros w_X11_lackOfZeros) := goodIn_r _ [3, 4, 5, 6, 2, 1, 12, 13, 14, 15, 16, 17, 18, 19, 20, 21, 22, 23] (by decide +kernel) (by decide +kernel)
set_option maxRecDepth 20000 in
theorem g_X11_stair_X11_refuse_71 : GoodIn w_X11_stair (wsV RX11 71 RX11 yX11_refuse w_X11_refuse) := goodIn_r _ [9, 10, 11, 6, 8, 7, 12, 13, 14, 15, 16, 17, 18, 19, 20, 21, 22, 23] (by decide +kernel) (by decide +kernel)
set_option maxHeartbeats 4000000 in
set_option maxRecDepth 100000 in
theorem k_X11_stair (l : Launch) (dC : Nat → ClassId) (dI : Nat → Nat → Nat) (h0 : Nat) (a0 : Value) (a1 : Value) (a2 : Value) (a3 : Value) (a4 : Value) (a5 : Value) (a6 : Value) (a7 : Value) (a8 : Value) (a9 : Value) (a10 : Value) (v : Int32) (sz : Nat) : Met l yX11_stair w_X11_stair ({ frames := 1, cells := 0, slots := 0, locals := 21 }) (va_Pc [.ref h0, .int v] (fun U => U.heap.size = sz ∧ va_P (dC, dI) cls_ [(h0, .inr (10, [a0, a1, a2, a3, a4, a5, a6, a7, a8, a9, a10, .int 0]))] U.heap ∧ va_K (dC, dI) cls_ [] U ∧ va_D (fun _ => True) [(h0, .inr (10, [a0, a1, a2, a3, a4, a5, a6, a7, a8, a9, a10, .int 0]))] ∧ nx_ U)) (va_Qi (fun (r : Int32) (_ : Unit) => r = (-1)) (fun _ _ => True) (va_A [(h0, .inr (10, [a0, a1, a2, a3, a4, a5, a6, a7, a8, a9, a10, .int 0]))] sz)) 0 0 (va_A [(h0, .inr (10, [a0, a1, a2, a3, a4, a5, a6, a7, a8, a9, a10, .int 0]))] sz) := by
  refine Met.ofW (cc := cX11_stair) (maxL := 3) (ret := (some .int)) (by decide) rfl ?_
  intro p e s m args below meth c s₁ B hml hv
  obtain ⟨rfl, hsz, hP, hK, hD0, hNx⟩ := hv
  have hx := B.exec
  have hb := B.bytes
  have hr := B.returns
  have hts := atoms_spec (ws := w_X11_stair) B.pre
  have hown : s.vm.findClass RX11 = some m.cls := findClass_of_methodNamed B.named
  have hlocks := B.notSynchronized
  subst hsz
  have hD := hD0.self (sz := s.heap.size)
  generalize hAe : va_A [(h0, .inr (10, [a0, a1, a2, a3, a4, a5, a6, a7, a8, a9, a10, .int 0]))] s.heap.size = A at hD ⊢
  have hA : ∀ q : Nat, s.heap.size ≤ q → A q := fun q h => by rw [← hAe]; exact Or.inr h
  have hS : va_S A s.heap s.heap [] := va_S.rf
  have hP : va_P (dC, dI) cls_ [(h0, .inr (10, [a0, a1, a2, a3, a4, a5, a6, a7, a8, a9, a10, .int 0]))] s.heap := hP
  have hl := lv_entry ([.ref h0, .int v]) (n := 3) (Nat.le_of_ble_eq_true rfl)
  rw [lg_entry_eq]
  generalize (lg_sl ([.ref h0, .int v]) ++ List.replicate (3 - (lg_sl ([.ref h0, .int v])).length) Slot.unset).toArray = ls at hl ⊢
  have hl : lv_has ls 3 [(0, .ref h0), (1, .int v)] := hl
  refine lv_aload_n hx hb dX11_stair_0 rfl (lv_at hl 0 rfl) ?_
  have hPc := hP.sub (ws' := [(h0, .inr (10, [a0, a1, a2, a3, a4, a5, a6, a7, a8, a9, a10, .int 0]))]) [0] rfl
  have hDc := hD.sub (ws' := [(h0, .inr (10, [a0, a1, a2, a3, a4, a5, a6, a7, a8, a9, a10, .int 0]))]) [0] (by decide) rfl
  have hKc := hK.sub (tys' := []) [] rfl
  have hFc := va_free (wc := [(h0, .inr (10, [a0, a1, a2, a3, a4, a5, a6, a7, a8, a9, a10, .int 0]))]) hD hS hA [0] rfl
  refine va_calli (va_runV (As := []) (rest := []) ⟨hx, hb, hml, hown, hts⟩ (k_X11_lackOfZeros l dC dI h0 a0 a1 a2 a3 a4 a5 a6 a7 a8 a9 a10 s.heap.size) (cwV 0 hts g_X11_stair_X11_lackOfZeros_171 rfl rfl rfl (by decide +kernel) ⟨Nat.le_of_ble_eq_true rfl, Nat.le_of_ble_eq_true rfl⟩) ⟨fun a U g mk q => by obtain ⟨q0, q1, qP, qK, qD, qN⟩ := q; exact ⟨q0, q1, qP, va_K.moved (u := U) (U := U.calling g mk a) (Vm.Alike.refl U.vm) qK, qD, nx_.same rfl qN⟩, va_recv hKc hPc (ci := 10) (q0 := 0) rfl rfl, fun U hU hW => ⟨rfl, by rw [hU], by rw [hU]; exact hPc, va_K.moved hW.alike hKc, hDc.weaken (fun _ _ _ _ => trivial), nx_.warm hW hNx⟩⟩ rfl rfl hl.1 rfl (lv_room (Nat.le_of_ble_eq_true rfl)) dX11_stair_1 ⟨Nat.le_of_ble_eq_true rfl, Nat.le_of_ble_eq_true rfl⟩) hS (fun q _ h => hFc q h) hFc (fun r_1 u t H1 locs ht hvm hw hB hz1 hk1 hS => ?_)
  try dsimp only at hw
  obtain ⟨hP1, hK1, hD1⟩ := hB
  rw [ht] at hP1
  obtain ⟨hP, hD⟩ := va_join (wr := []) (w1 := [(h0, .inr (10, [a0, a1, a2, a3, a4, a5, a6, a7, a8, a9, a10, .int 0]))]) hP hD [0] [] rfl rfl (by decide) (by decide) hk1 hFc hP1 hD1
  generalize H1 = H at hP hS ⊢
  have hP : va_P (dC, dI) cls_ [(h0, .inr (10, [a0, a1, a2, a3, a4, a5, a6, a7, a8, a9, a10, .int 0]))] H := hP
  have hD : va_D A [(h0, .inr (10, [a0, a1, a2, a3, a4, a5, a6, a7, a8, a9, a10, .int 0]))] := hD
  refine W.widen (k := 0) (n := 0) (Nat.le_of_ble_eq_true rfl) (Nat.le_of_ble_eq_true rfl) ?_
  obtain rfl : (4 : Int32) = r_1 := Eq.symm hw
  refine lv_istore_n (lv' := [(2, .int 4), (0, .ref h0), (1, .int v)]) hx hb dX11_stair_4 rfl hl (by decide) rfl (fun ls hl => ?_)
  refine lv_iload_n hx hb dX11_stair_5 rfl (lv_at hl 0 rfl) ?_
  refine lv_if_eq (tgt := 15) hx hb dX11_stair_6 (by decide) (fun c_2 => absurd c_2 (by decide)) (fun c_2 => ?_)
  refine lv_aload_n hx hb dX11_stair_9 rfl (lv_at hl 1 rfl) ?_
  refine lv_iload_n hx hb dX11_stair_10 rfl (lv_at hl 0 rfl) ?_
  have hPc := hP.sub (ws' := [(h0, .inr (10, [a0, a1, a2, a3, a4, a5, a6, a7, a8, a9, a10, .int 0]))]) [0] rfl
  have hDc := hD.sub (ws' := [(h0, .inr (10, [a0, a1, a2, a3, a4, a5, a6, a7, a8, a9, a10, .int 0]))]) [0] (by decide) rfl
  have hKc := hK.sub (tys' := []) [] rfl
  have hFc := va_free (wc := [(h0, .inr (10, [a0, a1, a2, a3, a4, a5, a6, a7, a8, a9, a10, .int 0]))]) hD hS hA [0] rfl
  refine va_calli (va_runV (As := [.int 4]) (rest := []) ⟨hx, hb, hml, hown, hts⟩ (k_X11_refuse l dC dI h0 a0 a1 a2 a3 a4 a5 a6 a7 a8 a9 a10 (.int 0) 4 H.size) (cwV 1 hts g_X11_stair_X11_refuse_71 rfl rfl rfl (by decide +kernel) ⟨Nat.le_of_ble_eq_true rfl, Nat.le_of_ble_eq_true rfl⟩) ⟨fun a U g mk q => by obtain ⟨q0, q1, qP, qK, qD, qN⟩ := q; exact ⟨q0, q1, qP, va_K.moved (u := U) (U := U.calling g mk a) (Vm.Alike.refl U.vm) qK, qD, nx_.same rfl qN⟩, va_recv hKc hPc (ci := 10) (q0 := 0) rfl rfl, fun U hU hW => ⟨rfl, by rw [hU], by rw [hU]; exact hPc, va_K.moved hW.alike hKc, hDc.weaken (fun _ _ _ _ => trivial), nx_.warm hW hNx⟩⟩ rfl rfl hl.1 rfl (lv_room (Nat.le_of_ble_eq_true rfl)) dX11_stair_11 ⟨Nat.le_of_ble_eq_true rfl, Nat.le_of_ble_eq_true rfl⟩) hS (fun q _ h => hFc q h) hFc (fun r_3 u t H1 locs ht hvm hw hB hz1 hk1 hS => ?_)
  try dsimp only at hw
  have hP1 : va_P (dC, dI) cls_ [] H1 := fun k q h => by simp at h
  have hD1 : va_D (va_A [(h0, .inr (10, [a0, a1, a2, a3, a4, a5, a6, a7, a8, a9, a10, .int 0]))] H.size) [] := ⟨fun i j p q h => by simp at h, fun k q h => by simp at h⟩
  obtain ⟨hP, hD⟩ := va_join (wr := []) (w1 := []) hP hD [0] [] rfl rfl (by decide) (by decide) hk1 hFc hP1 hD1
  generalize H1 = H at hP hS ⊢
  have hP : va_P (dC, dI) cls_ [] H := hP
  have hD : va_D A [] := hD
  refine W.widen (k := 0) (n := 0) (Nat.le_of_ble_eq_true rfl) (Nat.le_of_ble_eq_true rfl) ?_
  obtain rfl : ((-1) : Int32) = r_3 := Eq.symm hw
  refine W.widen (k := 0) (n := 0) (Nat.le_of_ble_eq_true rfl) (Nat.le_of_ble_eq_true rfl) ?_
  exact W.iret (v := (-1)) hx hb hr (fun t ht hW => ⟨⟨(-1), (), rfl, rfl, trivial⟩, hS.F ht⟩) hS.2.2 dX11_stair_14

def w_X11_eliminant : List Cond := .code yX11_eliminant cX11_eliminant 3 (some .int) :: ([.fieldLink RX11 75 "RealSolver" "solved" "Z", .code yX11_lackOfZeros cX11_lackOfZeros 1 (some .int), .methodLink RX11 171 yX11_lackOfZeros, .instanceMethod yX11_lackOfZeros, .selects RX11 yX11_lackOfZeros yX11_lackOfZeros, .initialized RX11, .code yX11_lackOfVariable cX11_lackOfVariable 4 (some .int), .methodLink RX11 202 yX11_lackOfVariable, .instanceMethod yX11_lackOfVariable, .selects RX11 yX11_lackOfVariable yX11_lackOfVariable, .fieldLink RX11 65 "RealSolver" "outcome" "I", .code yX11_refuse cX11_refuse 2 (some .int), .methodLink RX11 71 yX11_refuse, .instanceMethod yX11_refuse, .selects RX11 yX11_refuse yX11_refuse] ++ (wsX110 ++ ([] : List Cond)))
theorem in_X11_eliminant_X11 : ∀ w ∈ wsX110, w ∈ w_X11_eliminant := fun _ h => List.mem_cons_of_mem _ (List.mem_append_right _ (List.mem_append_left _ h))
set_option maxRecDepth 20000 in
theorem g_X11_eliminant_X11_lackOfVariable_202 : GoodIn w_X11_eliminant (wsV RX11 202 RX11 yX11_lackOfVariable w_X11_lackOfVariable) := goodIn_r _ [8, 9, 10, 6, 7, 1, 2, 3, 4, 5, 6, 16, 17, 18, 19, 20, 21, 22, 23, 24, 25, 26, 27] (by decide +kernel) (by decide +kernel)
set_option maxRecDepth 20000 in
theorem g_X11_eliminant_X11_refuse_71 : GoodIn w_X11_eliminant (wsV RX11 71 RX11 yX11_refuse w_X11_refuse) := goodIn_r _ [13, 14, 15, 6, 12, 11, 16, 17, 18, 19, 20, 21, 22, 23, 24, 25, 26, 27] (by decide +kernel) (by decide +kernel)
set_option maxHeartbeats 4000000 in
set_option maxRecDepth 100000 in
theorem k_X11_eliminant (l : Launch) (dC : Nat → ClassId) (dI : Nat → Nat → Nat) (h0 : Nat) (a0 : Value) (a1 : Value) (a2 : Value) (a3 : Value) (a4 : Value) (a5 : Value) (a6 : Value) (a7 : Value) (a8 : Value) (a9 : Value) (a10 : Value) (v : Int32) (sz : Nat) : Met l yX11_eliminant w_X11_eliminant ({ frames := 2, cells := 0, slots := 0, locals := 43 }) (va_Pc [.ref h0, .int v] (fun U => U.heap.size = sz ∧ va_P (dC, dI) cls_ [(h0, .inr (10, [a0, a1, a2, a3, a4, a5, a6, a7, a8, a9, a10, .int 0]))] U.heap ∧ va_K (dC, dI) cls_ [] U ∧ va_D (fun _ => True) [(h0, .inr (10, [a0, a1, a2, a3, a4, a5, a6, a7, a8, a9, a10, .int 0]))] ∧ nx_ U)) (va_Qi (fun (r : Int32) (_ : Unit) => r = (-1)) (fun _ _ => True) (va_A [(h0, .inr (10, [a0, a1, a2, a3, a4, a5, a6, a7, a8, a9, a10, .int 0]))] sz)) 0 0 (va_A [(h0, .inr (10, [a0, a1, a2, a3, a4, a5, a6, a7, a8, a9, a10, .int 0]))] sz) := by
  refine Met.ofW (cc := cX11_eliminant) (maxL := 3) (ret := (some .int)) (by decide) rfl ?_
  intro p e s m args below meth c s₁ B hml hv
  obtain ⟨rfl, hsz, hP, hK, hD0, hNx⟩ := hv
  have hx := B.exec
  have hb := B.bytes
  have hr := B.returns
  have hts := atoms_spec (ws := w_X11_eliminant) B.pre
  have hown : s.vm.findClass RX11 = some m.cls := findClass_of_methodNamed B.named
  have hlocks := B.notSynchronized
  subst hsz
  have hD := hD0.self (sz := s.heap.size)
  generalize hAe : va_A [(h0, .inr (10, [a0, a1, a2, a3, a4, a5, a6, a7, a8, a9, a10, .int 0]))] s.heap.size = A at hD ⊢
  have hA : ∀ q : Nat, s.heap.size ≤ q → A q := fun q h => by rw [← hAe]; exact Or.inr h
  have hS : va_S A s.heap s.heap [] := va_S.rf
  have hP : va_P (dC, dI) cls_ [(h0, .inr (10, [a0, a1, a2, a3, a4, a5, a6, a7, a8, a9, a10, .int 0]))] s.heap := hP
  have hl := lv_entry ([.ref h0, .int v]) (n := 3) (Nat.le_of_ble_eq_true rfl)
  rw [lg_entry_eq]
  generalize (lg_sl ([.ref h0, .int v]) ++ List.replicate (3 - (lg_sl ([.ref h0, .int v])).length) Slot.unset).toArray = ls at hl ⊢
  have hl : lv_has ls 3 [(0, .ref h0), (1, .int v)] := hl
  refine lv_aload_n hx hb dX11_eliminant_0 rfl (lv_at hl 0 rfl) ?_
  refine lv_iload_n hx hb dX11_eliminant_1 rfl (lv_at hl 1 rfl) ?_
  refine lv_iconst (v := 0) hx hb dX11_eliminant_2 (by decide) ?_
  have hPc := hP.sub (ws' := [(h0, .inr (10, [a0, a1, a2, a3, a4, a5, a6, a7, a8, a9, a10, .int 0]))]) [0] rfl
  have hDc := hD.sub (ws' := [(h0, .inr (10, [a0, a1, a2, a3, a4, a5, a6, a7, a8, a9, a10, .int 0]))]) [0] (by decide) rfl
  have hKc := hK.sub (tys' := []) [] rfl
  have hFc := va_free (wc := [(h0, .inr (10, [a0, a1, a2, a3, a4, a5, a6, a7, a8, a9, a10, .int 0]))]) hD hS hA [0] rfl
  refine va_calli (va_runV (As := [.int v, .int 0]) (rest := []) ⟨hx, hb, hml, hown, hts⟩ (k_X11_lackOfVariable l dC dI h0 a0 a1 a2 a3 a4 a5 a6 a7 a8 a9 a10 v 0 s.heap.size) (cwV 2 hts g_X11_eliminant_X11_lackOfVariable_202 rfl rfl rfl (by decide +kernel) ⟨Nat.le_of_ble_eq_true rfl, Nat.le_of_ble_eq_true rfl⟩) ⟨fun a U g mk q => by obtain ⟨q0, q1, qP, qK, qD, qN⟩ := q; exact ⟨q0, q1, qP, va_K.moved (u := U) (U := U.calling g mk a) (Vm.Alike.refl U.vm) qK, qD, nx_.same rfl qN⟩, va_recv hKc hPc (ci := 10) (q0 := 0) rfl rfl, fun U hU hW => ⟨rfl, by rw [hU], by rw [hU]; exact hPc, va_K.moved hW.alike hKc, hDc.weaken (fun _ _ _ _ => trivial), nx_.warm hW hNx⟩⟩ rfl rfl hl.1 rfl (lv_room (Nat.le_of_ble_eq_true rfl)) dX11_eliminant_3 ⟨Nat.le_of_ble_eq_true rfl, Nat.le_of_ble_eq_true rfl⟩) hS (fun q _ h => hFc q h) hFc (fun r_1 u t H1 locs ht hvm hw hB hz1 hk1 hS => ?_)
  try dsimp only at hw
  obtain ⟨hP1, hK1, hD1⟩ := hB
  rw [ht] at hP1
  obtain ⟨hP, hD⟩ := va_join (wr := []) (w1 := [(h0, .inr (10, [a0, a1, a2, a3, a4, a5, a6, a7, a8, a9, a10, .int 0]))]) hP hD [0] [] rfl rfl (by decide) (by decide) hk1 hFc hP1 hD1
  generalize H1 = H at hP hS ⊢
  have hP : va_P (dC, dI) cls_ [(h0, .inr (10, [a0, a1, a2, a3, a4, a5, a6, a7, a8, a9, a10, .int 0]))] H := hP
  have hD : va_D A [(h0, .inr (10, [a0, a1, a2, a3, a4, a5, a6, a7, a8, a9, a10, .int 0]))] := hD
  refine W.widen (k := 0) (n := 0) (Nat.le_of_ble_eq_true rfl) (Nat.le_of_ble_eq_true rfl) ?_
  obtain rfl : (4 : Int32) = r_1 := Eq.symm hw
  refine lv_istore_n (lv' := [(2, .int 4), (0, .ref h0), (1, .int v)]) hx hb dX11_eliminant_6 rfl hl (by decide) rfl (fun ls hl => ?_)
  refine lv_iload_n hx hb dX11_eliminant_7 rfl (lv_at hl 0 rfl) ?_
  refine lv_if_eq (tgt := 17) hx hb dX11_eliminant_8 (by decide) (fun c_2 => absurd c_2 (by decide)) (fun c_2 => ?_)
  refine lv_aload_n hx hb dX11_eliminant_11 rfl (lv_at hl 1 rfl) ?_
  refine lv_iload_n hx hb dX11_eliminant_12 rfl (lv_at hl 0 rfl) ?_
  have hPc := hP.sub (ws' := [(h0, .inr (10, [a0, a1, a2, a3, a4, a5, a6, a7, a8, a9, a10, .int 0]))]) [0] rfl
  have hDc := hD.sub (ws' := [(h0, .inr (10, [a0, a1, a2, a3, a4, a5, a6, a7, a8, a9, a10, .int 0]))]) [0] (by decide) rfl
  have hKc := hK.sub (tys' := []) [] rfl
  have hFc := va_free (wc := [(h0, .inr (10, [a0, a1, a2, a3, a4, a5, a6, a7, a8, a9, a10, .int 0]))]) hD hS hA [0] rfl
  refine va_calli (va_runV (As := [.int 4]) (rest := []) ⟨hx, hb, hml, hown, hts⟩ (k_X11_refuse l dC dI h0 a0 a1 a2 a3 a4 a5 a6 a7 a8 a9 a10 (.int 0) 4 H.size) (cwV 1 hts g_X11_eliminant_X11_refuse_71 rfl rfl rfl (by decide +kernel) ⟨Nat.le_of_ble_eq_true rfl, Nat.le_of_ble_eq_true rfl⟩) ⟨fun a U g mk q => by obtain ⟨q0, q1, qP, qK, qD, qN⟩ := q; exact ⟨q0, q1, qP, va_K.moved (u := U) (U := U.calling g mk a) (Vm.Alike.refl U.vm) qK, qD, nx_.same rfl qN⟩, va_recv hKc hPc (ci := 10) (q0 := 0) rfl rfl, fun U hU hW => ⟨rfl, by rw [hU], by rw [hU]; exact hPc, va_K.moved hW.alike hKc, hDc.weaken (fun _ _ _ _ => trivial), nx_.warm hW hNx⟩⟩ rfl rfl hl.1 rfl (lv_room (Nat.le_of_ble_eq_true rfl)) dX11_eliminant_13 ⟨Nat.le_of_ble_eq_true rfl, Nat.le_of_ble_eq_true rfl⟩) hS (fun q _ h => hFc q h) hFc (fun r_3 u t H1 locs ht hvm hw hB hz1 hk1 hS => ?_)
  try dsimp only at hw
  have hP1 : va_P (dC, dI) cls_ [] H1 := fun k q h => by simp at h
  have hD1 : va_D (va_A [(h0, .inr (10, [a0, a1, a2, a3, a4, a5, a6, a7, a8, a9, a10, .int 0]))] H.size) [] := ⟨fun i j p q h => by simp at h, fun k q h => by simp at h⟩
  obtain ⟨hP, hD⟩ := va_join (wr := []) (w1 := []) hP hD [0] [] rfl rfl (by decide) (by decide) hk1 hFc hP1 hD1
  generalize H1 = H at hP hS ⊢
  have hP : va_P (dC, dI) cls_ [] H := hP
  have hD : va_D A [] := hD
  refine W.widen (k := 0) (n := 0) (Nat.le_of_ble_eq_true rfl) (Nat.le_of_ble_eq_true rfl) ?_
  obtain rfl : ((-1) : Int32) = r_3 := Eq.symm hw
  refine W.widen (k := 0) (n := 0) (Nat.le_of_ble_eq_true rfl) (Nat.le_of_ble_eq_true rfl) ?_
  exact W.iret (v := (-1)) hx hb hr (fun t ht hW => ⟨⟨(-1), (), rfl, rfl, trivial⟩, hS.F ht⟩) hS.2.2 dX11_eliminant_16

def w_X11_fraction : List Cond := .code yX11_fraction cX11_fraction 3 (some .int) :: ([.fieldLink RX11 75 "RealSolver" "solved" "Z", .code yX11_lackOfZeros cX11_lackOfZeros 1 (some .int), .methodLink RX11 171 yX11_lackOfZeros, .instanceMethod yX11_lackOfZeros, .selects RX11 yX11_lackOfZeros yX11_lackOfZeros, .initialized RX11, .code yX11_lackOfVariable cX11_lackOfVariable 4 (some .int), .methodLink RX11 202 yX11_lackOfVariable, .instanceMethod yX11_lackOfVariable, .selects RX11 yX11_lackOfVariable yX11_lackOfVariable, .fieldLink RX11 65 "RealSolver" "outcome" "I", .code yX11_refuse cX11_refuse 2 (some .int), .methodLink RX11 71 yX11_refuse, .instanceMethod yX11_refuse, .selects RX11 yX11_refuse yX11_refuse] ++ (wsX110 ++ ([] : List Cond)))
theorem in_X11_fraction_X11 : ∀ w ∈ wsX110, w ∈ w_X11_fraction := fun _ h => List.mem_cons_of_mem _ (List.mem_append_right _ (List.mem_append_left _ h))
set_option maxRecDepth 20000 in
theorem g_X11_fraction_X11_lackOfVariable_202 : GoodIn w_X11_fraction (wsV RX11 202 RX11 yX11_lackOfVariable w_X11_lackOfVariable) := goodIn_r _ [8, 9, 10, 6, 7, 1, 2, 3, 4, 5, 6, 16, 17, 18, 19, 20, 21, 22, 23, 24, 25, 26, 27] (by decide +kernel) (by decide +kernel)
set_option maxRecDepth 20000 in
theorem g_X11_fraction_X11_refuse_71 : GoodIn w_X11_fraction (wsV RX11 71 RX11 yX11_refuse w_X11_refuse) := goodIn_r _ [13, 14, 15, 6, 12, 11, 16, 17, 18, 19, 20, 21, 22, 23, 24, 25, 26, 27] (by decide +kernel) (by decide +kernel)
set_option maxHeartbeats 4000000 in
set_option maxRecDepth 100000 in
theorem k_X11_fraction (l : Launch) (dC : Nat → ClassId) (dI : Nat → Nat → Nat) (h0 : Nat) (a0 : Value) (a1 : Value) (a2 : Value) (a3 : Value) (a4 : Value) (a5 : Value) (a6 : Value) (a7 : Value) (a8 : Value) (a9 : Value) (a10 : Value) (v : Int32) (sz : Nat) : Met l yX11_fraction w_X11_fraction ({ frames := 2, cells := 0, slots := 0, locals := 43 }) (va_Pc [.ref h0, .int v] (fun U => U.heap.size = sz ∧ va_P (dC, dI) cls_ [(h0, .inr (10, [a0, a1, a2, a3, a4, a5, a6, a7, a8, a9, a10, .int 0]))] U.heap ∧ va_K (dC, dI) cls_ [] U ∧ va_D (fun _ => True) [(h0, .inr (10, [a0, a1, a2, a3, a4, a5, a6, a7, a8, a9, a10, .int 0]))] ∧ nx_ U)) (va_Qi (fun (r : Int32) (_ : Unit) => r = (-1)) (fun _ _ => True) (va_A [(h0, .inr (10, [a0, a1, a2, a3, a4, a5, a6, a7, a8, a9, a10, .int 0]))] sz)) 0 0 (va_A [(h0, .inr (10, [a0, a1, a2, a3, a4, a5, a6, a7, a8, a9, a10, .int 0]))] sz) := by
  refine Met.ofW (cc := cX11_fraction) (maxL := 3) (ret := (some .int)) (by decide) rfl ?_
  intro p e s m args below meth c s₁ B hml hv
  obtain ⟨rfl, hsz, hP, hK, hD0, hNx⟩ := hv
  have hx := B.exec
  have hb := B.bytes
  have hr := B.returns
  have hts := atoms_spec (ws := w_X11_fraction) B.pre
  have hown : s.vm.findClass RX11 = some m.cls := findClass_of_methodNamed B.named
  have hlocks := B.notSynchronized
  subst hsz
  have hD := hD0.self (sz := s.heap.size)
  generalize hAe : va_A [(h0, .inr (10, [a0, a1, a2, a3, a4, a5, a6, a7, a8, a9, a10, .int 0]))] s.heap.size = A at hD ⊢
  have hA : ∀ q : Nat, s.heap.size ≤ q → A q := fun q h => by rw [← hAe]; exact Or.inr h
  have hS : va_S A s.heap s.heap [] := va_S.rf
  have hP : va_P (dC, dI) cls_ [(h0, .inr (10, [a0, a1, a2, a3, a4, a5, a6, a7, a8, a9, a10, .int 0]))] s.heap := hP
  have hl := lv_entry ([.ref h0, .int v]) (n := 3) (Nat.le_of_ble_eq_true rfl)
  rw [lg_entry_eq]
  generalize (lg_sl ([.ref h0, .int v]) ++ List.replicate (3 - (lg_sl ([.ref h0, .int v])).length) Slot.unset).toArray = ls at hl ⊢
  have hl : lv_has ls 3 [(0, .ref h0), (1, .int v)] := hl
  refine lv_aload_n hx hb dX11_fraction_0 rfl (lv_at hl 0 rfl) ?_
  refine lv_iload_n hx hb dX11_fraction_1 rfl (lv_at hl 1 rfl) ?_
  refine lv_iconst (v := 0) hx hb dX11_fraction_2 (by decide) ?_
  have hPc := hP.sub (ws' := [(h0, .inr (10, [a0, a1, a2, a3, a4, a5, a6, a7, a8, a9, a10, .int 0]))]) [0] rfl
  have hDc := hD.sub (ws' := [(h0, .inr (10, [a0, a1, a2, a3, a4, a5, a6, a7, a8, a9, a10, .int 0]))]) [0] (by decide) rfl
  have hKc := hK.sub (tys' := []) [] rfl
  have hFc := va_free (wc := [(h0, .inr (10, [a0, a1, a2, a3, a4, a5, a6, a7, a8, a9, a10, .int 0]))]) hD hS hA [0] rfl
  refine va_calli (va_runV (As := [.int v, .int 0]) (rest := []) ⟨hx, hb, hml, hown, hts⟩ (k_X11_lackOfVariable l dC dI h0 a0 a1 a2 a3 a4 a5 a6 a7 a8 a9 a10 v 0 s.heap.size) (cwV 2 hts g_X11_fraction_X11_lackOfVariable_202 rfl rfl rfl (by decide +kernel) ⟨Nat.le_of_ble_eq_true rfl, Nat.le_of_ble_eq_true rfl⟩) ⟨fun a U g mk q => by obtain ⟨q0, q1, qP, qK, qD, qN⟩ := q; exact ⟨q0, q1, qP, va_K.moved (u := U) (U := U.calling g mk a) (Vm.Alike.refl U.vm) qK, qD, nx_.same rfl qN⟩, va_recv hKc hPc (ci := 10) (q0 := 0) rfl rfl, fun U hU hW => ⟨rfl, by rw [hU], by rw [hU]; exact hPc, va_K.moved hW.alike hKc, hDc.weaken (fun _ _ _ _ => trivial), nx_.warm hW hNx⟩⟩ rfl rfl hl.1 rfl (lv_room (Nat.le_of_ble_eq_true rfl)) dX11_fraction_3 ⟨Nat.le_of_ble_eq_true rfl, Nat.le_of_ble_eq_true rfl⟩) hS (fun q _ h => hFc q h) hFc (fun r_1 u t H1 locs ht hvm hw hB hz1 hk1 hS => ?_)
  try dsimp only at hw
  obtain ⟨hP1, hK1, hD1⟩ := hB
  rw [ht] at hP1
  obtain ⟨hP, hD⟩ := va_join (wr := []) (w1 := [(h0, .inr (10, [a0, a1, a2, a3, a4, a5, a6, a7, a8, a9, a10, .int 0]))]) hP hD [0] [] rfl rfl (by decide) (by decide) hk1 hFc hP1 hD1
  generalize H1 = H at hP hS ⊢
  have hP : va_P (dC, dI) cls_ [(h0, .inr (10, [a0, a1, a2, a3, a4, a5, a6, a7, a8, a9, a10, .int 0]))] H := hP
  have hD : va_D A [(h0, .inr (10, [a0, a1, a2, a3, a4, a5, a6, a7, a8, a9, a10, .int 0]))] := hD
  refine W.widen (k := 0) (n := 0) (Nat.le_of_ble_eq_true rfl) (Nat.le_of_ble_eq_true rfl) ?_
  obtain rfl : (4 : Int32) = r_1 := Eq.symm hw
  refine lv_istore_n (lv' := [(2, .int 4), (0, .ref h0), (1, .int v)]) hx hb dX11_fraction_6 rfl hl (by decide) rfl (fun ls hl => ?_)
  refine lv_iload_n hx hb dX11_fraction_7 rfl (lv_at hl 0 rfl) ?_
  refine lv_if_eq (tgt := 17) hx hb dX11_fraction_8 (by decide) (fun c_2 => absurd c_2 (by decide)) (fun c_2 => ?_)
  refine lv_aload_n hx hb dX11_fraction_11 rfl (lv_at hl 1 rfl) ?_
  refine lv_iload_n hx hb dX11_fraction_12 rfl (lv_at hl 0 rfl) ?_
  have hPc := hP.sub (ws' := [(h0, .inr (10, [a0, a1, a2, a3, a4, a5, a6, a7, a8, a9, a10, .int 0]))]) [0] rfl
  have hDc := hD.sub (ws' := [(h0, .inr (10, [a0, a1, a2, a3, a4, a5, a6, a7, a8, a9, a10, .int 0]))]) [0] (by decide) rfl
  have hKc := hK.sub (tys' := []) [] rfl
  have hFc := va_free (wc := [(h0, .inr (10, [a0, a1, a2, a3, a4, a5, a6, a7, a8, a9, a10, .int 0]))]) hD hS hA [0] rfl
  refine va_calli (va_runV (As := [.int 4]) (rest := []) ⟨hx, hb, hml, hown, hts⟩ (k_X11_refuse l dC dI h0 a0 a1 a2 a3 a4 a5 a6 a7 a8 a9 a10 (.int 0) 4 H.size) (cwV 1 hts g_X11_fraction_X11_refuse_71 rfl rfl rfl (by decide +kernel) ⟨Nat.le_of_ble_eq_true rfl, Nat.le_of_ble_eq_true rfl⟩) ⟨fun a U g mk q => by obtain ⟨q0, q1, qP, qK, qD, qN⟩ := q; exact ⟨q0, q1, qP, va_K.moved (u := U) (U := U.calling g mk a) (Vm.Alike.refl U.vm) qK, qD, nx_.same rfl qN⟩, va_recv hKc hPc (ci := 10) (q0 := 0) rfl rfl, fun U hU hW => ⟨rfl, by rw [hU], by rw [hU]; exact hPc, va_K.moved hW.alike hKc, hDc.weaken (fun _ _ _ _ => trivial), nx_.warm hW hNx⟩⟩ rfl rfl hl.1 rfl (lv_room (Nat.le_of_ble_eq_true rfl)) dX11_fraction_13 ⟨Nat.le_of_ble_eq_true rfl, Nat.le_of_ble_eq_true rfl⟩) hS (fun q _ h => hFc q h) hFc (fun r_3 u t H1 locs ht hvm hw hB hz1 hk1 hS => ?_)
  try dsimp only at hw
  have hP1 : va_P (dC, dI) cls_ [] H1 := fun k q h => by simp at h
  have hD1 : va_D (va_A [(h0, .inr (10, [a0, a1, a2, a3, a4, a5, a6, a7, a8, a9, a10, .int 0]))] H.size) [] := ⟨fun i j p q h => by simp at h, fun k q h => by simp at h⟩
  obtain ⟨hP, hD⟩ := va_join (wr := []) (w1 := []) hP hD [0] [] rfl rfl (by decide) (by decide) hk1 hFc hP1 hD1
  generalize H1 = H at hP hS ⊢
  have hP : va_P (dC, dI) cls_ [] H := hP
  have hD : va_D A [] := hD
  refine W.widen (k := 0) (n := 0) (Nat.le_of_ble_eq_true rfl) (Nat.le_of_ble_eq_true rfl) ?_
  obtain rfl : ((-1) : Int32) = r_3 := Eq.symm hw
  refine W.widen (k := 0) (n := 0) (Nat.le_of_ble_eq_true rfl) (Nat.le_of_ble_eq_true rfl) ?_
  exact W.iret (v := (-1)) hx hb hr (fun t ht hW => ⟨⟨(-1), (), rfl, rfl, trivial⟩, hS.F ht⟩) hS.2.2 dX11_fraction_16

def w_X11_multiplicity : List Cond := .code yX11_multiplicity cX11_multiplicity 3 (some .int) :: ([.fieldLink RX11 75 "RealSolver" "solved" "Z", .code yX11_lackOfZeros cX11_lackOfZeros 1 (some .int), .methodLink RX11 171 yX11_lackOfZeros, .instanceMethod yX11_lackOfZeros, .selects RX11 yX11_lackOfZeros yX11_lackOfZeros, .initialized RX11, .code yX11_lackOfReal cX11_lackOfReal 3 (some .int), .methodLink RX11 220 yX11_lackOfReal, .instanceMethod yX11_lackOfReal, .selects RX11 yX11_lackOfReal yX11_lackOfReal, .fieldLink RX11 65 "RealSolver" "outcome" "I", .code yX11_refuse cX11_refuse 2 (some .int), .methodLink RX11 71 yX11_refuse, .instanceMethod yX11_refuse, .selects RX11 yX11_refuse yX11_refuse] ++ (wsX110 ++ ([] : List Cond)))
theorem in_X11_multiplicity_X11 : ∀ w ∈ wsX110, w ∈ w_X11_multiplicity := fun _ h => List.mem_cons_of_mem _ (List.mem_append_right _ (List.mem_append_left _ h))
set_option maxRecDepth 20000 in
theorem g_X11_multiplicity_X11_lackOfReal_220 : GoodIn w_X11_multiplicity (wsV RX11 220 RX11 yX11_lackOfReal w_X11_lackOfReal) := goodIn_r _ [8, 9, 10, 6, 7, 1, 2, 3, 4, 5, 6, 16, 17, 18, 19, 20, 21, 22, 23, 24, 25, 26, 27] (by decide +kernel) (by decide +kernel)
set_option maxRecDepth 20000 in
theorem g_X11_multiplicity_X11_refuse_71 : GoodIn w_X11_multiplicity (wsV RX11 71 RX11 yX11_refuse w_X11_refuse) := goodIn_r _ [13, 14, 15, 6, 12, 11, 16, 17, 18, 19, 20, 21, 22, 23, 24, 25, 26, 27] (by decide +kernel) (by decide +kernel)
set_option maxHeartbeats 4000000 in
set_option maxRecDepth 100000 in
theorem k_X11_multiplicity (l : Launch) (dC : Nat → ClassId) (dI : Nat → Nat → Nat) (h0 : Nat) (a0 : Value) (a1 : Value) (a2 : Value) (a3 : Value) (a4 : Value) (a5 : Value) (a6 : Value) (a7 : Value) (a8 : Value) (a9 : Value) (a10 : Value) (v : Int32) (sz : Nat) : Met l yX11_multiplicity w_X11_multiplicity ({ frames := 2, cells := 0, slots := 0, locals := 42 }) (va_Pc [.ref h0, .int v] (fun U => U.heap.size = sz ∧ va_P (dC, dI) cls_ [(h0, .inr (10, [a0, a1, a2, a3, a4, a5, a6, a7, a8, a9, a10, .int 0]))] U.heap ∧ va_K (dC, dI) cls_ [] U ∧ va_D (fun _ => True) [(h0, .inr (10, [a0, a1, a2, a3, a4, a5, a6, a7, a8, a9, a10, .int 0]))] ∧ nx_ U)) (va_Qi (fun (r : Int32) (_ : Unit) => r = (-1)) (fun _ _ => True) (va_A [(h0, .inr (10, [a0, a1, a2, a3, a4, a5, a6, a7, a8, a9, a10, .int 0]))] sz)) 0 0 (va_A [(h0, .inr (10, [a0, a1, a2, a3, a4, a5, a6, a7, a8, a9, a10, .int 0]))] sz) := by
  refine Met.ofW (cc := cX11_multiplicity) (maxL := 3) (ret := (some .int)) (by decide) rfl ?_
  intro p e s m args below meth c s₁ B hml hv
  obtain ⟨rfl, hsz, hP, hK, hD0, hNx⟩ := hv
  have hx := B.exec
  have hb := B.bytes
  have hr := B.returns
  have hts := atoms_spec (ws := w_X11_multiplicity) B.pre
  have hown : s.vm.findClass RX11 = some m.cls := findClass_of_methodNamed B.named
  have hlocks := B.notSynchronized
  subst hsz
  have hD := hD0.self (sz := s.heap.size)
  generalize hAe : va_A [(h0, .inr (10, [a0, a1, a2, a3, a4, a5, a6, a7, a8, a9, a10, .int 0]))] s.heap.size = A at hD ⊢
  have hA : ∀ q : Nat, s.heap.size ≤ q → A q := fun q h => by rw [← hAe]; exact Or.inr h
  have hS : va_S A s.heap s.heap [] := va_S.rf
  have hP : va_P (dC, dI) cls_ [(h0, .inr (10, [a0, a1, a2, a3, a4, a5, a6, a7, a8, a9, a10, .int 0]))] s.heap := hP
  have hl := lv_entry ([.ref h0, .int v]) (n := 3) (Nat.le_of_ble_eq_true rfl)
  rw [lg_entry_eq]
  generalize (lg_sl ([.ref h0, .int v]) ++ List.replicate (3 - (lg_sl ([.ref h0, .int v])).length) Slot.unset).toArray = ls at hl ⊢
  have hl : lv_has ls 3 [(0, .ref h0), (1, .int v)] := hl
  refine lv_aload_n hx hb dX11_multiplicity_0 rfl (lv_at hl 0 rfl) ?_
  refine lv_iload_n hx hb dX11_multiplicity_1 rfl (lv_at hl 1 rfl) ?_
  have hPc := hP.sub (ws' := [(h0, .inr (10, [a0, a1, a2, a3, a4, a5, a6, a7, a8, a9, a10, .int 0]))]) [0] rfl
  have hDc := hD.sub (ws' := [(h0, .inr (10, [a0, a1, a2, a3, a4, a5, a6, a7, a8, a9, a10, .int 0]))]) [0] (by decide) rfl
  have hKc := hK.sub (tys' := []) [] rfl
  have hFc := va_free (wc := [(h0, .inr (10, [a0, a1, a2, a3, a4, a5, a6, a7, a8, a9, a10, .int 0]))]) hD hS hA [0] rfl
  refine va_calli (va_runV (As := [.int v]) (rest := []) ⟨hx, hb, hml, hown, hts⟩ (k_X11_lackOfReal l dC dI h0 a0 a1 a2 a3 a4 a5 a6 a7 a8 a9 a10 v s.heap.size) (cwV 1 hts g_X11_multiplicity_X11_lackOfReal_220 rfl rfl rfl (by decide +kernel) ⟨Nat.le_of_ble_eq_true rfl, Nat.le_of_ble_eq_true rfl⟩) ⟨fun a U g mk q => by obtain ⟨q0, q1, qP, qK, qD, qN⟩ := q; exact ⟨q0, q1, qP, va_K.moved (u := U) (U := U.calling g mk a) (Vm.Alike.refl U.vm) qK, qD, nx_.same rfl qN⟩, va_recv hKc hPc (ci := 10) (q0 := 0) rfl rfl, fun U hU hW => ⟨rfl, by rw [hU], by rw [hU]; exact hPc, va_K.moved hW.alike hKc, hDc.weaken (fun _ _ _ _ => trivial), nx_.warm hW hNx⟩⟩ rfl rfl hl.1 rfl (lv_room (Nat.le_of_ble_eq_true rfl)) dX11_multiplicity_2 ⟨Nat.le_of_ble_eq_true rfl, Nat.le_of_ble_eq_true rfl⟩) hS (fun q _ h => hFc q h) hFc (fun r_1 u t H1 locs ht hvm hw hB hz1 hk1 hS => ?_)
  try dsimp only at hw
  obtain ⟨hP1, hK1, hD1⟩ := hB
  rw [ht] at hP1
  obtain ⟨hP, hD⟩ := va_join (wr := []) (w1 := [(h0, .inr (10, [a0, a1, a2, a3, a4, a5, a6, a7, a8, a9, a10, .int 0]))]) hP hD [0] [] rfl rfl (by decide) (by decide) hk1 hFc hP1 hD1
  generalize H1 = H at hP hS ⊢
  have hP : va_P (dC, dI) cls_ [(h0, .inr (10, [a0, a1, a2, a3, a4, a5, a6, a7, a8, a9, a10, .int 0]))] H := hP
  have hD : va_D A [(h0, .inr (10, [a0, a1, a2, a3, a4, a5, a6, a7, a8, a9, a10, .int 0]))] := hD
  refine W.widen (k := 0) (n := 0) (Nat.le_of_ble_eq_true rfl) (Nat.le_of_ble_eq_true rfl) ?_
  obtain rfl : (4 : Int32) = r_1 := Eq.symm hw
  refine lv_istore_n (lv' := [(2, .int 4), (0, .ref h0), (1, .int v)]) hx hb dX11_multiplicity_5 rfl hl (by decide) rfl (fun ls hl => ?_)
  refine lv_iload_n hx hb dX11_multiplicity_6 rfl (lv_at hl 0 rfl) ?_
  refine lv_if_eq (tgt := 18) hx hb dX11_multiplicity_7 (by decide) (fun c_2 => absurd c_2 (by decide)) (fun c_2 => ?_)
  refine lv_aload_n hx hb dX11_multiplicity_10 rfl (lv_at hl 1 rfl) ?_
  refine lv_iload_n hx hb dX11_multiplicity_11 rfl (lv_at hl 0 rfl) ?_
  have hPc := hP.sub (ws' := [(h0, .inr (10, [a0, a1, a2, a3, a4, a5, a6, a7, a8, a9, a10, .int 0]))]) [0] rfl
  have hDc := hD.sub (ws' := [(h0, .inr (10, [a0, a1, a2, a3, a4, a5, a6, a7, a8, a9, a10, .int 0]))]) [0] (by decide) rfl
  have hKc := hK.sub (tys' := []) [] rfl
  have hFc := va_free (wc := [(h0, .inr (10, [a0, a1, a2, a3, a4, a5, a6, a7, a8, a9, a10, .int 0]))]) hD hS hA [0] rfl
  refine va_calli (va_runV (As := [.int 4]) (rest := []) ⟨hx, hb, hml, hown, hts⟩ (k_X11_refuse l dC dI h0 a0 a1 a2 a3 a4 a5 a6 a7 a8 a9 a10 (.int 0) 4 H.size) (cwV 1 hts g_X11_multiplicity_X11_refuse_71 rfl rfl rfl (by decide +kernel) ⟨Nat.le_of_ble_eq_true rfl, Nat.le_of_ble_eq_true rfl⟩) ⟨fun a U g mk q => by obtain ⟨q0, q1, qP, qK, qD, qN⟩ := q; exact ⟨q0, q1, qP, va_K.moved (u := U) (U := U.calling g mk a) (Vm.Alike.refl U.vm) qK, qD, nx_.same rfl qN⟩, va_recv hKc hPc (ci := 10) (q0 := 0) rfl rfl, fun U hU hW => ⟨rfl, by rw [hU], by rw [hU]; exact hPc, va_K.moved hW.alike hKc, hDc.weaken (fun _ _ _ _ => trivial), nx_.warm hW hNx⟩⟩ rfl rfl hl.1 rfl (lv_room (Nat.le_of_ble_eq_true rfl)) dX11_multiplicity_12 ⟨Nat.le_of_ble_eq_true rfl, Nat.le_of_ble_eq_true rfl⟩) hS (fun q _ h => hFc q h) hFc (fun r_3 u t H1 locs ht hvm hw hB hz1 hk1 hS => ?_)
  try dsimp only at hw
  have hP1 : va_P (dC, dI) cls_ [] H1 := fun k q h => by simp at h
  have hD1 : va_D (va_A [(h0, .inr (10, [a0, a1, a2, a3, a4, a5, a6, a7, a8, a9, a10, .int 0]))] H.size) [] := ⟨fun i j p q h => by simp at h, fun k q h => by simp at h⟩
  obtain ⟨hP, hD⟩ := va_join (wr := []) (w1 := []) hP hD [0] [] rfl rfl (by decide) (by decide) hk1 hFc hP1 hD1
  generalize H1 = H at hP hS ⊢
  have hP : va_P (dC, dI) cls_ [] H := hP
  have hD : va_D A [] := hD
  refine W.widen (k := 0) (n := 0) (Nat.le_of_ble_eq_true rfl) (Nat.le_of_ble_eq_true rfl) ?_
  obtain rfl : ((-1) : Int32) = r_3 := Eq.symm hw
  refine lv_goto (tgt := 31) hx hb dX11_multiplicity_15 (by decide) ?_
  refine W.widen (k := 0) (n := 0) (Nat.le_of_ble_eq_true rfl) (Nat.le_of_ble_eq_true rfl) ?_
  exact W.iret (v := (-1)) hx hb hr (fun t ht hW => ⟨⟨(-1), (), rfl, rfl, trivial⟩, hS.F ht⟩) hS.2.2 dX11_multiplicity_31

def w_X11_sign : List Cond := .code yX11_sign cX11_sign 6 (some .int) :: ([.fieldLink RX11 75 "RealSolver" "solved" "Z", .code yX11_lackOfZeros cX11_lackOfZeros 1 (some .int), .methodLink RX11 171 yX11_lackOfZeros, .instanceMethod yX11_lackOfZeros, .selects RX11 yX11_lackOfZeros yX11_lackOfZeros, .initialized RX11, .code yX11_lackOfReal cX11_lackOfReal 3 (some .int), .methodLink RX11 220 yX11_lackOfReal, .instanceMethod yX11_lackOfReal, .selects RX11 yX11_lackOfReal yX11_lackOfReal, .fieldLink RX11 65 "RealSolver" "outcome" "I", .code yX11_refuse cX11_refuse 2 (some .int), .methodLink RX11 71 yX11_refuse, .instanceMethod yX11_refuse, .selects RX11 yX11_refuse yX11_refuse] ++ (wsX110 ++ ([] : List Cond)))
theorem in_X11_sign_X11 : ∀ w ∈ wsX110, w ∈ w_X11_sign := fun _ h => List.mem_cons_of_mem _ (List.mem_append_right _ (List.mem_append_left _ h))
set_option maxRecDepth 20000 in
theorem g_X11_sign_X11_lackOfReal_220 : GoodIn w_X11_sign (wsV RX11 220 RX11 yX11_lackOfReal w_X11_lackOfReal) := goodIn_r _ [8, 9, 10, 6, 7, 1, 2, 3, 4, 5, 6, 16, 17, 18, 19, 20, 21, 22, 23, 24, 25, 26, 27] (by decide +kernel) (by decide +kernel)
set_option maxRecDepth 20000 in
theorem g_X11_sign_X11_refuse_71 : GoodIn w_X11_sign (wsV RX11 71 RX11 yX11_refuse w_X11_refuse) := goodIn_r _ [13, 14, 15, 6, 12, 11, 16, 17, 18, 19, 20, 21, 22, 23, 24, 25, 26, 27] (by decide +kernel) (by decide +kernel)
set_option maxHeartbeats 4000000 in
set_option maxRecDepth 100000 in
theorem k_X11_sign (l : Launch) (dC : Nat → ClassId) (dI : Nat → Nat → Nat) (h0 : Nat) (a0 : Value) (a1 : Value) (a2 : Value) (a3 : Value) (a4 : Value) (a5 : Value) (a6 : Value) (a7 : Value) (a8 : Value) (a9 : Value) (a10 : Value) (v : Int32) (sz : Nat) : Met l yX11_sign w_X11_sign ({ frames := 2, cells := 0, slots := 0, locals := 42 }) (va_Pc [.ref h0, .int v] (fun U => U.heap.size = sz ∧ va_P (dC, dI) cls_ [(h0, .inr (10, [a0, a1, a2, a3, a4, a5, a6, a7, a8, a9, a10, .int 0]))] U.heap ∧ va_K (dC, dI) cls_ [] U ∧ va_D (fun _ => True) [(h0, .inr (10, [a0, a1, a2, a3, a4, a5, a6, a7, a8, a9, a10, .int 0]))] ∧ nx_ U)) (va_Qi (fun (r : Int32) (_ : Unit) => r = (-1)) (fun _ _ => True) (va_A [(h0, .inr (10, [a0, a1, a2, a3, a4, a5, a6, a7, a8, a9, a10, .int 0]))] sz)) 0 0 (va_A [(h0, .inr (10, [a0, a1, a2, a3, a4, a5, a6, a7, a8, a9, a10, .int 0]))] sz) := by
  refine Met.ofW (cc := cX11_sign) (maxL := 6) (ret := (some .int)) (by decide) rfl ?_
  intro p e s m args below meth c s₁ B hml hv
  obtain ⟨rfl, hsz, hP, hK, hD0, hNx⟩ := hv
  have hx := B.exec
  have hb := B.bytes
  have hr := B.returns
  have hts := atoms_spec (ws := w_X11_sign) B.pre
  have hown : s.vm.findClass RX11 = some m.cls := findClass_of_methodNamed B.named
  have hlocks := B.notSynchronized
  subst hsz
  have hD := hD0.self (sz := s.heap.size)
  generalize hAe : va_A [(h0, .inr (10, [a0, a1, a2, a3, a4, a5, a6, a7, a8, a9, a10, .int 0]))] s.heap.size = A at hD ⊢
  have hA : ∀ q : Nat, s.heap.size ≤ q → A q := fun q h => by rw [← hAe]; exact Or.inr h
  have hS : va_S A s.heap s.heap [] := va_S.rf
  have hP : va_P (dC, dI) cls_ [(h0, .inr (10, [a0, a1, a2, a3, a4, a5, a6, a7, a8, a9, a10, .int 0]))] s.heap := hP
  have hl := lv_entry ([.ref h0, .int v]) (n := 6) (Nat.le_of_ble_eq_true rfl)
  rw [lg_entry_eq]
  generalize (lg_sl ([.ref h0, .int v]) ++ List.replicate (6 - (lg_sl ([.ref h0, .int v])).length) Slot.unset).toArray = ls at hl ⊢
  have hl : lv_has ls 6 [(0, .ref h0), (1, .int v)] := hl
  refine lv_aload_n hx hb dX11_sign_0 rfl (lv_at hl 0 rfl) ?_
  refine lv_iload_n hx hb dX11_sign_1 rfl (lv_at hl 1 rfl) ?_
  have hPc := hP.sub (ws' := [(h0, .inr (10, [a0, a1, a2, a3, a4, a5, a6, a7, a8, a9, a10, .int 0]))]) [0] rfl
  have hDc := hD.sub (ws' := [(h0, .inr (10, [a0, a1, a2, a3, a4, a5, a6, a7, a8, a9, a10, .int 0]))]) [0] (by decide) rfl
  have hKc := hK.sub (tys' := []) [] rfl
  have hFc := va_free (wc := [(h0, .inr (10, [a0, a1, a2, a3, a4, a5, a6, a7, a8, a9, a10, .int 0]))]) hD hS hA [0] rfl
  refine va_calli (va_runV (As := [.int v]) (rest := []) ⟨hx, hb, hml, hown, hts⟩ (k_X11_lackOfReal l dC dI h0 a0 a1 a2 a3 a4 a5 a6 a7 a8 a9 a10 v s.heap.size) (cwV 1 hts g_X11_sign_X11_lackOfReal_220 rfl rfl rfl (by decide +kernel) ⟨Nat.le_of_ble_eq_true rfl, Nat.le_of_ble_eq_true rfl⟩) ⟨fun a U g mk q => by obtain ⟨q0, q1, qP, qK, qD, qN⟩ := q; exact ⟨q0, q1, qP, va_K.moved (u := U) (U := U.calling g mk a) (Vm.Alike.refl U.vm) qK, qD, nx_.same rfl qN⟩, va_recv hKc hPc (ci := 10) (q0 := 0) rfl rfl, fun U hU hW => ⟨rfl, by rw [hU], by rw [hU]; exact hPc, va_K.moved hW.alike hKc, hDc.weaken (fun _ _ _ _ => trivial), nx_.warm hW hNx⟩⟩ rfl rfl hl.1 rfl (lv_room (Nat.le_of_ble_eq_true rfl)) dX11_sign_2 ⟨Nat.le_of_ble_eq_true rfl, Nat.le_of_ble_eq_true rfl⟩) hS (fun q _ h => hFc q h) hFc (fun r_1 u t H1 locs ht hvm hw hB hz1 hk1 hS => ?_)
  try dsimp only at hw
  obtain ⟨hP1, hK1, hD1⟩ := hB
  rw [ht] at hP1
  obtain ⟨hP, hD⟩ := va_join (wr := []) (w1 := [(h0, .inr (10, [a0, a1, a2, a3, a4, a5, a6, a7, a8, a9, a10, .int 0]))]) hP hD [0] [] rfl rfl (by decide) (by decide) hk1 hFc hP1 hD1
  generalize H1 = H at hP hS ⊢
  have hP : va_P (dC, dI) cls_ [(h0, .inr (10, [a0, a1, a2, a3, a4, a5, a6, a7, a8, a9, a10, .int 0]))] H := hP
  have hD : va_D A [(h0, .inr (10, [a0, a1, a2, a3, a4, a5, a6, a7, a8, a9, a10, .int 0]))] := hD
  refine W.widen (k := 0) (n := 0) (Nat.le_of_ble_eq_true rfl) (Nat.le_of_ble_eq_true rfl) ?_
  obtain rfl : (4 : Int32) = r_1 := Eq.symm hw
  refine lv_istore_n (lv' := [(2, .int 4), (0, .ref h0), (1, .int v)]) hx hb dX11_sign_5 rfl hl (by decide) rfl (fun ls hl => ?_)
  refine lv_iload_n hx hb dX11_sign_6 rfl (lv_at hl 0 rfl) ?_
  refine lv_if_eq (tgt := 16) hx hb dX11_sign_7 (by decide) (fun c_2 => absurd c_2 (by decide)) (fun c_2 => ?_)
  refine lv_aload_n hx hb dX11_sign_10 rfl (lv_at hl 1 rfl) ?_
  refine lv_iload_n hx hb dX11_sign_11 rfl (lv_at hl 0 rfl) ?_
  have hPc := hP.sub (ws' := [(h0, .inr (10, [a0, a1, a2, a3, a4, a5, a6, a7, a8, a9, a10, .int 0]))]) [0] rfl
  have hDc := hD.sub (ws' := [(h0, .inr (10, [a0, a1, a2, a3, a4, a5, a6, a7, a8, a9, a10, .int 0]))]) [0] (by decide) rfl
  have hKc := hK.sub (tys' := []) [] rfl
  have hFc := va_free (wc := [(h0, .inr (10, [a0, a1, a2, a3, a4, a5, a6, a7, a8, a9, a10, .int 0]))]) hD hS hA [0] rfl
  refine va_calli (va_runV (As := [.int 4]) (rest := []) ⟨hx, hb, hml, hown, hts⟩ (k_X11_refuse l dC dI h0 a0 a1 a2 a3 a4 a5 a6 a7 a8 a9 a10 (.int 0) 4 H.size) (cwV 1 hts g_X11_sign_X11_refuse_71 rfl rfl rfl (by decide +kernel) ⟨Nat.le_of_ble_eq_true rfl, Nat.le_of_ble_eq_true rfl⟩) ⟨fun a U g mk q => by obtain ⟨q0, q1, qP, qK, qD, qN⟩ := q; exact ⟨q0, q1, qP, va_K.moved (u := U) (U := U.calling g mk a) (Vm.Alike.refl U.vm) qK, qD, nx_.same rfl qN⟩, va_recv hKc hPc (ci := 10) (q0 := 0) rfl rfl, fun U hU hW => ⟨rfl, by rw [hU], by rw [hU]; exact hPc, va_K.moved hW.alike hKc, hDc.weaken (fun _ _ _ _ => trivial), nx_.warm hW hNx⟩⟩ rfl rfl hl.1 rfl (lv_room (Nat.le_of_ble_eq_true rfl)) dX11_sign_12 ⟨Nat.le_of_ble_eq_true rfl, Nat.le_of_ble_eq_true rfl⟩) hS (fun q _ h => hFc q h) hFc (fun r_3 u t H1 locs ht hvm hw hB hz1 hk1 hS => ?_)
  try dsimp only at hw
  have hP1 : va_P (dC, dI) cls_ [] H1 := fun k q h => by simp at h
  have hD1 : va_D (va_A [(h0, .inr (10, [a0, a1, a2, a3, a4, a5, a6, a7, a8, a9, a10, .int 0]))] H.size) [] := ⟨fun i j p q h => by simp at h, fun k q h => by simp at h⟩
  obtain ⟨hP, hD⟩ := va_join (wr := []) (w1 := []) hP hD [0] [] rfl rfl (by decide) (by decide) hk1 hFc hP1 hD1
  generalize H1 = H at hP hS ⊢
  have hP : va_P (dC, dI) cls_ [] H := hP
  have hD : va_D A [] := hD
  refine W.widen (k := 0) (n := 0) (Nat.le_of_ble_eq_true rfl) (Nat.le_of_ble_eq_true rfl) ?_
  obtain rfl : ((-1) : Int32) = r_3 := Eq.symm hw
  refine W.widen (k := 0) (n := 0) (Nat.le_of_ble_eq_true rfl) (Nat.le_of_ble_eq_true rfl) ?_
  exact W.iret (v := (-1)) hx hb hr (fun t ht hW => ⟨⟨(-1), (), rfl, rfl, trivial⟩, hS.F ht⟩) hS.2.2 dX11_sign_15

def w_X11_rank : List Cond := .code yX11_rank cX11_rank 4 (some .int) :: ([.fieldLink RX11 75 "RealSolver" "solved" "Z", .code yX11_lackOfZeros cX11_lackOfZeros 1 (some .int), .methodLink RX11 171 yX11_lackOfZeros, .instanceMethod yX11_lackOfZeros, .selects RX11 yX11_lackOfZeros yX11_lackOfZeros, .initialized RX11, .code yX11_lackOfVariable cX11_lackOfVariable 4 (some .int), .methodLink RX11 202 yX11_lackOfVariable, .instanceMethod yX11_lackOfVariable, .selects RX11 yX11_lackOfVariable yX11_lackOfVariable, .code yX11_lackOfCoordinate cX11_lackOfCoordinate 4 (some .int), .methodLink RX11 226 yX11_lackOfCoordinate, .instanceMethod yX11_lackOfCoordinate, .selects RX11 yX11_lackOfCoordinate yX11_lackOfCoordinate, .fieldLink RX11 65 "RealSolver" "outcome" "I", .code yX11_refuse cX11_refuse 2 (some .int), .methodLink RX11 71 yX11_refuse, .instanceMethod yX11_refuse, .selects RX11 yX11_refuse yX11_refuse] ++ (wsX110 ++ ([] : List Cond)))
theorem in_X11_rank_X11 : ∀ w ∈ wsX110, w ∈ w_X11_rank := fun _ h => List.mem_cons_of_mem _ (List.mem_append_right _ (List.mem_append_left _ h))
set_option maxRecDepth 20000 in
theorem g_X11_rank_X11_lackOfCoordinate_226 : GoodIn w_X11_rank (wsV RX11 226 RX11 yX11_lackOfCoordinate w_X11_lackOfCoordinate) := goodIn_r _ [12, 13, 14, 6, 11, 1, 2, 3, 4, 5, 6, 7, 8, 9, 10, 20, 21, 22, 23, 24, 25, 26, 27, 28, 29, 30, 31] (by decide +kernel) (by decide +kernel)
set_option maxRecDepth 20000 in
theorem g_X11_rank_X11_refuse_71 : GoodIn w_X11_rank (wsV RX11 71 RX11 yX11_refuse w_X11_refuse) := goodIn_r _ [17, 18, 19, 6, 16, 15, 20, 21, 22, 23, 24, 25, 26, 27, 28, 29, 30, 31] (by decide +kernel) (by decide +kernel)
set_option maxHeartbeats 4000000 in
set_option maxRecDepth 100000 in
theorem k_X11_rank (l : Launch) (dC : Nat → ClassId) (dI : Nat → Nat → Nat) (h0 : Nat) (a0 : Value) (a1 : Value) (a2 : Value) (a3 : Value) (a4 : Value) (a5 : Value) (a6 : Value) (a7 : Value) (a8 : Value) (a9 : Value) (a10 : Value) (v : Int32) (w : Int32) (sz : Nat) : Met l yX11_rank w_X11_rank ({ frames := 3, cells := 0, slots := 0, locals := 66 }) (va_Pc [.ref h0, .int v, .int w] (fun U => U.heap.size = sz ∧ va_P (dC, dI) cls_ [(h0, .inr (10, [a0, a1, a2, a3, a4, a5, a6, a7, a8, a9, a10, .int 0]))] U.heap ∧ va_K (dC, dI) cls_ [] U ∧ va_D (fun _ => True) [(h0, .inr (10, [a0, a1, a2, a3, a4, a5, a6, a7, a8, a9, a10, .int 0]))] ∧ nx_ U)) (va_Qi (fun (r : Int32) (_ : Unit) => r = (-1)) (fun _ _ => True) (va_A [(h0, .inr (10, [a0, a1, a2, a3, a4, a5, a6, a7, a8, a9, a10, .int 0]))] sz)) 0 0 (va_A [(h0, .inr (10, [a0, a1, a2, a3, a4, a5, a6, a7, a8, a9, a10, .int 0]))] sz) := by
  refine Met.ofW (cc := cX11_rank) (maxL := 4) (ret := (some .int)) (by decide) rfl ?_
  intro p e s m args below meth c s₁ B hml hv
  obtain ⟨rfl, hsz, hP, hK, hD0, hNx⟩ := hv
  have hx := B.exec
  have hb := B.bytes
  have hr := B.returns
  have hts := atoms_spec (ws := w_X11_rank) B.pre
  have hown : s.vm.findClass RX11 = some m.cls := findClass_of_methodNamed B.named
  have hlocks := B.notSynchronized
  subst hsz
  have hD := hD0.self (sz := s.heap.size)
  generalize hAe : va_A [(h0, .inr (10, [a0, a1, a2, a3, a4, a5, a6, a7, a8, a9, a10, .int 0]))] s.heap.size = A at hD ⊢
  have hA : ∀ q : Nat, s.heap.size ≤ q → A q := fun q h => by rw [← hAe]; exact Or.inr h
  have hS : va_S A s.heap s.heap [] := va_S.rf
  have hP : va_P (dC, dI) cls_ [(h0, .inr (10, [a0, a1, a2, a3, a4, a5, a6, a7, a8, a9, a10, .int 0]))] s.heap := hP
  have hl := lv_entry ([.ref h0, .int v, .int w]) (n := 4) (Nat.le_of_ble_eq_true rfl)
  rw [lg_entry_eq]
  generalize (lg_sl ([.ref h0, .int v, .int w]) ++ List.replicate (4 - (lg_sl ([.ref h0, .int v, .int w])).length) Slot.unset).toArray = ls at hl ⊢
  have hl : lv_has ls 4 [(0, .ref h0), (1, .int v), (2, .int w)] := hl
  refine lv_aload_n hx hb dX11_rank_0 rfl (lv_at hl 0 rfl) ?_
  refine lv_iload_n hx hb dX11_rank_1 rfl (lv_at hl 1 rfl) ?_
  refine lv_iload_n hx hb dX11_rank_2 rfl (lv_at hl 2 rfl) ?_
  have hPc := hP.sub (ws' := [(h0, .inr (10, [a0, a1, a2, a3, a4, a5, a6, a7, a8, a9, a10, .int 0]))]) [0] rfl
  have hDc := hD.sub (ws' := [(h0, .inr (10, [a0, a1, a2, a3, a4, a5, a6, a7, a8, a9, a10, .int 0]))]) [0] (by decide) rfl
  have hKc := hK.sub (tys' := []) [] rfl
  have hFc := va_free (wc := [(h0, .inr (10, [a0, a1, a2, a3, a4, a5, a6, a7, a8, a9, a10, .int 0]))]) hD hS hA [0] rfl
  refine va_calli (va_runV (As := [.int v, .int w]) (rest := []) ⟨hx, hb, hml, hown, hts⟩ (k_X11_lackOfCoordinate l dC dI h0 a0 a1 a2 a3 a4 a5 a6 a7 a8 a9 a10 v w s.heap.size) (cwV 2 hts g_X11_rank_X11_lackOfCoordinate_226 rfl rfl rfl (by decide +kernel) ⟨Nat.le_of_ble_eq_true rfl, Nat.le_of_ble_eq_true rfl⟩) ⟨fun a U g mk q => by obtain ⟨q0, q1, qP, qK, qD, qN⟩ := q; exact ⟨q0, q1, qP, va_K.moved (u := U) (U := U.calling g mk a) (Vm.Alike.refl U.vm) qK, qD, nx_.same rfl qN⟩, va_recv hKc hPc (ci := 10) (q0 := 0) rfl rfl, fun U hU hW => ⟨rfl, by rw [hU], by rw [hU]; exact hPc, va_K.moved hW.alike hKc, hDc.weaken (fun _ _ _ _ => trivial), nx_.warm hW hNx⟩⟩ rfl rfl hl.1 rfl (lv_room (Nat.le_of_ble_eq_true rfl)) dX11_rank_3 ⟨Nat.le_of_ble_eq_true rfl, Nat.le_of_ble_eq_true rfl⟩) hS (fun q _ h => hFc q h) hFc (fun r_1 u t H1 locs ht hvm hw hB hz1 hk1 hS => ?_)
  try dsimp only at hw
  obtain ⟨hP1, hK1, hD1⟩ := hB
  rw [ht] at hP1
  obtain ⟨hP, hD⟩ := va_join (wr := []) (w1 := [(h0, .inr (10, [a0, a1, a2, a3, a4, a5, a6, a7, a8, a9, a10, .int 0]))]) hP hD [0] [] rfl rfl (by decide) (by decide) hk1 hFc hP1 hD1
  generalize H1 = H at hP hS ⊢
  have hP : va_P (dC, dI) cls_ [(h0, .inr (10, [a0, a1, a2, a3, a4, a5, a6, a7, a8, a9, a10, .int 0]))] H := hP
  have hD : va_D A [(h0, .inr (10, [a0, a1, a2, a3, a4, a5, a6, a7, a8, a9, a10, .int 0]))] := hD
  refine W.widen (k := 0) (n := 0) (Nat.le_of_ble_eq_true rfl) (Nat.le_of_ble_eq_true rfl) ?_
  obtain rfl : (4 : Int32) = r_1 := Eq.symm hw
  refine lv_istore_n (lv' := [(3, .int 4), (0, .ref h0), (1, .int v), (2, .int w)]) hx hb dX11_rank_6 rfl hl (by decide) rfl (fun ls hl => ?_)
  refine lv_iload_n hx hb dX11_rank_7 rfl (lv_at hl 0 rfl) ?_
  refine lv_if_eq (tgt := 19) hx hb dX11_rank_8 (by decide) (fun c_2 => absurd c_2 (by decide)) (fun c_2 => ?_)
  refine lv_aload_n hx hb dX11_rank_11 rfl (lv_at hl 1 rfl) ?_
  refine lv_iload_n hx hb dX11_rank_12 rfl (lv_at hl 0 rfl) ?_
  have hPc := hP.sub (ws' := [(h0, .inr (10, [a0, a1, a2, a3, a4, a5, a6, a7, a8, a9, a10, .int 0]))]) [0] rfl
  have hDc := hD.sub (ws' := [(h0, .inr (10, [a0, a1, a2, a3, a4, a5, a6, a7, a8, a9, a10, .int 0]))]) [0] (by decide) rfl
  have hKc := hK.sub (tys' := []) [] rfl
  have hFc := va_free (wc := [(h0, .inr (10, [a0, a1, a2, a3, a4, a5, a6, a7, a8, a9, a10, .int 0]))]) hD hS hA [0] rfl
  refine va_calli (va_runV (As := [.int 4]) (rest := []) ⟨hx, hb, hml, hown, hts⟩ (k_X11_refuse l dC dI h0 a0 a1 a2 a3 a4 a5 a6 a7 a8 a9 a10 (.int 0) 4 H.size) (cwV 1 hts g_X11_rank_X11_refuse_71 rfl rfl rfl (by decide +kernel) ⟨Nat.le_of_ble_eq_true rfl, Nat.le_of_ble_eq_true rfl⟩) ⟨fun a U g mk q => by obtain ⟨q0, q1, qP, qK, qD, qN⟩ := q; exact ⟨q0, q1, qP, va_K.moved (u := U) (U := U.calling g mk a) (Vm.Alike.refl U.vm) qK, qD, nx_.same rfl qN⟩, va_recv hKc hPc (ci := 10) (q0 := 0) rfl rfl, fun U hU hW => ⟨rfl, by rw [hU], by rw [hU]; exact hPc, va_K.moved hW.alike hKc, hDc.weaken (fun _ _ _ _ => trivial), nx_.warm hW hNx⟩⟩ rfl rfl hl.1 rfl (lv_room (Nat.le_of_ble_eq_true rfl)) dX11_rank_13 ⟨Nat.le_of_ble_eq_true rfl, Nat.le_of_ble_eq_true rfl⟩) hS (fun q _ h => hFc q h) hFc (fun r_3 u t H1 locs ht hvm hw hB hz1 hk1 hS => ?_)
  try dsimp only at hw
  have hP1 : va_P (dC, dI) cls_ [] H1 := fun k q h => by simp at h
  have hD1 : va_D (va_A [(h0, .inr (10, [a0, a1, a2, a3, a4, a5, a6, a7, a8, a9, a10, .int 0]))] H.size) [] := ⟨fun i j p q h => by simp at h, fun k q h => by simp at h⟩
  obtain ⟨hP, hD⟩ := va_join (wr := []) (w1 := []) hP hD [0] [] rfl rfl (by decide) (by decide) hk1 hFc hP1 hD1
  generalize H1 = H at hP hS ⊢
  have hP : va_P (dC, dI) cls_ [] H := hP
  have hD : va_D A [] := hD
  refine W.widen (k := 0) (n := 0) (Nat.le_of_ble_eq_true rfl) (Nat.le_of_ble_eq_true rfl) ?_
  obtain rfl : ((-1) : Int32) = r_3 := Eq.symm hw
  refine lv_goto (tgt := 32) hx hb dX11_rank_16 (by decide) ?_
  refine W.widen (k := 0) (n := 0) (Nat.le_of_ble_eq_true rfl) (Nat.le_of_ble_eq_true rfl) ?_
  exact W.iret (v := (-1)) hx hb hr (fun t ht hW => ⟨⟨(-1), (), rfl, rfl, trivial⟩, hS.F ht⟩) hS.2.2 dX11_rank_32

def w_X11_floor : List Cond := .code yX11_floor cX11_floor 7 (some .int) :: ([.fieldLink RX11 65 "RealSolver" "outcome" "I", .code yX11_refuse cX11_refuse 2 (some .int), .methodLink RX11 71 yX11_refuse, .instanceMethod yX11_refuse, .selects RX11 yX11_refuse yX11_refuse, .initialized RX11, .fieldLink RX11 75 "RealSolver" "solved" "Z", .code yX11_lackOfZeros cX11_lackOfZeros 1 (some .int), .methodLink RX11 171 yX11_lackOfZeros, .instanceMethod yX11_lackOfZeros, .selects RX11 yX11_lackOfZeros yX11_lackOfZeros, .code yX11_lackOfVariable cX11_lackOfVariable 4 (some .int), .methodLink RX11 202 yX11_lackOfVariable, .instanceMethod yX11_lackOfVariable, .selects RX11 yX11_lackOfVariable yX11_lackOfVariable, .code yX11_lackOfCoordinate cX11_lackOfCoordinate 4 (some .int), .methodLink RX11 226 yX11_lackOfCoordinate, .instanceMethod yX11_lackOfCoordinate, .selects RX11 yX11_lackOfCoordinate yX11_lackOfCoordinate] ++ (wsX110 ++ ([] : List Cond)))
theorem in_X11_floor_X11 : ∀ w ∈ wsX110, w ∈ w_X11_floor := fun _ h => List.mem_cons_of_mem _ (List.mem_append_right _ (List.mem_append_left _ h))
set_option maxRecDepth 20000 in
theorem g_X11_floor_X11_refuse_71 : GoodIn w_X11_floor (wsV RX11 71 RX11 yX11_refuse w_X11_refuse) := goodIn_r _ [3, 4, 5, 6, 2, 1, 20, 21, 22, 23, 24, 25, 26, 27, 28, 29, 30, 31] (by decide +kernel) (by decide +kernel)
set_option maxRecDepth 20000 in
theorem g_X11_floor_X11_lackOfCoordinate_226 : GoodIn w_X11_floor (wsV RX11 226 RX11 yX11_lackOfCoordinate w_X11_lackOfCoordinate) := goodIn_r _ [17, 18, 19, 6, 16, 7, 8, 9, 10, 11, 6, 12, 13, 14, 15, 20, 21, 22, 23, 24, 25, 26, 27, 28, 29, 30, 31] (by decide +kernel) (by decide +kernel)
set_option maxHeartbeats 4000000 in
set_option maxRecDepth 100000 in
theorem k_X11_floor (l : Launch) (dC : Nat → ClassId) (dI : Nat → Nat → Nat) (h0 : Nat) (a0 : Value) (a1 : Value) (a2 : Value) (a3 : Value) (a4 : Value) (a5 : Value) (a6 : Value) (a7 : Value) (a8 : Value) (a9 : Value) (a10 : Value) (v : Int32) (w : Int32) (k : Int32) (sz : Nat) : Met l yX11_floor w_X11_floor ({ frames := 3, cells := 0, slots := 0, locals := 66 }) (va_Pc [.ref h0, .int v, .int w, .int k] (fun U => U.heap.size = sz ∧ va_P (dC, dI) cls_ [(h0, .inr (10, [a0, a1, a2, a3, a4, a5, a6, a7, a8, a9, a10, .int 0]))] U.heap ∧ va_K (dC, dI) cls_ [] U ∧ va_D (fun _ => True) [(h0, .inr (10, [a0, a1, a2, a3, a4, a5, a6, a7, a8, a9, a10, .int 0]))] ∧ nx_ U)) (va_Qi (fun (r : Int32) (_ : Unit) => r = (-1)) (fun _ _ => True) (va_A [(h0, .inr (10, [a0, a1, a2, a3, a4, a5, a6, a7, a8, a9, a10, .int 0]))] sz)) 0 0 (va_A [(h0, .inr (10, [a0, a1, a2, a3, a4, a5, a6, a7, a8, a9, a10, .int 0]))] sz) := by
  refine Met.ofW (cc := cX11_floor) (maxL := 7) (ret := (some .int)) (by decide) rfl ?_
  intro p e s m args below meth c s₁ B hml hv
  obtain ⟨rfl, hsz, hP, hK, hD0, hNx⟩ := hv
  have hx := B.exec
  have hb := B.bytes
  have hr := B.returns
  have hts := atoms_spec (ws := w_X11_floor) B.pre
  have hown : s.vm.findClass RX11 = some m.cls := findClass_of_methodNamed B.named
  have hlocks := B.notSynchronized
  subst hsz
  have hD := hD0.self (sz := s.heap.size)
  generalize hAe : va_A [(h0, .inr (10, [a0, a1, a2, a3, a4, a5, a6, a7, a8, a9, a10, .int 0]))] s.heap.size = A at hD ⊢
  have hA : ∀ q : Nat, s.heap.size ≤ q → A q := fun q h => by rw [← hAe]; exact Or.inr h
  have hS : va_S A s.heap s.heap [] := va_S.rf
  have hP : va_P (dC, dI) cls_ [(h0, .inr (10, [a0, a1, a2, a3, a4, a5, a6, a7, a8, a9, a10, .int 0]))] s.heap := hP
  have hl := lv_entry ([.ref h0, .int v, .int w, .int k]) (n := 7) (Nat.le_of_ble_eq_true rfl)
  rw [lg_entry_eq]
  generalize (lg_sl ([.ref h0, .int v, .int w, .int k]) ++ List.replicate (7 - (lg_sl ([.ref h0, .int v, .int w, .int k])).length) Slot.unset).toArray = ls at hl ⊢
  have hl : lv_has ls 7 [(0, .ref h0), (1, .int v), (2, .int w), (3, .int k)] := hl
  refine lv_iload_n hx hb dX11_floor_0 rfl (lv_at hl 3 rfl) ?_
  refine lv_if_lt (tgt := 11) hx hb dX11_floor_1 (by decide) (fun c_1 => ?_) (fun c_1 => ?_)
  · refine lv_aload_n hx hb dX11_floor_11 rfl (lv_at hl 0 rfl) ?_
    refine lv_iconst (v := 2) hx hb dX11_floor_12 (by decide) ?_
    have hPc := hP.sub (ws' := [(h0, .inr (10, [a0, a1, a2, a3, a4, a5, a6, a7, a8, a9, a10, .int 0]))]) [0] rfl
    have hDc := hD.sub (ws' := [(h0, .inr (10, [a0, a1, a2, a3, a4, a5, a6, a7, a8, a9, a10, .int 0]))]) [0] (by decide) rfl
    have hKc := hK.sub (tys' := []) [] rfl
    have hFc := va_free (wc := [(h0, .inr (10, [a0, a1, a2, a3, a4, a5, a6, a7, a8, a9, a10, .int 0]))]) hD hS hA [0] rfl
    refine va_calli (va_runV (As := [.int 2]) (rest := []) ⟨hx, hb, hml, hown, hts⟩ (k_X11_refuse l dC dI h0 a0 a1 a2 a3 a4 a5 a6 a7 a8 a9 a10 (.int 0) 2 s.heap.size) (cwV 1 hts g_X11_floor_X11_refuse_71 rfl rfl rfl (by decide +kernel) ⟨Nat.le_of_ble_eq_true rfl, Nat.le_of_ble_eq_true rfl⟩) ⟨fun a U g mk q => by obtain ⟨q0, q1, qP, qK, qD, qN⟩ := q; exact ⟨q0, q1, qP, va_K.moved (u := U) (U := U.calling g mk a) (Vm.Alike.refl U.vm) qK, qD, nx_.same rfl qN⟩, va_recv hKc hPc (ci := 10) (q0 := 0) rfl rfl, fun U hU hW => ⟨rfl, by rw [hU], by rw [hU]; exact hPc, va_K.moved hW.alike hKc, hDc.weaken (fun _ _ _ _ => trivial), nx_.warm hW hNx⟩⟩ rfl rfl hl.1 rfl (lv_room (Nat.le_of_ble_eq_true rfl)) dX11_floor_13 ⟨Nat.le_of_ble_eq_true rfl, Nat.le_of_ble_eq_true rfl⟩) hS (fun q _ h => hFc q h) hFc (fun r_2 u t H1 locs ht hvm hw hB hz1 hk1 hS => ?_)
    try dsimp only at hw
    have hP1 : va_P (dC, dI) cls_ [] H1 := fun k q h => by simp at h
    have hD1 : va_D (va_A [(h0, .inr (10, [a0, a1, a2, a3, a4, a5, a6, a7, a8, a9, a10, .int 0]))] s.heap.size) [] := ⟨fun i j p q h => by simp at h, fun k q h => by simp at h⟩
    obtain ⟨hP, hD⟩ := va_join (wr := []) (w1 := []) hP hD [0] [] rfl rfl (by decide) (by decide) hk1 hFc hP1 hD1
    generalize H1 = H at hP hS ⊢
    have hP : va_P (dC, dI) cls_ [] H := hP
    have hD : va_D A [] := hD
    refine W.widen (k := 0) (n := 0) (Nat.le_of_ble_eq_true rfl) (Nat.le_of_ble_eq_true rfl) ?_
    obtain rfl : ((-1) : Int32) = r_2 := Eq.symm hw
    refine W.widen (k := 0) (n := 0) (Nat.le_of_ble_eq_true rfl) (Nat.le_of_ble_eq_true rfl) ?_
    exact W.iret (v := (-1)) hx hb hr (fun t ht hW => ⟨⟨(-1), (), rfl, rfl, trivial⟩, hS.F ht⟩) hS.2.2 dX11_floor_16
  · refine lv_iload_n hx hb dX11_floor_4 rfl (lv_at hl 3 rfl) ?_
    refine lv_sipush (v := 128) hx hb dX11_floor_5 (by decide) ?_
    refine lv_icmp_le (tgt := 17) hx hb dX11_floor_8 (by decide) (fun c_3 => ?_) (fun c_3 => ?_)
    · refine lv_aload_n hx hb dX11_floor_17 rfl (lv_at hl 0 rfl) ?_
      refine lv_iload_n hx hb dX11_floor_18 rfl (lv_at hl 1 rfl) ?_
      refine lv_iload_n hx hb dX11_floor_19 rfl (lv_at hl 2 rfl) ?_
      have hPc := hP.sub (ws' := [(h0, .inr (10, [a0, a1, a2, a3, a4, a5, a6, a7, a8, a9, a10, .int 0]))]) [0] rfl
      have hDc := hD.sub (ws' := [(h0, .inr (10, [a0, a1, a2, a3, a4, a5, a6, a7, a8, a9, a10, .int 0]))]) [0] (by decide) rfl
      have hKc := hK.sub (tys' := []) [] rfl
      have hFc := va_free (wc := [(h0, .inr (10, [a0, a1, a2, a3, a4, a5, a6, a7, a8, a9, a10, .int 0]))]) hD hS hA [0] rfl
      refine va_calli (va_runV (As := [.int v, .int w]) (rest := []) ⟨hx, hb, hml, hown, hts⟩ (k_X11_lackOfCoordinate l dC dI h0 a0 a1 a2 a3 a4 a5 a6 a7 a8 a9 a10 v w s.heap.size) (cwV 2 hts g_X11_floor_X11_lackOfCoordinate_226 rfl rfl rfl (by decide +kernel) ⟨Nat.le_of_ble_eq_true rfl, Nat.le_of_ble_eq_true rfl⟩) ⟨fun a U g mk q => by obtain ⟨q0, q1, qP, qK, qD, qN⟩ := q; exact ⟨q0, q1, qP, va_K.moved (u := U) (U := U.calling g mk a) (Vm.Alike.refl U.vm) qK, qD, nx_.same rfl qN⟩, va_recv hKc hPc (ci := 10) (q0 := 0) rfl rfl, fun U hU hW => ⟨rfl, by rw [hU], by rw [hU]; exact hPc, va_K.moved hW.alike hKc, hDc.weaken (fun _ _ _ _ => trivial), nx_.warm hW hNx⟩⟩ rfl rfl hl.1 rfl (lv_room (Nat.le_of_ble_eq_true rfl)) dX11_floor_20 ⟨Nat.le_of_ble_eq_true rfl, Nat.le_of_ble_eq_true rfl⟩) hS (fun q _ h => hFc q h) hFc (fun r_4 u t H1 locs ht hvm hw hB hz1 hk1 hS => ?_)
      try dsimp only at hw
      obtain ⟨hP1, hK1, hD1⟩ := hB
      rw [ht] at hP1
      obtain ⟨hP, hD⟩ := va_join (wr := []) (w1 := [(h0, .inr (10, [a0, a1, a2, a3, a4, a5, a6, a7, a8, a9, a10, .int 0]))]) hP hD [0] [] rfl rfl (by decide) (by decide) hk1 hFc hP1 hD1
      generalize H1 = H at hP hS ⊢
      have hP : va_P (dC, dI) cls_ [(h0, .inr (10, [a0, a1, a2, a3, a4, a5, a6, a7, a8, a9, a10, .int 0]))] H := hP
      have hD : va_D A [(h0, .inr (10, [a0, a1, a2, a3, a4, a5, a6, a7, a8, a9, a10, .int 0]))] := hD
      refine W.widen (k := 0) (n := 0) (Nat.le_of_ble_eq_true rfl) (Nat.le_of_ble_eq_true rfl) ?_
      obtain rfl : (4 : Int32) = r_4 := Eq.symm hw
      refine lv_istore (lv' := [(4, .int 4), (0, .ref h0), (1, .int v), (2, .int w), (3, .int k)]) hx hb dX11_floor_23 hl (by decide) rfl (fun ls hl => ?_)
      refine lv_iload hx hb dX11_floor_25 (lv_at hl 0 rfl) ?_
      refine lv_if_eq (tgt := 37) hx hb dX11_floor_27 (by decide) (fun c_5 => absurd c_5 (by decide)) (fun c_5 => ?_)
      refine lv_aload_n hx hb dX11_floor_30 rfl (lv_at hl 1 rfl) ?_
      refine lv_iload hx hb dX11_floor_31 (lv_at hl 0 rfl) ?_
      have hPc := hP.sub (ws' := [(h0, .inr (10, [a0, a1, a2, a3, a4, a5, a6, a7, a8, a9, a10, .int 0]))]) [0] rfl
      have hDc := hD.sub (ws' := [(h0, .inr (10, [a0, a1, a2, a3, a4, a5, a6, a7, a8, a9, a10, .int 0]))]) [0] (by decide) rfl
      have hKc := hK.sub (tys' := []) [] rfl
      have hFc := va_free (wc := [(h0, .inr (10, [a0, a1, a2, a3, a4, a5, a6, a7, a8, a9, a10, .int 0]))]) hD hS hA [0] rfl
      refine va_calli (va_runV (As := [.int 4]) (rest := []) ⟨hx, hb, hml, hown, hts⟩ (k_X11_refuse l dC dI h0 a0 a1 a2 a3 a4 a5 a6 a7 a8 a9 a10 (.int 0) 4 H.size) (cwV 1 hts g_X11_floor_X11_refuse_71 rfl rfl rfl (by decide +kernel) ⟨Nat.le_of_ble_eq_true rfl, Nat.le_of_ble_eq_true rfl⟩) ⟨fun a U g mk q => by obtain ⟨q0, q1, qP, qK, qD, qN⟩ := q; exact ⟨q0, q1, qP, va_K.moved (u := U) (U := U.calling g mk a) (Vm.Alike.refl U.vm) qK, qD, nx_.same rfl qN⟩, va_recv hKc hPc (ci := 10) (q0 := 0) rfl rfl, fun U hU hW => ⟨rfl, by rw [hU], by rw [hU]; exact hPc, va_K.moved hW.alike hKc, hDc.weaken (fun _ _ _ _ => trivial), nx_.warm hW hNx⟩⟩ rfl rfl hl.1 rfl (lv_room (Nat.le_of_ble_eq_true rfl)) dX11_floor_33 ⟨Nat.le_of_ble_eq_true rfl, Nat.le_of_ble_eq_true rfl⟩) hS (fun q _ h => hFc q h) hFc (fun r_6 u t H1 locs ht hvm hw hB hz1 hk1 hS => ?_)
      try dsimp only at hw
      have hP1 : va_P (dC, dI) cls_ [] H1 := fun k q h => by simp at h
      have hD1 : va_D (va_A [(h0, .inr (10, [a0, a1, a2, a3, a4, a5, a6, a7, a8, a9, a10, .int 0]))] H.size) [] := ⟨fun i j p q h => by simp at h, fun k q h => by simp at h⟩
      obtain ⟨hP, hD⟩ := va_join (wr := []) (w1 := []) hP hD [0] [] rfl rfl (by decide) (by decide) hk1 hFc hP1 hD1
      generalize H1 = H at hP hS ⊢
      have hP : va_P (dC, dI) cls_ [] H := hP
      have hD : va_D A [] := hD
      refine W.widen (k := 0) (n := 0) (Nat.le_of_ble_eq_true rfl) (Nat.le_of_ble_eq_true rfl) ?_
      obtain rfl : ((-1) : Int32) = r_6 := Eq.symm hw
      refine W.widen (k := 0) (n := 0) (Nat.le_of_ble_eq_true rfl) (Nat.le_of_ble_eq_true rfl) ?_
      exact W.iret (v := (-1)) hx hb hr (fun t ht hW => ⟨⟨(-1), (), rfl, rfl, trivial⟩, hS.F ht⟩) hS.2.2 dX11_floor_36
    · refine lv_aload_n hx hb dX11_floor_11 rfl (lv_at hl 0 rfl) ?_
      refine lv_iconst (v := 2) hx hb dX11_floor_12 (by decide) ?_
      have hPc := hP.sub (ws' := [(h0, .inr (10, [a0, a1, a2, a3, a4, a5, a6, a7, a8, a9, a10, .int 0]))]) [0] rfl
      have hDc := hD.sub (ws' := [(h0, .inr (10, [a0, a1, a2, a3, a4, a5, a6, a7, a8, a9, a10, .int 0]))]) [0] (by decide) rfl
      have hKc := hK.sub (tys' := []) [] rfl
      have hFc := va_free (wc := [(h0, .inr (10, [a0, a1, a2, a3, a4, a5, a6, a7, a8, a9, a10, .int 0]))]) hD hS hA [0] rfl
      refine va_calli (va_runV (As := [.int 2]) (rest := []) ⟨hx, hb, hml, hown, hts⟩ (k_X11_refuse l dC dI h0 a0 a1 a2 a3 a4 a5 a6 a7 a8 a9 a10 (.int 0) 2 s.heap.size) (cwV 1 hts g_X11_floor_X11_refuse_71 rfl rfl rfl (by decide +kernel) ⟨Nat.le_of_ble_eq_true rfl, Nat.le_of_ble_eq_true rfl⟩) ⟨fun a U g mk q => by obtain ⟨q0, q1, qP, qK, qD, qN⟩ := q; exact ⟨q0, q1, qP, va_K.moved (u := U) (U := U.calling g mk a) (Vm.Alike.refl U.vm) qK, qD, nx_.same rfl qN⟩, va_recv hKc hPc (ci := 10) (q0 := 0) rfl rfl, fun U hU hW => ⟨rfl, by rw [hU], by rw [hU]; exact hPc, va_K.moved hW.alike hKc, hDc.weaken (fun _ _ _ _ => trivial), nx_.warm hW hNx⟩⟩ rfl rfl hl.1 rfl (lv_room (Nat.le_of_ble_eq_true rfl)) dX11_floor_13 ⟨Nat.le_of_ble_eq_true rfl, Nat.le_of_ble_eq_true rfl⟩) hS (fun q _ h => hFc q h) hFc (fun r_7 u t H1 locs ht hvm hw hB hz1 hk1 hS => ?_)
      try dsimp only at hw
      have hP1 : va_P (dC, dI) cls_ [] H1 := fun k q h => by simp at h
      have hD1 : va_D (va_A [(h0, .inr (10, [a0, a1, a2, a3, a4, a5, a6, a7, a8, a9, a10, .int 0]))] s.heap.size) [] := ⟨fun i j p q h => by simp at h, fun k q h => by simp at h⟩
      obtain ⟨hP, hD⟩ := va_join (wr := []) (w1 := []) hP hD [0] [] rfl rfl (by decide) (by decide) hk1 hFc hP1 hD1
      generalize H1 = H at hP hS ⊢
      have hP : va_P (dC, dI) cls_ [] H := hP
      have hD : va_D A [] := hD
      refine W.widen (k := 0) (n := 0) (Nat.le_of_ble_eq_true rfl) (Nat.le_of_ble_eq_true rfl) ?_
      obtain rfl : ((-1) : Int32) = r_7 := Eq.symm hw
      refine W.widen (k := 0) (n := 0) (Nat.le_of_ble_eq_true rfl) (Nat.le_of_ble_eq_true rfl) ?_
      exact W.iret (v := (-1)) hx hb hr (fun t ht hW => ⟨⟨(-1), (), rfl, rfl, trivial⟩, hS.F ht⟩) hS.2.2 dX11_floor_16

def w_X11_exact : List Cond := .code yX11_exact cX11_exact 6 (some .int) :: ([.fieldLink RX11 65 "RealSolver" "outcome" "I", .code yX11_refuse cX11_refuse 2 (some .int), .methodLink RX11 71 yX11_refuse, .instanceMethod yX11_refuse, .selects RX11 yX11_refuse yX11_refuse, .initialized RX11, .fieldLink RX11 75 "RealSolver" "solved" "Z", .code yX11_lackOfZeros cX11_lackOfZeros 1 (some .int), .methodLink RX11 171 yX11_lackOfZeros, .instanceMethod yX11_lackOfZeros, .selects RX11 yX11_lackOfZeros yX11_lackOfZeros, .code yX11_lackOfVariable cX11_lackOfVariable 4 (some .int), .methodLink RX11 202 yX11_lackOfVariable, .instanceMethod yX11_lackOfVariable, .selects RX11 yX11_lackOfVariable yX11_lackOfVariable, .code yX11_lackOfCoordinate cX11_lackOfCoordinate 4 (some .int), .methodLink RX11 226 yX11_lackOfCoordinate, .instanceMethod yX11_lackOfCoordinate, .selects RX11 yX11_lackOfCoordinate yX11_lackOfCoordinate] ++ (wsX110 ++ ([] : List Cond)))
theorem in_X11_exact_X11 : ∀ w ∈ wsX110, w ∈ w_X11_exact := fun _ h => List.mem_cons_of_mem _ (List.mem_append_right _ (List.mem_append_left _ h))
set_option maxRecDepth 20000 in
theorem g_X11_exact_X11_refuse_71 : GoodIn w_X11_exact (wsV RX11 71 RX11 yX11_refuse w_X11_refuse) := goodIn_r _ [3, 4, 5, 6, 2, 1, 20, 21, 22, 23, 24, 25, 26, 27, 28, 29, 30, 31] (by decide +kernel) (by decide +kernel)
set_option maxRecDepth 20000 in
theorem g_X11_exact_X11_lackOfCoordinate_226 : GoodIn w_X11_exact (wsV RX11 226 RX11 yX11_lackOfCoordinate w_X11_lackOfCoordinate) := goodIn_r _ [17, 18, 19, 6, 16, 7, 8, 9, 10, 11, 6, 12, 13, 14, 15, 20, 21, 22, 23, 24, 25, 26, 27, 28, 29, 30, 31] (by decide +kernel) (by decide +kernel)
set_option maxHeartbeats 4000000 in
set_option maxRecDepth 100000 in
theorem k_X11_exact (l : Launch) (dC : Nat → ClassId) (dI : Nat → Nat → Nat) (h0 : Nat) (a0 : Value) (a1 : Value) (a2 : Value) (a3 : Value) (a4 : Value) (a5 : Value) (a6 : Value) (a7 : Value) (a8 : Value) (a9 : Value) (a10 : Value) (v : Int32) (w : Int32) (k : Int32) (sz : Nat) : Met l yX11_exact w_X11_exact ({ frames := 3, cells := 0, slots := 0, locals := 66 }) (va_Pc [.ref h0, .int v, .int w, .int k] (fun U => U.heap.size = sz ∧ va_P (dC, dI) cls_ [(h0, .inr (10, [a0, a1, a2, a3, a4, a5, a6, a7, a8, a9, a10, .int 0]))] U.heap ∧ va_K (dC, dI) cls_ [] U ∧ va_D (fun _ => True) [(h0, .inr (10, [a0, a1, a2, a3, a4, a5, a6, a7, a8, a9, a10, .int 0]))] ∧ nx_ U)) (va_Qi (fun (r : Int32) (_ : Unit) => r = (-1)) (fun _ _ => True) (va_A [(h0, .inr (10, [a0, a1, a2, a3, a4, a5, a6, a7, a8, a9, a10, .int 0]))] sz)) 0 0 (va_A [(h0, .inr (10, [a0, a1, a2, a3, a4, a5, a6, a7, a8, a9, a10, .int 0]))] sz) := by
  refine Met.ofW (cc := cX11_exact) (maxL := 6) (ret := (some .int)) (by decide) rfl ?_
  intro p e s m args below meth c s₁ B hml hv
  obtain ⟨rfl, hsz, hP, hK, hD0, hNx⟩ := hv
  have hx := B.exec
  have hb := B.bytes
  have hr := B.returns
  have hts := atoms_spec (ws := w_X11_exact) B.pre
  have hown : s.vm.findClass RX11 = some m.cls := findClass_of_methodNamed B.named
  have hlocks := B.notSynchronized
  subst hsz
  have hD := hD0.self (sz := s.heap.size)
  generalize hAe : va_A [(h0, .inr (10, [a0, a1, a2, a3, a4, a5, a6, a7, a8, a9, a10, .int 0]))] s.heap.size = A at hD ⊢
  have hA : ∀ q : Nat, s.heap.size ≤ q → A q := fun q h => by rw [← hAe]; exact Or.inr h
  have hS : va_S A s.heap s.heap [] := va_S.rf
  have hP : va_P (dC, dI) cls_ [(h0, .inr (10, [a0, a1, a2, a3, a4, a5, a6, a7, a8, a9, a10, .int 0]))] s.heap := hP
  have hl := lv_entry ([.ref h0, .int v, .int w, .int k]) (n := 6) (Nat.le_of_ble_eq_true rfl)
  rw [lg_entry_eq]
  generalize (lg_sl ([.ref h0, .int v, .int w, .int k]) ++ List.replicate (6 - (lg_sl ([.ref h0, .int v, .int w, .int k])).length) Slot.unset).toArray = ls at hl ⊢
  have hl : lv_has ls 6 [(0, .ref h0), (1, .int v), (2, .int w), (3, .int k)] := hl
  refine lv_iload_n hx hb dX11_exact_0 rfl (lv_at hl 3 rfl) ?_
  refine lv_if_lt (tgt := 11) hx hb dX11_exact_1 (by decide) (fun c_1 => ?_) (fun c_1 => ?_)
  · refine lv_aload_n hx hb dX11_exact_11 rfl (lv_at hl 0 rfl) ?_
    refine lv_iconst (v := 2) hx hb dX11_exact_12 (by decide) ?_
    have hPc := hP.sub (ws' := [(h0, .inr (10, [a0, a1, a2, a3, a4, a5, a6, a7, a8, a9, a10, .int 0]))]) [0] rfl
    have hDc := hD.sub (ws' := [(h0, .inr (10, [a0, a1, a2, a3, a4, a5, a6, a7, a8, a9, a10, .int 0]))]) [0] (by decide) rfl
    have hKc := hK.sub (tys' := []) [] rfl
    have hFc := va_free (wc := [(h0, .inr (10, [a0, a1, a2, a3, a4, a5, a6, a7, a8, a9, a10, .int 0]))]) hD hS hA [0] rfl
    refine va_calli (va_runV (As := [.int 2]) (rest := []) ⟨hx, hb, hml, hown, hts⟩ (k_X11_refuse l dC dI h0 a0 a1 a2 a3 a4 a5 a6 a7 a8 a9 a10 (.int 0) 2 s.heap.size) (cwV 1 hts g_X11_exact_X11_refuse_71 rfl rfl rfl (by decide +kernel) ⟨Nat.le_of_ble_eq_true rfl, Nat.le_of_ble_eq_true rfl⟩) ⟨fun a U g mk q => by obtain ⟨q0, q1, qP, qK, qD, qN⟩ := q; exact ⟨q0, q1, qP, va_K.moved (u := U) (U := U.calling g mk a) (Vm.Alike.refl U.vm) qK, qD, nx_.same rfl qN⟩, va_recv hKc hPc (ci := 10) (q0 := 0) rfl rfl, fun U hU hW => ⟨rfl, by rw [hU], by rw [hU]; exact hPc, va_K.moved hW.alike hKc, hDc.weaken (fun _ _ _ _ => trivial), nx_.warm hW hNx⟩⟩ rfl rfl hl.1 rfl (lv_room (Nat.le_of_ble_eq_true rfl)) dX11_exact_13 ⟨Nat.le_of_ble_eq_true rfl, Nat.le_of_ble_eq_true rfl⟩) hS (fun q _ h => hFc q h) hFc (fun r_2 u t H1 locs ht hvm hw hB hz1 hk1 hS => ?_)
    try dsimp only at hw
    have hP1 : va_P (dC, dI) cls_ [] H1 := fun k q h => by simp at h
    have hD1 : va_D (va_A [(h0, .inr (10, [a0, a1, a2, a3, a4, a5, a6, a7, a8, a9, a10, .int 0]))] s.heap.size) [] := ⟨fun i j p q h => by simp at h, fun k q h => by simp at h⟩
    obtain ⟨hP, hD⟩ := va_join (wr := []) (w1 := []) hP hD [0] [] rfl rfl (by decide) (by decide) hk1 hFc hP1 hD1
    generalize H1 = H at hP hS ⊢
    have hP : va_P (dC, dI) cls_ [] H := hP
    have hD : va_D A [] := hD
    refine W.widen (k := 0) (n := 0) (Nat.le_of_ble_eq_true rfl) (Nat.le_of_ble_eq_true rfl) ?_
    obtain rfl : ((-1) : Int32) = r_2 := Eq.symm hw
    refine W.widen (k := 0) (n := 0) (Nat.le_of_ble_eq_true rfl) (Nat.le_of_ble_eq_true rfl) ?_
    exact W.iret (v := (-1)) hx hb hr (fun t ht hW => ⟨⟨(-1), (), rfl, rfl, trivial⟩, hS.F ht⟩) hS.2.2 dX11_exact_16
  · refine lv_iload_n hx hb dX11_exact_4 rfl (lv_at hl 3 rfl) ?_
    refine lv_sipush (v := 128) hx hb dX11_exact_5 (by decide) ?_
    refine lv_icmp_le (tgt := 17) hx hb dX11_exact_8 (by decide) (fun c_3 => ?_) (fun c_3 => ?_)
    · refine lv_aload_n hx hb dX11_exact_17 rfl (lv_at hl 0 rfl) ?_
      refine lv_iload_n hx hb dX11_exact_18 rfl (lv_at hl 1 rfl) ?_
      refine lv_iload_n hx hb dX11_exact_19 rfl (lv_at hl 2 rfl) ?_
      have hPc := hP.sub (ws' := [(h0, .inr (10, [a0, a1, a2, a3, a4, a5, a6, a7, a8, a9, a10, .int 0]))]) [0] rfl
      have hDc := hD.sub (ws' := [(h0, .inr (10, [a0, a1, a2, a3, a4, a5, a6, a7, a8, a9, a10, .int 0]))]) [0] (by decide) rfl
      have hKc := hK.sub (tys' := []) [] rfl
      have hFc := va_free (wc := [(h0, .inr (10, [a0, a1, a2, a3, a4, a5, a6, a7, a8, a9, a10, .int 0]))]) hD hS hA [0] rfl
      refine va_calli (va_runV (As := [.int v, .int w]) (rest := []) ⟨hx, hb, hml, hown, hts⟩ (k_X11_lackOfCoordinate l dC dI h0 a0 a1 a2 a3 a4 a5 a6 a7 a8 a9 a10 v w s.heap.size) (cwV 2 hts g_X11_exact_X11_lackOfCoordinate_226 rfl rfl rfl (by decide +kernel) ⟨Nat.le_of_ble_eq_true rfl, Nat.le_of_ble_eq_true rfl⟩) ⟨fun a U g mk q => by obtain ⟨q0, q1, qP, qK, qD, qN⟩ := q; exact ⟨q0, q1, qP, va_K.moved (u := U) (U := U.calling g mk a) (Vm.Alike.refl U.vm) qK, qD, nx_.same rfl qN⟩, va_recv hKc hPc (ci := 10) (q0 := 0) rfl rfl, fun U hU hW => ⟨rfl, by rw [hU], by rw [hU]; exact hPc, va_K.moved hW.alike hKc, hDc.weaken (fun _ _ _ _ => trivial), nx_.warm hW hNx⟩⟩ rfl rfl hl.1 rfl (lv_room (Nat.le_of_ble_eq_true rfl)) dX11_exact_20 ⟨Nat.le_of_ble_eq_true rfl, Nat.le_of_ble_eq_true rfl⟩) hS (fun q _ h => hFc q h) hFc (fun r_4 u t H1 locs ht hvm hw hB hz1 hk1 hS => ?_)
      try dsimp only at hw
      obtain ⟨hP1, hK1, hD1⟩ := hB
      rw [ht] at hP1
      obtain ⟨hP, hD⟩ := va_join (wr := []) (w1 := [(h0, .inr (10, [a0, a1, a2, a3, a4, a5, a6, a7, a8, a9, a10, .int 0]))]) hP hD [0] [] rfl rfl (by decide) (by decide) hk1 hFc hP1 hD1
      generalize H1 = H at hP hS ⊢
      have hP : va_P (dC, dI) cls_ [(h0, .inr (10, [a0, a1, a2, a3, a4, a5, a6, a7, a8, a9, a10, .int 0]))] H := hP
      have hD : va_D A [(h0, .inr (10, [a0, a1, a2, a3, a4, a5, a6, a7, a8, a9, a10, .int 0]))] := hD
      refine W.widen (k := 0) (n := 0) (Nat.le_of_ble_eq_true rfl) (Nat.le_of_ble_eq_true rfl) ?_
      obtain rfl : (4 : Int32) = r_4 := Eq.symm hw
      refine lv_istore (lv' := [(4, .int 4), (0, .ref h0), (1, .int v), (2, .int w), (3, .int k)]) hx hb dX11_exact_23 hl (by decide) rfl (fun ls hl => ?_)
      refine lv_iload hx hb dX11_exact_25 (lv_at hl 0 rfl) ?_
      refine lv_if_eq (tgt := 37) hx hb dX11_exact_27 (by decide) (fun c_5 => absurd c_5 (by decide)) (fun c_5 => ?_)
      refine lv_aload_n hx hb dX11_exact_30 rfl (lv_at hl 1 rfl) ?_
      refine lv_iload hx hb dX11_exact_31 (lv_at hl 0 rfl) ?_
      have hPc := hP.sub (ws' := [(h0, .inr (10, [a0, a1, a2, a3, a4, a5, a6, a7, a8, a9, a10, .int 0]))]) [0] rfl
      have hDc := hD.sub (ws' := [(h0, .inr (10, [a0, a1, a2, a3, a4, a5, a6, a7, a8, a9, a10, .int 0]))]) [0] (by decide) rfl
      have hKc := hK.sub (tys' := []) [] rfl
      have hFc := va_free (wc := [(h0, .inr (10, [a0, a1, a2, a3, a4, a5, a6, a7, a8, a9, a10, .int 0]))]) hD hS hA [0] rfl
      refine va_calli (va_runV (As := [.int 4]) (rest := []) ⟨hx, hb, hml, hown, hts⟩ (k_X11_refuse l dC dI h0 a0 a1 a2 a3 a4 a5 a6 a7 a8 a9 a10 (.int 0) 4 H.size) (cwV 1 hts g_X11_exact_X11_refuse_71 rfl rfl rfl (by decide +kernel) ⟨Nat.le_of_ble_eq_true rfl, Nat.le_of_ble_eq_true rfl⟩) ⟨fun a U g mk q => by obtain ⟨q0, q1, qP, qK, qD, qN⟩ := q; exact ⟨q0, q1, qP, va_K.moved (u := U) (U := U.calling g mk a) (Vm.Alike.refl U.vm) qK, qD, nx_.same rfl qN⟩, va_recv hKc hPc (ci := 10) (q0 := 0) rfl rfl, fun U hU hW => ⟨rfl, by rw [hU], by rw [hU]; exact hPc, va_K.moved hW.alike hKc, hDc.weaken (fun _ _ _ _ => trivial), nx_.warm hW hNx⟩⟩ rfl rfl hl.1 rfl (lv_room (Nat.le_of_ble_eq_true rfl)) dX11_exact_33 ⟨Nat.le_of_ble_eq_true rfl, Nat.le_of_ble_eq_true rfl⟩) hS (fun q _ h => hFc q h) hFc (fun r_6 u t H1 locs ht hvm hw hB hz1 hk1 hS => ?_)
      try dsimp only at hw
      have hP1 : va_P (dC, dI) cls_ [] H1 := fun k q h => by simp at h
      have hD1 : va_D (va_A [(h0, .inr (10, [a0, a1, a2, a3, a4, a5, a6, a7, a8, a9, a10, .int 0]))] H.size) [] := ⟨fun i j p q h => by simp at h, fun k q h => by simp at h⟩
      obtain ⟨hP, hD⟩ := va_join (wr := []) (w1 := []) hP hD [0] [] rfl rfl (by decide) (by decide) hk1 hFc hP1 hD1
      generalize H1 = H at hP hS ⊢
      have hP : va_P (dC, dI) cls_ [] H := hP
      have hD : va_D A [] := hD
      refine W.widen (k := 0) (n := 0) (Nat.le_of_ble_eq_true rfl) (Nat.le_of_ble_eq_true rfl) ?_
      obtain rfl : ((-1) : Int32) = r_6 := Eq.symm hw
      refine W.widen (k := 0) (n := 0) (Nat.le_of_ble_eq_true rfl) (Nat.le_of_ble_eq_true rfl) ?_
      exact W.iret (v := (-1)) hx hb hr (fun t ht hW => ⟨⟨(-1), (), rfl, rfl, trivial⟩, hS.F ht⟩) hS.2.2 dX11_exact_36
    · refine lv_aload_n hx hb dX11_exact_11 rfl (lv_at hl 0 rfl) ?_
      refine lv_iconst (v := 2) hx hb dX11_exact_12 (by decide) ?_
      have hPc := hP.sub (ws' := [(h0, .inr (10, [a0, a1, a2, a3, a4, a5, a6, a7, a8, a9, a10, .int 0]))]) [0] rfl
      have hDc := hD.sub (ws' := [(h0, .inr (10, [a0, a1, a2, a3, a4, a5, a6, a7, a8, a9, a10, .int 0]))]) [0] (by decide) rfl
      have hKc := hK.sub (tys' := []) [] rfl
      have hFc := va_free (wc := [(h0, .inr (10, [a0, a1, a2, a3, a4, a5, a6, a7, a8, a9, a10, .int 0]))]) hD hS hA [0] rfl
      refine va_calli (va_runV (As := [.int 2]) (rest := []) ⟨hx, hb, hml, hown, hts⟩ (k_X11_refuse l dC dI h0 a0 a1 a2 a3 a4 a5 a6 a7 a8 a9 a10 (.int 0) 2 s.heap.size) (cwV 1 hts g_X11_exact_X11_refuse_71 rfl rfl rfl (by decide +kernel) ⟨Nat.le_of_ble_eq_true rfl, Nat.le_of_ble_eq_true rfl⟩) ⟨fun a U g mk q => by obtain ⟨q0, q1, qP, qK, qD, qN⟩ := q; exact ⟨q0, q1, qP, va_K.moved (u := U) (U := U.calling g mk a) (Vm.Alike.refl U.vm) qK, qD, nx_.same rfl qN⟩, va_recv hKc hPc (ci := 10) (q0 := 0) rfl rfl, fun U hU hW => ⟨rfl, by rw [hU], by rw [hU]; exact hPc, va_K.moved hW.alike hKc, hDc.weaken (fun _ _ _ _ => trivial), nx_.warm hW hNx⟩⟩ rfl rfl hl.1 rfl (lv_room (Nat.le_of_ble_eq_true rfl)) dX11_exact_13 ⟨Nat.le_of_ble_eq_true rfl, Nat.le_of_ble_eq_true rfl⟩) hS (fun q _ h => hFc q h) hFc (fun r_7 u t H1 locs ht hvm hw hB hz1 hk1 hS => ?_)
      try dsimp only at hw
      have hP1 : va_P (dC, dI) cls_ [] H1 := fun k q h => by simp at h
      have hD1 : va_D (va_A [(h0, .inr (10, [a0, a1, a2, a3, a4, a5, a6, a7, a8, a9, a10, .int 0]))] s.heap.size) [] := ⟨fun i j p q h => by simp at h, fun k q h => by simp at h⟩
      obtain ⟨hP, hD⟩ := va_join (wr := []) (w1 := []) hP hD [0] [] rfl rfl (by decide) (by decide) hk1 hFc hP1 hD1
      generalize H1 = H at hP hS ⊢
      have hP : va_P (dC, dI) cls_ [] H := hP
      have hD : va_D A [] := hD
      refine W.widen (k := 0) (n := 0) (Nat.le_of_ble_eq_true rfl) (Nat.le_of_ble_eq_true rfl) ?_
      obtain rfl : ((-1) : Int32) = r_7 := Eq.symm hw
      refine W.widen (k := 0) (n := 0) (Nat.le_of_ble_eq_true rfl) (Nat.le_of_ble_eq_true rfl) ?_
      exact W.iret (v := (-1)) hx hb hr (fun t ht hW => ⟨⟨(-1), (), rfl, rfl, trivial⟩, hS.F ht⟩) hS.2.2 dX11_exact_16
